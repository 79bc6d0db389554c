/-! InterRequest's calls that make nothing -/
set_option maxHeartbeats 4000000 in
set_option maxRecDepth 100000 in
theorem c_I_take (l : Launch) (dC : Nat → ClassId) (dI : Nat → Nat → Nat) (dA : Nat → ClassId) (z : Nat) (M0 M : gM) (o ar : Nat) (ra sa : Nat → Nat) (la : Nat → Nat → Nat) (hs lt lw : Int32) (cn : Nat) (σ : Nat → Rq) (hR : cW dA M0 M o ar ra sa la hs lt lw cn σ) (k i : Nat) (hk : k < cn) (hi8 : i < (σ k).2.2.1) (kind v t : Int32) : gMv l dC dI dA z y_I_take b_I_take 5 (Option.none : Option FieldType) ⟨2, 0, 0, 45⟩ [.ref (ra k), .ref (la k i), .int kind, .int v, .int t] M (fun M1 => cW dA M0 M1 o ar ra sa la hs lt lw cn (va_up σ k (qtake (σ k) i kind v t))) 0 0 := by
  refine gOfW (by decide) (Nat.le_of_ble_eq_true rfl) ?_
  intro p e s m below meth c ls hF hr hlocks hnm hKA hB hl
  obtain ⟨hx, hb, hml, hown, hts⟩ := id hF
  have hK := hKA.1
  have hl : lv_has ls 5 [(0, .ref (ra k)), (1, .ref (la k i)), (2, .int kind), (3, .int v), (4, .int t)] := hl
  obtain ⟨⟨h, it, n, st, ho, db, du, fa, en, lf⟩, hq⟩ : ∃ q, σ k = q := ⟨_, rfl⟩
  have hq0 := hq
  have hi9 : i < n := by rw [hq] at hi8; exact hi8
  refine lv_iload_n hx hb dI_take_0 rfl (lv_at hl 2 rfl) ?_
  by_cases s1_1 : kind = 1
  · refine lv_tableIn (tgt := 36) hx hb dI_take_1 (by rw [s1_1]; decide) (by rw [s1_1]; decide) (by rw [s1_1]; rfl) (by decide) ?_
    refine lv_aload_n hx hb dI_take_36 rfl (lv_at hl 1 rfl) ?_
    refine lv_iconst (v := 3) hx hb dI_take_37 (by decide) ?_
    refine gg_put (ty := .int) (v := .int 3) hx hb hts in_L t_L t_L_ok n_L hown hK hB (hR.l hk hq hi9 rfl) rfl 1 (by decide) k_122 rfl rfl (by decide +kernel) rfl rfl (Nat.le_of_ble_eq_true rfl) dI_take_38 (fun H locs hB => ?_)
    have hR := hR.setl hk hq hi9 ((lf i).1, 3, (lf i).2.2.1, (lf i).2.2.2)
    have hq : va_up σ k (h, it, n, st, ho, db, du, fa, en, va_up lf i ((lf i).1, 3, (lf i).2.2.1, (lf i).2.2.2)) k = (h, it, n, st, ho, db, du, fa, en, va_up lf i ((lf i).1, 3, (lf i).2.2.1, (lf i).2.2.2)) := va_up_self _ _ _
    have hB : gB (dC, dI) gcl z (gU M (la k i) (oL ((lf i).1, 3, (lf i).2.2.1, (lf i).2.2.2))) s.heap H locs := hB
    generalize gU M (la k i) (oL ((lf i).1, 3, (lf i).2.2.1, (lf i).2.2.2)) = M at hB hR
    refine lv_goto (tgt := 106) hx hb dI_take_41 (by decide) ?_
    exact gg_vret hx hb hr hlocks hKA hB dI_take_106 (by decide) (by decide) (show cW dA M0 _ o ar ra sa la hs lt lw cn (va_up σ k (qtake (σ k) i kind v t)) from by rw [show qtake (σ k) i kind v t = (h, it, n, st, ho, db, du, fa, en, va_up lf i ((lf i).1, 3, (lf i).2.2.1, (lf i).2.2.2)) from by simp [qtake, lset, hq0, s1_1]]; exact hR)
  by_cases s1_2 : kind = 2
  · refine lv_tableIn (tgt := 44) hx hb dI_take_1 (by rw [s1_2]; decide) (by rw [s1_2]; decide) (by rw [s1_2]; rfl) (by decide) ?_
    refine lv_aload_n hx hb dI_take_44 rfl (lv_at hl 1 rfl) ?_
    refine lv_bipush (v := 6) hx hb dI_take_45 (by decide) ?_
    refine gg_put (ty := .int) (v := .int 6) hx hb hts in_L t_L t_L_ok n_L hown hK hB (hR.l hk hq hi9 rfl) rfl 1 (by decide) k_122 rfl rfl (by decide +kernel) rfl rfl (Nat.le_of_ble_eq_true rfl) dI_take_47 (fun H locs hB => ?_)
    have hR := hR.setl hk hq hi9 ((lf i).1, 6, (lf i).2.2.1, (lf i).2.2.2)
    have hq : va_up σ k (h, it, n, st, ho, db, du, fa, en, va_up lf i ((lf i).1, 6, (lf i).2.2.1, (lf i).2.2.2)) k = (h, it, n, st, ho, db, du, fa, en, va_up lf i ((lf i).1, 6, (lf i).2.2.1, (lf i).2.2.2)) := va_up_self _ _ _
    have hB : gB (dC, dI) gcl z (gU M (la k i) (oL ((lf i).1, 6, (lf i).2.2.1, (lf i).2.2.2))) s.heap H locs := hB
    generalize gU M (la k i) (oL ((lf i).1, 6, (lf i).2.2.1, (lf i).2.2.2)) = M at hB hR
    refine lv_aload_n hx hb dI_take_50 rfl (lv_at hl 0 rfl) ?_
    refine lv_iload hx hb dI_take_51 (lv_at hl 4 rfl) ?_
    refine gEndv (gRunV hF (c_Q_askNext l dC dI dA z M0 M o ar ra sa la hs lt lw cn _ hR k hk t) ln_I_74 hKA hB (hR.q hk hq) rfl rfl hl.1 rfl (Nat.le_of_ble_eq_true rfl) dI_take_53 ⟨rfl, rfl, (Nat.le_of_ble_eq_true rfl), (Nat.le_of_ble_eq_true rfl)⟩ ⟨(Nat.le_of_ble_eq_true rfl), (Nat.le_of_ble_eq_true rfl)⟩) hB (fun M1 H locs hp hB => ?_)
    rw [hq, bx_uu] at hp
    have hR := hp
    generalize M1 = M at hB hR
    refine lv_goto (tgt := 106) hx hb dI_take_56 (by decide) ?_
    exact gg_vret hx hb hr hlocks hKA hB dI_take_106 (by decide) (by decide) (show cW dA M0 _ o ar ra sa la hs lt lw cn (va_up σ k (qtake (σ k) i kind v t)) from by rw [show qtake (σ k) i kind v t = (qask (h, it, n, st, ho, db, du, fa, en, va_up lf i ((lf i).1, 6, (lf i).2.2.1, (lf i).2.2.2)) t) from by simp [qtake, lset, hq0, s1_2]]; exact hR)
  by_cases s1_3 : kind = 3
  · refine lv_tableIn (tgt := 59) hx hb dI_take_1 (by rw [s1_3]; decide) (by rw [s1_3]; decide) (by rw [s1_3]; rfl) (by decide) ?_
    refine lv_aload_n hx hb dI_take_59 rfl (lv_at hl 1 rfl) ?_
    refine lv_iconst (v := 2) hx hb dI_take_60 (by decide) ?_
    refine gg_put (ty := .int) (v := .int 2) hx hb hts in_L t_L t_L_ok n_L hown hK hB (hR.l hk hq hi9 rfl) rfl 1 (by decide) k_122 rfl rfl (by decide +kernel) rfl rfl (Nat.le_of_ble_eq_true rfl) dI_take_61 (fun H locs hB => ?_)
    have hR := hR.setl hk hq hi9 ((lf i).1, 2, (lf i).2.2.1, (lf i).2.2.2)
    have hq : va_up σ k (h, it, n, st, ho, db, du, fa, en, va_up lf i ((lf i).1, 2, (lf i).2.2.1, (lf i).2.2.2)) k = (h, it, n, st, ho, db, du, fa, en, va_up lf i ((lf i).1, 2, (lf i).2.2.1, (lf i).2.2.2)) := va_up_self _ _ _
    have hB : gB (dC, dI) gcl z (gU M (la k i) (oL ((lf i).1, 2, (lf i).2.2.1, (lf i).2.2.2))) s.heap H locs := hB
    generalize gU M (la k i) (oL ((lf i).1, 2, (lf i).2.2.1, (lf i).2.2.2)) = M at hB hR
    refine lv_aload_n hx hb dI_take_64 rfl (lv_at hl 0 rfl) ?_
    refine lv_iconst (v := 2) hx hb dI_take_65 (by decide) ?_
    refine gg_put (ty := .int) (v := .int 2) hx hb hts in_Q t_Q t_Q_ok n_Q hown hK hB (hR.q hk hq) rfl 4 (by decide) k_67 rfl rfl (by decide +kernel) rfl rfl (Nat.le_of_ble_eq_true rfl) dI_take_66 (fun H locs hB => ?_)
    have hR := hR.setq hk hq (h, it, n, 2, ho, db, du, fa, en, va_up lf i ((lf i).1, 2, (lf i).2.2.1, (lf i).2.2.2)) rfl rfl (fun i9 hi9 => hR.ho hk hq i9 hi9)
    simp only [bx_uu] at hR
    have hq : va_up σ k (h, it, n, 2, ho, db, du, fa, en, va_up lf i ((lf i).1, 2, (lf i).2.2.1, (lf i).2.2.2)) k = (h, it, n, 2, ho, db, du, fa, en, va_up lf i ((lf i).1, 2, (lf i).2.2.1, (lf i).2.2.2)) := va_up_self _ _ _
    have hB : gB (dC, dI) gcl z (gU M (ra k) (oQ (h, it, n, 2, ho, db, du, fa, en, va_up lf i ((lf i).1, 2, (lf i).2.2.1, (lf i).2.2.2)) (sa k) (la k))) s.heap H locs := hB
    generalize gU M (ra k) (oQ (h, it, n, 2, ho, db, du, fa, en, va_up lf i ((lf i).1, 2, (lf i).2.2.1, (lf i).2.2.2)) (sa k) (la k)) = M at hB hR
    refine lv_goto (tgt := 106) hx hb dI_take_69 (by decide) ?_
    exact gg_vret hx hb hr hlocks hKA hB dI_take_106 (by decide) (by decide) (show cW dA M0 _ o ar ra sa la hs lt lw cn (va_up σ k (qtake (σ k) i kind v t)) from by rw [show qtake (σ k) i kind v t = (h, it, n, 2, ho, db, du, fa, en, va_up lf i ((lf i).1, 2, (lf i).2.2.1, (lf i).2.2.2)) from by simp [qtake, lset, hq0, s1_3]]; exact hR)
  by_cases s1_4 : kind = 4
  · refine lv_tableIn (tgt := 72) hx hb dI_take_1 (by rw [s1_4]; decide) (by rw [s1_4]; decide) (by rw [s1_4]; rfl) (by decide) ?_
    refine lv_aload_n hx hb dI_take_72 rfl (lv_at hl 1 rfl) ?_
    refine lv_iconst (v := 4) hx hb dI_take_73 (by decide) ?_
    refine gg_put (ty := .int) (v := .int 4) hx hb hts in_L t_L t_L_ok n_L hown hK hB (hR.l hk hq hi9 rfl) rfl 1 (by decide) k_122 rfl rfl (by decide +kernel) rfl rfl (Nat.le_of_ble_eq_true rfl) dI_take_74 (fun H locs hB => ?_)
    have hR := hR.setl hk hq hi9 ((lf i).1, 4, (lf i).2.2.1, (lf i).2.2.2)
    have hq : va_up σ k (h, it, n, st, ho, db, du, fa, en, va_up lf i ((lf i).1, 4, (lf i).2.2.1, (lf i).2.2.2)) k = (h, it, n, st, ho, db, du, fa, en, va_up lf i ((lf i).1, 4, (lf i).2.2.1, (lf i).2.2.2)) := va_up_self _ _ _
    have hB : gB (dC, dI) gcl z (gU M (la k i) (oL ((lf i).1, 4, (lf i).2.2.1, (lf i).2.2.2))) s.heap H locs := hB
    generalize gU M (la k i) (oL ((lf i).1, 4, (lf i).2.2.1, (lf i).2.2.2)) = M at hB hR
    refine lv_aload_n hx hb dI_take_77 rfl (lv_at hl 0 rfl) ?_
    refine lv_iconst (v := 3) hx hb dI_take_78 (by decide) ?_
    refine gg_put (ty := .int) (v := .int 3) hx hb hts in_Q t_Q t_Q_ok n_Q hown hK hB (hR.q hk hq) rfl 4 (by decide) k_67 rfl rfl (by decide +kernel) rfl rfl (Nat.le_of_ble_eq_true rfl) dI_take_79 (fun H locs hB => ?_)
    have hR := hR.setq hk hq (h, it, n, 3, ho, db, du, fa, en, va_up lf i ((lf i).1, 4, (lf i).2.2.1, (lf i).2.2.2)) rfl rfl (fun i9 hi9 => hR.ho hk hq i9 hi9)
    simp only [bx_uu] at hR
    have hq : va_up σ k (h, it, n, 3, ho, db, du, fa, en, va_up lf i ((lf i).1, 4, (lf i).2.2.1, (lf i).2.2.2)) k = (h, it, n, 3, ho, db, du, fa, en, va_up lf i ((lf i).1, 4, (lf i).2.2.1, (lf i).2.2.2)) := va_up_self _ _ _
    have hB : gB (dC, dI) gcl z (gU M (ra k) (oQ (h, it, n, 3, ho, db, du, fa, en, va_up lf i ((lf i).1, 4, (lf i).2.2.1, (lf i).2.2.2)) (sa k) (la k))) s.heap H locs := hB
    generalize gU M (ra k) (oQ (h, it, n, 3, ho, db, du, fa, en, va_up lf i ((lf i).1, 4, (lf i).2.2.1, (lf i).2.2.2)) (sa k) (la k)) = M at hB hR
    refine lv_aload_n hx hb dI_take_82 rfl (lv_at hl 0 rfl) ?_
    refine lv_iload_n hx hb dI_take_83 rfl (lv_at hl 3 rfl) ?_
    refine gg_put (ty := .int) (v := .int v) hx hb hts in_Q t_Q t_Q_ok n_Q hown hK hB (hR.q hk hq) rfl 7 (by decide) k_73 rfl rfl (by decide +kernel) rfl rfl (Nat.le_of_ble_eq_true rfl) dI_take_84 (fun H locs hB => ?_)
    have hR := hR.setq hk hq (h, it, n, 3, ho, db, v, fa, en, va_up lf i ((lf i).1, 4, (lf i).2.2.1, (lf i).2.2.2)) rfl rfl (fun i9 hi9 => hR.ho hk hq i9 hi9)
    simp only [bx_uu] at hR
    have hq : va_up σ k (h, it, n, 3, ho, db, v, fa, en, va_up lf i ((lf i).1, 4, (lf i).2.2.1, (lf i).2.2.2)) k = (h, it, n, 3, ho, db, v, fa, en, va_up lf i ((lf i).1, 4, (lf i).2.2.1, (lf i).2.2.2)) := va_up_self _ _ _
    have hB : gB (dC, dI) gcl z (gU M (ra k) (oQ (h, it, n, 3, ho, db, v, fa, en, va_up lf i ((lf i).1, 4, (lf i).2.2.1, (lf i).2.2.2)) (sa k) (la k))) s.heap H locs := hB
    generalize gU M (ra k) (oQ (h, it, n, 3, ho, db, v, fa, en, va_up lf i ((lf i).1, 4, (lf i).2.2.1, (lf i).2.2.2)) (sa k) (la k)) = M at hB hR
    refine lv_goto (tgt := 106) hx hb dI_take_87 (by decide) ?_
    exact gg_vret hx hb hr hlocks hKA hB dI_take_106 (by decide) (by decide) (show cW dA M0 _ o ar ra sa la hs lt lw cn (va_up σ k (qtake (σ k) i kind v t)) from by rw [show qtake (σ k) i kind v t = (h, it, n, 3, ho, db, v, fa, en, va_up lf i ((lf i).1, 4, (lf i).2.2.1, (lf i).2.2.2)) from by simp [qtake, lset, hq0, s1_4]]; exact hR)
  by_cases s1_5 : kind = 5
  · refine lv_tableIn (tgt := 90) hx hb dI_take_1 (by rw [s1_5]; decide) (by rw [s1_5]; decide) (by rw [s1_5]; rfl) (by decide) ?_
    refine lv_aload_n hx hb dI_take_90 rfl (lv_at hl 1 rfl) ?_
    refine lv_iconst (v := 5) hx hb dI_take_91 (by decide) ?_
    refine gg_put (ty := .int) (v := .int 5) hx hb hts in_L t_L t_L_ok n_L hown hK hB (hR.l hk hq hi9 rfl) rfl 1 (by decide) k_122 rfl rfl (by decide +kernel) rfl rfl (Nat.le_of_ble_eq_true rfl) dI_take_92 (fun H locs hB => ?_)
    have hR := hR.setl hk hq hi9 ((lf i).1, 5, (lf i).2.2.1, (lf i).2.2.2)
    have hq : va_up σ k (h, it, n, st, ho, db, du, fa, en, va_up lf i ((lf i).1, 5, (lf i).2.2.1, (lf i).2.2.2)) k = (h, it, n, st, ho, db, du, fa, en, va_up lf i ((lf i).1, 5, (lf i).2.2.1, (lf i).2.2.2)) := va_up_self _ _ _
    have hB : gB (dC, dI) gcl z (gU M (la k i) (oL ((lf i).1, 5, (lf i).2.2.1, (lf i).2.2.2))) s.heap H locs := hB
    generalize gU M (la k i) (oL ((lf i).1, 5, (lf i).2.2.1, (lf i).2.2.2)) = M at hB hR
    refine lv_aload_n hx hb dI_take_95 rfl (lv_at hl 0 rfl) ?_
    refine lv_bipush (v := 6) hx hb dI_take_96 (by decide) ?_
    refine lv_iload hx hb dI_take_98 (lv_at hl 4 rfl) ?_
    refine gEndv (gRunV hF (c_Q_end l dC dI dA z M (ra k) (sa k) (la k) h it n st ho db du fa en (va_up lf i ((lf i).1, 5, (lf i).2.2.1, (lf i).2.2.2)) (hR.q hk hq) 6 t) ln_I_117 hKA hB (hR.q hk hq) rfl rfl hl.1 rfl (Nat.le_of_ble_eq_true rfl) dI_take_100 ⟨rfl, rfl, (Nat.le_of_ble_eq_true rfl), (Nat.le_of_ble_eq_true rfl)⟩ ⟨(Nat.le_of_ble_eq_true rfl), (Nat.le_of_ble_eq_true rfl)⟩) hB (fun M1 H locs hp hB => ?_)
    subst hp
    have hR := hR.setq hk hq (h, it, n, 6, ho, db, du, fa, t, va_up lf i ((lf i).1, 5, (lf i).2.2.1, (lf i).2.2.2)) rfl rfl (fun i9 hi9 => hR.ho hk hq i9 hi9)
    simp only [bx_uu] at hR
    have hq : va_up σ k (h, it, n, 6, ho, db, du, fa, t, va_up lf i ((lf i).1, 5, (lf i).2.2.1, (lf i).2.2.2)) k = (h, it, n, 6, ho, db, du, fa, t, va_up lf i ((lf i).1, 5, (lf i).2.2.1, (lf i).2.2.2)) := va_up_self _ _ _
    generalize gU M (ra k) (oQ (h, it, n, 6, ho, db, du, fa, t, va_up lf i ((lf i).1, 5, (lf i).2.2.1, (lf i).2.2.2)) (sa k) (la k)) = M at hB hR
    refine lv_goto (tgt := 106) hx hb dI_take_103 (by decide) ?_
    exact gg_vret hx hb hr hlocks hKA hB dI_take_106 (by decide) (by decide) (show cW dA M0 _ o ar ra sa la hs lt lw cn (va_up σ k (qtake (σ k) i kind v t)) from by rw [show qtake (σ k) i kind v t = (h, it, n, 6, ho, db, du, fa, t, va_up lf i ((lf i).1, 5, (lf i).2.2.1, (lf i).2.2.2)) from by simp [qtake, lset, hq0, s1_5]]; exact hR)
  · refine lv_tableOut (tgt := 106) hx hb dI_take_1 (by have := lv_neT s1_1 (a := 1) (by decide); have := lv_neT s1_2 (a := 2) (by decide); have := lv_neT s1_3 (a := 3) (by decide); have := lv_neT s1_4 (a := 4) (by decide); have := lv_neT s1_5 (a := 5) (by decide); omega) (by decide) ?_
    exact gg_vret hx hb hr hlocks hKA hB dI_take_106 (by decide) (by decide) (show cW dA M0 _ o ar ra sa la hs lt lw cn (va_up σ k (qtake (σ k) i kind v t)) from by rw [show qtake (σ k) i kind v t = σ k from by simp [qtake, lset, hq0, s1_1, s1_2, s1_3, s1_4, s1_5], va_up_id]; exact hR)
set_option maxHeartbeats 4000000 in
set_option maxRecDepth 100000 in
theorem c_I_received (l : Launch) (dC : Nat → ClassId) (dI : Nat → Nat → Nat) (dA : Nat → ClassId) (z : Nat) (M0 M : gM) (o ar : Nat) (ra sa : Nat → Nat) (la : Nat → Nat → Nat) (hs lt lw : Int32) (cn : Nat) (σ : Nat → Rq) (hR : cW dA M0 M o ar ra sa la hs lt lw cn σ) (r t : Int32) : gMi l dC dI dA z y_I_received b_I_received 4 (Option.some FieldType.int) ⟨1, 0, 0, 21⟩ [.ref o, .int r, .int t] M (cP dA M0 o ar ra sa la hs (sRec hs lt lw cn σ r t)) 0 0 := by
  refine gOfW (by decide) (Nat.le_of_ble_eq_true rfl) ?_
  intro p e s m below meth c ls hF hr hlocks hnm hKA hB hl
  obtain ⟨hx, hb, hml, hown, hts⟩ := id hF
  have hK := hKA.1
  have hl : lv_has ls 4 [(0, .ref o), (1, .int r), (2, .int t)] := hl
  refine lv_aload_n hx hb dI_received_0 rfl (lv_at hl 0 rfl) ?_
  refine lv_iload_n hx hb dI_received_1 rfl (lv_at hl 1 rfl) ?_
  refine gEndq (gRunV hF (c_I_find l dC dI dA z M0 M o ar ra sa la hs lt lw cn σ hR r) ln_I_46 hKA hB hR.top rfl rfl hl.1 rfl (Nat.le_of_ble_eq_true rfl) dI_received_2 ⟨rfl, rfl, (Nat.le_of_ble_eq_true rfl), (Nat.le_of_ble_eq_true rfl)⟩ ⟨(Nat.le_of_ble_eq_true rfl), (Nat.le_of_ble_eq_true rfl)⟩) hB (fun y M1 H locs hp hB => ?_)
  obtain ⟨e1, e2⟩ := hp
  rw [e1] at hB
  cases hi : ix cn r with
  | none =>
    have e2 : y = none := by rw [e2, hi]; rfl
    subst e2
    refine lv_astore_nN (lv' := [(3, .null), (0, .ref o), (1, .int r), (2, .int t)]) hx hb dI_received_5 rfl hl (by decide) rfl (fun ls hl => ?_)
    refine lv_aload_nN hx hb dI_received_6 rfl (lv_at hl 0 rfl) ?_
    refine lv_ifnonnullN hx hb dI_received_7 ?_
    refine lv_iconst (v := (-1)) hx hb dI_received_10 (by decide) ?_
    exact gg_iret hx hb hr hlocks hKA hB dI_received_11 (by decide) (by decide) (cP_of (show sRec hs lt lw cn σ r t = ((-1), lt, lw, cn, σ) from by simp [sRec, hi, qst]) ⟨hR, rfl⟩)
  | some k =>
    have e2 : y = some (ra k) := by rw [e2, hi]; rfl
    subst e2
    obtain ⟨hk, hr9⟩ := ix_some (by have := hR.c100; omega) hi
    obtain ⟨⟨h, it, n, st, ho, db, du, fa, en, lf⟩, hq⟩ : ∃ q, σ k = q := ⟨_, rfl⟩
    have hq0 := hq
    refine lv_astore_n (lv' := [(3, .ref (ra k)), (0, .ref o), (1, .int r), (2, .int t)]) hx hb dI_received_5 rfl hl (by decide) rfl (fun ls hl => ?_)
    refine lv_aload_n hx hb dI_received_6 rfl (lv_at hl 0 rfl) ?_
    refine lv_ifnonnull (tgt := 12) hx hb dI_received_7 (by decide) ?_
    refine lv_aload_n hx hb dI_received_12 rfl (lv_at hl 1 rfl) ?_
    refine lv_iload_n hx hb dI_received_13 rfl (lv_at hl 3 rfl) ?_
    refine gEndi (gRunV hF (c_I_isTime l dC dI dA z M0 M o ar ra sa la hs lt lw cn σ hR t) ln_I_71 hKA hB hR.top rfl rfl hl.1 rfl (Nat.le_of_ble_eq_true rfl) dI_received_14 ⟨rfl, rfl, (Nat.le_of_ble_eq_true rfl), (Nat.le_of_ble_eq_true rfl)⟩ ⟨(Nat.le_of_ble_eq_true rfl), (Nat.le_of_ble_eq_true rfl)⟩) hB (fun y1 M1 H locs hp hB => ?_)
    obtain ⟨e1, e2⟩ := hp
    rw [e1] at hB
    cases hT1 : bT lt t with
    | false =>
      have e2 : y1 = 0 := by rw [e2, hT1]; rfl
      subst e2
      refine lv_if_ne (tgt := 23) hx hb dI_received_17 (by decide) (fun c17 => ?_) (fun c17 => ?_)
      · exact (c17 (by decide)).elim
      · refine lv_bipush (v := (-2)) hx hb dI_received_20 (by decide) ?_
        exact gg_iret hx hb hr hlocks hKA hB dI_received_22 (by decide) (by decide) (cP_of (show sRec hs lt lw cn σ r t = ((-2), lt, lw, cn, σ) from by simp [sRec, hi, hT1, c17, hq0, qst]) ⟨hR, rfl⟩)
    | true =>
      have e2 : y1 = 1 := by rw [e2, hT1]; rfl
      subst e2
      refine lv_if_ne (tgt := 23) hx hb dI_received_17 (by decide) (fun c17 => ?_) (fun c17 => ?_)
      · refine lv_aload_n hx hb dI_received_23 rfl (lv_at hl 0 rfl) ?_
        refine gg_get (v := .int st) hx hb hts in_Q hown hK hB (hR.q hk hq) rfl 4 (by decide) k_67 rfl rfl dI_received_24 ?_
        refine lv_iconst (v := 3) hx hb dI_received_27 (by decide) ?_
        refine lv_icmp_eq (tgt := 34) hx hb dI_received_28 (by decide) (fun c28 => ?_) (fun c28 => ?_)
        · refine lv_aload_n hx hb dI_received_34 rfl (lv_at hl 1 rfl) ?_
          refine lv_iload_n hx hb dI_received_35 rfl (lv_at hl 3 rfl) ?_
          refine gg_put (ty := .int) (v := .int t) hx hb hts in_I t_I t_I_ok n_I hown hK hB hR.top rfl 3 (by decide) k_30 rfl rfl (by decide +kernel) rfl rfl (Nat.le_of_ble_eq_true rfl) dI_received_36 (fun H locs hB => ?_)
          have hR := hR.setTop t lw
          have hB : gB (dC, dI) gcl z (gU M o (oI hs ar cn t lw)) s.heap H locs := hB
          generalize gU M o (oI hs ar cn t lw) = M at hB hR
          refine lv_aload_n hx hb dI_received_39 rfl (lv_at hl 0 rfl) ?_
          refine lv_iconst (v := 4) hx hb dI_received_40 (by decide) ?_
          refine gg_put (ty := .int) (v := .int 4) hx hb hts in_Q t_Q t_Q_ok n_Q hown hK hB (hR.q hk hq) rfl 4 (by decide) k_67 rfl rfl (by decide +kernel) rfl rfl (Nat.le_of_ble_eq_true rfl) dI_received_41 (fun H locs hB => ?_)
          have hR := hR.setq hk hq (h, it, n, 4, ho, db, du, fa, en, lf) rfl rfl (fun i9 hi9 => hR.ho hk hq i9 hi9)
          have hq : va_up σ k (h, it, n, 4, ho, db, du, fa, en, lf) k = (h, it, n, 4, ho, db, du, fa, en, lf) := va_up_self _ _ _
          have hB : gB (dC, dI) gcl z (gU M (ra k) (oQ (h, it, n, 4, ho, db, du, fa, en, lf) (sa k) (la k))) s.heap H locs := hB
          generalize gU M (ra k) (oQ (h, it, n, 4, ho, db, du, fa, en, lf) (sa k) (la k)) = M at hB hR
          refine lv_aload_n hx hb dI_received_44 rfl (lv_at hl 0 rfl) ?_
          refine gg_get (v := .int 4) hx hb hts in_Q hown hK hB (hR.q hk hq) rfl 4 (by decide) k_67 rfl rfl dI_received_45 ?_
          exact gg_iret hx hb hr hlocks hKA hB dI_received_48 (by decide) (by decide) (cP_of (show sRec hs lt lw cn σ r t = (4, t, lw, cn, va_up σ k (h, it, n, 4, ho, db, du, fa, en, lf)) from by simp [sRec, hi, hT1, c17, c28, hq0, qst]) ⟨hR, rfl⟩)
        · refine lv_bipush (v := (-3)) hx hb dI_received_31 (by decide) ?_
          exact gg_iret hx hb hr hlocks hKA hB dI_received_33 (by decide) (by decide) (cP_of (show sRec hs lt lw cn σ r t = ((-3), lt, lw, cn, σ) from by simp [sRec, hi, hT1, c17, c28, hq0, qst]) ⟨hR, rfl⟩)
      · exact absurd c17 (by decide)
set_option maxHeartbeats 4000000 in
set_option maxRecDepth 100000 in
theorem c_I_back (l : Launch) (dC : Nat → ClassId) (dI : Nat → Nat → Nat) (dA : Nat → ClassId) (z : Nat) (M0 M : gM) (o ar : Nat) (ra sa : Nat → Nat) (la : Nat → Nat → Nat) (hs lt lw : Int32) (cn : Nat) (σ : Nat → Rq) (hR : cW dA M0 M o ar ra sa la hs lt lw cn σ) (r t : Int32) : gMi l dC dI dA z y_I_back b_I_back 4 (Option.some FieldType.int) ⟨1, 0, 0, 21⟩ [.ref o, .int r, .int t] M (cP dA M0 o ar ra sa la hs (sBack hs lt lw cn σ r t)) 0 0 := by
  refine gOfW (by decide) (Nat.le_of_ble_eq_true rfl) ?_
  intro p e s m below meth c ls hF hr hlocks hnm hKA hB hl
  obtain ⟨hx, hb, hml, hown, hts⟩ := id hF
  have hK := hKA.1
  have hl : lv_has ls 4 [(0, .ref o), (1, .int r), (2, .int t)] := hl
  refine lv_aload_n hx hb dI_back_0 rfl (lv_at hl 0 rfl) ?_
  refine lv_iload_n hx hb dI_back_1 rfl (lv_at hl 1 rfl) ?_
  refine gEndq (gRunV hF (c_I_find l dC dI dA z M0 M o ar ra sa la hs lt lw cn σ hR r) ln_I_46 hKA hB hR.top rfl rfl hl.1 rfl (Nat.le_of_ble_eq_true rfl) dI_back_2 ⟨rfl, rfl, (Nat.le_of_ble_eq_true rfl), (Nat.le_of_ble_eq_true rfl)⟩ ⟨(Nat.le_of_ble_eq_true rfl), (Nat.le_of_ble_eq_true rfl)⟩) hB (fun y M1 H locs hp hB => ?_)
  obtain ⟨e1, e2⟩ := hp
  rw [e1] at hB
  cases hi : ix cn r with
  | none =>
    have e2 : y = none := by rw [e2, hi]; rfl
    subst e2
    refine lv_astore_nN (lv' := [(3, .null), (0, .ref o), (1, .int r), (2, .int t)]) hx hb dI_back_5 rfl hl (by decide) rfl (fun ls hl => ?_)
    refine lv_aload_nN hx hb dI_back_6 rfl (lv_at hl 0 rfl) ?_
    refine lv_ifnonnullN hx hb dI_back_7 ?_
    refine lv_iconst (v := (-1)) hx hb dI_back_10 (by decide) ?_
    exact gg_iret hx hb hr hlocks hKA hB dI_back_11 (by decide) (by decide) (cP_of (show sBack hs lt lw cn σ r t = ((-1), lt, lw, cn, σ) from by simp [sBack, hi, qst]) ⟨hR, rfl⟩)
  | some k =>
    have e2 : y = some (ra k) := by rw [e2, hi]; rfl
    subst e2
    obtain ⟨hk, hr9⟩ := ix_some (by have := hR.c100; omega) hi
    obtain ⟨⟨h, it, n, st, ho, db, du, fa, en, lf⟩, hq⟩ : ∃ q, σ k = q := ⟨_, rfl⟩
    have hq0 := hq
    refine lv_astore_n (lv' := [(3, .ref (ra k)), (0, .ref o), (1, .int r), (2, .int t)]) hx hb dI_back_5 rfl hl (by decide) rfl (fun ls hl => ?_)
    refine lv_aload_n hx hb dI_back_6 rfl (lv_at hl 0 rfl) ?_
    refine lv_ifnonnull (tgt := 12) hx hb dI_back_7 (by decide) ?_
    refine lv_aload_n hx hb dI_back_12 rfl (lv_at hl 1 rfl) ?_
    refine lv_iload_n hx hb dI_back_13 rfl (lv_at hl 3 rfl) ?_
    refine gEndi (gRunV hF (c_I_isTime l dC dI dA z M0 M o ar ra sa la hs lt lw cn σ hR t) ln_I_71 hKA hB hR.top rfl rfl hl.1 rfl (Nat.le_of_ble_eq_true rfl) dI_back_14 ⟨rfl, rfl, (Nat.le_of_ble_eq_true rfl), (Nat.le_of_ble_eq_true rfl)⟩ ⟨(Nat.le_of_ble_eq_true rfl), (Nat.le_of_ble_eq_true rfl)⟩) hB (fun y1 M1 H locs hp hB => ?_)
    obtain ⟨e1, e2⟩ := hp
    rw [e1] at hB
    cases hT1 : bT lt t with
    | false =>
      have e2 : y1 = 0 := by rw [e2, hT1]; rfl
      subst e2
      refine lv_if_ne (tgt := 23) hx hb dI_back_17 (by decide) (fun c17 => ?_) (fun c17 => ?_)
      · exact (c17 (by decide)).elim
      · refine lv_bipush (v := (-2)) hx hb dI_back_20 (by decide) ?_
        exact gg_iret hx hb hr hlocks hKA hB dI_back_22 (by decide) (by decide) (cP_of (show sBack hs lt lw cn σ r t = ((-2), lt, lw, cn, σ) from by simp [sBack, hi, hT1, c17, hq0, qst]) ⟨hR, rfl⟩)
    | true =>
      have e2 : y1 = 1 := by rw [e2, hT1]; rfl
      subst e2
      refine lv_if_ne (tgt := 23) hx hb dI_back_17 (by decide) (fun c17 => ?_) (fun c17 => ?_)
      · refine lv_aload_n hx hb dI_back_23 rfl (lv_at hl 0 rfl) ?_
        refine gg_get (v := .int st) hx hb hts in_Q hown hK hB (hR.q hk hq) rfl 4 (by decide) k_67 rfl rfl dI_back_24 ?_
        refine lv_iconst (v := 4) hx hb dI_back_27 (by decide) ?_
        refine lv_icmp_eq (tgt := 34) hx hb dI_back_28 (by decide) (fun c28 => ?_) (fun c28 => ?_)
        · refine lv_aload_n hx hb dI_back_34 rfl (lv_at hl 1 rfl) ?_
          refine lv_iload_n hx hb dI_back_35 rfl (lv_at hl 3 rfl) ?_
          refine gg_put (ty := .int) (v := .int t) hx hb hts in_I t_I t_I_ok n_I hown hK hB hR.top rfl 3 (by decide) k_30 rfl rfl (by decide +kernel) rfl rfl (Nat.le_of_ble_eq_true rfl) dI_back_36 (fun H locs hB => ?_)
          have hR := hR.setTop t lw
          have hB : gB (dC, dI) gcl z (gU M o (oI hs ar cn t lw)) s.heap H locs := hB
          generalize gU M o (oI hs ar cn t lw) = M at hB hR
          refine lv_aload_n hx hb dI_back_39 rfl (lv_at hl 0 rfl) ?_
          refine lv_iconst (v := 5) hx hb dI_back_40 (by decide) ?_
          refine gg_put (ty := .int) (v := .int 5) hx hb hts in_Q t_Q t_Q_ok n_Q hown hK hB (hR.q hk hq) rfl 4 (by decide) k_67 rfl rfl (by decide +kernel) rfl rfl (Nat.le_of_ble_eq_true rfl) dI_back_41 (fun H locs hB => ?_)
          have hR := hR.setq hk hq (h, it, n, 5, ho, db, du, fa, en, lf) rfl rfl (fun i9 hi9 => hR.ho hk hq i9 hi9)
          have hq : va_up σ k (h, it, n, 5, ho, db, du, fa, en, lf) k = (h, it, n, 5, ho, db, du, fa, en, lf) := va_up_self _ _ _
          have hB : gB (dC, dI) gcl z (gU M (ra k) (oQ (h, it, n, 5, ho, db, du, fa, en, lf) (sa k) (la k))) s.heap H locs := hB
          generalize gU M (ra k) (oQ (h, it, n, 5, ho, db, du, fa, en, lf) (sa k) (la k)) = M at hB hR
          refine lv_iload_n hx hb dI_back_44 rfl (lv_at hl 3 rfl) ?_
          refine lv_aload_n hx hb dI_back_45 rfl (lv_at hl 0 rfl) ?_
          refine gg_get (v := .int du) hx hb hts in_Q hown hK hB (hR.q hk hq) rfl 7 (by decide) k_73 rfl rfl dI_back_46 ?_
          refine lv_icmp_le (tgt := 56) hx hb dI_back_49 (by decide) (fun c49 => ?_) (fun c49 => ?_)
          · refine lv_iconst (v := 1) hx hb dI_back_56 (by decide) ?_
            exact gg_iret hx hb hr hlocks hKA hB dI_back_57 (by decide) (by decide) (cP_of (show sBack hs lt lw cn σ r t = (1, t, lw, cn, va_up σ k (h, it, n, 5, ho, db, du, fa, en, lf)) from by simp [sBack, hi, hT1, c17, c28, c49, hq0, qst]) ⟨hR, rfl⟩)
          · refine lv_iconst (v := 0) hx hb dI_back_52 (by decide) ?_
            refine lv_goto (tgt := 57) hx hb dI_back_53 (by decide) ?_
            exact gg_iret hx hb hr hlocks hKA hB dI_back_57 (by decide) (by decide) (cP_of (show sBack hs lt lw cn σ r t = (0, t, lw, cn, va_up σ k (h, it, n, 5, ho, db, du, fa, en, lf)) from by simp [sBack, hi, hT1, c17, c28, c49, hq0, qst]) ⟨hR, rfl⟩)
        · refine lv_bipush (v := (-3)) hx hb dI_back_31 (by decide) ?_
          exact gg_iret hx hb hr hlocks hKA hB dI_back_33 (by decide) (by decide) (cP_of (show sBack hs lt lw cn σ r t = ((-3), lt, lw, cn, σ) from by simp [sBack, hi, hT1, c17, c28, hq0, qst]) ⟨hR, rfl⟩)
      · exact absurd c17 (by decide)
set_option maxHeartbeats 4000000 in
set_option maxRecDepth 100000 in
theorem c_I_send (l : Launch) (dC : Nat → ClassId) (dI : Nat → Nat → Nat) (dA : Nat → ClassId) (z : Nat) (M0 M : gM) (o ar : Nat) (ra sa : Nat → Nat) (la : Nat → Nat → Nat) (hs lt lw : Int32) (cn : Nat) (σ : Nat → Rq) (hR : cW dA M0 M o ar ra sa la hs lt lw cn σ) (r t : Int32) : gMi l dC dI dA z y_I_send b_I_send 4 (Option.some FieldType.int) ⟨2, 0, 0, 45⟩ [.ref o, .int r, .int t] M (cP dA M0 o ar ra sa la hs (sSend hs lt lw cn σ r t)) 0 0 := by
  refine gOfW (by decide) (Nat.le_of_ble_eq_true rfl) ?_
  intro p e s m below meth c ls hF hr hlocks hnm hKA hB hl
  obtain ⟨hx, hb, hml, hown, hts⟩ := id hF
  have hK := hKA.1
  have hl : lv_has ls 4 [(0, .ref o), (1, .int r), (2, .int t)] := hl
  refine lv_aload_n hx hb dI_send_0 rfl (lv_at hl 0 rfl) ?_
  refine lv_iload_n hx hb dI_send_1 rfl (lv_at hl 1 rfl) ?_
  refine gEndq (gRunV hF (c_I_find l dC dI dA z M0 M o ar ra sa la hs lt lw cn σ hR r) ln_I_46 hKA hB hR.top rfl rfl hl.1 rfl (Nat.le_of_ble_eq_true rfl) dI_send_2 ⟨rfl, rfl, (Nat.le_of_ble_eq_true rfl), (Nat.le_of_ble_eq_true rfl)⟩ ⟨(Nat.le_of_ble_eq_true rfl), (Nat.le_of_ble_eq_true rfl)⟩) hB (fun y M1 H locs hp hB => ?_)
  obtain ⟨e1, e2⟩ := hp
  rw [e1] at hB
  cases hi : ix cn r with
  | none =>
    have e2 : y = none := by rw [e2, hi]; rfl
    subst e2
    refine lv_astore_nN (lv' := [(3, .null), (0, .ref o), (1, .int r), (2, .int t)]) hx hb dI_send_5 rfl hl (by decide) rfl (fun ls hl => ?_)
    refine lv_aload_nN hx hb dI_send_6 rfl (lv_at hl 0 rfl) ?_
    refine lv_ifnonnullN hx hb dI_send_7 ?_
    refine lv_iconst (v := (-1)) hx hb dI_send_10 (by decide) ?_
    exact gg_iret hx hb hr hlocks hKA hB dI_send_11 (by decide) (by decide) (cP_of (show sSend hs lt lw cn σ r t = ((-1), lt, lw, cn, σ) from by simp [sSend, hi]) ⟨hR, rfl⟩)
  | some k =>
    have e2 : y = some (ra k) := by rw [e2, hi]; rfl
    subst e2
    obtain ⟨hk, hr9⟩ := ix_some (by have := hR.c100; omega) hi
    obtain ⟨⟨h, it, n, st, ho, db, du, fa, en, lf⟩, hq⟩ : ∃ q, σ k = q := ⟨_, rfl⟩
    have hq0 := hq
    refine lv_astore_n (lv' := [(3, .ref (ra k)), (0, .ref o), (1, .int r), (2, .int t)]) hx hb dI_send_5 rfl hl (by decide) rfl (fun ls hl => ?_)
    refine lv_aload_n hx hb dI_send_6 rfl (lv_at hl 0 rfl) ?_
    refine lv_ifnonnull (tgt := 12) hx hb dI_send_7 (by decide) ?_
    refine lv_aload_n hx hb dI_send_12 rfl (lv_at hl 1 rfl) ?_
    refine lv_iload_n hx hb dI_send_13 rfl (lv_at hl 3 rfl) ?_
    refine gEndi (gRunV hF (c_I_isTime l dC dI dA z M0 M o ar ra sa la hs lt lw cn σ hR t) ln_I_71 hKA hB hR.top rfl rfl hl.1 rfl (Nat.le_of_ble_eq_true rfl) dI_send_14 ⟨rfl, rfl, (Nat.le_of_ble_eq_true rfl), (Nat.le_of_ble_eq_true rfl)⟩ ⟨(Nat.le_of_ble_eq_true rfl), (Nat.le_of_ble_eq_true rfl)⟩) hB (fun y1 M1 H locs hp hB => ?_)
    obtain ⟨e1, e2⟩ := hp
    rw [e1] at hB
    cases hT1 : bT lt t with
    | false =>
      have e2 : y1 = 0 := by rw [e2, hT1]; rfl
      subst e2
      refine lv_if_ne (tgt := 23) hx hb dI_send_17 (by decide) (fun c17 => ?_) (fun c17 => ?_)
      · exact (c17 (by decide)).elim
      · refine lv_bipush (v := (-2)) hx hb dI_send_20 (by decide) ?_
        exact gg_iret hx hb hr hlocks hKA hB dI_send_22 (by decide) (by decide) (cP_of (show sSend hs lt lw cn σ r t = ((-2), lt, lw, cn, σ) from by simp [sSend, hi, hT1, c17, hq0]) ⟨hR, rfl⟩)
    | true =>
      have e2 : y1 = 1 := by rw [e2, hT1]; rfl
      subst e2
      refine lv_if_ne (tgt := 23) hx hb dI_send_17 (by decide) (fun c17 => ?_) (fun c17 => ?_)
      · refine lv_aload_n hx hb dI_send_23 rfl (lv_at hl 0 rfl) ?_
        refine gg_get (v := .int st) hx hb hts in_Q hown hK hB (hR.q hk hq) rfl 4 (by decide) k_67 rfl rfl dI_send_24 ?_
        refine lv_if_eq (tgt := 33) hx hb dI_send_27 (by decide) (fun c27 => ?_) (fun c27 => ?_)
        · refine lv_aload_n hx hb dI_send_33 rfl (lv_at hl 1 rfl) ?_
          refine lv_iload_n hx hb dI_send_34 rfl (lv_at hl 3 rfl) ?_
          refine gg_put (ty := .int) (v := .int t) hx hb hts in_I t_I t_I_ok n_I hown hK hB hR.top rfl 3 (by decide) k_30 rfl rfl (by decide +kernel) rfl rfl (Nat.le_of_ble_eq_true rfl) dI_send_35 (fun H locs hB => ?_)
          have hR := hR.setTop t lw
          have hB : gB (dC, dI) gcl z (gU M o (oI hs ar cn t lw)) s.heap H locs := hB
          generalize gU M o (oI hs ar cn t lw) = M at hB hR
          refine lv_aload_n hx hb dI_send_38 rfl (lv_at hl 0 rfl) ?_
          refine lv_iload_n hx hb dI_send_39 rfl (lv_at hl 3 rfl) ?_
          refine gEndv (gRunV hF (c_Q_askNext l dC dI dA z M0 M o ar ra sa la hs t lw cn _ hR k hk t) ln_I_74 hKA hB (hR.q hk hq) rfl rfl hl.1 rfl (Nat.le_of_ble_eq_true rfl) dI_send_40 ⟨rfl, rfl, (Nat.le_of_ble_eq_true rfl), (Nat.le_of_ble_eq_true rfl)⟩ ⟨(Nat.le_of_ble_eq_true rfl), (Nat.le_of_ble_eq_true rfl)⟩) hB (fun M1 H locs hp hB => ?_)
          rw [hq] at hp
          obtain ⟨⟨h2, it2, n2, st2, ho2, db2, du2, fa2, en2, lf2⟩, hq2⟩ : ∃ q, qask (h, it, n, st, ho, db, du, fa, en, lf) t = q := ⟨_, rfl⟩
          have hR := hp
          have hq := (va_up_self σ k (qask (h, it, n, st, ho, db, du, fa, en, lf) t)).trans hq2
          generalize M1 = M at hB hR
          refine lv_aload_n hx hb dI_send_43 rfl (lv_at hl 0 rfl) ?_
          refine gg_get (v := va_rf (Option.map (la k) ho2)) hx hb hts in_Q hown hK hB (hR.q hk hq) rfl 5 (by decide) k_69 rfl rfl dI_send_44 ?_
          rcases ho2 with _ | i
          · skip
            refine lv_ifnonnullN hx hb dI_send_47 ?_
            refine lv_bipush (v := 100) hx hb dI_send_50 (by decide) ?_
            refine lv_goto (tgt := 62) hx hb dI_send_52 (by decide) ?_
            have hq3 := hq2
            try simp only [hi, hT1, c17, c27] at hq3
            exact gg_iret hx hb hr hlocks hKA hB dI_send_62 (by decide) (by decide) (cP_of (show sSend hs lt lw cn σ r t = (100, t, lw, cn, va_up σ k (qask (h, it, n, st, ho, db, du, fa, en, lf) t)) from by simp [sSend, hi, hT1, c17, c27, hq0, hq3]) ⟨hR, rfl⟩)
          · have hi9 : i < n2 := hR.ho hk hq i rfl
            refine lv_ifnonnull (tgt := 55) hx hb dI_send_47 (by decide) ?_
            refine lv_aload_n hx hb dI_send_55 rfl (lv_at hl 0 rfl) ?_
            refine gg_get (v := .ref (la k i)) hx hb hts in_Q hown hK hB (hR.q hk hq) rfl 5 (by decide) k_69 rfl rfl dI_send_56 ?_
            refine gg_get (v := .int ((lf2 i).1)) hx hb hts in_L hown hK hB (hR.l hk hq hi9 rfl) rfl 0 (by decide) k_119 rfl rfl dI_send_59 ?_
            have hq3 := hq2
            try simp only [hi, hT1, c17, c27] at hq3
            exact gg_iret hx hb hr hlocks hKA hB dI_send_62 (by decide) (by decide) (cP_of (show sSend hs lt lw cn σ r t = ((lf2 i).1, t, lw, cn, va_up σ k (qask (h, it, n, st, ho, db, du, fa, en, lf) t)) from by simp [sSend, hi, hT1, c17, c27, hq0, hq3]) ⟨hR, rfl⟩)
        · refine lv_bipush (v := (-3)) hx hb dI_send_30 (by decide) ?_
          exact gg_iret hx hb hr hlocks hKA hB dI_send_32 (by decide) (by decide) (cP_of (show sSend hs lt lw cn σ r t = ((-3), lt, lw, cn, σ) from by simp [sSend, hi, hT1, c17, c27, hq0]) ⟨hR, rfl⟩)
      · exact absurd c17 (by decide)
set_option maxHeartbeats 4000000 in
set_option maxRecDepth 100000 in
theorem c_I_span (l : Launch) (dC : Nat → ClassId) (dI : Nat → Nat → Nat) (dA : Nat → ClassId) (z : Nat) (M0 M : gM) (o ar : Nat) (ra sa : Nat → Nat) (la : Nat → Nat → Nat) (hs lt lw : Int32) (cn : Nat) (σ : Nat → Rq) (hR : cW dA M0 M o ar ra sa la hs lt lw cn σ) (x : Int32) : gMi l dC dI dA z y_I_span b_I_span 2 (Option.some FieldType.int) ⟨0, 0, 0, 0⟩ [.ref o, .int x] M (cP dA M0 o ar ra sa la hs (sSpan hs lt lw cn σ x)) 0 0 := by
  refine gOfW (by decide) (Nat.le_of_ble_eq_true rfl) ?_
  intro p e s m below meth c ls hF hr hlocks hnm hKA hB hl
  obtain ⟨hx, hb, hml, hown, hts⟩ := id hF
  have hK := hKA.1
  have hl : lv_has ls 2 [(0, .ref o), (1, .int x)] := hl
  refine lv_iload_n hx hb dI_span_0 rfl (lv_at hl 1 rfl) ?_
  refine lv_iconst (v := 1) hx hb dI_span_1 (by decide) ?_
  refine lv_icmp_lt (tgt := 11) hx hb dI_span_2 (by decide) (fun c2 => ?_) (fun c2 => ?_)
  · refine lv_bipush (v := (-2)) hx hb dI_span_11 (by decide) ?_
    exact gg_iret hx hb hr hlocks hKA hB dI_span_13 (by decide) (by decide) (cP_of (show sSpan hs lt lw cn σ x = ((-2), lt, lw, cn, σ) from by simp [sSpan, c2, i32_nle c2]) ⟨hR, rfl⟩)
  · refine lv_iload_n hx hb dI_span_5 rfl (lv_at hl 1 rfl) ?_
    refine lv_ldc (v := 10000000) hx hb hown (hts _ k_216) dI_span_6 ?_
    refine lv_icmp_le (tgt := 14) hx hb dI_span_8 (by decide) (fun c8 => ?_) (fun c8 => ?_)
    · refine lv_aload_n hx hb dI_span_14 rfl (lv_at hl 0 rfl) ?_
      refine lv_iload_n hx hb dI_span_15 rfl (lv_at hl 1 rfl) ?_
      refine gg_put (ty := .int) (v := .int x) hx hb hts in_I t_I t_I_ok n_I hown hK hB hR.top rfl 4 (by decide) k_31 rfl rfl (by decide +kernel) rfl rfl (Nat.le_of_ble_eq_true rfl) dI_span_16 (fun H locs hB => ?_)
      have hR := hR.setTop lt x
      have hB : gB (dC, dI) gcl z (gU M o (oI hs ar cn lt x)) s.heap H locs := hB
      generalize gU M o (oI hs ar cn lt x) = M at hB hR
      refine lv_iconst (v := 1) hx hb dI_span_19 (by decide) ?_
      exact gg_iret hx hb hr hlocks hKA hB dI_span_20 (by decide) (by decide) (cP_of (show sSpan hs lt lw cn σ x = (1, lt, x, cn, σ) from by simp [sSpan, c2, c8]) ⟨hR, rfl⟩)
    · refine lv_bipush (v := (-2)) hx hb dI_span_11 (by decide) ?_
      exact gg_iret hx hb hr hlocks hKA hB dI_span_13 (by decide) (by decide) (cP_of (show sSpan hs lt lw cn σ x = ((-2), lt, lw, cn, σ) from by simp [sSpan, c2, c8]) ⟨hR, rfl⟩)
set_option maxHeartbeats 4000000 in
set_option maxRecDepth 100000 in
theorem c_I_cancel (l : Launch) (dC : Nat → ClassId) (dI : Nat → Nat → Nat) (dA : Nat → ClassId) (z : Nat) (M0 M : gM) (o ar : Nat) (ra sa : Nat → Nat) (la : Nat → Nat → Nat) (hs lt lw : Int32) (cn : Nat) (σ : Nat → Rq) (hR : cW dA M0 M o ar ra sa la hs lt lw cn σ) (r t : Int32) : gMi l dC dI dA z y_I_cancel b_I_cancel 4 (Option.some FieldType.int) ⟨1, 0, 0, 22⟩ [.ref o, .int r, .int t] M (cP dA M0 o ar ra sa la hs (sCancel hs lt lw cn σ r t)) 0 0 := by
  refine gOfW (by decide) (Nat.le_of_ble_eq_true rfl) ?_
  intro p e s m below meth c ls hF hr hlocks hnm hKA hB hl
  obtain ⟨hx, hb, hml, hown, hts⟩ := id hF
  have hK := hKA.1
  have hl : lv_has ls 4 [(0, .ref o), (1, .int r), (2, .int t)] := hl
  refine lv_aload_n hx hb dI_cancel_0 rfl (lv_at hl 0 rfl) ?_
  refine lv_iload_n hx hb dI_cancel_1 rfl (lv_at hl 1 rfl) ?_
  refine gEndq (gRunV hF (c_I_find l dC dI dA z M0 M o ar ra sa la hs lt lw cn σ hR r) ln_I_46 hKA hB hR.top rfl rfl hl.1 rfl (Nat.le_of_ble_eq_true rfl) dI_cancel_2 ⟨rfl, rfl, (Nat.le_of_ble_eq_true rfl), (Nat.le_of_ble_eq_true rfl)⟩ ⟨(Nat.le_of_ble_eq_true rfl), (Nat.le_of_ble_eq_true rfl)⟩) hB (fun y M1 H locs hp hB => ?_)
  obtain ⟨e1, e2⟩ := hp
  rw [e1] at hB
  cases hi : ix cn r with
  | none =>
    have e2 : y = none := by rw [e2, hi]; rfl
    subst e2
    refine lv_astore_nN (lv' := [(3, .null), (0, .ref o), (1, .int r), (2, .int t)]) hx hb dI_cancel_5 rfl hl (by decide) rfl (fun ls hl => ?_)
    refine lv_aload_nN hx hb dI_cancel_6 rfl (lv_at hl 0 rfl) ?_
    refine lv_ifnonnullN hx hb dI_cancel_7 ?_
    refine lv_iconst (v := (-1)) hx hb dI_cancel_10 (by decide) ?_
    exact gg_iret hx hb hr hlocks hKA hB dI_cancel_11 (by decide) (by decide) (cP_of (show sCancel hs lt lw cn σ r t = ((-1), lt, lw, cn, σ) from by simp [sCancel, hi, qcan, lset]) ⟨hR, rfl⟩)
  | some k =>
    have e2 : y = some (ra k) := by rw [e2, hi]; rfl
    subst e2
    obtain ⟨hk, hr9⟩ := ix_some (by have := hR.c100; omega) hi
    obtain ⟨⟨h, it, n, st, ho, db, du, fa, en, lf⟩, hq⟩ : ∃ q, σ k = q := ⟨_, rfl⟩
    have hq0 := hq
    refine lv_astore_n (lv' := [(3, .ref (ra k)), (0, .ref o), (1, .int r), (2, .int t)]) hx hb dI_cancel_5 rfl hl (by decide) rfl (fun ls hl => ?_)
    refine lv_aload_n hx hb dI_cancel_6 rfl (lv_at hl 0 rfl) ?_
    refine lv_ifnonnull (tgt := 12) hx hb dI_cancel_7 (by decide) ?_
    refine lv_aload_n hx hb dI_cancel_12 rfl (lv_at hl 1 rfl) ?_
    refine lv_iload_n hx hb dI_cancel_13 rfl (lv_at hl 3 rfl) ?_
    refine gEndi (gRunV hF (c_I_isTime l dC dI dA z M0 M o ar ra sa la hs lt lw cn σ hR t) ln_I_71 hKA hB hR.top rfl rfl hl.1 rfl (Nat.le_of_ble_eq_true rfl) dI_cancel_14 ⟨rfl, rfl, (Nat.le_of_ble_eq_true rfl), (Nat.le_of_ble_eq_true rfl)⟩ ⟨(Nat.le_of_ble_eq_true rfl), (Nat.le_of_ble_eq_true rfl)⟩) hB (fun y1 M1 H locs hp hB => ?_)
    obtain ⟨e1, e2⟩ := hp
    rw [e1] at hB
    cases hT1 : bT lt t with
    | false =>
      have e2 : y1 = 0 := by rw [e2, hT1]; rfl
      subst e2
      refine lv_if_ne (tgt := 23) hx hb dI_cancel_17 (by decide) (fun c17 => ?_) (fun c17 => ?_)
      · exact (c17 (by decide)).elim
      · refine lv_bipush (v := (-2)) hx hb dI_cancel_20 (by decide) ?_
        exact gg_iret hx hb hr hlocks hKA hB dI_cancel_22 (by decide) (by decide) (cP_of (show sCancel hs lt lw cn σ r t = ((-2), lt, lw, cn, σ) from by simp [sCancel, hi, hT1, c17, hq0, qcan, lset]) ⟨hR, rfl⟩)
    | true =>
      have e2 : y1 = 1 := by rw [e2, hT1]; rfl
      subst e2
      refine lv_if_ne (tgt := 23) hx hb dI_cancel_17 (by decide) (fun c17 => ?_) (fun c17 => ?_)
      · refine lv_aload_n hx hb dI_cancel_23 rfl (lv_at hl 0 rfl) ?_
        refine gEndi (gRunV hF (c_Q_mayBeCancelled l dC dI dA z M (ra k) (sa k) (la k) h it n st ho db du fa en lf (hR.q hk hq)) ln_I_114 hKA hB (hR.q hk hq) rfl rfl hl.1 rfl (Nat.le_of_ble_eq_true rfl) dI_cancel_24 ⟨rfl, rfl, (Nat.le_of_ble_eq_true rfl), (Nat.le_of_ble_eq_true rfl)⟩ ⟨(Nat.le_of_ble_eq_true rfl), (Nat.le_of_ble_eq_true rfl)⟩) hB (fun y2 M1 H locs hp hB => ?_)
        obtain ⟨e1, e2⟩ := hp
        rw [e1] at hB
        rw [bC_eq] at e2
        cases hC2 : bC st with
        | false =>
          have e2 : y2 = 0 := by rw [e2, hC2]; rfl
          subst e2
          refine lv_if_ne (tgt := 33) hx hb dI_cancel_27 (by decide) (fun c27 => ?_) (fun c27 => ?_)
          · exact (c27 (by decide)).elim
          · refine lv_bipush (v := (-3)) hx hb dI_cancel_30 (by decide) ?_
            exact gg_iret hx hb hr hlocks hKA hB dI_cancel_32 (by decide) (by decide) (cP_of (show sCancel hs lt lw cn σ r t = ((-3), lt, lw, cn, σ) from by simp [sCancel, hi, hT1, c17, hC2, c27, hq0, qcan, lset]) ⟨hR, rfl⟩)
        | true =>
          have e2 : y2 = 1 := by rw [e2, hC2]; rfl
          subst e2
          refine lv_if_ne (tgt := 33) hx hb dI_cancel_27 (by decide) (fun c27 => ?_) (fun c27 => ?_)
          · refine lv_aload_n hx hb dI_cancel_33 rfl (lv_at hl 1 rfl) ?_
            refine lv_iload_n hx hb dI_cancel_34 rfl (lv_at hl 3 rfl) ?_
            refine gg_put (ty := .int) (v := .int t) hx hb hts in_I t_I t_I_ok n_I hown hK hB hR.top rfl 3 (by decide) k_30 rfl rfl (by decide +kernel) rfl rfl (Nat.le_of_ble_eq_true rfl) dI_cancel_35 (fun H locs hB => ?_)
            have hR := hR.setTop t lw
            have hB : gB (dC, dI) gcl z (gU M o (oI hs ar cn t lw)) s.heap H locs := hB
            generalize gU M o (oI hs ar cn t lw) = M at hB hR
            refine lv_aload_n hx hb dI_cancel_38 rfl (lv_at hl 0 rfl) ?_
            refine gg_get (v := va_rf (Option.map (la k) ho)) hx hb hts in_Q hown hK hB (hR.q hk hq) rfl 5 (by decide) k_69 rfl rfl dI_cancel_39 ?_
            rcases ho with _ | i
            · skip
              refine lv_ifnullN (tgt := 54) hx hb dI_cancel_42 (by decide) ?_
              refine lv_aload_n hx hb dI_cancel_54 rfl (lv_at hl 0 rfl) ?_
              refine lv_null hx hb dI_cancel_55 ?_
              refine gg_put (ty := (.object "InterRequest$Lender")) (v := .null) hx hb hts in_Q t_Q t_Q_ok n_Q hown hK hB (hR.q hk hq) rfl 5 (by decide) k_69 rfl rfl (by decide +kernel) rfl rfl (Nat.le_of_ble_eq_true rfl) dI_cancel_56 (fun H locs hB => ?_)
              have hR := hR.setq hk hq (h, it, n, st, none, db, du, fa, en, lf) rfl rfl (fun i hi => nomatch hi)
              have hq : va_up σ k (h, it, n, st, none, db, du, fa, en, lf) k = (h, it, n, st, none, db, du, fa, en, lf) := va_up_self _ _ _
              have hB : gB (dC, dI) gcl z (gU M (ra k) (oQ (h, it, n, st, none, db, du, fa, en, lf) (sa k) (la k))) s.heap H locs := hB
              generalize gU M (ra k) (oQ (h, it, n, st, none, db, du, fa, en, lf) (sa k) (la k)) = M at hB hR
              refine lv_aload_n hx hb dI_cancel_59 rfl (lv_at hl 0 rfl) ?_
              refine lv_bipush (v := 8) hx hb dI_cancel_60 (by decide) ?_
              refine lv_iload_n hx hb dI_cancel_62 rfl (lv_at hl 3 rfl) ?_
              refine gEndv (gRunV hF (c_Q_end l dC dI dA z M (ra k) (sa k) (la k) h it n st none db du fa en lf (hR.q hk hq) 8 t) ln_I_117 hKA hB (hR.q hk hq) rfl rfl hl.1 rfl (Nat.le_of_ble_eq_true rfl) dI_cancel_63 ⟨rfl, rfl, (Nat.le_of_ble_eq_true rfl), (Nat.le_of_ble_eq_true rfl)⟩ ⟨(Nat.le_of_ble_eq_true rfl), (Nat.le_of_ble_eq_true rfl)⟩) hB (fun M1 H locs hp hB => ?_)
              subst hp
              have hR := hR.setq hk hq (h, it, n, 8, none, db, du, fa, t, lf) rfl rfl (fun i9 hi9 => hR.ho hk hq i9 hi9)
              simp only [bx_uu] at hR
              have hq : va_up σ k (h, it, n, 8, none, db, du, fa, t, lf) k = (h, it, n, 8, none, db, du, fa, t, lf) := va_up_self _ _ _
              generalize gU M (ra k) (oQ (h, it, n, 8, none, db, du, fa, t, lf) (sa k) (la k)) = M at hB hR
              refine lv_iconst (v := 1) hx hb dI_cancel_66 (by decide) ?_
              exact gg_iret hx hb hr hlocks hKA hB dI_cancel_67 (by decide) (by decide) (cP_of (show sCancel hs lt lw cn σ r t = (1, t, lw, cn, va_up σ k (h, it, n, 8, none, db, du, fa, t, lf)) from by simp [sCancel, hi, hT1, c17, hC2, c27, hq0, qcan, lset]) ⟨hR, rfl⟩)
            · have hi9 : i < n := hR.ho hk hq i rfl
              refine lv_ifnull hx hb dI_cancel_42 ?_
              refine lv_aload_n hx hb dI_cancel_45 rfl (lv_at hl 0 rfl) ?_
              refine gg_get (v := .ref (la k i)) hx hb hts in_Q hown hK hB (hR.q hk hq) rfl 5 (by decide) k_69 rfl rfl dI_cancel_46 ?_
              refine lv_bipush (v := 8) hx hb dI_cancel_49 (by decide) ?_
              refine gg_put (ty := .int) (v := .int 8) hx hb hts in_L t_L t_L_ok n_L hown hK hB (hR.l hk hq hi9 rfl) rfl 1 (by decide) k_122 rfl rfl (by decide +kernel) rfl rfl (Nat.le_of_ble_eq_true rfl) dI_cancel_51 (fun H locs hB => ?_)
              have hR := hR.setl hk hq hi9 ((lf i).1, 8, (lf i).2.2.1, (lf i).2.2.2)
              have hq : va_up σ k (h, it, n, st, some i, db, du, fa, en, va_up lf i ((lf i).1, 8, (lf i).2.2.1, (lf i).2.2.2)) k = (h, it, n, st, some i, db, du, fa, en, va_up lf i ((lf i).1, 8, (lf i).2.2.1, (lf i).2.2.2)) := va_up_self _ _ _
              have hB : gB (dC, dI) gcl z (gU M (la k i) (oL ((lf i).1, 8, (lf i).2.2.1, (lf i).2.2.2))) s.heap H locs := hB
              generalize gU M (la k i) (oL ((lf i).1, 8, (lf i).2.2.1, (lf i).2.2.2)) = M at hB hR
              refine lv_aload_n hx hb dI_cancel_54 rfl (lv_at hl 0 rfl) ?_
              refine lv_null hx hb dI_cancel_55 ?_
              refine gg_put (ty := (.object "InterRequest$Lender")) (v := .null) hx hb hts in_Q t_Q t_Q_ok n_Q hown hK hB (hR.q hk hq) rfl 5 (by decide) k_69 rfl rfl (by decide +kernel) rfl rfl (Nat.le_of_ble_eq_true rfl) dI_cancel_56 (fun H locs hB => ?_)
              have hR := hR.setq hk hq (h, it, n, st, none, db, du, fa, en, va_up lf i ((lf i).1, 8, (lf i).2.2.1, (lf i).2.2.2)) rfl rfl (fun i hi => nomatch hi)
              simp only [bx_uu] at hR
              have hq : va_up σ k (h, it, n, st, none, db, du, fa, en, va_up lf i ((lf i).1, 8, (lf i).2.2.1, (lf i).2.2.2)) k = (h, it, n, st, none, db, du, fa, en, va_up lf i ((lf i).1, 8, (lf i).2.2.1, (lf i).2.2.2)) := va_up_self _ _ _
              have hB : gB (dC, dI) gcl z (gU M (ra k) (oQ (h, it, n, st, none, db, du, fa, en, va_up lf i ((lf i).1, 8, (lf i).2.2.1, (lf i).2.2.2)) (sa k) (la k))) s.heap H locs := hB
              generalize gU M (ra k) (oQ (h, it, n, st, none, db, du, fa, en, va_up lf i ((lf i).1, 8, (lf i).2.2.1, (lf i).2.2.2)) (sa k) (la k)) = M at hB hR
              refine lv_aload_n hx hb dI_cancel_59 rfl (lv_at hl 0 rfl) ?_
              refine lv_bipush (v := 8) hx hb dI_cancel_60 (by decide) ?_
              refine lv_iload_n hx hb dI_cancel_62 rfl (lv_at hl 3 rfl) ?_
              refine gEndv (gRunV hF (c_Q_end l dC dI dA z M (ra k) (sa k) (la k) h it n st none db du fa en (va_up lf i ((lf i).1, 8, (lf i).2.2.1, (lf i).2.2.2)) (hR.q hk hq) 8 t) ln_I_117 hKA hB (hR.q hk hq) rfl rfl hl.1 rfl (Nat.le_of_ble_eq_true rfl) dI_cancel_63 ⟨rfl, rfl, (Nat.le_of_ble_eq_true rfl), (Nat.le_of_ble_eq_true rfl)⟩ ⟨(Nat.le_of_ble_eq_true rfl), (Nat.le_of_ble_eq_true rfl)⟩) hB (fun M1 H locs hp hB => ?_)
              subst hp
              have hR := hR.setq hk hq (h, it, n, 8, none, db, du, fa, t, va_up lf i ((lf i).1, 8, (lf i).2.2.1, (lf i).2.2.2)) rfl rfl (fun i9 hi9 => hR.ho hk hq i9 hi9)
              simp only [bx_uu] at hR
              have hq : va_up σ k (h, it, n, 8, none, db, du, fa, t, va_up lf i ((lf i).1, 8, (lf i).2.2.1, (lf i).2.2.2)) k = (h, it, n, 8, none, db, du, fa, t, va_up lf i ((lf i).1, 8, (lf i).2.2.1, (lf i).2.2.2)) := va_up_self _ _ _
              generalize gU M (ra k) (oQ (h, it, n, 8, none, db, du, fa, t, va_up lf i ((lf i).1, 8, (lf i).2.2.1, (lf i).2.2.2)) (sa k) (la k)) = M at hB hR
              refine lv_iconst (v := 1) hx hb dI_cancel_66 (by decide) ?_
              exact gg_iret hx hb hr hlocks hKA hB dI_cancel_67 (by decide) (by decide) (cP_of (show sCancel hs lt lw cn σ r t = (1, t, lw, cn, va_up σ k (h, it, n, 8, none, db, du, fa, t, va_up lf i ((lf i).1, 8, (lf i).2.2.1, (lf i).2.2.2))) from by simp [sCancel, hi, hT1, c17, hC2, c27, hq0, qcan, lset]) ⟨hR, rfl⟩)
          · exact absurd c27 (by decide)
      · exact absurd c17 (by decide)
set_option maxHeartbeats 4000000 in
set_option maxRecDepth 100000 in
theorem c_I_condition (l : Launch) (dC : Nat → ClassId) (dI : Nat → Nat → Nat) (dA : Nat → ClassId) (z : Nat) (M0 M : gM) (o ar : Nat) (ra sa : Nat → Nat) (la : Nat → Nat → Nat) (hs lt lw : Int32) (cn : Nat) (σ : Nat → Rq) (hR : cW dA M0 M o ar ra sa la hs lt lw cn σ) (r yes t : Int32) : gMi l dC dI dA z y_I_condition b_I_condition 6 (Option.some FieldType.int) ⟨2, 0, 0, 45⟩ [.ref o, .int r, .int yes, .int t] M (cP dA M0 o ar ra sa la hs (sCond hs lt lw cn σ r yes t)) 0 0 := by
  refine gOfW (by decide) (Nat.le_of_ble_eq_true rfl) ?_
  intro p e s m below meth c ls hF hr hlocks hnm hKA hB hl
  obtain ⟨hx, hb, hml, hown, hts⟩ := id hF
  have hK := hKA.1
  have hl : lv_has ls 6 [(0, .ref o), (1, .int r), (2, .int yes), (3, .int t)] := hl
  refine lv_aload_n hx hb dI_condition_0 rfl (lv_at hl 0 rfl) ?_
  refine lv_iload_n hx hb dI_condition_1 rfl (lv_at hl 1 rfl) ?_
  refine gEndq (gRunV hF (c_I_find l dC dI dA z M0 M o ar ra sa la hs lt lw cn σ hR r) ln_I_46 hKA hB hR.top rfl rfl hl.1 rfl (Nat.le_of_ble_eq_true rfl) dI_condition_2 ⟨rfl, rfl, (Nat.le_of_ble_eq_true rfl), (Nat.le_of_ble_eq_true rfl)⟩ ⟨(Nat.le_of_ble_eq_true rfl), (Nat.le_of_ble_eq_true rfl)⟩) hB (fun y M1 H locs hp hB => ?_)
  obtain ⟨e1, e2⟩ := hp
  rw [e1] at hB
  cases hi : ix cn r with
  | none =>
    have e2 : y = none := by rw [e2, hi]; rfl
    subst e2
    refine lv_astoreN (lv' := [(4, .null), (0, .ref o), (1, .int r), (2, .int yes), (3, .int t)]) hx hb dI_condition_5 hl (by decide) rfl (fun ls hl => ?_)
    refine lv_aloadN hx hb dI_condition_7 (lv_at hl 0 rfl) ?_
    refine lv_ifnonnullN hx hb dI_condition_9 ?_
    refine lv_iconst (v := (-1)) hx hb dI_condition_12 (by decide) ?_
    exact gg_iret hx hb hr hlocks hKA hB dI_condition_13 (by decide) (by decide) (cP_of (show sCond hs lt lw cn σ r yes t = ((-1), lt, lw, cn, σ) from by simp [sCond, hi, qyes, qno, lset]) ⟨hR, rfl⟩)
  | some k =>
    have e2 : y = some (ra k) := by rw [e2, hi]; rfl
    subst e2
    obtain ⟨hk, hr9⟩ := ix_some (by have := hR.c100; omega) hi
    obtain ⟨⟨h, it, n, st, ho, db, du, fa, en, lf⟩, hq⟩ : ∃ q, σ k = q := ⟨_, rfl⟩
    have hq0 := hq
    refine lv_astore (lv' := [(4, .ref (ra k)), (0, .ref o), (1, .int r), (2, .int yes), (3, .int t)]) hx hb dI_condition_5 hl (by decide) rfl (fun ls hl => ?_)
    refine lv_aload hx hb dI_condition_7 (lv_at hl 0 rfl) ?_
    refine lv_ifnonnull (tgt := 14) hx hb dI_condition_9 (by decide) ?_
    refine lv_aload_n hx hb dI_condition_14 rfl (lv_at hl 1 rfl) ?_
    refine lv_iload_n hx hb dI_condition_15 rfl (lv_at hl 4 rfl) ?_
    refine gEndi (gRunV hF (c_I_isTime l dC dI dA z M0 M o ar ra sa la hs lt lw cn σ hR t) ln_I_71 hKA hB hR.top rfl rfl hl.1 rfl (Nat.le_of_ble_eq_true rfl) dI_condition_16 ⟨rfl, rfl, (Nat.le_of_ble_eq_true rfl), (Nat.le_of_ble_eq_true rfl)⟩ ⟨(Nat.le_of_ble_eq_true rfl), (Nat.le_of_ble_eq_true rfl)⟩) hB (fun y1 M1 H locs hp hB => ?_)
    obtain ⟨e1, e2⟩ := hp
    rw [e1] at hB
    cases hT1 : bT lt t with
    | false =>
      have e2 : y1 = 0 := by rw [e2, hT1]; rfl
      subst e2
      refine lv_if_ne (tgt := 25) hx hb dI_condition_19 (by decide) (fun c19 => ?_) (fun c19 => ?_)
      · exact (c19 (by decide)).elim
      · refine lv_bipush (v := (-2)) hx hb dI_condition_22 (by decide) ?_
        exact gg_iret hx hb hr hlocks hKA hB dI_condition_24 (by decide) (by decide) (cP_of (show sCond hs lt lw cn σ r yes t = ((-2), lt, lw, cn, σ) from by simp [sCond, hi, hT1, c19, hq0, qyes, qno, lset]) ⟨hR, rfl⟩)
    | true =>
      have e2 : y1 = 1 := by rw [e2, hT1]; rfl
      subst e2
      refine lv_if_ne (tgt := 25) hx hb dI_condition_19 (by decide) (fun c19 => ?_) (fun c19 => ?_)
      · refine lv_aload hx hb dI_condition_25 (lv_at hl 0 rfl) ?_
        refine gg_get (v := va_rf (Option.map (la k) ho)) hx hb hts in_Q hown hK hB (hR.q hk hq) rfl 5 (by decide) k_69 rfl rfl dI_condition_27 ?_
        rcases ho with _ | i
        · skip
          refine lv_astoreN (lv' := [(5, .null), (4, .ref (ra k)), (0, .ref o), (1, .int r), (2, .int yes), (3, .int t)]) hx hb dI_condition_30 hl (by decide) rfl (fun ls hl => ?_)
          refine lv_aload hx hb dI_condition_32 (lv_at hl 1 rfl) ?_
          refine gg_get (v := .int st) hx hb hts in_Q hown hK hB (hR.q hk hq) rfl 4 (by decide) k_67 rfl rfl dI_condition_34 ?_
          refine lv_iconst (v := 2) hx hb dI_condition_37 (by decide) ?_
          refine lv_icmp_ne (tgt := 46) hx hb dI_condition_38 (by decide) (fun c38 => ?_) (fun c38 => ?_)
          · refine lv_bipush (v := (-3)) hx hb dI_condition_46 (by decide) ?_
            exact gg_iret hx hb hr hlocks hKA hB dI_condition_48 (by decide) (by decide) (cP_of (show sCond hs lt lw cn σ r yes t = ((-3), lt, lw, cn, σ) from by simp [sCond, hi, hT1, c19, c38, hq0, qyes, qno, lset]) ⟨hR, rfl⟩)
          · refine lv_aloadN hx hb dI_condition_41 (lv_at hl 0 rfl) ?_
            refine lv_ifnonnullN hx hb dI_condition_43 ?_
            refine lv_bipush (v := (-3)) hx hb dI_condition_46 (by decide) ?_
            exact gg_iret hx hb hr hlocks hKA hB dI_condition_48 (by decide) (by decide) (cP_of (show sCond hs lt lw cn σ r yes t = ((-3), lt, lw, cn, σ) from by simp [sCond, hi, hT1, c19, c38, hq0, qyes, qno, lset]) ⟨hR, rfl⟩)
        · have hi9 : i < n := hR.ho hk hq i rfl
          refine lv_astore (lv' := [(5, .ref (la k i)), (4, .ref (ra k)), (0, .ref o), (1, .int r), (2, .int yes), (3, .int t)]) hx hb dI_condition_30 hl (by decide) rfl (fun ls hl => ?_)
          refine lv_aload hx hb dI_condition_32 (lv_at hl 1 rfl) ?_
          refine gg_get (v := .int st) hx hb hts in_Q hown hK hB (hR.q hk hq) rfl 4 (by decide) k_67 rfl rfl dI_condition_34 ?_
          refine lv_iconst (v := 2) hx hb dI_condition_37 (by decide) ?_
          refine lv_icmp_ne (tgt := 46) hx hb dI_condition_38 (by decide) (fun c38 => ?_) (fun c38 => ?_)
          · refine lv_bipush (v := (-3)) hx hb dI_condition_46 (by decide) ?_
            exact gg_iret hx hb hr hlocks hKA hB dI_condition_48 (by decide) (by decide) (cP_of (show sCond hs lt lw cn σ r yes t = ((-3), lt, lw, cn, σ) from by simp [sCond, hi, hT1, c19, c38, hq0, qyes, qno, lset]) ⟨hR, rfl⟩)
          · refine lv_aload hx hb dI_condition_41 (lv_at hl 0 rfl) ?_
            refine lv_ifnonnull (tgt := 49) hx hb dI_condition_43 (by decide) ?_
            refine lv_aload_n hx hb dI_condition_49 rfl (lv_at hl 2 rfl) ?_
            refine lv_iload_n hx hb dI_condition_50 rfl (lv_at hl 5 rfl) ?_
            refine gg_put (ty := .int) (v := .int t) hx hb hts in_I t_I t_I_ok n_I hown hK hB hR.top rfl 3 (by decide) k_30 rfl rfl (by decide +kernel) rfl rfl (Nat.le_of_ble_eq_true rfl) dI_condition_51 (fun H locs hB => ?_)
            have hR := hR.setTop t lw
            have hB : gB (dC, dI) gcl z (gU M o (oI hs ar cn t lw)) s.heap H locs := hB
            generalize gU M o (oI hs ar cn t lw) = M at hB hR
            refine lv_iload_n hx hb dI_condition_54 rfl (lv_at hl 4 rfl) ?_
            refine lv_if_eq (tgt := 73) hx hb dI_condition_55 (by decide) (fun c55 => ?_) (fun c55 => ?_)
            · refine lv_aload hx hb dI_condition_73 (lv_at hl 0 rfl) ?_
              refine lv_bipush (v := 6) hx hb dI_condition_75 (by decide) ?_
              refine gg_put (ty := .int) (v := .int 6) hx hb hts in_L t_L t_L_ok n_L hown hK hB (hR.l hk hq hi9 rfl) rfl 1 (by decide) k_122 rfl rfl (by decide +kernel) rfl rfl (Nat.le_of_ble_eq_true rfl) dI_condition_77 (fun H locs hB => ?_)
              have hR := hR.setl hk hq hi9 ((lf i).1, 6, (lf i).2.2.1, (lf i).2.2.2)
              have hq : va_up σ k (h, it, n, st, some i, db, du, fa, en, va_up lf i ((lf i).1, 6, (lf i).2.2.1, (lf i).2.2.2)) k = (h, it, n, st, some i, db, du, fa, en, va_up lf i ((lf i).1, 6, (lf i).2.2.1, (lf i).2.2.2)) := va_up_self _ _ _
              have hB : gB (dC, dI) gcl z (gU M (la k i) (oL ((lf i).1, 6, (lf i).2.2.1, (lf i).2.2.2))) s.heap H locs := hB
              generalize gU M (la k i) (oL ((lf i).1, 6, (lf i).2.2.1, (lf i).2.2.2)) = M at hB hR
              refine lv_aload hx hb dI_condition_80 (lv_at hl 1 rfl) ?_
              refine lv_iload_n hx hb dI_condition_82 rfl (lv_at hl 5 rfl) ?_
              refine gEndv (gRunV hF (c_Q_askNext l dC dI dA z M0 M o ar ra sa la hs t lw cn _ hR k hk t) ln_I_74 hKA hB (hR.q hk hq) rfl rfl hl.1 rfl (Nat.le_of_ble_eq_true rfl) dI_condition_83 ⟨rfl, rfl, (Nat.le_of_ble_eq_true rfl), (Nat.le_of_ble_eq_true rfl)⟩ ⟨(Nat.le_of_ble_eq_true rfl), (Nat.le_of_ble_eq_true rfl)⟩) hB (fun M1 H locs hp hB => ?_)
              rw [hq, bx_uu] at hp
              obtain ⟨⟨h2, it2, n2, st2, ho2, db2, du2, fa2, en2, lf2⟩, hq2⟩ : ∃ q, qask (h, it, n, st, some i, db, du, fa, en, va_up lf i ((lf i).1, 6, (lf i).2.2.1, (lf i).2.2.2)) t = q := ⟨_, rfl⟩
              have hR := hp
              have hq := (va_up_self σ k (qask (h, it, n, st, some i, db, du, fa, en, va_up lf i ((lf i).1, 6, (lf i).2.2.1, (lf i).2.2.2)) t)).trans hq2
              generalize M1 = M at hB hR
              refine lv_aload hx hb dI_condition_86 (lv_at hl 1 rfl) ?_
              refine gg_get (v := .int st2) hx hb hts in_Q hown hK hB (hR.q hk hq) rfl 4 (by decide) k_67 rfl rfl dI_condition_88 ?_
              have hq3 := hq2
              try simp only [hi, hT1, c19, c38, c55] at hq3
              exact gg_iret hx hb hr hlocks hKA hB dI_condition_91 (by decide) (by decide) (cP_of (show sCond hs lt lw cn σ r yes t = (st2, t, lw, cn, va_up σ k (qask (h, it, n, st, some i, db, du, fa, en, va_up lf i ((lf i).1, 6, (lf i).2.2.1, (lf i).2.2.2)) t)) from by simp [sCond, hi, hT1, c19, c38, c55, hq0, hq3, qyes, qno, lset]) ⟨hR, rfl⟩)
            · refine lv_aload hx hb dI_condition_58 (lv_at hl 0 rfl) ?_
              refine lv_iload_n hx hb dI_condition_60 rfl (lv_at hl 5 rfl) ?_
              refine gEndv (gRunV hF (c_L_begin l dC dI dA z M (la k i) (lf i).1 (lf i).2.1 (lf i).2.2.1 (lf i).2.2.2 (hR.l hk hq hi9 rfl) t) ln_I_108 hKA hB (hR.l hk hq hi9 rfl) rfl rfl hl.1 rfl (Nat.le_of_ble_eq_true rfl) dI_condition_61 ⟨rfl, rfl, (Nat.le_of_ble_eq_true rfl), (Nat.le_of_ble_eq_true rfl)⟩ ⟨(Nat.le_of_ble_eq_true rfl), (Nat.le_of_ble_eq_true rfl)⟩) hB (fun M1 H locs hp hB => ?_)
              subst hp
              have hR := hR.setl hk hq hi9 ((lf i).1, 1, (lf i).2.2.1, t)
              have hq : va_up σ k (h, it, n, st, some i, db, du, fa, en, va_up lf i ((lf i).1, 1, (lf i).2.2.1, t)) k = (h, it, n, st, some i, db, du, fa, en, va_up lf i ((lf i).1, 1, (lf i).2.2.1, t)) := va_up_self _ _ _
              generalize gU M (la k i) (oL ((lf i).1, 1, (lf i).2.2.1, t)) = M at hB hR
              refine lv_aload hx hb dI_condition_64 (lv_at hl 1 rfl) ?_
              refine lv_iconst (v := 1) hx hb dI_condition_66 (by decide) ?_
              refine gg_put (ty := .int) (v := .int 1) hx hb hts in_Q t_Q t_Q_ok n_Q hown hK hB (hR.q hk hq) rfl 4 (by decide) k_67 rfl rfl (by decide +kernel) rfl rfl (Nat.le_of_ble_eq_true rfl) dI_condition_67 (fun H locs hB => ?_)
              have hR := hR.setq hk hq (h, it, n, 1, some i, db, du, fa, en, va_up lf i ((lf i).1, 1, (lf i).2.2.1, t)) rfl rfl (fun i9 hi9 => hR.ho hk hq i9 hi9)
              simp only [bx_uu] at hR
              have hq : va_up σ k (h, it, n, 1, some i, db, du, fa, en, va_up lf i ((lf i).1, 1, (lf i).2.2.1, t)) k = (h, it, n, 1, some i, db, du, fa, en, va_up lf i ((lf i).1, 1, (lf i).2.2.1, t)) := va_up_self _ _ _
              have hB : gB (dC, dI) gcl z (gU M (ra k) (oQ (h, it, n, 1, some i, db, du, fa, en, va_up lf i ((lf i).1, 1, (lf i).2.2.1, t)) (sa k) (la k))) s.heap H locs := hB
              generalize gU M (ra k) (oQ (h, it, n, 1, some i, db, du, fa, en, va_up lf i ((lf i).1, 1, (lf i).2.2.1, t)) (sa k) (la k)) = M at hB hR
              refine lv_goto (tgt := 86) hx hb dI_condition_70 (by decide) ?_
              refine lv_aload hx hb dI_condition_86 (lv_at hl 1 rfl) ?_
              refine gg_get (v := .int 1) hx hb hts in_Q hown hK hB (hR.q hk hq) rfl 4 (by decide) k_67 rfl rfl dI_condition_88 ?_
              exact gg_iret hx hb hr hlocks hKA hB dI_condition_91 (by decide) (by decide) (cP_of (show sCond hs lt lw cn σ r yes t = (1, t, lw, cn, va_up σ k (h, it, n, 1, some i, db, du, fa, en, va_up lf i ((lf i).1, 1, (lf i).2.2.1, t))) from by simp [sCond, hi, hT1, c19, c38, c55, hq0, qyes, qno, lset]) ⟨hR, rfl⟩)
      · exact absurd c19 (by decide)
set_option maxHeartbeats 4000000 in
set_option maxRecDepth 100000 in
theorem c_I_message (l : Launch) (dC : Nat → ClassId) (dI : Nat → Nat → Nat) (dA : Nat → ClassId) (z : Nat) (M0 M : gM) (o ar : Nat) (ra sa : Nat → Nat) (la : Nat → Nat → Nat) (hs lt lw : Int32) (cn : Nat) (σ : Nat → Rq) (hR : cW dA M0 M o ar ra sa la hs lt lw cn σ) (r h9 number kind v t : Int32) : gMi l dC dI dA z y_I_message b_I_message 9 (Option.some FieldType.int) ⟨3, 0, 0, 69⟩ [.ref o, .int r, .int h9, .int number, .int kind, .int v, .int t] M (cP dA M0 o ar ra sa la hs (sMessage hs lt lw cn σ r h9 number kind v t)) 0 0 := by
  refine gOfW (by decide) (Nat.le_of_ble_eq_true rfl) ?_
  intro p e s m below meth c ls hF hr hlocks hnm hKA hB hl
  obtain ⟨hx, hb, hml, hown, hts⟩ := id hF
  have hK := hKA.1
  have hl : lv_has ls 9 [(0, .ref o), (1, .int r), (2, .int h9), (3, .int number), (4, .int kind), (5, .int v), (6, .int t)] := hl
  refine lv_aload_n hx hb dI_message_0 rfl (lv_at hl 0 rfl) ?_
  refine lv_iload_n hx hb dI_message_1 rfl (lv_at hl 1 rfl) ?_
  refine gEndq (gRunV hF (c_I_find l dC dI dA z M0 M o ar ra sa la hs lt lw cn σ hR r) ln_I_46 hKA hB hR.top rfl rfl hl.1 rfl (Nat.le_of_ble_eq_true rfl) dI_message_2 ⟨rfl, rfl, (Nat.le_of_ble_eq_true rfl), (Nat.le_of_ble_eq_true rfl)⟩ ⟨(Nat.le_of_ble_eq_true rfl), (Nat.le_of_ble_eq_true rfl)⟩) hB (fun y M1 H locs hp hB => ?_)
  obtain ⟨e1, e2⟩ := hp
  rw [e1] at hB
  cases hi : ix cn r with
  | none =>
    have e2 : y = none := by rw [e2, hi]; rfl
    subst e2
    refine lv_astoreN (lv' := [(7, .null), (0, .ref o), (1, .int r), (2, .int h9), (3, .int number), (4, .int kind), (5, .int v), (6, .int t)]) hx hb dI_message_5 hl (by decide) rfl (fun ls hl => ?_)
    refine lv_aloadN hx hb dI_message_7 (lv_at hl 0 rfl) ?_
    refine lv_ifnullN (tgt := 20) hx hb dI_message_9 (by decide) ?_
    refine lv_iconst (v := (-1)) hx hb dI_message_20 (by decide) ?_
    exact gg_iret hx hb hr hlocks hKA hB dI_message_21 (by decide) (by decide) (cP_of (show sMessage hs lt lw cn σ r h9 number kind v t = ((-1), lt, lw, cn, σ) from by simp [sMessage, hi, qnum, qdbl]) ⟨hR, rfl⟩)
  | some k =>
    have e2 : y = some (ra k) := by rw [e2, hi]; rfl
    subst e2
    obtain ⟨hk, hr9⟩ := ix_some (by have := hR.c100; omega) hi
    obtain ⟨⟨h, it, n, st, ho, db, du, fa, en, lf⟩, hq⟩ : ∃ q, σ k = q := ⟨_, rfl⟩
    have hq0 := hq
    refine lv_astore (lv' := [(7, .ref (ra k)), (0, .ref o), (1, .int r), (2, .int h9), (3, .int number), (4, .int kind), (5, .int v), (6, .int t)]) hx hb dI_message_5 hl (by decide) rfl (fun ls hl => ?_)
    refine lv_aload hx hb dI_message_7 (lv_at hl 0 rfl) ?_
    refine lv_ifnull hx hb dI_message_9 ?_
    refine lv_aload_n hx hb dI_message_12 rfl (lv_at hl 1 rfl) ?_
    refine lv_iload_n hx hb dI_message_13 rfl (lv_at hl 3 rfl) ?_
    refine gEndi (gRunV hF (c_I_isHouse l dC dI dA z M0 M o ar ra sa la hs lt lw cn σ hR h9) ln_I_38 hKA hB hR.top rfl rfl hl.1 rfl (Nat.le_of_ble_eq_true rfl) dI_message_14 ⟨rfl, rfl, (Nat.le_of_ble_eq_true rfl), (Nat.le_of_ble_eq_true rfl)⟩ ⟨(Nat.le_of_ble_eq_true rfl), (Nat.le_of_ble_eq_true rfl)⟩) hB (fun y1 M1 H locs hp hB => ?_)
    obtain ⟨e1, e2⟩ := hp
    rw [e1] at hB
    cases hH1 : bH hs h9 with
    | false =>
      have e2 : y1 = 0 := by rw [e2, hH1]; rfl
      subst e2
      refine lv_if_ne (tgt := 22) hx hb dI_message_17 (by decide) (fun c17 => ?_) (fun c17 => ?_)
      · exact (c17 (by decide)).elim
      · refine lv_iconst (v := (-1)) hx hb dI_message_20 (by decide) ?_
        exact gg_iret hx hb hr hlocks hKA hB dI_message_21 (by decide) (by decide) (cP_of (show sMessage hs lt lw cn σ r h9 number kind v t = ((-1), lt, lw, cn, σ) from by simp [sMessage, hi, hH1, c17, hq0, qnum, qdbl]) ⟨hR, rfl⟩)
    | true =>
      have e2 : y1 = 1 := by rw [e2, hH1]; rfl
      subst e2
      refine lv_if_ne (tgt := 22) hx hb dI_message_17 (by decide) (fun c17 => ?_) (fun c17 => ?_)
      · refine lv_aload_n hx hb dI_message_22 rfl (lv_at hl 1 rfl) ?_
        refine lv_iload hx hb dI_message_23 (lv_at hl 7 rfl) ?_
        refine gEndi (gRunV hF (c_I_isTime l dC dI dA z M0 M o ar ra sa la hs lt lw cn σ hR t) ln_I_71 hKA hB hR.top rfl rfl hl.1 rfl (Nat.le_of_ble_eq_true rfl) dI_message_25 ⟨rfl, rfl, (Nat.le_of_ble_eq_true rfl), (Nat.le_of_ble_eq_true rfl)⟩ ⟨(Nat.le_of_ble_eq_true rfl), (Nat.le_of_ble_eq_true rfl)⟩) hB (fun y2 M1 H locs hp hB => ?_)
        obtain ⟨e1, e2⟩ := hp
        rw [e1] at hB
        cases hT2 : bT lt t with
        | false =>
          have e2 : y2 = 0 := by rw [e2, hT2]; rfl
          subst e2
          refine lv_if_eq (tgt := 44) hx hb dI_message_28 (by decide) (fun c28 => ?_) (fun c28 => ?_)
          · refine lv_bipush (v := (-2)) hx hb dI_message_44 (by decide) ?_
            exact gg_iret hx hb hr hlocks hKA hB dI_message_46 (by decide) (by decide) (cP_of (show sMessage hs lt lw cn σ r h9 number kind v t = ((-2), lt, lw, cn, σ) from by simp [sMessage, hi, hH1, c17, hT2, c28, hq0, qnum, qdbl]) ⟨hR, rfl⟩)
          · exact (c28 (by decide)).elim
        | true =>
          have e2 : y2 = 1 := by rw [e2, hT2]; rfl
          subst e2
          refine lv_if_eq (tgt := 44) hx hb dI_message_28 (by decide) (fun c28 => ?_) (fun c28 => ?_)
          · exact absurd c28 (by decide)
          · refine lv_iload_n hx hb dI_message_31 rfl (lv_at hl 4 rfl) ?_
            refine lv_iload hx hb dI_message_32 (lv_at hl 5 rfl) ?_
            refine lv_iload hx hb dI_message_34 (lv_at hl 6 rfl) ?_
            refine lv_iload hx hb dI_message_36 (lv_at hl 7 rfl) ?_
            refine gEndi (gRunS hF (c_I_isMessage l dC dI dA z M number kind v t) ln_I_82 hKA hB rfl hl.1 rfl (Nat.le_of_ble_eq_true rfl) dI_message_38 ⟨rfl, rfl, (Nat.le_of_ble_eq_true rfl), (Nat.le_of_ble_eq_true rfl)⟩ ⟨(Nat.le_of_ble_eq_true rfl), (Nat.le_of_ble_eq_true rfl)⟩) hB (fun y3 M1 H locs hp hB => ?_)
            obtain ⟨e1, e2⟩ := hp
            rw [e1] at hB
            cases hM3 : bM number kind v t with
            | false =>
              have e2 : y3 = 0 := by rw [e2, hM3]; rfl
              subst e2
              refine lv_if_ne (tgt := 47) hx hb dI_message_41 (by decide) (fun c41 => ?_) (fun c41 => ?_)
              · exact (c41 (by decide)).elim
              · refine lv_bipush (v := (-2)) hx hb dI_message_44 (by decide) ?_
                exact gg_iret hx hb hr hlocks hKA hB dI_message_46 (by decide) (by decide) (cP_of (show sMessage hs lt lw cn σ r h9 number kind v t = ((-2), lt, lw, cn, σ) from by simp [sMessage, hi, hH1, c17, hT2, c28, hM3, c41, hq0, qnum, qdbl]) ⟨hR, rfl⟩)
            | true =>
              have e2 : y3 = 1 := by rw [e2, hM3]; rfl
              subst e2
              refine lv_if_ne (tgt := 47) hx hb dI_message_41 (by decide) (fun c41 => ?_) (fun c41 => ?_)
              · refine lv_aload hx hb dI_message_47 (lv_at hl 0 rfl) ?_
                refine gg_get (v := va_rf (Option.map (la k) ho)) hx hb hts in_Q hown hK hB (hR.q hk hq) rfl 5 (by decide) k_69 rfl rfl dI_message_49 ?_
                rcases ho with _ | i
                · skip
                  refine lv_astoreN (lv' := [(8, .null), (7, .ref (ra k)), (0, .ref o), (1, .int r), (2, .int h9), (3, .int number), (4, .int kind), (5, .int v), (6, .int t)]) hx hb dI_message_52 hl (by decide) rfl (fun ls hl => ?_)
                  refine lv_aloadN hx hb dI_message_54 (lv_at hl 0 rfl) ?_
                  refine lv_ifnullN (tgt := 76) hx hb dI_message_56 (by decide) ?_
                  refine lv_bipush (v := (-5)) hx hb dI_message_76 (by decide) ?_
                  exact gg_iret hx hb hr hlocks hKA hB dI_message_78 (by decide) (by decide) (cP_of (show sMessage hs lt lw cn σ r h9 number kind v t = ((-5), lt, lw, cn, σ) from by simp [sMessage, hi, hH1, c17, hT2, c28, hM3, c41, hq0, qnum, qdbl]) ⟨hR, rfl⟩)
                · have hi9 : i < n := hR.ho hk hq i rfl
                  refine lv_astore (lv' := [(8, .ref (la k i)), (7, .ref (ra k)), (0, .ref o), (1, .int r), (2, .int h9), (3, .int number), (4, .int kind), (5, .int v), (6, .int t)]) hx hb dI_message_52 hl (by decide) rfl (fun ls hl => ?_)
                  refine lv_aload hx hb dI_message_54 (lv_at hl 0 rfl) ?_
                  refine lv_ifnull hx hb dI_message_56 ?_
                  refine lv_aload hx hb dI_message_59 (lv_at hl 0 rfl) ?_
                  refine gg_get (v := .int ((lf i).1)) hx hb hts in_L hown hK hB (hR.l hk hq hi9 rfl) rfl 0 (by decide) k_119 rfl rfl dI_message_61 ?_
                  refine lv_iload_n hx hb dI_message_64 rfl (lv_at hl 4 rfl) ?_
                  refine lv_icmp_ne (tgt := 76) hx hb dI_message_65 (by decide) (fun c65 => ?_) (fun c65 => ?_)
                  · refine lv_bipush (v := (-5)) hx hb dI_message_76 (by decide) ?_
                    exact gg_iret hx hb hr hlocks hKA hB dI_message_78 (by decide) (by decide) (cP_of (show sMessage hs lt lw cn σ r h9 number kind v t = ((-5), lt, lw, cn, σ) from by simp [sMessage, hi, hH1, c17, hT2, c28, hM3, c41, c65, hq0, qnum, qdbl]) ⟨hR, rfl⟩)
                  · refine lv_aload hx hb dI_message_68 (lv_at hl 0 rfl) ?_
                    refine gEndi (gRunV hF (c_L_holds l dC dI dA z M (la k i) (lf i).1 (lf i).2.1 (lf i).2.2.1 (lf i).2.2.2 (hR.l hk hq hi9 rfl)) ln_I_86 hKA hB (hR.l hk hq hi9 rfl) rfl rfl hl.1 rfl (Nat.le_of_ble_eq_true rfl) dI_message_70 ⟨rfl, rfl, (Nat.le_of_ble_eq_true rfl), (Nat.le_of_ble_eq_true rfl)⟩ ⟨(Nat.le_of_ble_eq_true rfl), (Nat.le_of_ble_eq_true rfl)⟩) hB (fun y4 M1 H locs hp hB => ?_)
                    obtain ⟨e1, e2⟩ := hp
                    rw [e1] at hB
                    rw [bO_eq] at e2
                    cases hO4 : bO (lf i).2.1 with
                    | false =>
                      have e2 : y4 = 0 := by rw [e2, hO4]; rfl
                      subst e2
                      refine lv_if_ne (tgt := 79) hx hb dI_message_73 (by decide) (fun c73 => ?_) (fun c73 => ?_)
                      · exact (c73 (by decide)).elim
                      · refine lv_bipush (v := (-5)) hx hb dI_message_76 (by decide) ?_
                        exact gg_iret hx hb hr hlocks hKA hB dI_message_78 (by decide) (by decide) (cP_of (show sMessage hs lt lw cn σ r h9 number kind v t = ((-5), lt, lw, cn, σ) from by simp [sMessage, hi, hH1, c17, hT2, c28, hM3, c41, c65, hO4, c73, hq0, qnum, qdbl]) ⟨hR, rfl⟩)
                    | true =>
                      have e2 : y4 = 1 := by rw [e2, hO4]; rfl
                      subst e2
                      refine lv_if_ne (tgt := 79) hx hb dI_message_73 (by decide) (fun c73 => ?_) (fun c73 => ?_)
                      · refine lv_iload_n hx hb dI_message_79 rfl (lv_at hl 5 rfl) ?_
                        refine lv_aload hx hb dI_message_80 (lv_at hl 0 rfl) ?_
                        refine gg_get (v := .int ((lf i).2.2.1)) hx hb hts in_L hown hK hB (hR.l hk hq hi9 rfl) rfl 2 (by decide) k_124 rfl rfl dI_message_82 ?_
                        refine lv_icmp_gt (tgt := 102) hx hb dI_message_85 (by decide) (fun c85 => ?_) (fun c85 => ?_)
                        · refine lv_iload hx hb dI_message_102 (lv_at hl 6 rfl) ?_
                          refine lv_aload hx hb dI_message_104 (lv_at hl 1 rfl) ?_
                          refine gg_get (v := .int st) hx hb hts in_Q hown hK hB (hR.q hk hq) rfl 4 (by decide) k_67 rfl rfl dI_message_106 ?_
                          refine lv_aload hx hb dI_message_109 (lv_at hl 0 rfl) ?_
                          refine gg_get (v := .int ((lf i).2.1)) hx hb hts in_L hown hK hB (hR.l hk hq hi9 rfl) rfl 1 (by decide) k_122 rfl rfl dI_message_111 ?_
                          refine gEndi (gRunS hF (c_I_fits l dC dI dA z M kind st (lf i).2.1) ln_I_97 hKA hB rfl hl.1 rfl (Nat.le_of_ble_eq_true rfl) dI_message_114 ⟨rfl, rfl, (Nat.le_of_ble_eq_true rfl), (Nat.le_of_ble_eq_true rfl)⟩ ⟨(Nat.le_of_ble_eq_true rfl), (Nat.le_of_ble_eq_true rfl)⟩) hB (fun y5 M1 H locs hp hB => ?_)
                          obtain ⟨e1, e2⟩ := hp
                          rw [e1] at hB
                          cases hF95 : bF kind st (lf i).2.1 with
                          | false =>
                            have e2 : y5 = 0 := by rw [e2, hF95]; rfl
                            subst e2
                            refine lv_if_ne (tgt := 123) hx hb dI_message_117 (by decide) (fun c117 => ?_) (fun c117 => ?_)
                            · exact (c117 (by decide)).elim
                            · refine lv_bipush (v := (-3)) hx hb dI_message_120 (by decide) ?_
                              exact gg_iret hx hb hr hlocks hKA hB dI_message_122 (by decide) (by decide) (cP_of (show sMessage hs lt lw cn σ r h9 number kind v t = ((-3), lt, lw, cn, σ) from by simp [sMessage, hi, hH1, c17, hT2, c28, hM3, c41, c65, hO4, c73, c85, hF95, c117, i32_nle c85, hq0, qnum, qdbl]) ⟨hR, rfl⟩)
                          | true =>
                            have e2 : y5 = 1 := by rw [e2, hF95]; rfl
                            subst e2
                            refine lv_if_ne (tgt := 123) hx hb dI_message_117 (by decide) (fun c117 => ?_) (fun c117 => ?_)
                            · refine lv_aload_n hx hb dI_message_123 rfl (lv_at hl 2 rfl) ?_
                              refine lv_iload hx hb dI_message_124 (lv_at hl 8 rfl) ?_
                              refine gg_put (ty := .int) (v := .int t) hx hb hts in_I t_I t_I_ok n_I hown hK hB hR.top rfl 3 (by decide) k_30 rfl rfl (by decide +kernel) rfl rfl (Nat.le_of_ble_eq_true rfl) dI_message_126 (fun H locs hB => ?_)
                              have hR := hR.setTop t lw
                              have hB : gB (dC, dI) gcl z (gU M o (oI hs ar cn t lw)) s.heap H locs := hB
                              generalize gU M o (oI hs ar cn t lw) = M at hB hR
                              refine lv_aload hx hb dI_message_129 (lv_at hl 0 rfl) ?_
                              refine lv_iload_n hx hb dI_message_131 rfl (lv_at hl 5 rfl) ?_
                              refine gg_put (ty := .int) (v := .int number) hx hb hts in_L t_L t_L_ok n_L hown hK hB (hR.l hk hq hi9 rfl) rfl 2 (by decide) k_124 rfl rfl (by decide +kernel) rfl rfl (Nat.le_of_ble_eq_true rfl) dI_message_132 (fun H locs hB => ?_)
                              have hR := hR.setl hk hq hi9 ((lf i).1, (lf i).2.1, number, (lf i).2.2.2)
                              have hq : va_up σ k (h, it, n, st, some i, db, du, fa, en, va_up lf i ((lf i).1, (lf i).2.1, number, (lf i).2.2.2)) k = (h, it, n, st, some i, db, du, fa, en, va_up lf i ((lf i).1, (lf i).2.1, number, (lf i).2.2.2)) := va_up_self _ _ _
                              have hB : gB (dC, dI) gcl z (gU M (la k i) (oL ((lf i).1, (lf i).2.1, number, (lf i).2.2.2))) s.heap H locs := hB
                              generalize gU M (la k i) (oL ((lf i).1, (lf i).2.1, number, (lf i).2.2.2)) = M at hB hR
                              refine lv_aload hx hb dI_message_135 (lv_at hl 0 rfl) ?_
                              refine lv_iload hx hb dI_message_137 (lv_at hl 8 rfl) ?_
                              refine gg_put (ty := .int) (v := .int t) hx hb hts in_L t_L t_L_ok n_L hown hK hB (hR.l hk hq hi9 (va_up_self _ _ _)) rfl 3 (by decide) k_126 rfl rfl (by decide +kernel) rfl rfl (Nat.le_of_ble_eq_true rfl) dI_message_139 (fun H locs hB => ?_)
                              have hR := hR.setl hk hq hi9 ((lf i).1, (lf i).2.1, number, t)
                              simp only [bx_uu] at hR
                              have hq : va_up σ k (h, it, n, st, some i, db, du, fa, en, va_up lf i ((lf i).1, (lf i).2.1, number, t)) k = (h, it, n, st, some i, db, du, fa, en, va_up lf i ((lf i).1, (lf i).2.1, number, t)) := va_up_self _ _ _
                              have hB : gB (dC, dI) gcl z (gU M (la k i) (oL ((lf i).1, (lf i).2.1, number, t))) s.heap H locs := hB
                              generalize gU M (la k i) (oL ((lf i).1, (lf i).2.1, number, t)) = M at hB hR
                              refine lv_aload hx hb dI_message_142 (lv_at hl 1 rfl) ?_
                              refine lv_aload hx hb dI_message_144 (lv_at hl 0 rfl) ?_
                              refine lv_iload hx hb dI_message_146 (lv_at hl 6 rfl) ?_
                              refine lv_iload hx hb dI_message_148 (lv_at hl 7 rfl) ?_
                              refine lv_iload hx hb dI_message_150 (lv_at hl 8 rfl) ?_
                              refine gEndv (gRunS hF (c_I_take l dC dI dA z M0 M o ar ra sa la hs t lw cn _ hR k i hk (by rw [hq]; exact hi9) kind v t) ln_I_104 hKA hB rfl hl.1 rfl (Nat.le_of_ble_eq_true rfl) dI_message_152 ⟨rfl, rfl, (Nat.le_of_ble_eq_true rfl), (Nat.le_of_ble_eq_true rfl)⟩ ⟨(Nat.le_of_ble_eq_true rfl), (Nat.le_of_ble_eq_true rfl)⟩) hB (fun M1 H locs hp hB => ?_)
                              rw [hq, bx_uu] at hp
                              obtain ⟨⟨h2, it2, n2, st2, ho2, db2, du2, fa2, en2, lf2⟩, hq2⟩ : ∃ q, qtake (h, it, n, st, some i, db, du, fa, en, va_up lf i ((lf i).1, (lf i).2.1, number, t)) i kind v t = q := ⟨_, rfl⟩
                              have hR := hp
                              have hq := (va_up_self σ k (qtake (h, it, n, st, some i, db, du, fa, en, va_up lf i ((lf i).1, (lf i).2.1, number, t)) i kind v t)).trans hq2
                              generalize M1 = M at hB hR
                              refine lv_aload hx hb dI_message_155 (lv_at hl 1 rfl) ?_
                              refine gg_get (v := .int st2) hx hb hts in_Q hown hK hB (hR.q hk hq) rfl 4 (by decide) k_67 rfl rfl dI_message_157 ?_
                              have hq3 := hq2
                              try simp only [hi, hH1, c17, hT2, c28, hM3, c41, c65, hO4, c73, c85, hF95, c117] at hq3
                              exact gg_iret hx hb hr hlocks hKA hB dI_message_160 (by decide) (by decide) (cP_of (show sMessage hs lt lw cn σ r h9 number kind v t = (st2, t, lw, cn, va_up σ k (qtake (h, it, n, st, some i, db, du, fa, en, va_up lf i ((lf i).1, (lf i).2.1, number, t)) i kind v t)) from by simp [sMessage, hi, hH1, c17, hT2, c28, hM3, c41, c65, hO4, c73, c85, hF95, c117, i32_nle c85, hq0, hq3, qnum, qdbl]) ⟨hR, rfl⟩)
                            · exact absurd c117 (by decide)
                        · refine lv_aload hx hb dI_message_88 (lv_at hl 1 rfl) ?_
                          refine lv_dup hx hb dI_message_90 rfl ?_
                          refine gg_get (v := .int db) hx hb hts in_Q hown hK hB (hR.q hk hq) rfl 6 (by decide) k_71 rfl rfl dI_message_91 ?_
                          refine lv_iconst (v := 1) hx hb dI_message_94 (by decide) ?_
                          refine lv_iadd hx hb dI_message_95 ?_
                          refine gg_put (ty := .int) (v := .int (db + 1)) hx hb hts in_Q t_Q t_Q_ok n_Q hown hK hB (hR.q hk hq) rfl 6 (by decide) k_71 rfl rfl (by decide +kernel) rfl rfl (Nat.le_of_ble_eq_true rfl) dI_message_96 (fun H locs hB => ?_)
                          have hR := hR.setq hk hq (h, it, n, st, some i, (db + 1), du, fa, en, lf) rfl rfl (fun i9 hi9 => hR.ho hk hq i9 hi9)
                          have hq : va_up σ k (h, it, n, st, some i, (db + 1), du, fa, en, lf) k = (h, it, n, st, some i, (db + 1), du, fa, en, lf) := va_up_self _ _ _
                          have hB : gB (dC, dI) gcl z (gU M (ra k) (oQ (h, it, n, st, some i, (db + 1), du, fa, en, lf) (sa k) (la k))) s.heap H locs := hB
                          generalize gU M (ra k) (oQ (h, it, n, st, some i, (db + 1), du, fa, en, lf) (sa k) (la k)) = M at hB hR
                          refine lv_bipush (v := (-6)) hx hb dI_message_99 (by decide) ?_
                          exact gg_iret hx hb hr hlocks hKA hB dI_message_101 (by decide) (by decide) (cP_of (show sMessage hs lt lw cn σ r h9 number kind v t = ((-6), lt, lw, cn, va_up σ k (h, it, n, st, some i, (db + 1), du, fa, en, lf)) from by simp [sMessage, hi, hH1, c17, hT2, c28, hM3, c41, c65, hO4, c73, c85, hq0, qnum, qdbl]) ⟨hR, rfl⟩)
                      · exact absurd c73 (by decide)
              · exact absurd c41 (by decide)
      · exact absurd c17 (by decide)
set_option maxHeartbeats 4000000 in
set_option maxRecDepth 100000 in
theorem c_I_statistics (l : Launch) (dC : Nat → ClassId) (dI : Nat → Nat → Nat) (dA : Nat → ClassId) (z : Nat) (M0 M : gM) (o ar : Nat) (ra sa : Nat → Nat) (la : Nat → Nat → Nat) (hs lt lw : Int32) (cn : Nat) (σ : Nat → Rq) (hR : cW dA M0 M o ar ra sa la hs lt lw cn σ) (h9 x : Int32) : gMi l dC dI dA z y_I_statistics b_I_statistics 3 (Option.some FieldType.int) ⟨2, 0, 0, 53⟩ [.ref o, .int h9, .int x] M (fun y M1 => cW dA M0 M1 o ar ra sa la hs lt lw cn σ ∧ y = aStat hs cn σ h9 x) 0 0 := by
  refine gOfW (by decide) (Nat.le_of_ble_eq_true rfl) ?_
  intro p e s m below meth c ls hF hr hlocks hnm hKA hB hl
  obtain ⟨hx, hb, hml, hown, hts⟩ := id hF
  have hK := hKA.1
  have hl : lv_has ls 3 [(0, .ref o), (1, .int h9), (2, .int x)] := hl
  refine lv_aload_n hx hb dI_statistics_0 rfl (lv_at hl 0 rfl) ?_
  refine lv_iload_n hx hb dI_statistics_1 rfl (lv_at hl 1 rfl) ?_
  refine gEndi (gRunV hF (c_I_isHouse l dC dI dA z M0 M o ar ra sa la hs lt lw cn σ hR h9) ln_I_38 hKA hB hR.top rfl rfl hl.1 rfl (Nat.le_of_ble_eq_true rfl) dI_statistics_2 ⟨rfl, rfl, (Nat.le_of_ble_eq_true rfl), (Nat.le_of_ble_eq_true rfl)⟩ ⟨(Nat.le_of_ble_eq_true rfl), (Nat.le_of_ble_eq_true rfl)⟩) hB (fun y1 M1 H locs hp hB => ?_)
  obtain ⟨e1, e2⟩ := hp
  rw [e1] at hB
  cases hH1 : bH hs h9 with
  | false =>
    have e2 : y1 = 0 := by rw [e2, hH1]; rfl
    subst e2
    refine lv_if_ne (tgt := 10) hx hb dI_statistics_5 (by decide) (fun c5 => ?_) (fun c5 => ?_)
    · exact (c5 (by decide)).elim
    · refine lv_iconst (v := (-1)) hx hb dI_statistics_8 (by decide) ?_
      exact gg_iret hx hb hr hlocks hKA hB dI_statistics_9 (by decide) (by decide) ⟨hR, by simp [aStat, hH1, c5] <;> rfl⟩
  | true =>
    have e2 : y1 = 1 := by rw [e2, hH1]; rfl
    subst e2
    refine lv_if_ne (tgt := 10) hx hb dI_statistics_5 (by decide) (fun c5 => ?_) (fun c5 => ?_)
    · refine lv_iload_n hx hb dI_statistics_10 rfl (lv_at hl 2 rfl) ?_
      by_cases s11_0 : x = 0
      · refine lv_tableIn (tgt := 48) hx hb dI_statistics_11 (by rw [s11_0]; decide) (by rw [s11_0]; decide) (by rw [s11_0]; rfl) (by decide) ?_
        refine lv_aload_n hx hb dI_statistics_48 rfl (lv_at hl 0 rfl) ?_
        refine lv_iload_n hx hb dI_statistics_49 rfl (lv_at hl 1 rfl) ?_
        refine gEndi (gRunV hF (c_I_requestsOf l dC dI dA z M0 M o ar ra sa la hs lt lw cn σ hR h9) ln_I_148 hKA hB hR.top rfl rfl hl.1 rfl (Nat.le_of_ble_eq_true rfl) dI_statistics_50 ⟨rfl, rfl, (Nat.le_of_ble_eq_true rfl), (Nat.le_of_ble_eq_true rfl)⟩ ⟨(Nat.le_of_ble_eq_true rfl), (Nat.le_of_ble_eq_true rfl)⟩) hB (fun y2 M1 H locs hp hB => ?_)
        obtain ⟨e1, rfl⟩ := hp
        rw [e1] at hB
        exact gg_iret hx hb hr hlocks hKA hB dI_statistics_53 (by decide) (by decide) ⟨hR, by simp [aStat, hH1, c5, s11_0] <;> rfl⟩
      by_cases s11_1 : x = 1
      · refine lv_tableIn (tgt := 54) hx hb dI_statistics_11 (by rw [s11_1]; decide) (by rw [s11_1]; decide) (by rw [s11_1]; rfl) (by decide) ?_
        refine lv_aload_n hx hb dI_statistics_54 rfl (lv_at hl 0 rfl) ?_
        refine lv_iload_n hx hb dI_statistics_55 rfl (lv_at hl 1 rfl) ?_
        refine lv_bipush (v := 6) hx hb dI_statistics_56 (by decide) ?_
        refine gEndi (gRunV hF (c_I_requestsIn l dC dI dA z M0 M o ar ra sa la hs lt lw cn σ hR h9 6) ln_I_152 hKA hB hR.top rfl rfl hl.1 rfl (Nat.le_of_ble_eq_true rfl) dI_statistics_58 ⟨rfl, rfl, (Nat.le_of_ble_eq_true rfl), (Nat.le_of_ble_eq_true rfl)⟩ ⟨(Nat.le_of_ble_eq_true rfl), (Nat.le_of_ble_eq_true rfl)⟩) hB (fun y3 M1 H locs hp hB => ?_)
        obtain ⟨e1, rfl⟩ := hp
        rw [e1] at hB
        exact gg_iret hx hb hr hlocks hKA hB dI_statistics_61 (by decide) (by decide) ⟨hR, by simp [aStat, hH1, c5, s11_1] <;> rfl⟩
      by_cases s11_2 : x = 2
      · refine lv_tableIn (tgt := 62) hx hb dI_statistics_11 (by rw [s11_2]; decide) (by rw [s11_2]; decide) (by rw [s11_2]; rfl) (by decide) ?_
        refine lv_aload_n hx hb dI_statistics_62 rfl (lv_at hl 0 rfl) ?_
        refine lv_iload_n hx hb dI_statistics_63 rfl (lv_at hl 1 rfl) ?_
        refine lv_bipush (v := 7) hx hb dI_statistics_64 (by decide) ?_
        refine gEndi (gRunV hF (c_I_requestsIn l dC dI dA z M0 M o ar ra sa la hs lt lw cn σ hR h9 7) ln_I_152 hKA hB hR.top rfl rfl hl.1 rfl (Nat.le_of_ble_eq_true rfl) dI_statistics_66 ⟨rfl, rfl, (Nat.le_of_ble_eq_true rfl), (Nat.le_of_ble_eq_true rfl)⟩ ⟨(Nat.le_of_ble_eq_true rfl), (Nat.le_of_ble_eq_true rfl)⟩) hB (fun y4 M1 H locs hp hB => ?_)
        obtain ⟨e1, rfl⟩ := hp
        rw [e1] at hB
        exact gg_iret hx hb hr hlocks hKA hB dI_statistics_69 (by decide) (by decide) ⟨hR, by simp [aStat, hH1, c5, s11_2] <;> rfl⟩
      by_cases s11_3 : x = 3
      · refine lv_tableIn (tgt := 70) hx hb dI_statistics_11 (by rw [s11_3]; decide) (by rw [s11_3]; decide) (by rw [s11_3]; rfl) (by decide) ?_
        refine lv_aload_n hx hb dI_statistics_70 rfl (lv_at hl 0 rfl) ?_
        refine lv_iload_n hx hb dI_statistics_71 rfl (lv_at hl 1 rfl) ?_
        refine lv_iconst (v := 4) hx hb dI_statistics_72 (by decide) ?_
        refine gEndi (gRunV hF (c_I_lentIn l dC dI dA z M0 M o ar ra sa la hs lt lw cn σ hR h9 4) ln_I_155 hKA hB hR.top rfl rfl hl.1 rfl (Nat.le_of_ble_eq_true rfl) dI_statistics_73 ⟨rfl, rfl, (Nat.le_of_ble_eq_true rfl), (Nat.le_of_ble_eq_true rfl)⟩ ⟨(Nat.le_of_ble_eq_true rfl), (Nat.le_of_ble_eq_true rfl)⟩) hB (fun y5 M1 H locs hp hB => ?_)
        obtain ⟨e1, rfl⟩ := hp
        rw [e1] at hB
        refine lv_aload_n hx hb dI_statistics_76 rfl (lv_at hl 0 rfl) ?_
        refine lv_iload_n hx hb dI_statistics_77 rfl (lv_at hl 1 rfl) ?_
        refine lv_iconst (v := 5) hx hb dI_statistics_78 (by decide) ?_
        refine gEndi (gRunV hF (c_I_lentIn l dC dI dA z M0 M o ar ra sa la hs lt lw cn σ hR h9 5) ln_I_155 hKA hB hR.top rfl rfl hl.1 rfl (Nat.le_of_ble_eq_true rfl) dI_statistics_79 ⟨rfl, rfl, (Nat.le_of_ble_eq_true rfl), (Nat.le_of_ble_eq_true rfl)⟩ ⟨(Nat.le_of_ble_eq_true rfl), (Nat.le_of_ble_eq_true rfl)⟩) hB (fun y6 M1 H locs hp hB => ?_)
        obtain ⟨e1, rfl⟩ := hp
        rw [e1] at hB
        refine lv_iadd hx hb dI_statistics_82 ?_
        exact gg_iret hx hb hr hlocks hKA hB dI_statistics_83 (by decide) (by decide) ⟨hR, by simp [aStat, hH1, c5, s11_3] <;> rfl⟩
      by_cases s11_4 : x = 4
      · refine lv_tableIn (tgt := 84) hx hb dI_statistics_11 (by rw [s11_4]; decide) (by rw [s11_4]; decide) (by rw [s11_4]; rfl) (by decide) ?_
        refine lv_aload_n hx hb dI_statistics_84 rfl (lv_at hl 0 rfl) ?_
        refine lv_iload_n hx hb dI_statistics_85 rfl (lv_at hl 1 rfl) ?_
        refine lv_bipush (v := 6) hx hb dI_statistics_86 (by decide) ?_
        refine gEndi (gRunV hF (c_I_lentIn l dC dI dA z M0 M o ar ra sa la hs lt lw cn σ hR h9 6) ln_I_155 hKA hB hR.top rfl rfl hl.1 rfl (Nat.le_of_ble_eq_true rfl) dI_statistics_88 ⟨rfl, rfl, (Nat.le_of_ble_eq_true rfl), (Nat.le_of_ble_eq_true rfl)⟩ ⟨(Nat.le_of_ble_eq_true rfl), (Nat.le_of_ble_eq_true rfl)⟩) hB (fun y7 M1 H locs hp hB => ?_)
        obtain ⟨e1, rfl⟩ := hp
        rw [e1] at hB
        exact gg_iret hx hb hr hlocks hKA hB dI_statistics_91 (by decide) (by decide) ⟨hR, by simp [aStat, hH1, c5, s11_4] <;> rfl⟩
      by_cases s11_5 : x = 5
      · refine lv_tableIn (tgt := 92) hx hb dI_statistics_11 (by rw [s11_5]; decide) (by rw [s11_5]; decide) (by rw [s11_5]; rfl) (by decide) ?_
        refine lv_aload_n hx hb dI_statistics_92 rfl (lv_at hl 0 rfl) ?_
        refine lv_iload_n hx hb dI_statistics_93 rfl (lv_at hl 1 rfl) ?_
        refine lv_bipush (v := 7) hx hb dI_statistics_94 (by decide) ?_
        refine gEndi (gRunV hF (c_I_lentIn l dC dI dA z M0 M o ar ra sa la hs lt lw cn σ hR h9 7) ln_I_155 hKA hB hR.top rfl rfl hl.1 rfl (Nat.le_of_ble_eq_true rfl) dI_statistics_96 ⟨rfl, rfl, (Nat.le_of_ble_eq_true rfl), (Nat.le_of_ble_eq_true rfl)⟩ ⟨(Nat.le_of_ble_eq_true rfl), (Nat.le_of_ble_eq_true rfl)⟩) hB (fun y8 M1 H locs hp hB => ?_)
        obtain ⟨e1, rfl⟩ := hp
        rw [e1] at hB
        exact gg_iret hx hb hr hlocks hKA hB dI_statistics_99 (by decide) (by decide) ⟨hR, by simp [aStat, hH1, c5, s11_5] <;> rfl⟩
      · refine lv_tableOut (tgt := 100) hx hb dI_statistics_11 (by have := lv_neT s11_0 (a := 0) (by decide); have := lv_neT s11_1 (a := 1) (by decide); have := lv_neT s11_2 (a := 2) (by decide); have := lv_neT s11_3 (a := 3) (by decide); have := lv_neT s11_4 (a := 4) (by decide); have := lv_neT s11_5 (a := 5) (by decide); omega) (by decide) ?_
        refine lv_iconst (v := (-1)) hx hb dI_statistics_100 (by decide) ?_
        exact gg_iret hx hb hr hlocks hKA hB dI_statistics_101 (by decide) (by decide) ⟨hR, by simp [aStat, hH1, c5, s11_0, s11_1, s11_2, s11_3, s11_4, s11_5] <;> rfl⟩
    · exact absurd c5 (by decide)
