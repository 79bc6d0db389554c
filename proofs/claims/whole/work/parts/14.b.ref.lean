/-! The reference: waits, ask, lender, its making -/
set_option maxHeartbeats 4000000 in
set_option maxRecDepth 100000 in
theorem c_M_waits (l : Launch) (dC : Nat → ClassId) (dI : Nat → Nat → Nat) (dA : Nat → ClassId) (z : Nat) (M0 M : gM) (mo : Nat) (ad : Nat → Nat) (th lt hs lw : Int32) (cn : Nat) (σ0 : Nat → Rq) (f : Nat → Nat → Int32) (hR : mW dA M0 M mo ad th lt hs lw cn σ0 f) (hh9 : hsOk hs) (hinv : ∀ k, k < cn → inv (σ0 k)) (t : Int32) : gMi l dC dI dA z y_M_waits b_M_waits 6 (Option.some FieldType.int) ⟨2, 0, 0, 46⟩ [.ref mo, .int t] M (mP dA M0 mo ad hs (sWaits hs lt lw cn σ0 t)) 0 0 := by
  refine gOfW (by decide) (Nat.le_of_ble_eq_true rfl) ?_
  intro p e s m below meth c ls hF hr hlocks hnm hKA hB hl
  obtain ⟨hx, hb, hml, hown, hts⟩ := id hF
  have hK := hKA.1
  have hl : lv_has ls 6 [(0, .ref mo), (1, .int t)] := hl
  refine lv_aload_n hx hb dM_waits_0 rfl (lv_at hl 0 rfl) ?_
  refine lv_iconst (v := 0) hx hb dM_waits_1 (by decide) ?_
  refine gg_put (ty := .int) (v := .int 0) hx hb hts in_M t_M t_M_ok n_M hown hK hB hR.top rfl 0 (by decide) k_342 rfl rfl (by decide +kernel) rfl rfl (Nat.le_of_ble_eq_true rfl) dM_waits_2 (fun H locs hB => ?_)
  have hR := hR.setTop 0 lt lw
  have hB : gB (dC, dI) gcl z (gU M mo (oM 0 lt hs lw cn ad)) s.heap H locs := hB
  generalize gU M mo (oM 0 lt hs lw cn ad) = M at hB hR
  refine lv_aload_n hx hb dM_waits_5 rfl (lv_at hl 0 rfl) ?_
  refine lv_iload_n hx hb dM_waits_6 rfl (lv_at hl 1 rfl) ?_
  refine gEndi (gRunV hF (c_M_isNow l dC dI dA z M0 M mo ad 0 lt hs lw cn _ _ hR t) ln_M_80 hKA hB hR.top rfl rfl hl.1 rfl (Nat.le_of_ble_eq_true rfl) dM_waits_7 ⟨rfl, rfl, (Nat.le_of_ble_eq_true rfl), (Nat.le_of_ble_eq_true rfl)⟩ ⟨(Nat.le_of_ble_eq_true rfl), (Nat.le_of_ble_eq_true rfl)⟩) hB (fun y1 M1 H locs hp hB => ?_)
  obtain ⟨e1, e2⟩ := hp
  rw [e1] at hB
  cases hT1 : bT lt t with
  | false =>
    have e2 : y1 = 0 := by rw [e2, hT1]; rfl
    subst e2
    refine lv_if_ne (tgt := 16) hx hb dM_waits_10 (by decide) (fun c10 => ?_) (fun c10 => ?_)
    · exact (c10 (by decide)).elim
    · refine lv_bipush (v := (-2)) hx hb dM_waits_13 (by decide) ?_
      exact gg_iret hx hb hr hlocks hKA hB dM_waits_15 (by decide) (by decide) (mP_of (show sWaits hs lt lw cn σ0 t = ((-2), lt, lw, cn, σ0) from by simp [sWaits, hT1, c10]) ⟨_, hR, rfl⟩)
  | true =>
    have e2 : y1 = 1 := by rw [e2, hT1]; rfl
    subst e2
    refine lv_if_ne (tgt := 16) hx hb dM_waits_10 (by decide) (fun c10 => ?_) (fun c10 => ?_)
    · refine lv_aload_n hx hb dM_waits_16 rfl (lv_at hl 0 rfl) ?_
      refine lv_iload_n hx hb dM_waits_17 rfl (lv_at hl 1 rfl) ?_
      refine gg_put (ty := .int) (v := .int t) hx hb hts in_M t_M t_M_ok n_M hown hK hB hR.top rfl 1 (by decide) k_343 rfl rfl (by decide +kernel) rfl rfl (Nat.le_of_ble_eq_true rfl) dM_waits_18 (fun H locs hB => ?_)
      have hR := hR.setTop 0 t lw
      have hB : gB (dC, dI) gcl z (gU M mo (oM 0 t hs lw cn ad)) s.heap H locs := hB
      generalize gU M mo (oM 0 t hs lw cn ad) = M at hB hR
      refine lv_iconst (v := 0) hx hb dM_waits_21 (by decide) ?_
      refine lv_istore_n (lv' := [(2, .int 0), (0, .ref mo), (1, .int t)]) hx hb dM_waits_22 rfl hl (by decide) rfl (fun ls hl => ?_)
      refine lv_iconst (v := 0) hx hb dM_waits_23 (by decide) ?_
      refine lv_istore_n (lv' := [(3, .int 0), (2, .int 0), (0, .ref mo), (1, .int t)]) hx hb dM_waits_24 rfl hl (by decide) rfl (fun ls hl => ?_)
      refine gLoopH (S := gM × (Nat → Nat → Int32)) (G := fun H locs ls => W p l e _ s m _ below meth c H locs 0 0 _ (F0 m 25 ls [])) (nL := 6) (fun k _ => [(3, .int (nI k)), (2, .int (cti (fun q => (bW lw t q).isSome) σ0 cn k)), (1, .int t), (0, .ref mo)]) (fun k x H locs => gB (dC, dI) gcl z x.1 s.heap H locs ∧ mW dA M0 x.1 mo ad 0 t hs lw cn (wσ lw t σ0 k) x.2) cn ?_ 0 (M, f) H locs (Nat.zero_le _) ⟨hB, by rw [wσ_0]; exact hR⟩ ls (lv_sub hl [0, 1, 3, 2] rfl)
      clear hR hB
      intro k x9 H locs hk9 hI ih ls hl
      obtain ⟨M, f⟩ := x9
      obtain ⟨hB, hR⟩ := hI
      have hB : gB (dC, dI) gcl z M s.heap H locs := hB
      have hR : mW dA M0 M mo ad 0 t hs lw cn (wσ lw t σ0 k) f := hR
      have hl : lv_has ls 6 [(3, .int (nI k)), (2, .int (cti (fun q => (bW lw t q).isSome) σ0 cn k)), (1, .int t), (0, .ref mo)] := hl
      refine lv_iload_n hx hb dM_waits_25 rfl (lv_at hl 0 rfl) ?_
      refine lv_aload_n hx hb dM_waits_26 rfl (lv_at hl 3 rfl) ?_
      refine gg_get (v := .int (nI cn)) hx hb hts in_M hown hK hB hR.top rfl 4 (by decide) k_346 rfl rfl dM_waits_27 ?_
      refine lv_icmp_ge (tgt := 112) hx hb dM_waits_30 (by decide) (fun c30 => ?_) (fun c30 => ?_)
      · refine lv_iload_n hx hb dM_waits_112 rfl (lv_at hl 1 rfl) ?_
        have hkk : k = cn := nI_top (by have := hR.c100; omega) c30 hk9
        rw [hkk] at hR
        exact gg_iret hx hb hr hlocks hKA hB dM_waits_113 (by decide) (by decide) (mP_of (show sWaits hs lt lw cn σ0 t = (cti (fun q => (bW lw t q).isSome) σ0 cn cn, t, lw, cn, wσ lw t σ0 cn) from by simp [sWaits, hT1]) ⟨_, hR, by rw [hkk]⟩)
      · have hlt : k < cn := Nat.lt_of_not_le (fun q => c30 (nI_le q (by have := hR.c100; omega)))
        have hk := hlt
        obtain ⟨σ, hσ⟩ : ∃ x, wσ lw t σ0 k = x := ⟨_, rfl⟩
        rw [hσ] at hR
        have h00 : σ k = σ0 k := by rw [← hσ, wσ_at]
        have hv : inv (σ k) := by rw [h00]; exact hinv k hk
        obtain ⟨⟨h, it, n, st, ho, db, du, fa, en, lf⟩, hq⟩ : ∃ q, σ k = q := ⟨_, rfl⟩
        have hq0 := hq
        have hq00 : σ0 k = (h, it, n, st, ho, db, du, fa, en, lf) := h00.symm.trans hq
        refine lv_aload_n hx hb dM_waits_33 rfl (lv_at hl 3 rfl) ?_
        refine lv_iload_n hx hb dM_waits_34 rfl (lv_at hl 0 rfl) ?_
        refine gEndi (gRunV hF (c_M_holder l dC dI dA z M0 M mo ad 0 t hs lw cn σ _ hR k hk hv) ln_M_87 hKA hB hR.top rfl rfl hl.1 rfl (Nat.le_of_ble_eq_true rfl) dM_waits_35 ⟨rfl, rfl, (Nat.le_of_ble_eq_true rfl), (Nat.le_of_ble_eq_true rfl)⟩ ⟨(Nat.le_of_ble_eq_true rfl), (Nat.le_of_ble_eq_true rfl)⟩) hB (fun y2 M1 H locs hp hB => ?_)
        obtain ⟨e1, e2⟩ := hp
        rw [e1] at hB
        rw [hq0] at e2
        rcases ho with _ | i
        · have e2 : y2 = (-1) := e2
          subst e2
          refine lv_istore (lv' := [(4, .int (-1)), (3, .int (nI k)), (2, .int (cti (fun q => (bW lw t q).isSome) σ0 cn k)), (1, .int t), (0, .ref mo)]) hx hb dM_waits_38 hl (by decide) rfl (fun ls hl => ?_)
          refine lv_iload hx hb dM_waits_40 (lv_at hl 0 rfl) ?_
          refine lv_if_lt (tgt := 106) hx hb dM_waits_42 (by decide) (fun c42 => ?_) (fun c42 => ?_)
          · have hw : bW lw t (σ0 k) = none := by simp [bW, bA, hq00]
            refine lv_iinc (v := (nI (k + 1))) (lv' := [(3, .int (nI (k + 1))), (4, .int (-1)), (2, .int (cti (fun q => (bW lw t q).isSome) σ0 cn k)), (1, .int t), (0, .ref mo)]) hx hb dM_waits_106 hl (k := 1) rfl (nI_1 k) (by decide) rfl (fun ls hl => ?_)
            refine lv_goto (tgt := 25) hx hb dM_waits_109 (by decide) ?_
            exact ih (M, f) H locs hlt ⟨hB, by rw [wσ_n hw, hσ]; exact hR⟩ ls (lv_sub hl [0, 2, 3, 4] (by rw [cti_n (by rw [hw]; decide)]; rfl))
          · exact (c42 (by decide)).elim
        · have e2 : y2 = (nI (8 * k + i)) := e2
          subst e2
          have hi9 : i < n := by have := hv.2.1 i; rw [hq0] at this; exact this rfl
          have h15 : p15 (lf i) = true := by have := hv.1 i; rw [hq0] at this; exact (this hi9).mpr rfl
          refine lv_istore (lv' := [(4, .int (nI (8 * k + i))), (3, .int (nI k)), (2, .int (cti (fun q => (bW lw t q).isSome) σ0 cn k)), (1, .int t), (0, .ref mo)]) hx hb dM_waits_38 hl (by decide) rfl (fun ls hl => ?_)
          refine lv_iload hx hb dM_waits_40 (lv_at hl 0 rfl) ?_
          refine lv_if_lt (tgt := 106) hx hb dM_waits_42 (by decide) (fun c42 => ?_) (fun c42 => ?_)
          · exact absurd c42 (nI_pos (by have := hR.c100; have h8 : n ≤ 8 := hR.n8 hk hq; omega))
          · refine lv_aload_n hx hb dM_waits_45 rfl (lv_at hl 4 rfl) ?_
            refine gg_get (v := .ref (ad 9)) hx hb hts in_M hown hK hB hR.top rfl 14 (by decide) k_356 rfl rfl dM_waits_46 ?_
            refine lv_iload hx hb dM_waits_49 (lv_at hl 0 rfl) ?_
            refine gg_iald (v := ((lf i).2.1)) hx hb hK hB 2 (hR.ar 9 (by decide)) rfl (vp_in_nI (ml_hi (by decide) (by have := hR.c100; have h8 : n ≤ 8 := hR.n8 hk hq; omega)) (ml_lt _)) (by rw [nI_clamp (by have := hR.c100; have h8 : n ≤ 8 := hR.n8 hk hq; omega)]; exact (hR.l hk hq hi9).2.1) dM_waits_51 ?_
            refine lv_iconst (v := 1) hx hb dM_waits_52 (by decide) ?_
            refine lv_icmp_eq (tgt := 67) hx hb dM_waits_53 (by decide) (fun c53 => ?_) (fun c53 => ?_)
            · refine lv_iload_n hx hb dM_waits_67 rfl (lv_at hl 3 rfl) ?_
              refine lv_aload_n hx hb dM_waits_68 rfl (lv_at hl 4 rfl) ?_
              refine gg_get (v := .ref (ad 11)) hx hb hts in_M hown hK hB hR.top rfl 16 (by decide) k_358 rfl rfl dM_waits_69 ?_
              refine lv_iload hx hb dM_waits_72 (lv_at hl 0 rfl) ?_
              refine gg_iald (v := ((lf i).2.2.2)) hx hb hK hB 2 (hR.ar 11 (by decide)) rfl (vp_in_nI (ml_hi (by decide) (by have := hR.c100; have h8 : n ≤ 8 := hR.n8 hk hq; omega)) (ml_lt _)) (by rw [nI_clamp (by have := hR.c100; have h8 : n ≤ 8 := hR.n8 hk hq; omega)]; exact (hR.l hk hq hi9).2.2.2) dM_waits_74 ?_
              refine lv_isub hx hb dM_waits_75 ?_
              refine lv_aload_n hx hb dM_waits_76 rfl (lv_at hl 4 rfl) ?_
              refine gg_get (v := .int lw) hx hb hts in_M hown hK hB hR.top rfl 3 (by decide) k_345 rfl rfl dM_waits_77 ?_
              refine lv_icmp_gt (tgt := 86) hx hb dM_waits_80 (by decide) (fun c80 => ?_) (fun c80 => ?_)
              · refine lv_aload_n hx hb dM_waits_86 rfl (lv_at hl 4 rfl) ?_
                refine gg_get (v := .ref (ad 9)) hx hb hts in_M hown hK hB hR.top rfl 14 (by decide) k_356 rfl rfl dM_waits_87 ?_
                refine lv_iload hx hb dM_waits_90 (lv_at hl 0 rfl) ?_
                refine lv_bipush (v := 7) hx hb dM_waits_92 (by decide) ?_
                refine gg_iast hx hb hK hB 2 (hR.ar 9 (by decide)) rfl (vp_in_nI (ml_hi (by decide) (by have := hR.c100; have h8 : n ≤ 8 := hR.n8 hk hq; omega)) (ml_lt _)) dM_waits_94 (fun H locs hB => ?_)
                rw [nI_clamp (by have := hR.c100; have h8 : n ≤ 8 := hR.n8 hk hq; omega)] at hB
                have hR := hR.put 9 (by decide) (8 * k + i) 7 (hR.re.setl hk hq hi9 9 7 ((lf i).1, 7, (lf i).2.2.1, (lf i).2.2.2) (by decide) ⟨(u2_j (by decide)).trans ((hR.l hk hq hi9).1), u2_s _ _ _ _, (u2_j (by decide)).trans ((hR.l hk hq hi9).2.2.1), (u2_j (by decide)).trans ((hR.l hk hq hi9).2.2.2)⟩)
                have hq : va_up σ k (h, it, n, st, some i, db, du, fa, en, va_up lf i ((lf i).1, 7, (lf i).2.2.1, (lf i).2.2.2)) k = (h, it, n, st, some i, db, du, fa, en, va_up lf i ((lf i).1, 7, (lf i).2.2.1, (lf i).2.2.2)) := va_up_self _ _ _
                have hB : gB (dC, dI) gcl z (gU M (ad 9) (aI dA (ml 9) (upd (f 9) (8 * k + i) 7))) s.heap H locs := hB
                generalize gU M (ad 9) (aI dA (ml 9) (upd (f 9) (8 * k + i) 7)) = M at hB hR
                generalize u2 f 9 (8 * k + i) 7 = f at hR
                refine lv_iinc (v := ((cti (fun q => (bW lw t q).isSome) σ0 cn k) + 1)) (lv' := [(2, .int ((cti (fun q => (bW lw t q).isSome) σ0 cn k) + 1)), (4, .int (nI (8 * k + i))), (3, .int (nI k)), (1, .int t), (0, .ref mo)]) hx hb dM_waits_95 hl (k := 2) rfl rfl (by decide) rfl (fun ls hl => ?_)
                refine lv_aload_n hx hb dM_waits_98 rfl (lv_at hl 4 rfl) ?_
                refine lv_iload_n hx hb dM_waits_99 rfl (lv_at hl 2 rfl) ?_
                refine lv_iload_n hx hb dM_waits_100 rfl (lv_at hl 3 rfl) ?_
                have hfa : fa = -1 ∨ ¬ fa < 0 := by have := hv.2.2.1; rw [hq0] at this; exact this
                refine gEndi (gRunV hF (c_M_askNext l dC dI dA z M0 M mo ad 0 t hs lw cn _ _ hR k hk (by rw [hq]; exact hfa) t) ln_M_83 hKA hB hR.top rfl rfl hl.1 rfl (Nat.le_of_ble_eq_true rfl) dM_waits_101 ⟨rfl, rfl, (Nat.le_of_ble_eq_true rfl), (Nat.le_of_ble_eq_true rfl)⟩ ⟨(Nat.le_of_ble_eq_true rfl), (Nat.le_of_ble_eq_true rfl)⟩) hB (fun y M1 H locs hp hB => ?_)
                obtain ⟨⟨f1, hp⟩, e2⟩ := hp
                rw [hq, bx_uu] at hp
                have hR := hp
                generalize M1 = M at hB hR
                generalize f1 = f at hR
                refine lv_istore (lv' := [(5, .int y), (2, .int ((cti (fun q => (bW lw t q).isSome) σ0 cn k) + 1)), (4, .int (nI (8 * k + i))), (3, .int (nI k)), (1, .int t), (0, .ref mo)]) hx hb dM_waits_104 hl (by decide) rfl (fun ls hl => ?_)
                have hw : bW lw t (σ0 k) = some i := by simp [bW, bA, hq00, c53, i32_nle c80]
                refine lv_iinc (v := (nI (k + 1))) (lv' := [(3, .int (nI (k + 1))), (5, .int y), (2, .int ((cti (fun q => (bW lw t q).isSome) σ0 cn k) + 1)), (4, .int (nI (8 * k + i))), (1, .int t), (0, .ref mo)]) hx hb dM_waits_106 hl (k := 3) rfl (nI_1 k) (by decide) rfl (fun ls hl => ?_)
                refine lv_goto (tgt := 25) hx hb dM_waits_109 (by decide) ?_
                exact ih (M, f) H locs hlt ⟨hB, by rw [wσ_s hw, hσ, hq00]; simp only [qpass, lset]; exact hR⟩ ls (lv_sub hl [0, 2, 4, 5] (by rw [cti_y hlt (by rw [hw]; rfl)]; rfl))
              · refine lv_goto (tgt := 106) hx hb dM_waits_83 (by decide) ?_
                have hw : bW lw t (σ0 k) = none := by simp [bW, bA, hq00, c53, i32_le c80]
                refine lv_iinc (v := (nI (k + 1))) (lv' := [(3, .int (nI (k + 1))), (4, .int (nI (8 * k + i))), (2, .int (cti (fun q => (bW lw t q).isSome) σ0 cn k)), (1, .int t), (0, .ref mo)]) hx hb dM_waits_106 hl (k := 1) rfl (nI_1 k) (by decide) rfl (fun ls hl => ?_)
                refine lv_goto (tgt := 25) hx hb dM_waits_109 (by decide) ?_
                exact ih (M, f) H locs hlt ⟨hB, by rw [wσ_n hw, hσ]; exact hR⟩ ls (lv_sub hl [0, 2, 3, 4] (by rw [cti_n (by rw [hw]; decide)]; rfl))
            · refine lv_aload_n hx hb dM_waits_56 rfl (lv_at hl 4 rfl) ?_
              refine gg_get (v := .ref (ad 9)) hx hb hts in_M hown hK hB hR.top rfl 14 (by decide) k_356 rfl rfl dM_waits_57 ?_
              refine lv_iload hx hb dM_waits_60 (lv_at hl 0 rfl) ?_
              refine gg_iald (v := ((lf i).2.1)) hx hb hK hB 2 (hR.ar 9 (by decide)) rfl (vp_in_nI (ml_hi (by decide) (by have := hR.c100; have h8 : n ≤ 8 := hR.n8 hk hq; omega)) (ml_lt _)) (by rw [nI_clamp (by have := hR.c100; have h8 : n ≤ 8 := hR.n8 hk hq; omega)]; exact (hR.l hk hq hi9).2.1) dM_waits_62 ?_
              refine lv_iconst (v := 3) hx hb dM_waits_63 (by decide) ?_
              refine lv_icmp_ne (tgt := 106) hx hb dM_waits_64 (by decide) (fun c64 => ?_) (fun c64 => ?_)
              · have hw : bW lw t (σ0 k) = none := by simp [bW, bA, hq00, c53, c64]
                refine lv_iinc (v := (nI (k + 1))) (lv' := [(3, .int (nI (k + 1))), (4, .int (nI (8 * k + i))), (2, .int (cti (fun q => (bW lw t q).isSome) σ0 cn k)), (1, .int t), (0, .ref mo)]) hx hb dM_waits_106 hl (k := 1) rfl (nI_1 k) (by decide) rfl (fun ls hl => ?_)
                refine lv_goto (tgt := 25) hx hb dM_waits_109 (by decide) ?_
                exact ih (M, f) H locs hlt ⟨hB, by rw [wσ_n hw, hσ]; exact hR⟩ ls (lv_sub hl [0, 2, 3, 4] (by rw [cti_n (by rw [hw]; decide)]; rfl))
              · refine lv_iload_n hx hb dM_waits_67 rfl (lv_at hl 3 rfl) ?_
                refine lv_aload_n hx hb dM_waits_68 rfl (lv_at hl 4 rfl) ?_
                refine gg_get (v := .ref (ad 11)) hx hb hts in_M hown hK hB hR.top rfl 16 (by decide) k_358 rfl rfl dM_waits_69 ?_
                refine lv_iload hx hb dM_waits_72 (lv_at hl 0 rfl) ?_
                refine gg_iald (v := ((lf i).2.2.2)) hx hb hK hB 2 (hR.ar 11 (by decide)) rfl (vp_in_nI (ml_hi (by decide) (by have := hR.c100; have h8 : n ≤ 8 := hR.n8 hk hq; omega)) (ml_lt _)) (by rw [nI_clamp (by have := hR.c100; have h8 : n ≤ 8 := hR.n8 hk hq; omega)]; exact (hR.l hk hq hi9).2.2.2) dM_waits_74 ?_
                refine lv_isub hx hb dM_waits_75 ?_
                refine lv_aload_n hx hb dM_waits_76 rfl (lv_at hl 4 rfl) ?_
                refine gg_get (v := .int lw) hx hb hts in_M hown hK hB hR.top rfl 3 (by decide) k_345 rfl rfl dM_waits_77 ?_
                refine lv_icmp_gt (tgt := 86) hx hb dM_waits_80 (by decide) (fun c80 => ?_) (fun c80 => ?_)
                · refine lv_aload_n hx hb dM_waits_86 rfl (lv_at hl 4 rfl) ?_
                  refine gg_get (v := .ref (ad 9)) hx hb hts in_M hown hK hB hR.top rfl 14 (by decide) k_356 rfl rfl dM_waits_87 ?_
                  refine lv_iload hx hb dM_waits_90 (lv_at hl 0 rfl) ?_
                  refine lv_bipush (v := 7) hx hb dM_waits_92 (by decide) ?_
                  refine gg_iast hx hb hK hB 2 (hR.ar 9 (by decide)) rfl (vp_in_nI (ml_hi (by decide) (by have := hR.c100; have h8 : n ≤ 8 := hR.n8 hk hq; omega)) (ml_lt _)) dM_waits_94 (fun H locs hB => ?_)
                  rw [nI_clamp (by have := hR.c100; have h8 : n ≤ 8 := hR.n8 hk hq; omega)] at hB
                  have hR := hR.put 9 (by decide) (8 * k + i) 7 (hR.re.setl hk hq hi9 9 7 ((lf i).1, 7, (lf i).2.2.1, (lf i).2.2.2) (by decide) ⟨(u2_j (by decide)).trans ((hR.l hk hq hi9).1), u2_s _ _ _ _, (u2_j (by decide)).trans ((hR.l hk hq hi9).2.2.1), (u2_j (by decide)).trans ((hR.l hk hq hi9).2.2.2)⟩)
                  have hq : va_up σ k (h, it, n, st, some i, db, du, fa, en, va_up lf i ((lf i).1, 7, (lf i).2.2.1, (lf i).2.2.2)) k = (h, it, n, st, some i, db, du, fa, en, va_up lf i ((lf i).1, 7, (lf i).2.2.1, (lf i).2.2.2)) := va_up_self _ _ _
                  have hB : gB (dC, dI) gcl z (gU M (ad 9) (aI dA (ml 9) (upd (f 9) (8 * k + i) 7))) s.heap H locs := hB
                  generalize gU M (ad 9) (aI dA (ml 9) (upd (f 9) (8 * k + i) 7)) = M at hB hR
                  generalize u2 f 9 (8 * k + i) 7 = f at hR
                  refine lv_iinc (v := ((cti (fun q => (bW lw t q).isSome) σ0 cn k) + 1)) (lv' := [(2, .int ((cti (fun q => (bW lw t q).isSome) σ0 cn k) + 1)), (4, .int (nI (8 * k + i))), (3, .int (nI k)), (1, .int t), (0, .ref mo)]) hx hb dM_waits_95 hl (k := 2) rfl rfl (by decide) rfl (fun ls hl => ?_)
                  refine lv_aload_n hx hb dM_waits_98 rfl (lv_at hl 4 rfl) ?_
                  refine lv_iload_n hx hb dM_waits_99 rfl (lv_at hl 2 rfl) ?_
                  refine lv_iload_n hx hb dM_waits_100 rfl (lv_at hl 3 rfl) ?_
                  have hfa : fa = -1 ∨ ¬ fa < 0 := by have := hv.2.2.1; rw [hq0] at this; exact this
                  refine gEndi (gRunV hF (c_M_askNext l dC dI dA z M0 M mo ad 0 t hs lw cn _ _ hR k hk (by rw [hq]; exact hfa) t) ln_M_83 hKA hB hR.top rfl rfl hl.1 rfl (Nat.le_of_ble_eq_true rfl) dM_waits_101 ⟨rfl, rfl, (Nat.le_of_ble_eq_true rfl), (Nat.le_of_ble_eq_true rfl)⟩ ⟨(Nat.le_of_ble_eq_true rfl), (Nat.le_of_ble_eq_true rfl)⟩) hB (fun y M1 H locs hp hB => ?_)
                  obtain ⟨⟨f1, hp⟩, e2⟩ := hp
                  rw [hq, bx_uu] at hp
                  have hR := hp
                  generalize M1 = M at hB hR
                  generalize f1 = f at hR
                  refine lv_istore (lv' := [(5, .int y), (2, .int ((cti (fun q => (bW lw t q).isSome) σ0 cn k) + 1)), (4, .int (nI (8 * k + i))), (3, .int (nI k)), (1, .int t), (0, .ref mo)]) hx hb dM_waits_104 hl (by decide) rfl (fun ls hl => ?_)
                  have hw : bW lw t (σ0 k) = some i := by simp [bW, bA, hq00, c53, c64, i32_nle c80]
                  refine lv_iinc (v := (nI (k + 1))) (lv' := [(3, .int (nI (k + 1))), (5, .int y), (2, .int ((cti (fun q => (bW lw t q).isSome) σ0 cn k) + 1)), (4, .int (nI (8 * k + i))), (1, .int t), (0, .ref mo)]) hx hb dM_waits_106 hl (k := 3) rfl (nI_1 k) (by decide) rfl (fun ls hl => ?_)
                  refine lv_goto (tgt := 25) hx hb dM_waits_109 (by decide) ?_
                  exact ih (M, f) H locs hlt ⟨hB, by rw [wσ_s hw, hσ, hq00]; simp only [qpass, lset]; exact hR⟩ ls (lv_sub hl [0, 2, 4, 5] (by rw [cti_y hlt (by rw [hw]; rfl)]; rfl))
                · refine lv_goto (tgt := 106) hx hb dM_waits_83 (by decide) ?_
                  have hw : bW lw t (σ0 k) = none := by simp [bW, bA, hq00, c53, c64, i32_le c80]
                  refine lv_iinc (v := (nI (k + 1))) (lv' := [(3, .int (nI (k + 1))), (4, .int (nI (8 * k + i))), (2, .int (cti (fun q => (bW lw t q).isSome) σ0 cn k)), (1, .int t), (0, .ref mo)]) hx hb dM_waits_106 hl (k := 1) rfl (nI_1 k) (by decide) rfl (fun ls hl => ?_)
                  refine lv_goto (tgt := 25) hx hb dM_waits_109 (by decide) ?_
                  exact ih (M, f) H locs hlt ⟨hB, by rw [wσ_n hw, hσ]; exact hR⟩ ls (lv_sub hl [0, 2, 3, 4] (by rw [cti_n (by rw [hw]; decide)]; rfl))
    · exact absurd c10 (by decide)
set_option maxHeartbeats 4000000 in
set_option maxRecDepth 100000 in
theorem c_M_ask (l : Launch) (dC : Nat → ClassId) (dI : Nat → Nat → Nat) (dA : Nat → ClassId) (z : Nat) (M0 M : gM) (mo : Nat) (ad : Nat → Nat) (th lt hs lw : Int32) (cn : Nat) (σ : Nat → Rq) (f : Nat → Nat → Int32) (hR : mW dA M0 M mo ad th lt hs lw cn σ f) (hh9 : hsOk hs) (hinv : ∀ k, k < cn → inv (σ k)) (h9 it9 : Int32) : gMi l dC dI dA z y_M_ask b_M_ask 3 (Option.some FieldType.int) ⟨2, 0, 0, 43⟩ [.ref mo, .int h9, .int it9] M (mP dA M0 mo ad hs (sAsk hs lt lw cn σ h9 it9)) 0 0 := by
  refine gOfW (by decide) (Nat.le_of_ble_eq_true rfl) ?_
  intro p e s m below meth c ls hF hr hlocks hnm hKA hB hl
  obtain ⟨hx, hb, hml, hown, hts⟩ := id hF
  have hK := hKA.1
  have hl : lv_has ls 3 [(0, .ref mo), (1, .int h9), (2, .int it9)] := hl
  refine lv_aload_n hx hb dM_ask_0 rfl (lv_at hl 0 rfl) ?_
  refine lv_iconst (v := 0) hx hb dM_ask_1 (by decide) ?_
  refine gg_put (ty := .int) (v := .int 0) hx hb hts in_M t_M t_M_ok n_M hown hK hB hR.top rfl 0 (by decide) k_342 rfl rfl (by decide +kernel) rfl rfl (Nat.le_of_ble_eq_true rfl) dM_ask_2 (fun H locs hB => ?_)
  have hR := hR.setTop 0 lt lw
  have hB : gB (dC, dI) gcl z (gU M mo (oM 0 lt hs lw cn ad)) s.heap H locs := hB
  generalize gU M mo (oM 0 lt hs lw cn ad) = M at hB hR
  refine lv_aload_n hx hb dM_ask_5 rfl (lv_at hl 0 rfl) ?_
  refine lv_iload_n hx hb dM_ask_6 rfl (lv_at hl 1 rfl) ?_
  refine gEndi (gRunV hF (c_M_isHouse l dC dI dA z M0 M mo ad 0 lt hs lw cn _ _ hR hh9 h9) ln_M_68 hKA hB hR.top rfl rfl hl.1 rfl (Nat.le_of_ble_eq_true rfl) dM_ask_7 ⟨rfl, rfl, (Nat.le_of_ble_eq_true rfl), (Nat.le_of_ble_eq_true rfl)⟩ ⟨(Nat.le_of_ble_eq_true rfl), (Nat.le_of_ble_eq_true rfl)⟩) hB (fun y1 M1 H locs hp hB => ?_)
  obtain ⟨e1, e2⟩ := hp
  rw [e1] at hB
  cases hH1 : bH hs h9 with
  | false =>
    have e2 : y1 = 0 := by rw [e2, hH1]; rfl
    subst e2
    refine lv_if_ne (tgt := 15) hx hb dM_ask_10 (by decide) (fun c10 => ?_) (fun c10 => ?_)
    · exact (c10 (by decide)).elim
    · refine lv_iconst (v := (-1)) hx hb dM_ask_13 (by decide) ?_
      exact gg_iret hx hb hr hlocks hKA hB dM_ask_14 (by decide) (by decide) (mP_of (show sAsk hs lt lw cn σ h9 it9 = (-1, lt, lw, cn, σ) from by simp [sAsk, hH1]) ⟨_, hR, rfl⟩)
  | true =>
    have e2 : y1 = 1 := by rw [e2, hH1]; rfl
    subst e2
    refine lv_if_ne (tgt := 15) hx hb dM_ask_10 (by decide) (fun c10 => ?_) (fun c10 => ?_)
    · refine lv_iload_n hx hb dM_ask_15 rfl (lv_at hl 2 rfl) ?_
      refine lv_iconst (v := 0) hx hb dM_ask_16 (by decide) ?_
      refine lv_ldc (v := 100000) hx hb hown (hts _ k_410) dM_ask_17 ?_
      refine gEndi (gRunS hF (c_M_in l dC dI dA z M it9 0 100000) ln_M_57 hKA hB rfl hl.1 rfl (Nat.le_of_ble_eq_true rfl) dM_ask_19 ⟨rfl, rfl, (Nat.le_of_ble_eq_true rfl), (Nat.le_of_ble_eq_true rfl)⟩ ⟨(Nat.le_of_ble_eq_true rfl), (Nat.le_of_ble_eq_true rfl)⟩) hB (fun y2 M1 H locs hp hB => ?_)
      obtain ⟨e1, e2⟩ := hp
      rw [e1] at hB
      cases hN2 : bI it9 0 100000 with
      | false =>
        have e2 : y2 = 0 := by rw [e2, hN2]; rfl
        subst e2
        refine lv_if_ne (tgt := 28) hx hb dM_ask_22 (by decide) (fun c22 => ?_) (fun c22 => ?_)
        · exact (c22 (by decide)).elim
        · refine lv_bipush (v := (-2)) hx hb dM_ask_25 (by decide) ?_
          exact gg_iret hx hb hr hlocks hKA hB dM_ask_27 (by decide) (by decide) (mP_of (sAsk_r hH1 hN2) ⟨_, hR, rfl⟩)
      | true =>
        have e2 : y2 = 1 := by rw [e2, hN2]; rfl
        subst e2
        refine lv_if_ne (tgt := 28) hx hb dM_ask_22 (by decide) (fun c22 => ?_) (fun c22 => ?_)
        · refine lv_aload_n hx hb dM_ask_28 rfl (lv_at hl 0 rfl) ?_
          refine gg_get (v := .int (nI cn)) hx hb hts in_M hown hK hB hR.top rfl 4 (by decide) k_346 rfl rfl dM_ask_29 ?_
          refine lv_bipush (v := 100) hx hb dM_ask_32 (by decide) ?_
          refine lv_icmp_ne (tgt := 40) hx hb dM_ask_34 (by decide) (fun c34 => ?_) (fun c34 => ?_)
          · have hcn : cn < 100 := by have h1 := hR.c100; have h2 : ¬ cn = 100 := fun q => c34 (by rw [q]; rfl); omega
            refine lv_aload_n hx hb dM_ask_40 rfl (lv_at hl 0 rfl) ?_
            refine gg_get (v := .ref (ad 0)) hx hb hts in_M hown hK hB hR.top rfl 5 (by decide) k_347 rfl rfl dM_ask_41 ?_
            refine lv_aload_n hx hb dM_ask_44 rfl (lv_at hl 0 rfl) ?_
            refine gg_get (v := .int (nI cn)) hx hb hts in_M hown hK hB hR.top rfl 4 (by decide) k_346 rfl rfl dM_ask_45 ?_
            refine lv_iload_n hx hb dM_ask_48 rfl (lv_at hl 1 rfl) ?_
            refine gg_iast hx hb hK hB 2 (hR.ar 0 (by decide)) rfl (vp_in_nI (ml_lo (by decide) hcn) (ml_lt _)) dM_ask_49 (fun H locs hB => ?_)
            rw [nI_clamp (by omega)] at hB
            have hR := hR.put 0 (by decide) cn h9 (hR.re.out 0 (by decide) h9)
            have ea0 : u2 f 0 cn h9 0 cn = h9 := u2_s _ _ _ _
            have hB : gB (dC, dI) gcl z (gU M (ad 0) (aI dA (ml 0) (upd (f 0) cn h9))) s.heap H locs := hB
            generalize gU M (ad 0) (aI dA (ml 0) (upd (f 0) cn h9)) = M at hB hR
            generalize u2 f 0 cn h9 = f at hR ea0
            refine lv_aload_n hx hb dM_ask_50 rfl (lv_at hl 0 rfl) ?_
            refine gg_get (v := .ref (ad 1)) hx hb hts in_M hown hK hB hR.top rfl 6 (by decide) k_348 rfl rfl dM_ask_51 ?_
            refine lv_aload_n hx hb dM_ask_54 rfl (lv_at hl 0 rfl) ?_
            refine gg_get (v := .int (nI cn)) hx hb hts in_M hown hK hB hR.top rfl 4 (by decide) k_346 rfl rfl dM_ask_55 ?_
            refine lv_iload_n hx hb dM_ask_58 rfl (lv_at hl 2 rfl) ?_
            refine gg_iast hx hb hK hB 2 (hR.ar 1 (by decide)) rfl (vp_in_nI (ml_lo (by decide) hcn) (ml_lt _)) dM_ask_59 (fun H locs hB => ?_)
            rw [nI_clamp (by omega)] at hB
            have hR := hR.put 1 (by decide) cn it9 (hR.re.out 1 (by decide) it9)
            have ea0 : u2 f 1 cn it9 0 cn = h9 := (u2_j (by decide)).trans ea0
            have ea1 : u2 f 1 cn it9 1 cn = it9 := u2_s _ _ _ _
            have hB : gB (dC, dI) gcl z (gU M (ad 1) (aI dA (ml 1) (upd (f 1) cn it9))) s.heap H locs := hB
            generalize gU M (ad 1) (aI dA (ml 1) (upd (f 1) cn it9)) = M at hB hR
            generalize u2 f 1 cn it9 = f at hR ea0 ea1
            refine lv_aload_n hx hb dM_ask_60 rfl (lv_at hl 0 rfl) ?_
            refine gg_get (v := .ref (ad 5)) hx hb hts in_M hown hK hB hR.top rfl 10 (by decide) k_352 rfl rfl dM_ask_61 ?_
            refine lv_aload_n hx hb dM_ask_64 rfl (lv_at hl 0 rfl) ?_
            refine gg_get (v := .int (nI cn)) hx hb hts in_M hown hK hB hR.top rfl 4 (by decide) k_346 rfl rfl dM_ask_65 ?_
            refine lv_iconst (v := (-1)) hx hb dM_ask_68 (by decide) ?_
            refine gg_iast hx hb hK hB 2 (hR.ar 5 (by decide)) rfl (vp_in_nI (ml_lo (by decide) hcn) (ml_lt _)) dM_ask_69 (fun H locs hB => ?_)
            rw [nI_clamp (by omega)] at hB
            have hR := hR.put 5 (by decide) cn (-1) (hR.re.out 5 (by decide) (-1))
            have ea0 : u2 f 5 cn (-1) 0 cn = h9 := (u2_j (by decide)).trans ea0
            have ea1 : u2 f 5 cn (-1) 1 cn = it9 := (u2_j (by decide)).trans ea1
            have ea5 : u2 f 5 cn (-1) 5 cn = (-1) := u2_s _ _ _ _
            have hB : gB (dC, dI) gcl z (gU M (ad 5) (aI dA (ml 5) (upd (f 5) cn (-1)))) s.heap H locs := hB
            generalize gU M (ad 5) (aI dA (ml 5) (upd (f 5) cn (-1))) = M at hB hR
            generalize u2 f 5 cn (-1) = f at hR ea0 ea1 ea5
            refine lv_aload_n hx hb dM_ask_70 rfl (lv_at hl 0 rfl) ?_
            refine gg_get (v := .ref (ad 6)) hx hb hts in_M hown hK hB hR.top rfl 11 (by decide) k_353 rfl rfl dM_ask_71 ?_
            refine lv_aload_n hx hb dM_ask_74 rfl (lv_at hl 0 rfl) ?_
            refine gg_get (v := .int (nI cn)) hx hb hts in_M hown hK hB hR.top rfl 4 (by decide) k_346 rfl rfl dM_ask_75 ?_
            refine lv_iconst (v := (-1)) hx hb dM_ask_78 (by decide) ?_
            refine gg_iast hx hb hK hB 2 (hR.ar 6 (by decide)) rfl (vp_in_nI (ml_lo (by decide) hcn) (ml_lt _)) dM_ask_79 (fun H locs hB => ?_)
            rw [nI_clamp (by omega)] at hB
            have hR := hR.put 6 (by decide) cn (-1) (hR.re.out 6 (by decide) (-1))
            have ea0 : u2 f 6 cn (-1) 0 cn = h9 := (u2_j (by decide)).trans ea0
            have ea1 : u2 f 6 cn (-1) 1 cn = it9 := (u2_j (by decide)).trans ea1
            have ea5 : u2 f 6 cn (-1) 5 cn = (-1) := (u2_j (by decide)).trans ea5
            have ea6 : u2 f 6 cn (-1) 6 cn = (-1) := u2_s _ _ _ _
            have hB : gB (dC, dI) gcl z (gU M (ad 6) (aI dA (ml 6) (upd (f 6) cn (-1)))) s.heap H locs := hB
            generalize gU M (ad 6) (aI dA (ml 6) (upd (f 6) cn (-1))) = M at hB hR
            generalize u2 f 6 cn (-1) = f at hR ea0 ea1 ea5 ea6
            refine lv_aload_n hx hb dM_ask_80 rfl (lv_at hl 0 rfl) ?_
            refine gg_get (v := .ref (ad 7)) hx hb hts in_M hown hK hB hR.top rfl 12 (by decide) k_354 rfl rfl dM_ask_81 ?_
            refine lv_aload_n hx hb dM_ask_84 rfl (lv_at hl 0 rfl) ?_
            refine gg_get (v := .int (nI cn)) hx hb hts in_M hown hK hB hR.top rfl 4 (by decide) k_346 rfl rfl dM_ask_85 ?_
            refine lv_iconst (v := (-1)) hx hb dM_ask_88 (by decide) ?_
            refine gg_iast hx hb hK hB 2 (hR.ar 7 (by decide)) rfl (vp_in_nI (ml_lo (by decide) hcn) (ml_lt _)) dM_ask_89 (fun H locs hB => ?_)
            rw [nI_clamp (by omega)] at hB
            have hR := hR.put 7 (by decide) cn (-1) (hR.re.out 7 (by decide) (-1))
            have ea0 : u2 f 7 cn (-1) 0 cn = h9 := (u2_j (by decide)).trans ea0
            have ea1 : u2 f 7 cn (-1) 1 cn = it9 := (u2_j (by decide)).trans ea1
            have ea5 : u2 f 7 cn (-1) 5 cn = (-1) := (u2_j (by decide)).trans ea5
            have ea6 : u2 f 7 cn (-1) 6 cn = (-1) := (u2_j (by decide)).trans ea6
            have ea7 : u2 f 7 cn (-1) 7 cn = (-1) := u2_s _ _ _ _
            have hB : gB (dC, dI) gcl z (gU M (ad 7) (aI dA (ml 7) (upd (f 7) cn (-1)))) s.heap H locs := hB
            generalize gU M (ad 7) (aI dA (ml 7) (upd (f 7) cn (-1))) = M at hB hR
            generalize u2 f 7 cn (-1) = f at hR ea0 ea1 ea5 ea6 ea7
            refine lv_aload_n hx hb dM_ask_90 rfl (lv_at hl 0 rfl) ?_
            refine lv_dup hx hb dM_ask_91 rfl ?_
            refine gg_get (v := .int (nI cn)) hx hb hts in_M hown hK hB hR.top rfl 4 (by decide) k_346 rfl rfl dM_ask_92 ?_
            refine lv_iconst (v := 1) hx hb dM_ask_95 (by decide) ?_
            refine lv_iadd hx hb dM_ask_96 ?_
            rw [nI_1 cn]
            refine gg_put (ty := .int) (v := .int (nI (cn + 1))) hx hb hts in_M t_M t_M_ok n_M hown hK hB hR.top rfl 4 (by decide) k_346 rfl rfl (by decide +kernel) rfl rfl (Nat.le_of_ble_eq_true rfl) dM_ask_97 (fun H locs hB => ?_)
            have hR := hR.grow hcn ea0 ea1 ea5 ea6 ea7
            have hB : gB (dC, dI) gcl z (gU M mo (oM 0 lt hs lw (cn + 1) ad)) s.heap H locs := hB
            generalize gU M mo (oM 0 lt hs lw (cn + 1) ad) = M at hB hR
            refine lv_aload_n hx hb dM_ask_100 rfl (lv_at hl 0 rfl) ?_
            refine gg_get (v := .int (nI (cn + 1))) hx hb hts in_M hown hK hB hR.top rfl 4 (by decide) k_346 rfl rfl dM_ask_101 ?_
            refine lv_iconst (v := 1) hx hb dM_ask_104 (by decide) ?_
            refine lv_isub hx hb dM_ask_105 ?_
            rw [nI_pred]
            exact gg_iret hx hb hr hlocks hKA hB dM_ask_106 (by decide) (by decide) (mP_of (sAsk_y hH1 hN2 (by omega)) ⟨_, hR, rfl⟩)
          · refine lv_bipush (v := (-4)) hx hb dM_ask_37 (by decide) ?_
            exact gg_iret hx hb hr hlocks hKA hB dM_ask_39 (by decide) (by decide) (mP_of (sAsk_f hH1 hN2 ((nI_eq (by have := hR.c100; omega) (by decide)).mp c34)) ⟨_, hR, rfl⟩)
        · exact absurd c22 (by decide)
    · exact absurd c10 (by decide)
set_option maxHeartbeats 4000000 in
set_option maxRecDepth 100000 in
theorem c_M_lender (l : Launch) (dC : Nat → ClassId) (dI : Nat → Nat → Nat) (dA : Nat → ClassId) (z : Nat) (M0 M : gM) (mo : Nat) (ad : Nat → Nat) (th lt hs lw : Int32) (cn : Nat) (σ : Nat → Rq) (f : Nat → Nat → Int32) (hR : mW dA M0 M mo ad th lt hs lw cn σ f) (hh9 : hsOk hs) (hinv : ∀ k, k < cn → inv (σ k)) (r h9 : Int32) : gMi l dC dI dA z y_M_lender b_M_lender 5 (Option.some FieldType.int) ⟨2, 0, 0, 43⟩ [.ref mo, .int r, .int h9] M (mP dA M0 mo ad hs (sLender hs lt lw cn σ r h9)) 0 0 := by
  refine gOfW (by decide) (Nat.le_of_ble_eq_true rfl) ?_
  intro p e s m below meth c ls hF hr hlocks hnm hKA hB hl
  obtain ⟨hx, hb, hml, hown, hts⟩ := id hF
  have hK := hKA.1
  have hl : lv_has ls 5 [(0, .ref mo), (1, .int r), (2, .int h9)] := hl
  refine lv_aload_n hx hb dM_lender_0 rfl (lv_at hl 0 rfl) ?_
  refine lv_iconst (v := 0) hx hb dM_lender_1 (by decide) ?_
  refine gg_put (ty := .int) (v := .int 0) hx hb hts in_M t_M t_M_ok n_M hown hK hB hR.top rfl 0 (by decide) k_342 rfl rfl (by decide +kernel) rfl rfl (Nat.le_of_ble_eq_true rfl) dM_lender_2 (fun H locs hB => ?_)
  have hR := hR.setTop 0 lt lw
  have hB : gB (dC, dI) gcl z (gU M mo (oM 0 lt hs lw cn ad)) s.heap H locs := hB
  generalize gU M mo (oM 0 lt hs lw cn ad) = M at hB hR
  refine lv_aload_n hx hb dM_lender_5 rfl (lv_at hl 0 rfl) ?_
  refine lv_iload_n hx hb dM_lender_6 rfl (lv_at hl 1 rfl) ?_
  refine gEndi (gRunV hF (c_M_isRequest l dC dI dA z M0 M mo ad 0 lt hs lw cn _ _ hR r) ln_M_73 hKA hB hR.top rfl rfl hl.1 rfl (Nat.le_of_ble_eq_true rfl) dM_lender_7 ⟨rfl, rfl, (Nat.le_of_ble_eq_true rfl), (Nat.le_of_ble_eq_true rfl)⟩ ⟨(Nat.le_of_ble_eq_true rfl), (Nat.le_of_ble_eq_true rfl)⟩) hB (fun y1 M1 H locs hp hB => ?_)
  obtain ⟨e1, e2⟩ := hp
  rw [e1] at hB
  cases hi : ix cn r with
  | none =>
    have e2 : y1 = 0 := by rw [e2, hi]; rfl
    subst e2
    refine lv_if_eq (tgt := 21) hx hb dM_lender_10 (by decide) (fun c10 => ?_) (fun c10 => ?_)
    · refine lv_iconst (v := (-1)) hx hb dM_lender_21 (by decide) ?_
      exact gg_iret hx hb hr hlocks hKA hB dM_lender_22 (by decide) (by decide) (mP_of (show sLender hs lt lw cn σ r h9 = ((-1), lt, lw, cn, σ) from by simp [sLender, hi]) ⟨_, hR, rfl⟩)
    · exact (c10 (by decide)).elim
  | some k =>
    have e2 : y1 = 1 := by rw [e2, hi]; rfl
    subst e2
    obtain ⟨hk, hr9⟩ := ix_some (by have := hR.c100; omega) hi
    subst hr9
    obtain ⟨⟨h, it, n, st, ho, db, du, fa, en, lf⟩, hq⟩ : ∃ q, σ k = q := ⟨_, rfl⟩
    have hq0 := hq
    have hv := hinv k hk
    refine lv_if_eq (tgt := 21) hx hb dM_lender_10 (by decide) (fun c10 => ?_) (fun c10 => ?_)
    · exact absurd c10 (by decide)
    · refine lv_aload_n hx hb dM_lender_13 rfl (lv_at hl 0 rfl) ?_
      refine lv_iload_n hx hb dM_lender_14 rfl (lv_at hl 2 rfl) ?_
      refine gEndi (gRunV hF (c_M_isHouse l dC dI dA z M0 M mo ad 0 lt hs lw cn _ _ hR hh9 h9) ln_M_68 hKA hB hR.top rfl rfl hl.1 rfl (Nat.le_of_ble_eq_true rfl) dM_lender_15 ⟨rfl, rfl, (Nat.le_of_ble_eq_true rfl), (Nat.le_of_ble_eq_true rfl)⟩ ⟨(Nat.le_of_ble_eq_true rfl), (Nat.le_of_ble_eq_true rfl)⟩) hB (fun y2 M1 H locs hp hB => ?_)
      obtain ⟨e1, e2⟩ := hp
      rw [e1] at hB
      cases hH2 : bH hs h9 with
      | false =>
        have e2 : y2 = 0 := by rw [e2, hH2]; rfl
        subst e2
        refine lv_if_ne (tgt := 23) hx hb dM_lender_18 (by decide) (fun c18 => ?_) (fun c18 => ?_)
        · exact (c18 (by decide)).elim
        · refine lv_iconst (v := (-1)) hx hb dM_lender_21 (by decide) ?_
          exact gg_iret hx hb hr hlocks hKA hB dM_lender_22 (by decide) (by decide) (mP_of (show sLender hs lt lw cn σ (nI k) h9 = ((-1), lt, lw, cn, σ) from by simp [sLender, hi, hH2]) ⟨_, hR, rfl⟩)
      | true =>
        have e2 : y2 = 1 := by rw [e2, hH2]; rfl
        subst e2
        refine lv_if_ne (tgt := 23) hx hb dM_lender_18 (by decide) (fun c18 => ?_) (fun c18 => ?_)
        · refine lv_aload_n hx hb dM_lender_23 rfl (lv_at hl 0 rfl) ?_
          refine gg_get (v := .ref (ad 2)) hx hb hts in_M hown hK hB hR.top rfl 7 (by decide) k_349 rfl rfl dM_lender_24 ?_
          refine lv_iload_n hx hb dM_lender_27 rfl (lv_at hl 1 rfl) ?_
          refine gg_iald (v := st) hx hb hK hB 2 (hR.ar 2 (by decide)) rfl (vp_in_nI (ml_lo (by decide) (by have := hR.c100; omega)) (ml_lt _)) (by rw [nI_clamp (by have := hR.c100; omega)]; exact (hR.r hk hq).2.2.1) dM_lender_28 ?_
          refine lv_if_ne (tgt := 42) hx hb dM_lender_29 (by decide) (fun c29 => ?_) (fun c29 => ?_)
          · refine lv_iconst (v := 1) hx hb dM_lender_42 (by decide) ?_
            refine lv_goto (tgt := 47) hx hb dM_lender_43 (by decide) ?_
            refine lv_istore_n (lv' := [(3, .int 1), (0, .ref mo), (1, .int (nI k)), (2, .int h9)]) hx hb dM_lender_47 rfl hl (by decide) rfl (fun ls hl => ?_)
            refine lv_iconst (v := 0) hx hb dM_lender_48 (by decide) ?_
            refine lv_istore (lv' := [(4, .int 0), (3, .int 1), (0, .ref mo), (1, .int (nI k)), (2, .int h9)]) hx hb dM_lender_49 hl (by decide) rfl (fun ls hl => ?_)
            have hb0 : bz ((!(decide (st = 0)) || decide (h = h9)) || (ff (fun d => decide (d.1 = h9)) lf 0 0).isSome) = 1 := by simp [ff, bz, c29]
            refine gLoop (G := fun ls => W p l e _ s m _ below meth c H locs 0 0 _ (F0 m 51 ls [])) (nL := 5) (fun i => [(4, .int (nI i)), (3, .int (bz ((!(decide (st = 0)) || decide (h = h9)) || (ff (fun d => decide (d.1 = h9)) lf i 0).isSome))), (0, .ref mo), (1, .int (nI k)), (2, .int h9)]) (fun _ => True) n ?_ 0 (Nat.zero_le _) trivial ls (lv_sub hl [0, 1, 2, 3, 4] (by rw [hb0]; rfl))
            intro i hi9 _ ih ls hl
            have hl : lv_has ls 5 [(4, .int (nI i)), (3, .int (bz ((!(decide (st = 0)) || decide (h = h9)) || (ff (fun d => decide (d.1 = h9)) lf i 0).isSome))), (0, .ref mo), (1, .int (nI k)), (2, .int h9)] := hl
            refine lv_iload hx hb dM_lender_51 (lv_at hl 0 rfl) ?_
            refine lv_aload_n hx hb dM_lender_53 rfl (lv_at hl 2 rfl) ?_
            refine gg_get (v := .ref (ad 3)) hx hb hts in_M hown hK hB hR.top rfl 8 (by decide) k_350 rfl rfl dM_lender_54 ?_
            refine lv_iload_n hx hb dM_lender_57 rfl (lv_at hl 3 rfl) ?_
            refine gg_iald (v := (nI n)) hx hb hK hB 2 (hR.ar 3 (by decide)) rfl (vp_in_nI (ml_lo (by decide) (by have := hR.c100; omega)) (ml_lt _)) (by rw [nI_clamp (by have := hR.c100; omega)]; exact (hR.r hk hq).2.2.2.1) dM_lender_58 ?_
            refine lv_icmp_ge (tgt := 94) hx hb dM_lender_59 (by decide) (fun c59 => ?_) (fun c59 => ?_)
            · have hin9 : i = n := nI_top (by have := hR.c100; have h8 : n ≤ 8 := hR.n8 hk hq; omega) c59 hi9
              rw [hin9] at hl
              cases hbn : ((!(decide (st = 0)) || decide (h = h9)) || (ff (fun d => decide (d.1 = h9)) lf n 0).isSome) with
              | false =>
                have hl : lv_has ls 5 [(4, .int (nI n)), (3, .int 0), (0, .ref mo), (1, .int (nI k)), (2, .int h9)] := by rw [hbn] at hl; exact hl
                refine lv_iload_n hx hb dM_lender_94 rfl (lv_at hl 1 rfl) ?_
                refine lv_if_eq (tgt := 101) hx hb dM_lender_95 (by decide) (fun c95 => ?_) (fun c95 => ?_)
                · refine lv_aload_n hx hb dM_lender_101 rfl (lv_at hl 2 rfl) ?_
                  refine gg_get (v := .ref (ad 3)) hx hb hts in_M hown hK hB hR.top rfl 8 (by decide) k_350 rfl rfl dM_lender_102 ?_
                  refine lv_iload_n hx hb dM_lender_105 rfl (lv_at hl 3 rfl) ?_
                  refine gg_iald (v := (nI n)) hx hb hK hB 2 (hR.ar 3 (by decide)) rfl (vp_in_nI (ml_lo (by decide) (by have := hR.c100; omega)) (ml_lt _)) (by rw [nI_clamp (by have := hR.c100; omega)]; exact (hR.r hk hq).2.2.2.1) dM_lender_106 ?_
                  refine lv_bipush (v := 8) hx hb dM_lender_107 (by decide) ?_
                  refine lv_icmp_ne (tgt := 115) hx hb dM_lender_109 (by decide) (fun c109 => ?_) (fun c109 => ?_)
                  · have hn8 : n < 8 := by have h1 : n ≤ 8 := hR.n8 hk hq; have h2 : ¬ n = 8 := fun q => c109 (by rw [q]; rfl); omega
                    refine lv_aload_n hx hb dM_lender_115 rfl (lv_at hl 2 rfl) ?_
                    refine gg_get (v := .ref (ad 8)) hx hb hts in_M hown hK hB hR.top rfl 13 (by decide) k_355 rfl rfl dM_lender_116 ?_
                    refine lv_bipush (v := 8) hx hb dM_lender_119 (by decide) ?_
                    refine lv_iload_n hx hb dM_lender_121 rfl (lv_at hl 3 rfl) ?_
                    refine lv_imul hx hb dM_lender_122 ?_
                    rw [gm8 k]
                    refine lv_aload_n hx hb dM_lender_123 rfl (lv_at hl 2 rfl) ?_
                    refine gg_get (v := .ref (ad 3)) hx hb hts in_M hown hK hB hR.top rfl 8 (by decide) k_350 rfl rfl dM_lender_124 ?_
                    refine lv_iload_n hx hb dM_lender_127 rfl (lv_at hl 3 rfl) ?_
                    refine gg_iald (v := (nI n)) hx hb hK hB 2 (hR.ar 3 (by decide)) rfl (vp_in_nI (ml_lo (by decide) (by have := hR.c100; omega)) (ml_lt _)) (by rw [nI_clamp (by have := hR.c100; omega)]; exact (hR.r hk hq).2.2.2.1) dM_lender_128 ?_
                    refine lv_iadd hx hb dM_lender_129 ?_
                    rw [nI_add (8 * k) n]
                    refine lv_iload_n hx hb dM_lender_130 rfl (lv_at hl 4 rfl) ?_
                    refine gg_iast hx hb hK hB 2 (hR.ar 8 (by decide)) rfl (vp_in_nI (ml_hi (by decide) (by have := hR.c100; omega)) (ml_lt _)) dM_lender_131 (fun H locs hB => ?_)
                    rw [nI_clamp (by have := hR.c100; omega)] at hB
                    have hR := hR.put 8 (by decide) (8 * k + n) h9 (hR.re.out2 hk (by rw [hq]) hn8 8 (by decide) h9)
                    have ea8 : u2 f 8 (8 * k + n) h9 8 (8 * k + n) = h9 := u2_s _ _ _ _
                    have hB : gB (dC, dI) gcl z (gU M (ad 8) (aI dA (ml 8) (upd (f 8) (8 * k + n) h9))) s.heap H locs := hB
                    generalize gU M (ad 8) (aI dA (ml 8) (upd (f 8) (8 * k + n) h9)) = M at hB hR
                    generalize u2 f 8 (8 * k + n) h9 = f at hR ea8
                    refine lv_aload_n hx hb dM_lender_132 rfl (lv_at hl 2 rfl) ?_
                    refine gg_get (v := .ref (ad 10)) hx hb hts in_M hown hK hB hR.top rfl 15 (by decide) k_357 rfl rfl dM_lender_133 ?_
                    refine lv_bipush (v := 8) hx hb dM_lender_136 (by decide) ?_
                    refine lv_iload_n hx hb dM_lender_138 rfl (lv_at hl 3 rfl) ?_
                    refine lv_imul hx hb dM_lender_139 ?_
                    rw [gm8 k]
                    refine lv_aload_n hx hb dM_lender_140 rfl (lv_at hl 2 rfl) ?_
                    refine gg_get (v := .ref (ad 3)) hx hb hts in_M hown hK hB hR.top rfl 8 (by decide) k_350 rfl rfl dM_lender_141 ?_
                    refine lv_iload_n hx hb dM_lender_144 rfl (lv_at hl 3 rfl) ?_
                    refine gg_iald (v := (nI n)) hx hb hK hB 2 (hR.ar 3 (by decide)) rfl (vp_in_nI (ml_lo (by decide) (by have := hR.c100; omega)) (ml_lt _)) (by rw [nI_clamp (by have := hR.c100; omega)]; exact (hR.r hk hq).2.2.2.1) dM_lender_145 ?_
                    refine lv_iadd hx hb dM_lender_146 ?_
                    rw [nI_add (8 * k) n]
                    refine lv_iconst (v := (-1)) hx hb dM_lender_147 (by decide) ?_
                    refine gg_iast hx hb hK hB 2 (hR.ar 10 (by decide)) rfl (vp_in_nI (ml_hi (by decide) (by have := hR.c100; omega)) (ml_lt _)) dM_lender_148 (fun H locs hB => ?_)
                    rw [nI_clamp (by have := hR.c100; omega)] at hB
                    have hR := hR.put 10 (by decide) (8 * k + n) (-1) (hR.re.out2 hk (by rw [hq]) hn8 10 (by decide) (-1))
                    have ea8 : u2 f 10 (8 * k + n) (-1) 8 (8 * k + n) = h9 := (u2_j (by decide)).trans ea8
                    have ea10 : u2 f 10 (8 * k + n) (-1) 10 (8 * k + n) = (-1) := u2_s _ _ _ _
                    have hB : gB (dC, dI) gcl z (gU M (ad 10) (aI dA (ml 10) (upd (f 10) (8 * k + n) (-1)))) s.heap H locs := hB
                    generalize gU M (ad 10) (aI dA (ml 10) (upd (f 10) (8 * k + n) (-1))) = M at hB hR
                    generalize u2 f 10 (8 * k + n) (-1) = f at hR ea8 ea10
                    refine lv_aload_n hx hb dM_lender_149 rfl (lv_at hl 2 rfl) ?_
                    refine gg_get (v := .ref (ad 3)) hx hb hts in_M hown hK hB hR.top rfl 8 (by decide) k_350 rfl rfl dM_lender_150 ?_
                    refine lv_iload_n hx hb dM_lender_153 rfl (lv_at hl 3 rfl) ?_
                    refine lv_dup2_11 hx hb dM_lender_154 rfl rfl ?_
                    refine gg_iald (v := (nI n)) hx hb hK hB 2 (hR.ar 3 (by decide)) rfl (vp_in_nI (ml_lo (by decide) (by have := hR.c100; omega)) (ml_lt _)) (by rw [nI_clamp (by have := hR.c100; omega)]; exact (hR.r hk hq).2.2.2.1) dM_lender_155 ?_
                    refine lv_iconst (v := 1) hx hb dM_lender_156 (by decide) ?_
                    refine lv_iadd hx hb dM_lender_157 ?_
                    rw [nI_1 n]
                    refine gg_iast hx hb hK hB 2 (hR.ar 3 (by decide)) rfl (vp_in_nI (ml_lo (by decide) (by have := hR.c100; omega)) (ml_lt _)) dM_lender_158 (fun H locs hB => ?_)
                    rw [nI_clamp (by have := hR.c100; omega)] at hB
                    have hR := hR.put 3 (by decide) k (nI (n + 1)) (hR.re.add hk hq hn8 ea8 ea10)
                    have hq : va_up σ k (h, it, n + 1, st, ho, db, du, fa, en, va_up lf n (h9, 0, -1, 0)) k = (h, it, n + 1, st, ho, db, du, fa, en, va_up lf n (h9, 0, -1, 0)) := va_up_self _ _ _
                    have hB : gB (dC, dI) gcl z (gU M (ad 3) (aI dA (ml 3) (upd (f 3) k (nI (n + 1))))) s.heap H locs := hB
                    generalize gU M (ad 3) (aI dA (ml 3) (upd (f 3) k (nI (n + 1)))) = M at hB hR
                    generalize u2 f 3 k (nI (n + 1)) = f at hR 
                    refine lv_aload_n hx hb dM_lender_159 rfl (lv_at hl 2 rfl) ?_
                    refine gg_get (v := .ref (ad 3)) hx hb hts in_M hown hK hB hR.top rfl 8 (by decide) k_350 rfl rfl dM_lender_160 ?_
                    refine lv_iload_n hx hb dM_lender_163 rfl (lv_at hl 3 rfl) ?_
                    refine gg_iald (v := (nI (n + 1))) hx hb hK hB 2 (hR.ar 3 (by decide)) rfl (vp_in_nI (ml_lo (by decide) (by have := hR.c100; omega)) (ml_lt _)) (by rw [nI_clamp (by have := hR.c100; omega)]; exact (hR.r hk hq).2.2.2.1) dM_lender_164 ?_
                    exact gg_iret hx hb hr hlocks hKA hB dM_lender_165 (by decide) (by decide) (mP_of (sLender_y hi hH2 hq0 hbn (by omega)) ⟨_, hR, rfl⟩)
                  · refine lv_bipush (v := (-4)) hx hb dM_lender_112 (by decide) ?_
                    exact gg_iret hx hb hr hlocks hKA hB dM_lender_114 (by decide) (by decide) (mP_of (sLender_4 hi hH2 hq0 hbn ((nI_eq (by have := hR.c100; have h8 : n ≤ 8 := hR.n8 hk hq; omega) (by decide)).mp c109)) ⟨_, hR, rfl⟩)
                · exact (c95 (by decide)).elim
              | true =>
                have hl : lv_has ls 5 [(4, .int (nI n)), (3, .int 1), (0, .ref mo), (1, .int (nI k)), (2, .int h9)] := by rw [hbn] at hl; exact hl
                refine lv_iload_n hx hb dM_lender_94 rfl (lv_at hl 1 rfl) ?_
                refine lv_if_eq (tgt := 101) hx hb dM_lender_95 (by decide) (fun c95 => ?_) (fun c95 => ?_)
                · exact absurd c95 (by decide)
                · refine lv_bipush (v := (-3)) hx hb dM_lender_98 (by decide) ?_
                  exact gg_iret hx hb hr hlocks hKA hB dM_lender_100 (by decide) (by decide) (mP_of (sLender_3 hi hH2 hq0 hbn) ⟨_, hR, rfl⟩)
            · have hin : i < n := Nat.lt_of_not_le (fun q => c59 (nI_le q (by have := hR.c100; have h8 : n ≤ 8 := hR.n8 hk hq; omega)))
              cases hbi : ((!(decide (st = 0)) || decide (h = h9)) || (ff (fun d => decide (d.1 = h9)) lf i 0).isSome) with
              | false =>
                have hl : lv_has ls 5 [(4, .int (nI i)), (3, .int 0), (0, .ref mo), (1, .int (nI k)), (2, .int h9)] := by rw [hbi] at hl; exact hl
                refine lv_iload_n hx hb dM_lender_62 rfl (lv_at hl 1 rfl) ?_
                refine lv_if_ne (tgt := 82) hx hb dM_lender_63 (by decide) (fun c63 => ?_) (fun c63 => ?_)
                · exact (c63 (by decide)).elim
                · refine lv_aload_n hx hb dM_lender_66 rfl (lv_at hl 2 rfl) ?_
                  refine gg_get (v := .ref (ad 8)) hx hb hts in_M hown hK hB hR.top rfl 13 (by decide) k_355 rfl rfl dM_lender_67 ?_
                  refine lv_bipush (v := 8) hx hb dM_lender_70 (by decide) ?_
                  refine lv_iload_n hx hb dM_lender_72 rfl (lv_at hl 3 rfl) ?_
                  refine lv_imul hx hb dM_lender_73 ?_
                  rw [gm8 k]
                  refine lv_iload hx hb dM_lender_74 (lv_at hl 0 rfl) ?_
                  refine lv_iadd hx hb dM_lender_76 ?_
                  rw [nI_add (8 * k) i]
                  refine gg_iald (v := ((lf i).1)) hx hb hK hB 2 (hR.ar 8 (by decide)) rfl (vp_in_nI (ml_hi (by decide) (by have := hR.c100; have h8 : n ≤ 8 := hR.n8 hk hq; omega)) (ml_lt _)) (by rw [nI_clamp (by have := hR.c100; have h8 : n ≤ 8 := hR.n8 hk hq; omega)]; exact (hR.l hk hq hin).1) dM_lender_77 ?_
                  refine lv_iload_n hx hb dM_lender_78 rfl (lv_at hl 4 rfl) ?_
                  refine lv_icmp_ne (tgt := 86) hx hb dM_lender_79 (by decide) (fun c79 => ?_) (fun c79 => ?_)
                  · refine lv_iconst (v := 0) hx hb dM_lender_86 (by decide) ?_
                    have hadn : bz ((!(decide (st = 0)) || decide (h = h9)) || (ff (fun d => decide (d.1 = h9)) lf (i + 1) 0).isSome) = 0 := by rw [ff_snoc, Nat.zero_add, ← Bool.or_assoc, hbi]; simp [bz, c79]
                    refine lv_istore_n (lv' := [(3, .int 0), (4, .int (nI i)), (0, .ref mo), (1, .int (nI k)), (2, .int h9)]) hx hb dM_lender_87 rfl hl (by decide) rfl (fun ls hl => ?_)
                    refine lv_iinc (v := (nI (i + 1))) (lv' := [(4, .int (nI (i + 1))), (3, .int 0), (0, .ref mo), (1, .int (nI k)), (2, .int h9)]) hx hb dM_lender_88 hl (k := 1) rfl (nI_1 i) (by decide) rfl (fun ls hl => ?_)
                    refine lv_goto (tgt := 51) hx hb dM_lender_91 (by decide) ?_
                    exact ih hin trivial ls (lv_sub hl [0, 1, 2, 3, 4] (by rw [hadn]; rfl))
                  · refine lv_iconst (v := 1) hx hb dM_lender_82 (by decide) ?_
                    refine lv_goto (tgt := 87) hx hb dM_lender_83 (by decide) ?_
                    have hadn : bz ((!(decide (st = 0)) || decide (h = h9)) || (ff (fun d => decide (d.1 = h9)) lf (i + 1) 0).isSome) = 1 := by rw [ff_snoc, Nat.zero_add, ← Bool.or_assoc, hbi]; simp [bz, c79]
                    refine lv_istore_n (lv' := [(3, .int 1), (4, .int (nI i)), (0, .ref mo), (1, .int (nI k)), (2, .int h9)]) hx hb dM_lender_87 rfl hl (by decide) rfl (fun ls hl => ?_)
                    refine lv_iinc (v := (nI (i + 1))) (lv' := [(4, .int (nI (i + 1))), (3, .int 1), (0, .ref mo), (1, .int (nI k)), (2, .int h9)]) hx hb dM_lender_88 hl (k := 1) rfl (nI_1 i) (by decide) rfl (fun ls hl => ?_)
                    refine lv_goto (tgt := 51) hx hb dM_lender_91 (by decide) ?_
                    exact ih hin trivial ls (lv_sub hl [0, 1, 2, 3, 4] (by rw [hadn]; rfl))
              | true =>
                have hl : lv_has ls 5 [(4, .int (nI i)), (3, .int 1), (0, .ref mo), (1, .int (nI k)), (2, .int h9)] := by rw [hbi] at hl; exact hl
                refine lv_iload_n hx hb dM_lender_62 rfl (lv_at hl 1 rfl) ?_
                refine lv_if_ne (tgt := 82) hx hb dM_lender_63 (by decide) (fun c63 => ?_) (fun c63 => ?_)
                · refine lv_iconst (v := 1) hx hb dM_lender_82 (by decide) ?_
                  refine lv_goto (tgt := 87) hx hb dM_lender_83 (by decide) ?_
                  have hadn : bz ((!(decide (st = 0)) || decide (h = h9)) || (ff (fun d => decide (d.1 = h9)) lf (i + 1) 0).isSome) = 1 := by rw [ff_snoc, Nat.zero_add, ← Bool.or_assoc, hbi]; simp [bz]
                  refine lv_istore_n (lv' := [(3, .int 1), (4, .int (nI i)), (0, .ref mo), (1, .int (nI k)), (2, .int h9)]) hx hb dM_lender_87 rfl hl (by decide) rfl (fun ls hl => ?_)
                  refine lv_iinc (v := (nI (i + 1))) (lv' := [(4, .int (nI (i + 1))), (3, .int 1), (0, .ref mo), (1, .int (nI k)), (2, .int h9)]) hx hb dM_lender_88 hl (k := 1) rfl (nI_1 i) (by decide) rfl (fun ls hl => ?_)
                  refine lv_goto (tgt := 51) hx hb dM_lender_91 (by decide) ?_
                  exact ih hin trivial ls (lv_sub hl [0, 1, 2, 3, 4] (by rw [hadn]; rfl))
                · exact absurd c63 (by decide)
          · refine lv_aload_n hx hb dM_lender_32 rfl (lv_at hl 0 rfl) ?_
            refine gg_get (v := .ref (ad 0)) hx hb hts in_M hown hK hB hR.top rfl 5 (by decide) k_347 rfl rfl dM_lender_33 ?_
            refine lv_iload_n hx hb dM_lender_36 rfl (lv_at hl 1 rfl) ?_
            refine gg_iald (v := h) hx hb hK hB 2 (hR.ar 0 (by decide)) rfl (vp_in_nI (ml_lo (by decide) (by have := hR.c100; omega)) (ml_lt _)) (by rw [nI_clamp (by have := hR.c100; omega)]; exact (hR.r hk hq).1) dM_lender_37 ?_
            refine lv_iload_n hx hb dM_lender_38 rfl (lv_at hl 2 rfl) ?_
            refine lv_icmp_ne (tgt := 46) hx hb dM_lender_39 (by decide) (fun c39 => ?_) (fun c39 => ?_)
            · refine lv_iconst (v := 0) hx hb dM_lender_46 (by decide) ?_
              refine lv_istore_n (lv' := [(3, .int 0), (0, .ref mo), (1, .int (nI k)), (2, .int h9)]) hx hb dM_lender_47 rfl hl (by decide) rfl (fun ls hl => ?_)
              refine lv_iconst (v := 0) hx hb dM_lender_48 (by decide) ?_
              refine lv_istore (lv' := [(4, .int 0), (3, .int 0), (0, .ref mo), (1, .int (nI k)), (2, .int h9)]) hx hb dM_lender_49 hl (by decide) rfl (fun ls hl => ?_)
              have hb0 : bz ((!(decide (st = 0)) || decide (h = h9)) || (ff (fun d => decide (d.1 = h9)) lf 0 0).isSome) = 0 := by simp [ff, bz, c29, c39]
              refine gLoop (G := fun ls => W p l e _ s m _ below meth c H locs 0 0 _ (F0 m 51 ls [])) (nL := 5) (fun i => [(4, .int (nI i)), (3, .int (bz ((!(decide (st = 0)) || decide (h = h9)) || (ff (fun d => decide (d.1 = h9)) lf i 0).isSome))), (0, .ref mo), (1, .int (nI k)), (2, .int h9)]) (fun _ => True) n ?_ 0 (Nat.zero_le _) trivial ls (lv_sub hl [0, 1, 2, 3, 4] (by rw [hb0]; rfl))
              intro i hi9 _ ih ls hl
              have hl : lv_has ls 5 [(4, .int (nI i)), (3, .int (bz ((!(decide (st = 0)) || decide (h = h9)) || (ff (fun d => decide (d.1 = h9)) lf i 0).isSome))), (0, .ref mo), (1, .int (nI k)), (2, .int h9)] := hl
              refine lv_iload hx hb dM_lender_51 (lv_at hl 0 rfl) ?_
              refine lv_aload_n hx hb dM_lender_53 rfl (lv_at hl 2 rfl) ?_
              refine gg_get (v := .ref (ad 3)) hx hb hts in_M hown hK hB hR.top rfl 8 (by decide) k_350 rfl rfl dM_lender_54 ?_
              refine lv_iload_n hx hb dM_lender_57 rfl (lv_at hl 3 rfl) ?_
              refine gg_iald (v := (nI n)) hx hb hK hB 2 (hR.ar 3 (by decide)) rfl (vp_in_nI (ml_lo (by decide) (by have := hR.c100; omega)) (ml_lt _)) (by rw [nI_clamp (by have := hR.c100; omega)]; exact (hR.r hk hq).2.2.2.1) dM_lender_58 ?_
              refine lv_icmp_ge (tgt := 94) hx hb dM_lender_59 (by decide) (fun c59 => ?_) (fun c59 => ?_)
              · have hin9 : i = n := nI_top (by have := hR.c100; have h8 : n ≤ 8 := hR.n8 hk hq; omega) c59 hi9
                rw [hin9] at hl
                cases hbn : ((!(decide (st = 0)) || decide (h = h9)) || (ff (fun d => decide (d.1 = h9)) lf n 0).isSome) with
                | false =>
                  have hl : lv_has ls 5 [(4, .int (nI n)), (3, .int 0), (0, .ref mo), (1, .int (nI k)), (2, .int h9)] := by rw [hbn] at hl; exact hl
                  refine lv_iload_n hx hb dM_lender_94 rfl (lv_at hl 1 rfl) ?_
                  refine lv_if_eq (tgt := 101) hx hb dM_lender_95 (by decide) (fun c95 => ?_) (fun c95 => ?_)
                  · refine lv_aload_n hx hb dM_lender_101 rfl (lv_at hl 2 rfl) ?_
                    refine gg_get (v := .ref (ad 3)) hx hb hts in_M hown hK hB hR.top rfl 8 (by decide) k_350 rfl rfl dM_lender_102 ?_
                    refine lv_iload_n hx hb dM_lender_105 rfl (lv_at hl 3 rfl) ?_
                    refine gg_iald (v := (nI n)) hx hb hK hB 2 (hR.ar 3 (by decide)) rfl (vp_in_nI (ml_lo (by decide) (by have := hR.c100; omega)) (ml_lt _)) (by rw [nI_clamp (by have := hR.c100; omega)]; exact (hR.r hk hq).2.2.2.1) dM_lender_106 ?_
                    refine lv_bipush (v := 8) hx hb dM_lender_107 (by decide) ?_
                    refine lv_icmp_ne (tgt := 115) hx hb dM_lender_109 (by decide) (fun c109 => ?_) (fun c109 => ?_)
                    · have hn8 : n < 8 := by have h1 : n ≤ 8 := hR.n8 hk hq; have h2 : ¬ n = 8 := fun q => c109 (by rw [q]; rfl); omega
                      refine lv_aload_n hx hb dM_lender_115 rfl (lv_at hl 2 rfl) ?_
                      refine gg_get (v := .ref (ad 8)) hx hb hts in_M hown hK hB hR.top rfl 13 (by decide) k_355 rfl rfl dM_lender_116 ?_
                      refine lv_bipush (v := 8) hx hb dM_lender_119 (by decide) ?_
                      refine lv_iload_n hx hb dM_lender_121 rfl (lv_at hl 3 rfl) ?_
                      refine lv_imul hx hb dM_lender_122 ?_
                      rw [gm8 k]
                      refine lv_aload_n hx hb dM_lender_123 rfl (lv_at hl 2 rfl) ?_
                      refine gg_get (v := .ref (ad 3)) hx hb hts in_M hown hK hB hR.top rfl 8 (by decide) k_350 rfl rfl dM_lender_124 ?_
                      refine lv_iload_n hx hb dM_lender_127 rfl (lv_at hl 3 rfl) ?_
                      refine gg_iald (v := (nI n)) hx hb hK hB 2 (hR.ar 3 (by decide)) rfl (vp_in_nI (ml_lo (by decide) (by have := hR.c100; omega)) (ml_lt _)) (by rw [nI_clamp (by have := hR.c100; omega)]; exact (hR.r hk hq).2.2.2.1) dM_lender_128 ?_
                      refine lv_iadd hx hb dM_lender_129 ?_
                      rw [nI_add (8 * k) n]
                      refine lv_iload_n hx hb dM_lender_130 rfl (lv_at hl 4 rfl) ?_
                      refine gg_iast hx hb hK hB 2 (hR.ar 8 (by decide)) rfl (vp_in_nI (ml_hi (by decide) (by have := hR.c100; omega)) (ml_lt _)) dM_lender_131 (fun H locs hB => ?_)
                      rw [nI_clamp (by have := hR.c100; omega)] at hB
                      have hR := hR.put 8 (by decide) (8 * k + n) h9 (hR.re.out2 hk (by rw [hq]) hn8 8 (by decide) h9)
                      have ea8 : u2 f 8 (8 * k + n) h9 8 (8 * k + n) = h9 := u2_s _ _ _ _
                      have hB : gB (dC, dI) gcl z (gU M (ad 8) (aI dA (ml 8) (upd (f 8) (8 * k + n) h9))) s.heap H locs := hB
                      generalize gU M (ad 8) (aI dA (ml 8) (upd (f 8) (8 * k + n) h9)) = M at hB hR
                      generalize u2 f 8 (8 * k + n) h9 = f at hR ea8
                      refine lv_aload_n hx hb dM_lender_132 rfl (lv_at hl 2 rfl) ?_
                      refine gg_get (v := .ref (ad 10)) hx hb hts in_M hown hK hB hR.top rfl 15 (by decide) k_357 rfl rfl dM_lender_133 ?_
                      refine lv_bipush (v := 8) hx hb dM_lender_136 (by decide) ?_
                      refine lv_iload_n hx hb dM_lender_138 rfl (lv_at hl 3 rfl) ?_
                      refine lv_imul hx hb dM_lender_139 ?_
                      rw [gm8 k]
                      refine lv_aload_n hx hb dM_lender_140 rfl (lv_at hl 2 rfl) ?_
                      refine gg_get (v := .ref (ad 3)) hx hb hts in_M hown hK hB hR.top rfl 8 (by decide) k_350 rfl rfl dM_lender_141 ?_
                      refine lv_iload_n hx hb dM_lender_144 rfl (lv_at hl 3 rfl) ?_
                      refine gg_iald (v := (nI n)) hx hb hK hB 2 (hR.ar 3 (by decide)) rfl (vp_in_nI (ml_lo (by decide) (by have := hR.c100; omega)) (ml_lt _)) (by rw [nI_clamp (by have := hR.c100; omega)]; exact (hR.r hk hq).2.2.2.1) dM_lender_145 ?_
                      refine lv_iadd hx hb dM_lender_146 ?_
                      rw [nI_add (8 * k) n]
                      refine lv_iconst (v := (-1)) hx hb dM_lender_147 (by decide) ?_
                      refine gg_iast hx hb hK hB 2 (hR.ar 10 (by decide)) rfl (vp_in_nI (ml_hi (by decide) (by have := hR.c100; omega)) (ml_lt _)) dM_lender_148 (fun H locs hB => ?_)
                      rw [nI_clamp (by have := hR.c100; omega)] at hB
                      have hR := hR.put 10 (by decide) (8 * k + n) (-1) (hR.re.out2 hk (by rw [hq]) hn8 10 (by decide) (-1))
                      have ea8 : u2 f 10 (8 * k + n) (-1) 8 (8 * k + n) = h9 := (u2_j (by decide)).trans ea8
                      have ea10 : u2 f 10 (8 * k + n) (-1) 10 (8 * k + n) = (-1) := u2_s _ _ _ _
                      have hB : gB (dC, dI) gcl z (gU M (ad 10) (aI dA (ml 10) (upd (f 10) (8 * k + n) (-1)))) s.heap H locs := hB
                      generalize gU M (ad 10) (aI dA (ml 10) (upd (f 10) (8 * k + n) (-1))) = M at hB hR
                      generalize u2 f 10 (8 * k + n) (-1) = f at hR ea8 ea10
                      refine lv_aload_n hx hb dM_lender_149 rfl (lv_at hl 2 rfl) ?_
                      refine gg_get (v := .ref (ad 3)) hx hb hts in_M hown hK hB hR.top rfl 8 (by decide) k_350 rfl rfl dM_lender_150 ?_
                      refine lv_iload_n hx hb dM_lender_153 rfl (lv_at hl 3 rfl) ?_
                      refine lv_dup2_11 hx hb dM_lender_154 rfl rfl ?_
                      refine gg_iald (v := (nI n)) hx hb hK hB 2 (hR.ar 3 (by decide)) rfl (vp_in_nI (ml_lo (by decide) (by have := hR.c100; omega)) (ml_lt _)) (by rw [nI_clamp (by have := hR.c100; omega)]; exact (hR.r hk hq).2.2.2.1) dM_lender_155 ?_
                      refine lv_iconst (v := 1) hx hb dM_lender_156 (by decide) ?_
                      refine lv_iadd hx hb dM_lender_157 ?_
                      rw [nI_1 n]
                      refine gg_iast hx hb hK hB 2 (hR.ar 3 (by decide)) rfl (vp_in_nI (ml_lo (by decide) (by have := hR.c100; omega)) (ml_lt _)) dM_lender_158 (fun H locs hB => ?_)
                      rw [nI_clamp (by have := hR.c100; omega)] at hB
                      have hR := hR.put 3 (by decide) k (nI (n + 1)) (hR.re.add hk hq hn8 ea8 ea10)
                      have hq : va_up σ k (h, it, n + 1, st, ho, db, du, fa, en, va_up lf n (h9, 0, -1, 0)) k = (h, it, n + 1, st, ho, db, du, fa, en, va_up lf n (h9, 0, -1, 0)) := va_up_self _ _ _
                      have hB : gB (dC, dI) gcl z (gU M (ad 3) (aI dA (ml 3) (upd (f 3) k (nI (n + 1))))) s.heap H locs := hB
                      generalize gU M (ad 3) (aI dA (ml 3) (upd (f 3) k (nI (n + 1)))) = M at hB hR
                      generalize u2 f 3 k (nI (n + 1)) = f at hR 
                      refine lv_aload_n hx hb dM_lender_159 rfl (lv_at hl 2 rfl) ?_
                      refine gg_get (v := .ref (ad 3)) hx hb hts in_M hown hK hB hR.top rfl 8 (by decide) k_350 rfl rfl dM_lender_160 ?_
                      refine lv_iload_n hx hb dM_lender_163 rfl (lv_at hl 3 rfl) ?_
                      refine gg_iald (v := (nI (n + 1))) hx hb hK hB 2 (hR.ar 3 (by decide)) rfl (vp_in_nI (ml_lo (by decide) (by have := hR.c100; omega)) (ml_lt _)) (by rw [nI_clamp (by have := hR.c100; omega)]; exact (hR.r hk hq).2.2.2.1) dM_lender_164 ?_
                      exact gg_iret hx hb hr hlocks hKA hB dM_lender_165 (by decide) (by decide) (mP_of (sLender_y hi hH2 hq0 hbn (by omega)) ⟨_, hR, rfl⟩)
                    · refine lv_bipush (v := (-4)) hx hb dM_lender_112 (by decide) ?_
                      exact gg_iret hx hb hr hlocks hKA hB dM_lender_114 (by decide) (by decide) (mP_of (sLender_4 hi hH2 hq0 hbn ((nI_eq (by have := hR.c100; have h8 : n ≤ 8 := hR.n8 hk hq; omega) (by decide)).mp c109)) ⟨_, hR, rfl⟩)
                  · exact (c95 (by decide)).elim
                | true =>
                  have hl : lv_has ls 5 [(4, .int (nI n)), (3, .int 1), (0, .ref mo), (1, .int (nI k)), (2, .int h9)] := by rw [hbn] at hl; exact hl
                  refine lv_iload_n hx hb dM_lender_94 rfl (lv_at hl 1 rfl) ?_
                  refine lv_if_eq (tgt := 101) hx hb dM_lender_95 (by decide) (fun c95 => ?_) (fun c95 => ?_)
                  · exact absurd c95 (by decide)
                  · refine lv_bipush (v := (-3)) hx hb dM_lender_98 (by decide) ?_
                    exact gg_iret hx hb hr hlocks hKA hB dM_lender_100 (by decide) (by decide) (mP_of (sLender_3 hi hH2 hq0 hbn) ⟨_, hR, rfl⟩)
              · have hin : i < n := Nat.lt_of_not_le (fun q => c59 (nI_le q (by have := hR.c100; have h8 : n ≤ 8 := hR.n8 hk hq; omega)))
                cases hbi : ((!(decide (st = 0)) || decide (h = h9)) || (ff (fun d => decide (d.1 = h9)) lf i 0).isSome) with
                | false =>
                  have hl : lv_has ls 5 [(4, .int (nI i)), (3, .int 0), (0, .ref mo), (1, .int (nI k)), (2, .int h9)] := by rw [hbi] at hl; exact hl
                  refine lv_iload_n hx hb dM_lender_62 rfl (lv_at hl 1 rfl) ?_
                  refine lv_if_ne (tgt := 82) hx hb dM_lender_63 (by decide) (fun c63 => ?_) (fun c63 => ?_)
                  · exact (c63 (by decide)).elim
                  · refine lv_aload_n hx hb dM_lender_66 rfl (lv_at hl 2 rfl) ?_
                    refine gg_get (v := .ref (ad 8)) hx hb hts in_M hown hK hB hR.top rfl 13 (by decide) k_355 rfl rfl dM_lender_67 ?_
                    refine lv_bipush (v := 8) hx hb dM_lender_70 (by decide) ?_
                    refine lv_iload_n hx hb dM_lender_72 rfl (lv_at hl 3 rfl) ?_
                    refine lv_imul hx hb dM_lender_73 ?_
                    rw [gm8 k]
                    refine lv_iload hx hb dM_lender_74 (lv_at hl 0 rfl) ?_
                    refine lv_iadd hx hb dM_lender_76 ?_
                    rw [nI_add (8 * k) i]
                    refine gg_iald (v := ((lf i).1)) hx hb hK hB 2 (hR.ar 8 (by decide)) rfl (vp_in_nI (ml_hi (by decide) (by have := hR.c100; have h8 : n ≤ 8 := hR.n8 hk hq; omega)) (ml_lt _)) (by rw [nI_clamp (by have := hR.c100; have h8 : n ≤ 8 := hR.n8 hk hq; omega)]; exact (hR.l hk hq hin).1) dM_lender_77 ?_
                    refine lv_iload_n hx hb dM_lender_78 rfl (lv_at hl 4 rfl) ?_
                    refine lv_icmp_ne (tgt := 86) hx hb dM_lender_79 (by decide) (fun c79 => ?_) (fun c79 => ?_)
                    · refine lv_iconst (v := 0) hx hb dM_lender_86 (by decide) ?_
                      have hadn : bz ((!(decide (st = 0)) || decide (h = h9)) || (ff (fun d => decide (d.1 = h9)) lf (i + 1) 0).isSome) = 0 := by rw [ff_snoc, Nat.zero_add, ← Bool.or_assoc, hbi]; simp [bz, c79]
                      refine lv_istore_n (lv' := [(3, .int 0), (4, .int (nI i)), (0, .ref mo), (1, .int (nI k)), (2, .int h9)]) hx hb dM_lender_87 rfl hl (by decide) rfl (fun ls hl => ?_)
                      refine lv_iinc (v := (nI (i + 1))) (lv' := [(4, .int (nI (i + 1))), (3, .int 0), (0, .ref mo), (1, .int (nI k)), (2, .int h9)]) hx hb dM_lender_88 hl (k := 1) rfl (nI_1 i) (by decide) rfl (fun ls hl => ?_)
                      refine lv_goto (tgt := 51) hx hb dM_lender_91 (by decide) ?_
                      exact ih hin trivial ls (lv_sub hl [0, 1, 2, 3, 4] (by rw [hadn]; rfl))
                    · refine lv_iconst (v := 1) hx hb dM_lender_82 (by decide) ?_
                      refine lv_goto (tgt := 87) hx hb dM_lender_83 (by decide) ?_
                      have hadn : bz ((!(decide (st = 0)) || decide (h = h9)) || (ff (fun d => decide (d.1 = h9)) lf (i + 1) 0).isSome) = 1 := by rw [ff_snoc, Nat.zero_add, ← Bool.or_assoc, hbi]; simp [bz, c79]
                      refine lv_istore_n (lv' := [(3, .int 1), (4, .int (nI i)), (0, .ref mo), (1, .int (nI k)), (2, .int h9)]) hx hb dM_lender_87 rfl hl (by decide) rfl (fun ls hl => ?_)
                      refine lv_iinc (v := (nI (i + 1))) (lv' := [(4, .int (nI (i + 1))), (3, .int 1), (0, .ref mo), (1, .int (nI k)), (2, .int h9)]) hx hb dM_lender_88 hl (k := 1) rfl (nI_1 i) (by decide) rfl (fun ls hl => ?_)
                      refine lv_goto (tgt := 51) hx hb dM_lender_91 (by decide) ?_
                      exact ih hin trivial ls (lv_sub hl [0, 1, 2, 3, 4] (by rw [hadn]; rfl))
                | true =>
                  have hl : lv_has ls 5 [(4, .int (nI i)), (3, .int 1), (0, .ref mo), (1, .int (nI k)), (2, .int h9)] := by rw [hbi] at hl; exact hl
                  refine lv_iload_n hx hb dM_lender_62 rfl (lv_at hl 1 rfl) ?_
                  refine lv_if_ne (tgt := 82) hx hb dM_lender_63 (by decide) (fun c63 => ?_) (fun c63 => ?_)
                  · refine lv_iconst (v := 1) hx hb dM_lender_82 (by decide) ?_
                    refine lv_goto (tgt := 87) hx hb dM_lender_83 (by decide) ?_
                    have hadn : bz ((!(decide (st = 0)) || decide (h = h9)) || (ff (fun d => decide (d.1 = h9)) lf (i + 1) 0).isSome) = 1 := by rw [ff_snoc, Nat.zero_add, ← Bool.or_assoc, hbi]; simp [bz]
                    refine lv_istore_n (lv' := [(3, .int 1), (4, .int (nI i)), (0, .ref mo), (1, .int (nI k)), (2, .int h9)]) hx hb dM_lender_87 rfl hl (by decide) rfl (fun ls hl => ?_)
                    refine lv_iinc (v := (nI (i + 1))) (lv' := [(4, .int (nI (i + 1))), (3, .int 1), (0, .ref mo), (1, .int (nI k)), (2, .int h9)]) hx hb dM_lender_88 hl (k := 1) rfl (nI_1 i) (by decide) rfl (fun ls hl => ?_)
                    refine lv_goto (tgt := 51) hx hb dM_lender_91 (by decide) ?_
                    exact ih hin trivial ls (lv_sub hl [0, 1, 2, 3, 4] (by rw [hadn]; rfl))
                  · exact absurd c63 (by decide)
            · refine lv_iconst (v := 1) hx hb dM_lender_42 (by decide) ?_
              refine lv_goto (tgt := 47) hx hb dM_lender_43 (by decide) ?_
              refine lv_istore_n (lv' := [(3, .int 1), (0, .ref mo), (1, .int (nI k)), (2, .int h9)]) hx hb dM_lender_47 rfl hl (by decide) rfl (fun ls hl => ?_)
              refine lv_iconst (v := 0) hx hb dM_lender_48 (by decide) ?_
              refine lv_istore (lv' := [(4, .int 0), (3, .int 1), (0, .ref mo), (1, .int (nI k)), (2, .int h9)]) hx hb dM_lender_49 hl (by decide) rfl (fun ls hl => ?_)
              have hb0 : bz ((!(decide (st = 0)) || decide (h = h9)) || (ff (fun d => decide (d.1 = h9)) lf 0 0).isSome) = 1 := by simp [ff, bz, c29, c39]
              refine gLoop (G := fun ls => W p l e _ s m _ below meth c H locs 0 0 _ (F0 m 51 ls [])) (nL := 5) (fun i => [(4, .int (nI i)), (3, .int (bz ((!(decide (st = 0)) || decide (h = h9)) || (ff (fun d => decide (d.1 = h9)) lf i 0).isSome))), (0, .ref mo), (1, .int (nI k)), (2, .int h9)]) (fun _ => True) n ?_ 0 (Nat.zero_le _) trivial ls (lv_sub hl [0, 1, 2, 3, 4] (by rw [hb0]; rfl))
              intro i hi9 _ ih ls hl
              have hl : lv_has ls 5 [(4, .int (nI i)), (3, .int (bz ((!(decide (st = 0)) || decide (h = h9)) || (ff (fun d => decide (d.1 = h9)) lf i 0).isSome))), (0, .ref mo), (1, .int (nI k)), (2, .int h9)] := hl
              refine lv_iload hx hb dM_lender_51 (lv_at hl 0 rfl) ?_
              refine lv_aload_n hx hb dM_lender_53 rfl (lv_at hl 2 rfl) ?_
              refine gg_get (v := .ref (ad 3)) hx hb hts in_M hown hK hB hR.top rfl 8 (by decide) k_350 rfl rfl dM_lender_54 ?_
              refine lv_iload_n hx hb dM_lender_57 rfl (lv_at hl 3 rfl) ?_
              refine gg_iald (v := (nI n)) hx hb hK hB 2 (hR.ar 3 (by decide)) rfl (vp_in_nI (ml_lo (by decide) (by have := hR.c100; omega)) (ml_lt _)) (by rw [nI_clamp (by have := hR.c100; omega)]; exact (hR.r hk hq).2.2.2.1) dM_lender_58 ?_
              refine lv_icmp_ge (tgt := 94) hx hb dM_lender_59 (by decide) (fun c59 => ?_) (fun c59 => ?_)
              · have hin9 : i = n := nI_top (by have := hR.c100; have h8 : n ≤ 8 := hR.n8 hk hq; omega) c59 hi9
                rw [hin9] at hl
                cases hbn : ((!(decide (st = 0)) || decide (h = h9)) || (ff (fun d => decide (d.1 = h9)) lf n 0).isSome) with
                | false =>
                  have hl : lv_has ls 5 [(4, .int (nI n)), (3, .int 0), (0, .ref mo), (1, .int (nI k)), (2, .int h9)] := by rw [hbn] at hl; exact hl
                  refine lv_iload_n hx hb dM_lender_94 rfl (lv_at hl 1 rfl) ?_
                  refine lv_if_eq (tgt := 101) hx hb dM_lender_95 (by decide) (fun c95 => ?_) (fun c95 => ?_)
                  · refine lv_aload_n hx hb dM_lender_101 rfl (lv_at hl 2 rfl) ?_
                    refine gg_get (v := .ref (ad 3)) hx hb hts in_M hown hK hB hR.top rfl 8 (by decide) k_350 rfl rfl dM_lender_102 ?_
                    refine lv_iload_n hx hb dM_lender_105 rfl (lv_at hl 3 rfl) ?_
                    refine gg_iald (v := (nI n)) hx hb hK hB 2 (hR.ar 3 (by decide)) rfl (vp_in_nI (ml_lo (by decide) (by have := hR.c100; omega)) (ml_lt _)) (by rw [nI_clamp (by have := hR.c100; omega)]; exact (hR.r hk hq).2.2.2.1) dM_lender_106 ?_
                    refine lv_bipush (v := 8) hx hb dM_lender_107 (by decide) ?_
                    refine lv_icmp_ne (tgt := 115) hx hb dM_lender_109 (by decide) (fun c109 => ?_) (fun c109 => ?_)
                    · have hn8 : n < 8 := by have h1 : n ≤ 8 := hR.n8 hk hq; have h2 : ¬ n = 8 := fun q => c109 (by rw [q]; rfl); omega
                      refine lv_aload_n hx hb dM_lender_115 rfl (lv_at hl 2 rfl) ?_
                      refine gg_get (v := .ref (ad 8)) hx hb hts in_M hown hK hB hR.top rfl 13 (by decide) k_355 rfl rfl dM_lender_116 ?_
                      refine lv_bipush (v := 8) hx hb dM_lender_119 (by decide) ?_
                      refine lv_iload_n hx hb dM_lender_121 rfl (lv_at hl 3 rfl) ?_
                      refine lv_imul hx hb dM_lender_122 ?_
                      rw [gm8 k]
                      refine lv_aload_n hx hb dM_lender_123 rfl (lv_at hl 2 rfl) ?_
                      refine gg_get (v := .ref (ad 3)) hx hb hts in_M hown hK hB hR.top rfl 8 (by decide) k_350 rfl rfl dM_lender_124 ?_
                      refine lv_iload_n hx hb dM_lender_127 rfl (lv_at hl 3 rfl) ?_
                      refine gg_iald (v := (nI n)) hx hb hK hB 2 (hR.ar 3 (by decide)) rfl (vp_in_nI (ml_lo (by decide) (by have := hR.c100; omega)) (ml_lt _)) (by rw [nI_clamp (by have := hR.c100; omega)]; exact (hR.r hk hq).2.2.2.1) dM_lender_128 ?_
                      refine lv_iadd hx hb dM_lender_129 ?_
                      rw [nI_add (8 * k) n]
                      refine lv_iload_n hx hb dM_lender_130 rfl (lv_at hl 4 rfl) ?_
                      refine gg_iast hx hb hK hB 2 (hR.ar 8 (by decide)) rfl (vp_in_nI (ml_hi (by decide) (by have := hR.c100; omega)) (ml_lt _)) dM_lender_131 (fun H locs hB => ?_)
                      rw [nI_clamp (by have := hR.c100; omega)] at hB
                      have hR := hR.put 8 (by decide) (8 * k + n) h9 (hR.re.out2 hk (by rw [hq]) hn8 8 (by decide) h9)
                      have ea8 : u2 f 8 (8 * k + n) h9 8 (8 * k + n) = h9 := u2_s _ _ _ _
                      have hB : gB (dC, dI) gcl z (gU M (ad 8) (aI dA (ml 8) (upd (f 8) (8 * k + n) h9))) s.heap H locs := hB
                      generalize gU M (ad 8) (aI dA (ml 8) (upd (f 8) (8 * k + n) h9)) = M at hB hR
                      generalize u2 f 8 (8 * k + n) h9 = f at hR ea8
                      refine lv_aload_n hx hb dM_lender_132 rfl (lv_at hl 2 rfl) ?_
                      refine gg_get (v := .ref (ad 10)) hx hb hts in_M hown hK hB hR.top rfl 15 (by decide) k_357 rfl rfl dM_lender_133 ?_
                      refine lv_bipush (v := 8) hx hb dM_lender_136 (by decide) ?_
                      refine lv_iload_n hx hb dM_lender_138 rfl (lv_at hl 3 rfl) ?_
                      refine lv_imul hx hb dM_lender_139 ?_
                      rw [gm8 k]
                      refine lv_aload_n hx hb dM_lender_140 rfl (lv_at hl 2 rfl) ?_
                      refine gg_get (v := .ref (ad 3)) hx hb hts in_M hown hK hB hR.top rfl 8 (by decide) k_350 rfl rfl dM_lender_141 ?_
                      refine lv_iload_n hx hb dM_lender_144 rfl (lv_at hl 3 rfl) ?_
                      refine gg_iald (v := (nI n)) hx hb hK hB 2 (hR.ar 3 (by decide)) rfl (vp_in_nI (ml_lo (by decide) (by have := hR.c100; omega)) (ml_lt _)) (by rw [nI_clamp (by have := hR.c100; omega)]; exact (hR.r hk hq).2.2.2.1) dM_lender_145 ?_
                      refine lv_iadd hx hb dM_lender_146 ?_
                      rw [nI_add (8 * k) n]
                      refine lv_iconst (v := (-1)) hx hb dM_lender_147 (by decide) ?_
                      refine gg_iast hx hb hK hB 2 (hR.ar 10 (by decide)) rfl (vp_in_nI (ml_hi (by decide) (by have := hR.c100; omega)) (ml_lt _)) dM_lender_148 (fun H locs hB => ?_)
                      rw [nI_clamp (by have := hR.c100; omega)] at hB
                      have hR := hR.put 10 (by decide) (8 * k + n) (-1) (hR.re.out2 hk (by rw [hq]) hn8 10 (by decide) (-1))
                      have ea8 : u2 f 10 (8 * k + n) (-1) 8 (8 * k + n) = h9 := (u2_j (by decide)).trans ea8
                      have ea10 : u2 f 10 (8 * k + n) (-1) 10 (8 * k + n) = (-1) := u2_s _ _ _ _
                      have hB : gB (dC, dI) gcl z (gU M (ad 10) (aI dA (ml 10) (upd (f 10) (8 * k + n) (-1)))) s.heap H locs := hB
                      generalize gU M (ad 10) (aI dA (ml 10) (upd (f 10) (8 * k + n) (-1))) = M at hB hR
                      generalize u2 f 10 (8 * k + n) (-1) = f at hR ea8 ea10
                      refine lv_aload_n hx hb dM_lender_149 rfl (lv_at hl 2 rfl) ?_
                      refine gg_get (v := .ref (ad 3)) hx hb hts in_M hown hK hB hR.top rfl 8 (by decide) k_350 rfl rfl dM_lender_150 ?_
                      refine lv_iload_n hx hb dM_lender_153 rfl (lv_at hl 3 rfl) ?_
                      refine lv_dup2_11 hx hb dM_lender_154 rfl rfl ?_
                      refine gg_iald (v := (nI n)) hx hb hK hB 2 (hR.ar 3 (by decide)) rfl (vp_in_nI (ml_lo (by decide) (by have := hR.c100; omega)) (ml_lt _)) (by rw [nI_clamp (by have := hR.c100; omega)]; exact (hR.r hk hq).2.2.2.1) dM_lender_155 ?_
                      refine lv_iconst (v := 1) hx hb dM_lender_156 (by decide) ?_
                      refine lv_iadd hx hb dM_lender_157 ?_
                      rw [nI_1 n]
                      refine gg_iast hx hb hK hB 2 (hR.ar 3 (by decide)) rfl (vp_in_nI (ml_lo (by decide) (by have := hR.c100; omega)) (ml_lt _)) dM_lender_158 (fun H locs hB => ?_)
                      rw [nI_clamp (by have := hR.c100; omega)] at hB
                      have hR := hR.put 3 (by decide) k (nI (n + 1)) (hR.re.add hk hq hn8 ea8 ea10)
                      have hq : va_up σ k (h, it, n + 1, st, ho, db, du, fa, en, va_up lf n (h9, 0, -1, 0)) k = (h, it, n + 1, st, ho, db, du, fa, en, va_up lf n (h9, 0, -1, 0)) := va_up_self _ _ _
                      have hB : gB (dC, dI) gcl z (gU M (ad 3) (aI dA (ml 3) (upd (f 3) k (nI (n + 1))))) s.heap H locs := hB
                      generalize gU M (ad 3) (aI dA (ml 3) (upd (f 3) k (nI (n + 1)))) = M at hB hR
                      generalize u2 f 3 k (nI (n + 1)) = f at hR 
                      refine lv_aload_n hx hb dM_lender_159 rfl (lv_at hl 2 rfl) ?_
                      refine gg_get (v := .ref (ad 3)) hx hb hts in_M hown hK hB hR.top rfl 8 (by decide) k_350 rfl rfl dM_lender_160 ?_
                      refine lv_iload_n hx hb dM_lender_163 rfl (lv_at hl 3 rfl) ?_
                      refine gg_iald (v := (nI (n + 1))) hx hb hK hB 2 (hR.ar 3 (by decide)) rfl (vp_in_nI (ml_lo (by decide) (by have := hR.c100; omega)) (ml_lt _)) (by rw [nI_clamp (by have := hR.c100; omega)]; exact (hR.r hk hq).2.2.2.1) dM_lender_164 ?_
                      exact gg_iret hx hb hr hlocks hKA hB dM_lender_165 (by decide) (by decide) (mP_of (sLender_y hi hH2 hq0 hbn (by omega)) ⟨_, hR, rfl⟩)
                    · refine lv_bipush (v := (-4)) hx hb dM_lender_112 (by decide) ?_
                      exact gg_iret hx hb hr hlocks hKA hB dM_lender_114 (by decide) (by decide) (mP_of (sLender_4 hi hH2 hq0 hbn ((nI_eq (by have := hR.c100; have h8 : n ≤ 8 := hR.n8 hk hq; omega) (by decide)).mp c109)) ⟨_, hR, rfl⟩)
                  · exact (c95 (by decide)).elim
                | true =>
                  have hl : lv_has ls 5 [(4, .int (nI n)), (3, .int 1), (0, .ref mo), (1, .int (nI k)), (2, .int h9)] := by rw [hbn] at hl; exact hl
                  refine lv_iload_n hx hb dM_lender_94 rfl (lv_at hl 1 rfl) ?_
                  refine lv_if_eq (tgt := 101) hx hb dM_lender_95 (by decide) (fun c95 => ?_) (fun c95 => ?_)
                  · exact absurd c95 (by decide)
                  · refine lv_bipush (v := (-3)) hx hb dM_lender_98 (by decide) ?_
                    exact gg_iret hx hb hr hlocks hKA hB dM_lender_100 (by decide) (by decide) (mP_of (sLender_3 hi hH2 hq0 hbn) ⟨_, hR, rfl⟩)
              · have hin : i < n := Nat.lt_of_not_le (fun q => c59 (nI_le q (by have := hR.c100; have h8 : n ≤ 8 := hR.n8 hk hq; omega)))
                cases hbi : ((!(decide (st = 0)) || decide (h = h9)) || (ff (fun d => decide (d.1 = h9)) lf i 0).isSome) with
                | false =>
                  have hl : lv_has ls 5 [(4, .int (nI i)), (3, .int 0), (0, .ref mo), (1, .int (nI k)), (2, .int h9)] := by rw [hbi] at hl; exact hl
                  refine lv_iload_n hx hb dM_lender_62 rfl (lv_at hl 1 rfl) ?_
                  refine lv_if_ne (tgt := 82) hx hb dM_lender_63 (by decide) (fun c63 => ?_) (fun c63 => ?_)
                  · exact (c63 (by decide)).elim
                  · refine lv_aload_n hx hb dM_lender_66 rfl (lv_at hl 2 rfl) ?_
                    refine gg_get (v := .ref (ad 8)) hx hb hts in_M hown hK hB hR.top rfl 13 (by decide) k_355 rfl rfl dM_lender_67 ?_
                    refine lv_bipush (v := 8) hx hb dM_lender_70 (by decide) ?_
                    refine lv_iload_n hx hb dM_lender_72 rfl (lv_at hl 3 rfl) ?_
                    refine lv_imul hx hb dM_lender_73 ?_
                    rw [gm8 k]
                    refine lv_iload hx hb dM_lender_74 (lv_at hl 0 rfl) ?_
                    refine lv_iadd hx hb dM_lender_76 ?_
                    rw [nI_add (8 * k) i]
                    refine gg_iald (v := ((lf i).1)) hx hb hK hB 2 (hR.ar 8 (by decide)) rfl (vp_in_nI (ml_hi (by decide) (by have := hR.c100; have h8 : n ≤ 8 := hR.n8 hk hq; omega)) (ml_lt _)) (by rw [nI_clamp (by have := hR.c100; have h8 : n ≤ 8 := hR.n8 hk hq; omega)]; exact (hR.l hk hq hin).1) dM_lender_77 ?_
                    refine lv_iload_n hx hb dM_lender_78 rfl (lv_at hl 4 rfl) ?_
                    refine lv_icmp_ne (tgt := 86) hx hb dM_lender_79 (by decide) (fun c79 => ?_) (fun c79 => ?_)
                    · refine lv_iconst (v := 0) hx hb dM_lender_86 (by decide) ?_
                      have hadn : bz ((!(decide (st = 0)) || decide (h = h9)) || (ff (fun d => decide (d.1 = h9)) lf (i + 1) 0).isSome) = 0 := by rw [ff_snoc, Nat.zero_add, ← Bool.or_assoc, hbi]; simp [bz, c79]
                      refine lv_istore_n (lv' := [(3, .int 0), (4, .int (nI i)), (0, .ref mo), (1, .int (nI k)), (2, .int h9)]) hx hb dM_lender_87 rfl hl (by decide) rfl (fun ls hl => ?_)
                      refine lv_iinc (v := (nI (i + 1))) (lv' := [(4, .int (nI (i + 1))), (3, .int 0), (0, .ref mo), (1, .int (nI k)), (2, .int h9)]) hx hb dM_lender_88 hl (k := 1) rfl (nI_1 i) (by decide) rfl (fun ls hl => ?_)
                      refine lv_goto (tgt := 51) hx hb dM_lender_91 (by decide) ?_
                      exact ih hin trivial ls (lv_sub hl [0, 1, 2, 3, 4] (by rw [hadn]; rfl))
                    · refine lv_iconst (v := 1) hx hb dM_lender_82 (by decide) ?_
                      refine lv_goto (tgt := 87) hx hb dM_lender_83 (by decide) ?_
                      have hadn : bz ((!(decide (st = 0)) || decide (h = h9)) || (ff (fun d => decide (d.1 = h9)) lf (i + 1) 0).isSome) = 1 := by rw [ff_snoc, Nat.zero_add, ← Bool.or_assoc, hbi]; simp [bz, c79]
                      refine lv_istore_n (lv' := [(3, .int 1), (4, .int (nI i)), (0, .ref mo), (1, .int (nI k)), (2, .int h9)]) hx hb dM_lender_87 rfl hl (by decide) rfl (fun ls hl => ?_)
                      refine lv_iinc (v := (nI (i + 1))) (lv' := [(4, .int (nI (i + 1))), (3, .int 1), (0, .ref mo), (1, .int (nI k)), (2, .int h9)]) hx hb dM_lender_88 hl (k := 1) rfl (nI_1 i) (by decide) rfl (fun ls hl => ?_)
                      refine lv_goto (tgt := 51) hx hb dM_lender_91 (by decide) ?_
                      exact ih hin trivial ls (lv_sub hl [0, 1, 2, 3, 4] (by rw [hadn]; rfl))
                | true =>
                  have hl : lv_has ls 5 [(4, .int (nI i)), (3, .int 1), (0, .ref mo), (1, .int (nI k)), (2, .int h9)] := by rw [hbi] at hl; exact hl
                  refine lv_iload_n hx hb dM_lender_62 rfl (lv_at hl 1 rfl) ?_
                  refine lv_if_ne (tgt := 82) hx hb dM_lender_63 (by decide) (fun c63 => ?_) (fun c63 => ?_)
                  · refine lv_iconst (v := 1) hx hb dM_lender_82 (by decide) ?_
                    refine lv_goto (tgt := 87) hx hb dM_lender_83 (by decide) ?_
                    have hadn : bz ((!(decide (st = 0)) || decide (h = h9)) || (ff (fun d => decide (d.1 = h9)) lf (i + 1) 0).isSome) = 1 := by rw [ff_snoc, Nat.zero_add, ← Bool.or_assoc, hbi]; simp [bz]
                    refine lv_istore_n (lv' := [(3, .int 1), (4, .int (nI i)), (0, .ref mo), (1, .int (nI k)), (2, .int h9)]) hx hb dM_lender_87 rfl hl (by decide) rfl (fun ls hl => ?_)
                    refine lv_iinc (v := (nI (i + 1))) (lv' := [(4, .int (nI (i + 1))), (3, .int 1), (0, .ref mo), (1, .int (nI k)), (2, .int h9)]) hx hb dM_lender_88 hl (k := 1) rfl (nI_1 i) (by decide) rfl (fun ls hl => ?_)
                    refine lv_goto (tgt := 51) hx hb dM_lender_91 (by decide) ?_
                    exact ih hin trivial ls (lv_sub hl [0, 1, 2, 3, 4] (by rw [hadn]; rfl))
                  · exact absurd c63 (by decide)
        · exact absurd c18 (by decide)
