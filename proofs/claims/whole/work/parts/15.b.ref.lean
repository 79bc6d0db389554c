/-! The reference: its making; about, told, overdue, statistics -/
set_option maxHeartbeats 4000000 in
set_option maxRecDepth 100000 in
theorem c_M_about (l : Launch) (dC : Nat → ClassId) (dI : Nat → Nat → Nat) (dA : Nat → ClassId) (z : Nat) (M0 M : gM) (mo : Nat) (ad : Nat → Nat) (th lt hs lw : Int32) (cn : Nat) (σ : Nat → Rq) (f : Nat → Nat → Int32) (hR : mW dA M0 M mo ad th lt hs lw cn σ f) (hh9 : hsOk hs) (hinv : ∀ k, k < cn → inv (σ k)) (r w : Int32) : gMi l dC dI dA z y_M_about b_M_about 3 (Option.some FieldType.int) ⟨2, 0, 0, 44⟩ [.ref mo, .int r, .int w] M (xP dA M0 mo ad lt hs lw cn σ (xAbout cn σ r w)) 0 0 := by
  refine gOfW (by decide) (Nat.le_of_ble_eq_true rfl) ?_
  intro p e s m below meth c ls hF hr hlocks hnm hKA hB hl
  obtain ⟨hx, hb, hml, hown, hts⟩ := id hF
  have hK := hKA.1
  have hl : lv_has ls 3 [(0, .ref mo), (1, .int r), (2, .int w)] := hl
  refine lv_aload_n hx hb dM_about_0 rfl (lv_at hl 0 rfl) ?_
  refine lv_aload_n hx hb dM_about_1 rfl (lv_at hl 0 rfl) ?_
  refine lv_iload_n hx hb dM_about_2 rfl (lv_at hl 1 rfl) ?_
  refine gEndi (gRunV hF (c_M_isRequest l dC dI dA z M0 M mo ad th lt hs lw cn _ _ hR r) ln_M_73 hKA hB hR.top rfl rfl hl.1 rfl (Nat.le_of_ble_eq_true rfl) dM_about_3 ⟨rfl, rfl, (Nat.le_of_ble_eq_true rfl), (Nat.le_of_ble_eq_true rfl)⟩ ⟨(Nat.le_of_ble_eq_true rfl), (Nat.le_of_ble_eq_true rfl)⟩) hB (fun y1 M1 H locs hp hB => ?_)
  obtain ⟨e1, e2⟩ := hp
  rw [e1] at hB
  cases hi : ix cn r with
  | none =>
    have e2 : y1 = 0 := by rw [e2, hi]; rfl
    subst e2
    refine lv_if_eq (tgt := 19) hx hb dM_about_6 (by decide) (fun c6 => ?_) (fun c6 => ?_)
    · refine lv_iconst (v := 1) hx hb dM_about_19 (by decide) ?_
      refine lv_goto (tgt := 24) hx hb dM_about_20 (by decide) ?_
      refine gg_put (ty := .int) (v := .int 1) hx hb hts in_M t_M t_M_ok n_M hown hK hB hR.top rfl 0 (by decide) k_342 rfl rfl (by decide +kernel) rfl rfl (Nat.le_of_ble_eq_true rfl) dM_about_24 (fun H locs hB => ?_)
      have hR := hR.setTop 1 lt lw
      have hB : gB (dC, dI) gcl z (gU M mo (oM 1 lt hs lw cn ad)) s.heap H locs := hB
      generalize gU M mo (oM 1 lt hs lw cn ad) = M at hB hR
      refine lv_aload_n hx hb dM_about_27 rfl (lv_at hl 0 rfl) ?_
      refine gg_get (v := .int 1) hx hb hts in_M hown hK hB hR.top rfl 0 (by decide) k_342 rfl rfl dM_about_28 ?_
      refine lv_if_le (tgt := 36) hx hb dM_about_31 (by decide) (fun c31 => ?_) (fun c31 => ?_)
      · exact absurd c31 (by decide)
      · refine lv_iconst (v := 0) hx hb dM_about_34 (by decide) ?_
        exact gg_iret hx hb hr hlocks hKA hB dM_about_35 (by decide) (by decide) (xP_n (show xAbout cn σ r w = none from by simp [xAbout, hi]) hR)
    · exact (c6 (by decide)).elim
  | some k =>
    have e2 : y1 = 1 := by rw [e2, hi]; rfl
    subst e2
    obtain ⟨hk, hr9⟩ := ix_some (by have := hR.c100; omega) hi
    subst hr9
    obtain ⟨⟨h, it, n, st, ho, db, du, fa, en, lf⟩, hq⟩ : ∃ q, σ k = q := ⟨_, rfl⟩
    have hq0 := hq
    have hv := hinv k hk
    refine lv_if_eq (tgt := 19) hx hb dM_about_6 (by decide) (fun c6 => ?_) (fun c6 => ?_)
    · exact absurd c6 (by decide)
    · refine lv_iload_n hx hb dM_about_9 rfl (lv_at hl 2 rfl) ?_
      refine lv_iconst (v := 0) hx hb dM_about_10 (by decide) ?_
      refine lv_bipush (v := 8) hx hb dM_about_11 (by decide) ?_
      refine gEndi (gRunS hF (c_M_in l dC dI dA z M w 0 8) ln_M_57 hKA hB rfl hl.1 rfl (Nat.le_of_ble_eq_true rfl) dM_about_13 ⟨rfl, rfl, (Nat.le_of_ble_eq_true rfl), (Nat.le_of_ble_eq_true rfl)⟩ ⟨(Nat.le_of_ble_eq_true rfl), (Nat.le_of_ble_eq_true rfl)⟩) hB (fun y2 M1 H locs hp hB => ?_)
      obtain ⟨e1, e2⟩ := hp
      rw [e1] at hB
      cases hN2 : bI w 0 8 with
      | false =>
        have e2 : y2 = 0 := by rw [e2, hN2]; rfl
        subst e2
        refine lv_if_ne (tgt := 23) hx hb dM_about_16 (by decide) (fun c16 => ?_) (fun c16 => ?_)
        · exact (c16 (by decide)).elim
        · refine lv_iconst (v := 1) hx hb dM_about_19 (by decide) ?_
          refine lv_goto (tgt := 24) hx hb dM_about_20 (by decide) ?_
          refine gg_put (ty := .int) (v := .int 1) hx hb hts in_M t_M t_M_ok n_M hown hK hB hR.top rfl 0 (by decide) k_342 rfl rfl (by decide +kernel) rfl rfl (Nat.le_of_ble_eq_true rfl) dM_about_24 (fun H locs hB => ?_)
          have hR := hR.setTop 1 lt lw
          have hB : gB (dC, dI) gcl z (gU M mo (oM 1 lt hs lw cn ad)) s.heap H locs := hB
          generalize gU M mo (oM 1 lt hs lw cn ad) = M at hB hR
          refine lv_aload_n hx hb dM_about_27 rfl (lv_at hl 0 rfl) ?_
          refine gg_get (v := .int 1) hx hb hts in_M hown hK hB hR.top rfl 0 (by decide) k_342 rfl rfl dM_about_28 ?_
          refine lv_if_le (tgt := 36) hx hb dM_about_31 (by decide) (fun c31 => ?_) (fun c31 => ?_)
          · exact absurd c31 (by decide)
          · refine lv_iconst (v := 0) hx hb dM_about_34 (by decide) ?_
            exact gg_iret hx hb hr hlocks hKA hB dM_about_35 (by decide) (by decide) (xP_n (xAbout_w hN2) hR)
      | true =>
        have e2 : y2 = 1 := by rw [e2, hN2]; rfl
        subst e2
        refine lv_if_ne (tgt := 23) hx hb dM_about_16 (by decide) (fun c16 => ?_) (fun c16 => ?_)
        · refine lv_iconst (v := 0) hx hb dM_about_23 (by decide) ?_
          refine gg_put (ty := .int) (v := .int 0) hx hb hts in_M t_M t_M_ok n_M hown hK hB hR.top rfl 0 (by decide) k_342 rfl rfl (by decide +kernel) rfl rfl (Nat.le_of_ble_eq_true rfl) dM_about_24 (fun H locs hB => ?_)
          have hR := hR.setTop 0 lt lw
          have hB : gB (dC, dI) gcl z (gU M mo (oM 0 lt hs lw cn ad)) s.heap H locs := hB
          generalize gU M mo (oM 0 lt hs lw cn ad) = M at hB hR
          refine lv_aload_n hx hb dM_about_27 rfl (lv_at hl 0 rfl) ?_
          refine gg_get (v := .int 0) hx hb hts in_M hown hK hB hR.top rfl 0 (by decide) k_342 rfl rfl dM_about_28 ?_
          refine lv_if_le (tgt := 36) hx hb dM_about_31 (by decide) (fun c31 => ?_) (fun c31 => ?_)
          · refine lv_iload_n hx hb dM_about_36 rfl (lv_at hl 2 rfl) ?_
            by_cases s37_0 : w = 0
            · refine lv_tableIn (tgt := 84) hx hb dM_about_37 (by rw [s37_0]; decide) (by rw [s37_0]; decide) (by rw [s37_0]; rfl) (by decide) ?_
              refine lv_aload_n hx hb dM_about_84 rfl (lv_at hl 0 rfl) ?_
              refine gg_get (v := .ref (ad 2)) hx hb hts in_M hown hK hB hR.top rfl 7 (by decide) k_349 rfl rfl dM_about_85 ?_
              refine lv_iload_n hx hb dM_about_88 rfl (lv_at hl 1 rfl) ?_
              refine gg_iald (v := st) hx hb hK hB 2 (hR.ar 2 (by decide)) rfl (vp_in_nI (ml_lo (by decide) (by have := hR.c100; omega)) (ml_lt _)) (by rw [nI_clamp (by have := hR.c100; omega)]; exact (hR.r hk hq).2.2.1) dM_about_89 ?_
              exact gg_iret hx hb hr hlocks hKA hB dM_about_90 (by decide) (by decide) (xP_s (show xAbout cn σ (nI k) w = some st from by simp [xAbout, hi, hq0, s37_0]) hR)
            by_cases s37_1 : w = 1
            · refine lv_tableIn (tgt := 91) hx hb dM_about_37 (by rw [s37_1]; decide) (by rw [s37_1]; decide) (by rw [s37_1]; rfl) (by decide) ?_
              refine lv_aload_n hx hb dM_about_91 rfl (lv_at hl 0 rfl) ?_
              refine lv_iload_n hx hb dM_about_92 rfl (lv_at hl 1 rfl) ?_
              refine gEndi (gRunV hF (c_M_holder l dC dI dA z M0 M mo ad 0 lt hs lw cn σ _ hR k hk hv) ln_M_87 hKA hB hR.top rfl rfl hl.1 rfl (Nat.le_of_ble_eq_true rfl) dM_about_93 ⟨rfl, rfl, (Nat.le_of_ble_eq_true rfl), (Nat.le_of_ble_eq_true rfl)⟩ ⟨(Nat.le_of_ble_eq_true rfl), (Nat.le_of_ble_eq_true rfl)⟩) hB (fun y3 M1 H locs hp hB => ?_)
              obtain ⟨e1, e2⟩ := hp
              rw [e1] at hB
              rw [hq0] at e2
              rcases ho with _ | i
              · have e2 : y3 = (-1) := e2
                subst e2
                refine lv_if_ge (tgt := 103) hx hb dM_about_96 (by decide) (fun c96 => ?_) (fun c96 => ?_)
                · exact absurd c96 (by decide)
                · refine lv_iconst (v := (-1)) hx hb dM_about_99 (by decide) ?_
                  refine lv_goto (tgt := 113) hx hb dM_about_100 (by decide) ?_
                  exact gg_iret hx hb hr hlocks hKA hB dM_about_113 (by decide) (by decide) (xP_s (show xAbout cn σ (nI k) w = some (-1) from by simp [xAbout, hi, hq0, s37_1]) hR)
              · have e2 : y3 = (nI (8 * k + i)) := e2
                subst e2
                have hi9 : i < n := by have := hv.2.1 i; rw [hq0] at this; exact this rfl
                have h15 : p15 (lf i) = true := by have := hv.1 i; rw [hq0] at this; exact (this hi9).mpr rfl
                refine lv_if_ge (tgt := 103) hx hb dM_about_96 (by decide) (fun c96 => ?_) (fun c96 => ?_)
                · refine lv_aload_n hx hb dM_about_103 rfl (lv_at hl 0 rfl) ?_
                  refine gg_get (v := .ref (ad 8)) hx hb hts in_M hown hK hB hR.top rfl 13 (by decide) k_355 rfl rfl dM_about_104 ?_
                  refine lv_aload_n hx hb dM_about_107 rfl (lv_at hl 0 rfl) ?_
                  refine lv_iload_n hx hb dM_about_108 rfl (lv_at hl 1 rfl) ?_
                  refine gEndi (gRunV hF (c_M_holder l dC dI dA z M0 M mo ad 0 lt hs lw cn σ _ hR k hk hv) ln_M_87 hKA hB hR.top rfl rfl hl.1 rfl (Nat.le_of_ble_eq_true rfl) dM_about_109 ⟨rfl, rfl, (Nat.le_of_ble_eq_true rfl), (Nat.le_of_ble_eq_true rfl)⟩ ⟨(Nat.le_of_ble_eq_true rfl), (Nat.le_of_ble_eq_true rfl)⟩) hB (fun y4 M1 H locs hp hB => ?_)
                  obtain ⟨e1, e2⟩ := hp
                  rw [e1] at hB
                  rw [hq0] at e2
                  have e2 : y4 = nI (8 * k + i) := e2
                  subst e2
                  refine gg_iald (v := ((lf i).1)) hx hb hK hB 2 (hR.ar 8 (by decide)) rfl (vp_in_nI (ml_hi (by decide) (by have := hR.c100; have h8 : n ≤ 8 := hR.n8 hk hq; omega)) (ml_lt _)) (by rw [nI_clamp (by have := hR.c100; have h8 : n ≤ 8 := hR.n8 hk hq; omega)]; exact (hR.l hk hq hi9).1) dM_about_112 ?_
                  exact gg_iret hx hb hr hlocks hKA hB dM_about_113 (by decide) (by decide) (xP_s (show xAbout cn σ (nI k) w = some ((lf i).1) from by simp [xAbout, hi, hq0, s37_1]) hR)
                · exact absurd (nI_pos' (by have := hR.c100; have h8 : n ≤ 8 := hR.n8 hk hq; omega)) c96
            by_cases s37_2 : w = 2
            · refine lv_tableIn (tgt := 114) hx hb dM_about_37 (by rw [s37_2]; decide) (by rw [s37_2]; decide) (by rw [s37_2]; rfl) (by decide) ?_
              refine lv_aload_n hx hb dM_about_114 rfl (lv_at hl 0 rfl) ?_
              refine gg_get (v := .ref (ad 3)) hx hb hts in_M hown hK hB hR.top rfl 8 (by decide) k_350 rfl rfl dM_about_115 ?_
              refine lv_iload_n hx hb dM_about_118 rfl (lv_at hl 1 rfl) ?_
              refine gg_iald (v := (nI n)) hx hb hK hB 2 (hR.ar 3 (by decide)) rfl (vp_in_nI (ml_lo (by decide) (by have := hR.c100; omega)) (ml_lt _)) (by rw [nI_clamp (by have := hR.c100; omega)]; exact (hR.r hk hq).2.2.2.1) dM_about_119 ?_
              exact gg_iret hx hb hr hlocks hKA hB dM_about_120 (by decide) (by decide) (xP_s (show xAbout cn σ (nI k) w = some (nI n) from by simp [xAbout, hi, hq0, s37_2]) hR)
            by_cases s37_3 : w = 3
            · refine lv_tableIn (tgt := 121) hx hb dM_about_37 (by rw [s37_3]; decide) (by rw [s37_3]; decide) (by rw [s37_3]; rfl) (by decide) ?_
              refine lv_aload_n hx hb dM_about_121 rfl (lv_at hl 0 rfl) ?_
              refine gg_get (v := .ref (ad 1)) hx hb hts in_M hown hK hB hR.top rfl 6 (by decide) k_348 rfl rfl dM_about_122 ?_
              refine lv_iload_n hx hb dM_about_125 rfl (lv_at hl 1 rfl) ?_
              refine gg_iald (v := it) hx hb hK hB 2 (hR.ar 1 (by decide)) rfl (vp_in_nI (ml_lo (by decide) (by have := hR.c100; omega)) (ml_lt _)) (by rw [nI_clamp (by have := hR.c100; omega)]; exact (hR.r hk hq).2.1) dM_about_126 ?_
              exact gg_iret hx hb hr hlocks hKA hB dM_about_127 (by decide) (by decide) (xP_s (show xAbout cn σ (nI k) w = some it from by simp [xAbout, hi, hq0, s37_3]) hR)
            by_cases s37_4 : w = 4
            · refine lv_tableIn (tgt := 128) hx hb dM_about_37 (by rw [s37_4]; decide) (by rw [s37_4]; decide) (by rw [s37_4]; rfl) (by decide) ?_
              refine lv_aload_n hx hb dM_about_128 rfl (lv_at hl 0 rfl) ?_
              refine gg_get (v := .ref (ad 0)) hx hb hts in_M hown hK hB hR.top rfl 5 (by decide) k_347 rfl rfl dM_about_129 ?_
              refine lv_iload_n hx hb dM_about_132 rfl (lv_at hl 1 rfl) ?_
              refine gg_iald (v := h) hx hb hK hB 2 (hR.ar 0 (by decide)) rfl (vp_in_nI (ml_lo (by decide) (by have := hR.c100; omega)) (ml_lt _)) (by rw [nI_clamp (by have := hR.c100; omega)]; exact (hR.r hk hq).1) dM_about_133 ?_
              exact gg_iret hx hb hr hlocks hKA hB dM_about_134 (by decide) (by decide) (xP_s (show xAbout cn σ (nI k) w = some h from by simp [xAbout, hi, hq0, s37_4]) hR)
            by_cases s37_5 : w = 5
            · refine lv_tableIn (tgt := 135) hx hb dM_about_37 (by rw [s37_5]; decide) (by rw [s37_5]; decide) (by rw [s37_5]; rfl) (by decide) ?_
              refine lv_aload_n hx hb dM_about_135 rfl (lv_at hl 0 rfl) ?_
              refine gg_get (v := .ref (ad 4)) hx hb hts in_M hown hK hB hR.top rfl 9 (by decide) k_351 rfl rfl dM_about_136 ?_
              refine lv_iload_n hx hb dM_about_139 rfl (lv_at hl 1 rfl) ?_
              refine gg_iald (v := db) hx hb hK hB 2 (hR.ar 4 (by decide)) rfl (vp_in_nI (ml_lo (by decide) (by have := hR.c100; omega)) (ml_lt _)) (by rw [nI_clamp (by have := hR.c100; omega)]; exact (hR.r hk hq).2.2.2.2.1) dM_about_140 ?_
              exact gg_iret hx hb hr hlocks hKA hB dM_about_141 (by decide) (by decide) (xP_s (show xAbout cn σ (nI k) w = some db from by simp [xAbout, hi, hq0, s37_5]) hR)
            by_cases s37_6 : w = 6
            · refine lv_tableIn (tgt := 142) hx hb dM_about_37 (by rw [s37_6]; decide) (by rw [s37_6]; decide) (by rw [s37_6]; rfl) (by decide) ?_
              refine lv_aload_n hx hb dM_about_142 rfl (lv_at hl 0 rfl) ?_
              refine gg_get (v := .ref (ad 5)) hx hb hts in_M hown hK hB hR.top rfl 10 (by decide) k_352 rfl rfl dM_about_143 ?_
              refine lv_iload_n hx hb dM_about_146 rfl (lv_at hl 1 rfl) ?_
              refine gg_iald (v := du) hx hb hK hB 2 (hR.ar 5 (by decide)) rfl (vp_in_nI (ml_lo (by decide) (by have := hR.c100; omega)) (ml_lt _)) (by rw [nI_clamp (by have := hR.c100; omega)]; exact (hR.r hk hq).2.2.2.2.2.1) dM_about_147 ?_
              exact gg_iret hx hb hr hlocks hKA hB dM_about_148 (by decide) (by decide) (xP_s (show xAbout cn σ (nI k) w = some du from by simp [xAbout, hi, hq0, s37_6]) hR)
            by_cases s37_7 : w = 7
            · refine lv_tableIn (tgt := 149) hx hb dM_about_37 (by rw [s37_7]; decide) (by rw [s37_7]; decide) (by rw [s37_7]; rfl) (by decide) ?_
              refine lv_aload_n hx hb dM_about_149 rfl (lv_at hl 0 rfl) ?_
              refine gg_get (v := .ref (ad 6)) hx hb hts in_M hown hK hB hR.top rfl 11 (by decide) k_353 rfl rfl dM_about_150 ?_
              refine lv_iload_n hx hb dM_about_153 rfl (lv_at hl 1 rfl) ?_
              refine gg_iald (v := fa) hx hb hK hB 2 (hR.ar 6 (by decide)) rfl (vp_in_nI (ml_lo (by decide) (by have := hR.c100; omega)) (ml_lt _)) (by rw [nI_clamp (by have := hR.c100; omega)]; exact (hR.r hk hq).2.2.2.2.2.2.1) dM_about_154 ?_
              exact gg_iret hx hb hr hlocks hKA hB dM_about_155 (by decide) (by decide) (xP_s (show xAbout cn σ (nI k) w = some fa from by simp [xAbout, hi, hq0, s37_7]) hR)
            · refine lv_tableOut (tgt := 156) hx hb dM_about_37 (by have := lv_neT s37_0 (a := 0) (by decide); have := lv_neT s37_1 (a := 1) (by decide); have := lv_neT s37_2 (a := 2) (by decide); have := lv_neT s37_3 (a := 3) (by decide); have := lv_neT s37_4 (a := 4) (by decide); have := lv_neT s37_5 (a := 5) (by decide); have := lv_neT s37_6 (a := 6) (by decide); have := lv_neT s37_7 (a := 7) (by decide); omega) (by decide) ?_
              refine lv_aload_n hx hb dM_about_156 rfl (lv_at hl 0 rfl) ?_
              refine gg_get (v := .ref (ad 7)) hx hb hts in_M hown hK hB hR.top rfl 12 (by decide) k_354 rfl rfl dM_about_157 ?_
              refine lv_iload_n hx hb dM_about_160 rfl (lv_at hl 1 rfl) ?_
              refine gg_iald (v := en) hx hb hK hB 2 (hR.ar 7 (by decide)) rfl (vp_in_nI (ml_lo (by decide) (by have := hR.c100; omega)) (ml_lt _)) (by rw [nI_clamp (by have := hR.c100; omega)]; exact (hR.r hk hq).2.2.2.2.2.2.2) dM_about_161 ?_
              exact gg_iret hx hb hr hlocks hKA hB dM_about_162 (by decide) (by decide) (xP_s (show xAbout cn σ (nI k) w = some en from by rw [w8 hN2 s37_0 s37_1 s37_2 s37_3 s37_4 s37_5 s37_6 s37_7]; simp [xAbout, hi, hq0]) hR)
          · exact (c31 (by decide)).elim
        · exact absurd c16 (by decide)
set_option maxHeartbeats 4000000 in
set_option maxRecDepth 100000 in
theorem c_M_told (l : Launch) (dC : Nat → ClassId) (dI : Nat → Nat → Nat) (dA : Nat → ClassId) (z : Nat) (M0 M : gM) (mo : Nat) (ad : Nat → Nat) (th lt hs lw : Int32) (cn : Nat) (σ : Nat → Rq) (f : Nat → Nat → Int32) (hR : mW dA M0 M mo ad th lt hs lw cn σ f) (hh9 : hsOk hs) (hinv : ∀ k, k < cn → inv (σ k)) (r x w : Int32) : gMi l dC dI dA z y_M_told b_M_told 5 (Option.some FieldType.int) ⟨2, 0, 0, 43⟩ [.ref mo, .int r, .int x, .int w] M (xP dA M0 mo ad lt hs lw cn σ (xTold cn σ r x w)) 0 0 := by
  refine gOfW (by decide) (Nat.le_of_ble_eq_true rfl) ?_
  intro p e s m below meth c ls hF hr hlocks hnm hKA hB hl
  obtain ⟨hx, hb, hml, hown, hts⟩ := id hF
  have hK := hKA.1
  have hl : lv_has ls 5 [(0, .ref mo), (1, .int r), (2, .int x), (3, .int w)] := hl
  refine lv_aload_n hx hb dM_told_0 rfl (lv_at hl 0 rfl) ?_
  refine lv_aload_n hx hb dM_told_1 rfl (lv_at hl 0 rfl) ?_
  refine lv_iload_n hx hb dM_told_2 rfl (lv_at hl 1 rfl) ?_
  refine gEndi (gRunV hF (c_M_isRequest l dC dI dA z M0 M mo ad th lt hs lw cn _ _ hR r) ln_M_73 hKA hB hR.top rfl rfl hl.1 rfl (Nat.le_of_ble_eq_true rfl) dM_told_3 ⟨rfl, rfl, (Nat.le_of_ble_eq_true rfl), (Nat.le_of_ble_eq_true rfl)⟩ ⟨(Nat.le_of_ble_eq_true rfl), (Nat.le_of_ble_eq_true rfl)⟩) hB (fun y1 M1 H locs hp hB => ?_)
  obtain ⟨e1, e2⟩ := hp
  rw [e1] at hB
  cases hi : ix cn r with
  | none =>
    have e2 : y1 = 0 := by rw [e2, hi]; rfl
    subst e2
    refine lv_if_eq (tgt := 34) hx hb dM_told_6 (by decide) (fun c6 => ?_) (fun c6 => ?_)
    · refine lv_iconst (v := 1) hx hb dM_told_34 (by decide) ?_
      refine lv_goto (tgt := 39) hx hb dM_told_35 (by decide) ?_
      refine gg_put (ty := .int) (v := .int 1) hx hb hts in_M t_M t_M_ok n_M hown hK hB hR.top rfl 0 (by decide) k_342 rfl rfl (by decide +kernel) rfl rfl (Nat.le_of_ble_eq_true rfl) dM_told_39 (fun H locs hB => ?_)
      have hR := hR.setTop 1 lt lw
      have hB : gB (dC, dI) gcl z (gU M mo (oM 1 lt hs lw cn ad)) s.heap H locs := hB
      generalize gU M mo (oM 1 lt hs lw cn ad) = M at hB hR
      refine lv_aload_n hx hb dM_told_42 rfl (lv_at hl 0 rfl) ?_
      refine gg_get (v := .int 1) hx hb hts in_M hown hK hB hR.top rfl 0 (by decide) k_342 rfl rfl dM_told_43 ?_
      refine lv_if_le (tgt := 51) hx hb dM_told_46 (by decide) (fun c46 => ?_) (fun c46 => ?_)
      · exact absurd c46 (by decide)
      · refine lv_iconst (v := 0) hx hb dM_told_49 (by decide) ?_
        exact gg_iret hx hb hr hlocks hKA hB dM_told_50 (by decide) (by decide) (xP_n (show xTold cn σ r x w = none from by simp [xTold, hi]) hR)
    · exact (c6 (by decide)).elim
  | some k =>
    have e2 : y1 = 1 := by rw [e2, hi]; rfl
    subst e2
    obtain ⟨hk, hr9⟩ := ix_some (by have := hR.c100; omega) hi
    subst hr9
    obtain ⟨⟨h, it, n, st, ho, db, du, fa, en, lf⟩, hq⟩ : ∃ q, σ k = q := ⟨_, rfl⟩
    have hq0 := hq
    have hv := hinv k hk
    refine lv_if_eq (tgt := 34) hx hb dM_told_6 (by decide) (fun c6 => ?_) (fun c6 => ?_)
    · exact absurd c6 (by decide)
    · refine lv_iload_n hx hb dM_told_9 rfl (lv_at hl 2 rfl) ?_
      refine lv_iconst (v := 0) hx hb dM_told_10 (by decide) ?_
      refine lv_aload_n hx hb dM_told_11 rfl (lv_at hl 0 rfl) ?_
      refine gg_get (v := .ref (ad 3)) hx hb hts in_M hown hK hB hR.top rfl 8 (by decide) k_350 rfl rfl dM_told_12 ?_
      refine lv_iload_n hx hb dM_told_15 rfl (lv_at hl 1 rfl) ?_
      refine gg_iald (v := (nI n)) hx hb hK hB 2 (hR.ar 3 (by decide)) rfl (vp_in_nI (ml_lo (by decide) (by have := hR.c100; omega)) (ml_lt _)) (by rw [nI_clamp (by have := hR.c100; omega)]; exact (hR.r hk hq).2.2.2.1) dM_told_16 ?_
      refine lv_iconst (v := 1) hx hb dM_told_17 (by decide) ?_
      refine lv_isub hx hb dM_told_18 ?_
      refine gEndi (gRunS hF (c_M_in l dC dI dA z M x 0 (nI n - 1)) ln_M_57 hKA hB rfl hl.1 rfl (Nat.le_of_ble_eq_true rfl) dM_told_19 ⟨rfl, rfl, (Nat.le_of_ble_eq_true rfl), (Nat.le_of_ble_eq_true rfl)⟩ ⟨(Nat.le_of_ble_eq_true rfl), (Nat.le_of_ble_eq_true rfl)⟩) hB (fun y2 M1 H locs hp hB => ?_)
      obtain ⟨e1, e2⟩ := hp
      rw [e1] at hB
      have hn8 : n ≤ 8 := hR.n8 hk hq
      rw [bI_ix (by omega)] at e2
      cases hj : ix n x with
      | none =>
        have e2 : y2 = 0 := by rw [e2, hj]; rfl
        subst e2
        refine lv_if_eq (tgt := 34) hx hb dM_told_22 (by decide) (fun c22 => ?_) (fun c22 => ?_)
        · refine lv_iconst (v := 1) hx hb dM_told_34 (by decide) ?_
          refine lv_goto (tgt := 39) hx hb dM_told_35 (by decide) ?_
          refine gg_put (ty := .int) (v := .int 1) hx hb hts in_M t_M t_M_ok n_M hown hK hB hR.top rfl 0 (by decide) k_342 rfl rfl (by decide +kernel) rfl rfl (Nat.le_of_ble_eq_true rfl) dM_told_39 (fun H locs hB => ?_)
          have hR := hR.setTop 1 lt lw
          have hB : gB (dC, dI) gcl z (gU M mo (oM 1 lt hs lw cn ad)) s.heap H locs := hB
          generalize gU M mo (oM 1 lt hs lw cn ad) = M at hB hR
          refine lv_aload_n hx hb dM_told_42 rfl (lv_at hl 0 rfl) ?_
          refine gg_get (v := .int 1) hx hb hts in_M hown hK hB hR.top rfl 0 (by decide) k_342 rfl rfl dM_told_43 ?_
          refine lv_if_le (tgt := 51) hx hb dM_told_46 (by decide) (fun c46 => ?_) (fun c46 => ?_)
          · exact absurd c46 (by decide)
          · refine lv_iconst (v := 0) hx hb dM_told_49 (by decide) ?_
            exact gg_iret hx hb hr hlocks hKA hB dM_told_50 (by decide) (by decide) (xP_n (show xTold cn σ (nI k) x w = none from by simp [xTold, hi, hj, hq0]) hR)
        · exact (c22 (by decide)).elim
      | some i =>
        have e2 : y2 = 1 := by rw [e2, hj]; rfl
        subst e2
        obtain ⟨hin, hr9⟩ := ix_some (by omega) hj
        subst hr9
        refine lv_if_eq (tgt := 34) hx hb dM_told_22 (by decide) (fun c22 => ?_) (fun c22 => ?_)
        · exact absurd c22 (by decide)
        · refine lv_iload_n hx hb dM_told_25 rfl (lv_at hl 3 rfl) ?_
          refine lv_iconst (v := 0) hx hb dM_told_26 (by decide) ?_
          refine lv_iconst (v := 2) hx hb dM_told_27 (by decide) ?_
          refine gEndi (gRunS hF (c_M_in l dC dI dA z M w 0 2) ln_M_57 hKA hB rfl hl.1 rfl (Nat.le_of_ble_eq_true rfl) dM_told_28 ⟨rfl, rfl, (Nat.le_of_ble_eq_true rfl), (Nat.le_of_ble_eq_true rfl)⟩ ⟨(Nat.le_of_ble_eq_true rfl), (Nat.le_of_ble_eq_true rfl)⟩) hB (fun y3 M1 H locs hp hB => ?_)
          obtain ⟨e1, e2⟩ := hp
          rw [e1] at hB
          cases hN3 : bI w 0 2 with
          | false =>
            have e2 : y3 = 0 := by rw [e2, hN3]; rfl
            subst e2
            refine lv_if_ne (tgt := 38) hx hb dM_told_31 (by decide) (fun c31 => ?_) (fun c31 => ?_)
            · exact (c31 (by decide)).elim
            · refine lv_iconst (v := 1) hx hb dM_told_34 (by decide) ?_
              refine lv_goto (tgt := 39) hx hb dM_told_35 (by decide) ?_
              refine gg_put (ty := .int) (v := .int 1) hx hb hts in_M t_M t_M_ok n_M hown hK hB hR.top rfl 0 (by decide) k_342 rfl rfl (by decide +kernel) rfl rfl (Nat.le_of_ble_eq_true rfl) dM_told_39 (fun H locs hB => ?_)
              have hR := hR.setTop 1 lt lw
              have hB : gB (dC, dI) gcl z (gU M mo (oM 1 lt hs lw cn ad)) s.heap H locs := hB
              generalize gU M mo (oM 1 lt hs lw cn ad) = M at hB hR
              refine lv_aload_n hx hb dM_told_42 rfl (lv_at hl 0 rfl) ?_
              refine gg_get (v := .int 1) hx hb hts in_M hown hK hB hR.top rfl 0 (by decide) k_342 rfl rfl dM_told_43 ?_
              refine lv_if_le (tgt := 51) hx hb dM_told_46 (by decide) (fun c46 => ?_) (fun c46 => ?_)
              · exact absurd c46 (by decide)
              · refine lv_iconst (v := 0) hx hb dM_told_49 (by decide) ?_
                exact gg_iret hx hb hr hlocks hKA hB dM_told_50 (by decide) (by decide) (xP_n (xTold_w hN3) hR)
          | true =>
            have e2 : y3 = 1 := by rw [e2, hN3]; rfl
            subst e2
            refine lv_if_ne (tgt := 38) hx hb dM_told_31 (by decide) (fun c31 => ?_) (fun c31 => ?_)
            · refine lv_iconst (v := 0) hx hb dM_told_38 (by decide) ?_
              refine gg_put (ty := .int) (v := .int 0) hx hb hts in_M t_M t_M_ok n_M hown hK hB hR.top rfl 0 (by decide) k_342 rfl rfl (by decide +kernel) rfl rfl (Nat.le_of_ble_eq_true rfl) dM_told_39 (fun H locs hB => ?_)
              have hR := hR.setTop 0 lt lw
              have hB : gB (dC, dI) gcl z (gU M mo (oM 0 lt hs lw cn ad)) s.heap H locs := hB
              generalize gU M mo (oM 0 lt hs lw cn ad) = M at hB hR
              refine lv_aload_n hx hb dM_told_42 rfl (lv_at hl 0 rfl) ?_
              refine gg_get (v := .int 0) hx hb hts in_M hown hK hB hR.top rfl 0 (by decide) k_342 rfl rfl dM_told_43 ?_
              refine lv_if_le (tgt := 51) hx hb dM_told_46 (by decide) (fun c46 => ?_) (fun c46 => ?_)
              · refine lv_bipush (v := 8) hx hb dM_told_51 (by decide) ?_
                refine lv_iload_n hx hb dM_told_53 rfl (lv_at hl 1 rfl) ?_
                refine lv_imul hx hb dM_told_54 ?_
                rw [gm8 k]
                refine lv_iload_n hx hb dM_told_55 rfl (lv_at hl 2 rfl) ?_
                refine lv_iadd hx hb dM_told_56 ?_
                rw [nI_add (8 * k) i]
                refine lv_istore (lv' := [(4, .int (nI (8 * k + i))), (0, .ref mo), (1, .int (nI k)), (2, .int (nI i)), (3, .int w)]) hx hb dM_told_57 hl (by decide) rfl (fun ls hl => ?_)
                refine lv_iload_n hx hb dM_told_59 rfl (lv_at hl 4 rfl) ?_
                refine lv_if_ne (tgt := 73) hx hb dM_told_60 (by decide) (fun c60 => ?_) (fun c60 => ?_)
                · refine lv_iload_n hx hb dM_told_73 rfl (lv_at hl 4 rfl) ?_
                  refine lv_iconst (v := 1) hx hb dM_told_74 (by decide) ?_
                  refine lv_icmp_ne (tgt := 88) hx hb dM_told_75 (by decide) (fun c75 => ?_) (fun c75 => ?_)
                  · refine lv_aload_n hx hb dM_told_88 rfl (lv_at hl 1 rfl) ?_
                    refine gg_get (v := .ref (ad 10)) hx hb hts in_M hown hK hB hR.top rfl 15 (by decide) k_357 rfl rfl dM_told_89 ?_
                    refine lv_iload hx hb dM_told_92 (lv_at hl 0 rfl) ?_
                    refine gg_iald (v := ((lf i).2.2.1)) hx hb hK hB 2 (hR.ar 10 (by decide)) rfl (vp_in_nI (ml_hi (by decide) (by have := hR.c100; have h8 : n ≤ 8 := hR.n8 hk hq; omega)) (ml_lt _)) (by rw [nI_clamp (by have := hR.c100; have h8 : n ≤ 8 := hR.n8 hk hq; omega)]; exact (hR.l hk hq hin).2.2.1) dM_told_94 ?_
                    exact gg_iret hx hb hr hlocks hKA hB dM_told_95 (by decide) (by decide) (xP_s (show xTold cn σ (nI k) (nI i) w = some ((lf i).2.2.1) from by rw [w2 hN3 c60 c75]; simp [xTold, hi, hj, hq0]) hR)
                  · refine lv_aload_n hx hb dM_told_78 rfl (lv_at hl 1 rfl) ?_
                    refine gg_get (v := .ref (ad 9)) hx hb hts in_M hown hK hB hR.top rfl 14 (by decide) k_356 rfl rfl dM_told_79 ?_
                    refine lv_iload hx hb dM_told_82 (lv_at hl 0 rfl) ?_
                    refine gg_iald (v := ((lf i).2.1)) hx hb hK hB 2 (hR.ar 9 (by decide)) rfl (vp_in_nI (ml_hi (by decide) (by have := hR.c100; have h8 : n ≤ 8 := hR.n8 hk hq; omega)) (ml_lt _)) (by rw [nI_clamp (by have := hR.c100; have h8 : n ≤ 8 := hR.n8 hk hq; omega)]; exact (hR.l hk hq hin).2.1) dM_told_84 ?_
                    refine lv_goto (tgt := 95) hx hb dM_told_85 (by decide) ?_
                    exact gg_iret hx hb hr hlocks hKA hB dM_told_95 (by decide) (by decide) (xP_s (show xTold cn σ (nI k) (nI i) w = some ((lf i).2.1) from by simp [xTold, hi, hj, hq0, c60, c75]) hR)
                · refine lv_aload_n hx hb dM_told_63 rfl (lv_at hl 1 rfl) ?_
                  refine gg_get (v := .ref (ad 8)) hx hb hts in_M hown hK hB hR.top rfl 13 (by decide) k_355 rfl rfl dM_told_64 ?_
                  refine lv_iload hx hb dM_told_67 (lv_at hl 0 rfl) ?_
                  refine gg_iald (v := ((lf i).1)) hx hb hK hB 2 (hR.ar 8 (by decide)) rfl (vp_in_nI (ml_hi (by decide) (by have := hR.c100; have h8 : n ≤ 8 := hR.n8 hk hq; omega)) (ml_lt _)) (by rw [nI_clamp (by have := hR.c100; have h8 : n ≤ 8 := hR.n8 hk hq; omega)]; exact (hR.l hk hq hin).1) dM_told_69 ?_
                  refine lv_goto (tgt := 95) hx hb dM_told_70 (by decide) ?_
                  exact gg_iret hx hb hr hlocks hKA hB dM_told_95 (by decide) (by decide) (xP_s (show xTold cn σ (nI k) (nI i) w = some ((lf i).1) from by simp [xTold, hi, hj, hq0, c60]) hR)
              · exact (c46 (by decide)).elim
            · exact absurd c31 (by decide)
set_option maxHeartbeats 4000000 in
set_option maxRecDepth 100000 in
theorem c_M_lent (l : Launch) (dC : Nat → ClassId) (dI : Nat → Nat → Nat) (dA : Nat → ClassId) (z : Nat) (M0 M : gM) (mo : Nat) (ad : Nat → Nat) (th lt hs lw : Int32) (cn : Nat) (σ : Nat → Rq) (f : Nat → Nat → Int32) (hR : mW dA M0 M mo ad th lt hs lw cn σ f) (h9 one two : Int32) : gMi l dC dI dA z y_M_lent b_M_lent 7 (Option.some FieldType.int) ⟨0, 0, 0, 0⟩ [.ref mo, .int h9, .int one, .int two] M (fun y M1 => M1 = M ∧ y = lc2 (pl h9 one two) σ cn) 0 0 := by
  refine gOfW (by decide) (Nat.le_of_ble_eq_true rfl) ?_
  intro p e s m below meth c ls hF hr hlocks hnm hKA hB hl
  obtain ⟨hx, hb, hml, hown, hts⟩ := id hF
  have hK := hKA.1
  have hl : lv_has ls 7 [(0, .ref mo), (1, .int h9), (2, .int one), (3, .int two)] := hl
  refine lv_iconst (v := 0) hx hb dM_lent_0 (by decide) ?_
  refine lv_istore (lv' := [(4, .int 0), (0, .ref mo), (1, .int h9), (2, .int one), (3, .int two)]) hx hb dM_lent_1 hl (by decide) rfl (fun ls hl => ?_)
  refine lv_iconst (v := 0) hx hb dM_lent_3 (by decide) ?_
  refine lv_istore (lv' := [(5, .int 0), (4, .int 0), (0, .ref mo), (1, .int h9), (2, .int one), (3, .int two)]) hx hb dM_lent_4 hl (by decide) rfl (fun ls hl => ?_)
  refine gLoop (G := fun ls => W p l e _ s m _ below meth c s.heap [] 0 0 _ (F0 m 6 ls [])) (nL := 7) (fun k => [(5, .int (nI k)), (4, .int (lc2 (pl h9 one two) σ k)), (3, .int two), (2, .int one), (1, .int h9), (0, .ref mo)]) (fun _ => True) cn ?_ 0 (Nat.zero_le _) trivial ls (lv_sub hl [0, 1, 5, 4, 3, 2] rfl)
  intro k hk9 _ ih ls hl
  have hl : lv_has ls 7 [(5, .int (nI k)), (4, .int (lc2 (pl h9 one two) σ k)), (3, .int two), (2, .int one), (1, .int h9), (0, .ref mo)] := hl
  refine lv_iload hx hb dM_lent_6 (lv_at hl 0 rfl) ?_
  refine lv_aload_n hx hb dM_lent_8 rfl (lv_at hl 5 rfl) ?_
  refine gg_get (v := .int (nI cn)) hx hb hts in_M hown hK hB hR.top rfl 4 (by decide) k_346 rfl rfl dM_lent_9 ?_
  refine lv_icmp_ge (tgt := 95) hx hb dM_lent_12 (by decide) (fun c12 => ?_) (fun c12 => ?_)
  · refine lv_iload hx hb dM_lent_95 (lv_at hl 1 rfl) ?_
    exact gg_iret hx hb hr hlocks hKA hB dM_lent_97 (by decide) (by decide) ⟨rfl, by rw [nI_top (by have := hR.c100; omega) c12 hk9]⟩
  · have hlt : k < cn := Nat.lt_of_not_le (fun q => c12 (nI_le q (by have := hR.c100; omega)))
    have hk := hlt
    obtain ⟨⟨h, it, n, st, ho, db, du, fa, en, lf⟩, hq⟩ : ∃ q, σ k = q := ⟨_, rfl⟩
    refine lv_bipush (v := 8) hx hb dM_lent_15 (by decide) ?_
    refine lv_iload hx hb dM_lent_17 (lv_at hl 0 rfl) ?_
    refine lv_imul hx hb dM_lent_19 ?_
    rw [gm8 k]
    refine lv_istore (lv' := [(6, .int (nI (8 * k))), (5, .int (nI k)), (4, .int (lc2 (pl h9 one two) σ k)), (3, .int two), (2, .int one), (1, .int h9), (0, .ref mo)]) hx hb dM_lent_20 hl (by decide) rfl (fun ls hl => ?_)
    refine gLoop (G := fun ls => W p l e _ s m _ below meth c s.heap [] 0 0 _ (F0 m 22 ls [])) (nL := 7) (fun i => [(6, .int (nI (8 * k + i))), (4, .int (lc2 (pl h9 one two) σ k + lc (pl h9 one two) lf i)), (5, .int (nI k)), (3, .int two), (2, .int one), (1, .int h9), (0, .ref mo)]) (fun _ => True) n ?_ 0 (Nat.zero_le _) trivial ls (lv_sub hl [0, 2, 1, 3, 4, 5, 6] (by show _ = [_, (4, Value.int (lc2 (pl h9 one two) σ k + 0)), _, _, _, _, _]; rw [Int32.add_zero]; rfl))
    intro i hi9 _ ih2 ls hl
    have hl : lv_has ls 7 [(6, .int (nI (8 * k + i))), (4, .int (lc2 (pl h9 one two) σ k + lc (pl h9 one two) lf i)), (5, .int (nI k)), (3, .int two), (2, .int one), (1, .int h9), (0, .ref mo)] := hl
    refine lv_iload hx hb dM_lent_22 (lv_at hl 0 rfl) ?_
    refine lv_bipush (v := 8) hx hb dM_lent_24 (by decide) ?_
    refine lv_iload hx hb dM_lent_26 (lv_at hl 2 rfl) ?_
    refine lv_imul hx hb dM_lent_28 ?_
    rw [gm8 k]
    refine lv_aload_n hx hb dM_lent_29 rfl (lv_at hl 6 rfl) ?_
    refine gg_get (v := .ref (ad 3)) hx hb hts in_M hown hK hB hR.top rfl 8 (by decide) k_350 rfl rfl dM_lent_30 ?_
    refine lv_iload hx hb dM_lent_33 (lv_at hl 2 rfl) ?_
    refine gg_iald (v := (nI n)) hx hb hK hB 2 (hR.ar 3 (by decide)) rfl (vp_in_nI (ml_lo (by decide) (by have := hR.c100; omega)) (ml_lt _)) (by rw [nI_clamp (by have := hR.c100; omega)]; exact (hR.r hk hq).2.2.2.1) dM_lent_35 ?_
    refine lv_iadd hx hb dM_lent_36 ?_
    rw [nI_add (8 * k) n]
    refine lv_icmp_ge (tgt := 89) hx hb dM_lent_37 (by decide) (fun c37 => ?_) (fun c37 => ?_)
    · have hin9 : i = n := by have h9 : 8 * k + n ≤ 8 * k + i := (nI_leI (by have := hR.c100; have h8 : n ≤ 8 := hR.n8 hk hq; omega) (by have := hR.c100; have h8 : n ≤ 8 := hR.n8 hk hq; omega)).mp c37; omega
      rw [hin9] at hl
      refine lv_iinc (v := (nI (k + 1))) (lv' := [(5, .int (nI (k + 1))), (6, .int (nI (8 * k + n))), (4, .int (lc2 (pl h9 one two) σ k + lc (pl h9 one two) lf n)), (3, .int two), (2, .int one), (1, .int h9), (0, .ref mo)]) hx hb dM_lent_89 hl (k := 2) rfl (nI_1 k) (by decide) rfl (fun ls hl => ?_)
      refine lv_goto (tgt := 6) hx hb dM_lent_92 (by decide) ?_
      exact ih hlt trivial ls (lv_sub hl [0, 2, 3, 4, 5, 6] (by rw [show lc2 (pl h9 one two) σ (k + 1) = lc2 (pl h9 one two) σ k + lc (pl h9 one two) lf n from by show lc2 (pl h9 one two) σ k + lc (pl h9 one two) (σ k).2.2.2.2.2.2.2.2.2 (σ k).2.2.1 = _; rw [hq]]; rfl))
    · have hin : i < n := by have h9 : 8 * k + i < 8 * k + n := Nat.lt_of_not_le (fun q => c37 (nI_le q (by have := hR.c100; have h8 : n ≤ 8 := hR.n8 hk hq; omega))); omega
      refine lv_iload hx hb dM_lent_40 (lv_at hl 1 rfl) ?_
      refine lv_aload_n hx hb dM_lent_42 rfl (lv_at hl 6 rfl) ?_
      refine gg_get (v := .ref (ad 8)) hx hb hts in_M hown hK hB hR.top rfl 13 (by decide) k_355 rfl rfl dM_lent_43 ?_
      refine lv_iload hx hb dM_lent_46 (lv_at hl 0 rfl) ?_
      refine gg_iald (v := ((lf i).1)) hx hb hK hB 2 (hR.ar 8 (by decide)) rfl (vp_in_nI (ml_hi (by decide) (by have := hR.c100; have h8 : n ≤ 8 := hR.n8 hk hq; omega)) (ml_lt _)) (by rw [nI_clamp (by have := hR.c100; have h8 : n ≤ 8 := hR.n8 hk hq; omega)]; exact (hR.l hk hq hin).1) dM_lent_48 ?_
      refine lv_iload_n hx hb dM_lent_49 rfl (lv_at hl 5 rfl) ?_
      refine lv_icmp_ne (tgt := 79) hx hb dM_lent_50 (by decide) (fun c50 => ?_) (fun c50 => ?_)
      · refine lv_iconst (v := 0) hx hb dM_lent_79 (by decide) ?_
        have hlc : lc2 (pl h9 one two) σ k + lc (pl h9 one two) lf (i + 1) = lc2 (pl h9 one two) σ k + lc (pl h9 one two) lf i + 0 := by show _ + (lc (pl h9 one two) lf i + (if pl h9 one two (lf i) = true then 1 else 0)) = _; rw [show (if pl h9 one two (lf i) = true then (1 : Int32) else 0) = 0 from by simp [pl, c50], ← Int32.add_assoc]
        refine lv_iadd hx hb dM_lent_80 ?_
        refine lv_istore (lv' := [(4, .int ((lc2 (pl h9 one two) σ k + lc (pl h9 one two) lf i) + 0)), (6, .int (nI (8 * k + i))), (5, .int (nI k)), (3, .int two), (2, .int one), (1, .int h9), (0, .ref mo)]) hx hb dM_lent_81 hl (by decide) rfl (fun ls hl => ?_)
        refine lv_iinc (v := (nI (8 * k + i + 1))) (lv' := [(6, .int (nI (8 * k + i + 1))), (4, .int ((lc2 (pl h9 one two) σ k + lc (pl h9 one two) lf i) + 0)), (5, .int (nI k)), (3, .int two), (2, .int one), (1, .int h9), (0, .ref mo)]) hx hb dM_lent_83 hl (k := 1) rfl (nI_1 (8 * k + i)) (by decide) rfl (fun ls hl => ?_)
        refine lv_goto (tgt := 22) hx hb dM_lent_86 (by decide) ?_
        exact ih2 hin trivial ls (lv_sub hl [0, 1, 2, 3, 4, 5, 6] (by rw [hlc]; rfl))
      · refine lv_aload_n hx hb dM_lent_53 rfl (lv_at hl 6 rfl) ?_
        refine gg_get (v := .ref (ad 9)) hx hb hts in_M hown hK hB hR.top rfl 14 (by decide) k_356 rfl rfl dM_lent_54 ?_
        refine lv_iload hx hb dM_lent_57 (lv_at hl 0 rfl) ?_
        refine gg_iald (v := ((lf i).2.1)) hx hb hK hB 2 (hR.ar 9 (by decide)) rfl (vp_in_nI (ml_hi (by decide) (by have := hR.c100; have h8 : n ≤ 8 := hR.n8 hk hq; omega)) (ml_lt _)) (by rw [nI_clamp (by have := hR.c100; have h8 : n ≤ 8 := hR.n8 hk hq; omega)]; exact (hR.l hk hq hin).2.1) dM_lent_59 ?_
        refine lv_iload_n hx hb dM_lent_60 rfl (lv_at hl 4 rfl) ?_
        refine lv_icmp_eq (tgt := 75) hx hb dM_lent_61 (by decide) (fun c61 => ?_) (fun c61 => ?_)
        · refine lv_iconst (v := 1) hx hb dM_lent_75 (by decide) ?_
          refine lv_goto (tgt := 80) hx hb dM_lent_76 (by decide) ?_
          have hlc : lc2 (pl h9 one two) σ k + lc (pl h9 one two) lf (i + 1) = lc2 (pl h9 one two) σ k + lc (pl h9 one two) lf i + 1 := by show _ + (lc (pl h9 one two) lf i + (if pl h9 one two (lf i) = true then 1 else 0)) = _; rw [show (if pl h9 one two (lf i) = true then (1 : Int32) else 0) = 1 from by simp [pl, c50, c61], ← Int32.add_assoc]
          refine lv_iadd hx hb dM_lent_80 ?_
          refine lv_istore (lv' := [(4, .int ((lc2 (pl h9 one two) σ k + lc (pl h9 one two) lf i) + 1)), (6, .int (nI (8 * k + i))), (5, .int (nI k)), (3, .int two), (2, .int one), (1, .int h9), (0, .ref mo)]) hx hb dM_lent_81 hl (by decide) rfl (fun ls hl => ?_)
          refine lv_iinc (v := (nI (8 * k + i + 1))) (lv' := [(6, .int (nI (8 * k + i + 1))), (4, .int ((lc2 (pl h9 one two) σ k + lc (pl h9 one two) lf i) + 1)), (5, .int (nI k)), (3, .int two), (2, .int one), (1, .int h9), (0, .ref mo)]) hx hb dM_lent_83 hl (k := 1) rfl (nI_1 (8 * k + i)) (by decide) rfl (fun ls hl => ?_)
          refine lv_goto (tgt := 22) hx hb dM_lent_86 (by decide) ?_
          exact ih2 hin trivial ls (lv_sub hl [0, 1, 2, 3, 4, 5, 6] (by rw [hlc]; rfl))
        · refine lv_aload_n hx hb dM_lent_64 rfl (lv_at hl 6 rfl) ?_
          refine gg_get (v := .ref (ad 9)) hx hb hts in_M hown hK hB hR.top rfl 14 (by decide) k_356 rfl rfl dM_lent_65 ?_
          refine lv_iload hx hb dM_lent_68 (lv_at hl 0 rfl) ?_
          refine gg_iald (v := ((lf i).2.1)) hx hb hK hB 2 (hR.ar 9 (by decide)) rfl (vp_in_nI (ml_hi (by decide) (by have := hR.c100; have h8 : n ≤ 8 := hR.n8 hk hq; omega)) (ml_lt _)) (by rw [nI_clamp (by have := hR.c100; have h8 : n ≤ 8 := hR.n8 hk hq; omega)]; exact (hR.l hk hq hin).2.1) dM_lent_70 ?_
          refine lv_iload_n hx hb dM_lent_71 rfl (lv_at hl 3 rfl) ?_
          refine lv_icmp_ne (tgt := 79) hx hb dM_lent_72 (by decide) (fun c72 => ?_) (fun c72 => ?_)
          · refine lv_iconst (v := 0) hx hb dM_lent_79 (by decide) ?_
            have hlc : lc2 (pl h9 one two) σ k + lc (pl h9 one two) lf (i + 1) = lc2 (pl h9 one two) σ k + lc (pl h9 one two) lf i + 0 := by show _ + (lc (pl h9 one two) lf i + (if pl h9 one two (lf i) = true then 1 else 0)) = _; rw [show (if pl h9 one two (lf i) = true then (1 : Int32) else 0) = 0 from by simp [pl, c50, c61, c72], ← Int32.add_assoc]
            refine lv_iadd hx hb dM_lent_80 ?_
            refine lv_istore (lv' := [(4, .int ((lc2 (pl h9 one two) σ k + lc (pl h9 one two) lf i) + 0)), (6, .int (nI (8 * k + i))), (5, .int (nI k)), (3, .int two), (2, .int one), (1, .int h9), (0, .ref mo)]) hx hb dM_lent_81 hl (by decide) rfl (fun ls hl => ?_)
            refine lv_iinc (v := (nI (8 * k + i + 1))) (lv' := [(6, .int (nI (8 * k + i + 1))), (4, .int ((lc2 (pl h9 one two) σ k + lc (pl h9 one two) lf i) + 0)), (5, .int (nI k)), (3, .int two), (2, .int one), (1, .int h9), (0, .ref mo)]) hx hb dM_lent_83 hl (k := 1) rfl (nI_1 (8 * k + i)) (by decide) rfl (fun ls hl => ?_)
            refine lv_goto (tgt := 22) hx hb dM_lent_86 (by decide) ?_
            exact ih2 hin trivial ls (lv_sub hl [0, 1, 2, 3, 4, 5, 6] (by rw [hlc]; rfl))
          · refine lv_iconst (v := 1) hx hb dM_lent_75 (by decide) ?_
            refine lv_goto (tgt := 80) hx hb dM_lent_76 (by decide) ?_
            have hlc : lc2 (pl h9 one two) σ k + lc (pl h9 one two) lf (i + 1) = lc2 (pl h9 one two) σ k + lc (pl h9 one two) lf i + 1 := by show _ + (lc (pl h9 one two) lf i + (if pl h9 one two (lf i) = true then 1 else 0)) = _; rw [show (if pl h9 one two (lf i) = true then (1 : Int32) else 0) = 1 from by simp [pl, c50, c61, c72], ← Int32.add_assoc]
            refine lv_iadd hx hb dM_lent_80 ?_
            refine lv_istore (lv' := [(4, .int ((lc2 (pl h9 one two) σ k + lc (pl h9 one two) lf i) + 1)), (6, .int (nI (8 * k + i))), (5, .int (nI k)), (3, .int two), (2, .int one), (1, .int h9), (0, .ref mo)]) hx hb dM_lent_81 hl (by decide) rfl (fun ls hl => ?_)
            refine lv_iinc (v := (nI (8 * k + i + 1))) (lv' := [(6, .int (nI (8 * k + i + 1))), (4, .int ((lc2 (pl h9 one two) σ k + lc (pl h9 one two) lf i) + 1)), (5, .int (nI k)), (3, .int two), (2, .int one), (1, .int h9), (0, .ref mo)]) hx hb dM_lent_83 hl (k := 1) rfl (nI_1 (8 * k + i)) (by decide) rfl (fun ls hl => ?_)
            refine lv_goto (tgt := 22) hx hb dM_lent_86 (by decide) ?_
            exact ih2 hin trivial ls (lv_sub hl [0, 1, 2, 3, 4, 5, 6] (by rw [hlc]; rfl))
set_option maxHeartbeats 4000000 in
set_option maxRecDepth 100000 in
theorem c_M_statistics (l : Launch) (dC : Nat → ClassId) (dI : Nat → Nat → Nat) (dA : Nat → ClassId) (z : Nat) (M0 M : gM) (mo : Nat) (ad : Nat → Nat) (th lt hs lw : Int32) (cn : Nat) (σ : Nat → Rq) (f : Nat → Nat → Int32) (hR : mW dA M0 M mo ad th lt hs lw cn σ f) (hh9 : hsOk hs) (hinv : ∀ k, k < cn → inv (σ k)) (h9 w : Int32) : gMi l dC dI dA z y_M_statistics b_M_statistics 5 (Option.some FieldType.int) ⟨2, 0, 0, 43⟩ [.ref mo, .int h9, .int w] M (fun y M1 => (∃ f1, mW dA M0 M1 mo ad 0 lt hs lw cn σ f1) ∧ y = aStat hs cn σ h9 w) 0 0 := by
  refine gOfW (by decide) (Nat.le_of_ble_eq_true rfl) ?_
  intro p e s m below meth c ls hF hr hlocks hnm hKA hB hl
  obtain ⟨hx, hb, hml, hown, hts⟩ := id hF
  have hK := hKA.1
  have hl : lv_has ls 5 [(0, .ref mo), (1, .int h9), (2, .int w)] := hl
  refine lv_aload_n hx hb dM_statistics_0 rfl (lv_at hl 0 rfl) ?_
  refine lv_iconst (v := 0) hx hb dM_statistics_1 (by decide) ?_
  refine gg_put (ty := .int) (v := .int 0) hx hb hts in_M t_M t_M_ok n_M hown hK hB hR.top rfl 0 (by decide) k_342 rfl rfl (by decide +kernel) rfl rfl (Nat.le_of_ble_eq_true rfl) dM_statistics_2 (fun H locs hB => ?_)
  have hR := hR.setTop 0 lt lw
  have hB : gB (dC, dI) gcl z (gU M mo (oM 0 lt hs lw cn ad)) s.heap H locs := hB
  generalize gU M mo (oM 0 lt hs lw cn ad) = M at hB hR
  refine lv_aload_n hx hb dM_statistics_5 rfl (lv_at hl 0 rfl) ?_
  refine lv_iload_n hx hb dM_statistics_6 rfl (lv_at hl 1 rfl) ?_
  refine gEndi (gRunV hF (c_M_isHouse l dC dI dA z M0 M mo ad 0 lt hs lw cn _ _ hR hh9 h9) ln_M_68 hKA hB hR.top rfl rfl hl.1 rfl (Nat.le_of_ble_eq_true rfl) dM_statistics_7 ⟨rfl, rfl, (Nat.le_of_ble_eq_true rfl), (Nat.le_of_ble_eq_true rfl)⟩ ⟨(Nat.le_of_ble_eq_true rfl), (Nat.le_of_ble_eq_true rfl)⟩) hB (fun y1 M1 H locs hp hB => ?_)
  obtain ⟨e1, e2⟩ := hp
  rw [e1] at hB
  cases hH1 : bH hs h9 with
  | false =>
    have e2 : y1 = 0 := by rw [e2, hH1]; rfl
    subst e2
    refine lv_if_eq (tgt := 22) hx hb dM_statistics_10 (by decide) (fun c10 => ?_) (fun c10 => ?_)
    · refine lv_iconst (v := (-1)) hx hb dM_statistics_22 (by decide) ?_
      exact gg_iret hx hb hr hlocks hKA hB dM_statistics_23 (by decide) (by decide) ⟨⟨_, hR⟩, by simp [aStat, hH1]⟩
    · exact (c10 (by decide)).elim
  | true =>
    have e2 : y1 = 1 := by rw [e2, hH1]; rfl
    subst e2
    refine lv_if_eq (tgt := 22) hx hb dM_statistics_10 (by decide) (fun c10 => ?_) (fun c10 => ?_)
    · exact absurd c10 (by decide)
    · refine lv_iload_n hx hb dM_statistics_13 rfl (lv_at hl 2 rfl) ?_
      refine lv_iconst (v := 0) hx hb dM_statistics_14 (by decide) ?_
      refine lv_iconst (v := 5) hx hb dM_statistics_15 (by decide) ?_
      refine gEndi (gRunS hF (c_M_in l dC dI dA z M w 0 5) ln_M_57 hKA hB rfl hl.1 rfl (Nat.le_of_ble_eq_true rfl) dM_statistics_16 ⟨rfl, rfl, (Nat.le_of_ble_eq_true rfl), (Nat.le_of_ble_eq_true rfl)⟩ ⟨(Nat.le_of_ble_eq_true rfl), (Nat.le_of_ble_eq_true rfl)⟩) hB (fun y2 M1 H locs hp hB => ?_)
      obtain ⟨e1, e2⟩ := hp
      rw [e1] at hB
      cases hN2 : bI w 0 5 with
      | false =>
        have e2 : y2 = 0 := by rw [e2, hN2]; rfl
        subst e2
        refine lv_if_ne (tgt := 24) hx hb dM_statistics_19 (by decide) (fun c19 => ?_) (fun c19 => ?_)
        · exact (c19 (by decide)).elim
        · refine lv_iconst (v := (-1)) hx hb dM_statistics_22 (by decide) ?_
          exact gg_iret hx hb hr hlocks hKA hB dM_statistics_23 (by decide) (by decide) ⟨⟨_, hR⟩, (stat_no hN2).symm⟩
      | true =>
        have e2 : y2 = 1 := by rw [e2, hN2]; rfl
        subst e2
        refine lv_if_ne (tgt := 24) hx hb dM_statistics_19 (by decide) (fun c19 => ?_) (fun c19 => ?_)
        · refine lv_iload_n hx hb dM_statistics_24 rfl (lv_at hl 2 rfl) ?_
          refine lv_iconst (v := 2) hx hb dM_statistics_25 (by decide) ?_
          refine lv_icmp_le (tgt := 71) hx hb dM_statistics_26 (by decide) (fun c26 => ?_) (fun c26 => ?_)
          · refine lv_iconst (v := 0) hx hb dM_statistics_71 (by decide) ?_
            refine lv_istore_n (lv' := [(3, .int 0), (0, .ref mo), (1, .int h9), (2, .int w)]) hx hb dM_statistics_72 rfl hl (by decide) rfl (fun ls hl => ?_)
            refine lv_iconst (v := 0) hx hb dM_statistics_73 (by decide) ?_
            refine lv_istore (lv' := [(4, .int 0), (3, .int 0), (0, .ref mo), (1, .int h9), (2, .int w)]) hx hb dM_statistics_74 hl (by decide) rfl (fun ls hl => ?_)
            refine gLoop (G := fun ls => W p l e _ s m _ below meth c H locs 0 0 _ (F0 m 76 ls [])) (nL := 5) (fun k => [(4, .int (nI k)), (3, .int (cti (pst h9 w) σ cn k)), (2, .int w), (1, .int h9), (0, .ref mo)]) (fun _ => True) cn ?_ 0 (Nat.zero_le _) trivial ls (lv_sub hl [0, 1, 4, 3, 2] rfl)
            intro k hk9 _ ih ls hl
            have hl : lv_has ls 5 [(4, .int (nI k)), (3, .int (cti (pst h9 w) σ cn k)), (2, .int w), (1, .int h9), (0, .ref mo)] := hl
            refine lv_iload hx hb dM_statistics_76 (lv_at hl 0 rfl) ?_
            refine lv_aload_n hx hb dM_statistics_78 rfl (lv_at hl 4 rfl) ?_
            refine gg_get (v := .int (nI cn)) hx hb hts in_M hown hK hB hR.top rfl 4 (by decide) k_346 rfl rfl dM_statistics_79 ?_
            refine lv_icmp_ge (tgt := 136) hx hb dM_statistics_82 (by decide) (fun c82 => ?_) (fun c82 => ?_)
            · refine lv_iload_n hx hb dM_statistics_136 rfl (lv_at hl 1 rfl) ?_
              exact gg_iret hx hb hr hlocks hKA hB dM_statistics_137 (by decide) (by decide) ⟨⟨_, hR⟩, by rw [nI_top (by have := hR.c100; omega) c82 hk9, stat_lo hH1 hN2 c26]⟩
            · have hlt : k < cn := Nat.lt_of_not_le (fun q => c82 (nI_le q (by have := hR.c100; omega)))
              have hk := hlt
              obtain ⟨⟨h, it, n, st, ho, db, du, fa, en, lf⟩, hq⟩ : ∃ q, σ k = q := ⟨_, rfl⟩
              refine lv_iload_n hx hb dM_statistics_85 rfl (lv_at hl 1 rfl) ?_
              refine lv_aload_n hx hb dM_statistics_86 rfl (lv_at hl 4 rfl) ?_
              refine gg_get (v := .ref (ad 0)) hx hb hts in_M hown hK hB hR.top rfl 5 (by decide) k_347 rfl rfl dM_statistics_87 ?_
              refine lv_iload hx hb dM_statistics_90 (lv_at hl 0 rfl) ?_
              refine gg_iald (v := h) hx hb hK hB 2 (hR.ar 0 (by decide)) rfl (vp_in_nI (ml_lo (by decide) (by have := hR.c100; omega)) (ml_lt _)) (by rw [nI_clamp (by have := hR.c100; omega)]; exact (hR.r hk hq).1) dM_statistics_92 ?_
              refine lv_iload_n hx hb dM_statistics_93 rfl (lv_at hl 3 rfl) ?_
              refine lv_icmp_ne (tgt := 127) hx hb dM_statistics_94 (by decide) (fun c94 => ?_) (fun c94 => ?_)
              · refine lv_iconst (v := 0) hx hb dM_statistics_127 (by decide) ?_
                have hct : cti (pst h9 w) σ cn (k + 1) = cti (pst h9 w) σ cn k + 0 := by rw [cti_n (by simp [pst, hq, c94]), Int32.add_zero]
                refine lv_iadd hx hb dM_statistics_128 ?_
                refine lv_istore_n (lv' := [(3, .int ((cti (pst h9 w) σ cn k) + 0)), (4, .int (nI k)), (2, .int w), (1, .int h9), (0, .ref mo)]) hx hb dM_statistics_129 rfl hl (by decide) rfl (fun ls hl => ?_)
                refine lv_iinc (v := (nI (k + 1))) (lv' := [(4, .int (nI (k + 1))), (3, .int ((cti (pst h9 w) σ cn k) + 0)), (2, .int w), (1, .int h9), (0, .ref mo)]) hx hb dM_statistics_130 hl (k := 1) rfl (nI_1 k) (by decide) rfl (fun ls hl => ?_)
                refine lv_goto (tgt := 76) hx hb dM_statistics_133 (by decide) ?_
                exact ih hlt trivial ls (lv_sub hl [0, 1, 2, 3, 4] (by rw [hct]; rfl))
              · refine lv_iload_n hx hb dM_statistics_97 rfl (lv_at hl 2 rfl) ?_
                refine lv_if_eq (tgt := 123) hx hb dM_statistics_98 (by decide) (fun c98 => ?_) (fun c98 => ?_)
                · refine lv_iconst (v := 1) hx hb dM_statistics_123 (by decide) ?_
                  refine lv_goto (tgt := 128) hx hb dM_statistics_124 (by decide) ?_
                  have hct : cti (pst h9 w) σ cn (k + 1) = cti (pst h9 w) σ cn k + 1 := cti_y hlt (by simp [pst, hq, c94, c98])
                  refine lv_iadd hx hb dM_statistics_128 ?_
                  refine lv_istore_n (lv' := [(3, .int ((cti (pst h9 w) σ cn k) + 1)), (4, .int (nI k)), (2, .int w), (1, .int h9), (0, .ref mo)]) hx hb dM_statistics_129 rfl hl (by decide) rfl (fun ls hl => ?_)
                  refine lv_iinc (v := (nI (k + 1))) (lv' := [(4, .int (nI (k + 1))), (3, .int ((cti (pst h9 w) σ cn k) + 1)), (2, .int w), (1, .int h9), (0, .ref mo)]) hx hb dM_statistics_130 hl (k := 1) rfl (nI_1 k) (by decide) rfl (fun ls hl => ?_)
                  refine lv_goto (tgt := 76) hx hb dM_statistics_133 (by decide) ?_
                  exact ih hlt trivial ls (lv_sub hl [0, 1, 2, 3, 4] (by rw [hct]; rfl))
                · refine lv_aload_n hx hb dM_statistics_101 rfl (lv_at hl 4 rfl) ?_
                  refine gg_get (v := .ref (ad 2)) hx hb hts in_M hown hK hB hR.top rfl 7 (by decide) k_349 rfl rfl dM_statistics_102 ?_
                  refine lv_iload hx hb dM_statistics_105 (lv_at hl 0 rfl) ?_
                  refine gg_iald (v := st) hx hb hK hB 2 (hR.ar 2 (by decide)) rfl (vp_in_nI (ml_lo (by decide) (by have := hR.c100; omega)) (ml_lt _)) (by rw [nI_clamp (by have := hR.c100; omega)]; exact (hR.r hk hq).2.2.1) dM_statistics_107 ?_
                  refine lv_iload_n hx hb dM_statistics_108 rfl (lv_at hl 2 rfl) ?_
                  refine lv_iconst (v := 1) hx hb dM_statistics_109 (by decide) ?_
                  refine lv_icmp_ne (tgt := 118) hx hb dM_statistics_110 (by decide) (fun c110 => ?_) (fun c110 => ?_)
                  · refine lv_bipush (v := 7) hx hb dM_statistics_118 (by decide) ?_
                    refine lv_icmp_ne (tgt := 127) hx hb dM_statistics_120 (by decide) (fun c120 => ?_) (fun c120 => ?_)
                    · refine lv_iconst (v := 0) hx hb dM_statistics_127 (by decide) ?_
                      have hct : cti (pst h9 w) σ cn (k + 1) = cti (pst h9 w) σ cn k + 0 := by rw [cti_n (by simp [pst, hq, c94, c98, c110, c120]), Int32.add_zero]
                      refine lv_iadd hx hb dM_statistics_128 ?_
                      refine lv_istore_n (lv' := [(3, .int ((cti (pst h9 w) σ cn k) + 0)), (4, .int (nI k)), (2, .int w), (1, .int h9), (0, .ref mo)]) hx hb dM_statistics_129 rfl hl (by decide) rfl (fun ls hl => ?_)
                      refine lv_iinc (v := (nI (k + 1))) (lv' := [(4, .int (nI (k + 1))), (3, .int ((cti (pst h9 w) σ cn k) + 0)), (2, .int w), (1, .int h9), (0, .ref mo)]) hx hb dM_statistics_130 hl (k := 1) rfl (nI_1 k) (by decide) rfl (fun ls hl => ?_)
                      refine lv_goto (tgt := 76) hx hb dM_statistics_133 (by decide) ?_
                      exact ih hlt trivial ls (lv_sub hl [0, 1, 2, 3, 4] (by rw [hct]; rfl))
                    · refine lv_iconst (v := 1) hx hb dM_statistics_123 (by decide) ?_
                      refine lv_goto (tgt := 128) hx hb dM_statistics_124 (by decide) ?_
                      have hct : cti (pst h9 w) σ cn (k + 1) = cti (pst h9 w) σ cn k + 1 := cti_y hlt (by simp [pst, hq, c94, c98, c110, c120])
                      refine lv_iadd hx hb dM_statistics_128 ?_
                      refine lv_istore_n (lv' := [(3, .int ((cti (pst h9 w) σ cn k) + 1)), (4, .int (nI k)), (2, .int w), (1, .int h9), (0, .ref mo)]) hx hb dM_statistics_129 rfl hl (by decide) rfl (fun ls hl => ?_)
                      refine lv_iinc (v := (nI (k + 1))) (lv' := [(4, .int (nI (k + 1))), (3, .int ((cti (pst h9 w) σ cn k) + 1)), (2, .int w), (1, .int h9), (0, .ref mo)]) hx hb dM_statistics_130 hl (k := 1) rfl (nI_1 k) (by decide) rfl (fun ls hl => ?_)
                      refine lv_goto (tgt := 76) hx hb dM_statistics_133 (by decide) ?_
                      exact ih hlt trivial ls (lv_sub hl [0, 1, 2, 3, 4] (by rw [hct]; rfl))
                  · refine lv_bipush (v := 6) hx hb dM_statistics_113 (by decide) ?_
                    refine lv_goto (tgt := 120) hx hb dM_statistics_115 (by decide) ?_
                    refine lv_icmp_ne (tgt := 127) hx hb dM_statistics_120 (by decide) (fun c120 => ?_) (fun c120 => ?_)
                    · refine lv_iconst (v := 0) hx hb dM_statistics_127 (by decide) ?_
                      have hct : cti (pst h9 w) σ cn (k + 1) = cti (pst h9 w) σ cn k + 0 := by rw [cti_n (by simp [pst, hq, c94, c98, c110, c120]), Int32.add_zero]
                      refine lv_iadd hx hb dM_statistics_128 ?_
                      refine lv_istore_n (lv' := [(3, .int ((cti (pst h9 w) σ cn k) + 0)), (4, .int (nI k)), (2, .int w), (1, .int h9), (0, .ref mo)]) hx hb dM_statistics_129 rfl hl (by decide) rfl (fun ls hl => ?_)
                      refine lv_iinc (v := (nI (k + 1))) (lv' := [(4, .int (nI (k + 1))), (3, .int ((cti (pst h9 w) σ cn k) + 0)), (2, .int w), (1, .int h9), (0, .ref mo)]) hx hb dM_statistics_130 hl (k := 1) rfl (nI_1 k) (by decide) rfl (fun ls hl => ?_)
                      refine lv_goto (tgt := 76) hx hb dM_statistics_133 (by decide) ?_
                      exact ih hlt trivial ls (lv_sub hl [0, 1, 2, 3, 4] (by rw [hct]; rfl))
                    · refine lv_iconst (v := 1) hx hb dM_statistics_123 (by decide) ?_
                      refine lv_goto (tgt := 128) hx hb dM_statistics_124 (by decide) ?_
                      have hct : cti (pst h9 w) σ cn (k + 1) = cti (pst h9 w) σ cn k + 1 := cti_y hlt (by simp [pst, hq, c94, c98, c110, c120])
                      refine lv_iadd hx hb dM_statistics_128 ?_
                      refine lv_istore_n (lv' := [(3, .int ((cti (pst h9 w) σ cn k) + 1)), (4, .int (nI k)), (2, .int w), (1, .int h9), (0, .ref mo)]) hx hb dM_statistics_129 rfl hl (by decide) rfl (fun ls hl => ?_)
                      refine lv_iinc (v := (nI (k + 1))) (lv' := [(4, .int (nI (k + 1))), (3, .int ((cti (pst h9 w) σ cn k) + 1)), (2, .int w), (1, .int h9), (0, .ref mo)]) hx hb dM_statistics_130 hl (k := 1) rfl (nI_1 k) (by decide) rfl (fun ls hl => ?_)
                      refine lv_goto (tgt := 76) hx hb dM_statistics_133 (by decide) ?_
                      exact ih hlt trivial ls (lv_sub hl [0, 1, 2, 3, 4] (by rw [hct]; rfl))
          · refine lv_iload_n hx hb dM_statistics_29 rfl (lv_at hl 2 rfl) ?_
            refine lv_iconst (v := 3) hx hb dM_statistics_30 (by decide) ?_
            refine lv_icmp_ne (tgt := 44) hx hb dM_statistics_31 (by decide) (fun c31 => ?_) (fun c31 => ?_)
            · refine lv_iload_n hx hb dM_statistics_44 rfl (lv_at hl 2 rfl) ?_
              refine lv_iconst (v := 4) hx hb dM_statistics_45 (by decide) ?_
              refine lv_icmp_ne (tgt := 61) hx hb dM_statistics_46 (by decide) (fun c46 => ?_) (fun c46 => ?_)
              · refine lv_aload_n hx hb dM_statistics_61 rfl (lv_at hl 0 rfl) ?_
                refine lv_iload_n hx hb dM_statistics_62 rfl (lv_at hl 1 rfl) ?_
                refine lv_bipush (v := 7) hx hb dM_statistics_63 (by decide) ?_
                refine lv_bipush (v := 7) hx hb dM_statistics_65 (by decide) ?_
                refine gEndi (gRunV hF (c_M_lent l dC dI dA z M0 M mo ad 0 lt hs lw cn σ _ hR h9 7 7) ln_M_99 hKA hB hR.top rfl rfl hl.1 rfl (Nat.le_of_ble_eq_true rfl) dM_statistics_67 ⟨rfl, rfl, (Nat.le_of_ble_eq_true rfl), (Nat.le_of_ble_eq_true rfl)⟩ ⟨(Nat.le_of_ble_eq_true rfl), (Nat.le_of_ble_eq_true rfl)⟩) hB (fun y3 M1 H locs hp hB => ?_)
                obtain ⟨e1, rfl⟩ := hp
                rw [e1] at hB
                exact gg_iret hx hb hr hlocks hKA hB dM_statistics_70 (by decide) (by decide) ⟨⟨_, hR⟩, by rw [lent_s hinv h9 7, stat_hi hN2 c26 c31 c46]; simp [aStat, hH1]⟩
              · refine lv_aload_n hx hb dM_statistics_49 rfl (lv_at hl 0 rfl) ?_
                refine lv_iload_n hx hb dM_statistics_50 rfl (lv_at hl 1 rfl) ?_
                refine lv_bipush (v := 6) hx hb dM_statistics_51 (by decide) ?_
                refine lv_bipush (v := 6) hx hb dM_statistics_53 (by decide) ?_
                refine gEndi (gRunV hF (c_M_lent l dC dI dA z M0 M mo ad 0 lt hs lw cn σ _ hR h9 6 6) ln_M_99 hKA hB hR.top rfl rfl hl.1 rfl (Nat.le_of_ble_eq_true rfl) dM_statistics_55 ⟨rfl, rfl, (Nat.le_of_ble_eq_true rfl), (Nat.le_of_ble_eq_true rfl)⟩ ⟨(Nat.le_of_ble_eq_true rfl), (Nat.le_of_ble_eq_true rfl)⟩) hB (fun y4 M1 H locs hp hB => ?_)
                obtain ⟨e1, rfl⟩ := hp
                rw [e1] at hB
                refine lv_goto (tgt := 70) hx hb dM_statistics_58 (by decide) ?_
                exact gg_iret hx hb hr hlocks hKA hB dM_statistics_70 (by decide) (by decide) ⟨⟨_, hR⟩, by rw [lent_s hinv h9 6]; simp [aStat, hH1, c46]⟩
            · refine lv_aload_n hx hb dM_statistics_34 rfl (lv_at hl 0 rfl) ?_
              refine lv_iload_n hx hb dM_statistics_35 rfl (lv_at hl 1 rfl) ?_
              refine lv_iconst (v := 4) hx hb dM_statistics_36 (by decide) ?_
              refine lv_iconst (v := 5) hx hb dM_statistics_37 (by decide) ?_
              refine gEndi (gRunV hF (c_M_lent l dC dI dA z M0 M mo ad 0 lt hs lw cn σ _ hR h9 4 5) ln_M_99 hKA hB hR.top rfl rfl hl.1 rfl (Nat.le_of_ble_eq_true rfl) dM_statistics_38 ⟨rfl, rfl, (Nat.le_of_ble_eq_true rfl), (Nat.le_of_ble_eq_true rfl)⟩ ⟨(Nat.le_of_ble_eq_true rfl), (Nat.le_of_ble_eq_true rfl)⟩) hB (fun y5 M1 H locs hp hB => ?_)
              obtain ⟨e1, rfl⟩ := hp
              rw [e1] at hB
              refine lv_goto (tgt := 70) hx hb dM_statistics_41 (by decide) ?_
              exact gg_iret hx hb hr hlocks hKA hB dM_statistics_70 (by decide) (by decide) ⟨⟨_, hR⟩, by rw [lent_2 hinv h9]; simp [aStat, hH1, c31]⟩
        · exact absurd c19 (by decide)
set_option maxHeartbeats 4000000 in
set_option maxRecDepth 100000 in
theorem c_M_overdue (l : Launch) (dC : Nat → ClassId) (dI : Nat → Nat → Nat) (dA : Nat → ClassId) (z : Nat) (M0 M : gM) (mo : Nat) (ad : Nat → Nat) (th lt hs lw : Int32) (cn : Nat) (σ : Nat → Rq) (f : Nat → Nat → Int32) (hR : mW dA M0 M mo ad th lt hs lw cn σ f) (t x : Int32) : gMi l dC dI dA z y_M_overdue b_M_overdue 5 (Option.some FieldType.int) ⟨0, 0, 0, 0⟩ [.ref mo, .int t, .int x] M (xP dA M0 mo ad lt hs lw cn σ (xOver cn σ t x)) 0 0 := by
  refine gOfW (by decide) (Nat.le_of_ble_eq_true rfl) ?_
  intro p e s m below meth c ls hF hr hlocks hnm hKA hB hl
  obtain ⟨hx, hb, hml, hown, hts⟩ := id hF
  have hK := hKA.1
  have hl : lv_has ls 5 [(0, .ref mo), (1, .int t), (2, .int x)] := hl
  refine lv_iload_n hx hb dM_overdue_0 rfl (lv_at hl 2 rfl) ?_
  refine lv_istore_n (lv' := [(3, .int x), (0, .ref mo), (1, .int t), (2, .int x)]) hx hb dM_overdue_1 rfl hl (by decide) rfl (fun ls hl => ?_)
  refine lv_iconst (v := 0) hx hb dM_overdue_2 (by decide) ?_
  refine lv_istore (lv' := [(4, .int 0), (3, .int x), (0, .ref mo), (1, .int t), (2, .int x)]) hx hb dM_overdue_3 hl (by decide) rfl (fun ls hl => ?_)
  refine gLoop (G := fun ls => W p l e _ s m _ below meth c s.heap [] 0 0 _ (F0 m 5 ls [])) (nL := 5) (fun k => [(4, .int (nI k)), (3, .int (x - cti (bV t) σ cn k)), (0, .ref mo), (1, .int t), (2, .int x)]) (fun k => od t x σ (cn - k) k (cti (bV t) σ cn k) = od t x σ cn 0 0) cn ?_ 0 (Nat.zero_le _) rfl ls (lv_sub hl [0, 1, 2, 3, 4] (by show _ = [_, (3, Value.int (x - 0)), _, _, _]; rw [Int32.sub_zero]; rfl))
  intro k hk9 hI ih ls hl
  have hl : lv_has ls 5 [(4, .int (nI k)), (3, .int (x - cti (bV t) σ cn k)), (0, .ref mo), (1, .int t), (2, .int x)] := hl
  refine lv_iload hx hb dM_overdue_5 (lv_at hl 0 rfl) ?_
  refine lv_aload_n hx hb dM_overdue_7 rfl (lv_at hl 2 rfl) ?_
  refine gg_get (v := .int (nI cn)) hx hb hts in_M hown hK hB hR.top rfl 4 (by decide) k_346 rfl rfl dM_overdue_8 ?_
  refine lv_icmp_ge (tgt := 60) hx hb dM_overdue_11 (by decide) (fun c11 => ?_) (fun c11 => ?_)
  · refine lv_aload_n hx hb dM_overdue_60 rfl (lv_at hl 2 rfl) ?_
    refine lv_iconst (v := 1) hx hb dM_overdue_61 (by decide) ?_
    refine gg_put (ty := .int) (v := .int 1) hx hb hts in_M t_M t_M_ok n_M hown hK hB hR.top rfl 0 (by decide) k_342 rfl rfl (by decide +kernel) rfl rfl (Nat.le_of_ble_eq_true rfl) dM_overdue_62 (fun H locs hB => ?_)
    have hR := hR.setTop 1 lt lw
    have hB : gB (dC, dI) gcl z (gU M mo (oM 1 lt hs lw cn ad)) s.heap H locs := hB
    generalize gU M mo (oM 1 lt hs lw cn ad) = M at hB hR
    refine lv_iconst (v := 0) hx hb dM_overdue_65 (by decide) ?_
    exact gg_iret hx hb hr hlocks hKA hB dM_overdue_66 (by decide) (by decide) (xP_n (show xOver cn σ t x = none from by unfold xOver; rw [← hI, od_e ((nI_leI (by have := hR.c100; omega) (by have := hR.c100; omega)).mp c11)]; rfl) hR)
  · have hlt : k < cn := Nat.lt_of_not_le (fun q => c11 (nI_le q (by have := hR.c100; omega)))
    have hk := hlt
    obtain ⟨⟨h, it, n, st, ho, db, du, fa, en, lf⟩, hq⟩ : ∃ q, σ k = q := ⟨_, rfl⟩
    refine lv_aload_n hx hb dM_overdue_14 rfl (lv_at hl 2 rfl) ?_
    refine gg_get (v := .ref (ad 2)) hx hb hts in_M hown hK hB hR.top rfl 7 (by decide) k_349 rfl rfl dM_overdue_15 ?_
    refine lv_iload hx hb dM_overdue_18 (lv_at hl 0 rfl) ?_
    refine gg_iald (v := st) hx hb hK hB 2 (hR.ar 2 (by decide)) rfl (vp_in_nI (ml_lo (by decide) (by have := hR.c100; omega)) (ml_lt _)) (by rw [nI_clamp (by have := hR.c100; omega)]; exact (hR.r hk hq).2.2.1) dM_overdue_20 ?_
    refine lv_iconst (v := 4) hx hb dM_overdue_21 (by decide) ?_
    refine lv_icmp_ne (tgt := 54) hx hb dM_overdue_22 (by decide) (fun c22 => ?_) (fun c22 => ?_)
    · have hbv : ¬ bV t (σ k) = true := by simp [bV, hq, c22]
      refine lv_iinc (v := (nI (k + 1))) (lv' := [(4, .int (nI (k + 1))), (3, .int (x - cti (bV t) σ cn k)), (0, .ref mo), (1, .int t), (2, .int x)]) hx hb dM_overdue_54 hl (k := 0) rfl (nI_1 k) (by decide) rfl (fun ls hl => ?_)
      refine lv_goto (tgt := 5) hx hb dM_overdue_57 (by decide) ?_
      exact ih hlt (by rw [od_n hlt hbv] at hI; rw [cti_n hbv]; exact hI) ls (lv_sub hl [0, 1, 2, 3, 4] (by rw [cti_n hbv]; rfl))
    · refine lv_aload_n hx hb dM_overdue_25 rfl (lv_at hl 2 rfl) ?_
      refine gg_get (v := .ref (ad 5)) hx hb hts in_M hown hK hB hR.top rfl 10 (by decide) k_352 rfl rfl dM_overdue_26 ?_
      refine lv_iload hx hb dM_overdue_29 (lv_at hl 0 rfl) ?_
      refine gg_iald (v := du) hx hb hK hB 2 (hR.ar 5 (by decide)) rfl (vp_in_nI (ml_lo (by decide) (by have := hR.c100; omega)) (ml_lt _)) (by rw [nI_clamp (by have := hR.c100; omega)]; exact (hR.r hk hq).2.2.2.2.2.1) dM_overdue_31 ?_
      refine lv_iload_n hx hb dM_overdue_32 rfl (lv_at hl 3 rfl) ?_
      refine lv_icmp_lt (tgt := 39) hx hb dM_overdue_33 (by decide) (fun c33 => ?_) (fun c33 => ?_)
      · have hbv : bV t (σ k) = true := by simp [bV, hq, c22, i32_nle c33]
        refine lv_iload_n hx hb dM_overdue_39 rfl (lv_at hl 1 rfl) ?_
        refine lv_if_ne (tgt := 51) hx hb dM_overdue_40 (by decide) (fun c40 => ?_) (fun c40 => ?_)
        · refine lv_iinc (v := ((x - cti (bV t) σ cn k) + (-1))) (lv' := [(3, .int ((x - cti (bV t) σ cn k) + (-1))), (4, .int (nI k)), (0, .ref mo), (1, .int t), (2, .int x)]) hx hb dM_overdue_51 hl (k := 1) rfl rfl (by decide) rfl (fun ls hl => ?_)
          refine lv_iinc (v := (nI (k + 1))) (lv' := [(4, .int (nI (k + 1))), (3, .int ((x - cti (bV t) σ cn k) + (-1))), (0, .ref mo), (1, .int t), (2, .int x)]) hx hb dM_overdue_54 hl (k := 1) rfl (nI_1 k) (by decide) rfl (fun ls hl => ?_)
          refine lv_goto (tgt := 5) hx hb dM_overdue_57 (by decide) ?_
          exact ih hlt (by rw [od_s hlt hbv (fun q => c40 ((i32_sub0 _ _).mpr q)), ← cti_y hlt hbv] at hI; exact hI) ls (lv_sub hl [0, 1, 2, 3, 4] (by rw [cti_y hlt hbv, ← i32_dec]; rfl))
        · refine lv_aload_n hx hb dM_overdue_43 rfl (lv_at hl 2 rfl) ?_
          refine lv_iconst (v := 0) hx hb dM_overdue_44 (by decide) ?_
          refine gg_put (ty := .int) (v := .int 0) hx hb hts in_M t_M t_M_ok n_M hown hK hB hR.top rfl 0 (by decide) k_342 rfl rfl (by decide +kernel) rfl rfl (Nat.le_of_ble_eq_true rfl) dM_overdue_45 (fun H locs hB => ?_)
          have hR := hR.setTop 0 lt lw
          have hB : gB (dC, dI) gcl z (gU M mo (oM 0 lt hs lw cn ad)) s.heap H locs := hB
          generalize gU M mo (oM 0 lt hs lw cn ad) = M at hB hR
          refine lv_iload hx hb dM_overdue_48 (lv_at hl 0 rfl) ?_
          exact gg_iret hx hb hr hlocks hKA hB dM_overdue_50 (by decide) (by decide) (xP_s (show xOver cn σ t x = some (nI k) from by unfold xOver; rw [← hI, od_y hlt hbv ((i32_sub0 _ _).mp c40)]; rfl) hR)
      · refine lv_goto (tgt := 54) hx hb dM_overdue_36 (by decide) ?_
        have hbv : ¬ bV t (σ k) = true := by simp [bV, hq, c22, i32_le c33]
        refine lv_iinc (v := (nI (k + 1))) (lv' := [(4, .int (nI (k + 1))), (3, .int (x - cti (bV t) σ cn k)), (0, .ref mo), (1, .int t), (2, .int x)]) hx hb dM_overdue_54 hl (k := 0) rfl (nI_1 k) (by decide) rfl (fun ls hl => ?_)
        refine lv_goto (tgt := 5) hx hb dM_overdue_57 (by decide) ?_
        exact ih hlt (by rw [od_n hlt hbv] at hI; rw [cti_n hbv]; exact hI) ls (lv_sub hl [0, 1, 2, 3, 4] (by rw [cti_n hbv]; rfl))
