/-! The class: about, told, overdue. Written by p16.py -/
theorem i32_nle2 {a b : Int32} (h : ¬ a ≤ b) : ¬ a ≤ b := h
set_option maxHeartbeats 4000000 in
set_option maxRecDepth 100000 in
theorem c_I_about (l : Launch) (dC : Nat → ClassId) (dI : Nat → Nat → Nat) (dA : Nat → ClassId) (z : Nat) (M0 M : gM) (o ar : Nat) (ra sa : Nat → Nat) (la : Nat → Nat → Nat) (hs lt lw : Int32) (cn : Nat) (σ : Nat → Rq) (hR : cW dA M0 M o ar ra sa la hs lt lw cn σ) (r w : Int32) (v9 : Int32) (hv : xAbout cn σ r w = some v9) : gMi l dC dI dA z y_I_about b_I_about 4 (Option.some FieldType.int) ⟨7, 0, 0, 100⟩ [.ref o, .int r, .int w] M (fun y M1 => M1 = M ∧ y = v9) 0 0 := by
  refine gOfW (by decide) (Nat.le_of_ble_eq_true rfl) ?_
  intro p e s m below meth c ls hF hr hlocks hnm hKA hB hl
  obtain ⟨hx, hb, hml, hown, hts⟩ := id hF
  have hK := hKA.1
  have hl : lv_has ls 4 [(0, .ref o), (1, .int r), (2, .int w)] := hl
  refine lv_aload_n hx hb dI_about_0 rfl (lv_at hl 0 rfl) ?_
  refine lv_iload_n hx hb dI_about_1 rfl (lv_at hl 1 rfl) ?_
  refine gEndq (gRunV hF (c_I_find l dC dI dA z M0 M o ar ra sa la hs lt lw cn σ hR r) ln_I_46 hKA hB hR.top rfl rfl hl.1 rfl (Nat.le_of_ble_eq_true rfl) dI_about_2 ⟨rfl, rfl, (Nat.le_of_ble_eq_true rfl), (Nat.le_of_ble_eq_true rfl)⟩ ⟨(Nat.le_of_ble_eq_true rfl), (Nat.le_of_ble_eq_true rfl)⟩) hB (fun y M1 H locs hp hB => ?_)
  obtain ⟨e1, e2⟩ := hp
  rw [e1] at hB
  cases hi : ix cn r with
  | none =>
    have e2 : y = none := by rw [e2, hi]; rfl
    subst e2
    refine lv_astore_nN (lv' := [(3, .null), (0, .ref o), (1, .int r), (2, .int w)]) hx hb dI_about_5 rfl hl (by decide) rfl (fun ls hl => ?_)
    refine lv_aload_nN hx hb dI_about_6 rfl (lv_at hl 0 rfl) ?_
    refine lv_ifnonnullN hx hb dI_about_7 ?_
    exact absurd hv (by simp [xAbout, hi])
  | some k =>
    have e2 : y = some (ra k) := by rw [e2, hi]; rfl
    subst e2
    obtain ⟨hk, hr9⟩ := ix_some (by have := hR.c100; omega) hi
    obtain ⟨⟨h, it, n, st, ho, db, du, fa, en, lf⟩, hq⟩ : ∃ q, σ k = q := ⟨_, rfl⟩
    have hq0 := hq
    refine lv_astore_n (lv' := [(3, .ref (ra k)), (0, .ref o), (1, .int r), (2, .int w)]) hx hb dI_about_5 rfl hl (by decide) rfl (fun ls hl => ?_)
    refine lv_aload_n hx hb dI_about_6 rfl (lv_at hl 0 rfl) ?_
    refine lv_ifnonnull (tgt := 20) hx hb dI_about_7 (by decide) ?_
    refine lv_iload_n hx hb dI_about_20 rfl (lv_at hl 3 rfl) ?_
    by_cases s21_0 : w = 0
    · refine lv_tableIn (tgt := 72) hx hb dI_about_21 (by rw [s21_0]; decide) (by rw [s21_0]; decide) (by rw [s21_0]; rfl) (by decide) ?_
      refine lv_aload_n hx hb dI_about_72 rfl (lv_at hl 0 rfl) ?_
      refine gg_get (v := .int st) hx hb hts in_Q hown hK hB (hR.q hk hq) rfl 4 (by decide) k_67 rfl rfl dI_about_73 ?_
      exact gg_iret hx hb hr hlocks hKA hB dI_about_76 (by decide) (by decide) ⟨rfl, by simp [xAbout, hi, s21_0, hq0] at hv; exact hv⟩
    by_cases s21_1 : w = 1
    · refine lv_tableIn (tgt := 77) hx hb dI_about_21 (by rw [s21_1]; decide) (by rw [s21_1]; decide) (by rw [s21_1]; rfl) (by decide) ?_
      refine lv_aload_n hx hb dI_about_77 rfl (lv_at hl 0 rfl) ?_
      refine gg_get (v := va_rf (Option.map (la k) ho)) hx hb hts in_Q hown hK hB (hR.q hk hq) rfl 5 (by decide) k_69 rfl rfl dI_about_78 ?_
      rcases ho with _ | i
      · skip
        refine lv_ifnonnullN hx hb dI_about_81 ?_
        refine lv_iconst (v := (-1)) hx hb dI_about_84 (by decide) ?_
        refine lv_goto (tgt := 95) hx hb dI_about_85 (by decide) ?_
        exact gg_iret hx hb hr hlocks hKA hB dI_about_95 (by decide) (by decide) ⟨rfl, by simp [xAbout, hi, s21_1, hq0] at hv; exact hv⟩
      · have hi9 : i < n := hR.ho hk hq i rfl
        refine lv_ifnonnull (tgt := 88) hx hb dI_about_81 (by decide) ?_
        refine lv_aload_n hx hb dI_about_88 rfl (lv_at hl 0 rfl) ?_
        refine gg_get (v := .ref (la k i)) hx hb hts in_Q hown hK hB (hR.q hk hq) rfl 5 (by decide) k_69 rfl rfl dI_about_89 ?_
        refine gg_get (v := .int ((lf i).1)) hx hb hts in_L hown hK hB (hR.l hk hq hi9 rfl) rfl 0 (by decide) k_119 rfl rfl dI_about_92 ?_
        exact gg_iret hx hb hr hlocks hKA hB dI_about_95 (by decide) (by decide) ⟨rfl, by simp [xAbout, hi, s21_1, hq0] at hv; exact hv⟩
    by_cases s21_2 : w = 2
    · refine lv_tableIn (tgt := 96) hx hb dI_about_21 (by rw [s21_2]; decide) (by rw [s21_2]; decide) (by rw [s21_2]; rfl) (by decide) ?_
      refine lv_aload_n hx hb dI_about_96 rfl (lv_at hl 0 rfl) ?_
      refine gg_get (v := .int (nI n)) hx hb hts in_Q hown hK hB (hR.q hk hq) rfl 3 (by decide) k_65 rfl rfl dI_about_97 ?_
      exact gg_iret hx hb hr hlocks hKA hB dI_about_100 (by decide) (by decide) ⟨rfl, by simp [xAbout, hi, s21_2, hq0] at hv; exact hv⟩
    by_cases s21_3 : w = 3
    · refine lv_tableIn (tgt := 101) hx hb dI_about_21 (by rw [s21_3]; decide) (by rw [s21_3]; decide) (by rw [s21_3]; rfl) (by decide) ?_
      refine lv_aload_n hx hb dI_about_101 rfl (lv_at hl 0 rfl) ?_
      refine gg_get (v := .int it) hx hb hts in_Q hown hK hB (hR.q hk hq) rfl 1 (by decide) k_62 rfl rfl dI_about_102 ?_
      exact gg_iret hx hb hr hlocks hKA hB dI_about_105 (by decide) (by decide) ⟨rfl, by simp [xAbout, hi, s21_3, hq0] at hv; exact hv⟩
    by_cases s21_4 : w = 4
    · refine lv_tableIn (tgt := 106) hx hb dI_about_21 (by rw [s21_4]; decide) (by rw [s21_4]; decide) (by rw [s21_4]; rfl) (by decide) ?_
      refine lv_aload_n hx hb dI_about_106 rfl (lv_at hl 0 rfl) ?_
      refine gg_get (v := .int h) hx hb hts in_Q hown hK hB (hR.q hk hq) rfl 0 (by decide) k_60 rfl rfl dI_about_107 ?_
      exact gg_iret hx hb hr hlocks hKA hB dI_about_110 (by decide) (by decide) ⟨rfl, by simp [xAbout, hi, s21_4, hq0] at hv; exact hv⟩
    by_cases s21_5 : w = 5
    · refine lv_tableIn (tgt := 111) hx hb dI_about_21 (by rw [s21_5]; decide) (by rw [s21_5]; decide) (by rw [s21_5]; rfl) (by decide) ?_
      refine lv_aload_n hx hb dI_about_111 rfl (lv_at hl 0 rfl) ?_
      refine gg_get (v := .int db) hx hb hts in_Q hown hK hB (hR.q hk hq) rfl 6 (by decide) k_71 rfl rfl dI_about_112 ?_
      exact gg_iret hx hb hr hlocks hKA hB dI_about_115 (by decide) (by decide) ⟨rfl, by simp [xAbout, hi, s21_5, hq0] at hv; exact hv⟩
    by_cases s21_6 : w = 6
    · refine lv_tableIn (tgt := 116) hx hb dI_about_21 (by rw [s21_6]; decide) (by rw [s21_6]; decide) (by rw [s21_6]; rfl) (by decide) ?_
      refine lv_aload_n hx hb dI_about_116 rfl (lv_at hl 0 rfl) ?_
      refine gg_get (v := .int du) hx hb hts in_Q hown hK hB (hR.q hk hq) rfl 7 (by decide) k_73 rfl rfl dI_about_117 ?_
      exact gg_iret hx hb hr hlocks hKA hB dI_about_120 (by decide) (by decide) ⟨rfl, by simp [xAbout, hi, s21_6, hq0] at hv; exact hv⟩
    by_cases s21_7 : w = 7
    · refine lv_tableIn (tgt := 121) hx hb dI_about_21 (by rw [s21_7]; decide) (by rw [s21_7]; decide) (by rw [s21_7]; rfl) (by decide) ?_
      refine lv_aload_n hx hb dI_about_121 rfl (lv_at hl 0 rfl) ?_
      refine gg_get (v := .int fa) hx hb hts in_Q hown hK hB (hR.q hk hq) rfl 8 (by decide) k_75 rfl rfl dI_about_122 ?_
      exact gg_iret hx hb hr hlocks hKA hB dI_about_125 (by decide) (by decide) ⟨rfl, by simp [xAbout, hi, s21_7, hq0] at hv; exact hv⟩
    by_cases s21_8 : w = 8
    · refine lv_tableIn (tgt := 126) hx hb dI_about_21 (by rw [s21_8]; decide) (by rw [s21_8]; decide) (by rw [s21_8]; rfl) (by decide) ?_
      refine lv_aload_n hx hb dI_about_126 rfl (lv_at hl 0 rfl) ?_
      refine gg_get (v := .int en) hx hb hts in_Q hown hK hB (hR.q hk hq) rfl 9 (by decide) k_77 rfl rfl dI_about_127 ?_
      exact gg_iret hx hb hr hlocks hKA hB dI_about_130 (by decide) (by decide) ⟨rfl, by simp [xAbout, hi, s21_8, hq0] at hv; exact hv⟩
    · refine lv_tableOut (tgt := 131) hx hb dI_about_21 (by have := lv_neT s21_0 (a := 0) (by decide); have := lv_neT s21_1 (a := 1) (by decide); have := lv_neT s21_2 (a := 2) (by decide); have := lv_neT s21_3 (a := 3) (by decide); have := lv_neT s21_4 (a := 4) (by decide); have := lv_neT s21_5 (a := 5) (by decide); have := lv_neT s21_6 (a := 6) (by decide); have := lv_neT s21_7 (a := 7) (by decide); have := lv_neT s21_8 (a := 8) (by decide); omega) (by decide) ?_
      exact absurd hv (by simp [xAbout, hi, s21_0, s21_1, s21_2, s21_3, s21_4, s21_5, s21_6, s21_7, s21_8, hq0])
set_option maxHeartbeats 4000000 in
set_option maxRecDepth 100000 in
theorem t_I_about (l : Launch) (dC : Nat → ClassId) (dI : Nat → Nat → Nat) (dA : Nat → ClassId) (z : Nat) (M0 M : gM) (o ar : Nat) (ra sa : Nat → Nat) (la : Nat → Nat → Nat) (hs lt lw : Int32) (cn : Nat) (σ : Nat → Rq) (hR : cW dA M0 M o ar ra sa la hs lt lw cn σ) (r w : Int32) (hl9 : l.stackTraces = false) (hv : xAbout cn σ r w = none) : gMt l y_I_about b_I_about 4 (Option.some FieldType.int) ⟨7, 1, 6, 100⟩ [.ref o, .int r, .int w] (dC, dI) gcl (gty dA) z M 1 6 := by
  refine gOfT (by decide) (Nat.le_of_ble_eq_true rfl) ?_
  intro p e s m below meth c ls hF hlocks hno hKA hY hB hl
  obtain ⟨hx, hb, hml, hown, hts⟩ := id hF
  have hK := hKA.1
  have hl : lv_has ls 4 [(0, .ref o), (1, .int r), (2, .int w)] := hl
  refine lv_aload_n hx hb dI_about_0 rfl (lv_at hl 0 rfl) ?_
  refine lv_iload_n hx hb dI_about_1 rfl (lv_at hl 1 rfl) ?_
  refine gEndq (gRunV hF (c_I_find l dC dI dA z M0 M o ar ra sa la hs lt lw cn σ hR r) ln_I_46 hKA hB hR.top rfl rfl hl.1 rfl (Nat.le_of_ble_eq_true rfl) dI_about_2 ⟨rfl, rfl, (Nat.le_of_ble_eq_true rfl), (Nat.le_of_ble_eq_true rfl)⟩ ⟨(Nat.le_of_ble_eq_true rfl), (Nat.le_of_ble_eq_true rfl)⟩) hB (fun y M1 H locs hp hB => ?_)
  obtain ⟨e1, e2⟩ := hp
  rw [e1] at hB
  cases hi : ix cn r with
  | none =>
    have e2 : y = none := by rw [e2, hi]; rfl
    subst e2
    refine lv_astore_nN (lv' := [(3, .null), (0, .ref o), (1, .int r), (2, .int w)]) hx hb dI_about_5 rfl hl (by decide) rfl (fun ls hl => ?_)
    refine lv_aload_nN hx hb dI_about_6 rfl (lv_at hl 0 rfl) ?_
    refine lv_ifnonnullN hx hb dI_about_7 ?_
    exact gx_throw hl9 hF hlocks hno hKA hY hB hl.1 (k := 126) (tx := "no such request") (by decide) dI_about_10 dI_about_13 dI_about_14 dI_about_16 dI_about_19 ⟨(Nat.le_of_ble_eq_true rfl), (Nat.le_of_ble_eq_true rfl)⟩ ⟨(Nat.le_of_ble_eq_true rfl), (Nat.le_of_ble_eq_true rfl)⟩ ⟨(Nat.le_of_ble_eq_true rfl), (Nat.le_of_ble_eq_true rfl)⟩
  | some k =>
    have e2 : y = some (ra k) := by rw [e2, hi]; rfl
    subst e2
    obtain ⟨hk, hr9⟩ := ix_some (by have := hR.c100; omega) hi
    obtain ⟨⟨h, it, n, st, ho, db, du, fa, en, lf⟩, hq⟩ : ∃ q, σ k = q := ⟨_, rfl⟩
    have hq0 := hq
    refine lv_astore_n (lv' := [(3, .ref (ra k)), (0, .ref o), (1, .int r), (2, .int w)]) hx hb dI_about_5 rfl hl (by decide) rfl (fun ls hl => ?_)
    refine lv_aload_n hx hb dI_about_6 rfl (lv_at hl 0 rfl) ?_
    refine lv_ifnonnull (tgt := 20) hx hb dI_about_7 (by decide) ?_
    refine lv_iload_n hx hb dI_about_20 rfl (lv_at hl 3 rfl) ?_
    by_cases s21_0 : w = 0
    · refine lv_tableIn (tgt := 72) hx hb dI_about_21 (by rw [s21_0]; decide) (by rw [s21_0]; decide) (by rw [s21_0]; rfl) (by decide) ?_
      refine lv_aload_n hx hb dI_about_72 rfl (lv_at hl 0 rfl) ?_
      refine gg_get (v := .int st) hx hb hts in_Q hown hK hB (hR.q hk hq) rfl 4 (by decide) k_67 rfl rfl dI_about_73 ?_
      exact absurd hv (by simp [xAbout, hi, s21_0, hq0])
    by_cases s21_1 : w = 1
    · refine lv_tableIn (tgt := 77) hx hb dI_about_21 (by rw [s21_1]; decide) (by rw [s21_1]; decide) (by rw [s21_1]; rfl) (by decide) ?_
      refine lv_aload_n hx hb dI_about_77 rfl (lv_at hl 0 rfl) ?_
      refine gg_get (v := va_rf (Option.map (la k) ho)) hx hb hts in_Q hown hK hB (hR.q hk hq) rfl 5 (by decide) k_69 rfl rfl dI_about_78 ?_
      rcases ho with _ | i
      · skip
        refine lv_ifnonnullN hx hb dI_about_81 ?_
        refine lv_iconst (v := (-1)) hx hb dI_about_84 (by decide) ?_
        refine lv_goto (tgt := 95) hx hb dI_about_85 (by decide) ?_
        exact absurd hv (by simp [xAbout, hi, s21_1, hq0])
      · have hi9 : i < n := hR.ho hk hq i rfl
        refine lv_ifnonnull (tgt := 88) hx hb dI_about_81 (by decide) ?_
        refine lv_aload_n hx hb dI_about_88 rfl (lv_at hl 0 rfl) ?_
        refine gg_get (v := .ref (la k i)) hx hb hts in_Q hown hK hB (hR.q hk hq) rfl 5 (by decide) k_69 rfl rfl dI_about_89 ?_
        refine gg_get (v := .int ((lf i).1)) hx hb hts in_L hown hK hB (hR.l hk hq hi9 rfl) rfl 0 (by decide) k_119 rfl rfl dI_about_92 ?_
        exact absurd hv (by simp [xAbout, hi, s21_1, hq0])
    by_cases s21_2 : w = 2
    · refine lv_tableIn (tgt := 96) hx hb dI_about_21 (by rw [s21_2]; decide) (by rw [s21_2]; decide) (by rw [s21_2]; rfl) (by decide) ?_
      refine lv_aload_n hx hb dI_about_96 rfl (lv_at hl 0 rfl) ?_
      refine gg_get (v := .int (nI n)) hx hb hts in_Q hown hK hB (hR.q hk hq) rfl 3 (by decide) k_65 rfl rfl dI_about_97 ?_
      exact absurd hv (by simp [xAbout, hi, s21_2, hq0])
    by_cases s21_3 : w = 3
    · refine lv_tableIn (tgt := 101) hx hb dI_about_21 (by rw [s21_3]; decide) (by rw [s21_3]; decide) (by rw [s21_3]; rfl) (by decide) ?_
      refine lv_aload_n hx hb dI_about_101 rfl (lv_at hl 0 rfl) ?_
      refine gg_get (v := .int it) hx hb hts in_Q hown hK hB (hR.q hk hq) rfl 1 (by decide) k_62 rfl rfl dI_about_102 ?_
      exact absurd hv (by simp [xAbout, hi, s21_3, hq0])
    by_cases s21_4 : w = 4
    · refine lv_tableIn (tgt := 106) hx hb dI_about_21 (by rw [s21_4]; decide) (by rw [s21_4]; decide) (by rw [s21_4]; rfl) (by decide) ?_
      refine lv_aload_n hx hb dI_about_106 rfl (lv_at hl 0 rfl) ?_
      refine gg_get (v := .int h) hx hb hts in_Q hown hK hB (hR.q hk hq) rfl 0 (by decide) k_60 rfl rfl dI_about_107 ?_
      exact absurd hv (by simp [xAbout, hi, s21_4, hq0])
    by_cases s21_5 : w = 5
    · refine lv_tableIn (tgt := 111) hx hb dI_about_21 (by rw [s21_5]; decide) (by rw [s21_5]; decide) (by rw [s21_5]; rfl) (by decide) ?_
      refine lv_aload_n hx hb dI_about_111 rfl (lv_at hl 0 rfl) ?_
      refine gg_get (v := .int db) hx hb hts in_Q hown hK hB (hR.q hk hq) rfl 6 (by decide) k_71 rfl rfl dI_about_112 ?_
      exact absurd hv (by simp [xAbout, hi, s21_5, hq0])
    by_cases s21_6 : w = 6
    · refine lv_tableIn (tgt := 116) hx hb dI_about_21 (by rw [s21_6]; decide) (by rw [s21_6]; decide) (by rw [s21_6]; rfl) (by decide) ?_
      refine lv_aload_n hx hb dI_about_116 rfl (lv_at hl 0 rfl) ?_
      refine gg_get (v := .int du) hx hb hts in_Q hown hK hB (hR.q hk hq) rfl 7 (by decide) k_73 rfl rfl dI_about_117 ?_
      exact absurd hv (by simp [xAbout, hi, s21_6, hq0])
    by_cases s21_7 : w = 7
    · refine lv_tableIn (tgt := 121) hx hb dI_about_21 (by rw [s21_7]; decide) (by rw [s21_7]; decide) (by rw [s21_7]; rfl) (by decide) ?_
      refine lv_aload_n hx hb dI_about_121 rfl (lv_at hl 0 rfl) ?_
      refine gg_get (v := .int fa) hx hb hts in_Q hown hK hB (hR.q hk hq) rfl 8 (by decide) k_75 rfl rfl dI_about_122 ?_
      exact absurd hv (by simp [xAbout, hi, s21_7, hq0])
    by_cases s21_8 : w = 8
    · refine lv_tableIn (tgt := 126) hx hb dI_about_21 (by rw [s21_8]; decide) (by rw [s21_8]; decide) (by rw [s21_8]; rfl) (by decide) ?_
      refine lv_aload_n hx hb dI_about_126 rfl (lv_at hl 0 rfl) ?_
      refine gg_get (v := .int en) hx hb hts in_Q hown hK hB (hR.q hk hq) rfl 9 (by decide) k_77 rfl rfl dI_about_127 ?_
      exact absurd hv (by simp [xAbout, hi, s21_8, hq0])
    · refine lv_tableOut (tgt := 131) hx hb dI_about_21 (by have := lv_neT s21_0 (a := 0) (by decide); have := lv_neT s21_1 (a := 1) (by decide); have := lv_neT s21_2 (a := 2) (by decide); have := lv_neT s21_3 (a := 3) (by decide); have := lv_neT s21_4 (a := 4) (by decide); have := lv_neT s21_5 (a := 5) (by decide); have := lv_neT s21_6 (a := 6) (by decide); have := lv_neT s21_7 (a := 7) (by decide); have := lv_neT s21_8 (a := 8) (by decide); omega) (by decide) ?_
      exact gx_throw hl9 hF hlocks hno hKA hY hB hl.1 (k := 140) (tx := "no such what") (by decide) dI_about_131 dI_about_134 dI_about_135 dI_about_137 dI_about_140 ⟨(Nat.le_of_ble_eq_true rfl), (Nat.le_of_ble_eq_true rfl)⟩ ⟨(Nat.le_of_ble_eq_true rfl), (Nat.le_of_ble_eq_true rfl)⟩ ⟨(Nat.le_of_ble_eq_true rfl), (Nat.le_of_ble_eq_true rfl)⟩
set_option maxHeartbeats 4000000 in
set_option maxRecDepth 100000 in
theorem c_I_told (l : Launch) (dC : Nat → ClassId) (dI : Nat → Nat → Nat) (dA : Nat → ClassId) (z : Nat) (M0 M : gM) (o ar : Nat) (ra sa : Nat → Nat) (la : Nat → Nat → Nat) (hs lt lw : Int32) (cn : Nat) (σ : Nat → Rq) (hR : cW dA M0 M o ar ra sa la hs lt lw cn σ) (r x w : Int32) (v9 : Int32) (hv : xTold cn σ r x w = some v9) : gMi l dC dI dA z y_I_told b_I_told 6 (Option.some FieldType.int) ⟨7, 0, 0, 100⟩ [.ref o, .int r, .int x, .int w] M (fun y M1 => M1 = M ∧ y = v9) 0 0 := by
  refine gOfW (by decide) (Nat.le_of_ble_eq_true rfl) ?_
  intro p e s m below meth c ls hF hr hlocks hnm hKA hB hl
  obtain ⟨hx, hb, hml, hown, hts⟩ := id hF
  have hK := hKA.1
  have hl : lv_has ls 6 [(0, .ref o), (1, .int r), (2, .int x), (3, .int w)] := hl
  refine lv_aload_n hx hb dI_told_0 rfl (lv_at hl 0 rfl) ?_
  refine lv_iload_n hx hb dI_told_1 rfl (lv_at hl 1 rfl) ?_
  refine gEndq (gRunV hF (c_I_find l dC dI dA z M0 M o ar ra sa la hs lt lw cn σ hR r) ln_I_46 hKA hB hR.top rfl rfl hl.1 rfl (Nat.le_of_ble_eq_true rfl) dI_told_2 ⟨rfl, rfl, (Nat.le_of_ble_eq_true rfl), (Nat.le_of_ble_eq_true rfl)⟩ ⟨(Nat.le_of_ble_eq_true rfl), (Nat.le_of_ble_eq_true rfl)⟩) hB (fun y M1 H locs hp hB => ?_)
  obtain ⟨e1, e2⟩ := hp
  rw [e1] at hB
  cases hi : ix cn r with
  | none =>
    have e2 : y = none := by rw [e2, hi]; rfl
    subst e2
    refine lv_astoreN (lv' := [(4, .null), (0, .ref o), (1, .int r), (2, .int x), (3, .int w)]) hx hb dI_told_5 hl (by decide) rfl (fun ls hl => ?_)
    refine lv_aloadN hx hb dI_told_7 (lv_at hl 0 rfl) ?_
    refine lv_ifnonnullN hx hb dI_told_9 ?_
    refine lv_null hx hb dI_told_12 ?_
    refine lv_goto (tgt := 22) hx hb dI_told_13 (by decide) ?_
    refine lv_astoreN (lv' := [(5, .null), (4, .null), (0, .ref o), (1, .int r), (2, .int x), (3, .int w)]) hx hb dI_told_22 hl (by decide) rfl (fun ls hl => ?_)
    refine lv_aloadN hx hb dI_told_24 (lv_at hl 0 rfl) ?_
    refine lv_ifnonnullN hx hb dI_told_26 ?_
    exact absurd hv (by simp [xTold, hi])
  | some k =>
    have e2 : y = some (ra k) := by rw [e2, hi]; rfl
    subst e2
    obtain ⟨hk, hr9⟩ := ix_some (by have := hR.c100; omega) hi
    obtain ⟨⟨h, it, n, st, ho, db, du, fa, en, lf⟩, hq⟩ : ∃ q, σ k = q := ⟨_, rfl⟩
    have hq0 := hq
    refine lv_astore (lv' := [(4, .ref (ra k)), (0, .ref o), (1, .int r), (2, .int x), (3, .int w)]) hx hb dI_told_5 hl (by decide) rfl (fun ls hl => ?_)
    refine lv_aload hx hb dI_told_7 (lv_at hl 0 rfl) ?_
    refine lv_ifnonnull (tgt := 16) hx hb dI_told_9 (by decide) ?_
    refine lv_aload hx hb dI_told_16 (lv_at hl 0 rfl) ?_
    refine lv_iload_n hx hb dI_told_18 rfl (lv_at hl 3 rfl) ?_
    obtain ⟨f9, hs9, hf9⟩ := hR.s hk hq
    refine gEndq (gRunV hF (c_Q_lenderAt l dC dI dA z M (ra k) (sa k) (la k) h it n st ho db du fa en lf (hR.q hk hq) f9 hs9 hf9 (fun j hj => hR.l hk hq hj rfl) (hR.n8 hk hq) x) ln_I_142 hKA hB (hR.q hk hq) rfl rfl hl.1 rfl (Nat.le_of_ble_eq_true rfl) dI_told_19 ⟨rfl, rfl, (Nat.le_of_ble_eq_true rfl), (Nat.le_of_ble_eq_true rfl)⟩ ⟨(Nat.le_of_ble_eq_true rfl), (Nat.le_of_ble_eq_true rfl)⟩) hB (fun y2 M1 H locs hp hB => ?_)
    obtain ⟨e3, e4⟩ := hp
    rw [e3] at hB
    cases hj : ix n x with
    | none =>
      have e4 : y2 = none := by rw [e4, hj]; rfl
      subst e4
      refine lv_astoreN (lv' := [(5, .null), (4, .ref (ra k)), (0, .ref o), (1, .int r), (2, .int x), (3, .int w)]) hx hb dI_told_22 hl (by decide) rfl (fun ls hl => ?_)
      refine lv_aloadN hx hb dI_told_24 (lv_at hl 0 rfl) ?_
      refine lv_ifnonnullN hx hb dI_told_26 ?_
      exact absurd hv (by simp [xTold, hi, hj, hq0])
    | some j =>
      have e4 : y2 = some (la k j) := by rw [e4, hj]; rfl
      subst e4
      obtain ⟨hj9, -⟩ := ix_some (by have := hR.n8 hk hq; have h8 : n ≤ 8 := this; omega) hj
      refine lv_astore (lv' := [(5, .ref (la k j)), (4, .ref (ra k)), (0, .ref o), (1, .int r), (2, .int x), (3, .int w)]) hx hb dI_told_22 hl (by decide) rfl (fun ls hl => ?_)
      refine lv_aload hx hb dI_told_24 (lv_at hl 0 rfl) ?_
      refine lv_ifnonnull (tgt := 39) hx hb dI_told_26 (by decide) ?_
      refine lv_iload_n hx hb dI_told_39 rfl (lv_at hl 5 rfl) ?_
      by_cases s40_0 : w = 0
      · refine lv_tableIn (tgt := 68) hx hb dI_told_40 (by rw [s40_0]; decide) (by rw [s40_0]; decide) (by rw [s40_0]; rfl) (by decide) ?_
        refine lv_aload hx hb dI_told_68 (lv_at hl 0 rfl) ?_
        refine gg_get (v := .int ((lf j).1)) hx hb hts in_L hown hK hB (hR.l hk hq hj9 rfl) rfl 0 (by decide) k_119 rfl rfl dI_told_70 ?_
        exact gg_iret hx hb hr hlocks hKA hB dI_told_73 (by decide) (by decide) ⟨rfl, by simp [xTold, hi, hj, s40_0, hq0] at hv; exact hv⟩
      by_cases s40_1 : w = 1
      · refine lv_tableIn (tgt := 74) hx hb dI_told_40 (by rw [s40_1]; decide) (by rw [s40_1]; decide) (by rw [s40_1]; rfl) (by decide) ?_
        refine lv_aload hx hb dI_told_74 (lv_at hl 0 rfl) ?_
        refine gg_get (v := .int ((lf j).2.1)) hx hb hts in_L hown hK hB (hR.l hk hq hj9 rfl) rfl 1 (by decide) k_122 rfl rfl dI_told_76 ?_
        exact gg_iret hx hb hr hlocks hKA hB dI_told_79 (by decide) (by decide) ⟨rfl, by simp [xTold, hi, hj, s40_1, hq0] at hv; exact hv⟩
      by_cases s40_2 : w = 2
      · refine lv_tableIn (tgt := 80) hx hb dI_told_40 (by rw [s40_2]; decide) (by rw [s40_2]; decide) (by rw [s40_2]; rfl) (by decide) ?_
        refine lv_aload hx hb dI_told_80 (lv_at hl 0 rfl) ?_
        refine gg_get (v := .int ((lf j).2.2.1)) hx hb hts in_L hown hK hB (hR.l hk hq hj9 rfl) rfl 2 (by decide) k_124 rfl rfl dI_told_82 ?_
        exact gg_iret hx hb hr hlocks hKA hB dI_told_85 (by decide) (by decide) ⟨rfl, by simp [xTold, hi, hj, s40_2, hq0] at hv; exact hv⟩
      · refine lv_tableOut (tgt := 86) hx hb dI_told_40 (by have := lv_neT s40_0 (a := 0) (by decide); have := lv_neT s40_1 (a := 1) (by decide); have := lv_neT s40_2 (a := 2) (by decide); omega) (by decide) ?_
        exact absurd hv (by simp [xTold, hi, hj, s40_0, s40_1, s40_2, hq0])
set_option maxHeartbeats 4000000 in
set_option maxRecDepth 100000 in
theorem t_I_told (l : Launch) (dC : Nat → ClassId) (dI : Nat → Nat → Nat) (dA : Nat → ClassId) (z : Nat) (M0 M : gM) (o ar : Nat) (ra sa : Nat → Nat) (la : Nat → Nat → Nat) (hs lt lw : Int32) (cn : Nat) (σ : Nat → Rq) (hR : cW dA M0 M o ar ra sa la hs lt lw cn σ) (r x w : Int32) (hl9 : l.stackTraces = false) (hv : xTold cn σ r x w = none) : gMt l y_I_told b_I_told 6 (Option.some FieldType.int) ⟨7, 1, 6, 100⟩ [.ref o, .int r, .int x, .int w] (dC, dI) gcl (gty dA) z M 1 6 := by
  refine gOfT (by decide) (Nat.le_of_ble_eq_true rfl) ?_
  intro p e s m below meth c ls hF hlocks hno hKA hY hB hl
  obtain ⟨hx, hb, hml, hown, hts⟩ := id hF
  have hK := hKA.1
  have hl : lv_has ls 6 [(0, .ref o), (1, .int r), (2, .int x), (3, .int w)] := hl
  refine lv_aload_n hx hb dI_told_0 rfl (lv_at hl 0 rfl) ?_
  refine lv_iload_n hx hb dI_told_1 rfl (lv_at hl 1 rfl) ?_
  refine gEndq (gRunV hF (c_I_find l dC dI dA z M0 M o ar ra sa la hs lt lw cn σ hR r) ln_I_46 hKA hB hR.top rfl rfl hl.1 rfl (Nat.le_of_ble_eq_true rfl) dI_told_2 ⟨rfl, rfl, (Nat.le_of_ble_eq_true rfl), (Nat.le_of_ble_eq_true rfl)⟩ ⟨(Nat.le_of_ble_eq_true rfl), (Nat.le_of_ble_eq_true rfl)⟩) hB (fun y M1 H locs hp hB => ?_)
  obtain ⟨e1, e2⟩ := hp
  rw [e1] at hB
  cases hi : ix cn r with
  | none =>
    have e2 : y = none := by rw [e2, hi]; rfl
    subst e2
    refine lv_astoreN (lv' := [(4, .null), (0, .ref o), (1, .int r), (2, .int x), (3, .int w)]) hx hb dI_told_5 hl (by decide) rfl (fun ls hl => ?_)
    refine lv_aloadN hx hb dI_told_7 (lv_at hl 0 rfl) ?_
    refine lv_ifnonnullN hx hb dI_told_9 ?_
    refine lv_null hx hb dI_told_12 ?_
    refine lv_goto (tgt := 22) hx hb dI_told_13 (by decide) ?_
    refine lv_astoreN (lv' := [(5, .null), (4, .null), (0, .ref o), (1, .int r), (2, .int x), (3, .int w)]) hx hb dI_told_22 hl (by decide) rfl (fun ls hl => ?_)
    refine lv_aloadN hx hb dI_told_24 (lv_at hl 0 rfl) ?_
    refine lv_ifnonnullN hx hb dI_told_26 ?_
    exact gx_throw hl9 hF hlocks hno hKA hY hB hl.1 (k := 146) (tx := "no such lender") (by decide) dI_told_29 dI_told_32 dI_told_33 dI_told_35 dI_told_38 ⟨(Nat.le_of_ble_eq_true rfl), (Nat.le_of_ble_eq_true rfl)⟩ ⟨(Nat.le_of_ble_eq_true rfl), (Nat.le_of_ble_eq_true rfl)⟩ ⟨(Nat.le_of_ble_eq_true rfl), (Nat.le_of_ble_eq_true rfl)⟩
  | some k =>
    have e2 : y = some (ra k) := by rw [e2, hi]; rfl
    subst e2
    obtain ⟨hk, hr9⟩ := ix_some (by have := hR.c100; omega) hi
    obtain ⟨⟨h, it, n, st, ho, db, du, fa, en, lf⟩, hq⟩ : ∃ q, σ k = q := ⟨_, rfl⟩
    have hq0 := hq
    refine lv_astore (lv' := [(4, .ref (ra k)), (0, .ref o), (1, .int r), (2, .int x), (3, .int w)]) hx hb dI_told_5 hl (by decide) rfl (fun ls hl => ?_)
    refine lv_aload hx hb dI_told_7 (lv_at hl 0 rfl) ?_
    refine lv_ifnonnull (tgt := 16) hx hb dI_told_9 (by decide) ?_
    refine lv_aload hx hb dI_told_16 (lv_at hl 0 rfl) ?_
    refine lv_iload_n hx hb dI_told_18 rfl (lv_at hl 3 rfl) ?_
    obtain ⟨f9, hs9, hf9⟩ := hR.s hk hq
    refine gEndq (gRunV hF (c_Q_lenderAt l dC dI dA z M (ra k) (sa k) (la k) h it n st ho db du fa en lf (hR.q hk hq) f9 hs9 hf9 (fun j hj => hR.l hk hq hj rfl) (hR.n8 hk hq) x) ln_I_142 hKA hB (hR.q hk hq) rfl rfl hl.1 rfl (Nat.le_of_ble_eq_true rfl) dI_told_19 ⟨rfl, rfl, (Nat.le_of_ble_eq_true rfl), (Nat.le_of_ble_eq_true rfl)⟩ ⟨(Nat.le_of_ble_eq_true rfl), (Nat.le_of_ble_eq_true rfl)⟩) hB (fun y2 M1 H locs hp hB => ?_)
    obtain ⟨e3, e4⟩ := hp
    rw [e3] at hB
    cases hj : ix n x with
    | none =>
      have e4 : y2 = none := by rw [e4, hj]; rfl
      subst e4
      refine lv_astoreN (lv' := [(5, .null), (4, .ref (ra k)), (0, .ref o), (1, .int r), (2, .int x), (3, .int w)]) hx hb dI_told_22 hl (by decide) rfl (fun ls hl => ?_)
      refine lv_aloadN hx hb dI_told_24 (lv_at hl 0 rfl) ?_
      refine lv_ifnonnullN hx hb dI_told_26 ?_
      exact gx_throw hl9 hF hlocks hno hKA hY hB hl.1 (k := 146) (tx := "no such lender") (by decide) dI_told_29 dI_told_32 dI_told_33 dI_told_35 dI_told_38 ⟨(Nat.le_of_ble_eq_true rfl), (Nat.le_of_ble_eq_true rfl)⟩ ⟨(Nat.le_of_ble_eq_true rfl), (Nat.le_of_ble_eq_true rfl)⟩ ⟨(Nat.le_of_ble_eq_true rfl), (Nat.le_of_ble_eq_true rfl)⟩
    | some j =>
      have e4 : y2 = some (la k j) := by rw [e4, hj]; rfl
      subst e4
      obtain ⟨hj9, -⟩ := ix_some (by have := hR.n8 hk hq; have h8 : n ≤ 8 := this; omega) hj
      refine lv_astore (lv' := [(5, .ref (la k j)), (4, .ref (ra k)), (0, .ref o), (1, .int r), (2, .int x), (3, .int w)]) hx hb dI_told_22 hl (by decide) rfl (fun ls hl => ?_)
      refine lv_aload hx hb dI_told_24 (lv_at hl 0 rfl) ?_
      refine lv_ifnonnull (tgt := 39) hx hb dI_told_26 (by decide) ?_
      refine lv_iload_n hx hb dI_told_39 rfl (lv_at hl 5 rfl) ?_
      by_cases s40_0 : w = 0
      · refine lv_tableIn (tgt := 68) hx hb dI_told_40 (by rw [s40_0]; decide) (by rw [s40_0]; decide) (by rw [s40_0]; rfl) (by decide) ?_
        refine lv_aload hx hb dI_told_68 (lv_at hl 0 rfl) ?_
        refine gg_get (v := .int ((lf j).1)) hx hb hts in_L hown hK hB (hR.l hk hq hj9 rfl) rfl 0 (by decide) k_119 rfl rfl dI_told_70 ?_
        exact absurd hv (by simp [xTold, hi, hj, s40_0, hq0])
      by_cases s40_1 : w = 1
      · refine lv_tableIn (tgt := 74) hx hb dI_told_40 (by rw [s40_1]; decide) (by rw [s40_1]; decide) (by rw [s40_1]; rfl) (by decide) ?_
        refine lv_aload hx hb dI_told_74 (lv_at hl 0 rfl) ?_
        refine gg_get (v := .int ((lf j).2.1)) hx hb hts in_L hown hK hB (hR.l hk hq hj9 rfl) rfl 1 (by decide) k_122 rfl rfl dI_told_76 ?_
        exact absurd hv (by simp [xTold, hi, hj, s40_1, hq0])
      by_cases s40_2 : w = 2
      · refine lv_tableIn (tgt := 80) hx hb dI_told_40 (by rw [s40_2]; decide) (by rw [s40_2]; decide) (by rw [s40_2]; rfl) (by decide) ?_
        refine lv_aload hx hb dI_told_80 (lv_at hl 0 rfl) ?_
        refine gg_get (v := .int ((lf j).2.2.1)) hx hb hts in_L hown hK hB (hR.l hk hq hj9 rfl) rfl 2 (by decide) k_124 rfl rfl dI_told_82 ?_
        exact absurd hv (by simp [xTold, hi, hj, s40_2, hq0])
      · refine lv_tableOut (tgt := 86) hx hb dI_told_40 (by have := lv_neT s40_0 (a := 0) (by decide); have := lv_neT s40_1 (a := 1) (by decide); have := lv_neT s40_2 (a := 2) (by decide); omega) (by decide) ?_
        exact gx_throw hl9 hF hlocks hno hKA hY hB hl.1 (k := 140) (tx := "no such what") (by decide) dI_told_86 dI_told_89 dI_told_90 dI_told_92 dI_told_95 ⟨(Nat.le_of_ble_eq_true rfl), (Nat.le_of_ble_eq_true rfl)⟩ ⟨(Nat.le_of_ble_eq_true rfl), (Nat.le_of_ble_eq_true rfl)⟩ ⟨(Nat.le_of_ble_eq_true rfl), (Nat.le_of_ble_eq_true rfl)⟩
set_option maxHeartbeats 4000000 in
set_option maxRecDepth 100000 in
theorem c_I_overdue (l : Launch) (dC : Nat → ClassId) (dI : Nat → Nat → Nat) (dA : Nat → ClassId) (z : Nat) (M0 M : gM) (o ar : Nat) (ra sa : Nat → Nat) (la : Nat → Nat → Nat) (hs lt lw : Int32) (cn : Nat) (σ : Nat → Rq) (hR : cW dA M0 M o ar ra sa la hs lt lw cn σ) (t x : Int32) (v9 : Int32) (hv : xOver cn σ t x = some v9) : gMi l dC dI dA z y_I_overdue b_I_overdue 6 (Option.some FieldType.int) ⟨7, 0, 0, 100⟩ [.ref o, .int t, .int x] M (fun y M1 => M1 = M ∧ y = v9) 0 0 := by
  refine gOfW (by decide) (Nat.le_of_ble_eq_true rfl) ?_
  intro p e s m below meth c ls hF hr hlocks hnm hKA hB hl
  obtain ⟨hx, hb, hml, hown, hts⟩ := id hF
  have hK := hKA.1
  have hl : lv_has ls 6 [(0, .ref o), (1, .int t), (2, .int x)] := hl
  refine lv_iconst (v := 0) hx hb dI_overdue_0 (by decide) ?_
  refine lv_istore_n (lv' := [(3, .int 0), (0, .ref o), (1, .int t), (2, .int x)]) hx hb dI_overdue_1 rfl hl (by decide) rfl (fun ls hl => ?_)
  refine lv_iconst (v := 0) hx hb dI_overdue_2 (by decide) ?_
  refine lv_istore (lv' := [(4, .int 0), (3, .int 0), (0, .ref o), (1, .int t), (2, .int x)]) hx hb dI_overdue_3 hl (by decide) rfl (fun ls hl => ?_)
  unfold xOver at hv
  obtain ⟨j9, hj9, hv9⟩ := Option.map_eq_some_iff.mp hv
  subst hv9
  refine gLoopH (S := Int32) (G := fun H locs ls => W p l e _ s m _ below meth c H locs 0 0 _ (F0 m 5 ls [])) (nL := 6) (fun i b => [(4, .int (nI i)), (3, .int b), (2, .int x), (1, .int t), (0, .ref o)]) (fun i b H locs => gB (dC, dI) gcl z M s.heap H locs ∧ od t x σ (cn - i) i b = some j9) cn ?_ 0 0 s.heap [] (by omega) ⟨hB, by rw [Nat.sub_zero]; exact hj9⟩ ls (lv_sub hl [0, 1, 4, 3, 2] rfl)
  intro i b H locs hi9 hI ih ls hl
  obtain ⟨hB, hO⟩ := hI
  have hl : lv_has ls 6 [(4, .int (nI i)), (3, .int b), (2, .int x), (1, .int t), (0, .ref o)] := hl
  refine lv_iload hx hb dI_overdue_5 (lv_at hl 0 rfl) ?_
  refine lv_aload_n hx hb dI_overdue_7 rfl (lv_at hl 4 rfl) ?_
  refine gg_get (v := .int (nI cn)) hx hb hts in_I hown hK hB hR.top rfl 2 (by decide) k_29 rfl rfl dI_overdue_8 ?_
  refine lv_icmp_ge (tgt := 62) hx hb dI_overdue_11 (by decide) (fun c11 => ?_) (fun c11 => ?_)
  · have hge : cn ≤ i := by
      rw [nI_top (N := cn) (by have := hR.c100; omega) c11 hi9]; exact Nat.le_refl _
    exact absurd (hO.symm.trans (od_e hge)) (by intro q; cases q)
  · have hlt : i < cn := Nat.lt_of_not_le (fun q => c11 (nI_le q (by have := hR.c100; omega)))
    refine lv_aload_n hx hb dI_overdue_14 rfl (lv_at hl 4 rfl) ?_
    refine lv_iload hx hb dI_overdue_15 (lv_at hl 0 rfl) ?_
    refine gEndq (gRunV hF (c_I_find l dC dI dA z M0 M o ar ra sa la hs lt lw cn σ hR (nI i)) ln_I_46 hKA hB hR.top rfl rfl hl.1 rfl (Nat.le_of_ble_eq_true rfl) dI_overdue_17 ⟨rfl, rfl, (Nat.le_of_ble_eq_true rfl), (Nat.le_of_ble_eq_true rfl)⟩ ⟨(Nat.le_of_ble_eq_true rfl), (Nat.le_of_ble_eq_true rfl)⟩) hB (fun y M1 H locs hp hB => ?_)
    obtain ⟨e1, e2⟩ := hp
    rw [e1] at hB
    have e2 : y = some (ra i) := by rw [e2, ix_nI (by have := hR.c100; omega) hlt]; rfl
    subst e2
    obtain ⟨⟨h, it, n, st, ho, db, du, fa, en, lf⟩, hq⟩ : ∃ q, σ i = q := ⟨_, rfl⟩
    refine lv_astore (lv' := [(5, .ref (ra i)), (4, .int (nI i)), (3, .int b), (2, .int x), (1, .int t), (0, .ref o)]) hx hb dI_overdue_20 hl (by decide) rfl (fun ls hl => ?_)
    refine lv_aload hx hb dI_overdue_22 (lv_at hl 0 rfl) ?_
    refine lv_ifnull hx hb dI_overdue_24 ?_
    refine lv_aload hx hb dI_overdue_27 (lv_at hl 0 rfl) ?_
    refine gg_get (v := .int st) hx hb hts in_Q hown hK hB (hR.q hlt hq) rfl 4 (by decide) k_67 rfl rfl dI_overdue_29 ?_
    refine lv_iconst (v := 4) hx hb dI_overdue_32 (by decide) ?_
    refine lv_icmp_ne (tgt := 56) hx hb dI_overdue_33 (by decide) (fun c33 => ?_) (fun c33 => ?_)
    · have hV : ¬ bV t (σ i) = true := by rw [hq]; simp [bV, c33]
      refine lv_iinc (v := ((nI i) + 1)) (lv' := [(4, .int ((nI i) + 1)), (5, .ref (ra i)), (3, .int b), (2, .int x), (1, .int t), (0, .ref o)]) hx hb dI_overdue_56 hl (k := 1) rfl rfl (by decide) rfl (fun ls hl => ?_)
      refine lv_goto (tgt := 5) hx hb dI_overdue_59 (by decide) ?_
      refine ih b H locs (by omega) ⟨hB, by rw [← hO]; exact (od_n hlt hV).symm⟩ ls (lv_sub hl [0, 2, 3, 4, 5] (by rw [← nI_1]; rfl))
    · refine lv_iload_n hx hb dI_overdue_36 rfl (lv_at hl 4 rfl) ?_
      refine lv_aload hx hb dI_overdue_37 (lv_at hl 0 rfl) ?_
      refine gg_get (v := .int du) hx hb hts in_Q hown hK hB (hR.q hlt hq) rfl 7 (by decide) k_73 rfl rfl dI_overdue_39 ?_
      refine lv_icmp_le (tgt := 56) hx hb dI_overdue_42 (by decide) (fun c42 => ?_) (fun c42 => ?_)
      · have hV : ¬ bV t (σ i) = true := by rw [hq]; simp [bV, c33, c42]
        refine lv_iinc (v := ((nI i) + 1)) (lv' := [(4, .int ((nI i) + 1)), (5, .ref (ra i)), (3, .int b), (2, .int x), (1, .int t), (0, .ref o)]) hx hb dI_overdue_56 hl (k := 1) rfl rfl (by decide) rfl (fun ls hl => ?_)
        refine lv_goto (tgt := 5) hx hb dI_overdue_59 (by decide) ?_
        refine ih b H locs (by omega) ⟨hB, by rw [← hO]; exact (od_n hlt hV).symm⟩ ls (lv_sub hl [0, 2, 3, 4, 5] (by rw [← nI_1]; rfl))
      · refine lv_iload_n hx hb dI_overdue_45 rfl (lv_at hl 2 rfl) ?_
        refine lv_iload_n hx hb dI_overdue_46 rfl (lv_at hl 3 rfl) ?_
        refine lv_icmp_ne (tgt := 53) hx hb dI_overdue_47 (by decide) (fun c47 => ?_) (fun c47 => ?_)
        · refine lv_iinc (v := (b + 1)) (lv' := [(3, .int (b + 1)), (5, .ref (ra i)), (4, .int (nI i)), (2, .int x), (1, .int t), (0, .ref o)]) hx hb dI_overdue_53 hl (k := 2) rfl rfl (by decide) rfl (fun ls hl => ?_)
          have hV : bV t (σ i) = true := by rw [hq]; simp [bV, c33, i32_nle2 c42]
          refine lv_iinc (v := ((nI i) + 1)) (lv' := [(4, .int ((nI i) + 1)), (3, .int (b + 1)), (5, .ref (ra i)), (2, .int x), (1, .int t), (0, .ref o)]) hx hb dI_overdue_56 hl (k := 2) rfl rfl (by decide) rfl (fun ls hl => ?_)
          refine lv_goto (tgt := 5) hx hb dI_overdue_59 (by decide) ?_
          refine ih (b + 1) H locs (by omega) ⟨hB, by rw [← hO]; exact (od_s hlt hV c47).symm⟩ ls (lv_sub hl [0, 1, 3, 4, 5] (by rw [← nI_1]; rfl))
        · refine lv_iload hx hb dI_overdue_50 (lv_at hl 1 rfl) ?_
          have hV : bV t (σ i) = true := by rw [hq]; simp [bV, c33, i32_nle2 c42]
          have hE := hO.symm.trans (od_y hlt hV c47)
          cases hE
          exact gg_iret hx hb hr hlocks hKA hB dI_overdue_52 (by decide) (by decide) ⟨rfl, rfl⟩
set_option maxHeartbeats 4000000 in
set_option maxRecDepth 100000 in
theorem t_I_overdue (l : Launch) (dC : Nat → ClassId) (dI : Nat → Nat → Nat) (dA : Nat → ClassId) (z : Nat) (M0 M : gM) (o ar : Nat) (ra sa : Nat → Nat) (la : Nat → Nat → Nat) (hs lt lw : Int32) (cn : Nat) (σ : Nat → Rq) (hR : cW dA M0 M o ar ra sa la hs lt lw cn σ) (t x : Int32) (hl9 : l.stackTraces = false) (hv : xOver cn σ t x = none) : gMt l y_I_overdue b_I_overdue 6 (Option.some FieldType.int) ⟨7, 1, 6, 100⟩ [.ref o, .int t, .int x] (dC, dI) gcl (gty dA) z M 1 6 := by
  refine gOfT (by decide) (Nat.le_of_ble_eq_true rfl) ?_
  intro p e s m below meth c ls hF hlocks hno hKA hY hB hl
  obtain ⟨hx, hb, hml, hown, hts⟩ := id hF
  have hK := hKA.1
  have hl : lv_has ls 6 [(0, .ref o), (1, .int t), (2, .int x)] := hl
  refine lv_iconst (v := 0) hx hb dI_overdue_0 (by decide) ?_
  refine lv_istore_n (lv' := [(3, .int 0), (0, .ref o), (1, .int t), (2, .int x)]) hx hb dI_overdue_1 rfl hl (by decide) rfl (fun ls hl => ?_)
  refine lv_iconst (v := 0) hx hb dI_overdue_2 (by decide) ?_
  refine lv_istore (lv' := [(4, .int 0), (3, .int 0), (0, .ref o), (1, .int t), (2, .int x)]) hx hb dI_overdue_3 hl (by decide) rfl (fun ls hl => ?_)
  unfold xOver at hv
  have hj9 := Option.map_eq_none_iff.mp hv
  refine gLoopH (S := Int32) (G := fun H locs ls => W p l e _ s m _ below meth c H locs 0 0 _ (F0 m 5 ls [])) (nL := 6) (fun i b => [(4, .int (nI i)), (3, .int b), (2, .int x), (1, .int t), (0, .ref o)]) (fun i b H locs => gB (dC, dI) gcl z M s.heap H locs ∧ od t x σ (cn - i) i b = none) cn ?_ 0 0 s.heap [] (by omega) ⟨hB, by rw [Nat.sub_zero]; exact hj9⟩ ls (lv_sub hl [0, 1, 4, 3, 2] rfl)
  intro i b H locs hi9 hI ih ls hl
  obtain ⟨hB, hO⟩ := hI
  have hl : lv_has ls 6 [(4, .int (nI i)), (3, .int b), (2, .int x), (1, .int t), (0, .ref o)] := hl
  refine lv_iload hx hb dI_overdue_5 (lv_at hl 0 rfl) ?_
  refine lv_aload_n hx hb dI_overdue_7 rfl (lv_at hl 4 rfl) ?_
  refine gg_get (v := .int (nI cn)) hx hb hts in_I hown hK hB hR.top rfl 2 (by decide) k_29 rfl rfl dI_overdue_8 ?_
  refine lv_icmp_ge (tgt := 62) hx hb dI_overdue_11 (by decide) (fun c11 => ?_) (fun c11 => ?_)
  · have hge : cn ≤ i := by
      rw [nI_top (N := cn) (by have := hR.c100; omega) c11 hi9]; exact Nat.le_refl _
    exact gx_throw hl9 hF hlocks hno hKA hY hB hl.1 (k := 158) (tx := "no such overdue request") (by decide) dI_overdue_62 dI_overdue_65 dI_overdue_66 dI_overdue_68 dI_overdue_71 ⟨(Nat.le_of_ble_eq_true rfl), (Nat.le_of_ble_eq_true rfl)⟩ ⟨(Nat.le_of_ble_eq_true rfl), (Nat.le_of_ble_eq_true rfl)⟩ ⟨(Nat.le_of_ble_eq_true rfl), (Nat.le_of_ble_eq_true rfl)⟩
  · have hlt : i < cn := Nat.lt_of_not_le (fun q => c11 (nI_le q (by have := hR.c100; omega)))
    refine lv_aload_n hx hb dI_overdue_14 rfl (lv_at hl 4 rfl) ?_
    refine lv_iload hx hb dI_overdue_15 (lv_at hl 0 rfl) ?_
    refine gEndq (gRunV hF (c_I_find l dC dI dA z M0 M o ar ra sa la hs lt lw cn σ hR (nI i)) ln_I_46 hKA hB hR.top rfl rfl hl.1 rfl (Nat.le_of_ble_eq_true rfl) dI_overdue_17 ⟨rfl, rfl, (Nat.le_of_ble_eq_true rfl), (Nat.le_of_ble_eq_true rfl)⟩ ⟨(Nat.le_of_ble_eq_true rfl), (Nat.le_of_ble_eq_true rfl)⟩) hB (fun y M1 H locs hp hB => ?_)
    obtain ⟨e1, e2⟩ := hp
    rw [e1] at hB
    have e2 : y = some (ra i) := by rw [e2, ix_nI (by have := hR.c100; omega) hlt]; rfl
    subst e2
    obtain ⟨⟨h, it, n, st, ho, db, du, fa, en, lf⟩, hq⟩ : ∃ q, σ i = q := ⟨_, rfl⟩
    refine lv_astore (lv' := [(5, .ref (ra i)), (4, .int (nI i)), (3, .int b), (2, .int x), (1, .int t), (0, .ref o)]) hx hb dI_overdue_20 hl (by decide) rfl (fun ls hl => ?_)
    refine lv_aload hx hb dI_overdue_22 (lv_at hl 0 rfl) ?_
    refine lv_ifnull hx hb dI_overdue_24 ?_
    refine lv_aload hx hb dI_overdue_27 (lv_at hl 0 rfl) ?_
    refine gg_get (v := .int st) hx hb hts in_Q hown hK hB (hR.q hlt hq) rfl 4 (by decide) k_67 rfl rfl dI_overdue_29 ?_
    refine lv_iconst (v := 4) hx hb dI_overdue_32 (by decide) ?_
    refine lv_icmp_ne (tgt := 56) hx hb dI_overdue_33 (by decide) (fun c33 => ?_) (fun c33 => ?_)
    · have hV : ¬ bV t (σ i) = true := by rw [hq]; simp [bV, c33]
      refine lv_iinc (v := ((nI i) + 1)) (lv' := [(4, .int ((nI i) + 1)), (5, .ref (ra i)), (3, .int b), (2, .int x), (1, .int t), (0, .ref o)]) hx hb dI_overdue_56 hl (k := 1) rfl rfl (by decide) rfl (fun ls hl => ?_)
      refine lv_goto (tgt := 5) hx hb dI_overdue_59 (by decide) ?_
      refine ih b H locs (by omega) ⟨hB, by rw [← hO]; exact (od_n hlt hV).symm⟩ ls (lv_sub hl [0, 2, 3, 4, 5] (by rw [← nI_1]; rfl))
    · refine lv_iload_n hx hb dI_overdue_36 rfl (lv_at hl 4 rfl) ?_
      refine lv_aload hx hb dI_overdue_37 (lv_at hl 0 rfl) ?_
      refine gg_get (v := .int du) hx hb hts in_Q hown hK hB (hR.q hlt hq) rfl 7 (by decide) k_73 rfl rfl dI_overdue_39 ?_
      refine lv_icmp_le (tgt := 56) hx hb dI_overdue_42 (by decide) (fun c42 => ?_) (fun c42 => ?_)
      · have hV : ¬ bV t (σ i) = true := by rw [hq]; simp [bV, c33, c42]
        refine lv_iinc (v := ((nI i) + 1)) (lv' := [(4, .int ((nI i) + 1)), (5, .ref (ra i)), (3, .int b), (2, .int x), (1, .int t), (0, .ref o)]) hx hb dI_overdue_56 hl (k := 1) rfl rfl (by decide) rfl (fun ls hl => ?_)
        refine lv_goto (tgt := 5) hx hb dI_overdue_59 (by decide) ?_
        refine ih b H locs (by omega) ⟨hB, by rw [← hO]; exact (od_n hlt hV).symm⟩ ls (lv_sub hl [0, 2, 3, 4, 5] (by rw [← nI_1]; rfl))
      · refine lv_iload_n hx hb dI_overdue_45 rfl (lv_at hl 2 rfl) ?_
        refine lv_iload_n hx hb dI_overdue_46 rfl (lv_at hl 3 rfl) ?_
        refine lv_icmp_ne (tgt := 53) hx hb dI_overdue_47 (by decide) (fun c47 => ?_) (fun c47 => ?_)
        · refine lv_iinc (v := (b + 1)) (lv' := [(3, .int (b + 1)), (5, .ref (ra i)), (4, .int (nI i)), (2, .int x), (1, .int t), (0, .ref o)]) hx hb dI_overdue_53 hl (k := 2) rfl rfl (by decide) rfl (fun ls hl => ?_)
          have hV : bV t (σ i) = true := by rw [hq]; simp [bV, c33, i32_nle2 c42]
          refine lv_iinc (v := ((nI i) + 1)) (lv' := [(4, .int ((nI i) + 1)), (3, .int (b + 1)), (5, .ref (ra i)), (2, .int x), (1, .int t), (0, .ref o)]) hx hb dI_overdue_56 hl (k := 2) rfl rfl (by decide) rfl (fun ls hl => ?_)
          refine lv_goto (tgt := 5) hx hb dI_overdue_59 (by decide) ?_
          refine ih (b + 1) H locs (by omega) ⟨hB, by rw [← hO]; exact (od_s hlt hV c47).symm⟩ ls (lv_sub hl [0, 1, 3, 4, 5] (by rw [← nI_1]; rfl))
        · refine lv_iload hx hb dI_overdue_50 (lv_at hl 1 rfl) ?_
          have hV : bV t (σ i) = true := by rw [hq]; simp [bV, c33, i32_nle2 c42]
          have hE := hO.symm.trans (od_y hlt hV c47)
          cases hE
