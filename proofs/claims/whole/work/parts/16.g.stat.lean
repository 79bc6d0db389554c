/-! The law's statics with a handler. Written by p17.py -/
set_option maxHeartbeats 4000000 in
set_option maxRecDepth 100000 in
theorem c_W_about (l : Launch) (dC : Nat → ClassId) (dI : Nat → Nat → Nat) (dA : Nat → ClassId) (z : Nat) (hl9 : l.stackTraces = false) (M0 M : gM) (o ar : Nat) (ra sa : Nat → Nat) (la : Nat → Nat → Nat) (hs lt lw : Int32) (cn : Nat) (σ : Nat → Rq) (hR : cW dA M0 M o ar ra sa la hs lt lw cn σ) (r w : Int32) (ou : Nat) (fo : Nat → Int64) (ho9 : M ou = some (.inl (dA 3, 1, .inr (.inl fo)))) : Met l y_W_about (Cond.codeWith y_W_about b_W_about 5 (Option.some FieldType.int) [(0, 10, 13, 13)] :: gw) ⟨8, 1, 6, 123⟩ (gPt [.ref o, .int r, .int w, .ref ou] (dC, dI) gcl (gty dA) z M) (va_Qi (fun y M1 => match xAbout cn σ r w with | some v => y = 0 ∧ M1 = gU M ou (.inl (dA 3, 1, .inr (.inl (vp_updL fo 0 v.toInt64)))) | none => y = 1 ∧ M1 = M) (gS (dC, dI) gcl (gty dA) z) (fun q => z ≤ q)) 1 6 (fun q => z ≤ q) := by
  refine gOfH (by decide) (Nat.le_of_ble_eq_true rfl) ?_
  intro p e s m below meth c ls x9 htab hx9 hF hr hlocks hKA hY hB hl
  obtain ⟨hx, hb, hml, hown, hts⟩ := id hF
  obtain ⟨x1, x2, x3, x4⟩ := hx9
  have hK := hKA.1
  have hl : lv_has ls 5 [(0, .ref o), (1, .int r), (2, .int w), (3, .ref ou)] := hl
  refine lv_aload_n hx hb dW_about_0 rfl (lv_at hl 3 rfl) ?_
  refine lv_iconst (v := 0) hx hb dW_about_1 (by decide) ?_
  refine lv_aload_n hx hb dW_about_2 rfl (lv_at hl 0 rfl) ?_
  refine lv_iload_n hx hb dW_about_3 rfl (lv_at hl 1 rfl) ?_
  refine lv_iload_n hx hb dW_about_4 rfl (lv_at hl 2 rfl) ?_
  cases hv : xAbout cn σ r w with
  | some v =>
    refine gEndi (gRunV hF (c_I_about l dC dI dA z M0 M o ar ra sa la hs lt lw cn σ hR r w v hv) ln_W_7 hKA hB hR.top rfl rfl hl.1 rfl (Nat.le_of_ble_eq_true rfl) dW_about_5 ⟨rfl, rfl, (Nat.le_of_ble_eq_true rfl), (Nat.le_of_ble_eq_true rfl)⟩ ⟨(Nat.le_of_ble_eq_true rfl), (Nat.le_of_ble_eq_true rfl)⟩) hB (fun y M1 H locs hp hB => ?_)
    obtain ⟨e1, e2⟩ := hp
    rw [e1] at hB
    subst e2
    refine lv_i2l hx hb dW_about_8 rfl ?_
    refine gg_last hx hb hK hB 3 ho9 rfl (vp_in_iff.mpr ⟨by decide, by decide⟩) dW_about_9 (fun H locs hB => ?_)
    refine lv_goto (tgt := 17) hx hb dW_about_10 (by decide) ?_
    refine lv_iconst (v := 0) hx hb dW_about_17 (by decide) ?_
    exact gg_iret hx hb hr hlocks hKA hB dW_about_18 (by decide) (by decide) ⟨rfl, rfl⟩
  | none =>
    refine gx_catch hF (t_I_about l dC dI dA z M0 M o ar ra sa la hs lt lw cn σ hR r w hl9 hv) ln_W_7 hKA hY hB hR.top rfl htab (by simp [covers, x1, x2]) (by rw [x4]; decide) (by rw [x4]; exact k_243) rfl hl.1 rfl (Nat.le_of_ble_eq_true rfl) dW_about_5 ⟨rfl, rfl, (Nat.le_of_ble_eq_true rfl), (Nat.le_of_ble_eq_true rfl)⟩ ⟨(Nat.le_of_ble_eq_true rfl), (Nat.le_of_ble_eq_true rfl)⟩ (fun q H locs hB => ?_)
    rw [x3]
    refine lv_astore (lv' := [(4, .ref q), (0, .ref o), (1, .int r), (2, .int w), (3, .ref ou)]) hx hb dW_about_13 hl (by decide) rfl (fun ls hl => ?_)
    refine lv_iconst (v := 1) hx hb dW_about_15 (by decide) ?_
    exact gg_iret hx hb hr hlocks hKA hB dW_about_16 (by decide) (by decide) ⟨rfl, rfl⟩
set_option maxHeartbeats 4000000 in
set_option maxRecDepth 100000 in
theorem c_W_told (l : Launch) (dC : Nat → ClassId) (dI : Nat → Nat → Nat) (dA : Nat → ClassId) (z : Nat) (hl9 : l.stackTraces = false) (M0 M : gM) (o ar : Nat) (ra sa : Nat → Nat) (la : Nat → Nat → Nat) (hs lt lw : Int32) (cn : Nat) (σ : Nat → Rq) (hR : cW dA M0 M o ar ra sa la hs lt lw cn σ) (r x w : Int32) (ou : Nat) (fo : Nat → Int64) (ho9 : M ou = some (.inl (dA 3, 1, .inr (.inl fo)))) : Met l y_W_told (Cond.codeWith y_W_told b_W_told 6 (Option.some FieldType.int) [(0, 12, 15, 13)] :: gw) ⟨8, 1, 6, 125⟩ (gPt [.ref o, .int r, .int x, .int w, .ref ou] (dC, dI) gcl (gty dA) z M) (va_Qi (fun y M1 => match xTold cn σ r x w with | some v => y = 0 ∧ M1 = gU M ou (.inl (dA 3, 1, .inr (.inl (vp_updL fo 0 v.toInt64)))) | none => y = 1 ∧ M1 = M) (gS (dC, dI) gcl (gty dA) z) (fun q => z ≤ q)) 1 6 (fun q => z ≤ q) := by
  refine gOfH (by decide) (Nat.le_of_ble_eq_true rfl) ?_
  intro p e s m below meth c ls x9 htab hx9 hF hr hlocks hKA hY hB hl
  obtain ⟨hx, hb, hml, hown, hts⟩ := id hF
  obtain ⟨x1, x2, x3, x4⟩ := hx9
  have hK := hKA.1
  have hl : lv_has ls 6 [(0, .ref o), (1, .int r), (2, .int x), (3, .int w), (4, .ref ou)] := hl
  refine lv_aload hx hb dW_told_0 (lv_at hl 4 rfl) ?_
  refine lv_iconst (v := 0) hx hb dW_told_2 (by decide) ?_
  refine lv_aload_n hx hb dW_told_3 rfl (lv_at hl 0 rfl) ?_
  refine lv_iload_n hx hb dW_told_4 rfl (lv_at hl 1 rfl) ?_
  refine lv_iload_n hx hb dW_told_5 rfl (lv_at hl 2 rfl) ?_
  refine lv_iload_n hx hb dW_told_6 rfl (lv_at hl 3 rfl) ?_
  cases hv : xTold cn σ r x w with
  | some v =>
    refine gEndi (gRunV hF (c_I_told l dC dI dA z M0 M o ar ra sa la hs lt lw cn σ hR r x w v hv) ln_W_15 hKA hB hR.top rfl rfl hl.1 rfl (Nat.le_of_ble_eq_true rfl) dW_told_7 ⟨rfl, rfl, (Nat.le_of_ble_eq_true rfl), (Nat.le_of_ble_eq_true rfl)⟩ ⟨(Nat.le_of_ble_eq_true rfl), (Nat.le_of_ble_eq_true rfl)⟩) hB (fun y M1 H locs hp hB => ?_)
    obtain ⟨e1, e2⟩ := hp
    rw [e1] at hB
    subst e2
    refine lv_i2l hx hb dW_told_10 rfl ?_
    refine gg_last hx hb hK hB 3 ho9 rfl (vp_in_iff.mpr ⟨by decide, by decide⟩) dW_told_11 (fun H locs hB => ?_)
    refine lv_goto (tgt := 19) hx hb dW_told_12 (by decide) ?_
    refine lv_iconst (v := 0) hx hb dW_told_19 (by decide) ?_
    exact gg_iret hx hb hr hlocks hKA hB dW_told_20 (by decide) (by decide) ⟨rfl, rfl⟩
  | none =>
    refine gx_catch hF (t_I_told l dC dI dA z M0 M o ar ra sa la hs lt lw cn σ hR r x w hl9 hv) ln_W_15 hKA hY hB hR.top rfl htab (by simp [covers, x1, x2]) (by rw [x4]; decide) (by rw [x4]; exact k_243) rfl hl.1 rfl (Nat.le_of_ble_eq_true rfl) dW_told_7 ⟨rfl, rfl, (Nat.le_of_ble_eq_true rfl), (Nat.le_of_ble_eq_true rfl)⟩ ⟨(Nat.le_of_ble_eq_true rfl), (Nat.le_of_ble_eq_true rfl)⟩ (fun q H locs hB => ?_)
    rw [x3]
    refine lv_astore (lv' := [(5, .ref q), (0, .ref o), (1, .int r), (2, .int x), (3, .int w), (4, .ref ou)]) hx hb dW_told_15 hl (by decide) rfl (fun ls hl => ?_)
    refine lv_iconst (v := 1) hx hb dW_told_17 (by decide) ?_
    exact gg_iret hx hb hr hlocks hKA hB dW_told_18 (by decide) (by decide) ⟨rfl, rfl⟩
set_option maxHeartbeats 4000000 in
set_option maxRecDepth 100000 in
theorem c_W_overdue (l : Launch) (dC : Nat → ClassId) (dI : Nat → Nat → Nat) (dA : Nat → ClassId) (z : Nat) (hl9 : l.stackTraces = false) (M0 M : gM) (o ar : Nat) (ra sa : Nat → Nat) (la : Nat → Nat → Nat) (hs lt lw : Int32) (cn : Nat) (σ : Nat → Rq) (hR : cW dA M0 M o ar ra sa la hs lt lw cn σ) (t x : Int32) (ou : Nat) (fo : Nat → Int64) (ho9 : M ou = some (.inl (dA 3, 1, .inr (.inl fo)))) : Met l y_W_overdue (Cond.codeWith y_W_overdue b_W_overdue 5 (Option.some FieldType.int) [(0, 10, 13, 13)] :: gw) ⟨8, 1, 6, 125⟩ (gPt [.ref o, .int t, .int x, .ref ou] (dC, dI) gcl (gty dA) z M) (va_Qi (fun y M1 => match xOver cn σ t x with | some v => y = 0 ∧ M1 = gU M ou (.inl (dA 3, 1, .inr (.inl (vp_updL fo 0 v.toInt64)))) | none => y = 1 ∧ M1 = M) (gS (dC, dI) gcl (gty dA) z) (fun q => z ≤ q)) 1 6 (fun q => z ≤ q) := by
  refine gOfH (by decide) (Nat.le_of_ble_eq_true rfl) ?_
  intro p e s m below meth c ls x9 htab hx9 hF hr hlocks hKA hY hB hl
  obtain ⟨hx, hb, hml, hown, hts⟩ := id hF
  obtain ⟨x1, x2, x3, x4⟩ := hx9
  have hK := hKA.1
  have hl : lv_has ls 5 [(0, .ref o), (1, .int t), (2, .int x), (3, .ref ou)] := hl
  refine lv_aload_n hx hb dW_overdue_0 rfl (lv_at hl 3 rfl) ?_
  refine lv_iconst (v := 0) hx hb dW_overdue_1 (by decide) ?_
  refine lv_aload_n hx hb dW_overdue_2 rfl (lv_at hl 0 rfl) ?_
  refine lv_iload_n hx hb dW_overdue_3 rfl (lv_at hl 1 rfl) ?_
  refine lv_iload_n hx hb dW_overdue_4 rfl (lv_at hl 2 rfl) ?_
  cases hv : xOver cn σ t x with
  | some v =>
    refine gEndi (gRunV hF (c_I_overdue l dC dI dA z M0 M o ar ra sa la hs lt lw cn σ hR t x v hv) ln_W_19 hKA hB hR.top rfl rfl hl.1 rfl (Nat.le_of_ble_eq_true rfl) dW_overdue_5 ⟨rfl, rfl, (Nat.le_of_ble_eq_true rfl), (Nat.le_of_ble_eq_true rfl)⟩ ⟨(Nat.le_of_ble_eq_true rfl), (Nat.le_of_ble_eq_true rfl)⟩) hB (fun y M1 H locs hp hB => ?_)
    obtain ⟨e1, e2⟩ := hp
    rw [e1] at hB
    subst e2
    refine lv_i2l hx hb dW_overdue_8 rfl ?_
    refine gg_last hx hb hK hB 3 ho9 rfl (vp_in_iff.mpr ⟨by decide, by decide⟩) dW_overdue_9 (fun H locs hB => ?_)
    refine lv_goto (tgt := 17) hx hb dW_overdue_10 (by decide) ?_
    refine lv_iconst (v := 0) hx hb dW_overdue_17 (by decide) ?_
    exact gg_iret hx hb hr hlocks hKA hB dW_overdue_18 (by decide) (by decide) ⟨rfl, rfl⟩
  | none =>
    refine gx_catch hF (t_I_overdue l dC dI dA z M0 M o ar ra sa la hs lt lw cn σ hR t x hl9 hv) ln_W_19 hKA hY hB hR.top rfl htab (by simp [covers, x1, x2]) (by rw [x4]; decide) (by rw [x4]; exact k_243) rfl hl.1 rfl (Nat.le_of_ble_eq_true rfl) dW_overdue_5 ⟨rfl, rfl, (Nat.le_of_ble_eq_true rfl), (Nat.le_of_ble_eq_true rfl)⟩ ⟨(Nat.le_of_ble_eq_true rfl), (Nat.le_of_ble_eq_true rfl)⟩ (fun q H locs hB => ?_)
    rw [x3]
    refine lv_astore (lv' := [(4, .ref q), (0, .ref o), (1, .int t), (2, .int x), (3, .ref ou)]) hx hb dW_overdue_13 hl (by decide) rfl (fun ls hl => ?_)
    refine lv_iconst (v := 1) hx hb dW_overdue_15 (by decide) ?_
    exact gg_iret hx hb hr hlocks hKA hB dW_overdue_16 (by decide) (by decide) ⟨rfl, rfl⟩
