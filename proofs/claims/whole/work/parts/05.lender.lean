/-! InterRequest$Lender -/
set_option maxHeartbeats 4000000 in
set_option maxRecDepth 100000 in
theorem c_L_begin (l : Launch) (dC : Nat → ClassId) (dI : Nat → Nat → Nat) (dA : Nat → ClassId) (z : Nat) (M : gM) (a : Nat) (h st g si : Int32) (hm : M a = some (oL (h, st, g, si))) (t : Int32) : gMv l dC dI dA z y_L_begin b_L_begin 2 (Option.none : Option FieldType) ⟨0, 0, 0, 0⟩ [.ref a, .int t] M (fun M1 => M1 = gU M a (oL (h, 1, g, t))) 0 0 := by
  refine gOfW (by decide) (Nat.le_of_ble_eq_true rfl) ?_
  intro p e s m below meth c ls hF hr hlocks hnm hKA hB hl
  obtain ⟨hx, hb, hml, hown, hts⟩ := id hF
  have hK := hKA.1
  have hl : lv_has ls 2 [(0, .ref a), (1, .int t)] := hl
  refine lv_aload_n hx hb dL_begin_0 rfl (lv_at hl 0 rfl) ?_
  refine lv_iconst (v := 1) hx hb dL_begin_1 (by decide) ?_
  refine gg_put (ty := .int) (v := .int 1) hx hb hts in_L t_L t_L_ok n_L hown hK hB hm rfl 1 (by decide) k_120 rfl rfl (by decide +kernel) rfl rfl (Nat.le_of_ble_eq_true rfl) dL_begin_2 (fun H locs hB => ?_)
  have hB : gB (dC, dI) gcl z (gU M a (.inr (2, [.int h, .int 1, .int g, .int si]))) s.heap H locs := hB
  refine lv_aload_n hx hb dL_begin_5 rfl (lv_at hl 0 rfl) ?_
  refine lv_iload_n hx hb dL_begin_6 rfl (lv_at hl 1 rfl) ?_
  refine gg_put (ty := .int) (v := .int t) hx hb hts in_L t_L t_L_ok n_L hown hK hB (gU_s _ _ _) rfl 3 (by decide) k_125 rfl rfl (by decide +kernel) rfl rfl (Nat.le_of_ble_eq_true rfl) dL_begin_7 (fun H locs hB => ?_)
  have hB : gB (dC, dI) gcl z (gU (gU M a (.inr (2, [.int h, .int 1, .int g, .int si]))) a (.inr (2, [.int h, .int 1, .int g, .int t]))) s.heap H locs := hB
  rw [gUU] at hB
  exact gg_vret hx hb hr hlocks hKA hB dL_begin_10 (by decide) (by decide) rfl
set_option maxHeartbeats 4000000 in
set_option maxRecDepth 100000 in
theorem c_L_holds (l : Launch) (dC : Nat → ClassId) (dI : Nat → Nat → Nat) (dA : Nat → ClassId) (z : Nat) (M : gM) (a : Nat) (h st g si : Int32) (hm : M a = some (oL (h, st, g, si))) : gMi l dC dI dA z y_L_holds b_L_holds 1 (Option.some FieldType.boolean) ⟨0, 0, 0, 0⟩ [.ref a] M (fun r M1 => M1 = M ∧ r = if st = 1 then 1 else if st = 2 then 1 else if st = 3 then 1 else if st = 4 then 1 else 0) 0 0 := by
  refine gOfW (by decide) (Nat.le_of_ble_eq_true rfl) ?_
  intro p e s m below meth c ls hF hr hlocks hnm hKA hB hl
  obtain ⟨hx, hb, hml, hown, hts⟩ := id hF
  have hK := hKA.1
  have hl : lv_has ls 1 [(0, .ref a)] := hl
  refine lv_aload_n hx hb dL_holds_0 rfl (lv_at hl 0 rfl) ?_
  refine gg_get (v := .int st) hx hb hts in_L hown hK hB hm rfl 1 (by decide) k_120 rfl rfl dL_holds_1 ?_
  refine lv_iconst (v := 1) hx hb dL_holds_4 (by decide) ?_
  refine lv_icmp_eq (tgt := 32) hx hb dL_holds_5 (by decide) (fun c5 => ?_) (fun c5 => ?_)
  · refine lv_iconst (v := 1) hx hb dL_holds_32 (by decide) ?_
    refine lv_goto (tgt := 37) hx hb dL_holds_33 (by decide) ?_
    exact gg_zret hx hb hr hlocks hKA hB dL_holds_37 rfl (by decide) (by decide) ⟨rfl, by rw [if_pos c5]⟩
  · refine lv_aload_n hx hb dL_holds_8 rfl (lv_at hl 0 rfl) ?_
    refine gg_get (v := .int st) hx hb hts in_L hown hK hB hm rfl 1 (by decide) k_120 rfl rfl dL_holds_9 ?_
    refine lv_iconst (v := 2) hx hb dL_holds_12 (by decide) ?_
    refine lv_icmp_eq (tgt := 32) hx hb dL_holds_13 (by decide) (fun c13 => ?_) (fun c13 => ?_)
    · refine lv_iconst (v := 1) hx hb dL_holds_32 (by decide) ?_
      refine lv_goto (tgt := 37) hx hb dL_holds_33 (by decide) ?_
      exact gg_zret hx hb hr hlocks hKA hB dL_holds_37 rfl (by decide) (by decide) ⟨rfl, by rw [if_neg c5, if_pos c13]⟩
    · refine lv_aload_n hx hb dL_holds_16 rfl (lv_at hl 0 rfl) ?_
      refine gg_get (v := .int st) hx hb hts in_L hown hK hB hm rfl 1 (by decide) k_120 rfl rfl dL_holds_17 ?_
      refine lv_iconst (v := 3) hx hb dL_holds_20 (by decide) ?_
      refine lv_icmp_eq (tgt := 32) hx hb dL_holds_21 (by decide) (fun c21 => ?_) (fun c21 => ?_)
      · refine lv_iconst (v := 1) hx hb dL_holds_32 (by decide) ?_
        refine lv_goto (tgt := 37) hx hb dL_holds_33 (by decide) ?_
        exact gg_zret hx hb hr hlocks hKA hB dL_holds_37 rfl (by decide) (by decide) ⟨rfl, by rw [if_neg c5, if_neg c13, if_pos c21]⟩
      · refine lv_aload_n hx hb dL_holds_24 rfl (lv_at hl 0 rfl) ?_
        refine gg_get (v := .int st) hx hb hts in_L hown hK hB hm rfl 1 (by decide) k_120 rfl rfl dL_holds_25 ?_
        refine lv_iconst (v := 4) hx hb dL_holds_28 (by decide) ?_
        refine lv_icmp_ne (tgt := 36) hx hb dL_holds_29 (by decide) (fun c29 => ?_) (fun c29 => ?_)
        · refine lv_iconst (v := 0) hx hb dL_holds_36 (by decide) ?_
          exact gg_zret hx hb hr hlocks hKA hB dL_holds_37 rfl (by decide) (by decide) ⟨rfl, by rw [if_neg c5, if_neg c13, if_neg c21, if_neg c29]⟩
        · refine lv_iconst (v := 1) hx hb dL_holds_32 (by decide) ?_
          refine lv_goto (tgt := 37) hx hb dL_holds_33 (by decide) ?_
          exact gg_zret hx hb hr hlocks hKA hB dL_holds_37 rfl (by decide) (by decide) ⟨rfl, by rw [if_neg c5, if_neg c13, if_neg c21, if_pos c29]⟩
set_option maxHeartbeats 4000000 in
set_option maxRecDepth 100000 in
theorem c_L_isAwaited (l : Launch) (dC : Nat → ClassId) (dI : Nat → Nat → Nat) (dA : Nat → ClassId) (z : Nat) (M : gM) (a : Nat) (h st g si : Int32) (hm : M a = some (oL (h, st, g, si))) : gMi l dC dI dA z y_L_isAwaited b_L_isAwaited 1 (Option.some FieldType.boolean) ⟨0, 0, 0, 0⟩ [.ref a] M (fun r M1 => M1 = M ∧ r = if st = 1 then 1 else if st = 3 then 1 else 0) 0 0 := by
  refine gOfW (by decide) (Nat.le_of_ble_eq_true rfl) ?_
  intro p e s m below meth c ls hF hr hlocks hnm hKA hB hl
  obtain ⟨hx, hb, hml, hown, hts⟩ := id hF
  have hK := hKA.1
  have hl : lv_has ls 1 [(0, .ref a)] := hl
  refine lv_aload_n hx hb dL_isAwaited_0 rfl (lv_at hl 0 rfl) ?_
  refine gg_get (v := .int st) hx hb hts in_L hown hK hB hm rfl 1 (by decide) k_120 rfl rfl dL_isAwaited_1 ?_
  refine lv_iconst (v := 1) hx hb dL_isAwaited_4 (by decide) ?_
  refine lv_icmp_eq (tgt := 16) hx hb dL_isAwaited_5 (by decide) (fun c5 => ?_) (fun c5 => ?_)
  · refine lv_iconst (v := 1) hx hb dL_isAwaited_16 (by decide) ?_
    refine lv_goto (tgt := 21) hx hb dL_isAwaited_17 (by decide) ?_
    exact gg_zret hx hb hr hlocks hKA hB dL_isAwaited_21 rfl (by decide) (by decide) ⟨rfl, by rw [if_pos c5]⟩
  · refine lv_aload_n hx hb dL_isAwaited_8 rfl (lv_at hl 0 rfl) ?_
    refine gg_get (v := .int st) hx hb hts in_L hown hK hB hm rfl 1 (by decide) k_120 rfl rfl dL_isAwaited_9 ?_
    refine lv_iconst (v := 3) hx hb dL_isAwaited_12 (by decide) ?_
    refine lv_icmp_ne (tgt := 20) hx hb dL_isAwaited_13 (by decide) (fun c13 => ?_) (fun c13 => ?_)
    · refine lv_iconst (v := 0) hx hb dL_isAwaited_20 (by decide) ?_
      exact gg_zret hx hb hr hlocks hKA hB dL_isAwaited_21 rfl (by decide) (by decide) ⟨rfl, by rw [if_neg c5, if_neg c13]⟩
    · refine lv_iconst (v := 1) hx hb dL_isAwaited_16 (by decide) ?_
      refine lv_goto (tgt := 21) hx hb dL_isAwaited_17 (by decide) ?_
      exact gg_zret hx hb hr hlocks hKA hB dL_isAwaited_21 rfl (by decide) (by decide) ⟨rfl, by rw [if_neg c5, if_pos c13]⟩
set_option maxHeartbeats 4000000 in
set_option maxRecDepth 100000 in
theorem c_L_init (l : Launch) (dC : Nat → ClassId) (dI : Nat → Nat → Nat) (dA : Nat → ClassId) (z : Nat) (M : gM) (a : Nat) (h : Int32) (hm : M a = some (.inr (2, [.int 0, .int 0, .int 0, .int 0]))) : gMv l dC dI dA z y_L_init b_L_init 2 (Option.none : Option FieldType) ⟨1, 0, 0, 20⟩ [.ref a, .int h] M (fun M1 => M1 = gU M a (oL (h, 0, -1, 0))) 0 0 := by
  refine gOfW (by decide) (Nat.le_of_ble_eq_true rfl) ?_
  intro p e s m below meth c ls hF hr hlocks hnm hKA hB hl
  obtain ⟨hx, hb, hml, hown, hts⟩ := id hF
  have hK := hKA.1
  have hl : lv_has ls 2 [(0, .ref a), (1, .int h)] := hl
  refine lv_aload_n hx hb dL_init_0 rfl (lv_at hl 0 rfl) ?_
  refine W.objInit hx hb hown (hts _ k_116) (hts _ k_16) (hts _ k_17) rfl (by rw [hml]; exact hl.1) rfl dL_init_1 (Nat.le_of_ble_eq_true rfl) (Nat.le_of_ble_eq_true rfl) ?_
  refine W.eq (g2 := F0 m 4 ls []) rfl ?_
  refine lv_aload_n hx hb dL_init_4 rfl (lv_at hl 0 rfl) ?_
  refine lv_iload_n hx hb dL_init_5 rfl (lv_at hl 1 rfl) ?_
  refine gg_putF (ty := .int) (v := .int h) hx hb hts in_L t_L t_L_ok n_L hown hK hB hm rfl 0 (by decide) k_117 rfl rfl hnm rfl (by decide +kernel) rfl rfl (Nat.le_of_ble_eq_true rfl) dL_init_6 (fun H locs hB => ?_)
  have hB : gB (dC, dI) gcl z (gU M a (.inr (2, [.int h, .int 0, .int 0, .int 0]))) s.heap H locs := hB
  refine lv_aload_n hx hb dL_init_9 rfl (lv_at hl 0 rfl) ?_
  refine lv_iconst (v := 0) hx hb dL_init_10 (by decide) ?_
  refine gg_put (ty := .int) (v := .int 0) hx hb hts in_L t_L t_L_ok n_L hown hK hB (gU_s _ _ _) rfl 1 (by decide) k_120 rfl rfl (by decide +kernel) rfl rfl (Nat.le_of_ble_eq_true rfl) dL_init_11 (fun H locs hB => ?_)
  have hB : gB (dC, dI) gcl z (gU (gU M a (.inr (2, [.int h, .int 0, .int 0, .int 0]))) a (.inr (2, [.int h, .int 0, .int 0, .int 0]))) s.heap H locs := hB
  rw [gUU] at hB
  refine lv_aload_n hx hb dL_init_14 rfl (lv_at hl 0 rfl) ?_
  refine lv_iconst (v := (-1)) hx hb dL_init_15 (by decide) ?_
  refine gg_put (ty := .int) (v := .int (-1)) hx hb hts in_L t_L t_L_ok n_L hown hK hB (gU_s _ _ _) rfl 2 (by decide) k_123 rfl rfl (by decide +kernel) rfl rfl (Nat.le_of_ble_eq_true rfl) dL_init_16 (fun H locs hB => ?_)
  have hB : gB (dC, dI) gcl z (gU (gU M a (.inr (2, [.int h, .int 0, .int 0, .int 0]))) a (.inr (2, [.int h, .int 0, .int (-1), .int 0]))) s.heap H locs := hB
  rw [gUU] at hB
  refine lv_aload_n hx hb dL_init_19 rfl (lv_at hl 0 rfl) ?_
  refine lv_iconst (v := 0) hx hb dL_init_20 (by decide) ?_
  refine gg_put (ty := .int) (v := .int 0) hx hb hts in_L t_L t_L_ok n_L hown hK hB (gU_s _ _ _) rfl 3 (by decide) k_125 rfl rfl (by decide +kernel) rfl rfl (Nat.le_of_ble_eq_true rfl) dL_init_21 (fun H locs hB => ?_)
  have hB : gB (dC, dI) gcl z (gU (gU M a (.inr (2, [.int h, .int 0, .int (-1), .int 0]))) a (.inr (2, [.int h, .int 0, .int (-1), .int 0]))) s.heap H locs := hB
  rw [gUU] at hB
  exact gg_vret hx hb hr hlocks hKA hB dL_init_24 (by decide) (by decide) rfl
