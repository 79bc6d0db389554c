/-! InterRequest: its making, ask, lender, waits -/
set_option maxHeartbeats 4000000 in
set_option maxRecDepth 100000 in
theorem c_I_init (l : Launch) (dC : Nat → ClassId) (dI : Nat → Nat → Nat) (dA : Nat → ClassId) (z : Nat) (M : gM) (o : Nat) (x : Int32) (hm : M o = some (.inr (0, [.int 0, .null, .int 0, .int 0, .int 0]))) : gMv l dC dI dA z y_I_init b_I_init 2 (Option.none : Option FieldType) ⟨1, 1, 100, 21⟩ [.ref o, .int x] M (fun M1 => ∃ q, M q = none ∧ o ≠ q ∧ M1 = gU (gU M q (aQ dA (fun _ => none))) o (.inr (0, [.int (hsz x), .ref q, .int (nI 0), .int 0, .int 86400]))) 1 100 := by
  refine gOfW (by decide) (Nat.le_of_ble_eq_true rfl) ?_
  intro p e s m below meth c ls hF hr hlocks hnm hKA hB hl
  obtain ⟨hx, hb, hml, hown, hts⟩ := id hF
  have hK := hKA.1
  have hl : lv_has ls 2 [(0, .ref o), (1, .int x)] := hl
  refine lv_aload_n hx hb dI_init_0 rfl (lv_at hl 0 rfl) ?_
  refine W.objInit hx hb hown (hts _ k_15) (hts _ k_16) (hts _ k_17) rfl (by rw [hml]; exact hl.1) rfl dI_init_1 (Nat.le_of_ble_eq_true rfl) (Nat.le_of_ble_eq_true rfl) ?_
  refine W.eq (g2 := F0 m 4 ls []) rfl ?_
  refine lv_aload_n hx hb dI_init_4 rfl (lv_at hl 0 rfl) ?_
  refine lv_iconst (v := 1) hx hb dI_init_5 (by decide) ?_
  refine lv_bipush (v := 30) hx hb dI_init_6 (by decide) ?_
  refine lv_iload_n hx hb dI_init_8 rfl (lv_at hl 1 rfl) ?_
  refine va_mmin hx hb (hml.trans hl.1.symm) hown (hts _ k_18) (hts _ k_19) (hts _ k_2) (hts _ k_20) (Nat.le_of_ble_eq_true rfl) (Nat.le_of_ble_eq_true rfl) (Nat.zero_le _) (Nat.zero_le _) dI_init_9 ?_
  refine va_mmax hx hb (hml.trans hl.1.symm) hown (hts _ k_21) (hts _ k_22) (hts _ k_2) (hts _ k_23) (Nat.le_of_ble_eq_true rfl) (Nat.le_of_ble_eq_true rfl) (Nat.zero_le _) (Nat.zero_le _) dI_init_12 ?_
  refine gg_putF (ty := .int) (v := .int (if 1 < (if x < 30 then x else 30) then (if x < 30 then x else 30) else 1)) hx hb hts in_I t_I t_I_ok n_I hown hK hB hm rfl 0 (by decide) k_27 rfl rfl hnm rfl (by decide +kernel) rfl rfl (Nat.le_of_ble_eq_true rfl) dI_init_15 (fun H locs hB => ?_)
  have hB : gB (dC, dI) gcl z (gU M o (.inr (0, [.int (if 1 < (if x < 30 then x else 30) then (if x < 30 then x else 30) else 1), .null, .int 0, .int 0, .int 0]))) s.heap H locs := hB
  refine lv_aload_n hx hb dI_init_18 rfl (lv_at hl 0 rfl) ?_
  refine lv_bipush (v := 100) hx hb dI_init_19 (by decide) ?_
  refine gg_newq (N' := 100) hx hb hts hown k_24 hKA.2.1 hK hB 0 rfl (by decide) (by decide) (Nat.le_of_ble_eq_true rfl) (Nat.le_of_ble_eq_true rfl) (Nat.le_of_ble_eq_true rfl) dI_init_21 (fun q1 H hq1 hB => ?_)
  have ne_o_q1 := gNn (gU_s _ _ _) hq1
  have hB : gB (dC, dI) gcl z (gU (gU M o (.inr (0, [.int (if 1 < (if x < 30 then x else 30) then (if x < 30 then x else 30) else 1), .null, .int 0, .int 0, .int 0]))) q1 (.inl (dA 0, 100, .inr (.inr (.inr (.inr (fun _ => none))))))) s.heap H locs := hB
  refine gg_putF (ty := (.array (.object "InterRequest$Request"))) (v := .ref q1) hx hb hts in_I t_I t_I_ok n_I hown hK hB ((gU_n ne_o_q1).trans (gU_s _ _ _)) rfl 1 (by decide) k_28 rfl rfl hnm rfl (by decide +kernel) rfl rfl (Nat.le_of_ble_eq_true rfl) dI_init_24 (fun H locs hB => ?_)
  have hB : gB (dC, dI) gcl z (gU (gU (gU M o (.inr (0, [.int (if 1 < (if x < 30 then x else 30) then (if x < 30 then x else 30) else 1), .null, .int 0, .int 0, .int 0]))) q1 (.inl (dA 0, 100, .inr (.inr (.inr (.inr (fun _ => none))))))) o (.inr (0, [.int (if 1 < (if x < 30 then x else 30) then (if x < 30 then x else 30) else 1), .ref q1, .int 0, .int 0, .int 0]))) s.heap H locs := hB
  rw [gUC ne_o_q1] at hB
  rw [gUU] at hB
  refine lv_aload_n hx hb dI_init_27 rfl (lv_at hl 0 rfl) ?_
  refine lv_iconst (v := 0) hx hb dI_init_28 (by decide) ?_
  refine gg_put (ty := .int) (v := .int 0) hx hb hts in_I t_I t_I_ok n_I hown hK hB (gU_s _ _ _) rfl 2 (by decide) k_29 rfl rfl (by decide +kernel) rfl rfl (Nat.le_of_ble_eq_true rfl) dI_init_29 (fun H locs hB => ?_)
  have hB : gB (dC, dI) gcl z (gU (gU (gU M q1 (.inl (dA 0, 100, .inr (.inr (.inr (.inr (fun _ => none))))))) o (.inr (0, [.int (if 1 < (if x < 30 then x else 30) then (if x < 30 then x else 30) else 1), .ref q1, .int 0, .int 0, .int 0]))) o (.inr (0, [.int (if 1 < (if x < 30 then x else 30) then (if x < 30 then x else 30) else 1), .ref q1, .int 0, .int 0, .int 0]))) s.heap H locs := hB
  rw [gUU] at hB
  refine lv_aload_n hx hb dI_init_32 rfl (lv_at hl 0 rfl) ?_
  refine lv_iconst (v := 0) hx hb dI_init_33 (by decide) ?_
  refine gg_put (ty := .int) (v := .int 0) hx hb hts in_I t_I t_I_ok n_I hown hK hB (gU_s _ _ _) rfl 3 (by decide) k_30 rfl rfl (by decide +kernel) rfl rfl (Nat.le_of_ble_eq_true rfl) dI_init_34 (fun H locs hB => ?_)
  have hB : gB (dC, dI) gcl z (gU (gU (gU M q1 (.inl (dA 0, 100, .inr (.inr (.inr (.inr (fun _ => none))))))) o (.inr (0, [.int (if 1 < (if x < 30 then x else 30) then (if x < 30 then x else 30) else 1), .ref q1, .int 0, .int 0, .int 0]))) o (.inr (0, [.int (if 1 < (if x < 30 then x else 30) then (if x < 30 then x else 30) else 1), .ref q1, .int 0, .int 0, .int 0]))) s.heap H locs := hB
  rw [gUU] at hB
  refine lv_aload_n hx hb dI_init_37 rfl (lv_at hl 0 rfl) ?_
  refine lv_ldc (v := 86400) hx hb hown (hts _ k_26) dI_init_38 ?_
  refine gg_put (ty := .int) (v := .int 86400) hx hb hts in_I t_I t_I_ok n_I hown hK hB (gU_s _ _ _) rfl 4 (by decide) k_31 rfl rfl (by decide +kernel) rfl rfl (Nat.le_of_ble_eq_true rfl) dI_init_40 (fun H locs hB => ?_)
  have hB : gB (dC, dI) gcl z (gU (gU (gU M q1 (.inl (dA 0, 100, .inr (.inr (.inr (.inr (fun _ => none))))))) o (.inr (0, [.int (if 1 < (if x < 30 then x else 30) then (if x < 30 then x else 30) else 1), .ref q1, .int 0, .int 0, .int 0]))) o (.inr (0, [.int (if 1 < (if x < 30 then x else 30) then (if x < 30 then x else 30) else 1), .ref q1, .int 0, .int 0, .int 86400]))) s.heap H locs := hB
  rw [gUU] at hB
  exact gg_vret hx hb hr hlocks hKA hB dI_init_43 (by decide) (by decide) ⟨q1, by rw [gU_n (Ne.symm ne_o_q1)] at hq1; exact hq1, ne_o_q1, by rw [nI_0]; rfl⟩
set_option maxHeartbeats 4000000 in
set_option maxRecDepth 100000 in
theorem c_I_ask (l : Launch) (dC : Nat → ClassId) (dI : Nat → Nat → Nat) (dA : Nat → ClassId) (z : Nat) (M0 M : gM) (o ar : Nat) (ra sa : Nat → Nat) (la : Nat → Nat → Nat) (hs lt lw : Int32) (cn : Nat) (σ : Nat → Rq) (hR : cW dA M0 M o ar ra sa la hs lt lw cn σ) (h9 it9 : Int32) : gMi l dC dI dA z y_I_ask b_I_ask 3 (Option.some FieldType.int) ⟨2, 2, 18, 42⟩ [.ref o, .int h9, .int it9] M (fun x M1 => ∃ ra1 sa1 la1, cP dA M0 o ar ra1 sa1 la1 hs (sAsk hs lt lw cn σ h9 it9) x M1) 2 18 := by
  refine gOfW (by decide) (Nat.le_of_ble_eq_true rfl) ?_
  intro p e s m below meth c ls hF hr hlocks hnm hKA hB hl
  obtain ⟨hx, hb, hml, hown, hts⟩ := id hF
  have hK := hKA.1
  have hl : lv_has ls 3 [(0, .ref o), (1, .int h9), (2, .int it9)] := hl
  refine lv_aload_n hx hb dI_ask_0 rfl (lv_at hl 0 rfl) ?_
  refine lv_iload_n hx hb dI_ask_1 rfl (lv_at hl 1 rfl) ?_
  refine gEndi (gRunV hF (c_I_isHouse l dC dI dA z M0 M o ar ra sa la hs lt lw cn σ hR h9) ln_I_38 hKA hB hR.top rfl rfl hl.1 rfl (Nat.le_of_ble_eq_true rfl) dI_ask_2 ⟨rfl, rfl, (Nat.le_of_ble_eq_true rfl), (Nat.le_of_ble_eq_true rfl)⟩ ⟨(Nat.le_of_ble_eq_true rfl), (Nat.le_of_ble_eq_true rfl)⟩) hB (fun y1 M1 H locs hp hB => ?_)
  obtain ⟨e1, e2⟩ := hp
  rw [e1] at hB
  cases hH1 : bH hs h9 with
  | false =>
    have e2 : y1 = 0 := by rw [e2, hH1]; rfl
    subst e2
    refine lv_if_ne (tgt := 10) hx hb dI_ask_5 (by decide) (fun c5 => ?_) (fun c5 => ?_)
    · exact (c5 (by decide)).elim
    · refine lv_iconst (v := (-1)) hx hb dI_ask_8 (by decide) ?_
      exact gg_iret hx hb hr hlocks hKA hB dI_ask_9 (Nat.le_of_ble_eq_true rfl) (Nat.le_of_ble_eq_true rfl) ⟨ra, sa, la, cP_of (show sAsk hs lt lw cn σ h9 it9 = ((-1), lt, lw, cn, σ) from by simp [sAsk, hH1, c5]) ⟨hR, rfl⟩⟩
  | true =>
    have e2 : y1 = 1 := by rw [e2, hH1]; rfl
    subst e2
    refine lv_if_ne (tgt := 10) hx hb dI_ask_5 (by decide) (fun c5 => ?_) (fun c5 => ?_)
    · refine lv_iload_n hx hb dI_ask_10 rfl (lv_at hl 2 rfl) ?_
      refine lv_if_lt (tgt := 20) hx hb dI_ask_11 (by decide) (fun c11 => ?_) (fun c11 => ?_)
      · refine lv_bipush (v := (-2)) hx hb dI_ask_20 (by decide) ?_
        exact gg_iret hx hb hr hlocks hKA hB dI_ask_22 (Nat.le_of_ble_eq_true rfl) (Nat.le_of_ble_eq_true rfl) ⟨ra, sa, la, cP_of (show sAsk hs lt lw cn σ h9 it9 = ((-2), lt, lw, cn, σ) from by simp [sAsk, hH1, c5, c11, i32_nle c11]) ⟨hR, rfl⟩⟩
      · refine lv_iload_n hx hb dI_ask_14 rfl (lv_at hl 2 rfl) ?_
        refine lv_ldc (v := 100000) hx hb hown (hts _ k_51) dI_ask_15 ?_
        refine lv_icmp_le (tgt := 23) hx hb dI_ask_17 (by decide) (fun c17 => ?_) (fun c17 => ?_)
        · refine lv_aload_n hx hb dI_ask_23 rfl (lv_at hl 0 rfl) ?_
          refine gg_get (v := .int (nI cn)) hx hb hts in_I hown hK hB hR.top rfl 2 (by decide) k_29 rfl rfl dI_ask_24 ?_
          refine lv_bipush (v := 100) hx hb dI_ask_27 (by decide) ?_
          refine lv_icmp_lt (tgt := 35) hx hb dI_ask_29 (by decide) (fun c29 => ?_) (fun c29 => ?_)
          · have hlt : cn < 100 := (nI_ltI (by have := hR.c100; omega) (by decide)).mp c29
            have h100 : ¬ cn = 100 := by omega
            obtain ⟨f, ha, hf⟩ := hR.arr
            refine lv_aload_n hx hb dI_ask_35 rfl (lv_at hl 0 rfl) ?_
            refine gg_get (v := .ref ar) hx hb hts in_I hown hK hB hR.top rfl 1 (by decide) k_28 rfl rfl dI_ask_36 ?_
            refine lv_aload_n hx hb dI_ask_39 rfl (lv_at hl 0 rfl) ?_
            refine gg_get (v := .int (nI cn)) hx hb hts in_I hown hK hB hR.top rfl 2 (by decide) k_29 rfl rfl dI_ask_40 ?_
            refine gg_new (ci := 1) (fs := [.int 0, .int 0, .null, .int 0, .int 0, .null, .int 0, .int 0, .int 0, .int 0]) hx hb hts in_Q t_Q t_Q_ok hown k_24 k_52 k_4 hK hB rfl (fun j hj => by rcases (show j = 0 ∨ j = 1 ∨ j = 2 ∨ j = 3 ∨ j = 4 ∨ j = 5 ∨ j = 6 ∨ j = 7 ∨ j = 8 ∨ j = 9 by omega) with rfl | rfl | rfl | rfl | rfl | rfl | rfl | rfl | rfl | rfl <;> rfl) (Nat.le_of_ble_eq_true rfl) (Nat.le_of_ble_eq_true rfl) dI_ask_43 (fun q H hq1 hB => ?_)
            refine lv_dup hx hb dI_ask_46 rfl ?_
            refine lv_iload_n hx hb dI_ask_47 rfl (lv_at hl 1 rfl) ?_
            refine lv_iload_n hx hb dI_ask_48 rfl (lv_at hl 2 rfl) ?_
            refine gEndv (gRunI hF (c_Q_init l dC dI dA z _ q h9 it9 (gU_s _ _ _)) ln_I_43 hKA hB rfl hl.1 rfl (Nat.le_of_ble_eq_true rfl) dI_ask_49 ⟨rfl, rfl, (Nat.le_of_ble_eq_true rfl), (Nat.le_of_ble_eq_true rfl)⟩ ⟨(Nat.le_of_ble_eq_true rfl), (Nat.le_of_ble_eq_true rfl)⟩) hB (fun M1 H locs hp hB => ?_)
            obtain ⟨q2, hq2, hne, hp⟩ := hp
            have hq3 : M q2 = none := by rw [gU_n (Ne.symm hne)] at hq2; exact hq2
            have k1 : M1 q = some (oQ (qnew h9 it9) q2 (fun _ => 0)) := by rw [hp, gU_s]; rfl
            have k2 : M1 q2 = some (aL dA (fun _ => none)) := by rw [hp, gU_n (Ne.symm hne), gU_s]
            have k3 : ∀ a e, M a = some e → M1 a = some e := fun a e h1 => by rw [hp, gU_n (gNn h1 hq1), gU_n (gNn h1 hq3), gU_n (gNn h1 hq1)]; exact h1
            refine gg_aast (r := ("InterRequest$Request", F_Q, 10)) hx hb hK hB 0 1 (k3 _ _ ha) rfl k1 rfl (vp_in_nI hlt (by decide)) dI_ask_52 (fun H locs hB => ?_)
            rw [nI_clamp (by omega)] at hB
            have ho9 : gU M1 ar (aQ dA (va_up f cn (some q))) o = some (oI hs ar cn lt lw) := gU_k (k3 _ _ ha) (k3 _ _ hR.top) (by intro q; cases q)
            refine lv_aload_n hx hb dI_ask_53 rfl (lv_at hl 0 rfl) ?_
            refine lv_dup hx hb dI_ask_54 rfl ?_
            refine gg_get (v := .int (nI cn)) hx hb hts in_I hown hK hB ho9 rfl 2 (by decide) k_29 rfl rfl dI_ask_55 ?_
            refine lv_iconst (v := 1) hx hb dI_ask_58 (by decide) ?_
            refine lv_iadd hx hb dI_ask_59 ?_
            refine gg_put (ty := .int) (v := .int ((nI cn) + 1)) hx hb hts in_I t_I t_I_ok n_I hown hK hB ho9 rfl 2 (by decide) k_29 rfl rfl (by decide +kernel) rfl rfl (Nat.le_of_ble_eq_true rfl) dI_ask_60 (fun H locs hB => ?_)
            rw [nI_1] at hB
            have hR9 := hR.ask hlt ha hf hq1 hq3 k1 k2 k3
            refine lv_aload_n hx hb dI_ask_63 rfl (lv_at hl 0 rfl) ?_
            refine gg_get (v := .int (nI (cn + 1))) hx hb hts in_I hown hK hB hR9.top rfl 2 (by decide) k_29 rfl rfl dI_ask_64 ?_
            refine lv_iconst (v := 1) hx hb dI_ask_67 (by decide) ?_
            refine lv_isub hx hb dI_ask_68 ?_
            exact gg_iret hx hb hr hlocks hKA hB dI_ask_69 (Nat.le_of_ble_eq_true rfl) (Nat.le_of_ble_eq_true rfl) ⟨va_up ra cn q, va_up sa cn q2, la, cP_of (show sAsk hs lt lw cn σ h9 it9 = (nI cn, lt, lw, cn + 1, va_up σ cn (qnew h9 it9)) from by simp [sAsk, hH1, c5, c11, c17, h100]) ⟨hR9, by show nI (cn + 1) - 1 = nI cn; exact nI_pred cn⟩⟩
          · have h100 : cn = 100 := by have h1 := hR.c100; have h2 : ¬ cn < 100 := fun q => c29 (nI_lt q (by decide)); omega
            refine lv_bipush (v := (-4)) hx hb dI_ask_32 (by decide) ?_
            exact gg_iret hx hb hr hlocks hKA hB dI_ask_34 (Nat.le_of_ble_eq_true rfl) (Nat.le_of_ble_eq_true rfl) ⟨ra, sa, la, cP_of (show sAsk hs lt lw cn σ h9 it9 = ((-4), lt, lw, cn, σ) from by simp [sAsk, hH1, c5, c11, c17, h100]) ⟨hR, rfl⟩⟩
        · refine lv_bipush (v := (-2)) hx hb dI_ask_20 (by decide) ?_
          exact gg_iret hx hb hr hlocks hKA hB dI_ask_22 (Nat.le_of_ble_eq_true rfl) (Nat.le_of_ble_eq_true rfl) ⟨ra, sa, la, cP_of (show sAsk hs lt lw cn σ h9 it9 = ((-2), lt, lw, cn, σ) from by simp [sAsk, hH1, c5, c11, c17]) ⟨hR, rfl⟩⟩
    · exact absurd c5 (by decide)
set_option maxHeartbeats 4000000 in
set_option maxRecDepth 100000 in
theorem c_I_lender (l : Launch) (dC : Nat → ClassId) (dI : Nat → Nat → Nat) (dA : Nat → ClassId) (z : Nat) (M0 M : gM) (o ar : Nat) (ra sa : Nat → Nat) (la : Nat → Nat → Nat) (hs lt lw : Int32) (cn : Nat) (σ : Nat → Rq) (hR : cW dA M0 M o ar ra sa la hs lt lw cn σ) (r h9 : Int32) : gMi l dC dI dA z y_I_lender b_I_lender 4 (Option.some FieldType.int) ⟨2, 1, 4, 41⟩ [.ref o, .int r, .int h9] M (fun x M1 => ∃ ra1 sa1 la1, cP dA M0 o ar ra1 sa1 la1 hs (sLender hs lt lw cn σ r h9) x M1) 1 4 := by
  refine gOfW (by decide) (Nat.le_of_ble_eq_true rfl) ?_
  intro p e s m below meth c ls hF hr hlocks hnm hKA hB hl
  obtain ⟨hx, hb, hml, hown, hts⟩ := id hF
  have hK := hKA.1
  have hl : lv_has ls 4 [(0, .ref o), (1, .int r), (2, .int h9)] := hl
  refine lv_aload_n hx hb dI_lender_0 rfl (lv_at hl 0 rfl) ?_
  refine lv_iload_n hx hb dI_lender_1 rfl (lv_at hl 1 rfl) ?_
  refine gEndq (gRunV hF (c_I_find l dC dI dA z M0 M o ar ra sa la hs lt lw cn σ hR r) ln_I_46 hKA hB hR.top rfl rfl hl.1 rfl (Nat.le_of_ble_eq_true rfl) dI_lender_2 ⟨rfl, rfl, (Nat.le_of_ble_eq_true rfl), (Nat.le_of_ble_eq_true rfl)⟩ ⟨(Nat.le_of_ble_eq_true rfl), (Nat.le_of_ble_eq_true rfl)⟩) hB (fun y M1 H locs hp hB => ?_)
  obtain ⟨e1, e2⟩ := hp
  rw [e1] at hB
  cases hi : ix cn r with
  | none =>
    have e2 : y = none := by rw [e2, hi]; rfl
    subst e2
    refine lv_astore_nN (lv' := [(3, .null), (0, .ref o), (1, .int r), (2, .int h9)]) hx hb dI_lender_5 rfl hl (by decide) rfl (fun ls hl => ?_)
    refine lv_aload_nN hx hb dI_lender_6 rfl (lv_at hl 0 rfl) ?_
    refine lv_ifnullN (tgt := 18) hx hb dI_lender_7 (by decide) ?_
    refine lv_iconst (v := (-1)) hx hb dI_lender_18 (by decide) ?_
    exact gg_iret hx hb hr hlocks hKA hB dI_lender_19 (Nat.le_of_ble_eq_true rfl) (Nat.le_of_ble_eq_true rfl) ⟨ra, sa, la, cP_of (show sLender hs lt lw cn σ r h9 = ((-1), lt, lw, cn, σ) from by simp [sLender, hi]) ⟨hR, rfl⟩⟩
  | some k =>
    have e2 : y = some (ra k) := by rw [e2, hi]; rfl
    subst e2
    obtain ⟨hk, hr9⟩ := ix_some (by have := hR.c100; omega) hi
    obtain ⟨⟨h, it, n, st, ho, db, du, fa, en, lf⟩, hq⟩ : ∃ q, σ k = q := ⟨_, rfl⟩
    have hq0 := hq
    refine lv_astore_n (lv' := [(3, .ref (ra k)), (0, .ref o), (1, .int r), (2, .int h9)]) hx hb dI_lender_5 rfl hl (by decide) rfl (fun ls hl => ?_)
    refine lv_aload_n hx hb dI_lender_6 rfl (lv_at hl 0 rfl) ?_
    refine lv_ifnull hx hb dI_lender_7 ?_
    refine lv_aload_n hx hb dI_lender_10 rfl (lv_at hl 1 rfl) ?_
    refine lv_iload_n hx hb dI_lender_11 rfl (lv_at hl 3 rfl) ?_
    refine gEndi (gRunV hF (c_I_isHouse l dC dI dA z M0 M o ar ra sa la hs lt lw cn σ hR h9) ln_I_38 hKA hB hR.top rfl rfl hl.1 rfl (Nat.le_of_ble_eq_true rfl) dI_lender_12 ⟨rfl, rfl, (Nat.le_of_ble_eq_true rfl), (Nat.le_of_ble_eq_true rfl)⟩ ⟨(Nat.le_of_ble_eq_true rfl), (Nat.le_of_ble_eq_true rfl)⟩) hB (fun y1 M1 H locs hp hB => ?_)
    obtain ⟨e1, e2⟩ := hp
    rw [e1] at hB
    cases hH1 : bH hs h9 with
    | false =>
      have e2 : y1 = 0 := by rw [e2, hH1]; rfl
      subst e2
      refine lv_if_ne (tgt := 20) hx hb dI_lender_15 (by decide) (fun c15 => ?_) (fun c15 => ?_)
      · exact (c15 (by decide)).elim
      · refine lv_iconst (v := (-1)) hx hb dI_lender_18 (by decide) ?_
        exact gg_iret hx hb hr hlocks hKA hB dI_lender_19 (Nat.le_of_ble_eq_true rfl) (Nat.le_of_ble_eq_true rfl) ⟨ra, sa, la, cP_of (show sLender hs lt lw cn σ r h9 = ((-1), lt, lw, cn, σ) from by simp [sLender, hi, hH1, c15, hq0]) ⟨hR, rfl⟩⟩
    | true =>
      have e2 : y1 = 1 := by rw [e2, hH1]; rfl
      subst e2
      refine lv_if_ne (tgt := 20) hx hb dI_lender_15 (by decide) (fun c15 => ?_) (fun c15 => ?_)
      · refine lv_aload_n hx hb dI_lender_20 rfl (lv_at hl 0 rfl) ?_
        refine gg_get (v := .int st) hx hb hts in_Q hown hK hB (hR.q hk hq) rfl 4 (by decide) k_67 rfl rfl dI_lender_21 ?_
        refine lv_if_ne (tgt := 43) hx hb dI_lender_24 (by decide) (fun c24 => ?_) (fun c24 => ?_)
        · refine lv_bipush (v := (-3)) hx hb dI_lender_43 (by decide) ?_
          exact gg_iret hx hb hr hlocks hKA hB dI_lender_45 (Nat.le_of_ble_eq_true rfl) (Nat.le_of_ble_eq_true rfl) ⟨ra, sa, la, cP_of (show sLender hs lt lw cn σ r h9 = ((-3), lt, lw, cn, σ) from by simp [sLender, hi, hH1, c15, c24, hq0]) ⟨hR, rfl⟩⟩
        · refine lv_iload_n hx hb dI_lender_27 rfl (lv_at hl 3 rfl) ?_
          refine lv_aload_n hx hb dI_lender_28 rfl (lv_at hl 0 rfl) ?_
          refine gg_get (v := .int h) hx hb hts in_Q hown hK hB (hR.q hk hq) rfl 0 (by decide) k_60 rfl rfl dI_lender_29 ?_
          refine lv_icmp_eq (tgt := 43) hx hb dI_lender_32 (by decide) (fun c32 => ?_) (fun c32 => ?_)
          · refine lv_bipush (v := (-3)) hx hb dI_lender_43 (by decide) ?_
            exact gg_iret hx hb hr hlocks hKA hB dI_lender_45 (Nat.le_of_ble_eq_true rfl) (Nat.le_of_ble_eq_true rfl) ⟨ra, sa, la, cP_of (show sLender hs lt lw cn σ r h9 = ((-3), lt, lw, cn, σ) from by simp [sLender, hi, hH1, c15, c24, c32.symm, hq0]) ⟨hR, rfl⟩⟩
          · refine lv_aload_n hx hb dI_lender_35 rfl (lv_at hl 0 rfl) ?_
            refine lv_iload_n hx hb dI_lender_36 rfl (lv_at hl 3 rfl) ?_
            obtain ⟨f9, hs9, hf9⟩ := hR.s hk hq
            refine gEndi (gRunV hF (c_Q_hasLender l dC dI dA z M (ra k) (sa k) (la k) h it n st ho db du fa en lf (hR.q hk hq) f9 hs9 hf9 (fun j hj => hR.l hk hq hj rfl) (hR.n8 hk hq) h9) ln_I_56 hKA hB (hR.q hk hq) rfl rfl hl.1 rfl (Nat.le_of_ble_eq_true rfl) dI_lender_37 ⟨rfl, rfl, (Nat.le_of_ble_eq_true rfl), (Nat.le_of_ble_eq_true rfl)⟩ ⟨(Nat.le_of_ble_eq_true rfl), (Nat.le_of_ble_eq_true rfl)⟩) hB (fun y2 M1 H locs hp hB => ?_)
            obtain ⟨e1, e2⟩ := hp
            rw [e1] at hB
            cases hS2 : (ff (fun d => decide (d.1 = h9)) lf n 0).isSome with
            | false =>
              have e2 : y2 = 0 := by rw [e2, hS2]; rfl
              subst e2
              refine lv_if_eq (tgt := 46) hx hb dI_lender_40 (by decide) (fun c40 => ?_) (fun c40 => ?_)
              · refine lv_aload_n hx hb dI_lender_46 rfl (lv_at hl 0 rfl) ?_
                refine gg_get (v := .int (nI n)) hx hb hts in_Q hown hK hB (hR.q hk hq) rfl 3 (by decide) k_65 rfl rfl dI_lender_47 ?_
                refine lv_bipush (v := 8) hx hb dI_lender_50 (by decide) ?_
                refine lv_icmp_lt (tgt := 58) hx hb dI_lender_52 (by decide) (fun c52 => ?_) (fun c52 => ?_)
                · have hlt : n < 8 := (nI_ltI (by have h1 : n ≤ 8 := hR.n8 hk hq; omega) (by decide)).mp c52
                  have h8 : ¬ n = 8 := by omega
                  refine lv_aload_n hx hb dI_lender_58 rfl (lv_at hl 0 rfl) ?_
                  refine gg_new (ci := 2) (fs := [.int 0, .int 0, .int 0, .int 0]) hx hb hts in_L t_L t_L_ok hown k_111 k_112 k_5 hK hB rfl (fun j hj => by rcases (show j = 0 ∨ j = 1 ∨ j = 2 ∨ j = 3 by omega) with rfl | rfl | rfl | rfl <;> rfl) (Nat.le_of_ble_eq_true rfl) (Nat.le_of_ble_eq_true rfl) dI_lender_59 (fun q H hq1 hB => ?_)
                  refine lv_dup hx hb dI_lender_62 rfl ?_
                  refine lv_iload_n hx hb dI_lender_63 rfl (lv_at hl 3 rfl) ?_
                  refine gEndv (gRunI hF (c_L_init l dC dI dA z _ q h9 (gU_s _ _ _)) ln_I_64 hKA hB rfl hl.1 rfl (Nat.le_of_ble_eq_true rfl) dI_lender_64 ⟨rfl, rfl, (Nat.le_of_ble_eq_true rfl), (Nat.le_of_ble_eq_true rfl)⟩ ⟨(Nat.le_of_ble_eq_true rfl), (Nat.le_of_ble_eq_true rfl)⟩) hB (fun M1 H locs hp hB => ?_)
                  rw [gUU] at hp
                  subst hp
                  have k3 : ∀ {a : Nat} {e : va_E}, M a = some e → gU M q (oL (h9, 0, -1, 0)) a = some e := fun {a e} h1 => (gU_n (gNn h1 hq1)).trans h1
                  refine gEndv (gRunV hF (c_Q_append l dC dI dA z _ (ra k) (sa k) (la k) h it n st ho db du fa en lf (k3 (hR.q hk hq)) f9 (k3 hs9) hlt q (h9, 0, -1, 0) (gU_s _ _ _)) ln_I_67 hKA hB (k3 (hR.q hk hq)) rfl rfl hl.1 rfl (Nat.le_of_ble_eq_true rfl) dI_lender_67 ⟨rfl, rfl, (Nat.le_of_ble_eq_true rfl), (Nat.le_of_ble_eq_true rfl)⟩ ⟨(Nat.le_of_ble_eq_true rfl), (Nat.le_of_ble_eq_true rfl)⟩) hB (fun M1 H locs hp hB => ?_)
                  subst hp
                  have hR9 := hR.add hk hq hlt hs9 hf9 hq1 (h9, 0, -1, 0)
                  have hr9 := gU_s (gU (gU M q (oL (h9, 0, -1, 0))) (sa k) (aL dA (va_up f9 n (some q)))) (ra k) (oQ (h, it, n + 1, st, ho, db, du, fa, en, lf) (sa k) (la k))
                  refine lv_aload_n hx hb dI_lender_70 rfl (lv_at hl 0 rfl) ?_
                  refine gg_get (v := .int (nI (n + 1))) hx hb hts in_Q hown hK hB hr9 rfl 3 (by decide) k_65 rfl rfl dI_lender_71 ?_
                  exact gg_iret hx hb hr hlocks hKA hB dI_lender_74 (Nat.le_of_ble_eq_true rfl) (Nat.le_of_ble_eq_true rfl) ⟨ra, sa, va_up la k (va_up (la k) n q), cP_of (show sLender hs lt lw cn σ r h9 = (nI (n + 1), lt, lw, cn, va_up σ k (h, it, n + 1, st, ho, db, du, fa, en, va_up lf n (h9, 0, -1, 0))) from by simp [sLender, hi, hH1, c15, c24, c32, hS2, c40, h8, hq0, qadd]) ⟨hR9, rfl⟩⟩
                · have h8 : n = 8 := by have h1 : n ≤ 8 := hR.n8 hk hq; have h2 : ¬ n < 8 := fun q => c52 (nI_lt q (by decide)); omega
                  refine lv_bipush (v := (-4)) hx hb dI_lender_55 (by decide) ?_
                  exact gg_iret hx hb hr hlocks hKA hB dI_lender_57 (Nat.le_of_ble_eq_true rfl) (Nat.le_of_ble_eq_true rfl) ⟨ra, sa, la, cP_of (show sLender hs lt lw cn σ r h9 = ((-4), lt, lw, cn, σ) from by simp [sLender, hi, hH1, c15, c24, c32, hS2, c40, h8, (show (ff (fun d => decide (d.1 = h9)) lf 8 0).isSome = false from h8 ▸ hS2), hq0]) ⟨hR, rfl⟩⟩
              · exact (c40 (by decide)).elim
            | true =>
              have e2 : y2 = 1 := by rw [e2, hS2]; rfl
              subst e2
              refine lv_if_eq (tgt := 46) hx hb dI_lender_40 (by decide) (fun c40 => ?_) (fun c40 => ?_)
              · exact absurd c40 (by decide)
              · refine lv_bipush (v := (-3)) hx hb dI_lender_43 (by decide) ?_
                exact gg_iret hx hb hr hlocks hKA hB dI_lender_45 (Nat.le_of_ble_eq_true rfl) (Nat.le_of_ble_eq_true rfl) ⟨ra, sa, la, cP_of (show sLender hs lt lw cn σ r h9 = ((-3), lt, lw, cn, σ) from by simp [sLender, hi, hH1, c15, c24, c32, hS2, c40, hq0]) ⟨hR, rfl⟩⟩
      · exact absurd c15 (by decide)
set_option maxHeartbeats 4000000 in
set_option maxRecDepth 100000 in
theorem c_I_waits (l : Launch) (dC : Nat → ClassId) (dI : Nat → Nat → Nat) (dA : Nat → ClassId) (z : Nat) (M0 M : gM) (o ar : Nat) (ra sa : Nat → Nat) (la : Nat → Nat → Nat) (hs lt lw : Int32) (cn : Nat) (σ0 : Nat → Rq) (hR : cW dA M0 M o ar ra sa la hs lt lw cn σ0) (t : Int32) : gMi l dC dI dA z y_I_waits b_I_waits 8 (Option.some FieldType.int) ⟨2, 0, 0, 45⟩ [.ref o, .int t] M (cP dA M0 o ar ra sa la hs (sWaits hs lt lw cn σ0 t)) 0 0 := by
  refine gOfW (by decide) (Nat.le_of_ble_eq_true rfl) ?_
  intro p e s m below meth c ls hF hr hlocks hnm hKA hB hl
  obtain ⟨hx, hb, hml, hown, hts⟩ := id hF
  have hK := hKA.1
  have hl : lv_has ls 8 [(0, .ref o), (1, .int t)] := hl
  refine lv_aload_n hx hb dI_waits_0 rfl (lv_at hl 0 rfl) ?_
  refine lv_iload_n hx hb dI_waits_1 rfl (lv_at hl 1 rfl) ?_
  refine gEndi (gRunV hF (c_I_isTime l dC dI dA z M0 M o ar ra sa la hs lt lw cn σ0 hR t) ln_I_71 hKA hB hR.top rfl rfl hl.1 rfl (Nat.le_of_ble_eq_true rfl) dI_waits_2 ⟨rfl, rfl, (Nat.le_of_ble_eq_true rfl), (Nat.le_of_ble_eq_true rfl)⟩ ⟨(Nat.le_of_ble_eq_true rfl), (Nat.le_of_ble_eq_true rfl)⟩) hB (fun y1 M1 H locs hp hB => ?_)
  obtain ⟨e1, e2⟩ := hp
  rw [e1] at hB
  cases hT1 : bT lt t with
  | false =>
    have e2 : y1 = 0 := by rw [e2, hT1]; rfl
    subst e2
    refine lv_if_ne (tgt := 11) hx hb dI_waits_5 (by decide) (fun c5 => ?_) (fun c5 => ?_)
    · exact (c5 (by decide)).elim
    · refine lv_bipush (v := (-2)) hx hb dI_waits_8 (by decide) ?_
      exact gg_iret hx hb hr hlocks hKA hB dI_waits_10 (by decide) (by decide) (cP_of (show sWaits hs lt lw cn σ0 t = ((-2), lt, lw, cn, σ0) from by simp [sWaits, hT1, c5]) ⟨hR, rfl⟩)
  | true =>
    have e2 : y1 = 1 := by rw [e2, hT1]; rfl
    subst e2
    refine lv_if_ne (tgt := 11) hx hb dI_waits_5 (by decide) (fun c5 => ?_) (fun c5 => ?_)
    · refine lv_aload_n hx hb dI_waits_11 rfl (lv_at hl 0 rfl) ?_
      refine lv_iload_n hx hb dI_waits_12 rfl (lv_at hl 1 rfl) ?_
      refine gg_put (ty := .int) (v := .int t) hx hb hts in_I t_I t_I_ok n_I hown hK hB hR.top rfl 3 (by decide) k_30 rfl rfl (by decide +kernel) rfl rfl (Nat.le_of_ble_eq_true rfl) dI_waits_13 (fun H locs hB => ?_)
      have hR := hR.setTop t lw
      have hB : gB (dC, dI) gcl z (gU M o (oI hs ar cn t lw)) s.heap H locs := hB
      generalize gU M o (oI hs ar cn t lw) = M at hB hR
      refine lv_iconst (v := 0) hx hb dI_waits_16 (by decide) ?_
      refine lv_istore_n (lv' := [(2, .int 0), (0, .ref o), (1, .int t)]) hx hb dI_waits_17 rfl hl (by decide) rfl (fun ls hl => ?_)
      obtain ⟨f8, ha8, hf8⟩ := hR.arr
      refine lv_aload_n hx hb dI_waits_18 rfl (lv_at hl 1 rfl) ?_
      refine gg_get (v := .ref ar) hx hb hts in_I hown hK hB hR.top rfl 1 (by decide) k_28 rfl rfl dI_waits_19 ?_
      refine lv_astore_n (lv' := [(3, .ref ar), (2, .int 0), (0, .ref o), (1, .int t)]) hx hb dI_waits_22 rfl hl (by decide) rfl (fun ls hl => ?_)
      refine lv_aload_n hx hb dI_waits_23 rfl (lv_at hl 0 rfl) ?_
      refine gg_alen (v := 100) hx hb hK hB 0 ha8 rfl rfl dI_waits_24 ?_
      refine lv_istore (lv' := [(4, .int 100), (3, .ref ar), (2, .int 0), (0, .ref o), (1, .int t)]) hx hb dI_waits_25 hl (by decide) rfl (fun ls hl => ?_)
      refine lv_iconst (v := 0) hx hb dI_waits_27 (by decide) ?_
      refine lv_istore (lv' := [(5, .int 0), (4, .int 100), (3, .ref ar), (2, .int 0), (0, .ref o), (1, .int t)]) hx hb dI_waits_28 hl (by decide) rfl (fun ls hl => ?_)
      refine gLoopH (S := gM) (G := fun H locs ls => W p l e _ s m _ below meth c H locs 0 0 _ (F0 m 30 ls [])) (nL := 8) (fun k _ => [(5, .int (nI k)), (4, .int 100), (3, .ref ar), (2, .int (cti (fun q => (bW lw t q).isSome) σ0 cn k)), (1, .int t), (0, .ref o)]) (fun k M H locs => k ≤ cn ∧ gB (dC, dI) gcl z M s.heap H locs ∧ cW dA M0 M o ar ra sa la hs t lw cn (wσ lw t σ0 k)) 100 ?_ 0 M H locs (by omega) ⟨by omega, hB, by rw [wσ_0]; exact hR⟩ ls (lv_sub hl [0, 1, 2, 3, 5, 4] rfl)
      clear hR hB
      intro k M H locs hk9 hI ih ls hl
      obtain ⟨hkc, hB, hR⟩ := hI
      have hl : lv_has ls 8 [(5, .int (nI k)), (4, .int 100), (3, .ref ar), (2, .int (cti (fun q => (bW lw t q).isSome) σ0 cn k)), (1, .int t), (0, .ref o)] := hl
      refine lv_iload hx hb dI_waits_30 (lv_at hl 0 rfl) ?_
      refine lv_iload hx hb dI_waits_32 (lv_at hl 1 rfl) ?_
      refine lv_icmp_ge (tgt := 107) hx hb dI_waits_34 (by decide) (fun c34 => ?_) (fun c34 => ?_)
      · refine lv_iload_n hx hb dI_waits_107 rfl (lv_at hl 3 rfl) ?_
        have hkk : k = cn := by have h1 := nI_top (N := 100) (by decide) c34 hk9; have h2 := hR.c100; omega
        rw [hkk] at hR
        exact gg_iret hx hb hr hlocks hKA hB dI_waits_108 (by decide) (by decide) (cP_of (show sWaits hs lt lw cn σ0 t = (cti (fun q => (bW lw t q).isSome) σ0 cn cn, t, lw, cn, wσ lw t σ0 cn) from by simp [sWaits, hT1]) ⟨hR, by rw [hkk]⟩)
      · refine lv_aload_n hx hb dI_waits_37 rfl (lv_at hl 2 rfl) ?_
        refine lv_iload hx hb dI_waits_38 (lv_at hl 0 rfl) ?_
        have hlt : k < 100 := Nat.lt_of_not_le (fun q => c34 (nI_le q (by omega)))
        obtain ⟨f, ha, hf⟩ := hR.arr
        rcases Nat.lt_or_ge k cn with hin | hin
        · refine gg_aald (v := .ref (ra k)) hx hb hK hB 0 ha rfl (vp_in_nI hlt (by decide)) (by rw [nI_clamp (by omega), hf k hlt, if_pos hin]; rfl) dI_waits_40 ?_
          have hk := hin
          obtain ⟨σ, hσ⟩ : ∃ x, wσ lw t σ0 k = x := ⟨_, rfl⟩
          rw [hσ] at hR
          have h00 : σ k = σ0 k := by rw [← hσ, wσ_at]
          obtain ⟨⟨h, it, n, st, ho, db, du, fa, en, lf⟩, hq⟩ : ∃ q, σ k = q := ⟨_, rfl⟩
          have hq00 : σ0 k = (h, it, n, st, ho, db, du, fa, en, lf) := h00.symm.trans hq
          refine lv_astore (lv' := [(6, .ref (ra k)), (5, .int (nI k)), (4, .int 100), (3, .ref ar), (2, .int (cti (fun q => (bW lw t q).isSome) σ0 cn k)), (1, .int t), (0, .ref o)]) hx hb dI_waits_41 hl (by decide) rfl (fun ls hl => ?_)
          refine lv_aload hx hb dI_waits_43 (lv_at hl 0 rfl) ?_
          refine lv_ifnonnull (tgt := 51) hx hb dI_waits_45 (by decide) ?_
          refine lv_aload hx hb dI_waits_51 (lv_at hl 0 rfl) ?_
          refine gg_get (v := va_rf (Option.map (la k) ho)) hx hb hts in_Q hown hK hB (hR.q hk hq) rfl 5 (by decide) k_69 rfl rfl dI_waits_53 ?_
          rcases ho with _ | i
          · skip
            refine lv_astoreN (lv' := [(7, .null), (6, .ref (ra k)), (5, .int (nI k)), (4, .int 100), (3, .ref ar), (2, .int (cti (fun q => (bW lw t q).isSome) σ0 cn k)), (1, .int t), (0, .ref o)]) hx hb dI_waits_56 hl (by decide) rfl (fun ls hl => ?_)
            refine lv_aloadN hx hb dI_waits_58 (lv_at hl 0 rfl) ?_
            refine lv_ifnullN (tgt := 101) hx hb dI_waits_60 (by decide) ?_
            have hw : bW lw t (σ0 k) = none := by simp [bW, hq00, hT1]
            refine lv_iinc (v := ((nI k) + 1)) (lv' := [(5, .int ((nI k) + 1)), (7, .null), (6, .ref (ra k)), (4, .int 100), (3, .ref ar), (2, .int (cti (fun q => (bW lw t q).isSome) σ0 cn k)), (1, .int t), (0, .ref o)]) hx hb dI_waits_101 hl (k := 2) rfl rfl (by decide) rfl (fun ls hl => ?_)
            refine lv_goto (tgt := 30) hx hb dI_waits_104 (by decide) ?_
            exact ih M H locs hlt ⟨by omega, hB, by rw [wσ_n hw, hσ]; exact hR⟩ ls (lv_sub hl [0, 3, 4, 5, 6, 7] (by rw [← nI_1, cti_n (by rw [hw]; decide)]; rfl))
          · have hi9 : i < n := hR.ho hk hq i rfl
            refine lv_astore (lv' := [(7, .ref (la k i)), (6, .ref (ra k)), (5, .int (nI k)), (4, .int 100), (3, .ref ar), (2, .int (cti (fun q => (bW lw t q).isSome) σ0 cn k)), (1, .int t), (0, .ref o)]) hx hb dI_waits_56 hl (by decide) rfl (fun ls hl => ?_)
            refine lv_aload hx hb dI_waits_58 (lv_at hl 0 rfl) ?_
            refine lv_ifnull hx hb dI_waits_60 ?_
            refine lv_aload hx hb dI_waits_63 (lv_at hl 0 rfl) ?_
            refine gEndi (gRunV hF (c_L_isAwaited l dC dI dA z M (la k i) (lf i).1 (lf i).2.1 (lf i).2.2.1 (lf i).2.2.2 (hR.l hk hq hi9 rfl)) ln_I_120 hKA hB (hR.l hk hq hi9 rfl) rfl rfl hl.1 rfl (Nat.le_of_ble_eq_true rfl) dI_waits_65 ⟨rfl, rfl, (Nat.le_of_ble_eq_true rfl), (Nat.le_of_ble_eq_true rfl)⟩ ⟨(Nat.le_of_ble_eq_true rfl), (Nat.le_of_ble_eq_true rfl)⟩) hB (fun y2 M1 H locs hp hB => ?_)
            obtain ⟨e1, e2⟩ := hp
            rw [e1] at hB
            rw [bA_eq] at e2
            cases hA2 : bA (lf i).2.1 with
            | false =>
              have e2 : y2 = 0 := by rw [e2, hA2]; rfl
              subst e2
              refine lv_if_eq (tgt := 101) hx hb dI_waits_68 (by decide) (fun c68 => ?_) (fun c68 => ?_)
              · have hw : bW lw t (σ0 k) = none := by simp [bW, hq00, hT1, hA2, c68]
                refine lv_iinc (v := ((nI k) + 1)) (lv' := [(5, .int ((nI k) + 1)), (7, .ref (la k i)), (6, .ref (ra k)), (4, .int 100), (3, .ref ar), (2, .int (cti (fun q => (bW lw t q).isSome) σ0 cn k)), (1, .int t), (0, .ref o)]) hx hb dI_waits_101 hl (k := 2) rfl rfl (by decide) rfl (fun ls hl => ?_)
                refine lv_goto (tgt := 30) hx hb dI_waits_104 (by decide) ?_
                exact ih M H locs hlt ⟨by omega, hB, by rw [wσ_n hw, hσ]; exact hR⟩ ls (lv_sub hl [0, 3, 4, 5, 6, 7] (by rw [← nI_1, cti_n (by rw [hw]; decide)]; rfl))
              · exact (c68 (by decide)).elim
            | true =>
              have e2 : y2 = 1 := by rw [e2, hA2]; rfl
              subst e2
              refine lv_if_eq (tgt := 101) hx hb dI_waits_68 (by decide) (fun c68 => ?_) (fun c68 => ?_)
              · exact absurd c68 (by decide)
              · refine lv_iload_n hx hb dI_waits_71 rfl (lv_at hl 6 rfl) ?_
                refine lv_aload hx hb dI_waits_72 (lv_at hl 0 rfl) ?_
                refine gg_get (v := .int ((lf i).2.2.2)) hx hb hts in_L hown hK hB (hR.l hk hq hi9 rfl) rfl 3 (by decide) k_126 rfl rfl dI_waits_74 ?_
                refine lv_isub hx hb dI_waits_77 ?_
                refine lv_aload_n hx hb dI_waits_78 rfl (lv_at hl 7 rfl) ?_
                refine gg_get (v := .int lw) hx hb hts in_I hown hK hB hR.top rfl 4 (by decide) k_31 rfl rfl dI_waits_79 ?_
                refine lv_icmp_le (tgt := 101) hx hb dI_waits_82 (by decide) (fun c82 => ?_) (fun c82 => ?_)
                · have hw : bW lw t (σ0 k) = none := by simp [bW, hq00, hT1, hA2, c68, c82]
                  refine lv_iinc (v := ((nI k) + 1)) (lv' := [(5, .int ((nI k) + 1)), (7, .ref (la k i)), (6, .ref (ra k)), (4, .int 100), (3, .ref ar), (2, .int (cti (fun q => (bW lw t q).isSome) σ0 cn k)), (1, .int t), (0, .ref o)]) hx hb dI_waits_101 hl (k := 2) rfl rfl (by decide) rfl (fun ls hl => ?_)
                  refine lv_goto (tgt := 30) hx hb dI_waits_104 (by decide) ?_
                  exact ih M H locs hlt ⟨by omega, hB, by rw [wσ_n hw, hσ]; exact hR⟩ ls (lv_sub hl [0, 3, 4, 5, 6, 7] (by rw [← nI_1, cti_n (by rw [hw]; decide)]; rfl))
                · refine lv_aload hx hb dI_waits_85 (lv_at hl 0 rfl) ?_
                  refine lv_bipush (v := 7) hx hb dI_waits_87 (by decide) ?_
                  refine gg_put (ty := .int) (v := .int 7) hx hb hts in_L t_L t_L_ok n_L hown hK hB (hR.l hk hq hi9 rfl) rfl 1 (by decide) k_122 rfl rfl (by decide +kernel) rfl rfl (Nat.le_of_ble_eq_true rfl) dI_waits_89 (fun H locs hB => ?_)
                  have hR := hR.setl hk hq hi9 ((lf i).1, 7, (lf i).2.2.1, (lf i).2.2.2)
                  have hq : va_up σ k (h, it, n, st, some i, db, du, fa, en, va_up lf i ((lf i).1, 7, (lf i).2.2.1, (lf i).2.2.2)) k = (h, it, n, st, some i, db, du, fa, en, va_up lf i ((lf i).1, 7, (lf i).2.2.1, (lf i).2.2.2)) := va_up_self _ _ _
                  have hB : gB (dC, dI) gcl z (gU M (la k i) (oL ((lf i).1, 7, (lf i).2.2.1, (lf i).2.2.2))) s.heap H locs := hB
                  generalize gU M (la k i) (oL ((lf i).1, 7, (lf i).2.2.1, (lf i).2.2.2)) = M at hB hR
                  refine lv_aload hx hb dI_waits_92 (lv_at hl 1 rfl) ?_
                  refine lv_iload_n hx hb dI_waits_94 rfl (lv_at hl 6 rfl) ?_
                  refine gEndv (gRunV hF (c_Q_askNext l dC dI dA z M0 M o ar ra sa la hs t lw cn _ hR k hk t) ln_I_74 hKA hB (hR.q hk hq) rfl rfl hl.1 rfl (Nat.le_of_ble_eq_true rfl) dI_waits_95 ⟨rfl, rfl, (Nat.le_of_ble_eq_true rfl), (Nat.le_of_ble_eq_true rfl)⟩ ⟨(Nat.le_of_ble_eq_true rfl), (Nat.le_of_ble_eq_true rfl)⟩) hB (fun M1 H locs hp hB => ?_)
                  rw [hq, bx_uu] at hp
                  have hR := hp
                  generalize M1 = M at hB hR
                  refine lv_iinc (v := ((cti (fun q => (bW lw t q).isSome) σ0 cn k) + 1)) (lv' := [(2, .int ((cti (fun q => (bW lw t q).isSome) σ0 cn k) + 1)), (7, .ref (la k i)), (6, .ref (ra k)), (5, .int (nI k)), (4, .int 100), (3, .ref ar), (1, .int t), (0, .ref o)]) hx hb dI_waits_98 hl (k := 5) rfl rfl (by decide) rfl (fun ls hl => ?_)
                  have hw : bW lw t (σ0 k) = some i := by simp [bW, hq00, hT1, c5, c34, hA2, c68, c82]
                  refine lv_iinc (v := ((nI k) + 1)) (lv' := [(5, .int ((nI k) + 1)), (2, .int ((cti (fun q => (bW lw t q).isSome) σ0 cn k) + 1)), (7, .ref (la k i)), (6, .ref (ra k)), (4, .int 100), (3, .ref ar), (1, .int t), (0, .ref o)]) hx hb dI_waits_101 hl (k := 3) rfl rfl (by decide) rfl (fun ls hl => ?_)
                  refine lv_goto (tgt := 30) hx hb dI_waits_104 (by decide) ?_
                  exact ih M H locs hlt ⟨by omega, hB, by rw [wσ_s hw, hσ, hq00]; simp only [qpass, lset]; exact hR⟩ ls (lv_sub hl [0, 4, 5, 1, 6, 7] (by rw [← nI_1, cti_y hin (by rw [hw]; rfl)]; rfl))
        · refine gg_aald (v := .null) hx hb hK hB 0 ha rfl (vp_in_nI hlt (by decide)) (by rw [nI_clamp (by omega), hf k hlt, if_neg (Nat.not_lt.mpr hin)]; rfl) dI_waits_40 ?_
          have hkk : k = cn := by omega
          refine lv_astoreN (lv' := [(6, .null), (5, .int (nI k)), (4, .int 100), (3, .ref ar), (2, .int (cti (fun q => (bW lw t q).isSome) σ0 cn k)), (1, .int t), (0, .ref o)]) hx hb dI_waits_41 hl (by decide) rfl (fun ls hl => ?_)
          refine lv_aloadN hx hb dI_waits_43 (lv_at hl 0 rfl) ?_
          refine lv_ifnonnullN hx hb dI_waits_45 ?_
          refine lv_goto (tgt := 107) hx hb dI_waits_48 (by decide) ?_
          refine lv_iload_n hx hb dI_waits_107 rfl (lv_at hl 4 rfl) ?_
          rw [hkk] at hR
          exact gg_iret hx hb hr hlocks hKA hB dI_waits_108 (by decide) (by decide) (cP_of (show sWaits hs lt lw cn σ0 t = (cti (fun q => (bW lw t q).isSome) σ0 cn cn, t, lw, cn, wσ lw t σ0 cn) from by simp [sWaits, hT1]) ⟨hR, by rw [hkk]⟩)
    · exact absurd c5 (by decide)
