/-! The reference's small methods -/
set_option maxHeartbeats 4000000 in
set_option maxRecDepth 100000 in
theorem c_M_in (l : Launch) (dC : Nat → ClassId) (dI : Nat → Nat → Nat) (dA : Nat → ClassId) (z : Nat) (M : gM) (v lo hi : Int32) : gMi l dC dI dA z y_M_in b_M_in 3 (Option.some FieldType.boolean) ⟨0, 0, 0, 0⟩ [.int v, .int lo, .int hi] M (fun y M1 => M1 = M ∧ y = if bI v lo hi then 1 else 0) 0 0 := by
  refine gOfW (by decide) (Nat.le_of_ble_eq_true rfl) ?_
  intro p e s m below meth c ls hF hr hlocks hnm hKA hB hl
  obtain ⟨hx, hb, hml, hown, hts⟩ := id hF
  have hK := hKA.1
  have hl : lv_has ls 3 [(0, .int v), (1, .int lo), (2, .int hi)] := hl
  refine lv_iload_n hx hb dM_in_0 rfl (lv_at hl 0 rfl) ?_
  refine lv_iload_n hx hb dM_in_1 rfl (lv_at hl 1 rfl) ?_
  refine lv_icmp_lt (tgt := 14) hx hb dM_in_2 (by decide) (fun c2 => ?_) (fun c2 => ?_)
  · refine lv_iconst (v := 0) hx hb dM_in_14 (by decide) ?_
    exact gg_zret hx hb hr hlocks hKA hB dM_in_15 rfl (by decide) (by decide) ⟨rfl, by simp [bI, c2]⟩
  · refine lv_iload_n hx hb dM_in_5 rfl (lv_at hl 0 rfl) ?_
    refine lv_iload_n hx hb dM_in_6 rfl (lv_at hl 2 rfl) ?_
    refine lv_icmp_gt (tgt := 14) hx hb dM_in_7 (by decide) (fun c7 => ?_) (fun c7 => ?_)
    · refine lv_iconst (v := 0) hx hb dM_in_14 (by decide) ?_
      exact gg_zret hx hb hr hlocks hKA hB dM_in_15 rfl (by decide) (by decide) ⟨rfl, by simp [bI, c2, c7]⟩
    · refine lv_iconst (v := 1) hx hb dM_in_10 (by decide) ?_
      refine lv_goto (tgt := 15) hx hb dM_in_11 (by decide) ?_
      exact gg_zret hx hb hr hlocks hKA hB dM_in_15 rfl (by decide) (by decide) ⟨rfl, by simp [bI, c2, c7]⟩
set_option maxHeartbeats 4000000 in
set_option maxRecDepth 100000 in
theorem c_M_isHouse (l : Launch) (dC : Nat → ClassId) (dI : Nat → Nat → Nat) (dA : Nat → ClassId) (z : Nat) (M0 M : gM) (mo : Nat) (ad : Nat → Nat) (th lt hs lw : Int32) (cn : Nat) (σ : Nat → Rq) (f : Nat → Nat → Int32) (hR : mW dA M0 M mo ad th lt hs lw cn σ f) (hh : hsOk hs) (x : Int32) : gMi l dC dI dA z y_M_isHouse b_M_isHouse 2 (Option.some FieldType.boolean) ⟨1, 0, 0, 22⟩ [.ref mo, .int x] M (fun y M1 => M1 = M ∧ y = if bH hs x then 1 else 0) 0 0 := by
  refine gOfW (by decide) (Nat.le_of_ble_eq_true rfl) ?_
  intro p e s m below meth c ls hF hr hlocks hnm hKA hB hl
  obtain ⟨hx, hb, hml, hown, hts⟩ := id hF
  have hK := hKA.1
  have hl : lv_has ls 2 [(0, .ref mo), (1, .int x)] := hl
  refine lv_iload_n hx hb dM_isHouse_0 rfl (lv_at hl 1 rfl) ?_
  refine lv_iconst (v := 0) hx hb dM_isHouse_1 (by decide) ?_
  refine lv_aload_n hx hb dM_isHouse_2 rfl (lv_at hl 0 rfl) ?_
  refine gg_get (v := .int hs) hx hb hts in_M hown hK hB hR.top rfl 2 (by decide) k_344 rfl rfl dM_isHouse_3 ?_
  refine lv_iconst (v := 1) hx hb dM_isHouse_6 (by decide) ?_
  refine lv_isub hx hb dM_isHouse_7 ?_
  refine gEndi (gRunS hF (c_M_in l dC dI dA z M x 0 (hs - 1)) ln_M_57 hKA hB rfl hl.1 rfl (Nat.le_of_ble_eq_true rfl) dM_isHouse_8 ⟨rfl, rfl, (Nat.le_of_ble_eq_true rfl), (Nat.le_of_ble_eq_true rfl)⟩ ⟨(Nat.le_of_ble_eq_true rfl), (Nat.le_of_ble_eq_true rfl)⟩) hB (fun y1 M1 H locs hp hB => ?_)
  obtain ⟨e1, e2⟩ := hp
  rw [e1] at hB
  rw [bI_H hh] at e2
  have hz : narrow .boolean (.int y1) = .int y1 := by rw [e2]; split <;> rfl
  exact gg_zret hx hb hr hlocks hKA hB dM_isHouse_11 hz (by decide) (by decide) ⟨rfl, e2⟩
set_option maxHeartbeats 4000000 in
set_option maxRecDepth 100000 in
theorem c_M_isRequest (l : Launch) (dC : Nat → ClassId) (dI : Nat → Nat → Nat) (dA : Nat → ClassId) (z : Nat) (M0 M : gM) (mo : Nat) (ad : Nat → Nat) (th lt hs lw : Int32) (cn : Nat) (σ : Nat → Rq) (f : Nat → Nat → Int32) (hR : mW dA M0 M mo ad th lt hs lw cn σ f) (x : Int32) : gMi l dC dI dA z y_M_isRequest b_M_isRequest 2 (Option.some FieldType.boolean) ⟨1, 0, 0, 22⟩ [.ref mo, .int x] M (fun y M1 => M1 = M ∧ y = if (ix cn x).isSome then 1 else 0) 0 0 := by
  refine gOfW (by decide) (Nat.le_of_ble_eq_true rfl) ?_
  intro p e s m below meth c ls hF hr hlocks hnm hKA hB hl
  obtain ⟨hx, hb, hml, hown, hts⟩ := id hF
  have hK := hKA.1
  have hl : lv_has ls 2 [(0, .ref mo), (1, .int x)] := hl
  refine lv_iload_n hx hb dM_isRequest_0 rfl (lv_at hl 1 rfl) ?_
  refine lv_iconst (v := 0) hx hb dM_isRequest_1 (by decide) ?_
  refine lv_aload_n hx hb dM_isRequest_2 rfl (lv_at hl 0 rfl) ?_
  refine gg_get (v := .int (nI cn)) hx hb hts in_M hown hK hB hR.top rfl 4 (by decide) k_346 rfl rfl dM_isRequest_3 ?_
  refine lv_iconst (v := 1) hx hb dM_isRequest_6 (by decide) ?_
  refine lv_isub hx hb dM_isRequest_7 ?_
  refine gEndi (gRunS hF (c_M_in l dC dI dA z M x 0 ((nI cn) - 1)) ln_M_57 hKA hB rfl hl.1 rfl (Nat.le_of_ble_eq_true rfl) dM_isRequest_8 ⟨rfl, rfl, (Nat.le_of_ble_eq_true rfl), (Nat.le_of_ble_eq_true rfl)⟩ ⟨(Nat.le_of_ble_eq_true rfl), (Nat.le_of_ble_eq_true rfl)⟩) hB (fun y1 M1 H locs hp hB => ?_)
  obtain ⟨e1, e2⟩ := hp
  rw [e1] at hB
  rw [bI_ix hR.c100] at e2
  have hz : narrow .boolean (.int y1) = .int y1 := by rw [e2]; split <;> rfl
  exact gg_zret hx hb hr hlocks hKA hB dM_isRequest_11 hz (by decide) (by decide) ⟨rfl, e2⟩
set_option maxHeartbeats 4000000 in
set_option maxRecDepth 100000 in
theorem c_M_isNow (l : Launch) (dC : Nat → ClassId) (dI : Nat → Nat → Nat) (dA : Nat → ClassId) (z : Nat) (M0 M : gM) (mo : Nat) (ad : Nat → Nat) (th lt hs lw : Int32) (cn : Nat) (σ : Nat → Rq) (f : Nat → Nat → Int32) (hR : mW dA M0 M mo ad th lt hs lw cn σ f) (x : Int32) : gMi l dC dI dA z y_M_isNow b_M_isNow 2 (Option.some FieldType.boolean) ⟨1, 0, 0, 22⟩ [.ref mo, .int x] M (fun y M1 => M1 = M ∧ y = if bT lt x then 1 else 0) 0 0 := by
  refine gOfW (by decide) (Nat.le_of_ble_eq_true rfl) ?_
  intro p e s m below meth c ls hF hr hlocks hnm hKA hB hl
  obtain ⟨hx, hb, hml, hown, hts⟩ := id hF
  have hK := hKA.1
  have hl : lv_has ls 2 [(0, .ref mo), (1, .int x)] := hl
  refine lv_iload_n hx hb dM_isNow_0 rfl (lv_at hl 1 rfl) ?_
  refine lv_aload_n hx hb dM_isNow_1 rfl (lv_at hl 0 rfl) ?_
  refine gg_get (v := .int lt) hx hb hts in_M hown hK hB hR.top rfl 1 (by decide) k_343 rfl rfl dM_isNow_2 ?_
  refine lv_ldc (v := 1000000000) hx hb hown (hts _ k_427) dM_isNow_5 ?_
  refine gEndi (gRunS hF (c_M_in l dC dI dA z M x lt 1000000000) ln_M_57 hKA hB rfl hl.1 rfl (Nat.le_of_ble_eq_true rfl) dM_isNow_7 ⟨rfl, rfl, (Nat.le_of_ble_eq_true rfl), (Nat.le_of_ble_eq_true rfl)⟩ ⟨(Nat.le_of_ble_eq_true rfl), (Nat.le_of_ble_eq_true rfl)⟩) hB (fun y1 M1 H locs hp hB => ?_)
  obtain ⟨e1, e2⟩ := hp
  rw [e1] at hB
  rw [show bI x lt 1000000000 = bT lt x from rfl] at e2
  have hz : narrow .boolean (.int y1) = .int y1 := by rw [e2]; split <;> rfl
  exact gg_zret hx hb hr hlocks hKA hB dM_isNow_10 hz (by decide) (by decide) ⟨rfl, e2⟩
set_option maxHeartbeats 4000000 in
set_option maxRecDepth 100000 in
theorem c_M_thrown (l : Launch) (dC : Nat → ClassId) (dI : Nat → Nat → Nat) (dA : Nat → ClassId) (z : Nat) (M0 M : gM) (mo : Nat) (ad : Nat → Nat) (th lt hs lw : Int32) (cn : Nat) (σ : Nat → Rq) (f : Nat → Nat → Int32) (hR : mW dA M0 M mo ad th lt hs lw cn σ f)  : gMi l dC dI dA z y_M_thrown b_M_thrown 1 (Option.some FieldType.int) ⟨0, 0, 0, 0⟩ [.ref mo] M (fun y M1 => M1 = M ∧ y = th) 0 0 := by
  refine gOfW (by decide) (Nat.le_of_ble_eq_true rfl) ?_
  intro p e s m below meth c ls hF hr hlocks hnm hKA hB hl
  obtain ⟨hx, hb, hml, hown, hts⟩ := id hF
  have hK := hKA.1
  have hl : lv_has ls 1 [(0, .ref mo)] := hl
  refine lv_aload_n hx hb dM_thrown_0 rfl (lv_at hl 0 rfl) ?_
  refine gg_get (v := .int th) hx hb hts in_M hown hK hB hR.top rfl 0 (by decide) k_342 rfl rfl dM_thrown_1 ?_
  exact gg_iret hx hb hr hlocks hKA hB dM_thrown_4 (by decide) (by decide) ⟨rfl, rfl⟩
set_option maxHeartbeats 4000000 in
set_option maxRecDepth 100000 in
theorem c_M_end (l : Launch) (dC : Nat → ClassId) (dI : Nat → Nat → Nat) (dA : Nat → ClassId) (z : Nat) (M0 M : gM) (mo : Nat) (ad : Nat → Nat) (th lt hs lw : Int32) (cn : Nat) (σ : Nat → Rq) (f : Nat → Nat → Int32) (hR : mW dA M0 M mo ad th lt hs lw cn σ f) (k : Nat) (hk : k < cn) (h it : Int32) (n : Nat) (st : Int32) (ho : Option Nat) (db du fa en : Int32) (lf : Nat → Ld) (hq : σ k = (h, it, n, st, ho, db, du, fa, en, lf)) (v t : Int32) : gMv l dC dI dA z y_M_end b_M_end 4 (Option.none : Option FieldType) ⟨0, 0, 0, 0⟩ [.ref mo, .int (nI k), .int v, .int t] M (fun M1 => ∃ f1, mW dA M0 M1 mo ad th lt hs lw cn (va_up σ k (h, it, n, v, ho, db, du, fa, t, lf)) f1) 0 0 := by
  refine gOfW (by decide) (Nat.le_of_ble_eq_true rfl) ?_
  intro p e s m below meth c ls hF hr hlocks hnm hKA hB hl
  obtain ⟨hx, hb, hml, hown, hts⟩ := id hF
  have hK := hKA.1
  have hl : lv_has ls 4 [(0, .ref mo), (1, .int (nI k)), (2, .int v), (3, .int t)] := hl
  refine lv_aload_n hx hb dM_end_0 rfl (lv_at hl 0 rfl) ?_
  refine gg_get (v := .ref (ad 2)) hx hb hts in_M hown hK hB hR.top rfl 7 (by decide) k_349 rfl rfl dM_end_1 ?_
  refine lv_iload_n hx hb dM_end_4 rfl (lv_at hl 1 rfl) ?_
  refine lv_iload_n hx hb dM_end_5 rfl (lv_at hl 2 rfl) ?_
  refine gg_iast hx hb hK hB 2 (hR.ar 2 (by decide)) rfl (vp_in_nI (ml_lo (by decide) (by have := hR.c100; omega)) (ml_lt _)) dM_end_6 (fun H locs hB => ?_)
  rw [nI_clamp (by have := hR.c100; omega)] at hB
  have hR := hR.put 2 (by decide) k v (hR.re.setq hk hq 2 v (h, it, n, v, ho, db, du, fa, en, lf) rfl rfl (by decide) ⟨(u2_j (by decide)).trans (hR.r hk hq).1, (u2_j (by decide)).trans (hR.r hk hq).2.1, u2_s _ _ _ _, (u2_j (by decide)).trans (hR.r hk hq).2.2.2.1, (u2_j (by decide)).trans (hR.r hk hq).2.2.2.2.1, (u2_j (by decide)).trans (hR.r hk hq).2.2.2.2.2.1, (u2_j (by decide)).trans (hR.r hk hq).2.2.2.2.2.2.1, (u2_j (by decide)).trans (hR.r hk hq).2.2.2.2.2.2.2⟩)
  have hq : va_up σ k (h, it, n, v, ho, db, du, fa, en, lf) k = (h, it, n, v, ho, db, du, fa, en, lf) := va_up_self _ _ _
  have hB : gB (dC, dI) gcl z (gU M (ad 2) (aI dA (ml 2) (upd (f 2) k v))) s.heap H locs := hB
  generalize gU M (ad 2) (aI dA (ml 2) (upd (f 2) k v)) = M at hB hR
  generalize u2 f 2 k v = f at hR
  refine lv_aload_n hx hb dM_end_7 rfl (lv_at hl 0 rfl) ?_
  refine gg_get (v := .ref (ad 7)) hx hb hts in_M hown hK hB hR.top rfl 12 (by decide) k_354 rfl rfl dM_end_8 ?_
  refine lv_iload_n hx hb dM_end_11 rfl (lv_at hl 1 rfl) ?_
  refine lv_iload_n hx hb dM_end_12 rfl (lv_at hl 3 rfl) ?_
  refine gg_iast hx hb hK hB 2 (hR.ar 7 (by decide)) rfl (vp_in_nI (ml_lo (by decide) (by have := hR.c100; omega)) (ml_lt _)) dM_end_13 (fun H locs hB => ?_)
  rw [nI_clamp (by have := hR.c100; omega)] at hB
  have hR := hR.put 7 (by decide) k t (hR.re.setq hk hq 7 t (h, it, n, v, ho, db, du, fa, t, lf) rfl rfl (by decide) ⟨(u2_j (by decide)).trans (hR.r hk hq).1, (u2_j (by decide)).trans (hR.r hk hq).2.1, (u2_j (by decide)).trans (hR.r hk hq).2.2.1, (u2_j (by decide)).trans (hR.r hk hq).2.2.2.1, (u2_j (by decide)).trans (hR.r hk hq).2.2.2.2.1, (u2_j (by decide)).trans (hR.r hk hq).2.2.2.2.2.1, (u2_j (by decide)).trans (hR.r hk hq).2.2.2.2.2.2.1, u2_s _ _ _ _⟩)
  simp only [bx_uu] at hR
  have hq : va_up σ k (h, it, n, v, ho, db, du, fa, t, lf) k = (h, it, n, v, ho, db, du, fa, t, lf) := va_up_self _ _ _
  have hB : gB (dC, dI) gcl z (gU M (ad 7) (aI dA (ml 7) (upd (f 7) k t))) s.heap H locs := hB
  generalize gU M (ad 7) (aI dA (ml 7) (upd (f 7) k t)) = M at hB hR
  generalize u2 f 7 k t = f at hR
  exact gg_vret hx hb hr hlocks hKA hB dM_end_14 (by decide) (by decide) ⟨_, hR⟩
set_option maxHeartbeats 4000000 in
set_option maxRecDepth 100000 in
theorem c_M_may (l : Launch) (dC : Nat → ClassId) (dI : Nat → Nat → Nat) (dA : Nat → ClassId) (z : Nat) (M0 M : gM) (mo : Nat) (ad : Nat → Nat) (th lt hs lw : Int32) (cn : Nat) (σ : Nat → Rq) (f : Nat → Nat → Int32) (hR : mW dA M0 M mo ad th lt hs lw cn σ f) (k : Nat) (hk : k < cn) (l9 kind : Int32) : gMi l dC dI dA z y_M_may b_M_may 4 (Option.some FieldType.boolean) ⟨0, 0, 0, 0⟩ [.ref mo, .int (nI k), .int l9, .int kind] M (fun y M1 => M1 = M ∧ y = if bY kind (σ k).2.2.2.1 l9 then 1 else 0) 0 0 := by
  refine gOfW (by decide) (Nat.le_of_ble_eq_true rfl) ?_
  intro p e s m below meth c ls hF hr hlocks hnm hKA hB hl
  obtain ⟨hx, hb, hml, hown, hts⟩ := id hF
  have hK := hKA.1
  have hl : lv_has ls 4 [(0, .ref mo), (1, .int (nI k)), (2, .int l9), (3, .int kind)] := hl
  obtain ⟨⟨h, it, n, st, ho, db, du, fa, en, lf⟩, hq⟩ : ∃ q, σ k = q := ⟨_, rfl⟩
  have hq0 := hq
  refine lv_iload_n hx hb dM_may_0 rfl (lv_at hl 3 rfl) ?_
  by_cases s1_1 : kind = 1
  · refine lv_tableIn (tgt := 32) hx hb dM_may_1 (by rw [s1_1]; decide) (by rw [s1_1]; decide) (by rw [s1_1]; rfl) (by decide) ?_
    refine lv_iload_n hx hb dM_may_32 rfl (lv_at hl 2 rfl) ?_
    refine lv_iconst (v := 1) hx hb dM_may_33 (by decide) ?_
    refine lv_icmp_ne (tgt := 41) hx hb dM_may_34 (by decide) (fun c34 => ?_) (fun c34 => ?_)
    · refine lv_iconst (v := 0) hx hb dM_may_41 (by decide) ?_
      exact gg_zret hx hb hr hlocks hKA hB dM_may_42 rfl (by decide) (by decide) ⟨rfl, by simp [bY, hq0, s1_1, c34]⟩
    · refine lv_iconst (v := 1) hx hb dM_may_37 (by decide) ?_
      refine lv_goto (tgt := 42) hx hb dM_may_38 (by decide) ?_
      exact gg_zret hx hb hr hlocks hKA hB dM_may_42 rfl (by decide) (by decide) ⟨rfl, by simp [bY, hq0, s1_1, c34]⟩
  by_cases s1_2 : kind = 2
  · refine lv_tableIn (tgt := 43) hx hb dM_may_1 (by rw [s1_2]; decide) (by rw [s1_2]; decide) (by rw [s1_2]; rfl) (by decide) ?_
    refine lv_iload_n hx hb dM_may_43 rfl (lv_at hl 2 rfl) ?_
    refine lv_iconst (v := 1) hx hb dM_may_44 (by decide) ?_
    refine lv_icmp_eq (tgt := 53) hx hb dM_may_45 (by decide) (fun c45 => ?_) (fun c45 => ?_)
    · refine lv_iconst (v := 1) hx hb dM_may_53 (by decide) ?_
      refine lv_goto (tgt := 58) hx hb dM_may_54 (by decide) ?_
      exact gg_zret hx hb hr hlocks hKA hB dM_may_58 rfl (by decide) (by decide) ⟨rfl, by simp [bY, hq0, s1_2, c45]⟩
    · refine lv_iload_n hx hb dM_may_48 rfl (lv_at hl 2 rfl) ?_
      refine lv_iconst (v := 3) hx hb dM_may_49 (by decide) ?_
      refine lv_icmp_ne (tgt := 57) hx hb dM_may_50 (by decide) (fun c50 => ?_) (fun c50 => ?_)
      · refine lv_iconst (v := 0) hx hb dM_may_57 (by decide) ?_
        exact gg_zret hx hb hr hlocks hKA hB dM_may_58 rfl (by decide) (by decide) ⟨rfl, by simp [bY, hq0, s1_2, c45, c50]⟩
      · refine lv_iconst (v := 1) hx hb dM_may_53 (by decide) ?_
        refine lv_goto (tgt := 58) hx hb dM_may_54 (by decide) ?_
        exact gg_zret hx hb hr hlocks hKA hB dM_may_58 rfl (by decide) (by decide) ⟨rfl, by simp [bY, hq0, s1_2, c45, c50]⟩
  by_cases s1_3 : kind = 3
  · refine lv_tableIn (tgt := 32) hx hb dM_may_1 (by rw [s1_3]; decide) (by rw [s1_3]; decide) (by rw [s1_3]; rfl) (by decide) ?_
    refine lv_iload_n hx hb dM_may_32 rfl (lv_at hl 2 rfl) ?_
    refine lv_iconst (v := 1) hx hb dM_may_33 (by decide) ?_
    refine lv_icmp_ne (tgt := 41) hx hb dM_may_34 (by decide) (fun c34 => ?_) (fun c34 => ?_)
    · refine lv_iconst (v := 0) hx hb dM_may_41 (by decide) ?_
      exact gg_zret hx hb hr hlocks hKA hB dM_may_42 rfl (by decide) (by decide) ⟨rfl, by simp [bY, hq0, s1_3, c34]⟩
    · refine lv_iconst (v := 1) hx hb dM_may_37 (by decide) ?_
      refine lv_goto (tgt := 42) hx hb dM_may_38 (by decide) ?_
      exact gg_zret hx hb hr hlocks hKA hB dM_may_42 rfl (by decide) (by decide) ⟨rfl, by simp [bY, hq0, s1_3, c34]⟩
  by_cases s1_4 : kind = 4
  · refine lv_tableIn (tgt := 43) hx hb dM_may_1 (by rw [s1_4]; decide) (by rw [s1_4]; decide) (by rw [s1_4]; rfl) (by decide) ?_
    refine lv_iload_n hx hb dM_may_43 rfl (lv_at hl 2 rfl) ?_
    refine lv_iconst (v := 1) hx hb dM_may_44 (by decide) ?_
    refine lv_icmp_eq (tgt := 53) hx hb dM_may_45 (by decide) (fun c45 => ?_) (fun c45 => ?_)
    · refine lv_iconst (v := 1) hx hb dM_may_53 (by decide) ?_
      refine lv_goto (tgt := 58) hx hb dM_may_54 (by decide) ?_
      exact gg_zret hx hb hr hlocks hKA hB dM_may_58 rfl (by decide) (by decide) ⟨rfl, by simp [bY, hq0, s1_4, c45]⟩
    · refine lv_iload_n hx hb dM_may_48 rfl (lv_at hl 2 rfl) ?_
      refine lv_iconst (v := 3) hx hb dM_may_49 (by decide) ?_
      refine lv_icmp_ne (tgt := 57) hx hb dM_may_50 (by decide) (fun c50 => ?_) (fun c50 => ?_)
      · refine lv_iconst (v := 0) hx hb dM_may_57 (by decide) ?_
        exact gg_zret hx hb hr hlocks hKA hB dM_may_58 rfl (by decide) (by decide) ⟨rfl, by simp [bY, hq0, s1_4, c45, c50]⟩
      · refine lv_iconst (v := 1) hx hb dM_may_53 (by decide) ?_
        refine lv_goto (tgt := 58) hx hb dM_may_54 (by decide) ?_
        exact gg_zret hx hb hr hlocks hKA hB dM_may_58 rfl (by decide) (by decide) ⟨rfl, by simp [bY, hq0, s1_4, c45, c50]⟩
  · refine lv_tableOut (tgt := 59) hx hb dM_may_1 (by have := lv_neT s1_1 (a := 1) (by decide); have := lv_neT s1_2 (a := 2) (by decide); have := lv_neT s1_3 (a := 3) (by decide); have := lv_neT s1_4 (a := 4) (by decide); omega) (by decide) ?_
    refine lv_iload_n hx hb dM_may_59 rfl (lv_at hl 2 rfl) ?_
    refine lv_iconst (v := 4) hx hb dM_may_60 (by decide) ?_
    refine lv_icmp_ne (tgt := 78) hx hb dM_may_61 (by decide) (fun c61 => ?_) (fun c61 => ?_)
    · refine lv_iconst (v := 0) hx hb dM_may_78 (by decide) ?_
      exact gg_zret hx hb hr hlocks hKA hB dM_may_79 rfl (by decide) (by decide) ⟨rfl, by simp [bY, hq0, s1_1, s1_2, s1_3, s1_4, c61]⟩
    · refine lv_aload_n hx hb dM_may_64 rfl (lv_at hl 0 rfl) ?_
      refine gg_get (v := .ref (ad 2)) hx hb hts in_M hown hK hB hR.top rfl 7 (by decide) k_349 rfl rfl dM_may_65 ?_
      refine lv_iload_n hx hb dM_may_68 rfl (lv_at hl 1 rfl) ?_
      refine gg_iald (v := st) hx hb hK hB 2 (hR.ar 2 (by decide)) rfl (vp_in_nI (ml_lo (by decide) (by have := hR.c100; omega)) (ml_lt _)) (by rw [nI_clamp (by have := hR.c100; omega)]; exact (hR.r hk hq).2.2.1) dM_may_69 ?_
      refine lv_iconst (v := 5) hx hb dM_may_70 (by decide) ?_
      refine lv_icmp_ne (tgt := 78) hx hb dM_may_71 (by decide) (fun c71 => ?_) (fun c71 => ?_)
      · refine lv_iconst (v := 0) hx hb dM_may_78 (by decide) ?_
        exact gg_zret hx hb hr hlocks hKA hB dM_may_79 rfl (by decide) (by decide) ⟨rfl, by simp [bY, hq0, s1_1, s1_2, s1_3, s1_4, c61, c71]⟩
      · refine lv_iconst (v := 1) hx hb dM_may_74 (by decide) ?_
        refine lv_goto (tgt := 79) hx hb dM_may_75 (by decide) ?_
        exact gg_zret hx hb hr hlocks hKA hB dM_may_79 rfl (by decide) (by decide) ⟨rfl, by simp [bY, hq0, s1_1, s1_2, s1_3, s1_4, c61, c71]⟩
set_option maxHeartbeats 4000000 in
set_option maxRecDepth 100000 in
theorem c_M_holder (l : Launch) (dC : Nat → ClassId) (dI : Nat → Nat → Nat) (dA : Nat → ClassId) (z : Nat) (M0 M : gM) (mo : Nat) (ad : Nat → Nat) (th lt hs lw : Int32) (cn : Nat) (σ : Nat → Rq) (f : Nat → Nat → Int32) (hR : mW dA M0 M mo ad th lt hs lw cn σ f) (k : Nat) (hk : k < cn) (hv : inv (σ k)) : gMi l dC dI dA z y_M_holder b_M_holder 3 (Option.some FieldType.int) ⟨1, 0, 0, 22⟩ [.ref mo, .int (nI k)] M (fun y M1 => M1 = M ∧ y = ahold k (σ k).2.2.2.2.1) 0 0 := by
  refine gOfW (by decide) (Nat.le_of_ble_eq_true rfl) ?_
  intro p e s m below meth c ls hF hr hlocks hnm hKA hB hl
  obtain ⟨hx, hb, hml, hown, hts⟩ := id hF
  have hK := hKA.1
  have hl : lv_has ls 3 [(0, .ref mo), (1, .int (nI k))] := hl
  obtain ⟨⟨h, it, n, st, ho, db, du, fa, en, lf⟩, hq⟩ : ∃ q, σ k = q := ⟨_, rfl⟩
  have hq0 := hq
  have hv9 : ff p15 lf n 0 = (σ k).2.2.2.2.1 := by have := hv.ff; rw [hq] at this ⊢; exact this
  refine lv_bipush (v := 8) hx hb dM_holder_0 (by decide) ?_
  refine lv_iload_n hx hb dM_holder_2 rfl (lv_at hl 1 rfl) ?_
  refine lv_imul hx hb dM_holder_3 ?_
  rw [gm8 k]
  refine lv_istore_n (lv' := [(2, .int (nI (8 * k))), (0, .ref mo), (1, .int (nI k))]) hx hb dM_holder_4 rfl hl (by decide) rfl (fun ls hl => ?_)
  refine gLoopH (S := Unit) (G := fun H locs ls => W p l e _ s m _ below meth c H locs 0 0 _ (F0 m 5 ls [])) (nL := 3) (fun i _ => [(2, .int (nI (8 * k + i))), (1, .int (nI k)), (0, .ref mo)]) (fun i _ H locs => gB (dC, dI) gcl z M s.heap H locs ∧ ff p15 lf (n - i) i = ff p15 lf n 0) n ?_ 0 () s.heap [] (Nat.zero_le _) ⟨hB, rfl⟩ ls (lv_sub hl [0, 2, 1] rfl)
  intro i _ H locs hi9 hI9 ih ls hl
  obtain ⟨hB, hI⟩ := hI9
  have hl : lv_has ls 3 [(2, .int (nI (8 * k + i))), (1, .int (nI k)), (0, .ref mo)] := hl
  refine lv_iload_n hx hb dM_holder_5 rfl (lv_at hl 0 rfl) ?_
  refine lv_bipush (v := 8) hx hb dM_holder_6 (by decide) ?_
  refine lv_iload_n hx hb dM_holder_8 rfl (lv_at hl 1 rfl) ?_
  refine lv_imul hx hb dM_holder_9 ?_
  rw [gm8 k]
  refine lv_aload_n hx hb dM_holder_10 rfl (lv_at hl 2 rfl) ?_
  refine gg_get (v := .ref (ad 3)) hx hb hts in_M hown hK hB hR.top rfl 8 (by decide) k_350 rfl rfl dM_holder_11 ?_
  refine lv_iload_n hx hb dM_holder_14 rfl (lv_at hl 1 rfl) ?_
  refine gg_iald (v := (nI n)) hx hb hK hB 2 (hR.ar 3 (by decide)) rfl (vp_in_nI (ml_lo (by decide) (by have := hR.c100; omega)) (ml_lt _)) (by rw [nI_clamp (by have := hR.c100; omega)]; exact (hR.r hk hq).2.2.2.1) dM_holder_15 ?_
  refine lv_iadd hx hb dM_holder_16 ?_
  rw [nI_add (8 * k) n]
  refine lv_icmp_ge (tgt := 42) hx hb dM_holder_17 (by decide) (fun c17 => ?_) (fun c17 => ?_)
  · refine lv_iconst (v := (-1)) hx hb dM_holder_42 (by decide) ?_
    exact gg_iret hx hb hr hlocks hKA hB dM_holder_43 (by decide) (by decide) ⟨rfl, by rw [← hv9, ← hI, ff_e (by have h9 : 8 * k + n ≤ 8 * k + i := (nI_leI (by have := hR.c100; have h8 : n ≤ 8 := hR.n8 hk hq; omega) (by have := hR.c100; have h8 : n ≤ 8 := hR.n8 hk hq; omega)).mp c17; omega)]; rfl⟩
  · have hin : i < n := by have h9 : 8 * k + i < 8 * k + n := Nat.lt_of_not_le (fun q => c17 (nI_le q (by have := hR.c100; have h8 : n ≤ 8 := hR.n8 hk hq; omega))); omega
    refine lv_aload_n hx hb dM_holder_20 rfl (lv_at hl 2 rfl) ?_
    refine gg_get (v := .ref (ad 9)) hx hb hts in_M hown hK hB hR.top rfl 14 (by decide) k_356 rfl rfl dM_holder_21 ?_
    refine lv_iload_n hx hb dM_holder_24 rfl (lv_at hl 0 rfl) ?_
    refine gg_iald (v := ((lf i).2.1)) hx hb hK hB 2 (hR.ar 9 (by decide)) rfl (vp_in_nI (ml_hi (by decide) (by have := hR.c100; have h8 : n ≤ 8 := hR.n8 hk hq; omega)) (ml_lt _)) (by rw [nI_clamp (by have := hR.c100; have h8 : n ≤ 8 := hR.n8 hk hq; omega)]; exact (hR.l hk hq hin).2.1) dM_holder_25 ?_
    refine lv_iconst (v := 1) hx hb dM_holder_26 (by decide) ?_
    refine lv_iconst (v := 5) hx hb dM_holder_27 (by decide) ?_
    refine gEndi (gRunS hF (c_M_in l dC dI dA z M ((lf i).2.1) 1 5) ln_M_57 hKA hB rfl hl.1 rfl (Nat.le_of_ble_eq_true rfl) dM_holder_28 ⟨rfl, rfl, (Nat.le_of_ble_eq_true rfl), (Nat.le_of_ble_eq_true rfl)⟩ ⟨(Nat.le_of_ble_eq_true rfl), (Nat.le_of_ble_eq_true rfl)⟩) hB (fun y1 M1 H locs hp hB => ?_)
    obtain ⟨e1, e2⟩ := hp
    rw [e1] at hB
    cases hP : bI (lf i).2.1 1 5 with
    | false =>
      have e2 : y1 = 0 := by rw [e2, hP]; rfl
      subst e2
      refine lv_if_eq (tgt := 36) hx hb dM_holder_31 (by decide) (fun c31 => ?_) (fun c31 => ?_)
      · refine lv_iinc (v := (nI (8 * k + i + 1))) (lv' := [(2, .int (nI (8 * k + i + 1))), (1, .int (nI k)), (0, .ref mo)]) hx hb dM_holder_36 hl (k := 0) rfl (nI_1 (8 * k + i)) (by decide) rfl (fun ls hl => ?_)
        refine lv_goto (tgt := 5) hx hb dM_holder_39 (by decide) ?_
        exact ih () H locs hin ⟨hB, by rw [ff_f hin (by show ¬ bI (lf i).2.1 1 5 = true; rw [hP]; decide)] at hI; exact hI⟩ ls (lv_sub hl [0, 1, 2] rfl)
      · exact (c31 (by decide)).elim
    | true =>
      have e2 : y1 = 1 := by rw [e2, hP]; rfl
      subst e2
      refine lv_if_eq (tgt := 36) hx hb dM_holder_31 (by decide) (fun c31 => ?_) (fun c31 => ?_)
      · exact absurd c31 (by decide)
      · refine lv_iload_n hx hb dM_holder_34 rfl (lv_at hl 0 rfl) ?_
        exact gg_iret hx hb hr hlocks hKA hB dM_holder_35 (by decide) (by decide) ⟨rfl, by rw [← hv9, ← hI, ff_t hin hP]; rfl⟩
set_option maxHeartbeats 4000000 in
set_option maxRecDepth 100000 in
theorem c_M_askNext (l : Launch) (dC : Nat → ClassId) (dI : Nat → Nat → Nat) (dA : Nat → ClassId) (z : Nat) (M0 M : gM) (mo : Nat) (ad : Nat → Nat) (th lt hs lw : Int32) (cn : Nat) (σ : Nat → Rq) (f : Nat → Nat → Int32) (hR : mW dA M0 M mo ad th lt hs lw cn σ f) (k : Nat) (hk : k < cn) (hf9 : (σ k).2.2.2.2.2.2.2.1 = -1 ∨ ¬ (σ k).2.2.2.2.2.2.2.1 < 0) (t : Int32) : gMi l dC dI dA z y_M_askNext b_M_askNext 4 (Option.some FieldType.int) ⟨1, 0, 0, 23⟩ [.ref mo, .int (nI k), .int t] M (fun y M1 => (∃ f1, mW dA M0 M1 mo ad th lt hs lw cn (va_up σ k (qask (σ k) t)) f1) ∧ y = aask (qask (σ k) t)) 0 0 := by
  refine gOfW (by decide) (Nat.le_of_ble_eq_true rfl) ?_
  intro p e s m below meth c ls hF hr hlocks hnm hKA hB hl
  obtain ⟨hx, hb, hml, hown, hts⟩ := id hF
  have hK := hKA.1
  have hl : lv_has ls 4 [(0, .ref mo), (1, .int (nI k)), (2, .int t)] := hl
  obtain ⟨⟨h, it, n, st, ho, db, du, fa, en, lf⟩, hq⟩ : ∃ q, σ k = q := ⟨_, rfl⟩
  have hq0 := hq
  have hfa : fa = -1 ∨ ¬ fa < 0 := by rw [hq] at hf9; exact hf9
  refine lv_bipush (v := 8) hx hb dM_askNext_0 (by decide) ?_
  refine lv_iload_n hx hb dM_askNext_2 rfl (lv_at hl 1 rfl) ?_
  refine lv_imul hx hb dM_askNext_3 ?_
  rw [gm8 k]
  refine lv_istore_n (lv' := [(3, .int (nI (8 * k))), (0, .ref mo), (1, .int (nI k)), (2, .int t)]) hx hb dM_askNext_4 rfl hl (by decide) rfl (fun ls hl => ?_)
  refine gLoopH (S := Unit) (G := fun H locs ls => W p l e _ s m _ below meth c H locs 0 0 _ (F0 m 5 ls [])) (nL := 4) (fun i _ => [(3, .int (nI (8 * k + i))), (2, .int t), (1, .int (nI k)), (0, .ref mo)]) (fun i _ H locs => gB (dC, dI) gcl z M s.heap H locs ∧ ff p0 lf (n - i) i = ff p0 lf n 0) n ?_ 0 () s.heap [] (Nat.zero_le _) ⟨hB, rfl⟩ ls (lv_sub hl [0, 3, 2, 1] rfl)
  intro i _ H locs hi9 hI9 ih ls hl
  obtain ⟨hB, hI⟩ := hI9
  have hl : lv_has ls 4 [(3, .int (nI (8 * k + i))), (2, .int t), (1, .int (nI k)), (0, .ref mo)] := hl
  refine lv_iload_n hx hb dM_askNext_5 rfl (lv_at hl 0 rfl) ?_
  refine lv_bipush (v := 8) hx hb dM_askNext_6 (by decide) ?_
  refine lv_iload_n hx hb dM_askNext_8 rfl (lv_at hl 2 rfl) ?_
  refine lv_imul hx hb dM_askNext_9 ?_
  rw [gm8 k]
  refine lv_aload_n hx hb dM_askNext_10 rfl (lv_at hl 3 rfl) ?_
  refine gg_get (v := .ref (ad 3)) hx hb hts in_M hown hK hB hR.top rfl 8 (by decide) k_350 rfl rfl dM_askNext_11 ?_
  refine lv_iload_n hx hb dM_askNext_14 rfl (lv_at hl 2 rfl) ?_
  refine gg_iald (v := (nI n)) hx hb hK hB 2 (hR.ar 3 (by decide)) rfl (vp_in_nI (ml_lo (by decide) (by have := hR.c100; omega)) (ml_lt _)) (by rw [nI_clamp (by have := hR.c100; omega)]; exact (hR.r hk hq).2.2.2.1) dM_askNext_15 ?_
  refine lv_iadd hx hb dM_askNext_16 ?_
  rw [nI_add (8 * k) n]
  refine lv_icmp_ge (tgt := 35) hx hb dM_askNext_17 (by decide) (fun c17 => ?_) (fun c17 => ?_)
  · have hin : n ≤ i := by have h9 : 8 * k + n ≤ 8 * k + i := (nI_leI (by have := hR.c100; have h8 : n ≤ 8 := hR.n8 hk hq; omega) (by have := hR.c100; have h8 : n ≤ 8 := hR.n8 hk hq; omega)).mp c17; omega
    have hin2 : i = n := by omega
    have hff : ff p0 lf n 0 = none := by rw [← hI, ff_e hin]
    refine lv_iload_n hx hb dM_askNext_35 rfl (lv_at hl 0 rfl) ?_
    refine lv_bipush (v := 8) hx hb dM_askNext_36 (by decide) ?_
    refine lv_iload_n hx hb dM_askNext_38 rfl (lv_at hl 2 rfl) ?_
    refine lv_imul hx hb dM_askNext_39 ?_
    rw [gm8 k]
    refine lv_aload_n hx hb dM_askNext_40 rfl (lv_at hl 3 rfl) ?_
    refine gg_get (v := .ref (ad 3)) hx hb hts in_M hown hK hB hR.top rfl 8 (by decide) k_350 rfl rfl dM_askNext_41 ?_
    refine lv_iload_n hx hb dM_askNext_44 rfl (lv_at hl 2 rfl) ?_
    refine gg_iald (v := (nI n)) hx hb hK hB 2 (hR.ar 3 (by decide)) rfl (vp_in_nI (ml_lo (by decide) (by have := hR.c100; omega)) (ml_lt _)) (by rw [nI_clamp (by have := hR.c100; omega)]; exact (hR.r hk hq).2.2.2.1) dM_askNext_45 ?_
    refine lv_iadd hx hb dM_askNext_46 ?_
    rw [nI_add (8 * k) n]
    refine lv_icmp_ne (tgt := 61) hx hb dM_askNext_47 (by decide) (fun c47 => ?_) (fun c47 => ?_)
    · exact absurd (by rw [hin2]) c47
    · refine lv_aload_n hx hb dM_askNext_50 rfl (lv_at hl 3 rfl) ?_
      refine lv_iload_n hx hb dM_askNext_51 rfl (lv_at hl 2 rfl) ?_
      refine lv_bipush (v := 7) hx hb dM_askNext_52 (by decide) ?_
      refine lv_iload_n hx hb dM_askNext_54 rfl (lv_at hl 1 rfl) ?_
      refine gEndv (gRunV hF (c_M_end l dC dI dA z M0 M mo ad th lt hs lw cn σ f hR k hk h it n st ho db du fa en lf hq 7 t) ln_M_76 hKA hB hR.top rfl rfl hl.1 rfl (Nat.le_of_ble_eq_true rfl) dM_askNext_55 ⟨rfl, rfl, (Nat.le_of_ble_eq_true rfl), (Nat.le_of_ble_eq_true rfl)⟩ ⟨(Nat.le_of_ble_eq_true rfl), (Nat.le_of_ble_eq_true rfl)⟩) hB (fun M1 H locs hp hB => ?_)
      obtain ⟨f1, hR1⟩ := hp
      have hR := hR1
      refine lv_bipush (v := 100) hx hb dM_askNext_58 (by decide) ?_
      exact gg_iret hx hb hr hlocks hKA hB dM_askNext_60 (by decide) (by decide) ⟨⟨f1, by rw [show qask (σ k) t = (h, it, n, 7, none, db, du, fa, t, lf) from by rw [hq0]; exact qask_n hff]; exact mW_ho hR⟩, by rw [hq0, qask_n hff]; rfl⟩
  · have hin : i < n := by have h9 : 8 * k + i < 8 * k + n := Nat.lt_of_not_le (fun q => c17 (nI_le q (by have := hR.c100; have h8 : n ≤ 8 := hR.n8 hk hq; omega))); omega
    refine lv_aload_n hx hb dM_askNext_20 rfl (lv_at hl 3 rfl) ?_
    refine gg_get (v := .ref (ad 9)) hx hb hts in_M hown hK hB hR.top rfl 14 (by decide) k_356 rfl rfl dM_askNext_21 ?_
    refine lv_iload_n hx hb dM_askNext_24 rfl (lv_at hl 0 rfl) ?_
    refine gg_iald (v := ((lf i).2.1)) hx hb hK hB 2 (hR.ar 9 (by decide)) rfl (vp_in_nI (ml_hi (by decide) (by have := hR.c100; have h8 : n ≤ 8 := hR.n8 hk hq; omega)) (ml_lt _)) (by rw [nI_clamp (by have := hR.c100; have h8 : n ≤ 8 := hR.n8 hk hq; omega)]; exact (hR.l hk hq hin).2.1) dM_askNext_25 ?_
    refine lv_if_eq (tgt := 35) hx hb dM_askNext_26 (by decide) (fun c26 => ?_) (fun c26 => ?_)
    · have hff : ff p0 lf n 0 = some i := by rw [← hI, ff_t hin (by simp [p0, c26])]
      refine lv_iload_n hx hb dM_askNext_35 rfl (lv_at hl 0 rfl) ?_
      refine lv_bipush (v := 8) hx hb dM_askNext_36 (by decide) ?_
      refine lv_iload_n hx hb dM_askNext_38 rfl (lv_at hl 2 rfl) ?_
      refine lv_imul hx hb dM_askNext_39 ?_
      rw [gm8 k]
      refine lv_aload_n hx hb dM_askNext_40 rfl (lv_at hl 3 rfl) ?_
      refine gg_get (v := .ref (ad 3)) hx hb hts in_M hown hK hB hR.top rfl 8 (by decide) k_350 rfl rfl dM_askNext_41 ?_
      refine lv_iload_n hx hb dM_askNext_44 rfl (lv_at hl 2 rfl) ?_
      refine gg_iald (v := (nI n)) hx hb hK hB 2 (hR.ar 3 (by decide)) rfl (vp_in_nI (ml_lo (by decide) (by have := hR.c100; omega)) (ml_lt _)) (by rw [nI_clamp (by have := hR.c100; omega)]; exact (hR.r hk hq).2.2.2.1) dM_askNext_45 ?_
      refine lv_iadd hx hb dM_askNext_46 ?_
      rw [nI_add (8 * k) n]
      refine lv_icmp_ne (tgt := 61) hx hb dM_askNext_47 (by decide) (fun c47 => ?_) (fun c47 => ?_)
      · refine lv_aload_n hx hb dM_askNext_61 rfl (lv_at hl 3 rfl) ?_
        refine gg_get (v := .ref (ad 9)) hx hb hts in_M hown hK hB hR.top rfl 14 (by decide) k_356 rfl rfl dM_askNext_62 ?_
        refine lv_iload_n hx hb dM_askNext_65 rfl (lv_at hl 0 rfl) ?_
        refine lv_iconst (v := 1) hx hb dM_askNext_66 (by decide) ?_
        refine gg_iast hx hb hK hB 2 (hR.ar 9 (by decide)) rfl (vp_in_nI (ml_hi (by decide) (by have := hR.c100; have h8 : n ≤ 8 := hR.n8 hk hq; omega)) (ml_lt _)) dM_askNext_67 (fun H locs hB => ?_)
        rw [nI_clamp (by have := hR.c100; have h8 : n ≤ 8 := hR.n8 hk hq; omega)] at hB
        have hR := hR.put 9 (by decide) (8 * k + i) 1 (hR.re.setl hk hq hin 9 1 ((lf i).1, 1, (lf i).2.2.1, (lf i).2.2.2) (by decide) ⟨(u2_j (by decide)).trans ((hR.l hk hq hin).1), u2_s _ _ _ _, (u2_j (by decide)).trans ((hR.l hk hq hin).2.2.1), (u2_j (by decide)).trans ((hR.l hk hq hin).2.2.2)⟩)
        have hq : va_up σ k (h, it, n, st, ho, db, du, fa, en, va_up lf i ((lf i).1, 1, (lf i).2.2.1, (lf i).2.2.2)) k = (h, it, n, st, ho, db, du, fa, en, va_up lf i ((lf i).1, 1, (lf i).2.2.1, (lf i).2.2.2)) := va_up_self _ _ _
        have hB : gB (dC, dI) gcl z (gU M (ad 9) (aI dA (ml 9) (upd (f 9) (8 * k + i) 1))) s.heap H locs := hB
        generalize gU M (ad 9) (aI dA (ml 9) (upd (f 9) (8 * k + i) 1)) = M at hB hR
        generalize u2 f 9 (8 * k + i) 1 = f at hR
        refine lv_aload_n hx hb dM_askNext_68 rfl (lv_at hl 3 rfl) ?_
        refine gg_get (v := .ref (ad 11)) hx hb hts in_M hown hK hB hR.top rfl 16 (by decide) k_358 rfl rfl dM_askNext_69 ?_
        refine lv_iload_n hx hb dM_askNext_72 rfl (lv_at hl 0 rfl) ?_
        refine lv_iload_n hx hb dM_askNext_73 rfl (lv_at hl 1 rfl) ?_
        refine gg_iast hx hb hK hB 2 (hR.ar 11 (by decide)) rfl (vp_in_nI (ml_hi (by decide) (by have := hR.c100; have h8 : n ≤ 8 := hR.n8 hk hq; omega)) (ml_lt _)) dM_askNext_74 (fun H locs hB => ?_)
        rw [nI_clamp (by have := hR.c100; have h8 : n ≤ 8 := hR.n8 hk hq; omega)] at hB
        have hR := hR.put 11 (by decide) (8 * k + i) t (hR.re.setl hk hq hin 11 t ((lf i).1, 1, (lf i).2.2.1, t) (by decide) ⟨(u2_j (by decide)).trans ((hR.l hk hq hin).1.trans (show ((va_up lf i ((lf i).1, 1, (lf i).2.2.1, (lf i).2.2.2)) i).1 = _ from by rw [va_up_self])), (u2_j (by decide)).trans ((hR.l hk hq hin).2.1.trans (show ((va_up lf i ((lf i).1, 1, (lf i).2.2.1, (lf i).2.2.2)) i).2.1 = _ from by rw [va_up_self])), (u2_j (by decide)).trans ((hR.l hk hq hin).2.2.1.trans (show ((va_up lf i ((lf i).1, 1, (lf i).2.2.1, (lf i).2.2.2)) i).2.2.1 = _ from by rw [va_up_self])), u2_s _ _ _ _⟩)
        simp only [bx_uu] at hR
        have hq : va_up σ k (h, it, n, st, ho, db, du, fa, en, va_up lf i ((lf i).1, 1, (lf i).2.2.1, t)) k = (h, it, n, st, ho, db, du, fa, en, va_up lf i ((lf i).1, 1, (lf i).2.2.1, t)) := va_up_self _ _ _
        have hB : gB (dC, dI) gcl z (gU M (ad 11) (aI dA (ml 11) (upd (f 11) (8 * k + i) t))) s.heap H locs := hB
        generalize gU M (ad 11) (aI dA (ml 11) (upd (f 11) (8 * k + i) t)) = M at hB hR
        generalize u2 f 11 (8 * k + i) t = f at hR
        refine lv_aload_n hx hb dM_askNext_75 rfl (lv_at hl 3 rfl) ?_
        refine gg_get (v := .ref (ad 2)) hx hb hts in_M hown hK hB hR.top rfl 7 (by decide) k_349 rfl rfl dM_askNext_76 ?_
        refine lv_iload_n hx hb dM_askNext_79 rfl (lv_at hl 2 rfl) ?_
        refine lv_iconst (v := 1) hx hb dM_askNext_80 (by decide) ?_
        refine gg_iast hx hb hK hB 2 (hR.ar 2 (by decide)) rfl (vp_in_nI (ml_lo (by decide) (by have := hR.c100; omega)) (ml_lt _)) dM_askNext_81 (fun H locs hB => ?_)
        rw [nI_clamp (by have := hR.c100; omega)] at hB
        have hR := hR.put 2 (by decide) k 1 (hR.re.setq hk hq 2 1 (h, it, n, 1, ho, db, du, fa, en, va_up lf i ((lf i).1, 1, (lf i).2.2.1, t)) rfl rfl (by decide) ⟨(u2_j (by decide)).trans (hR.r hk hq).1, (u2_j (by decide)).trans (hR.r hk hq).2.1, u2_s _ _ _ _, (u2_j (by decide)).trans (hR.r hk hq).2.2.2.1, (u2_j (by decide)).trans (hR.r hk hq).2.2.2.2.1, (u2_j (by decide)).trans (hR.r hk hq).2.2.2.2.2.1, (u2_j (by decide)).trans (hR.r hk hq).2.2.2.2.2.2.1, (u2_j (by decide)).trans (hR.r hk hq).2.2.2.2.2.2.2⟩)
        simp only [bx_uu] at hR
        have hq : va_up σ k (h, it, n, 1, ho, db, du, fa, en, va_up lf i ((lf i).1, 1, (lf i).2.2.1, t)) k = (h, it, n, 1, ho, db, du, fa, en, va_up lf i ((lf i).1, 1, (lf i).2.2.1, t)) := va_up_self _ _ _
        have hB : gB (dC, dI) gcl z (gU M (ad 2) (aI dA (ml 2) (upd (f 2) k 1))) s.heap H locs := hB
        generalize gU M (ad 2) (aI dA (ml 2) (upd (f 2) k 1)) = M at hB hR
        generalize u2 f 2 k 1 = f at hR
        refine lv_aload_n hx hb dM_askNext_82 rfl (lv_at hl 3 rfl) ?_
        refine gg_get (v := .ref (ad 6)) hx hb hts in_M hown hK hB hR.top rfl 11 (by decide) k_353 rfl rfl dM_askNext_83 ?_
        refine lv_iload_n hx hb dM_askNext_86 rfl (lv_at hl 2 rfl) ?_
        refine lv_aload_n hx hb dM_askNext_87 rfl (lv_at hl 3 rfl) ?_
        refine gg_get (v := .ref (ad 6)) hx hb hts in_M hown hK hB hR.top rfl 11 (by decide) k_353 rfl rfl dM_askNext_88 ?_
        refine lv_iload_n hx hb dM_askNext_91 rfl (lv_at hl 2 rfl) ?_
        refine gg_iald (v := fa) hx hb hK hB 2 (hR.ar 6 (by decide)) rfl (vp_in_nI (ml_lo (by decide) (by have := hR.c100; omega)) (ml_lt _)) (by rw [nI_clamp (by have := hR.c100; omega)]; exact (hR.r hk hq).2.2.2.2.2.2.1) dM_askNext_92 ?_
        refine lv_if_ge (tgt := 100) hx hb dM_askNext_93 (by decide) (fun c93 => ?_) (fun c93 => ?_)
        · refine lv_aload_n hx hb dM_askNext_100 rfl (lv_at hl 3 rfl) ?_
          refine gg_get (v := .ref (ad 6)) hx hb hts in_M hown hK hB hR.top rfl 11 (by decide) k_353 rfl rfl dM_askNext_101 ?_
          refine lv_iload_n hx hb dM_askNext_104 rfl (lv_at hl 2 rfl) ?_
          refine gg_iald (v := fa) hx hb hK hB 2 (hR.ar 6 (by decide)) rfl (vp_in_nI (ml_lo (by decide) (by have := hR.c100; omega)) (ml_lt _)) (by rw [nI_clamp (by have := hR.c100; omega)]; exact (hR.r hk hq).2.2.2.2.2.2.1) dM_askNext_105 ?_
          refine gg_iast hx hb hK hB 2 (hR.ar 6 (by decide)) rfl (vp_in_nI (ml_lo (by decide) (by have := hR.c100; omega)) (ml_lt _)) dM_askNext_106 (fun H locs hB => ?_)
          rw [nI_clamp (by have := hR.c100; omega)] at hB
          have hR := hR.put 6 (by decide) k fa (hR.re.setq hk hq 6 fa (h, it, n, 1, ho, db, du, fa, en, va_up lf i ((lf i).1, 1, (lf i).2.2.1, t)) rfl rfl (by decide) ⟨(u2_j (by decide)).trans (hR.r hk hq).1, (u2_j (by decide)).trans (hR.r hk hq).2.1, (u2_j (by decide)).trans (hR.r hk hq).2.2.1, (u2_j (by decide)).trans (hR.r hk hq).2.2.2.1, (u2_j (by decide)).trans (hR.r hk hq).2.2.2.2.1, (u2_j (by decide)).trans (hR.r hk hq).2.2.2.2.2.1, u2_s _ _ _ _, (u2_j (by decide)).trans (hR.r hk hq).2.2.2.2.2.2.2⟩)
          simp only [bx_uu] at hR
          have hq : va_up σ k (h, it, n, 1, ho, db, du, fa, en, va_up lf i ((lf i).1, 1, (lf i).2.2.1, t)) k = (h, it, n, 1, ho, db, du, fa, en, va_up lf i ((lf i).1, 1, (lf i).2.2.1, t)) := va_up_self _ _ _
          have hB : gB (dC, dI) gcl z (gU M (ad 6) (aI dA (ml 6) (upd (f 6) k fa))) s.heap H locs := hB
          generalize gU M (ad 6) (aI dA (ml 6) (upd (f 6) k fa)) = M at hB hR
          generalize u2 f 6 k fa = f at hR
          refine lv_aload_n hx hb dM_askNext_107 rfl (lv_at hl 3 rfl) ?_
          refine gg_get (v := .ref (ad 8)) hx hb hts in_M hown hK hB hR.top rfl 13 (by decide) k_355 rfl rfl dM_askNext_108 ?_
          refine lv_iload_n hx hb dM_askNext_111 rfl (lv_at hl 0 rfl) ?_
          refine gg_iald (v := ((lf i).1)) hx hb hK hB 2 (hR.ar 8 (by decide)) rfl (vp_in_nI (ml_hi (by decide) (by have := hR.c100; have h8 : n ≤ 8 := hR.n8 hk hq; omega)) (ml_lt _)) (by rw [nI_clamp (by have := hR.c100; have h8 : n ≤ 8 := hR.n8 hk hq; omega)]; exact (hR.l hk hq hin).1.trans (show ((va_up lf i ((lf i).1, 1, (lf i).2.2.1, t)) i).1 = _ from by rw [va_up_self])) dM_askNext_112 ?_
          exact gg_iret hx hb hr hlocks hKA hB dM_askNext_113 (by decide) (by decide) ⟨⟨f, by rw [hq0, qask_s hff, show (if fa = -1 then t else fa) = fa from if_neg (fun q => by rw [q] at c93; exact absurd c93 (by decide))]; exact mW_ho hR⟩, by rw [hq0, qask_s hff]; show (lf i).1 = (va_up lf i _ i).1; rw [va_up_self]⟩
        · refine lv_iload_n hx hb dM_askNext_96 rfl (lv_at hl 1 rfl) ?_
          refine lv_goto (tgt := 106) hx hb dM_askNext_97 (by decide) ?_
          refine gg_iast hx hb hK hB 2 (hR.ar 6 (by decide)) rfl (vp_in_nI (ml_lo (by decide) (by have := hR.c100; omega)) (ml_lt _)) dM_askNext_106 (fun H locs hB => ?_)
          rw [nI_clamp (by have := hR.c100; omega)] at hB
          have hR := hR.put 6 (by decide) k t (hR.re.setq hk hq 6 t (h, it, n, 1, ho, db, du, t, en, va_up lf i ((lf i).1, 1, (lf i).2.2.1, t)) rfl rfl (by decide) ⟨(u2_j (by decide)).trans (hR.r hk hq).1, (u2_j (by decide)).trans (hR.r hk hq).2.1, (u2_j (by decide)).trans (hR.r hk hq).2.2.1, (u2_j (by decide)).trans (hR.r hk hq).2.2.2.1, (u2_j (by decide)).trans (hR.r hk hq).2.2.2.2.1, (u2_j (by decide)).trans (hR.r hk hq).2.2.2.2.2.1, u2_s _ _ _ _, (u2_j (by decide)).trans (hR.r hk hq).2.2.2.2.2.2.2⟩)
          simp only [bx_uu] at hR
          have hq : va_up σ k (h, it, n, 1, ho, db, du, t, en, va_up lf i ((lf i).1, 1, (lf i).2.2.1, t)) k = (h, it, n, 1, ho, db, du, t, en, va_up lf i ((lf i).1, 1, (lf i).2.2.1, t)) := va_up_self _ _ _
          have hB : gB (dC, dI) gcl z (gU M (ad 6) (aI dA (ml 6) (upd (f 6) k t))) s.heap H locs := hB
          generalize gU M (ad 6) (aI dA (ml 6) (upd (f 6) k t)) = M at hB hR
          generalize u2 f 6 k t = f at hR
          refine lv_aload_n hx hb dM_askNext_107 rfl (lv_at hl 3 rfl) ?_
          refine gg_get (v := .ref (ad 8)) hx hb hts in_M hown hK hB hR.top rfl 13 (by decide) k_355 rfl rfl dM_askNext_108 ?_
          refine lv_iload_n hx hb dM_askNext_111 rfl (lv_at hl 0 rfl) ?_
          refine gg_iald (v := ((lf i).1)) hx hb hK hB 2 (hR.ar 8 (by decide)) rfl (vp_in_nI (ml_hi (by decide) (by have := hR.c100; have h8 : n ≤ 8 := hR.n8 hk hq; omega)) (ml_lt _)) (by rw [nI_clamp (by have := hR.c100; have h8 : n ≤ 8 := hR.n8 hk hq; omega)]; exact (hR.l hk hq hin).1.trans (show ((va_up lf i ((lf i).1, 1, (lf i).2.2.1, t)) i).1 = _ from by rw [va_up_self])) dM_askNext_112 ?_
          exact gg_iret hx hb hr hlocks hKA hB dM_askNext_113 (by decide) (by decide) ⟨⟨f, by rw [hq0, qask_s hff, show (if fa = -1 then t else fa) = t from if_pos (hfa.resolve_right (fun q => c93 (i32_le q)))]; exact mW_ho hR⟩, by rw [hq0, qask_s hff]; show (lf i).1 = (va_up lf i _ i).1; rw [va_up_self]⟩
      · exact absurd ((nI_eq (by have := hR.c100; have h8 : n ≤ 8 := hR.n8 hk hq; omega) (by have := hR.c100; have h8 : n ≤ 8 := hR.n8 hk hq; omega)).mp c47) (by omega)
    · refine lv_iinc (v := (nI (8 * k + i + 1))) (lv' := [(3, .int (nI (8 * k + i + 1))), (2, .int t), (1, .int (nI k)), (0, .ref mo)]) hx hb dM_askNext_29 hl (k := 0) rfl (nI_1 (8 * k + i)) (by decide) rfl (fun ls hl => ?_)
      refine lv_goto (tgt := 5) hx hb dM_askNext_32 (by decide) ?_
      exact ih () H locs hin ⟨hB, by rw [ff_f hin (by simp [p0, c26])] at hI; exact hI⟩ ls (lv_sub hl [0, 1, 2, 3] rfl)
