/-! The reference's calls -/
set_option maxHeartbeats 4000000 in
set_option maxRecDepth 100000 in
theorem c_M_take (l : Launch) (dC : Nat → ClassId) (dI : Nat → Nat → Nat) (dA : Nat → ClassId) (z : Nat) (M0 M : gM) (mo : Nat) (ad : Nat → Nat) (th lt hs lw : Int32) (cn : Nat) (σ : Nat → Rq) (f : Nat → Nat → Int32) (hR : mW dA M0 M mo ad th lt hs lw cn σ f) (k i : Nat) (hk : k < cn) (hi8 : i < (σ k).2.2.1) (hf9 : (σ k).2.2.2.2.2.2.2.1 = -1 ∨ ¬ (σ k).2.2.2.2.2.2.2.1 < 0) (kind v t : Int32) (h15 : kind = 1 ∨ kind = 2 ∨ kind = 3 ∨ kind = 4 ∨ kind = 5) : gMv l dC dI dA z y_M_take b_M_take 7 (Option.none : Option FieldType) ⟨2, 0, 0, 46⟩ [.ref mo, .int (nI k), .int (nI (8 * k + i)), .int kind, .int v, .int t] M (fun M1 => ∃ f1, mW dA M0 M1 mo ad th lt hs lw cn (va_up σ k (qtake (σ k) i kind v t)) f1) 0 0 := by
  refine gOfW (by decide) (Nat.le_of_ble_eq_true rfl) ?_
  intro p e s m below meth c ls hF hr hlocks hnm hKA hB hl
  obtain ⟨hx, hb, hml, hown, hts⟩ := id hF
  have hK := hKA.1
  have hl : lv_has ls 7 [(0, .ref mo), (1, .int (nI k)), (2, .int (nI (8 * k + i))), (3, .int kind), (4, .int v), (5, .int t)] := hl
  obtain ⟨⟨h, it, n, st, ho, db, du, fa, en, lf⟩, hq⟩ : ∃ q, σ k = q := ⟨_, rfl⟩
  have hq0 := hq
  have hi9 : i < n := by rw [hq] at hi8; exact hi8
  have hfa : fa = -1 ∨ ¬ fa < 0 := by rw [hq] at hf9; exact hf9
  refine lv_iload_n hx hb dM_take_0 rfl (lv_at hl 3 rfl) ?_
  refine lv_iconst (v := 1) hx hb dM_take_1 (by decide) ?_
  refine lv_icmp_ne (tgt := 15) hx hb dM_take_2 (by decide) (fun c2 => ?_) (fun c2 => ?_)
  · refine lv_iload_n hx hb dM_take_15 rfl (lv_at hl 3 rfl) ?_
    refine lv_iconst (v := 2) hx hb dM_take_16 (by decide) ?_
    refine lv_icmp_ne (tgt := 40) hx hb dM_take_17 (by decide) (fun c17 => ?_) (fun c17 => ?_)
    · refine lv_iload_n hx hb dM_take_40 rfl (lv_at hl 3 rfl) ?_
      refine lv_iconst (v := 3) hx hb dM_take_41 (by decide) ?_
      refine lv_icmp_ne (tgt := 62) hx hb dM_take_42 (by decide) (fun c42 => ?_) (fun c42 => ?_)
      · refine lv_iload_n hx hb dM_take_62 rfl (lv_at hl 3 rfl) ?_
        refine lv_iconst (v := 4) hx hb dM_take_63 (by decide) ?_
        refine lv_icmp_ne (tgt := 92) hx hb dM_take_64 (by decide) (fun c64 => ?_) (fun c64 => ?_)
        · have h5 : kind = 5 := (((h15.resolve_left c2).resolve_left c17).resolve_left c42).resolve_left c64
          refine lv_aload_n hx hb dM_take_92 rfl (lv_at hl 0 rfl) ?_
          refine gg_get (v := .ref (ad 9)) hx hb hts in_M hown hK hB hR.top rfl 14 (by decide) k_356 rfl rfl dM_take_93 ?_
          refine lv_iload_n hx hb dM_take_96 rfl (lv_at hl 2 rfl) ?_
          refine lv_iconst (v := 5) hx hb dM_take_97 (by decide) ?_
          refine gg_iast hx hb hK hB 2 (hR.ar 9 (by decide)) rfl (vp_in_nI (ml_hi (by decide) (by have := hR.c100; have h8 : n ≤ 8 := hR.n8 hk hq; omega)) (ml_lt _)) dM_take_98 (fun H locs hB => ?_)
          rw [nI_clamp (by have := hR.c100; have h8 : n ≤ 8 := hR.n8 hk hq; omega)] at hB
          have hR := hR.put 9 (by decide) (8 * k + i) 5 (hR.re.setl hk hq hi9 9 5 ((lf i).1, 5, (lf i).2.2.1, (lf i).2.2.2) (by decide) ⟨(u2_j (by decide)).trans ((hR.l hk hq hi9).1), u2_s _ _ _ _, (u2_j (by decide)).trans ((hR.l hk hq hi9).2.2.1), (u2_j (by decide)).trans ((hR.l hk hq hi9).2.2.2)⟩)
          have hq : va_up σ k (h, it, n, st, ho, db, du, fa, en, va_up lf i ((lf i).1, 5, (lf i).2.2.1, (lf i).2.2.2)) k = (h, it, n, st, ho, db, du, fa, en, va_up lf i ((lf i).1, 5, (lf i).2.2.1, (lf i).2.2.2)) := va_up_self _ _ _
          have hB : gB (dC, dI) gcl z (gU M (ad 9) (aI dA (ml 9) (upd (f 9) (8 * k + i) 5))) s.heap H locs := hB
          generalize gU M (ad 9) (aI dA (ml 9) (upd (f 9) (8 * k + i) 5)) = M at hB hR
          generalize u2 f 9 (8 * k + i) 5 = f at hR
          refine lv_aload_n hx hb dM_take_99 rfl (lv_at hl 0 rfl) ?_
          refine lv_iload_n hx hb dM_take_100 rfl (lv_at hl 1 rfl) ?_
          refine lv_bipush (v := 6) hx hb dM_take_101 (by decide) ?_
          refine lv_iload hx hb dM_take_103 (lv_at hl 5 rfl) ?_
          refine gEndv (gRunV hF (c_M_end l dC dI dA z M0 M mo ad th lt hs lw cn _ _ hR k hk h it n st ho db du fa en (va_up lf i ((lf i).1, 5, (lf i).2.2.1, (lf i).2.2.2)) hq 6 t) ln_M_76 hKA hB hR.top rfl rfl hl.1 rfl (Nat.le_of_ble_eq_true rfl) dM_take_105 ⟨rfl, rfl, (Nat.le_of_ble_eq_true rfl), (Nat.le_of_ble_eq_true rfl)⟩ ⟨(Nat.le_of_ble_eq_true rfl), (Nat.le_of_ble_eq_true rfl)⟩) hB (fun M1 H locs hp hB => ?_)
          obtain ⟨f1, hp⟩ := hp
          simp only [bx_uu] at hp
          have hR := hp
          have hq : va_up σ k (h, it, n, 6, ho, db, du, fa, t, va_up lf i ((lf i).1, 5, (lf i).2.2.1, (lf i).2.2.2)) k = (h, it, n, 6, ho, db, du, fa, t, va_up lf i ((lf i).1, 5, (lf i).2.2.1, (lf i).2.2.2)) := va_up_self _ _ _
          generalize M1 = M at hB hR
          generalize f1 = f at hR
          exact gg_vret hx hb hr hlocks hKA hB dM_take_108 (by decide) (by decide) ⟨_, (show mW dA M0 _ mo ad th lt hs lw cn (va_up σ k (qtake (σ k) i kind v t)) _ from by rw [show qtake (σ k) i kind v t = (h, it, n, 6, ho, db, du, fa, t, va_up lf i ((lf i).1, 5, (lf i).2.2.1, (lf i).2.2.2)) from by simp [qtake, lset, hq0, c2, c17, c42, c64, h5]]; exact hR)⟩
        · refine lv_aload_n hx hb dM_take_67 rfl (lv_at hl 0 rfl) ?_
          refine gg_get (v := .ref (ad 9)) hx hb hts in_M hown hK hB hR.top rfl 14 (by decide) k_356 rfl rfl dM_take_68 ?_
          refine lv_iload_n hx hb dM_take_71 rfl (lv_at hl 2 rfl) ?_
          refine lv_iconst (v := 4) hx hb dM_take_72 (by decide) ?_
          refine gg_iast hx hb hK hB 2 (hR.ar 9 (by decide)) rfl (vp_in_nI (ml_hi (by decide) (by have := hR.c100; have h8 : n ≤ 8 := hR.n8 hk hq; omega)) (ml_lt _)) dM_take_73 (fun H locs hB => ?_)
          rw [nI_clamp (by have := hR.c100; have h8 : n ≤ 8 := hR.n8 hk hq; omega)] at hB
          have hR := hR.put 9 (by decide) (8 * k + i) 4 (hR.re.setl hk hq hi9 9 4 ((lf i).1, 4, (lf i).2.2.1, (lf i).2.2.2) (by decide) ⟨(u2_j (by decide)).trans ((hR.l hk hq hi9).1), u2_s _ _ _ _, (u2_j (by decide)).trans ((hR.l hk hq hi9).2.2.1), (u2_j (by decide)).trans ((hR.l hk hq hi9).2.2.2)⟩)
          have hq : va_up σ k (h, it, n, st, ho, db, du, fa, en, va_up lf i ((lf i).1, 4, (lf i).2.2.1, (lf i).2.2.2)) k = (h, it, n, st, ho, db, du, fa, en, va_up lf i ((lf i).1, 4, (lf i).2.2.1, (lf i).2.2.2)) := va_up_self _ _ _
          have hB : gB (dC, dI) gcl z (gU M (ad 9) (aI dA (ml 9) (upd (f 9) (8 * k + i) 4))) s.heap H locs := hB
          generalize gU M (ad 9) (aI dA (ml 9) (upd (f 9) (8 * k + i) 4)) = M at hB hR
          generalize u2 f 9 (8 * k + i) 4 = f at hR
          refine lv_aload_n hx hb dM_take_74 rfl (lv_at hl 0 rfl) ?_
          refine gg_get (v := .ref (ad 2)) hx hb hts in_M hown hK hB hR.top rfl 7 (by decide) k_349 rfl rfl dM_take_75 ?_
          refine lv_iload_n hx hb dM_take_78 rfl (lv_at hl 1 rfl) ?_
          refine lv_iconst (v := 3) hx hb dM_take_79 (by decide) ?_
          refine gg_iast hx hb hK hB 2 (hR.ar 2 (by decide)) rfl (vp_in_nI (ml_lo (by decide) (by have := hR.c100; omega)) (ml_lt _)) dM_take_80 (fun H locs hB => ?_)
          rw [nI_clamp (by have := hR.c100; omega)] at hB
          have hR := hR.put 2 (by decide) k 3 (hR.re.setq hk hq 2 3 (h, it, n, 3, ho, db, du, fa, en, va_up lf i ((lf i).1, 4, (lf i).2.2.1, (lf i).2.2.2)) rfl rfl (by decide) ⟨(u2_j (by decide)).trans (hR.r hk hq).1, (u2_j (by decide)).trans (hR.r hk hq).2.1, u2_s _ _ _ _, (u2_j (by decide)).trans (hR.r hk hq).2.2.2.1, (u2_j (by decide)).trans (hR.r hk hq).2.2.2.2.1, (u2_j (by decide)).trans (hR.r hk hq).2.2.2.2.2.1, (u2_j (by decide)).trans (hR.r hk hq).2.2.2.2.2.2.1, (u2_j (by decide)).trans (hR.r hk hq).2.2.2.2.2.2.2⟩)
          simp only [bx_uu] at hR
          have hq : va_up σ k (h, it, n, 3, ho, db, du, fa, en, va_up lf i ((lf i).1, 4, (lf i).2.2.1, (lf i).2.2.2)) k = (h, it, n, 3, ho, db, du, fa, en, va_up lf i ((lf i).1, 4, (lf i).2.2.1, (lf i).2.2.2)) := va_up_self _ _ _
          have hB : gB (dC, dI) gcl z (gU M (ad 2) (aI dA (ml 2) (upd (f 2) k 3))) s.heap H locs := hB
          generalize gU M (ad 2) (aI dA (ml 2) (upd (f 2) k 3)) = M at hB hR
          generalize u2 f 2 k 3 = f at hR
          refine lv_aload_n hx hb dM_take_81 rfl (lv_at hl 0 rfl) ?_
          refine gg_get (v := .ref (ad 5)) hx hb hts in_M hown hK hB hR.top rfl 10 (by decide) k_352 rfl rfl dM_take_82 ?_
          refine lv_iload_n hx hb dM_take_85 rfl (lv_at hl 1 rfl) ?_
          refine lv_iload hx hb dM_take_86 (lv_at hl 4 rfl) ?_
          refine gg_iast hx hb hK hB 2 (hR.ar 5 (by decide)) rfl (vp_in_nI (ml_lo (by decide) (by have := hR.c100; omega)) (ml_lt _)) dM_take_88 (fun H locs hB => ?_)
          rw [nI_clamp (by have := hR.c100; omega)] at hB
          have hR := hR.put 5 (by decide) k v (hR.re.setq hk hq 5 v (h, it, n, 3, ho, db, v, fa, en, va_up lf i ((lf i).1, 4, (lf i).2.2.1, (lf i).2.2.2)) rfl rfl (by decide) ⟨(u2_j (by decide)).trans (hR.r hk hq).1, (u2_j (by decide)).trans (hR.r hk hq).2.1, (u2_j (by decide)).trans (hR.r hk hq).2.2.1, (u2_j (by decide)).trans (hR.r hk hq).2.2.2.1, (u2_j (by decide)).trans (hR.r hk hq).2.2.2.2.1, u2_s _ _ _ _, (u2_j (by decide)).trans (hR.r hk hq).2.2.2.2.2.2.1, (u2_j (by decide)).trans (hR.r hk hq).2.2.2.2.2.2.2⟩)
          simp only [bx_uu] at hR
          have hq : va_up σ k (h, it, n, 3, ho, db, v, fa, en, va_up lf i ((lf i).1, 4, (lf i).2.2.1, (lf i).2.2.2)) k = (h, it, n, 3, ho, db, v, fa, en, va_up lf i ((lf i).1, 4, (lf i).2.2.1, (lf i).2.2.2)) := va_up_self _ _ _
          have hB : gB (dC, dI) gcl z (gU M (ad 5) (aI dA (ml 5) (upd (f 5) k v))) s.heap H locs := hB
          generalize gU M (ad 5) (aI dA (ml 5) (upd (f 5) k v)) = M at hB hR
          generalize u2 f 5 k v = f at hR
          refine lv_goto (tgt := 108) hx hb dM_take_89 (by decide) ?_
          exact gg_vret hx hb hr hlocks hKA hB dM_take_108 (by decide) (by decide) ⟨_, (show mW dA M0 _ mo ad th lt hs lw cn (va_up σ k (qtake (σ k) i kind v t)) _ from by rw [show qtake (σ k) i kind v t = (h, it, n, 3, ho, db, v, fa, en, va_up lf i ((lf i).1, 4, (lf i).2.2.1, (lf i).2.2.2)) from by simp [qtake, lset, hq0, c2, c17, c42, c64]]; exact hR)⟩
      · refine lv_aload_n hx hb dM_take_45 rfl (lv_at hl 0 rfl) ?_
        refine gg_get (v := .ref (ad 9)) hx hb hts in_M hown hK hB hR.top rfl 14 (by decide) k_356 rfl rfl dM_take_46 ?_
        refine lv_iload_n hx hb dM_take_49 rfl (lv_at hl 2 rfl) ?_
        refine lv_iconst (v := 2) hx hb dM_take_50 (by decide) ?_
        refine gg_iast hx hb hK hB 2 (hR.ar 9 (by decide)) rfl (vp_in_nI (ml_hi (by decide) (by have := hR.c100; have h8 : n ≤ 8 := hR.n8 hk hq; omega)) (ml_lt _)) dM_take_51 (fun H locs hB => ?_)
        rw [nI_clamp (by have := hR.c100; have h8 : n ≤ 8 := hR.n8 hk hq; omega)] at hB
        have hR := hR.put 9 (by decide) (8 * k + i) 2 (hR.re.setl hk hq hi9 9 2 ((lf i).1, 2, (lf i).2.2.1, (lf i).2.2.2) (by decide) ⟨(u2_j (by decide)).trans ((hR.l hk hq hi9).1), u2_s _ _ _ _, (u2_j (by decide)).trans ((hR.l hk hq hi9).2.2.1), (u2_j (by decide)).trans ((hR.l hk hq hi9).2.2.2)⟩)
        have hq : va_up σ k (h, it, n, st, ho, db, du, fa, en, va_up lf i ((lf i).1, 2, (lf i).2.2.1, (lf i).2.2.2)) k = (h, it, n, st, ho, db, du, fa, en, va_up lf i ((lf i).1, 2, (lf i).2.2.1, (lf i).2.2.2)) := va_up_self _ _ _
        have hB : gB (dC, dI) gcl z (gU M (ad 9) (aI dA (ml 9) (upd (f 9) (8 * k + i) 2))) s.heap H locs := hB
        generalize gU M (ad 9) (aI dA (ml 9) (upd (f 9) (8 * k + i) 2)) = M at hB hR
        generalize u2 f 9 (8 * k + i) 2 = f at hR
        refine lv_aload_n hx hb dM_take_52 rfl (lv_at hl 0 rfl) ?_
        refine gg_get (v := .ref (ad 2)) hx hb hts in_M hown hK hB hR.top rfl 7 (by decide) k_349 rfl rfl dM_take_53 ?_
        refine lv_iload_n hx hb dM_take_56 rfl (lv_at hl 1 rfl) ?_
        refine lv_iconst (v := 2) hx hb dM_take_57 (by decide) ?_
        refine gg_iast hx hb hK hB 2 (hR.ar 2 (by decide)) rfl (vp_in_nI (ml_lo (by decide) (by have := hR.c100; omega)) (ml_lt _)) dM_take_58 (fun H locs hB => ?_)
        rw [nI_clamp (by have := hR.c100; omega)] at hB
        have hR := hR.put 2 (by decide) k 2 (hR.re.setq hk hq 2 2 (h, it, n, 2, ho, db, du, fa, en, va_up lf i ((lf i).1, 2, (lf i).2.2.1, (lf i).2.2.2)) rfl rfl (by decide) ⟨(u2_j (by decide)).trans (hR.r hk hq).1, (u2_j (by decide)).trans (hR.r hk hq).2.1, u2_s _ _ _ _, (u2_j (by decide)).trans (hR.r hk hq).2.2.2.1, (u2_j (by decide)).trans (hR.r hk hq).2.2.2.2.1, (u2_j (by decide)).trans (hR.r hk hq).2.2.2.2.2.1, (u2_j (by decide)).trans (hR.r hk hq).2.2.2.2.2.2.1, (u2_j (by decide)).trans (hR.r hk hq).2.2.2.2.2.2.2⟩)
        simp only [bx_uu] at hR
        have hq : va_up σ k (h, it, n, 2, ho, db, du, fa, en, va_up lf i ((lf i).1, 2, (lf i).2.2.1, (lf i).2.2.2)) k = (h, it, n, 2, ho, db, du, fa, en, va_up lf i ((lf i).1, 2, (lf i).2.2.1, (lf i).2.2.2)) := va_up_self _ _ _
        have hB : gB (dC, dI) gcl z (gU M (ad 2) (aI dA (ml 2) (upd (f 2) k 2))) s.heap H locs := hB
        generalize gU M (ad 2) (aI dA (ml 2) (upd (f 2) k 2)) = M at hB hR
        generalize u2 f 2 k 2 = f at hR
        refine lv_goto (tgt := 108) hx hb dM_take_59 (by decide) ?_
        exact gg_vret hx hb hr hlocks hKA hB dM_take_108 (by decide) (by decide) ⟨_, (show mW dA M0 _ mo ad th lt hs lw cn (va_up σ k (qtake (σ k) i kind v t)) _ from by rw [show qtake (σ k) i kind v t = (h, it, n, 2, ho, db, du, fa, en, va_up lf i ((lf i).1, 2, (lf i).2.2.1, (lf i).2.2.2)) from by simp [qtake, lset, hq0, c2, c17, c42]]; exact hR)⟩
    · refine lv_aload_n hx hb dM_take_20 rfl (lv_at hl 0 rfl) ?_
      refine gg_get (v := .ref (ad 9)) hx hb hts in_M hown hK hB hR.top rfl 14 (by decide) k_356 rfl rfl dM_take_21 ?_
      refine lv_iload_n hx hb dM_take_24 rfl (lv_at hl 2 rfl) ?_
      refine lv_bipush (v := 6) hx hb dM_take_25 (by decide) ?_
      refine gg_iast hx hb hK hB 2 (hR.ar 9 (by decide)) rfl (vp_in_nI (ml_hi (by decide) (by have := hR.c100; have h8 : n ≤ 8 := hR.n8 hk hq; omega)) (ml_lt _)) dM_take_27 (fun H locs hB => ?_)
      rw [nI_clamp (by have := hR.c100; have h8 : n ≤ 8 := hR.n8 hk hq; omega)] at hB
      have hR := hR.put 9 (by decide) (8 * k + i) 6 (hR.re.setl hk hq hi9 9 6 ((lf i).1, 6, (lf i).2.2.1, (lf i).2.2.2) (by decide) ⟨(u2_j (by decide)).trans ((hR.l hk hq hi9).1), u2_s _ _ _ _, (u2_j (by decide)).trans ((hR.l hk hq hi9).2.2.1), (u2_j (by decide)).trans ((hR.l hk hq hi9).2.2.2)⟩)
      have hq : va_up σ k (h, it, n, st, ho, db, du, fa, en, va_up lf i ((lf i).1, 6, (lf i).2.2.1, (lf i).2.2.2)) k = (h, it, n, st, ho, db, du, fa, en, va_up lf i ((lf i).1, 6, (lf i).2.2.1, (lf i).2.2.2)) := va_up_self _ _ _
      have hB : gB (dC, dI) gcl z (gU M (ad 9) (aI dA (ml 9) (upd (f 9) (8 * k + i) 6))) s.heap H locs := hB
      generalize gU M (ad 9) (aI dA (ml 9) (upd (f 9) (8 * k + i) 6)) = M at hB hR
      generalize u2 f 9 (8 * k + i) 6 = f at hR
      refine lv_aload_n hx hb dM_take_28 rfl (lv_at hl 0 rfl) ?_
      refine lv_iload_n hx hb dM_take_29 rfl (lv_at hl 1 rfl) ?_
      refine lv_iload hx hb dM_take_30 (lv_at hl 5 rfl) ?_
      refine gEndi (gRunV hF (c_M_askNext l dC dI dA z M0 M mo ad th lt hs lw cn _ _ hR k hk (by rw [hq]; exact hfa) t) ln_M_83 hKA hB hR.top rfl rfl hl.1 rfl (Nat.le_of_ble_eq_true rfl) dM_take_32 ⟨rfl, rfl, (Nat.le_of_ble_eq_true rfl), (Nat.le_of_ble_eq_true rfl)⟩ ⟨(Nat.le_of_ble_eq_true rfl), (Nat.le_of_ble_eq_true rfl)⟩) hB (fun y M1 H locs hp hB => ?_)
      obtain ⟨⟨f1, hp⟩, e2⟩ := hp
      rw [hq, bx_uu] at hp
      have hR := hp
      refine lv_istore (lv' := [(6, .int y), (0, .ref mo), (1, .int (nI k)), (2, .int (nI (8 * k + i))), (3, .int kind), (4, .int v), (5, .int t)]) hx hb dM_take_35 hl (by decide) rfl (fun ls hl => ?_)
      refine lv_goto (tgt := 108) hx hb dM_take_37 (by decide) ?_
      exact gg_vret hx hb hr hlocks hKA hB dM_take_108 (by decide) (by decide) ⟨_, (show mW dA M0 _ mo ad th lt hs lw cn (va_up σ k (qtake (σ k) i kind v t)) _ from by rw [show qtake (σ k) i kind v t = (qask (h, it, n, st, ho, db, du, fa, en, va_up lf i ((lf i).1, 6, (lf i).2.2.1, (lf i).2.2.2)) t) from by simp [qtake, lset, hq0, c2, c17]]; exact hR)⟩
  · refine lv_aload_n hx hb dM_take_5 rfl (lv_at hl 0 rfl) ?_
    refine gg_get (v := .ref (ad 9)) hx hb hts in_M hown hK hB hR.top rfl 14 (by decide) k_356 rfl rfl dM_take_6 ?_
    refine lv_iload_n hx hb dM_take_9 rfl (lv_at hl 2 rfl) ?_
    refine lv_iconst (v := 3) hx hb dM_take_10 (by decide) ?_
    refine gg_iast hx hb hK hB 2 (hR.ar 9 (by decide)) rfl (vp_in_nI (ml_hi (by decide) (by have := hR.c100; have h8 : n ≤ 8 := hR.n8 hk hq; omega)) (ml_lt _)) dM_take_11 (fun H locs hB => ?_)
    rw [nI_clamp (by have := hR.c100; have h8 : n ≤ 8 := hR.n8 hk hq; omega)] at hB
    have hR := hR.put 9 (by decide) (8 * k + i) 3 (hR.re.setl hk hq hi9 9 3 ((lf i).1, 3, (lf i).2.2.1, (lf i).2.2.2) (by decide) ⟨(u2_j (by decide)).trans ((hR.l hk hq hi9).1), u2_s _ _ _ _, (u2_j (by decide)).trans ((hR.l hk hq hi9).2.2.1), (u2_j (by decide)).trans ((hR.l hk hq hi9).2.2.2)⟩)
    have hq : va_up σ k (h, it, n, st, ho, db, du, fa, en, va_up lf i ((lf i).1, 3, (lf i).2.2.1, (lf i).2.2.2)) k = (h, it, n, st, ho, db, du, fa, en, va_up lf i ((lf i).1, 3, (lf i).2.2.1, (lf i).2.2.2)) := va_up_self _ _ _
    have hB : gB (dC, dI) gcl z (gU M (ad 9) (aI dA (ml 9) (upd (f 9) (8 * k + i) 3))) s.heap H locs := hB
    generalize gU M (ad 9) (aI dA (ml 9) (upd (f 9) (8 * k + i) 3)) = M at hB hR
    generalize u2 f 9 (8 * k + i) 3 = f at hR
    refine lv_goto (tgt := 108) hx hb dM_take_12 (by decide) ?_
    exact gg_vret hx hb hr hlocks hKA hB dM_take_108 (by decide) (by decide) ⟨_, (show mW dA M0 _ mo ad th lt hs lw cn (va_up σ k (qtake (σ k) i kind v t)) _ from by rw [show qtake (σ k) i kind v t = (h, it, n, st, ho, db, du, fa, en, va_up lf i ((lf i).1, 3, (lf i).2.2.1, (lf i).2.2.2)) from by simp [qtake, lset, hq0, c2]]; exact hR)⟩
set_option maxHeartbeats 4000000 in
set_option maxRecDepth 100000 in
theorem c_M_received (l : Launch) (dC : Nat → ClassId) (dI : Nat → Nat → Nat) (dA : Nat → ClassId) (z : Nat) (M0 M : gM) (mo : Nat) (ad : Nat → Nat) (th lt hs lw : Int32) (cn : Nat) (σ : Nat → Rq) (f : Nat → Nat → Int32) (hR : mW dA M0 M mo ad th lt hs lw cn σ f) (hh9 : hsOk hs) (hinv : ∀ k, k < cn → inv (σ k)) (r t : Int32) : gMi l dC dI dA z y_M_received b_M_received 3 (Option.some FieldType.int) ⟨2, 0, 0, 43⟩ [.ref mo, .int r, .int t] M (mP dA M0 mo ad hs (sRec hs lt lw cn σ r t)) 0 0 := by
  refine gOfW (by decide) (Nat.le_of_ble_eq_true rfl) ?_
  intro p e s m below meth c ls hF hr hlocks hnm hKA hB hl
  obtain ⟨hx, hb, hml, hown, hts⟩ := id hF
  have hK := hKA.1
  have hl : lv_has ls 3 [(0, .ref mo), (1, .int r), (2, .int t)] := hl
  refine lv_aload_n hx hb dM_received_0 rfl (lv_at hl 0 rfl) ?_
  refine lv_iconst (v := 0) hx hb dM_received_1 (by decide) ?_
  refine gg_put (ty := .int) (v := .int 0) hx hb hts in_M t_M t_M_ok n_M hown hK hB hR.top rfl 0 (by decide) k_342 rfl rfl (by decide +kernel) rfl rfl (Nat.le_of_ble_eq_true rfl) dM_received_2 (fun H locs hB => ?_)
  have hR := hR.setTop 0 lt lw
  have hB : gB (dC, dI) gcl z (gU M mo (oM 0 lt hs lw cn ad)) s.heap H locs := hB
  generalize gU M mo (oM 0 lt hs lw cn ad) = M at hB hR
  refine lv_aload_n hx hb dM_received_5 rfl (lv_at hl 0 rfl) ?_
  refine lv_iload_n hx hb dM_received_6 rfl (lv_at hl 1 rfl) ?_
  refine gEndi (gRunV hF (c_M_isRequest l dC dI dA z M0 M mo ad 0 lt hs lw cn _ _ hR r) ln_M_73 hKA hB hR.top rfl rfl hl.1 rfl (Nat.le_of_ble_eq_true rfl) dM_received_7 ⟨rfl, rfl, (Nat.le_of_ble_eq_true rfl), (Nat.le_of_ble_eq_true rfl)⟩ ⟨(Nat.le_of_ble_eq_true rfl), (Nat.le_of_ble_eq_true rfl)⟩) hB (fun y1 M1 H locs hp hB => ?_)
  obtain ⟨e1, e2⟩ := hp
  rw [e1] at hB
  cases hi : ix cn r with
  | none =>
    have e2 : y1 = 0 := by rw [e2, hi]; rfl
    subst e2
    refine lv_if_ne (tgt := 15) hx hb dM_received_10 (by decide) (fun c10 => ?_) (fun c10 => ?_)
    · exact (c10 (by decide)).elim
    · refine lv_iconst (v := (-1)) hx hb dM_received_13 (by decide) ?_
      exact gg_iret hx hb hr hlocks hKA hB dM_received_14 (by decide) (by decide) (mP_of (show sRec hs lt lw cn σ r t = ((-1), lt, lw, cn, σ) from by simp [sRec, hi, c10, qst]) ⟨_, hR, rfl⟩)
  | some k =>
    have e2 : y1 = 1 := by rw [e2, hi]; rfl
    subst e2
    obtain ⟨hk, hr9⟩ := ix_some (by have := hR.c100; omega) hi
    subst hr9
    obtain ⟨⟨h, it, n, st, ho, db, du, fa, en, lf⟩, hq⟩ : ∃ q, σ k = q := ⟨_, rfl⟩
    have hq0 := hq
    have hv := hinv k hk
    refine lv_if_ne (tgt := 15) hx hb dM_received_10 (by decide) (fun c10 => ?_) (fun c10 => ?_)
    · refine lv_aload_n hx hb dM_received_15 rfl (lv_at hl 0 rfl) ?_
      refine lv_iload_n hx hb dM_received_16 rfl (lv_at hl 2 rfl) ?_
      refine gEndi (gRunV hF (c_M_isNow l dC dI dA z M0 M mo ad 0 lt hs lw cn _ _ hR t) ln_M_80 hKA hB hR.top rfl rfl hl.1 rfl (Nat.le_of_ble_eq_true rfl) dM_received_17 ⟨rfl, rfl, (Nat.le_of_ble_eq_true rfl), (Nat.le_of_ble_eq_true rfl)⟩ ⟨(Nat.le_of_ble_eq_true rfl), (Nat.le_of_ble_eq_true rfl)⟩) hB (fun y2 M1 H locs hp hB => ?_)
      obtain ⟨e1, e2⟩ := hp
      rw [e1] at hB
      cases hT2 : bT lt t with
      | false =>
        have e2 : y2 = 0 := by rw [e2, hT2]; rfl
        subst e2
        refine lv_if_ne (tgt := 26) hx hb dM_received_20 (by decide) (fun c20 => ?_) (fun c20 => ?_)
        · exact (c20 (by decide)).elim
        · refine lv_bipush (v := (-2)) hx hb dM_received_23 (by decide) ?_
          exact gg_iret hx hb hr hlocks hKA hB dM_received_25 (by decide) (by decide) (mP_of (show sRec hs lt lw cn σ (nI k) t = ((-2), lt, lw, cn, σ) from by simp [sRec, hi, c10, hT2, c20, hq0, qst]) ⟨_, hR, rfl⟩)
      | true =>
        have e2 : y2 = 1 := by rw [e2, hT2]; rfl
        subst e2
        refine lv_if_ne (tgt := 26) hx hb dM_received_20 (by decide) (fun c20 => ?_) (fun c20 => ?_)
        · refine lv_aload_n hx hb dM_received_26 rfl (lv_at hl 0 rfl) ?_
          refine gg_get (v := .ref (ad 2)) hx hb hts in_M hown hK hB hR.top rfl 7 (by decide) k_349 rfl rfl dM_received_27 ?_
          refine lv_iload_n hx hb dM_received_30 rfl (lv_at hl 1 rfl) ?_
          refine gg_iald (v := st) hx hb hK hB 2 (hR.ar 2 (by decide)) rfl (vp_in_nI (ml_lo (by decide) (by have := hR.c100; omega)) (ml_lt _)) (by rw [nI_clamp (by have := hR.c100; omega)]; exact (hR.r hk hq).2.2.1) dM_received_31 ?_
          refine lv_iconst (v := 3) hx hb dM_received_32 (by decide) ?_
          refine lv_icmp_eq (tgt := 39) hx hb dM_received_33 (by decide) (fun c33 => ?_) (fun c33 => ?_)
          · refine lv_aload_n hx hb dM_received_39 rfl (lv_at hl 0 rfl) ?_
            refine lv_iload_n hx hb dM_received_40 rfl (lv_at hl 2 rfl) ?_
            refine gg_put (ty := .int) (v := .int t) hx hb hts in_M t_M t_M_ok n_M hown hK hB hR.top rfl 1 (by decide) k_343 rfl rfl (by decide +kernel) rfl rfl (Nat.le_of_ble_eq_true rfl) dM_received_41 (fun H locs hB => ?_)
            have hR := hR.setTop 0 t lw
            have hB : gB (dC, dI) gcl z (gU M mo (oM 0 t hs lw cn ad)) s.heap H locs := hB
            generalize gU M mo (oM 0 t hs lw cn ad) = M at hB hR
            refine lv_aload_n hx hb dM_received_44 rfl (lv_at hl 0 rfl) ?_
            refine gg_get (v := .ref (ad 2)) hx hb hts in_M hown hK hB hR.top rfl 7 (by decide) k_349 rfl rfl dM_received_45 ?_
            refine lv_iload_n hx hb dM_received_48 rfl (lv_at hl 1 rfl) ?_
            refine lv_iconst (v := 4) hx hb dM_received_49 (by decide) ?_
            refine gg_iast hx hb hK hB 2 (hR.ar 2 (by decide)) rfl (vp_in_nI (ml_lo (by decide) (by have := hR.c100; omega)) (ml_lt _)) dM_received_50 (fun H locs hB => ?_)
            rw [nI_clamp (by have := hR.c100; omega)] at hB
            have hR := hR.put 2 (by decide) k 4 (hR.re.setq hk hq 2 4 (h, it, n, 4, ho, db, du, fa, en, lf) rfl rfl (by decide) ⟨(u2_j (by decide)).trans (hR.r hk hq).1, (u2_j (by decide)).trans (hR.r hk hq).2.1, u2_s _ _ _ _, (u2_j (by decide)).trans (hR.r hk hq).2.2.2.1, (u2_j (by decide)).trans (hR.r hk hq).2.2.2.2.1, (u2_j (by decide)).trans (hR.r hk hq).2.2.2.2.2.1, (u2_j (by decide)).trans (hR.r hk hq).2.2.2.2.2.2.1, (u2_j (by decide)).trans (hR.r hk hq).2.2.2.2.2.2.2⟩)
            have hq : va_up σ k (h, it, n, 4, ho, db, du, fa, en, lf) k = (h, it, n, 4, ho, db, du, fa, en, lf) := va_up_self _ _ _
            have hB : gB (dC, dI) gcl z (gU M (ad 2) (aI dA (ml 2) (upd (f 2) k 4))) s.heap H locs := hB
            generalize gU M (ad 2) (aI dA (ml 2) (upd (f 2) k 4)) = M at hB hR
            generalize u2 f 2 k 4 = f at hR
            refine lv_iconst (v := 4) hx hb dM_received_51 (by decide) ?_
            exact gg_iret hx hb hr hlocks hKA hB dM_received_52 (by decide) (by decide) (mP_of (show sRec hs lt lw cn σ (nI k) t = (4, t, lw, cn, va_up σ k (h, it, n, 4, ho, db, du, fa, en, lf)) from by simp [sRec, hi, c10, hT2, c20, c33, hq0, qst]) ⟨_, hR, rfl⟩)
          · refine lv_bipush (v := (-3)) hx hb dM_received_36 (by decide) ?_
            exact gg_iret hx hb hr hlocks hKA hB dM_received_38 (by decide) (by decide) (mP_of (show sRec hs lt lw cn σ (nI k) t = ((-3), lt, lw, cn, σ) from by simp [sRec, hi, c10, hT2, c20, c33, hq0, qst]) ⟨_, hR, rfl⟩)
        · exact absurd c20 (by decide)
    · exact absurd c10 (by decide)
set_option maxHeartbeats 4000000 in
set_option maxRecDepth 100000 in
theorem c_M_back (l : Launch) (dC : Nat → ClassId) (dI : Nat → Nat → Nat) (dA : Nat → ClassId) (z : Nat) (M0 M : gM) (mo : Nat) (ad : Nat → Nat) (th lt hs lw : Int32) (cn : Nat) (σ : Nat → Rq) (f : Nat → Nat → Int32) (hR : mW dA M0 M mo ad th lt hs lw cn σ f) (hh9 : hsOk hs) (hinv : ∀ k, k < cn → inv (σ k)) (r t : Int32) : gMi l dC dI dA z y_M_back b_M_back 3 (Option.some FieldType.int) ⟨2, 0, 0, 43⟩ [.ref mo, .int r, .int t] M (mP dA M0 mo ad hs (sBack hs lt lw cn σ r t)) 0 0 := by
  refine gOfW (by decide) (Nat.le_of_ble_eq_true rfl) ?_
  intro p e s m below meth c ls hF hr hlocks hnm hKA hB hl
  obtain ⟨hx, hb, hml, hown, hts⟩ := id hF
  have hK := hKA.1
  have hl : lv_has ls 3 [(0, .ref mo), (1, .int r), (2, .int t)] := hl
  refine lv_aload_n hx hb dM_back_0 rfl (lv_at hl 0 rfl) ?_
  refine lv_iconst (v := 0) hx hb dM_back_1 (by decide) ?_
  refine gg_put (ty := .int) (v := .int 0) hx hb hts in_M t_M t_M_ok n_M hown hK hB hR.top rfl 0 (by decide) k_342 rfl rfl (by decide +kernel) rfl rfl (Nat.le_of_ble_eq_true rfl) dM_back_2 (fun H locs hB => ?_)
  have hR := hR.setTop 0 lt lw
  have hB : gB (dC, dI) gcl z (gU M mo (oM 0 lt hs lw cn ad)) s.heap H locs := hB
  generalize gU M mo (oM 0 lt hs lw cn ad) = M at hB hR
  refine lv_aload_n hx hb dM_back_5 rfl (lv_at hl 0 rfl) ?_
  refine lv_iload_n hx hb dM_back_6 rfl (lv_at hl 1 rfl) ?_
  refine gEndi (gRunV hF (c_M_isRequest l dC dI dA z M0 M mo ad 0 lt hs lw cn _ _ hR r) ln_M_73 hKA hB hR.top rfl rfl hl.1 rfl (Nat.le_of_ble_eq_true rfl) dM_back_7 ⟨rfl, rfl, (Nat.le_of_ble_eq_true rfl), (Nat.le_of_ble_eq_true rfl)⟩ ⟨(Nat.le_of_ble_eq_true rfl), (Nat.le_of_ble_eq_true rfl)⟩) hB (fun y1 M1 H locs hp hB => ?_)
  obtain ⟨e1, e2⟩ := hp
  rw [e1] at hB
  cases hi : ix cn r with
  | none =>
    have e2 : y1 = 0 := by rw [e2, hi]; rfl
    subst e2
    refine lv_if_ne (tgt := 15) hx hb dM_back_10 (by decide) (fun c10 => ?_) (fun c10 => ?_)
    · exact (c10 (by decide)).elim
    · refine lv_iconst (v := (-1)) hx hb dM_back_13 (by decide) ?_
      exact gg_iret hx hb hr hlocks hKA hB dM_back_14 (by decide) (by decide) (mP_of (show sBack hs lt lw cn σ r t = ((-1), lt, lw, cn, σ) from by simp [sBack, hi, c10, qst]) ⟨_, hR, rfl⟩)
  | some k =>
    have e2 : y1 = 1 := by rw [e2, hi]; rfl
    subst e2
    obtain ⟨hk, hr9⟩ := ix_some (by have := hR.c100; omega) hi
    subst hr9
    obtain ⟨⟨h, it, n, st, ho, db, du, fa, en, lf⟩, hq⟩ : ∃ q, σ k = q := ⟨_, rfl⟩
    have hq0 := hq
    have hv := hinv k hk
    refine lv_if_ne (tgt := 15) hx hb dM_back_10 (by decide) (fun c10 => ?_) (fun c10 => ?_)
    · refine lv_aload_n hx hb dM_back_15 rfl (lv_at hl 0 rfl) ?_
      refine lv_iload_n hx hb dM_back_16 rfl (lv_at hl 2 rfl) ?_
      refine gEndi (gRunV hF (c_M_isNow l dC dI dA z M0 M mo ad 0 lt hs lw cn _ _ hR t) ln_M_80 hKA hB hR.top rfl rfl hl.1 rfl (Nat.le_of_ble_eq_true rfl) dM_back_17 ⟨rfl, rfl, (Nat.le_of_ble_eq_true rfl), (Nat.le_of_ble_eq_true rfl)⟩ ⟨(Nat.le_of_ble_eq_true rfl), (Nat.le_of_ble_eq_true rfl)⟩) hB (fun y2 M1 H locs hp hB => ?_)
      obtain ⟨e1, e2⟩ := hp
      rw [e1] at hB
      cases hT2 : bT lt t with
      | false =>
        have e2 : y2 = 0 := by rw [e2, hT2]; rfl
        subst e2
        refine lv_if_ne (tgt := 26) hx hb dM_back_20 (by decide) (fun c20 => ?_) (fun c20 => ?_)
        · exact (c20 (by decide)).elim
        · refine lv_bipush (v := (-2)) hx hb dM_back_23 (by decide) ?_
          exact gg_iret hx hb hr hlocks hKA hB dM_back_25 (by decide) (by decide) (mP_of (show sBack hs lt lw cn σ (nI k) t = ((-2), lt, lw, cn, σ) from by simp [sBack, hi, c10, hT2, c20, hq0, qst]) ⟨_, hR, rfl⟩)
      | true =>
        have e2 : y2 = 1 := by rw [e2, hT2]; rfl
        subst e2
        refine lv_if_ne (tgt := 26) hx hb dM_back_20 (by decide) (fun c20 => ?_) (fun c20 => ?_)
        · refine lv_aload_n hx hb dM_back_26 rfl (lv_at hl 0 rfl) ?_
          refine gg_get (v := .ref (ad 2)) hx hb hts in_M hown hK hB hR.top rfl 7 (by decide) k_349 rfl rfl dM_back_27 ?_
          refine lv_iload_n hx hb dM_back_30 rfl (lv_at hl 1 rfl) ?_
          refine gg_iald (v := st) hx hb hK hB 2 (hR.ar 2 (by decide)) rfl (vp_in_nI (ml_lo (by decide) (by have := hR.c100; omega)) (ml_lt _)) (by rw [nI_clamp (by have := hR.c100; omega)]; exact (hR.r hk hq).2.2.1) dM_back_31 ?_
          refine lv_iconst (v := 4) hx hb dM_back_32 (by decide) ?_
          refine lv_icmp_eq (tgt := 39) hx hb dM_back_33 (by decide) (fun c33 => ?_) (fun c33 => ?_)
          · refine lv_aload_n hx hb dM_back_39 rfl (lv_at hl 0 rfl) ?_
            refine lv_iload_n hx hb dM_back_40 rfl (lv_at hl 2 rfl) ?_
            refine gg_put (ty := .int) (v := .int t) hx hb hts in_M t_M t_M_ok n_M hown hK hB hR.top rfl 1 (by decide) k_343 rfl rfl (by decide +kernel) rfl rfl (Nat.le_of_ble_eq_true rfl) dM_back_41 (fun H locs hB => ?_)
            have hR := hR.setTop 0 t lw
            have hB : gB (dC, dI) gcl z (gU M mo (oM 0 t hs lw cn ad)) s.heap H locs := hB
            generalize gU M mo (oM 0 t hs lw cn ad) = M at hB hR
            refine lv_aload_n hx hb dM_back_44 rfl (lv_at hl 0 rfl) ?_
            refine gg_get (v := .ref (ad 2)) hx hb hts in_M hown hK hB hR.top rfl 7 (by decide) k_349 rfl rfl dM_back_45 ?_
            refine lv_iload_n hx hb dM_back_48 rfl (lv_at hl 1 rfl) ?_
            refine lv_iconst (v := 5) hx hb dM_back_49 (by decide) ?_
            refine gg_iast hx hb hK hB 2 (hR.ar 2 (by decide)) rfl (vp_in_nI (ml_lo (by decide) (by have := hR.c100; omega)) (ml_lt _)) dM_back_50 (fun H locs hB => ?_)
            rw [nI_clamp (by have := hR.c100; omega)] at hB
            have hR := hR.put 2 (by decide) k 5 (hR.re.setq hk hq 2 5 (h, it, n, 5, ho, db, du, fa, en, lf) rfl rfl (by decide) ⟨(u2_j (by decide)).trans (hR.r hk hq).1, (u2_j (by decide)).trans (hR.r hk hq).2.1, u2_s _ _ _ _, (u2_j (by decide)).trans (hR.r hk hq).2.2.2.1, (u2_j (by decide)).trans (hR.r hk hq).2.2.2.2.1, (u2_j (by decide)).trans (hR.r hk hq).2.2.2.2.2.1, (u2_j (by decide)).trans (hR.r hk hq).2.2.2.2.2.2.1, (u2_j (by decide)).trans (hR.r hk hq).2.2.2.2.2.2.2⟩)
            have hq : va_up σ k (h, it, n, 5, ho, db, du, fa, en, lf) k = (h, it, n, 5, ho, db, du, fa, en, lf) := va_up_self _ _ _
            have hB : gB (dC, dI) gcl z (gU M (ad 2) (aI dA (ml 2) (upd (f 2) k 5))) s.heap H locs := hB
            generalize gU M (ad 2) (aI dA (ml 2) (upd (f 2) k 5)) = M at hB hR
            generalize u2 f 2 k 5 = f at hR
            refine lv_iload_n hx hb dM_back_51 rfl (lv_at hl 2 rfl) ?_
            refine lv_aload_n hx hb dM_back_52 rfl (lv_at hl 0 rfl) ?_
            refine gg_get (v := .ref (ad 5)) hx hb hts in_M hown hK hB hR.top rfl 10 (by decide) k_352 rfl rfl dM_back_53 ?_
            refine lv_iload_n hx hb dM_back_56 rfl (lv_at hl 1 rfl) ?_
            refine gg_iald (v := du) hx hb hK hB 2 (hR.ar 5 (by decide)) rfl (vp_in_nI (ml_lo (by decide) (by have := hR.c100; omega)) (ml_lt _)) (by rw [nI_clamp (by have := hR.c100; omega)]; exact (hR.r hk hq).2.2.2.2.2.1) dM_back_57 ?_
            refine lv_icmp_le (tgt := 65) hx hb dM_back_58 (by decide) (fun c58 => ?_) (fun c58 => ?_)
            · refine lv_iconst (v := 1) hx hb dM_back_65 (by decide) ?_
              exact gg_iret hx hb hr hlocks hKA hB dM_back_66 (by decide) (by decide) (mP_of (show sBack hs lt lw cn σ (nI k) t = (1, t, lw, cn, va_up σ k (h, it, n, 5, ho, db, du, fa, en, lf)) from by simp [sBack, hi, c10, hT2, c20, c33, c58, hq0, qst]) ⟨_, hR, rfl⟩)
            · refine lv_iconst (v := 0) hx hb dM_back_61 (by decide) ?_
              refine lv_goto (tgt := 66) hx hb dM_back_62 (by decide) ?_
              exact gg_iret hx hb hr hlocks hKA hB dM_back_66 (by decide) (by decide) (mP_of (show sBack hs lt lw cn σ (nI k) t = (0, t, lw, cn, va_up σ k (h, it, n, 5, ho, db, du, fa, en, lf)) from by simp [sBack, hi, c10, hT2, c20, c33, c58, hq0, qst]) ⟨_, hR, rfl⟩)
          · refine lv_bipush (v := (-3)) hx hb dM_back_36 (by decide) ?_
            exact gg_iret hx hb hr hlocks hKA hB dM_back_38 (by decide) (by decide) (mP_of (show sBack hs lt lw cn σ (nI k) t = ((-3), lt, lw, cn, σ) from by simp [sBack, hi, c10, hT2, c20, c33, hq0, qst]) ⟨_, hR, rfl⟩)
        · exact absurd c20 (by decide)
    · exact absurd c10 (by decide)
set_option maxHeartbeats 4000000 in
set_option maxRecDepth 100000 in
theorem c_M_send (l : Launch) (dC : Nat → ClassId) (dI : Nat → Nat → Nat) (dA : Nat → ClassId) (z : Nat) (M0 M : gM) (mo : Nat) (ad : Nat → Nat) (th lt hs lw : Int32) (cn : Nat) (σ : Nat → Rq) (f : Nat → Nat → Int32) (hR : mW dA M0 M mo ad th lt hs lw cn σ f) (hh9 : hsOk hs) (hinv : ∀ k, k < cn → inv (σ k)) (r t : Int32) : gMi l dC dI dA z y_M_send b_M_send 3 (Option.some FieldType.int) ⟨2, 0, 0, 46⟩ [.ref mo, .int r, .int t] M (mP dA M0 mo ad hs (sSend hs lt lw cn σ r t)) 0 0 := by
  refine gOfW (by decide) (Nat.le_of_ble_eq_true rfl) ?_
  intro p e s m below meth c ls hF hr hlocks hnm hKA hB hl
  obtain ⟨hx, hb, hml, hown, hts⟩ := id hF
  have hK := hKA.1
  have hl : lv_has ls 3 [(0, .ref mo), (1, .int r), (2, .int t)] := hl
  refine lv_aload_n hx hb dM_send_0 rfl (lv_at hl 0 rfl) ?_
  refine lv_iconst (v := 0) hx hb dM_send_1 (by decide) ?_
  refine gg_put (ty := .int) (v := .int 0) hx hb hts in_M t_M t_M_ok n_M hown hK hB hR.top rfl 0 (by decide) k_342 rfl rfl (by decide +kernel) rfl rfl (Nat.le_of_ble_eq_true rfl) dM_send_2 (fun H locs hB => ?_)
  have hR := hR.setTop 0 lt lw
  have hB : gB (dC, dI) gcl z (gU M mo (oM 0 lt hs lw cn ad)) s.heap H locs := hB
  generalize gU M mo (oM 0 lt hs lw cn ad) = M at hB hR
  refine lv_aload_n hx hb dM_send_5 rfl (lv_at hl 0 rfl) ?_
  refine lv_iload_n hx hb dM_send_6 rfl (lv_at hl 1 rfl) ?_
  refine gEndi (gRunV hF (c_M_isRequest l dC dI dA z M0 M mo ad 0 lt hs lw cn _ _ hR r) ln_M_73 hKA hB hR.top rfl rfl hl.1 rfl (Nat.le_of_ble_eq_true rfl) dM_send_7 ⟨rfl, rfl, (Nat.le_of_ble_eq_true rfl), (Nat.le_of_ble_eq_true rfl)⟩ ⟨(Nat.le_of_ble_eq_true rfl), (Nat.le_of_ble_eq_true rfl)⟩) hB (fun y1 M1 H locs hp hB => ?_)
  obtain ⟨e1, e2⟩ := hp
  rw [e1] at hB
  cases hi : ix cn r with
  | none =>
    have e2 : y1 = 0 := by rw [e2, hi]; rfl
    subst e2
    refine lv_if_ne (tgt := 15) hx hb dM_send_10 (by decide) (fun c10 => ?_) (fun c10 => ?_)
    · exact (c10 (by decide)).elim
    · refine lv_iconst (v := (-1)) hx hb dM_send_13 (by decide) ?_
      exact gg_iret hx hb hr hlocks hKA hB dM_send_14 (by decide) (by decide) (mP_of (show sSend hs lt lw cn σ r t = ((-1), lt, lw, cn, σ) from by simp [sSend, hi, c10]) ⟨_, hR, rfl⟩)
  | some k =>
    have e2 : y1 = 1 := by rw [e2, hi]; rfl
    subst e2
    obtain ⟨hk, hr9⟩ := ix_some (by have := hR.c100; omega) hi
    subst hr9
    obtain ⟨⟨h, it, n, st, ho, db, du, fa, en, lf⟩, hq⟩ : ∃ q, σ k = q := ⟨_, rfl⟩
    have hq0 := hq
    have hv := hinv k hk
    refine lv_if_ne (tgt := 15) hx hb dM_send_10 (by decide) (fun c10 => ?_) (fun c10 => ?_)
    · refine lv_aload_n hx hb dM_send_15 rfl (lv_at hl 0 rfl) ?_
      refine lv_iload_n hx hb dM_send_16 rfl (lv_at hl 2 rfl) ?_
      refine gEndi (gRunV hF (c_M_isNow l dC dI dA z M0 M mo ad 0 lt hs lw cn _ _ hR t) ln_M_80 hKA hB hR.top rfl rfl hl.1 rfl (Nat.le_of_ble_eq_true rfl) dM_send_17 ⟨rfl, rfl, (Nat.le_of_ble_eq_true rfl), (Nat.le_of_ble_eq_true rfl)⟩ ⟨(Nat.le_of_ble_eq_true rfl), (Nat.le_of_ble_eq_true rfl)⟩) hB (fun y2 M1 H locs hp hB => ?_)
      obtain ⟨e1, e2⟩ := hp
      rw [e1] at hB
      cases hT2 : bT lt t with
      | false =>
        have e2 : y2 = 0 := by rw [e2, hT2]; rfl
        subst e2
        refine lv_if_ne (tgt := 26) hx hb dM_send_20 (by decide) (fun c20 => ?_) (fun c20 => ?_)
        · exact (c20 (by decide)).elim
        · refine lv_bipush (v := (-2)) hx hb dM_send_23 (by decide) ?_
          exact gg_iret hx hb hr hlocks hKA hB dM_send_25 (by decide) (by decide) (mP_of (show sSend hs lt lw cn σ (nI k) t = ((-2), lt, lw, cn, σ) from by simp [sSend, hi, c10, hT2, c20, hq0]) ⟨_, hR, rfl⟩)
      | true =>
        have e2 : y2 = 1 := by rw [e2, hT2]; rfl
        subst e2
        refine lv_if_ne (tgt := 26) hx hb dM_send_20 (by decide) (fun c20 => ?_) (fun c20 => ?_)
        · refine lv_aload_n hx hb dM_send_26 rfl (lv_at hl 0 rfl) ?_
          refine gg_get (v := .ref (ad 2)) hx hb hts in_M hown hK hB hR.top rfl 7 (by decide) k_349 rfl rfl dM_send_27 ?_
          refine lv_iload_n hx hb dM_send_30 rfl (lv_at hl 1 rfl) ?_
          refine gg_iald (v := st) hx hb hK hB 2 (hR.ar 2 (by decide)) rfl (vp_in_nI (ml_lo (by decide) (by have := hR.c100; omega)) (ml_lt _)) (by rw [nI_clamp (by have := hR.c100; omega)]; exact (hR.r hk hq).2.2.1) dM_send_31 ?_
          refine lv_if_eq (tgt := 38) hx hb dM_send_32 (by decide) (fun c32 => ?_) (fun c32 => ?_)
          · refine lv_aload_n hx hb dM_send_38 rfl (lv_at hl 0 rfl) ?_
            refine lv_iload_n hx hb dM_send_39 rfl (lv_at hl 2 rfl) ?_
            refine gg_put (ty := .int) (v := .int t) hx hb hts in_M t_M t_M_ok n_M hown hK hB hR.top rfl 1 (by decide) k_343 rfl rfl (by decide +kernel) rfl rfl (Nat.le_of_ble_eq_true rfl) dM_send_40 (fun H locs hB => ?_)
            have hR := hR.setTop 0 t lw
            have hB : gB (dC, dI) gcl z (gU M mo (oM 0 t hs lw cn ad)) s.heap H locs := hB
            generalize gU M mo (oM 0 t hs lw cn ad) = M at hB hR
            refine lv_aload_n hx hb dM_send_43 rfl (lv_at hl 0 rfl) ?_
            refine lv_iload_n hx hb dM_send_44 rfl (lv_at hl 1 rfl) ?_
            refine lv_iload_n hx hb dM_send_45 rfl (lv_at hl 2 rfl) ?_
            have hfa : fa = -1 ∨ ¬ fa < 0 := by have := hv.2.2.1; rw [hq0] at this; exact this
            refine gEndi (gRunV hF (c_M_askNext l dC dI dA z M0 M mo ad 0 t hs lw cn _ _ hR k hk (by rw [hq]; exact hfa) t) ln_M_83 hKA hB hR.top rfl rfl hl.1 rfl (Nat.le_of_ble_eq_true rfl) dM_send_46 ⟨rfl, rfl, (Nat.le_of_ble_eq_true rfl), (Nat.le_of_ble_eq_true rfl)⟩ ⟨(Nat.le_of_ble_eq_true rfl), (Nat.le_of_ble_eq_true rfl)⟩) hB (fun y3 M1 H locs hp hB => ?_)
            obtain ⟨⟨f1, hp⟩, e2⟩ := hp
            rw [hq] at hp e2
            obtain ⟨⟨h2, it2, n2, st2, ho2, db2, du2, fa2, en2, lf2⟩, hq2⟩ : ∃ q, qask (h, it, n, st, ho, db, du, fa, en, lf) t = q := ⟨_, rfl⟩
            have hR := hp
            have hq := (va_up_self σ k (qask (h, it, n, st, ho, db, du, fa, en, lf) t)).trans hq2
            generalize M1 = M at hB hR
            generalize f1 = f at hR
            exact gg_iret hx hb hr hlocks hKA hB dM_send_49 (by decide) (by decide) (mP_of (show sSend hs lt lw cn σ (nI k) t = (aask (qask (h, it, n, st, ho, db, du, fa, en, lf) t), t, lw, cn, va_up σ k (qask (h, it, n, st, ho, db, du, fa, en, lf) t)) from by simp only [sSend, hi, c10, hT2, c20, c32, hq0, if_true, if_false, not_true_eq_false, Bool.true_eq_false, reduceIte]; rfl) ⟨_, hR, e2⟩)
          · refine lv_bipush (v := (-3)) hx hb dM_send_35 (by decide) ?_
            exact gg_iret hx hb hr hlocks hKA hB dM_send_37 (by decide) (by decide) (mP_of (show sSend hs lt lw cn σ (nI k) t = ((-3), lt, lw, cn, σ) from by simp [sSend, hi, c10, hT2, c20, c32, hq0]) ⟨_, hR, rfl⟩)
        · exact absurd c20 (by decide)
    · exact absurd c10 (by decide)
set_option maxHeartbeats 4000000 in
set_option maxRecDepth 100000 in
theorem c_M_span (l : Launch) (dC : Nat → ClassId) (dI : Nat → Nat → Nat) (dA : Nat → ClassId) (z : Nat) (M0 M : gM) (mo : Nat) (ad : Nat → Nat) (th lt hs lw : Int32) (cn : Nat) (σ : Nat → Rq) (f : Nat → Nat → Int32) (hR : mW dA M0 M mo ad th lt hs lw cn σ f) (hh9 : hsOk hs) (hinv : ∀ k, k < cn → inv (σ k)) (x : Int32) : gMi l dC dI dA z y_M_span b_M_span 2 (Option.some FieldType.int) ⟨1, 0, 0, 22⟩ [.ref mo, .int x] M (mP dA M0 mo ad hs (sSpan hs lt lw cn σ x)) 0 0 := by
  refine gOfW (by decide) (Nat.le_of_ble_eq_true rfl) ?_
  intro p e s m below meth c ls hF hr hlocks hnm hKA hB hl
  obtain ⟨hx, hb, hml, hown, hts⟩ := id hF
  have hK := hKA.1
  have hl : lv_has ls 2 [(0, .ref mo), (1, .int x)] := hl
  refine lv_aload_n hx hb dM_span_0 rfl (lv_at hl 0 rfl) ?_
  refine lv_iconst (v := 0) hx hb dM_span_1 (by decide) ?_
  refine gg_put (ty := .int) (v := .int 0) hx hb hts in_M t_M t_M_ok n_M hown hK hB hR.top rfl 0 (by decide) k_342 rfl rfl (by decide +kernel) rfl rfl (Nat.le_of_ble_eq_true rfl) dM_span_2 (fun H locs hB => ?_)
  have hR := hR.setTop 0 lt lw
  have hB : gB (dC, dI) gcl z (gU M mo (oM 0 lt hs lw cn ad)) s.heap H locs := hB
  generalize gU M mo (oM 0 lt hs lw cn ad) = M at hB hR
  refine lv_iload_n hx hb dM_span_5 rfl (lv_at hl 1 rfl) ?_
  refine lv_iconst (v := 1) hx hb dM_span_6 (by decide) ?_
  refine lv_ldc (v := 10000000) hx hb hown (hts _ k_476) dM_span_7 ?_
  refine gEndi (gRunS hF (c_M_in l dC dI dA z M x 1 10000000) ln_M_57 hKA hB rfl hl.1 rfl (Nat.le_of_ble_eq_true rfl) dM_span_9 ⟨rfl, rfl, (Nat.le_of_ble_eq_true rfl), (Nat.le_of_ble_eq_true rfl)⟩ ⟨(Nat.le_of_ble_eq_true rfl), (Nat.le_of_ble_eq_true rfl)⟩) hB (fun y1 M1 H locs hp hB => ?_)
  obtain ⟨e1, e2⟩ := hp
  rw [e1] at hB
  cases hN1 : bI x 1 10000000 with
  | false =>
    have e2 : y1 = 0 := by rw [e2, hN1]; rfl
    subst e2
    refine lv_if_ne (tgt := 18) hx hb dM_span_12 (by decide) (fun c12 => ?_) (fun c12 => ?_)
    · exact (c12 (by decide)).elim
    · refine lv_bipush (v := (-2)) hx hb dM_span_15 (by decide) ?_
      exact gg_iret hx hb hr hlocks hKA hB dM_span_17 (by decide) (by decide) (mP_of (sSpan_r hN1) ⟨_, hR, rfl⟩)
  | true =>
    have e2 : y1 = 1 := by rw [e2, hN1]; rfl
    subst e2
    refine lv_if_ne (tgt := 18) hx hb dM_span_12 (by decide) (fun c12 => ?_) (fun c12 => ?_)
    · refine lv_aload_n hx hb dM_span_18 rfl (lv_at hl 0 rfl) ?_
      refine lv_iload_n hx hb dM_span_19 rfl (lv_at hl 1 rfl) ?_
      refine gg_put (ty := .int) (v := .int x) hx hb hts in_M t_M t_M_ok n_M hown hK hB hR.top rfl 3 (by decide) k_345 rfl rfl (by decide +kernel) rfl rfl (Nat.le_of_ble_eq_true rfl) dM_span_20 (fun H locs hB => ?_)
      have hR := hR.setTop 0 lt x
      have hB : gB (dC, dI) gcl z (gU M mo (oM 0 lt hs x cn ad)) s.heap H locs := hB
      generalize gU M mo (oM 0 lt hs x cn ad) = M at hB hR
      refine lv_iconst (v := 1) hx hb dM_span_23 (by decide) ?_
      exact gg_iret hx hb hr hlocks hKA hB dM_span_24 (by decide) (by decide) (mP_of (sSpan_y hN1) ⟨_, hR, rfl⟩)
    · exact absurd c12 (by decide)
set_option maxHeartbeats 4000000 in
set_option maxRecDepth 100000 in
theorem c_M_cancel (l : Launch) (dC : Nat → ClassId) (dI : Nat → Nat → Nat) (dA : Nat → ClassId) (z : Nat) (M0 M : gM) (mo : Nat) (ad : Nat → Nat) (th lt hs lw : Int32) (cn : Nat) (σ : Nat → Rq) (f : Nat → Nat → Int32) (hR : mW dA M0 M mo ad th lt hs lw cn σ f) (hh9 : hsOk hs) (hinv : ∀ k, k < cn → inv (σ k)) (r t : Int32) : gMi l dC dI dA z y_M_cancel b_M_cancel 4 (Option.some FieldType.int) ⟨2, 0, 0, 44⟩ [.ref mo, .int r, .int t] M (mP dA M0 mo ad hs (sCancel hs lt lw cn σ r t)) 0 0 := by
  refine gOfW (by decide) (Nat.le_of_ble_eq_true rfl) ?_
  intro p e s m below meth c ls hF hr hlocks hnm hKA hB hl
  obtain ⟨hx, hb, hml, hown, hts⟩ := id hF
  have hK := hKA.1
  have hl : lv_has ls 4 [(0, .ref mo), (1, .int r), (2, .int t)] := hl
  refine lv_aload_n hx hb dM_cancel_0 rfl (lv_at hl 0 rfl) ?_
  refine lv_iconst (v := 0) hx hb dM_cancel_1 (by decide) ?_
  refine gg_put (ty := .int) (v := .int 0) hx hb hts in_M t_M t_M_ok n_M hown hK hB hR.top rfl 0 (by decide) k_342 rfl rfl (by decide +kernel) rfl rfl (Nat.le_of_ble_eq_true rfl) dM_cancel_2 (fun H locs hB => ?_)
  have hR := hR.setTop 0 lt lw
  have hB : gB (dC, dI) gcl z (gU M mo (oM 0 lt hs lw cn ad)) s.heap H locs := hB
  generalize gU M mo (oM 0 lt hs lw cn ad) = M at hB hR
  refine lv_aload_n hx hb dM_cancel_5 rfl (lv_at hl 0 rfl) ?_
  refine lv_iload_n hx hb dM_cancel_6 rfl (lv_at hl 1 rfl) ?_
  refine gEndi (gRunV hF (c_M_isRequest l dC dI dA z M0 M mo ad 0 lt hs lw cn _ _ hR r) ln_M_73 hKA hB hR.top rfl rfl hl.1 rfl (Nat.le_of_ble_eq_true rfl) dM_cancel_7 ⟨rfl, rfl, (Nat.le_of_ble_eq_true rfl), (Nat.le_of_ble_eq_true rfl)⟩ ⟨(Nat.le_of_ble_eq_true rfl), (Nat.le_of_ble_eq_true rfl)⟩) hB (fun y1 M1 H locs hp hB => ?_)
  obtain ⟨e1, e2⟩ := hp
  rw [e1] at hB
  cases hi : ix cn r with
  | none =>
    have e2 : y1 = 0 := by rw [e2, hi]; rfl
    subst e2
    refine lv_if_ne (tgt := 15) hx hb dM_cancel_10 (by decide) (fun c10 => ?_) (fun c10 => ?_)
    · exact (c10 (by decide)).elim
    · refine lv_iconst (v := (-1)) hx hb dM_cancel_13 (by decide) ?_
      exact gg_iret hx hb hr hlocks hKA hB dM_cancel_14 (by decide) (by decide) (mP_of (show sCancel hs lt lw cn σ r t = ((-1), lt, lw, cn, σ) from by simp [sCancel, hi, c10]) ⟨_, hR, rfl⟩)
  | some k =>
    have e2 : y1 = 1 := by rw [e2, hi]; rfl
    subst e2
    obtain ⟨hk, hr9⟩ := ix_some (by have := hR.c100; omega) hi
    subst hr9
    obtain ⟨⟨h, it, n, st, ho, db, du, fa, en, lf⟩, hq⟩ : ∃ q, σ k = q := ⟨_, rfl⟩
    have hq0 := hq
    have hv := hinv k hk
    refine lv_if_ne (tgt := 15) hx hb dM_cancel_10 (by decide) (fun c10 => ?_) (fun c10 => ?_)
    · refine lv_aload_n hx hb dM_cancel_15 rfl (lv_at hl 0 rfl) ?_
      refine lv_iload_n hx hb dM_cancel_16 rfl (lv_at hl 2 rfl) ?_
      refine gEndi (gRunV hF (c_M_isNow l dC dI dA z M0 M mo ad 0 lt hs lw cn _ _ hR t) ln_M_80 hKA hB hR.top rfl rfl hl.1 rfl (Nat.le_of_ble_eq_true rfl) dM_cancel_17 ⟨rfl, rfl, (Nat.le_of_ble_eq_true rfl), (Nat.le_of_ble_eq_true rfl)⟩ ⟨(Nat.le_of_ble_eq_true rfl), (Nat.le_of_ble_eq_true rfl)⟩) hB (fun y2 M1 H locs hp hB => ?_)
      obtain ⟨e1, e2⟩ := hp
      rw [e1] at hB
      cases hT2 : bT lt t with
      | false =>
        have e2 : y2 = 0 := by rw [e2, hT2]; rfl
        subst e2
        refine lv_if_ne (tgt := 26) hx hb dM_cancel_20 (by decide) (fun c20 => ?_) (fun c20 => ?_)
        · exact (c20 (by decide)).elim
        · refine lv_bipush (v := (-2)) hx hb dM_cancel_23 (by decide) ?_
          exact gg_iret hx hb hr hlocks hKA hB dM_cancel_25 (by decide) (by decide) (mP_of (show sCancel hs lt lw cn σ (nI k) t = ((-2), lt, lw, cn, σ) from by simp [sCancel, hi, c10, hT2, c20, hq0]) ⟨_, hR, rfl⟩)
      | true =>
        have e2 : y2 = 1 := by rw [e2, hT2]; rfl
        subst e2
        refine lv_if_ne (tgt := 26) hx hb dM_cancel_20 (by decide) (fun c20 => ?_) (fun c20 => ?_)
        · refine lv_aload_n hx hb dM_cancel_26 rfl (lv_at hl 0 rfl) ?_
          refine gg_get (v := .ref (ad 2)) hx hb hts in_M hown hK hB hR.top rfl 7 (by decide) k_349 rfl rfl dM_cancel_27 ?_
          refine lv_iload_n hx hb dM_cancel_30 rfl (lv_at hl 1 rfl) ?_
          refine gg_iald (v := st) hx hb hK hB 2 (hR.ar 2 (by decide)) rfl (vp_in_nI (ml_lo (by decide) (by have := hR.c100; omega)) (ml_lt _)) (by rw [nI_clamp (by have := hR.c100; omega)]; exact (hR.r hk hq).2.2.1) dM_cancel_31 ?_
          refine lv_iconst (v := 2) hx hb dM_cancel_32 (by decide) ?_
          refine lv_icmp_le (tgt := 39) hx hb dM_cancel_33 (by decide) (fun c33 => ?_) (fun c33 => ?_)
          · refine lv_aload_n hx hb dM_cancel_39 rfl (lv_at hl 0 rfl) ?_
            refine lv_iload_n hx hb dM_cancel_40 rfl (lv_at hl 2 rfl) ?_
            refine gg_put (ty := .int) (v := .int t) hx hb hts in_M t_M t_M_ok n_M hown hK hB hR.top rfl 1 (by decide) k_343 rfl rfl (by decide +kernel) rfl rfl (Nat.le_of_ble_eq_true rfl) dM_cancel_41 (fun H locs hB => ?_)
            have hR := hR.setTop 0 t lw
            have hB : gB (dC, dI) gcl z (gU M mo (oM 0 t hs lw cn ad)) s.heap H locs := hB
            generalize gU M mo (oM 0 t hs lw cn ad) = M at hB hR
            refine lv_aload_n hx hb dM_cancel_44 rfl (lv_at hl 0 rfl) ?_
            refine lv_iload_n hx hb dM_cancel_45 rfl (lv_at hl 1 rfl) ?_
            refine gEndi (gRunV hF (c_M_holder l dC dI dA z M0 M mo ad 0 t hs lw cn σ _ hR k hk hv) ln_M_87 hKA hB hR.top rfl rfl hl.1 rfl (Nat.le_of_ble_eq_true rfl) dM_cancel_46 ⟨rfl, rfl, (Nat.le_of_ble_eq_true rfl), (Nat.le_of_ble_eq_true rfl)⟩ ⟨(Nat.le_of_ble_eq_true rfl), (Nat.le_of_ble_eq_true rfl)⟩) hB (fun y3 M1 H locs hp hB => ?_)
            obtain ⟨e1, e2⟩ := hp
            rw [e1] at hB
            rw [hq0] at e2
            rcases ho with _ | i
            · have e2 : y3 = (-1) := e2
              subst e2
              refine lv_istore_n (lv' := [(3, .int (-1)), (0, .ref mo), (1, .int (nI k)), (2, .int t)]) hx hb dM_cancel_49 rfl hl (by decide) rfl (fun ls hl => ?_)
              refine lv_iload_n hx hb dM_cancel_50 rfl (lv_at hl 0 rfl) ?_
              refine lv_if_lt (tgt := 62) hx hb dM_cancel_51 (by decide) (fun c51 => ?_) (fun c51 => ?_)
              · refine lv_aload_n hx hb dM_cancel_62 rfl (lv_at hl 1 rfl) ?_
                refine lv_iload_n hx hb dM_cancel_63 rfl (lv_at hl 2 rfl) ?_
                refine lv_bipush (v := 8) hx hb dM_cancel_64 (by decide) ?_
                refine lv_iload_n hx hb dM_cancel_66 rfl (lv_at hl 3 rfl) ?_
                refine gEndv (gRunV hF (c_M_end l dC dI dA z M0 M mo ad 0 t hs lw cn _ _ hR k hk h it n st none db du fa en lf hq 8 t) ln_M_76 hKA hB hR.top rfl rfl hl.1 rfl (Nat.le_of_ble_eq_true rfl) dM_cancel_67 ⟨rfl, rfl, (Nat.le_of_ble_eq_true rfl), (Nat.le_of_ble_eq_true rfl)⟩ ⟨(Nat.le_of_ble_eq_true rfl), (Nat.le_of_ble_eq_true rfl)⟩) hB (fun M1 H locs hp hB => ?_)
                obtain ⟨f1, hp⟩ := hp
                have hR := hp
                have hq : va_up σ k (h, it, n, 8, none, db, du, fa, t, lf) k = (h, it, n, 8, none, db, du, fa, t, lf) := va_up_self _ _ _
                generalize M1 = M at hB hR
                generalize f1 = f at hR
                refine lv_iconst (v := 1) hx hb dM_cancel_70 (by decide) ?_
                have h0 : ¬ st < 0 := by have := hv.2.2.2.1; rw [hq0] at this; exact this
                exact gg_iret hx hb hr hlocks hKA hB dM_cancel_71 (by decide) (by decide) (mP_of (show sCancel hs lt lw cn σ (nI k) t = (1, t, lw, cn, va_up σ k (h, it, n, 8, none, db, du, fa, t, lf)) from by simp [sCancel, hi, c10, hT2, c20, c33, hq0, bC_le h0, qcan, lset]) ⟨_, mW_ho hR, rfl⟩)
              · exact (c51 (by decide)).elim
            · have e2 : y3 = (nI (8 * k + i)) := e2
              subst e2
              have hi9 : i < n := by have := hv.2.1 i; rw [hq0] at this; exact this rfl
              have h15 : p15 (lf i) = true := by have := hv.1 i; rw [hq0] at this; exact (this hi9).mpr rfl
              refine lv_istore_n (lv' := [(3, .int (nI (8 * k + i))), (0, .ref mo), (1, .int (nI k)), (2, .int t)]) hx hb dM_cancel_49 rfl hl (by decide) rfl (fun ls hl => ?_)
              refine lv_iload_n hx hb dM_cancel_50 rfl (lv_at hl 0 rfl) ?_
              refine lv_if_lt (tgt := 62) hx hb dM_cancel_51 (by decide) (fun c51 => ?_) (fun c51 => ?_)
              · exact absurd c51 (nI_pos (by have := hR.c100; have h8 : n ≤ 8 := hR.n8 hk hq; omega))
              · refine lv_aload_n hx hb dM_cancel_54 rfl (lv_at hl 1 rfl) ?_
                refine gg_get (v := .ref (ad 9)) hx hb hts in_M hown hK hB hR.top rfl 14 (by decide) k_356 rfl rfl dM_cancel_55 ?_
                refine lv_iload_n hx hb dM_cancel_58 rfl (lv_at hl 0 rfl) ?_
                refine lv_bipush (v := 8) hx hb dM_cancel_59 (by decide) ?_
                refine gg_iast hx hb hK hB 2 (hR.ar 9 (by decide)) rfl (vp_in_nI (ml_hi (by decide) (by have := hR.c100; have h8 : n ≤ 8 := hR.n8 hk hq; omega)) (ml_lt _)) dM_cancel_61 (fun H locs hB => ?_)
                rw [nI_clamp (by have := hR.c100; have h8 : n ≤ 8 := hR.n8 hk hq; omega)] at hB
                have hR := hR.put 9 (by decide) (8 * k + i) 8 (hR.re.setl hk hq hi9 9 8 ((lf i).1, 8, (lf i).2.2.1, (lf i).2.2.2) (by decide) ⟨(u2_j (by decide)).trans ((hR.l hk hq hi9).1), u2_s _ _ _ _, (u2_j (by decide)).trans ((hR.l hk hq hi9).2.2.1), (u2_j (by decide)).trans ((hR.l hk hq hi9).2.2.2)⟩)
                have hq : va_up σ k (h, it, n, st, some i, db, du, fa, en, va_up lf i ((lf i).1, 8, (lf i).2.2.1, (lf i).2.2.2)) k = (h, it, n, st, some i, db, du, fa, en, va_up lf i ((lf i).1, 8, (lf i).2.2.1, (lf i).2.2.2)) := va_up_self _ _ _
                have hB : gB (dC, dI) gcl z (gU M (ad 9) (aI dA (ml 9) (upd (f 9) (8 * k + i) 8))) s.heap H locs := hB
                generalize gU M (ad 9) (aI dA (ml 9) (upd (f 9) (8 * k + i) 8)) = M at hB hR
                generalize u2 f 9 (8 * k + i) 8 = f at hR
                refine lv_aload_n hx hb dM_cancel_62 rfl (lv_at hl 1 rfl) ?_
                refine lv_iload_n hx hb dM_cancel_63 rfl (lv_at hl 2 rfl) ?_
                refine lv_bipush (v := 8) hx hb dM_cancel_64 (by decide) ?_
                refine lv_iload_n hx hb dM_cancel_66 rfl (lv_at hl 3 rfl) ?_
                refine gEndv (gRunV hF (c_M_end l dC dI dA z M0 M mo ad 0 t hs lw cn _ _ hR k hk h it n st (some i) db du fa en (va_up lf i ((lf i).1, 8, (lf i).2.2.1, (lf i).2.2.2)) hq 8 t) ln_M_76 hKA hB hR.top rfl rfl hl.1 rfl (Nat.le_of_ble_eq_true rfl) dM_cancel_67 ⟨rfl, rfl, (Nat.le_of_ble_eq_true rfl), (Nat.le_of_ble_eq_true rfl)⟩ ⟨(Nat.le_of_ble_eq_true rfl), (Nat.le_of_ble_eq_true rfl)⟩) hB (fun M1 H locs hp hB => ?_)
                obtain ⟨f1, hp⟩ := hp
                simp only [bx_uu] at hp
                have hR := hp
                have hq : va_up σ k (h, it, n, 8, some i, db, du, fa, t, va_up lf i ((lf i).1, 8, (lf i).2.2.1, (lf i).2.2.2)) k = (h, it, n, 8, some i, db, du, fa, t, va_up lf i ((lf i).1, 8, (lf i).2.2.1, (lf i).2.2.2)) := va_up_self _ _ _
                generalize M1 = M at hB hR
                generalize f1 = f at hR
                refine lv_iconst (v := 1) hx hb dM_cancel_70 (by decide) ?_
                have h0 : ¬ st < 0 := by have := hv.2.2.2.1; rw [hq0] at this; exact this
                exact gg_iret hx hb hr hlocks hKA hB dM_cancel_71 (by decide) (by decide) (mP_of (show sCancel hs lt lw cn σ (nI k) t = (1, t, lw, cn, va_up σ k (h, it, n, 8, none, db, du, fa, t, va_up lf i ((lf i).1, 8, (lf i).2.2.1, (lf i).2.2.2))) from by simp [sCancel, hi, c10, hT2, c20, c33, hq0, bC_le h0, qcan, lset]) ⟨_, mW_ho hR, rfl⟩)
          · refine lv_bipush (v := (-3)) hx hb dM_cancel_36 (by decide) ?_
            have h0 : ¬ st < 0 := by have := hv.2.2.2.1; rw [hq0] at this; exact this
            exact gg_iret hx hb hr hlocks hKA hB dM_cancel_38 (by decide) (by decide) (mP_of (show sCancel hs lt lw cn σ (nI k) t = (-3, lt, lw, cn, σ) from by simp [sCancel, hi, c10, hT2, c20, c33, hq0, bC_le h0]) ⟨_, hR, rfl⟩)
        · exact absurd c20 (by decide)
    · exact absurd c10 (by decide)
set_option maxHeartbeats 4000000 in
set_option maxRecDepth 100000 in
theorem c_M_condition (l : Launch) (dC : Nat → ClassId) (dI : Nat → Nat → Nat) (dA : Nat → ClassId) (z : Nat) (M0 M : gM) (mo : Nat) (ad : Nat → Nat) (th lt hs lw : Int32) (cn : Nat) (σ : Nat → Rq) (f : Nat → Nat → Int32) (hR : mW dA M0 M mo ad th lt hs lw cn σ f) (hh9 : hsOk hs) (hinv : ∀ k, k < cn → inv (σ k)) (r yes t : Int32) : gMi l dC dI dA z y_M_condition b_M_condition 6 (Option.some FieldType.int) ⟨2, 0, 0, 46⟩ [.ref mo, .int r, .int yes, .int t] M (mP dA M0 mo ad hs (sCond hs lt lw cn σ r yes t)) 0 0 := by
  refine gOfW (by decide) (Nat.le_of_ble_eq_true rfl) ?_
  intro p e s m below meth c ls hF hr hlocks hnm hKA hB hl
  obtain ⟨hx, hb, hml, hown, hts⟩ := id hF
  have hK := hKA.1
  have hl : lv_has ls 6 [(0, .ref mo), (1, .int r), (2, .int yes), (3, .int t)] := hl
  refine lv_aload_n hx hb dM_condition_0 rfl (lv_at hl 0 rfl) ?_
  refine lv_iconst (v := 0) hx hb dM_condition_1 (by decide) ?_
  refine gg_put (ty := .int) (v := .int 0) hx hb hts in_M t_M t_M_ok n_M hown hK hB hR.top rfl 0 (by decide) k_342 rfl rfl (by decide +kernel) rfl rfl (Nat.le_of_ble_eq_true rfl) dM_condition_2 (fun H locs hB => ?_)
  have hR := hR.setTop 0 lt lw
  have hB : gB (dC, dI) gcl z (gU M mo (oM 0 lt hs lw cn ad)) s.heap H locs := hB
  generalize gU M mo (oM 0 lt hs lw cn ad) = M at hB hR
  refine lv_aload_n hx hb dM_condition_5 rfl (lv_at hl 0 rfl) ?_
  refine lv_iload_n hx hb dM_condition_6 rfl (lv_at hl 1 rfl) ?_
  refine gEndi (gRunV hF (c_M_isRequest l dC dI dA z M0 M mo ad 0 lt hs lw cn _ _ hR r) ln_M_73 hKA hB hR.top rfl rfl hl.1 rfl (Nat.le_of_ble_eq_true rfl) dM_condition_7 ⟨rfl, rfl, (Nat.le_of_ble_eq_true rfl), (Nat.le_of_ble_eq_true rfl)⟩ ⟨(Nat.le_of_ble_eq_true rfl), (Nat.le_of_ble_eq_true rfl)⟩) hB (fun y1 M1 H locs hp hB => ?_)
  obtain ⟨e1, e2⟩ := hp
  rw [e1] at hB
  cases hi : ix cn r with
  | none =>
    have e2 : y1 = 0 := by rw [e2, hi]; rfl
    subst e2
    refine lv_if_ne (tgt := 15) hx hb dM_condition_10 (by decide) (fun c10 => ?_) (fun c10 => ?_)
    · exact (c10 (by decide)).elim
    · refine lv_iconst (v := (-1)) hx hb dM_condition_13 (by decide) ?_
      exact gg_iret hx hb hr hlocks hKA hB dM_condition_14 (by decide) (by decide) (mP_of (show sCond hs lt lw cn σ r yes t = ((-1), lt, lw, cn, σ) from by simp [sCond, hi, c10, qyes, qno, lset]) ⟨_, hR, rfl⟩)
  | some k =>
    have e2 : y1 = 1 := by rw [e2, hi]; rfl
    subst e2
    obtain ⟨hk, hr9⟩ := ix_some (by have := hR.c100; omega) hi
    subst hr9
    obtain ⟨⟨h, it, n, st, ho, db, du, fa, en, lf⟩, hq⟩ : ∃ q, σ k = q := ⟨_, rfl⟩
    have hq0 := hq
    have hv := hinv k hk
    refine lv_if_ne (tgt := 15) hx hb dM_condition_10 (by decide) (fun c10 => ?_) (fun c10 => ?_)
    · refine lv_aload_n hx hb dM_condition_15 rfl (lv_at hl 0 rfl) ?_
      refine lv_iload_n hx hb dM_condition_16 rfl (lv_at hl 3 rfl) ?_
      refine gEndi (gRunV hF (c_M_isNow l dC dI dA z M0 M mo ad 0 lt hs lw cn _ _ hR t) ln_M_80 hKA hB hR.top rfl rfl hl.1 rfl (Nat.le_of_ble_eq_true rfl) dM_condition_17 ⟨rfl, rfl, (Nat.le_of_ble_eq_true rfl), (Nat.le_of_ble_eq_true rfl)⟩ ⟨(Nat.le_of_ble_eq_true rfl), (Nat.le_of_ble_eq_true rfl)⟩) hB (fun y2 M1 H locs hp hB => ?_)
      obtain ⟨e1, e2⟩ := hp
      rw [e1] at hB
      cases hT2 : bT lt t with
      | false =>
        have e2 : y2 = 0 := by rw [e2, hT2]; rfl
        subst e2
        refine lv_if_ne (tgt := 26) hx hb dM_condition_20 (by decide) (fun c20 => ?_) (fun c20 => ?_)
        · exact (c20 (by decide)).elim
        · refine lv_bipush (v := (-2)) hx hb dM_condition_23 (by decide) ?_
          exact gg_iret hx hb hr hlocks hKA hB dM_condition_25 (by decide) (by decide) (mP_of (show sCond hs lt lw cn σ (nI k) yes t = ((-2), lt, lw, cn, σ) from by simp [sCond, hi, c10, hT2, c20, hq0, qyes, qno, lset]) ⟨_, hR, rfl⟩)
      | true =>
        have e2 : y2 = 1 := by rw [e2, hT2]; rfl
        subst e2
        refine lv_if_ne (tgt := 26) hx hb dM_condition_20 (by decide) (fun c20 => ?_) (fun c20 => ?_)
        · refine lv_aload_n hx hb dM_condition_26 rfl (lv_at hl 0 rfl) ?_
          refine gg_get (v := .ref (ad 2)) hx hb hts in_M hown hK hB hR.top rfl 7 (by decide) k_349 rfl rfl dM_condition_27 ?_
          refine lv_iload_n hx hb dM_condition_30 rfl (lv_at hl 1 rfl) ?_
          refine gg_iald (v := st) hx hb hK hB 2 (hR.ar 2 (by decide)) rfl (vp_in_nI (ml_lo (by decide) (by have := hR.c100; omega)) (ml_lt _)) (by rw [nI_clamp (by have := hR.c100; omega)]; exact (hR.r hk hq).2.2.1) dM_condition_31 ?_
          refine lv_iconst (v := 2) hx hb dM_condition_32 (by decide) ?_
          refine lv_icmp_eq (tgt := 39) hx hb dM_condition_33 (by decide) (fun c33 => ?_) (fun c33 => ?_)
          · refine lv_aload_n hx hb dM_condition_39 rfl (lv_at hl 0 rfl) ?_
            refine lv_iload_n hx hb dM_condition_40 rfl (lv_at hl 3 rfl) ?_
            refine gg_put (ty := .int) (v := .int t) hx hb hts in_M t_M t_M_ok n_M hown hK hB hR.top rfl 1 (by decide) k_343 rfl rfl (by decide +kernel) rfl rfl (Nat.le_of_ble_eq_true rfl) dM_condition_41 (fun H locs hB => ?_)
            have hR := hR.setTop 0 t lw
            have hB : gB (dC, dI) gcl z (gU M mo (oM 0 t hs lw cn ad)) s.heap H locs := hB
            generalize gU M mo (oM 0 t hs lw cn ad) = M at hB hR
            refine lv_aload_n hx hb dM_condition_44 rfl (lv_at hl 0 rfl) ?_
            refine lv_iload_n hx hb dM_condition_45 rfl (lv_at hl 1 rfl) ?_
            refine gEndi (gRunV hF (c_M_holder l dC dI dA z M0 M mo ad 0 t hs lw cn σ _ hR k hk hv) ln_M_87 hKA hB hR.top rfl rfl hl.1 rfl (Nat.le_of_ble_eq_true rfl) dM_condition_46 ⟨rfl, rfl, (Nat.le_of_ble_eq_true rfl), (Nat.le_of_ble_eq_true rfl)⟩ ⟨(Nat.le_of_ble_eq_true rfl), (Nat.le_of_ble_eq_true rfl)⟩) hB (fun y3 M1 H locs hp hB => ?_)
            obtain ⟨e1, e2⟩ := hp
            rw [e1] at hB
            rw [hq0] at e2
            rcases ho with _ | i
            · have e2 : y3 = (-1) := e2
              subst e2
              refine lv_istore (lv' := [(4, .int (-1)), (0, .ref mo), (1, .int (nI k)), (2, .int yes), (3, .int t)]) hx hb dM_condition_49 hl (by decide) rfl (fun ls hl => ?_)
              refine lv_iload_n hx hb dM_condition_51 rfl (lv_at hl 3 rfl) ?_
              refine lv_if_eq (tgt := 81) hx hb dM_condition_52 (by decide) (fun c52 => ?_) (fun c52 => ?_)
              · exact absurd rfl (by have := hv.2.2.2.2.1; rw [hq0] at this; exact this c33)
              · exact absurd rfl (by have := hv.2.2.2.2.1; rw [hq0] at this; exact this c33)
            · have e2 : y3 = (nI (8 * k + i)) := e2
              subst e2
              have hi9 : i < n := by have := hv.2.1 i; rw [hq0] at this; exact this rfl
              have h15 : p15 (lf i) = true := by have := hv.1 i; rw [hq0] at this; exact (this hi9).mpr rfl
              refine lv_istore (lv' := [(4, .int (nI (8 * k + i))), (0, .ref mo), (1, .int (nI k)), (2, .int yes), (3, .int t)]) hx hb dM_condition_49 hl (by decide) rfl (fun ls hl => ?_)
              refine lv_iload_n hx hb dM_condition_51 rfl (lv_at hl 3 rfl) ?_
              refine lv_if_eq (tgt := 81) hx hb dM_condition_52 (by decide) (fun c52 => ?_) (fun c52 => ?_)
              · refine lv_aload_n hx hb dM_condition_81 rfl (lv_at hl 1 rfl) ?_
                refine gg_get (v := .ref (ad 9)) hx hb hts in_M hown hK hB hR.top rfl 14 (by decide) k_356 rfl rfl dM_condition_82 ?_
                refine lv_iload hx hb dM_condition_85 (lv_at hl 0 rfl) ?_
                refine lv_bipush (v := 6) hx hb dM_condition_87 (by decide) ?_
                refine gg_iast hx hb hK hB 2 (hR.ar 9 (by decide)) rfl (vp_in_nI (ml_hi (by decide) (by have := hR.c100; have h8 : n ≤ 8 := hR.n8 hk hq; omega)) (ml_lt _)) dM_condition_89 (fun H locs hB => ?_)
                rw [nI_clamp (by have := hR.c100; have h8 : n ≤ 8 := hR.n8 hk hq; omega)] at hB
                have hR := hR.put 9 (by decide) (8 * k + i) 6 (hR.re.setl hk hq hi9 9 6 ((lf i).1, 6, (lf i).2.2.1, (lf i).2.2.2) (by decide) ⟨(u2_j (by decide)).trans ((hR.l hk hq hi9).1), u2_s _ _ _ _, (u2_j (by decide)).trans ((hR.l hk hq hi9).2.2.1), (u2_j (by decide)).trans ((hR.l hk hq hi9).2.2.2)⟩)
                have hq : va_up σ k (h, it, n, st, some i, db, du, fa, en, va_up lf i ((lf i).1, 6, (lf i).2.2.1, (lf i).2.2.2)) k = (h, it, n, st, some i, db, du, fa, en, va_up lf i ((lf i).1, 6, (lf i).2.2.1, (lf i).2.2.2)) := va_up_self _ _ _
                have hB : gB (dC, dI) gcl z (gU M (ad 9) (aI dA (ml 9) (upd (f 9) (8 * k + i) 6))) s.heap H locs := hB
                generalize gU M (ad 9) (aI dA (ml 9) (upd (f 9) (8 * k + i) 6)) = M at hB hR
                generalize u2 f 9 (8 * k + i) 6 = f at hR
                refine lv_aload_n hx hb dM_condition_90 rfl (lv_at hl 1 rfl) ?_
                refine lv_iload_n hx hb dM_condition_91 rfl (lv_at hl 2 rfl) ?_
                refine lv_iload_n hx hb dM_condition_92 rfl (lv_at hl 4 rfl) ?_
                have hfa : fa = -1 ∨ ¬ fa < 0 := by have := hv.2.2.1; rw [hq0] at this; exact this
                refine gEndi (gRunV hF (c_M_askNext l dC dI dA z M0 M mo ad 0 t hs lw cn _ _ hR k hk (by rw [hq]; exact hfa) t) ln_M_83 hKA hB hR.top rfl rfl hl.1 rfl (Nat.le_of_ble_eq_true rfl) dM_condition_93 ⟨rfl, rfl, (Nat.le_of_ble_eq_true rfl), (Nat.le_of_ble_eq_true rfl)⟩ ⟨(Nat.le_of_ble_eq_true rfl), (Nat.le_of_ble_eq_true rfl)⟩) hB (fun y4 M1 H locs hp hB => ?_)
                obtain ⟨⟨f1, hp⟩, e2⟩ := hp
                rw [hq, bx_uu] at hp
                rw [hq] at e2
                obtain ⟨⟨h2, it2, n2, st2, ho2, db2, du2, fa2, en2, lf2⟩, hq2⟩ : ∃ q, qask (h, it, n, st, some i, db, du, fa, en, va_up lf i ((lf i).1, 6, (lf i).2.2.1, (lf i).2.2.2)) t = q := ⟨_, rfl⟩
                have hR := hp
                have hq := (va_up_self σ k (qask (h, it, n, st, some i, db, du, fa, en, va_up lf i ((lf i).1, 6, (lf i).2.2.1, (lf i).2.2.2)) t)).trans hq2
                generalize M1 = M at hB hR
                generalize f1 = f at hR
                refine lv_istore (lv' := [(5, .int y4), (4, .int (nI (8 * k + i))), (0, .ref mo), (1, .int (nI k)), (2, .int yes), (3, .int t)]) hx hb dM_condition_96 hl (by decide) rfl (fun ls hl => ?_)
                refine lv_aload_n hx hb dM_condition_98 rfl (lv_at hl 2 rfl) ?_
                refine gg_get (v := .ref (ad 2)) hx hb hts in_M hown hK hB hR.top rfl 7 (by decide) k_349 rfl rfl dM_condition_99 ?_
                refine lv_iload_n hx hb dM_condition_102 rfl (lv_at hl 3 rfl) ?_
                refine gg_iald (v := st2) hx hb hK hB 2 (hR.ar 2 (by decide)) rfl (vp_in_nI (ml_lo (by decide) (by have := hR.c100; omega)) (ml_lt _)) (by rw [nI_clamp (by have := hR.c100; omega)]; exact (hR.r hk hq).2.2.1) dM_condition_103 ?_
                have hq3 := hq2
                try simp only [hi, c10, hT2, c20, c33, c52] at hq3
                exact gg_iret hx hb hr hlocks hKA hB dM_condition_104 (by decide) (by decide) (mP_of (show sCond hs lt lw cn σ (nI k) yes t = (st2, t, lw, cn, va_up σ k (qask (h, it, n, st, some i, db, du, fa, en, va_up lf i ((lf i).1, 6, (lf i).2.2.1, (lf i).2.2.2)) t)) from by simp [sCond, hi, c10, hT2, c20, c33, c52, hq0, hq3, qyes, qno, lset]) ⟨_, hR, rfl⟩)
              · refine lv_aload_n hx hb dM_condition_55 rfl (lv_at hl 1 rfl) ?_
                refine gg_get (v := .ref (ad 9)) hx hb hts in_M hown hK hB hR.top rfl 14 (by decide) k_356 rfl rfl dM_condition_56 ?_
                refine lv_iload hx hb dM_condition_59 (lv_at hl 0 rfl) ?_
                refine lv_iconst (v := 1) hx hb dM_condition_61 (by decide) ?_
                refine gg_iast hx hb hK hB 2 (hR.ar 9 (by decide)) rfl (vp_in_nI (ml_hi (by decide) (by have := hR.c100; have h8 : n ≤ 8 := hR.n8 hk hq; omega)) (ml_lt _)) dM_condition_62 (fun H locs hB => ?_)
                rw [nI_clamp (by have := hR.c100; have h8 : n ≤ 8 := hR.n8 hk hq; omega)] at hB
                have hR := hR.put 9 (by decide) (8 * k + i) 1 (hR.re.setl hk hq hi9 9 1 ((lf i).1, 1, (lf i).2.2.1, (lf i).2.2.2) (by decide) ⟨(u2_j (by decide)).trans ((hR.l hk hq hi9).1), u2_s _ _ _ _, (u2_j (by decide)).trans ((hR.l hk hq hi9).2.2.1), (u2_j (by decide)).trans ((hR.l hk hq hi9).2.2.2)⟩)
                have hq : va_up σ k (h, it, n, st, some i, db, du, fa, en, va_up lf i ((lf i).1, 1, (lf i).2.2.1, (lf i).2.2.2)) k = (h, it, n, st, some i, db, du, fa, en, va_up lf i ((lf i).1, 1, (lf i).2.2.1, (lf i).2.2.2)) := va_up_self _ _ _
                have hB : gB (dC, dI) gcl z (gU M (ad 9) (aI dA (ml 9) (upd (f 9) (8 * k + i) 1))) s.heap H locs := hB
                generalize gU M (ad 9) (aI dA (ml 9) (upd (f 9) (8 * k + i) 1)) = M at hB hR
                generalize u2 f 9 (8 * k + i) 1 = f at hR
                refine lv_aload_n hx hb dM_condition_63 rfl (lv_at hl 1 rfl) ?_
                refine gg_get (v := .ref (ad 11)) hx hb hts in_M hown hK hB hR.top rfl 16 (by decide) k_358 rfl rfl dM_condition_64 ?_
                refine lv_iload hx hb dM_condition_67 (lv_at hl 0 rfl) ?_
                refine lv_iload_n hx hb dM_condition_69 rfl (lv_at hl 4 rfl) ?_
                refine gg_iast hx hb hK hB 2 (hR.ar 11 (by decide)) rfl (vp_in_nI (ml_hi (by decide) (by have := hR.c100; have h8 : n ≤ 8 := hR.n8 hk hq; omega)) (ml_lt _)) dM_condition_70 (fun H locs hB => ?_)
                rw [nI_clamp (by have := hR.c100; have h8 : n ≤ 8 := hR.n8 hk hq; omega)] at hB
                have hR := hR.put 11 (by decide) (8 * k + i) t (hR.re.setl hk hq hi9 11 t ((lf i).1, 1, (lf i).2.2.1, t) (by decide) ⟨(u2_j (by decide)).trans ((hR.l hk hq hi9).1.trans (show ((va_up lf i ((lf i).1, 1, (lf i).2.2.1, (lf i).2.2.2)) i).1 = _ from by rw [va_up_self])), (u2_j (by decide)).trans ((hR.l hk hq hi9).2.1.trans (show ((va_up lf i ((lf i).1, 1, (lf i).2.2.1, (lf i).2.2.2)) i).2.1 = _ from by rw [va_up_self])), (u2_j (by decide)).trans ((hR.l hk hq hi9).2.2.1.trans (show ((va_up lf i ((lf i).1, 1, (lf i).2.2.1, (lf i).2.2.2)) i).2.2.1 = _ from by rw [va_up_self])), u2_s _ _ _ _⟩)
                simp only [bx_uu] at hR
                have hq : va_up σ k (h, it, n, st, some i, db, du, fa, en, va_up lf i ((lf i).1, 1, (lf i).2.2.1, t)) k = (h, it, n, st, some i, db, du, fa, en, va_up lf i ((lf i).1, 1, (lf i).2.2.1, t)) := va_up_self _ _ _
                have hB : gB (dC, dI) gcl z (gU M (ad 11) (aI dA (ml 11) (upd (f 11) (8 * k + i) t))) s.heap H locs := hB
                generalize gU M (ad 11) (aI dA (ml 11) (upd (f 11) (8 * k + i) t)) = M at hB hR
                generalize u2 f 11 (8 * k + i) t = f at hR
                refine lv_aload_n hx hb dM_condition_71 rfl (lv_at hl 1 rfl) ?_
                refine gg_get (v := .ref (ad 2)) hx hb hts in_M hown hK hB hR.top rfl 7 (by decide) k_349 rfl rfl dM_condition_72 ?_
                refine lv_iload_n hx hb dM_condition_75 rfl (lv_at hl 2 rfl) ?_
                refine lv_iconst (v := 1) hx hb dM_condition_76 (by decide) ?_
                refine gg_iast hx hb hK hB 2 (hR.ar 2 (by decide)) rfl (vp_in_nI (ml_lo (by decide) (by have := hR.c100; omega)) (ml_lt _)) dM_condition_77 (fun H locs hB => ?_)
                rw [nI_clamp (by have := hR.c100; omega)] at hB
                have hR := hR.put 2 (by decide) k 1 (hR.re.setq hk hq 2 1 (h, it, n, 1, some i, db, du, fa, en, va_up lf i ((lf i).1, 1, (lf i).2.2.1, t)) rfl rfl (by decide) ⟨(u2_j (by decide)).trans (hR.r hk hq).1, (u2_j (by decide)).trans (hR.r hk hq).2.1, u2_s _ _ _ _, (u2_j (by decide)).trans (hR.r hk hq).2.2.2.1, (u2_j (by decide)).trans (hR.r hk hq).2.2.2.2.1, (u2_j (by decide)).trans (hR.r hk hq).2.2.2.2.2.1, (u2_j (by decide)).trans (hR.r hk hq).2.2.2.2.2.2.1, (u2_j (by decide)).trans (hR.r hk hq).2.2.2.2.2.2.2⟩)
                simp only [bx_uu] at hR
                have hq : va_up σ k (h, it, n, 1, some i, db, du, fa, en, va_up lf i ((lf i).1, 1, (lf i).2.2.1, t)) k = (h, it, n, 1, some i, db, du, fa, en, va_up lf i ((lf i).1, 1, (lf i).2.2.1, t)) := va_up_self _ _ _
                have hB : gB (dC, dI) gcl z (gU M (ad 2) (aI dA (ml 2) (upd (f 2) k 1))) s.heap H locs := hB
                generalize gU M (ad 2) (aI dA (ml 2) (upd (f 2) k 1)) = M at hB hR
                generalize u2 f 2 k 1 = f at hR
                refine lv_goto (tgt := 98) hx hb dM_condition_78 (by decide) ?_
                refine lv_aload_n hx hb dM_condition_98 rfl (lv_at hl 1 rfl) ?_
                refine gg_get (v := .ref (ad 2)) hx hb hts in_M hown hK hB hR.top rfl 7 (by decide) k_349 rfl rfl dM_condition_99 ?_
                refine lv_iload_n hx hb dM_condition_102 rfl (lv_at hl 2 rfl) ?_
                refine gg_iald (v := 1) hx hb hK hB 2 (hR.ar 2 (by decide)) rfl (vp_in_nI (ml_lo (by decide) (by have := hR.c100; omega)) (ml_lt _)) (by rw [nI_clamp (by have := hR.c100; omega)]; exact (hR.r hk hq).2.2.1) dM_condition_103 ?_
                exact gg_iret hx hb hr hlocks hKA hB dM_condition_104 (by decide) (by decide) (mP_of (show sCond hs lt lw cn σ (nI k) yes t = (1, t, lw, cn, va_up σ k (h, it, n, 1, some i, db, du, fa, en, va_up lf i ((lf i).1, 1, (lf i).2.2.1, t))) from by simp [sCond, hi, c10, hT2, c20, c33, c52, hq0, qyes, qno, lset]) ⟨_, hR, rfl⟩)
          · refine lv_bipush (v := (-3)) hx hb dM_condition_36 (by decide) ?_
            exact gg_iret hx hb hr hlocks hKA hB dM_condition_38 (by decide) (by decide) (mP_of (show sCond hs lt lw cn σ (nI k) yes t = ((-3), lt, lw, cn, σ) from by simp [sCond, hi, c10, hT2, c20, c33, hq0, qyes, qno, lset]) ⟨_, hR, rfl⟩)
        · exact absurd c20 (by decide)
    · exact absurd c10 (by decide)
set_option maxHeartbeats 4000000 in
set_option maxRecDepth 100000 in
theorem c_M_message (l : Launch) (dC : Nat → ClassId) (dI : Nat → Nat → Nat) (dA : Nat → ClassId) (z : Nat) (M0 M : gM) (mo : Nat) (ad : Nat → Nat) (th lt hs lw : Int32) (cn : Nat) (σ : Nat → Rq) (f : Nat → Nat → Int32) (hR : mW dA M0 M mo ad th lt hs lw cn σ f) (hh9 : hsOk hs) (hinv : ∀ k, k < cn → inv (σ k)) (r h9 number kind v t : Int32) : gMi l dC dI dA z y_M_message b_M_message 8 (Option.some FieldType.int) ⟨3, 0, 0, 72⟩ [.ref mo, .int r, .int h9, .int number, .int kind, .int v, .int t] M (mP dA M0 mo ad hs (sMessage hs lt lw cn σ r h9 number kind v t)) 0 0 := by
  refine gOfW (by decide) (Nat.le_of_ble_eq_true rfl) ?_
  intro p e s m below meth c ls hF hr hlocks hnm hKA hB hl
  obtain ⟨hx, hb, hml, hown, hts⟩ := id hF
  have hK := hKA.1
  have hl : lv_has ls 8 [(0, .ref mo), (1, .int r), (2, .int h9), (3, .int number), (4, .int kind), (5, .int v), (6, .int t)] := hl
  refine lv_aload_n hx hb dM_message_0 rfl (lv_at hl 0 rfl) ?_
  refine lv_iconst (v := 0) hx hb dM_message_1 (by decide) ?_
  refine gg_put (ty := .int) (v := .int 0) hx hb hts in_M t_M t_M_ok n_M hown hK hB hR.top rfl 0 (by decide) k_342 rfl rfl (by decide +kernel) rfl rfl (Nat.le_of_ble_eq_true rfl) dM_message_2 (fun H locs hB => ?_)
  have hR := hR.setTop 0 lt lw
  have hB : gB (dC, dI) gcl z (gU M mo (oM 0 lt hs lw cn ad)) s.heap H locs := hB
  generalize gU M mo (oM 0 lt hs lw cn ad) = M at hB hR
  refine lv_aload_n hx hb dM_message_5 rfl (lv_at hl 0 rfl) ?_
  refine lv_iload_n hx hb dM_message_6 rfl (lv_at hl 1 rfl) ?_
  refine gEndi (gRunV hF (c_M_isRequest l dC dI dA z M0 M mo ad 0 lt hs lw cn _ _ hR r) ln_M_73 hKA hB hR.top rfl rfl hl.1 rfl (Nat.le_of_ble_eq_true rfl) dM_message_7 ⟨rfl, rfl, (Nat.le_of_ble_eq_true rfl), (Nat.le_of_ble_eq_true rfl)⟩ ⟨(Nat.le_of_ble_eq_true rfl), (Nat.le_of_ble_eq_true rfl)⟩) hB (fun y1 M1 H locs hp hB => ?_)
  obtain ⟨e1, e2⟩ := hp
  rw [e1] at hB
  cases hi : ix cn r with
  | none =>
    have e2 : y1 = 0 := by rw [e2, hi]; rfl
    subst e2
    refine lv_if_eq (tgt := 21) hx hb dM_message_10 (by decide) (fun c10 => ?_) (fun c10 => ?_)
    · refine lv_iconst (v := (-1)) hx hb dM_message_21 (by decide) ?_
      exact gg_iret hx hb hr hlocks hKA hB dM_message_22 (by decide) (by decide) (mP_of (show sMessage hs lt lw cn σ r h9 number kind v t = ((-1), lt, lw, cn, σ) from by simp [sMessage, hi, c10]) ⟨_, hR, rfl⟩)
    · exact (c10 (by decide)).elim
  | some k =>
    have e2 : y1 = 1 := by rw [e2, hi]; rfl
    subst e2
    obtain ⟨hk, hr9⟩ := ix_some (by have := hR.c100; omega) hi
    subst hr9
    obtain ⟨⟨h, it, n, st, ho, db, du, fa, en, lf⟩, hq⟩ : ∃ q, σ k = q := ⟨_, rfl⟩
    have hq0 := hq
    have hv := hinv k hk
    refine lv_if_eq (tgt := 21) hx hb dM_message_10 (by decide) (fun c10 => ?_) (fun c10 => ?_)
    · exact absurd c10 (by decide)
    · refine lv_aload_n hx hb dM_message_13 rfl (lv_at hl 0 rfl) ?_
      refine lv_iload_n hx hb dM_message_14 rfl (lv_at hl 2 rfl) ?_
      refine gEndi (gRunV hF (c_M_isHouse l dC dI dA z M0 M mo ad 0 lt hs lw cn _ _ hR hh9 h9) ln_M_68 hKA hB hR.top rfl rfl hl.1 rfl (Nat.le_of_ble_eq_true rfl) dM_message_15 ⟨rfl, rfl, (Nat.le_of_ble_eq_true rfl), (Nat.le_of_ble_eq_true rfl)⟩ ⟨(Nat.le_of_ble_eq_true rfl), (Nat.le_of_ble_eq_true rfl)⟩) hB (fun y2 M1 H locs hp hB => ?_)
      obtain ⟨e1, e2⟩ := hp
      rw [e1] at hB
      cases hH2 : bH hs h9 with
      | false =>
        have e2 : y2 = 0 := by rw [e2, hH2]; rfl
        subst e2
        refine lv_if_ne (tgt := 23) hx hb dM_message_18 (by decide) (fun c18 => ?_) (fun c18 => ?_)
        · exact (c18 (by decide)).elim
        · refine lv_iconst (v := (-1)) hx hb dM_message_21 (by decide) ?_
          exact gg_iret hx hb hr hlocks hKA hB dM_message_22 (by decide) (by decide) (mP_of (show sMessage hs lt lw cn σ (nI k) h9 number kind v t = ((-1), lt, lw, cn, σ) from by simp [sMessage, hi, c10, hH2, c18, hq0]) ⟨_, hR, rfl⟩)
      | true =>
        have e2 : y2 = 1 := by rw [e2, hH2]; rfl
        subst e2
        refine lv_if_ne (tgt := 23) hx hb dM_message_18 (by decide) (fun c18 => ?_) (fun c18 => ?_)
        · refine lv_iload_n hx hb dM_message_23 rfl (lv_at hl 3 rfl) ?_
          refine lv_iconst (v := 0) hx hb dM_message_24 (by decide) ?_
          refine lv_sipush (v := 1000) hx hb dM_message_25 (by decide) ?_
          refine gEndi (gRunS hF (c_M_in l dC dI dA z M number 0 1000) ln_M_57 hKA hB rfl hl.1 rfl (Nat.le_of_ble_eq_true rfl) dM_message_28 ⟨rfl, rfl, (Nat.le_of_ble_eq_true rfl), (Nat.le_of_ble_eq_true rfl)⟩ ⟨(Nat.le_of_ble_eq_true rfl), (Nat.le_of_ble_eq_true rfl)⟩) hB (fun y3 M1 H locs hp hB => ?_)
          obtain ⟨e1, e2⟩ := hp
          rw [e1] at hB
          cases hN3 : bI number 0 1000 with
          | false =>
            have e2 : y3 = 0 := by rw [e2, hN3]; rfl
            subst e2
            refine lv_if_eq (tgt := 73) hx hb dM_message_31 (by decide) (fun c31 => ?_) (fun c31 => ?_)
            · refine lv_bipush (v := (-2)) hx hb dM_message_73 (by decide) ?_
              exact gg_iret hx hb hr hlocks hKA hB dM_message_75 (by decide) (by decide) (mP_of (sMessage_r hi hH2 (by cases hT9 : bT lt t with | false => exact Or.inl rfl | true => exact Or.inr (by rw [bM_I hT9]; simp [hN3]))) ⟨_, hR, rfl⟩)
            · exact (c31 (by decide)).elim
          | true =>
            have e2 : y3 = 1 := by rw [e2, hN3]; rfl
            subst e2
            refine lv_if_eq (tgt := 73) hx hb dM_message_31 (by decide) (fun c31 => ?_) (fun c31 => ?_)
            · exact absurd c31 (by decide)
            · refine lv_iload hx hb dM_message_34 (lv_at hl 4 rfl) ?_
              refine lv_iconst (v := 1) hx hb dM_message_36 (by decide) ?_
              refine lv_iconst (v := 5) hx hb dM_message_37 (by decide) ?_
              refine gEndi (gRunS hF (c_M_in l dC dI dA z M kind 1 5) ln_M_57 hKA hB rfl hl.1 rfl (Nat.le_of_ble_eq_true rfl) dM_message_38 ⟨rfl, rfl, (Nat.le_of_ble_eq_true rfl), (Nat.le_of_ble_eq_true rfl)⟩ ⟨(Nat.le_of_ble_eq_true rfl), (Nat.le_of_ble_eq_true rfl)⟩) hB (fun y4 M1 H locs hp hB => ?_)
              obtain ⟨e1, e2⟩ := hp
              rw [e1] at hB
              cases hN4 : bI kind 1 5 with
              | false =>
                have e2 : y4 = 0 := by rw [e2, hN4]; rfl
                subst e2
                refine lv_if_eq (tgt := 73) hx hb dM_message_41 (by decide) (fun c41 => ?_) (fun c41 => ?_)
                · refine lv_bipush (v := (-2)) hx hb dM_message_73 (by decide) ?_
                  exact gg_iret hx hb hr hlocks hKA hB dM_message_75 (by decide) (by decide) (mP_of (sMessage_r hi hH2 (by cases hT9 : bT lt t with | false => exact Or.inl rfl | true => exact Or.inr (by rw [bM_I hT9]; simp [hN3, hN4]))) ⟨_, hR, rfl⟩)
                · exact (c41 (by decide)).elim
              | true =>
                have e2 : y4 = 1 := by rw [e2, hN4]; rfl
                subst e2
                refine lv_if_eq (tgt := 73) hx hb dM_message_41 (by decide) (fun c41 => ?_) (fun c41 => ?_)
                · exact absurd c41 (by decide)
                · refine lv_aload_n hx hb dM_message_44 rfl (lv_at hl 0 rfl) ?_
                  refine lv_iload hx hb dM_message_45 (lv_at hl 6 rfl) ?_
                  refine gEndi (gRunV hF (c_M_isNow l dC dI dA z M0 M mo ad 0 lt hs lw cn _ _ hR t) ln_M_80 hKA hB hR.top rfl rfl hl.1 rfl (Nat.le_of_ble_eq_true rfl) dM_message_47 ⟨rfl, rfl, (Nat.le_of_ble_eq_true rfl), (Nat.le_of_ble_eq_true rfl)⟩ ⟨(Nat.le_of_ble_eq_true rfl), (Nat.le_of_ble_eq_true rfl)⟩) hB (fun y5 M1 H locs hp hB => ?_)
                  obtain ⟨e1, e2⟩ := hp
                  rw [e1] at hB
                  cases hT5 : bT lt t with
                  | false =>
                    have e2 : y5 = 0 := by rw [e2, hT5]; rfl
                    subst e2
                    refine lv_if_eq (tgt := 73) hx hb dM_message_50 (by decide) (fun c50 => ?_) (fun c50 => ?_)
                    · refine lv_bipush (v := (-2)) hx hb dM_message_73 (by decide) ?_
                      exact gg_iret hx hb hr hlocks hKA hB dM_message_75 (by decide) (by decide) (mP_of (sMessage_r hi hH2 (Or.inl hT5)) ⟨_, hR, rfl⟩)
                    · exact (c50 (by decide)).elim
                  | true =>
                    have e2 : y5 = 1 := by rw [e2, hT5]; rfl
                    subst e2
                    refine lv_if_eq (tgt := 73) hx hb dM_message_50 (by decide) (fun c50 => ?_) (fun c50 => ?_)
                    · exact absurd c50 (by decide)
                    · refine lv_iload hx hb dM_message_53 (lv_at hl 4 rfl) ?_
                      refine lv_iconst (v := 4) hx hb dM_message_55 (by decide) ?_
                      refine lv_icmp_ne (tgt := 76) hx hb dM_message_56 (by decide) (fun c56 => ?_) (fun c56 => ?_)
                      · have hM9 : bM number kind v t = true := by rw [bM_I hT5]; simp [hN3, hN4, c56]
                        refine lv_aload_n hx hb dM_message_76 rfl (lv_at hl 0 rfl) ?_
                        refine lv_iload_n hx hb dM_message_77 rfl (lv_at hl 1 rfl) ?_
                        refine gEndi (gRunV hF (c_M_holder l dC dI dA z M0 M mo ad 0 lt hs lw cn σ _ hR k hk hv) ln_M_87 hKA hB hR.top rfl rfl hl.1 rfl (Nat.le_of_ble_eq_true rfl) dM_message_78 ⟨rfl, rfl, (Nat.le_of_ble_eq_true rfl), (Nat.le_of_ble_eq_true rfl)⟩ ⟨(Nat.le_of_ble_eq_true rfl), (Nat.le_of_ble_eq_true rfl)⟩) hB (fun y6 M1 H locs hp hB => ?_)
                        obtain ⟨e1, e2⟩ := hp
                        rw [e1] at hB
                        rw [hq0] at e2
                        rcases ho with _ | i
                        · have e2 : y6 = (-1) := e2
                          subst e2
                          refine lv_istore (lv' := [(7, .int (-1)), (0, .ref mo), (1, .int (nI k)), (2, .int h9), (3, .int number), (4, .int kind), (5, .int v), (6, .int t)]) hx hb dM_message_81 hl (by decide) rfl (fun ls hl => ?_)
                          refine lv_iload hx hb dM_message_83 (lv_at hl 0 rfl) ?_
                          refine lv_if_lt (tgt := 110) hx hb dM_message_85 (by decide) (fun c85 => ?_) (fun c85 => ?_)
                          · refine lv_bipush (v := (-5)) hx hb dM_message_110 (by decide) ?_
                            exact gg_iret hx hb hr hlocks hKA hB dM_message_112 (by decide) (by decide) (mP_of (show sMessage hs lt lw cn σ (nI k) h9 number kind v t = ((-5), lt, lw, cn, σ) from by simp [sMessage, hi, hH2, hT5, hM9, hq0, qnum, qdbl]) ⟨_, hR, rfl⟩)
                          · exact (c85 (by decide)).elim
                        · have e2 : y6 = (nI (8 * k + i)) := e2
                          subst e2
                          have hi9 : i < n := by have := hv.2.1 i; rw [hq0] at this; exact this rfl
                          have h15 : p15 (lf i) = true := by have := hv.1 i; rw [hq0] at this; exact (this hi9).mpr rfl
                          refine lv_istore (lv' := [(7, .int (nI (8 * k + i))), (0, .ref mo), (1, .int (nI k)), (2, .int h9), (3, .int number), (4, .int kind), (5, .int v), (6, .int t)]) hx hb dM_message_81 hl (by decide) rfl (fun ls hl => ?_)
                          refine lv_iload hx hb dM_message_83 (lv_at hl 0 rfl) ?_
                          refine lv_if_lt (tgt := 110) hx hb dM_message_85 (by decide) (fun c85 => ?_) (fun c85 => ?_)
                          · exact absurd c85 (nI_pos (by have := hR.c100; have h8 : n ≤ 8 := hR.n8 hk hq; omega))
                          · refine lv_aload_n hx hb dM_message_88 rfl (lv_at hl 1 rfl) ?_
                            refine gg_get (v := .ref (ad 8)) hx hb hts in_M hown hK hB hR.top rfl 13 (by decide) k_355 rfl rfl dM_message_89 ?_
                            refine lv_iload hx hb dM_message_92 (lv_at hl 0 rfl) ?_
                            refine gg_iald (v := ((lf i).1)) hx hb hK hB 2 (hR.ar 8 (by decide)) rfl (vp_in_nI (ml_hi (by decide) (by have := hR.c100; have h8 : n ≤ 8 := hR.n8 hk hq; omega)) (ml_lt _)) (by rw [nI_clamp (by have := hR.c100; have h8 : n ≤ 8 := hR.n8 hk hq; omega)]; exact (hR.l hk hq hi9).1) dM_message_94 ?_
                            refine lv_iload_n hx hb dM_message_95 rfl (lv_at hl 3 rfl) ?_
                            refine lv_icmp_ne (tgt := 110) hx hb dM_message_96 (by decide) (fun c96 => ?_) (fun c96 => ?_)
                            · refine lv_bipush (v := (-5)) hx hb dM_message_110 (by decide) ?_
                              exact gg_iret hx hb hr hlocks hKA hB dM_message_112 (by decide) (by decide) (mP_of (show sMessage hs lt lw cn σ (nI k) h9 number kind v t = ((-5), lt, lw, cn, σ) from by simp [sMessage, hi, hH2, hT5, hM9, c96, hq0, qnum, qdbl]) ⟨_, hR, rfl⟩)
                            · refine lv_aload_n hx hb dM_message_99 rfl (lv_at hl 1 rfl) ?_
                              refine gg_get (v := .ref (ad 9)) hx hb hts in_M hown hK hB hR.top rfl 14 (by decide) k_356 rfl rfl dM_message_100 ?_
                              refine lv_iload hx hb dM_message_103 (lv_at hl 0 rfl) ?_
                              refine gg_iald (v := ((lf i).2.1)) hx hb hK hB 2 (hR.ar 9 (by decide)) rfl (vp_in_nI (ml_hi (by decide) (by have := hR.c100; have h8 : n ≤ 8 := hR.n8 hk hq; omega)) (ml_lt _)) (by rw [nI_clamp (by have := hR.c100; have h8 : n ≤ 8 := hR.n8 hk hq; omega)]; exact (hR.l hk hq hi9).2.1) dM_message_105 ?_
                              refine lv_iconst (v := 5) hx hb dM_message_106 (by decide) ?_
                              refine lv_icmp_ne (tgt := 113) hx hb dM_message_107 (by decide) (fun c107 => ?_) (fun c107 => ?_)
                              · refine lv_iload_n hx hb dM_message_113 rfl (lv_at hl 4 rfl) ?_
                                refine lv_aload_n hx hb dM_message_114 rfl (lv_at hl 1 rfl) ?_
                                refine gg_get (v := .ref (ad 10)) hx hb hts in_M hown hK hB hR.top rfl 15 (by decide) k_357 rfl rfl dM_message_115 ?_
                                refine lv_iload hx hb dM_message_118 (lv_at hl 0 rfl) ?_
                                refine gg_iald (v := ((lf i).2.2.1)) hx hb hK hB 2 (hR.ar 10 (by decide)) rfl (vp_in_nI (ml_hi (by decide) (by have := hR.c100; have h8 : n ≤ 8 := hR.n8 hk hq; omega)) (ml_lt _)) (by rw [nI_clamp (by have := hR.c100; have h8 : n ≤ 8 := hR.n8 hk hq; omega)]; exact (hR.l hk hq hi9).2.2.1) dM_message_120 ?_
                                refine lv_icmp_gt (tgt := 137) hx hb dM_message_121 (by decide) (fun c121 => ?_) (fun c121 => ?_)
                                · refine lv_aload_n hx hb dM_message_137 rfl (lv_at hl 1 rfl) ?_
                                  refine lv_iload_n hx hb dM_message_138 rfl (lv_at hl 2 rfl) ?_
                                  refine lv_aload_n hx hb dM_message_139 rfl (lv_at hl 1 rfl) ?_
                                  refine gg_get (v := .ref (ad 9)) hx hb hts in_M hown hK hB hR.top rfl 14 (by decide) k_356 rfl rfl dM_message_140 ?_
                                  refine lv_iload hx hb dM_message_143 (lv_at hl 0 rfl) ?_
                                  refine gg_iald (v := ((lf i).2.1)) hx hb hK hB 2 (hR.ar 9 (by decide)) rfl (vp_in_nI (ml_hi (by decide) (by have := hR.c100; have h8 : n ≤ 8 := hR.n8 hk hq; omega)) (ml_lt _)) (by rw [nI_clamp (by have := hR.c100; have h8 : n ≤ 8 := hR.n8 hk hq; omega)]; exact (hR.l hk hq hi9).2.1) dM_message_145 ?_
                                  refine lv_iload hx hb dM_message_146 (lv_at hl 5 rfl) ?_
                                  refine gEndi (gRunV hF (c_M_may l dC dI dA z M0 M mo ad 0 lt hs lw cn σ _ hR k hk (lf i).2.1 kind) ln_M_91 hKA hB hR.top rfl rfl hl.1 rfl (Nat.le_of_ble_eq_true rfl) dM_message_148 ⟨rfl, rfl, (Nat.le_of_ble_eq_true rfl), (Nat.le_of_ble_eq_true rfl)⟩ ⟨(Nat.le_of_ble_eq_true rfl), (Nat.le_of_ble_eq_true rfl)⟩) hB (fun y7 M1 H locs hp hB => ?_)
                                  obtain ⟨e1, e2⟩ := hp
                                  rw [e1] at hB
                                  rw [hq0] at e2
                                  cases hY7 : bY kind st (lf i).2.1 with
                                  | false =>
                                    have e2 : y7 = 0 := by rw [e2]; show (if bY kind st (lf i).2.1 = true then (1 : Int32) else 0) = _; rw [hY7]; rfl
                                    subst e2
                                    refine lv_if_ne (tgt := 157) hx hb dM_message_151 (by decide) (fun c151 => ?_) (fun c151 => ?_)
                                    · exact (c151 (by decide)).elim
                                    · refine lv_bipush (v := (-3)) hx hb dM_message_154 (by decide) ?_
                                      exact gg_iret hx hb hr hlocks hKA hB dM_message_156 (by decide) (by decide) (mP_of (show sMessage hs lt lw cn σ (nI k) h9 number kind v t = ((-3), lt, lw, cn, σ) from by simp [sMessage, hi, hH2, hT5, hM9, c96, c121, (show bO (lf i).2.1 = true from by rw [bO_5 h15]; simp [c107]), (show bF kind st (lf i).2.1 = false from by rw [← bY_F hM9]; exact hY7), i32_nle c121, hq0, qnum, qdbl]) ⟨_, hR, rfl⟩)
                                  | true =>
                                    have e2 : y7 = 1 := by rw [e2]; show (if bY kind st (lf i).2.1 = true then (1 : Int32) else 0) = _; rw [hY7]; rfl
                                    subst e2
                                    refine lv_if_ne (tgt := 157) hx hb dM_message_151 (by decide) (fun c151 => ?_) (fun c151 => ?_)
                                    · refine lv_aload_n hx hb dM_message_157 rfl (lv_at hl 1 rfl) ?_
                                      refine lv_iload hx hb dM_message_158 (lv_at hl 7 rfl) ?_
                                      refine gg_put (ty := .int) (v := .int t) hx hb hts in_M t_M t_M_ok n_M hown hK hB hR.top rfl 1 (by decide) k_343 rfl rfl (by decide +kernel) rfl rfl (Nat.le_of_ble_eq_true rfl) dM_message_160 (fun H locs hB => ?_)
                                      have hR := hR.setTop 0 t lw
                                      have hB : gB (dC, dI) gcl z (gU M mo (oM 0 t hs lw cn ad)) s.heap H locs := hB
                                      generalize gU M mo (oM 0 t hs lw cn ad) = M at hB hR
                                      refine lv_aload_n hx hb dM_message_163 rfl (lv_at hl 1 rfl) ?_
                                      refine gg_get (v := .ref (ad 10)) hx hb hts in_M hown hK hB hR.top rfl 15 (by decide) k_357 rfl rfl dM_message_164 ?_
                                      refine lv_iload hx hb dM_message_167 (lv_at hl 0 rfl) ?_
                                      refine lv_iload_n hx hb dM_message_169 rfl (lv_at hl 4 rfl) ?_
                                      refine gg_iast hx hb hK hB 2 (hR.ar 10 (by decide)) rfl (vp_in_nI (ml_hi (by decide) (by have := hR.c100; have h8 : n ≤ 8 := hR.n8 hk hq; omega)) (ml_lt _)) dM_message_170 (fun H locs hB => ?_)
                                      rw [nI_clamp (by have := hR.c100; have h8 : n ≤ 8 := hR.n8 hk hq; omega)] at hB
                                      have hR := hR.put 10 (by decide) (8 * k + i) number (hR.re.setl hk hq hi9 10 number ((lf i).1, (lf i).2.1, number, (lf i).2.2.2) (by decide) ⟨(u2_j (by decide)).trans ((hR.l hk hq hi9).1), (u2_j (by decide)).trans ((hR.l hk hq hi9).2.1), u2_s _ _ _ _, (u2_j (by decide)).trans ((hR.l hk hq hi9).2.2.2)⟩)
                                      have hq : va_up σ k (h, it, n, st, some i, db, du, fa, en, va_up lf i ((lf i).1, (lf i).2.1, number, (lf i).2.2.2)) k = (h, it, n, st, some i, db, du, fa, en, va_up lf i ((lf i).1, (lf i).2.1, number, (lf i).2.2.2)) := va_up_self _ _ _
                                      have hB : gB (dC, dI) gcl z (gU M (ad 10) (aI dA (ml 10) (upd (f 10) (8 * k + i) number))) s.heap H locs := hB
                                      generalize gU M (ad 10) (aI dA (ml 10) (upd (f 10) (8 * k + i) number)) = M at hB hR
                                      generalize u2 f 10 (8 * k + i) number = f at hR
                                      refine lv_aload_n hx hb dM_message_171 rfl (lv_at hl 1 rfl) ?_
                                      refine gg_get (v := .ref (ad 11)) hx hb hts in_M hown hK hB hR.top rfl 16 (by decide) k_358 rfl rfl dM_message_172 ?_
                                      refine lv_iload hx hb dM_message_175 (lv_at hl 0 rfl) ?_
                                      refine lv_iload hx hb dM_message_177 (lv_at hl 7 rfl) ?_
                                      refine gg_iast hx hb hK hB 2 (hR.ar 11 (by decide)) rfl (vp_in_nI (ml_hi (by decide) (by have := hR.c100; have h8 : n ≤ 8 := hR.n8 hk hq; omega)) (ml_lt _)) dM_message_179 (fun H locs hB => ?_)
                                      rw [nI_clamp (by have := hR.c100; have h8 : n ≤ 8 := hR.n8 hk hq; omega)] at hB
                                      have hR := hR.put 11 (by decide) (8 * k + i) t (hR.re.setl hk hq hi9 11 t ((lf i).1, (lf i).2.1, number, t) (by decide) ⟨(u2_j (by decide)).trans ((hR.l hk hq hi9).1.trans (show ((va_up lf i ((lf i).1, (lf i).2.1, number, (lf i).2.2.2)) i).1 = _ from by rw [va_up_self])), (u2_j (by decide)).trans ((hR.l hk hq hi9).2.1.trans (show ((va_up lf i ((lf i).1, (lf i).2.1, number, (lf i).2.2.2)) i).2.1 = _ from by rw [va_up_self])), (u2_j (by decide)).trans ((hR.l hk hq hi9).2.2.1.trans (show ((va_up lf i ((lf i).1, (lf i).2.1, number, (lf i).2.2.2)) i).2.2.1 = _ from by rw [va_up_self])), u2_s _ _ _ _⟩)
                                      simp only [bx_uu] at hR
                                      have hq : va_up σ k (h, it, n, st, some i, db, du, fa, en, va_up lf i ((lf i).1, (lf i).2.1, number, t)) k = (h, it, n, st, some i, db, du, fa, en, va_up lf i ((lf i).1, (lf i).2.1, number, t)) := va_up_self _ _ _
                                      have hB : gB (dC, dI) gcl z (gU M (ad 11) (aI dA (ml 11) (upd (f 11) (8 * k + i) t))) s.heap H locs := hB
                                      generalize gU M (ad 11) (aI dA (ml 11) (upd (f 11) (8 * k + i) t)) = M at hB hR
                                      generalize u2 f 11 (8 * k + i) t = f at hR
                                      refine lv_aload_n hx hb dM_message_180 rfl (lv_at hl 1 rfl) ?_
                                      refine lv_iload_n hx hb dM_message_181 rfl (lv_at hl 2 rfl) ?_
                                      refine lv_iload hx hb dM_message_182 (lv_at hl 0 rfl) ?_
                                      refine lv_iload hx hb dM_message_184 (lv_at hl 5 rfl) ?_
                                      refine lv_iload hx hb dM_message_186 (lv_at hl 6 rfl) ?_
                                      refine lv_iload hx hb dM_message_188 (lv_at hl 7 rfl) ?_
                                      have hfa : fa = -1 ∨ ¬ fa < 0 := by have := hv.2.2.1; rw [hq0] at this; exact this
                                      have hk15 : kind = 1 ∨ kind = 2 ∨ kind = 3 ∨ kind = 4 ∨ kind = 5 := bM_k hM9
                                      refine gEndv (gRunV hF (c_M_take l dC dI dA z M0 M mo ad 0 t hs lw cn _ _ hR k i hk (by rw [hq]; exact hi9) (by rw [hq]; exact hfa) kind v t hk15) ln_M_94 hKA hB hR.top rfl rfl hl.1 rfl (Nat.le_of_ble_eq_true rfl) dM_message_190 ⟨rfl, rfl, (Nat.le_of_ble_eq_true rfl), (Nat.le_of_ble_eq_true rfl)⟩ ⟨(Nat.le_of_ble_eq_true rfl), (Nat.le_of_ble_eq_true rfl)⟩) hB (fun M1 H locs hp hB => ?_)
                                      obtain ⟨f1, hp⟩ := hp
                                      rw [hq, bx_uu] at hp
                                      obtain ⟨⟨h2, it2, n2, st2, ho2, db2, du2, fa2, en2, lf2⟩, hq2⟩ : ∃ q, qtake (h, it, n, st, some i, db, du, fa, en, va_up lf i ((lf i).1, (lf i).2.1, number, t)) i kind v t = q := ⟨_, rfl⟩
                                      have hR := hp
                                      have hq := (va_up_self σ k (qtake (h, it, n, st, some i, db, du, fa, en, va_up lf i ((lf i).1, (lf i).2.1, number, t)) i kind v t)).trans hq2
                                      generalize M1 = M at hB hR
                                      generalize f1 = f at hR
                                      refine lv_aload_n hx hb dM_message_193 rfl (lv_at hl 1 rfl) ?_
                                      refine gg_get (v := .ref (ad 2)) hx hb hts in_M hown hK hB hR.top rfl 7 (by decide) k_349 rfl rfl dM_message_194 ?_
                                      refine lv_iload_n hx hb dM_message_197 rfl (lv_at hl 2 rfl) ?_
                                      refine gg_iald (v := st2) hx hb hK hB 2 (hR.ar 2 (by decide)) rfl (vp_in_nI (ml_lo (by decide) (by have := hR.c100; omega)) (ml_lt _)) (by rw [nI_clamp (by have := hR.c100; omega)]; exact (hR.r hk hq).2.2.1) dM_message_198 ?_
                                      have hq3 := hq2
                                      try simp only [c96] at hq3
                                      exact gg_iret hx hb hr hlocks hKA hB dM_message_199 (by decide) (by decide) (mP_of (show sMessage hs lt lw cn σ (nI k) h9 number kind v t = (st2, t, lw, cn, va_up σ k (qtake (h, it, n, st, some i, db, du, fa, en, va_up lf i ((lf i).1, (lf i).2.1, number, t)) i kind v t)) from by simp [sMessage, hi, hH2, hT5, hM9, c96, c121, (show bO (lf i).2.1 = true from by rw [bO_5 h15]; simp [c107]), (show bF kind st (lf i).2.1 = true from by rw [← bY_F hM9]; exact hY7), i32_nle c121, hq0, qnum, qdbl, hq3]) ⟨_, hR, rfl⟩)
                                    · exact absurd c151 (by decide)
                                · refine lv_aload_n hx hb dM_message_124 rfl (lv_at hl 1 rfl) ?_
                                  refine gg_get (v := .ref (ad 4)) hx hb hts in_M hown hK hB hR.top rfl 9 (by decide) k_351 rfl rfl dM_message_125 ?_
                                  refine lv_iload_n hx hb dM_message_128 rfl (lv_at hl 2 rfl) ?_
                                  refine lv_dup2_11 hx hb dM_message_129 rfl rfl ?_
                                  refine gg_iald (v := db) hx hb hK hB 2 (hR.ar 4 (by decide)) rfl (vp_in_nI (ml_lo (by decide) (by have := hR.c100; omega)) (ml_lt _)) (by rw [nI_clamp (by have := hR.c100; omega)]; exact (hR.r hk hq).2.2.2.2.1) dM_message_130 ?_
                                  refine lv_iconst (v := 1) hx hb dM_message_131 (by decide) ?_
                                  refine lv_iadd hx hb dM_message_132 ?_
                                  refine gg_iast hx hb hK hB 2 (hR.ar 4 (by decide)) rfl (vp_in_nI (ml_lo (by decide) (by have := hR.c100; omega)) (ml_lt _)) dM_message_133 (fun H locs hB => ?_)
                                  rw [nI_clamp (by have := hR.c100; omega)] at hB
                                  have hR := hR.put 4 (by decide) k (db + 1) (hR.re.setq hk hq 4 (db + 1) (h, it, n, st, some i, (db + 1), du, fa, en, lf) rfl rfl (by decide) ⟨(u2_j (by decide)).trans (hR.r hk hq).1, (u2_j (by decide)).trans (hR.r hk hq).2.1, (u2_j (by decide)).trans (hR.r hk hq).2.2.1, (u2_j (by decide)).trans (hR.r hk hq).2.2.2.1, u2_s _ _ _ _, (u2_j (by decide)).trans (hR.r hk hq).2.2.2.2.2.1, (u2_j (by decide)).trans (hR.r hk hq).2.2.2.2.2.2.1, (u2_j (by decide)).trans (hR.r hk hq).2.2.2.2.2.2.2⟩)
                                  have hq : va_up σ k (h, it, n, st, some i, (db + 1), du, fa, en, lf) k = (h, it, n, st, some i, (db + 1), du, fa, en, lf) := va_up_self _ _ _
                                  have hB : gB (dC, dI) gcl z (gU M (ad 4) (aI dA (ml 4) (upd (f 4) k (db + 1)))) s.heap H locs := hB
                                  generalize gU M (ad 4) (aI dA (ml 4) (upd (f 4) k (db + 1))) = M at hB hR
                                  generalize u2 f 4 k (db + 1) = f at hR
                                  refine lv_bipush (v := (-6)) hx hb dM_message_134 (by decide) ?_
                                  exact gg_iret hx hb hr hlocks hKA hB dM_message_136 (by decide) (by decide) (mP_of (show sMessage hs lt lw cn σ (nI k) h9 number kind v t = ((-6), lt, lw, cn, va_up σ k (h, it, n, st, some i, (db + 1), du, fa, en, lf)) from by simp [sMessage, hi, hH2, hT5, hM9, c96, c121, (show bO (lf i).2.1 = true from by rw [bO_5 h15]; simp [c107]), hq0, qnum, qdbl]) ⟨_, hR, rfl⟩)
                              · refine lv_bipush (v := (-5)) hx hb dM_message_110 (by decide) ?_
                                exact gg_iret hx hb hr hlocks hKA hB dM_message_112 (by decide) (by decide) (mP_of (show sMessage hs lt lw cn σ (nI k) h9 number kind v t = ((-5), lt, lw, cn, σ) from by simp [sMessage, hi, hH2, hT5, hM9, c96, (show bO (lf i).2.1 = false from by rw [bO_5 h15]; simp [c107]), hq0, qnum, qdbl]) ⟨_, hR, rfl⟩)
                      · refine lv_iload hx hb dM_message_59 (lv_at hl 5 rfl) ?_
                        refine lv_iload hx hb dM_message_61 (lv_at hl 6 rfl) ?_
                        refine lv_iconst (v := 1) hx hb dM_message_63 (by decide) ?_
                        refine lv_iadd hx hb dM_message_64 ?_
                        refine lv_ldc (v := 1000000000) hx hb hown (hts _ k_427) dM_message_65 ?_
                        refine gEndi (gRunS hF (c_M_in l dC dI dA z M v (t + 1) 1000000000) ln_M_57 hKA hB rfl hl.1 rfl (Nat.le_of_ble_eq_true rfl) dM_message_67 ⟨rfl, rfl, (Nat.le_of_ble_eq_true rfl), (Nat.le_of_ble_eq_true rfl)⟩ ⟨(Nat.le_of_ble_eq_true rfl), (Nat.le_of_ble_eq_true rfl)⟩) hB (fun y8 M1 H locs hp hB => ?_)
                        obtain ⟨e1, e2⟩ := hp
                        rw [e1] at hB
                        cases hN8 : bI v (t + 1) 1000000000 with
                        | false =>
                          have e2 : y8 = 0 := by rw [e2, hN8]; rfl
                          subst e2
                          refine lv_if_ne (tgt := 76) hx hb dM_message_70 (by decide) (fun c70 => ?_) (fun c70 => ?_)
                          · exact (c70 (by decide)).elim
                          · refine lv_bipush (v := (-2)) hx hb dM_message_73 (by decide) ?_
                            exact gg_iret hx hb hr hlocks hKA hB dM_message_75 (by decide) (by decide) (mP_of (sMessage_r hi hH2 (Or.inr (by rw [bM_I hT5]; simp [hN3, hN4, hN8, c56]))) ⟨_, hR, rfl⟩)
                        | true =>
                          have e2 : y8 = 1 := by rw [e2, hN8]; rfl
                          subst e2
                          refine lv_if_ne (tgt := 76) hx hb dM_message_70 (by decide) (fun c70 => ?_) (fun c70 => ?_)
                          · have hM9 : bM number kind v t = true := by rw [bM_I hT5]; simp [hN3, hN4, hN8]
                            refine lv_aload_n hx hb dM_message_76 rfl (lv_at hl 0 rfl) ?_
                            refine lv_iload_n hx hb dM_message_77 rfl (lv_at hl 1 rfl) ?_
                            refine gEndi (gRunV hF (c_M_holder l dC dI dA z M0 M mo ad 0 lt hs lw cn σ _ hR k hk hv) ln_M_87 hKA hB hR.top rfl rfl hl.1 rfl (Nat.le_of_ble_eq_true rfl) dM_message_78 ⟨rfl, rfl, (Nat.le_of_ble_eq_true rfl), (Nat.le_of_ble_eq_true rfl)⟩ ⟨(Nat.le_of_ble_eq_true rfl), (Nat.le_of_ble_eq_true rfl)⟩) hB (fun y9 M1 H locs hp hB => ?_)
                            obtain ⟨e1, e2⟩ := hp
                            rw [e1] at hB
                            rw [hq0] at e2
                            rcases ho with _ | i
                            · have e2 : y9 = (-1) := e2
                              subst e2
                              refine lv_istore (lv' := [(7, .int (-1)), (0, .ref mo), (1, .int (nI k)), (2, .int h9), (3, .int number), (4, .int kind), (5, .int v), (6, .int t)]) hx hb dM_message_81 hl (by decide) rfl (fun ls hl => ?_)
                              refine lv_iload hx hb dM_message_83 (lv_at hl 0 rfl) ?_
                              refine lv_if_lt (tgt := 110) hx hb dM_message_85 (by decide) (fun c85 => ?_) (fun c85 => ?_)
                              · refine lv_bipush (v := (-5)) hx hb dM_message_110 (by decide) ?_
                                exact gg_iret hx hb hr hlocks hKA hB dM_message_112 (by decide) (by decide) (mP_of (show sMessage hs lt lw cn σ (nI k) h9 number kind v t = ((-5), lt, lw, cn, σ) from by simp [sMessage, hi, hH2, hT5, hM9, hq0, qnum, qdbl]) ⟨_, hR, rfl⟩)
                              · exact (c85 (by decide)).elim
                            · have e2 : y9 = (nI (8 * k + i)) := e2
                              subst e2
                              have hi9 : i < n := by have := hv.2.1 i; rw [hq0] at this; exact this rfl
                              have h15 : p15 (lf i) = true := by have := hv.1 i; rw [hq0] at this; exact (this hi9).mpr rfl
                              refine lv_istore (lv' := [(7, .int (nI (8 * k + i))), (0, .ref mo), (1, .int (nI k)), (2, .int h9), (3, .int number), (4, .int kind), (5, .int v), (6, .int t)]) hx hb dM_message_81 hl (by decide) rfl (fun ls hl => ?_)
                              refine lv_iload hx hb dM_message_83 (lv_at hl 0 rfl) ?_
                              refine lv_if_lt (tgt := 110) hx hb dM_message_85 (by decide) (fun c85 => ?_) (fun c85 => ?_)
                              · exact absurd c85 (nI_pos (by have := hR.c100; have h8 : n ≤ 8 := hR.n8 hk hq; omega))
                              · refine lv_aload_n hx hb dM_message_88 rfl (lv_at hl 1 rfl) ?_
                                refine gg_get (v := .ref (ad 8)) hx hb hts in_M hown hK hB hR.top rfl 13 (by decide) k_355 rfl rfl dM_message_89 ?_
                                refine lv_iload hx hb dM_message_92 (lv_at hl 0 rfl) ?_
                                refine gg_iald (v := ((lf i).1)) hx hb hK hB 2 (hR.ar 8 (by decide)) rfl (vp_in_nI (ml_hi (by decide) (by have := hR.c100; have h8 : n ≤ 8 := hR.n8 hk hq; omega)) (ml_lt _)) (by rw [nI_clamp (by have := hR.c100; have h8 : n ≤ 8 := hR.n8 hk hq; omega)]; exact (hR.l hk hq hi9).1) dM_message_94 ?_
                                refine lv_iload_n hx hb dM_message_95 rfl (lv_at hl 3 rfl) ?_
                                refine lv_icmp_ne (tgt := 110) hx hb dM_message_96 (by decide) (fun c96 => ?_) (fun c96 => ?_)
                                · refine lv_bipush (v := (-5)) hx hb dM_message_110 (by decide) ?_
                                  exact gg_iret hx hb hr hlocks hKA hB dM_message_112 (by decide) (by decide) (mP_of (show sMessage hs lt lw cn σ (nI k) h9 number kind v t = ((-5), lt, lw, cn, σ) from by simp [sMessage, hi, hH2, hT5, hM9, c96, hq0, qnum, qdbl]) ⟨_, hR, rfl⟩)
                                · refine lv_aload_n hx hb dM_message_99 rfl (lv_at hl 1 rfl) ?_
                                  refine gg_get (v := .ref (ad 9)) hx hb hts in_M hown hK hB hR.top rfl 14 (by decide) k_356 rfl rfl dM_message_100 ?_
                                  refine lv_iload hx hb dM_message_103 (lv_at hl 0 rfl) ?_
                                  refine gg_iald (v := ((lf i).2.1)) hx hb hK hB 2 (hR.ar 9 (by decide)) rfl (vp_in_nI (ml_hi (by decide) (by have := hR.c100; have h8 : n ≤ 8 := hR.n8 hk hq; omega)) (ml_lt _)) (by rw [nI_clamp (by have := hR.c100; have h8 : n ≤ 8 := hR.n8 hk hq; omega)]; exact (hR.l hk hq hi9).2.1) dM_message_105 ?_
                                  refine lv_iconst (v := 5) hx hb dM_message_106 (by decide) ?_
                                  refine lv_icmp_ne (tgt := 113) hx hb dM_message_107 (by decide) (fun c107 => ?_) (fun c107 => ?_)
                                  · refine lv_iload_n hx hb dM_message_113 rfl (lv_at hl 4 rfl) ?_
                                    refine lv_aload_n hx hb dM_message_114 rfl (lv_at hl 1 rfl) ?_
                                    refine gg_get (v := .ref (ad 10)) hx hb hts in_M hown hK hB hR.top rfl 15 (by decide) k_357 rfl rfl dM_message_115 ?_
                                    refine lv_iload hx hb dM_message_118 (lv_at hl 0 rfl) ?_
                                    refine gg_iald (v := ((lf i).2.2.1)) hx hb hK hB 2 (hR.ar 10 (by decide)) rfl (vp_in_nI (ml_hi (by decide) (by have := hR.c100; have h8 : n ≤ 8 := hR.n8 hk hq; omega)) (ml_lt _)) (by rw [nI_clamp (by have := hR.c100; have h8 : n ≤ 8 := hR.n8 hk hq; omega)]; exact (hR.l hk hq hi9).2.2.1) dM_message_120 ?_
                                    refine lv_icmp_gt (tgt := 137) hx hb dM_message_121 (by decide) (fun c121 => ?_) (fun c121 => ?_)
                                    · refine lv_aload_n hx hb dM_message_137 rfl (lv_at hl 1 rfl) ?_
                                      refine lv_iload_n hx hb dM_message_138 rfl (lv_at hl 2 rfl) ?_
                                      refine lv_aload_n hx hb dM_message_139 rfl (lv_at hl 1 rfl) ?_
                                      refine gg_get (v := .ref (ad 9)) hx hb hts in_M hown hK hB hR.top rfl 14 (by decide) k_356 rfl rfl dM_message_140 ?_
                                      refine lv_iload hx hb dM_message_143 (lv_at hl 0 rfl) ?_
                                      refine gg_iald (v := ((lf i).2.1)) hx hb hK hB 2 (hR.ar 9 (by decide)) rfl (vp_in_nI (ml_hi (by decide) (by have := hR.c100; have h8 : n ≤ 8 := hR.n8 hk hq; omega)) (ml_lt _)) (by rw [nI_clamp (by have := hR.c100; have h8 : n ≤ 8 := hR.n8 hk hq; omega)]; exact (hR.l hk hq hi9).2.1) dM_message_145 ?_
                                      refine lv_iload hx hb dM_message_146 (lv_at hl 5 rfl) ?_
                                      refine gEndi (gRunV hF (c_M_may l dC dI dA z M0 M mo ad 0 lt hs lw cn σ _ hR k hk (lf i).2.1 kind) ln_M_91 hKA hB hR.top rfl rfl hl.1 rfl (Nat.le_of_ble_eq_true rfl) dM_message_148 ⟨rfl, rfl, (Nat.le_of_ble_eq_true rfl), (Nat.le_of_ble_eq_true rfl)⟩ ⟨(Nat.le_of_ble_eq_true rfl), (Nat.le_of_ble_eq_true rfl)⟩) hB (fun y10 M1 H locs hp hB => ?_)
                                      obtain ⟨e1, e2⟩ := hp
                                      rw [e1] at hB
                                      rw [hq0] at e2
                                      cases hY10 : bY kind st (lf i).2.1 with
                                      | false =>
                                        have e2 : y10 = 0 := by rw [e2]; show (if bY kind st (lf i).2.1 = true then (1 : Int32) else 0) = _; rw [hY10]; rfl
                                        subst e2
                                        refine lv_if_ne (tgt := 157) hx hb dM_message_151 (by decide) (fun c151 => ?_) (fun c151 => ?_)
                                        · exact (c151 (by decide)).elim
                                        · refine lv_bipush (v := (-3)) hx hb dM_message_154 (by decide) ?_
                                          exact gg_iret hx hb hr hlocks hKA hB dM_message_156 (by decide) (by decide) (mP_of (show sMessage hs lt lw cn σ (nI k) h9 number kind v t = ((-3), lt, lw, cn, σ) from by simp [sMessage, hi, hH2, hT5, hM9, c96, c121, (show bO (lf i).2.1 = true from by rw [bO_5 h15]; simp [c107]), (show bF kind st (lf i).2.1 = false from by rw [← bY_F hM9]; exact hY10), i32_nle c121, hq0, qnum, qdbl]) ⟨_, hR, rfl⟩)
                                      | true =>
                                        have e2 : y10 = 1 := by rw [e2]; show (if bY kind st (lf i).2.1 = true then (1 : Int32) else 0) = _; rw [hY10]; rfl
                                        subst e2
                                        refine lv_if_ne (tgt := 157) hx hb dM_message_151 (by decide) (fun c151 => ?_) (fun c151 => ?_)
                                        · refine lv_aload_n hx hb dM_message_157 rfl (lv_at hl 1 rfl) ?_
                                          refine lv_iload hx hb dM_message_158 (lv_at hl 7 rfl) ?_
                                          refine gg_put (ty := .int) (v := .int t) hx hb hts in_M t_M t_M_ok n_M hown hK hB hR.top rfl 1 (by decide) k_343 rfl rfl (by decide +kernel) rfl rfl (Nat.le_of_ble_eq_true rfl) dM_message_160 (fun H locs hB => ?_)
                                          have hR := hR.setTop 0 t lw
                                          have hB : gB (dC, dI) gcl z (gU M mo (oM 0 t hs lw cn ad)) s.heap H locs := hB
                                          generalize gU M mo (oM 0 t hs lw cn ad) = M at hB hR
                                          refine lv_aload_n hx hb dM_message_163 rfl (lv_at hl 1 rfl) ?_
                                          refine gg_get (v := .ref (ad 10)) hx hb hts in_M hown hK hB hR.top rfl 15 (by decide) k_357 rfl rfl dM_message_164 ?_
                                          refine lv_iload hx hb dM_message_167 (lv_at hl 0 rfl) ?_
                                          refine lv_iload_n hx hb dM_message_169 rfl (lv_at hl 4 rfl) ?_
                                          refine gg_iast hx hb hK hB 2 (hR.ar 10 (by decide)) rfl (vp_in_nI (ml_hi (by decide) (by have := hR.c100; have h8 : n ≤ 8 := hR.n8 hk hq; omega)) (ml_lt _)) dM_message_170 (fun H locs hB => ?_)
                                          rw [nI_clamp (by have := hR.c100; have h8 : n ≤ 8 := hR.n8 hk hq; omega)] at hB
                                          have hR := hR.put 10 (by decide) (8 * k + i) number (hR.re.setl hk hq hi9 10 number ((lf i).1, (lf i).2.1, number, (lf i).2.2.2) (by decide) ⟨(u2_j (by decide)).trans ((hR.l hk hq hi9).1), (u2_j (by decide)).trans ((hR.l hk hq hi9).2.1), u2_s _ _ _ _, (u2_j (by decide)).trans ((hR.l hk hq hi9).2.2.2)⟩)
                                          have hq : va_up σ k (h, it, n, st, some i, db, du, fa, en, va_up lf i ((lf i).1, (lf i).2.1, number, (lf i).2.2.2)) k = (h, it, n, st, some i, db, du, fa, en, va_up lf i ((lf i).1, (lf i).2.1, number, (lf i).2.2.2)) := va_up_self _ _ _
                                          have hB : gB (dC, dI) gcl z (gU M (ad 10) (aI dA (ml 10) (upd (f 10) (8 * k + i) number))) s.heap H locs := hB
                                          generalize gU M (ad 10) (aI dA (ml 10) (upd (f 10) (8 * k + i) number)) = M at hB hR
                                          generalize u2 f 10 (8 * k + i) number = f at hR
                                          refine lv_aload_n hx hb dM_message_171 rfl (lv_at hl 1 rfl) ?_
                                          refine gg_get (v := .ref (ad 11)) hx hb hts in_M hown hK hB hR.top rfl 16 (by decide) k_358 rfl rfl dM_message_172 ?_
                                          refine lv_iload hx hb dM_message_175 (lv_at hl 0 rfl) ?_
                                          refine lv_iload hx hb dM_message_177 (lv_at hl 7 rfl) ?_
                                          refine gg_iast hx hb hK hB 2 (hR.ar 11 (by decide)) rfl (vp_in_nI (ml_hi (by decide) (by have := hR.c100; have h8 : n ≤ 8 := hR.n8 hk hq; omega)) (ml_lt _)) dM_message_179 (fun H locs hB => ?_)
                                          rw [nI_clamp (by have := hR.c100; have h8 : n ≤ 8 := hR.n8 hk hq; omega)] at hB
                                          have hR := hR.put 11 (by decide) (8 * k + i) t (hR.re.setl hk hq hi9 11 t ((lf i).1, (lf i).2.1, number, t) (by decide) ⟨(u2_j (by decide)).trans ((hR.l hk hq hi9).1.trans (show ((va_up lf i ((lf i).1, (lf i).2.1, number, (lf i).2.2.2)) i).1 = _ from by rw [va_up_self])), (u2_j (by decide)).trans ((hR.l hk hq hi9).2.1.trans (show ((va_up lf i ((lf i).1, (lf i).2.1, number, (lf i).2.2.2)) i).2.1 = _ from by rw [va_up_self])), (u2_j (by decide)).trans ((hR.l hk hq hi9).2.2.1.trans (show ((va_up lf i ((lf i).1, (lf i).2.1, number, (lf i).2.2.2)) i).2.2.1 = _ from by rw [va_up_self])), u2_s _ _ _ _⟩)
                                          simp only [bx_uu] at hR
                                          have hq : va_up σ k (h, it, n, st, some i, db, du, fa, en, va_up lf i ((lf i).1, (lf i).2.1, number, t)) k = (h, it, n, st, some i, db, du, fa, en, va_up lf i ((lf i).1, (lf i).2.1, number, t)) := va_up_self _ _ _
                                          have hB : gB (dC, dI) gcl z (gU M (ad 11) (aI dA (ml 11) (upd (f 11) (8 * k + i) t))) s.heap H locs := hB
                                          generalize gU M (ad 11) (aI dA (ml 11) (upd (f 11) (8 * k + i) t)) = M at hB hR
                                          generalize u2 f 11 (8 * k + i) t = f at hR
                                          refine lv_aload_n hx hb dM_message_180 rfl (lv_at hl 1 rfl) ?_
                                          refine lv_iload_n hx hb dM_message_181 rfl (lv_at hl 2 rfl) ?_
                                          refine lv_iload hx hb dM_message_182 (lv_at hl 0 rfl) ?_
                                          refine lv_iload hx hb dM_message_184 (lv_at hl 5 rfl) ?_
                                          refine lv_iload hx hb dM_message_186 (lv_at hl 6 rfl) ?_
                                          refine lv_iload hx hb dM_message_188 (lv_at hl 7 rfl) ?_
                                          have hfa : fa = -1 ∨ ¬ fa < 0 := by have := hv.2.2.1; rw [hq0] at this; exact this
                                          have hk15 : kind = 1 ∨ kind = 2 ∨ kind = 3 ∨ kind = 4 ∨ kind = 5 := bM_k hM9
                                          refine gEndv (gRunV hF (c_M_take l dC dI dA z M0 M mo ad 0 t hs lw cn _ _ hR k i hk (by rw [hq]; exact hi9) (by rw [hq]; exact hfa) kind v t hk15) ln_M_94 hKA hB hR.top rfl rfl hl.1 rfl (Nat.le_of_ble_eq_true rfl) dM_message_190 ⟨rfl, rfl, (Nat.le_of_ble_eq_true rfl), (Nat.le_of_ble_eq_true rfl)⟩ ⟨(Nat.le_of_ble_eq_true rfl), (Nat.le_of_ble_eq_true rfl)⟩) hB (fun M1 H locs hp hB => ?_)
                                          obtain ⟨f1, hp⟩ := hp
                                          rw [hq, bx_uu] at hp
                                          obtain ⟨⟨h2, it2, n2, st2, ho2, db2, du2, fa2, en2, lf2⟩, hq2⟩ : ∃ q, qtake (h, it, n, st, some i, db, du, fa, en, va_up lf i ((lf i).1, (lf i).2.1, number, t)) i kind v t = q := ⟨_, rfl⟩
                                          have hR := hp
                                          have hq := (va_up_self σ k (qtake (h, it, n, st, some i, db, du, fa, en, va_up lf i ((lf i).1, (lf i).2.1, number, t)) i kind v t)).trans hq2
                                          generalize M1 = M at hB hR
                                          generalize f1 = f at hR
                                          refine lv_aload_n hx hb dM_message_193 rfl (lv_at hl 1 rfl) ?_
                                          refine gg_get (v := .ref (ad 2)) hx hb hts in_M hown hK hB hR.top rfl 7 (by decide) k_349 rfl rfl dM_message_194 ?_
                                          refine lv_iload_n hx hb dM_message_197 rfl (lv_at hl 2 rfl) ?_
                                          refine gg_iald (v := st2) hx hb hK hB 2 (hR.ar 2 (by decide)) rfl (vp_in_nI (ml_lo (by decide) (by have := hR.c100; omega)) (ml_lt _)) (by rw [nI_clamp (by have := hR.c100; omega)]; exact (hR.r hk hq).2.2.1) dM_message_198 ?_
                                          have hq3 := hq2
                                          try simp only [c96] at hq3
                                          exact gg_iret hx hb hr hlocks hKA hB dM_message_199 (by decide) (by decide) (mP_of (show sMessage hs lt lw cn σ (nI k) h9 number kind v t = (st2, t, lw, cn, va_up σ k (qtake (h, it, n, st, some i, db, du, fa, en, va_up lf i ((lf i).1, (lf i).2.1, number, t)) i kind v t)) from by simp [sMessage, hi, hH2, hT5, hM9, c96, c121, (show bO (lf i).2.1 = true from by rw [bO_5 h15]; simp [c107]), (show bF kind st (lf i).2.1 = true from by rw [← bY_F hM9]; exact hY10), i32_nle c121, hq0, qnum, qdbl, hq3]) ⟨_, hR, rfl⟩)
                                        · exact absurd c151 (by decide)
                                    · refine lv_aload_n hx hb dM_message_124 rfl (lv_at hl 1 rfl) ?_
                                      refine gg_get (v := .ref (ad 4)) hx hb hts in_M hown hK hB hR.top rfl 9 (by decide) k_351 rfl rfl dM_message_125 ?_
                                      refine lv_iload_n hx hb dM_message_128 rfl (lv_at hl 2 rfl) ?_
                                      refine lv_dup2_11 hx hb dM_message_129 rfl rfl ?_
                                      refine gg_iald (v := db) hx hb hK hB 2 (hR.ar 4 (by decide)) rfl (vp_in_nI (ml_lo (by decide) (by have := hR.c100; omega)) (ml_lt _)) (by rw [nI_clamp (by have := hR.c100; omega)]; exact (hR.r hk hq).2.2.2.2.1) dM_message_130 ?_
                                      refine lv_iconst (v := 1) hx hb dM_message_131 (by decide) ?_
                                      refine lv_iadd hx hb dM_message_132 ?_
                                      refine gg_iast hx hb hK hB 2 (hR.ar 4 (by decide)) rfl (vp_in_nI (ml_lo (by decide) (by have := hR.c100; omega)) (ml_lt _)) dM_message_133 (fun H locs hB => ?_)
                                      rw [nI_clamp (by have := hR.c100; omega)] at hB
                                      have hR := hR.put 4 (by decide) k (db + 1) (hR.re.setq hk hq 4 (db + 1) (h, it, n, st, some i, (db + 1), du, fa, en, lf) rfl rfl (by decide) ⟨(u2_j (by decide)).trans (hR.r hk hq).1, (u2_j (by decide)).trans (hR.r hk hq).2.1, (u2_j (by decide)).trans (hR.r hk hq).2.2.1, (u2_j (by decide)).trans (hR.r hk hq).2.2.2.1, u2_s _ _ _ _, (u2_j (by decide)).trans (hR.r hk hq).2.2.2.2.2.1, (u2_j (by decide)).trans (hR.r hk hq).2.2.2.2.2.2.1, (u2_j (by decide)).trans (hR.r hk hq).2.2.2.2.2.2.2⟩)
                                      have hq : va_up σ k (h, it, n, st, some i, (db + 1), du, fa, en, lf) k = (h, it, n, st, some i, (db + 1), du, fa, en, lf) := va_up_self _ _ _
                                      have hB : gB (dC, dI) gcl z (gU M (ad 4) (aI dA (ml 4) (upd (f 4) k (db + 1)))) s.heap H locs := hB
                                      generalize gU M (ad 4) (aI dA (ml 4) (upd (f 4) k (db + 1))) = M at hB hR
                                      generalize u2 f 4 k (db + 1) = f at hR
                                      refine lv_bipush (v := (-6)) hx hb dM_message_134 (by decide) ?_
                                      exact gg_iret hx hb hr hlocks hKA hB dM_message_136 (by decide) (by decide) (mP_of (show sMessage hs lt lw cn σ (nI k) h9 number kind v t = ((-6), lt, lw, cn, va_up σ k (h, it, n, st, some i, (db + 1), du, fa, en, lf)) from by simp [sMessage, hi, hH2, hT5, hM9, c96, c121, (show bO (lf i).2.1 = true from by rw [bO_5 h15]; simp [c107]), hq0, qnum, qdbl]) ⟨_, hR, rfl⟩)
                                  · refine lv_bipush (v := (-5)) hx hb dM_message_110 (by decide) ?_
                                    exact gg_iret hx hb hr hlocks hKA hB dM_message_112 (by decide) (by decide) (mP_of (show sMessage hs lt lw cn σ (nI k) h9 number kind v t = ((-5), lt, lw, cn, σ) from by simp [sMessage, hi, hH2, hT5, hM9, c96, (show bO (lf i).2.1 = false from by rw [bO_5 h15]; simp [c107]), hq0, qnum, qdbl]) ⟨_, hR, rfl⟩)
                          · exact absurd c70 (by decide)
        · exact absurd c18 (by decide)
