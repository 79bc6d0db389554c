/-! The law's cases with a throw. Written by p18.py -/
set_option maxHeartbeats 4000000 in
set_option maxRecDepth 100000 in
theorem l_about {p : Program} {e : Env} {s : State} {m : MethodId} {below : List Frame} {meth : Method} {c : Code} {b L : Nat} {xs : Nat → Int32} {dC : Nat → ClassId} {dI : Nat → Nat → Nat} {dA : Nat → ClassId} (l : Launch) (hl9 : l.stackTraces = false) (C0 : lwX p s m meth c b L xs dC dI dA) {Q : State → Prop} {M : gM} {H : Heap} {locs : List Loc} {ls : Array Slot} {o mo ou : Nat} {hs lt lw : Int32} {cn : Nat} {σ : Nat → Rq} {i ce sl : Nat} (hi : i + 7 ≤ L) (hS : lwS dA M o mo ou hs lt lw cn σ) (hB : gB (dC, dI) gcl s.heap.size M s.heap H locs) (hl : lv_has ls 7 (lwL b o mo ou i)) (hce : ce + 2 ≤ 601024) (hsl : sl + 18 ≤ 7293000) (kk : ∀ (M : gM) (H : Heap) (locs : List Loc) (lt lw : Int32) (cn : Nat) (σ : Nat → Rq) (ls : Array Slot), lwS dA M o mo ou hs lt lw cn σ → gB (dC, dI) gcl s.heap.size M s.heap H locs → lv_has ls 7 (lwL b o mo ou i) → W p l e room_1 s m #[Value.ref b] below meth c H locs (ce + 2) (sl + 18) Q (F0 m 797 ls [])) : W p l e room_1 s m #[Value.ref b] below meth c H locs ce sl Q (F0 m 544 ls []) := by
  obtain ⟨hF, hr, hlocks, hKA, hY, hX, hbl, hL⟩ := id C0
  obtain ⟨hx, hb, hml, hown, hts⟩ := id hF
  have hK := hKA.1
  have hbA : ¬ (fun q : Nat => s.heap.size ≤ q) b := Nat.not_le.mpr hbl
  obtain ⟨⟨ar, ra, sa, la, hR⟩, ⟨ad, th, f, hm⟩, hO, hh, hI⟩ := hS
  have h100 := hR.c100
  obtain ⟨fo, ho9⟩ := id hO
  have hl : lv_has ls 7 [(4, .int (nI i)), (3, .ref ou), (2, .ref mo), (1, .ref o), (0, .ref b)] := hl
  refine lv_aload_n hx hb dW_law_544 rfl (lv_at hl 3 rfl) ?_
  refine lv_aload_n hx hb dW_law_545 rfl (lv_at hl 4 rfl) ?_
  refine lv_iload hx hb dW_law_546 (lv_at hl 0 rfl) ?_
  refine lv_iconst (v := 1) hx hb dW_law_548 (by decide) ?_
  refine lv_iadd hx hb dW_law_549 ?_
  rw [gN1 i]
  refine va_sld hx hb hX hbl hbA hB.2.2 (vp_in_nI (show (i + 1) < L by omega) (by omega)) dW_law_550 ?_
  rw [nI_clamp (show (i + 1) < 2 ^ 31 by omega)]
  refine lv_aload_n hx hb dW_law_551 rfl (lv_at hl 4 rfl) ?_
  refine lv_iload hx hb dW_law_552 (lv_at hl 0 rfl) ?_
  refine lv_iconst (v := 2) hx hb dW_law_554 (by decide) ?_
  refine lv_iadd hx hb dW_law_555 ?_
  rw [gN2 i]
  refine va_sld hx hb hX hbl hbA hB.2.2 (vp_in_nI (show (i + 2) < L by omega) (by omega)) dW_law_556 ?_
  rw [nI_clamp (show (i + 2) < 2 ^ 31 by omega)]
  refine lv_aload_n hx hb dW_law_557 rfl (lv_at hl 1 rfl) ?_
  refine gEndi (gRunH (n := 4) hF (c_W_about l dC dI dA s.heap.size hl9 M M o ar ra sa la hs lt lw cn σ hR (xs (i + 1)) (xs (i + 2)) ou fo ho9) k_242 k_240 k_241 k_0 ⟨by decide, by decide, by decide +kernel⟩ hKA hY hB rfl hl.1 rfl (Nat.le_of_ble_eq_true rfl) dW_law_558 ⟨rfl, rfl, (Nat.le_of_ble_eq_true rfl), (Nat.le_of_ble_eq_true rfl)⟩ ⟨show ce + 1 ≤ 601024 by omega, show sl + 6 ≤ 7293000 by omega⟩) hB (fun y1 M1 H locs hp hB => ?_)
  cases hv : xAbout cn σ (xs (i + 1)) (xs (i + 2)) with
  | some v =>
    rw [hv] at hp
    obtain ⟨e1, e2⟩ := hp
    subst e1
    obtain ⟨kc, km⟩ := lw_out (y := .inl (dA 3, 1, .inr (.inl (vp_updL fo 0 v.toInt64)))) ho9
    rw [← e2] at kc km
    have hou : M1 ou = some (.inl (dA 3, 1, .inr (.inl (vp_updL fo 0 v.toInt64)))) := by rw [e2]; exact gU_s _ _ _
    have hR1 := hR.keep kc
    have hm1 := hm.keep km
    refine lv_istore (lv' := [(5, .int 0), (4, .int (nI i)), (3, .ref ou), (2, .ref mo), (1, .ref o), (0, .ref b)]) hx hb dW_law_561 hl (by decide) rfl (fun ls hl => ?_)
    refine lv_aload_n hx hb dW_law_563 rfl (lv_at hl 3 rfl) ?_
    refine lv_aload_n hx hb dW_law_564 rfl (lv_at hl 5 rfl) ?_
    refine lv_iload hx hb dW_law_565 (lv_at hl 1 rfl) ?_
    refine lv_iconst (v := 1) hx hb dW_law_567 (by decide) ?_
    refine lv_iadd hx hb dW_law_568 ?_
    rw [gN1 i]
    refine va_sld hx hb hX hbl hbA hB.2.2 (vp_in_nI (show (i + 1) < L by omega) (by omega)) dW_law_569 ?_
    rw [nI_clamp (show (i + 1) < 2 ^ 31 by omega)]
    refine lv_aload_n hx hb dW_law_570 rfl (lv_at hl 5 rfl) ?_
    refine lv_iload hx hb dW_law_571 (lv_at hl 1 rfl) ?_
    refine lv_iconst (v := 2) hx hb dW_law_573 (by decide) ?_
    refine lv_iadd hx hb dW_law_574 ?_
    rw [gN2 i]
    refine va_sld hx hb hX hbl hbA hB.2.2 (vp_in_nI (show (i + 2) < L by omega) (by omega)) dW_law_575 ?_
    rw [nI_clamp (show (i + 2) < 2 ^ 31 by omega)]
    refine gEndi (gRunV hF (c_M_about l dC dI dA s.heap.size M1 M1 mo ad th lt hs lw cn σ f hm1 hh hI.2 (xs (i + 1)) (xs (i + 2))) ln_W_80 hKA hB hm1.top rfl rfl hl.1 rfl (Nat.le_of_ble_eq_true rfl) dW_law_576 ⟨rfl, rfl, (Nat.le_of_ble_eq_true rfl), (Nat.le_of_ble_eq_true rfl)⟩ ⟨show ce + 1 + 0 ≤ 601024 by omega, show sl + 6 + 0 ≤ 7293000 by omega⟩) hB (fun y2 M2 H locs hp hB => ?_)
    obtain ⟨f1, hm2, e3⟩ := hp
    rw [hv] at hm2 e3
    have hm2 : mW dA M1 M2 mo ad 0 lt hs lw cn σ f1 := hm2
    have e3 : y2 = v := e3
    subst e3
    have hR2 := hR1.keep hm2.1.ck
    have hou := hm2.1 _ _ hou rfl
    have hv2 : y2 = y2 := rfl
    refine lv_istore (lv' := [(6, .int y2), (5, .int 0), (4, .int (nI i)), (3, .ref ou), (2, .ref mo), (1, .ref o), (0, .ref b)]) hx hb dW_law_579 hl (by decide) rfl (fun ls hl => ?_)
    refine lv_aload_n hx hb dW_law_581 rfl (lv_at hl 4 rfl) ?_
    refine gEndi (gRunV hF (c_M_thrown l dC dI dA s.heap.size M2 M2 mo ad 0 lt hs lw cn σ f1 hm2.base) ln_W_81 hKA hB hm2.top rfl rfl hl.1 rfl (Nat.le_of_ble_eq_true rfl) dW_law_582 ⟨rfl, rfl, (Nat.le_of_ble_eq_true rfl), (Nat.le_of_ble_eq_true rfl)⟩ ⟨show ce + 1 + 0 + 0 ≤ 601024 by omega, show sl + 6 + 0 + 0 ≤ 7293000 by omega⟩) hB (fun y3 M3 H locs hp hB => ?_)
    obtain ⟨e4, e5⟩ := hp
    subst e5
    rw [e4] at hB
    refine lv_iload hx hb dW_law_585 (lv_at hl 1 rfl) ?_
    refine lv_icmp_eq (tgt := 592) hx hb dW_law_587 (by decide) (fun c587 => ?_) (fun c587 => ?_)
    · refine lv_iload hx hb dW_law_592 (lv_at hl 1 rfl) ?_
      refine lv_if_ne (tgt := 609) hx hb dW_law_594 (by decide) (fun c594 => ?_) (fun c594 => ?_)
      · exact (c594 (by decide)).elim
      · refine lv_aload_n hx hb dW_law_597 rfl (lv_at hl 3 rfl) ?_
        refine lv_iconst (v := 0) hx hb dW_law_598 (by decide) ?_
        refine gg_lald (v := y2.toInt64) hx hb hK hB 3 hou rfl (vp_in_iff.mpr ⟨by decide, by decide⟩) rfl dW_law_599 ?_
        refine lv_iload hx hb dW_law_600 (lv_at hl 0 rfl) ?_
        refine lv_i2l hx hb dW_law_602 rfl ?_
        refine W.lcmp hx hb dW_law_603 ?_
        rw [lcmp_s]
        refine lv_if_eq (tgt := 609) hx hb dW_law_604 (by decide) (fun c604 => ?_) (fun c604 => ?_)
        · refine lv_goto (tgt := 797) hx hb dW_law_609 (by decide) ?_
          refine W.widen (k := ce + 2) (n := sl + 18) (by omega) (by omega) ?_
          exact kk M2 H locs _ _ _ _ ls ⟨⟨ar, ra, sa, la, hR2⟩, ⟨ad, _, f1, hm2.base⟩, ⟨_, hou⟩, hh, hI⟩ hB (lv_sub hl [2, 3, 4, 5, 6] rfl)
        · exact (c604 (by decide)).elim
    · exact (c587 (by decide)).elim
  | none =>
    rw [hv] at hp
    obtain ⟨e1, e2⟩ := hp
    subst e1
    have hou : M1 ou = some (.inl (dA 3, 1, .inr (.inl fo))) := by rw [e2]; exact ho9
    have hR1 : cW dA M1 M1 o ar ra sa la hs lt lw cn σ := by rw [e2]; exact hR
    have hm1 : mW dA M1 M1 mo ad th lt hs lw cn σ f := by rw [e2]; exact hm
    refine lv_istore (lv' := [(5, .int 1), (4, .int (nI i)), (3, .ref ou), (2, .ref mo), (1, .ref o), (0, .ref b)]) hx hb dW_law_561 hl (by decide) rfl (fun ls hl => ?_)
    refine lv_aload_n hx hb dW_law_563 rfl (lv_at hl 3 rfl) ?_
    refine lv_aload_n hx hb dW_law_564 rfl (lv_at hl 5 rfl) ?_
    refine lv_iload hx hb dW_law_565 (lv_at hl 1 rfl) ?_
    refine lv_iconst (v := 1) hx hb dW_law_567 (by decide) ?_
    refine lv_iadd hx hb dW_law_568 ?_
    rw [gN1 i]
    refine va_sld hx hb hX hbl hbA hB.2.2 (vp_in_nI (show (i + 1) < L by omega) (by omega)) dW_law_569 ?_
    rw [nI_clamp (show (i + 1) < 2 ^ 31 by omega)]
    refine lv_aload_n hx hb dW_law_570 rfl (lv_at hl 5 rfl) ?_
    refine lv_iload hx hb dW_law_571 (lv_at hl 1 rfl) ?_
    refine lv_iconst (v := 2) hx hb dW_law_573 (by decide) ?_
    refine lv_iadd hx hb dW_law_574 ?_
    rw [gN2 i]
    refine va_sld hx hb hX hbl hbA hB.2.2 (vp_in_nI (show (i + 2) < L by omega) (by omega)) dW_law_575 ?_
    rw [nI_clamp (show (i + 2) < 2 ^ 31 by omega)]
    refine gEndi (gRunV hF (c_M_about l dC dI dA s.heap.size M1 M1 mo ad th lt hs lw cn σ f hm1 hh hI.2 (xs (i + 1)) (xs (i + 2))) ln_W_80 hKA hB hm1.top rfl rfl hl.1 rfl (Nat.le_of_ble_eq_true rfl) dW_law_576 ⟨rfl, rfl, (Nat.le_of_ble_eq_true rfl), (Nat.le_of_ble_eq_true rfl)⟩ ⟨show ce + 1 + 0 ≤ 601024 by omega, show sl + 6 + 0 ≤ 7293000 by omega⟩) hB (fun y2 M2 H locs hp hB => ?_)
    obtain ⟨f1, hm2, e3⟩ := hp
    rw [hv] at hm2 e3
    have hm2 : mW dA M1 M2 mo ad 1 lt hs lw cn σ f1 := hm2
    have e3 : y2 = 0 := e3
    subst e3
    have hR2 := hR1.keep hm2.1.ck
    have hou := hm2.1 _ _ hou rfl
    refine lv_istore (lv' := [(6, .int 0), (5, .int 1), (4, .int (nI i)), (3, .ref ou), (2, .ref mo), (1, .ref o), (0, .ref b)]) hx hb dW_law_579 hl (by decide) rfl (fun ls hl => ?_)
    refine lv_aload_n hx hb dW_law_581 rfl (lv_at hl 4 rfl) ?_
    refine gEndi (gRunV hF (c_M_thrown l dC dI dA s.heap.size M2 M2 mo ad 1 lt hs lw cn σ f1 hm2.base) ln_W_81 hKA hB hm2.top rfl rfl hl.1 rfl (Nat.le_of_ble_eq_true rfl) dW_law_582 ⟨rfl, rfl, (Nat.le_of_ble_eq_true rfl), (Nat.le_of_ble_eq_true rfl)⟩ ⟨show ce + 1 + 0 + 0 ≤ 601024 by omega, show sl + 6 + 0 + 0 ≤ 7293000 by omega⟩) hB (fun y3 M3 H locs hp hB => ?_)
    obtain ⟨e4, e5⟩ := hp
    subst e5
    rw [e4] at hB
    refine lv_iload hx hb dW_law_585 (lv_at hl 1 rfl) ?_
    refine lv_icmp_eq (tgt := 592) hx hb dW_law_587 (by decide) (fun c587 => ?_) (fun c587 => ?_)
    · refine lv_iload hx hb dW_law_592 (lv_at hl 1 rfl) ?_
      refine lv_if_ne (tgt := 609) hx hb dW_law_594 (by decide) (fun c594 => ?_) (fun c594 => ?_)
      · refine lv_goto (tgt := 797) hx hb dW_law_609 (by decide) ?_
        refine W.widen (k := ce + 2) (n := sl + 18) (by omega) (by omega) ?_
        exact kk M2 H locs _ _ _ _ ls ⟨⟨ar, ra, sa, la, hR2⟩, ⟨ad, _, f1, hm2.base⟩, ⟨_, hou⟩, hh, hI⟩ hB (lv_sub hl [2, 3, 4, 5, 6] rfl)
      · exact absurd c594 (by decide)
    · exact (c587 (by decide)).elim
set_option maxHeartbeats 4000000 in
set_option maxRecDepth 100000 in
theorem l_told {p : Program} {e : Env} {s : State} {m : MethodId} {below : List Frame} {meth : Method} {c : Code} {b L : Nat} {xs : Nat → Int32} {dC : Nat → ClassId} {dI : Nat → Nat → Nat} {dA : Nat → ClassId} (l : Launch) (hl9 : l.stackTraces = false) (C0 : lwX p s m meth c b L xs dC dI dA) {Q : State → Prop} {M : gM} {H : Heap} {locs : List Loc} {ls : Array Slot} {o mo ou : Nat} {hs lt lw : Int32} {cn : Nat} {σ : Nat → Rq} {i ce sl : Nat} (hi : i + 7 ≤ L) (hS : lwS dA M o mo ou hs lt lw cn σ) (hB : gB (dC, dI) gcl s.heap.size M s.heap H locs) (hl : lv_has ls 7 (lwL b o mo ou i)) (hce : ce + 2 ≤ 601024) (hsl : sl + 18 ≤ 7293000) (kk : ∀ (M : gM) (H : Heap) (locs : List Loc) (lt lw : Int32) (cn : Nat) (σ : Nat → Rq) (ls : Array Slot), lwS dA M o mo ou hs lt lw cn σ → gB (dC, dI) gcl s.heap.size M s.heap H locs → lv_has ls 7 (lwL b o mo ou i) → W p l e room_1 s m #[Value.ref b] below meth c H locs (ce + 2) (sl + 18) Q (F0 m 797 ls [])) : W p l e room_1 s m #[Value.ref b] below meth c H locs ce sl Q (F0 m 612 ls []) := by
  obtain ⟨hF, hr, hlocks, hKA, hY, hX, hbl, hL⟩ := id C0
  obtain ⟨hx, hb, hml, hown, hts⟩ := id hF
  have hK := hKA.1
  have hbA : ¬ (fun q : Nat => s.heap.size ≤ q) b := Nat.not_le.mpr hbl
  obtain ⟨⟨ar, ra, sa, la, hR⟩, ⟨ad, th, f, hm⟩, hO, hh, hI⟩ := hS
  have h100 := hR.c100
  obtain ⟨fo, ho9⟩ := id hO
  have hl : lv_has ls 7 [(4, .int (nI i)), (3, .ref ou), (2, .ref mo), (1, .ref o), (0, .ref b)] := hl
  refine lv_aload_n hx hb dW_law_612 rfl (lv_at hl 3 rfl) ?_
  refine lv_aload_n hx hb dW_law_613 rfl (lv_at hl 4 rfl) ?_
  refine lv_iload hx hb dW_law_614 (lv_at hl 0 rfl) ?_
  refine lv_iconst (v := 1) hx hb dW_law_616 (by decide) ?_
  refine lv_iadd hx hb dW_law_617 ?_
  rw [gN1 i]
  refine va_sld hx hb hX hbl hbA hB.2.2 (vp_in_nI (show (i + 1) < L by omega) (by omega)) dW_law_618 ?_
  rw [nI_clamp (show (i + 1) < 2 ^ 31 by omega)]
  refine lv_aload_n hx hb dW_law_619 rfl (lv_at hl 4 rfl) ?_
  refine lv_iload hx hb dW_law_620 (lv_at hl 0 rfl) ?_
  refine lv_iconst (v := 2) hx hb dW_law_622 (by decide) ?_
  refine lv_iadd hx hb dW_law_623 ?_
  rw [gN2 i]
  refine va_sld hx hb hX hbl hbA hB.2.2 (vp_in_nI (show (i + 2) < L by omega) (by omega)) dW_law_624 ?_
  rw [nI_clamp (show (i + 2) < 2 ^ 31 by omega)]
  refine lv_aload_n hx hb dW_law_625 rfl (lv_at hl 4 rfl) ?_
  refine lv_iload hx hb dW_law_626 (lv_at hl 0 rfl) ?_
  refine lv_iconst (v := 3) hx hb dW_law_628 (by decide) ?_
  refine lv_iadd hx hb dW_law_629 ?_
  rw [gN3 i]
  refine va_sld hx hb hX hbl hbA hB.2.2 (vp_in_nI (show (i + 3) < L by omega) (by omega)) dW_law_630 ?_
  rw [nI_clamp (show (i + 3) < 2 ^ 31 by omega)]
  refine lv_aload_n hx hb dW_law_631 rfl (lv_at hl 1 rfl) ?_
  refine gEndi (gRunH (n := 5) hF (c_W_told l dC dI dA s.heap.size hl9 M M o ar ra sa la hs lt lw cn σ hR (xs (i + 1)) (xs (i + 2)) (xs (i + 3)) ou fo ho9) k_317 k_315 k_316 k_0 ⟨by decide, by decide, by decide +kernel⟩ hKA hY hB rfl hl.1 rfl (Nat.le_of_ble_eq_true rfl) dW_law_632 ⟨rfl, rfl, (Nat.le_of_ble_eq_true rfl), (Nat.le_of_ble_eq_true rfl)⟩ ⟨show ce + 1 ≤ 601024 by omega, show sl + 6 ≤ 7293000 by omega⟩) hB (fun y1 M1 H locs hp hB => ?_)
  cases hv : xTold cn σ (xs (i + 1)) (xs (i + 2)) (xs (i + 3)) with
  | some v =>
    rw [hv] at hp
    obtain ⟨e1, e2⟩ := hp
    subst e1
    obtain ⟨kc, km⟩ := lw_out (y := .inl (dA 3, 1, .inr (.inl (vp_updL fo 0 v.toInt64)))) ho9
    rw [← e2] at kc km
    have hou : M1 ou = some (.inl (dA 3, 1, .inr (.inl (vp_updL fo 0 v.toInt64)))) := by rw [e2]; exact gU_s _ _ _
    have hR1 := hR.keep kc
    have hm1 := hm.keep km
    refine lv_istore (lv' := [(5, .int 0), (4, .int (nI i)), (3, .ref ou), (2, .ref mo), (1, .ref o), (0, .ref b)]) hx hb dW_law_635 hl (by decide) rfl (fun ls hl => ?_)
    refine lv_aload_n hx hb dW_law_637 rfl (lv_at hl 3 rfl) ?_
    refine lv_aload_n hx hb dW_law_638 rfl (lv_at hl 5 rfl) ?_
    refine lv_iload hx hb dW_law_639 (lv_at hl 1 rfl) ?_
    refine lv_iconst (v := 1) hx hb dW_law_641 (by decide) ?_
    refine lv_iadd hx hb dW_law_642 ?_
    rw [gN1 i]
    refine va_sld hx hb hX hbl hbA hB.2.2 (vp_in_nI (show (i + 1) < L by omega) (by omega)) dW_law_643 ?_
    rw [nI_clamp (show (i + 1) < 2 ^ 31 by omega)]
    refine lv_aload_n hx hb dW_law_644 rfl (lv_at hl 5 rfl) ?_
    refine lv_iload hx hb dW_law_645 (lv_at hl 1 rfl) ?_
    refine lv_iconst (v := 2) hx hb dW_law_647 (by decide) ?_
    refine lv_iadd hx hb dW_law_648 ?_
    rw [gN2 i]
    refine va_sld hx hb hX hbl hbA hB.2.2 (vp_in_nI (show (i + 2) < L by omega) (by omega)) dW_law_649 ?_
    rw [nI_clamp (show (i + 2) < 2 ^ 31 by omega)]
    refine lv_aload_n hx hb dW_law_650 rfl (lv_at hl 5 rfl) ?_
    refine lv_iload hx hb dW_law_651 (lv_at hl 1 rfl) ?_
    refine lv_iconst (v := 3) hx hb dW_law_653 (by decide) ?_
    refine lv_iadd hx hb dW_law_654 ?_
    rw [gN3 i]
    refine va_sld hx hb hX hbl hbA hB.2.2 (vp_in_nI (show (i + 3) < L by omega) (by omega)) dW_law_655 ?_
    rw [nI_clamp (show (i + 3) < 2 ^ 31 by omega)]
    refine gEndi (gRunV hF (c_M_told l dC dI dA s.heap.size M1 M1 mo ad th lt hs lw cn σ f hm1 hh hI.2 (xs (i + 1)) (xs (i + 2)) (xs (i + 3))) ln_W_88 hKA hB hm1.top rfl rfl hl.1 rfl (Nat.le_of_ble_eq_true rfl) dW_law_656 ⟨rfl, rfl, (Nat.le_of_ble_eq_true rfl), (Nat.le_of_ble_eq_true rfl)⟩ ⟨show ce + 1 + 0 ≤ 601024 by omega, show sl + 6 + 0 ≤ 7293000 by omega⟩) hB (fun y2 M2 H locs hp hB => ?_)
    obtain ⟨f1, hm2, e3⟩ := hp
    rw [hv] at hm2 e3
    have hm2 : mW dA M1 M2 mo ad 0 lt hs lw cn σ f1 := hm2
    have e3 : y2 = v := e3
    subst e3
    have hR2 := hR1.keep hm2.1.ck
    have hou := hm2.1 _ _ hou rfl
    have hv2 : y2 = y2 := rfl
    refine lv_istore (lv' := [(6, .int y2), (5, .int 0), (4, .int (nI i)), (3, .ref ou), (2, .ref mo), (1, .ref o), (0, .ref b)]) hx hb dW_law_659 hl (by decide) rfl (fun ls hl => ?_)
    refine lv_aload_n hx hb dW_law_661 rfl (lv_at hl 4 rfl) ?_
    refine gEndi (gRunV hF (c_M_thrown l dC dI dA s.heap.size M2 M2 mo ad 0 lt hs lw cn σ f1 hm2.base) ln_W_81 hKA hB hm2.top rfl rfl hl.1 rfl (Nat.le_of_ble_eq_true rfl) dW_law_662 ⟨rfl, rfl, (Nat.le_of_ble_eq_true rfl), (Nat.le_of_ble_eq_true rfl)⟩ ⟨show ce + 1 + 0 + 0 ≤ 601024 by omega, show sl + 6 + 0 + 0 ≤ 7293000 by omega⟩) hB (fun y3 M3 H locs hp hB => ?_)
    obtain ⟨e4, e5⟩ := hp
    subst e5
    rw [e4] at hB
    refine lv_iload hx hb dW_law_665 (lv_at hl 1 rfl) ?_
    refine lv_icmp_eq (tgt := 672) hx hb dW_law_667 (by decide) (fun c667 => ?_) (fun c667 => ?_)
    · refine lv_iload hx hb dW_law_672 (lv_at hl 1 rfl) ?_
      refine lv_if_ne (tgt := 689) hx hb dW_law_674 (by decide) (fun c674 => ?_) (fun c674 => ?_)
      · exact (c674 (by decide)).elim
      · refine lv_aload_n hx hb dW_law_677 rfl (lv_at hl 3 rfl) ?_
        refine lv_iconst (v := 0) hx hb dW_law_678 (by decide) ?_
        refine gg_lald (v := y2.toInt64) hx hb hK hB 3 hou rfl (vp_in_iff.mpr ⟨by decide, by decide⟩) rfl dW_law_679 ?_
        refine lv_iload hx hb dW_law_680 (lv_at hl 0 rfl) ?_
        refine lv_i2l hx hb dW_law_682 rfl ?_
        refine W.lcmp hx hb dW_law_683 ?_
        rw [lcmp_s]
        refine lv_if_eq (tgt := 689) hx hb dW_law_684 (by decide) (fun c684 => ?_) (fun c684 => ?_)
        · refine lv_goto (tgt := 797) hx hb dW_law_689 (by decide) ?_
          refine W.widen (k := ce + 2) (n := sl + 18) (by omega) (by omega) ?_
          exact kk M2 H locs _ _ _ _ ls ⟨⟨ar, ra, sa, la, hR2⟩, ⟨ad, _, f1, hm2.base⟩, ⟨_, hou⟩, hh, hI⟩ hB (lv_sub hl [2, 3, 4, 5, 6] rfl)
        · exact (c684 (by decide)).elim
    · exact (c667 (by decide)).elim
  | none =>
    rw [hv] at hp
    obtain ⟨e1, e2⟩ := hp
    subst e1
    have hou : M1 ou = some (.inl (dA 3, 1, .inr (.inl fo))) := by rw [e2]; exact ho9
    have hR1 : cW dA M1 M1 o ar ra sa la hs lt lw cn σ := by rw [e2]; exact hR
    have hm1 : mW dA M1 M1 mo ad th lt hs lw cn σ f := by rw [e2]; exact hm
    refine lv_istore (lv' := [(5, .int 1), (4, .int (nI i)), (3, .ref ou), (2, .ref mo), (1, .ref o), (0, .ref b)]) hx hb dW_law_635 hl (by decide) rfl (fun ls hl => ?_)
    refine lv_aload_n hx hb dW_law_637 rfl (lv_at hl 3 rfl) ?_
    refine lv_aload_n hx hb dW_law_638 rfl (lv_at hl 5 rfl) ?_
    refine lv_iload hx hb dW_law_639 (lv_at hl 1 rfl) ?_
    refine lv_iconst (v := 1) hx hb dW_law_641 (by decide) ?_
    refine lv_iadd hx hb dW_law_642 ?_
    rw [gN1 i]
    refine va_sld hx hb hX hbl hbA hB.2.2 (vp_in_nI (show (i + 1) < L by omega) (by omega)) dW_law_643 ?_
    rw [nI_clamp (show (i + 1) < 2 ^ 31 by omega)]
    refine lv_aload_n hx hb dW_law_644 rfl (lv_at hl 5 rfl) ?_
    refine lv_iload hx hb dW_law_645 (lv_at hl 1 rfl) ?_
    refine lv_iconst (v := 2) hx hb dW_law_647 (by decide) ?_
    refine lv_iadd hx hb dW_law_648 ?_
    rw [gN2 i]
    refine va_sld hx hb hX hbl hbA hB.2.2 (vp_in_nI (show (i + 2) < L by omega) (by omega)) dW_law_649 ?_
    rw [nI_clamp (show (i + 2) < 2 ^ 31 by omega)]
    refine lv_aload_n hx hb dW_law_650 rfl (lv_at hl 5 rfl) ?_
    refine lv_iload hx hb dW_law_651 (lv_at hl 1 rfl) ?_
    refine lv_iconst (v := 3) hx hb dW_law_653 (by decide) ?_
    refine lv_iadd hx hb dW_law_654 ?_
    rw [gN3 i]
    refine va_sld hx hb hX hbl hbA hB.2.2 (vp_in_nI (show (i + 3) < L by omega) (by omega)) dW_law_655 ?_
    rw [nI_clamp (show (i + 3) < 2 ^ 31 by omega)]
    refine gEndi (gRunV hF (c_M_told l dC dI dA s.heap.size M1 M1 mo ad th lt hs lw cn σ f hm1 hh hI.2 (xs (i + 1)) (xs (i + 2)) (xs (i + 3))) ln_W_88 hKA hB hm1.top rfl rfl hl.1 rfl (Nat.le_of_ble_eq_true rfl) dW_law_656 ⟨rfl, rfl, (Nat.le_of_ble_eq_true rfl), (Nat.le_of_ble_eq_true rfl)⟩ ⟨show ce + 1 + 0 ≤ 601024 by omega, show sl + 6 + 0 ≤ 7293000 by omega⟩) hB (fun y2 M2 H locs hp hB => ?_)
    obtain ⟨f1, hm2, e3⟩ := hp
    rw [hv] at hm2 e3
    have hm2 : mW dA M1 M2 mo ad 1 lt hs lw cn σ f1 := hm2
    have e3 : y2 = 0 := e3
    subst e3
    have hR2 := hR1.keep hm2.1.ck
    have hou := hm2.1 _ _ hou rfl
    refine lv_istore (lv' := [(6, .int 0), (5, .int 1), (4, .int (nI i)), (3, .ref ou), (2, .ref mo), (1, .ref o), (0, .ref b)]) hx hb dW_law_659 hl (by decide) rfl (fun ls hl => ?_)
    refine lv_aload_n hx hb dW_law_661 rfl (lv_at hl 4 rfl) ?_
    refine gEndi (gRunV hF (c_M_thrown l dC dI dA s.heap.size M2 M2 mo ad 1 lt hs lw cn σ f1 hm2.base) ln_W_81 hKA hB hm2.top rfl rfl hl.1 rfl (Nat.le_of_ble_eq_true rfl) dW_law_662 ⟨rfl, rfl, (Nat.le_of_ble_eq_true rfl), (Nat.le_of_ble_eq_true rfl)⟩ ⟨show ce + 1 + 0 + 0 ≤ 601024 by omega, show sl + 6 + 0 + 0 ≤ 7293000 by omega⟩) hB (fun y3 M3 H locs hp hB => ?_)
    obtain ⟨e4, e5⟩ := hp
    subst e5
    rw [e4] at hB
    refine lv_iload hx hb dW_law_665 (lv_at hl 1 rfl) ?_
    refine lv_icmp_eq (tgt := 672) hx hb dW_law_667 (by decide) (fun c667 => ?_) (fun c667 => ?_)
    · refine lv_iload hx hb dW_law_672 (lv_at hl 1 rfl) ?_
      refine lv_if_ne (tgt := 689) hx hb dW_law_674 (by decide) (fun c674 => ?_) (fun c674 => ?_)
      · refine lv_goto (tgt := 797) hx hb dW_law_689 (by decide) ?_
        refine W.widen (k := ce + 2) (n := sl + 18) (by omega) (by omega) ?_
        exact kk M2 H locs _ _ _ _ ls ⟨⟨ar, ra, sa, la, hR2⟩, ⟨ad, _, f1, hm2.base⟩, ⟨_, hou⟩, hh, hI⟩ hB (lv_sub hl [2, 3, 4, 5, 6] rfl)
      · exact absurd c674 (by decide)
    · exact (c667 (by decide)).elim
set_option maxHeartbeats 4000000 in
set_option maxRecDepth 100000 in
theorem l_overdue {p : Program} {e : Env} {s : State} {m : MethodId} {below : List Frame} {meth : Method} {c : Code} {b L : Nat} {xs : Nat → Int32} {dC : Nat → ClassId} {dI : Nat → Nat → Nat} {dA : Nat → ClassId} (l : Launch) (hl9 : l.stackTraces = false) (C0 : lwX p s m meth c b L xs dC dI dA) {Q : State → Prop} {M : gM} {H : Heap} {locs : List Loc} {ls : Array Slot} {o mo ou : Nat} {hs lt lw : Int32} {cn : Nat} {σ : Nat → Rq} {i ce sl : Nat} (hi : i + 7 ≤ L) (hS : lwS dA M o mo ou hs lt lw cn σ) (hB : gB (dC, dI) gcl s.heap.size M s.heap H locs) (hl : lv_has ls 7 (lwL b o mo ou i)) (hce : ce + 2 ≤ 601024) (hsl : sl + 18 ≤ 7293000) (kk : ∀ (M : gM) (H : Heap) (locs : List Loc) (lt lw : Int32) (cn : Nat) (σ : Nat → Rq) (ls : Array Slot), lwS dA M o mo ou hs lt lw cn σ → gB (dC, dI) gcl s.heap.size M s.heap H locs → lv_has ls 7 (lwL b o mo ou i) → W p l e room_1 s m #[Value.ref b] below meth c H locs (ce + 2) (sl + 18) Q (F0 m 797 ls [])) : W p l e room_1 s m #[Value.ref b] below meth c H locs ce sl Q (F0 m 729 ls []) := by
  obtain ⟨hF, hr, hlocks, hKA, hY, hX, hbl, hL⟩ := id C0
  obtain ⟨hx, hb, hml, hown, hts⟩ := id hF
  have hK := hKA.1
  have hbA : ¬ (fun q : Nat => s.heap.size ≤ q) b := Nat.not_le.mpr hbl
  obtain ⟨⟨ar, ra, sa, la, hR⟩, ⟨ad, th, f, hm⟩, hO, hh, hI⟩ := hS
  have h100 := hR.c100
  obtain ⟨fo, ho9⟩ := id hO
  have hl : lv_has ls 7 [(4, .int (nI i)), (3, .ref ou), (2, .ref mo), (1, .ref o), (0, .ref b)] := hl
  refine lv_aload_n hx hb dW_law_729 rfl (lv_at hl 3 rfl) ?_
  refine lv_aload_n hx hb dW_law_730 rfl (lv_at hl 4 rfl) ?_
  refine lv_iload hx hb dW_law_731 (lv_at hl 0 rfl) ?_
  refine lv_iconst (v := 1) hx hb dW_law_733 (by decide) ?_
  refine lv_iadd hx hb dW_law_734 ?_
  rw [gN1 i]
  refine va_sld hx hb hX hbl hbA hB.2.2 (vp_in_nI (show (i + 1) < L by omega) (by omega)) dW_law_735 ?_
  rw [nI_clamp (show (i + 1) < 2 ^ 31 by omega)]
  refine lv_aload_n hx hb dW_law_736 rfl (lv_at hl 4 rfl) ?_
  refine lv_iload hx hb dW_law_737 (lv_at hl 0 rfl) ?_
  refine lv_iconst (v := 2) hx hb dW_law_739 (by decide) ?_
  refine lv_iadd hx hb dW_law_740 ?_
  rw [gN2 i]
  refine va_sld hx hb hX hbl hbA hB.2.2 (vp_in_nI (show (i + 2) < L by omega) (by omega)) dW_law_741 ?_
  rw [nI_clamp (show (i + 2) < 2 ^ 31 by omega)]
  refine lv_aload_n hx hb dW_law_742 rfl (lv_at hl 1 rfl) ?_
  refine gEndi (gRunH (n := 4) hF (c_W_overdue l dC dI dA s.heap.size hl9 M M o ar ra sa la hs lt lw cn σ hR (xs (i + 1)) (xs (i + 2)) ou fo ho9) k_329 k_327 k_328 k_0 ⟨by decide, by decide, by decide +kernel⟩ hKA hY hB rfl hl.1 rfl (Nat.le_of_ble_eq_true rfl) dW_law_743 ⟨rfl, rfl, (Nat.le_of_ble_eq_true rfl), (Nat.le_of_ble_eq_true rfl)⟩ ⟨show ce + 1 ≤ 601024 by omega, show sl + 6 ≤ 7293000 by omega⟩) hB (fun y1 M1 H locs hp hB => ?_)
  cases hv : xOver cn σ (xs (i + 1)) (xs (i + 2)) with
  | some v =>
    rw [hv] at hp
    obtain ⟨e1, e2⟩ := hp
    subst e1
    obtain ⟨kc, km⟩ := lw_out (y := .inl (dA 3, 1, .inr (.inl (vp_updL fo 0 v.toInt64)))) ho9
    rw [← e2] at kc km
    have hou : M1 ou = some (.inl (dA 3, 1, .inr (.inl (vp_updL fo 0 v.toInt64)))) := by rw [e2]; exact gU_s _ _ _
    have hR1 := hR.keep kc
    have hm1 := hm.keep km
    refine lv_istore (lv' := [(5, .int 0), (4, .int (nI i)), (3, .ref ou), (2, .ref mo), (1, .ref o), (0, .ref b)]) hx hb dW_law_746 hl (by decide) rfl (fun ls hl => ?_)
    refine lv_aload_n hx hb dW_law_748 rfl (lv_at hl 3 rfl) ?_
    refine lv_aload_n hx hb dW_law_749 rfl (lv_at hl 5 rfl) ?_
    refine lv_iload hx hb dW_law_750 (lv_at hl 1 rfl) ?_
    refine lv_iconst (v := 1) hx hb dW_law_752 (by decide) ?_
    refine lv_iadd hx hb dW_law_753 ?_
    rw [gN1 i]
    refine va_sld hx hb hX hbl hbA hB.2.2 (vp_in_nI (show (i + 1) < L by omega) (by omega)) dW_law_754 ?_
    rw [nI_clamp (show (i + 1) < 2 ^ 31 by omega)]
    refine lv_aload_n hx hb dW_law_755 rfl (lv_at hl 5 rfl) ?_
    refine lv_iload hx hb dW_law_756 (lv_at hl 1 rfl) ?_
    refine lv_iconst (v := 2) hx hb dW_law_758 (by decide) ?_
    refine lv_iadd hx hb dW_law_759 ?_
    rw [gN2 i]
    refine va_sld hx hb hX hbl hbA hB.2.2 (vp_in_nI (show (i + 2) < L by omega) (by omega)) dW_law_760 ?_
    rw [nI_clamp (show (i + 2) < 2 ^ 31 by omega)]
    refine gEndi (gRunV hF (c_M_overdue l dC dI dA s.heap.size M1 M1 mo ad th lt hs lw cn σ f hm1 (xs (i + 1)) (xs (i + 2))) ln_W_95 hKA hB hm1.top rfl rfl hl.1 rfl (Nat.le_of_ble_eq_true rfl) dW_law_761 ⟨rfl, rfl, (Nat.le_of_ble_eq_true rfl), (Nat.le_of_ble_eq_true rfl)⟩ ⟨show ce + 1 + 0 ≤ 601024 by omega, show sl + 6 + 0 ≤ 7293000 by omega⟩) hB (fun y2 M2 H locs hp hB => ?_)
    obtain ⟨f1, hm2, e3⟩ := hp
    rw [hv] at hm2 e3
    have hm2 : mW dA M1 M2 mo ad 0 lt hs lw cn σ f1 := hm2
    have e3 : y2 = v := e3
    subst e3
    have hR2 := hR1.keep hm2.1.ck
    have hou := hm2.1 _ _ hou rfl
    have hv2 : y2 = y2 := rfl
    refine lv_istore (lv' := [(6, .int y2), (5, .int 0), (4, .int (nI i)), (3, .ref ou), (2, .ref mo), (1, .ref o), (0, .ref b)]) hx hb dW_law_764 hl (by decide) rfl (fun ls hl => ?_)
    refine lv_aload_n hx hb dW_law_766 rfl (lv_at hl 4 rfl) ?_
    refine gEndi (gRunV hF (c_M_thrown l dC dI dA s.heap.size M2 M2 mo ad 0 lt hs lw cn σ f1 hm2.base) ln_W_81 hKA hB hm2.top rfl rfl hl.1 rfl (Nat.le_of_ble_eq_true rfl) dW_law_767 ⟨rfl, rfl, (Nat.le_of_ble_eq_true rfl), (Nat.le_of_ble_eq_true rfl)⟩ ⟨show ce + 1 + 0 + 0 ≤ 601024 by omega, show sl + 6 + 0 + 0 ≤ 7293000 by omega⟩) hB (fun y3 M3 H locs hp hB => ?_)
    obtain ⟨e4, e5⟩ := hp
    subst e5
    rw [e4] at hB
    refine lv_iload hx hb dW_law_770 (lv_at hl 1 rfl) ?_
    refine lv_icmp_eq (tgt := 777) hx hb dW_law_772 (by decide) (fun c772 => ?_) (fun c772 => ?_)
    · refine lv_iload hx hb dW_law_777 (lv_at hl 1 rfl) ?_
      refine lv_if_ne (tgt := 794) hx hb dW_law_779 (by decide) (fun c779 => ?_) (fun c779 => ?_)
      · exact (c779 (by decide)).elim
      · refine lv_aload_n hx hb dW_law_782 rfl (lv_at hl 3 rfl) ?_
        refine lv_iconst (v := 0) hx hb dW_law_783 (by decide) ?_
        refine gg_lald (v := y2.toInt64) hx hb hK hB 3 hou rfl (vp_in_iff.mpr ⟨by decide, by decide⟩) rfl dW_law_784 ?_
        refine lv_iload hx hb dW_law_785 (lv_at hl 0 rfl) ?_
        refine lv_i2l hx hb dW_law_787 rfl ?_
        refine W.lcmp hx hb dW_law_788 ?_
        rw [lcmp_s]
        refine lv_if_eq (tgt := 794) hx hb dW_law_789 (by decide) (fun c789 => ?_) (fun c789 => ?_)
        · refine lv_goto (tgt := 797) hx hb dW_law_794 (by decide) ?_
          refine W.widen (k := ce + 2) (n := sl + 18) (by omega) (by omega) ?_
          exact kk M2 H locs _ _ _ _ ls ⟨⟨ar, ra, sa, la, hR2⟩, ⟨ad, _, f1, hm2.base⟩, ⟨_, hou⟩, hh, hI⟩ hB (lv_sub hl [2, 3, 4, 5, 6] rfl)
        · exact (c789 (by decide)).elim
    · exact (c772 (by decide)).elim
  | none =>
    rw [hv] at hp
    obtain ⟨e1, e2⟩ := hp
    subst e1
    have hou : M1 ou = some (.inl (dA 3, 1, .inr (.inl fo))) := by rw [e2]; exact ho9
    have hR1 : cW dA M1 M1 o ar ra sa la hs lt lw cn σ := by rw [e2]; exact hR
    have hm1 : mW dA M1 M1 mo ad th lt hs lw cn σ f := by rw [e2]; exact hm
    refine lv_istore (lv' := [(5, .int 1), (4, .int (nI i)), (3, .ref ou), (2, .ref mo), (1, .ref o), (0, .ref b)]) hx hb dW_law_746 hl (by decide) rfl (fun ls hl => ?_)
    refine lv_aload_n hx hb dW_law_748 rfl (lv_at hl 3 rfl) ?_
    refine lv_aload_n hx hb dW_law_749 rfl (lv_at hl 5 rfl) ?_
    refine lv_iload hx hb dW_law_750 (lv_at hl 1 rfl) ?_
    refine lv_iconst (v := 1) hx hb dW_law_752 (by decide) ?_
    refine lv_iadd hx hb dW_law_753 ?_
    rw [gN1 i]
    refine va_sld hx hb hX hbl hbA hB.2.2 (vp_in_nI (show (i + 1) < L by omega) (by omega)) dW_law_754 ?_
    rw [nI_clamp (show (i + 1) < 2 ^ 31 by omega)]
    refine lv_aload_n hx hb dW_law_755 rfl (lv_at hl 5 rfl) ?_
    refine lv_iload hx hb dW_law_756 (lv_at hl 1 rfl) ?_
    refine lv_iconst (v := 2) hx hb dW_law_758 (by decide) ?_
    refine lv_iadd hx hb dW_law_759 ?_
    rw [gN2 i]
    refine va_sld hx hb hX hbl hbA hB.2.2 (vp_in_nI (show (i + 2) < L by omega) (by omega)) dW_law_760 ?_
    rw [nI_clamp (show (i + 2) < 2 ^ 31 by omega)]
    refine gEndi (gRunV hF (c_M_overdue l dC dI dA s.heap.size M1 M1 mo ad th lt hs lw cn σ f hm1 (xs (i + 1)) (xs (i + 2))) ln_W_95 hKA hB hm1.top rfl rfl hl.1 rfl (Nat.le_of_ble_eq_true rfl) dW_law_761 ⟨rfl, rfl, (Nat.le_of_ble_eq_true rfl), (Nat.le_of_ble_eq_true rfl)⟩ ⟨show ce + 1 + 0 ≤ 601024 by omega, show sl + 6 + 0 ≤ 7293000 by omega⟩) hB (fun y2 M2 H locs hp hB => ?_)
    obtain ⟨f1, hm2, e3⟩ := hp
    rw [hv] at hm2 e3
    have hm2 : mW dA M1 M2 mo ad 1 lt hs lw cn σ f1 := hm2
    have e3 : y2 = 0 := e3
    subst e3
    have hR2 := hR1.keep hm2.1.ck
    have hou := hm2.1 _ _ hou rfl
    refine lv_istore (lv' := [(6, .int 0), (5, .int 1), (4, .int (nI i)), (3, .ref ou), (2, .ref mo), (1, .ref o), (0, .ref b)]) hx hb dW_law_764 hl (by decide) rfl (fun ls hl => ?_)
    refine lv_aload_n hx hb dW_law_766 rfl (lv_at hl 4 rfl) ?_
    refine gEndi (gRunV hF (c_M_thrown l dC dI dA s.heap.size M2 M2 mo ad 1 lt hs lw cn σ f1 hm2.base) ln_W_81 hKA hB hm2.top rfl rfl hl.1 rfl (Nat.le_of_ble_eq_true rfl) dW_law_767 ⟨rfl, rfl, (Nat.le_of_ble_eq_true rfl), (Nat.le_of_ble_eq_true rfl)⟩ ⟨show ce + 1 + 0 + 0 ≤ 601024 by omega, show sl + 6 + 0 + 0 ≤ 7293000 by omega⟩) hB (fun y3 M3 H locs hp hB => ?_)
    obtain ⟨e4, e5⟩ := hp
    subst e5
    rw [e4] at hB
    refine lv_iload hx hb dW_law_770 (lv_at hl 1 rfl) ?_
    refine lv_icmp_eq (tgt := 777) hx hb dW_law_772 (by decide) (fun c772 => ?_) (fun c772 => ?_)
    · refine lv_iload hx hb dW_law_777 (lv_at hl 1 rfl) ?_
      refine lv_if_ne (tgt := 794) hx hb dW_law_779 (by decide) (fun c779 => ?_) (fun c779 => ?_)
      · refine lv_goto (tgt := 797) hx hb dW_law_794 (by decide) ?_
        refine W.widen (k := ce + 2) (n := sl + 18) (by omega) (by omega) ?_
        exact kk M2 H locs _ _ _ _ ls ⟨⟨ar, ra, sa, la, hR2⟩, ⟨ad, _, f1, hm2.base⟩, ⟨_, hou⟩, hh, hI⟩ hB (lv_sub hl [2, 3, 4, 5, 6] rfl)
      · exact absurd c779 (by decide)
    · exact (c772 (by decide)).elim
