/-! The law's loop. Written by p19.py -/
theorem l_sub {L i : Nat} (hL : L ≤ 3585) (hi : i ≤ 3600) (h : ¬ (Int32.ofNat L - 7 < nI i)) : i + 7 ≤ L := by
  rw [Int32.lt_iff_toInt_lt, nI_toInt (by omega)] at h
  have h1 : (Int32.ofNat L - 7).toInt = (L : Int) - 7 := by
    have h2 : (Int32.ofNat L).toInt = (L : Int) := nI_toInt (n := L) (by omega)
    rw [Int32.toInt_sub, h2, show (7 : Int32).toInt = 7 from rfl]
    exact Int.bmod_eq_of_le (by omega) (by omega)
  omega
set_option maxHeartbeats 4000000 in
set_option maxRecDepth 100000 in
theorem l_head {p : Program} {e : Env} {s : State} {m : MethodId} {below : List Frame} {meth : Method} {c : Code} {b L : Nat} {xs : Nat → Int32} {dC : Nat → ClassId} {dI : Nat → Nat → Nat} {dA : Nat → ClassId} (l : Launch) (hl9 : l.stackTraces = false) (C0 : lwX p s m meth c b L xs dC dI dA) {M : gM} {H : Heap} {locs : List Loc} {ls : Array Slot} {o mo ou : Nat} {hs lt lw : Int32} {cn : Nat} {σ : Nat → Rq} {i : Nat} (hi : i ≤ 3600) (hS : lwS dA M o mo ou hs lt lw cn σ) (hB : gB (dC, dI) gcl s.heap.size M s.heap H locs) (hl : lv_has ls 7 (lwL b o mo ou i)) (ih : i + 7 ≤ L → ∀ (M : gM) (H : Heap) (locs : List Loc) (lt lw : Int32) (cn : Nat) (σ : Nat → Rq) (ls : Array Slot), lwS dA M o mo ou hs lt lw cn σ → gB (dC, dI) gcl s.heap.size M s.heap H locs → lv_has ls 7 (lwL b o mo ou (i + 7)) → W p l e room_1 s m #[Value.ref b] below meth c H locs (20 + 2 * (i + 7)) (4200 + 18 * (i + 7)) (lw_Z below #[Value.ref b] s) (F0 m 33 ls [])) : W p l e room_1 s m #[Value.ref b] below meth c H locs (20 + 2 * i) (4200 + 18 * i) (lw_Z below #[Value.ref b] s) (F0 m 33 ls []) := by
  obtain ⟨hF, hr, hlocks, hKA, hY, hX, hbl, hL⟩ := id C0
  obtain ⟨hx, hb, hml, hown, hts⟩ := id hF
  have hK := hKA.1
  have hbA : ¬ (fun q : Nat => s.heap.size ≤ q) b := Nat.not_le.mpr hbl
  have hl : lv_has ls 7 [(4, .int (nI i)), (3, .ref ou), (2, .ref mo), (1, .ref o), (0, .ref b)] := hl
  refine lv_iload hx hb dW_law_33 (lv_at hl 0 rfl) ?_
  refine lv_aload_n hx hb dW_law_35 rfl (lv_at hl 4 rfl) ?_
  refine va_slen hx hb hX hbl hbA hB.2.2 dW_law_36 ?_
  refine lv_bipush (v := 7) hx hb dW_law_37 (by decide) ?_
  refine lv_isub hx hb dW_law_39 ?_
  refine lv_icmp_gt (tgt := 803) hx hb dW_law_40 (by decide) (fun c40 => ?_) (fun c40 => ?_)
  · refine lv_iconst (v := 1) hx hb dW_law_803 (by decide) ?_
    refine va_forget hB.2.2.2.2 (W.widen (k := 601024) (n := 7293000) (by omega) (by omega) (lw_ret hx hb hr hlocks dW_law_804))
  · have hi7 : i + 7 ≤ L := l_sub hL hi c40
    have ih := ih hi7
    have kk : ∀ (M : gM) (H : Heap) (locs : List Loc) (lt lw : Int32) (cn : Nat) (σ : Nat → Rq) (ls : Array Slot), lwS dA M o mo ou hs lt lw cn σ → gB (dC, dI) gcl s.heap.size M s.heap H locs → lv_has ls 7 (lwL b o mo ou i) → W p l e room_1 s m #[Value.ref b] below meth c H locs (20 + 2 * i + 2) (4200 + 18 * i + 18) (lw_Z below #[Value.ref b] s) (F0 m 797 ls []) := by
      intro M H locs lt lw cn σ ls hS hB hl
      have hl : lv_has ls 7 [(4, .int (nI i)), (3, .ref ou), (2, .ref mo), (1, .ref o), (0, .ref b)] := hl
      refine lv_iinc (v := nI (i + 7)) (lv' := [(4, .int (nI (i + 7))), (3, .ref ou), (2, .ref mo), (1, .ref o), (0, .ref b)]) hx hb dW_law_797 hl (k := 0) rfl (gN7 i) (by decide) rfl (fun ls hl => ?_)
      refine lv_goto (tgt := 33) hx hb dW_law_800 (by decide) ?_
      refine W.widen (k := 20 + 2 * (i + 7)) (n := 4200 + 18 * (i + 7)) (by omega) (by omega) ?_
      exact ih M H locs lt lw cn σ ls hS hB hl
    refine lv_aload_n hx hb dW_law_43 rfl (lv_at hl 4 rfl) ?_
    refine lv_iload hx hb dW_law_44 (lv_at hl 0 rfl) ?_
    refine va_sld hx hb hX hbl hbA hB.2.2 (vp_in_nI (show i < L by omega) (by omega)) dW_law_46 ?_
    rw [nI_clamp (show i < 2 ^ 31 by omega)]
    refine lv_bipush (v := 15) hx hb dW_law_47 (by decide) ?_
    refine lv_iand hx hb dW_law_49 ?_
    by_cases s50_0 : ((xs i) &&& 15) = 0
    · refine lv_tableIn (tgt := 120) hx hb dW_law_50 (by rw [s50_0]; decide) (by rw [s50_0]; decide) (by rw [s50_0]; rfl) (by decide) ?_
      exact l_ask l hl9 C0 hi7 hS hB hl (by omega) (by omega) kk
    by_cases s50_1 : ((xs i) &&& 15) = 1
    · refine lv_tableIn (tgt := 157) hx hb dW_law_50 (by rw [s50_1]; decide) (by rw [s50_1]; decide) (by rw [s50_1]; rfl) (by decide) ?_
      exact l_lender l hl9 C0 hi7 hS hB hl (by omega) (by omega) kk
    by_cases s50_2 : ((xs i) &&& 15) = 2
    · refine lv_tableIn (tgt := 194) hx hb dW_law_50 (by rw [s50_2]; decide) (by rw [s50_2]; decide) (by rw [s50_2]; rfl) (by decide) ?_
      exact l_send l hl9 C0 hi7 hS hB hl (by omega) (by omega) kk
    by_cases s50_3 : ((xs i) &&& 15) = 3
    · refine lv_tableIn (tgt := 231) hx hb dW_law_50 (by rw [s50_3]; decide) (by rw [s50_3]; decide) (by rw [s50_3]; rfl) (by decide) ?_
      exact l_message l hl9 C0 hi7 hS hB hl (by omega) (by omega) kk
    by_cases s50_4 : ((xs i) &&& 15) = 4
    · refine lv_tableIn (tgt := 318) hx hb dW_law_50 (by rw [s50_4]; decide) (by rw [s50_4]; decide) (by rw [s50_4]; rfl) (by decide) ?_
      exact l_condition l hl9 C0 hi7 hS hB hl (by omega) (by omega) kk
    by_cases s50_5 : ((xs i) &&& 15) = 5
    · refine lv_tableIn (tgt := 383) hx hb dW_law_50 (by rw [s50_5]; decide) (by rw [s50_5]; decide) (by rw [s50_5]; rfl) (by decide) ?_
      exact l_received l hl9 C0 hi7 hS hB hl (by omega) (by omega) kk
    by_cases s50_6 : ((xs i) &&& 15) = 6
    · refine lv_tableIn (tgt := 420) hx hb dW_law_50 (by rw [s50_6]; decide) (by rw [s50_6]; decide) (by rw [s50_6]; rfl) (by decide) ?_
      exact l_back l hl9 C0 hi7 hS hB hl (by omega) (by omega) kk
    by_cases s50_7 : ((xs i) &&& 15) = 7
    · refine lv_tableIn (tgt := 457) hx hb dW_law_50 (by rw [s50_7]; decide) (by rw [s50_7]; decide) (by rw [s50_7]; rfl) (by decide) ?_
      exact l_cancel l hl9 C0 hi7 hS hB hl (by omega) (by omega) kk
    by_cases s50_8 : ((xs i) &&& 15) = 8
    · refine lv_tableIn (tgt := 494) hx hb dW_law_50 (by rw [s50_8]; decide) (by rw [s50_8]; decide) (by rw [s50_8]; rfl) (by decide) ?_
      exact l_waits l hl9 C0 hi7 hS hB hl (by omega) (by omega) kk
    by_cases s50_9 : ((xs i) &&& 15) = 9
    · refine lv_tableIn (tgt := 519) hx hb dW_law_50 (by rw [s50_9]; decide) (by rw [s50_9]; decide) (by rw [s50_9]; rfl) (by decide) ?_
      exact l_span l hl9 C0 hi7 hS hB hl (by omega) (by omega) kk
    by_cases s50_10 : ((xs i) &&& 15) = 10
    · refine lv_tableIn (tgt := 544) hx hb dW_law_50 (by rw [s50_10]; decide) (by rw [s50_10]; decide) (by rw [s50_10]; rfl) (by decide) ?_
      exact l_about l hl9 C0 hi7 hS hB hl (by omega) (by omega) kk
    by_cases s50_11 : ((xs i) &&& 15) = 11
    · refine lv_tableIn (tgt := 612) hx hb dW_law_50 (by rw [s50_11]; decide) (by rw [s50_11]; decide) (by rw [s50_11]; rfl) (by decide) ?_
      exact l_told l hl9 C0 hi7 hS hB hl (by omega) (by omega) kk
    by_cases s50_12 : ((xs i) &&& 15) = 12
    · refine lv_tableIn (tgt := 692) hx hb dW_law_50 (by rw [s50_12]; decide) (by rw [s50_12]; decide) (by rw [s50_12]; rfl) (by decide) ?_
      exact l_statistics l hl9 C0 hi7 hS hB hl (by omega) (by omega) kk
    by_cases s50_13 : ((xs i) &&& 15) = 13
    · refine lv_tableIn (tgt := 729) hx hb dW_law_50 (by rw [s50_13]; decide) (by rw [s50_13]; decide) (by rw [s50_13]; rfl) (by decide) ?_
      exact l_overdue l hl9 C0 hi7 hS hB hl (by omega) (by omega) kk
    · refine lv_tableOut (tgt := 797) hx hb dW_law_50 (by have := lv_neT s50_0 (a := 0) (by decide); have := lv_neT s50_1 (a := 1) (by decide); have := lv_neT s50_2 (a := 2) (by decide); have := lv_neT s50_3 (a := 3) (by decide); have := lv_neT s50_4 (a := 4) (by decide); have := lv_neT s50_5 (a := 5) (by decide); have := lv_neT s50_6 (a := 6) (by decide); have := lv_neT s50_7 (a := 7) (by decide); have := lv_neT s50_8 (a := 8) (by decide); have := lv_neT s50_9 (a := 9) (by decide); have := lv_neT s50_10 (a := 10) (by decide); have := lv_neT s50_11 (a := 11) (by decide); have := lv_neT s50_12 (a := 12) (by decide); have := lv_neT s50_13 (a := 13) (by decide); omega) (by decide) ?_
      refine W.widen (k := 20 + 2 * i + 2) (n := 4200 + 18 * i + 18) (by omega) (by omega) ?_
      exact kk M H locs lt lw cn σ ls hS hB hl
theorem l_loop {p : Program} {e : Env} {s : State} {m : MethodId} {below : List Frame} {meth : Method} {c : Code} {b L : Nat} {xs : Nat → Int32} {dC : Nat → ClassId} {dI : Nat → Nat → Nat} {dA : Nat → ClassId} (l : Launch) (hl9 : l.stackTraces = false) (C0 : lwX p s m meth c b L xs dC dI dA) {o mo ou : Nat} {hs : Int32} : ∀ (n i : Nat), L + 7 ≤ i + n → i ≤ 3600 → ∀ (M : gM) (H : Heap) (locs : List Loc) (lt lw : Int32) (cn : Nat) (σ : Nat → Rq) (ls : Array Slot), lwS dA M o mo ou hs lt lw cn σ → gB (dC, dI) gcl s.heap.size M s.heap H locs → lv_has ls 7 (lwL b o mo ou i) → W p l e room_1 s m #[Value.ref b] below meth c H locs (20 + 2 * i) (4200 + 18 * i) (lw_Z below #[Value.ref b] s) (F0 m 33 ls []) := by
  intro n
  induction n with
  | zero => exact fun i h hi M H locs lt lw cn σ ls hS hB hl => l_head l hl9 C0 hi hS hB hl (fun h9 => absurd h9 (by omega))
  | succ n hn => exact fun i h hi M H locs lt lw cn σ ls hS hB hl => l_head l hl9 C0 hi hS hB hl (fun h9 => hn (i + 7) (by omega) (by have := C0.2.2.2.2.2.2.2; omega))
