/-! The law's start, and the claim (behind whole_start the skeleton's rows, with the launch's flag carried along) -/
section LS
variable {p : Program} {l : Launch} {e : Env} {s : State} {m : MethodId} {below : List Frame} {meth : Method} {c : Code} {b L : Nat} {xs : Nat → Int32} {dC : Nat → ClassId} {dI : Nat → Nat → Nat} {dA : Nat → ClassId} {Q : State → Prop} {M : gM} {H : Heap} {locs : List Loc} {ls : Array Slot} {pc ce sl : Nat} {rest : List Value}
theorem l_cell (C0 : lwX p s m meth c b L xs dC dI dA) (hB : gB (dC, dI) gcl s.heap.size M s.heap H locs) (hsz : ls.size = 7) (hW : (rest.map fun v => v.category).sum ≤ 8) (hd : decode b_W_law pc = .ok (.invokestatic 22, 3)) (hce : ce ≤ 601024) (hsl : sl ≤ 7293000)
    (kk : ∀ (H : Heap) (locs : List Loc), gB (dC, dI) gcl s.heap.size M s.heap H locs → W p l e room_1 s m #[Value.ref b] below meth c H locs ce sl Q (F0 m (pc + 3) ls (.int (gc0 L xs) :: rest))) : W p l e room_1 s m #[Value.ref b] below meth c H locs ce sl Q (F0 m pc ls (.int 0 :: .ref b :: rest)) := by
  obtain ⟨hF, hr, hlocks, hKA, hY, hX, hbl, hL⟩ := id C0
  have ht := hF.2.2.2.2
  obtain ⟨k1, k2, k3, k5, k6, k7, k8⟩ := ln_W_22
  have hrun : va_Run p l e room_1 s m #[Value.ref b] below meth c H locs ce sl 0 0 (F0 m pc ls (.int 0 :: .ref b :: rest)) rest (va_Qi (fun r M1 => M1 = M ∧ r = gc0 L xs) (gS (dC, dI) gcl (gty dA) s.heap.size) (fun q => s.heap.size ≤ q) [Value.ref b, Value.int 0].toArray) (fun q => s.heap.size ≤ q) := by
    refine va_runS hF (c_W_cell l (dC, dI) gcl (gty dA) s.heap.size M b L xs hbl hL) (n := 2) ⟨⟨rfl, rfl, Nat.le_of_ble_eq_true rfl, Nat.le_of_ble_eq_true rfl, gw_in ht k1, List.mem_cons_self, ht _ k1, ht _ k5, ⟨k6, k7⟩, fun sig h => ?_, ht _ k2⟩, ht _ k3⟩ ⟨gPc.blind, fun U hU hW => ⟨rfl, ⟨by rw [hU]; exact hB.1, gK.moved hW.alike hKA⟩, va_X.moved hW.alike (by rw [hU]; exact va_X.kept hX (hB.2.2.2.1 b hbl (Nat.not_le.mpr hbl)))⟩⟩ rfl rfl hsz rfl (lv_room hW) hd ⟨hce, hsl⟩
    rw [h] at k8
    exact (Option.some.inj k8).symm
  refine gEndi hrun hB (fun r M1 H locs hp hB => ?_)
  obtain ⟨e1, e2⟩ := hp
  rw [e1] at hB
  subst e2
  exact kk H locs hB
end LS
set_option maxHeartbeats 4000000 in
set_option maxRecDepth 100000 in
/-- from the entry, for every script of at most 3585 ints, the law comes to its end with true -/
theorem whole_start {p : Program} {e : Env} {s : State} {m : MethodId} {below : List Frame} {meth : Method} {c : Code} (l : Launch) (hl9 : l.stackTraces = false) {b L : Nat} {xs : Nat → Int32} (hL : L ≤ 3585) (C0 : lw_At p s m meth c b L xs) : W p l e room_1 s m #[Value.ref b] below meth c s.heap [] 0 0 (lw_Z below #[Value.ref b] s) (entryFrame m ([Value.ref b] : List Value).toArray 7) := by
  obtain ⟨dC, dI, dA, C1⟩ := l_ctx hL C0
  obtain ⟨hF, hr, hlocks, hKA, hY, hX, hbl, -⟩ := id C1
  obtain ⟨hx, hb, hml, hown, hts⟩ := id hF
  have hK := hKA.1
  have hl := lv_entry ([.ref b]) (n := 7) (Nat.le_of_ble_eq_true rfl)
  rw [lg_entry_eq]
  generalize (lg_sl ([.ref b]) ++ List.replicate (7 - (lg_sl ([.ref b])).length) Slot.unset).toArray = ls at hl ⊢
  have hl : lv_has ls 7 [(0, .ref b)] := hl
  obtain ⟨M, hM⟩ : ∃ M : gM, M = fun _ => none := ⟨_, rfl⟩
  have hB : gB (dC, dI) gcl s.heap.size M s.heap s.heap [] := ⟨⟨fun a e h => (by rw [hM] at h; cases h), Nat.le_refl _⟩, Nat.le_refl _, va_S.rf⟩
  refine gg_new (ci := 0) (fs := [.int 0, .null, .int 0, .int 0, .int 0]) hx hb hts in_I t_I t_I_ok hown k_10 k_11 k_1 hK hB rfl (fun j hj => by rcases (show j = 0 ∨ j = 1 ∨ j = 2 ∨ j = 3 ∨ j = 4 by omega) with rfl | rfl | rfl | rfl | rfl <;> rfl) (Nat.le_of_ble_eq_true rfl) (Nat.le_of_ble_eq_true rfl) dW_law_0 (fun o H ho hB => ?_)
  have ho1 : gU M o (.inr (0, [.int 0, .null, .int 0, .int 0, .int 0])) o = some (.inr (0, [.int 0, .null, .int 0, .int 0, .int 0])) := gU_s _ _ _
  generalize gU M o (.inr (0, [.int 0, .null, .int 0, .int 0, .int 0])) = M at hB ho1
  refine lv_dup hx hb dW_law_3 rfl ?_
  refine lv_aload_n hx hb dW_law_4 rfl (lv_at hl 0 rfl) ?_
  refine lv_iconst (v := 0) hx hb dW_law_5 (by decide) ?_
  refine l_cell C1 hB hl.1 (Nat.le_of_ble_eq_true rfl) dW_law_6 (Nat.le_of_ble_eq_true rfl) (Nat.le_of_ble_eq_true rfl) (fun H locs hB => ?_)
  refine gEndv (gRunI hF (c_I_init l dC dI dA s.heap.size M o (gc0 L xs) ho1) ln_W_28 hKA hB rfl hl.1 rfl (Nat.le_of_ble_eq_true rfl) dW_law_9 ⟨rfl, rfl, Nat.le_of_ble_eq_true rfl, Nat.le_of_ble_eq_true rfl⟩ ⟨Nat.le_of_ble_eq_true rfl, Nat.le_of_ble_eq_true rfl⟩) hB (fun M1 H locs hp hB => ?_)
  obtain ⟨q, hq0, hoq, e1⟩ := hp
  have hc1 : cW dA M1 M1 o q (fun _ => 0) (fun _ => 0) (fun _ _ => 0) (hsz (gc0 L xs)) 0 86400 0 (fun _ => qnew 0 0) := by
    rw [e1]
    exact cW.mk0 gF.rf (gU_s _ _ _) (by rw [gU_n (Ne.symm hoq), gU_s])
  clear e1 ho1
  refine lv_astore_n (lv' := [(1, .ref o), (0, .ref b)]) hx hb dW_law_12 rfl hl (by decide) rfl (fun ls hl => ?_)
  refine gg_new (ci := 3) (fs := [.int 0, .int 0, .int 0, .int 0, .int 0, .null, .null, .null, .null, .null, .null, .null, .null, .null, .null, .null, .null]) hx hb hts in_M t_M t_M_ok hown k_335 k_336 k_3 hK hB rfl (fun j hj => by rcases (show j = 0 ∨ j = 1 ∨ j = 2 ∨ j = 3 ∨ j = 4 ∨ j = 5 ∨ j = 6 ∨ j = 7 ∨ j = 8 ∨ j = 9 ∨ j = 10 ∨ j = 11 ∨ j = 12 ∨ j = 13 ∨ j = 14 ∨ j = 15 ∨ j = 16 by omega) with rfl | rfl | rfl | rfl | rfl | rfl | rfl | rfl | rfl | rfl | rfl | rfl | rfl | rfl | rfl | rfl | rfl <;> rfl) (Nat.le_of_ble_eq_true rfl) (Nat.le_of_ble_eq_true rfl) dW_law_13 (fun mo H hmo hB => ?_)
  have hmo1 := gU_s M1 mo (.inr (3, [.int 0, .int 0, .int 0, .int 0, .int 0, .null, .null, .null, .null, .null, .null, .null, .null, .null, .null, .null, .null]))
  have hc2 := hc1.keep (M1 := gU M1 mo (.inr (3, [.int 0, .int 0, .int 0, .int 0, .int 0, .null, .null, .null, .null, .null, .null, .null, .null, .null, .null, .null, .null]))) (fun a e ha _ => (gU_n (fun w => by rw [w, hmo] at ha; cases ha)).trans ha)
  generalize gU M1 mo (.inr (3, [.int 0, .int 0, .int 0, .int 0, .int 0, .null, .null, .null, .null, .null, .null, .null, .null, .null, .null, .null, .null])) = M2 at hB hmo1 hc2
  refine lv_dup hx hb dW_law_16 rfl ?_
  refine lv_aload_n hx hb dW_law_17 rfl (lv_at hl 1 rfl) ?_
  refine lv_iconst (v := 0) hx hb dW_law_18 (by decide) ?_
  refine l_cell C1 hB hl.1 (Nat.le_of_ble_eq_true rfl) dW_law_19 (Nat.le_of_ble_eq_true rfl) (Nat.le_of_ble_eq_true rfl) (fun H locs hB => ?_)
  refine gEndv (gRunI hF (c_M_init l dC dI dA s.heap.size M2 mo (gc0 L xs) hmo1) ln_W_33 hKA hB rfl hl.1 rfl (Nat.le_of_ble_eq_true rfl) dW_law_22 ⟨rfl, rfl, Nat.le_of_ble_eq_true rfl, Nat.le_of_ble_eq_true rfl⟩ ⟨Nat.le_of_ble_eq_true rfl, Nat.le_of_ble_eq_true rfl⟩) hB (fun M3 H locs hp hB => ?_)
  obtain ⟨ad, hmI⟩ := hp
  have hc3 := hc2.keep (M1 := M3) (fun a e ha hc => hmI.1 a e ha (fun w => by rw [w, hmo1] at ha; cases ha; cases hc))
  have hm3 := hmI.mk (M0 := M3) gFm.rf (fun _ => qnew 0 0)
  refine lv_astore_n (lv' := [(2, .ref mo), (1, .ref o), (0, .ref b)]) hx hb dW_law_25 rfl hl (by decide) rfl (fun ls hl => ?_)
  refine lv_iconst (v := 1) hx hb dW_law_26 (by decide) ?_
  refine gg_newi (atype := .long) (N' := 1) (a0 := (1, .inr (.inl (fun _ => 0)))) (cA := dA 3) hx hb hts k_497 rfl hK hB 3 rfl (by intro C h; cases h) rfl (by decide) (by decide) (Nat.le_of_ble_eq_true rfl) (Nat.le_of_ble_eq_true rfl) (Nat.le_of_ble_eq_true rfl) dW_law_27 (fun ou H hou hB => ?_)
  have hc4 := hc3.keep (M1 := gU M3 ou (.inl (dA 3, 1, .inr (.inl (fun _ => 0))))) (fun a e ha _ => (gU_n (fun w => by rw [w, hou] at ha; cases ha)).trans ha)
  have hm4 := hm3.keep (M1 := gU M3 ou (.inl (dA 3, 1, .inr (.inl (fun _ => 0))))) (fun a e ha _ => (gU_n (fun w => by rw [w, hou] at ha; cases ha)).trans ha)
  have ho4 := gU_s M3 ou (.inl (dA 3, 1, .inr (.inl (fun _ => 0))))
  refine lv_astore_n (lv' := [(3, .ref ou), (2, .ref mo), (1, .ref o), (0, .ref b)]) hx hb dW_law_29 rfl hl (by decide) rfl (fun ls hl => ?_)
  refine lv_iconst (v := 1) hx hb dW_law_30 (by decide) ?_
  refine lv_istore (lv' := [(4, .int 1), (3, .ref ou), (2, .ref mo), (1, .ref o), (0, .ref b)]) hx hb dW_law_31 hl (by decide) rfl (fun ls hl => ?_)
  refine W.widen (k := 20 + 2 * 1) (n := 4200 + 18 * 1) (Nat.le_of_ble_eq_true rfl) (Nat.le_of_ble_eq_true rfl) ?_
  exact l_loop l hl9 C1 (L + 6) 1 (by omega) (by decide) _ H locs 0 86400 0 (fun _ => qnew 0 0) ls ⟨⟨q, _, _, _, hc4⟩, ⟨ad, _, _, hm4⟩, ⟨_, ho4⟩, hsz_ok _, by decide, fun k hk => absurd hk (Nat.not_lt_zero k)⟩ hB hl
set_option maxHeartbeats 4000000 in
theorem lw_walk (l : Launch) (hl9 : l.stackTraces = false) (b : Addr) (xs : List Int32) : MetFree l x (headSpec (Jvm.Cond.code x code maxLocals ret :: tables_1) room_1) (lw_P b xs) (fun _ _ _ _ _ => True) lw_Q := by
  refine MetFree.of_bodyS (code := code) (maxLocals := maxLocals) (ret := ret) (by decide) ?_ ?_
  · intro args s m h hn
    obtain ⟨meth, c, h1, h2, h3, h4, h5, h6, -, -⟩ := Cond.code_spec hn (atoms_spec (ws := Jvm.Cond.code x code maxLocals ret :: tables_1) h _ List.mem_cons_self)
    exact ⟨meth, c, h1, h2, h3, h4, h5, h6⟩
  · intro p e s m args below meth c s₁ B hml0 hP _
    obtain ⟨rfl, hx, hbd, hgv⟩ := hP
    obtain ⟨scr, harrAt, hlist, hof, hsmall⟩ := hx
    obtain ⟨hcb, hkn, -, -⟩ := State.arrayAt?_spec harrAt
    have hown : s.vm.findClass R_law = some m.cls := findClass_of_methodNamed B.named
    have hts0 : ∀ c ∈ (Jvm.Cond.code x code maxLocals ret :: tables_1), c.before #[Value.ref b] s = true := atoms_spec (ws := Jvm.Cond.code x code maxLocals ret :: tables_1) B.pre
    have hts : ∀ w ∈ lw_tbl, w.before #[Value.ref b] s = true := k2_hts_sels lw_privs (fun w hw => hts0 w (List.mem_cons_of_mem _ hw)) lw_privs_ok
    have hml : c.maxLocals = 7 := B.maxLocals_eq (hts0 _ List.mem_cons_self)
    have X₀ : Stand p l e room_1 s m #[Value.ref b] below meth c s₁ [] 0 0 := Stand.of_body B
    have hh0 : s₁.heap = s.heap := by rw [B.state]; rfl
    have hsz : scr.slots.size = xs.length := by rw [← Array.length_toList, hlist, List.length_map]
    have hval : ∀ j : Nat, j < xs.length → scr.slots[j]? = some (.int (xs.getD j 0)) := fun j hj => by
      rw [← Array.getElem?_toList, hlist]
      simp [hj]
    have hbl : b < s.heap.size := (Array.getElem?_eq_some_iff.mp hcb).1
    have hX : va_X b xs.length (fun j => xs.getD j 0) s s.heap := ⟨scr, hcb, hof, hkn, hsz, hval⟩
    have K : W p l e room_1 s m #[Value.ref b] below meth c s₁.heap [] 0 0 (lw_Z below #[Value.ref b] s) (entryFrame m ([Value.ref b] : List Value).toArray 7) := by
      rw [hh0]
      exact whole_start l hl9 hbd ⟨B.exec, B.bytes, B.returns, hml, hown, hts, hX, hbl, B.notSynchronized, hgv⟩
    obtain ⟨t, a1, o, b1, b2, b3⟩ := K s₁ rfl X₀
    exact ⟨t, o, a1, b1, b2, b3⟩
theorem lw_pre_spec {args : Array Value} {s : State} (h : (Jvm.Cond.and given_1 narrow_1).before args s = true) (hr : rest_1_c.before args s = true) : ∃ (b : Addr) (xs : List Int32), lw_P b xs args s := by
  have hs := flat_of_before _ h
  have hq := flat_of_before _ hr
  have hc : (Cond.count 1).before args s = true := hs _ (by decide +kernel)
  have harr : (Cond.arrayOf (.arg 0) .int).before args s = true := hs _ (by decide +kernel)
  have hle : (Cond.le (.length (.arg 0)) (.int 3585)).before args s = true := hs _ (by decide +kernel)
  have hlen : (Cond.isInt (.length (.arg 0))).before args s = true := hq _ (by decide +kernel)
  have hall : (Cond.all (.arg 0) (.isInt (.elem (.arg 0) (.index 0)))).before args s = true := hq _ (by decide +kernel)
  obtain ⟨b, xs, hb, hx⟩ := State.ints_of_pre rfl harr hlen hall
  have hsm : xs.length < 2 ^ 31 := hx.choose_spec.2.2.2
  have hev : (Term.length (.arg 0)).eval args s none [] s = some (.int xs.length.toInt32) := hx.length_eval hb
  have hv := Cond.le_ints hev (show (Term.int 3585).eval args s none [] s = some (.int 3585) from rfl)
  have hd : xs.length.toInt32 ≤ 3585 := by
    simpa [Cond.before, Cond.holds, hv] using hle
  have hN : xs.length ≤ 3585 := (Int32.ofNat_le_ofNat hsm (by decide)).mp (show Int32.ofNat xs.length ≤ Int32.ofNat 3585 from hd)
  exact ⟨b, xs, Cond.one_arg hc (show args[0]? = some (.ref b) from hb), hx, hN, h⟩
theorem lw_comes (l : Launch) (hl9 : l.stackTraces = false) : Comes l x (Jvm.Cond.code x code maxLocals ret :: tables_1) room_1 (fun tb e args s => Calls_1 tb e args s ∧ rest_1 tb e args s ∧ Pre_1 tb e args s)
    (fun _ _ args s o t => lw_Q args s o t) := by
  intro p e ha hc hk s m args below hf hfit hheap happ hpre
  obtain ⟨b, xs, hP⟩ := lw_pre_spec hpre.2.2 hpre.2.1
  obtain ⟨k, o, h1, h2, h3, hQ⟩ := lw_walk l hl9 b xs p e ha hc hk s m args below hf ((Spec.applies_iff_loose hf).mp happ).1 hP trivial
  exact ⟨k, o, h1, h2, h3, hQ⟩
theorem lw_frame {s t : State} {o : Outcome} {args : Array Value} (h : Framed s o t [] 601024 7293000) :
    Framed s o t (fieldLocs frame_1_writes args s ++ arrayLocs frame_1_arrays args s ++ staticLocs frame_1_statics s) 601024 7293000 := h
theorem lw_limb (L : Cond) (hL : ∀ (args : Array Value) (s t : State), L.after args s (.returned (some (.int 1))) t = true) :
    ArmFor flags0 classFile x code maxLocals ret World_1 tables_1 room_1 Calls_1 rest_1 Pre_1
      (fun tb e a s o t => postC L tb e a s o t ∧ Framed s o t (fieldLocs frame_1_writes a s ++ arrayLocs frame_1_arrays a s ++ staticLocs frame_1_statics s) 601024 7293000) := by
  intro l hfl _ _ p e ha hc hk s m args below hf hfit hheap happ hpre
  have hl9 : l.stackTraces = false := by
    unfold Launch.stackTraces
    rw [hfl]
    decide
  obtain ⟨k, o, h1, h2, h3, rfl, hF⟩ := lw_comes l hl9 p e ha hc hk s m args below hf hfit hheap happ hpre
  exact ⟨k, _, h1, h2, h3, hL args s _, lw_frame hF⟩
theorem i_vc : Claimed_1_1 ∧ Claimed_1_2 := ⟨lw_limb limb_1_1 (fun args s t => by simp [limb_1_1, Cond.after, Cond.holds, Cond.value]), lw_limb limb_1_2 (fun args s t => Cond.after_iff.mpr (by
  first | (rw [show limb_1_2 = Cond.eq .result (.int 1) from rfl, Cond.eq_ints (x := 1) (y := 1) rfl rfl]; simp; done) | (simp [limb_1_2, Cond.value, Term.eval]; done)))⟩
