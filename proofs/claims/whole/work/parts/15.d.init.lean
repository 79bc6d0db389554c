set_option maxHeartbeats 4000000 in
set_option maxRecDepth 100000 in
theorem c_M_init (l : Launch) (dC : Nat → ClassId) (dI : Nat → Nat → Nat) (dA : Nat → ClassId) (z : Nat) (M : gM) (mo : Nat) (x : Int32) (hm : M mo = some (.inr (3, [.int 0, .int 0, .int 0, .int 0, .int 0, .null, .null, .null, .null, .null, .null, .null, .null, .null, .null, .null, .null]))) : gMv l dC dI dA z y_M_init b_M_init 2 (Option.none : Option FieldType) ⟨1, 12, 4000, 20⟩ [.ref mo, .int x] M (fun M1 => ∃ ad, mI dA M M1 mo ad (hsz x)) 12 4000 := by
  refine gOfW (by decide) (Nat.le_of_ble_eq_true rfl) ?_
  intro p e s m below meth c ls hF hr hlocks hnm hKA hB hl
  obtain ⟨hx, hb, hml, hown, hts⟩ := id hF
  have hK := hKA.1
  have hl : lv_has ls 2 [(0, .ref mo), (1, .int x)] := hl
  obtain ⟨M9, hM9⟩ : ∃ x, x = M := ⟨_, rfl⟩
  rw [← hM9] at hm hB
  have kp : ∀ a e, M a = some e → a ≠ mo → M9 a = some e := fun _ _ h _ => by rw [hM9]; exact h
  clear hM9
  have hJ : mJ dA M9 (fun _ => 0) 0 := ⟨fun i hi => absurd hi (by omega), fun i i9 hi => absurd hi (by omega)⟩
  refine lv_aload_n hx hb dM_init_0 rfl (lv_at hl 0 rfl) ?_
  refine W.objInit hx hb hown (hts _ k_340) (hts _ k_16) (hts _ k_17) rfl (by rw [hml]; exact hl.1) rfl dM_init_1 (Nat.le_of_ble_eq_true rfl) (Nat.le_of_ble_eq_true rfl) ?_
  refine W.eq (g2 := F0 m 4 ls []) rfl ?_
  refine lv_aload_n hx hb dM_init_4 rfl (lv_at hl 0 rfl) ?_
  refine lv_ldc (v := 86400) hx hb hown (hts _ k_341) dM_init_5 ?_
  refine gg_put (ty := .int) (v := .int 86400) hx hb hts in_M t_M t_M_ok n_M hown hK hB hm rfl 3 (by decide) k_345 rfl rfl (by decide +kernel) rfl rfl (Nat.le_of_ble_eq_true rfl) dM_init_7 (fun H locs hB => ?_)
  have hB : gB (dC, dI) gcl z (gU M9 mo (.inr (3, [.int 0, .int 0, .int 0, .int 86400, .int 0, .null, .null, .null, .null, .null, .null, .null, .null, .null, .null, .null, .null]))) s.heap H locs := hB
  have hJ := hJ.put hm (.inr (3, [.int 0, .int 0, .int 0, .int 86400, .int 0, .null, .null, .null, .null, .null, .null, .null, .null, .null, .null, .null, .null]))
  have kp : ∀ a e, M a = some e → a ≠ mo → gU M9 mo (.inr (3, [.int 0, .int 0, .int 0, .int 86400, .int 0, .null, .null, .null, .null, .null, .null, .null, .null, .null, .null, .null, .null])) a = some e := fun a e h1 h2 => (gU_n h2).trans (kp a e h1 h2)
  have hm := gU_s M9 mo (.inr (3, [.int 0, .int 0, .int 0, .int 86400, .int 0, .null, .null, .null, .null, .null, .null, .null, .null, .null, .null, .null, .null]))
  generalize gU M9 mo (.inr (3, [.int 0, .int 0, .int 0, .int 86400, .int 0, .null, .null, .null, .null, .null, .null, .null, .null, .null, .null, .null, .null])) = M9 at hB hm kp hJ
  refine lv_aload_n hx hb dM_init_10 rfl (lv_at hl 0 rfl) ?_
  refine lv_bipush (v := 100) hx hb dM_init_11 (by decide) ?_
  refine gg_newi (atype := .int) (N' := 100) (a0 := (100, .inl (fun _ => 0))) (cA := dA 2) hx hb hts k_394 rfl hK hB 2 rfl (by intro C h; cases h) rfl (by decide) (by decide) (Nat.le_of_ble_eq_true rfl) (Nat.le_of_ble_eq_true rfl) (Nat.le_of_ble_eq_true rfl) dM_init_13 (fun q1 H h9 hB => ?_)
  have hB : gB (dC, dI) gcl z (gU M9 q1 (aI dA (ml 0) (fun _ => 0))) s.heap H locs := hB
  have hm := (gU_n (e := aI dA (ml 0) (fun _ => 0)) (gNn hm h9)).trans hm
  have hJ := hJ.new h9
  have kp : ∀ a e, M a = some e → a ≠ mo → gU M9 q1 (aI dA (ml 0) (fun _ => 0)) a = some e := fun a e h1 h2 => (gU_n (gNn (kp a e h1 h2) h9)).trans (kp a e h1 h2)
  clear h9
  generalize gU M9 q1 (aI dA (ml 0) (fun _ => 0)) = M9 at hB hm kp hJ
  refine gg_putF (ty := (.array .int)) (v := .ref q1) hx hb hts in_M t_M t_M_ok n_M hown hK hB hm rfl 5 (by decide) k_347 rfl rfl hnm rfl (by decide +kernel) rfl rfl (Nat.le_of_ble_eq_true rfl) dM_init_15 (fun H locs hB => ?_)
  have hB : gB (dC, dI) gcl z (gU M9 mo (.inr (3, [.int 0, .int 0, .int 0, .int 86400, .int 0, .ref q1, .null, .null, .null, .null, .null, .null, .null, .null, .null, .null, .null]))) s.heap H locs := hB
  have hJ := hJ.put hm (.inr (3, [.int 0, .int 0, .int 0, .int 86400, .int 0, .ref q1, .null, .null, .null, .null, .null, .null, .null, .null, .null, .null, .null]))
  have kp : ∀ a e, M a = some e → a ≠ mo → gU M9 mo (.inr (3, [.int 0, .int 0, .int 0, .int 86400, .int 0, .ref q1, .null, .null, .null, .null, .null, .null, .null, .null, .null, .null, .null])) a = some e := fun a e h1 h2 => (gU_n h2).trans (kp a e h1 h2)
  have hm := gU_s M9 mo (.inr (3, [.int 0, .int 0, .int 0, .int 86400, .int 0, .ref q1, .null, .null, .null, .null, .null, .null, .null, .null, .null, .null, .null]))
  generalize gU M9 mo (.inr (3, [.int 0, .int 0, .int 0, .int 86400, .int 0, .ref q1, .null, .null, .null, .null, .null, .null, .null, .null, .null, .null, .null])) = M9 at hB hm kp hJ
  refine lv_aload_n hx hb dM_init_18 rfl (lv_at hl 0 rfl) ?_
  refine lv_bipush (v := 100) hx hb dM_init_19 (by decide) ?_
  refine gg_newi (atype := .int) (N' := 100) (a0 := (100, .inl (fun _ => 0))) (cA := dA 2) hx hb hts k_394 rfl hK hB 2 rfl (by intro C h; cases h) rfl (by decide) (by decide) (Nat.le_of_ble_eq_true rfl) (Nat.le_of_ble_eq_true rfl) (Nat.le_of_ble_eq_true rfl) dM_init_21 (fun q2 H h9 hB => ?_)
  have hB : gB (dC, dI) gcl z (gU M9 q2 (aI dA (ml 1) (fun _ => 0))) s.heap H locs := hB
  have hm := (gU_n (e := aI dA (ml 1) (fun _ => 0)) (gNn hm h9)).trans hm
  have hJ := hJ.new h9
  have kp : ∀ a e, M a = some e → a ≠ mo → gU M9 q2 (aI dA (ml 1) (fun _ => 0)) a = some e := fun a e h1 h2 => (gU_n (gNn (kp a e h1 h2) h9)).trans (kp a e h1 h2)
  clear h9
  generalize gU M9 q2 (aI dA (ml 1) (fun _ => 0)) = M9 at hB hm kp hJ
  refine gg_putF (ty := (.array .int)) (v := .ref q2) hx hb hts in_M t_M t_M_ok n_M hown hK hB hm rfl 6 (by decide) k_348 rfl rfl hnm rfl (by decide +kernel) rfl rfl (Nat.le_of_ble_eq_true rfl) dM_init_23 (fun H locs hB => ?_)
  have hB : gB (dC, dI) gcl z (gU M9 mo (.inr (3, [.int 0, .int 0, .int 0, .int 86400, .int 0, .ref q1, .ref q2, .null, .null, .null, .null, .null, .null, .null, .null, .null, .null]))) s.heap H locs := hB
  have hJ := hJ.put hm (.inr (3, [.int 0, .int 0, .int 0, .int 86400, .int 0, .ref q1, .ref q2, .null, .null, .null, .null, .null, .null, .null, .null, .null, .null]))
  have kp : ∀ a e, M a = some e → a ≠ mo → gU M9 mo (.inr (3, [.int 0, .int 0, .int 0, .int 86400, .int 0, .ref q1, .ref q2, .null, .null, .null, .null, .null, .null, .null, .null, .null, .null])) a = some e := fun a e h1 h2 => (gU_n h2).trans (kp a e h1 h2)
  have hm := gU_s M9 mo (.inr (3, [.int 0, .int 0, .int 0, .int 86400, .int 0, .ref q1, .ref q2, .null, .null, .null, .null, .null, .null, .null, .null, .null, .null]))
  generalize gU M9 mo (.inr (3, [.int 0, .int 0, .int 0, .int 86400, .int 0, .ref q1, .ref q2, .null, .null, .null, .null, .null, .null, .null, .null, .null, .null])) = M9 at hB hm kp hJ
  refine lv_aload_n hx hb dM_init_26 rfl (lv_at hl 0 rfl) ?_
  refine lv_bipush (v := 100) hx hb dM_init_27 (by decide) ?_
  refine gg_newi (atype := .int) (N' := 100) (a0 := (100, .inl (fun _ => 0))) (cA := dA 2) hx hb hts k_394 rfl hK hB 2 rfl (by intro C h; cases h) rfl (by decide) (by decide) (Nat.le_of_ble_eq_true rfl) (Nat.le_of_ble_eq_true rfl) (Nat.le_of_ble_eq_true rfl) dM_init_29 (fun q3 H h9 hB => ?_)
  have hB : gB (dC, dI) gcl z (gU M9 q3 (aI dA (ml 2) (fun _ => 0))) s.heap H locs := hB
  have hm := (gU_n (e := aI dA (ml 2) (fun _ => 0)) (gNn hm h9)).trans hm
  have hJ := hJ.new h9
  have kp : ∀ a e, M a = some e → a ≠ mo → gU M9 q3 (aI dA (ml 2) (fun _ => 0)) a = some e := fun a e h1 h2 => (gU_n (gNn (kp a e h1 h2) h9)).trans (kp a e h1 h2)
  clear h9
  generalize gU M9 q3 (aI dA (ml 2) (fun _ => 0)) = M9 at hB hm kp hJ
  refine gg_putF (ty := (.array .int)) (v := .ref q3) hx hb hts in_M t_M t_M_ok n_M hown hK hB hm rfl 7 (by decide) k_349 rfl rfl hnm rfl (by decide +kernel) rfl rfl (Nat.le_of_ble_eq_true rfl) dM_init_31 (fun H locs hB => ?_)
  have hB : gB (dC, dI) gcl z (gU M9 mo (.inr (3, [.int 0, .int 0, .int 0, .int 86400, .int 0, .ref q1, .ref q2, .ref q3, .null, .null, .null, .null, .null, .null, .null, .null, .null]))) s.heap H locs := hB
  have hJ := hJ.put hm (.inr (3, [.int 0, .int 0, .int 0, .int 86400, .int 0, .ref q1, .ref q2, .ref q3, .null, .null, .null, .null, .null, .null, .null, .null, .null]))
  have kp : ∀ a e, M a = some e → a ≠ mo → gU M9 mo (.inr (3, [.int 0, .int 0, .int 0, .int 86400, .int 0, .ref q1, .ref q2, .ref q3, .null, .null, .null, .null, .null, .null, .null, .null, .null])) a = some e := fun a e h1 h2 => (gU_n h2).trans (kp a e h1 h2)
  have hm := gU_s M9 mo (.inr (3, [.int 0, .int 0, .int 0, .int 86400, .int 0, .ref q1, .ref q2, .ref q3, .null, .null, .null, .null, .null, .null, .null, .null, .null]))
  generalize gU M9 mo (.inr (3, [.int 0, .int 0, .int 0, .int 86400, .int 0, .ref q1, .ref q2, .ref q3, .null, .null, .null, .null, .null, .null, .null, .null, .null])) = M9 at hB hm kp hJ
  refine lv_aload_n hx hb dM_init_34 rfl (lv_at hl 0 rfl) ?_
  refine lv_bipush (v := 100) hx hb dM_init_35 (by decide) ?_
  refine gg_newi (atype := .int) (N' := 100) (a0 := (100, .inl (fun _ => 0))) (cA := dA 2) hx hb hts k_394 rfl hK hB 2 rfl (by intro C h; cases h) rfl (by decide) (by decide) (Nat.le_of_ble_eq_true rfl) (Nat.le_of_ble_eq_true rfl) (Nat.le_of_ble_eq_true rfl) dM_init_37 (fun q4 H h9 hB => ?_)
  have hB : gB (dC, dI) gcl z (gU M9 q4 (aI dA (ml 3) (fun _ => 0))) s.heap H locs := hB
  have hm := (gU_n (e := aI dA (ml 3) (fun _ => 0)) (gNn hm h9)).trans hm
  have hJ := hJ.new h9
  have kp : ∀ a e, M a = some e → a ≠ mo → gU M9 q4 (aI dA (ml 3) (fun _ => 0)) a = some e := fun a e h1 h2 => (gU_n (gNn (kp a e h1 h2) h9)).trans (kp a e h1 h2)
  clear h9
  generalize gU M9 q4 (aI dA (ml 3) (fun _ => 0)) = M9 at hB hm kp hJ
  refine gg_putF (ty := (.array .int)) (v := .ref q4) hx hb hts in_M t_M t_M_ok n_M hown hK hB hm rfl 8 (by decide) k_350 rfl rfl hnm rfl (by decide +kernel) rfl rfl (Nat.le_of_ble_eq_true rfl) dM_init_39 (fun H locs hB => ?_)
  have hB : gB (dC, dI) gcl z (gU M9 mo (.inr (3, [.int 0, .int 0, .int 0, .int 86400, .int 0, .ref q1, .ref q2, .ref q3, .ref q4, .null, .null, .null, .null, .null, .null, .null, .null]))) s.heap H locs := hB
  have hJ := hJ.put hm (.inr (3, [.int 0, .int 0, .int 0, .int 86400, .int 0, .ref q1, .ref q2, .ref q3, .ref q4, .null, .null, .null, .null, .null, .null, .null, .null]))
  have kp : ∀ a e, M a = some e → a ≠ mo → gU M9 mo (.inr (3, [.int 0, .int 0, .int 0, .int 86400, .int 0, .ref q1, .ref q2, .ref q3, .ref q4, .null, .null, .null, .null, .null, .null, .null, .null])) a = some e := fun a e h1 h2 => (gU_n h2).trans (kp a e h1 h2)
  have hm := gU_s M9 mo (.inr (3, [.int 0, .int 0, .int 0, .int 86400, .int 0, .ref q1, .ref q2, .ref q3, .ref q4, .null, .null, .null, .null, .null, .null, .null, .null]))
  generalize gU M9 mo (.inr (3, [.int 0, .int 0, .int 0, .int 86400, .int 0, .ref q1, .ref q2, .ref q3, .ref q4, .null, .null, .null, .null, .null, .null, .null, .null])) = M9 at hB hm kp hJ
  refine lv_aload_n hx hb dM_init_42 rfl (lv_at hl 0 rfl) ?_
  refine lv_bipush (v := 100) hx hb dM_init_43 (by decide) ?_
  refine gg_newi (atype := .int) (N' := 100) (a0 := (100, .inl (fun _ => 0))) (cA := dA 2) hx hb hts k_394 rfl hK hB 2 rfl (by intro C h; cases h) rfl (by decide) (by decide) (Nat.le_of_ble_eq_true rfl) (Nat.le_of_ble_eq_true rfl) (Nat.le_of_ble_eq_true rfl) dM_init_45 (fun q5 H h9 hB => ?_)
  have hB : gB (dC, dI) gcl z (gU M9 q5 (aI dA (ml 4) (fun _ => 0))) s.heap H locs := hB
  have hm := (gU_n (e := aI dA (ml 4) (fun _ => 0)) (gNn hm h9)).trans hm
  have hJ := hJ.new h9
  have kp : ∀ a e, M a = some e → a ≠ mo → gU M9 q5 (aI dA (ml 4) (fun _ => 0)) a = some e := fun a e h1 h2 => (gU_n (gNn (kp a e h1 h2) h9)).trans (kp a e h1 h2)
  clear h9
  generalize gU M9 q5 (aI dA (ml 4) (fun _ => 0)) = M9 at hB hm kp hJ
  refine gg_putF (ty := (.array .int)) (v := .ref q5) hx hb hts in_M t_M t_M_ok n_M hown hK hB hm rfl 9 (by decide) k_351 rfl rfl hnm rfl (by decide +kernel) rfl rfl (Nat.le_of_ble_eq_true rfl) dM_init_47 (fun H locs hB => ?_)
  have hB : gB (dC, dI) gcl z (gU M9 mo (.inr (3, [.int 0, .int 0, .int 0, .int 86400, .int 0, .ref q1, .ref q2, .ref q3, .ref q4, .ref q5, .null, .null, .null, .null, .null, .null, .null]))) s.heap H locs := hB
  have hJ := hJ.put hm (.inr (3, [.int 0, .int 0, .int 0, .int 86400, .int 0, .ref q1, .ref q2, .ref q3, .ref q4, .ref q5, .null, .null, .null, .null, .null, .null, .null]))
  have kp : ∀ a e, M a = some e → a ≠ mo → gU M9 mo (.inr (3, [.int 0, .int 0, .int 0, .int 86400, .int 0, .ref q1, .ref q2, .ref q3, .ref q4, .ref q5, .null, .null, .null, .null, .null, .null, .null])) a = some e := fun a e h1 h2 => (gU_n h2).trans (kp a e h1 h2)
  have hm := gU_s M9 mo (.inr (3, [.int 0, .int 0, .int 0, .int 86400, .int 0, .ref q1, .ref q2, .ref q3, .ref q4, .ref q5, .null, .null, .null, .null, .null, .null, .null]))
  generalize gU M9 mo (.inr (3, [.int 0, .int 0, .int 0, .int 86400, .int 0, .ref q1, .ref q2, .ref q3, .ref q4, .ref q5, .null, .null, .null, .null, .null, .null, .null])) = M9 at hB hm kp hJ
  refine lv_aload_n hx hb dM_init_50 rfl (lv_at hl 0 rfl) ?_
  refine lv_bipush (v := 100) hx hb dM_init_51 (by decide) ?_
  refine gg_newi (atype := .int) (N' := 100) (a0 := (100, .inl (fun _ => 0))) (cA := dA 2) hx hb hts k_394 rfl hK hB 2 rfl (by intro C h; cases h) rfl (by decide) (by decide) (Nat.le_of_ble_eq_true rfl) (Nat.le_of_ble_eq_true rfl) (Nat.le_of_ble_eq_true rfl) dM_init_53 (fun q6 H h9 hB => ?_)
  have hB : gB (dC, dI) gcl z (gU M9 q6 (aI dA (ml 5) (fun _ => 0))) s.heap H locs := hB
  have hm := (gU_n (e := aI dA (ml 5) (fun _ => 0)) (gNn hm h9)).trans hm
  have hJ := hJ.new h9
  have kp : ∀ a e, M a = some e → a ≠ mo → gU M9 q6 (aI dA (ml 5) (fun _ => 0)) a = some e := fun a e h1 h2 => (gU_n (gNn (kp a e h1 h2) h9)).trans (kp a e h1 h2)
  clear h9
  generalize gU M9 q6 (aI dA (ml 5) (fun _ => 0)) = M9 at hB hm kp hJ
  refine gg_putF (ty := (.array .int)) (v := .ref q6) hx hb hts in_M t_M t_M_ok n_M hown hK hB hm rfl 10 (by decide) k_352 rfl rfl hnm rfl (by decide +kernel) rfl rfl (Nat.le_of_ble_eq_true rfl) dM_init_55 (fun H locs hB => ?_)
  have hB : gB (dC, dI) gcl z (gU M9 mo (.inr (3, [.int 0, .int 0, .int 0, .int 86400, .int 0, .ref q1, .ref q2, .ref q3, .ref q4, .ref q5, .ref q6, .null, .null, .null, .null, .null, .null]))) s.heap H locs := hB
  have hJ := hJ.put hm (.inr (3, [.int 0, .int 0, .int 0, .int 86400, .int 0, .ref q1, .ref q2, .ref q3, .ref q4, .ref q5, .ref q6, .null, .null, .null, .null, .null, .null]))
  have kp : ∀ a e, M a = some e → a ≠ mo → gU M9 mo (.inr (3, [.int 0, .int 0, .int 0, .int 86400, .int 0, .ref q1, .ref q2, .ref q3, .ref q4, .ref q5, .ref q6, .null, .null, .null, .null, .null, .null])) a = some e := fun a e h1 h2 => (gU_n h2).trans (kp a e h1 h2)
  have hm := gU_s M9 mo (.inr (3, [.int 0, .int 0, .int 0, .int 86400, .int 0, .ref q1, .ref q2, .ref q3, .ref q4, .ref q5, .ref q6, .null, .null, .null, .null, .null, .null]))
  generalize gU M9 mo (.inr (3, [.int 0, .int 0, .int 0, .int 86400, .int 0, .ref q1, .ref q2, .ref q3, .ref q4, .ref q5, .ref q6, .null, .null, .null, .null, .null, .null])) = M9 at hB hm kp hJ
  refine lv_aload_n hx hb dM_init_58 rfl (lv_at hl 0 rfl) ?_
  refine lv_bipush (v := 100) hx hb dM_init_59 (by decide) ?_
  refine gg_newi (atype := .int) (N' := 100) (a0 := (100, .inl (fun _ => 0))) (cA := dA 2) hx hb hts k_394 rfl hK hB 2 rfl (by intro C h; cases h) rfl (by decide) (by decide) (Nat.le_of_ble_eq_true rfl) (Nat.le_of_ble_eq_true rfl) (Nat.le_of_ble_eq_true rfl) dM_init_61 (fun q7 H h9 hB => ?_)
  have hB : gB (dC, dI) gcl z (gU M9 q7 (aI dA (ml 6) (fun _ => 0))) s.heap H locs := hB
  have hm := (gU_n (e := aI dA (ml 6) (fun _ => 0)) (gNn hm h9)).trans hm
  have hJ := hJ.new h9
  have kp : ∀ a e, M a = some e → a ≠ mo → gU M9 q7 (aI dA (ml 6) (fun _ => 0)) a = some e := fun a e h1 h2 => (gU_n (gNn (kp a e h1 h2) h9)).trans (kp a e h1 h2)
  clear h9
  generalize gU M9 q7 (aI dA (ml 6) (fun _ => 0)) = M9 at hB hm kp hJ
  refine gg_putF (ty := (.array .int)) (v := .ref q7) hx hb hts in_M t_M t_M_ok n_M hown hK hB hm rfl 11 (by decide) k_353 rfl rfl hnm rfl (by decide +kernel) rfl rfl (Nat.le_of_ble_eq_true rfl) dM_init_63 (fun H locs hB => ?_)
  have hB : gB (dC, dI) gcl z (gU M9 mo (.inr (3, [.int 0, .int 0, .int 0, .int 86400, .int 0, .ref q1, .ref q2, .ref q3, .ref q4, .ref q5, .ref q6, .ref q7, .null, .null, .null, .null, .null]))) s.heap H locs := hB
  have hJ := hJ.put hm (.inr (3, [.int 0, .int 0, .int 0, .int 86400, .int 0, .ref q1, .ref q2, .ref q3, .ref q4, .ref q5, .ref q6, .ref q7, .null, .null, .null, .null, .null]))
  have kp : ∀ a e, M a = some e → a ≠ mo → gU M9 mo (.inr (3, [.int 0, .int 0, .int 0, .int 86400, .int 0, .ref q1, .ref q2, .ref q3, .ref q4, .ref q5, .ref q6, .ref q7, .null, .null, .null, .null, .null])) a = some e := fun a e h1 h2 => (gU_n h2).trans (kp a e h1 h2)
  have hm := gU_s M9 mo (.inr (3, [.int 0, .int 0, .int 0, .int 86400, .int 0, .ref q1, .ref q2, .ref q3, .ref q4, .ref q5, .ref q6, .ref q7, .null, .null, .null, .null, .null]))
  generalize gU M9 mo (.inr (3, [.int 0, .int 0, .int 0, .int 86400, .int 0, .ref q1, .ref q2, .ref q3, .ref q4, .ref q5, .ref q6, .ref q7, .null, .null, .null, .null, .null])) = M9 at hB hm kp hJ
  refine lv_aload_n hx hb dM_init_66 rfl (lv_at hl 0 rfl) ?_
  refine lv_bipush (v := 100) hx hb dM_init_67 (by decide) ?_
  refine gg_newi (atype := .int) (N' := 100) (a0 := (100, .inl (fun _ => 0))) (cA := dA 2) hx hb hts k_394 rfl hK hB 2 rfl (by intro C h; cases h) rfl (by decide) (by decide) (Nat.le_of_ble_eq_true rfl) (Nat.le_of_ble_eq_true rfl) (Nat.le_of_ble_eq_true rfl) dM_init_69 (fun q8 H h9 hB => ?_)
  have hB : gB (dC, dI) gcl z (gU M9 q8 (aI dA (ml 7) (fun _ => 0))) s.heap H locs := hB
  have hm := (gU_n (e := aI dA (ml 7) (fun _ => 0)) (gNn hm h9)).trans hm
  have hJ := hJ.new h9
  have kp : ∀ a e, M a = some e → a ≠ mo → gU M9 q8 (aI dA (ml 7) (fun _ => 0)) a = some e := fun a e h1 h2 => (gU_n (gNn (kp a e h1 h2) h9)).trans (kp a e h1 h2)
  clear h9
  generalize gU M9 q8 (aI dA (ml 7) (fun _ => 0)) = M9 at hB hm kp hJ
  refine gg_putF (ty := (.array .int)) (v := .ref q8) hx hb hts in_M t_M t_M_ok n_M hown hK hB hm rfl 12 (by decide) k_354 rfl rfl hnm rfl (by decide +kernel) rfl rfl (Nat.le_of_ble_eq_true rfl) dM_init_71 (fun H locs hB => ?_)
  have hB : gB (dC, dI) gcl z (gU M9 mo (.inr (3, [.int 0, .int 0, .int 0, .int 86400, .int 0, .ref q1, .ref q2, .ref q3, .ref q4, .ref q5, .ref q6, .ref q7, .ref q8, .null, .null, .null, .null]))) s.heap H locs := hB
  have hJ := hJ.put hm (.inr (3, [.int 0, .int 0, .int 0, .int 86400, .int 0, .ref q1, .ref q2, .ref q3, .ref q4, .ref q5, .ref q6, .ref q7, .ref q8, .null, .null, .null, .null]))
  have kp : ∀ a e, M a = some e → a ≠ mo → gU M9 mo (.inr (3, [.int 0, .int 0, .int 0, .int 86400, .int 0, .ref q1, .ref q2, .ref q3, .ref q4, .ref q5, .ref q6, .ref q7, .ref q8, .null, .null, .null, .null])) a = some e := fun a e h1 h2 => (gU_n h2).trans (kp a e h1 h2)
  have hm := gU_s M9 mo (.inr (3, [.int 0, .int 0, .int 0, .int 86400, .int 0, .ref q1, .ref q2, .ref q3, .ref q4, .ref q5, .ref q6, .ref q7, .ref q8, .null, .null, .null, .null]))
  generalize gU M9 mo (.inr (3, [.int 0, .int 0, .int 0, .int 86400, .int 0, .ref q1, .ref q2, .ref q3, .ref q4, .ref q5, .ref q6, .ref q7, .ref q8, .null, .null, .null, .null])) = M9 at hB hm kp hJ
  refine lv_aload_n hx hb dM_init_74 rfl (lv_at hl 0 rfl) ?_
  refine lv_sipush (v := 800) hx hb dM_init_75 (by decide) ?_
  refine gg_newi (atype := .int) (N' := 800) (a0 := (800, .inl (fun _ => 0))) (cA := dA 2) hx hb hts k_394 rfl hK hB 2 rfl (by intro C h; cases h) rfl (by decide) (by decide) (Nat.le_of_ble_eq_true rfl) (Nat.le_of_ble_eq_true rfl) (Nat.le_of_ble_eq_true rfl) dM_init_78 (fun q9 H h9 hB => ?_)
  have hB : gB (dC, dI) gcl z (gU M9 q9 (aI dA (ml 8) (fun _ => 0))) s.heap H locs := hB
  have hm := (gU_n (e := aI dA (ml 8) (fun _ => 0)) (gNn hm h9)).trans hm
  have hJ := hJ.new h9
  have kp : ∀ a e, M a = some e → a ≠ mo → gU M9 q9 (aI dA (ml 8) (fun _ => 0)) a = some e := fun a e h1 h2 => (gU_n (gNn (kp a e h1 h2) h9)).trans (kp a e h1 h2)
  clear h9
  generalize gU M9 q9 (aI dA (ml 8) (fun _ => 0)) = M9 at hB hm kp hJ
  refine gg_putF (ty := (.array .int)) (v := .ref q9) hx hb hts in_M t_M t_M_ok n_M hown hK hB hm rfl 13 (by decide) k_355 rfl rfl hnm rfl (by decide +kernel) rfl rfl (Nat.le_of_ble_eq_true rfl) dM_init_80 (fun H locs hB => ?_)
  have hB : gB (dC, dI) gcl z (gU M9 mo (.inr (3, [.int 0, .int 0, .int 0, .int 86400, .int 0, .ref q1, .ref q2, .ref q3, .ref q4, .ref q5, .ref q6, .ref q7, .ref q8, .ref q9, .null, .null, .null]))) s.heap H locs := hB
  have hJ := hJ.put hm (.inr (3, [.int 0, .int 0, .int 0, .int 86400, .int 0, .ref q1, .ref q2, .ref q3, .ref q4, .ref q5, .ref q6, .ref q7, .ref q8, .ref q9, .null, .null, .null]))
  have kp : ∀ a e, M a = some e → a ≠ mo → gU M9 mo (.inr (3, [.int 0, .int 0, .int 0, .int 86400, .int 0, .ref q1, .ref q2, .ref q3, .ref q4, .ref q5, .ref q6, .ref q7, .ref q8, .ref q9, .null, .null, .null])) a = some e := fun a e h1 h2 => (gU_n h2).trans (kp a e h1 h2)
  have hm := gU_s M9 mo (.inr (3, [.int 0, .int 0, .int 0, .int 86400, .int 0, .ref q1, .ref q2, .ref q3, .ref q4, .ref q5, .ref q6, .ref q7, .ref q8, .ref q9, .null, .null, .null]))
  generalize gU M9 mo (.inr (3, [.int 0, .int 0, .int 0, .int 86400, .int 0, .ref q1, .ref q2, .ref q3, .ref q4, .ref q5, .ref q6, .ref q7, .ref q8, .ref q9, .null, .null, .null])) = M9 at hB hm kp hJ
  refine lv_aload_n hx hb dM_init_83 rfl (lv_at hl 0 rfl) ?_
  refine lv_sipush (v := 800) hx hb dM_init_84 (by decide) ?_
  refine gg_newi (atype := .int) (N' := 800) (a0 := (800, .inl (fun _ => 0))) (cA := dA 2) hx hb hts k_394 rfl hK hB 2 rfl (by intro C h; cases h) rfl (by decide) (by decide) (Nat.le_of_ble_eq_true rfl) (Nat.le_of_ble_eq_true rfl) (Nat.le_of_ble_eq_true rfl) dM_init_87 (fun q10 H h9 hB => ?_)
  have hB : gB (dC, dI) gcl z (gU M9 q10 (aI dA (ml 9) (fun _ => 0))) s.heap H locs := hB
  have hm := (gU_n (e := aI dA (ml 9) (fun _ => 0)) (gNn hm h9)).trans hm
  have hJ := hJ.new h9
  have kp : ∀ a e, M a = some e → a ≠ mo → gU M9 q10 (aI dA (ml 9) (fun _ => 0)) a = some e := fun a e h1 h2 => (gU_n (gNn (kp a e h1 h2) h9)).trans (kp a e h1 h2)
  clear h9
  generalize gU M9 q10 (aI dA (ml 9) (fun _ => 0)) = M9 at hB hm kp hJ
  refine gg_putF (ty := (.array .int)) (v := .ref q10) hx hb hts in_M t_M t_M_ok n_M hown hK hB hm rfl 14 (by decide) k_356 rfl rfl hnm rfl (by decide +kernel) rfl rfl (Nat.le_of_ble_eq_true rfl) dM_init_89 (fun H locs hB => ?_)
  have hB : gB (dC, dI) gcl z (gU M9 mo (.inr (3, [.int 0, .int 0, .int 0, .int 86400, .int 0, .ref q1, .ref q2, .ref q3, .ref q4, .ref q5, .ref q6, .ref q7, .ref q8, .ref q9, .ref q10, .null, .null]))) s.heap H locs := hB
  have hJ := hJ.put hm (.inr (3, [.int 0, .int 0, .int 0, .int 86400, .int 0, .ref q1, .ref q2, .ref q3, .ref q4, .ref q5, .ref q6, .ref q7, .ref q8, .ref q9, .ref q10, .null, .null]))
  have kp : ∀ a e, M a = some e → a ≠ mo → gU M9 mo (.inr (3, [.int 0, .int 0, .int 0, .int 86400, .int 0, .ref q1, .ref q2, .ref q3, .ref q4, .ref q5, .ref q6, .ref q7, .ref q8, .ref q9, .ref q10, .null, .null])) a = some e := fun a e h1 h2 => (gU_n h2).trans (kp a e h1 h2)
  have hm := gU_s M9 mo (.inr (3, [.int 0, .int 0, .int 0, .int 86400, .int 0, .ref q1, .ref q2, .ref q3, .ref q4, .ref q5, .ref q6, .ref q7, .ref q8, .ref q9, .ref q10, .null, .null]))
  generalize gU M9 mo (.inr (3, [.int 0, .int 0, .int 0, .int 86400, .int 0, .ref q1, .ref q2, .ref q3, .ref q4, .ref q5, .ref q6, .ref q7, .ref q8, .ref q9, .ref q10, .null, .null])) = M9 at hB hm kp hJ
  refine lv_aload_n hx hb dM_init_92 rfl (lv_at hl 0 rfl) ?_
  refine lv_sipush (v := 800) hx hb dM_init_93 (by decide) ?_
  refine gg_newi (atype := .int) (N' := 800) (a0 := (800, .inl (fun _ => 0))) (cA := dA 2) hx hb hts k_394 rfl hK hB 2 rfl (by intro C h; cases h) rfl (by decide) (by decide) (Nat.le_of_ble_eq_true rfl) (Nat.le_of_ble_eq_true rfl) (Nat.le_of_ble_eq_true rfl) dM_init_96 (fun q11 H h9 hB => ?_)
  have hB : gB (dC, dI) gcl z (gU M9 q11 (aI dA (ml 10) (fun _ => 0))) s.heap H locs := hB
  have hm := (gU_n (e := aI dA (ml 10) (fun _ => 0)) (gNn hm h9)).trans hm
  have hJ := hJ.new h9
  have kp : ∀ a e, M a = some e → a ≠ mo → gU M9 q11 (aI dA (ml 10) (fun _ => 0)) a = some e := fun a e h1 h2 => (gU_n (gNn (kp a e h1 h2) h9)).trans (kp a e h1 h2)
  clear h9
  generalize gU M9 q11 (aI dA (ml 10) (fun _ => 0)) = M9 at hB hm kp hJ
  refine gg_putF (ty := (.array .int)) (v := .ref q11) hx hb hts in_M t_M t_M_ok n_M hown hK hB hm rfl 15 (by decide) k_357 rfl rfl hnm rfl (by decide +kernel) rfl rfl (Nat.le_of_ble_eq_true rfl) dM_init_98 (fun H locs hB => ?_)
  have hB : gB (dC, dI) gcl z (gU M9 mo (.inr (3, [.int 0, .int 0, .int 0, .int 86400, .int 0, .ref q1, .ref q2, .ref q3, .ref q4, .ref q5, .ref q6, .ref q7, .ref q8, .ref q9, .ref q10, .ref q11, .null]))) s.heap H locs := hB
  have hJ := hJ.put hm (.inr (3, [.int 0, .int 0, .int 0, .int 86400, .int 0, .ref q1, .ref q2, .ref q3, .ref q4, .ref q5, .ref q6, .ref q7, .ref q8, .ref q9, .ref q10, .ref q11, .null]))
  have kp : ∀ a e, M a = some e → a ≠ mo → gU M9 mo (.inr (3, [.int 0, .int 0, .int 0, .int 86400, .int 0, .ref q1, .ref q2, .ref q3, .ref q4, .ref q5, .ref q6, .ref q7, .ref q8, .ref q9, .ref q10, .ref q11, .null])) a = some e := fun a e h1 h2 => (gU_n h2).trans (kp a e h1 h2)
  have hm := gU_s M9 mo (.inr (3, [.int 0, .int 0, .int 0, .int 86400, .int 0, .ref q1, .ref q2, .ref q3, .ref q4, .ref q5, .ref q6, .ref q7, .ref q8, .ref q9, .ref q10, .ref q11, .null]))
  generalize gU M9 mo (.inr (3, [.int 0, .int 0, .int 0, .int 86400, .int 0, .ref q1, .ref q2, .ref q3, .ref q4, .ref q5, .ref q6, .ref q7, .ref q8, .ref q9, .ref q10, .ref q11, .null])) = M9 at hB hm kp hJ
  refine lv_aload_n hx hb dM_init_101 rfl (lv_at hl 0 rfl) ?_
  refine lv_sipush (v := 800) hx hb dM_init_102 (by decide) ?_
  refine gg_newi (atype := .int) (N' := 800) (a0 := (800, .inl (fun _ => 0))) (cA := dA 2) hx hb hts k_394 rfl hK hB 2 rfl (by intro C h; cases h) rfl (by decide) (by decide) (Nat.le_of_ble_eq_true rfl) (Nat.le_of_ble_eq_true rfl) (Nat.le_of_ble_eq_true rfl) dM_init_105 (fun q12 H h9 hB => ?_)
  have hB : gB (dC, dI) gcl z (gU M9 q12 (aI dA (ml 11) (fun _ => 0))) s.heap H locs := hB
  have hm := (gU_n (e := aI dA (ml 11) (fun _ => 0)) (gNn hm h9)).trans hm
  have hJ := hJ.new h9
  have kp : ∀ a e, M a = some e → a ≠ mo → gU M9 q12 (aI dA (ml 11) (fun _ => 0)) a = some e := fun a e h1 h2 => (gU_n (gNn (kp a e h1 h2) h9)).trans (kp a e h1 h2)
  clear h9
  generalize gU M9 q12 (aI dA (ml 11) (fun _ => 0)) = M9 at hB hm kp hJ
  refine gg_putF (ty := (.array .int)) (v := .ref q12) hx hb hts in_M t_M t_M_ok n_M hown hK hB hm rfl 16 (by decide) k_358 rfl rfl hnm rfl (by decide +kernel) rfl rfl (Nat.le_of_ble_eq_true rfl) dM_init_107 (fun H locs hB => ?_)
  have hB : gB (dC, dI) gcl z (gU M9 mo (.inr (3, [.int 0, .int 0, .int 0, .int 86400, .int 0, .ref q1, .ref q2, .ref q3, .ref q4, .ref q5, .ref q6, .ref q7, .ref q8, .ref q9, .ref q10, .ref q11, .ref q12]))) s.heap H locs := hB
  have hJ := hJ.put hm (.inr (3, [.int 0, .int 0, .int 0, .int 86400, .int 0, .ref q1, .ref q2, .ref q3, .ref q4, .ref q5, .ref q6, .ref q7, .ref q8, .ref q9, .ref q10, .ref q11, .ref q12]))
  have kp : ∀ a e, M a = some e → a ≠ mo → gU M9 mo (.inr (3, [.int 0, .int 0, .int 0, .int 86400, .int 0, .ref q1, .ref q2, .ref q3, .ref q4, .ref q5, .ref q6, .ref q7, .ref q8, .ref q9, .ref q10, .ref q11, .ref q12])) a = some e := fun a e h1 h2 => (gU_n h2).trans (kp a e h1 h2)
  have hm := gU_s M9 mo (.inr (3, [.int 0, .int 0, .int 0, .int 86400, .int 0, .ref q1, .ref q2, .ref q3, .ref q4, .ref q5, .ref q6, .ref q7, .ref q8, .ref q9, .ref q10, .ref q11, .ref q12]))
  generalize gU M9 mo (.inr (3, [.int 0, .int 0, .int 0, .int 86400, .int 0, .ref q1, .ref q2, .ref q3, .ref q4, .ref q5, .ref q6, .ref q7, .ref q8, .ref q9, .ref q10, .ref q11, .ref q12])) = M9 at hB hm kp hJ
  refine lv_aload_n hx hb dM_init_110 rfl (lv_at hl 0 rfl) ?_
  refine lv_iload_n hx hb dM_init_111 rfl (lv_at hl 1 rfl) ?_
  refine lv_iconst (v := 1) hx hb dM_init_112 (by decide) ?_
  refine lv_icmp_ge (tgt := 120) hx hb dM_init_113 (by decide) (fun c113 => ?_) (fun c113 => ?_)
  · refine lv_iload_n hx hb dM_init_120 rfl (lv_at hl 1 rfl) ?_
    refine lv_bipush (v := 30) hx hb dM_init_121 (by decide) ?_
    refine lv_icmp_le (tgt := 131) hx hb dM_init_123 (by decide) (fun c123 => ?_) (fun c123 => ?_)
    · refine lv_iload_n hx hb dM_init_131 rfl (lv_at hl 1 rfl) ?_
      refine gg_putF (ty := .int) (v := .int x) hx hb hts in_M t_M t_M_ok n_M hown hK hB hm rfl 2 (by decide) k_344 rfl rfl hnm rfl (by decide +kernel) rfl rfl (Nat.le_of_ble_eq_true rfl) dM_init_132 (fun H locs hB => ?_)
      have hB : gB (dC, dI) gcl z (gU M9 mo (.inr (3, [.int 0, .int 0, .int x, .int 86400, .int 0, .ref q1, .ref q2, .ref q3, .ref q4, .ref q5, .ref q6, .ref q7, .ref q8, .ref q9, .ref q10, .ref q11, .ref q12]))) s.heap H locs := hB
      have hJ := hJ.put hm (.inr (3, [.int 0, .int 0, .int x, .int 86400, .int 0, .ref q1, .ref q2, .ref q3, .ref q4, .ref q5, .ref q6, .ref q7, .ref q8, .ref q9, .ref q10, .ref q11, .ref q12]))
      have kp : ∀ a e, M a = some e → a ≠ mo → gU M9 mo (.inr (3, [.int 0, .int 0, .int x, .int 86400, .int 0, .ref q1, .ref q2, .ref q3, .ref q4, .ref q5, .ref q6, .ref q7, .ref q8, .ref q9, .ref q10, .ref q11, .ref q12])) a = some e := fun a e h1 h2 => (gU_n h2).trans (kp a e h1 h2)
      have hm := gU_s M9 mo (.inr (3, [.int 0, .int 0, .int x, .int 86400, .int 0, .ref q1, .ref q2, .ref q3, .ref q4, .ref q5, .ref q6, .ref q7, .ref q8, .ref q9, .ref q10, .ref q11, .ref q12]))
      generalize gU M9 mo (.inr (3, [.int 0, .int 0, .int x, .int 86400, .int 0, .ref q1, .ref q2, .ref q3, .ref q4, .ref q5, .ref q6, .ref q7, .ref q8, .ref q9, .ref q10, .ref q11, .ref q12])) = M9 at hB hm kp hJ
      exact gg_vret hx hb hr hlocks hKA hB dM_init_135 (Nat.le_of_ble_eq_true rfl) (Nat.le_of_ble_eq_true rfl) ⟨(va_up (va_up (va_up (va_up (va_up (va_up (va_up (va_up (va_up (va_up (va_up (va_up (fun _ => 0) 0 q1) 1 q2) 2 q3) 3 q4) 4 q5) 5 q6) 6 q7) 7 q8) 8 q9) 9 q10) 10 q11) 11 q12), kp, by rw [hm, hsz_x c113 c123]; simp only [oM, nI_0]; rfl, hJ.1, hJ.2⟩
    · refine lv_bipush (v := 30) hx hb dM_init_126 (by decide) ?_
      refine lv_goto (tgt := 132) hx hb dM_init_128 (by decide) ?_
      refine gg_putF (ty := .int) (v := .int 30) hx hb hts in_M t_M t_M_ok n_M hown hK hB hm rfl 2 (by decide) k_344 rfl rfl hnm rfl (by decide +kernel) rfl rfl (Nat.le_of_ble_eq_true rfl) dM_init_132 (fun H locs hB => ?_)
      have hB : gB (dC, dI) gcl z (gU M9 mo (.inr (3, [.int 0, .int 0, .int 30, .int 86400, .int 0, .ref q1, .ref q2, .ref q3, .ref q4, .ref q5, .ref q6, .ref q7, .ref q8, .ref q9, .ref q10, .ref q11, .ref q12]))) s.heap H locs := hB
      have hJ := hJ.put hm (.inr (3, [.int 0, .int 0, .int 30, .int 86400, .int 0, .ref q1, .ref q2, .ref q3, .ref q4, .ref q5, .ref q6, .ref q7, .ref q8, .ref q9, .ref q10, .ref q11, .ref q12]))
      have kp : ∀ a e, M a = some e → a ≠ mo → gU M9 mo (.inr (3, [.int 0, .int 0, .int 30, .int 86400, .int 0, .ref q1, .ref q2, .ref q3, .ref q4, .ref q5, .ref q6, .ref q7, .ref q8, .ref q9, .ref q10, .ref q11, .ref q12])) a = some e := fun a e h1 h2 => (gU_n h2).trans (kp a e h1 h2)
      have hm := gU_s M9 mo (.inr (3, [.int 0, .int 0, .int 30, .int 86400, .int 0, .ref q1, .ref q2, .ref q3, .ref q4, .ref q5, .ref q6, .ref q7, .ref q8, .ref q9, .ref q10, .ref q11, .ref q12]))
      generalize gU M9 mo (.inr (3, [.int 0, .int 0, .int 30, .int 86400, .int 0, .ref q1, .ref q2, .ref q3, .ref q4, .ref q5, .ref q6, .ref q7, .ref q8, .ref q9, .ref q10, .ref q11, .ref q12])) = M9 at hB hm kp hJ
      exact gg_vret hx hb hr hlocks hKA hB dM_init_135 (Nat.le_of_ble_eq_true rfl) (Nat.le_of_ble_eq_true rfl) ⟨(va_up (va_up (va_up (va_up (va_up (va_up (va_up (va_up (va_up (va_up (va_up (va_up (fun _ => 0) 0 q1) 1 q2) 2 q3) 3 q4) 4 q5) 5 q6) 6 q7) 7 q8) 8 q9) 9 q10) 10 q11) 11 q12), kp, by rw [hm, hsz_30 c123]; simp only [oM, nI_0]; rfl, hJ.1, hJ.2⟩
  · refine lv_iconst (v := 1) hx hb dM_init_116 (by decide) ?_
    refine lv_goto (tgt := 132) hx hb dM_init_117 (by decide) ?_
    refine gg_putF (ty := .int) (v := .int 1) hx hb hts in_M t_M t_M_ok n_M hown hK hB hm rfl 2 (by decide) k_344 rfl rfl hnm rfl (by decide +kernel) rfl rfl (Nat.le_of_ble_eq_true rfl) dM_init_132 (fun H locs hB => ?_)
    have hB : gB (dC, dI) gcl z (gU M9 mo (.inr (3, [.int 0, .int 0, .int 1, .int 86400, .int 0, .ref q1, .ref q2, .ref q3, .ref q4, .ref q5, .ref q6, .ref q7, .ref q8, .ref q9, .ref q10, .ref q11, .ref q12]))) s.heap H locs := hB
    have hJ := hJ.put hm (.inr (3, [.int 0, .int 0, .int 1, .int 86400, .int 0, .ref q1, .ref q2, .ref q3, .ref q4, .ref q5, .ref q6, .ref q7, .ref q8, .ref q9, .ref q10, .ref q11, .ref q12]))
    have kp : ∀ a e, M a = some e → a ≠ mo → gU M9 mo (.inr (3, [.int 0, .int 0, .int 1, .int 86400, .int 0, .ref q1, .ref q2, .ref q3, .ref q4, .ref q5, .ref q6, .ref q7, .ref q8, .ref q9, .ref q10, .ref q11, .ref q12])) a = some e := fun a e h1 h2 => (gU_n h2).trans (kp a e h1 h2)
    have hm := gU_s M9 mo (.inr (3, [.int 0, .int 0, .int 1, .int 86400, .int 0, .ref q1, .ref q2, .ref q3, .ref q4, .ref q5, .ref q6, .ref q7, .ref q8, .ref q9, .ref q10, .ref q11, .ref q12]))
    generalize gU M9 mo (.inr (3, [.int 0, .int 0, .int 1, .int 86400, .int 0, .ref q1, .ref q2, .ref q3, .ref q4, .ref q5, .ref q6, .ref q7, .ref q8, .ref q9, .ref q10, .ref q11, .ref q12])) = M9 at hB hm kp hJ
    exact gg_vret hx hb hr hlocks hKA hB dM_init_135 (Nat.le_of_ble_eq_true rfl) (Nat.le_of_ble_eq_true rfl) ⟨(va_up (va_up (va_up (va_up (va_up (va_up (va_up (va_up (va_up (va_up (va_up (va_up (fun _ => 0) 0 q1) 1 q2) 2 q3) 3 q4) 4 q5) 5 q6) 6 q7) 7 q8) 8 q9) 9 q10) 10 q11) 11 q12), kp, by rw [hm, hsz_1 c113]; simp only [oM, nI_0]; rfl, hJ.1, hJ.2⟩
