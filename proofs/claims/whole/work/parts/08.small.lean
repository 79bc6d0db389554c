/-! InterRequest's own small methods -/
set_option maxHeartbeats 4000000 in
set_option maxRecDepth 100000 in
theorem c_I_isHouse (l : Launch) (dC : Nat → ClassId) (dI : Nat → Nat → Nat) (dA : Nat → ClassId) (z : Nat) (M0 M : gM) (o ar : Nat) (ra sa : Nat → Nat) (la : Nat → Nat → Nat) (hs lt lw : Int32) (cn : Nat) (σ : Nat → Rq) (hR : cW dA M0 M o ar ra sa la hs lt lw cn σ) (x : Int32) : gMi l dC dI dA z y_I_isHouse b_I_isHouse 2 (Option.some FieldType.boolean) ⟨0, 0, 0, 0⟩ [.ref o, .int x] M (fun y M1 => M1 = M ∧ y = if bH hs x then 1 else 0) 0 0 := by
  refine gOfW (by decide) (Nat.le_of_ble_eq_true rfl) ?_
  intro p e s m below meth c ls hF hr hlocks hnm hKA hB hl
  obtain ⟨hx, hb, hml, hown, hts⟩ := id hF
  have hK := hKA.1
  have hl : lv_has ls 2 [(0, .ref o), (1, .int x)] := hl
  refine lv_iload_n hx hb dI_isHouse_0 rfl (lv_at hl 1 rfl) ?_
  refine lv_if_lt (tgt := 16) hx hb dI_isHouse_1 (by decide) (fun c1 => ?_) (fun c1 => ?_)
  · refine lv_iconst (v := 0) hx hb dI_isHouse_16 (by decide) ?_
    exact gg_zret hx hb hr hlocks hKA hB dI_isHouse_17 rfl (by decide) (by decide) ⟨rfl, by simp [bH, c1]⟩
  · refine lv_iload_n hx hb dI_isHouse_4 rfl (lv_at hl 1 rfl) ?_
    refine lv_aload_n hx hb dI_isHouse_5 rfl (lv_at hl 0 rfl) ?_
    refine gg_get (v := .int hs) hx hb hts in_I hown hK hB hR.top rfl 0 (by decide) k_27 rfl rfl dI_isHouse_6 ?_
    refine lv_icmp_ge (tgt := 16) hx hb dI_isHouse_9 (by decide) (fun c9 => ?_) (fun c9 => ?_)
    · refine lv_iconst (v := 0) hx hb dI_isHouse_16 (by decide) ?_
      exact gg_zret hx hb hr hlocks hKA hB dI_isHouse_17 rfl (by decide) (by decide) ⟨rfl, by simp [bH, c1, c9]⟩
    · refine lv_iconst (v := 1) hx hb dI_isHouse_12 (by decide) ?_
      refine lv_goto (tgt := 17) hx hb dI_isHouse_13 (by decide) ?_
      exact gg_zret hx hb hr hlocks hKA hB dI_isHouse_17 rfl (by decide) (by decide) ⟨rfl, by simp [bH, c1, c9]⟩
set_option maxHeartbeats 4000000 in
set_option maxRecDepth 100000 in
theorem c_I_isTime (l : Launch) (dC : Nat → ClassId) (dI : Nat → Nat → Nat) (dA : Nat → ClassId) (z : Nat) (M0 M : gM) (o ar : Nat) (ra sa : Nat → Nat) (la : Nat → Nat → Nat) (hs lt lw : Int32) (cn : Nat) (σ : Nat → Rq) (hR : cW dA M0 M o ar ra sa la hs lt lw cn σ) (x : Int32) : gMi l dC dI dA z y_I_isTime b_I_isTime 2 (Option.some FieldType.boolean) ⟨0, 0, 0, 0⟩ [.ref o, .int x] M (fun y M1 => M1 = M ∧ y = if bT lt x then 1 else 0) 0 0 := by
  refine gOfW (by decide) (Nat.le_of_ble_eq_true rfl) ?_
  intro p e s m below meth c ls hF hr hlocks hnm hKA hB hl
  obtain ⟨hx, hb, hml, hown, hts⟩ := id hF
  have hK := hKA.1
  have hl : lv_has ls 2 [(0, .ref o), (1, .int x)] := hl
  refine lv_iload_n hx hb dI_isTime_0 rfl (lv_at hl 1 rfl) ?_
  refine lv_aload_n hx hb dI_isTime_1 rfl (lv_at hl 0 rfl) ?_
  refine gg_get (v := .int lt) hx hb hts in_I hown hK hB hR.top rfl 3 (by decide) k_30 rfl rfl dI_isTime_2 ?_
  refine lv_icmp_lt (tgt := 18) hx hb dI_isTime_5 (by decide) (fun c5 => ?_) (fun c5 => ?_)
  · refine lv_iconst (v := 0) hx hb dI_isTime_18 (by decide) ?_
    exact gg_zret hx hb hr hlocks hKA hB dI_isTime_19 rfl (by decide) (by decide) ⟨rfl, by simp [bT, c5]⟩
  · refine lv_iload_n hx hb dI_isTime_8 rfl (lv_at hl 1 rfl) ?_
    refine lv_ldc (v := 1000000000) hx hb hown (hts _ k_148) dI_isTime_9 ?_
    refine lv_icmp_gt (tgt := 18) hx hb dI_isTime_11 (by decide) (fun c11 => ?_) (fun c11 => ?_)
    · refine lv_iconst (v := 0) hx hb dI_isTime_18 (by decide) ?_
      exact gg_zret hx hb hr hlocks hKA hB dI_isTime_19 rfl (by decide) (by decide) ⟨rfl, by simp [bT, c5, c11]⟩
    · refine lv_iconst (v := 1) hx hb dI_isTime_14 (by decide) ?_
      refine lv_goto (tgt := 19) hx hb dI_isTime_15 (by decide) ?_
      exact gg_zret hx hb hr hlocks hKA hB dI_isTime_19 rfl (by decide) (by decide) ⟨rfl, by simp [bT, c5, c11]⟩
set_option maxHeartbeats 4000000 in
set_option maxRecDepth 100000 in
theorem c_I_find (l : Launch) (dC : Nat → ClassId) (dI : Nat → Nat → Nat) (dA : Nat → ClassId) (z : Nat) (M0 M : gM) (o ar : Nat) (ra sa : Nat → Nat) (la : Nat → Nat → Nat) (hs lt lw : Int32) (cn : Nat) (σ : Nat → Rq) (hR : cW dA M0 M o ar ra sa la hs lt lw cn σ) (x : Int32) : gMq l dC dI dA z y_I_find b_I_find 2 (Option.some (FieldType.object "InterRequest$Request")) ⟨0, 0, 0, 0⟩ [.ref o, .int x] M (fun y M1 => M1 = M ∧ y = (ix cn x).map ra) 0 0 := by
  refine gOfW (by decide) (Nat.le_of_ble_eq_true rfl) ?_
  intro p e s m below meth c ls hF hr hlocks hnm hKA hB hl
  obtain ⟨hx, hb, hml, hown, hts⟩ := id hF
  have hK := hKA.1
  have hl : lv_has ls 2 [(0, .ref o), (1, .int x)] := hl
  obtain ⟨f, ha, hf⟩ := hR.arr
  refine lv_iload_n hx hb dI_find_0 rfl (lv_at hl 1 rfl) ?_
  refine lv_if_lt (tgt := 13) hx hb dI_find_1 (by decide) (fun c1 => ?_) (fun c1 => ?_)
  · refine lv_null hx hb dI_find_13 ?_
    refine lv_goto (tgt := 23) hx hb dI_find_14 (by decide) ?_
    exact gg_aret (v := none) hx hb hr hlocks hKA hB dI_find_23 rfl (by decide) (by decide) ⟨rfl, by rw [ix_neg c1]; rfl⟩
  · refine lv_iload_n hx hb dI_find_4 rfl (lv_at hl 1 rfl) ?_
    refine lv_aload_n hx hb dI_find_5 rfl (lv_at hl 0 rfl) ?_
    refine gg_get (v := .ref ar) hx hb hts in_I hown hK hB hR.top rfl 1 (by decide) k_28 rfl rfl dI_find_6 ?_
    refine gg_alen (v := 100) hx hb hK hB 0 ha rfl rfl dI_find_9 ?_
    refine lv_icmp_lt (tgt := 17) hx hb dI_find_10 (by decide) (fun c10 => ?_) (fun c10 => ?_)
    · refine lv_aload_n hx hb dI_find_17 rfl (lv_at hl 0 rfl) ?_
      refine gg_get (v := .ref ar) hx hb hts in_I hown hK hB hR.top rfl 1 (by decide) k_28 rfl rfl dI_find_18 ?_
      refine lv_iload_n hx hb dI_find_21 rfl (lv_at hl 1 rfl) ?_
      obtain ⟨j, hj, rfl⟩ := ix_of (N := 100) (by decide) c1 c10
      rcases Nat.lt_or_ge j cn with hin | hin
      · refine gg_aald (v := .ref (ra j)) hx hb hK hB 0 ha rfl (vp_in_nI hj (by decide)) (by rw [nI_clamp (by omega), hf j hj, if_pos hin]; rfl) dI_find_22 ?_
        exact gg_aret (v := (some (ra j))) hx hb hr hlocks hKA hB dI_find_23 rfl (by decide) (by decide) ⟨rfl, by rw [ix_nI (by have := hR.c100; omega) hin]; rfl⟩
      · refine gg_aald (v := .null) hx hb hK hB 0 ha rfl (vp_in_nI hj (by decide)) (by rw [nI_clamp (by omega), hf j hj, if_neg (Nat.not_lt.mpr hin)]; rfl) dI_find_22 ?_
        exact gg_aret (v := none) hx hb hr hlocks hKA hB dI_find_23 rfl (by decide) (by decide) ⟨rfl, by rw [ix_ge (by omega) hin]; rfl⟩
    · refine lv_null hx hb dI_find_13 ?_
      refine lv_goto (tgt := 23) hx hb dI_find_14 (by decide) ?_
      exact gg_aret (v := none) hx hb hr hlocks hKA hB dI_find_23 rfl (by decide) (by decide) ⟨rfl, by rw [ix_big (N := 100) (by decide) hR.c100 (i32_le c10)]; rfl⟩
set_option maxHeartbeats 4000000 in
set_option maxRecDepth 100000 in
theorem c_I_isMessage (l : Launch) (dC : Nat → ClassId) (dI : Nat → Nat → Nat) (dA : Nat → ClassId) (z : Nat) (M : gM) (number kind v t : Int32) : gMi l dC dI dA z y_I_isMessage b_I_isMessage 4 (Option.some FieldType.boolean) ⟨0, 0, 0, 0⟩ [.int number, .int kind, .int v, .int t] M (fun y M1 => M1 = M ∧ y = if bM number kind v t then 1 else 0) 0 0 := by
  refine gOfW (by decide) (Nat.le_of_ble_eq_true rfl) ?_
  intro p e s m below meth c ls hF hr hlocks hnm hKA hB hl
  obtain ⟨hx, hb, hml, hown, hts⟩ := id hF
  have hK := hKA.1
  have hl : lv_has ls 4 [(0, .int number), (1, .int kind), (2, .int v), (3, .int t)] := hl
  refine lv_iload_n hx hb dI_isMessage_0 rfl (lv_at hl 0 rfl) ?_
  refine lv_if_lt (tgt := 11) hx hb dI_isMessage_1 (by decide) (fun c1 => ?_) (fun c1 => ?_)
  · refine lv_iconst (v := 0) hx hb dI_isMessage_11 (by decide) ?_
    exact gg_zret hx hb hr hlocks hKA hB dI_isMessage_12 rfl (by decide) (by decide) ⟨rfl, by simp [bM, c1]⟩
  · refine lv_iload_n hx hb dI_isMessage_4 rfl (lv_at hl 0 rfl) ?_
    refine lv_sipush (v := 1000) hx hb dI_isMessage_5 (by decide) ?_
    refine lv_icmp_le (tgt := 13) hx hb dI_isMessage_8 (by decide) (fun c8 => ?_) (fun c8 => ?_)
    · refine lv_iload_n hx hb dI_isMessage_13 rfl (lv_at hl 1 rfl) ?_
      refine lv_iconst (v := 1) hx hb dI_isMessage_14 (by decide) ?_
      refine lv_icmp_lt (tgt := 23) hx hb dI_isMessage_15 (by decide) (fun c15 => ?_) (fun c15 => ?_)
      · refine lv_iconst (v := 0) hx hb dI_isMessage_23 (by decide) ?_
        exact gg_zret hx hb hr hlocks hKA hB dI_isMessage_24 rfl (by decide) (by decide) ⟨rfl, by simp [bM, c1, c8, c15]⟩
      · refine lv_iload_n hx hb dI_isMessage_18 rfl (lv_at hl 1 rfl) ?_
        refine lv_iconst (v := 5) hx hb dI_isMessage_19 (by decide) ?_
        refine lv_icmp_le (tgt := 25) hx hb dI_isMessage_20 (by decide) (fun c20 => ?_) (fun c20 => ?_)
        · refine lv_iload_n hx hb dI_isMessage_25 rfl (lv_at hl 1 rfl) ?_
          refine lv_iconst (v := 4) hx hb dI_isMessage_26 (by decide) ?_
          refine lv_icmp_ne (tgt := 41) hx hb dI_isMessage_27 (by decide) (fun c27 => ?_) (fun c27 => ?_)
          · refine lv_iconst (v := 1) hx hb dI_isMessage_41 (by decide) ?_
            refine lv_goto (tgt := 46) hx hb dI_isMessage_42 (by decide) ?_
            exact gg_zret hx hb hr hlocks hKA hB dI_isMessage_46 rfl (by decide) (by decide) ⟨rfl, by simp [bM, c1, c8, c15, c20, c27]⟩
          · refine lv_iload_n hx hb dI_isMessage_30 rfl (lv_at hl 2 rfl) ?_
            refine lv_iload_n hx hb dI_isMessage_31 rfl (lv_at hl 3 rfl) ?_
            refine lv_icmp_le (tgt := 45) hx hb dI_isMessage_32 (by decide) (fun c32 => ?_) (fun c32 => ?_)
            · refine lv_iconst (v := 0) hx hb dI_isMessage_45 (by decide) ?_
              exact gg_zret hx hb hr hlocks hKA hB dI_isMessage_46 rfl (by decide) (by decide) ⟨rfl, by simp [bM, c1, c8, c15, c20, c27, c32]⟩
            · refine lv_iload_n hx hb dI_isMessage_35 rfl (lv_at hl 2 rfl) ?_
              refine lv_ldc (v := 1000000000) hx hb hown (hts _ k_148) dI_isMessage_36 ?_
              refine lv_icmp_gt (tgt := 45) hx hb dI_isMessage_38 (by decide) (fun c38 => ?_) (fun c38 => ?_)
              · refine lv_iconst (v := 0) hx hb dI_isMessage_45 (by decide) ?_
                exact gg_zret hx hb hr hlocks hKA hB dI_isMessage_46 rfl (by decide) (by decide) ⟨rfl, by simp [bM, c1, c8, c15, c20, c27, c32, c38]⟩
              · refine lv_iconst (v := 1) hx hb dI_isMessage_41 (by decide) ?_
                refine lv_goto (tgt := 46) hx hb dI_isMessage_42 (by decide) ?_
                exact gg_zret hx hb hr hlocks hKA hB dI_isMessage_46 rfl (by decide) (by decide) ⟨rfl, by simp [bM, c1, c8, c15, c20, c27, c32, c38]⟩
        · refine lv_iconst (v := 0) hx hb dI_isMessage_23 (by decide) ?_
          exact gg_zret hx hb hr hlocks hKA hB dI_isMessage_24 rfl (by decide) (by decide) ⟨rfl, by simp [bM, c1, c8, c15, c20]⟩
    · refine lv_iconst (v := 0) hx hb dI_isMessage_11 (by decide) ?_
      exact gg_zret hx hb hr hlocks hKA hB dI_isMessage_12 rfl (by decide) (by decide) ⟨rfl, by simp [bM, c1, c8]⟩
set_option maxHeartbeats 4000000 in
set_option maxRecDepth 100000 in
theorem c_I_fits (l : Launch) (dC : Nat → ClassId) (dI : Nat → Nat → Nat) (dA : Nat → ClassId) (z : Nat) (M : gM) (kind rs lst : Int32) : gMi l dC dI dA z y_I_fits b_I_fits 4 (Option.some FieldType.boolean) ⟨0, 0, 0, 0⟩ [.int kind, .int rs, .int lst] M (fun y M1 => M1 = M ∧ y = if bF kind rs lst then 1 else 0) 0 0 := by
  refine gOfW (by decide) (Nat.le_of_ble_eq_true rfl) ?_
  intro p e s m below meth c ls hF hr hlocks hnm hKA hB hl
  obtain ⟨hx, hb, hml, hown, hts⟩ := id hF
  have hK := hKA.1
  have hl : lv_has ls 4 [(0, .int kind), (1, .int rs), (2, .int lst)] := hl
  refine lv_iload_n hx hb dI_fits_0 rfl (lv_at hl 2 rfl) ?_
  refine lv_iconst (v := 1) hx hb dI_fits_1 (by decide) ?_
  refine lv_icmp_ne (tgt := 9) hx hb dI_fits_2 (by decide) (fun c2 => ?_) (fun c2 => ?_)
  · refine lv_iconst (v := 0) hx hb dI_fits_9 (by decide) ?_
    refine lv_istore_n (lv' := [(3, .int 0), (0, .int kind), (1, .int rs), (2, .int lst)]) hx hb dI_fits_10 rfl hl (by decide) rfl (fun ls hl => ?_)
    refine lv_iload_n hx hb dI_fits_11 rfl (lv_at hl 1 rfl) ?_
    by_cases s12_1 : kind = 1
    · refine lv_tableIn (tgt := 48) hx hb dI_fits_12 (by rw [s12_1]; decide) (by rw [s12_1]; decide) (by rw [s12_1]; rfl) (by decide) ?_
      refine lv_iload_n hx hb dI_fits_48 rfl (lv_at hl 0 rfl) ?_
      exact gg_zret hx hb hr hlocks hKA hB dI_fits_49 rfl (by decide) (by decide) ⟨rfl, by simp [bF, c2, s12_1]⟩
    by_cases s12_2 : kind = 2
    · refine lv_tableIn (tgt := 50) hx hb dI_fits_12 (by rw [s12_2]; decide) (by rw [s12_2]; decide) (by rw [s12_2]; rfl) (by decide) ?_
      refine lv_iload_n hx hb dI_fits_50 rfl (lv_at hl 0 rfl) ?_
      refine lv_if_ne (tgt := 59) hx hb dI_fits_51 (by decide) (fun c51 => ?_) (fun c51 => ?_)
      · exact (c51 (by decide)).elim
      · refine lv_iload_n hx hb dI_fits_54 rfl (lv_at hl 3 rfl) ?_
        refine lv_iconst (v := 3) hx hb dI_fits_55 (by decide) ?_
        refine lv_icmp_ne (tgt := 63) hx hb dI_fits_56 (by decide) (fun c56 => ?_) (fun c56 => ?_)
        · refine lv_iconst (v := 0) hx hb dI_fits_63 (by decide) ?_
          exact gg_zret hx hb hr hlocks hKA hB dI_fits_64 rfl (by decide) (by decide) ⟨rfl, by simp [bF, c2, s12_2, c51, c56]⟩
        · refine lv_iconst (v := 1) hx hb dI_fits_59 (by decide) ?_
          refine lv_goto (tgt := 64) hx hb dI_fits_60 (by decide) ?_
          exact gg_zret hx hb hr hlocks hKA hB dI_fits_64 rfl (by decide) (by decide) ⟨rfl, by simp [bF, c2, s12_2, c51, c56]⟩
    by_cases s12_3 : kind = 3
    · refine lv_tableIn (tgt := 48) hx hb dI_fits_12 (by rw [s12_3]; decide) (by rw [s12_3]; decide) (by rw [s12_3]; rfl) (by decide) ?_
      refine lv_iload_n hx hb dI_fits_48 rfl (lv_at hl 0 rfl) ?_
      exact gg_zret hx hb hr hlocks hKA hB dI_fits_49 rfl (by decide) (by decide) ⟨rfl, by simp [bF, c2, s12_3]⟩
    by_cases s12_4 : kind = 4
    · refine lv_tableIn (tgt := 50) hx hb dI_fits_12 (by rw [s12_4]; decide) (by rw [s12_4]; decide) (by rw [s12_4]; rfl) (by decide) ?_
      refine lv_iload_n hx hb dI_fits_50 rfl (lv_at hl 0 rfl) ?_
      refine lv_if_ne (tgt := 59) hx hb dI_fits_51 (by decide) (fun c51 => ?_) (fun c51 => ?_)
      · exact (c51 (by decide)).elim
      · refine lv_iload_n hx hb dI_fits_54 rfl (lv_at hl 3 rfl) ?_
        refine lv_iconst (v := 3) hx hb dI_fits_55 (by decide) ?_
        refine lv_icmp_ne (tgt := 63) hx hb dI_fits_56 (by decide) (fun c56 => ?_) (fun c56 => ?_)
        · refine lv_iconst (v := 0) hx hb dI_fits_63 (by decide) ?_
          exact gg_zret hx hb hr hlocks hKA hB dI_fits_64 rfl (by decide) (by decide) ⟨rfl, by simp [bF, c2, s12_4, c51, c56]⟩
        · refine lv_iconst (v := 1) hx hb dI_fits_59 (by decide) ?_
          refine lv_goto (tgt := 64) hx hb dI_fits_60 (by decide) ?_
          exact gg_zret hx hb hr hlocks hKA hB dI_fits_64 rfl (by decide) (by decide) ⟨rfl, by simp [bF, c2, s12_4, c51, c56]⟩
    by_cases s12_5 : kind = 5
    · refine lv_tableIn (tgt := 65) hx hb dI_fits_12 (by rw [s12_5]; decide) (by rw [s12_5]; decide) (by rw [s12_5]; rfl) (by decide) ?_
      refine lv_iload_n hx hb dI_fits_65 rfl (lv_at hl 3 rfl) ?_
      refine lv_iconst (v := 4) hx hb dI_fits_66 (by decide) ?_
      refine lv_icmp_ne (tgt := 79) hx hb dI_fits_67 (by decide) (fun c67 => ?_) (fun c67 => ?_)
      · refine lv_iconst (v := 0) hx hb dI_fits_79 (by decide) ?_
        exact gg_zret hx hb hr hlocks hKA hB dI_fits_80 rfl (by decide) (by decide) ⟨rfl, by simp [bF, c2, s12_5, c67]⟩
      · refine lv_iload_n hx hb dI_fits_70 rfl (lv_at hl 2 rfl) ?_
        refine lv_iconst (v := 5) hx hb dI_fits_71 (by decide) ?_
        refine lv_icmp_ne (tgt := 79) hx hb dI_fits_72 (by decide) (fun c72 => ?_) (fun c72 => ?_)
        · refine lv_iconst (v := 0) hx hb dI_fits_79 (by decide) ?_
          exact gg_zret hx hb hr hlocks hKA hB dI_fits_80 rfl (by decide) (by decide) ⟨rfl, by simp [bF, c2, s12_5, c67, c72]⟩
        · refine lv_iconst (v := 1) hx hb dI_fits_75 (by decide) ?_
          refine lv_goto (tgt := 80) hx hb dI_fits_76 (by decide) ?_
          exact gg_zret hx hb hr hlocks hKA hB dI_fits_80 rfl (by decide) (by decide) ⟨rfl, by simp [bF, c2, s12_5, c67, c72]⟩
    · refine lv_tableOut (tgt := 81) hx hb dI_fits_12 (by have := lv_neT s12_1 (a := 1) (by decide); have := lv_neT s12_2 (a := 2) (by decide); have := lv_neT s12_3 (a := 3) (by decide); have := lv_neT s12_4 (a := 4) (by decide); have := lv_neT s12_5 (a := 5) (by decide); omega) (by decide) ?_
      refine lv_iconst (v := 0) hx hb dI_fits_81 (by decide) ?_
      exact gg_zret hx hb hr hlocks hKA hB dI_fits_82 rfl (by decide) (by decide) ⟨rfl, by simp [bF, c2, s12_1, s12_2, s12_3, s12_4, s12_5]⟩
  · refine lv_iconst (v := 1) hx hb dI_fits_5 (by decide) ?_
    refine lv_goto (tgt := 10) hx hb dI_fits_6 (by decide) ?_
    refine lv_istore_n (lv' := [(3, .int 1), (0, .int kind), (1, .int rs), (2, .int lst)]) hx hb dI_fits_10 rfl hl (by decide) rfl (fun ls hl => ?_)
    refine lv_iload_n hx hb dI_fits_11 rfl (lv_at hl 1 rfl) ?_
    by_cases s12_1 : kind = 1
    · refine lv_tableIn (tgt := 48) hx hb dI_fits_12 (by rw [s12_1]; decide) (by rw [s12_1]; decide) (by rw [s12_1]; rfl) (by decide) ?_
      refine lv_iload_n hx hb dI_fits_48 rfl (lv_at hl 0 rfl) ?_
      exact gg_zret hx hb hr hlocks hKA hB dI_fits_49 rfl (by decide) (by decide) ⟨rfl, by simp [bF, c2, s12_1]⟩
    by_cases s12_2 : kind = 2
    · refine lv_tableIn (tgt := 50) hx hb dI_fits_12 (by rw [s12_2]; decide) (by rw [s12_2]; decide) (by rw [s12_2]; rfl) (by decide) ?_
      refine lv_iload_n hx hb dI_fits_50 rfl (lv_at hl 0 rfl) ?_
      refine lv_if_ne (tgt := 59) hx hb dI_fits_51 (by decide) (fun c51 => ?_) (fun c51 => ?_)
      · refine lv_iconst (v := 1) hx hb dI_fits_59 (by decide) ?_
        refine lv_goto (tgt := 64) hx hb dI_fits_60 (by decide) ?_
        exact gg_zret hx hb hr hlocks hKA hB dI_fits_64 rfl (by decide) (by decide) ⟨rfl, by simp [bF, c2, s12_2, c51]⟩
      · exact absurd c51 (by decide)
    by_cases s12_3 : kind = 3
    · refine lv_tableIn (tgt := 48) hx hb dI_fits_12 (by rw [s12_3]; decide) (by rw [s12_3]; decide) (by rw [s12_3]; rfl) (by decide) ?_
      refine lv_iload_n hx hb dI_fits_48 rfl (lv_at hl 0 rfl) ?_
      exact gg_zret hx hb hr hlocks hKA hB dI_fits_49 rfl (by decide) (by decide) ⟨rfl, by simp [bF, c2, s12_3]⟩
    by_cases s12_4 : kind = 4
    · refine lv_tableIn (tgt := 50) hx hb dI_fits_12 (by rw [s12_4]; decide) (by rw [s12_4]; decide) (by rw [s12_4]; rfl) (by decide) ?_
      refine lv_iload_n hx hb dI_fits_50 rfl (lv_at hl 0 rfl) ?_
      refine lv_if_ne (tgt := 59) hx hb dI_fits_51 (by decide) (fun c51 => ?_) (fun c51 => ?_)
      · refine lv_iconst (v := 1) hx hb dI_fits_59 (by decide) ?_
        refine lv_goto (tgt := 64) hx hb dI_fits_60 (by decide) ?_
        exact gg_zret hx hb hr hlocks hKA hB dI_fits_64 rfl (by decide) (by decide) ⟨rfl, by simp [bF, c2, s12_4, c51]⟩
      · exact absurd c51 (by decide)
    by_cases s12_5 : kind = 5
    · refine lv_tableIn (tgt := 65) hx hb dI_fits_12 (by rw [s12_5]; decide) (by rw [s12_5]; decide) (by rw [s12_5]; rfl) (by decide) ?_
      refine lv_iload_n hx hb dI_fits_65 rfl (lv_at hl 3 rfl) ?_
      refine lv_iconst (v := 4) hx hb dI_fits_66 (by decide) ?_
      refine lv_icmp_ne (tgt := 79) hx hb dI_fits_67 (by decide) (fun c67 => ?_) (fun c67 => ?_)
      · refine lv_iconst (v := 0) hx hb dI_fits_79 (by decide) ?_
        exact gg_zret hx hb hr hlocks hKA hB dI_fits_80 rfl (by decide) (by decide) ⟨rfl, by simp [bF, c2, s12_5, c67]⟩
      · exact absurd (c2.symm.trans c67) (by decide)
    · refine lv_tableOut (tgt := 81) hx hb dI_fits_12 (by have := lv_neT s12_1 (a := 1) (by decide); have := lv_neT s12_2 (a := 2) (by decide); have := lv_neT s12_3 (a := 3) (by decide); have := lv_neT s12_4 (a := 4) (by decide); have := lv_neT s12_5 (a := 5) (by decide); omega) (by decide) ?_
      refine lv_iconst (v := 0) hx hb dI_fits_81 (by decide) ?_
      exact gg_zret hx hb hr hlocks hKA hB dI_fits_82 rfl (by decide) (by decide) ⟨rfl, by simp [bF, c2, s12_1, s12_2, s12_3, s12_4, s12_5]⟩
set_option maxHeartbeats 4000000 in
set_option maxRecDepth 100000 in
theorem c_I_requestsOf (l : Launch) (dC : Nat → ClassId) (dI : Nat → Nat → Nat) (dA : Nat → ClassId) (z : Nat) (M0 M : gM) (o ar : Nat) (ra sa : Nat → Nat) (la : Nat → Nat → Nat) (hs lt lw : Int32) (cn : Nat) (σ : Nat → Rq) (hR : cW dA M0 M o ar ra sa la hs lt lw cn σ) (w : Int32) : gMi l dC dI dA z y_I_requestsOf b_I_requestsOf 7 (Option.some FieldType.int) ⟨0, 0, 0, 0⟩ [.ref o, .int w] M (fun x M1 => M1 = M ∧ x = cti (fun q => decide (q.1 = w)) σ cn cn) 0 0 := by
  refine gOfW (by decide) (Nat.le_of_ble_eq_true rfl) ?_
  intro p e s m below meth c ls hF hr hlocks hnm hKA hB hl
  obtain ⟨hx, hb, hml, hown, hts⟩ := id hF
  have hK := hKA.1
  have hl : lv_has ls 7 [(0, .ref o), (1, .int w)] := hl
  obtain ⟨f, ha, hf⟩ := hR.arr
  refine lv_iconst (v := 0) hx hb dI_requestsOf_0 (by decide) ?_
  refine lv_istore_n (lv' := [(2, .int 0), (0, .ref o), (1, .int w)]) hx hb dI_requestsOf_1 rfl hl (by decide) rfl (fun ls hl => ?_)
  refine lv_aload_n hx hb dI_requestsOf_2 rfl (lv_at hl 1 rfl) ?_
  refine gg_get (v := .ref ar) hx hb hts in_I hown hK hB hR.top rfl 1 (by decide) k_28 rfl rfl dI_requestsOf_3 ?_
  refine lv_astore_n (lv' := [(3, .ref ar), (2, .int 0), (0, .ref o), (1, .int w)]) hx hb dI_requestsOf_6 rfl hl (by decide) rfl (fun ls hl => ?_)
  refine lv_aload_n hx hb dI_requestsOf_7 rfl (lv_at hl 0 rfl) ?_
  refine gg_alen (v := 100) hx hb hK hB 0 ha rfl rfl dI_requestsOf_8 ?_
  refine lv_istore (lv' := [(4, .int 100), (3, .ref ar), (2, .int 0), (0, .ref o), (1, .int w)]) hx hb dI_requestsOf_9 hl (by decide) rfl (fun ls hl => ?_)
  refine lv_iconst (v := 0) hx hb dI_requestsOf_11 (by decide) ?_
  refine lv_istore (lv' := [(5, .int 0), (4, .int 100), (3, .ref ar), (2, .int 0), (0, .ref o), (1, .int w)]) hx hb dI_requestsOf_12 hl (by decide) rfl (fun ls hl => ?_)
  refine gLoop (G := fun ls => W p l e _ s m _ below meth c s.heap [] 0 0 _ (F0 m 14 ls [])) (nL := 7) (fun i => [(5, .int (nI i)), (4, .int 100), (3, .ref ar), (2, .int (cti (fun q => decide (q.1 = w)) σ cn i)), (1, .int w), (0, .ref o)]) (fun _ => True) 100 ?_ 0 (by omega) trivial ls (lv_sub hl [0, 1, 2, 3, 5, 4] rfl)
  intro i hi9 _ ih ls hl
  have hl : lv_has ls 7 [(5, .int (nI i)), (4, .int 100), (3, .ref ar), (2, .int (cti (fun q => decide (q.1 = w)) σ cn i)), (1, .int w), (0, .ref o)] := hl
  refine lv_iload hx hb dI_requestsOf_14 (lv_at hl 0 rfl) ?_
  refine lv_iload hx hb dI_requestsOf_16 (lv_at hl 1 rfl) ?_
  refine lv_icmp_ge (tgt := 50) hx hb dI_requestsOf_18 (by decide) (fun c18 => ?_) (fun c18 => ?_)
  · refine lv_iload_n hx hb dI_requestsOf_50 rfl (lv_at hl 3 rfl) ?_
    exact gg_iret hx hb hr hlocks hKA hB dI_requestsOf_51 (by decide) (by decide) ⟨rfl, by rw [nI_top (N := 100) (by decide) c18 hi9]; exact cti_all hR.c100⟩
  · refine lv_aload_n hx hb dI_requestsOf_21 rfl (lv_at hl 2 rfl) ?_
    refine lv_iload hx hb dI_requestsOf_22 (lv_at hl 0 rfl) ?_
    have hlt : i < 100 := Nat.lt_of_not_le (fun q => c18 (nI_le q (by omega)))
    rcases Nat.lt_or_ge i cn with hin | hin
    · refine gg_aald (v := .ref (ra i)) hx hb hK hB 0 ha rfl (vp_in_nI hlt (by decide)) (by rw [nI_clamp (by omega), hf i hlt, if_pos hin]; rfl) dI_requestsOf_24 ?_
      refine lv_astore (lv' := [(6, .ref (ra i)), (5, .int (nI i)), (4, .int 100), (3, .ref ar), (2, .int (cti (fun q => decide (q.1 = w)) σ cn i)), (1, .int w), (0, .ref o)]) hx hb dI_requestsOf_25 hl (by decide) rfl (fun ls hl => ?_)
      refine lv_aload hx hb dI_requestsOf_27 (lv_at hl 0 rfl) ?_
      refine lv_ifnull hx hb dI_requestsOf_29 ?_
      refine lv_aload hx hb dI_requestsOf_32 (lv_at hl 0 rfl) ?_
      refine gg_get (v := .int ((σ i).1)) hx hb hts in_Q hown hK hB (hR.q hin rfl) rfl 0 (by decide) k_60 rfl rfl dI_requestsOf_34 ?_
      refine lv_iload_n hx hb dI_requestsOf_37 rfl (lv_at hl 5 rfl) ?_
      refine lv_icmp_ne (tgt := 44) hx hb dI_requestsOf_38 (by decide) (fun c38 => ?_) (fun c38 => ?_)
      · refine lv_iinc (v := ((nI i) + 1)) (lv' := [(5, .int ((nI i) + 1)), (6, .ref (ra i)), (4, .int 100), (3, .ref ar), (2, .int (cti (fun q => decide (q.1 = w)) σ cn i)), (1, .int w), (0, .ref o)]) hx hb dI_requestsOf_44 hl (k := 1) rfl rfl (by decide) rfl (fun ls hl => ?_)
        refine lv_goto (tgt := 14) hx hb dI_requestsOf_47 (by decide) ?_
        exact ih hlt trivial ls (lv_sub hl [0, 2, 3, 4, 5, 6] (by rw [← nI_1, cti_n (by simp [c38])]; rfl))
      · refine lv_iinc (v := ((cti (fun q => decide (q.1 = w)) σ cn i) + 1)) (lv' := [(2, .int ((cti (fun q => decide (q.1 = w)) σ cn i) + 1)), (6, .ref (ra i)), (5, .int (nI i)), (4, .int 100), (3, .ref ar), (1, .int w), (0, .ref o)]) hx hb dI_requestsOf_41 hl (k := 4) rfl rfl (by decide) rfl (fun ls hl => ?_)
        refine lv_iinc (v := ((nI i) + 1)) (lv' := [(5, .int ((nI i) + 1)), (2, .int ((cti (fun q => decide (q.1 = w)) σ cn i) + 1)), (6, .ref (ra i)), (4, .int 100), (3, .ref ar), (1, .int w), (0, .ref o)]) hx hb dI_requestsOf_44 hl (k := 2) rfl rfl (by decide) rfl (fun ls hl => ?_)
        refine lv_goto (tgt := 14) hx hb dI_requestsOf_47 (by decide) ?_
        exact ih hlt trivial ls (lv_sub hl [0, 3, 4, 1, 5, 6] (by rw [← nI_1, cti_y hin (by simp [c38])]; rfl))
    · refine gg_aald (v := .null) hx hb hK hB 0 ha rfl (vp_in_nI hlt (by decide)) (by rw [nI_clamp (by omega), hf i hlt, if_neg (Nat.not_lt.mpr hin)]; rfl) dI_requestsOf_24 ?_
      refine lv_astoreN (lv' := [(6, .null), (5, .int (nI i)), (4, .int 100), (3, .ref ar), (2, .int (cti (fun q => decide (q.1 = w)) σ cn i)), (1, .int w), (0, .ref o)]) hx hb dI_requestsOf_25 hl (by decide) rfl (fun ls hl => ?_)
      refine lv_aloadN hx hb dI_requestsOf_27 (lv_at hl 0 rfl) ?_
      refine lv_ifnullN (tgt := 44) hx hb dI_requestsOf_29 (by decide) ?_
      refine lv_iinc (v := ((nI i) + 1)) (lv' := [(5, .int ((nI i) + 1)), (6, .null), (4, .int 100), (3, .ref ar), (2, .int (cti (fun q => decide (q.1 = w)) σ cn i)), (1, .int w), (0, .ref o)]) hx hb dI_requestsOf_44 hl (k := 1) rfl rfl (by decide) rfl (fun ls hl => ?_)
      refine lv_goto (tgt := 14) hx hb dI_requestsOf_47 (by decide) ?_
      exact ih hlt trivial ls (lv_sub hl [0, 2, 3, 4, 5, 6] (by rw [← nI_1, cti_o hin]; rfl))
set_option maxHeartbeats 4000000 in
set_option maxRecDepth 100000 in
theorem c_I_requestsIn (l : Launch) (dC : Nat → ClassId) (dI : Nat → Nat → Nat) (dA : Nat → ClassId) (z : Nat) (M0 M : gM) (o ar : Nat) (ra sa : Nat → Nat) (la : Nat → Nat → Nat) (hs lt lw : Int32) (cn : Nat) (σ : Nat → Rq) (hR : cW dA M0 M o ar ra sa la hs lt lw cn σ) (w v : Int32) : gMi l dC dI dA z y_I_requestsIn b_I_requestsIn 8 (Option.some FieldType.int) ⟨0, 0, 0, 0⟩ [.ref o, .int w, .int v] M (fun x M1 => M1 = M ∧ x = cti (fun q => decide (q.1 = w) && decide (q.2.2.2.1 = v)) σ cn cn) 0 0 := by
  refine gOfW (by decide) (Nat.le_of_ble_eq_true rfl) ?_
  intro p e s m below meth c ls hF hr hlocks hnm hKA hB hl
  obtain ⟨hx, hb, hml, hown, hts⟩ := id hF
  have hK := hKA.1
  have hl : lv_has ls 8 [(0, .ref o), (1, .int w), (2, .int v)] := hl
  obtain ⟨f, ha, hf⟩ := hR.arr
  refine lv_iconst (v := 0) hx hb dI_requestsIn_0 (by decide) ?_
  refine lv_istore_n (lv' := [(3, .int 0), (0, .ref o), (1, .int w), (2, .int v)]) hx hb dI_requestsIn_1 rfl hl (by decide) rfl (fun ls hl => ?_)
  refine lv_aload_n hx hb dI_requestsIn_2 rfl (lv_at hl 1 rfl) ?_
  refine gg_get (v := .ref ar) hx hb hts in_I hown hK hB hR.top rfl 1 (by decide) k_28 rfl rfl dI_requestsIn_3 ?_
  refine lv_astore (lv' := [(4, .ref ar), (3, .int 0), (0, .ref o), (1, .int w), (2, .int v)]) hx hb dI_requestsIn_6 hl (by decide) rfl (fun ls hl => ?_)
  refine lv_aload hx hb dI_requestsIn_8 (lv_at hl 0 rfl) ?_
  refine gg_alen (v := 100) hx hb hK hB 0 ha rfl rfl dI_requestsIn_10 ?_
  refine lv_istore (lv' := [(5, .int 100), (4, .ref ar), (3, .int 0), (0, .ref o), (1, .int w), (2, .int v)]) hx hb dI_requestsIn_11 hl (by decide) rfl (fun ls hl => ?_)
  refine lv_iconst (v := 0) hx hb dI_requestsIn_13 (by decide) ?_
  refine lv_istore (lv' := [(6, .int 0), (5, .int 100), (4, .ref ar), (3, .int 0), (0, .ref o), (1, .int w), (2, .int v)]) hx hb dI_requestsIn_14 hl (by decide) rfl (fun ls hl => ?_)
  refine gLoop (G := fun ls => W p l e _ s m _ below meth c s.heap [] 0 0 _ (F0 m 16 ls [])) (nL := 8) (fun i => [(6, .int (nI i)), (5, .int 100), (4, .ref ar), (3, .int (cti (fun q => decide (q.1 = w) && decide (q.2.2.2.1 = v)) σ cn i)), (2, .int v), (1, .int w), (0, .ref o)]) (fun _ => True) 100 ?_ 0 (by omega) trivial ls (lv_sub hl [0, 1, 2, 3, 6, 5, 4] rfl)
  intro i hi9 _ ih ls hl
  have hl : lv_has ls 8 [(6, .int (nI i)), (5, .int 100), (4, .ref ar), (3, .int (cti (fun q => decide (q.1 = w) && decide (q.2.2.2.1 = v)) σ cn i)), (2, .int v), (1, .int w), (0, .ref o)] := hl
  refine lv_iload hx hb dI_requestsIn_16 (lv_at hl 0 rfl) ?_
  refine lv_iload hx hb dI_requestsIn_18 (lv_at hl 1 rfl) ?_
  refine lv_icmp_ge (tgt := 62) hx hb dI_requestsIn_20 (by decide) (fun c20 => ?_) (fun c20 => ?_)
  · refine lv_iload_n hx hb dI_requestsIn_62 rfl (lv_at hl 3 rfl) ?_
    exact gg_iret hx hb hr hlocks hKA hB dI_requestsIn_63 (by decide) (by decide) ⟨rfl, by rw [nI_top (N := 100) (by decide) c20 hi9]; exact cti_all hR.c100⟩
  · refine lv_aload hx hb dI_requestsIn_23 (lv_at hl 2 rfl) ?_
    refine lv_iload hx hb dI_requestsIn_25 (lv_at hl 0 rfl) ?_
    have hlt : i < 100 := Nat.lt_of_not_le (fun q => c20 (nI_le q (by omega)))
    rcases Nat.lt_or_ge i cn with hin | hin
    · refine gg_aald (v := .ref (ra i)) hx hb hK hB 0 ha rfl (vp_in_nI hlt (by decide)) (by rw [nI_clamp (by omega), hf i hlt, if_pos hin]; rfl) dI_requestsIn_27 ?_
      refine lv_astore (lv' := [(7, .ref (ra i)), (6, .int (nI i)), (5, .int 100), (4, .ref ar), (3, .int (cti (fun q => decide (q.1 = w) && decide (q.2.2.2.1 = v)) σ cn i)), (2, .int v), (1, .int w), (0, .ref o)]) hx hb dI_requestsIn_28 hl (by decide) rfl (fun ls hl => ?_)
      refine lv_aload hx hb dI_requestsIn_30 (lv_at hl 0 rfl) ?_
      refine lv_ifnull hx hb dI_requestsIn_32 ?_
      refine lv_aload hx hb dI_requestsIn_35 (lv_at hl 0 rfl) ?_
      refine gg_get (v := .int ((σ i).1)) hx hb hts in_Q hown hK hB (hR.q hin rfl) rfl 0 (by decide) k_60 rfl rfl dI_requestsIn_37 ?_
      refine lv_iload_n hx hb dI_requestsIn_40 rfl (lv_at hl 6 rfl) ?_
      refine lv_icmp_ne (tgt := 56) hx hb dI_requestsIn_41 (by decide) (fun c41 => ?_) (fun c41 => ?_)
      · refine lv_iinc (v := ((nI i) + 1)) (lv' := [(6, .int ((nI i) + 1)), (7, .ref (ra i)), (5, .int 100), (4, .ref ar), (3, .int (cti (fun q => decide (q.1 = w) && decide (q.2.2.2.1 = v)) σ cn i)), (2, .int v), (1, .int w), (0, .ref o)]) hx hb dI_requestsIn_56 hl (k := 1) rfl rfl (by decide) rfl (fun ls hl => ?_)
        refine lv_goto (tgt := 16) hx hb dI_requestsIn_59 (by decide) ?_
        exact ih hlt trivial ls (lv_sub hl [0, 2, 3, 4, 5, 6, 7] (by rw [← nI_1, cti_n (by simp [c41])]; rfl))
      · refine lv_aload hx hb dI_requestsIn_44 (lv_at hl 0 rfl) ?_
        refine gg_get (v := .int ((σ i).2.2.2.1)) hx hb hts in_Q hown hK hB (hR.q hin rfl) rfl 4 (by decide) k_67 rfl rfl dI_requestsIn_46 ?_
        refine lv_iload_n hx hb dI_requestsIn_49 rfl (lv_at hl 5 rfl) ?_
        refine lv_icmp_ne (tgt := 56) hx hb dI_requestsIn_50 (by decide) (fun c50 => ?_) (fun c50 => ?_)
        · refine lv_iinc (v := ((nI i) + 1)) (lv' := [(6, .int ((nI i) + 1)), (7, .ref (ra i)), (5, .int 100), (4, .ref ar), (3, .int (cti (fun q => decide (q.1 = w) && decide (q.2.2.2.1 = v)) σ cn i)), (2, .int v), (1, .int w), (0, .ref o)]) hx hb dI_requestsIn_56 hl (k := 1) rfl rfl (by decide) rfl (fun ls hl => ?_)
          refine lv_goto (tgt := 16) hx hb dI_requestsIn_59 (by decide) ?_
          exact ih hlt trivial ls (lv_sub hl [0, 2, 3, 4, 5, 6, 7] (by rw [← nI_1, cti_n (by simp [c41, c50])]; rfl))
        · refine lv_iinc (v := ((cti (fun q => decide (q.1 = w) && decide (q.2.2.2.1 = v)) σ cn i) + 1)) (lv' := [(3, .int ((cti (fun q => decide (q.1 = w) && decide (q.2.2.2.1 = v)) σ cn i) + 1)), (7, .ref (ra i)), (6, .int (nI i)), (5, .int 100), (4, .ref ar), (2, .int v), (1, .int w), (0, .ref o)]) hx hb dI_requestsIn_53 hl (k := 4) rfl rfl (by decide) rfl (fun ls hl => ?_)
          refine lv_iinc (v := ((nI i) + 1)) (lv' := [(6, .int ((nI i) + 1)), (3, .int ((cti (fun q => decide (q.1 = w) && decide (q.2.2.2.1 = v)) σ cn i) + 1)), (7, .ref (ra i)), (5, .int 100), (4, .ref ar), (2, .int v), (1, .int w), (0, .ref o)]) hx hb dI_requestsIn_56 hl (k := 2) rfl rfl (by decide) rfl (fun ls hl => ?_)
          refine lv_goto (tgt := 16) hx hb dI_requestsIn_59 (by decide) ?_
          exact ih hlt trivial ls (lv_sub hl [0, 3, 4, 1, 5, 6, 7] (by rw [← nI_1, cti_y hin (by simp [c41, c50])]; rfl))
    · refine gg_aald (v := .null) hx hb hK hB 0 ha rfl (vp_in_nI hlt (by decide)) (by rw [nI_clamp (by omega), hf i hlt, if_neg (Nat.not_lt.mpr hin)]; rfl) dI_requestsIn_27 ?_
      refine lv_astoreN (lv' := [(7, .null), (6, .int (nI i)), (5, .int 100), (4, .ref ar), (3, .int (cti (fun q => decide (q.1 = w) && decide (q.2.2.2.1 = v)) σ cn i)), (2, .int v), (1, .int w), (0, .ref o)]) hx hb dI_requestsIn_28 hl (by decide) rfl (fun ls hl => ?_)
      refine lv_aloadN hx hb dI_requestsIn_30 (lv_at hl 0 rfl) ?_
      refine lv_ifnullN (tgt := 56) hx hb dI_requestsIn_32 (by decide) ?_
      refine lv_iinc (v := ((nI i) + 1)) (lv' := [(6, .int ((nI i) + 1)), (7, .null), (5, .int 100), (4, .ref ar), (3, .int (cti (fun q => decide (q.1 = w) && decide (q.2.2.2.1 = v)) σ cn i)), (2, .int v), (1, .int w), (0, .ref o)]) hx hb dI_requestsIn_56 hl (k := 1) rfl rfl (by decide) rfl (fun ls hl => ?_)
      refine lv_goto (tgt := 16) hx hb dI_requestsIn_59 (by decide) ?_
      exact ih hlt trivial ls (lv_sub hl [0, 2, 3, 4, 5, 6, 7] (by rw [← nI_1, cti_o hin]; rfl))
set_option maxHeartbeats 4000000 in
set_option maxRecDepth 100000 in
theorem c_I_lentIn (l : Launch) (dC : Nat → ClassId) (dI : Nat → Nat → Nat) (dA : Nat → ClassId) (z : Nat) (M0 M : gM) (o ar : Nat) (ra sa : Nat → Nat) (la : Nat → Nat → Nat) (hs lt lw : Int32) (cn : Nat) (σ : Nat → Rq) (hR : cW dA M0 M o ar ra sa la hs lt lw cn σ) (w v : Int32) : gMi l dC dI dA z y_I_lentIn b_I_lentIn 8 (Option.some FieldType.int) ⟨1, 0, 0, 26⟩ [.ref o, .int w, .int v] M (fun x M1 => M1 = M ∧ x = cti (fun q => (ff (fun d => decide (d.1 = w) && decide (d.2.1 = v)) q.2.2.2.2.2.2.2.2.2 q.2.2.1 0).isSome) σ cn cn) 0 0 := by
  refine gOfW (by decide) (Nat.le_of_ble_eq_true rfl) ?_
  intro p e s m below meth c ls hF hr hlocks hnm hKA hB hl
  obtain ⟨hx, hb, hml, hown, hts⟩ := id hF
  have hK := hKA.1
  have hl : lv_has ls 8 [(0, .ref o), (1, .int w), (2, .int v)] := hl
  obtain ⟨f, ha, hf⟩ := hR.arr
  refine lv_iconst (v := 0) hx hb dI_lentIn_0 (by decide) ?_
  refine lv_istore_n (lv' := [(3, .int 0), (0, .ref o), (1, .int w), (2, .int v)]) hx hb dI_lentIn_1 rfl hl (by decide) rfl (fun ls hl => ?_)
  refine lv_aload_n hx hb dI_lentIn_2 rfl (lv_at hl 1 rfl) ?_
  refine gg_get (v := .ref ar) hx hb hts in_I hown hK hB hR.top rfl 1 (by decide) k_28 rfl rfl dI_lentIn_3 ?_
  refine lv_astore (lv' := [(4, .ref ar), (3, .int 0), (0, .ref o), (1, .int w), (2, .int v)]) hx hb dI_lentIn_6 hl (by decide) rfl (fun ls hl => ?_)
  refine lv_aload hx hb dI_lentIn_8 (lv_at hl 0 rfl) ?_
  refine gg_alen (v := 100) hx hb hK hB 0 ha rfl rfl dI_lentIn_10 ?_
  refine lv_istore (lv' := [(5, .int 100), (4, .ref ar), (3, .int 0), (0, .ref o), (1, .int w), (2, .int v)]) hx hb dI_lentIn_11 hl (by decide) rfl (fun ls hl => ?_)
  refine lv_iconst (v := 0) hx hb dI_lentIn_13 (by decide) ?_
  refine lv_istore (lv' := [(6, .int 0), (5, .int 100), (4, .ref ar), (3, .int 0), (0, .ref o), (1, .int w), (2, .int v)]) hx hb dI_lentIn_14 hl (by decide) rfl (fun ls hl => ?_)
  refine gLoopH (S := Unit) (G := fun H locs ls => W p l e _ s m _ below meth c H locs 0 0 _ (F0 m 16 ls [])) (nL := 8) (fun i _ => [(6, .int (nI i)), (5, .int 100), (4, .ref ar), (3, .int (cti (fun q => (ff (fun d => decide (d.1 = w) && decide (d.2.1 = v)) q.2.2.2.2.2.2.2.2.2 q.2.2.1 0).isSome) σ cn i)), (2, .int v), (1, .int w), (0, .ref o)]) (fun _ _ H locs => gB (dC, dI) gcl z M s.heap H locs) 100 ?_ 0 () s.heap [] (by omega) hB ls (lv_sub hl [0, 1, 2, 3, 6, 5, 4] rfl)
  intro i _ H locs hi9 hB ih ls hl
  have hl : lv_has ls 8 [(6, .int (nI i)), (5, .int 100), (4, .ref ar), (3, .int (cti (fun q => (ff (fun d => decide (d.1 = w) && decide (d.2.1 = v)) q.2.2.2.2.2.2.2.2.2 q.2.2.1 0).isSome) σ cn i)), (2, .int v), (1, .int w), (0, .ref o)] := hl
  refine lv_iload hx hb dI_lentIn_16 (lv_at hl 0 rfl) ?_
  refine lv_iload hx hb dI_lentIn_18 (lv_at hl 1 rfl) ?_
  refine lv_icmp_ge (tgt := 54) hx hb dI_lentIn_20 (by decide) (fun c20 => ?_) (fun c20 => ?_)
  · refine lv_iload_n hx hb dI_lentIn_54 rfl (lv_at hl 3 rfl) ?_
    exact gg_iret hx hb hr hlocks hKA hB dI_lentIn_55 (by decide) (by decide) ⟨rfl, by rw [nI_top (N := 100) (by decide) c20 hi9]; exact cti_all hR.c100⟩
  · refine lv_aload hx hb dI_lentIn_23 (lv_at hl 2 rfl) ?_
    refine lv_iload hx hb dI_lentIn_25 (lv_at hl 0 rfl) ?_
    have hlt : i < 100 := Nat.lt_of_not_le (fun q => c20 (nI_le q (by omega)))
    rcases Nat.lt_or_ge i cn with hin | hin
    · refine gg_aald (v := .ref (ra i)) hx hb hK hB 0 ha rfl (vp_in_nI hlt (by decide)) (by rw [nI_clamp (by omega), hf i hlt, if_pos hin]; rfl) dI_lentIn_27 ?_
      refine lv_astore (lv' := [(7, .ref (ra i)), (6, .int (nI i)), (5, .int 100), (4, .ref ar), (3, .int (cti (fun q => (ff (fun d => decide (d.1 = w) && decide (d.2.1 = v)) q.2.2.2.2.2.2.2.2.2 q.2.2.1 0).isSome) σ cn i)), (2, .int v), (1, .int w), (0, .ref o)]) hx hb dI_lentIn_28 hl (by decide) rfl (fun ls hl => ?_)
      refine lv_aload hx hb dI_lentIn_30 (lv_at hl 0 rfl) ?_
      refine lv_ifnull hx hb dI_lentIn_32 ?_
      refine lv_aload hx hb dI_lentIn_35 (lv_at hl 0 rfl) ?_
      refine lv_iload_n hx hb dI_lentIn_37 rfl (lv_at hl 6 rfl) ?_
      refine lv_iload_n hx hb dI_lentIn_38 rfl (lv_at hl 5 rfl) ?_
      obtain ⟨f9, hs9, hf9⟩ := hR.s hin rfl
      refine gEndi (gRunV hF (c_Q_hasLenderIn l dC dI dA z M (ra i) (sa i) (la i) _ _ _ _ _ _ _ _ _ _ (hR.q hin rfl) f9 hs9 hf9 (fun j hj => hR.l hin rfl hj rfl) (hR.n8 hin rfl) w v) ln_I_161 hKA hB (hR.q hin rfl) rfl rfl hl.1 rfl (Nat.le_of_ble_eq_true rfl) dI_lentIn_39 ⟨rfl, rfl, (Nat.le_of_ble_eq_true rfl), (Nat.le_of_ble_eq_true rfl)⟩ ⟨(Nat.le_of_ble_eq_true rfl), (Nat.le_of_ble_eq_true rfl)⟩) hB (fun y M1 H locs hp hB => ?_)
      obtain ⟨e1, e2⟩ := hp
      rw [e1] at hB
      cases h9 : (fun q => (ff (fun d => decide (d.1 = w) && decide (d.2.1 = v)) q.2.2.2.2.2.2.2.2.2 q.2.2.1 0).isSome) (σ i) with
      | true =>
        have e2 : y = 1 := by rw [e2]; show (if (fun q => (ff (fun d => decide (d.1 = w) && decide (d.2.1 = v)) q.2.2.2.2.2.2.2.2.2 q.2.2.1 0).isSome) (σ i) = true then (1 : Int32) else 0) = _; rw [h9]; rfl
        subst e2
        refine lv_if_eq (tgt := 48) hx hb dI_lentIn_42 (by decide) (fun c42 => ?_) (fun c42 => ?_)
        · exact absurd c42 (by decide)
        · refine lv_iinc (v := ((cti (fun q => (ff (fun d => decide (d.1 = w) && decide (d.2.1 = v)) q.2.2.2.2.2.2.2.2.2 q.2.2.1 0).isSome) σ cn i) + 1)) (lv' := [(3, .int ((cti (fun q => (ff (fun d => decide (d.1 = w) && decide (d.2.1 = v)) q.2.2.2.2.2.2.2.2.2 q.2.2.1 0).isSome) σ cn i) + 1)), (7, .ref (ra i)), (6, .int (nI i)), (5, .int 100), (4, .ref ar), (2, .int v), (1, .int w), (0, .ref o)]) hx hb dI_lentIn_45 hl (k := 4) rfl rfl (by decide) rfl (fun ls hl => ?_)
          refine lv_iinc (v := ((nI i) + 1)) (lv' := [(6, .int ((nI i) + 1)), (3, .int ((cti (fun q => (ff (fun d => decide (d.1 = w) && decide (d.2.1 = v)) q.2.2.2.2.2.2.2.2.2 q.2.2.1 0).isSome) σ cn i) + 1)), (7, .ref (ra i)), (5, .int 100), (4, .ref ar), (2, .int v), (1, .int w), (0, .ref o)]) hx hb dI_lentIn_48 hl (k := 2) rfl rfl (by decide) rfl (fun ls hl => ?_)
          refine lv_goto (tgt := 16) hx hb dI_lentIn_51 (by decide) ?_
          exact ih () H locs hlt hB ls (lv_sub hl [0, 3, 4, 1, 5, 6, 7] (by rw [← nI_1, cti_y hin h9]; rfl))
      | false =>
        have e2 : y = 0 := by rw [e2]; show (if (fun q => (ff (fun d => decide (d.1 = w) && decide (d.2.1 = v)) q.2.2.2.2.2.2.2.2.2 q.2.2.1 0).isSome) (σ i) = true then (1 : Int32) else 0) = _; rw [h9]; rfl
        subst e2
        refine lv_if_eq (tgt := 48) hx hb dI_lentIn_42 (by decide) (fun c42 => ?_) (fun c42 => ?_)
        · refine lv_iinc (v := ((nI i) + 1)) (lv' := [(6, .int ((nI i) + 1)), (7, .ref (ra i)), (5, .int 100), (4, .ref ar), (3, .int (cti (fun q => (ff (fun d => decide (d.1 = w) && decide (d.2.1 = v)) q.2.2.2.2.2.2.2.2.2 q.2.2.1 0).isSome) σ cn i)), (2, .int v), (1, .int w), (0, .ref o)]) hx hb dI_lentIn_48 hl (k := 1) rfl rfl (by decide) rfl (fun ls hl => ?_)
          refine lv_goto (tgt := 16) hx hb dI_lentIn_51 (by decide) ?_
          exact ih () H locs hlt hB ls (lv_sub hl [0, 2, 3, 4, 5, 6, 7] (by rw [← nI_1, cti_n (fun q => absurd (h9.symm.trans q) (by decide))]; rfl))
        · exact (c42 (by decide)).elim
    · refine gg_aald (v := .null) hx hb hK hB 0 ha rfl (vp_in_nI hlt (by decide)) (by rw [nI_clamp (by omega), hf i hlt, if_neg (Nat.not_lt.mpr hin)]; rfl) dI_lentIn_27 ?_
      refine lv_astoreN (lv' := [(7, .null), (6, .int (nI i)), (5, .int 100), (4, .ref ar), (3, .int (cti (fun q => (ff (fun d => decide (d.1 = w) && decide (d.2.1 = v)) q.2.2.2.2.2.2.2.2.2 q.2.2.1 0).isSome) σ cn i)), (2, .int v), (1, .int w), (0, .ref o)]) hx hb dI_lentIn_28 hl (by decide) rfl (fun ls hl => ?_)
      refine lv_aloadN hx hb dI_lentIn_30 (lv_at hl 0 rfl) ?_
      refine lv_ifnullN (tgt := 48) hx hb dI_lentIn_32 (by decide) ?_
      refine lv_iinc (v := ((nI i) + 1)) (lv' := [(6, .int ((nI i) + 1)), (7, .null), (5, .int 100), (4, .ref ar), (3, .int (cti (fun q => (ff (fun d => decide (d.1 = w) && decide (d.2.1 = v)) q.2.2.2.2.2.2.2.2.2 q.2.2.1 0).isSome) σ cn i)), (2, .int v), (1, .int w), (0, .ref o)]) hx hb dI_lentIn_48 hl (k := 1) rfl rfl (by decide) rfl (fun ls hl => ?_)
      refine lv_goto (tgt := 16) hx hb dI_lentIn_51 (by decide) ?_
      exact ih () H locs hlt hB ls (lv_sub hl [0, 2, 3, 4, 5, 6, 7] (by rw [← nI_1, cti_o hin]; rfl))
