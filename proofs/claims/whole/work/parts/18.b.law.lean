/-! The law's cases. Written by p18.py -/
set_option maxHeartbeats 4000000 in
set_option maxRecDepth 100000 in
theorem l_ask {p : Program} {e : Env} {s : State} {m : MethodId} {below : List Frame} {meth : Method} {c : Code} {b L : Nat} {xs : Nat → Int32} {dC : Nat → ClassId} {dI : Nat → Nat → Nat} {dA : Nat → ClassId} (l : Launch) (hl9 : l.stackTraces = false) (C0 : lwX p s m meth c b L xs dC dI dA) {Q : State → Prop} {M : gM} {H : Heap} {locs : List Loc} {ls : Array Slot} {o mo ou : Nat} {hs lt lw : Int32} {cn : Nat} {σ : Nat → Rq} {i ce sl : Nat} (hi : i + 7 ≤ L) (hS : lwS dA M o mo ou hs lt lw cn σ) (hB : gB (dC, dI) gcl s.heap.size M s.heap H locs) (hl : lv_has ls 7 (lwL b o mo ou i)) (hce : ce + 2 ≤ 601024) (hsl : sl + 18 ≤ 7293000) (kk : ∀ (M : gM) (H : Heap) (locs : List Loc) (lt lw : Int32) (cn : Nat) (σ : Nat → Rq) (ls : Array Slot), lwS dA M o mo ou hs lt lw cn σ → gB (dC, dI) gcl s.heap.size M s.heap H locs → lv_has ls 7 (lwL b o mo ou i) → W p l e room_1 s m #[Value.ref b] below meth c H locs (ce + 2) (sl + 18) Q (F0 m 797 ls [])) : W p l e room_1 s m #[Value.ref b] below meth c H locs ce sl Q (F0 m 120 ls []) := by
  obtain ⟨hF, hr, hlocks, hKA, hY, hX, hbl, hL⟩ := id C0
  obtain ⟨hx, hb, hml, hown, hts⟩ := id hF
  have hK := hKA.1
  have hbA : ¬ (fun q : Nat => s.heap.size ≤ q) b := Nat.not_le.mpr hbl
  obtain ⟨⟨ar, ra, sa, la, hR⟩, ⟨ad, th, f, hm⟩, hO, hh, hI⟩ := hS
  have h100 := hR.c100
  have hl : lv_has ls 7 [(4, .int (nI i)), (3, .ref ou), (2, .ref mo), (1, .ref o), (0, .ref b)] := hl
  refine lv_aload_n hx hb dW_law_120 rfl (lv_at hl 3 rfl) ?_
  refine lv_aload_n hx hb dW_law_121 rfl (lv_at hl 4 rfl) ?_
  refine lv_iload hx hb dW_law_122 (lv_at hl 0 rfl) ?_
  refine lv_iconst (v := 1) hx hb dW_law_124 (by decide) ?_
  refine lv_iadd hx hb dW_law_125 ?_
  rw [gN1 i]
  refine va_sld hx hb hX hbl hbA hB.2.2 (vp_in_nI (show (i + 1) < L by omega) (by omega)) dW_law_126 ?_
  rw [nI_clamp (show (i + 1) < 2 ^ 31 by omega)]
  refine lv_aload_n hx hb dW_law_127 rfl (lv_at hl 4 rfl) ?_
  refine lv_iload hx hb dW_law_128 (lv_at hl 0 rfl) ?_
  refine lv_iconst (v := 2) hx hb dW_law_130 (by decide) ?_
  refine lv_iadd hx hb dW_law_131 ?_
  rw [gN2 i]
  refine va_sld hx hb hX hbl hbA hB.2.2 (vp_in_nI (show (i + 2) < L by omega) (by omega)) dW_law_132 ?_
  rw [nI_clamp (show (i + 2) < 2 ^ 31 by omega)]
  refine gEndi (gRunV hF (c_I_ask l dC dI dA s.heap.size M M o ar ra sa la hs lt lw cn σ hR (xs (i + 1)) (xs (i + 2))) ln_W_34 hKA hB hR.top rfl rfl hl.1 rfl (Nat.le_of_ble_eq_true rfl) dW_law_133 ⟨rfl, rfl, (Nat.le_of_ble_eq_true rfl), (Nat.le_of_ble_eq_true rfl)⟩ ⟨show ce + 2 ≤ 601024 by omega, show sl + 18 ≤ 7293000 by omega⟩) hB (fun y1 M1 H locs hp hB => ?_)
  obtain ⟨ra1, sa1, la1, hR1, e1⟩ := hp
  subst e1
  have hm1 := hm.keep hR1.fr.mk
  refine lv_aload_n hx hb dW_law_136 rfl (lv_at hl 2 rfl) ?_
  refine lv_aload_n hx hb dW_law_137 rfl (lv_at hl 4 rfl) ?_
  refine lv_iload hx hb dW_law_138 (lv_at hl 0 rfl) ?_
  refine lv_iconst (v := 1) hx hb dW_law_140 (by decide) ?_
  refine lv_iadd hx hb dW_law_141 ?_
  rw [gN1 i]
  refine va_sld hx hb hX hbl hbA hB.2.2 (vp_in_nI (show (i + 1) < L by omega) (by omega)) dW_law_142 ?_
  rw [nI_clamp (show (i + 1) < 2 ^ 31 by omega)]
  refine lv_aload_n hx hb dW_law_143 rfl (lv_at hl 4 rfl) ?_
  refine lv_iload hx hb dW_law_144 (lv_at hl 0 rfl) ?_
  refine lv_iconst (v := 2) hx hb dW_law_146 (by decide) ?_
  refine lv_iadd hx hb dW_law_147 ?_
  rw [gN2 i]
  refine va_sld hx hb hX hbl hbA hB.2.2 (vp_in_nI (show (i + 2) < L by omega) (by omega)) dW_law_148 ?_
  rw [nI_clamp (show (i + 2) < 2 ^ 31 by omega)]
  refine gEndi (gRunV hF (c_M_ask l dC dI dA s.heap.size M1 M1 mo ad th lt hs lw cn σ f hm1 hh hI.2 (xs (i + 1)) (xs (i + 2))) ln_W_37 hKA hB hm1.top rfl rfl hl.1 rfl (Nat.le_of_ble_eq_true rfl) dW_law_149 ⟨rfl, rfl, (Nat.le_of_ble_eq_true rfl), (Nat.le_of_ble_eq_true rfl)⟩ ⟨show ce + 2 + 0 ≤ 601024 by omega, show sl + 18 + 0 ≤ 7293000 by omega⟩) hB (fun y2 M2 H locs hp hB => ?_)
  obtain ⟨f1, hm2, e2⟩ := hp
  subst e2
  have hR2 := hR1.keep hm2.1.ck
  refine lv_icmp_eq (tgt := 797) hx hb dW_law_152 (by decide) (fun c152 => ?_) (fun c152 => ?_)
  · refine W.widen (k := ce + 2) (n := sl + 18) (by omega) (by omega) ?_
    exact kk M2 H locs _ _ _ _ ls ⟨⟨ar, ra1, sa1, la1, hR2⟩, ⟨ad, 0, f1, hm2.base⟩, (hO.F hR1.fr).Fm hm2.1, hh, gI_ask hI _ _⟩ hB hl
  · exact (c152 rfl).elim
set_option maxHeartbeats 4000000 in
set_option maxRecDepth 100000 in
theorem l_lender {p : Program} {e : Env} {s : State} {m : MethodId} {below : List Frame} {meth : Method} {c : Code} {b L : Nat} {xs : Nat → Int32} {dC : Nat → ClassId} {dI : Nat → Nat → Nat} {dA : Nat → ClassId} (l : Launch) (hl9 : l.stackTraces = false) (C0 : lwX p s m meth c b L xs dC dI dA) {Q : State → Prop} {M : gM} {H : Heap} {locs : List Loc} {ls : Array Slot} {o mo ou : Nat} {hs lt lw : Int32} {cn : Nat} {σ : Nat → Rq} {i ce sl : Nat} (hi : i + 7 ≤ L) (hS : lwS dA M o mo ou hs lt lw cn σ) (hB : gB (dC, dI) gcl s.heap.size M s.heap H locs) (hl : lv_has ls 7 (lwL b o mo ou i)) (hce : ce + 2 ≤ 601024) (hsl : sl + 18 ≤ 7293000) (kk : ∀ (M : gM) (H : Heap) (locs : List Loc) (lt lw : Int32) (cn : Nat) (σ : Nat → Rq) (ls : Array Slot), lwS dA M o mo ou hs lt lw cn σ → gB (dC, dI) gcl s.heap.size M s.heap H locs → lv_has ls 7 (lwL b o mo ou i) → W p l e room_1 s m #[Value.ref b] below meth c H locs (ce + 2) (sl + 18) Q (F0 m 797 ls [])) : W p l e room_1 s m #[Value.ref b] below meth c H locs ce sl Q (F0 m 157 ls []) := by
  obtain ⟨hF, hr, hlocks, hKA, hY, hX, hbl, hL⟩ := id C0
  obtain ⟨hx, hb, hml, hown, hts⟩ := id hF
  have hK := hKA.1
  have hbA : ¬ (fun q : Nat => s.heap.size ≤ q) b := Nat.not_le.mpr hbl
  obtain ⟨⟨ar, ra, sa, la, hR⟩, ⟨ad, th, f, hm⟩, hO, hh, hI⟩ := hS
  have h100 := hR.c100
  have hl : lv_has ls 7 [(4, .int (nI i)), (3, .ref ou), (2, .ref mo), (1, .ref o), (0, .ref b)] := hl
  refine lv_aload_n hx hb dW_law_157 rfl (lv_at hl 3 rfl) ?_
  refine lv_aload_n hx hb dW_law_158 rfl (lv_at hl 4 rfl) ?_
  refine lv_iload hx hb dW_law_159 (lv_at hl 0 rfl) ?_
  refine lv_iconst (v := 1) hx hb dW_law_161 (by decide) ?_
  refine lv_iadd hx hb dW_law_162 ?_
  rw [gN1 i]
  refine va_sld hx hb hX hbl hbA hB.2.2 (vp_in_nI (show (i + 1) < L by omega) (by omega)) dW_law_163 ?_
  rw [nI_clamp (show (i + 1) < 2 ^ 31 by omega)]
  refine lv_aload_n hx hb dW_law_164 rfl (lv_at hl 4 rfl) ?_
  refine lv_iload hx hb dW_law_165 (lv_at hl 0 rfl) ?_
  refine lv_iconst (v := 2) hx hb dW_law_167 (by decide) ?_
  refine lv_iadd hx hb dW_law_168 ?_
  rw [gN2 i]
  refine va_sld hx hb hX hbl hbA hB.2.2 (vp_in_nI (show (i + 2) < L by omega) (by omega)) dW_law_169 ?_
  rw [nI_clamp (show (i + 2) < 2 ^ 31 by omega)]
  refine gEndi (gRunV hF (c_I_lender l dC dI dA s.heap.size M M o ar ra sa la hs lt lw cn σ hR (xs (i + 1)) (xs (i + 2))) ln_W_38 hKA hB hR.top rfl rfl hl.1 rfl (Nat.le_of_ble_eq_true rfl) dW_law_170 ⟨rfl, rfl, (Nat.le_of_ble_eq_true rfl), (Nat.le_of_ble_eq_true rfl)⟩ ⟨show ce + 1 ≤ 601024 by omega, show sl + 4 ≤ 7293000 by omega⟩) hB (fun y1 M1 H locs hp hB => ?_)
  obtain ⟨ra1, sa1, la1, hR1, e1⟩ := hp
  subst e1
  have hm1 := hm.keep hR1.fr.mk
  refine lv_aload_n hx hb dW_law_173 rfl (lv_at hl 2 rfl) ?_
  refine lv_aload_n hx hb dW_law_174 rfl (lv_at hl 4 rfl) ?_
  refine lv_iload hx hb dW_law_175 (lv_at hl 0 rfl) ?_
  refine lv_iconst (v := 1) hx hb dW_law_177 (by decide) ?_
  refine lv_iadd hx hb dW_law_178 ?_
  rw [gN1 i]
  refine va_sld hx hb hX hbl hbA hB.2.2 (vp_in_nI (show (i + 1) < L by omega) (by omega)) dW_law_179 ?_
  rw [nI_clamp (show (i + 1) < 2 ^ 31 by omega)]
  refine lv_aload_n hx hb dW_law_180 rfl (lv_at hl 4 rfl) ?_
  refine lv_iload hx hb dW_law_181 (lv_at hl 0 rfl) ?_
  refine lv_iconst (v := 2) hx hb dW_law_183 (by decide) ?_
  refine lv_iadd hx hb dW_law_184 ?_
  rw [gN2 i]
  refine va_sld hx hb hX hbl hbA hB.2.2 (vp_in_nI (show (i + 2) < L by omega) (by omega)) dW_law_185 ?_
  rw [nI_clamp (show (i + 2) < 2 ^ 31 by omega)]
  refine gEndi (gRunV hF (c_M_lender l dC dI dA s.heap.size M1 M1 mo ad th lt hs lw cn σ f hm1 hh hI.2 (xs (i + 1)) (xs (i + 2))) ln_W_41 hKA hB hm1.top rfl rfl hl.1 rfl (Nat.le_of_ble_eq_true rfl) dW_law_186 ⟨rfl, rfl, (Nat.le_of_ble_eq_true rfl), (Nat.le_of_ble_eq_true rfl)⟩ ⟨show ce + 1 + 0 ≤ 601024 by omega, show sl + 4 + 0 ≤ 7293000 by omega⟩) hB (fun y2 M2 H locs hp hB => ?_)
  obtain ⟨f1, hm2, e2⟩ := hp
  subst e2
  have hR2 := hR1.keep hm2.1.ck
  refine lv_icmp_eq (tgt := 797) hx hb dW_law_189 (by decide) (fun c189 => ?_) (fun c189 => ?_)
  · refine W.widen (k := ce + 2) (n := sl + 18) (by omega) (by omega) ?_
    exact kk M2 H locs _ _ _ _ ls ⟨⟨ar, ra1, sa1, la1, hR2⟩, ⟨ad, 0, f1, hm2.base⟩, (hO.F hR1.fr).Fm hm2.1, hh, gI_lender hI h100 _ _⟩ hB hl
  · exact (c189 rfl).elim
set_option maxHeartbeats 4000000 in
set_option maxRecDepth 100000 in
theorem l_send {p : Program} {e : Env} {s : State} {m : MethodId} {below : List Frame} {meth : Method} {c : Code} {b L : Nat} {xs : Nat → Int32} {dC : Nat → ClassId} {dI : Nat → Nat → Nat} {dA : Nat → ClassId} (l : Launch) (hl9 : l.stackTraces = false) (C0 : lwX p s m meth c b L xs dC dI dA) {Q : State → Prop} {M : gM} {H : Heap} {locs : List Loc} {ls : Array Slot} {o mo ou : Nat} {hs lt lw : Int32} {cn : Nat} {σ : Nat → Rq} {i ce sl : Nat} (hi : i + 7 ≤ L) (hS : lwS dA M o mo ou hs lt lw cn σ) (hB : gB (dC, dI) gcl s.heap.size M s.heap H locs) (hl : lv_has ls 7 (lwL b o mo ou i)) (hce : ce + 2 ≤ 601024) (hsl : sl + 18 ≤ 7293000) (kk : ∀ (M : gM) (H : Heap) (locs : List Loc) (lt lw : Int32) (cn : Nat) (σ : Nat → Rq) (ls : Array Slot), lwS dA M o mo ou hs lt lw cn σ → gB (dC, dI) gcl s.heap.size M s.heap H locs → lv_has ls 7 (lwL b o mo ou i) → W p l e room_1 s m #[Value.ref b] below meth c H locs (ce + 2) (sl + 18) Q (F0 m 797 ls [])) : W p l e room_1 s m #[Value.ref b] below meth c H locs ce sl Q (F0 m 194 ls []) := by
  obtain ⟨hF, hr, hlocks, hKA, hY, hX, hbl, hL⟩ := id C0
  obtain ⟨hx, hb, hml, hown, hts⟩ := id hF
  have hK := hKA.1
  have hbA : ¬ (fun q : Nat => s.heap.size ≤ q) b := Nat.not_le.mpr hbl
  obtain ⟨⟨ar, ra, sa, la, hR⟩, ⟨ad, th, f, hm⟩, hO, hh, hI⟩ := hS
  have h100 := hR.c100
  have hl : lv_has ls 7 [(4, .int (nI i)), (3, .ref ou), (2, .ref mo), (1, .ref o), (0, .ref b)] := hl
  refine lv_aload_n hx hb dW_law_194 rfl (lv_at hl 3 rfl) ?_
  refine lv_aload_n hx hb dW_law_195 rfl (lv_at hl 4 rfl) ?_
  refine lv_iload hx hb dW_law_196 (lv_at hl 0 rfl) ?_
  refine lv_iconst (v := 1) hx hb dW_law_198 (by decide) ?_
  refine lv_iadd hx hb dW_law_199 ?_
  rw [gN1 i]
  refine va_sld hx hb hX hbl hbA hB.2.2 (vp_in_nI (show (i + 1) < L by omega) (by omega)) dW_law_200 ?_
  rw [nI_clamp (show (i + 1) < 2 ^ 31 by omega)]
  refine lv_aload_n hx hb dW_law_201 rfl (lv_at hl 4 rfl) ?_
  refine lv_iload hx hb dW_law_202 (lv_at hl 0 rfl) ?_
  refine lv_iconst (v := 2) hx hb dW_law_204 (by decide) ?_
  refine lv_iadd hx hb dW_law_205 ?_
  rw [gN2 i]
  refine va_sld hx hb hX hbl hbA hB.2.2 (vp_in_nI (show (i + 2) < L by omega) (by omega)) dW_law_206 ?_
  rw [nI_clamp (show (i + 2) < 2 ^ 31 by omega)]
  refine gEndi (gRunV hF (c_I_send l dC dI dA s.heap.size M M o ar ra sa la hs lt lw cn σ hR (xs (i + 1)) (xs (i + 2))) ln_W_42 hKA hB hR.top rfl rfl hl.1 rfl (Nat.le_of_ble_eq_true rfl) dW_law_207 ⟨rfl, rfl, (Nat.le_of_ble_eq_true rfl), (Nat.le_of_ble_eq_true rfl)⟩ ⟨show ce + 0 ≤ 601024 by omega, show sl + 0 ≤ 7293000 by omega⟩) hB (fun y1 M1 H locs hp hB => ?_)
  obtain ⟨hR1, e1⟩ := hp
  subst e1
  have hm1 := hm.keep hR1.fr.mk
  refine lv_aload_n hx hb dW_law_210 rfl (lv_at hl 2 rfl) ?_
  refine lv_aload_n hx hb dW_law_211 rfl (lv_at hl 4 rfl) ?_
  refine lv_iload hx hb dW_law_212 (lv_at hl 0 rfl) ?_
  refine lv_iconst (v := 1) hx hb dW_law_214 (by decide) ?_
  refine lv_iadd hx hb dW_law_215 ?_
  rw [gN1 i]
  refine va_sld hx hb hX hbl hbA hB.2.2 (vp_in_nI (show (i + 1) < L by omega) (by omega)) dW_law_216 ?_
  rw [nI_clamp (show (i + 1) < 2 ^ 31 by omega)]
  refine lv_aload_n hx hb dW_law_217 rfl (lv_at hl 4 rfl) ?_
  refine lv_iload hx hb dW_law_218 (lv_at hl 0 rfl) ?_
  refine lv_iconst (v := 2) hx hb dW_law_220 (by decide) ?_
  refine lv_iadd hx hb dW_law_221 ?_
  rw [gN2 i]
  refine va_sld hx hb hX hbl hbA hB.2.2 (vp_in_nI (show (i + 2) < L by omega) (by omega)) dW_law_222 ?_
  rw [nI_clamp (show (i + 2) < 2 ^ 31 by omega)]
  refine gEndi (gRunV hF (c_M_send l dC dI dA s.heap.size M1 M1 mo ad th lt hs lw cn σ f hm1 hh hI.2 (xs (i + 1)) (xs (i + 2))) ln_W_45 hKA hB hm1.top rfl rfl hl.1 rfl (Nat.le_of_ble_eq_true rfl) dW_law_223 ⟨rfl, rfl, (Nat.le_of_ble_eq_true rfl), (Nat.le_of_ble_eq_true rfl)⟩ ⟨show ce + 0 + 0 ≤ 601024 by omega, show sl + 0 + 0 ≤ 7293000 by omega⟩) hB (fun y2 M2 H locs hp hB => ?_)
  obtain ⟨f1, hm2, e2⟩ := hp
  subst e2
  have hR2 := hR1.keep hm2.1.ck
  refine lv_icmp_eq (tgt := 797) hx hb dW_law_226 (by decide) (fun c226 => ?_) (fun c226 => ?_)
  · refine W.widen (k := ce + 2) (n := sl + 18) (by omega) (by omega) ?_
    exact kk M2 H locs _ _ _ _ ls ⟨⟨ar, ra, sa, la, hR2⟩, ⟨ad, 0, f1, hm2.base⟩, (hO.F hR1.fr).Fm hm2.1, hh, gI_send hI h100 _ _⟩ hB hl
  · exact (c226 rfl).elim
set_option maxHeartbeats 4000000 in
set_option maxRecDepth 100000 in
theorem l_message {p : Program} {e : Env} {s : State} {m : MethodId} {below : List Frame} {meth : Method} {c : Code} {b L : Nat} {xs : Nat → Int32} {dC : Nat → ClassId} {dI : Nat → Nat → Nat} {dA : Nat → ClassId} (l : Launch) (hl9 : l.stackTraces = false) (C0 : lwX p s m meth c b L xs dC dI dA) {Q : State → Prop} {M : gM} {H : Heap} {locs : List Loc} {ls : Array Slot} {o mo ou : Nat} {hs lt lw : Int32} {cn : Nat} {σ : Nat → Rq} {i ce sl : Nat} (hi : i + 7 ≤ L) (hS : lwS dA M o mo ou hs lt lw cn σ) (hB : gB (dC, dI) gcl s.heap.size M s.heap H locs) (hl : lv_has ls 7 (lwL b o mo ou i)) (hce : ce + 2 ≤ 601024) (hsl : sl + 18 ≤ 7293000) (kk : ∀ (M : gM) (H : Heap) (locs : List Loc) (lt lw : Int32) (cn : Nat) (σ : Nat → Rq) (ls : Array Slot), lwS dA M o mo ou hs lt lw cn σ → gB (dC, dI) gcl s.heap.size M s.heap H locs → lv_has ls 7 (lwL b o mo ou i) → W p l e room_1 s m #[Value.ref b] below meth c H locs (ce + 2) (sl + 18) Q (F0 m 797 ls [])) : W p l e room_1 s m #[Value.ref b] below meth c H locs ce sl Q (F0 m 231 ls []) := by
  obtain ⟨hF, hr, hlocks, hKA, hY, hX, hbl, hL⟩ := id C0
  obtain ⟨hx, hb, hml, hown, hts⟩ := id hF
  have hK := hKA.1
  have hbA : ¬ (fun q : Nat => s.heap.size ≤ q) b := Nat.not_le.mpr hbl
  obtain ⟨⟨ar, ra, sa, la, hR⟩, ⟨ad, th, f, hm⟩, hO, hh, hI⟩ := hS
  have h100 := hR.c100
  have hl : lv_has ls 7 [(4, .int (nI i)), (3, .ref ou), (2, .ref mo), (1, .ref o), (0, .ref b)] := hl
  refine lv_aload_n hx hb dW_law_231 rfl (lv_at hl 3 rfl) ?_
  refine lv_aload_n hx hb dW_law_232 rfl (lv_at hl 4 rfl) ?_
  refine lv_iload hx hb dW_law_233 (lv_at hl 0 rfl) ?_
  refine lv_iconst (v := 1) hx hb dW_law_235 (by decide) ?_
  refine lv_iadd hx hb dW_law_236 ?_
  rw [gN1 i]
  refine va_sld hx hb hX hbl hbA hB.2.2 (vp_in_nI (show (i + 1) < L by omega) (by omega)) dW_law_237 ?_
  rw [nI_clamp (show (i + 1) < 2 ^ 31 by omega)]
  refine lv_aload_n hx hb dW_law_238 rfl (lv_at hl 4 rfl) ?_
  refine lv_iload hx hb dW_law_239 (lv_at hl 0 rfl) ?_
  refine lv_iconst (v := 2) hx hb dW_law_241 (by decide) ?_
  refine lv_iadd hx hb dW_law_242 ?_
  rw [gN2 i]
  refine va_sld hx hb hX hbl hbA hB.2.2 (vp_in_nI (show (i + 2) < L by omega) (by omega)) dW_law_243 ?_
  rw [nI_clamp (show (i + 2) < 2 ^ 31 by omega)]
  refine lv_aload_n hx hb dW_law_244 rfl (lv_at hl 4 rfl) ?_
  refine lv_iload hx hb dW_law_245 (lv_at hl 0 rfl) ?_
  refine lv_iconst (v := 3) hx hb dW_law_247 (by decide) ?_
  refine lv_iadd hx hb dW_law_248 ?_
  rw [gN3 i]
  refine va_sld hx hb hX hbl hbA hB.2.2 (vp_in_nI (show (i + 3) < L by omega) (by omega)) dW_law_249 ?_
  rw [nI_clamp (show (i + 3) < 2 ^ 31 by omega)]
  refine lv_aload_n hx hb dW_law_250 rfl (lv_at hl 4 rfl) ?_
  refine lv_iload hx hb dW_law_251 (lv_at hl 0 rfl) ?_
  refine lv_iconst (v := 4) hx hb dW_law_253 (by decide) ?_
  refine lv_iadd hx hb dW_law_254 ?_
  rw [gN4 i]
  refine va_sld hx hb hX hbl hbA hB.2.2 (vp_in_nI (show (i + 4) < L by omega) (by omega)) dW_law_255 ?_
  rw [nI_clamp (show (i + 4) < 2 ^ 31 by omega)]
  refine lv_aload_n hx hb dW_law_256 rfl (lv_at hl 4 rfl) ?_
  refine lv_iload hx hb dW_law_257 (lv_at hl 0 rfl) ?_
  refine lv_iconst (v := 5) hx hb dW_law_259 (by decide) ?_
  refine lv_iadd hx hb dW_law_260 ?_
  rw [gN5 i]
  refine va_sld hx hb hX hbl hbA hB.2.2 (vp_in_nI (show (i + 5) < L by omega) (by omega)) dW_law_261 ?_
  rw [nI_clamp (show (i + 5) < 2 ^ 31 by omega)]
  refine lv_aload_n hx hb dW_law_262 rfl (lv_at hl 4 rfl) ?_
  refine lv_iload hx hb dW_law_263 (lv_at hl 0 rfl) ?_
  refine lv_bipush (v := 6) hx hb dW_law_265 (by decide) ?_
  refine lv_iadd hx hb dW_law_267 ?_
  rw [gN6 i]
  refine va_sld hx hb hX hbl hbA hB.2.2 (vp_in_nI (show (i + 6) < L by omega) (by omega)) dW_law_268 ?_
  rw [nI_clamp (show (i + 6) < 2 ^ 31 by omega)]
  refine gEndi (gRunV hF (c_I_message l dC dI dA s.heap.size M M o ar ra sa la hs lt lw cn σ hR (xs (i + 1)) (xs (i + 2)) (xs (i + 3)) (xs (i + 4)) (xs (i + 5)) (xs (i + 6))) ln_W_46 hKA hB hR.top rfl rfl hl.1 rfl (Nat.le_of_ble_eq_true rfl) dW_law_269 ⟨rfl, rfl, (Nat.le_of_ble_eq_true rfl), (Nat.le_of_ble_eq_true rfl)⟩ ⟨show ce + 0 ≤ 601024 by omega, show sl + 0 ≤ 7293000 by omega⟩) hB (fun y1 M1 H locs hp hB => ?_)
  obtain ⟨hR1, e1⟩ := hp
  subst e1
  have hm1 := hm.keep hR1.fr.mk
  refine lv_aload_n hx hb dW_law_272 rfl (lv_at hl 2 rfl) ?_
  refine lv_aload_n hx hb dW_law_273 rfl (lv_at hl 4 rfl) ?_
  refine lv_iload hx hb dW_law_274 (lv_at hl 0 rfl) ?_
  refine lv_iconst (v := 1) hx hb dW_law_276 (by decide) ?_
  refine lv_iadd hx hb dW_law_277 ?_
  rw [gN1 i]
  refine va_sld hx hb hX hbl hbA hB.2.2 (vp_in_nI (show (i + 1) < L by omega) (by omega)) dW_law_278 ?_
  rw [nI_clamp (show (i + 1) < 2 ^ 31 by omega)]
  refine lv_aload_n hx hb dW_law_279 rfl (lv_at hl 4 rfl) ?_
  refine lv_iload hx hb dW_law_280 (lv_at hl 0 rfl) ?_
  refine lv_iconst (v := 2) hx hb dW_law_282 (by decide) ?_
  refine lv_iadd hx hb dW_law_283 ?_
  rw [gN2 i]
  refine va_sld hx hb hX hbl hbA hB.2.2 (vp_in_nI (show (i + 2) < L by omega) (by omega)) dW_law_284 ?_
  rw [nI_clamp (show (i + 2) < 2 ^ 31 by omega)]
  refine lv_aload_n hx hb dW_law_285 rfl (lv_at hl 4 rfl) ?_
  refine lv_iload hx hb dW_law_286 (lv_at hl 0 rfl) ?_
  refine lv_iconst (v := 3) hx hb dW_law_288 (by decide) ?_
  refine lv_iadd hx hb dW_law_289 ?_
  rw [gN3 i]
  refine va_sld hx hb hX hbl hbA hB.2.2 (vp_in_nI (show (i + 3) < L by omega) (by omega)) dW_law_290 ?_
  rw [nI_clamp (show (i + 3) < 2 ^ 31 by omega)]
  refine lv_aload_n hx hb dW_law_291 rfl (lv_at hl 4 rfl) ?_
  refine lv_iload hx hb dW_law_292 (lv_at hl 0 rfl) ?_
  refine lv_iconst (v := 4) hx hb dW_law_294 (by decide) ?_
  refine lv_iadd hx hb dW_law_295 ?_
  rw [gN4 i]
  refine va_sld hx hb hX hbl hbA hB.2.2 (vp_in_nI (show (i + 4) < L by omega) (by omega)) dW_law_296 ?_
  rw [nI_clamp (show (i + 4) < 2 ^ 31 by omega)]
  refine lv_aload_n hx hb dW_law_297 rfl (lv_at hl 4 rfl) ?_
  refine lv_iload hx hb dW_law_298 (lv_at hl 0 rfl) ?_
  refine lv_iconst (v := 5) hx hb dW_law_300 (by decide) ?_
  refine lv_iadd hx hb dW_law_301 ?_
  rw [gN5 i]
  refine va_sld hx hb hX hbl hbA hB.2.2 (vp_in_nI (show (i + 5) < L by omega) (by omega)) dW_law_302 ?_
  rw [nI_clamp (show (i + 5) < 2 ^ 31 by omega)]
  refine lv_aload_n hx hb dW_law_303 rfl (lv_at hl 4 rfl) ?_
  refine lv_iload hx hb dW_law_304 (lv_at hl 0 rfl) ?_
  refine lv_bipush (v := 6) hx hb dW_law_306 (by decide) ?_
  refine lv_iadd hx hb dW_law_308 ?_
  rw [gN6 i]
  refine va_sld hx hb hX hbl hbA hB.2.2 (vp_in_nI (show (i + 6) < L by omega) (by omega)) dW_law_309 ?_
  rw [nI_clamp (show (i + 6) < 2 ^ 31 by omega)]
  refine gEndi (gRunV hF (c_M_message l dC dI dA s.heap.size M1 M1 mo ad th lt hs lw cn σ f hm1 hh hI.2 (xs (i + 1)) (xs (i + 2)) (xs (i + 3)) (xs (i + 4)) (xs (i + 5)) (xs (i + 6))) ln_W_50 hKA hB hm1.top rfl rfl hl.1 rfl (Nat.le_of_ble_eq_true rfl) dW_law_310 ⟨rfl, rfl, (Nat.le_of_ble_eq_true rfl), (Nat.le_of_ble_eq_true rfl)⟩ ⟨show ce + 0 + 0 ≤ 601024 by omega, show sl + 0 + 0 ≤ 7293000 by omega⟩) hB (fun y2 M2 H locs hp hB => ?_)
  obtain ⟨f1, hm2, e2⟩ := hp
  subst e2
  have hR2 := hR1.keep hm2.1.ck
  refine lv_icmp_eq (tgt := 797) hx hb dW_law_313 (by decide) (fun c313 => ?_) (fun c313 => ?_)
  · refine W.widen (k := ce + 2) (n := sl + 18) (by omega) (by omega) ?_
    exact kk M2 H locs _ _ _ _ ls ⟨⟨ar, ra, sa, la, hR2⟩, ⟨ad, 0, f1, hm2.base⟩, (hO.F hR1.fr).Fm hm2.1, hh, gI_message hI h100 _ _ _ _ _ _⟩ hB hl
  · exact (c313 rfl).elim
set_option maxHeartbeats 4000000 in
set_option maxRecDepth 100000 in
theorem l_condition {p : Program} {e : Env} {s : State} {m : MethodId} {below : List Frame} {meth : Method} {c : Code} {b L : Nat} {xs : Nat → Int32} {dC : Nat → ClassId} {dI : Nat → Nat → Nat} {dA : Nat → ClassId} (l : Launch) (hl9 : l.stackTraces = false) (C0 : lwX p s m meth c b L xs dC dI dA) {Q : State → Prop} {M : gM} {H : Heap} {locs : List Loc} {ls : Array Slot} {o mo ou : Nat} {hs lt lw : Int32} {cn : Nat} {σ : Nat → Rq} {i ce sl : Nat} (hi : i + 7 ≤ L) (hS : lwS dA M o mo ou hs lt lw cn σ) (hB : gB (dC, dI) gcl s.heap.size M s.heap H locs) (hl : lv_has ls 7 (lwL b o mo ou i)) (hce : ce + 2 ≤ 601024) (hsl : sl + 18 ≤ 7293000) (kk : ∀ (M : gM) (H : Heap) (locs : List Loc) (lt lw : Int32) (cn : Nat) (σ : Nat → Rq) (ls : Array Slot), lwS dA M o mo ou hs lt lw cn σ → gB (dC, dI) gcl s.heap.size M s.heap H locs → lv_has ls 7 (lwL b o mo ou i) → W p l e room_1 s m #[Value.ref b] below meth c H locs (ce + 2) (sl + 18) Q (F0 m 797 ls [])) : W p l e room_1 s m #[Value.ref b] below meth c H locs ce sl Q (F0 m 318 ls []) := by
  obtain ⟨hF, hr, hlocks, hKA, hY, hX, hbl, hL⟩ := id C0
  obtain ⟨hx, hb, hml, hown, hts⟩ := id hF
  have hK := hKA.1
  have hbA : ¬ (fun q : Nat => s.heap.size ≤ q) b := Nat.not_le.mpr hbl
  obtain ⟨⟨ar, ra, sa, la, hR⟩, ⟨ad, th, f, hm⟩, hO, hh, hI⟩ := hS
  have h100 := hR.c100
  have hl : lv_has ls 7 [(4, .int (nI i)), (3, .ref ou), (2, .ref mo), (1, .ref o), (0, .ref b)] := hl
  refine lv_aload_n hx hb dW_law_318 rfl (lv_at hl 3 rfl) ?_
  refine lv_aload_n hx hb dW_law_319 rfl (lv_at hl 4 rfl) ?_
  refine lv_iload hx hb dW_law_320 (lv_at hl 0 rfl) ?_
  refine lv_iconst (v := 1) hx hb dW_law_322 (by decide) ?_
  refine lv_iadd hx hb dW_law_323 ?_
  rw [gN1 i]
  refine va_sld hx hb hX hbl hbA hB.2.2 (vp_in_nI (show (i + 1) < L by omega) (by omega)) dW_law_324 ?_
  rw [nI_clamp (show (i + 1) < 2 ^ 31 by omega)]
  refine lv_aload_n hx hb dW_law_325 rfl (lv_at hl 4 rfl) ?_
  refine lv_iload hx hb dW_law_326 (lv_at hl 0 rfl) ?_
  refine lv_iconst (v := 2) hx hb dW_law_328 (by decide) ?_
  refine lv_iadd hx hb dW_law_329 ?_
  rw [gN2 i]
  refine va_sld hx hb hX hbl hbA hB.2.2 (vp_in_nI (show (i + 2) < L by omega) (by omega)) dW_law_330 ?_
  rw [nI_clamp (show (i + 2) < 2 ^ 31 by omega)]
  refine lv_if_eq (tgt := 338) hx hb dW_law_331 (by decide) (fun c331 => ?_) (fun c331 => ?_)
  · refine lv_iconst (v := 0) hx hb dW_law_338 (by decide) ?_
    refine lv_aload_n hx hb dW_law_339 rfl (lv_at hl 4 rfl) ?_
    refine lv_iload hx hb dW_law_340 (lv_at hl 0 rfl) ?_
    refine lv_iconst (v := 3) hx hb dW_law_342 (by decide) ?_
    refine lv_iadd hx hb dW_law_343 ?_
    rw [gN3 i]
    refine va_sld hx hb hX hbl hbA hB.2.2 (vp_in_nI (show (i + 3) < L by omega) (by omega)) dW_law_344 ?_
    rw [nI_clamp (show (i + 3) < 2 ^ 31 by omega)]
    refine gEndi (gRunV hF (c_I_condition l dC dI dA s.heap.size M M o ar ra sa la hs lt lw cn σ hR (xs (i + 1)) 0 (xs (i + 3))) ln_W_51 hKA hB hR.top rfl rfl hl.1 rfl (Nat.le_of_ble_eq_true rfl) dW_law_345 ⟨rfl, rfl, (Nat.le_of_ble_eq_true rfl), (Nat.le_of_ble_eq_true rfl)⟩ ⟨show ce + 0 ≤ 601024 by omega, show sl + 0 ≤ 7293000 by omega⟩) hB (fun y1 M1 H locs hp hB => ?_)
    obtain ⟨hR1, e1⟩ := hp
    subst e1
    have hm1 := hm.keep hR1.fr.mk
    refine lv_aload_n hx hb dW_law_348 rfl (lv_at hl 2 rfl) ?_
    refine lv_aload_n hx hb dW_law_349 rfl (lv_at hl 4 rfl) ?_
    refine lv_iload hx hb dW_law_350 (lv_at hl 0 rfl) ?_
    refine lv_iconst (v := 1) hx hb dW_law_352 (by decide) ?_
    refine lv_iadd hx hb dW_law_353 ?_
    rw [gN1 i]
    refine va_sld hx hb hX hbl hbA hB.2.2 (vp_in_nI (show (i + 1) < L by omega) (by omega)) dW_law_354 ?_
    rw [nI_clamp (show (i + 1) < 2 ^ 31 by omega)]
    refine lv_aload_n hx hb dW_law_355 rfl (lv_at hl 4 rfl) ?_
    refine lv_iload hx hb dW_law_356 (lv_at hl 0 rfl) ?_
    refine lv_iconst (v := 2) hx hb dW_law_358 (by decide) ?_
    refine lv_iadd hx hb dW_law_359 ?_
    rw [gN2 i]
    refine va_sld hx hb hX hbl hbA hB.2.2 (vp_in_nI (show (i + 2) < L by omega) (by omega)) dW_law_360 ?_
    rw [nI_clamp (show (i + 2) < 2 ^ 31 by omega)]
    refine lv_if_eq (tgt := 368) hx hb dW_law_361 (by decide) (fun c361 => ?_) (fun c361 => ?_)
    · refine lv_iconst (v := 0) hx hb dW_law_368 (by decide) ?_
      refine lv_aload_n hx hb dW_law_369 rfl (lv_at hl 4 rfl) ?_
      refine lv_iload hx hb dW_law_370 (lv_at hl 0 rfl) ?_
      refine lv_iconst (v := 3) hx hb dW_law_372 (by decide) ?_
      refine lv_iadd hx hb dW_law_373 ?_
      rw [gN3 i]
      refine va_sld hx hb hX hbl hbA hB.2.2 (vp_in_nI (show (i + 3) < L by omega) (by omega)) dW_law_374 ?_
      rw [nI_clamp (show (i + 3) < 2 ^ 31 by omega)]
      refine gEndi (gRunV hF (c_M_condition l dC dI dA s.heap.size M1 M1 mo ad th lt hs lw cn σ f hm1 hh hI.2 (xs (i + 1)) 0 (xs (i + 3))) ln_W_55 hKA hB hm1.top rfl rfl hl.1 rfl (Nat.le_of_ble_eq_true rfl) dW_law_375 ⟨rfl, rfl, (Nat.le_of_ble_eq_true rfl), (Nat.le_of_ble_eq_true rfl)⟩ ⟨show ce + 0 + 0 ≤ 601024 by omega, show sl + 0 + 0 ≤ 7293000 by omega⟩) hB (fun y2 M2 H locs hp hB => ?_)
      obtain ⟨f1, hm2, e2⟩ := hp
      subst e2
      have hR2 := hR1.keep hm2.1.ck
      refine lv_icmp_eq (tgt := 797) hx hb dW_law_378 (by decide) (fun c378 => ?_) (fun c378 => ?_)
      · refine W.widen (k := ce + 2) (n := sl + 18) (by omega) (by omega) ?_
        exact kk M2 H locs _ _ _ _ ls ⟨⟨ar, ra, sa, la, hR2⟩, ⟨ad, 0, f1, hm2.base⟩, (hO.F hR1.fr).Fm hm2.1, hh, gI_cond hI h100 _ _ _⟩ hB hl
      · exact (c378 rfl).elim
    · exact (c361 c331).elim
  · refine lv_iconst (v := 1) hx hb dW_law_334 (by decide) ?_
    refine lv_goto (tgt := 339) hx hb dW_law_335 (by decide) ?_
    refine lv_aload_n hx hb dW_law_339 rfl (lv_at hl 4 rfl) ?_
    refine lv_iload hx hb dW_law_340 (lv_at hl 0 rfl) ?_
    refine lv_iconst (v := 3) hx hb dW_law_342 (by decide) ?_
    refine lv_iadd hx hb dW_law_343 ?_
    rw [gN3 i]
    refine va_sld hx hb hX hbl hbA hB.2.2 (vp_in_nI (show (i + 3) < L by omega) (by omega)) dW_law_344 ?_
    rw [nI_clamp (show (i + 3) < 2 ^ 31 by omega)]
    refine gEndi (gRunV hF (c_I_condition l dC dI dA s.heap.size M M o ar ra sa la hs lt lw cn σ hR (xs (i + 1)) 1 (xs (i + 3))) ln_W_51 hKA hB hR.top rfl rfl hl.1 rfl (Nat.le_of_ble_eq_true rfl) dW_law_345 ⟨rfl, rfl, (Nat.le_of_ble_eq_true rfl), (Nat.le_of_ble_eq_true rfl)⟩ ⟨show ce + 0 ≤ 601024 by omega, show sl + 0 ≤ 7293000 by omega⟩) hB (fun y1 M1 H locs hp hB => ?_)
    obtain ⟨hR1, e1⟩ := hp
    subst e1
    have hm1 := hm.keep hR1.fr.mk
    refine lv_aload_n hx hb dW_law_348 rfl (lv_at hl 2 rfl) ?_
    refine lv_aload_n hx hb dW_law_349 rfl (lv_at hl 4 rfl) ?_
    refine lv_iload hx hb dW_law_350 (lv_at hl 0 rfl) ?_
    refine lv_iconst (v := 1) hx hb dW_law_352 (by decide) ?_
    refine lv_iadd hx hb dW_law_353 ?_
    rw [gN1 i]
    refine va_sld hx hb hX hbl hbA hB.2.2 (vp_in_nI (show (i + 1) < L by omega) (by omega)) dW_law_354 ?_
    rw [nI_clamp (show (i + 1) < 2 ^ 31 by omega)]
    refine lv_aload_n hx hb dW_law_355 rfl (lv_at hl 4 rfl) ?_
    refine lv_iload hx hb dW_law_356 (lv_at hl 0 rfl) ?_
    refine lv_iconst (v := 2) hx hb dW_law_358 (by decide) ?_
    refine lv_iadd hx hb dW_law_359 ?_
    rw [gN2 i]
    refine va_sld hx hb hX hbl hbA hB.2.2 (vp_in_nI (show (i + 2) < L by omega) (by omega)) dW_law_360 ?_
    rw [nI_clamp (show (i + 2) < 2 ^ 31 by omega)]
    refine lv_if_eq (tgt := 368) hx hb dW_law_361 (by decide) (fun c361 => ?_) (fun c361 => ?_)
    · exact (c331 c361).elim
    · refine lv_iconst (v := 1) hx hb dW_law_364 (by decide) ?_
      refine lv_goto (tgt := 369) hx hb dW_law_365 (by decide) ?_
      refine lv_aload_n hx hb dW_law_369 rfl (lv_at hl 4 rfl) ?_
      refine lv_iload hx hb dW_law_370 (lv_at hl 0 rfl) ?_
      refine lv_iconst (v := 3) hx hb dW_law_372 (by decide) ?_
      refine lv_iadd hx hb dW_law_373 ?_
      rw [gN3 i]
      refine va_sld hx hb hX hbl hbA hB.2.2 (vp_in_nI (show (i + 3) < L by omega) (by omega)) dW_law_374 ?_
      rw [nI_clamp (show (i + 3) < 2 ^ 31 by omega)]
      refine gEndi (gRunV hF (c_M_condition l dC dI dA s.heap.size M1 M1 mo ad th lt hs lw cn σ f hm1 hh hI.2 (xs (i + 1)) 1 (xs (i + 3))) ln_W_55 hKA hB hm1.top rfl rfl hl.1 rfl (Nat.le_of_ble_eq_true rfl) dW_law_375 ⟨rfl, rfl, (Nat.le_of_ble_eq_true rfl), (Nat.le_of_ble_eq_true rfl)⟩ ⟨show ce + 0 + 0 ≤ 601024 by omega, show sl + 0 + 0 ≤ 7293000 by omega⟩) hB (fun y2 M2 H locs hp hB => ?_)
      obtain ⟨f1, hm2, e2⟩ := hp
      subst e2
      have hR2 := hR1.keep hm2.1.ck
      refine lv_icmp_eq (tgt := 797) hx hb dW_law_378 (by decide) (fun c378 => ?_) (fun c378 => ?_)
      · refine W.widen (k := ce + 2) (n := sl + 18) (by omega) (by omega) ?_
        exact kk M2 H locs _ _ _ _ ls ⟨⟨ar, ra, sa, la, hR2⟩, ⟨ad, 0, f1, hm2.base⟩, (hO.F hR1.fr).Fm hm2.1, hh, gI_cond hI h100 _ _ _⟩ hB hl
      · exact (c378 rfl).elim
set_option maxHeartbeats 4000000 in
set_option maxRecDepth 100000 in
theorem l_received {p : Program} {e : Env} {s : State} {m : MethodId} {below : List Frame} {meth : Method} {c : Code} {b L : Nat} {xs : Nat → Int32} {dC : Nat → ClassId} {dI : Nat → Nat → Nat} {dA : Nat → ClassId} (l : Launch) (hl9 : l.stackTraces = false) (C0 : lwX p s m meth c b L xs dC dI dA) {Q : State → Prop} {M : gM} {H : Heap} {locs : List Loc} {ls : Array Slot} {o mo ou : Nat} {hs lt lw : Int32} {cn : Nat} {σ : Nat → Rq} {i ce sl : Nat} (hi : i + 7 ≤ L) (hS : lwS dA M o mo ou hs lt lw cn σ) (hB : gB (dC, dI) gcl s.heap.size M s.heap H locs) (hl : lv_has ls 7 (lwL b o mo ou i)) (hce : ce + 2 ≤ 601024) (hsl : sl + 18 ≤ 7293000) (kk : ∀ (M : gM) (H : Heap) (locs : List Loc) (lt lw : Int32) (cn : Nat) (σ : Nat → Rq) (ls : Array Slot), lwS dA M o mo ou hs lt lw cn σ → gB (dC, dI) gcl s.heap.size M s.heap H locs → lv_has ls 7 (lwL b o mo ou i) → W p l e room_1 s m #[Value.ref b] below meth c H locs (ce + 2) (sl + 18) Q (F0 m 797 ls [])) : W p l e room_1 s m #[Value.ref b] below meth c H locs ce sl Q (F0 m 383 ls []) := by
  obtain ⟨hF, hr, hlocks, hKA, hY, hX, hbl, hL⟩ := id C0
  obtain ⟨hx, hb, hml, hown, hts⟩ := id hF
  have hK := hKA.1
  have hbA : ¬ (fun q : Nat => s.heap.size ≤ q) b := Nat.not_le.mpr hbl
  obtain ⟨⟨ar, ra, sa, la, hR⟩, ⟨ad, th, f, hm⟩, hO, hh, hI⟩ := hS
  have h100 := hR.c100
  have hl : lv_has ls 7 [(4, .int (nI i)), (3, .ref ou), (2, .ref mo), (1, .ref o), (0, .ref b)] := hl
  refine lv_aload_n hx hb dW_law_383 rfl (lv_at hl 3 rfl) ?_
  refine lv_aload_n hx hb dW_law_384 rfl (lv_at hl 4 rfl) ?_
  refine lv_iload hx hb dW_law_385 (lv_at hl 0 rfl) ?_
  refine lv_iconst (v := 1) hx hb dW_law_387 (by decide) ?_
  refine lv_iadd hx hb dW_law_388 ?_
  rw [gN1 i]
  refine va_sld hx hb hX hbl hbA hB.2.2 (vp_in_nI (show (i + 1) < L by omega) (by omega)) dW_law_389 ?_
  rw [nI_clamp (show (i + 1) < 2 ^ 31 by omega)]
  refine lv_aload_n hx hb dW_law_390 rfl (lv_at hl 4 rfl) ?_
  refine lv_iload hx hb dW_law_391 (lv_at hl 0 rfl) ?_
  refine lv_iconst (v := 2) hx hb dW_law_393 (by decide) ?_
  refine lv_iadd hx hb dW_law_394 ?_
  rw [gN2 i]
  refine va_sld hx hb hX hbl hbA hB.2.2 (vp_in_nI (show (i + 2) < L by omega) (by omega)) dW_law_395 ?_
  rw [nI_clamp (show (i + 2) < 2 ^ 31 by omega)]
  refine gEndi (gRunV hF (c_I_received l dC dI dA s.heap.size M M o ar ra sa la hs lt lw cn σ hR (xs (i + 1)) (xs (i + 2))) ln_W_56 hKA hB hR.top rfl rfl hl.1 rfl (Nat.le_of_ble_eq_true rfl) dW_law_396 ⟨rfl, rfl, (Nat.le_of_ble_eq_true rfl), (Nat.le_of_ble_eq_true rfl)⟩ ⟨show ce + 0 ≤ 601024 by omega, show sl + 0 ≤ 7293000 by omega⟩) hB (fun y1 M1 H locs hp hB => ?_)
  obtain ⟨hR1, e1⟩ := hp
  subst e1
  have hm1 := hm.keep hR1.fr.mk
  refine lv_aload_n hx hb dW_law_399 rfl (lv_at hl 2 rfl) ?_
  refine lv_aload_n hx hb dW_law_400 rfl (lv_at hl 4 rfl) ?_
  refine lv_iload hx hb dW_law_401 (lv_at hl 0 rfl) ?_
  refine lv_iconst (v := 1) hx hb dW_law_403 (by decide) ?_
  refine lv_iadd hx hb dW_law_404 ?_
  rw [gN1 i]
  refine va_sld hx hb hX hbl hbA hB.2.2 (vp_in_nI (show (i + 1) < L by omega) (by omega)) dW_law_405 ?_
  rw [nI_clamp (show (i + 1) < 2 ^ 31 by omega)]
  refine lv_aload_n hx hb dW_law_406 rfl (lv_at hl 4 rfl) ?_
  refine lv_iload hx hb dW_law_407 (lv_at hl 0 rfl) ?_
  refine lv_iconst (v := 2) hx hb dW_law_409 (by decide) ?_
  refine lv_iadd hx hb dW_law_410 ?_
  rw [gN2 i]
  refine va_sld hx hb hX hbl hbA hB.2.2 (vp_in_nI (show (i + 2) < L by omega) (by omega)) dW_law_411 ?_
  rw [nI_clamp (show (i + 2) < 2 ^ 31 by omega)]
  refine gEndi (gRunV hF (c_M_received l dC dI dA s.heap.size M1 M1 mo ad th lt hs lw cn σ f hm1 hh hI.2 (xs (i + 1)) (xs (i + 2))) ln_W_59 hKA hB hm1.top rfl rfl hl.1 rfl (Nat.le_of_ble_eq_true rfl) dW_law_412 ⟨rfl, rfl, (Nat.le_of_ble_eq_true rfl), (Nat.le_of_ble_eq_true rfl)⟩ ⟨show ce + 0 + 0 ≤ 601024 by omega, show sl + 0 + 0 ≤ 7293000 by omega⟩) hB (fun y2 M2 H locs hp hB => ?_)
  obtain ⟨f1, hm2, e2⟩ := hp
  subst e2
  have hR2 := hR1.keep hm2.1.ck
  refine lv_icmp_eq (tgt := 797) hx hb dW_law_415 (by decide) (fun c415 => ?_) (fun c415 => ?_)
  · refine W.widen (k := ce + 2) (n := sl + 18) (by omega) (by omega) ?_
    exact kk M2 H locs _ _ _ _ ls ⟨⟨ar, ra, sa, la, hR2⟩, ⟨ad, 0, f1, hm2.base⟩, (hO.F hR1.fr).Fm hm2.1, hh, gI_rec hI h100 _ _⟩ hB hl
  · exact (c415 rfl).elim
set_option maxHeartbeats 4000000 in
set_option maxRecDepth 100000 in
theorem l_back {p : Program} {e : Env} {s : State} {m : MethodId} {below : List Frame} {meth : Method} {c : Code} {b L : Nat} {xs : Nat → Int32} {dC : Nat → ClassId} {dI : Nat → Nat → Nat} {dA : Nat → ClassId} (l : Launch) (hl9 : l.stackTraces = false) (C0 : lwX p s m meth c b L xs dC dI dA) {Q : State → Prop} {M : gM} {H : Heap} {locs : List Loc} {ls : Array Slot} {o mo ou : Nat} {hs lt lw : Int32} {cn : Nat} {σ : Nat → Rq} {i ce sl : Nat} (hi : i + 7 ≤ L) (hS : lwS dA M o mo ou hs lt lw cn σ) (hB : gB (dC, dI) gcl s.heap.size M s.heap H locs) (hl : lv_has ls 7 (lwL b o mo ou i)) (hce : ce + 2 ≤ 601024) (hsl : sl + 18 ≤ 7293000) (kk : ∀ (M : gM) (H : Heap) (locs : List Loc) (lt lw : Int32) (cn : Nat) (σ : Nat → Rq) (ls : Array Slot), lwS dA M o mo ou hs lt lw cn σ → gB (dC, dI) gcl s.heap.size M s.heap H locs → lv_has ls 7 (lwL b o mo ou i) → W p l e room_1 s m #[Value.ref b] below meth c H locs (ce + 2) (sl + 18) Q (F0 m 797 ls [])) : W p l e room_1 s m #[Value.ref b] below meth c H locs ce sl Q (F0 m 420 ls []) := by
  obtain ⟨hF, hr, hlocks, hKA, hY, hX, hbl, hL⟩ := id C0
  obtain ⟨hx, hb, hml, hown, hts⟩ := id hF
  have hK := hKA.1
  have hbA : ¬ (fun q : Nat => s.heap.size ≤ q) b := Nat.not_le.mpr hbl
  obtain ⟨⟨ar, ra, sa, la, hR⟩, ⟨ad, th, f, hm⟩, hO, hh, hI⟩ := hS
  have h100 := hR.c100
  have hl : lv_has ls 7 [(4, .int (nI i)), (3, .ref ou), (2, .ref mo), (1, .ref o), (0, .ref b)] := hl
  refine lv_aload_n hx hb dW_law_420 rfl (lv_at hl 3 rfl) ?_
  refine lv_aload_n hx hb dW_law_421 rfl (lv_at hl 4 rfl) ?_
  refine lv_iload hx hb dW_law_422 (lv_at hl 0 rfl) ?_
  refine lv_iconst (v := 1) hx hb dW_law_424 (by decide) ?_
  refine lv_iadd hx hb dW_law_425 ?_
  rw [gN1 i]
  refine va_sld hx hb hX hbl hbA hB.2.2 (vp_in_nI (show (i + 1) < L by omega) (by omega)) dW_law_426 ?_
  rw [nI_clamp (show (i + 1) < 2 ^ 31 by omega)]
  refine lv_aload_n hx hb dW_law_427 rfl (lv_at hl 4 rfl) ?_
  refine lv_iload hx hb dW_law_428 (lv_at hl 0 rfl) ?_
  refine lv_iconst (v := 2) hx hb dW_law_430 (by decide) ?_
  refine lv_iadd hx hb dW_law_431 ?_
  rw [gN2 i]
  refine va_sld hx hb hX hbl hbA hB.2.2 (vp_in_nI (show (i + 2) < L by omega) (by omega)) dW_law_432 ?_
  rw [nI_clamp (show (i + 2) < 2 ^ 31 by omega)]
  refine gEndi (gRunV hF (c_I_back l dC dI dA s.heap.size M M o ar ra sa la hs lt lw cn σ hR (xs (i + 1)) (xs (i + 2))) ln_W_60 hKA hB hR.top rfl rfl hl.1 rfl (Nat.le_of_ble_eq_true rfl) dW_law_433 ⟨rfl, rfl, (Nat.le_of_ble_eq_true rfl), (Nat.le_of_ble_eq_true rfl)⟩ ⟨show ce + 0 ≤ 601024 by omega, show sl + 0 ≤ 7293000 by omega⟩) hB (fun y1 M1 H locs hp hB => ?_)
  obtain ⟨hR1, e1⟩ := hp
  subst e1
  have hm1 := hm.keep hR1.fr.mk
  refine lv_aload_n hx hb dW_law_436 rfl (lv_at hl 2 rfl) ?_
  refine lv_aload_n hx hb dW_law_437 rfl (lv_at hl 4 rfl) ?_
  refine lv_iload hx hb dW_law_438 (lv_at hl 0 rfl) ?_
  refine lv_iconst (v := 1) hx hb dW_law_440 (by decide) ?_
  refine lv_iadd hx hb dW_law_441 ?_
  rw [gN1 i]
  refine va_sld hx hb hX hbl hbA hB.2.2 (vp_in_nI (show (i + 1) < L by omega) (by omega)) dW_law_442 ?_
  rw [nI_clamp (show (i + 1) < 2 ^ 31 by omega)]
  refine lv_aload_n hx hb dW_law_443 rfl (lv_at hl 4 rfl) ?_
  refine lv_iload hx hb dW_law_444 (lv_at hl 0 rfl) ?_
  refine lv_iconst (v := 2) hx hb dW_law_446 (by decide) ?_
  refine lv_iadd hx hb dW_law_447 ?_
  rw [gN2 i]
  refine va_sld hx hb hX hbl hbA hB.2.2 (vp_in_nI (show (i + 2) < L by omega) (by omega)) dW_law_448 ?_
  rw [nI_clamp (show (i + 2) < 2 ^ 31 by omega)]
  refine gEndi (gRunV hF (c_M_back l dC dI dA s.heap.size M1 M1 mo ad th lt hs lw cn σ f hm1 hh hI.2 (xs (i + 1)) (xs (i + 2))) ln_W_63 hKA hB hm1.top rfl rfl hl.1 rfl (Nat.le_of_ble_eq_true rfl) dW_law_449 ⟨rfl, rfl, (Nat.le_of_ble_eq_true rfl), (Nat.le_of_ble_eq_true rfl)⟩ ⟨show ce + 0 + 0 ≤ 601024 by omega, show sl + 0 + 0 ≤ 7293000 by omega⟩) hB (fun y2 M2 H locs hp hB => ?_)
  obtain ⟨f1, hm2, e2⟩ := hp
  subst e2
  have hR2 := hR1.keep hm2.1.ck
  refine lv_icmp_eq (tgt := 797) hx hb dW_law_452 (by decide) (fun c452 => ?_) (fun c452 => ?_)
  · refine W.widen (k := ce + 2) (n := sl + 18) (by omega) (by omega) ?_
    exact kk M2 H locs _ _ _ _ ls ⟨⟨ar, ra, sa, la, hR2⟩, ⟨ad, 0, f1, hm2.base⟩, (hO.F hR1.fr).Fm hm2.1, hh, gI_back hI h100 _ _⟩ hB hl
  · exact (c452 rfl).elim
set_option maxHeartbeats 4000000 in
set_option maxRecDepth 100000 in
theorem l_cancel {p : Program} {e : Env} {s : State} {m : MethodId} {below : List Frame} {meth : Method} {c : Code} {b L : Nat} {xs : Nat → Int32} {dC : Nat → ClassId} {dI : Nat → Nat → Nat} {dA : Nat → ClassId} (l : Launch) (hl9 : l.stackTraces = false) (C0 : lwX p s m meth c b L xs dC dI dA) {Q : State → Prop} {M : gM} {H : Heap} {locs : List Loc} {ls : Array Slot} {o mo ou : Nat} {hs lt lw : Int32} {cn : Nat} {σ : Nat → Rq} {i ce sl : Nat} (hi : i + 7 ≤ L) (hS : lwS dA M o mo ou hs lt lw cn σ) (hB : gB (dC, dI) gcl s.heap.size M s.heap H locs) (hl : lv_has ls 7 (lwL b o mo ou i)) (hce : ce + 2 ≤ 601024) (hsl : sl + 18 ≤ 7293000) (kk : ∀ (M : gM) (H : Heap) (locs : List Loc) (lt lw : Int32) (cn : Nat) (σ : Nat → Rq) (ls : Array Slot), lwS dA M o mo ou hs lt lw cn σ → gB (dC, dI) gcl s.heap.size M s.heap H locs → lv_has ls 7 (lwL b o mo ou i) → W p l e room_1 s m #[Value.ref b] below meth c H locs (ce + 2) (sl + 18) Q (F0 m 797 ls [])) : W p l e room_1 s m #[Value.ref b] below meth c H locs ce sl Q (F0 m 457 ls []) := by
  obtain ⟨hF, hr, hlocks, hKA, hY, hX, hbl, hL⟩ := id C0
  obtain ⟨hx, hb, hml, hown, hts⟩ := id hF
  have hK := hKA.1
  have hbA : ¬ (fun q : Nat => s.heap.size ≤ q) b := Nat.not_le.mpr hbl
  obtain ⟨⟨ar, ra, sa, la, hR⟩, ⟨ad, th, f, hm⟩, hO, hh, hI⟩ := hS
  have h100 := hR.c100
  have hl : lv_has ls 7 [(4, .int (nI i)), (3, .ref ou), (2, .ref mo), (1, .ref o), (0, .ref b)] := hl
  refine lv_aload_n hx hb dW_law_457 rfl (lv_at hl 3 rfl) ?_
  refine lv_aload_n hx hb dW_law_458 rfl (lv_at hl 4 rfl) ?_
  refine lv_iload hx hb dW_law_459 (lv_at hl 0 rfl) ?_
  refine lv_iconst (v := 1) hx hb dW_law_461 (by decide) ?_
  refine lv_iadd hx hb dW_law_462 ?_
  rw [gN1 i]
  refine va_sld hx hb hX hbl hbA hB.2.2 (vp_in_nI (show (i + 1) < L by omega) (by omega)) dW_law_463 ?_
  rw [nI_clamp (show (i + 1) < 2 ^ 31 by omega)]
  refine lv_aload_n hx hb dW_law_464 rfl (lv_at hl 4 rfl) ?_
  refine lv_iload hx hb dW_law_465 (lv_at hl 0 rfl) ?_
  refine lv_iconst (v := 2) hx hb dW_law_467 (by decide) ?_
  refine lv_iadd hx hb dW_law_468 ?_
  rw [gN2 i]
  refine va_sld hx hb hX hbl hbA hB.2.2 (vp_in_nI (show (i + 2) < L by omega) (by omega)) dW_law_469 ?_
  rw [nI_clamp (show (i + 2) < 2 ^ 31 by omega)]
  refine gEndi (gRunV hF (c_I_cancel l dC dI dA s.heap.size M M o ar ra sa la hs lt lw cn σ hR (xs (i + 1)) (xs (i + 2))) ln_W_64 hKA hB hR.top rfl rfl hl.1 rfl (Nat.le_of_ble_eq_true rfl) dW_law_470 ⟨rfl, rfl, (Nat.le_of_ble_eq_true rfl), (Nat.le_of_ble_eq_true rfl)⟩ ⟨show ce + 0 ≤ 601024 by omega, show sl + 0 ≤ 7293000 by omega⟩) hB (fun y1 M1 H locs hp hB => ?_)
  obtain ⟨hR1, e1⟩ := hp
  subst e1
  have hm1 := hm.keep hR1.fr.mk
  refine lv_aload_n hx hb dW_law_473 rfl (lv_at hl 2 rfl) ?_
  refine lv_aload_n hx hb dW_law_474 rfl (lv_at hl 4 rfl) ?_
  refine lv_iload hx hb dW_law_475 (lv_at hl 0 rfl) ?_
  refine lv_iconst (v := 1) hx hb dW_law_477 (by decide) ?_
  refine lv_iadd hx hb dW_law_478 ?_
  rw [gN1 i]
  refine va_sld hx hb hX hbl hbA hB.2.2 (vp_in_nI (show (i + 1) < L by omega) (by omega)) dW_law_479 ?_
  rw [nI_clamp (show (i + 1) < 2 ^ 31 by omega)]
  refine lv_aload_n hx hb dW_law_480 rfl (lv_at hl 4 rfl) ?_
  refine lv_iload hx hb dW_law_481 (lv_at hl 0 rfl) ?_
  refine lv_iconst (v := 2) hx hb dW_law_483 (by decide) ?_
  refine lv_iadd hx hb dW_law_484 ?_
  rw [gN2 i]
  refine va_sld hx hb hX hbl hbA hB.2.2 (vp_in_nI (show (i + 2) < L by omega) (by omega)) dW_law_485 ?_
  rw [nI_clamp (show (i + 2) < 2 ^ 31 by omega)]
  refine gEndi (gRunV hF (c_M_cancel l dC dI dA s.heap.size M1 M1 mo ad th lt hs lw cn σ f hm1 hh hI.2 (xs (i + 1)) (xs (i + 2))) ln_W_67 hKA hB hm1.top rfl rfl hl.1 rfl (Nat.le_of_ble_eq_true rfl) dW_law_486 ⟨rfl, rfl, (Nat.le_of_ble_eq_true rfl), (Nat.le_of_ble_eq_true rfl)⟩ ⟨show ce + 0 + 0 ≤ 601024 by omega, show sl + 0 + 0 ≤ 7293000 by omega⟩) hB (fun y2 M2 H locs hp hB => ?_)
  obtain ⟨f1, hm2, e2⟩ := hp
  subst e2
  have hR2 := hR1.keep hm2.1.ck
  refine lv_icmp_eq (tgt := 797) hx hb dW_law_489 (by decide) (fun c489 => ?_) (fun c489 => ?_)
  · refine W.widen (k := ce + 2) (n := sl + 18) (by omega) (by omega) ?_
    exact kk M2 H locs _ _ _ _ ls ⟨⟨ar, ra, sa, la, hR2⟩, ⟨ad, 0, f1, hm2.base⟩, (hO.F hR1.fr).Fm hm2.1, hh, gI_cancel hI h100 _ _⟩ hB hl
  · exact (c489 rfl).elim
set_option maxHeartbeats 4000000 in
set_option maxRecDepth 100000 in
theorem l_waits {p : Program} {e : Env} {s : State} {m : MethodId} {below : List Frame} {meth : Method} {c : Code} {b L : Nat} {xs : Nat → Int32} {dC : Nat → ClassId} {dI : Nat → Nat → Nat} {dA : Nat → ClassId} (l : Launch) (hl9 : l.stackTraces = false) (C0 : lwX p s m meth c b L xs dC dI dA) {Q : State → Prop} {M : gM} {H : Heap} {locs : List Loc} {ls : Array Slot} {o mo ou : Nat} {hs lt lw : Int32} {cn : Nat} {σ : Nat → Rq} {i ce sl : Nat} (hi : i + 7 ≤ L) (hS : lwS dA M o mo ou hs lt lw cn σ) (hB : gB (dC, dI) gcl s.heap.size M s.heap H locs) (hl : lv_has ls 7 (lwL b o mo ou i)) (hce : ce + 2 ≤ 601024) (hsl : sl + 18 ≤ 7293000) (kk : ∀ (M : gM) (H : Heap) (locs : List Loc) (lt lw : Int32) (cn : Nat) (σ : Nat → Rq) (ls : Array Slot), lwS dA M o mo ou hs lt lw cn σ → gB (dC, dI) gcl s.heap.size M s.heap H locs → lv_has ls 7 (lwL b o mo ou i) → W p l e room_1 s m #[Value.ref b] below meth c H locs (ce + 2) (sl + 18) Q (F0 m 797 ls [])) : W p l e room_1 s m #[Value.ref b] below meth c H locs ce sl Q (F0 m 494 ls []) := by
  obtain ⟨hF, hr, hlocks, hKA, hY, hX, hbl, hL⟩ := id C0
  obtain ⟨hx, hb, hml, hown, hts⟩ := id hF
  have hK := hKA.1
  have hbA : ¬ (fun q : Nat => s.heap.size ≤ q) b := Nat.not_le.mpr hbl
  obtain ⟨⟨ar, ra, sa, la, hR⟩, ⟨ad, th, f, hm⟩, hO, hh, hI⟩ := hS
  have h100 := hR.c100
  have hl : lv_has ls 7 [(4, .int (nI i)), (3, .ref ou), (2, .ref mo), (1, .ref o), (0, .ref b)] := hl
  refine lv_aload_n hx hb dW_law_494 rfl (lv_at hl 3 rfl) ?_
  refine lv_aload_n hx hb dW_law_495 rfl (lv_at hl 4 rfl) ?_
  refine lv_iload hx hb dW_law_496 (lv_at hl 0 rfl) ?_
  refine lv_iconst (v := 1) hx hb dW_law_498 (by decide) ?_
  refine lv_iadd hx hb dW_law_499 ?_
  rw [gN1 i]
  refine va_sld hx hb hX hbl hbA hB.2.2 (vp_in_nI (show (i + 1) < L by omega) (by omega)) dW_law_500 ?_
  rw [nI_clamp (show (i + 1) < 2 ^ 31 by omega)]
  refine gEndi (gRunV hF (c_I_waits l dC dI dA s.heap.size M M o ar ra sa la hs lt lw cn σ hR (xs (i + 1))) ln_W_68 hKA hB hR.top rfl rfl hl.1 rfl (Nat.le_of_ble_eq_true rfl) dW_law_501 ⟨rfl, rfl, (Nat.le_of_ble_eq_true rfl), (Nat.le_of_ble_eq_true rfl)⟩ ⟨show ce + 0 ≤ 601024 by omega, show sl + 0 ≤ 7293000 by omega⟩) hB (fun y1 M1 H locs hp hB => ?_)
  obtain ⟨hR1, e1⟩ := hp
  subst e1
  have hm1 := hm.keep hR1.fr.mk
  refine lv_aload_n hx hb dW_law_504 rfl (lv_at hl 2 rfl) ?_
  refine lv_aload_n hx hb dW_law_505 rfl (lv_at hl 4 rfl) ?_
  refine lv_iload hx hb dW_law_506 (lv_at hl 0 rfl) ?_
  refine lv_iconst (v := 1) hx hb dW_law_508 (by decide) ?_
  refine lv_iadd hx hb dW_law_509 ?_
  rw [gN1 i]
  refine va_sld hx hb hX hbl hbA hB.2.2 (vp_in_nI (show (i + 1) < L by omega) (by omega)) dW_law_510 ?_
  rw [nI_clamp (show (i + 1) < 2 ^ 31 by omega)]
  refine gEndi (gRunV hF (c_M_waits l dC dI dA s.heap.size M1 M1 mo ad th lt hs lw cn σ f hm1 hh hI.2 (xs (i + 1))) ln_W_72 hKA hB hm1.top rfl rfl hl.1 rfl (Nat.le_of_ble_eq_true rfl) dW_law_511 ⟨rfl, rfl, (Nat.le_of_ble_eq_true rfl), (Nat.le_of_ble_eq_true rfl)⟩ ⟨show ce + 0 + 0 ≤ 601024 by omega, show sl + 0 + 0 ≤ 7293000 by omega⟩) hB (fun y2 M2 H locs hp hB => ?_)
  obtain ⟨f1, hm2, e2⟩ := hp
  subst e2
  have hR2 := hR1.keep hm2.1.ck
  refine lv_icmp_eq (tgt := 797) hx hb dW_law_514 (by decide) (fun c514 => ?_) (fun c514 => ?_)
  · refine W.widen (k := ce + 2) (n := sl + 18) (by omega) (by omega) ?_
    exact kk M2 H locs _ _ _ _ ls ⟨⟨ar, ra, sa, la, hR2⟩, ⟨ad, 0, f1, hm2.base⟩, (hO.F hR1.fr).Fm hm2.1, hh, gI_waits hI _⟩ hB hl
  · exact (c514 rfl).elim
set_option maxHeartbeats 4000000 in
set_option maxRecDepth 100000 in
theorem l_span {p : Program} {e : Env} {s : State} {m : MethodId} {below : List Frame} {meth : Method} {c : Code} {b L : Nat} {xs : Nat → Int32} {dC : Nat → ClassId} {dI : Nat → Nat → Nat} {dA : Nat → ClassId} (l : Launch) (hl9 : l.stackTraces = false) (C0 : lwX p s m meth c b L xs dC dI dA) {Q : State → Prop} {M : gM} {H : Heap} {locs : List Loc} {ls : Array Slot} {o mo ou : Nat} {hs lt lw : Int32} {cn : Nat} {σ : Nat → Rq} {i ce sl : Nat} (hi : i + 7 ≤ L) (hS : lwS dA M o mo ou hs lt lw cn σ) (hB : gB (dC, dI) gcl s.heap.size M s.heap H locs) (hl : lv_has ls 7 (lwL b o mo ou i)) (hce : ce + 2 ≤ 601024) (hsl : sl + 18 ≤ 7293000) (kk : ∀ (M : gM) (H : Heap) (locs : List Loc) (lt lw : Int32) (cn : Nat) (σ : Nat → Rq) (ls : Array Slot), lwS dA M o mo ou hs lt lw cn σ → gB (dC, dI) gcl s.heap.size M s.heap H locs → lv_has ls 7 (lwL b o mo ou i) → W p l e room_1 s m #[Value.ref b] below meth c H locs (ce + 2) (sl + 18) Q (F0 m 797 ls [])) : W p l e room_1 s m #[Value.ref b] below meth c H locs ce sl Q (F0 m 519 ls []) := by
  obtain ⟨hF, hr, hlocks, hKA, hY, hX, hbl, hL⟩ := id C0
  obtain ⟨hx, hb, hml, hown, hts⟩ := id hF
  have hK := hKA.1
  have hbA : ¬ (fun q : Nat => s.heap.size ≤ q) b := Nat.not_le.mpr hbl
  obtain ⟨⟨ar, ra, sa, la, hR⟩, ⟨ad, th, f, hm⟩, hO, hh, hI⟩ := hS
  have h100 := hR.c100
  have hl : lv_has ls 7 [(4, .int (nI i)), (3, .ref ou), (2, .ref mo), (1, .ref o), (0, .ref b)] := hl
  refine lv_aload_n hx hb dW_law_519 rfl (lv_at hl 3 rfl) ?_
  refine lv_aload_n hx hb dW_law_520 rfl (lv_at hl 4 rfl) ?_
  refine lv_iload hx hb dW_law_521 (lv_at hl 0 rfl) ?_
  refine lv_iconst (v := 1) hx hb dW_law_523 (by decide) ?_
  refine lv_iadd hx hb dW_law_524 ?_
  rw [gN1 i]
  refine va_sld hx hb hX hbl hbA hB.2.2 (vp_in_nI (show (i + 1) < L by omega) (by omega)) dW_law_525 ?_
  rw [nI_clamp (show (i + 1) < 2 ^ 31 by omega)]
  refine gEndi (gRunV hF (c_I_span l dC dI dA s.heap.size M M o ar ra sa la hs lt lw cn σ hR (xs (i + 1))) ln_W_73 hKA hB hR.top rfl rfl hl.1 rfl (Nat.le_of_ble_eq_true rfl) dW_law_526 ⟨rfl, rfl, (Nat.le_of_ble_eq_true rfl), (Nat.le_of_ble_eq_true rfl)⟩ ⟨show ce + 0 ≤ 601024 by omega, show sl + 0 ≤ 7293000 by omega⟩) hB (fun y1 M1 H locs hp hB => ?_)
  obtain ⟨hR1, e1⟩ := hp
  subst e1
  have hm1 := hm.keep hR1.fr.mk
  refine lv_aload_n hx hb dW_law_529 rfl (lv_at hl 2 rfl) ?_
  refine lv_aload_n hx hb dW_law_530 rfl (lv_at hl 4 rfl) ?_
  refine lv_iload hx hb dW_law_531 (lv_at hl 0 rfl) ?_
  refine lv_iconst (v := 1) hx hb dW_law_533 (by decide) ?_
  refine lv_iadd hx hb dW_law_534 ?_
  rw [gN1 i]
  refine va_sld hx hb hX hbl hbA hB.2.2 (vp_in_nI (show (i + 1) < L by omega) (by omega)) dW_law_535 ?_
  rw [nI_clamp (show (i + 1) < 2 ^ 31 by omega)]
  refine gEndi (gRunV hF (c_M_span l dC dI dA s.heap.size M1 M1 mo ad th lt hs lw cn σ f hm1 hh hI.2 (xs (i + 1))) ln_W_76 hKA hB hm1.top rfl rfl hl.1 rfl (Nat.le_of_ble_eq_true rfl) dW_law_536 ⟨rfl, rfl, (Nat.le_of_ble_eq_true rfl), (Nat.le_of_ble_eq_true rfl)⟩ ⟨show ce + 0 + 0 ≤ 601024 by omega, show sl + 0 + 0 ≤ 7293000 by omega⟩) hB (fun y2 M2 H locs hp hB => ?_)
  obtain ⟨f1, hm2, e2⟩ := hp
  subst e2
  have hR2 := hR1.keep hm2.1.ck
  refine lv_icmp_eq (tgt := 797) hx hb dW_law_539 (by decide) (fun c539 => ?_) (fun c539 => ?_)
  · refine W.widen (k := ce + 2) (n := sl + 18) (by omega) (by omega) ?_
    exact kk M2 H locs _ _ _ _ ls ⟨⟨ar, ra, sa, la, hR2⟩, ⟨ad, 0, f1, hm2.base⟩, (hO.F hR1.fr).Fm hm2.1, hh, gI_span hI _⟩ hB hl
  · exact (c539 rfl).elim
set_option maxHeartbeats 4000000 in
set_option maxRecDepth 100000 in
theorem l_statistics {p : Program} {e : Env} {s : State} {m : MethodId} {below : List Frame} {meth : Method} {c : Code} {b L : Nat} {xs : Nat → Int32} {dC : Nat → ClassId} {dI : Nat → Nat → Nat} {dA : Nat → ClassId} (l : Launch) (hl9 : l.stackTraces = false) (C0 : lwX p s m meth c b L xs dC dI dA) {Q : State → Prop} {M : gM} {H : Heap} {locs : List Loc} {ls : Array Slot} {o mo ou : Nat} {hs lt lw : Int32} {cn : Nat} {σ : Nat → Rq} {i ce sl : Nat} (hi : i + 7 ≤ L) (hS : lwS dA M o mo ou hs lt lw cn σ) (hB : gB (dC, dI) gcl s.heap.size M s.heap H locs) (hl : lv_has ls 7 (lwL b o mo ou i)) (hce : ce + 2 ≤ 601024) (hsl : sl + 18 ≤ 7293000) (kk : ∀ (M : gM) (H : Heap) (locs : List Loc) (lt lw : Int32) (cn : Nat) (σ : Nat → Rq) (ls : Array Slot), lwS dA M o mo ou hs lt lw cn σ → gB (dC, dI) gcl s.heap.size M s.heap H locs → lv_has ls 7 (lwL b o mo ou i) → W p l e room_1 s m #[Value.ref b] below meth c H locs (ce + 2) (sl + 18) Q (F0 m 797 ls [])) : W p l e room_1 s m #[Value.ref b] below meth c H locs ce sl Q (F0 m 692 ls []) := by
  obtain ⟨hF, hr, hlocks, hKA, hY, hX, hbl, hL⟩ := id C0
  obtain ⟨hx, hb, hml, hown, hts⟩ := id hF
  have hK := hKA.1
  have hbA : ¬ (fun q : Nat => s.heap.size ≤ q) b := Nat.not_le.mpr hbl
  obtain ⟨⟨ar, ra, sa, la, hR⟩, ⟨ad, th, f, hm⟩, hO, hh, hI⟩ := hS
  have h100 := hR.c100
  have hl : lv_has ls 7 [(4, .int (nI i)), (3, .ref ou), (2, .ref mo), (1, .ref o), (0, .ref b)] := hl
  refine lv_aload_n hx hb dW_law_692 rfl (lv_at hl 3 rfl) ?_
  refine lv_aload_n hx hb dW_law_693 rfl (lv_at hl 4 rfl) ?_
  refine lv_iload hx hb dW_law_694 (lv_at hl 0 rfl) ?_
  refine lv_iconst (v := 1) hx hb dW_law_696 (by decide) ?_
  refine lv_iadd hx hb dW_law_697 ?_
  rw [gN1 i]
  refine va_sld hx hb hX hbl hbA hB.2.2 (vp_in_nI (show (i + 1) < L by omega) (by omega)) dW_law_698 ?_
  rw [nI_clamp (show (i + 1) < 2 ^ 31 by omega)]
  refine lv_aload_n hx hb dW_law_699 rfl (lv_at hl 4 rfl) ?_
  refine lv_iload hx hb dW_law_700 (lv_at hl 0 rfl) ?_
  refine lv_iconst (v := 2) hx hb dW_law_702 (by decide) ?_
  refine lv_iadd hx hb dW_law_703 ?_
  rw [gN2 i]
  refine va_sld hx hb hX hbl hbA hB.2.2 (vp_in_nI (show (i + 2) < L by omega) (by omega)) dW_law_704 ?_
  rw [nI_clamp (show (i + 2) < 2 ^ 31 by omega)]
  refine gEndi (gRunV hF (c_I_statistics l dC dI dA s.heap.size M M o ar ra sa la hs lt lw cn σ hR (xs (i + 1)) (xs (i + 2))) ln_W_89 hKA hB hR.top rfl rfl hl.1 rfl (Nat.le_of_ble_eq_true rfl) dW_law_705 ⟨rfl, rfl, (Nat.le_of_ble_eq_true rfl), (Nat.le_of_ble_eq_true rfl)⟩ ⟨show ce + 0 ≤ 601024 by omega, show sl + 0 ≤ 7293000 by omega⟩) hB (fun y1 M1 H locs hp hB => ?_)
  obtain ⟨hR1, e1⟩ := hp
  subst e1
  have hm1 := hm.keep hR1.fr.mk
  refine lv_aload_n hx hb dW_law_708 rfl (lv_at hl 2 rfl) ?_
  refine lv_aload_n hx hb dW_law_709 rfl (lv_at hl 4 rfl) ?_
  refine lv_iload hx hb dW_law_710 (lv_at hl 0 rfl) ?_
  refine lv_iconst (v := 1) hx hb dW_law_712 (by decide) ?_
  refine lv_iadd hx hb dW_law_713 ?_
  rw [gN1 i]
  refine va_sld hx hb hX hbl hbA hB.2.2 (vp_in_nI (show (i + 1) < L by omega) (by omega)) dW_law_714 ?_
  rw [nI_clamp (show (i + 1) < 2 ^ 31 by omega)]
  refine lv_aload_n hx hb dW_law_715 rfl (lv_at hl 4 rfl) ?_
  refine lv_iload hx hb dW_law_716 (lv_at hl 0 rfl) ?_
  refine lv_iconst (v := 2) hx hb dW_law_718 (by decide) ?_
  refine lv_iadd hx hb dW_law_719 ?_
  rw [gN2 i]
  refine va_sld hx hb hX hbl hbA hB.2.2 (vp_in_nI (show (i + 2) < L by omega) (by omega)) dW_law_720 ?_
  rw [nI_clamp (show (i + 2) < 2 ^ 31 by omega)]
  refine gEndi (gRunV hF (c_M_statistics l dC dI dA s.heap.size M1 M1 mo ad th lt hs lw cn σ f hm1 hh hI.2 (xs (i + 1)) (xs (i + 2))) ln_W_92 hKA hB hm1.top rfl rfl hl.1 rfl (Nat.le_of_ble_eq_true rfl) dW_law_721 ⟨rfl, rfl, (Nat.le_of_ble_eq_true rfl), (Nat.le_of_ble_eq_true rfl)⟩ ⟨show ce + 0 + 0 ≤ 601024 by omega, show sl + 0 + 0 ≤ 7293000 by omega⟩) hB (fun y2 M2 H locs hp hB => ?_)
  obtain ⟨⟨f1, hm2⟩, e2⟩ := hp
  subst e2
  have hR2 := hR1.keep hm2.1.ck
  refine lv_icmp_eq (tgt := 797) hx hb dW_law_724 (by decide) (fun c724 => ?_) (fun c724 => ?_)
  · refine W.widen (k := ce + 2) (n := sl + 18) (by omega) (by omega) ?_
    exact kk M2 H locs _ _ _ _ ls ⟨⟨ar, ra, sa, la, hR2⟩, ⟨ad, 0, f1, hm2.base⟩, (hO.F hR1.fr).Fm hm2.1, hh, hI⟩ hB hl
  · exact (c724 rfl).elim
