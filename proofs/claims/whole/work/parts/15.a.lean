/-! The reference: its making; about, told, overdue, statistics -/
def mI (dA : Nat → ClassId) (M M1 : gM) (mo : Nat) (ad : Nat → Nat) (hs : Int32) : Prop := (∀ a e, M a = some e → a ≠ mo → M1 a = some e) ∧ M1 mo = some (oM 0 0 hs 86400 0 ad) ∧ (∀ j, j < 12 → M1 (ad j) = some (aI dA (ml j) (fun _ => 0))) ∧ ∀ i j, i < 12 → j < 12 → ad i = ad j → i = j
theorem mI.mk {dA : Nat → ClassId} {M0 M M1 : gM} {mo : Nat} {ad : Nat → Nat} {hs : Int32} (h : mI dA M M1 mo ad hs) (hf : gFm M0 M1) (σ : Nat → Rq) : mW dA M0 M1 mo ad 0 0 hs 86400 0 σ (fun _ _ => 0) :=
  ⟨hf, h.2.1, by omega, fun j hj => h.2.2.1 j hj, h.2.2.2, fun k hk => absurd hk (by omega), fun k i hk => absurd hk (by omega), fun _ _ => ⟨rfl, rfl, rfl⟩, fun k i hk => absurd hk (by omega), fun _ _ => ⟨rfl, rfl⟩, fun k hk => absurd hk (by omega)⟩
theorem hsz_1 {x : Int32} (h : ¬ 1 ≤ x) : hsz x = 1 := by
  unfold hsz
  have h1 : x < 1 := i32_lt h
  have h2 : x < 30 := by
    rw [Int32.lt_iff_toInt_lt] at h1 ⊢
    rw [show (1 : Int32).toInt = 1 from rfl] at h1
    rw [show (30 : Int32).toInt = 30 from rfl]; omega
  rw [if_pos h2, if_neg (fun q => by rw [Int32.lt_iff_toInt_lt] at q h1; omega)]
theorem hsz_30 {x : Int32} (h : ¬ x ≤ 30) : hsz x = 30 := by
  unfold hsz
  have h1 : ¬ x < 30 := fun q => h (by rw [Int32.lt_iff_toInt_lt] at q; rw [Int32.le_iff_toInt_le]; omega)
  rw [if_neg h1]; decide
theorem hsz_x {x : Int32} (h : 1 ≤ x) (h2 : x ≤ 30) : hsz x = x := by
  unfold hsz
  by_cases a : x < 30
  · rw [if_pos a]
    by_cases b : 1 < x
    · rw [if_pos b]
    · rw [if_neg b]
      rw [Int32.le_iff_toInt_le] at h; rw [Int32.lt_iff_toInt_lt] at b
      exact Int32.toInt_inj.mp (by omega)
  · rw [if_neg a]
    have : x = 30 := by
      rw [Int32.le_iff_toInt_le] at h2; rw [Int32.lt_iff_toInt_lt] at a
      exact Int32.toInt_inj.mp (by omega)
    rw [this]; decide
theorem hsz_ok (x : Int32) : hsOk (hsz x) := by
  by_cases h : 1 ≤ x
  · by_cases h2 : x ≤ 30
    · rw [hsz_x h h2]
      rw [Int32.le_iff_toInt_le, show (1 : Int32).toInt = 1 from rfl] at h
      rw [Int32.le_iff_toInt_le, show (30 : Int32).toInt = 30 from rfl] at h2
      exact ⟨h, h2⟩
    · rw [hsz_30 h2]; exact ⟨by decide, by decide⟩
  · rw [hsz_1 h]; exact ⟨by decide, by decide⟩
def xP (dA : Nat → ClassId) (M0 : gM) (mo : Nat) (ad : Nat → Nat) (lt hs lw : Int32) (cn : Nat) (σ : Nat → Rq) (X : Option Int32) (y : Int32) (M1 : gM) : Prop := ∃ f1, mW dA M0 M1 mo ad (bz X.isNone) lt hs lw cn σ f1 ∧ y = X.getD 0
theorem xP_n {dA : Nat → ClassId} {M0 : gM} {mo : Nat} {ad : Nat → Nat} {lt hs lw : Int32} {cn : Nat} {σ : Nat → Rq} {X : Option Int32} {M1 : gM} {f : Nat → Nat → Int32} (h : X = none) (hR : mW dA M0 M1 mo ad 1 lt hs lw cn σ f) : xP dA M0 mo ad lt hs lw cn σ X 0 M1 := by
  subst h; exact ⟨f, hR, rfl⟩
theorem xP_s {dA : Nat → ClassId} {M0 : gM} {mo : Nat} {ad : Nat → Nat} {lt hs lw : Int32} {cn : Nat} {σ : Nat → Rq} {X : Option Int32} {v : Int32} {M1 : gM} {f : Nat → Nat → Int32} (h : X = some v) (hR : mW dA M0 M1 mo ad 0 lt hs lw cn σ f) : xP dA M0 mo ad lt hs lw cn σ X v M1 := by
  subst h; exact ⟨f, hR, rfl⟩
theorem bI_not {w hi : Int32} (h : bI w 0 hi = false) {v : Int32} (h0 : 0 ≤ v.toInt) (h1 : v.toInt ≤ hi.toInt) : ¬ w = v := fun q => by
  subst q
  unfold bI at h
  have a : ¬ w < 0 := by rw [Int32.lt_iff_toInt_lt, show (0 : Int32).toInt = 0 from rfl]; omega
  have b : ¬ hi < w := by rw [Int32.lt_iff_toInt_lt]; omega
  simp [a, b] at h
theorem xAbout_w {cn : Nat} {σ : Nat → Rq} {r w : Int32} (h : bI w 0 8 = false) : xAbout cn σ r w = none := by
  unfold xAbout
  cases ix cn r with
  | none => rfl
  | some k => simp [bI_not h (v := 0) (by decide) (by decide), bI_not h (v := 1) (by decide) (by decide), bI_not h (v := 2) (by decide) (by decide), bI_not h (v := 3) (by decide) (by decide), bI_not h (v := 4) (by decide) (by decide), bI_not h (v := 5) (by decide) (by decide), bI_not h (v := 6) (by decide) (by decide), bI_not h (v := 7) (by decide) (by decide), bI_not h (v := 8) (by decide) (by decide)]
theorem xTold_w {cn : Nat} {σ : Nat → Rq} {r x w : Int32} (h : bI w 0 2 = false) : xTold cn σ r x w = none := by
  unfold xTold
  cases ix cn r with
  | none => rfl
  | some k => cases hx : ix (σ k).2.2.1 x with
    | none => simp [hx]
    | some j => simp [hx, bI_not h (v := 0) (by decide) (by decide), bI_not h (v := 1) (by decide) (by decide), bI_not h (v := 2) (by decide) (by decide)]
theorem bI_in {w hi : Int32} (h : bI w 0 hi = true) : 0 ≤ w.toInt ∧ w.toInt ≤ hi.toInt := by
  unfold bI at h
  have a : ¬ w < 0 := fun q => by simp [q] at h
  have b : ¬ hi < w := fun q => by simp [q] at h
  rw [Int32.lt_iff_toInt_lt, show (0 : Int32).toInt = 0 from rfl] at a
  rw [Int32.lt_iff_toInt_lt] at b
  exact ⟨by omega, by omega⟩
theorem w8 {w : Int32} (h : bI w 0 8 = true) (h0 : ¬ w = 0) (h1 : ¬ w = 1) (h2 : ¬ w = 2) (h3 : ¬ w = 3) (h4 : ¬ w = 4) (h5 : ¬ w = 5) (h6 : ¬ w = 6) (h7 : ¬ w = 7) : w = 8 := by
  obtain ⟨a, b⟩ := bI_in h
  rw [show (8 : Int32).toInt = 8 from rfl] at b
  have b0 := lv_neT h0 (a := 0) (by decide)
  have b1 := lv_neT h1 (a := 1) (by decide)
  have b2 := lv_neT h2 (a := 2) (by decide)
  have b3 := lv_neT h3 (a := 3) (by decide)
  have b4 := lv_neT h4 (a := 4) (by decide)
  have b5 := lv_neT h5 (a := 5) (by decide)
  have b6 := lv_neT h6 (a := 6) (by decide)
  have b7 := lv_neT h7 (a := 7) (by decide)
  exact Int32.toInt_inj.mp (show w.toInt = (8 : Int32).toInt by show w.toInt = 8; omega)
theorem w2 {w : Int32} (h : bI w 0 2 = true) (h0 : ¬ w = 0) (h1 : ¬ w = 1) : w = 2 := by
  obtain ⟨a, b⟩ := bI_in h
  rw [show (2 : Int32).toInt = 2 from rfl] at b
  have b0 := lv_neT h0 (a := 0) (by decide)
  have b1 := lv_neT h1 (a := 1) (by decide)
  exact Int32.toInt_inj.mp (show w.toInt = (2 : Int32).toInt by show w.toInt = 2; omega)
def pl (h one two : Int32) (d : Ld) : Bool := decide (d.1 = h) && (decide (d.2.1 = one) || decide (d.2.1 = two))
theorem lent_1 {cn : Nat} {σ : Nat → Rq} (hv : ∀ k, k < cn → inv (σ k)) (h v : Int32) : lc2 (fun d => decide (d.1 = h) && decide (d.2.1 = v)) σ cn = cti (bL h v) σ cn cn :=
  lc2_b (Nat.le_refl _) (fun j hj => lc_b (fun a b ha hb pa pb => (hv j hj).2.2.2.2.2.2 a b ha hb (by
    have qa : ((σ j).2.2.2.2.2.2.2.2.2 a).1 = h := by simp at pa; exact pa.1
    have qb : ((σ j).2.2.2.2.2.2.2.2.2 b).1 = h := by simp at pb; exact pb.1
    rw [qa, qb])))
theorem lent_s {cn : Nat} {σ : Nat → Rq} (hv : ∀ k, k < cn → inv (σ k)) (h v : Int32) : lc2 (pl h v v) σ cn = cti (bL h v) σ cn cn := by
  rw [← lent_1 hv h v]
  congr 1
  funext d
  simp [pl]
theorem lent_2 {cn : Nat} {σ : Nat → Rq} (hv : ∀ k, k < cn → inv (σ k)) (h : Int32) : lc2 (pl h 4 5) σ cn = cti (bL h 4) σ cn cn + cti (bL h 5) σ cn cn := by
  rw [← lent_1 hv h 4, ← lent_1 hv h 5, ← lc2_or (fun d h1 h2 => by simp at h1 h2; rw [h1.2] at h2; exact absurd h2.2 (by decide))]
  congr 1
  funext d
  simp only [pl]
  cases decide (d.1 = h) <;> rfl
def pst (h w : Int32) (q : Rq) : Bool := decide (q.1 = h) && (decide (w = 0) || decide (q.2.2.2.1 = if w = 1 then 6 else 7))
theorem stat_lo {hs : Int32} {cn : Nat} {σ : Nat → Rq} {h w : Int32} (hH : bH hs h = true) (hN : bI w 0 5 = true) (hw : w ≤ 2) : aStat hs cn σ h w = cti (pst h w) σ cn cn := by
  obtain ⟨a, b⟩ := bI_in hN
  rw [Int32.le_iff_toInt_le, show (2 : Int32).toInt = 2 from rfl] at hw
  rcases (show w.toInt = 0 ∨ w.toInt = 1 ∨ w.toInt = 2 by omega) with q | q | q
  · have e : w = 0 := Int32.toInt_inj.mp q
    subst e; simp only [aStat, hH]; simp; congr 1; funext x; simp [pst]
  · have e : w = 1 := Int32.toInt_inj.mp q
    subst e; simp only [aStat, hH]; simp; congr 1
  · have e : w = 2 := Int32.toInt_inj.mp q
    subst e; simp only [aStat, hH]; simp; congr 1
theorem stat_hi {w : Int32} (hN : bI w 0 5 = true) (hw : ¬ w ≤ 2) (h3 : ¬ w = 3) (h4 : ¬ w = 4) : w = 5 := by
  obtain ⟨a, b⟩ := bI_in hN
  rw [show (5 : Int32).toInt = 5 from rfl] at b
  rw [Int32.le_iff_toInt_le, show (2 : Int32).toInt = 2 from rfl] at hw
  have b3 := lv_neT h3 (a := 3) (by decide)
  have b4 := lv_neT h4 (a := 4) (by decide)
  exact Int32.toInt_inj.mp (show w.toInt = (5 : Int32).toInt by show w.toInt = 5; omega)
theorem stat_no {hs : Int32} {cn : Nat} {σ : Nat → Rq} {h w : Int32} (hN : bI w 0 5 = false) : aStat hs cn σ h w = -1 := by
  unfold aStat
  split
  · rfl
  · simp [bI_not hN (v := 0) (by decide) (by decide), bI_not hN (v := 1) (by decide) (by decide), bI_not hN (v := 2) (by decide) (by decide), bI_not hN (v := 3) (by decide) (by decide), bI_not hN (v := 4) (by decide) (by decide), bI_not hN (v := 5) (by decide) (by decide)]
theorem i32_dec (x b : Int32) : x - b + -1 = x - (b + 1) := by
  rw [Int32.sub_eq_add_neg, Int32.sub_eq_add_neg, Int32.neg_add, Int32.add_assoc, Int32.sub_eq_add_neg]
theorem i32_sub0 (x b : Int32) : x - b = 0 ↔ b = x := ⟨fun h => (Int32.sub_eq_iff_eq_add.mp h ▸ by simp), fun h => by rw [h]; exact Int32.sub_self x⟩
