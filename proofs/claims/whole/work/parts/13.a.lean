/-! The reference's calls: their posts; numbers of both sides -/
def mP (dA : Nat → ClassId) (M0 : gM) (mo : Nat) (ad : Nat → Nat) (hs : Int32) (S : SR) (x : Int32) (M1 : gM) : Prop := ∃ f1, mW dA M0 M1 mo ad 0 S.2.1 hs S.2.2.1 S.2.2.2.1 S.2.2.2.2 f1 ∧ x = S.1
theorem mP_of {dA : Nat → ClassId} {M0 : gM} {mo : Nat} {ad : Nat → Nat} {hs : Int32} {S S' : SR} {x : Int32} {M1 : gM} (h : S = S') (k : ∃ f1, mW dA M0 M1 mo ad 0 S'.2.1 hs S'.2.2.1 S'.2.2.2.1 S'.2.2.2.2 f1 ∧ x = S'.1) : mP dA M0 mo ad hs S x M1 := by
  subst h; exact k
theorem sSpan_r {hs lt lw : Int32} {cn : Nat} {σ : Nat → Rq} {x : Int32} (h : bI x 1 10000000 = false) : sSpan hs lt lw cn σ x = (-2, lt, lw, cn, σ) := by
  unfold bI at h; unfold sSpan
  by_cases a : x < 1
  · rw [if_pos a]
  · rw [if_neg a]
    have b : ¬ x ≤ 10000000 := fun q => by simp [a, i32_nlt q] at h
    rw [if_pos b]
theorem sSpan_y {hs lt lw : Int32} {cn : Nat} {σ : Nat → Rq} {x : Int32} (h : bI x 1 10000000 = true) : sSpan hs lt lw cn σ x = (1, lt, x, cn, σ) := by
  unfold bI at h; unfold sSpan
  have a : ¬ x < 1 := fun q => by simp [q] at h
  have b : ¬ 10000000 < x := fun q => by simp [q] at h
  rw [if_neg a, if_neg (fun q => q (i32_le b))]
theorem bC_le {x : Int32} (h0 : ¬ x < 0) : bC x = decide (x ≤ 2) := by
  unfold bC
  have h0 : 0 ≤ x.toInt := by rw [Int32.lt_iff_toInt_lt, show (0 : Int32).toInt = 0 from rfl] at h0; omega
  by_cases h : x ≤ 2
  · have h2 := h
    rw [Int32.le_iff_toInt_le, show (2 : Int32).toInt = 2 from rfl] at h2
    rcases (show x.toInt = 0 ∨ x.toInt = 1 ∨ x.toInt = 2 by omega) with q | q | q
    · rw [show x = 0 from Int32.toInt_inj.mp q]; rfl
    · rw [show x = 1 from Int32.toInt_inj.mp q]; rfl
    · rw [show x = 2 from Int32.toInt_inj.mp q]; rfl
  · have a0 : ¬ x = 0 := fun q => h (by rw [q]; decide)
    have a1 : ¬ x = 1 := fun q => h (by rw [q]; decide)
    have a2 : ¬ x = 2 := fun q => h (by rw [q]; decide)
    simp [a0, a1, a2, h]
theorem bO_5 {d : Ld} (h : p15 d = true) : bO d.2.1 = !(decide (d.2.1 = 5)) := by
  unfold p15 at h
  have h1 : ¬ d.2.1 < 1 := fun q => by simp [q] at h
  have h2 : ¬ 5 < d.2.1 := fun q => by simp [q] at h
  generalize d.2.1 = x at *
  rw [Int32.lt_iff_toInt_lt, show (1 : Int32).toInt = 1 from rfl] at h1
  rw [Int32.lt_iff_toInt_lt, show (5 : Int32).toInt = 5 from rfl] at h2
  rcases (show x.toInt = 1 ∨ x.toInt = 2 ∨ x.toInt = 3 ∨ x.toInt = 4 ∨ x.toInt = 5 by omega) with q | q | q | q | q
  · rw [show x = 1 from Int32.toInt_inj.mp q]; rfl
  · rw [show x = 2 from Int32.toInt_inj.mp q]; rfl
  · rw [show x = 3 from Int32.toInt_inj.mp q]; rfl
  · rw [show x = 4 from Int32.toInt_inj.mp q]; rfl
  · rw [show x = 5 from Int32.toInt_inj.mp q]; rfl
theorem bM_I {lt number kind v t : Int32} (hT : bT lt t = true) : bM number kind v t = (bI number 0 1000 && bI kind 1 5 && (!(decide (kind = 4)) || bI v (t + 1) 1000000000)) := by
  unfold bT at hT
  have h2 : ¬ 1000000000 < t := fun q => by simp [q] at hT
  rw [Int32.lt_iff_toInt_lt, show (1000000000 : Int32).toInt = 1000000000 from rfl] at h2
  have h3 : (t + 1).toInt = t.toInt + 1 := by
    rw [Int32.toInt_add, show (1 : Int32).toInt = 1 from rfl]
    exact Int.bmod_eq_of_le (by have := Int32.le_toInt t; omega) (by omega)
  have h4 : (v < t + 1) ↔ v ≤ t := by rw [Int32.lt_iff_toInt_lt, Int32.le_iff_toInt_le, h3]; omega
  have h5 : ∀ x y : Int32, (¬ y < x) ↔ x ≤ y := fun x y => ⟨i32_le, i32_nlt⟩
  unfold bM bI
  have e1 : decide (number ≤ 1000) = !(decide (1000 < number)) := by rw [← decide_not]; exact decide_eq_decide.mpr (h5 number 1000).symm
  have e2 : decide (kind ≤ 5) = !(decide (5 < kind)) := by rw [← decide_not]; exact decide_eq_decide.mpr (h5 kind 5).symm
  have e3 : decide (v < t + 1) = decide (v ≤ t) := decide_eq_decide.mpr h4
  rw [e1, e2, e3]
  simp [Bool.and_assoc]
theorem bY_F {number kind v t rs l : Int32} (h : bM number kind v t = true) : bY kind rs l = bF kind rs l := by
  unfold bM at h
  have h1 : ¬ kind < 1 := fun q => by simp [q] at h
  have h2 : kind ≤ 5 := by
    rcases Decidable.em (kind ≤ 5) with q | q
    · exact q
    · simp [q] at h
  unfold bY bF
  by_cases a1 : kind = 1
  · simp [a1]
  by_cases a2 : kind = 2
  · simp [a2]
  by_cases a3 : kind = 3
  · simp [a3]
  by_cases a4 : kind = 4
  · simp [a4]
  have a5 : kind = 5 := by
    rw [Int32.lt_iff_toInt_lt, show (1 : Int32).toInt = 1 from rfl] at h1
    rw [Int32.le_iff_toInt_le, show (5 : Int32).toInt = 5 from rfl] at h2
    have b1 := lv_neT a1 (a := 1) (by decide)
    have b2 := lv_neT a2 (a := 2) (by decide)
    have b3 := lv_neT a3 (a := 3) (by decide)
    have b4 := lv_neT a4 (a := 4) (by decide)
    exact Int32.toInt_inj.mp (show kind.toInt = (5 : Int32).toInt by show kind.toInt = 5; omega)
  simp [a5]
theorem sMessage_r {hs lt lw : Int32} {cn : Nat} {σ : Nat → Rq} {r h number kind v t : Int32} {k : Nat} (hi : ix cn r = some k) (hH : bH hs h = true) (hb : bT lt t = false ∨ bM number kind v t = false) : sMessage hs lt lw cn σ r h number kind v t = (-2, lt, lw, cn, σ) := by
  unfold sMessage
  rw [hi]
  cases hT : bT lt t with
  | false => simp [hH]
  | true =>
    rcases hb with q | q
    · rw [q] at hT; cases hT
    · simp [hH, q]
theorem bM_k {number kind v t : Int32} (h : bM number kind v t = true) : kind = 1 ∨ kind = 2 ∨ kind = 3 ∨ kind = 4 ∨ kind = 5 := by
  unfold bM at h
  have h1 : ¬ kind < 1 := fun q => by simp [q] at h
  have h2 : kind ≤ 5 := by
    rcases Decidable.em (kind ≤ 5) with q | q
    · exact q
    · simp [q] at h
  rw [Int32.lt_iff_toInt_lt, show (1 : Int32).toInt = 1 from rfl] at h1
  rw [Int32.le_iff_toInt_le, show (5 : Int32).toInt = 5 from rfl] at h2
  rcases (show kind.toInt = 1 ∨ kind.toInt = 2 ∨ kind.toInt = 3 ∨ kind.toInt = 4 ∨ kind.toInt = 5 by omega) with q | q | q | q | q
  · exact Or.inl (Int32.toInt_inj.mp q)
  · exact Or.inr (Or.inl (Int32.toInt_inj.mp q))
  · exact Or.inr (Or.inr (Or.inl (Int32.toInt_inj.mp q)))
  · exact Or.inr (Or.inr (Or.inr (Or.inl (Int32.toInt_inj.mp q))))
  · exact Or.inr (Or.inr (Or.inr (Or.inr (Int32.toInt_inj.mp q))))
