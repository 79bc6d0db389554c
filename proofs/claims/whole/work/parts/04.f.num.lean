/-! Small rows on numbers -/
theorem i32_nle {x y : Int32} (h : x < y) : ¬ y ≤ x := by
  rw [Int32.le_iff_toInt_le]; rw [Int32.lt_iff_toInt_lt] at h; omega
theorem i32_nlt {x y : Int32} (h : x ≤ y) : ¬ y < x := by
  rw [Int32.lt_iff_toInt_lt]; rw [Int32.le_iff_toInt_le] at h; omega
theorem i32_lt {x y : Int32} (h : ¬ y ≤ x) : x < y := by
  rw [Int32.lt_iff_toInt_lt]; rw [Int32.le_iff_toInt_le] at h; omega
theorem i32_le {x y : Int32} (h : ¬ y < x) : x ≤ y := by
  rw [Int32.le_iff_toInt_le]; rw [Int32.lt_iff_toInt_lt] at h; omega
/-- an index that was tested -/
theorem ix_of {x : Int32} {N : Nat} (hN : N < 2 ^ 31) (h1 : ¬ x < 0) (h2 : x < nI N) : ∃ j, j < N ∧ x = nI j := by
  rcases pk_ix x hN with q | q | q
  · exact absurd q h1
  · exact absurd q (i32_nle h2)
  · exact q
theorem ix_neg {n : Nat} {x : Int32} (h : x < 0) : ix n x = none := by
  rw [Int32.lt_iff_toInt_lt, show (0 : Int32).toInt = 0 from rfl] at h
  unfold ix
  rw [if_neg (fun q => absurd q.1 (by omega))]
theorem ix_big {n N : Nat} {x : Int32} (hN : N < 2 ^ 31) (hn : n ≤ N) (h : nI N ≤ x) : ix n x = none := by
  rw [Int32.le_iff_toInt_le, nI_toInt hN] at h
  unfold ix
  rw [if_neg (fun q => absurd q.2 (by omega))]
theorem ix_ge {n j : Nat} (hj : j < 2 ^ 31) (h : n ≤ j) : ix n (nI j) = none := by
  unfold ix
  rw [nI_toInt hj, if_neg (fun q => absurd q.2 (by omega))]
theorem nI_top {N i : Nat} (hN : N < 2 ^ 31) (h : nI N ≤ nI i) (hi : i ≤ N) : i = N := by
  rcases Nat.lt_or_ge i N with q | q
  · exact absurd h (nI_ge q hN)
  · omega
