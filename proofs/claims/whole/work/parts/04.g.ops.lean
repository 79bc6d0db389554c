/-! What the calls ask and do, in numbers -/
def bH (hs h : Int32) : Bool := !(decide (h < 0)) && !(decide (hs ≤ h))
def bT (lt t : Int32) : Bool := !(decide (t < lt)) && !(decide (1000000000 < t))
def bM (number kind v t : Int32) : Bool := !(decide (number < 0)) && decide (number ≤ 1000) && !(decide (kind < 1)) && decide (kind ≤ 5) && (!(decide (kind = 4)) || (!(decide (v ≤ t)) && !(decide (1000000000 < v))))
def bF (kind rs l : Int32) : Bool := if kind = 1 then decide (l = 1) else if kind = 2 then decide (l = 1) || decide (l = 3) else if kind = 3 then decide (l = 1) else if kind = 4 then decide (l = 1) || decide (l = 3) else if kind = 5 then decide (l = 4) && decide (rs = 5) else false
/-- a lender's state -/
def lset (lf : Nat → Ld) (i : Nat) (s : Int32) : Nat → Ld := va_up lf i ((lf i).1, s, (lf i).2.2.1, (lf i).2.2.2)
/-- a message of the lender i is taken -/
def qtake (q : Rq) (i : Nat) (kind v t : Int32) : Rq := match q with
  | (h, it, n, st, ho, db, du, fa, en, lf) => if kind = 1 then (h, it, n, st, ho, db, du, fa, en, lset lf i 3) else if kind = 2 then qask (h, it, n, st, ho, db, du, fa, en, lset lf i 6) t else if kind = 3 then (h, it, n, 2, ho, db, du, fa, en, lset lf i 2) else if kind = 4 then (h, it, n, 3, ho, db, v, fa, en, lset lf i 4) else if kind = 5 then (h, it, n, 6, ho, db, du, fa, t, lset lf i 5) else q
/-- how many of the first i requests are P (there are cn) -/
def cti (P : Rq → Bool) (σ : Nat → Rq) (cn : Nat) : Nat → Int32
  | 0 => 0
  | i + 1 => if (decide (i < cn) && P (σ i)) = true then cti P σ cn i + 1 else cti P σ cn i
theorem cti_y {P : Rq → Bool} {σ : Nat → Rq} {cn i : Nat} (h : i < cn) (hp : P (σ i) = true) : cti P σ cn (i + 1) = cti P σ cn i + 1 := by
  show (if (decide (i < cn) && P (σ i)) = true then _ else _) = _
  rw [if_pos (by simp [h, hp])]
theorem cti_n {P : Rq → Bool} {σ : Nat → Rq} {cn i : Nat} (hp : ¬ P (σ i) = true) : cti P σ cn (i + 1) = cti P σ cn i := by
  show (if (decide (i < cn) && P (σ i)) = true then _ else _) = _
  rw [if_neg (by simp [hp])]
theorem cti_o {P : Rq → Bool} {σ : Nat → Rq} {cn i : Nat} (h : cn ≤ i) : cti P σ cn (i + 1) = cti P σ cn i := by
  show (if (decide (i < cn) && P (σ i)) = true then _ else _) = _
  rw [if_neg (by simp [Nat.not_lt.mpr h])]
theorem cti_all {P : Rq → Bool} {σ : Nat → Rq} {cn : Nat} : ∀ {m : Nat}, cn ≤ m → cti P σ cn m = cti P σ cn cn
  | 0, h => by rw [show cn = 0 by omega]
  | m + 1, h => by
    rcases Nat.lt_or_ge m cn with q | q
    · rw [show cn = m + 1 by omega]
    · rw [cti_o q]; exact cti_all q
