/-! What each call answers and what it leaves: (answer, latest, span, how many requests, requests) -/
abbrev SR : Type := Int32 × Int32 × Int32 × Nat × (Nat → Rq)
def bO (x : Int32) : Bool := decide (x = 1) || decide (x = 2) || decide (x = 3) || decide (x = 4)
def bA (x : Int32) : Bool := decide (x = 1) || decide (x = 3)
def bC (x : Int32) : Bool := decide (x = 0) || decide (x = 1) || decide (x = 2)
theorem bO_eq (x : Int32) : (if x = 1 then (1 : Int32) else if x = 2 then 1 else if x = 3 then 1 else if x = 4 then 1 else 0) = if bO x then 1 else 0 := by
  unfold bO
  by_cases h1 : x = 1 <;> by_cases h2 : x = 2 <;> by_cases h3 : x = 3 <;> by_cases h4 : x = 4 <;> simp [h1, h2, h3, h4]
theorem bA_eq (x : Int32) : (if x = 1 then (1 : Int32) else if x = 3 then 1 else 0) = if bA x then 1 else 0 := by
  unfold bA
  by_cases h1 : x = 1 <;> by_cases h3 : x = 3 <;> simp [h1, h3]
theorem bC_eq (x : Int32) : (if x = 0 then (1 : Int32) else if x = 1 then 1 else if x = 2 then 1 else 0) = if bC x then 1 else 0 := by
  unfold bC
  by_cases h0 : x = 0 <;> by_cases h1 : x = 1 <;> by_cases h2 : x = 2 <;> simp [h0, h1, h2]
def qnew (h it : Int32) : Rq := (h, it, 0, 0, none, 0, -1, -1, -1, fun _ => (0, 0, 0, 0))
def sAsk (hs lt lw : Int32) (cn : Nat) (σ : Nat → Rq) (h it : Int32) : SR :=
  if bH hs h = false then (-1, lt, lw, cn, σ) else if it < 0 then (-2, lt, lw, cn, σ) else if ¬ it ≤ 100000 then (-2, lt, lw, cn, σ) else if cn = 100 then (-4, lt, lw, cn, σ) else (nI cn, lt, lw, cn + 1, va_up σ cn (qnew h it))
/-- a lender more -/
def qadd (q : Rq) (h : Int32) : Rq := match q with
  | (hh, it, n, st, ho, db, du, fa, en, lf) => (hh, it, n + 1, st, ho, db, du, fa, en, va_up lf n (h, 0, -1, 0))
def sLender (hs lt lw : Int32) (cn : Nat) (σ : Nat → Rq) (r h : Int32) : SR := match ix cn r with
  | none => (-1, lt, lw, cn, σ)
  | some k => if bH hs h = false then (-1, lt, lw, cn, σ) else if ¬ (σ k).2.2.2.1 = 0 then (-3, lt, lw, cn, σ) else if h = (σ k).1 then (-3, lt, lw, cn, σ) else if (ff (fun d => decide (d.1 = h)) (σ k).2.2.2.2.2.2.2.2.2 (σ k).2.2.1 0).isSome = true then (-3, lt, lw, cn, σ) else if (σ k).2.2.1 = 8 then (-4, lt, lw, cn, σ) else (nI ((σ k).2.2.1 + 1), lt, lw, cn, va_up σ k (qadd (σ k) h))
def sSend (hs lt lw : Int32) (cn : Nat) (σ : Nat → Rq) (r t : Int32) : SR := match ix cn r with
  | none => (-1, lt, lw, cn, σ)
  | some k => if bT lt t = false then (-2, lt, lw, cn, σ) else if ¬ (σ k).2.2.2.1 = 0 then (-3, lt, lw, cn, σ) else
    ((match (qask (σ k) t).2.2.2.2.1 with
      | none => 100
      | some i => ((qask (σ k) t).2.2.2.2.2.2.2.2.2 i).1), t, lw, cn, va_up σ k (qask (σ k) t))
/-- a message's number and time -/
def qnum (q : Rq) (i : Nat) (number t : Int32) : Rq := match q with
  | (hh, it, n, st, ho, db, du, fa, en, lf) => (hh, it, n, st, ho, db, du, fa, en, va_up lf i ((lf i).1, (lf i).2.1, number, t))
def qdbl (q : Rq) : Rq := match q with
  | (hh, it, n, st, ho, db, du, fa, en, lf) => (hh, it, n, st, ho, db + 1, du, fa, en, lf)
def sMessage (hs lt lw : Int32) (cn : Nat) (σ : Nat → Rq) (r h number kind v t : Int32) : SR := match ix cn r with
  | none => (-1, lt, lw, cn, σ)
  | some k => if bH hs h = false then (-1, lt, lw, cn, σ) else if bT lt t = false then (-2, lt, lw, cn, σ) else if bM number kind v t = false then (-2, lt, lw, cn, σ) else match (σ k).2.2.2.2.1 with
    | none => (-5, lt, lw, cn, σ)
    | some i => if ¬ ((σ k).2.2.2.2.2.2.2.2.2 i).1 = h then (-5, lt, lw, cn, σ) else if bO ((σ k).2.2.2.2.2.2.2.2.2 i).2.1 = false then (-5, lt, lw, cn, σ) else if number ≤ ((σ k).2.2.2.2.2.2.2.2.2 i).2.2.1 then (-6, lt, lw, cn, va_up σ k (qdbl (σ k))) else if bF kind (σ k).2.2.2.1 ((σ k).2.2.2.2.2.2.2.2.2 i).2.1 = false then (-3, lt, lw, cn, σ) else ((qtake (qnum (σ k) i number t) i kind v t).2.2.2.1, t, lw, cn, va_up σ k (qtake (qnum (σ k) i number t) i kind v t))
/-- a condition is answered -/
def qyes (q : Rq) (i : Nat) (t : Int32) : Rq := match q with
  | (hh, it, n, _, ho, db, du, fa, en, lf) => (hh, it, n, 1, ho, db, du, fa, en, va_up lf i ((lf i).1, 1, (lf i).2.2.1, t))
def qno (q : Rq) (i : Nat) (t : Int32) : Rq := match q with
  | (hh, it, n, st, ho, db, du, fa, en, lf) => qask (hh, it, n, st, ho, db, du, fa, en, lset lf i 6) t
def sCond (hs lt lw : Int32) (cn : Nat) (σ : Nat → Rq) (r yes t : Int32) : SR := match ix cn r with
  | none => (-1, lt, lw, cn, σ)
  | some k => if bT lt t = false then (-2, lt, lw, cn, σ) else if ¬ (σ k).2.2.2.1 = 2 then (-3, lt, lw, cn, σ) else match (σ k).2.2.2.2.1 with
    | none => (-3, lt, lw, cn, σ)
    | some i => if yes = 0 then ((qno (σ k) i t).2.2.2.1, t, lw, cn, va_up σ k (qno (σ k) i t)) else (1, t, lw, cn, va_up σ k (qyes (σ k) i t))
def qst (q : Rq) (s : Int32) : Rq := match q with
  | (hh, it, n, _, ho, db, du, fa, en, lf) => (hh, it, n, s, ho, db, du, fa, en, lf)
def sRec (hs lt lw : Int32) (cn : Nat) (σ : Nat → Rq) (r t : Int32) : SR := match ix cn r with
  | none => (-1, lt, lw, cn, σ)
  | some k => if bT lt t = false then (-2, lt, lw, cn, σ) else if ¬ (σ k).2.2.2.1 = 3 then (-3, lt, lw, cn, σ) else (4, t, lw, cn, va_up σ k (qst (σ k) 4))
def sBack (hs lt lw : Int32) (cn : Nat) (σ : Nat → Rq) (r t : Int32) : SR := match ix cn r with
  | none => (-1, lt, lw, cn, σ)
  | some k => if bT lt t = false then (-2, lt, lw, cn, σ) else if ¬ (σ k).2.2.2.1 = 4 then (-3, lt, lw, cn, σ) else (if t ≤ (σ k).2.2.2.2.2.2.1 then 1 else 0, t, lw, cn, va_up σ k (qst (σ k) 5))
/-- cancelled -/
def qcan (q : Rq) (t : Int32) : Rq := match q with
  | (hh, it, n, _, none, db, du, fa, _, lf) => (hh, it, n, 8, none, db, du, fa, t, lf)
  | (hh, it, n, _, some i, db, du, fa, _, lf) => (hh, it, n, 8, none, db, du, fa, t, lset lf i 8)
def sCancel (hs lt lw : Int32) (cn : Nat) (σ : Nat → Rq) (r t : Int32) : SR := match ix cn r with
  | none => (-1, lt, lw, cn, σ)
  | some k => if bT lt t = false then (-2, lt, lw, cn, σ) else if bC (σ k).2.2.2.1 = false then (-3, lt, lw, cn, σ) else (1, t, lw, cn, va_up σ k (qcan (σ k) t))
/-- is its lender's time over -/
def bW (lw t : Int32) (q : Rq) : Option Nat := match q.2.2.2.2.1 with
  | none => none
  | some i => if bA (q.2.2.2.2.2.2.2.2.2 i).2.1 = false then none else if t - (q.2.2.2.2.2.2.2.2.2 i).2.2.2 ≤ lw then none else some i
def qpass (q : Rq) (i : Nat) (t : Int32) : Rq := match q with
  | (hh, it, n, st, ho, db, du, fa, en, lf) => qask (hh, it, n, st, ho, db, du, fa, en, lset lf i 7) t
/-- the first i requests have been looked at -/
def wσ (lw t : Int32) (σ : Nat → Rq) (i : Nat) : Nat → Rq := fun j => if j < i then (match bW lw t (σ j) with
    | none => σ j
    | some x => qpass (σ j) x t) else σ j
def sWaits (hs lt lw : Int32) (cn : Nat) (σ : Nat → Rq) (t : Int32) : SR :=
  if bT lt t = false then (-2, lt, lw, cn, σ) else (cti (fun q => (bW lw t q).isSome) σ cn cn, t, lw, cn, wσ lw t σ cn)
def sSpan (hs lt lw : Int32) (cn : Nat) (σ : Nat → Rq) (x : Int32) : SR :=
  if x < 1 then (-2, lt, lw, cn, σ) else if ¬ x ≤ 10000000 then (-2, lt, lw, cn, σ) else (1, lt, x, cn, σ)
/-- lenders of a house in a state, in the string -/
def bL (h v : Int32) (q : Rq) : Bool := (ff (fun d => decide (d.1 = h) && decide (d.2.1 = v)) q.2.2.2.2.2.2.2.2.2 q.2.2.1 0).isSome
def aStat (hs : Int32) (cn : Nat) (σ : Nat → Rq) (h w : Int32) : Int32 :=
  if bH hs h = false then -1 else if w = 0 then cti (fun q => decide (q.1 = h)) σ cn cn else if w = 1 then cti (fun q => decide (q.1 = h) && decide (q.2.2.2.1 = 6)) σ cn cn else if w = 2 then cti (fun q => decide (q.1 = h) && decide (q.2.2.2.1 = 7)) σ cn cn else if w = 3 then cti (bL h 4) σ cn cn + cti (bL h 5) σ cn cn else if w = 4 then cti (bL h 6) σ cn cn else if w = 5 then cti (bL h 7) σ cn cn else -1
theorem va_up_id {α : Type} (f : Nat → α) (k : Nat) : va_up f k (f k) = f := by
  funext j
  by_cases h : j = k
  · subst h; rw [va_up_self]
  · rw [va_up_ne _ _ h]
/-- the class's state and the answer are what S says -/
abbrev cP (dA : Nat → ClassId) (M0 : gM) (o ar : Nat) (ra sa : Nat → Nat) (la : Nat → Nat → Nat) (hs : Int32) (S : SR) (x : Int32) (M1 : gM) : Prop := cW dA M0 M1 o ar ra sa la hs S.2.1 S.2.2.1 S.2.2.2.1 S.2.2.2.2 ∧ x = S.1
theorem cP_of {dA : Nat → ClassId} {M0 : gM} {o ar : Nat} {ra sa : Nat → Nat} {la : Nat → Nat → Nat} {hs : Int32} {S S' : SR} {x : Int32} {M1 : gM} (h : S = S') (k : cW dA M0 M1 o ar ra sa la hs S'.2.1 S'.2.2.1 S'.2.2.2.1 S'.2.2.2.2 ∧ x = S'.1) : cP dA M0 o ar ra sa la hs S x M1 := by
  subst h; exact k
