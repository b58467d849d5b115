/-! ===== what a run is ===== -/
/-- of the two on top, in place of both -/
def sp_wk (t : Int) (a b : Int32) : Int32 := if t = 12 then a + b else if t = 13 then a - b else if t = 14 then a * b else if t = 15 then a / b else if t = 16 then (if a.toInt < b.toInt then a else b) else (if b.toInt < a.toInt then a else b)
/-- the step can be done -/
def sp_good (t : Int) (h : Nat) (f : Nat → Int32) : Bool := decide ((t < 12 → h < 8) ∧ (12 ≤ t → t < 18 → 2 ≤ h) ∧ (t = 15 → (f (h - 1)).toInt ≠ 0) ∧ (t = 18 → 1 ≤ h ∧ h < 8) ∧ (t = 19 → 2 ≤ h) ∧ (20 ≤ t → 1 ≤ h))
def sp_lay (x a b : Int32) : Int32 := if x.toInt = 10 then a else if x.toInt = 11 then b else x
def sp_h (t : Int) (h : Nat) : Nat := if t < 12 then h + 1 else if t < 18 then h - 1 else if t = 18 then h + 1 else if t = 19 then h else h - 1
def sp_f (x a b : Int32) (h : Nat) (f : Nat → Int32) : Nat → Int32 :=
  if x.toInt < 12 then upd f h (sp_lay x a b) else if x.toInt < 18 then upd f (h - 2) (sp_wk x.toInt (f (h - 2)) (f (h - 1))) else if x.toInt = 18 then upd f h (f (h - 1)) else if x.toInt = 19 then upd (upd f (h - 1) (f (h - 2))) (h - 2) (f (h - 1)) else f
def sp_at (t : Int) (at' h : Nat) (f : Nat → Int32) : Nat := if 21 ≤ t ∧ (f (h - 1)).toInt ≠ 0 then (t - 21).toNat else at' + 1
def zBAD : Int64 := 1099511627776
def zUNK : Int64 := 2199023255552
def zNOT : Int64 := 3298534883328
def zANY : Int64 := 4398046511104
def sp_fin (h : Nat) (f : Nat → Int32) : Int64 := if h = 0 then zBAD else (f (h - 1)).toInt64
/-- the outcome, and how many steps it takes -/
def sp_run (sz : Nat) (st : Nat → Int32) (a b : Int32) : Nat → Nat → Nat → (Nat → Int32) → Int64 × Nat
  | 0, q, h, f => if q < sz then (zUNK, 0) else (sp_fin h f, 0)
  | k + 1, q, h, f => if q < sz then (if sp_good (st q).toInt h f = true then ((sp_run sz st a b k (sp_at (st q).toInt q h f) (sp_h (st q).toInt h) (sp_f (st q) a b h f)).1, (sp_run sz st a b k (sp_at (st q).toInt q h f) (sp_h (st q).toInt h) (sp_f (st q) a b h f)).2 + 1) else (zBAD, 1)) else (sp_fin h f, 0)
/-- a step that a routine of t arguments and c steps may hold -/
def sp_may (x : Int) (t c : Nat) : Prop := (x = 11 → t = 2) ∧ (21 ≤ x → x - 21 < (c : Int))
/-- the inputs of the world -/
def wN (t : Nat) : Nat := if t = 1 then 13 else 49
def wA (t k : Nat) : Int32 := if t = 1 then nI k - nI 6 else nI (k / 7) - nI 3
def wB (t k : Nat) : Int32 := if t = 1 then nI 0 else nI (k % 7) - nI 3
