/-! what the class answers at the law's calls, and what the law makes of it, as numbers -/
def ofV (k w : Nat) : Int32 := if w = 0 then tz_S k else if w = 1 then tz_L k else if w = 2 then tz_turn k else if w = 3 then tz_dim k else if w = 4 then tz_O k else tz_R (8 * k + (w - 10))
def tc (n a b : Nat) : Int32 := tz_C (22 * (qz_D n + a) + b)
def sm (h : Nat → Int64) : Nat → Int64
  | 0 => 0
  | c + 1 => sm h c + h c
/-- how many places ahead of c have a number above 0 -/
def prC (n i j : Nat) : Nat → Nat
  | 0 => 0
  | c + 1 => if 0 < nuV n i j c then prC n i j c + 1 else prC n i j c
def mxC (n i j : Nat) : Nat → Int32
  | 0 => 0
  | c + 1 => if mxC n i j c < nuV n i j c then nuV n i j c else mxC n i j c
def fr (k : Nat) : Nat := if sl k = 0 then 0 else sc k 0
def moreF (k m : Nat) : Nat → Int32 := fun j => if j = 0 then nI m - tz_S k else sr k (j - 1)
def dueV (k m : Nat) : Int32 := if sl k = 0 ∧ m = 0 then 0 else if nI m - tz_S k < nI (fr k) then -9 else fnd (moreF k m) (sl k + 1) 67 0
/-- the three grown to m cells: their number, and down to which m it stays -/
def gn (k m : Nat) : Nat := (dueV k m).toNatClampNeg
def grN (x y z m : Nat) : Int32 := nuV m (gn x m - qz_D m) (gn y m - qz_D m) (gn z m - qz_D m)
def leastN (x y z : Nat) : Nat := max (max (qz_S x + fr x) (qz_S y + fr y)) (qz_S z + fr z)
def stq (x y z : Nat) : Nat → Nat → Nat
  | 0, cur => cur
  | m + 1, cur => if leastN x y z ≤ m then (if grN x y z m = grN x y z 8 then stq x y z m m else cur) else cur
def inS (f g : Nat → Int32) : Nat → Int64 := sm (fun p => (f p).toInt64 * (g p).toInt64)
/-- the value of coefficients f (size n) at class b -/
def vaS (n : Nat) (f : Nat → Int32) (b : Nat) : Nat → Int64 := sm (fun p => (f p).toInt64 * (tc n p b).toInt64)
/-- coefficients of a product -/
def tmL (n : Nat) (f g : Nat → Int32) (c : Nat) : Int64 := sm (fun i => sm (fun j => (f i).toInt64 * (g j).toInt64 * (nuV n i j c).toInt64) (qz_N n)) (qz_N n)
def tmF (n : Nat) (f g : Nat → Int32) : Nat → Int32 := fun c => if c < qz_N n then (tmL n f g c).toInt32 else 0
def dbF (f : Nat → Int32) : Nat → Int32 := fun p => f p + f p
/-- how many corners of the shape at place q of size n leave the shape at place p of size n - 1 -/
def cor (n q p : Nat) : Nat := ((List.range 8).filter (fun c => decide (qz_H (8 * (qz_D n + q) + c) = 1) && decide (qz_F (8 * (qz_D n + q) + c) = qz_D (n - 1) + p))).length
def reF (n : Nat) (f : Nat → Int32) : Nat → Int32 := fun p => if p < qz_N (n - 1) then (sm (fun q => (f q).toInt64 * (nI (cor n q p)).toInt64) (qz_N n)).toInt32 else 0
def idF (n : Nat) (f : Nat → Int32) : Nat → Int32 := fun q => if q < qz_N n then (sm (fun p => (f p).toInt64 * (nI (cor n q p)).toInt64) (qz_N (n - 1))).toInt32 else 0
def tuP (n p : Nat) : Nat := qz_turn (qz_D n + p) - qz_D n
def tuF (n : Nat) (f : Nat → Int32) : Nat → Int32 := fun p => if p < qz_N n then f (tuP n p) else 0
