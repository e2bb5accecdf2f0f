/-! what the law's checks rest on, as numbers -/
def okF (n : Nat) (f : Nat → Int32) : Prop := (∀ p, -20 ≤ (f p).toInt ∧ (f p).toInt ≤ 20) ∧ (∀ p, qz_N n ≤ p → f p = 0) ∧ tmN f (qz_N n) ≤ 4
theorem ok_cut {n : Nat} {f : Nat → Int32} (h : okF n f) : cutF n f = f := by
  funext p
  unfold cutF
  by_cases c : p < qz_N n
  · rw [if_pos c]
  · rw [if_neg c]; exact (h.2.1 p (by omega)).symm
def oSum (n a b : Nat) : Nat → Int64 := sm (fun c => (tz_O (qz_D n + c)).toInt64 * (tc n a c).toInt64 * (tc n b c).toInt64)
def dSum (n a b : Nat) : Nat → Int64 := sm (fun c => (nuV n a b c).toInt64 * (tc n c (qz_N n - 1)).toInt64)
/-- a class with a cycle of one more -/
def moreC (K : Nat) : Nat → Nat := fun j => if j < sl K then sc K j else 1
def brS (k : Nat) (f : Nat → Int32) (b : Nat) : Nat → Int64 := sm (fun a => (2 : Int64) * (f a).toInt64 * (cha (sr (qz_D (k + 1) + a)) (sl (qz_D (k + 1) + a)) (moreC (qz_D k + b)) (sl (qz_D k + b) + 1)).toInt64)
theorem m1_lt {k : Nat} (h : k < 2 ^ 31) : nI 0 - 1 < nI k := by
  rw [Int32.lt_iff_toInt_lt, nI_toInt h, show (nI 0 - 1).toInt = -1 by decide]
  omega
theorem least_le {x y z : Nat} (hx : x < 12) (hy : y < 12) (hz : z < 12) : leastN x y z ≤ 8 := by
  have h1 := lp_least x hx
  have h2 := lp_least y hy
  have h3 := lp_least z hz
  unfold leastN
  omega
theorem nI_ne_of {a b : Nat} (ha : a < 2 ^ 31) (hb : b < 2 ^ 31) (h : ¬ nI a = nI b) : a ≠ b := fun e => h (by rw [e])
theorem nI_ne_m2 {a : Nat} (h : a < 2 ^ 31) : ¬ nI a = -2 := fun e => by
  have h1 := nI_toInt h
  rw [e, show (-2 : Int32).toInt = -2 by decide] at h1
  omega
theorem tmN_22 (f : Nat → Int32) : tmN f 22 ≤ 22 := tmN_le f 22
