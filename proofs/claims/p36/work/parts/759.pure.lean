/-! what the law's checks rest on, as numbers -/
def okF (n : Nat) (f : Nat → Int32) : Prop := (∀ p, -20 ≤ (f p).toInt ∧ (f p).toInt ≤ 20) ∧ (∀ p, qz_N n ≤ p → f p = 0) ∧ tmN f (qz_N n) ≤ 4
theorem ok_cut {n : Nat} {f : Nat → Int32} (h : okF n f) : cutF n f = f := by
  funext p
  unfold cutF
  by_cases c : p < qz_N n
  · rw [if_pos c]
  · rw [if_neg c]; exact (h.2.1 p (by omega)).symm
theorem ok_dra (L at_ n : Nat) (xs : Nat → Int32) (hn : n < 8) : okF n (dra L xs at_ (qz_N n) 4) := sorry
theorem lp_tb : ∀ n, n < 8 → ∀ a, a < qz_N n → ∀ b, b < qz_N n → tb n a b = tc n a b := sorry
theorem lp_dim : ∀ n, n < 8 → ∀ a, a < qz_N n → tz_dim (qz_D n + a) = tc n a (qz_N n - 1) := sorry
def oSum (n a b : Nat) : Nat → Int64 := sm (fun c => (tz_O (qz_D n + c)).toInt64 * (tc n a c).toInt64 * (tc n b c).toInt64)
theorem lp_orth : ∀ n, n < 8 → ∀ a, a < qz_N n → ∀ b, b < qz_N n → oSum n a b (qz_N n) = if a = b then (xi_FACTORIALS n).toInt64 else 0 := sorry
theorem lp_nu : ∀ n, n < 8 → ∀ a, a < qz_N n → ∀ b, b < qz_N n → ∀ c, c < qz_N n → nuS n a b c (qz_N n) = (nuV n a b c).toInt64 * (xi_FACTORIALS n).toInt64 ∧ ¬ nuV n a b c < 0 := sorry
theorem lp_nuS : ∀ n, n < 8 → ∀ a, a < qz_N n → ∀ b, b < qz_N n → ∀ c, c < qz_N n → nuV n c a b = nuV n a b c ∧ nuV n b a c = nuV n a b c ∧ nuV n (tuP n a) b (tuP n c) = nuV n a b c := sorry
def dSum (n a b : Nat) : Nat → Int64 := sm (fun c => (nuV n a b c).toInt64 * (tc n c (qz_N n - 1)).toInt64)
theorem lp_dims : ∀ n, n < 8 → ∀ a, a < qz_N n → ∀ b, b < qz_N n → dSum n a b (qz_N n) = (tc n a (qz_N n - 1)).toInt64 * (tc n b (qz_N n - 1)).toInt64 := sorry
theorem pu_in {n : Nat} {f g : Nat → Int32} (hn : n < 8) (hf : okF n f) : inS f g 22 = inS f g (qz_N n) := sorry
theorem pu_fitT {n : Nat} {f g : Nat → Int32} (hn : n < 8) (hf : okF n f) (hg : okF n g) : ∀ c, c < qz_N n → -1000000 ≤ (tmL n f g c).toInt ∧ (tmL n f g c).toInt ≤ 1000000 := sorry
theorem pu_times {n : Nat} {f g : Nat → Int32} (hn : n < 8) (hf : okF n f) (hg : okF n g) {b : Nat} (hb : b < qz_N n) : vaS n (tmF n f g) b (qz_N n) = vaS n f b (qz_N n) * vaS n g b (qz_N n) := sorry
theorem pu_fitR {k : Nat} {f : Nat → Int32} (hn : k + 1 < 8) (hf : okF (k + 1) f) : ∀ c, c < qz_N k → -1000000 ≤ (sm (fun q => (dbF f q).toInt64 * (nI (cor (k + 1) q c)).toInt64) (qz_N (k + 1))).toInt ∧ (sm (fun q => (dbF f q).toInt64 * (nI (cor (k + 1) q c)).toInt64) (qz_N (k + 1))).toInt ≤ 1000000 := sorry
theorem pu_fitI {k : Nat} {f : Nat → Int32} (hn : k + 1 < 8) (hf : okF k f) : ∀ c, c < qz_N (k + 1) → -1000000 ≤ (sm (fun p => (f p).toInt64 * (nI (cor (k + 1) c p)).toInt64) (qz_N k)).toInt ∧ (sm (fun p => (f p).toInt64 * (nI (cor (k + 1) c p)).toInt64) (qz_N k)).toInt ≤ 1000000 := sorry
/-- a class with a cycle of one more -/
def moreC (K : Nat) : Nat → Nat := fun j => if j < sl K then sc K j else 1
def brS (k : Nat) (f : Nat → Int32) (b : Nat) : Nat → Int64 := sm (fun a => (2 : Int64) * (f a).toInt64 * (cha (sr (qz_D (k + 1) + a)) (sl (qz_D (k + 1) + a)) (moreC (qz_D k + b)) (sl (qz_D k + b) + 1)).toInt64)
theorem pu_restr {k : Nat} {f : Nat → Int32} (hn : k + 1 < 8) (hf : okF (k + 1) f) {b : Nat} (hb : b < qz_N k) : vaS k (reF (k + 1) (dbF f)) b (qz_N k) = brS k f b (qz_N (k + 1)) := sorry
theorem pu_frob {k : Nat} {f g : Nat → Int32} (hn : k + 1 < 8) (hf : okF (k + 1) f) (hg : okF k g) : inS (idF (k + 1) g) (dbF f) 22 = inS g (reF (k + 1) (dbF f)) 22 := sorry
theorem pu_turn {n : Nat} {f : Nat → Int32} (hn : n < 8) (hf : okF n f) {b : Nat} (hb : b < qz_N n) : vaS n (tuF n (dbF f)) b (qz_N n) = (2 : Int64) * vaS n f b (qz_N n) * (sgn (qz_D n + b)).toInt64 := sorry
theorem m1_lt {k : Nat} (h : k < 2 ^ 31) : nI 0 - 1 < nI k := by
  rw [Int32.lt_iff_toInt_lt, nI_toInt h, show (nI 0 - 1).toInt = -1 by decide]
  omega
theorem least_le {x y z : Nat} (hx : x < 12) (hy : y < 12) (hz : z < 12) : leastN x y z ≤ 8 := by
  have h1 := lp_least x hx
  have h2 := lp_least y hy
  have h3 := lp_least z hz
  unfold leastN
  omega
theorem nI_ne_of {a b : Nat} (ha : a < 2 ^ 31) (hb : b < 2 ^ 31) (h : ¬ nI a = nI b) : a ≠ b := fun e => h (by rw [e])
theorem nI_ne_m2 {a : Nat} (h : a < 2 ^ 31) : ¬ nI a = -2 := fun e => by
  have h1 := nI_toInt h
  rw [e, show (-2 : Int32).toInt = -2 by decide] at h1
  omega
theorem tmN_22 (f : Nat → Int32) : tmN f 22 ≤ 22 := tmN_le f 22
