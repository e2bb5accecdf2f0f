theorem pb1 {α β : Type} (a : α) (k : α → Option β) : p_b1 (some a) k = k a := rfl
theorem pb2 {α₁ α₂ β : Type} (a : α₁) (b : α₂) (k : α₁ → α₂ → Option β) : p_b2 (some (a, b)) k = k a b := rfl
theorem pb3 {α₁ α₂ α₃ β : Type} (a : α₁) (b : α₂) (c : α₃) (k : α₁ → α₂ → α₃ → Option β) : p_b3 (some (a, b, c)) k = k a b c := rfl
theorem pb4 {α₁ α₂ α₃ α₄ β : Type} (a : α₁) (b : α₂) (c : α₃) (d : α₄) (k : α₁ → α₂ → α₃ → α₄ → Option β) : p_b4 (some (a, b, c, d)) k = k a b c d := rfl
theorem pb5 {α₁ α₂ α₃ α₄ α₅ β : Type} (a : α₁) (b : α₂) (c : α₃) (d : α₄) (e : α₅) (k : α₁ → α₂ → α₃ → α₄ → α₅ → Option β) : p_b5 (some (a, b, c, d, e)) k = k a b c d e := rfl
theorem pb6 {α₁ α₂ α₃ α₄ α₅ α₆ β : Type} (a : α₁) (b : α₂) (c : α₃) (d : α₄) (e : α₅) (f : α₆) (k : α₁ → α₂ → α₃ → α₄ → α₅ → α₆ → Option β) : p_b6 (some (a, b, c, d, e, f)) k = k a b c d e f := rfl
theorem pb7 {α₁ α₂ α₃ α₄ α₅ α₆ α₇ β : Type} (a : α₁) (b : α₂) (c : α₃) (d : α₄) (e : α₅) (f : α₆) (g : α₇) (k : α₁ → α₂ → α₃ → α₄ → α₅ → α₆ → α₇ → Option β) : p_b7 (some (a, b, c, d, e, f, g)) k = k a b c d e f g := rfl
theorem pb8 {α₁ α₂ α₃ α₄ α₅ α₆ α₇ α₈ β : Type} (a : α₁) (b : α₂) (c : α₃) (d : α₄) (e : α₅) (f : α₆) (g : α₇) (i : α₈) (k : α₁ → α₂ → α₃ → α₄ → α₅ → α₆ → α₇ → α₈ → Option β) : p_b8 (some (a, b, c, d, e, f, g, i)) k = k a b c d e f g i := rfl
theorem pb9 {α₁ α₂ α₃ α₄ α₅ α₆ α₇ α₈ α₉ β : Type} (a : α₁) (b : α₂) (c : α₃) (d : α₄) (e : α₅) (f : α₆) (g : α₇) (i : α₈) (j : α₉) (k : α₁ → α₂ → α₃ → α₄ → α₅ → α₆ → α₇ → α₈ → α₉ → Option β) : p_b9 (some (a, b, c, d, e, f, g, i, j)) k = k a b c d e f g i j := rfl
theorem pin {α : Type} {i : Int32} {n : Nat} {k : Option α} (h : ¬ (i < 0 ∨ n ≤ i.toNatClampNeg)) : p_in i n k = k := by unfold p_in; rw [if_neg h]
theorem pinn {α : Type} {j n : Nat} {k : Option α} (h : j < n) (hn : n < 2 ^ 31) : p_in (nI j) n k = k := pin (nI_in h hn)
theorem i10 : ¬ (1 : Int32) = 0 := by decide
theorem nI_c : ∀ k, k < 5000 → (nI k).toNatClampNeg = k := fun k h => nI_clamp (by omega)
theorem k_has : ∀ s, s < 67 → f_X7_has (nI s) = some 1 := by decide +kernel
theorem k_firstOf : ∀ n, n < 9 → f_X7_firstOf (nI n) = some (nI (qz_D n)) := by decide +kernel
theorem k_countOf : ∀ n, n < 9 → f_X7_countOf (nI n) = some (nI (qz_N n)) := by decide +kernel
theorem k_sizeOf : ∀ s, s < 67 → f_X7_sizeOf tz_S (nI s) = some (tz_S s) := by decide +kernel
theorem k_lengthOf : ∀ s, s < 67 → f_X7_lengthOf tz_L (nI s) = some (tz_L s) := by decide +kernel
theorem k_restOf : ∀ s, s < 67 → f_X7_restOf tz_T (nI s) = some (tz_T s) := by decide +kernel
theorem k_ordersOf : ∀ s, s < 67 → f_X7_ordersOf tz_O (nI s) = some (tz_O s) := by decide +kernel
theorem k_row : ∀ s, s < 67 → ∀ r, r < 8 → f_X7_row tz_R (nI s) (nI r) = some (tz_R (8 * s + r)) := by decide +kernel
theorem k_turnedOf : ∀ s, s < 67 → f_X7_turnedOf tz_R tz_S (nI s) = some (tz_turn s) := by decide +kernel
theorem k_dimensionOf : ∀ s, s < 67 → f_X6_dimensionOf tz_S tz_H (nI s) = some (tz_dim s) := by decide +kernel
theorem k_bitsOf : ∀ s, s < 67 → f_X2_bitsOf tz_R tz_L tz_S (nI s) = some (tz_kind s) := by decide +kernel
theorem k_placeOf : ∀ s, s < 67 → f_X7_placeOf tz_S (nI s) = some (nI (s - qz_D (qz_S s))) := by decide +kernel
theorem m_times : ∀ n, n < 9 → f_X10_times (nI n) = some (xi_FACTORIALS n) := by decide +kernel
theorem m_ordersOf : ∀ s, s < 67 → f_X10_ordersOf tz_S tz_L tz_R (nI s) = some (tz_O s) := by decide +kernel
theorem m_dimension : ∀ s, s < 67 → f_X10_dimension tz_S tz_L tz_R (nI s) = some (tz_dim s) := by decide +kernel
