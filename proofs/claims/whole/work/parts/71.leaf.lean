theorem k_has : ∀ s, s < 67 → f_X7_has (nI s) = some 1 := by decide +kernel
theorem k_firstOf : ∀ n, n < 9 → f_X7_firstOf (nI n) = some (nI (qz_D n)) := by decide +kernel
theorem k_countOf : ∀ n, n < 9 → f_X7_countOf (nI n) = some (nI (qz_N n)) := by decide +kernel
theorem k_sizeOf : ∀ s, s < 67 → f_X7_sizeOf tz_S (nI s) = some (tz_S s) := by decide +kernel
theorem k_lengthOf : ∀ s, s < 67 → f_X7_lengthOf tz_L (nI s) = some (tz_L s) := by decide +kernel
theorem k_restOf : ∀ s, s < 67 → f_X7_restOf tz_T (nI s) = some (tz_T s) := by decide +kernel
theorem k_ordersOf : ∀ s, s < 67 → f_X7_ordersOf tz_O (nI s) = some (tz_O s) := by decide +kernel
theorem k_row : ∀ s, s < 67 → ∀ r, r < 8 → f_X7_row tz_R (nI s) (nI r) = some (tz_R (8 * s + r)) := by decide +kernel
theorem k_turnedOf : ∀ s, s < 67 → f_X7_turnedOf tz_R tz_S (nI s) = some (tz_turn s) := by decide +kernel
theorem k_dimensionOf : ∀ s, s < 67 → f_X6_dimensionOf tz_S tz_H (nI s) = some (tz_dim s) := by decide +kernel
theorem k_bitsOf : ∀ s, s < 67 → f_X2_bitsOf tz_R tz_L tz_S (nI s) = some (tz_kind s) := by decide +kernel
theorem k_placeOf : ∀ s, s < 67 → f_X7_placeOf tz_S (nI s) = some (nI (s - qz_D (qz_S s))) := by decide +kernel
theorem m_times : ∀ n, n < 9 → f_X10_times (nI n) = some (xi_FACTORIALS n) := by decide +kernel
theorem m_ordersOf : ∀ s, s < 67 → f_X10_ordersOf tz_S tz_L tz_R (nI s) = some (tz_O s) := by decide +kernel
theorem m_dimension : ∀ s, s < 67 → f_X10_dimension tz_S tz_L tz_R (nI s) = some (tz_dim s) := by decide +kernel
