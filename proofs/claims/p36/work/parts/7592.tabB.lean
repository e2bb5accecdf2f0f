theorem tb_0 : ∀ a, a < qz_N 0 → ∀ b, b < qz_N 0 → tb 0 a b = tc 0 a b := by decide +kernel
theorem tb_1 : ∀ a, a < qz_N 1 → ∀ b, b < qz_N 1 → tb 1 a b = tc 1 a b := by decide +kernel
theorem tb_2 : ∀ a, a < qz_N 2 → ∀ b, b < qz_N 2 → tb 2 a b = tc 2 a b := by decide +kernel
theorem tb_3 : ∀ a, a < qz_N 3 → ∀ b, b < qz_N 3 → tb 3 a b = tc 3 a b := by decide +kernel
theorem tb_4 : ∀ a, a < qz_N 4 → ∀ b, b < qz_N 4 → tb 4 a b = tc 4 a b := by decide +kernel
theorem tb_5 : ∀ a, a < qz_N 5 → ∀ b, b < qz_N 5 → tb 5 a b = tc 5 a b := by decide +kernel
theorem tb_6 : ∀ a, a < qz_N 6 → ∀ b, b < qz_N 6 → tb 6 a b = tc 6 a b := by decide +kernel
theorem tb_7 : ∀ a, a < qz_N 7 → ∀ b, b < qz_N 7 → tb 7 a b = tc 7 a b := by decide +kernel
theorem lp_tb : ∀ n, n < 8 → ∀ a, a < qz_N n → ∀ b, b < qz_N n → tb n a b = tc n a b := by
  intro n hn
  rcases (show n = 0 ∨ n = 1 ∨ n = 2 ∨ n = 3 ∨ n = 4 ∨ n = 5 ∨ n = 6 ∨ n = 7 by omega) with rfl | rfl | rfl | rfl | rfl | rfl | rfl | rfl
  · exact tb_0
  · exact tb_1
  · exact tb_2
  · exact tb_3
  · exact tb_4
  · exact tb_5
  · exact tb_6
  · exact tb_7
theorem br_0 : ∀ q, q < qz_N 1 → ∀ b, b < qz_N 0 → sm (fun p => (nI (cor 1 q p)).toInt64 * (tc 0 p b).toInt64) (qz_N 0) = (cha (sr (qz_D 1 + q)) (sl (qz_D 1 + q)) (moreC (qz_D 0 + b)) (sl (qz_D 0 + b) + 1)).toInt64 := by decide +kernel
theorem br_1 : ∀ q, q < qz_N 2 → ∀ b, b < qz_N 1 → sm (fun p => (nI (cor 2 q p)).toInt64 * (tc 1 p b).toInt64) (qz_N 1) = (cha (sr (qz_D 2 + q)) (sl (qz_D 2 + q)) (moreC (qz_D 1 + b)) (sl (qz_D 1 + b) + 1)).toInt64 := by decide +kernel
theorem br_2 : ∀ q, q < qz_N 3 → ∀ b, b < qz_N 2 → sm (fun p => (nI (cor 3 q p)).toInt64 * (tc 2 p b).toInt64) (qz_N 2) = (cha (sr (qz_D 3 + q)) (sl (qz_D 3 + q)) (moreC (qz_D 2 + b)) (sl (qz_D 2 + b) + 1)).toInt64 := by decide +kernel
theorem br_3 : ∀ q, q < qz_N 4 → ∀ b, b < qz_N 3 → sm (fun p => (nI (cor 4 q p)).toInt64 * (tc 3 p b).toInt64) (qz_N 3) = (cha (sr (qz_D 4 + q)) (sl (qz_D 4 + q)) (moreC (qz_D 3 + b)) (sl (qz_D 3 + b) + 1)).toInt64 := by decide +kernel
theorem br_4 : ∀ q, q < qz_N 5 → ∀ b, b < qz_N 4 → sm (fun p => (nI (cor 5 q p)).toInt64 * (tc 4 p b).toInt64) (qz_N 4) = (cha (sr (qz_D 5 + q)) (sl (qz_D 5 + q)) (moreC (qz_D 4 + b)) (sl (qz_D 4 + b) + 1)).toInt64 := by decide +kernel
theorem br_5 : ∀ q, q < qz_N 6 → ∀ b, b < qz_N 5 → sm (fun p => (nI (cor 6 q p)).toInt64 * (tc 5 p b).toInt64) (qz_N 5) = (cha (sr (qz_D 6 + q)) (sl (qz_D 6 + q)) (moreC (qz_D 5 + b)) (sl (qz_D 5 + b) + 1)).toInt64 := by decide +kernel
theorem br_6 : ∀ q, q < qz_N 7 → ∀ b, b < qz_N 6 → sm (fun p => (nI (cor 7 q p)).toInt64 * (tc 6 p b).toInt64) (qz_N 6) = (cha (sr (qz_D 7 + q)) (sl (qz_D 7 + q)) (moreC (qz_D 6 + b)) (sl (qz_D 6 + b) + 1)).toInt64 := by decide +kernel
theorem lp_branch : ∀ k, k < 7 → ∀ q, q < qz_N (k + 1) → ∀ b, b < qz_N k → sm (fun p => (nI (cor (k + 1) q p)).toInt64 * (tc k p b).toInt64) (qz_N k) = (cha (sr (qz_D (k + 1) + q)) (sl (qz_D (k + 1) + q)) (moreC (qz_D k + b)) (sl (qz_D k + b) + 1)).toInt64 := by
  intro k hk
  rcases (show k = 0 ∨ k = 1 ∨ k = 2 ∨ k = 3 ∨ k = 4 ∨ k = 5 ∨ k = 6 by omega) with rfl | rfl | rfl | rfl | rfl | rfl | rfl
  · exact br_0
  · exact br_1
  · exact br_2
  · exact br_3
  · exact br_4
  · exact br_5
  · exact br_6
