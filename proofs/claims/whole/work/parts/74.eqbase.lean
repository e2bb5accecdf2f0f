/-! the relation of the class's state and the model's -/
def Kc (v7_rows v7_lengths v7_sizes v7_rests v7_orders v6_hooks v6_lefts v6_heights v1_table : Nat → Int32) : Prop := v7_rows = tz_R ∧ v7_lengths = tz_L ∧ v7_sizes = tz_S ∧ v7_rests = tz_T ∧ v7_orders = tz_O ∧ v6_hooks = tz_H ∧ v6_lefts = tz_F ∧ v6_heights = tz_E ∧ v1_table = tz_C
def Km (v10_firstOf v10_sizeOf v10_longOf v10_row v10_character : Nat → Int32) : Prop := v10_firstOf = tz_D ∧ v10_sizeOf = tz_S ∧ v10_longOf = tz_L ∧ v10_row = tz_R ∧ v10_character = tz_M
def Rf (r r' : Nat → Int32) : Prop := ∀ k, k < 7 → r k = r' k
def Rle (letters letter : Nat → Int32) (count letters' : Int32) : Prop := count = letters' ∧ ∃ n, n ≤ 72 ∧ count = nI n ∧ ∀ j, j < n → letters j = letter j
def Rli (values lengths list cell : Nat → Int32) : Prop := ∀ l, l < 3 → lengths l = list l ∧ (lengths l = -1 ∨ ∃ n, n ≤ 40 ∧ lengths l = nI n ∧ ∀ i, i < n → values (40 * l + i) = cell (40 * l + i))
/-- the number of three shapes (by their places) of a size, in the class's arithmetic -/
def nuT (n i j k : Nat) (p : Nat) : Int64 := (tz_O (qz_D n + p)).toInt64 * (tz_C (22 * (qz_D n + i) + p)).toInt64 * (tz_C (22 * (qz_D n + j) + p)).toInt64 * (tz_C (22 * (qz_D n + k) + p)).toInt64
def nuS (n i j k : Nat) : Nat → Int64
  | 0 => 0
  | p + 1 => nuS n i j k p + nuT n i j k p
def nuV (n i j k : Nat) : Int32 := (nuS n i j k (qz_N n) / (xi_FACTORIALS n).toInt64).toInt32
def qidx (n h m l : Nat) : Nat := [0, 1, 2, 6, 16, 51, 135, 421, 1101].getD n 0 + h * (h + 1) * (h + 2) / 6 + m * (m + 1) / 2 + l
def Kn (known : Nat → Int32) : Prop := ∀ n, n < 9 → ∀ h, h < qz_N n → ∀ m, m ≤ h → ∀ l, l ≤ m → known (qidx n h m l) = 0 ∨ known (qidx n h m l) = nuV n h m l + 1
/-- one sum: of the class (its slot) and of the model (its place) -/
def Rs1 (sizes coefs : Nat → Int32) (sl : Nat) (sum coefficient : Nat → Int32) (b c : Nat) : Prop :=
  sizes sl = sum b ∧ ((sizes sl = -1 ∧ ∀ p, p < 22 → coefs (22 * sl + p) = 0) ∨ ∃ n, n < 9 ∧ sizes sl = nI n ∧ (∀ p, p < 22 → coefs (22 * sl + p) = coefficient (c + p)) ∧ (∀ p, qz_N n ≤ p → p < 22 → coefs (22 * sl + p) = 0) ∧ ∀ p, p < 22 → ∃ z : Int, -1000000 ≤ z ∧ z ≤ 1000000 ∧ (coefs (22 * sl + p)).toInt = z)
/-- the class's slot for sum s ahead of the j-th latest change (j of them undone): where it lies -/
def uslot (undoneSums : Nat → Int32) (next : Nat) (s : Nat) : Nat → Nat
  | 0 => s
  | j + 1 => if undoneSums ((next + 7 - j) % 8) = nI s then 8 + (next + 7 - j) % 8 else uslot undoneSums next s j
def Rsu (sizes coefs undoneSums : Nat → Int32) (undos nextUndo imageTaken : Int32) (sum coefficient : Nat → Int32) (undone : Int32) (wasSum wasCoefficient : Nat → Int32) (hasImage : Int32) : Prop :=
  (∀ s, s < 4 → Rs1 sizes coefs s sum coefficient s (22 * s)) ∧
  (∃ u next, u ≤ 8 ∧ next < 8 ∧ undos = nI u ∧ undone = nI u ∧ nextUndo = nI next ∧ (∀ j, j < u → ∃ s, s < 4 ∧ undoneSums ((next + 7 - j) % 8) = nI s) ∧
    ∀ j, j < u → ∀ s, s < 4 → Rs1 sizes coefs (uslot undoneSums next s (j + 1)) wasSum wasCoefficient (4 * (u - 1 - j) + s) (88 * (u - 1 - j) + 22 * s)) ∧
  ((imageTaken = 0 ∧ hasImage = 0) ∨ (imageTaken = 1 ∧ hasImage = 1 ∧ ∀ s, s < 4 → Rs1 sizes coefs (4 + s) wasSum wasCoefficient (32 + s) (704 + 22 * s)))
def Rl0 : RlT := fun v9_refusals v7_rows v7_lengths v7_sizes v7_rests v7_orders v6_hooks v6_lefts v6_heights v1_table v5_known v8_sizes v8_coefficients v8_undoneSums v8_undos v8_nextUndo v8_imageTaken v0_totals v3_letters v3_count v3_next v3_size v4_values v4_lengths v10_firstOf v10_sizeOf v10_longOf v10_row v10_character v10_sum v10_coefficient v10_undone v10_wasSum v10_wasCoefficient v10_hasImage v10_letter v10_letters v10_list v10_cell v10_refusals v10_tried v10_left v10_high v10_then v10_at v10_readSize => Kc v7_rows v7_lengths v7_sizes v7_rests v7_orders v6_hooks v6_lefts v6_heights v1_table ∧ Km v10_firstOf v10_sizeOf v10_longOf v10_row v10_character ∧ Rf v9_refusals v10_refusals ∧ Kn v5_known ∧ Rle v3_letters v10_letter v3_count v10_letters ∧ Rli v4_values v4_lengths v10_list v10_cell ∧ Rsu v8_sizes v8_coefficients v8_undoneSums v8_undos v8_nextUndo v8_imageTaken v10_sum v10_coefficient v10_undone v10_wasSum v10_wasCoefficient v10_hasImage
theorem sh_or (N : Nat) (hN : N < 2 ^ 31) (x : Int32) : (∃ s, s < N ∧ x = nI s) ∨ x < 0 ∨ nI N ≤ x := by
  by_cases h : x < 0
  · exact Or.inr (Or.inl h)
  · obtain ⟨j, hj, rfl⟩ := nI_of h
    by_cases h2 : j < N
    · exact Or.inl ⟨j, h2, rfl⟩
    · exact Or.inr (Or.inr (nI_le (by omega) hj))
theorem k_has0 {x : Int32} (h : x < 0 ∨ nI 67 ≤ x) : f_X7_has x = some 0 ∧ f_X10_isShape x = some 0 := by
  unfold f_X7_has f_X10_isShape f_X10_in
  by_cases c : x < 0
  · rw [if_pos c, if_pos c]; exact ⟨rfl, rfl⟩
  · have h := h.resolve_left c
    rw [if_neg c, if_neg c]
    have h1 : (67 : Int32) ≤ x := h
    have h2 : (66 : Int32) < x := Int32.lt_of_lt_of_le (by decide) h1
    rw [if_pos h1, if_pos h2]; exact ⟨rfl, rfl⟩
theorem m_isShape : ∀ s, s < 67 → f_X10_isShape (nI s) = some 1 := by decide +kernel
theorem shx (x : Int32) : (∃ s, s < 67 ∧ x = nI s ∧ f_X7_has x = some 1 ∧ f_X10_isShape x = some 1) ∨ (f_X7_has x = some 0 ∧ f_X10_isShape x = some 0) := by
  rcases sh_or 67 (by decide) x with ⟨s, hs, rfl⟩ | h
  · exact Or.inl ⟨s, hs, rfl, k_has s hs, m_isShape s hs⟩
  · exact Or.inr (k_has0 h)
theorem rf_1 {a b : Nat → Int32} (h : Rf a b) (r : Int32) (hr : r = -1 ∨ r = -2 ∨ r = -3 ∨ r = -4 ∨ r = -6) : ∃ a' b', f_X9_refuse a r = some (r, a') ∧ f_X10_refused b r = some (r, b') ∧ Rf a' b' := by
  have key : ∀ k, k < 7 → Rf (upd a k (a k + 1)) (upd b k (b k + 1)) := by
    intro k hk j hj
    unfold upd
    by_cases e : j = k
    · rw [if_pos e, if_pos e, h k hk]
    · rw [if_neg e, if_neg e, h j hj]
  rcases hr with rfl | rfl | rfl | rfl | rfl
  · exact ⟨_, _, rfl, rfl, key 1 (by decide)⟩
  · exact ⟨_, _, rfl, rfl, key 2 (by decide)⟩
  · exact ⟨_, _, rfl, rfl, key 3 (by decide)⟩
  · exact ⟨_, _, rfl, rfl, key 4 (by decide)⟩
  · exact ⟨_, _, rfl, rfl, key 6 (by decide)⟩
theorem Rl0_mk {v9_refusals : Nat → Int32} {v7_rows : Nat → Int32} {v7_lengths : Nat → Int32} {v7_sizes : Nat → Int32} {v7_rests : Nat → Int32} {v7_orders : Nat → Int32} {v6_hooks : Nat → Int32} {v6_lefts : Nat → Int32} {v6_heights : Nat → Int32} {v1_table : Nat → Int32} {v5_known : Nat → Int32} {v8_sizes : Nat → Int32} {v8_coefficients : Nat → Int32} {v8_undoneSums : Nat → Int32} {v8_undos : Int32} {v8_nextUndo : Int32} {v8_imageTaken : Int32} {v0_totals : Nat → Int64} {v3_letters : Nat → Int32} {v3_count : Int32} {v3_next : Int32} {v3_size : Int32} {v4_values : Nat → Int32} {v4_lengths : Nat → Int32} {v10_firstOf : Nat → Int32} {v10_sizeOf : Nat → Int32} {v10_longOf : Nat → Int32} {v10_row : Nat → Int32} {v10_character : Nat → Int32} {v10_sum : Nat → Int32} {v10_coefficient : Nat → Int32} {v10_undone : Int32} {v10_wasSum : Nat → Int32} {v10_wasCoefficient : Nat → Int32} {v10_hasImage : Int32} {v10_letter : Nat → Int32} {v10_letters : Int32} {v10_list : Nat → Int32} {v10_cell : Nat → Int32} {v10_refusals : Nat → Int32} {v10_tried : Nat → Int32} {v10_left : Int32} {v10_high : Int32} {v10_then : Nat → Int64} {v10_at : Int32} {v10_readSize : Int32} (hc : Kc v7_rows v7_lengths v7_sizes v7_rests v7_orders v6_hooks v6_lefts v6_heights v1_table) (hm : Km v10_firstOf v10_sizeOf v10_longOf v10_row v10_character) (hrf : Rf v9_refusals v10_refusals) (hkn : Kn v5_known) (hle : Rle v3_letters v10_letter v3_count v10_letters) (hli : Rli v4_values v4_lengths v10_list v10_cell) (hsu : Rsu v8_sizes v8_coefficients v8_undoneSums v8_undos v8_nextUndo v8_imageTaken v10_sum v10_coefficient v10_undone v10_wasSum v10_wasCoefficient v10_hasImage) : Rl0 v9_refusals v7_rows v7_lengths v7_sizes v7_rests v7_orders v6_hooks v6_lefts v6_heights v1_table v5_known v8_sizes v8_coefficients v8_undoneSums v8_undos v8_nextUndo v8_imageTaken v0_totals v3_letters v3_count v3_next v3_size v4_values v4_lengths v10_firstOf v10_sizeOf v10_longOf v10_row v10_character v10_sum v10_coefficient v10_undone v10_wasSum v10_wasCoefficient v10_hasImage v10_letter v10_letters v10_list v10_cell v10_refusals v10_tried v10_left v10_high v10_then v10_at v10_readSize := ⟨hc, hm, hrf, hkn, hle, hli, hsu⟩
