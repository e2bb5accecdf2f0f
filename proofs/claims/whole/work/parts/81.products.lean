theorem hsx (x y : Int32) : (∃ s t, s < 67 ∧ t < 67 ∧ x = nI s ∧ y = nI t ∧ f_X7_has x = some 1 ∧ f_X7_has y = some 1 ∧ f_X10_hinders tz_S x y = some (if qz_S s = qz_S t then 0 else -3) ∧ f_X7_alike tz_S x y = some (if qz_S s = qz_S t then 1 else 0)) ∨ (f_X10_hinders tz_S x y = some (-1) ∧ (f_X7_has x = some 0 ∨ (f_X7_has x = some 1 ∧ f_X7_has y = some 0))) := by
  rcases shx x with ⟨s, hs, rfl, h1, h2⟩ | ⟨h1, h2⟩
  · rcases shx y with ⟨t, ht, rfl, g1, g2⟩ | ⟨g1, g2⟩
    · exact Or.inl ⟨s, t, hs, ht, rfl, rfl, h1, g1, m_hinders s hs t ht, k_alike s hs t ht⟩
    · refine Or.inr ⟨?_, Or.inr ⟨h1, g1⟩⟩
      unfold f_X10_hinders
      rw [h2, pb1, if_neg i10, g2, pb1, if_pos rfl]
  · refine Or.inr ⟨?_, Or.inl h1⟩
    unfold f_X10_hinders
    rw [h2, pb1, if_pos rfl]
theorem le0_iff (v : Int32) : v ≤ 0 ↔ ¬ 0 < v := Int32.not_lt.symm
theorem prod_len {n i j : Nat} (hn : n < 9) (hi : i < qz_N n) (hj : j < qz_N n) (rf : Nat → Int32) : ∀ (d f g p q : Nat), p + d = qz_N n → d < f → d < g → q ≤ p → ∀ known, Kn known → ∃ r known', f_X5_lengthOfProduct_9 tz_S tz_O tz_C f known (nI (qz_D n + i)) (nI (qz_D n + j)) (nI q) (nI (qz_D n + p)) = some (r, known') ∧ Kn known' ∧ f_X10_product_48 tz_D tz_S tz_L tz_R tz_M g rf (nI (qz_D n + i)) (nI (qz_D n + j)) (-1) (nI q) (nI (qz_D n + p)) = some (r, rf) := by
  have hN := qN_le n hn
  obtain ⟨hD, hD2⟩ := qD_step n hn
  obtain ⟨a1, a2⟩ := shD n hn i hi
  intro d
  induction d with
  | zero =>
    intro f g p q hp hf hg hq known hkn
    obtain ⟨f, rfl⟩ : ∃ z, f = z + 1 := ⟨f - 1, by omega⟩
    obtain ⟨g, rfl⟩ : ∃ z, g = z + 1 := ⟨g - 1, by omega⟩
    obtain rfl : p = qz_N n := by omega
    refine ⟨nI q, known, ?_, hkn, ?_⟩
    · show gf_X5_lengthOfProduct_9 (f_X5_lengthOfProduct_9 tz_S tz_O tz_C f) tz_S tz_O tz_C known (nI (qz_D n + i)) (nI (qz_D n + j)) (nI q) (nI (qz_D n + qz_N n)) = _
      unfold gf_X5_lengthOfProduct_9
      rw [k_end5 hn hi, pb1, if_pos (Int32.le_refl _)]
    · show gf_X10_product_48 (f_X10_product_48 tz_D tz_S tz_L tz_R tz_M g) tz_D tz_S tz_L tz_R tz_M rf (nI (qz_D n + i)) (nI (qz_D n + j)) (-1) (nI q) (nI (qz_D n + qz_N n)) = _
      unfold gf_X10_product_48
      rw [pinn a1 (by decide), nI_c _ (by omega), show tz_S (qz_D n + i) + (1 : Int32) = nI (n + 1) by unfold tz_S; rw [a2]; exact nI_1 n, pinn (by omega) (by decide), nI_c (n + 1) (by omega), if_pos (show tz_D (n + 1) ≤ nI (qz_D n + qz_N n) from nI_le (by omega) (by omega)), if_pos rfl]
  | succ d ih =>
    intro f g p q hp hf hg hq known hkn
    obtain ⟨f, rfl⟩ : ∃ z, f = z + 1 := ⟨f - 1, by omega⟩
    obtain ⟨g, rfl⟩ : ∃ z, g = z + 1 := ⟨g - 1, by omega⟩
    have hpN : p < qz_N n := by omega
    obtain ⟨known1, e1, hkn1⟩ := k_at5 hn hi hj hpN hkn
    have e2 := m_number hn hi hj hpN
    have hm1 : ¬ nI q = -1 := fun e => by
      have h1 := congrArg Int32.toInt e
      rw [nI_toInt (by omega), show (-1 : Int32).toInt = -1 by decide] at h1
      omega
    have s1 : f_X5_lengthOfProduct_9 tz_S tz_O tz_C (f + 1) known (nI (qz_D n + i)) (nI (qz_D n + j)) (nI q) (nI (qz_D n + p)) = (if nuV n i j p ≤ 0 then f_X5_lengthOfProduct_9 tz_S tz_O tz_C f known1 (nI (qz_D n + i)) (nI (qz_D n + j)) (nI q) (nI (qz_D n + (p + 1))) else f_X5_lengthOfProduct_9 tz_S tz_O tz_C f known1 (nI (qz_D n + i)) (nI (qz_D n + j)) (nI (q + 1)) (nI (qz_D n + (p + 1)))) := by
      show gf_X5_lengthOfProduct_9 (f_X5_lengthOfProduct_9 tz_S tz_O tz_C f) tz_S tz_O tz_C known (nI (qz_D n + i)) (nI (qz_D n + j)) (nI q) (nI (qz_D n + p)) = _
      unfold gf_X5_lengthOfProduct_9
      rw [k_end5 hn hi, pb1, if_neg (nI_ge (by omega) (by omega)), e1, pb2, show nI (qz_D n + p) + (1 : Int32) = nI (qz_D n + (p + 1)) from nI_1 _, show nI q + (1 : Int32) = nI (q + 1) from nI_1 q]
    have s2 : f_X10_product_48 tz_D tz_S tz_L tz_R tz_M (g + 1) rf (nI (qz_D n + i)) (nI (qz_D n + j)) (-1) (nI q) (nI (qz_D n + p)) = (if nuV n i j p ≤ 0 then f_X10_product_48 tz_D tz_S tz_L tz_R tz_M g rf (nI (qz_D n + i)) (nI (qz_D n + j)) (-1) (nI q) (nI (qz_D n + (p + 1))) else f_X10_product_48 tz_D tz_S tz_L tz_R tz_M g rf (nI (qz_D n + i)) (nI (qz_D n + j)) (-1) (nI (q + 1)) (nI (qz_D n + (p + 1)))) := by
      show gf_X10_product_48 (f_X10_product_48 tz_D tz_S tz_L tz_R tz_M g) tz_D tz_S tz_L tz_R tz_M rf (nI (qz_D n + i)) (nI (qz_D n + j)) (-1) (nI q) (nI (qz_D n + p)) = _
      unfold gf_X10_product_48 f_X10_product_82 f_X10_product_98 f_X10_product_110
      rw [pinn a1 (by decide), nI_c _ (by omega), show tz_S (qz_D n + i) + (1 : Int32) = nI (n + 1) by unfold tz_S; rw [a2]; exact nI_1 n, pinn (by omega) (by decide), nI_c (n + 1) (by omega), if_neg (show ¬ tz_D (n + 1) ≤ nI (qz_D n + p) from nI_ge (by omega) (by omega)), e2, pb1, if_pos rfl, if_pos rfl, if_neg i10, if_neg hm1, if_neg i10, show nI (qz_D n + p) + (1 : Int32) = nI (qz_D n + (p + 1)) from nI_1 _, show nI q + (1 : Int32) = nI (q + 1) from nI_1 q, Int32.add_zero]
    rw [s1, s2]
    by_cases c : nuV n i j p ≤ 0
    · rw [if_pos c, if_pos c]
      exact ih f g (p + 1) q (by omega) (by omega) (by omega) (by omega) known1 hkn1
    · rw [if_neg c, if_neg c]
      exact ih f g (p + 1) (q + 1) (by omega) (by omega) (by omega) (by omega) known1 hkn1
theorem prod_part {n i j : Nat} (hn : n < 9) (hi : i < qz_N n) (hj : j < qz_N n) (rf : Nat → Int32) {x : Int32} (hx : ¬ x = -1) : ∀ (d f g p q : Nat), p + d = qz_N n → d < f → d < g → q ≤ p → ∀ known, Kn known → ∃ r known', f_X5_partOfProduct_10 tz_S tz_O tz_C f known (nI (qz_D n + i)) (nI (qz_D n + j)) x (nI q) (nI (qz_D n + p)) = some (r, known') ∧ Kn known' ∧ f_X10_product_48 tz_D tz_S tz_L tz_R tz_M g rf (nI (qz_D n + i)) (nI (qz_D n + j)) x (nI q) (nI (qz_D n + p)) = some (r, rf) := by
  have hN := qN_le n hn
  obtain ⟨hD, hD2⟩ := qD_step n hn
  obtain ⟨a1, a2⟩ := shD n hn i hi
  intro d
  induction d with
  | zero =>
    intro f g p q hp hf hg hq known hkn
    obtain ⟨f, rfl⟩ : ∃ z, f = z + 1 := ⟨f - 1, by omega⟩
    obtain ⟨g, rfl⟩ : ∃ z, g = z + 1 := ⟨g - 1, by omega⟩
    obtain rfl : p = qz_N n := by omega
    refine ⟨-9, known, ?_, hkn, ?_⟩
    · show gf_X5_partOfProduct_10 (f_X5_partOfProduct_10 tz_S tz_O tz_C f) tz_S tz_O tz_C known (nI (qz_D n + i)) (nI (qz_D n + j)) x (nI q) (nI (qz_D n + qz_N n)) = _
      unfold gf_X5_partOfProduct_10
      rw [k_end5 hn hi, pb1, if_pos (Int32.le_refl _)]
    · show gf_X10_product_48 (f_X10_product_48 tz_D tz_S tz_L tz_R tz_M g) tz_D tz_S tz_L tz_R tz_M rf (nI (qz_D n + i)) (nI (qz_D n + j)) x (nI q) (nI (qz_D n + qz_N n)) = _
      unfold gf_X10_product_48
      rw [pinn a1 (by decide), nI_c _ (by omega), show tz_S (qz_D n + i) + (1 : Int32) = nI (n + 1) by unfold tz_S; rw [a2]; exact nI_1 n, pinn (by omega) (by decide), nI_c (n + 1) (by omega), if_pos (show tz_D (n + 1) ≤ nI (qz_D n + qz_N n) from nI_le (by omega) (by omega)), if_neg hx]
  | succ d ih =>
    intro f g p q hp hf hg hq known hkn
    obtain ⟨f, rfl⟩ : ∃ z, f = z + 1 := ⟨f - 1, by omega⟩
    obtain ⟨g, rfl⟩ : ∃ z, g = z + 1 := ⟨g - 1, by omega⟩
    have hpN : p < qz_N n := by omega
    obtain ⟨known1, e1, hkn1⟩ := k_at5 hn hi hj hpN hkn
    have e2 := m_number hn hi hj hpN
    have s1 : f_X5_partOfProduct_10 tz_S tz_O tz_C (f + 1) known (nI (qz_D n + i)) (nI (qz_D n + j)) x (nI q) (nI (qz_D n + p)) = (if nuV n i j p ≤ 0 then f_X5_partOfProduct_10 tz_S tz_O tz_C f known1 (nI (qz_D n + i)) (nI (qz_D n + j)) x (nI q) (nI (qz_D n + (p + 1))) else (if nI q = x then some (nI (qz_D n + p), known1) else f_X5_partOfProduct_10 tz_S tz_O tz_C f known1 (nI (qz_D n + i)) (nI (qz_D n + j)) x (nI (q + 1)) (nI (qz_D n + (p + 1))))) := by
      show gf_X5_partOfProduct_10 (f_X5_partOfProduct_10 tz_S tz_O tz_C f) tz_S tz_O tz_C known (nI (qz_D n + i)) (nI (qz_D n + j)) x (nI q) (nI (qz_D n + p)) = _
      unfold gf_X5_partOfProduct_10
      rw [k_end5 hn hi, pb1, if_neg (nI_ge (by omega) (by omega)), e1, pb2, show nI (qz_D n + p) + (1 : Int32) = nI (qz_D n + (p + 1)) from nI_1 _, show nI q + (1 : Int32) = nI (q + 1) from nI_1 q]
    have s2 : f_X10_product_48 tz_D tz_S tz_L tz_R tz_M (g + 1) rf (nI (qz_D n + i)) (nI (qz_D n + j)) x (nI q) (nI (qz_D n + p)) = (if nuV n i j p ≤ 0 then f_X10_product_48 tz_D tz_S tz_L tz_R tz_M g rf (nI (qz_D n + i)) (nI (qz_D n + j)) x (nI q) (nI (qz_D n + (p + 1))) else (if nI q = x then some (nI (qz_D n + p), rf) else f_X10_product_48 tz_D tz_S tz_L tz_R tz_M g rf (nI (qz_D n + i)) (nI (qz_D n + j)) x (nI (q + 1)) (nI (qz_D n + (p + 1))))) := by
      show gf_X10_product_48 (f_X10_product_48 tz_D tz_S tz_L tz_R tz_M g) tz_D tz_S tz_L tz_R tz_M rf (nI (qz_D n + i)) (nI (qz_D n + j)) x (nI q) (nI (qz_D n + p)) = _
      unfold gf_X10_product_48 f_X10_product_82 f_X10_product_98 f_X10_product_110
      rw [pinn a1 (by decide), nI_c _ (by omega), show tz_S (qz_D n + i) + (1 : Int32) = nI (n + 1) by unfold tz_S; rw [a2]; exact nI_1 n, pinn (by omega) (by decide), nI_c (n + 1) (by omega), if_neg (show ¬ tz_D (n + 1) ≤ nI (qz_D n + p) from nI_ge (by omega) (by omega)), e2, pb1, if_pos rfl, if_pos rfl, if_neg i10, if_neg i10, show nI (qz_D n + p) + (1 : Int32) = nI (qz_D n + (p + 1)) from nI_1 _, show nI q + (1 : Int32) = nI (q + 1) from nI_1 q, Int32.add_zero]
    rw [s1, s2]
    by_cases c : nuV n i j p ≤ 0
    · rw [if_pos c, if_pos c]
      exact ih f g (p + 1) q (by omega) (by omega) (by omega) (by omega) known1 hkn1
    · rw [if_neg c, if_neg c]
      by_cases c2 : nI q = x
      · rw [if_pos c2, if_pos c2]
        exact ⟨_, _, rfl, hkn1, rfl⟩
      · rw [if_neg c2, if_neg c2]
        exact ih f g (p + 1) (q + 1) (by omega) (by omega) (by omega) (by omega) known1 hkn1
theorem prod_max {n i j : Nat} (hn : n < 9) (hi : i < qz_N n) (hj : j < qz_N n) (rf : Nat → Int32) : ∀ (d f g p : Nat) (v : Int32), p + d = qz_N n → d < f → d < g → ∀ known, Kn known → ∃ r known', f_X5_greatestInProduct_9 tz_S tz_O tz_C f known (nI (qz_D n + i)) (nI (qz_D n + j)) v (nI (qz_D n + p)) = some (r, known') ∧ Kn known' ∧ f_X10_greatest_35 tz_D tz_S tz_L tz_R tz_M g rf (nI (qz_D n + i)) (nI (qz_D n + j)) v (nI (qz_D n + p)) = some (r, rf) := by
  have hN := qN_le n hn
  obtain ⟨hD, hD2⟩ := qD_step n hn
  obtain ⟨a1, a2⟩ := shD n hn i hi
  intro d
  induction d with
  | zero =>
    intro f g p v hp hf hg known hkn
    obtain ⟨f, rfl⟩ : ∃ z, f = z + 1 := ⟨f - 1, by omega⟩
    obtain ⟨g, rfl⟩ : ∃ z, g = z + 1 := ⟨g - 1, by omega⟩
    obtain rfl : p = qz_N n := by omega
    refine ⟨v, known, ?_, hkn, ?_⟩
    · show gf_X5_greatestInProduct_9 (f_X5_greatestInProduct_9 tz_S tz_O tz_C f) tz_S tz_O tz_C known (nI (qz_D n + i)) (nI (qz_D n + j)) v (nI (qz_D n + qz_N n)) = _
      unfold gf_X5_greatestInProduct_9
      rw [k_end5 hn hi, pb1, if_pos (Int32.le_refl _)]
    · show gf_X10_greatest_35 (f_X10_greatest_35 tz_D tz_S tz_L tz_R tz_M g) tz_D tz_S tz_L tz_R tz_M rf (nI (qz_D n + i)) (nI (qz_D n + j)) v (nI (qz_D n + qz_N n)) = _
      unfold gf_X10_greatest_35
      rw [pinn a1 (by decide), nI_c _ (by omega), show tz_S (qz_D n + i) + (1 : Int32) = nI (n + 1) by unfold tz_S; rw [a2]; exact nI_1 n, pinn (by omega) (by decide), nI_c (n + 1) (by omega), if_pos (show tz_D (n + 1) ≤ nI (qz_D n + qz_N n) from nI_le (by omega) (by omega))]
  | succ d ih =>
    intro f g p v hp hf hg known hkn
    obtain ⟨f, rfl⟩ : ∃ z, f = z + 1 := ⟨f - 1, by omega⟩
    obtain ⟨g, rfl⟩ : ∃ z, g = z + 1 := ⟨g - 1, by omega⟩
    have hpN : p < qz_N n := by omega
    obtain ⟨known1, e1, hkn1⟩ := k_at5 hn hi hj hpN hkn
    have e2 := m_number hn hi hj hpN
    obtain ⟨r, known', e3, h3, e4⟩ := ih f g (p + 1) (if v < nuV n i j p then nuV n i j p else v) (by omega) (by omega) (by omega) known1 hkn1
    refine ⟨r, known', ?_, h3, ?_⟩
    · show gf_X5_greatestInProduct_9 (f_X5_greatestInProduct_9 tz_S tz_O tz_C f) tz_S tz_O tz_C known (nI (qz_D n + i)) (nI (qz_D n + j)) v (nI (qz_D n + p)) = _
      unfold gf_X5_greatestInProduct_9
      rw [k_end5 hn hi, pb1, if_neg (nI_ge (by omega) (by omega)), e1, pb2, show nI (qz_D n + p) + (1 : Int32) = nI (qz_D n + (p + 1)) from nI_1 _]
      exact e3
    · show gf_X10_greatest_35 (f_X10_greatest_35 tz_D tz_S tz_L tz_R tz_M g) tz_D tz_S tz_L tz_R tz_M rf (nI (qz_D n + i)) (nI (qz_D n + j)) v (nI (qz_D n + p)) = _
      unfold gf_X10_greatest_35
      rw [pinn a1 (by decide), nI_c _ (by omega), show tz_S (qz_D n + i) + (1 : Int32) = nI (n + 1) by unfold tz_S; rw [a2]; exact nI_1 n, pinn (by omega) (by decide), nI_c (n + 1) (by omega), if_neg (show ¬ tz_D (n + 1) ≤ nI (qz_D n + p) from nI_ge (by omega) (by omega)), e2, pb1, show nI (qz_D n + p) + (1 : Int32) = nI (qz_D n + (p + 1)) from nI_1 _]
      exact e4
set_option maxRecDepth 10000 in
theorem eq_product : EQ_product Rl0 := by
  intro v9_refusals v7_rows v7_lengths v7_sizes v7_rests v7_orders v6_hooks v6_lefts v6_heights v1_table v5_known v8_sizes v8_coefficients v8_undoneSums v8_undos v8_nextUndo v8_imageTaken v0_totals v3_letters v3_count v3_next v3_size v4_values v4_lengths v10_firstOf v10_sizeOf v10_longOf v10_row v10_character v10_sum v10_coefficient v10_undone v10_wasSum v10_wasCoefficient v10_hasImage v10_letter v10_letters v10_list v10_cell v10_refusals v10_tried v10_left v10_high v10_then v10_at v10_readSize hR x1 x2 x3
  obtain ⟨hc, hm, hrf, hkn, hle, hli, hsu⟩ := hR
  have hc1 := hc
  have hm1 := hm
  obtain ⟨rfl, rfl, rfl, rfl, rfl, rfl, rfl, rfl, rfl⟩ := hc1
  obtain ⟨rfl, rfl, rfl, rfl, rfl⟩ := hm1
  rcases hsx x1 x2 with ⟨s, t, hs, ht, rfl, rfl, h1, g1, h2, e3⟩ | ⟨h2, hbad⟩
  · by_cases c : ¬ qz_S s = qz_S t
    · rw [if_neg c] at h2 e3
      obtain ⟨a', b', e1, e2, hrf'⟩ := rf_1 hrf (-3) (by decide)
      exact ⟨_, _, _, _, by unfold f_X9_product; rw [h1, pb1, if_neg i10, g1, pb1, if_neg i10, e3, pb1, if_pos rfl, e1, pb2], by unfold f_X10_product; rw [h2, pb1, if_neg (by decide), pb1, e2, pb2], Rl0_mk hc hm hrf' hkn hle hli hsu⟩
    have c := Decidable.not_not.mp c
    rw [if_pos c] at h2 e3
    by_cases c2 : ¬ (-1 : Int32) ≤ x3
    · obtain ⟨a', b', e1, e2, hrf'⟩ := rf_1 hrf (-4) (by decide)
      exact ⟨_, _, _, _, by unfold f_X9_product; rw [h1, pb1, if_neg i10, g1, pb1, if_neg i10, e3, pb1, if_neg i10, if_neg c2, e1, pb2], by unfold f_X10_product; rw [h2, pb1, if_pos (by decide), if_neg c2, e2, pb2], Rl0_mk hc hm hrf' hkn hle hli hsu⟩
    have c2 := Decidable.not_not.mp c2
    obtain ⟨n, i, hn, hi, es, en⟩ := shn hs
    obtain ⟨n2, j, hn2, hj, et, en2⟩ := shn ht
    obtain rfl : n2 = n := by omega
    have hN := qN_le n2 hn
    have e8 : tz_S s = nI n2 := by unfold tz_S; rw [en]
    by_cases c3 : x3 = -1
    · subst c3
      obtain ⟨r, known', e5, hkn', e6⟩ := prod_len hn hi hj v10_refusals (qz_N n2) 1000 1000 0 0 (by omega) (by omega) (by omega) (by omega) v5_known hkn
      have e7 := k_first5 hn hi
      rw [← es, ← et] at e5 e6
      rw [← es] at e7
      exact ⟨_, _, _, _, by unfold f_X9_product f_X5_lengthOfProduct; rw [h1, pb1, if_neg i10, g1, pb1, if_neg i10, e3, pb1, if_neg i10, if_pos c2, if_pos rfl, e7, pb1, show (0 : Int32) = nI 0 from rfl, show nI (qz_D n2) = nI (qz_D n2 + 0) from rfl, e5, pb2], by unfold f_X10_product; rw [h2, pb1, if_pos (by decide), if_pos c2, pinn hs (by decide), nI_c s (by omega), e8, pinn (by omega) (by decide), nI_c n2 (by omega)]; exact e6, Rl0_mk hc hm hrf hkn' hle hli hsu⟩
    · obtain ⟨r, known', e5, hkn', e6⟩ := prod_part hn hi hj v10_refusals c3 (qz_N n2) 1000 1000 0 0 (by omega) (by omega) (by omega) (by omega) v5_known hkn
      have e7 := k_first5 hn hi
      rw [← es, ← et] at e5 e6
      rw [← es] at e7
      exact ⟨_, _, _, _, by unfold f_X9_product f_X5_partOfProduct; rw [h1, pb1, if_neg i10, g1, pb1, if_neg i10, e3, pb1, if_neg i10, if_pos c2, if_neg c3, e7, pb1, show (0 : Int32) = nI 0 from rfl, show nI (qz_D n2) = nI (qz_D n2 + 0) from rfl, e5, pb2], by unfold f_X10_product; rw [h2, pb1, if_pos (by decide), if_pos c2, pinn hs (by decide), nI_c s (by omega), e8, pinn (by omega) (by decide), nI_c n2 (by omega)]; exact e6, Rl0_mk hc hm hrf hkn' hle hli hsu⟩
  · obtain ⟨a', b', e1, e2, hrf'⟩ := rf_1 hrf (-1) (by decide)
    have e7 : f_X9_product v9_refusals tz_S tz_O tz_C v5_known x1 x2 x3 = some (-1, a', v5_known) := by
      unfold f_X9_product f_X9_product_22
      rcases hbad with h1 | ⟨h1, g1⟩
      · rw [h1, pb1, if_pos rfl, e1, pb2]
      · rw [h1, pb1, if_neg i10, g1, pb1, if_pos rfl, e1, pb2]
    exact ⟨_, _, _, _, e7, by unfold f_X10_product; rw [h2, pb1, if_neg (by decide), pb1, e2, pb2], Rl0_mk hc hm hrf' hkn hle hli hsu⟩
set_option maxRecDepth 10000 in
theorem eq_greatest : EQ_greatest Rl0 := by
  intro v9_refusals v7_rows v7_lengths v7_sizes v7_rests v7_orders v6_hooks v6_lefts v6_heights v1_table v5_known v8_sizes v8_coefficients v8_undoneSums v8_undos v8_nextUndo v8_imageTaken v0_totals v3_letters v3_count v3_next v3_size v4_values v4_lengths v10_firstOf v10_sizeOf v10_longOf v10_row v10_character v10_sum v10_coefficient v10_undone v10_wasSum v10_wasCoefficient v10_hasImage v10_letter v10_letters v10_list v10_cell v10_refusals v10_tried v10_left v10_high v10_then v10_at v10_readSize hR x1 x2
  obtain ⟨hc, hm, hrf, hkn, hle, hli, hsu⟩ := hR
  have hc1 := hc
  have hm1 := hm
  obtain ⟨rfl, rfl, rfl, rfl, rfl, rfl, rfl, rfl, rfl⟩ := hc1
  obtain ⟨rfl, rfl, rfl, rfl, rfl⟩ := hm1
  rcases hsx x1 x2 with ⟨s, t, hs, ht, rfl, rfl, h1, g1, h2, e3⟩ | ⟨h2, hbad⟩
  · by_cases c : ¬ qz_S s = qz_S t
    · rw [if_neg c] at h2 e3
      obtain ⟨a', b', e1, e2, hrf'⟩ := rf_1 hrf (-3) (by decide)
      exact ⟨_, _, _, _, by unfold f_X9_greatest; rw [h1, pb1, if_neg i10, g1, pb1, if_neg i10, e3, pb1, if_pos rfl, e1, pb2], by unfold f_X10_greatest; rw [h2, pb1, if_neg (by decide), pb1, e2, pb2], Rl0_mk hc hm hrf' hkn hle hli hsu⟩
    have c := Decidable.not_not.mp c
    rw [if_pos c] at h2 e3
    obtain ⟨n, i, hn, hi, es, en⟩ := shn hs
    obtain ⟨n2, j, hn2, hj, et, en2⟩ := shn ht
    obtain rfl : n2 = n := by omega
    have hN := qN_le n2 hn
    have e8 : tz_S s = nI n2 := by unfold tz_S; rw [en]
    obtain ⟨r, known', e5, hkn', e6⟩ := prod_max hn hi hj v10_refusals (qz_N n2) 1000 1000 0 0 (by omega) (by omega) (by omega) v5_known hkn
    have e7 := k_first5 hn hi
    rw [← es, ← et] at e5 e6
    rw [← es] at e7
    exact ⟨_, _, _, _, by unfold f_X9_greatest f_X5_greatestInProduct; rw [h1, pb1, if_neg i10, g1, pb1, if_neg i10, e3, pb1, if_neg i10, e7, pb1, show nI (qz_D n2) = nI (qz_D n2 + 0) from rfl, e5, pb2], by unfold f_X10_greatest; rw [h2, pb1, if_pos (by decide), pinn hs (by decide), nI_c s (by omega), e8, pinn (by omega) (by decide), nI_c n2 (by omega)]; exact e6, Rl0_mk hc hm hrf hkn' hle hli hsu⟩
  · obtain ⟨a', b', e1, e2, hrf'⟩ := rf_1 hrf (-1) (by decide)
    have e7 : f_X9_greatest v9_refusals tz_S tz_O tz_C v5_known x1 x2 = some (-1, a', v5_known) := by
      unfold f_X9_greatest f_X9_greatest_22
      rcases hbad with h1 | ⟨h1, g1⟩
      · rw [h1, pb1, if_pos rfl, e1, pb2]
      · rw [h1, pb1, if_neg i10, g1, pb1, if_pos rfl, e1, pb2]
    exact ⟨_, _, _, _, e7, by unfold f_X10_greatest; rw [h2, pb1, if_neg (by decide), pb1, e2, pb2], Rl0_mk hc hm hrf' hkn hle hli hsu⟩
