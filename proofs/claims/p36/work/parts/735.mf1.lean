/-! what the class answers at the law's calls: first, where nothing but known numbers changes -/
theorem has_D {n i : Nat} (hn : n < 9) (hi : i < qz_N n) : f_X7_has (nI (qz_D n + i)) = some 1 := k_has _ (shD n hn i hi).1
theorem alike_D {n i j : Nat} (hn : n < 9) (hi : i < qz_N n) (hj : j < qz_N n) : f_X7_alike tz_S (nI (qz_D n + i)) (nI (qz_D n + j)) = some 1 := by
  have h := k_alike _ (shD n hn i hi).1 _ (shD n hn j hj).1
  rw [if_pos ((shD n hn i hi).2.trans (shD n hn j hj).2.symm)] at h
  exact h
theorem k_atT : ∀ n, n < 9 → ∀ i, i < qz_N n → ∀ j, j < qz_N n → f_X1_at tz_S tz_C (nI (qz_D n + i)) (nI (qz_D n + j)) = some (tc n i j) := by decide +kernel
theorem pf_of {rf : Nat → Int32} {k w : Nat} (hk : k < 67) (hw : w < 5 ∨ (10 ≤ w ∧ w < 18)) : f_X9_of rf tz_R tz_L tz_S tz_O tz_H (nI k) (nI w) = some (ofV k w, rf) := by
  have h1 := k_has k hk
  have i10 : ¬ (1 : Int32) = 0 := by decide
  rcases hw with hw | ⟨ha, hb⟩
  · have e9 : f_X9_of rf tz_R tz_L tz_S tz_O tz_H (nI k) (nI w) = f_X9_of_42 tz_R tz_L tz_S tz_O tz_H rf (nI k) (nI w) := by
      unfold f_X9_of
      rw [h1, pb1, if_neg i10, if_pos (show nI w < 10 from nI_lt (b := 10) (by omega) (by decide))]
    rw [e9]
    unfold f_X9_of_42
    rcases (show w = 0 ∨ w = 1 ∨ w = 2 ∨ w = 3 ∨ w = 4 by omega) with rfl | rfl | rfl | rfl | rfl
    · rw [if_pos (by decide), k_sizeOf k hk, pb1]; rfl
    · rw [if_neg (by decide), if_pos (by decide), k_lengthOf k hk, pb1]; rfl
    · rw [if_neg (by decide), if_neg (by decide), if_pos (by decide), k_turnedOf k hk, pb1]; rfl
    · rw [if_neg (by decide), if_neg (by decide), if_neg (by decide), if_pos (by decide), k_dimensionOf k hk, pb1]; rfl
    · rw [if_neg (by decide), if_neg (by decide), if_neg (by decide), if_neg (by decide), if_pos (by decide), k_ordersOf k hk, pb1]; rfl
  · obtain ⟨r, rfl⟩ : ∃ r, w = 10 + r := ⟨w - 10, by omega⟩
    have c2 : ¬ nI (10 + r) < 10 := nI_nlt (b := 10) (by omega) (by omega)
    have c3 : ¬ (18 : Int32) ≤ nI (10 + r) := nI_ge (b := 18) (by omega) (by decide)
    have e : ofV k (10 + r) = tz_R (8 * k + r) := by
      unfold ofV
      rw [if_neg (by omega), if_neg (by omega), if_neg (by omega), if_neg (by omega), if_neg (by omega), Nat.add_sub_cancel_left]
    unfold f_X9_of
    rw [h1, pb1, if_neg i10, if_neg c2, if_neg c3, k_rowX k hk r (by omega), pb1, e]
theorem pf_character {rf : Nat → Int32} {n i j : Nat} (hn : n < 9) (hi : i < qz_N n) (hj : j < qz_N n) : f_X9_character rf tz_S tz_C (nI (qz_D n + i)) (nI (qz_D n + j)) = some (tc n i j, rf) := by
  have i10 : ¬ (1 : Int32) = 0 := by decide
  unfold f_X9_character
  rw [has_D hn hi, pb1, if_neg i10, has_D hn hj, pb1, if_neg i10, alike_D hn hi hj, pb1, if_neg i10, k_atT n hn i hi j hj, pb1]
theorem pf_number {rf known : Nat → Int32} (hkn : Kn known) {n i j k : Nat} (hn : n < 9) (hi : i < qz_N n) (hj : j < qz_N n) (hk : k < qz_N n) : ∃ known', f_X9_number rf tz_S tz_O tz_C known (nI (qz_D n + i)) (nI (qz_D n + j)) (nI (qz_D n + k)) = some (nuV n i j k, rf, known') ∧ Kn known' := by
  have i10 : ¬ (1 : Int32) = 0 := by decide
  obtain ⟨known', e5, h5⟩ := k_at5 hn hi hj hk hkn
  refine ⟨known', ?_, h5⟩
  unfold f_X9_number
  rw [has_D hn hi, pb1, if_neg i10, has_D hn hj, pb1, if_neg i10, has_D hn hk, pb1, if_neg i10, alike_D hn hi hj, pb1, if_neg i10, alike_D hn hi hk, pb1, if_neg i10, e5, pb2]
theorem prC_s0 {n i j c : Nat} (h : nuV n i j c ≤ 0) : prC n i j (c + 1) = prC n i j c := if_neg (Int32.not_lt.mpr h)
theorem prC_s1 {n i j c : Nat} (h : ¬ nuV n i j c ≤ 0) : prC n i j (c + 1) = prC n i j c + 1 := if_pos (Int32.not_le.mp h)
theorem prC_le (n i j : Nat) : ∀ c, prC n i j c ≤ c
  | 0 => Nat.le_refl _
  | c + 1 => by
    have := prC_le n i j c
    show (if 0 < nuV n i j c then prC n i j c + 1 else prC n i j c) ≤ c + 1
    split <;> omega
theorem prC_mono (n i j : Nat) : ∀ c d, prC n i j c ≤ prC n i j (c + d)
  | c, 0 => Nat.le_refl _
  | c, d + 1 => by
    refine Nat.le_trans (prC_mono n i j c d) ?_
    show prC n i j (c + d) ≤ if 0 < nuV n i j (c + d) then prC n i j (c + d) + 1 else prC n i j (c + d)
    split <;> omega
theorem pp_len {n i j : Nat} (hn : n < 9) (hi : i < qz_N n) (hj : j < qz_N n) : ∀ (d f p : Nat), p + d = qz_N n → d < f → ∀ known, Kn known → ∃ known', f_X5_lengthOfProduct_9 tz_S tz_O tz_C f known (nI (qz_D n + i)) (nI (qz_D n + j)) (nI (prC n i j p)) (nI (qz_D n + p)) = some (nI (prC n i j (qz_N n)), known') ∧ Kn known' := by
  have hN := qN_le n hn
  obtain ⟨hD, hD2⟩ := qD_step n hn
  obtain ⟨a1, a2⟩ := shD n hn i hi
  intro d
  induction d with
  | zero =>
    intro f p hp hf known hkn
    obtain ⟨f, rfl⟩ : ∃ z, f = z + 1 := ⟨f - 1, by omega⟩
    obtain rfl : p = qz_N n := by omega
    refine ⟨known, ?_, hkn⟩
    show gf_X5_lengthOfProduct_9 (f_X5_lengthOfProduct_9 tz_S tz_O tz_C f) tz_S tz_O tz_C known (nI (qz_D n + i)) (nI (qz_D n + j)) _ (nI (qz_D n + qz_N n)) = _
    unfold gf_X5_lengthOfProduct_9
    rw [k_end5 hn hi, pb1, if_pos (Int32.le_refl _)]
  | succ d ih =>
    intro f p hp hf known hkn
    obtain ⟨f, rfl⟩ : ∃ z, f = z + 1 := ⟨f - 1, by omega⟩
    obtain ⟨known1, e1, hkn1⟩ := k_at5 hn hi hj (show p < qz_N n by omega) hkn
    obtain ⟨known', e2, h2⟩ := ih f (p + 1) (by omega) (by omega) known1 hkn1
    refine ⟨known', ?_, h2⟩
    show gf_X5_lengthOfProduct_9 (f_X5_lengthOfProduct_9 tz_S tz_O tz_C f) tz_S tz_O tz_C known (nI (qz_D n + i)) (nI (qz_D n + j)) _ (nI (qz_D n + p)) = _
    unfold gf_X5_lengthOfProduct_9
    rw [k_end5 hn hi, pb1, if_neg (nI_ge (by omega) (by omega)), e1, pb2, show nI (qz_D n + p) + (1 : Int32) = nI (qz_D n + (p + 1)) from nI_1 _, show nI (prC n i j p) + (1 : Int32) = nI (prC n i j p + 1) from nI_1 _]
    by_cases c : nuV n i j p ≤ 0
    · rw [if_pos c]
      rw [prC_s0 c] at e2
      exact e2
    · rw [if_neg c]
      rw [prC_s1 c] at e2
      exact e2
theorem pp_part {n i j : Nat} (hn : n < 9) (hi : i < qz_N n) (hj : j < qz_N n) {c : Nat} (hc : c < qz_N n) (h0 : 0 < nuV n i j c) : ∀ (d f p : Nat), p + d = c → d + 1 < f → ∀ known, Kn known → ∃ known', f_X5_partOfProduct_10 tz_S tz_O tz_C f known (nI (qz_D n + i)) (nI (qz_D n + j)) (nI (prC n i j c)) (nI (prC n i j p)) (nI (qz_D n + p)) = some (nI (qz_D n + c), known') ∧ Kn known' := by
  have hN := qN_le n hn
  obtain ⟨hD, hD2⟩ := qD_step n hn
  have hcl := prC_le n i j c
  intro d
  induction d with
  | zero =>
    intro f p hp hf known hkn
    obtain ⟨f, rfl⟩ : ∃ z, f = z + 1 := ⟨f - 1, by omega⟩
    obtain rfl : p = c := by omega
    obtain ⟨known1, e1, hkn1⟩ := k_at5 hn hi hj hc hkn
    refine ⟨known1, ?_, hkn1⟩
    show gf_X5_partOfProduct_10 (f_X5_partOfProduct_10 tz_S tz_O tz_C f) tz_S tz_O tz_C known (nI (qz_D n + i)) (nI (qz_D n + j)) _ _ (nI (qz_D n + p)) = _
    unfold gf_X5_partOfProduct_10
    rw [k_end5 hn hi, pb1, if_neg (nI_ge (by omega) (by omega)), e1, pb2, if_neg (Int32.not_le.mpr h0), if_pos rfl]
  | succ d ih =>
    intro f p hp hf known hkn
    obtain ⟨f, rfl⟩ : ∃ z, f = z + 1 := ⟨f - 1, by omega⟩
    obtain ⟨known1, e1, hkn1⟩ := k_at5 hn hi hj (show p < qz_N n by omega) hkn
    obtain ⟨known', e2, h2⟩ := ih f (p + 1) (by omega) (by omega) known1 hkn1
    refine ⟨known', ?_, h2⟩
    show gf_X5_partOfProduct_10 (f_X5_partOfProduct_10 tz_S tz_O tz_C f) tz_S tz_O tz_C known (nI (qz_D n + i)) (nI (qz_D n + j)) _ _ (nI (qz_D n + p)) = _
    unfold gf_X5_partOfProduct_10
    rw [k_end5 hn hi, pb1, if_neg (nI_ge (by omega) (by omega)), e1, pb2, show nI (qz_D n + p) + (1 : Int32) = nI (qz_D n + (p + 1)) from nI_1 _, show nI (prC n i j p) + (1 : Int32) = nI (prC n i j p + 1) from nI_1 _]
    by_cases q : nuV n i j p ≤ 0
    · rw [if_pos q]
      rw [prC_s0 q] at e2
      exact e2
    · have hm := prC_mono n i j (p + 1) d
      rw [show p + 1 + d = c by omega, prC_s1 q] at hm
      have hpl := prC_le n i j p
      rw [if_neg q, if_neg (fun h => by have := (nI_eq (by omega) (by omega)).mp h; omega)]
      rw [prC_s1 q] at e2
      exact e2
theorem pp_partEnd {n i j : Nat} (hn : n < 9) (hi : i < qz_N n) (hj : j < qz_N n) : ∀ (d f p : Nat), p + d = qz_N n → d < f → ∀ known, Kn known → ∃ known', f_X5_partOfProduct_10 tz_S tz_O tz_C f known (nI (qz_D n + i)) (nI (qz_D n + j)) (nI (prC n i j (qz_N n))) (nI (prC n i j p)) (nI (qz_D n + p)) = some (-9, known') ∧ Kn known' := by
  have hN := qN_le n hn
  obtain ⟨hD, hD2⟩ := qD_step n hn
  have hcl := prC_le n i j (qz_N n)
  intro d
  induction d with
  | zero =>
    intro f p hp hf known hkn
    obtain ⟨f, rfl⟩ : ∃ z, f = z + 1 := ⟨f - 1, by omega⟩
    obtain rfl : p = qz_N n := by omega
    refine ⟨known, ?_, hkn⟩
    show gf_X5_partOfProduct_10 (f_X5_partOfProduct_10 tz_S tz_O tz_C f) tz_S tz_O tz_C known (nI (qz_D n + i)) (nI (qz_D n + j)) _ _ (nI (qz_D n + qz_N n)) = _
    unfold gf_X5_partOfProduct_10
    rw [k_end5 hn hi, pb1, if_pos (Int32.le_refl _)]
  | succ d ih =>
    intro f p hp hf known hkn
    obtain ⟨f, rfl⟩ : ∃ z, f = z + 1 := ⟨f - 1, by omega⟩
    obtain ⟨known1, e1, hkn1⟩ := k_at5 hn hi hj (show p < qz_N n by omega) hkn
    obtain ⟨known', e2, h2⟩ := ih f (p + 1) (by omega) (by omega) known1 hkn1
    refine ⟨known', ?_, h2⟩
    show gf_X5_partOfProduct_10 (f_X5_partOfProduct_10 tz_S tz_O tz_C f) tz_S tz_O tz_C known (nI (qz_D n + i)) (nI (qz_D n + j)) _ _ (nI (qz_D n + p)) = _
    unfold gf_X5_partOfProduct_10
    rw [k_end5 hn hi, pb1, if_neg (nI_ge (by omega) (by omega)), e1, pb2, show nI (qz_D n + p) + (1 : Int32) = nI (qz_D n + (p + 1)) from nI_1 _, show nI (prC n i j p) + (1 : Int32) = nI (prC n i j p + 1) from nI_1 _]
    by_cases q : nuV n i j p ≤ 0
    · rw [if_pos q]
      rw [prC_s0 q] at e2
      exact e2
    · have hm := prC_mono n i j (p + 1) d
      rw [show p + 1 + d = qz_N n by omega, prC_s1 q] at hm
      have hpl := prC_le n i j p
      rw [if_neg q, if_neg (fun h => by have := (nI_eq (by omega) (by omega)).mp h; omega)]
      rw [prC_s1 q] at e2
      exact e2
theorem pp_max {n i j : Nat} (hn : n < 9) (hi : i < qz_N n) (hj : j < qz_N n) : ∀ (d f p : Nat), p + d = qz_N n → d < f → ∀ known, Kn known → ∃ known', f_X5_greatestInProduct_9 tz_S tz_O tz_C f known (nI (qz_D n + i)) (nI (qz_D n + j)) (mxC n i j p) (nI (qz_D n + p)) = some (mxC n i j (qz_N n), known') ∧ Kn known' := by
  have hN := qN_le n hn
  obtain ⟨hD, hD2⟩ := qD_step n hn
  intro d
  induction d with
  | zero =>
    intro f p hp hf known hkn
    obtain ⟨f, rfl⟩ : ∃ z, f = z + 1 := ⟨f - 1, by omega⟩
    obtain rfl : p = qz_N n := by omega
    refine ⟨known, ?_, hkn⟩
    show gf_X5_greatestInProduct_9 (f_X5_greatestInProduct_9 tz_S tz_O tz_C f) tz_S tz_O tz_C known (nI (qz_D n + i)) (nI (qz_D n + j)) _ (nI (qz_D n + qz_N n)) = _
    unfold gf_X5_greatestInProduct_9
    rw [k_end5 hn hi, pb1, if_pos (Int32.le_refl _)]
  | succ d ih =>
    intro f p hp hf known hkn
    obtain ⟨f, rfl⟩ : ∃ z, f = z + 1 := ⟨f - 1, by omega⟩
    obtain ⟨known1, e1, hkn1⟩ := k_at5 hn hi hj (show p < qz_N n by omega) hkn
    obtain ⟨known', e2, h2⟩ := ih f (p + 1) (by omega) (by omega) known1 hkn1
    refine ⟨known', ?_, h2⟩
    show gf_X5_greatestInProduct_9 (f_X5_greatestInProduct_9 tz_S tz_O tz_C f) tz_S tz_O tz_C known (nI (qz_D n + i)) (nI (qz_D n + j)) _ (nI (qz_D n + p)) = _
    unfold gf_X5_greatestInProduct_9
    rw [k_end5 hn hi, pb1, if_neg (nI_ge (by omega) (by omega)), e1, pb2, show nI (qz_D n + p) + (1 : Int32) = nI (qz_D n + (p + 1)) from nI_1 _]
    exact e2
theorem le_m1N (c : Nat) (hc : c < 2 ^ 31) : (-1 : Int32) ≤ nI c ∧ ¬ nI c = -1 := by
  have h1 : (-1 : Int32).toInt = -1 := by decide
  have h2 := nI_toInt hc
  refine ⟨?_, fun e => ?_⟩
  · rw [Int32.le_iff_toInt_le, h1, h2]; omega
  · rw [e, h1] at h2; omega
theorem pf_productLen {rf known : Nat → Int32} (hkn : Kn known) {n i j : Nat} (hn : n < 9) (hi : i < qz_N n) (hj : j < qz_N n) : ∃ known', f_X9_product rf tz_S tz_O tz_C known (nI (qz_D n + i)) (nI (qz_D n + j)) (-1) = some (nI (prC n i j (qz_N n)), rf, known') ∧ Kn known' := by
  have i10 : ¬ (1 : Int32) = 0 := by decide
  obtain ⟨known', e5, h5⟩ := pp_len hn hi hj (qz_N n) 1000 0 (by omega) (by have := qN_le n hn; omega) known hkn
  refine ⟨known', ?_, h5⟩
  unfold f_X9_product f_X5_lengthOfProduct
  rw [has_D hn hi, pb1, if_neg i10, has_D hn hj, pb1, if_neg i10, alike_D hn hi hj, pb1, if_neg i10, if_pos (by decide), if_pos rfl, k_first5 hn hi, pb1, show (0 : Int32) = nI (prC n i j 0) from rfl, show nI (qz_D n) = nI (qz_D n + 0) from rfl, e5, pb2]
theorem pf_productAt {rf known : Nat → Int32} (hkn : Kn known) {n i j : Nat} (hn : n < 9) (hi : i < qz_N n) (hj : j < qz_N n) {c : Nat} (hc : c < qz_N n) (h0 : 0 < nuV n i j c) : ∃ known', f_X9_product rf tz_S tz_O tz_C known (nI (qz_D n + i)) (nI (qz_D n + j)) (nI (prC n i j c)) = some (nI (qz_D n + c), rf, known') ∧ Kn known' := by
  have i10 : ¬ (1 : Int32) = 0 := by decide
  have hN := qN_le n hn
  have hcl := prC_le n i j c
  obtain ⟨g1, g2⟩ := le_m1N (prC n i j c) (by omega)
  obtain ⟨known', e5, h5⟩ := pp_part hn hi hj hc h0 c 1000 0 (by omega) (by omega) known hkn
  refine ⟨known', ?_, h5⟩
  unfold f_X9_product f_X5_partOfProduct
  rw [has_D hn hi, pb1, if_neg i10, has_D hn hj, pb1, if_neg i10, alike_D hn hi hj, pb1, if_neg i10, if_pos g1, if_neg g2, k_first5 hn hi, pb1, show (0 : Int32) = nI (prC n i j 0) from rfl, show nI (qz_D n) = nI (qz_D n + 0) from rfl, e5, pb2]
theorem pf_productEnd {rf known : Nat → Int32} (hkn : Kn known) {n i j : Nat} (hn : n < 9) (hi : i < qz_N n) (hj : j < qz_N n) : ∃ known', f_X9_product rf tz_S tz_O tz_C known (nI (qz_D n + i)) (nI (qz_D n + j)) (nI (prC n i j (qz_N n))) = some (-9, rf, known') ∧ Kn known' := by
  have i10 : ¬ (1 : Int32) = 0 := by decide
  have hN := qN_le n hn
  have hcl := prC_le n i j (qz_N n)
  obtain ⟨g1, g2⟩ := le_m1N (prC n i j (qz_N n)) (by omega)
  obtain ⟨known', e5, h5⟩ := pp_partEnd hn hi hj (qz_N n) 1000 0 (by omega) (by omega) known hkn
  refine ⟨known', ?_, h5⟩
  unfold f_X9_product f_X5_partOfProduct
  rw [has_D hn hi, pb1, if_neg i10, has_D hn hj, pb1, if_neg i10, alike_D hn hi hj, pb1, if_neg i10, if_pos g1, if_neg g2, k_first5 hn hi, pb1, show (0 : Int32) = nI (prC n i j 0) from rfl, show nI (qz_D n) = nI (qz_D n + 0) from rfl, e5, pb2]
theorem pf_greatest {rf known : Nat → Int32} (hkn : Kn known) {n i j : Nat} (hn : n < 9) (hi : i < qz_N n) (hj : j < qz_N n) : ∃ known', f_X9_greatest rf tz_S tz_O tz_C known (nI (qz_D n + i)) (nI (qz_D n + j)) = some (mxC n i j (qz_N n), rf, known') ∧ Kn known' := by
  have i10 : ¬ (1 : Int32) = 0 := by decide
  obtain ⟨known', e5, h5⟩ := pp_max hn hi hj (qz_N n) 1000 0 (by omega) (by have := qN_le n hn; omega) known hkn
  refine ⟨known', ?_, h5⟩
  unfold f_X9_greatest f_X5_greatestInProduct
  rw [has_D hn hi, pb1, if_neg i10, has_D hn hj, pb1, if_neg i10, alike_D hn hi hj, pb1, if_neg i10, k_first5 hn hi, pb1, show nI (qz_D n) = nI (qz_D n + 0) from rfl, show (0 : Int32) = mxC n i j 0 from rfl, e5, pb2]
theorem gr_due : ∀ k, k < 12 → ∀ m, m < 9 → qz_S k ≤ 4 ∧ qgr k m = dueV k m ∧ (qgr k m < 0 ↔ m < qz_S k + fr k) := by decide +kernel
theorem pf_grown {rf : Nat → Int32} {k m : Nat} (hk : k < 12) (hm : m < 9) : f_X9_grown rf tz_R tz_L tz_S (nI k) (nI m) = some (dueV k m, rf) := by
  have i10 : ¬ (1 : Int32) = 0 := by decide
  obtain ⟨h4, hq, -⟩ := gr_due k hk m hm
  have e3 := k_canGrow k (by omega)
  rw [if_pos h4] at e3
  have e4 := (k_grown k (by omega) m hm).resolve_left (by omega)
  rw [hq] at e4
  unfold f_X9_grown
  rw [k_has k (by omega), pb1, if_neg i10, if_pos (nI_pos' (by omega)), if_pos (show nI m ≤ 8 from nI_le (b := 8) (by omega) (by decide)), e3, pb1, if_neg i10, e4, pb1]
theorem nug_gr {x y z m : Nat} (hx : x < 12) (hy : y < 12) (hz : z < 12) (hm : m < 9) : nug x y z m = if leastN x y z ≤ m then grN x y z m else -9 := by
  obtain ⟨-, a1, a2⟩ := gr_due x hx m hm
  obtain ⟨-, b1, b2⟩ := gr_due y hy m hm
  obtain ⟨-, c1, c2⟩ := gr_due z hz m hm
  unfold nug grN gn
  rw [← a1, ← b1, ← c1]
  by_cases h : leastN x y z ≤ m
  · rw [if_pos h]
    unfold leastN at h
    rw [if_neg]
    rintro (q | q | q)
    · have := a2.mp q; omega
    · have := b2.mp q; omega
    · have := c2.mp q; omega
  · rw [if_neg h]
    unfold leastN at h
    rw [if_pos]
    by_cases q1 : qgr x m < 0
    · exact Or.inl q1
    · by_cases q2 : qgr y m < 0
      · exact Or.inr (Or.inl q2)
      · refine Or.inr (Or.inr (c2.mpr ?_))
        have r1 : ¬ m < qz_S x + fr x := fun q => q1 (a2.mpr q)
        have r2 : ¬ m < qz_S y + fr y := fun q => q2 (b2.mpr q)
        omega
theorem least8 {x y z : Nat} (hx : x < 12) (hy : y < 12) (hz : z < 12) : leastN x y z ≤ 8 := by
  have h : ∀ k, k < 12 → qz_S k + fr k ≤ 8 := by decide +kernel
  have h1 := h x hx
  have h2 := h y hy
  have h3 := h z hz
  unfold leastN
  omega
theorem set_lp {x y z : Nat} (hx : x < 12) (hy : y < 12) (hz : z < 12) (ra : Nat → Int32) : ∀ (m f : Nat), m < 9 → m < f → ∀ known, Kn known → ∃ known', f_X9_settled_120 tz_R tz_L tz_S tz_O tz_C f ra known (nI x) (nI y) (nI z) (grN x y z 8) (nI m) = some (nI (stq x y z m m), ra, known') ∧ Kn known' := by
  have h8 : ¬ grN x y z 8 < 0 := by
    have h := (gr8 (show x < 67 by omega) (show y < 67 by omega) (show z < 67 by omega) (gr_due x hx 8 (by omega)).1 (gr_due y hy 8 (by omega)).1 (gr_due z hz 8 (by omega)).1).2
    rw [nug_gr hx hy hz (by omega), if_pos (least8 hx hy hz)] at h
    exact h
  intro m
  induction m with
  | zero =>
    intro f hm hf known hkn
    obtain ⟨f, rfl⟩ : ∃ q, f = q + 1 := ⟨f - 1, by omega⟩
    refine ⟨known, ?_, hkn⟩
    show gf_X9_settled_120 (f_X9_settled_120 tz_R tz_L tz_S tz_O tz_C f) tz_R tz_L tz_S tz_O tz_C ra known (nI x) (nI y) (nI z) _ (nI 0) = _
    unfold gf_X9_settled_120
    rw [if_pos (by decide)]
    rfl
  | succ m ih =>
    intro f hm hf known hkn
    obtain ⟨f, rfl⟩ : ∃ q, f = q + 1 := ⟨f - 1, by omega⟩
    obtain ⟨known1, e1, hkn1⟩ := k_grown5 (show x < 67 by omega) (show y < 67 by omega) (show z < 67 by omega) (show m < 9 by omega) (gr_due x hx 8 (by omega)).1 (gr_due y hy 8 (by omega)).1 (gr_due z hz 8 (by omega)).1 hkn
    have n0 : ¬ nI (m + 1) ≤ 0 := nI_nle (by omega) (by omega)
    have es : stq x y z (m + 1) (m + 1) = if leastN x y z ≤ m then (if grN x y z m = grN x y z 8 then stq x y z m m else m + 1) else m + 1 := rfl
    rw [nug_gr hx hy hz (by omega)] at e1
    by_cases c : leastN x y z ≤ m
    · rw [if_pos c] at e1 es
      by_cases c2 : grN x y z m = grN x y z 8
      · obtain ⟨known', e2, h2⟩ := ih f (by omega) (by omega) known1 hkn1
        refine ⟨known', ?_, h2⟩
        show gf_X9_settled_120 (f_X9_settled_120 tz_R tz_L tz_S tz_O tz_C f) tz_R tz_L tz_S tz_O tz_C ra known (nI x) (nI y) (nI z) _ (nI (m + 1)) = _
        unfold gf_X9_settled_120
        rw [if_neg n0, nI_pred, e1, pb2, nIpred, if_pos c2, es, if_pos c2]
        exact e2
      · refine ⟨known1, ?_, hkn1⟩
        show gf_X9_settled_120 (f_X9_settled_120 tz_R tz_L tz_S tz_O tz_C f) tz_R tz_L tz_S tz_O tz_C ra known (nI x) (nI y) (nI z) _ (nI (m + 1)) = _
        unfold gf_X9_settled_120
        rw [if_neg n0, nI_pred, e1, pb2, if_neg c2, es, if_neg c2]
    · rw [if_neg c] at e1 es
      refine ⟨known1, ?_, hkn1⟩
      show gf_X9_settled_120 (f_X9_settled_120 tz_R tz_L tz_S tz_O tz_C f) tz_R tz_L tz_S tz_O tz_C ra known (nI x) (nI y) (nI z) _ (nI (m + 1)) = _
      unfold gf_X9_settled_120
      rw [if_neg n0, nI_pred, e1, pb2, if_neg (fun h => h8 (by rw [← h]; decide)), es]
theorem set_57 {rf known : Nat → Int32} {x y z w : Nat} (hx : x < 12) (hy : y < 12) (hz : z < 12) (hw : w < 2) : f_X9_settled rf tz_R tz_L tz_S tz_O tz_C known (nI x) (nI y) (nI z) (nI w) = f_X9_settled_57 tz_R tz_L tz_S tz_O tz_C rf known (nI x) (nI y) (nI z) (nI w) := by
  have i10 : ¬ (1 : Int32) = 0 := by decide
  unfold f_X9_settled
  rw [k_has x (by omega), pb1, if_neg i10, k_has y (by omega), pb1, if_neg i10, k_has z (by omega), pb1, if_neg i10]
  rcases (show w = 0 ∨ w = 1 by omega) with rfl | rfl
  · rw [if_pos (by rfl)]
  · rw [if_neg (by decide), if_pos (by rfl)]
theorem pf_settled0 {rf known : Nat → Int32} (hkn : Kn known) {x y z : Nat} (hx : x < 12) (hy : y < 12) (hz : z < 12) : ∃ known', f_X9_settled rf tz_R tz_L tz_S tz_O tz_C known (nI x) (nI y) (nI z) 0 = some (nI (stq x y z 9 8), rf, known') ∧ Kn known' := by
  have i10 : ¬ (1 : Int32) = 0 := by decide
  have w1 := k_canGrow x (by omega)
  have w2 := k_canGrow y (by omega)
  have w3 := k_canGrow z (by omega)
  rw [if_pos (gr_due x hx 8 (by omega)).1] at w1
  rw [if_pos (gr_due y hy 8 (by omega)).1] at w2
  rw [if_pos (gr_due z hz 8 (by omega)).1] at w3
  obtain ⟨known1, e1, hkn1⟩ := k_grown5 (show x < 67 by omega) (show y < 67 by omega) (show z < 67 by omega) (show 8 < 9 by omega) (gr_due x hx 8 (by omega)).1 (gr_due y hy 8 (by omega)).1 (gr_due z hz 8 (by omega)).1 hkn
  have h8 := (gr8 (show x < 67 by omega) (show y < 67 by omega) (show z < 67 by omega) (gr_due x hx 8 (by omega)).1 (gr_due y hy 8 (by omega)).1 (gr_due z hz 8 (by omega)).1).2
  rw [nug_gr hx hy hz (by omega), if_pos (least8 hx hy hz)] at e1 h8
  obtain ⟨known', e2, h2⟩ := set_lp hx hy hz rf 8 1000 (by omega) (by omega) known1 hkn1
  refine ⟨known', ?_, h2⟩
  have e57 := set_57 (rf := rf) (known := known) (w := 0) hx hy hz (by omega)
  rw [show nI 0 = (0 : Int32) from rfl] at e57
  rw [e57]
  unfold f_X9_settled_57
  have es : stq x y z 9 8 = stq x y z 8 8 := by
    show (if leastN x y z ≤ 8 then (if grN x y z 8 = grN x y z 8 then stq x y z 8 8 else 8) else 8) = _
    rw [if_pos (least8 hx hy hz), if_pos rfl]
  rw [w1, pb1, if_neg i10, w2, pb1, if_neg i10, w3, pb1, if_neg i10, show (8 : Int32) = nI 8 from rfl, e1, pb2, if_neg h8, if_neg (by decide), es]
  exact e2
theorem pf_settled1 {rf known : Nat → Int32} (hkn : Kn known) {x y z : Nat} (hx : x < 12) (hy : y < 12) (hz : z < 12) : ∃ known', f_X9_settled rf tz_R tz_L tz_S tz_O tz_C known (nI z) (nI x) (nI y) 1 = some (grN x y z 8, rf, known') ∧ Kn known' := by
  have i10 : ¬ (1 : Int32) = 0 := by decide
  have w1 := k_canGrow x (by omega)
  have w2 := k_canGrow y (by omega)
  have w3 := k_canGrow z (by omega)
  rw [if_pos (gr_due x hx 8 (by omega)).1] at w1
  rw [if_pos (gr_due y hy 8 (by omega)).1] at w2
  rw [if_pos (gr_due z hz 8 (by omega)).1] at w3
  obtain ⟨known1, e1, hkn1⟩ := k_grown5 (show z < 67 by omega) (show x < 67 by omega) (show y < 67 by omega) (show 8 < 9 by omega) (gr_due z hz 8 (by omega)).1 (gr_due x hx 8 (by omega)).1 (gr_due y hy 8 (by omega)).1 hkn
  have h8 := (gr8 (show z < 67 by omega) (show x < 67 by omega) (show y < 67 by omega) (gr_due z hz 8 (by omega)).1 (gr_due x hx 8 (by omega)).1 (gr_due y hy 8 (by omega)).1).2
  rw [nug_gr hz hx hy (by omega), if_pos (least8 hz hx hy)] at e1 h8
  refine ⟨known1, ?_, hkn1⟩
  have e57 := set_57 (rf := rf) (known := known) (w := 1) hz hx hy (by omega)
  rw [show nI 1 = (1 : Int32) from rfl] at e57
  rw [e57]
  unfold f_X9_settled_57
  have eg : grN z x y 8 = grN x y z 8 := by
    unfold grN
    rw [nuV_12 8 (gn z 8 - qz_D 8) (gn x 8 - qz_D 8) (gn y 8 - qz_D 8), nuV_23 8 (gn x 8 - qz_D 8) (gn z 8 - qz_D 8) (gn y 8 - qz_D 8)]
  rw [eg] at e1 h8
  rw [w3, pb1, if_neg i10, w1, pb1, if_neg i10, w2, pb1, if_neg i10, show (8 : Int32) = nI 8 from rfl, e1, pb2, if_neg h8, if_pos (by rfl)]
