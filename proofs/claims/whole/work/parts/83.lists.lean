/-! lists -/
theorem nI_mul2 (a b : Nat) : nI a * nI b = nI (a * b) := (Int32.ofNat_mul a b).symm
theorem ix40 (l i : Nat) : nI l * (40 : Int32) + nI i = nI (40 * l + i) := by
  rw [show (40 : Int32) = nI 40 from rfl, nI_mul2, nI_add, Nat.mul_comm]
theorem ix40m (l i : Nat) : (40 : Int32) * nI l + nI i = nI (40 * l + i) := by
  rw [show (40 : Int32) = nI 40 from rfl, nI_mul2, nI_add]
theorem lix (x : Int32) : (∃ l, l < 3 ∧ x = nI l ∧ f_X4_has x = some 1 ∧ f_X10_isList x = some 1) ∨ (f_X4_has x = some 0 ∧ f_X10_isList x = some 0) := by
  rcases inx 2 (by decide) x with ⟨j, hj, rfl, h⟩ | ⟨h, h2⟩
  · refine Or.inl ⟨j, by omega, rfl, ?_, ?_⟩
    · unfold f_X4_has
      rw [if_neg (nI_pos (by omega)), if_neg (show ¬ (3 : Int32) ≤ nI j from nI_ge (a := j) (b := 3) (by omega) (by decide))]
    · unfold f_X10_isList
      rw [show (2 : Int32) = nI 2 from rfl, h, pb1]
  · refine Or.inr ⟨?_, ?_⟩
    · unfold f_X4_has
      by_cases c : x < 0
      · rw [if_pos c]
      · rw [if_neg c, if_pos (show (3 : Int32) ≤ x from sl (m := 2) (by decide) (h.resolve_left c))]
    · unfold f_X10_isList
      rw [show (2 : Int32) = nI 2 from rfl, h2, pb1]
theorem k_has4 {l : Nat} (h : l < 3) : f_X4_has (nI l) = some 1 := by
  rcases (show l = 0 ∨ l = 1 ∨ l = 2 by omega) with rfl | rfl | rfl <;> decide +kernel
theorem k_len4 {lengths : Nat → Int32} {l : Nat} (h : l < 3) : f_X4_lengthOf lengths (nI l) = some (lengths l) := by
  unfold f_X4_lengthOf
  rw [k_has4 h, pb1, if_neg i10, pinn h (by decide), nI_c l (by omega)]
theorem k_miss1 {lengths : Nat → Int32} {l : Nat} (h : l < 3) (e : lengths l = -1) : f_X4_isMissing lengths (nI l) = some 1 := by
  unfold f_X4_isMissing
  rw [k_len4 h, pb1, if_pos e]
theorem nI_m1 {n : Nat} (h : n < 2 ^ 31) : ¬ nI n = -1 := fun e => by
  have h1 := congrArg Int32.toInt e
  rw [nI_toInt h, show (-1 : Int32).toInt = -1 by decide] at h1
  omega
theorem k_miss0 {lengths : Nat → Int32} {l n : Nat} (h : l < 3) (hn : n ≤ 40) (e : lengths l = nI n) : f_X4_isMissing lengths (nI l) = some 0 := by
  unfold f_X4_isMissing
  rw [k_len4 h, pb1, if_neg (by rw [e]; exact nI_m1 (by omega))]
theorem k_place1 {lengths : Nat → Int32} {l n i : Nat} (h : l < 3) (hn : n ≤ 40) (e : lengths l = nI n) (hi : i < n) : f_X4_hasPlace lengths (nI l) (nI i) = some 1 := by
  unfold f_X4_hasPlace
  rw [if_neg (nI_pos (by omega)), k_len4 h, pb1, e, if_neg (nI_ge hi (by omega)), if_neg (show ¬ (40 : Int32) ≤ nI i from nI_ge (a := i) (b := 40) (by omega) (by decide))]
theorem k_place0 {lengths : Nat → Int32} {l n : Nat} {x : Int32} (h : l < 3) (e : lengths l = nI n) (hx : x < 0 ∨ nI n ≤ x) : f_X4_hasPlace lengths (nI l) x = some 0 := by
  unfold f_X4_hasPlace
  by_cases c : x < 0
  · rw [if_pos c]
  · rw [if_neg c, k_len4 h, pb1, e, if_pos (hx.resolve_left c)]
theorem k_at4 {values lengths : Nat → Int32} {l n i : Nat} (h : l < 3) (hn : n ≤ 40) (e : lengths l = nI n) (hi : i < n) : f_X4_at values lengths (nI l) (nI i) = some (values (40 * l + i)) := by
  unfold f_X4_at
  rw [k_place1 h hn e hi, pb1, if_neg i10, ix40, pinn (by omega) (by decide), nI_c _ (by omega)]
theorem k_store4 {values lengths : Nat → Int32} {l n i : Nat} (v : Int32) (h : l < 3) (hn : n ≤ 40) (e : lengths l = nI n) (hi : i < n) : f_X4_store values lengths (nI l) (nI i) v = some (upd values (40 * l + i) v) := by
  unfold f_X4_store
  rw [k_place1 h hn e hi, pb1, if_neg i10, ix40, pinn (by omega) (by decide), nI_c _ (by omega)]
theorem inm {n : Nat} (hn : n ≤ 40) (x : Int32) : (∃ i, i < n ∧ x = nI i ∧ f_X10_in x 0 (nI n - 1) = some 1) ∨ ((x < 0 ∨ nI n ≤ x) ∧ f_X10_in x 0 (nI n - 1) = some 0) := by
  rcases Nat.eq_zero_or_pos n with rfl | h
  · refine Or.inr ?_
    unfold f_X10_in
    by_cases c : x < 0
    · exact ⟨Or.inl c, by rw [if_pos c]⟩
    · have h0 := Int32.not_lt.mp c
      exact ⟨Or.inr h0, by rw [if_neg c, if_pos (Int32.lt_of_lt_of_le (by decide) h0)]⟩
  · rw [nIm1 h]
    rcases inx (n - 1) (by omega) x with ⟨j, hj, rfl, e⟩ | ⟨h1, e⟩
    · exact Or.inl ⟨j, by omega, rfl, e⟩
    · refine Or.inr ⟨?_, e⟩
      rcases h1 with h1 | h1
      · exact Or.inl h1
      · have := sl (by omega) h1
        rw [show n - 1 + 1 = n by omega] at this
        exact Or.inr this
theorem Rli_upd {values lengths list cell : Nat → Int32} (h : Rli values lengths list cell) (k : Nat) (v : Int32) : Rli (upd values k v) lengths list (upd cell k v) := by
  intro l hl
  obtain ⟨h1, h2⟩ := h l hl
  refine ⟨h1, ?_⟩
  rcases h2 with h2 | ⟨n, hn, e, h3⟩
  · exact Or.inl h2
  · refine Or.inr ⟨n, hn, e, fun i hi => ?_⟩
    unfold upd
    by_cases c : 40 * l + i = k
    · rw [if_pos c, if_pos c]
    · rw [if_neg c, if_neg c]; exact h3 i hi
theorem le_m1 : ¬ (0 : Int32) ≤ -1 := by decide
theorem k_begin {l : Nat} (hl : l < 3) (lens : Nat → Int32) : ∀ (d f q : Nat), q + d = 40 → d < f → ∀ values, ∃ values', f_X4_begin_17 f values lens (nI l) (nI q) = some (values', lens) ∧ (∀ j, 40 * l + q ≤ j → j < 40 * l + 40 → values' j = 0) ∧ ∀ j, (j < 40 * l + q ∨ 40 * l + 40 ≤ j) → values' j = values j := by
  intro d
  induction d with
  | zero =>
    intro f q hq hf values
    obtain ⟨f, rfl⟩ : ∃ z, f = z + 1 := ⟨f - 1, by omega⟩
    obtain rfl : q = 40 := by omega
    refine ⟨values, ?_, fun j h1 h2 => absurd h1 (by omega), fun j _ => rfl⟩
    show gf_X4_begin_17 (f_X4_begin_17 f) values lens (nI l) (nI 40) = _
    unfold gf_X4_begin_17
    rw [if_pos (by decide)]
  | succ d ih =>
    intro f q hq hf values
    obtain ⟨f, rfl⟩ : ∃ z, f = z + 1 := ⟨f - 1, by omega⟩
    obtain ⟨values', e, h1, h2⟩ := ih f (q + 1) (by omega) (by omega) (upd values (40 * l + q) 0)
    refine ⟨values', ?_, ?_, ?_⟩
    · show gf_X4_begin_17 (f_X4_begin_17 f) values lens (nI l) (nI q) = _
      unfold gf_X4_begin_17
      rw [if_neg (show ¬ (40 : Int32) ≤ nI q from nI_ge (a := q) (b := 40) (by omega) (by decide)), ix40, pinn (by omega) (by decide), nI_c _ (by omega), show nI q + (1 : Int32) = nI (q + 1) from nI_1 q]
      exact e
    · intro j g1 g2
      by_cases c : j = 40 * l + q
      · rw [h2 j (by omega), c]; exact if_pos rfl
      · exact h1 j (by omega) g2
    · intro j g
      rw [h2 j (by omega)]
      exact if_neg (by omega)
theorem m_list42 {l n : Nat} (hl : l < 3) (hn : n ≤ 40) (lst rf : Nat → Int32) : ∀ (d f q : Nat), q + d = n → d < f → ∀ cell, ∃ cell', f_X10_list_42 f lst cell rf (nI l) (nI n) (nI q) = some (1, lst, cell', rf) ∧ (∀ j, 40 * l + q ≤ j → j < 40 * l + n → cell' j = 0) ∧ ∀ j, (j < 40 * l + q ∨ 40 * l + n ≤ j) → cell' j = cell j := by
  intro d
  induction d with
  | zero =>
    intro f q hq hf cell
    obtain ⟨f, rfl⟩ : ∃ z, f = z + 1 := ⟨f - 1, by omega⟩
    obtain rfl : q = n := by omega
    refine ⟨cell, ?_, fun j h1 h2 => absurd h1 (by omega), fun j _ => rfl⟩
    show gf_X10_list_42 (f_X10_list_42 f) lst cell rf (nI l) (nI q) (nI q) = _
    unfold gf_X10_list_42
    rw [if_pos (Int32.le_refl _)]
  | succ d ih =>
    intro f q hq hf cell
    obtain ⟨f, rfl⟩ : ∃ z, f = z + 1 := ⟨f - 1, by omega⟩
    obtain ⟨cell', e, h1, h2⟩ := ih f (q + 1) (by omega) (by omega) (upd cell (40 * l + q) 0)
    refine ⟨cell', ?_, ?_, ?_⟩
    · show gf_X10_list_42 (f_X10_list_42 f) lst cell rf (nI l) (nI n) (nI q) = _
      unfold gf_X10_list_42
      rw [if_neg (nI_ge (by omega) (by omega)), ix40m, pinn (by omega) (by decide), nI_c _ (by omega), show nI q + (1 : Int32) = nI (q + 1) from nI_1 q]
      exact e
    · intro j g1 g2
      by_cases c : j = 40 * l + q
      · rw [h2 j (by omega), c]; exact if_pos rfl
      · exact h1 j (by omega) g2
    · intro j g
      rw [h2 j (by omega)]
      exact if_neg (by omega)
set_option maxRecDepth 10000 in
theorem eq_list : EQ_list Rl0 := by
  intro v9_refusals v7_rows v7_lengths v7_sizes v7_rests v7_orders v6_hooks v6_lefts v6_heights v1_table v5_known v8_sizes v8_coefficients v8_undoneSums v8_undos v8_nextUndo v8_imageTaken v0_totals v3_letters v3_count v3_next v3_size v4_values v4_lengths v10_firstOf v10_sizeOf v10_longOf v10_row v10_character v10_sum v10_coefficient v10_undone v10_wasSum v10_wasCoefficient v10_hasImage v10_letter v10_letters v10_list v10_cell v10_refusals v10_tried v10_left v10_high v10_then v10_at v10_readSize hR x1 x2
  obtain ⟨hc, hm, hrf, hkn, hle, hli, hsu⟩ := hR
  have hc1 := hc
  have hm1 := hm
  obtain ⟨rfl, rfl, rfl, rfl, rfl, rfl, rfl, rfl, rfl⟩ := hc1
  obtain ⟨rfl, rfl, rfl, rfl, rfl⟩ := hm1
  rcases (lix x1).symm with ⟨h1, h2⟩ | ⟨l, hl, rfl, h1, h2⟩
  · obtain ⟨a', b', e1, e2, hrf'⟩ := rf_1 hrf (-1) (by decide)
    exact ⟨_, _, _, _, _, _, _, by unfold f_X9_list; rw [h1, pb1, if_pos rfl, e1, pb2], by unfold f_X10_list; rw [h2, pb1, if_pos rfl, e2, pb2], Rl0_mk hc hm hrf' hkn hle hli hsu⟩
  by_cases c1 : ¬ x2 ≤ 40
  · obtain ⟨a', b', e1, e2, hrf'⟩ := rf_1 hrf (-6) (by decide)
    exact ⟨_, _, _, _, _, _, _, by unfold f_X9_list; rw [h1, pb1, if_neg i10, if_neg c1, e1, pb2], by unfold f_X10_list; rw [h2, pb1, if_neg i10, if_neg c1, e2, pb2], Rl0_mk hc hm hrf' hkn hle hli hsu⟩
  have c1 := Decidable.not_not.mp c1
  by_cases c2 : ¬ (0 : Int32) ≤ x2
  · exact ⟨_, _, _, _, _, _, _, by unfold f_X9_list; rw [h1, pb1, if_neg i10, if_pos c1, if_neg c2], by unfold f_X10_list; rw [h2, pb1, if_neg i10, if_pos c1, if_neg c2], Rl0_mk hc hm hrf hkn hle hli hsu⟩
  have c2 := Decidable.not_not.mp c2
  obtain ⟨n, hn, rfl⟩ := nI_of2 (n := 40) (M := 40) (by decide) (Int32.not_lt.mpr c2) c1
  obtain ⟨values', e1, v1, v2⟩ := k_begin hl (upd v4_lengths l (nI n)) 40 1000 0 (by omega) (by omega) v4_values
  obtain ⟨cell', e2, w1, w2⟩ := m_list42 hl hn (upd v10_list l (nI n)) v10_refusals n 1000 0 (by omega) (by omega) v10_cell
  refine ⟨1, v9_refusals, values', upd v4_lengths l (nI n), upd v10_list l (nI n), cell', v10_refusals, ?_, ?_, Rl0_mk hc hm hrf hkn hle ?_ hsu⟩
  · unfold f_X9_list f_X4_begin
    rw [h1, pb1, if_neg i10, if_pos c1, if_pos c2, pb1, if_neg i10, pinn hl (by decide), nI_c l (by omega), show (0 : Int32) = nI 0 from rfl, e1, pb2]
  · unfold f_X10_list
    rw [h2, pb1, if_neg i10, if_pos c1, if_pos c2, pinn hl (by decide), nI_c l (by omega), show (0 : Int32) = nI 0 from rfl, e2]
  · intro l' hl'
    by_cases c : l' = l
    · subst c
      refine ⟨by unfold upd; rw [if_pos rfl, if_pos rfl], Or.inr ⟨n, hn, if_pos rfl, fun i hi => ?_⟩⟩
      rw [v1 _ (by omega) (by omega), w1 _ (by omega) (by omega)]
    · obtain ⟨g1, g2⟩ := hli l' hl'
      unfold upd
      rw [if_neg c, if_neg c]
      refine ⟨g1, ?_⟩
      rcases g2 with g2 | ⟨n', hn', e, g3⟩
      · exact Or.inl g2
      · refine Or.inr ⟨n', hn', e, fun i hi => ?_⟩
        rw [v2 _ (by omega), w2 _ (by omega)]
        exact g3 i hi
set_option maxRecDepth 10000 in
theorem eq_put : EQ_put Rl0 := by
  intro v9_refusals v7_rows v7_lengths v7_sizes v7_rests v7_orders v6_hooks v6_lefts v6_heights v1_table v5_known v8_sizes v8_coefficients v8_undoneSums v8_undos v8_nextUndo v8_imageTaken v0_totals v3_letters v3_count v3_next v3_size v4_values v4_lengths v10_firstOf v10_sizeOf v10_longOf v10_row v10_character v10_sum v10_coefficient v10_undone v10_wasSum v10_wasCoefficient v10_hasImage v10_letter v10_letters v10_list v10_cell v10_refusals v10_tried v10_left v10_high v10_then v10_at v10_readSize hR x1 x2 x3
  obtain ⟨hc, hm, hrf, hkn, hle, hli, hsu⟩ := hR
  have hc1 := hc
  have hm1 := hm
  obtain ⟨rfl, rfl, rfl, rfl, rfl, rfl, rfl, rfl, rfl⟩ := hc1
  obtain ⟨rfl, rfl, rfl, rfl, rfl⟩ := hm1
  rcases (lix x1).symm with ⟨h1, h2⟩ | ⟨l, hl, rfl, h1, h2⟩
  · obtain ⟨a', b', e1, e2, hrf'⟩ := rf_1 hrf (-1) (by decide)
    exact ⟨_, _, _, _, _, by unfold f_X9_put; rw [h1, pb1, if_pos rfl, e1, pb2], by unfold f_X10_put; rw [h2, pb1, if_pos rfl, e2, pb2], Rl0_mk hc hm hrf' hkn hle hli hsu⟩
  obtain ⟨g1, g2⟩ := hli l hl
  rcases g2 with g2 | ⟨n, hn, e, g3⟩
  · exact ⟨_, _, _, _, _, by unfold f_X9_put; rw [h1, pb1, if_neg i10, k_miss1 hl g2, pb1, if_neg i10], by unfold f_X10_put; rw [h2, pb1, if_neg i10, pinn hl (by decide), nI_c l (by omega), ← g1, g2, if_neg le_m1], Rl0_mk hc hm hrf hkn hle hli hsu⟩
  rcases inm hn x2 with ⟨i, hi, rfl, e3⟩ | ⟨hx, e3⟩
  · exact ⟨_, _, _, _, _, by unfold f_X9_put; rw [h1, pb1, if_neg i10, k_miss0 hl hn e, pb1, if_pos rfl, k_place1 hl hn e hi, pb1, if_neg i10, k_store4 x3 hl hn e hi, pb1], by unfold f_X10_put; rw [h2, pb1, if_neg i10, pinn hl (by decide), nI_c l (by omega), ← g1, e, if_pos (nI_pos' (by omega)), pinn hl (by decide), e3, pb1, if_neg i10, ix40m, pinn (by omega) (by decide), nI_c _ (by omega)], Rl0_mk hc hm hrf hkn hle (Rli_upd hli _ _) hsu⟩
  · exact ⟨_, _, _, _, _, by unfold f_X9_put; rw [h1, pb1, if_neg i10, k_miss0 hl hn e, pb1, if_pos rfl, k_place0 hl e hx, pb1, if_pos rfl], by unfold f_X10_put; rw [h2, pb1, if_neg i10, pinn hl (by decide), nI_c l (by omega), ← g1, e, if_pos (nI_pos' (by omega)), pinn hl (by decide), e3, pb1, if_pos rfl], Rl0_mk hc hm hrf hkn hle hli hsu⟩
set_option maxRecDepth 10000 in
theorem eq_look : EQ_look Rl0 := by
  intro v9_refusals v7_rows v7_lengths v7_sizes v7_rests v7_orders v6_hooks v6_lefts v6_heights v1_table v5_known v8_sizes v8_coefficients v8_undoneSums v8_undos v8_nextUndo v8_imageTaken v0_totals v3_letters v3_count v3_next v3_size v4_values v4_lengths v10_firstOf v10_sizeOf v10_longOf v10_row v10_character v10_sum v10_coefficient v10_undone v10_wasSum v10_wasCoefficient v10_hasImage v10_letter v10_letters v10_list v10_cell v10_refusals v10_tried v10_left v10_high v10_then v10_at v10_readSize hR x1 x2
  obtain ⟨hc, hm, hrf, hkn, hle, hli, hsu⟩ := hR
  have hc1 := hc
  have hm1 := hm
  obtain ⟨rfl, rfl, rfl, rfl, rfl, rfl, rfl, rfl, rfl⟩ := hc1
  obtain ⟨rfl, rfl, rfl, rfl, rfl⟩ := hm1
  rcases (lix x1).symm with ⟨h1, h2⟩ | ⟨l, hl, rfl, h1, h2⟩
  · obtain ⟨v, a', b', e1, e2, hrf'⟩ := rf_farl hrf (-1) (by decide)
    exact ⟨_, _, _, by unfold f_X9_look; rw [h1, pb1, if_pos rfl, e1, pb2], by unfold f_X10_look; rw [h2, pb1, if_pos rfl, e2, pb2], Rl0_mk hc hm hrf' hkn hle hli hsu⟩
  obtain ⟨g1, g2⟩ := hli l hl
  rcases g2 with g2 | ⟨n, hn, e, g3⟩
  · exact ⟨_, _, _, by unfold f_X9_look; rw [h1, pb1, if_neg i10, k_miss1 hl g2, pb1, if_neg i10], by unfold f_X10_look; rw [h2, pb1, if_neg i10, pinn hl (by decide), nI_c l (by omega), ← g1, g2, if_neg le_m1], Rl0_mk hc hm hrf hkn hle hli hsu⟩
  rcases inm hn x2 with ⟨i, hi, rfl, e3⟩ | ⟨hx, e3⟩
  · exact ⟨_, _, _, by unfold f_X9_look; rw [h1, pb1, if_neg i10, k_miss0 hl hn e, pb1, if_pos rfl, k_place1 hl hn e hi, pb1, if_neg i10, k_at4 hl hn e hi, pb1], by unfold f_X10_look; rw [h2, pb1, if_neg i10, pinn hl (by decide), nI_c l (by omega), ← g1, e, if_pos (nI_pos' (by omega)), pinn hl (by decide), e3, pb1, if_neg i10, ix40m, pinn (by omega) (by decide), nI_c _ (by omega), ← g3 i hi], Rl0_mk hc hm hrf hkn hle hli hsu⟩
  · exact ⟨_, _, _, by unfold f_X9_look; rw [h1, pb1, if_neg i10, k_miss0 hl hn e, pb1, if_pos rfl, k_place0 hl e hx, pb1, if_pos rfl], by unfold f_X10_look; rw [h2, pb1, if_neg i10, pinn hl (by decide), nI_c l (by omega), ← g1, e, if_pos (nI_pos' (by omega)), pinn hl (by decide), e3, pb1, if_pos rfl], Rl0_mk hc hm hrf hkn hle hli hsu⟩
theorem subneg : ∀ n, n < 41 → ∀ N, N < 23 → N ≤ n ∨ (nI n - nI N) < 0 := by decide +kernel
theorem nI_sub2 {a b : Nat} (h : b ≤ a) : nI a - nI b = nI (a - b) := by
  obtain ⟨k, rfl⟩ : ∃ k, a = k + b := ⟨a - b, by omega⟩
  rw [← nI_add, Int32.add_sub_cancel, Nat.add_sub_cancel]
theorem lays_loop {l n s i : Nat} (hl : l < 3) (hn : n ≤ 40) (hs : s < 67) (hi : i + qz_N (qz_S s) ≤ n) (ra rb lengths list : Nat → Int32) (e : lengths l = nI n) : ∀ (d f g p : Nat), p + d = qz_N (qz_S s) → d < f → d < g → ∀ values cell, Rli values lengths list cell → ∃ values' cell', f_X9_lays_84 tz_S tz_C lengths f ra values (nI l) (nI i) (nI s) (nI (qz_N (qz_S s))) (nI p) = some (nI (qz_N (qz_S s)), ra, values') ∧ f_X10_lays_67 tz_D tz_S tz_M list g cell rb (nI l) (nI i) (nI s) (nI (qz_N (qz_S s))) (nI p) = some (nI (qz_N (qz_S s)), cell', rb) ∧ Rli values' lengths list cell' := by
  obtain ⟨p1, p2, p3⟩ := shp s hs
  have hN := qN_le _ p1
  intro d
  induction d with
  | zero =>
    intro f g p hp hf hg values cell hli
    obtain ⟨f, rfl⟩ : ∃ z, f = z + 1 := ⟨f - 1, by omega⟩
    obtain ⟨g, rfl⟩ : ∃ z, g = z + 1 := ⟨g - 1, by omega⟩
    obtain rfl : p = qz_N (qz_S s) := by omega
    refine ⟨values, cell, ?_, ?_, hli⟩
    · show gf_X9_lays_84 (f_X9_lays_84 tz_S tz_C lengths f) tz_S tz_C lengths ra values (nI l) (nI i) (nI s) _ _ = _
      unfold gf_X9_lays_84
      rw [if_pos (Int32.le_refl _)]
    · show gf_X10_lays_67 (f_X10_lays_67 tz_D tz_S tz_M list g) tz_D tz_S tz_M list cell rb (nI l) (nI i) (nI s) _ _ = _
      unfold gf_X10_lays_67
      rw [if_pos (Int32.le_refl _)]
  | succ d ih =>
    intro f g p hp hf hg values cell hli
    obtain ⟨f, rfl⟩ : ∃ z, f = z + 1 := ⟨f - 1, by omega⟩
    obtain ⟨g, rfl⟩ : ∃ z, g = z + 1 := ⟨g - 1, by omega⟩
    obtain ⟨values', cell', e1, e2, h⟩ := ih f g (p + 1) (by omega) (by omega) (by omega) (upd values (40 * l + (i + p)) (tz_C (22 * s + p))) (upd cell (40 * l + (i + p)) (tz_C (22 * s + p))) (Rli_upd hli _ _)
    refine ⟨values', cell', ?_, ?_, h⟩
    · show gf_X9_lays_84 (f_X9_lays_84 tz_S tz_C lengths f) tz_S tz_C lengths ra values (nI l) (nI i) (nI s) _ (nI p) = _
      unfold gf_X9_lays_84
      rw [if_neg (nI_ge (by omega) (by omega)), k_atPlace s hs p (by omega), pb1, nI_add, k_store4 _ hl hn e (by omega), pb1, show nI p + (1 : Int32) = nI (p + 1) from nI_1 p]
      exact e1
    · show gf_X10_lays_67 (f_X10_lays_67 tz_D tz_S tz_M list g) tz_D tz_S tz_M list cell rb (nI l) (nI i) (nI s) _ (nI p) = _
      unfold gf_X10_lays_67
      have hDp := (shD _ p1 p (by omega)).1
      rw [if_neg (nI_ge (by omega) (by omega)), pinn hs (by decide), nI_c s (by omega), show tz_S s = nI (qz_S s) from rfl, pinn (by omega) (by decide), nI_c (qz_S s) (by omega), show (67 : Int32) * nI s + tz_D (qz_S s) + nI p = nI (67 * s + (qz_D (qz_S s) + p)) by rw [show tz_D (qz_S s) = nI (qz_D (qz_S s)) from rfl, idx67, nI_add, Nat.add_assoc], pinn (by omega) (by decide), nI_c _ (by omega), mC s hs p (by omega), ix40m, nI_add, show 40 * l + i + p = 40 * l + (i + p) by omega, pinn (by omega) (by decide), nI_c _ (by omega), show nI p + (1 : Int32) = nI (p + 1) from nI_1 p]
      exact e2
set_option maxRecDepth 10000 in
theorem eq_lays : EQ_lays Rl0 := by
  intro v9_refusals v7_rows v7_lengths v7_sizes v7_rests v7_orders v6_hooks v6_lefts v6_heights v1_table v5_known v8_sizes v8_coefficients v8_undoneSums v8_undos v8_nextUndo v8_imageTaken v0_totals v3_letters v3_count v3_next v3_size v4_values v4_lengths v10_firstOf v10_sizeOf v10_longOf v10_row v10_character v10_sum v10_coefficient v10_undone v10_wasSum v10_wasCoefficient v10_hasImage v10_letter v10_letters v10_list v10_cell v10_refusals v10_tried v10_left v10_high v10_then v10_at v10_readSize hR x1 x2 x3
  obtain ⟨hc, hm, hrf, hkn, hle, hli, hsu⟩ := hR
  have hc1 := hc
  have hm1 := hm
  obtain ⟨rfl, rfl, rfl, rfl, rfl, rfl, rfl, rfl, rfl⟩ := hc1
  obtain ⟨rfl, rfl, rfl, rfl, rfl⟩ := hm1
  rcases (lix x1).symm with ⟨h1, h2⟩ | ⟨l, hl, rfl, h1, h2⟩
  · obtain ⟨a', b', e1, e2, hrf'⟩ := rf_1 hrf (-1) (by decide)
    exact ⟨_, _, _, _, _, by unfold f_X9_lays f_X9_lays_22; rw [h1, pb1, if_pos rfl, e1, pb2], by unfold f_X10_lays f_X10_lays_14; rw [h2, pb1, if_pos rfl, e2, pb2], Rl0_mk hc hm hrf' hkn hle hli hsu⟩
  rcases (shx x3).symm with ⟨f1, f2⟩ | ⟨s, hs, rfl, f1, f2⟩
  · obtain ⟨a', b', e1, e2, hrf'⟩ := rf_1 hrf (-1) (by decide)
    exact ⟨_, _, _, _, _, by unfold f_X9_lays f_X9_lays_22; rw [h1, pb1, if_neg i10, f1, pb1, if_pos rfl, e1, pb2], by unfold f_X10_lays f_X10_lays_14; rw [h2, pb1, if_neg i10, f2, pb1, if_pos rfl, e2, pb2], Rl0_mk hc hm hrf' hkn hle hli hsu⟩
  obtain ⟨g1, g2⟩ := hli l hl
  rcases g2 with g2 | ⟨n, hn, e, g3⟩
  · exact ⟨_, _, _, _, _, by unfold f_X9_lays; rw [h1, pb1, if_neg i10, f1, pb1, if_neg i10, k_miss1 hl g2, pb1, if_neg i10], by unfold f_X10_lays; rw [h2, pb1, if_neg i10, f2, pb1, if_neg i10, pinn hl (by decide), nI_c l (by omega), ← g1, g2, if_neg le_m1], Rl0_mk hc hm hrf hkn hle hli hsu⟩
  obtain ⟨p1, p2, p3⟩ := shp s hs
  have hN := qN_le _ p1
  by_cases c1 : x2 < 0
  · exact ⟨_, _, _, _, _, by unfold f_X9_lays; rw [h1, pb1, if_neg i10, f1, pb1, if_neg i10, k_miss0 hl hn e, pb1, if_pos rfl, k_sizeN s hs, pb1, k_countOf _ p1, pb1, if_pos c1], by unfold f_X10_lays; rw [h2, pb1, if_neg i10, f2, pb1, if_neg i10, pinn hl (by decide), nI_c l (by omega), ← g1, e, if_pos (nI_pos' (by omega)), pinn hs (by decide), nI_c s (by omega), show tz_S s = nI (qz_S s) from rfl, m_manyOf _ p1, pb1, if_pos c1], Rl0_mk hc hm hrf hkn hle hli hsu⟩
  by_cases c2 : ¬ x2 ≤ nI n - nI (qz_N (qz_S s))
  · exact ⟨_, _, _, _, _, by unfold f_X9_lays; rw [h1, pb1, if_neg i10, f1, pb1, if_neg i10, k_miss0 hl hn e, pb1, if_pos rfl, k_sizeN s hs, pb1, k_countOf _ p1, pb1, if_neg c1, k_len4 hl, pb1, e, if_neg c2], by unfold f_X10_lays; rw [h2, pb1, if_neg i10, f2, pb1, if_neg i10, pinn hl (by decide), nI_c l (by omega), ← g1, e, if_pos (nI_pos' (by omega)), pinn hs (by decide), nI_c s (by omega), show tz_S s = nI (qz_S s) from rfl, m_manyOf _ p1, pb1, if_neg c1, pinn hl (by decide), if_neg c2], Rl0_mk hc hm hrf hkn hle hli hsu⟩
  have c2 := Decidable.not_not.mp c2
  obtain ⟨i, hi, hiN⟩ : ∃ i, x2 = nI i ∧ i + qz_N (qz_S s) ≤ n := by
    rcases subneg n (by omega) (qz_N (qz_S s)) (by omega) with h | h
    · rw [nI_sub2 h] at c2
      obtain ⟨i, hi, e9⟩ := nI_of2 (M := nI (n - qz_N (qz_S s))) (nI_toInt (by omega)) c1 c2
      exact ⟨i, e9, by omega⟩
    · exact absurd (Int32.lt_of_le_of_lt c2 h) c1
  subst hi
  obtain ⟨values', cell', e1, e2, h⟩ := lays_loop hl hn hs hiN v9_refusals v10_refusals v4_lengths v10_list e (qz_N (qz_S s)) 1000 1000 0 (by omega) (by omega) (by omega) v4_values v10_cell hli
  exact ⟨_, _, _, _, _, by unfold f_X9_lays; rw [h1, pb1, if_neg i10, f1, pb1, if_neg i10, k_miss0 hl hn e, pb1, if_pos rfl, k_sizeN s hs, pb1, k_countOf _ p1, pb1, if_neg c1, k_len4 hl, pb1, e, if_pos c2]; exact e1, by unfold f_X10_lays; rw [h2, pb1, if_neg i10, f2, pb1, if_neg i10, pinn hl (by decide), nI_c l (by omega), ← g1, e, if_pos (nI_pos' (by omega)), pinn hs (by decide), nI_c s (by omega), show tz_S s = nI (qz_S s) from rfl, m_manyOf _ p1, pb1, if_neg c1, pinn hl (by decide), if_pos c2]; exact e2, Rl0_mk hc hm hrf hkn hle h hsu⟩
