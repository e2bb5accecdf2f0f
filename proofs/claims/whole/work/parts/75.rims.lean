theorem k_howMany : ∀ s, s < 67 → ∀ k, k < 9 → 1 ≤ k → f_X6_howMany tz_S tz_H (nI s) (nI k) = some (nI (qcnt s k)) := by decide +kernel
theorem k_cellOf_in : ∀ s, s < 67 → ∀ k, k < 9 → 1 ≤ k → ∀ i, i < qcnt s k → f_X6_cellOf tz_S tz_H (nI s) (nI k) (nI i) = some (nI (qcell s k i)) := by decide +kernel
theorem k_cellOf_9 : ∀ s, s < 67 → ∀ k, k < 9 → 1 ≤ k → ∀ i, i < 10 → i < qcnt s k ∨ f_X6_cellOf tz_S tz_H (nI s) (nI k) (nI i) = some (-1) := by decide +kernel
theorem k_sizeN : ∀ s, s < 67 → f_X7_sizeOf tz_S (nI s) = some (nI (qz_S s)) := by decide +kernel
theorem k_leftBy : ∀ s, s < 67 → ∀ q, q < 8 → f_X6_leftBy tz_F (nI s) (nI q) = some (tz_F (8 * s + q)) := by decide +kernel
theorem k_heightBy : ∀ s, s < 67 → ∀ q, q < 8 → f_X6_heightBy tz_E (nI s) (nI q) = some (tz_E (8 * s + q)) := by decide +kernel
theorem k_cell_far {s k i : Nat} (hs : s < 67) (hi : 9 ≤ i) (hi2 : i < 2 ^ 31) : ∀ (n j q : Nat), j ≤ q → q ≤ 8 → f_X6_cellOf_6 tz_S tz_H n (nI s) (nI k) (nI i) (nI j) (nI q) = f_X6_cellOf_6 tz_S tz_H n (nI s) (nI k) (nI 9) (nI j) (nI q) := by
  intro n
  induction n with
  | zero => intros; rfl
  | succ n ih =>
    intro j q hj hq
    show gf_X6_cellOf_6 (f_X6_cellOf_6 tz_S tz_H n) tz_S tz_H (nI s) (nI k) (nI i) (nI j) (nI q) = gf_X6_cellOf_6 (f_X6_cellOf_6 tz_S tz_H n) tz_S tz_H (nI s) (nI k) (nI 9) (nI j) (nI q)
    unfold gf_X6_cellOf_6
    rw [k_sizeN s hs, pb1, pb1]
    have h8 := qS_le s hs
    by_cases c : qz_S s ≤ q
    · rw [if_pos (nI_le c (by omega)), if_pos (nI_le c (by omega))]
    · rw [if_neg (nI_ge (by omega) (by omega)), if_neg (nI_ge (by omega) (by omega))]
      cases e : f_X6_hookBy tz_H (nI s) (nI q) with
      | none => rfl
      | some r =>
        rw [pb1, pb1]
        have e1 : ¬ nI j = nI i := fun e => by have := (nI_eq (by omega) hi2).mp e; omega
        have e2 : ¬ nI j = nI 9 := fun e => by have := (nI_eq (by omega) (by omega)).mp e; omega
        rw [if_neg e1, if_neg e2, show nI j + (1 : Int32) = nI (j + 1) from nI_1 j, show nI q + (1 : Int32) = nI (q + 1) from nI_1 q, ih (j + 1) (q + 1) (by omega) (by omega), ih j (q + 1) (by omega) (by omega)]
theorem k_cellOf_out {s k i : Nat} (hs : s < 67) (hk : k < 9) (hk1 : 1 ≤ k) (h : qcnt s k ≤ i) (hi2 : i < 2 ^ 31) : f_X6_cellOf tz_S tz_H (nI s) (nI k) (nI i) = some (-1) := by
  by_cases c : i < 10
  · exact (k_cellOf_9 s hs k hk hk1 i c).resolve_left (by omega)
  · have e := k_cell_far (k := k) hs (show 9 ≤ i by omega) hi2 1000 0 0 (by omega) (by omega)
    have e2 := (k_cellOf_9 s hs k hk hk1 9 (by omega)).resolve_left (by have := qcnt_le s hs k hk; omega)
    exact e.trans e2
theorem m_isRim_in {s k i : Nat} (hs : s < 67) (hk : k < 9) (hk1 : 1 ≤ k) (hi : i < qcnt s k) (t : Nat → Int32) (l h : Int32) : ∃ t' l' h', f_X10_isRim tz_L tz_R t l h (nI s) (nI k) (nI i) = some (1, t', l', h') := by
  obtain ⟨t', l', h', e⟩ := m_rimOf_all s hs k hk hk1 t l h
  have h8 := qcnt_le s hs k hk
  refine ⟨t', l', h', ?_⟩
  unfold f_X10_isRim
  rw [if_neg (nI_pos (by omega)), e, pb4, if_neg (nI_ge hi (by omega))]
theorem m_isRim_out {s k i : Nat} (hs : s < 67) (hk : k < 9) (hk1 : 1 ≤ k) (hi : qcnt s k ≤ i) (hi2 : i < 2 ^ 31) (t : Nat → Int32) (l h : Int32) : ∃ t' l' h', f_X10_isRim tz_L tz_R t l h (nI s) (nI k) (nI i) = some (0, t', l', h') := by
  obtain ⟨t', l', h', e⟩ := m_rimOf_all s hs k hk hk1 t l h
  refine ⟨t', l', h', ?_⟩
  unfold f_X10_isRim
  rw [if_neg (nI_pos hi2), e, pb4, if_pos (nI_le hi hi2)]
theorem k18 {x : Int32} (h1 : ¬ x < 1) (h2 : x ≤ 8) : ∃ k, k < 9 ∧ 1 ≤ k ∧ x = nI k := by
  obtain ⟨k, hk, rfl⟩ := nI_of2 (n := 8) (by decide) (show ¬ x < 0 from fun h => h1 (Int32.lt_trans h (by decide))) h2
  refine ⟨k, by omega, ?_, rfl⟩
  rcases Nat.eq_zero_or_pos k with rfl | h
  · exact absurd (show nI 0 < 1 by decide) h1
  · exact h
theorem ge_m1 {x : Int32} (h1 : (-1 : Int32) ≤ x) (h2 : ¬ x = -1) : ∃ i, i < 2 ^ 31 ∧ x = nI i := by
  apply nI_of
  intro h
  apply h2
  have a1 := Int32.le_iff_toInt_le.mp h1
  have a2 := Int32.lt_iff_toInt_lt.mp h
  apply Int32.toInt_inj.mp
  have b1 : (-1 : Int32).toInt = -1 := by decide
  have b2 : (0 : Int32).toInt = 0 := by decide
  omega
set_option maxRecDepth 10000 in
theorem eq_rims : EQ_rims Rl0 := by
  intro v9_refusals v7_rows v7_lengths v7_sizes v7_rests v7_orders v6_hooks v6_lefts v6_heights v1_table v5_known v8_sizes v8_coefficients v8_undoneSums v8_undos v8_nextUndo v8_imageTaken v0_totals v3_letters v3_count v3_next v3_size v4_values v4_lengths v10_firstOf v10_sizeOf v10_longOf v10_row v10_character v10_sum v10_coefficient v10_undone v10_wasSum v10_wasCoefficient v10_hasImage v10_letter v10_letters v10_list v10_cell v10_refusals v10_tried v10_left v10_high v10_then v10_at v10_readSize hR x1 x2 x3
  obtain ⟨hc, hm, hrf, hkn, hle, hli, hsu⟩ := hR
  have hc1 := hc
  have hm1 := hm
  obtain ⟨rfl, rfl, rfl, rfl, rfl, rfl, rfl, rfl, rfl⟩ := hc1
  obtain ⟨rfl, rfl, rfl, rfl, rfl⟩ := hm1
  rcases shx x1 with ⟨s, hs, rfl, h1, h2⟩ | ⟨h1, h2⟩
  · by_cases c1 : x2 < 1
    · obtain ⟨a', b', e1, e2, hrf'⟩ := rf_1 hrf (-4) (by decide)
      exact ⟨_, _, _, _, _, _, by unfold f_X9_rims f_X9_rims_27; rw [h1, pb1, if_neg i10, if_pos c1, e1, pb2], by unfold f_X10_rims f_X10_rims_23; rw [h2, pb1, if_neg i10, if_pos c1, e2, pb2], Rl0_mk hc hm hrf' hkn hle hli hsu⟩
    by_cases c2 : ¬ ((-1 : Int32) ≤ x3)
    · obtain ⟨a', b', e1, e2, hrf'⟩ := rf_1 hrf (-4) (by decide)
      exact ⟨_, _, _, _, _, _, by unfold f_X9_rims f_X9_rims_27; rw [h1, pb1, if_neg i10, if_neg c1, if_neg c2, e1, pb2], by unfold f_X10_rims f_X10_rims_23; rw [h2, pb1, if_neg i10, if_neg c1, if_neg c2, e2, pb2], Rl0_mk hc hm hrf' hkn hle hli hsu⟩
    have c2 := Decidable.not_not.mp c2
    by_cases c3 : ¬ (x2 ≤ 8)
    · obtain ⟨a', b', e1, e2, hrf'⟩ := rf_1 hrf (-6) (by decide)
      exact ⟨_, _, _, _, _, _, by unfold f_X9_rims; rw [h1, pb1, if_neg i10, if_neg c1, if_pos c2, if_neg c3, e1, pb2], by unfold f_X10_rims; rw [h2, pb1, if_neg i10, if_neg c1, if_pos c2, if_neg c3, e2, pb2], Rl0_mk hc hm hrf' hkn hle hli hsu⟩
    have c3 := Decidable.not_not.mp c3
    obtain ⟨k, hk, hk1, rfl⟩ := k18 c1 c3
    by_cases c4 : x3 = -1
    · obtain ⟨t', l', h', e⟩ := m_rimOf_all s hs k hk hk1 v10_tried v10_left v10_high
      exact ⟨_, _, _, _, _, _, by unfold f_X9_rims; rw [h1, pb1, if_neg i10, if_neg c1, if_pos c2, if_pos c3, if_pos c4, k_howMany s hs k hk hk1, pb1], by unfold f_X10_rims; rw [h2, pb1, if_neg i10, if_neg c1, if_pos c2, if_pos c3, if_pos c4, e, pb4], Rl0_mk hc hm hrf hkn hle hli hsu⟩
    obtain ⟨i, hi, rfl⟩ := ge_m1 c2 c4
    by_cases c5 : i < qcnt s k
    · obtain ⟨t1, l1, g1, e1⟩ := m_isRim_in hs hk hk1 c5 v10_tried v10_left v10_high
      obtain ⟨t2, e2⟩ := m_rimOf_one s hs k hk hk1 i c5 t1 l1 g1
      have hq := Nat.lt_of_lt_of_le (qcell_lt s hs k hk i c5) (qS_le s hs)
      exact ⟨_, _, _, _, _, _, by unfold f_X9_rims; rw [h1, pb1, if_neg i10, if_neg c1, if_pos c2, if_pos c3, if_neg c4, k_cellOf_in s hs k hk hk1 i c5, pb1, if_pos (nI_pos' (by omega)), k_leftBy s hs _ hq, pb1], by unfold f_X10_rims; rw [h2, pb1, if_neg i10, if_neg c1, if_pos c2, if_pos c3, if_neg c4, e1, pb4, if_neg i10, e2, pb4], Rl0_mk hc hm hrf hkn hle hli hsu⟩
    · obtain ⟨t1, l1, g1, e1⟩ := m_isRim_out hs hk hk1 (Nat.le_of_not_lt c5) hi v10_tried v10_left v10_high
      exact ⟨_, _, _, _, _, _, by unfold f_X9_rims; rw [h1, pb1, if_neg i10, if_neg c1, if_pos c2, if_pos c3, if_neg c4, k_cellOf_out hs hk hk1 (Nat.le_of_not_lt c5) hi, pb1, if_neg (by decide)], by unfold f_X10_rims; rw [h2, pb1, if_neg i10, if_neg c1, if_pos c2, if_pos c3, if_neg c4, e1, pb4, if_pos rfl], Rl0_mk hc hm hrf hkn hle hli hsu⟩
  · obtain ⟨a', b', e1, e2, hrf'⟩ := rf_1 hrf (-1) (by decide)
    exact ⟨_, _, _, _, _, _, by unfold f_X9_rims; rw [h1, pb1, if_pos rfl, e1, pb2], by unfold f_X10_rims; rw [h2, pb1, if_pos rfl, e2, pb2], Rl0_mk hc hm hrf' hkn hle hli hsu⟩
set_option maxRecDepth 10000 in
theorem eq_height : EQ_height Rl0 := by
  intro v9_refusals v7_rows v7_lengths v7_sizes v7_rests v7_orders v6_hooks v6_lefts v6_heights v1_table v5_known v8_sizes v8_coefficients v8_undoneSums v8_undos v8_nextUndo v8_imageTaken v0_totals v3_letters v3_count v3_next v3_size v4_values v4_lengths v10_firstOf v10_sizeOf v10_longOf v10_row v10_character v10_sum v10_coefficient v10_undone v10_wasSum v10_wasCoefficient v10_hasImage v10_letter v10_letters v10_list v10_cell v10_refusals v10_tried v10_left v10_high v10_then v10_at v10_readSize hR x1 x2 x3
  obtain ⟨hc, hm, hrf, hkn, hle, hli, hsu⟩ := hR
  have hc1 := hc
  have hm1 := hm
  obtain ⟨rfl, rfl, rfl, rfl, rfl, rfl, rfl, rfl, rfl⟩ := hc1
  obtain ⟨rfl, rfl, rfl, rfl, rfl⟩ := hm1
  rcases shx x1 with ⟨s, hs, rfl, h1, h2⟩ | ⟨h1, h2⟩
  · by_cases c1 : x2 < 1
    · obtain ⟨a', b', e1, e2, hrf'⟩ := rf_1 hrf (-4) (by decide)
      exact ⟨_, _, _, _, _, _, by unfold f_X9_height f_X9_height_26; rw [h1, pb1, if_neg i10, if_pos c1, e1, pb2], by unfold f_X10_height f_X10_height_22; rw [h2, pb1, if_neg i10, if_pos c1, e2, pb2], Rl0_mk hc hm hrf' hkn hle hli hsu⟩
    by_cases c2 : ¬ ((0 : Int32) ≤ x3)
    · obtain ⟨a', b', e1, e2, hrf'⟩ := rf_1 hrf (-4) (by decide)
      exact ⟨_, _, _, _, _, _, by unfold f_X9_height f_X9_height_26; rw [h1, pb1, if_neg i10, if_neg c1, if_neg c2, e1, pb2], by unfold f_X10_height f_X10_height_22; rw [h2, pb1, if_neg i10, if_neg c1, if_neg c2, e2, pb2], Rl0_mk hc hm hrf' hkn hle hli hsu⟩
    have c2 := Decidable.not_not.mp c2
    by_cases c3 : ¬ (x2 ≤ 8)
    · obtain ⟨a', b', e1, e2, hrf'⟩ := rf_1 hrf (-6) (by decide)
      exact ⟨_, _, _, _, _, _, by unfold f_X9_height; rw [h1, pb1, if_neg i10, if_neg c1, if_pos c2, if_neg c3, e1, pb2], by unfold f_X10_height; rw [h2, pb1, if_neg i10, if_neg c1, if_pos c2, if_neg c3, e2, pb2], Rl0_mk hc hm hrf' hkn hle hli hsu⟩
    have c3 := Decidable.not_not.mp c3
    obtain ⟨k, hk, hk1, rfl⟩ := k18 c1 c3
    obtain ⟨i, hi, rfl⟩ := nI_of (Int32.not_lt.mpr c2)
    by_cases c5 : i < qcnt s k
    · obtain ⟨t1, l1, g1, e1⟩ := m_isRim_in hs hk hk1 c5 v10_tried v10_left v10_high
      obtain ⟨t2, e2⟩ := m_rimOf_one s hs k hk hk1 i c5 t1 l1 g1
      have hq := Nat.lt_of_lt_of_le (qcell_lt s hs k hk i c5) (qS_le s hs)
      exact ⟨_, _, _, _, _, _, by unfold f_X9_height; rw [h1, pb1, if_neg i10, if_neg c1, if_pos c2, if_pos c3, k_cellOf_in s hs k hk hk1 i c5, pb1, if_pos (nI_pos' (by omega)), k_heightBy s hs _ hq, pb1], by unfold f_X10_height; rw [h2, pb1, if_neg i10, if_neg c1, if_pos c2, if_pos c3, e1, pb4, if_neg i10, e2, pb4], Rl0_mk hc hm hrf hkn hle hli hsu⟩
    · obtain ⟨t1, l1, g1, e1⟩ := m_isRim_out hs hk hk1 (Nat.le_of_not_lt c5) hi v10_tried v10_left v10_high
      exact ⟨_, _, _, _, _, _, by unfold f_X9_height; rw [h1, pb1, if_neg i10, if_neg c1, if_pos c2, if_pos c3, k_cellOf_out hs hk hk1 (Nat.le_of_not_lt c5) hi, pb1, if_neg (by decide)], by unfold f_X10_height; rw [h2, pb1, if_neg i10, if_neg c1, if_pos c2, if_pos c3, e1, pb4, if_pos rfl], Rl0_mk hc hm hrf hkn hle hli hsu⟩
  · obtain ⟨a', b', e1, e2, hrf'⟩ := rf_1 hrf (-1) (by decide)
    exact ⟨_, _, _, _, _, _, by unfold f_X9_height; rw [h1, pb1, if_pos rfl, e1, pb2], by unfold f_X10_height; rw [h2, pb1, if_pos rfl, e2, pb2], Rl0_mk hc hm hrf' hkn hle hli hsu⟩
