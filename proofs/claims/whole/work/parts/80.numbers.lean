/-! numbers -/
theorem shp : ∀ s, s < 67 → qz_S s < 9 ∧ qz_D (qz_S s) ≤ s ∧ s < qz_D (qz_S s) + qz_N (qz_S s) := by decide +kernel
theorem shD : ∀ n, n < 9 → ∀ p, p < qz_N n → qz_D n + p < 67 ∧ qz_S (qz_D n + p) = n := by decide +kernel
theorem qN_le : ∀ n, n < 9 → qz_N n ≤ 22 := by decide +kernel
theorem k_atPlace : ∀ s, s < 67 → ∀ p, p < 22 → f_X1_atPlace tz_C (nI s) (nI p) = some (tz_C (22 * s + p)) := by decide +kernel
theorem k_fact : ∀ n, n < 9 → f_X7_factorial (nI n) = some (xi_FACTORIALS n) := by decide +kernel
theorem fact_pos : ∀ n, n < 9 → ¬ xi_FACTORIALS n ≤ 0 ∧ ¬ (xi_FACTORIALS n).toInt64 = 0 := by decide +kernel
theorem mC : ∀ s, s < 67 → ∀ p, p < qz_N (qz_S s) → tz_M (67 * s + (qz_D (qz_S s) + p)) = tz_C (22 * s + p) := by decide +kernel
theorem k_worked {n i j k : Nat} (hn : n < 9) (hi : i < qz_N n) (hj : j < qz_N n) (hk : k < qz_N n) : f_X5_workedOut tz_O tz_C (nI n) (nI i) (nI j) (nI k) = some (nuV n i j k) := by
  have hN := qN_le n hn
  have key : ∀ (d f p : Nat), p + d = qz_N n → d < f → f_X5_workedOut_16 tz_O tz_C f (nI n) (nI i) (nI j) (nI k) (nI (qz_D n)) (nuS n i j k p) (nI p) = some (nuV n i j k) := by
    intro d
    induction d with
    | zero =>
      intro f p hp hf
      obtain ⟨f, rfl⟩ : ∃ q, f = q + 1 := ⟨f - 1, by omega⟩
      obtain rfl : p = qz_N n := by omega
      show gf_X5_workedOut_16 (f_X5_workedOut_16 tz_O tz_C f) tz_O tz_C (nI n) (nI i) (nI j) (nI k) (nI (qz_D n)) (nuS n i j k (qz_N n)) (nI (qz_N n)) = _
      unfold gf_X5_workedOut_16
      rw [k_countOf n hn, pb1, if_pos (Int32.le_refl _), k_fact n hn, pb1, if_neg (fact_pos n hn).1]
      unfold p_nzl
      rw [if_neg (fact_pos n hn).2]
      rfl
    | succ d ih =>
      intro f p hp hf
      obtain ⟨f, rfl⟩ : ∃ q, f = q + 1 := ⟨f - 1, by omega⟩
      have hDp := (shD n hn p (by omega)).1
      show gf_X5_workedOut_16 (f_X5_workedOut_16 tz_O tz_C f) tz_O tz_C (nI n) (nI i) (nI j) (nI k) (nI (qz_D n)) (nuS n i j k p) (nI p) = _
      unfold gf_X5_workedOut_16
      rw [k_countOf n hn, pb1, if_neg (nI_ge (by omega) (by omega)), nI_add, nI_add, nI_add, nI_add, k_ordersOf _ hDp, pb1, k_atPlace _ (shD n hn i hi).1 p (by omega), pb1, k_atPlace _ (shD n hn j hj).1 p (by omega), pb1, k_atPlace _ (shD n hn k hk).1 p (by omega), pb1, show nI p + (1 : Int32) = nI (p + 1) from nI_1 p]
      exact ih f (p + 1) (by omega) (by omega)
  unfold f_X5_workedOut
  rw [k_firstOf n hn, pb1]
  exact key (qz_N n) 1000 0 (by omega) (by omega)
theorem m_number {n i j k : Nat} (hn : n < 9) (hi : i < qz_N n) (hj : j < qz_N n) (hk : k < qz_N n) : f_X10_numberOf tz_D tz_S tz_L tz_R tz_M (nI (qz_D n + i)) (nI (qz_D n + j)) (nI (qz_D n + k)) = some (nuV n i j k) := by
  have hN := qN_le n hn
  obtain ⟨hD, hD2⟩ := qD_step n hn
  obtain ⟨a1, a2⟩ := shD n hn i hi
  obtain ⟨b1, b2⟩ := shD n hn j hj
  obtain ⟨c1, c2⟩ := shD n hn k hk
  have key : ∀ (d f p : Nat), p + d = qz_N n → d < f → f_X10_numberOf_20 tz_D tz_S tz_L tz_R tz_M f (nI (qz_D n + i)) (nI (qz_D n + j)) (nI (qz_D n + k)) (nI n) (nuS n i j k p) (nI (qz_D n + p)) = some (nuV n i j k) := by
    intro d
    induction d with
    | zero =>
      intro f p hp hf
      obtain ⟨f, rfl⟩ : ∃ q, f = q + 1 := ⟨f - 1, by omega⟩
      obtain rfl : p = qz_N n := by omega
      show gf_X10_numberOf_20 (f_X10_numberOf_20 tz_D tz_S tz_L tz_R tz_M f) tz_D tz_S tz_L tz_R tz_M (nI (qz_D n + i)) (nI (qz_D n + j)) (nI (qz_D n + k)) (nI n) (nuS n i j k (qz_N n)) (nI (qz_D n + qz_N n)) = _
      unfold gf_X10_numberOf_20
      rw [show nI n + (1 : Int32) = nI (n + 1) from nI_1 n, pinn (by omega) (by decide), nI_c (n + 1) (by omega), if_pos (show tz_D (n + 1) ≤ nI (qz_D n + qz_N n) from nI_le (by omega) (by omega)), m_times n hn, pb1]
      unfold p_nzl
      rw [if_neg (fact_pos n hn).2]
      rfl
    | succ d ih =>
      intro f p hp hf
      obtain ⟨f, rfl⟩ : ∃ q, f = q + 1 := ⟨f - 1, by omega⟩
      have hDp := (shD n hn p (by omega)).1
      show gf_X10_numberOf_20 (f_X10_numberOf_20 tz_D tz_S tz_L tz_R tz_M f) tz_D tz_S tz_L tz_R tz_M (nI (qz_D n + i)) (nI (qz_D n + j)) (nI (qz_D n + k)) (nI n) (nuS n i j k p) (nI (qz_D n + p)) = _
      unfold gf_X10_numberOf_20
      rw [show nI n + (1 : Int32) = nI (n + 1) from nI_1 n, pinn (by omega) (by decide), nI_c (n + 1) (by omega), if_neg (show ¬ tz_D (n + 1) ≤ nI (qz_D n + p) from nI_ge (by omega) (by omega)), m_ordersOf _ hDp, pb1, idx67, idx67, idx67, pinn (by omega) (by decide), pinn (by omega) (by decide), pinn (by omega) (by decide), nI_c _ (by omega), nI_c _ (by omega), nI_c _ (by omega), show nI (qz_D n + p) + (1 : Int32) = nI (qz_D n + (p + 1)) from nI_1 _]
      have e1 := mC _ a1 p (by rw [a2]; omega)
      have e2 := mC _ b1 p (by rw [b2]; omega)
      have e3 := mC _ c1 p (by rw [c2]; omega)
      rw [a2] at e1
      rw [b2] at e2
      rw [c2] at e3
      rw [e1, e2, e3]
      exact ih f (p + 1) (by omega) (by omega)
  unfold f_X10_numberOf
  rw [pinn a1 (by decide), nI_c _ (by omega), show tz_S (qz_D n + i) = nI n by unfold tz_S; rw [a2], pinn (by omega) (by decide), nI_c n (by omega)]
  exact key (qz_N n) 1000 0 (by omega) (by omega)
/-- the order of the three doesn't count -/
theorem nuT_12 (n i j k p : Nat) : nuT n i j k p = nuT n j i k p := by
  unfold nuT
  rw [Int64.mul_assoc (tz_O (qz_D n + p)).toInt64, Int64.mul_comm (tz_C (22 * (qz_D n + i) + p)).toInt64, ← Int64.mul_assoc]
theorem nuT_23 (n i j k p : Nat) : nuT n i j k p = nuT n i k j p := by
  unfold nuT
  rw [Int64.mul_assoc, Int64.mul_comm (tz_C (22 * (qz_D n + j) + p)).toInt64, ← Int64.mul_assoc]
theorem nuS_12 (n i j k : Nat) : ∀ p, nuS n i j k p = nuS n j i k p
  | 0 => rfl
  | p + 1 => by show nuS n i j k p + nuT n i j k p = nuS n j i k p + nuT n j i k p; rw [nuS_12 n i j k p, nuT_12]
theorem nuS_23 (n i j k : Nat) : ∀ p, nuS n i j k p = nuS n i k j p
  | 0 => rfl
  | p + 1 => by show nuS n i j k p + nuT n i j k p = nuS n i k j p + nuT n i k j p; rw [nuS_23 n i j k p, nuT_23]
theorem nuV_12 (n i j k : Nat) : nuV n i j k = nuV n j i k := by unfold nuV; rw [nuS_12]
theorem nuV_23 (n i j k : Nat) : nuV n i j k = nuV n i k j := by unfold nuV; rw [nuS_23]
theorem sort3 (i j k : Nat) : (mx3 i j k = i ∧ md3 i j k = j ∧ mn3 i j k = k) ∨ (mx3 i j k = i ∧ md3 i j k = k ∧ mn3 i j k = j) ∨ (mx3 i j k = j ∧ md3 i j k = i ∧ mn3 i j k = k) ∨ (mx3 i j k = j ∧ md3 i j k = k ∧ mn3 i j k = i) ∨ (mx3 i j k = k ∧ md3 i j k = i ∧ mn3 i j k = j) ∨ (mx3 i j k = k ∧ md3 i j k = j ∧ mn3 i j k = i) := by
  unfold md3 mx3 mn3
  omega
theorem ord3 (i j k : Nat) : mn3 i j k ≤ md3 i j k ∧ md3 i j k ≤ mx3 i j k := by
  unfold md3 mx3 mn3
  omega
theorem mx3_lt {i j k N : Nat} (hi : i < N) (hj : j < N) (hk : k < N) : mx3 i j k < N := by unfold mx3; omega
theorem nuV_sort (n i j k : Nat) : nuV n (mx3 i j k) (md3 i j k) (mn3 i j k) = nuV n i j k := by
  rcases sort3 i j k with ⟨a, b, c⟩ | ⟨a, b, c⟩ | ⟨a, b, c⟩ | ⟨a, b, c⟩ | ⟨a, b, c⟩ | ⟨a, b, c⟩ <;> rw [a, b, c]
  · exact nuV_23 n i k j
  · exact nuV_12 n j i k
  · rw [nuV_23 n j k i, nuV_12 n j i k]
  · rw [nuV_12 n k i j, nuV_23 n i k j]
  · rw [nuV_12 n k j i, nuV_23 n j k i, nuV_12 n j i k]
set_option maxRecDepth 100000 in
theorem qidx_inj {n h m l n' h' m' l' : Nat} (hn : n < 9) (hh : h < qz_N n) (hm : m ≤ h) (hl : l ≤ m) (hn' : n' < 9) (hh' : h' < qz_N n') (hm' : m' ≤ h') (hl' : l' ≤ m') (e : qidx n h m l = qidx n' h' m' l') : n = n' ∧ h = h' ∧ m = m' ∧ l = l' := by
  have a := qinv_ok n hn h hh m (by omega) l (by omega)
  have b := qinv_ok n' hn' h' hh' m' (by omega) l' (by omega)
  rw [e, b] at a
  have b1 := qN_le n hn
  have b2 := qN_le n' hn'
  have e0 : n' * 32768 + h' * 1024 + m' * 32 + l' = n * 32768 + h * 1024 + m * 32 + l := a
  have key : ∀ (x y r r' K : Nat), r < K → r' < K → y * K + r' = x * K + r → x = y ∧ r = r' := by
    intro x y r r' K hr hr' e
    have q1 : (y * K + r') / K = y := by rw [Nat.mul_comm, Nat.mul_add_div (by omega), Nat.div_eq_of_lt hr', Nat.add_zero]
    have q2 : (x * K + r) / K = x := by rw [Nat.mul_comm, Nat.mul_add_div (by omega), Nat.div_eq_of_lt hr, Nat.add_zero]
    rw [e, q2] at q1
    subst q1
    exact ⟨rfl, by omega⟩
  obtain ⟨k1, r1⟩ := key n n' (h * 1024 + (m * 32 + l)) (h' * 1024 + (m' * 32 + l')) 32768 (by omega) (by omega) (by omega)
  obtain ⟨k2, r2⟩ := key h h' (m * 32 + l) (m' * 32 + l') 1024 (by omega) (by omega) (by omega)
  obtain ⟨k3, r3⟩ := key m m' l l' 32 (by omega) (by omega) (by omega)
  exact ⟨k1, k2, k3, r3⟩
theorem k_atPlaces {n i j k : Nat} (hn : n < 9) (hi : i < qz_N n) (hj : j < qz_N n) (hk : k < qz_N n) {known : Nat → Int32} (hkn : Kn known) : ∃ known', f_X5_atPlaces tz_O tz_C known (nI n) (nI i) (nI j) (nI k) = some (nuV n i j k, known') ∧ Kn known' := by
  have e0 := k_index n hn i hi j hj k hk
  obtain ⟨o1, o2⟩ := ord3 i j k
  have hx := mx3_lt hi hj hk
  have hlt := qidx_lt n hn _ hx (md3 i j k) (by omega) (mn3 i j k) (by omega)
  have hv := hkn n hn _ hx _ o2 _ o1
  have hs := nuV_sort n i j k
  unfold f_X5_atPlaces f_X5_atPlaces_54
  rw [e0, pb1, if_neg (nI_pos (by omega)), if_pos (show nI (qidx n (mx3 i j k) (md3 i j k) (mn3 i j k)) < (3125 : Int32) from nI_lt (b := 3125) hlt (by decide)), pinn hlt (by decide), nI_c _ (by omega)]
  by_cases c : known (qidx n (mx3 i j k) (md3 i j k) (mn3 i j k)) = 0
  · rw [if_pos c, k_worked hn hi hj hk, pb1, pinn hlt (by decide), pinn hlt (by decide)]
    refine ⟨upd known (qidx n (mx3 i j k) (md3 i j k) (mn3 i j k)) (nuV n i j k + 1), ?_, ?_⟩
    · rw [show upd known (qidx n (mx3 i j k) (md3 i j k) (mn3 i j k)) (nuV n i j k + 1) (qidx n (mx3 i j k) (md3 i j k) (mn3 i j k)) = nuV n i j k + 1 from if_pos rfl, Int32.add_sub_cancel]
    · intro n' hn' h' hh' m' hm' l' hl'
      unfold upd
      by_cases e : qidx n' h' m' l' = qidx n (mx3 i j k) (md3 i j k) (mn3 i j k)
      · rw [if_pos e]
        obtain ⟨q1, q2, q3, q4⟩ := qidx_inj hn' hh' hm' hl' hn hx o2 o1 e
        rw [q1, q2, q3, q4, hs]
        exact Or.inr rfl
      · rw [if_neg e]
        exact hkn n' hn' h' hh' m' hm' l' hl'
  · rw [if_neg c, pinn hlt (by decide)]
    rw [hv.resolve_left c, Int32.add_sub_cancel, hs]
    exact ⟨_, rfl, hkn⟩
theorem k_placeN {n i : Nat} (hn : n < 9) (hi : i < qz_N n) : f_X7_placeOf tz_S (nI (qz_D n + i)) = some (nI i) := by
  obtain ⟨a1, a2⟩ := shD n hn i hi
  rw [k_placeOf _ a1, a2, Nat.add_sub_cancel_left]
theorem k_sizeD {n i : Nat} (hn : n < 9) (hi : i < qz_N n) : f_X7_sizeOf tz_S (nI (qz_D n + i)) = some (nI n) := by
  obtain ⟨a1, a2⟩ := shD n hn i hi
  rw [k_sizeN _ a1, a2]
theorem k_at5 {n i j k : Nat} (hn : n < 9) (hi : i < qz_N n) (hj : j < qz_N n) (hk : k < qz_N n) {known : Nat → Int32} (hkn : Kn known) : ∃ known', f_X5_at tz_S tz_O tz_C known (nI (qz_D n + i)) (nI (qz_D n + j)) (nI (qz_D n + k)) = some (nuV n i j k, known') ∧ Kn known' := by
  obtain ⟨known', e, h⟩ := k_atPlaces hn hi hj hk hkn
  refine ⟨known', ?_, h⟩
  unfold f_X5_at
  rw [k_sizeD hn hi, pb1, k_placeN hn hi, pb1, k_placeN hn hj, pb1, k_placeN hn hk, pb1, e, pb2]
theorem k_first5 {n i : Nat} (hn : n < 9) (hi : i < qz_N n) : f_X5_first tz_S (nI (qz_D n + i)) = some (nI (qz_D n)) := by
  unfold f_X5_first
  rw [k_sizeD hn hi, pb1, k_firstOf n hn, pb1]
theorem k_end5 {n i : Nat} (hn : n < 9) (hi : i < qz_N n) : f_X5_end tz_S (nI (qz_D n + i)) = some (nI (qz_D n + qz_N n)) := by
  unfold f_X5_end
  rw [k_first5 hn hi, pb1, k_sizeD hn hi, pb1, k_countOf n hn, pb1, nI_add]
theorem shn {s : Nat} (hs : s < 67) : ∃ n i, n < 9 ∧ i < qz_N n ∧ s = qz_D n + i ∧ qz_S s = n := by
  obtain ⟨h1, h2, h3⟩ := shp s hs
  exact ⟨qz_S s, s - qz_D (qz_S s), h1, by omega, by omega, rfl⟩
theorem m_hinders : ∀ s, s < 67 → ∀ t, t < 67 → f_X10_hinders tz_S (nI s) (nI t) = some (if qz_S s = qz_S t then 0 else -3) := by decide +kernel
set_option maxRecDepth 10000 in
theorem eq_number : EQ_number Rl0 := by
  intro v9_refusals v7_rows v7_lengths v7_sizes v7_rests v7_orders v6_hooks v6_lefts v6_heights v1_table v5_known v8_sizes v8_coefficients v8_undoneSums v8_undos v8_nextUndo v8_imageTaken v0_totals v3_letters v3_count v3_next v3_size v4_values v4_lengths v10_firstOf v10_sizeOf v10_longOf v10_row v10_character v10_sum v10_coefficient v10_undone v10_wasSum v10_wasCoefficient v10_hasImage v10_letter v10_letters v10_list v10_cell v10_refusals v10_tried v10_left v10_high v10_then v10_at v10_readSize hR x1 x2 x3
  obtain ⟨hc, hm, hrf, hkn, hle, hli, hsu⟩ := hR
  have hc1 := hc
  have hm1 := hm
  obtain ⟨rfl, rfl, rfl, rfl, rfl, rfl, rfl, rfl, rfl⟩ := hc1
  obtain ⟨rfl, rfl, rfl, rfl, rfl⟩ := hm1
  have hbad : ∀ r, (r = -1 ∨ r = -3) → ((r = -1 → f_X9_number v9_refusals tz_S tz_O tz_C v5_known x1 x2 x3 = f_X9_number_33 tz_S tz_O tz_C v9_refusals v5_known) ∧ (r = -3 → f_X9_number v9_refusals tz_S tz_O tz_C v5_known x1 x2 x3 = f_X9_number_63 tz_S tz_O tz_C v9_refusals v5_known)) → ((r = -1 → f_X10_number tz_D tz_S tz_L tz_R tz_M v10_refusals x1 x2 x3 = f_X10_number_21 tz_D tz_S tz_L tz_R tz_M v10_refusals) ∧ (r = -3 → f_X10_number tz_D tz_S tz_L tz_R tz_M v10_refusals x1 x2 x3 = f_X10_number_45 tz_D tz_S tz_L tz_R tz_M v10_refusals)) → ∃ ro ov9_refusals ov5_known ov10_refusals, f_X9_number v9_refusals tz_S tz_O tz_C v5_known x1 x2 x3 = some (ro, ov9_refusals, ov5_known) ∧ f_X10_number tz_D tz_S tz_L tz_R tz_M v10_refusals x1 x2 x3 = some (ro, ov10_refusals) ∧ Rf ov9_refusals ov10_refusals ∧ Kn ov5_known := by
    intro r hr g1 g2
    rcases hr with rfl | rfl
    · obtain ⟨a', b', e1, e2, hrf'⟩ := rf_1 hrf (-1) (by decide)
      exact ⟨_, _, _, _, by rw [g1.1 rfl]; unfold f_X9_number_33; rw [e1, pb2], by rw [g2.1 rfl]; unfold f_X10_number_21; rw [e2, pb2], hrf', hkn⟩
    · obtain ⟨a', b', e1, e2, hrf'⟩ := rf_1 hrf (-3) (by decide)
      exact ⟨_, _, _, _, by rw [g1.2 rfl]; unfold f_X9_number_63; rw [e1, pb2], by rw [g2.2 rfl]; unfold f_X10_number_45; rw [e2, pb2], hrf', hkn⟩
  have hall : ∃ ro ov9_refusals ov5_known ov10_refusals, f_X9_number v9_refusals tz_S tz_O tz_C v5_known x1 x2 x3 = some (ro, ov9_refusals, ov5_known) ∧ f_X10_number tz_D tz_S tz_L tz_R tz_M v10_refusals x1 x2 x3 = some (ro, ov10_refusals) ∧ Rf ov9_refusals ov10_refusals ∧ Kn ov5_known := by
    rcases (shx x1).symm with ⟨h1, h2⟩ | ⟨s, hs, rfl, h1, h2⟩
    · exact hbad (-1) (Or.inl rfl) ⟨fun _ => by unfold f_X9_number; rw [h1, pb1, if_pos rfl], fun h => absurd h (by decide)⟩ ⟨fun _ => by unfold f_X10_number; rw [h2, pb1, if_pos rfl], fun h => absurd h (by decide)⟩
    rcases (shx x2).symm with ⟨g1, g2⟩ | ⟨t, ht, rfl, g1, g2⟩
    · exact hbad (-1) (Or.inl rfl) ⟨fun _ => by unfold f_X9_number; rw [h1, pb1, if_neg i10, g1, pb1, if_pos rfl], fun h => absurd h (by decide)⟩ ⟨fun _ => by unfold f_X10_number; rw [h2, pb1, if_neg i10, g2, pb1, if_pos rfl], fun h => absurd h (by decide)⟩
    rcases (shx x3).symm with ⟨f1, f2⟩ | ⟨u, hu, rfl, f1, f2⟩
    · exact hbad (-1) (Or.inl rfl) ⟨fun _ => by unfold f_X9_number; rw [h1, pb1, if_neg i10, g1, pb1, if_neg i10, f1, pb1, if_pos rfl], fun h => absurd h (by decide)⟩ ⟨fun _ => by unfold f_X10_number; rw [h2, pb1, if_neg i10, g2, pb1, if_neg i10, f2, pb1, if_pos rfl], fun h => absurd h (by decide)⟩
    have e3 := k_alike s hs t ht
    have e4 := k_alike s hs u hu
    have m3 := m_hinders s hs t ht
    have m4 := m_hinders s hs u hu
    by_cases c1 : ¬ qz_S s = qz_S t
    · rw [if_neg c1] at e3 m3
      exact hbad (-3) (Or.inr rfl) ⟨fun h => absurd h (by decide), fun _ => by unfold f_X9_number; rw [h1, pb1, if_neg i10, g1, pb1, if_neg i10, f1, pb1, if_neg i10, e3, pb1, if_pos rfl]⟩ ⟨fun h => absurd h (by decide), fun _ => by unfold f_X10_number; rw [h2, pb1, if_neg i10, g2, pb1, if_neg i10, f2, pb1, if_neg i10, m3, pb1, if_pos (by decide)]⟩
    have c1 := Decidable.not_not.mp c1
    rw [if_pos c1] at e3 m3
    by_cases c2 : ¬ qz_S s = qz_S u
    · rw [if_neg c2] at e4 m4
      exact hbad (-3) (Or.inr rfl) ⟨fun h => absurd h (by decide), fun _ => by unfold f_X9_number; rw [h1, pb1, if_neg i10, g1, pb1, if_neg i10, f1, pb1, if_neg i10, e3, pb1, if_neg i10, e4, pb1, if_pos rfl]⟩ ⟨fun h => absurd h (by decide), fun _ => by unfold f_X10_number; rw [h2, pb1, if_neg i10, g2, pb1, if_neg i10, f2, pb1, if_neg i10, m3, pb1, if_neg (by decide), m4, pb1, if_neg (by decide)]⟩
    have c2 := Decidable.not_not.mp c2
    rw [if_pos c2] at e4 m4
    obtain ⟨n, i, hn, hi, es, en⟩ := shn hs
    obtain ⟨n2, j, hn2, hj, et, en2⟩ := shn ht
    obtain ⟨n3, k, hn3, hk, eu, en3⟩ := shn hu
    obtain rfl : n2 = n := by omega
    obtain rfl : n3 = n2 := by omega
    obtain ⟨known', e5, hkn'⟩ := k_at5 hn hi hj hk hkn
    have e6 := m_number hn hi hj hk
    rw [← es, ← et, ← eu] at e5 e6
    exact ⟨_, _, _, _, by unfold f_X9_number; rw [h1, pb1, if_neg i10, g1, pb1, if_neg i10, f1, pb1, if_neg i10, e3, pb1, if_neg i10, e4, pb1, if_neg i10, e5, pb2], by unfold f_X10_number; rw [h2, pb1, if_neg i10, g2, pb1, if_neg i10, f2, pb1, if_neg i10, m3, pb1, if_neg (by decide), m4, pb1, if_pos (by decide), e6, pb1], hrf, hkn'⟩
  obtain ⟨ro, a', k', b', e1, e2, hrf', hkn'⟩ := hall
  exact ⟨ro, a', k', b', e1, e2, Rl0_mk hc hm hrf' hkn' hle hli hsu⟩
