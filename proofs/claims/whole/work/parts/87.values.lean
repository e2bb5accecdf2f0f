theorem ix67 (s t : Nat) : (67 : Int32) * nI s + nI t = nI (67 * s + t) := idx67
set_option maxRecDepth 10000 in
theorem eq_value : EQ_value Rl0 := by
  intro v9_refusals v7_rows v7_lengths v7_sizes v7_rests v7_orders v6_hooks v6_lefts v6_heights v1_table v5_known v8_sizes v8_coefficients v8_undoneSums v8_undos v8_nextUndo v8_imageTaken v0_totals v3_letters v3_count v3_next v3_size v4_values v4_lengths v10_firstOf v10_sizeOf v10_longOf v10_row v10_character v10_sum v10_coefficient v10_undone v10_wasSum v10_wasCoefficient v10_hasImage v10_letter v10_letters v10_list v10_cell v10_refusals v10_tried v10_left v10_high v10_then v10_at v10_readSize hR x1 x2
  obtain ⟨hc, hm, hrf, hkn, hle, hli, hsu⟩ := hR
  have hc1 := hc
  have hm1 := hm
  obtain ⟨rfl, rfl, rfl, rfl, rfl, rfl, rfl, rfl, rfl⟩ := hc1
  obtain ⟨rfl, rfl, rfl, rfl, rfl⟩ := hm1
  obtain ⟨v1, a1, b1, r1, r2, hrf1⟩ := rf_farl hrf (-1) (by decide)
  rcases (six x1).symm with ⟨h1, h2⟩ | ⟨s, hs, rfl, h1, h2⟩
  · exact ⟨_, _, _, by unfold f_X9_value f_X9_value_22; rw [h1, pb1, if_pos rfl, r1, pb2], by unfold f_X10_value f_X10_value_14; rw [h2, pb1, if_pos rfl, r2, pb2], Rl0_mk hc hm hrf1 hkn hle hli hsu⟩
  rcases (shx x2).symm with ⟨f1, f2⟩ | ⟨t, ht, rfl, f1, f2⟩
  · exact ⟨_, _, _, by unfold f_X9_value f_X9_value_22; rw [h1, pb1, if_neg i10, f1, pb1, if_pos rfl, r1, pb2], by unfold f_X10_value f_X10_value_14; rw [h2, pb1, if_neg i10, f2, pb1, if_pos rfl, r2, pb2], Rl0_mk hc hm hrf1 hkn hle hli hsu⟩
  obtain ⟨e0, ⟨e1, hz⟩ | ⟨n, hn, e1, q2, q3, q4⟩⟩ := hsu.1 s hs
  · exact ⟨_, _, _, by unfold f_X9_value; rw [h1, pb1, if_neg i10, f1, pb1, if_neg i10, k_miss81 hs e1, pb1, if_neg i10], by unfold f_X10_value; rw [h2, pb1, if_neg i10, f2, pb1, if_neg i10, pinn hs (by decide), nI_c s (by omega), ← e0, e1, if_neg le_m1], Rl0_mk hc hm hrf hkn hle hli hsu⟩
  have es : v10_sum s = nI n := by rw [← e0, e1]
  have hN := qN_le n hn
  have hq9 := qS_16 t ht
  by_cases c : ¬ qz_S t = n
  · obtain ⟨v3, a3, b3, u1, u2, hrf3⟩ := rf_farl hrf (-3) (by decide)
    have c2 : ¬ nI (qz_S t) = nI n := fun h => c ((nI_eq (by omega) (by omega)).mp h)
    exact ⟨_, _, _, by unfold f_X9_value; rw [h1, pb1, if_neg i10, f1, pb1, if_neg i10, k_miss80 hs hn e1, pb1, if_pos rfl, k_sizeN t ht, pb1, k_size8 hs, pb1, e1, if_neg c2, u1, pb2], by unfold f_X10_value; rw [h2, pb1, if_neg i10, f2, pb1, if_neg i10, pinn hs (by decide), nI_c s (by omega), es, if_pos (nI_pos' (by omega)), pinn ht (by decide), nI_c t (by omega), pinn hs (by decide), show tz_S t = nI (qz_S t) from rfl, if_neg c2, u2, pb2], Rl0_mk hc hm hrf3 hkn hle hli hsu⟩
  have c := Decidable.not_not.mp c
  have c2 : nI (qz_S t) = nI n := by rw [c]
  have key : ∀ (d f g p : Nat) (v : Int64), p + d = qz_N n → d < f → d < g → ∃ r, f_X0_valueAt_25 tz_S tz_C v8_sizes v8_coefficients f (nI s) (nI t) (nI n) (nI (qz_D n)) v (nI p) = some r ∧ f_X10_value_60 tz_D tz_S tz_M v10_sum v10_coefficient g v10_refusals (nI s) (nI t) v (nI p) = some (r, v10_refusals) := by
    intro d
    induction d with
    | zero =>
      intro f g p v hp hf hg
      obtain ⟨f, rfl⟩ : ∃ z, f = z + 1 := ⟨f - 1, by omega⟩
      obtain ⟨g, rfl⟩ : ∃ z, g = z + 1 := ⟨g - 1, by omega⟩
      obtain rfl : p = qz_N n := by omega
      refine ⟨v, ?_, ?_⟩
      · show gf_X0_valueAt_25 (f_X0_valueAt_25 tz_S tz_C v8_sizes v8_coefficients f) tz_S tz_C v8_sizes v8_coefficients (nI s) (nI t) (nI n) (nI (qz_D n)) v _ = _
        unfold gf_X0_valueAt_25
        rw [k_countOf n hn, pb1, if_pos (Int32.le_refl _)]
      · show gf_X10_value_60 (f_X10_value_60 tz_D tz_S tz_M v10_sum v10_coefficient g) tz_D tz_S tz_M v10_sum v10_coefficient v10_refusals (nI s) (nI t) v _ = _
        unfold gf_X10_value_60
        rw [pinn hs (by decide), nI_c s (by omega), es, m_manyOf n hn, pb1, if_pos (Int32.le_refl _)]
    | succ d ih =>
      intro f g p v hp hf hg
      obtain ⟨f, rfl⟩ : ∃ z, f = z + 1 := ⟨f - 1, by omega⟩
      obtain ⟨g, rfl⟩ : ∃ z, g = z + 1 := ⟨g - 1, by omega⟩
      obtain ⟨a1, a2⟩ := shD n hn p (by omega)
      obtain ⟨r, e5, e6⟩ := ih f g (p + 1) (v + (v8_coefficients (22 * s + p)).toInt64 * (tz_M (67 * (qz_D n + p) + t)).toInt64) (by omega) (by omega) (by omega)
      have e7 := (k_atM _ a1 t ht).resolve_left (fun h => h (by rw [a2, c]))
      refine ⟨r, ?_, ?_⟩
      · show gf_X0_valueAt_25 (f_X0_valueAt_25 tz_S tz_C v8_sizes v8_coefficients f) tz_S tz_C v8_sizes v8_coefficients (nI s) (nI t) (nI n) (nI (qz_D n)) v _ = _
        unfold gf_X0_valueAt_25
        rw [k_countOf n hn, pb1, if_neg (nI_ge (by omega) (by omega)), k_at8 hs (by omega), pb1, nI_add, e7, pb1, show nI p + (1 : Int32) = nI (p + 1) from nI_1 p]
        exact e5
      · show gf_X10_value_60 (f_X10_value_60 tz_D tz_S tz_M v10_sum v10_coefficient g) tz_D tz_S tz_M v10_sum v10_coefficient v10_refusals (nI s) (nI t) v _ = _
        unfold gf_X10_value_60
        rw [pinn hs (by decide), nI_c s (by omega), es, m_manyOf n hn, pb1, if_neg (nI_ge (by omega) (by omega)), ix22m, pinn (by omega) (by decide), pinn hs (by decide), pinn (by omega) (by decide), nI_c n (by omega), show tz_D n = nI (qz_D n) from rfl, nI_add, ix67, pinn (by omega) (by decide), nI_c (22 * s + p) (by omega), nI_c (67 * (qz_D n + p) + t) (by omega), ← q2 p (by omega), show nI p + (1 : Int32) = nI (p + 1) from nI_1 p]
        exact e6
  obtain ⟨r, e5, e6⟩ := key (qz_N n) 1000 1000 0 0 (by omega) (by omega) (by omega)
  exact ⟨_, _, _, by unfold f_X9_value f_X0_valueAt; rw [h1, pb1, if_neg i10, f1, pb1, if_neg i10, k_miss80 hs hn e1, pb1, if_pos rfl, k_sizeN t ht, pb1, k_size8 hs, pb1, e1, if_pos c2, pb1, k_firstOf n hn, pb1, show (0 : Int32) = nI 0 from rfl, e5, pb1], by unfold f_X10_value; rw [h2, pb1, if_neg i10, f2, pb1, if_neg i10, pinn hs (by decide), nI_c s (by omega), es, if_pos (nI_pos' (by omega)), pinn ht (by decide), nI_c t (by omega), pinn hs (by decide), show tz_S t = nI (qz_S t) from rfl, if_pos c2]; exact e6, Rl0_mk hc hm hrf hkn hle hli hsu⟩
set_option maxRecDepth 10000 in
theorem eq_inner : EQ_inner Rl0 := by
  intro v9_refusals v7_rows v7_lengths v7_sizes v7_rests v7_orders v6_hooks v6_lefts v6_heights v1_table v5_known v8_sizes v8_coefficients v8_undoneSums v8_undos v8_nextUndo v8_imageTaken v0_totals v3_letters v3_count v3_next v3_size v4_values v4_lengths v10_firstOf v10_sizeOf v10_longOf v10_row v10_character v10_sum v10_coefficient v10_undone v10_wasSum v10_wasCoefficient v10_hasImage v10_letter v10_letters v10_list v10_cell v10_refusals v10_tried v10_left v10_high v10_then v10_at v10_readSize hR x1 x2
  obtain ⟨hc, hm, hrf, hkn, hle, hli, hsu⟩ := hR
  have hc1 := hc
  have hm1 := hm
  obtain ⟨rfl, rfl, rfl, rfl, rfl, rfl, rfl, rfl, rfl⟩ := hc1
  obtain ⟨rfl, rfl, rfl, rfl, rfl⟩ := hm1
  obtain ⟨v1, a1, b1, r1, r2, hrf1⟩ := rf_farl hrf (-1) (by decide)
  rcases (six x1).symm with ⟨h1, h2⟩ | ⟨s, hs, rfl, h1, h2⟩
  · exact ⟨_, _, _, by unfold f_X9_inner f_X9_inner_22; rw [h1, pb1, if_pos rfl, r1, pb2], by unfold f_X10_inner f_X10_inner_14; rw [h2, pb1, if_pos rfl, r2, pb2], Rl0_mk hc hm hrf1 hkn hle hli hsu⟩
  rcases (six x2).symm with ⟨f1, f2⟩ | ⟨t, ht, rfl, f1, f2⟩
  · exact ⟨_, _, _, by unfold f_X9_inner f_X9_inner_22; rw [h1, pb1, if_neg i10, f1, pb1, if_pos rfl, r1, pb2], by unfold f_X10_inner f_X10_inner_14; rw [h2, pb1, if_neg i10, f2, pb1, if_pos rfl, r2, pb2], Rl0_mk hc hm hrf1 hkn hle hli hsu⟩
  obtain ⟨e0, ⟨e1, hz⟩ | ⟨n, hn, e1, q2, q3, q4⟩⟩ := hsu.1 s hs
  · exact ⟨_, _, _, by unfold f_X9_inner; rw [h1, pb1, if_neg i10, f1, pb1, if_neg i10, k_miss81 hs e1, pb1, if_neg i10], by unfold f_X10_inner; rw [h2, pb1, if_neg i10, f2, pb1, if_neg i10, pinn hs (by decide), nI_c s (by omega), ← e0, e1, if_pos (by decide)], Rl0_mk hc hm hrf hkn hle hli hsu⟩
  have es : v10_sum s = nI n := by rw [← e0, e1]
  obtain ⟨g0, ⟨g1, hz'⟩ | ⟨n', hn', g1, w2, w3, w4⟩⟩ := hsu.1 t ht
  · exact ⟨_, _, _, by unfold f_X9_inner; rw [h1, pb1, if_neg i10, f1, pb1, if_neg i10, k_miss80 hs hn e1, pb1, if_pos rfl, k_miss81 ht g1, pb1, if_neg i10], by unfold f_X10_inner; rw [h2, pb1, if_neg i10, f2, pb1, if_neg i10, pinn hs (by decide), nI_c s (by omega), es, if_neg (nI_pos (by omega)), pinn ht (by decide), nI_c t (by omega), ← g0, g1, if_neg le_m1], Rl0_mk hc hm hrf hkn hle hli hsu⟩
  have et : v10_sum t = nI n' := by rw [← g0, g1]
  have hN := qN_le n hn
  by_cases c : ¬ n = n'
  · obtain ⟨v3, a3, b3, u1, u2, hrf3⟩ := rf_farl hrf (-3) (by decide)
    have c2 : ¬ nI n = nI n' := fun h => c ((nI_eq (by omega) (by omega)).mp h)
    exact ⟨_, _, _, by unfold f_X9_inner; rw [h1, pb1, if_neg i10, f1, pb1, if_neg i10, k_miss80 hs hn e1, pb1, if_pos rfl, k_miss80 ht hn' g1, pb1, if_pos rfl, k_size8 hs, pb1, k_size8 ht, pb1, e1, g1, if_neg c2, u1, pb2], by unfold f_X10_inner; rw [h2, pb1, if_neg i10, f2, pb1, if_neg i10, pinn hs (by decide), nI_c s (by omega), es, if_neg (nI_pos (by omega)), pinn ht (by decide), nI_c t (by omega), et, if_pos (nI_pos' (by omega)), pinn hs (by decide), pinn ht (by decide), if_neg c2, u2, pb2], Rl0_mk hc hm hrf3 hkn hle hli hsu⟩
  have c := Decidable.not_not.mp c
  subst c
  have tail : ∀ (d f p : Nat) (v : Int64), p + d = 22 → qz_N n ≤ p → d < f → f_X0_innerOf_5 v8_coefficients f (nI s) (nI t) v (nI p) = some v := by
    intro d
    induction d with
    | zero =>
      intro f p v hp hNp hf
      obtain ⟨f, rfl⟩ : ∃ z, f = z + 1 := ⟨f - 1, by omega⟩
      obtain rfl : p = 22 := by omega
      show gf_X0_innerOf_5 (f_X0_innerOf_5 v8_coefficients f) v8_coefficients (nI s) (nI t) v _ = _
      unfold gf_X0_innerOf_5
      rw [if_pos (by decide)]
    | succ d ih =>
      intro f p v hp hNp hf
      obtain ⟨f, rfl⟩ : ∃ z, f = z + 1 := ⟨f - 1, by omega⟩
      show gf_X0_innerOf_5 (f_X0_innerOf_5 v8_coefficients f) v8_coefficients (nI s) (nI t) v _ = _
      unfold gf_X0_innerOf_5
      rw [if_neg (show ¬ (22 : Int32) ≤ nI p from nI_ge (a := p) (b := 22) (by omega) (by decide)), k_at8 hs (by omega), pb1, k_at8 ht (by omega), pb1, q3 p hNp (by omega), w3 p hNp (by omega), show v + Int32.toInt64 0 * Int32.toInt64 0 = v by rw [show Int32.toInt64 0 * Int32.toInt64 0 = 0 by decide, Int64.add_zero], show nI p + (1 : Int32) = nI (p + 1) from nI_1 p]
      exact ih f (p + 1) v (by omega) (by omega) (by omega)
  have key : ∀ (d f g p : Nat) (v : Int64), p + d = qz_N n → 30 < f + p → d < g → ∃ r, f_X0_innerOf_5 v8_coefficients f (nI s) (nI t) v (nI p) = some r ∧ f_X10_inner_69 tz_D v10_sum v10_coefficient g v10_refusals (nI s) (nI t) v (nI p) = some (r, v10_refusals) := by
    intro d
    induction d with
    | zero =>
      intro f g p v hp hf hg
      obtain ⟨g, rfl⟩ : ∃ z, g = z + 1 := ⟨g - 1, by omega⟩
      refine ⟨v, tail (22 - p) f p v (by omega) (by omega) (by omega), ?_⟩
      obtain rfl : p = qz_N n := by omega
      show gf_X10_inner_69 (f_X10_inner_69 tz_D v10_sum v10_coefficient g) tz_D v10_sum v10_coefficient v10_refusals (nI s) (nI t) v _ = _
      unfold gf_X10_inner_69
      rw [pinn hs (by decide), nI_c s (by omega), es, m_manyOf n hn, pb1, if_pos (Int32.le_refl _)]
    | succ d ih =>
      intro f g p v hp hf hg
      obtain ⟨f, rfl⟩ : ∃ z, f = z + 1 := ⟨f - 1, by omega⟩
      obtain ⟨g, rfl⟩ : ∃ z, g = z + 1 := ⟨g - 1, by omega⟩
      obtain ⟨r, e5, e6⟩ := ih f g (p + 1) (v + (v8_coefficients (22 * s + p)).toInt64 * (v8_coefficients (22 * t + p)).toInt64) (by omega) (by omega) (by omega)
      refine ⟨r, ?_, ?_⟩
      · show gf_X0_innerOf_5 (f_X0_innerOf_5 v8_coefficients f) v8_coefficients (nI s) (nI t) v _ = _
        unfold gf_X0_innerOf_5
        rw [if_neg (show ¬ (22 : Int32) ≤ nI p from nI_ge (a := p) (b := 22) (by omega) (by decide)), k_at8 hs (by omega), pb1, k_at8 ht (by omega), pb1, show nI p + (1 : Int32) = nI (p + 1) from nI_1 p]
        exact e5
      · show gf_X10_inner_69 (f_X10_inner_69 tz_D v10_sum v10_coefficient g) tz_D v10_sum v10_coefficient v10_refusals (nI s) (nI t) v _ = _
        unfold gf_X10_inner_69
        rw [pinn hs (by decide), nI_c s (by omega), es, m_manyOf n hn, pb1, if_neg (nI_ge (by omega) (by omega)), ix22m, ix22m, pinn (by omega) (by decide), pinn (by omega) (by decide), nI_c (22 * s + p) (by omega), nI_c (22 * t + p) (by omega), ← q2 p (by omega), ← w2 p (by omega), show nI p + (1 : Int32) = nI (p + 1) from nI_1 p]
        exact e6
  obtain ⟨r, e5, e6⟩ := key (qz_N n) 1000 1000 0 0 (by omega) (by omega) (by omega)
  exact ⟨_, _, _, by unfold f_X9_inner f_X0_innerOf; rw [h1, pb1, if_neg i10, f1, pb1, if_neg i10, k_miss80 hs hn e1, pb1, if_pos rfl, k_miss80 ht hn' g1, pb1, if_pos rfl, k_size8 hs, pb1, k_size8 ht, pb1, e1, g1, if_pos rfl, show (0 : Int32) = nI 0 from rfl, e5, pb1], by unfold f_X10_inner; rw [h2, pb1, if_neg i10, f2, pb1, if_neg i10, pinn hs (by decide), nI_c s (by omega), es, if_neg (nI_pos (by omega)), pinn ht (by decide), nI_c t (by omega), et, if_pos (nI_pos' (by omega)), pinn hs (by decide), pinn ht (by decide), if_pos rfl]; exact e6, Rl0_mk hc hm hrf hkn hle hli hsu⟩
theorem there_eq {sizes sum : Nat → Int32} (h : ∀ s, s < 4 → sizes s = sum s ∧ (sizes s = -1 ∨ ∃ n, n < 9 ∧ sizes s = nI n)) : ∃ v, f_X8_howMany sizes = some v ∧ f_X10_there sum = some v := by
  have key : ∀ (d f g p : Nat) (v : Int32), p + d = 4 → d < f → d < g → ∃ r, f_X8_howMany_4 sizes f v (nI p) = some r ∧ f_X10_there_4 sum g v (nI p) = some r := by
    intro d
    induction d with
    | zero =>
      intro f g p v hp hf hg
      obtain ⟨f, rfl⟩ : ∃ z, f = z + 1 := ⟨f - 1, by omega⟩
      obtain ⟨g, rfl⟩ : ∃ z, g = z + 1 := ⟨g - 1, by omega⟩
      obtain rfl : p = 4 := by omega
      refine ⟨v, ?_, ?_⟩
      · show gf_X8_howMany_4 (f_X8_howMany_4 sizes f) sizes v _ = _
        unfold gf_X8_howMany_4
        rw [if_pos (by decide)]
      · show gf_X10_there_4 (f_X10_there_4 sum g) sum v _ = _
        unfold gf_X10_there_4
        rw [if_pos (by decide)]
    | succ d ih =>
      intro f g p v hp hf hg
      obtain ⟨f, rfl⟩ : ∃ z, f = z + 1 := ⟨f - 1, by omega⟩
      obtain ⟨g, rfl⟩ : ∃ z, g = z + 1 := ⟨g - 1, by omega⟩
      have h4 : ¬ (4 : Int32) ≤ nI p := nI_ge (a := p) (b := 4) (by omega) (by decide)
      obtain ⟨e0, e1 | ⟨n, hn, e1⟩⟩ := h p (by omega)
      · obtain ⟨r, e5, e6⟩ := ih f g (p + 1) v (by omega) (by omega) (by omega)
        refine ⟨r, ?_, ?_⟩
        · show gf_X8_howMany_4 (f_X8_howMany_4 sizes f) sizes v _ = _
          unfold gf_X8_howMany_4
          rw [if_neg h4, k_miss81 (by omega) e1, pb1, if_neg i10, show nI p + (1 : Int32) = nI (p + 1) from nI_1 p]
          exact e5
        · show gf_X10_there_4 (f_X10_there_4 sum g) sum v _ = _
          unfold gf_X10_there_4 f_X10_there_24
          rw [if_neg h4, pinn (by omega) (by decide), nI_c p (by omega), ← e0, e1, if_pos (by decide), Int32.add_zero, show nI p + (1 : Int32) = nI (p + 1) from nI_1 p]
          exact e6
      · obtain ⟨r, e5, e6⟩ := ih f g (p + 1) (v + 1) (by omega) (by omega) (by omega)
        refine ⟨r, ?_, ?_⟩
        · show gf_X8_howMany_4 (f_X8_howMany_4 sizes f) sizes v _ = _
          unfold gf_X8_howMany_4
          rw [if_neg h4, k_miss80 (by omega) hn e1, pb1, if_pos rfl, show nI p + (1 : Int32) = nI (p + 1) from nI_1 p]
          exact e5
        · show gf_X10_there_4 (f_X10_there_4 sum g) sum v _ = _
          unfold gf_X10_there_4 f_X10_there_24
          rw [if_neg h4, pinn (by omega) (by decide), nI_c p (by omega), ← e0, e1, if_neg (nI_pos (by omega)), show nI p + (1 : Int32) = nI (p + 1) from nI_1 p]
          exact e6
  exact key 4 1000 1000 0 0 (by omega) (by omega) (by omega)
theorem Rs_sizes {sizes coefs sum coefficient : Nat → Int32} (h : ∀ s, s < 4 → Rs1 sizes coefs s sum coefficient s (22 * s)) : ∀ s, s < 4 → sizes s = sum s ∧ (sizes s = -1 ∨ ∃ n, n < 9 ∧ sizes s = nI n) := by
  intro s hs
  obtain ⟨e0, ⟨e1, -⟩ | ⟨n, hn, e1, -⟩⟩ := h s hs
  · exact ⟨e0, Or.inl e1⟩
  · exact ⟨e0, Or.inr ⟨n, hn, e1⟩⟩
theorem all_terms {sizes coefs sum coefficient : Nat → Int32} (h : ∀ s, s < 4 → Rs1 sizes coefs s sum coefficient s (22 * s)) (undone letters : Int32) (rb : Nat → Int32) : ∃ v, f_X8_termsOfAll coefs = some v ∧ f_X10_count_66 tz_D sum coefficient undone letters rb 1000 0 0 = some v := by
  have key : ∀ (d f g p : Nat) (v : Int32), p + d = 4 → d < f → d < g → ∃ r, f_X8_termsOfAll_4 coefs f v (nI p) = some r ∧ f_X10_count_66 tz_D sum coefficient undone letters rb g v (nI p) = some r := by
    intro d
    induction d with
    | zero =>
      intro f g p v hp hf hg
      obtain ⟨f, rfl⟩ : ∃ z, f = z + 1 := ⟨f - 1, by omega⟩
      obtain ⟨g, rfl⟩ : ∃ z, g = z + 1 := ⟨g - 1, by omega⟩
      obtain rfl : p = 4 := by omega
      refine ⟨v, ?_, ?_⟩
      · show gf_X8_termsOfAll_4 (f_X8_termsOfAll_4 coefs f) coefs v _ = _
        unfold gf_X8_termsOfAll_4
        rw [if_pos (by decide)]
      · show gf_X10_count_66 (f_X10_count_66 tz_D sum coefficient undone letters rb g) tz_D sum coefficient undone letters rb v _ = _
        unfold gf_X10_count_66
        rw [if_pos (by decide)]
    | succ d ih =>
      intro f g p v hp hf hg
      obtain ⟨f, rfl⟩ : ∃ z, f = z + 1 := ⟨f - 1, by omega⟩
      obtain ⟨g, rfl⟩ : ∃ z, g = z + 1 := ⟨g - 1, by omega⟩
      have h4 : ¬ (4 : Int32) ≤ nI p := nI_ge (a := p) (b := 4) (by omega) (by decide)
      obtain ⟨t, t1, t2⟩ := terms_eq (show p < 4 by omega) (h p (by omega))
      obtain ⟨r, e5, e6⟩ := ih f g (p + 1) (v + t) (by omega) (by omega) (by omega)
      refine ⟨r, ?_, ?_⟩
      · show gf_X8_termsOfAll_4 (f_X8_termsOfAll_4 coefs f) coefs v _ = _
        unfold gf_X8_termsOfAll_4
        rw [if_neg h4, t1, pb1, show nI p + (1 : Int32) = nI (p + 1) from nI_1 p]
        exact e5
      · show gf_X10_count_66 (f_X10_count_66 tz_D sum coefficient undone letters rb g) tz_D sum coefficient undone letters rb v _ = _
        unfold gf_X10_count_66
        rw [if_neg h4, t2, pb1, show nI p + (1 : Int32) = nI (p + 1) from nI_1 p]
        exact e6
  exact key 4 1000 1000 0 0 (by omega) (by omega) (by omega)
set_option maxRecDepth 10000 in
theorem eq_count : EQ_count Rl0 := by
  intro v9_refusals v7_rows v7_lengths v7_sizes v7_rests v7_orders v6_hooks v6_lefts v6_heights v1_table v5_known v8_sizes v8_coefficients v8_undoneSums v8_undos v8_nextUndo v8_imageTaken v0_totals v3_letters v3_count v3_next v3_size v4_values v4_lengths v10_firstOf v10_sizeOf v10_longOf v10_row v10_character v10_sum v10_coefficient v10_undone v10_wasSum v10_wasCoefficient v10_hasImage v10_letter v10_letters v10_list v10_cell v10_refusals v10_tried v10_left v10_high v10_then v10_at v10_readSize hR x1
  obtain ⟨hc, hm, hrf, hkn, hle, hli, hsu⟩ := hR
  have hc1 := hc
  have hm1 := hm
  obtain ⟨rfl, rfl, rfl, rfl, rfl, rfl, rfl, rfl, rfl⟩ := hc1
  obtain ⟨rfl, rfl, rfl, rfl, rfl⟩ := hm1
  have hsu1 := hsu
  obtain ⟨g1, ⟨u, next, hu, hnx, eu, eud, enx, -⟩, -⟩ := hsu1
  by_cases c1 : (x1 ≤ 10 ∨ (16 : Int32) < x1)
  · have e9 : f_X9_count v9_refusals v8_sizes v8_coefficients v8_undos v3_count x1 = f_X9_count_22 v9_refusals v8_sizes v8_coefficients v8_undos v3_count x1 := by
      unfold f_X9_count
      by_cases c2 : x1 ≤ 10
      · rw [if_pos c2]
      · rw [if_neg c2, if_pos (c1.resolve_left c2)]
    have e10 : f_X10_in x1 11 16 = some 0 := by
      unfold f_X10_in
      by_cases c2 : x1 < 11
      · rw [if_pos c2]
      · rw [if_neg c2]
        rcases c1 with c1 | c1
        · exact absurd (Int32.lt_of_le_of_lt c1 (by decide)) c2
        · rw [if_pos c1]
    rw [e9]
    unfold f_X9_count_22 f_X10_count
    rw [e10, pb1, if_pos rfl]
    by_cases d0 : x1 = 0
    · obtain ⟨v, t1, t2⟩ := there_eq (Rs_sizes g1)
      exact ⟨_, by rw [if_pos d0, t1, pb1], by rw [if_pos d0, t2, pb1], Rl0_mk hc hm hrf hkn hle hli hsu⟩
    rw [if_neg d0, if_neg d0]
    by_cases d1 : x1 = 1
    · exact ⟨_, by unfold f_X3_howMany; rw [if_pos d1, pb1], by rw [if_pos d1, hle.1], Rl0_mk hc hm hrf hkn hle hli hsu⟩
    rw [if_neg d1, if_neg d1]
    by_cases d2 : x1 = 2
    · obtain ⟨v, t1, t2⟩ := all_terms g1 v10_undone v10_letters v10_refusals
      exact ⟨_, by rw [if_pos d2, t1, pb1], by rw [if_pos d2, t2], Rl0_mk hc hm hrf hkn hle hli hsu⟩
    rw [if_neg d2, if_neg d2]
    by_cases d3 : x1 = 3
    · exact ⟨_, by unfold f_X8_howManyUndos; rw [if_pos d3, pb1], by rw [if_pos d3, eu, eud], Rl0_mk hc hm hrf hkn hle hli hsu⟩
    rw [if_neg d3, if_neg d3]
    exact ⟨_, rfl, rfl, Rl0_mk hc hm hrf hkn hle hli hsu⟩
  · have c2 : ¬ x1 ≤ 10 := fun h => c1 (Or.inl h)
    have c3 : ¬ (16 : Int32) < x1 := fun h => c1 (Or.inr h)
    obtain ⟨r, hr, rfl⟩ : ∃ r, r < 7 ∧ x1 = nI (10 + r) := by
      obtain ⟨j, hj, rfl⟩ := nI_of2 (n := 16) (M := 16) (x := x1) (by decide) (fun h => c2 (Int32.le_trans (Int32.le_of_lt h) (by decide))) (Int32.not_lt.mp c3)
      have h10 : 10 ≤ j := by
        rcases Nat.lt_or_ge j 10 with q | q
        · exact absurd (show nI j ≤ 10 from nI_le (b := 10) (by omega) (by decide)) c2
        · exact q
      exact ⟨j - 10, by omega, by rw [Nat.add_sub_cancel' h10]⟩
    have hr1 : 1 ≤ r := by
      rcases Nat.eq_zero_or_pos r with rfl | h
      · exact absurd (by decide) c2
      · exact h
    have e10 : f_X10_in (nI (10 + r)) 11 16 = some 1 := by
      unfold f_X10_in
      rw [if_neg (show ¬ nI (10 + r) < (11 : Int32) from nI_nlt (a := 10 + r) (b := 11) (by omega) (by omega)), if_neg c3]
    have e3 : nI (10 + r) - (10 : Int32) = nI r := by
      rw [show (10 : Int32) = nI 10 from rfl, nI_sub2 (by omega), Nat.add_sub_cancel_left]
    exact ⟨_, by unfold f_X9_count; rw [if_neg c2, if_neg c3, e3, pinn hr (by decide), nI_c r (by omega)], by unfold f_X10_count; rw [e10, pb1, if_neg i10, e3, pinn hr (by decide), nI_c r (by omega), hrf r hr], Rl0_mk hc hm hrf hkn hle hli hsu⟩
