/-! makes -/
theorem bm32 {z : Int} (h1 : -3000000 ≤ z) (h2 : z ≤ 3000000) : z.bmod (2 ^ 32) = z := by
  rw [Int.bmod_def]
  have : z % (2 ^ 32 : Nat) = if 0 ≤ z then z else z + 2 ^ 32 := by
    by_cases c : 0 ≤ z
    · rw [if_pos c]; omega
    · rw [if_neg c]; omega
  rw [this]
  by_cases c : 0 ≤ z
  · rw [if_pos c]; omega
  · rw [if_neg c]; omega
theorem bm64 {z : Int} (h1 : -3000000 ≤ z) (h2 : z ≤ 3000000) : z.bmod (2 ^ 64) = z := by
  rw [Int.bmod_def]
  have : z % (2 ^ 64 : Nat) = if 0 ≤ z then z else z + 2 ^ 64 := by
    by_cases c : 0 ≤ z
    · rw [if_pos c]; omega
    · rw [if_neg c]; omega
  rw [this]
  by_cases c : 0 ≤ z
  · rw [if_pos c]; omega
  · rw [if_neg c]; omega
def Bd (x : Int32) : Prop := ∃ z : Int, -1000000 ≤ z ∧ z ≤ 1000000 ∧ x.toInt = z
theorem add64 {u v : Int32} (hu : Bd u) (hv : Bd v) : (u + (1 : Int32) * v).toInt64 = u.toInt64 + (1 : Int64) * v.toInt64 := by
  obtain ⟨a, a1, a2, ea⟩ := hu
  obtain ⟨b, b1, b2, eb⟩ := hv
  rw [Int32.one_mul, Int64.one_mul]
  apply Int64.toInt_inj.mp
  rw [Int32.toInt_toInt64, Int64.toInt_add, Int32.toInt_add, Int32.toInt_toInt64, Int32.toInt_toInt64, ea, eb, bm32 (by omega) (by omega), bm64 (by omega) (by omega)]
theorem sub64 {u v : Int32} (hu : Bd u) (hv : Bd v) : (u + (-1 : Int32) * v).toInt64 = u.toInt64 + (-1 : Int64) * v.toInt64 := by
  obtain ⟨a, a1, a2, ea⟩ := hu
  obtain ⟨b, b1, b2, eb⟩ := hv
  rw [Int32.neg_mul, Int32.one_mul, Int64.neg_mul, Int64.one_mul]
  apply Int64.toInt_inj.mp
  rw [Int32.toInt_toInt64, Int64.toInt_add, Int32.toInt_add, Int32.toInt_toInt64, Int64.toInt_neg, Int32.toInt_neg, Int32.toInt_toInt64, ea, eb, bm32 (z := -b) (by omega) (by omega), bm32 (by omega) (by omega), bm64 (z := -b) (by omega) (by omega), bm64 (by omega) (by omega)]
theorem k_plus {sizes coefs : Nat → Int32} {a b : Nat} (ha : a < 4) (hb : b < 4) (sg : Int32) (T : Nat → Int64) : ∃ X', f_X0_draftsPlus sizes coefs T (nI a) (nI b) sg = p_b3 (f_X0_draftsTotals sizes coefs X' (sizes a)) (fun r s c => some (r, s, c, X')) ∧ ∀ p, p < 22 → X' p = (coefs (22 * a + p) + sg * coefs (22 * b + p)).toInt64 := by
  have key : ∀ (d f p : Nat) (X : Nat → Int64), p + d = 22 → d < f → (∀ q, q < 22 → X q = if q < p then (coefs (22 * a + q) + sg * coefs (22 * b + q)).toInt64 else 0) → ∃ X', f_X0_draftsPlus_7 f sizes coefs X (nI a) (nI b) sg (nI p) = p_b3 (f_X0_draftsTotals sizes coefs X' (sizes a)) (fun r s c => some (r, s, c, X')) ∧ ∀ p, p < 22 → X' p = (coefs (22 * a + p) + sg * coefs (22 * b + p)).toInt64 := by
    intro d
    induction d with
    | zero =>
      intro f p X hp hf hX
      obtain ⟨f, rfl⟩ : ∃ z, f = z + 1 := ⟨f - 1, by omega⟩
      obtain rfl : p = 22 := by omega
      refine ⟨X, ?_, fun q hq => by rw [hX q hq, if_pos hq]⟩
      show gf_X0_draftsPlus_7 (f_X0_draftsPlus_7 f) sizes coefs X _ _ _ _ = _
      unfold gf_X0_draftsPlus_7
      rw [if_pos (by decide), k_size8 ha, pb1]
    | succ d ih =>
      intro f p X hp hf hX
      obtain ⟨f, rfl⟩ : ∃ z, f = z + 1 := ⟨f - 1, by omega⟩
      obtain ⟨X', e, h⟩ := ih f (p + 1) (vp_updL X p (X p + (coefs (22 * a + p) + sg * coefs (22 * b + p)).toInt64)) (by omega) (by omega) (fun q hq => by
        unfold vp_updL
        by_cases c : q = p
        · subst c
          rw [if_pos rfl, if_pos (show q < q + 1 by omega), hX q hq, if_neg (show ¬ q < q by omega), Int64.zero_add]
        · rw [if_neg c, hX q hq]
          by_cases c2 : q < p
          · rw [if_pos c2, if_pos (show q < p + 1 by omega)]
          · rw [if_neg c2, if_neg (show ¬ q < p + 1 by omega)])
      refine ⟨X', ?_, h⟩
      show gf_X0_draftsPlus_7 (f_X0_draftsPlus_7 f) sizes coefs X _ _ _ _ = _
      unfold gf_X0_draftsPlus_7
      rw [if_neg (show ¬ (22 : Int32) ≤ nI p from nI_ge (a := p) (b := 22) (by omega) (by decide)), k_at8 ha (by omega), pb1, k_at8 hb (by omega), pb1, k_add (by omega), pb1, show nI p + (1 : Int32) = nI (p + 1) from nI_1 p]
      exact e
  obtain ⟨T0, e0, h0⟩ := k_beg0 T
  obtain ⟨X', e, h⟩ := key 22 1000 0 T0 (by omega) (by omega) (fun q hq => by rw [if_neg (by omega)]; exact h0 q hq)
  refine ⟨X', ?_, h⟩
  unfold f_X0_draftsPlus
  rw [e0, pb1]
  exact e
theorem m_plus {n a b w : Nat} (hn : n < 9) (ha : a < 4) (hb : b < 4) (hw : w < 2) {sum coef ws wc rb : Nat → Int32} {un : Int32} {x1 : Int32} (ea : sum a = nI n) {T : Nat → Int64} (h0 : ∀ p, p < 22 → T p = 0) : ∃ T', f_X10_makes_103 tz_D tz_S tz_L tz_R tz_M sum coef un ws wc rb T x1 (nI a) (nI b) (nI w) = f_X10_makes_180 tz_D tz_S tz_L tz_R tz_M sum coef un ws wc rb T' x1 (nI a) ∧ ∀ p, p < 22 → T' p = if p < qz_N n then cl coef a p + (if w = 0 then 1 else -1) * cl coef b p else 0 := by
  have hN := qN_le n hn
  have key : ∀ (d f q : Nat) (X : Nat → Int64), q + d = qz_N n → d < f → (∀ p, p < 22 → X p = if p < q then cl coef a p + (if w = 0 then 1 else -1) * cl coef b p else 0) → ∃ T', f_X10_makes_106 tz_D tz_S tz_L tz_R tz_M f sum coef un ws wc rb X x1 (nI a) (nI b) (nI w) (nI q) = f_X10_makes_180 tz_D tz_S tz_L tz_R tz_M sum coef un ws wc rb T' x1 (nI a) ∧ ∀ p, p < 22 → T' p = if p < qz_N n then cl coef a p + (if w = 0 then 1 else -1) * cl coef b p else 0 := by
    intro d
    induction d with
    | zero =>
      intro f q X hq hf hX
      obtain ⟨f, rfl⟩ : ∃ z, f = z + 1 := ⟨f - 1, by omega⟩
      obtain rfl : q = qz_N n := by omega
      refine ⟨X, ?_, hX⟩
      show gf_X10_makes_106 (f_X10_makes_106 tz_D tz_S tz_L tz_R tz_M f) tz_D tz_S tz_L tz_R tz_M sum coef un ws wc rb X _ _ _ _ _ = _
      unfold gf_X10_makes_106
      rw [pinn ha (by decide), nI_c a (by omega), ea, m_manyOf n hn, pb1, if_pos (Int32.le_refl _)]
    | succ d ih =>
      intro f q X hq hf hX
      obtain ⟨f, rfl⟩ : ∃ z, f = z + 1 := ⟨f - 1, by omega⟩
      obtain ⟨T', e, h⟩ := ih f (q + 1) (vp_updL X q (cl coef a q + (if w = 0 then 1 else -1) * cl coef b q)) (by omega) (by omega) (fun p hp => by
        unfold vp_updL
        by_cases c : p = q
        · subst c
          rw [if_pos rfl, if_pos (show p < p + 1 by omega)]
        · rw [if_neg c, hX p hp]
          by_cases c2 : p < q
          · rw [if_pos c2, if_pos (show p < q + 1 by omega)]
          · rw [if_neg c2, if_neg (show ¬ p < q + 1 by omega)])
      refine ⟨T', ?_, h⟩
      show gf_X10_makes_106 (f_X10_makes_106 tz_D tz_S tz_L tz_R tz_M f) tz_D tz_S tz_L tz_R tz_M sum coef un ws wc rb X _ _ _ _ _ = _
      unfold gf_X10_makes_106 f_X10_makes_158
      rw [pinn ha (by decide), nI_c a (by omega), ea, m_manyOf n hn, pb1, if_neg (nI_ge (by omega) (by omega)), if_neg (show ¬ (2 : Int32) ≤ nI w from nI_ge (a := w) (b := 2) (by omega) (by decide)), ix22m, ix22m, pinn (by omega) (by decide), pinn (by omega) (by decide), pinn (by omega) (by decide), nI_c (22 * a + q) (by omega), nI_c (22 * b + q) (by omega), nI_c q (by omega), show nI q + (1 : Int32) = nI (q + 1) from nI_1 q]
      by_cases c : w = 0
      · rw [if_pos c] at e
        rw [if_pos (show nI w = 0 by rw [c]; rfl)]
        exact e
      · rw [if_neg c] at e
        rw [if_neg (nI_ne0 (by omega) (by omega)), pinn (by omega) (by decide), pinn (by omega) (by decide)]
        exact e
  exact key (qz_N n) 1000 0 T (by omega) (by omega) (fun p hp => by rw [if_neg (by omega)]; exact h0 p hp)
theorem m_103_2 {n a b : Nat} (hn : n < 9) (ha : a < 4) {sum coef ws wc rb : Nat → Int32} {un : Int32} {x1 : Int32} (ea : sum a = nI n) (T : Nat → Int64) : f_X10_makes_103 tz_D tz_S tz_L tz_R tz_M sum coef un ws wc rb T x1 (nI a) (nI b) 2 = f_X10_makes_180 tz_D tz_S tz_L tz_R tz_M sum coef un ws wc rb T x1 (nI a) := by
  show gf_X10_makes_106 (f_X10_makes_106 tz_D tz_S tz_L tz_R tz_M 999) tz_D tz_S tz_L tz_R tz_M sum coef un ws wc rb T _ _ _ _ _ = _
  unfold gf_X10_makes_106
  rw [pinn ha (by decide), nI_c a (by omega), ea, m_manyOf n hn, pb1]
  by_cases c : nI (qz_N n) ≤ 0
  · rw [if_pos c]
  · rw [if_neg c, if_pos (by decide)]
theorem m_180 {n a : Nat} (ha : a < 4) {sum coef ws wc rb : Nat → Int32} {un : Int32} {x1 : Int32} (ea : sum a = nI n) (T : Nat → Int64) : f_X10_makes_180 tz_D tz_S tz_L tz_R tz_M sum coef un ws wc rb T x1 (nI a) = p_b7 (f_X10_becomes tz_D sum coef un ws wc rb T x1 (nI n)) (fun r s c u w wcc rc => some (r, s, c, u, w, wcc, rc, T)) := by
  unfold f_X10_makes_180
  rw [pinn ha (by decide), nI_c a (by omega), ea]
theorem in02 (x : Int32) : (∃ w, w < 3 ∧ x = nI w ∧ f_X10_in x 0 2 = some 1) ∨ ((x < 0 ∨ ¬ x ≤ 2) ∧ f_X10_in x 0 2 = some 0) := by
  rcases inx 2 (by decide) x with ⟨j, hj, rfl, h⟩ | ⟨h, h2⟩
  · exact Or.inl ⟨j, by omega, rfl, h⟩
  · refine Or.inr ⟨?_, h2⟩
    rcases h with h | h
    · exact Or.inl h
    · exact Or.inr (Int32.not_le.mpr h)
/-- both sums are there -/
theorem Rs1_n {sizes coefs sum coef : Nat → Int32} {s : Nat} (h : Rs1 sizes coefs s sum coef s (22 * s)) : (sizes s = -1 ∧ sum s = -1) ∨ ∃ n, n < 9 ∧ sizes s = nI n ∧ sum s = nI n ∧ (∀ p, p < 22 → cl coefs s p = cl coef s p) ∧ (∀ p, qz_N n ≤ p → p < 22 → coefs (22 * s + p) = 0) ∧ ∀ p, p < 22 → Bd (coefs (22 * s + p)) := by
  obtain ⟨e0, ⟨e1, -⟩ | ⟨n, hn, e1, h2, h3, h4⟩⟩ := h
  · exact Or.inl ⟨e1, by rw [← e0, e1]⟩
  · exact Or.inr ⟨n, hn, e1, by rw [← e0, e1], fun p hp => by unfold cl; rw [h2 p hp], h3, h4⟩
set_option maxRecDepth 10000 in
theorem eq_makes : EQ_makes Rl0 := by
  intro v9_refusals v7_rows v7_lengths v7_sizes v7_rests v7_orders v6_hooks v6_lefts v6_heights v1_table v5_known v8_sizes v8_coefficients v8_undoneSums v8_undos v8_nextUndo v8_imageTaken v0_totals v3_letters v3_count v3_next v3_size v4_values v4_lengths v10_firstOf v10_sizeOf v10_longOf v10_row v10_character v10_sum v10_coefficient v10_undone v10_wasSum v10_wasCoefficient v10_hasImage v10_letter v10_letters v10_list v10_cell v10_refusals v10_tried v10_left v10_high v10_then v10_at v10_readSize hR x1 x2 x3 x4
  obtain ⟨hc, hm, hrf, hkn, hle, hli, hsu⟩ := hR
  have hc1 := hc
  have hm1 := hm
  obtain ⟨rfl, rfl, rfl, rfl, rfl, rfl, rfl, rfl, rfl⟩ := hc1
  obtain ⟨rfl, rfl, rfl, rfl, rfl⟩ := hm1
  obtain ⟨r1, r1', d1, d1', hrf1⟩ := rf_1 hrf (-1) (by decide)
  obtain ⟨r2, r2', d2, d2', hrf2⟩ := rf_1 hrf (-2) (by decide)
  obtain ⟨r3, r3', d3, d3', hrf3⟩ := rf_1 hrf (-3) (by decide)
  obtain ⟨r6, r6', d6, d6', hrf6⟩ := rf_1 hrf (-6) (by decide)
  rcases (six x1).symm with ⟨h1, h1'⟩ | ⟨s, hs, rfl, h1, h1'⟩
  · exact ⟨_, _, _, _, _, _, _, _, _, _, _, _, _, _, _, _, by unfold f_X9_makes f_X9_makes_33; rw [h1, pb1, if_pos rfl, d1, pb2], by unfold f_X10_makes f_X10_makes_21; rw [h1', pb1, if_pos rfl, d1', pb2], Rl0_mk hc hm hrf1 hkn hle hli hsu⟩
  rcases (six x2).symm with ⟨h2, h2'⟩ | ⟨a, ha, rfl, h2, h2'⟩
  · exact ⟨_, _, _, _, _, _, _, _, _, _, _, _, _, _, _, _, by unfold f_X9_makes f_X9_makes_33; rw [h1, pb1, if_neg i10, h2, pb1, if_pos rfl, d1, pb2], by unfold f_X10_makes f_X10_makes_21; rw [h1', pb1, if_neg i10, h2', pb1, if_pos rfl, d1', pb2], Rl0_mk hc hm hrf1 hkn hle hli hsu⟩
  rcases (six x3).symm with ⟨h3, h3'⟩ | ⟨b, hb, rfl, h3, h3'⟩
  · exact ⟨_, _, _, _, _, _, _, _, _, _, _, _, _, _, _, _, by unfold f_X9_makes f_X9_makes_33; rw [h1, pb1, if_neg i10, h2, pb1, if_neg i10, h3, pb1, if_pos rfl, d1, pb2], by unfold f_X10_makes f_X10_makes_21; rw [h1', pb1, if_neg i10, h2', pb1, if_neg i10, h3', pb1, if_pos rfl, d1', pb2], Rl0_mk hc hm hrf1 hkn hle hli hsu⟩
  rcases (in02 x4).symm with ⟨h4, h4'⟩ | ⟨w, hw, rfl, h4'⟩
  · exact ⟨_, _, _, _, _, _, _, _, _, _, _, _, _, _, _, _, by
      unfold f_X9_makes f_X9_makes_50
      rw [h1, pb1, if_neg i10, h2, pb1, if_neg i10, h3, pb1, if_neg i10, d2, pb2]
      by_cases c : x4 < 0
      · rw [if_pos c]
      · rw [if_neg c, if_neg (h4.resolve_left c)], by unfold f_X10_makes; rw [h1', pb1, if_neg i10, h2', pb1, if_neg i10, h3', pb1, if_neg i10, h4', pb1, if_pos rfl, d2', pb2], Rl0_mk hc hm hrf2 hkn hle hli hsu⟩
  have c4 : ¬ nI w < 0 := nI_pos (by omega)
  have c4' : nI w ≤ (2 : Int32) := nI_le (a := w) (b := 2) (by omega) (by decide)
  rcases Rs1_n (hsu.1 a ha) with ⟨ea, ea'⟩ | ⟨n, hn, ea, ea', qa, za, ba⟩
  · exact ⟨_, _, _, _, _, _, _, _, _, _, _, _, _, _, _, _, by unfold f_X9_makes; rw [h1, pb1, if_neg i10, h2, pb1, if_neg i10, h3, pb1, if_neg i10, if_neg c4, if_pos c4', k_miss81 ha ea, pb1, if_neg i10], by unfold f_X10_makes; rw [h1', pb1, if_neg i10, h2', pb1, if_neg i10, h3', pb1, if_neg i10, h4', pb1, if_neg i10, pinn ha (by decide), nI_c a (by omega), ea', if_pos (by decide)], Rl0_mk hc hm hrf hkn hle hli hsu⟩
  rcases Rs1_n (hsu.1 b hb) with ⟨eb, eb'⟩ | ⟨n2, hn2, eb, eb', qb, zb, bb⟩
  · exact ⟨_, _, _, _, _, _, _, _, _, _, _, _, _, _, _, _, by unfold f_X9_makes; rw [h1, pb1, if_neg i10, h2, pb1, if_neg i10, h3, pb1, if_neg i10, if_neg c4, if_pos c4', k_miss80 ha hn ea, pb1, if_pos rfl, k_miss81 hb eb, pb1, if_neg i10], by unfold f_X10_makes; rw [h1', pb1, if_neg i10, h2', pb1, if_neg i10, h3', pb1, if_neg i10, h4', pb1, if_neg i10, pinn ha (by decide), nI_c a (by omega), ea', if_neg (nI_pos (by omega)), pinn hb (by decide), nI_c b (by omega), eb', if_neg (by decide)], Rl0_mk hc hm hrf hkn hle hli hsu⟩
  have eK : f_X9_makes v9_refusals tz_O tz_C v5_known v8_sizes v8_coefficients v8_undoneSums v8_undos v8_nextUndo v0_totals (nI s) (nI a) (nI b) (nI w) = (if nI n = nI n2 then (if nI w = (0 : Int32) then (p_b4 (f_X0_draftsPlus v8_sizes v8_coefficients v0_totals (nI a) (nI b) (1 : Int32)) (fun r_46 v8_sizes_47 v8_coefficients_48 v0_totals_49 => (f_X9_makes_177 tz_O tz_C) v9_refusals v5_known v8_sizes_47 v8_coefficients_48 v8_undoneSums v8_undos v8_nextUndo v0_totals_49 (nI s) r_46)) else (if nI w = (1 : Int32) then (p_b4 (f_X0_draftsPlus v8_sizes v8_coefficients v0_totals (nI a) (nI b) (-1 : Int32)) (fun r_53 v8_sizes_54 v8_coefficients_55 v0_totals_56 => (f_X9_makes_177 tz_O tz_C) v9_refusals v5_known v8_sizes_54 v8_coefficients_55 v8_undoneSums v8_undos v8_nextUndo v0_totals_56 (nI s) r_53)) else (p_b5 (f_X0_draftsTimes tz_O tz_C v5_known v8_sizes v8_coefficients v0_totals (nI a) (nI b)) (fun r_59 v5_known_60 v8_sizes_61 v8_coefficients_62 v0_totals_63 => (f_X9_makes_177 tz_O tz_C) v9_refusals v5_known_60 v8_sizes_61 v8_coefficients_62 v8_undoneSums v8_undos v8_nextUndo v0_totals_63 (nI s) r_59)))) else (some (-3, r3, v5_known, v8_sizes, v8_coefficients, v8_undoneSums, v8_undos, v8_nextUndo, v0_totals))) := by
    unfold f_X9_makes
    rw [h1, pb1, if_neg i10, h2, pb1, if_neg i10, h3, pb1, if_neg i10, if_neg c4, if_pos c4', k_miss80 ha hn ea, pb1, if_pos rfl, k_miss80 hb hn2 eb, pb1, if_pos rfl, k_size8 ha, pb1, k_size8 hb, pb1, ea, eb, d3, pb2]
  have eM : f_X10_makes tz_D tz_S tz_L tz_R tz_M v10_sum v10_coefficient v10_undone v10_wasSum v10_wasCoefficient v10_refusals v10_then (nI s) (nI a) (nI b) (nI w) = (if nI n = nI n2 then (p_b1 (f_X10_thenNone v10_then) (fun v10_then_45 => if nI w = (2 : Int32) then (p_b1 (f_X10_multiplies tz_D tz_S tz_L tz_R tz_M v10_sum v10_coefficient v10_then_45 (nI a) (nI b)) (fun v10_then_48 => (f_X10_makes_103 tz_D tz_S tz_L tz_R tz_M) v10_sum v10_coefficient v10_undone v10_wasSum v10_wasCoefficient v10_refusals v10_then_48 (nI s) (nI a) (nI b) (nI w))) else ((f_X10_makes_103 tz_D tz_S tz_L tz_R tz_M) v10_sum v10_coefficient v10_undone v10_wasSum v10_wasCoefficient v10_refusals v10_then_45 (nI s) (nI a) (nI b) (nI w)))) else (some (-3, v10_sum, v10_coefficient, v10_undone, v10_wasSum, v10_wasCoefficient, r3', v10_then))) := by
    unfold f_X10_makes
    rw [h1', pb1, if_neg i10, h2', pb1, if_neg i10, h3', pb1, if_neg i10, h4', pb1, if_neg i10, pinn ha (by decide), nI_c a (by omega), ea', if_neg (nI_pos (by omega)), pinn hb (by decide), nI_c b (by omega), eb', if_pos (nI_pos' (by omega)), pinn ha (by decide), pinn hb (by decide), d3', pb2]
  by_cases cn : n = n2
  case neg =>
    have cn' : ¬ nI n = nI n2 := fun h => cn ((nI_eq (by omega) (by omega)).mp h)
    exact ⟨_, _, _, _, _, _, _, _, _, _, _, _, _, _, _, _, by rw [eK, if_neg cn'], by rw [eM, if_neg cn'], Rl0_mk hc hm hrf3 hkn hle hli hsu⟩
  subst cn
  rw [if_pos rfl] at eK eM
  obtain ⟨t0, et0, ht0⟩ := m_thenNone v10_then
  rw [et0, pb1] at eM
  have hN := qN_le n hn
  by_cases c2 : w = 2
  · subst c2
    obtain ⟨kn', X', e1, hk', hX'⟩ := k_times (sizes := v8_sizes) (coefs := v8_coefficients) hn ha hb ea hkn v0_totals
    obtain ⟨T', e2, hT'⟩ := m_multi (coef := v10_coefficient) hn ha hb ea' eb' ht0
    rw [if_neg (by decide), if_neg (by decide), e1] at eK
    rw [if_pos (show nI 2 = (2 : Int32) from rfl), e2, pb1, show f_X10_makes_103 tz_D tz_S tz_L tz_R tz_M v10_sum v10_coefficient v10_undone v10_wasSum v10_wasCoefficient v10_refusals T' (nI s) (nI a) (nI b) (nI 2) = _ from m_103_2 hn ha ea' T', m_180 ha ea'] at eM
    have hXT : ∀ p, p < 22 → X' p = T' p := fun p hp => by
      rw [hX' p hp, hT' p hp]
      refine sm_congr _ (fun i hi => sm_congr _ (fun j hj => ?_))
      unfold tg
      rw [qa i (by omega), qb j (by omega)]
    have h0 : ∀ p, qz_N n ≤ p → p < 22 → T' p = 0 := fun p hp1 hp => by
      have z0 : ∀ N, sm (fun _ => 0) N = 0 := fun N => by
        induction N with
        | zero => rfl
        | succ N ih => show sm (fun _ => 0) N + 0 = 0; rw [ih]; rfl
      rw [hT' p hp, sm_congr _ (h := fun _ => 0) (fun i hi => ?_), z0]
      rw [sm_congr _ (h := fun _ => 0) (fun j hj => ?_), z0]
      unfold tg
      rw [if_neg (by omega)]
    rcases both_keep hsu hs hn hXT h0 with ⟨sz, cf, v, sizes', coefs', us', undos', nx', sum', coef', un', ws', wc', g1, g2, g3, g4⟩ | ⟨sz, cf, g1, g2, g3⟩
    · exact ⟨_, _, _, _, _, _, _, _, _, _, _, _, _, _, _, _, by rw [eK, g1, pb3, pb5]; unfold f_X9_makes_177; rw [if_neg i10, g2, pb6], by rw [eM, g3, pb7], Rl0_mk hc hm hrf hk' hle hli g4⟩
    · exact ⟨_, _, _, _, _, _, _, _, _, _, _, _, _, _, _, _, by rw [eK, g1, pb3, pb5]; unfold f_X9_makes_177; rw [if_pos rfl, d6, pb2], by rw [eM, g3, d6', pb2, pb7], Rl0_mk hc hm hrf6 hk' hle hli g2⟩
  · obtain ⟨T', e2, hT'⟩ := m_plus (coef := v10_coefficient) (ws := v10_wasSum) (wc := v10_wasCoefficient) (rb := v10_refusals) (un := v10_undone) (x1 := nI s) (b := b) hn ha hb (show w < 2 by omega) ea' ht0
    rw [if_neg (show ¬ nI w = (2 : Int32) from fun h => c2 ((nI_eq (a := w) (b := 2) (by omega) (by decide)).mp h)), e2, m_180 ha ea'] at eM
    have h0 : ∀ p, qz_N n ≤ p → p < 22 → T' p = 0 := fun p hp1 hp => by rw [hT' p hp, if_neg (by omega)]
    by_cases c : w = 0
    · subst c
      obtain ⟨X', e1, hX'⟩ := k_plus (sizes := v8_sizes) (coefs := v8_coefficients) ha hb 1 v0_totals
      rw [if_pos (show nI 0 = (0 : Int32) from rfl), e1, ea] at eK
      have hXT : ∀ p, p < 22 → X' p = T' p := fun p hp => by
        rw [hX' p hp, hT' p hp]
        by_cases d : p < qz_N n
        · rw [if_pos d, if_pos rfl, add64 (ba p hp) (bb p hp), ← qa p hp, ← qb p hp]; rfl
        · rw [if_neg d, za p (by omega) hp, zb p (by omega) hp]; rfl
      rcases both_keep hsu hs hn hXT h0 with ⟨sz, cf, v, sizes', coefs', us', undos', nx', sum', coef', un', ws', wc', g1, g2, g3, g4⟩ | ⟨sz, cf, g1, g2, g3⟩
      · exact ⟨_, _, _, _, _, _, _, _, _, _, _, _, _, _, _, _, by rw [eK, g1, pb3, pb4]; unfold f_X9_makes_177; rw [if_neg i10, g2, pb6], by rw [eM, g3, pb7], Rl0_mk hc hm hrf hkn hle hli g4⟩
      · exact ⟨_, _, _, _, _, _, _, _, _, _, _, _, _, _, _, _, by rw [eK, g1, pb3, pb4]; unfold f_X9_makes_177; rw [if_pos rfl, d6, pb2], by rw [eM, g3, d6', pb2, pb7], Rl0_mk hc hm hrf6 hkn hle hli g2⟩
    · obtain rfl : w = 1 := by omega
      obtain ⟨X', e1, hX'⟩ := k_plus (sizes := v8_sizes) (coefs := v8_coefficients) ha hb (-1) v0_totals
      rw [if_neg (show ¬ nI 1 = (0 : Int32) by decide), if_pos (show nI 1 = (1 : Int32) from rfl), e1, ea] at eK
      have hXT : ∀ p, p < 22 → X' p = T' p := fun p hp => by
        rw [hX' p hp, hT' p hp]
        by_cases d : p < qz_N n
        · rw [if_pos d, if_neg (by omega), sub64 (ba p hp) (bb p hp), ← qa p hp, ← qb p hp]; rfl
        · rw [if_neg d, za p (by omega) hp, zb p (by omega) hp]; rfl
      rcases both_keep hsu hs hn hXT h0 with ⟨sz, cf, v, sizes', coefs', us', undos', nx', sum', coef', un', ws', wc', g1, g2, g3, g4⟩ | ⟨sz, cf, g1, g2, g3⟩
      · exact ⟨_, _, _, _, _, _, _, _, _, _, _, _, _, _, _, _, by rw [eK, g1, pb3, pb4]; unfold f_X9_makes_177; rw [if_neg i10, g2, pb6], by rw [eM, g3, pb7], Rl0_mk hc hm hrf hkn hle hli g4⟩
      · exact ⟨_, _, _, _, _, _, _, _, _, _, _, _, _, _, _, _, by rw [eK, g1, pb3, pb4]; unfold f_X9_makes_177; rw [if_pos rfl, d6, pb2], by rw [eM, g3, d6', pb2, pb7], Rl0_mk hc hm hrf6 hkn hle hli g2⟩
