theorem qgr_or : ∀ s, s < 67 → ∀ n, n < 9 → 4 < qz_S s ∨ qgr s n = -9 ∨ ∃ i, i < qz_N n ∧ qgr s n = nI (qz_D n + i) := by decide +kernel
def qg8 (s : Nat) : Nat := (qgr s 8).toNatClampNeg - 45
theorem qg8_ok : ∀ s, s < 67 → 4 < qz_S s ∨ (qg8 s < 22 ∧ qgr s 8 = nI (qz_D 8 + qg8 s)) := by decide +kernel
theorem sz4 : ∀ s, s < 67 → 4 < qz_S s ∨ s < 12 := by decide +kernel
theorem nu8_pos : ∀ s, s < 12 → ∀ t, t < 12 → ∀ u, u < 12 → ¬ nuV 8 (qg8 s) (qg8 t) (qg8 u) < 0 := by decide +kernel
/-- the number of three grown, or -9 -/
def nug (s t u n : Nat) : Int32 := if qgr s n < 0 ∨ qgr t n < 0 ∨ qgr u n < 0 then -9 else nuV n ((qgr s n).toNatClampNeg - qz_D n) ((qgr t n).toNatClampNeg - qz_D n) ((qgr u n).toNatClampNeg - qz_D n)
theorem gcase {s n : Nat} (hs : s < 67) (hn : n < 9) (h4 : qz_S s ≤ 4) : (qgr s n < 0 ∧ qgr s n = -9) ∨ ∃ i, i < qz_N n ∧ qgr s n = nI (qz_D n + i) ∧ ¬ qgr s n < 0 ∧ (qgr s n).toNatClampNeg - qz_D n = i := by
  rcases (qgr_or s hs n hn).resolve_left (by omega) with h | ⟨i, hi, h⟩
  · exact Or.inl ⟨by rw [h]; decide, h⟩
  · have := (shD n hn i hi).1
    exact Or.inr ⟨i, hi, h, by rw [h]; exact nI_pos (by omega), by rw [h, nI_c _ (by omega)]; omega⟩
theorem k_grown5 {s t u n : Nat} (hs : s < 67) (ht : t < 67) (hu : u < 67) (hn : n < 9) (h1 : qz_S s ≤ 4) (h2 : qz_S t ≤ 4) (h3 : qz_S u ≤ 4) {known : Nat → Int32} (hkn : Kn known) : ∃ known', f_X5_grownTo tz_R tz_L tz_S tz_O tz_C known (nI s) (nI t) (nI u) (nI n) = some (nug s t u n, known') ∧ Kn known' := by
  have g1 := (k_grown s hs n hn).resolve_left (by omega)
  have g2 := (k_grown t ht n hn).resolve_left (by omega)
  have g3 := (k_grown u hu n hn).resolve_left (by omega)
  unfold f_X5_grownTo nug
  rw [g1, pb1, g2, pb1, g3, pb1]
  rcases gcase hs hn h1 with ⟨a, -⟩ | ⟨i, hi, e1, a, b1⟩
  · rw [if_pos a, if_pos (Or.inl a)]; exact ⟨_, rfl, hkn⟩
  rw [if_neg a]
  rcases gcase ht hn h2 with ⟨a2, -⟩ | ⟨j, hj, e2, a2, b2⟩
  · rw [if_pos a2, if_pos (Or.inr (Or.inl a2))]; exact ⟨_, rfl, hkn⟩
  rw [if_neg a2]
  rcases gcase hu hn h3 with ⟨a3, -⟩ | ⟨k, hk, e3, a3, b3⟩
  · rw [if_neg (Int32.not_le.mpr a3), if_pos (Or.inr (Or.inr a3))]; exact ⟨_, rfl, hkn⟩
  rw [if_pos (Int32.not_lt.mp a3), if_neg (by rintro (h | h | h) <;> contradiction), b1, b2, b3, e1, e2, e3]
  obtain ⟨known', e5, h5⟩ := k_at5 hn hi hj hk hkn
  exact ⟨known', by rw [e5, pb2], h5⟩
theorem nIpred {m : Nat} : nI (m + 1) + (-1) = nI m := by
  have h := nI_pred m
  rw [Int32.sub_eq_add_neg] at h
  exact h
theorem m_set222 (rf t : Nat → Int32) (y4 y5 y6 : Int32) : f_X10_settled_222 tz_D tz_S tz_L tz_R tz_M rf t y4 y5 y6 = (if y4 = 0 then some (y6, rf, t) else some (y5, rf, t)) := rfl
theorem set_loop {s t u : Nat} (hs : s < 67) (ht : t < 67) (hu : u < 67) (h1 : qz_S s ≤ 4) (h2 : qz_S t ≤ 4) (h3 : qz_S u ≤ 4) (ra rb : Nat → Int32) {v : Int32} (hv : ¬ v < 0) : ∀ (m f g : Nat), m < 9 → m < f → m + 1 < g → ∀ known tr, Kn known → ∃ r known' tr', f_X9_settled_120 tz_R tz_L tz_S tz_O tz_C f ra known (nI s) (nI t) (nI u) v (nI m) = some (r, ra, known') ∧ Kn known' ∧ f_X10_settled_124 tz_D tz_S tz_L tz_R tz_M g rb tr (nI s) (nI t) (nI u) 0 v (nI m) 1 = some (r, rb, tr') := by
  intro m
  induction m with
  | zero =>
    intro f g hm hf hg known tr hkn
    obtain ⟨f, rfl⟩ : ∃ z, f = z + 1 := ⟨f - 1, by omega⟩
    obtain ⟨g, rfl⟩ : ∃ z, g = z + 1 := ⟨g - 1, by omega⟩
    refine ⟨nI 0, known, tr, ?_, hkn, ?_⟩
    · show gf_X9_settled_120 (f_X9_settled_120 tz_R tz_L tz_S tz_O tz_C f) tz_R tz_L tz_S tz_O tz_C ra known (nI s) (nI t) (nI u) v (nI 0) = _
      unfold gf_X9_settled_120
      rw [if_pos (by decide)]
    · show gf_X10_settled_124 (f_X10_settled_124 tz_D tz_S tz_L tz_R tz_M g) tz_D tz_S tz_L tz_R tz_M rb tr (nI s) (nI t) (nI u) 0 v (nI 0) 1 = _
      unfold gf_X10_settled_124
      rw [if_neg i10, if_pos (by decide), m_set222, if_pos rfl]
  | succ m ih =>
    intro f g hm hf hg known tr hkn
    obtain ⟨f, rfl⟩ : ∃ z, f = z + 1 := ⟨f - 1, by omega⟩
    obtain ⟨g, rfl⟩ : ∃ z, g = z + 2 := ⟨g - 2, by omega⟩
    obtain ⟨known1, e1, hkn1⟩ := k_grown5 hs ht hu (show m < 9 by omega) h1 h2 h3 hkn
    obtain ⟨t1, m1⟩ := m_grown hs (show m < 9 by omega) h1 tr
    obtain ⟨t2, m2⟩ := m_grown ht (show m < 9 by omega) h2 t1
    obtain ⟨t3, m3⟩ := m_grown hu (show m < 9 by omega) h3 t2
    have n0 : ¬ nI (m + 1) ≤ 0 := nI_nle (by omega) (by omega)
    have s1 : f_X9_settled_120 tz_R tz_L tz_S tz_O tz_C (f + 1) ra known (nI s) (nI t) (nI u) v (nI (m + 1)) = (if nug s t u m = v then f_X9_settled_120 tz_R tz_L tz_S tz_O tz_C f ra known1 (nI s) (nI t) (nI u) v (nI m) else some (nI (m + 1), ra, known1)) := by
      show gf_X9_settled_120 (f_X9_settled_120 tz_R tz_L tz_S tz_O tz_C f) tz_R tz_L tz_S tz_O tz_C ra known (nI s) (nI t) (nI u) v (nI (m + 1)) = _
      unfold gf_X9_settled_120
      rw [if_neg n0, nI_pred, e1, pb2, nIpred]
    have stop : f_X10_settled_202 (f_X10_settled_124 tz_D tz_S tz_L tz_R tz_M (g + 1)) tz_D tz_S tz_L tz_R tz_M rb t3 (nI s) (nI t) (nI u) 0 v (nI (m + 1)) 0 = some (nI (m + 1), rb, t3) := by
      unfold f_X10_settled_202
      rw [if_pos rfl]
      show gf_X10_settled_124 (f_X10_settled_124 tz_D tz_S tz_L tz_R tz_M g) tz_D tz_S tz_L tz_R tz_M rb t3 (nI s) (nI t) (nI u) 0 v (nI (m + 1) - 0) 0 = _
      unfold gf_X10_settled_124
      rw [if_pos rfl, m_set222, if_pos rfl, Int32.sub_zero]
    have s2 : f_X10_settled_124 tz_D tz_S tz_L tz_R tz_M (g + 2) rb tr (nI s) (nI t) (nI u) 0 v (nI (m + 1)) 1 = (if nug s t u m = v then f_X10_settled_124 tz_D tz_S tz_L tz_R tz_M (g + 1) rb t3 (nI s) (nI t) (nI u) 0 v (nI m) 1 else some (nI (m + 1), rb, t3)) := by
      show gf_X10_settled_124 (f_X10_settled_124 tz_D tz_S tz_L tz_R tz_M (g + 1)) tz_D tz_S tz_L tz_R tz_M rb tr (nI s) (nI t) (nI u) 0 v (nI (m + 1)) 1 = _
      unfold gf_X10_settled_124 f_X10_settled_201
      rw [if_neg i10, if_neg n0, nI_pred, m1, pb2, m2, pb2, m3, pb2, stop]
      have hno : nug s t u m = -9 → ¬ nug s t u m = v := fun h1 h2 => hv (by rw [← h2, h1]; decide)
      rcases gcase hs (show m < 9 by omega) h1 with ⟨a, -⟩ | ⟨i, hi, q1, a, b1⟩
      · have h9 : nug s t u m = -9 := by unfold nug; rw [if_pos (Or.inl a)]
        rw [if_pos a, if_neg (hno h9)]
      rw [if_neg a]
      rcases gcase ht (show m < 9 by omega) h2 with ⟨a2, -⟩ | ⟨j, hj, q2, a2, b2⟩
      · have h9 : nug s t u m = -9 := by unfold nug; rw [if_pos (Or.inr (Or.inl a2))]
        rw [if_pos a2, if_neg (hno h9)]
      rw [if_neg a2]
      rcases gcase hu (show m < 9 by omega) h3 with ⟨a3, -⟩ | ⟨k, hk, q3, a3, b3⟩
      · have h9 : nug s t u m = -9 := by unfold nug; rw [if_pos (Or.inr (Or.inr a3))]
        rw [if_pos a3, if_neg (hno h9)]
      rw [if_neg a3]
      have h9 : nug s t u m = nuV m i j k := by unfold nug; rw [if_neg (by rintro (h | h | h) <;> contradiction), b1, b2, b3]
      rw [q1, q2, q3, m_number (by omega) hi hj hk, pb1, h9]
      by_cases c : nuV m i j k = v
      · rw [if_pos c, if_pos c]
        unfold f_X10_settled_202
        rw [if_neg i10, nI_pred]
      · rw [if_neg c, if_neg c]
    rw [s1, s2]
    by_cases c : nug s t u m = v
    · rw [if_pos c, if_pos c]
      exact ih f (g + 1) (by omega) (by omega) (by omega) known1 t3 hkn1
    · rw [if_neg c, if_neg c]
      exact ⟨_, _, _, rfl, hkn1, rfl⟩
theorem gr8 {s t u : Nat} (hs : s < 67) (ht : t < 67) (hu : u < 67) (h1 : qz_S s ≤ 4) (h2 : qz_S t ≤ 4) (h3 : qz_S u ≤ 4) : nug s t u 8 = nuV 8 (qg8 s) (qg8 t) (qg8 u) ∧ ¬ nug s t u 8 < 0 := by
  obtain ⟨a1, b1⟩ := (qg8_ok s hs).resolve_left (by omega)
  obtain ⟨a2, b2⟩ := (qg8_ok t ht).resolve_left (by omega)
  obtain ⟨a3, b3⟩ := (qg8_ok u hu).resolve_left (by omega)
  have d8 : qz_D 8 = 45 := by decide +kernel
  have e : nug s t u 8 = nuV 8 (qg8 s) (qg8 t) (qg8 u) := by
    unfold nug
    rw [if_neg]
    · rw [d8]; rfl
    · rintro (h | h | h)
      · rw [b1] at h; exact nI_pos (by omega) h
      · rw [b2] at h; exact nI_pos (by omega) h
      · rw [b3] at h; exact nI_pos (by omega) h
  exact ⟨e, by rw [e]; exact nu8_pos s ((sz4 s hs).resolve_left (by omega)) t ((sz4 t ht).resolve_left (by omega)) u ((sz4 u hu).resolve_left (by omega))⟩
theorem tS_lt4 : ∀ s, s < 67 → ((4 : Int32) < tz_S s ↔ ¬ qz_S s ≤ 4) := by decide +kernel
set_option maxRecDepth 10000 in
theorem eq_settled : EQ_settled Rl0 := by
  intro v9_refusals v7_rows v7_lengths v7_sizes v7_rests v7_orders v6_hooks v6_lefts v6_heights v1_table v5_known v8_sizes v8_coefficients v8_undoneSums v8_undos v8_nextUndo v8_imageTaken v0_totals v3_letters v3_count v3_next v3_size v4_values v4_lengths v10_firstOf v10_sizeOf v10_longOf v10_row v10_character v10_sum v10_coefficient v10_undone v10_wasSum v10_wasCoefficient v10_hasImage v10_letter v10_letters v10_list v10_cell v10_refusals v10_tried v10_left v10_high v10_then v10_at v10_readSize hR x1 x2 x3 x4
  obtain ⟨hc, hm, hrf, hkn, hle, hli, hsu⟩ := hR
  have hc1 := hc
  have hm1 := hm
  obtain ⟨rfl, rfl, rfl, rfl, rfl, rfl, rfl, rfl, rfl⟩ := hc1
  obtain ⟨rfl, rfl, rfl, rfl, rfl⟩ := hm1
  have hall : ∃ ro ov9_refusals ov5_known ov10_refusals ov10_tried, f_X9_settled v9_refusals tz_R tz_L tz_S tz_O tz_C v5_known x1 x2 x3 x4 = some (ro, ov9_refusals, ov5_known) ∧ f_X10_settled tz_D tz_S tz_L tz_R tz_M v10_refusals v10_tried x1 x2 x3 x4 = some (ro, ov10_refusals, ov10_tried) ∧ Rf ov9_refusals ov10_refusals ∧ Kn ov5_known := by
    obtain ⟨a1, b1, r1, r2, hrf1⟩ := rf_1 hrf (-1) (by decide)
    obtain ⟨a3, b3, u1, u2, hrf3⟩ := rf_1 hrf (-3) (by decide)
    rcases (shx x1).symm with ⟨h1, h2⟩ | ⟨s, hs, rfl, h1, h2⟩
    · exact ⟨_, _, _, _, _, by unfold f_X9_settled f_X9_settled_33; rw [h1, pb1, if_pos rfl, r1, pb2], by unfold f_X10_settled f_X10_settled_21; rw [h2, pb1, if_pos rfl, r2, pb2], hrf1, hkn⟩
    rcases (shx x2).symm with ⟨g1, g2⟩ | ⟨t, ht, rfl, g1, g2⟩
    · exact ⟨_, _, _, _, _, by unfold f_X9_settled f_X9_settled_33; rw [h1, pb1, if_neg i10, g1, pb1, if_pos rfl, r1, pb2], by unfold f_X10_settled f_X10_settled_21; rw [h2, pb1, if_neg i10, g2, pb1, if_pos rfl, r2, pb2], hrf1, hkn⟩
    rcases (shx x3).symm with ⟨f1, f2⟩ | ⟨u, hu, rfl, f1, f2⟩
    · exact ⟨_, _, _, _, _, by unfold f_X9_settled f_X9_settled_33; rw [h1, pb1, if_neg i10, g1, pb1, if_neg i10, f1, pb1, if_pos rfl, r1, pb2], by unfold f_X10_settled f_X10_settled_21; rw [h2, pb1, if_neg i10, g2, pb1, if_neg i10, f2, pb1, if_pos rfl, r2, pb2], hrf1, hkn⟩
    rcases (inx 1 (by decide) x4).symm with ⟨hx4, i4⟩ | ⟨w, hw, rfl, i4⟩
    · obtain ⟨a', b', e1, e2, hrf'⟩ := rf_1 hrf (-2) (by decide)
      have n0 : ¬ x4 = 0 := fun h => by rcases hx4 with q | q <;> rw [h] at q <;> exact absurd q (by decide)
      have n1 : ¬ x4 = 1 := fun h => by rcases hx4 with q | q <;> rw [h] at q <;> exact absurd q (by decide)
      exact ⟨_, _, _, _, _, by unfold f_X9_settled; rw [h1, pb1, if_neg i10, g1, pb1, if_neg i10, f1, pb1, if_neg i10, if_neg n0, if_neg n1, e1, pb2], by unfold f_X10_settled; rw [h2, pb1, if_neg i10, g2, pb1, if_neg i10, f2, pb1, if_neg i10, show (1 : Int32) = nI 1 from rfl, i4, pb1, if_pos rfl, e2, pb2], hrf', hkn⟩
    have e57 : f_X9_settled v9_refusals tz_R tz_L tz_S tz_O tz_C v5_known (nI s) (nI t) (nI u) (nI w) = f_X9_settled_57 tz_R tz_L tz_S tz_O tz_C v9_refusals v5_known (nI s) (nI t) (nI u) (nI w) := by
      unfold f_X9_settled
      rw [h1, pb1, if_neg i10, g1, pb1, if_neg i10, f1, pb1, if_neg i10]
      rcases (show w = 0 ∨ w = 1 by omega) with rfl | rfl
      · rw [if_pos (by rfl)]
      · rw [if_neg (by decide), if_pos (by rfl)]
    have w1 := k_canGrow s hs
    have w2 := k_canGrow t ht
    have w3 := k_canGrow u hu
    rw [e57]
    unfold f_X10_settled
    rw [h2, pb1, if_neg i10, g2, pb1, if_neg i10, f2, pb1, if_neg i10, show (f_X10_in (nI w) 0 1) = some 1 from i4, pb1, if_neg i10, pinn hs (by decide), nI_c s (by omega), pinn ht (by decide), nI_c t (by omega), pinn hu (by decide), nI_c u (by omega)]
    unfold f_X9_settled_57 f_X9_settled_81 f_X10_settled_74
    by_cases c1 : ¬ qz_S s ≤ 4
    · rw [if_neg c1] at w1
      exact ⟨_, _, _, _, _, by rw [w1, pb1, if_pos rfl, u1, pb2], by rw [if_pos ((tS_lt4 s hs).mpr c1), u2, pb2], hrf3, hkn⟩
    have c1 := Decidable.not_not.mp c1
    rw [if_pos c1] at w1
    by_cases c2 : ¬ qz_S t ≤ 4
    · rw [if_neg c2] at w2
      exact ⟨_, _, _, _, _, by rw [w1, pb1, if_neg i10, w2, pb1, if_pos rfl, u1, pb2], by rw [if_neg (fun h => (tS_lt4 s hs).mp h c1), if_pos ((tS_lt4 t ht).mpr c2), u2, pb2], hrf3, hkn⟩
    have c2 := Decidable.not_not.mp c2
    rw [if_pos c2] at w2
    by_cases c3 : ¬ qz_S u ≤ 4
    · rw [if_neg c3] at w3
      exact ⟨_, _, _, _, _, by rw [w1, pb1, if_neg i10, w2, pb1, if_neg i10, w3, pb1, if_pos rfl, u1, pb2], by rw [if_neg (fun h => (tS_lt4 s hs).mp h c1), if_neg (fun h => (tS_lt4 t ht).mp h c2), if_neg (fun h => c3 ((tS_le4 u hu).mp h)), u2, pb2], hrf3, hkn⟩
    have c3 := Decidable.not_not.mp c3
    rw [if_pos c3] at w3
    obtain ⟨known1, e1, hkn1⟩ := k_grown5 hs ht hu (show 8 < 9 by omega) c1 c2 c3 hkn
    obtain ⟨t1, m1⟩ := m_grown hs (show 8 < 9 by omega) c1 v10_tried
    obtain ⟨t2, m2⟩ := m_grown ht (show 8 < 9 by omega) c2 t1
    obtain ⟨t3, m3⟩ := m_grown hu (show 8 < 9 by omega) c3 t2
    obtain ⟨ev, hv⟩ := gr8 hs ht hu c1 c2 c3
    obtain ⟨p1, q1⟩ := (qg8_ok s hs).resolve_left (by omega)
    obtain ⟨p2, q2⟩ := (qg8_ok t ht).resolve_left (by omega)
    obtain ⟨p3, q3⟩ := (qg8_ok u hu).resolve_left (by omega)
    have n8 : qz_N 8 = 22 := by decide +kernel
    have e2 := m_number (show 8 < 9 by omega) (show qg8 s < qz_N 8 by omega) (show qg8 t < qz_N 8 by omega) (show qg8 u < qz_N 8 by omega)
    rw [← q1, ← q2, ← q3, ← ev] at e2
    rw [w1, pb1, if_neg i10, w2, pb1, if_neg i10, w3, pb1, if_neg i10, show (8 : Int32) = nI 8 from rfl, e1, pb2, if_neg hv, if_neg (fun h => (tS_lt4 s hs).mp h c1), if_neg (fun h => (tS_lt4 t ht).mp h c2), if_pos ((tS_le4 u hu).mpr c3), m1, pb2, m2, pb2, m3, pb2, e2, pb1]
    unfold f_X10_settled_122
    rcases (show w = 0 ∨ w = 1 by omega) with rfl | rfl
    · obtain ⟨r, known', tr', s1, s2, s3⟩ := set_loop hs ht hu c1 c2 c3 v9_refusals v10_refusals hv 8 1000 1000 (by omega) (by omega) (by omega) known1 t3 hkn1
      exact ⟨_, _, _, _, _, by rw [if_neg (by decide)]; exact s1, by rw [if_pos (by rfl)]; exact s3, hrf, s2⟩
    · refine ⟨nug s t u 8, v9_refusals, known1, v10_refusals, t3, by rw [if_pos (by rfl)], ?_, hrf, hkn1⟩
      rw [if_neg (by decide)]
      show gf_X10_settled_124 (f_X10_settled_124 tz_D tz_S tz_L tz_R tz_M 999) tz_D tz_S tz_L tz_R tz_M v10_refusals t3 (nI s) (nI t) (nI u) (nI 1) (nug s t u 8) (nI 8) 0 = _
      unfold gf_X10_settled_124
      rw [if_pos rfl, m_set222, if_neg (by decide)]
  obtain ⟨ro, a', k', b', t', e1, e2, hrf', hkn'⟩ := hall
  exact ⟨ro, a', k', b', t', e1, e2, Rl0_mk hc hm hrf' hkn' hle hli hsu⟩
