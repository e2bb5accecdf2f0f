theorem k08 {x : Int32} (h1 : 0 ≤ x) (h2 : x ≤ 8) : ∃ n, n < 9 ∧ x = nI n := by
  obtain ⟨k, hk, rfl⟩ := nI_of2 (n := 8) (by decide) (Int32.not_lt.mpr h1) h2
  exact ⟨k, by omega, rfl⟩
theorem inx (m : Nat) (hm : m < 2 ^ 31) (x : Int32) : (∃ j, j ≤ m ∧ x = nI j ∧ f_X10_in x 0 (nI m) = some 1) ∨ ((x < 0 ∨ nI m < x) ∧ f_X10_in x 0 (nI m) = some 0) := by
  unfold f_X10_in
  by_cases h : x < 0
  · exact Or.inr ⟨Or.inl h, by rw [if_pos h]⟩
  · obtain ⟨j, hj, rfl⟩ := nI_of h
    by_cases h2 : j ≤ m
    · exact Or.inl ⟨j, h2, rfl, by rw [if_neg h, if_neg (nI_nlt h2 hm)]⟩
    · exact Or.inr ⟨Or.inr (nI_lt (by omega) hj), by rw [if_neg h, if_pos (nI_lt (by omega) hj)]⟩
theorem sl {m : Nat} (hm : m + 1 < 2 ^ 31) {x : Int32} (h : nI m < x) : nI (m + 1) ≤ x := by
  rw [Int32.lt_iff_toInt_lt, nI_toInt (by omega)] at h
  rw [Int32.le_iff_toInt_le, nI_toInt hm]
  omega
theorem m_manyOf : ∀ n, n < 9 → f_X10_manyOf tz_D (nI n) = some (nI (qz_N n)) := by decide +kernel
set_option maxRecDepth 10000 in
theorem eq_shapes : EQ_shapes Rl0 := by
  intro v9_refusals v7_rows v7_lengths v7_sizes v7_rests v7_orders v6_hooks v6_lefts v6_heights v1_table v5_known v8_sizes v8_coefficients v8_undoneSums v8_undos v8_nextUndo v8_imageTaken v0_totals v3_letters v3_count v3_next v3_size v4_values v4_lengths v10_firstOf v10_sizeOf v10_longOf v10_row v10_character v10_sum v10_coefficient v10_undone v10_wasSum v10_wasCoefficient v10_hasImage v10_letter v10_letters v10_list v10_cell v10_refusals v10_tried v10_left v10_high v10_then v10_at v10_readSize hR x1 x2
  obtain ⟨hc, hm, hrf, hkn, hle, hli, hsu⟩ := hR
  have hc1 := hc
  have hm1 := hm
  obtain ⟨rfl, rfl, rfl, rfl, rfl, rfl, rfl, rfl, rfl⟩ := hc1
  obtain ⟨rfl, rfl, rfl, rfl, rfl⟩ := hm1
  by_cases c1 : ¬ (0 : Int32) ≤ x1
  · obtain ⟨a', b', e1, e2, hrf'⟩ := rf_1 hrf (-4) (by decide)
    exact ⟨_, _, _, by unfold f_X9_shapes; rw [if_neg c1, e1, pb2], by unfold f_X10_shapes; rw [if_neg c1, e2, pb2], Rl0_mk hc hm hrf' hkn hle hli hsu⟩
  have c1 := Decidable.not_not.mp c1
  by_cases c2 : ¬ x1 ≤ 8
  · obtain ⟨a', b', e1, e2, hrf'⟩ := rf_1 hrf (-6) (by decide)
    exact ⟨_, _, _, by unfold f_X9_shapes; rw [if_pos c1, if_neg c2, e1, pb2], by unfold f_X10_shapes; rw [if_pos c1, if_neg c2, e2, pb2], Rl0_mk hc hm hrf' hkn hle hli hsu⟩
  have c2 := Decidable.not_not.mp c2
  obtain ⟨n, hn, rfl⟩ := k08 c1 c2
  by_cases d0 : x2 = 0
  · subst d0
    exact ⟨_, _, _, by unfold f_X9_shapes; rw [if_pos c1, if_pos c2, if_pos rfl, k_firstOf n hn, pb1], by unfold f_X10_shapes; rw [if_pos c1, if_pos c2, show f_X10_in 0 0 1 = some 1 by decide +kernel, pb1, if_neg i10, if_pos rfl, pinn (by omega) (by decide), nI_c n (by omega)]; rfl, Rl0_mk hc hm hrf hkn hle hli hsu⟩
  by_cases d1 : x2 = 1
  · subst d1
    exact ⟨_, _, _, by unfold f_X9_shapes; rw [if_pos c1, if_pos c2, if_neg d0, if_pos rfl, k_countOf n hn, pb1], by unfold f_X10_shapes; rw [if_pos c1, if_pos c2, show f_X10_in 1 0 1 = some 1 by decide +kernel, pb1, if_neg i10, if_neg d0, m_manyOf n hn, pb1], Rl0_mk hc hm hrf hkn hle hli hsu⟩
  · obtain ⟨a', b', e1, e2, hrf'⟩ := rf_1 hrf (-2) (by decide)
    have e3 : f_X10_in x2 0 1 = some 0 := by
      rcases inx 1 (by decide) x2 with ⟨j, hj, rfl, -⟩ | ⟨-, h⟩
      · rcases (show j = 0 ∨ j = 1 by omega) with rfl | rfl
        · exact absurd rfl d0
        · exact absurd rfl d1
      · exact h
    exact ⟨_, _, _, by unfold f_X9_shapes; rw [if_pos c1, if_pos c2, if_neg d0, if_neg d1, e1, pb2], by unfold f_X10_shapes; rw [if_pos c1, if_pos c2, e3, pb1, if_pos rfl, e2, pb2], Rl0_mk hc hm hrf' hkn hle hli hsu⟩
theorem k_alike : ∀ s, s < 67 → ∀ t, t < 67 → f_X7_alike tz_S (nI s) (nI t) = some (if qz_S s = qz_S t then 1 else 0) := by decide +kernel
theorem k_atM : ∀ s, s < 67 → ∀ t, t < 67 → ¬ qz_S s = qz_S t ∨ f_X1_at tz_S tz_C (nI s) (nI t) = some (tz_M (67 * s + t)) := by decide +kernel
theorem qS_16 : ∀ s, s < 67 → qz_S s < 16 := by decide +kernel
theorem tS_eq {s t : Nat} (hs : s < 67) (ht : t < 67) : tz_S s = tz_S t ↔ qz_S s = qz_S t := nI_eq (by have := qS_16 s hs; omega) (by have := qS_16 t ht; omega)
theorem rf_far {a b : Nat → Int32} (h : Rf a b) (r : Int32) (hr : r = -1 ∨ r = -2 ∨ r = -3 ∨ r = -4 ∨ r = -6) : ∃ v a' b', f_X9_refuseFar a r = some (v, a') ∧ f_X10_far b r = some (v, b') ∧ Rf a' b' := by
  obtain ⟨a', b', e1, e2, h'⟩ := rf_1 h r hr
  exact ⟨_, _, _, by unfold f_X9_refuseFar; rw [e1, pb2], by unfold f_X10_far; rw [e2, pb2], h'⟩
theorem rf_farl {a b : Nat → Int32} (h : Rf a b) (r : Int32) (hr : r = -1 ∨ r = -2 ∨ r = -3 ∨ r = -4 ∨ r = -6) : ∃ v a' b', f_X9_refuseFarLong a r = some (v, a') ∧ f_X10_farther b r = some (v, b') ∧ Rf a' b' := by
  obtain ⟨a', b', e1, e2, h'⟩ := rf_1 h r hr
  exact ⟨_, _, _, by unfold f_X9_refuseFarLong; rw [e1, pb2], by unfold f_X10_farther; rw [e2, pb2], h'⟩
theorem idx67 {s t : Nat} : (67 : Int32) * nI s + nI t = nI (67 * s + t) := by
  rw [← nI_add, show (67 : Int32) = nI 67 from rfl]
  congr 1
  unfold nI
  exact (Int32.ofNat_mul 67 s).symm
set_option maxRecDepth 10000 in
theorem eq_character : EQ_character Rl0 := by
  intro v9_refusals v7_rows v7_lengths v7_sizes v7_rests v7_orders v6_hooks v6_lefts v6_heights v1_table v5_known v8_sizes v8_coefficients v8_undoneSums v8_undos v8_nextUndo v8_imageTaken v0_totals v3_letters v3_count v3_next v3_size v4_values v4_lengths v10_firstOf v10_sizeOf v10_longOf v10_row v10_character v10_sum v10_coefficient v10_undone v10_wasSum v10_wasCoefficient v10_hasImage v10_letter v10_letters v10_list v10_cell v10_refusals v10_tried v10_left v10_high v10_then v10_at v10_readSize hR x1 x2
  obtain ⟨hc, hm, hrf, hkn, hle, hli, hsu⟩ := hR
  have hc1 := hc
  have hm1 := hm
  obtain ⟨rfl, rfl, rfl, rfl, rfl, rfl, rfl, rfl, rfl⟩ := hc1
  obtain ⟨rfl, rfl, rfl, rfl, rfl⟩ := hm1
  rcases shx x1 with ⟨s, hs, rfl, h1, h2⟩ | ⟨h1, h2⟩
  · rcases shx x2 with ⟨t, ht, rfl, g1, g2⟩ | ⟨g1, g2⟩
    · have e3 := k_alike s hs t ht
      by_cases c : qz_S s = qz_S t
      · rw [if_pos c] at e3
        have e4 := (k_atM s hs t ht).resolve_left (fun h => h c)
        exact ⟨_, _, _, by unfold f_X9_character; rw [h1, pb1, if_neg i10, g1, pb1, if_neg i10, e3, pb1, if_neg i10, e4, pb1], by unfold f_X10_character; rw [h2, pb1, if_neg i10, g2, pb1, if_neg i10, pinn hs (by decide), pinn ht (by decide), nI_c s (by omega), nI_c t (by omega), if_pos ((tS_eq hs ht).mpr c), idx67, pinn (by omega) (by decide), nI_c _ (by omega)], Rl0_mk hc hm hrf hkn hle hli hsu⟩
      · rw [if_neg c] at e3
        obtain ⟨v, a', b', e1, e2, hrf'⟩ := rf_far hrf (-3) (by decide)
        exact ⟨_, _, _, by unfold f_X9_character; rw [h1, pb1, if_neg i10, g1, pb1, if_neg i10, e3, pb1, if_pos rfl, e1, pb2], by unfold f_X10_character; rw [h2, pb1, if_neg i10, g2, pb1, if_neg i10, pinn hs (by decide), pinn ht (by decide), nI_c s (by omega), nI_c t (by omega), if_neg (fun h => c ((tS_eq hs ht).mp h)), e2, pb2], Rl0_mk hc hm hrf' hkn hle hli hsu⟩
    · obtain ⟨v, a', b', e1, e2, hrf'⟩ := rf_far hrf (-1) (by decide)
      exact ⟨_, _, _, by unfold f_X9_character f_X9_character_22; rw [h1, pb1, if_neg i10, g1, pb1, if_pos rfl, e1, pb2], by unfold f_X10_character f_X10_character_14; rw [h2, pb1, if_neg i10, g2, pb1, if_pos rfl, e2, pb2], Rl0_mk hc hm hrf' hkn hle hli hsu⟩
  · obtain ⟨v, a', b', e1, e2, hrf'⟩ := rf_far hrf (-1) (by decide)
    exact ⟨_, _, _, by unfold f_X9_character f_X9_character_22; rw [h1, pb1, if_pos rfl, e1, pb2], by unfold f_X10_character f_X10_character_14; rw [h2, pb1, if_pos rfl, e2, pb2], Rl0_mk hc hm hrf' hkn hle hli hsu⟩
theorem ag_grown36 {S L R : Nat → Int32} : ∀ (n : Nat) (t t0 : Nat → Int32) (y1 y4 r : Int32) (t0' : Nat → Int32), ag t t0 → f_X10_grownTo_36 S L R n t0 y1 y4 = some (r, t0') → ∃ t', f_X10_grownTo_36 S L R n t y1 y4 = some (r, t') := by
  intro n
  induction n with
  | zero => intro t t0 y1 y4 r t0' h hf; cases hf
  | succ n ih =>
    intro t t0 y1 y4 r t0' h hf
    have hf : gf_X10_grownTo_36 (f_X10_grownTo_36 S L R n) S L R t0 y1 y4 = some (r, t0') := hf
    show ∃ t', gf_X10_grownTo_36 (f_X10_grownTo_36 S L R n) S L R t y1 y4 = some (r, t')
    unfold gf_X10_grownTo_36 at hf ⊢
    obtain ⟨e0, hf⟩ := pe_in hf
    rw [pin e0]
    by_cases c : L y1.toNatClampNeg ≤ y4
    · rw [if_pos c] at hf ⊢
      rw [ag_shapeTried h]
      obtain ⟨q, e1, hf⟩ := pe_1 hf
      rw [e1]
      obtain ⟨rfl, rfl⟩ := po_2 hf
      exact ⟨_, rfl⟩
    · rw [if_neg c] at hf ⊢
      obtain ⟨q, e1, hf⟩ := pe_1 hf
      rw [e1]
      obtain ⟨e2, hf⟩ := pe_in hf
      obtain ⟨t', e3⟩ := ih _ _ _ _ _ _ (ag_upd h _ _) hf
      refine ⟨t', ?_⟩
      rw [pb1, pin e2]
      exact e3
theorem ag_grownTo {S L R : Nat → Int32} (t t0 : Nat → Int32) (x1 x2 r : Int32) (t0' : Nat → Int32) (hf : f_X10_grownTo S L R t0 x1 x2 = some (r, t0')) : ∃ t', f_X10_grownTo S L R t x1 x2 = some (r, t') := by
  unfold f_X10_grownTo at hf ⊢
  obtain ⟨e0, hf⟩ := pe_in hf
  rw [pin e0]
  obtain ⟨q, e1, hf⟩ := pe_1 hf
  rw [e1, pb1]
  by_cases c : q ≤ x2 - S x1.toNatClampNeg
  · rw [if_pos c] at hf ⊢
    obtain ⟨u, e2, hf⟩ := pe_1 hf
    obtain ⟨u1, e3, a1⟩ := m_triesNone t
    obtain ⟨u9, e4, a2⟩ := m_triesNone t0
    have e9 : u = u9 := Option.some.inj (e2.symm.trans e4)
    subst e9
    rw [e3, pb1]
    obtain ⟨e5, hf⟩ := pe_in hf
    rw [pin e5]
    exact ag_grown36 _ _ _ _ _ _ _ (ag_upd (fun j hj => (a1 j hj).trans (a2 j hj).symm) _ _) hf
  · rw [if_neg c] at hf ⊢
    obtain ⟨rfl, rfl⟩ := po_2 hf
    exact ⟨_, rfl⟩
def qgr (s n : Nat) : Int32 := (f_X7_grownTo tz_R tz_L tz_S (nI s) (nI n)).getD 99
theorem k_grown : ∀ s, s < 67 → ∀ n, n < 9 → 4 < qz_S s ∨ f_X7_grownTo tz_R tz_L tz_S (nI s) (nI n) = some (qgr s n) := by decide +kernel
theorem m_grown0 : ∀ s, s < 67 → ∀ n, n < 9 → 4 < qz_S s ∨ (f_X10_grownTo tz_S tz_L tz_R (fun _ => 0) (nI s) (nI n)).map (·.1) = some (qgr s n) := by decide +kernel
theorem m_grown {s n : Nat} (hs : s < 67) (hn : n < 9) (h4 : qz_S s ≤ 4) (t : Nat → Int32) : ∃ t', f_X10_grownTo tz_S tz_L tz_R t (nI s) (nI n) = some (qgr s n, t') := by
  have k1 := (m_grown0 s hs n hn).resolve_left (by omega)
  cases e : f_X10_grownTo tz_S tz_L tz_R (fun _ => 0) (nI s) (nI n) with
  | none => rw [e] at k1; cases k1
  | some q =>
    rw [e] at k1
    obtain ⟨r, t0'⟩ := q
    have k2 : r = qgr s n := Option.some.inj k1
    subst k2
    exact ag_grownTo t _ _ _ _ _ e
theorem k_canGrow : ∀ s, s < 67 → f_X9_canGrow tz_S (nI s) = some (if qz_S s ≤ 4 then 1 else 0) := by decide +kernel
theorem tS_le4 : ∀ s, s < 67 → (tz_S s ≤ 4 ↔ qz_S s ≤ 4) := by decide +kernel
set_option maxRecDepth 10000 in
theorem eq_grown : EQ_grown Rl0 := by
  intro v9_refusals v7_rows v7_lengths v7_sizes v7_rests v7_orders v6_hooks v6_lefts v6_heights v1_table v5_known v8_sizes v8_coefficients v8_undoneSums v8_undos v8_nextUndo v8_imageTaken v0_totals v3_letters v3_count v3_next v3_size v4_values v4_lengths v10_firstOf v10_sizeOf v10_longOf v10_row v10_character v10_sum v10_coefficient v10_undone v10_wasSum v10_wasCoefficient v10_hasImage v10_letter v10_letters v10_list v10_cell v10_refusals v10_tried v10_left v10_high v10_then v10_at v10_readSize hR x1 x2
  obtain ⟨hc, hm, hrf, hkn, hle, hli, hsu⟩ := hR
  have hc1 := hc
  have hm1 := hm
  obtain ⟨rfl, rfl, rfl, rfl, rfl, rfl, rfl, rfl, rfl⟩ := hc1
  obtain ⟨rfl, rfl, rfl, rfl, rfl⟩ := hm1
  rcases shx x1 with ⟨s, hs, rfl, h1, h2⟩ | ⟨h1, h2⟩
  · by_cases c1 : ¬ (0 : Int32) ≤ x2
    · obtain ⟨a', b', e1, e2, hrf'⟩ := rf_1 hrf (-4) (by decide)
      exact ⟨_, _, _, _, by unfold f_X9_grown; rw [h1, pb1, if_neg i10, if_neg c1, e1, pb2], by unfold f_X10_grown; rw [h2, pb1, if_neg i10, if_neg c1, e2, pb2], Rl0_mk hc hm hrf' hkn hle hli hsu⟩
    have c1 := Decidable.not_not.mp c1
    by_cases c2 : ¬ x2 ≤ 8
    · obtain ⟨a', b', e1, e2, hrf'⟩ := rf_1 hrf (-6) (by decide)
      exact ⟨_, _, _, _, by unfold f_X9_grown; rw [h1, pb1, if_neg i10, if_pos c1, if_neg c2, e1, pb2], by unfold f_X10_grown; rw [h2, pb1, if_neg i10, if_pos c1, if_neg c2, e2, pb2], Rl0_mk hc hm hrf' hkn hle hli hsu⟩
    have c2 := Decidable.not_not.mp c2
    obtain ⟨n, hn, rfl⟩ := k08 c1 c2
    have e3 := k_canGrow s hs
    by_cases c : qz_S s ≤ 4
    · rw [if_pos c] at e3
      have e4 := (k_grown s hs n hn).resolve_left (by omega)
      obtain ⟨t', e5⟩ := m_grown hs hn c v10_tried
      exact ⟨_, _, _, _, by unfold f_X9_grown; rw [h1, pb1, if_neg i10, if_pos c1, if_pos c2, e3, pb1, if_neg i10, e4, pb1], by unfold f_X10_grown; rw [h2, pb1, if_neg i10, if_pos c1, if_pos c2, pinn hs (by decide), nI_c s (by omega), if_pos ((tS_le4 s hs).mpr c), e5, pb2], Rl0_mk hc hm hrf hkn hle hli hsu⟩
    · rw [if_neg c] at e3
      obtain ⟨a', b', e1, e2, hrf'⟩ := rf_1 hrf (-3) (by decide)
      exact ⟨_, _, _, _, by unfold f_X9_grown; rw [h1, pb1, if_neg i10, if_pos c1, if_pos c2, e3, pb1, if_pos rfl, e1, pb2], by unfold f_X10_grown; rw [h2, pb1, if_neg i10, if_pos c1, if_pos c2, pinn hs (by decide), nI_c s (by omega), if_neg (fun h => c ((tS_le4 s hs).mp h)), e2, pb2], Rl0_mk hc hm hrf' hkn hle hli hsu⟩
  · obtain ⟨a', b', e1, e2, hrf'⟩ := rf_1 hrf (-1) (by decide)
    exact ⟨_, _, _, _, by unfold f_X9_grown; rw [h1, pb1, if_pos rfl, e1, pb2], by unfold f_X10_grown; rw [h2, pb1, if_pos rfl, e2, pb2], Rl0_mk hc hm hrf' hkn hle hli hsu⟩
