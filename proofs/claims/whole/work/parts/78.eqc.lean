theorem qR_le : ∀ s, s < 67 → ∀ r, r < 8 → qz_R (8 * s + r) ≤ 8 := by decide +kernel
theorem qR_pos : ∀ s, s < 67 → ∀ r, r < 8 → (r < qz_L s ↔ 0 < qz_R (8 * s + r)) := by decide +kernel
theorem qL_le : ∀ s, s < 67 → qz_L s ≤ 8 := by decide +kernel
def qhk (s r c : Nat) : Int32 := (f_X7_hookAt tz_R (nI s) (nI r) (nI c)).getD 99
theorem k_hookAt : ∀ s, s < 67 → ∀ r, r < 8 → ∀ c, c < qz_R (8 * s + r) → f_X7_hookAt tz_R (nI s) (nI r) (nI c) = some (qhk s r c) := by decide +kernel
theorem m_hookOf : ∀ s, s < 67 → ∀ r, r < 8 → ∀ c, c < qz_R (8 * s + r) → f_X10_hookOf tz_L tz_R (nI s) (nI r) (nI c) = some (qhk s r c) := by decide +kernel
theorem k_rowFar {s : Nat} (hs : s < 67) {x : Int32} (h : x < 0 ∨ nI 8 ≤ x) : f_X7_row tz_R (nI s) x = some 0 := by
  unfold f_X7_row
  rw [k_has s hs, pb1, if_neg i10]
  by_cases c : x < 0
  · rw [if_pos c]; rfl
  · rw [if_neg c, if_pos (show (8 : Int32) ≤ x from h.resolve_left c)]; rfl
theorem nIm1 {k : Nat} (h : 1 ≤ k) : nI k - 1 = nI (k - 1) := by
  obtain ⟨j, rfl⟩ : ∃ j, k = j + 1 := ⟨k - 1, by omega⟩
  exact nI_pred j
set_option maxRecDepth 10000 in
theorem eq_hook : EQ_hook Rl0 := by
  intro v9_refusals v7_rows v7_lengths v7_sizes v7_rests v7_orders v6_hooks v6_lefts v6_heights v1_table v5_known v8_sizes v8_coefficients v8_undoneSums v8_undos v8_nextUndo v8_imageTaken v0_totals v3_letters v3_count v3_next v3_size v4_values v4_lengths v10_firstOf v10_sizeOf v10_longOf v10_row v10_character v10_sum v10_coefficient v10_undone v10_wasSum v10_wasCoefficient v10_hasImage v10_letter v10_letters v10_list v10_cell v10_refusals v10_tried v10_left v10_high v10_then v10_at v10_readSize hR x1 x2 x3
  obtain ⟨hc, hm, hrf, hkn, hle, hli, hsu⟩ := hR
  have hc1 := hc
  have hm1 := hm
  obtain ⟨rfl, rfl, rfl, rfl, rfl, rfl, rfl, rfl, rfl⟩ := hc1
  obtain ⟨rfl, rfl, rfl, rfl, rfl⟩ := hm1
  rcases shx x1 with ⟨s, hs, rfl, h1, h2⟩ | ⟨h1, h2⟩
  · have hbad : f_X7_hasCell tz_R (nI s) x2 x3 = some 0 → (f_X10_hook tz_L tz_R v10_refusals (nI s) x2 x3 = f_X10_hook_39 tz_L tz_R v10_refusals) → ∃ ro ov9_refusals ov10_refusals, f_X9_hook v9_refusals tz_R (nI s) x2 x3 = some (ro, ov9_refusals) ∧ f_X10_hook tz_L tz_R v10_refusals (nI s) x2 x3 = some (ro, ov10_refusals) ∧ Rf ov9_refusals ov10_refusals := by
      intro g1 g2
      obtain ⟨a', b', e1, e2, hrf'⟩ := rf_1 hrf (-1) (by decide)
      exact ⟨_, _, _, by unfold f_X9_hook f_X9_hook_24; rw [h1, pb1, if_neg i10, g1, pb1, if_pos rfl, e1, pb2], by rw [g2]; unfold f_X10_hook_39; rw [e2, pb2], hrf'⟩
    have hfin : (∃ ro ov9_refusals ov10_refusals, f_X9_hook v9_refusals tz_R (nI s) x2 x3 = some (ro, ov9_refusals) ∧ f_X10_hook tz_L tz_R v10_refusals (nI s) x2 x3 = some (ro, ov10_refusals) ∧ Rf ov9_refusals ov10_refusals) := by
      have hl8 := qL_le s hs
      have hL : tz_L s - 1 = (if qz_L s = 0 then -1 else nI (qz_L s - 1)) := by
        by_cases c : qz_L s = 0
        · rw [if_pos c]; unfold tz_L; rw [c]; decide
        · rw [if_neg c]; exact nIm1 (by omega)
      rcases sh_or 8 (by decide) x2 with ⟨r, hr, rfl⟩ | hx
      · by_cases cr : r < qz_L s
        · have hp := (qR_pos s hs r hr).mp cr
          have h8 := qR_le s hs r hr
          have e3 := m_rowOf s hs r hr
          have e4 := k_row s hs r hr
          have e5 : f_X10_in (nI r) 0 (tz_L s - 1) = some 1 := by
            rw [hL, if_neg (by omega)]
            unfold f_X10_in
            rw [if_neg (nI_pos (by omega)), if_neg (nI_nlt (by omega) (by omega))]
          have e6 : tz_R (8 * s + r) - 1 = nI (qz_R (8 * s + r) - 1) := nIm1 (by omega)
          rcases inx (qz_R (8 * s + r) - 1) (by omega) x3 with ⟨c, hcc, rfl, g⟩ | ⟨g1, g⟩
          · refine ⟨qhk s r c, v9_refusals, v10_refusals, ?_, ?_, hrf⟩
            · unfold f_X9_hook f_X7_hasCell
              rw [h1, pb1, if_neg i10, if_neg (nI_pos (by omega)), if_neg (nI_pos (by omega)), e4, pb1, if_neg (show ¬ tz_R (8 * s + r) ≤ nI c from nI_ge (by omega) (by omega)), pb1, if_neg i10, k_hookAt s hs r hr c (by omega), pb1]
            · unfold f_X10_hook
              rw [h2, pb1, if_neg i10, pinn hs (by decide), nI_c s (by omega), e5, pb1, if_neg i10, e3, pb1, e6, g, pb1, if_neg i10, m_hookOf s hs r hr c (by omega), pb1]
          · apply hbad
            · unfold f_X7_hasCell
              rw [if_neg (nI_pos (by omega))]
              by_cases c : x3 < 0
              · rw [if_pos c]
              · rw [if_neg c, e4, pb1, if_pos]
                have := sl (by omega) (g1.resolve_left c)
                rw [show qz_R (8 * s + r) - 1 + 1 = qz_R (8 * s + r) by omega] at this
                exact this
            · unfold f_X10_hook
              rw [h2, pb1, if_neg i10, pinn hs (by decide), nI_c s (by omega), e5, pb1, if_neg i10, e3, pb1, e6, g, pb1, if_pos rfl]
        · have e4 := k_row s hs r hr
          have h0 : qz_R (8 * s + r) = 0 := by
            rcases Nat.eq_zero_or_pos (qz_R (8 * s + r)) with q | q
            · exact q
            · exact absurd ((qR_pos s hs r hr).mpr q) cr
          have e5 : f_X10_in (nI r) 0 (tz_L s - 1) = some 0 := by
            unfold f_X10_in
            rw [if_neg (nI_pos (by omega)), hL]
            by_cases c : qz_L s = 0
            · rw [if_pos c, if_pos (Int32.lt_of_lt_of_le (by decide) (nI_pos' (by omega)))]
            · rw [if_neg c, if_pos (nI_lt (by omega) (by omega))]
          apply hbad
          · unfold f_X7_hasCell
            rw [if_neg (nI_pos (by omega))]
            by_cases c : x3 < 0
            · rw [if_pos c]
            · rw [if_neg c, e4, pb1, if_pos]
              unfold tz_R
              rw [h0]
              exact Int32.not_lt.mp c
          · unfold f_X10_hook
            rw [h2, pb1, if_neg i10, pinn hs (by decide), nI_c s (by omega), e5, pb1, if_pos rfl]
      · have e5 : f_X10_in x2 0 (tz_L s - 1) = some 0 := by
          unfold f_X10_in
          by_cases c : x2 < 0
          · rw [if_pos c]
          · rw [if_neg c, hL]
            have h8 := hx.resolve_left c
            by_cases c2 : qz_L s = 0
            · rw [if_pos c2, if_pos (Int32.lt_of_lt_of_le (by decide) h8)]
            · rw [if_neg c2, if_pos (Int32.lt_of_lt_of_le (nI_lt (by omega) (by decide)) h8)]
        apply hbad
        · unfold f_X7_hasCell
          by_cases c : x2 < 0
          · rw [if_pos c]
          · rw [if_neg c]
            by_cases c2 : x3 < 0
            · rw [if_pos c2]
            · rw [if_neg c2, k_rowFar hs hx, pb1, if_pos (Int32.not_lt.mp c2)]
        · unfold f_X10_hook
          rw [h2, pb1, if_neg i10, pinn hs (by decide), nI_c s (by omega), e5, pb1, if_pos rfl]
    obtain ⟨ro, a', b', e1, e2, hrf'⟩ := hfin
    exact ⟨ro, a', b', e1, e2, Rl0_mk hc hm hrf' hkn hle hli hsu⟩
  · obtain ⟨a', b', e1, e2, hrf'⟩ := rf_1 hrf (-1) (by decide)
    exact ⟨_, _, _, by unfold f_X9_hook f_X9_hook_24; rw [h1, pb1, if_pos rfl, e1, pb2], by unfold f_X10_hook f_X10_hook_39; rw [h2, pb1, if_pos rfl, e2, pb2], Rl0_mk hc hm hrf' hkn hle hli hsu⟩
def oacc (k : Nat) (lo : Nat) : Nat → Nat
  | 0 => 0
  | d + 1 => oacc k lo d + (if kb (lo + d) k = 0 then 0 else 1)
def ocnt (n k : Nat) : Nat := oacc k (qz_D n) (qz_N n)
def odV (n k p : Nat) : Int64 := (f_X10_asPart (nI (ocnt n k)) (nI (qz_N n)) (nI p)).getD 77
theorem m_asPart : ∀ n, n < 9 → ∀ k, k < 7 → ∀ p, p < 2 → f_X10_asPart (nI (ocnt n k)) (nI (qz_N n)) (nI p) = some (odV n k p) := by decide +kernel
theorem k_kinds : ∀ n, n < 9 → ∀ k, k < 7 → f_X2_howMany tz_R tz_L tz_S (nI n) (nI k) = some (nI (ocnt n k)) := by decide +kernel
theorem k_least : ∀ n, n < 9 → ∀ k, k < 7 → ∀ p, p < 2 → (f_X9_inLeastTerms (if p = 0 then nI (ocnt n k) else nI (qz_N n)) (nI (ocnt n k)) (nI (qz_N n))).map Int32.toInt64 = some (odV n k p) := by decide +kernel
theorem qD_step : ∀ n, n < 9 → qz_D (n + 1) = qz_D n + qz_N n ∧ qz_D (n + 1) ≤ 67 := by decide +kernel
theorem m_odds61 {n k p : Nat} (hn : n < 9) (hk : k < 7) (hp : p < 2) (rf : Nat → Int32) : ∀ (d f j : Nat), j + d = qz_N n → d < f → ∀ t, ∃ t', f_X10_odds_61 tz_D tz_L tz_R f rf t (nI n) (nI k) (nI p) (nI (oacc k (qz_D n) j)) (nI (qz_D n + j)) = some (odV n k p, rf, t') := by
  obtain ⟨hD, hD2⟩ := qD_step n hn
  intro d
  induction d with
  | zero =>
    intro f j hj hf t
    obtain ⟨f, rfl⟩ : ∃ q, f = q + 1 := ⟨f - 1, by omega⟩
    obtain rfl : j = qz_N n := by omega
    refine ⟨t, ?_⟩
    show gf_X10_odds_61 (f_X10_odds_61 tz_D tz_L tz_R f) tz_D tz_L tz_R rf t (nI n) (nI k) (nI p) (nI (ocnt n k)) (nI (qz_D n + qz_N n)) = _
    unfold gf_X10_odds_61
    rw [show nI n + (1 : Int32) = nI (n + 1) from nI_1 n, pinn (by omega) (by decide), nI_c (n + 1) (by omega), if_pos (show tz_D (n + 1) ≤ nI (qz_D n + qz_N n) from nI_le (by omega) (by omega)), m_manyOf n hn, pb1, m_asPart n hn k hk p hp, pb1]
  | succ d ih =>
    intro f j hj hf t
    obtain ⟨f, rfl⟩ : ∃ q, f = q + 1 := ⟨f - 1, by omega⟩
    obtain ⟨t1, e1⟩ := m_isKind (qz_D n + j) (by omega) k hk t
    obtain ⟨t2, e2⟩ := ih f (j + 1) (by omega) (by omega) t1
    refine ⟨t2, ?_⟩
    show gf_X10_odds_61 (f_X10_odds_61 tz_D tz_L tz_R f) tz_D tz_L tz_R rf t (nI n) (nI k) (nI p) (nI (oacc k (qz_D n) j)) (nI (qz_D n + j)) = _
    unfold gf_X10_odds_61 f_X10_odds_91
    rw [show nI n + (1 : Int32) = nI (n + 1) from nI_1 n, pinn (by omega) (by decide), nI_c (n + 1) (by omega), if_neg (show ¬ tz_D (n + 1) ≤ nI (qz_D n + j) from nI_ge (by omega) (by omega)), e1, pb2, show nI (qz_D n + j) + (1 : Int32) = nI (qz_D n + (j + 1)) from nI_1 _]
    have e3 : oacc k (qz_D n) (j + 1) = oacc k (qz_D n) j + (if kb (qz_D n + j) k = 0 then 0 else 1) := rfl
    by_cases c : kb (qz_D n + j) k = 0
    · rw [if_pos c] at e3 ⊢
      rw [Int32.add_zero, show oacc k (qz_D n) j = oacc k (qz_D n) (j + 1) by omega]
      exact e2
    · rw [if_neg c] at e3 ⊢
      rw [show nI (oacc k (qz_D n) j) + (1 : Int32) = nI (oacc k (qz_D n) (j + 1)) by rw [e3]; exact nI_1 _]
      exact e2
set_option maxRecDepth 10000 in
theorem eq_odds : EQ_odds Rl0 := by
  intro v9_refusals v7_rows v7_lengths v7_sizes v7_rests v7_orders v6_hooks v6_lefts v6_heights v1_table v5_known v8_sizes v8_coefficients v8_undoneSums v8_undos v8_nextUndo v8_imageTaken v0_totals v3_letters v3_count v3_next v3_size v4_values v4_lengths v10_firstOf v10_sizeOf v10_longOf v10_row v10_character v10_sum v10_coefficient v10_undone v10_wasSum v10_wasCoefficient v10_hasImage v10_letter v10_letters v10_list v10_cell v10_refusals v10_tried v10_left v10_high v10_then v10_at v10_readSize hR x1 x2 x3
  obtain ⟨hc, hm, hrf, hkn, hle, hli, hsu⟩ := hR
  have hc1 := hc
  have hm1 := hm
  obtain ⟨rfl, rfl, rfl, rfl, rfl, rfl, rfl, rfl, rfl⟩ := hc1
  obtain ⟨rfl, rfl, rfl, rfl, rfl⟩ := hm1
  by_cases c1 : ¬ (0 : Int32) ≤ x1
  · obtain ⟨v, a', b', e1, e2, hrf'⟩ := rf_farl hrf (-4) (by decide)
    exact ⟨_, _, _, _, by unfold f_X9_odds; rw [if_neg c1, e1, pb2], by unfold f_X10_odds; rw [if_neg c1, e2, pb2], Rl0_mk hc hm hrf' hkn hle hli hsu⟩
  have c1 := Decidable.not_not.mp c1
  by_cases c2 : ¬ x1 ≤ 8
  · obtain ⟨v, a', b', e1, e2, hrf'⟩ := rf_farl hrf (-6) (by decide)
    exact ⟨_, _, _, _, by unfold f_X9_odds; rw [if_pos c1, if_neg c2, e1, pb2], by unfold f_X10_odds; rw [if_pos c1, if_neg c2, e2, pb2], Rl0_mk hc hm hrf' hkn hle hli hsu⟩
  have c2 := Decidable.not_not.mp c2
  obtain ⟨n, hn, rfl⟩ := k08 c1 c2
  obtain ⟨v, a', b', e1, e2, hrf'⟩ := rf_farl hrf (-2) (by decide)
  rcases inx 6 (by decide) x2 with ⟨k, hk, rfl, g2⟩ | ⟨g1, g2⟩
  · have n1 : ¬ nI k < 0 := nI_pos (by omega)
    have n2 : ¬ (7 : Int32) ≤ nI k := nI_ge (a := k) (b := 7) (by omega) (by decide)
    rcases inx 1 (by decide) x3 with ⟨p, hp, rfl, g4⟩ | ⟨g3, g4⟩
    · have n3 : ¬ nI p < 0 := nI_pos (by omega)
      have n4 : nI p ≤ (1 : Int32) := nI_le (a := p) (b := 1) hp (by decide)
      obtain ⟨t', e5⟩ := m_odds61 hn (show k < 7 by omega) (show p < 2 by omega) v10_refusals (qz_N n) 1000 0 (by omega) (by have := (qD_step n hn); omega) v10_tried
      have e6 := k_least n hn k (by omega) p (by omega)
      have e7 : f_X9_odds v9_refusals tz_R tz_L tz_S (nI n) (nI k) (nI p) = some (odV n k p, v9_refusals) := by
        unfold f_X9_odds f_X9_odds_82
        rw [if_pos c1, if_pos c2, if_neg n1, if_neg n2, if_neg n3, if_pos n4, k_kinds n hn k (by omega), pb1, k_countOf n hn, pb1]
        rcases (show p = 0 ∨ p = 1 by omega) with rfl | rfl
        · rw [if_pos (show nI 0 = 0 from rfl)]
          rw [if_pos rfl] at e6
          cases e : f_X9_inLeastTerms (nI (ocnt n k)) (nI (ocnt n k)) (nI (qz_N n)) with
          | none => rw [e] at e6; cases e6
          | some w => rw [e] at e6; rw [pb1, Option.some.inj e6]
        · rw [if_neg (show ¬ nI 1 = 0 by decide)]
          rw [if_neg (by decide)] at e6
          cases e : f_X9_inLeastTerms (nI (qz_N n)) (nI (ocnt n k)) (nI (qz_N n)) with
          | none => rw [e] at e6; cases e6
          | some w => rw [e] at e6; rw [pb1, Option.some.inj e6]
      exact ⟨_, _, _, _, e7, by unfold f_X10_odds; rw [if_pos c1, if_pos c2, show (6 : Int32) = nI 6 from rfl, g2, pb1, if_neg i10, show (1 : Int32) = nI 1 from rfl, g4, pb1, if_neg (by decide), pinn (by omega) (by decide), nI_c n (by omega)]; exact e5, Rl0_mk hc hm hrf hkn hle hli hsu⟩
    · have e7 : f_X9_odds v9_refusals tz_R tz_L tz_S (nI n) (nI k) x3 = some (v, a') := by
        unfold f_X9_odds f_X9_odds_43
        rw [if_pos c1, if_pos c2, if_neg n1, if_neg n2]
        by_cases c : x3 < 0
        · rw [if_pos c, e1, pb2]
        · rw [if_neg c, if_neg (Int32.not_le.mpr (show (1 : Int32) < x3 from g3.resolve_left c)), e1, pb2]
      exact ⟨_, _, _, _, e7, by unfold f_X10_odds f_X10_odds_43; rw [if_pos c1, if_pos c2, show (6 : Int32) = nI 6 from rfl, g2, pb1, if_neg i10, show (1 : Int32) = nI 1 from rfl, g4, pb1, if_pos rfl, e2, pb2], Rl0_mk hc hm hrf' hkn hle hli hsu⟩
  · have e7 : f_X9_odds v9_refusals tz_R tz_L tz_S (nI n) x2 x3 = some (v, a') := by
      unfold f_X9_odds f_X9_odds_43
      rw [if_pos c1, if_pos c2]
      by_cases c : x2 < 0
      · rw [if_pos c, e1, pb2]
      · rw [if_neg c, if_pos (show (7 : Int32) ≤ x2 from sl (m := 6) (by decide) (g1.resolve_left c)), e1, pb2]
    exact ⟨_, _, _, _, e7, by unfold f_X10_odds f_X10_odds_43; rw [if_pos c1, if_pos c2, show (6 : Int32) = nI 6 from rfl, g2, pb1, if_pos rfl, e2, pb2], Rl0_mk hc hm hrf' hkn hle hli hsu⟩
