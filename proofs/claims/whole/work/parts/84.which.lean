theorem fo_loop {l n s : Nat} (hl : l < 3) (hn : n ≤ 40) (hs : s < 67) {values lengths list cell : Nat → Int32} (e : lengths l = nI n) (g1 : lengths l = list l) (g3 : ∀ i, i < n → values (40 * l + i) = cell (40 * l + i)) : ∀ (d f g p : Nat), p + d = qz_N (qz_S s) → d < f → d < g → ∃ r, f_X9_firstOtherwise_19 tz_S tz_C values lengths f (nI l) (nI s) (nI (qz_N (qz_S s))) (nI p) = some r ∧ f_X10_otherBy_10 tz_D tz_S tz_M list cell g (nI l) (nI s) (nI (qz_S s)) (nI p) = some r := by
  obtain ⟨p1, p2, p3⟩ := shp s hs
  have hN := qN_le _ p1
  intro d
  induction d with
  | zero =>
    intro f g p hp hf hg
    obtain ⟨f, rfl⟩ : ∃ z, f = z + 1 := ⟨f - 1, by omega⟩
    obtain ⟨g, rfl⟩ : ∃ z, g = z + 1 := ⟨g - 1, by omega⟩
    obtain rfl : p = qz_N (qz_S s) := by omega
    refine ⟨if nI n ≤ nI (qz_N (qz_S s)) then -9 else nI (qz_N (qz_S s)), ?_, ?_⟩
    · show gf_X9_firstOtherwise_19 (f_X9_firstOtherwise_19 tz_S tz_C values lengths f) tz_S tz_C values lengths (nI l) (nI s) _ _ = _
      unfold gf_X9_firstOtherwise_19
      rw [k_len4 hl, pb1, e]
      by_cases c : nI n ≤ nI (qz_N (qz_S s))
      · rw [if_pos c, if_pos c]
      · rw [if_neg c, if_neg c, if_pos (Int32.le_refl _)]
    · show gf_X10_otherBy_10 (f_X10_otherBy_10 tz_D tz_S tz_M list cell g) tz_D tz_S tz_M list cell (nI l) (nI s) _ _ = _
      unfold gf_X10_otherBy_10
      rw [pinn hl (by decide), nI_c l (by omega), ← g1, e]
      by_cases c : nI n ≤ nI (qz_N (qz_S s))
      · rw [if_pos c, if_pos c]
      · rw [if_neg c, if_neg c, m_manyOf _ p1, pb1, if_pos rfl]
  | succ d ih =>
    intro f g p hp hf hg
    obtain ⟨f, rfl⟩ : ∃ z, f = z + 1 := ⟨f - 1, by omega⟩
    obtain ⟨g, rfl⟩ : ∃ z, g = z + 1 := ⟨g - 1, by omega⟩
    obtain ⟨r, e1, e2⟩ := ih f g (p + 1) (by omega) (by omega) (by omega)
    have hDp := (shD _ p1 p (by omega)).1
    have s1 : f_X9_firstOtherwise_19 tz_S tz_C values lengths (f + 1) (nI l) (nI s) (nI (qz_N (qz_S s))) (nI p) = (if nI n ≤ nI p then some (-9) else if values (40 * l + p) = tz_C (22 * s + p) then f_X9_firstOtherwise_19 tz_S tz_C values lengths f (nI l) (nI s) (nI (qz_N (qz_S s))) (nI (p + 1)) else some (nI p)) := by
      show gf_X9_firstOtherwise_19 (f_X9_firstOtherwise_19 tz_S tz_C values lengths f) tz_S tz_C values lengths (nI l) (nI s) _ _ = _
      unfold gf_X9_firstOtherwise_19
      rw [k_len4 hl, pb1, e]
      by_cases c : nI n ≤ nI p
      · rw [if_pos c, if_pos c]
      · have hpn : p < n := by
          rcases Nat.lt_or_ge p n with h | h
          · exact h
          · exact absurd (nI_le h (by omega)) c
        rw [if_neg c, if_neg c, if_neg (nI_ge (by omega) (by omega)), k_at4 hl hn e hpn, pb1, k_atPlace s hs p (by omega), pb1, show nI p + (1 : Int32) = nI (p + 1) from nI_1 p]
    have s2 : f_X10_otherBy_10 tz_D tz_S tz_M list cell (g + 1) (nI l) (nI s) (nI (qz_S s)) (nI p) = (if nI n ≤ nI p then some (-9) else if values (40 * l + p) = tz_C (22 * s + p) then f_X10_otherBy_10 tz_D tz_S tz_M list cell g (nI l) (nI s) (nI (qz_S s)) (nI (p + 1)) else some (nI p)) := by
      show gf_X10_otherBy_10 (f_X10_otherBy_10 tz_D tz_S tz_M list cell g) tz_D tz_S tz_M list cell (nI l) (nI s) _ _ = _
      unfold gf_X10_otherBy_10
      rw [pinn hl (by decide), nI_c l (by omega), ← g1, e]
      by_cases c : nI n ≤ nI p
      · rw [if_pos c, if_pos c]
      · have hpn : p < n := by
          rcases Nat.lt_or_ge p n with h | h
          · exact h
          · exact absurd (nI_le h (by omega)) c
        have hne : ¬ nI p = nI (qz_N (qz_S s)) := fun h => by have := (nI_eq (by omega) (by omega)).mp h; omega
        rw [if_neg c, if_neg c, m_manyOf _ p1, pb1, if_neg hne, ix40m, pinn (by omega) (by decide), pinn (by omega) (by decide), nI_c (qz_S s) (by omega), show (67 : Int32) * nI s + tz_D (qz_S s) + nI p = nI (67 * s + (qz_D (qz_S s) + p)) by rw [show tz_D (qz_S s) = nI (qz_D (qz_S s)) from rfl, idx67, nI_add, Nat.add_assoc], pinn (by omega) (by decide), nI_c (67 * s + (qz_D (qz_S s) + p)) (by omega), nI_c (40 * l + p) (by omega), mC s hs p (by omega), ← g3 p hpn, show nI p + (1 : Int32) = nI (p + 1) from nI_1 p]
    rw [s1, s2]
    by_cases c : nI n ≤ nI p
    · rw [if_pos c, if_pos c]; exact ⟨_, rfl, rfl⟩
    · rw [if_neg c, if_neg c]
      by_cases c2 : values (40 * l + p) = tz_C (22 * s + p)
      · rw [if_pos c2, if_pos c2]; exact ⟨r, e1, e2⟩
      · rw [if_neg c2, if_neg c2]; exact ⟨_, rfl, rfl⟩
theorem fo_both {l n s : Nat} (hl : l < 3) (hn : n ≤ 40) (hs : s < 67) {values lengths list cell : Nat → Int32} (e : lengths l = nI n) (g1 : lengths l = list l) (g3 : ∀ i, i < n → values (40 * l + i) = cell (40 * l + i)) : ∃ r, f_X9_firstOtherwise tz_S tz_C values lengths (nI l) (nI s) = some r ∧ f_X10_otherBy tz_D tz_S tz_M list cell (nI l) (nI s) = some r := by
  obtain ⟨p1, p2, p3⟩ := shp s hs
  have hN := qN_le _ p1
  obtain ⟨r, e1, e2⟩ := fo_loop hl hn hs e g1 g3 (qz_N (qz_S s)) 1000 1000 0 (by omega) (by omega) (by omega)
  refine ⟨r, ?_, ?_⟩
  · unfold f_X9_firstOtherwise
    rw [k_sizeN s hs, pb1, k_countOf _ p1, pb1]
    exact e1
  · unfold f_X10_otherBy
    rw [pinn hs (by decide), nI_c s (by omega)]
    exact e2
set_option maxRecDepth 10000 in
theorem eq_judge : EQ_judge Rl0 := by
  intro v9_refusals v7_rows v7_lengths v7_sizes v7_rests v7_orders v6_hooks v6_lefts v6_heights v1_table v5_known v8_sizes v8_coefficients v8_undoneSums v8_undos v8_nextUndo v8_imageTaken v0_totals v3_letters v3_count v3_next v3_size v4_values v4_lengths v10_firstOf v10_sizeOf v10_longOf v10_row v10_character v10_sum v10_coefficient v10_undone v10_wasSum v10_wasCoefficient v10_hasImage v10_letter v10_letters v10_list v10_cell v10_refusals v10_tried v10_left v10_high v10_then v10_at v10_readSize hR x1 x2
  obtain ⟨hc, hm, hrf, hkn, hle, hli, hsu⟩ := hR
  have hc1 := hc
  have hm1 := hm
  obtain ⟨rfl, rfl, rfl, rfl, rfl, rfl, rfl, rfl, rfl⟩ := hc1
  obtain ⟨rfl, rfl, rfl, rfl, rfl⟩ := hm1
  rcases (lix x1).symm with ⟨h1, h2⟩ | ⟨l, hl, rfl, h1, h2⟩
  · obtain ⟨a', b', e1, e2, hrf'⟩ := rf_1 hrf (-1) (by decide)
    exact ⟨_, _, _, by unfold f_X9_judge f_X9_judge_22; rw [h1, pb1, if_pos rfl, e1, pb2], by unfold f_X10_judge f_X10_judge_14; rw [h2, pb1, if_pos rfl, e2, pb2], Rl0_mk hc hm hrf' hkn hle hli hsu⟩
  rcases (shx x2).symm with ⟨f1, f2⟩ | ⟨s, hs, rfl, f1, f2⟩
  · obtain ⟨a', b', e1, e2, hrf'⟩ := rf_1 hrf (-1) (by decide)
    exact ⟨_, _, _, by unfold f_X9_judge f_X9_judge_22; rw [h1, pb1, if_neg i10, f1, pb1, if_pos rfl, e1, pb2], by unfold f_X10_judge f_X10_judge_14; rw [h2, pb1, if_neg i10, f2, pb1, if_pos rfl, e2, pb2], Rl0_mk hc hm hrf' hkn hle hli hsu⟩
  obtain ⟨g1, g2⟩ := hli l hl
  rcases g2 with g2 | ⟨n, hn, e, g3⟩
  · exact ⟨_, _, _, by unfold f_X9_judge; rw [h1, pb1, if_neg i10, f1, pb1, if_neg i10, k_miss1 hl g2, pb1, if_neg i10], by unfold f_X10_judge; rw [h2, pb1, if_neg i10, f2, pb1, if_neg i10, pinn hl (by decide), nI_c l (by omega), ← g1, g2, if_neg le_m1], Rl0_mk hc hm hrf hkn hle hli hsu⟩
  obtain ⟨r, e1, e2⟩ := fo_both hl hn hs e g1 g3
  exact ⟨_, _, _, by unfold f_X9_judge; rw [h1, pb1, if_neg i10, f1, pb1, if_neg i10, k_miss0 hl hn e, pb1, if_pos rfl, e1, pb1], by unfold f_X10_judge; rw [h2, pb1, if_neg i10, f2, pb1, if_neg i10, pinn hl (by decide), nI_c l (by omega), ← g1, e, if_pos (nI_pos' (by omega)), e2, pb1], Rl0_mk hc hm hrf hkn hle hli hsu⟩
/-- which: counted up and down -/
def cUp (rr : Nat → Int32) (D : Nat) : Nat → Nat
  | 0 => 0
  | p + 1 => cUp rr D p + (if rr (D + p) = -9 then 1 else 0)
def lFirst (rr : Nat → Int32) (D : Nat) : Nat → Nat → Int32
  | 0, _ => -9
  | d + 1, p => if rr (D + p) = -9 then nI (D + p) else lFirst rr D d (p + 1)
theorem cUp_mono (rr : Nat → Int32) (D : Nat) : ∀ p, cUp rr D p ≤ p
  | 0 => Nat.le_refl _
  | p + 1 => by
    have := cUp_mono rr D p
    show cUp rr D p + (if rr (D + p) = -9 then 1 else 0) ≤ p + 1
    split <;> omega
theorem w_many {n : Nat} (hn : n < 9) {values lengths : Nat → Int32} {l : Nat} {rr : Nat → Int32} (hr : ∀ s, s < 67 → f_X9_firstOtherwise tz_S tz_C values lengths (nI l) (nI s) = some (rr s)) : ∀ (d f p : Nat), p + d = qz_N n → d < f → f_X9_howManyBegin_31 tz_S tz_C values lengths f (nI l) (nI (cUp rr (qz_D n) p)) (nI (qz_D n + qz_N n)) (nI (qz_D n + p)) = some (nI (cUp rr (qz_D n) (qz_N n))) := by
  have hN := qN_le n hn
  obtain ⟨hD, hD2⟩ := qD_step n hn
  intro d
  induction d with
  | zero =>
    intro f p hp hf
    obtain ⟨f, rfl⟩ : ∃ z, f = z + 1 := ⟨f - 1, by omega⟩
    obtain rfl : p = qz_N n := by omega
    show gf_X9_howManyBegin_31 (f_X9_howManyBegin_31 tz_S tz_C values lengths f) tz_S tz_C values lengths (nI l) _ _ _ = _
    unfold gf_X9_howManyBegin_31
    rw [if_pos (Int32.le_refl _)]
  | succ d ih =>
    intro f p hp hf
    obtain ⟨f, rfl⟩ : ∃ z, f = z + 1 := ⟨f - 1, by omega⟩
    have e := ih f (p + 1) (by omega) (by omega)
    have e3 : cUp rr (qz_D n) (p + 1) = cUp rr (qz_D n) p + (if rr (qz_D n + p) = -9 then 1 else 0) := rfl
    show gf_X9_howManyBegin_31 (f_X9_howManyBegin_31 tz_S tz_C values lengths f) tz_S tz_C values lengths (nI l) _ _ _ = _
    unfold gf_X9_howManyBegin_31
    rw [if_neg (nI_ge (by omega) (by omega)), hr _ (by omega), pb1, show nI (qz_D n + p) + (1 : Int32) = nI (qz_D n + (p + 1)) from nI_1 _]
    by_cases c : rr (qz_D n + p) = -9
    · rw [if_pos c] at e3 ⊢
      rw [show nI (cUp rr (qz_D n) p) + (1 : Int32) = nI (cUp rr (qz_D n) (p + 1)) by rw [e3]; exact nI_1 _]
      exact e
    · rw [if_neg c] at e3 ⊢
      rw [show cUp rr (qz_D n) p = cUp rr (qz_D n) (p + 1) by omega]
      exact e
theorem w_least {n : Nat} (hn : n < 9) {values lengths : Nat → Int32} {l : Nat} {rr : Nat → Int32} (hr : ∀ s, s < 67 → f_X9_firstOtherwise tz_S tz_C values lengths (nI l) (nI s) = some (rr s)) : ∀ (d f p : Nat), p + d = qz_N n → d < f → f_X9_leastThatBegins_28 tz_S tz_C values lengths f (nI l) (nI (qz_D n + qz_N n)) (nI (qz_D n + p)) = some (lFirst rr (qz_D n) d p) := by
  have hN := qN_le n hn
  obtain ⟨hD, hD2⟩ := qD_step n hn
  intro d
  induction d with
  | zero =>
    intro f p hp hf
    obtain ⟨f, rfl⟩ : ∃ z, f = z + 1 := ⟨f - 1, by omega⟩
    obtain rfl : p = qz_N n := by omega
    show gf_X9_leastThatBegins_28 (f_X9_leastThatBegins_28 tz_S tz_C values lengths f) tz_S tz_C values lengths (nI l) _ _ = _
    unfold gf_X9_leastThatBegins_28
    rw [if_pos (Int32.le_refl _)]
    rfl
  | succ d ih =>
    intro f p hp hf
    obtain ⟨f, rfl⟩ : ∃ z, f = z + 1 := ⟨f - 1, by omega⟩
    have e := ih f (p + 1) (by omega) (by omega)
    show gf_X9_leastThatBegins_28 (f_X9_leastThatBegins_28 tz_S tz_C values lengths f) tz_S tz_C values lengths (nI l) _ _ = _
    unfold gf_X9_leastThatBegins_28
    rw [if_neg (nI_ge (by omega) (by omega)), hr _ (by omega), pb1, show nI (qz_D n + p) + (1 : Int32) = nI (qz_D n + (p + 1)) from nI_1 _]
    have e3 : lFirst rr (qz_D n) (d + 1) p = if rr (qz_D n + p) = -9 then nI (qz_D n + p) else lFirst rr (qz_D n) d (p + 1) := rfl
    rw [e3]
    by_cases c : rr (qz_D n + p) = -9
    · rw [if_pos c, if_pos c]
    · rw [if_neg c, if_neg c]; exact e
theorem dn1 {k : Nat} : nI (k + 1) - 1 = nI k := nI_pred k
theorem w_down {n : Nat} (hn : n < 9) {list cell : Nat → Int32} {l : Nat} {rr : Nat → Int32} (hr : ∀ s, s < 67 → f_X10_otherBy tz_D tz_S tz_M list cell (nI l) (nI s) = some (rr s)) (rb : Nat → Int32) (w : Int32) : ∀ (p d f : Nat), p + d = qz_N n → p < f → f_X10_which_84 tz_D tz_S tz_M list cell f rb (nI l) (nI n) w (nI (cUp rr (qz_D n) (qz_N n) - cUp rr (qz_D n) p)) (lFirst rr (qz_D n) d p) (nI (qz_D n + p) - 1) = (if w = 0 then some (nI (cUp rr (qz_D n) (qz_N n)), rb) else some (lFirst rr (qz_D n) (qz_N n) 0, rb)) := by
  have hN := qN_le n hn
  obtain ⟨hD, hD2⟩ := qD_step n hn
  intro p
  induction p with
  | zero =>
    intro d f hp hf
    obtain ⟨f, rfl⟩ : ∃ z, f = z + 1 := ⟨f - 1, by omega⟩
    obtain rfl : d = qz_N n := by omega
    show gf_X10_which_84 (f_X10_which_84 tz_D tz_S tz_M list cell f) tz_D tz_S tz_M list cell rb (nI l) (nI n) w _ _ _ = _
    unfold gf_X10_which_84
    have hlt : nI (qz_D n + 0) - 1 < tz_D n := by
      show nI (qz_D n + 0) - 1 < nI (qz_D n)
      rw [Nat.add_zero]
      rcases Nat.eq_zero_or_pos (qz_D n) with h | h
      · rw [h]; decide
      · rw [nIm1 h]; exact nI_lt (by omega) (by omega)
    rw [pinn (by omega) (by decide), nI_c n (by omega), if_pos hlt, show cUp rr (qz_D n) 0 = 0 from rfl, Nat.sub_zero]
  | succ p ih =>
    intro d f hp hf
    obtain ⟨f, rfl⟩ : ∃ z, f = z + 1 := ⟨f - 1, by omega⟩
    have e := ih (d + 1) f (by omega) (by omega)
    have e3 : cUp rr (qz_D n) (p + 1) = cUp rr (qz_D n) p + (if rr (qz_D n + p) = -9 then 1 else 0) := rfl
    have hmon : ∀ a b, cUp rr (qz_D n) a ≤ cUp rr (qz_D n) (a + b) := by
      intro a b
      induction b with
      | zero => exact Nat.le_refl _
      | succ b ihb => exact Nat.le_trans ihb (Nat.le_add_right _ _)
    have hm1 := hmon (p + 1) d
    rw [show p + 1 + d = qz_N n by omega] at hm1
    have e4 : lFirst rr (qz_D n) (d + 1) p = if rr (qz_D n + p) = -9 then nI (qz_D n + p) else lFirst rr (qz_D n) d (p + 1) := rfl
    show gf_X10_which_84 (f_X10_which_84 tz_D tz_S tz_M list cell f) tz_D tz_S tz_M list cell rb (nI l) (nI n) w _ _ _ = _
    unfold gf_X10_which_84
    rw [show nI (qz_D n + (p + 1)) - 1 = nI (qz_D n + p) from nI_pred _, pinn (by omega) (by decide), nI_c n (by omega), if_neg (show ¬ nI (qz_D n + p) < tz_D n from nI_nlt (by omega) (by omega)), hr _ (by omega), pb1, ← Int32.sub_eq_add_neg]
    by_cases c : rr (qz_D n + p) = -9
    · rw [if_pos c] at e3 e4 ⊢
      rw [show nI (cUp rr (qz_D n) (qz_N n) - cUp rr (qz_D n) (p + 1)) + (1 : Int32) = nI (cUp rr (qz_D n) (qz_N n) - cUp rr (qz_D n) p) by rw [show (nI (cUp rr (qz_D n) (qz_N n) - cUp rr (qz_D n) (p + 1)) + (1 : Int32)) = nI (cUp rr (qz_D n) (qz_N n) - cUp rr (qz_D n) (p + 1) + 1) from nI_1 _]; congr 1; omega]
      rw [e4] at e
      exact e
    · rw [if_neg c] at e3 e4 ⊢
      rw [show cUp rr (qz_D n) (p + 1) = cUp rr (qz_D n) p by omega]
      rw [e4] at e
      exact e
set_option maxRecDepth 10000 in
theorem eq_which : EQ_which Rl0 := by
  intro v9_refusals v7_rows v7_lengths v7_sizes v7_rests v7_orders v6_hooks v6_lefts v6_heights v1_table v5_known v8_sizes v8_coefficients v8_undoneSums v8_undos v8_nextUndo v8_imageTaken v0_totals v3_letters v3_count v3_next v3_size v4_values v4_lengths v10_firstOf v10_sizeOf v10_longOf v10_row v10_character v10_sum v10_coefficient v10_undone v10_wasSum v10_wasCoefficient v10_hasImage v10_letter v10_letters v10_list v10_cell v10_refusals v10_tried v10_left v10_high v10_then v10_at v10_readSize hR x1 x2 x3
  obtain ⟨hc, hm, hrf, hkn, hle, hli, hsu⟩ := hR
  have hc1 := hc
  have hm1 := hm
  obtain ⟨rfl, rfl, rfl, rfl, rfl, rfl, rfl, rfl, rfl⟩ := hc1
  obtain ⟨rfl, rfl, rfl, rfl, rfl⟩ := hm1
  rcases (lix x1).symm with ⟨h1, h2⟩ | ⟨l, hl, rfl, h1, h2⟩
  · obtain ⟨a', b', e1, e2, hrf'⟩ := rf_1 hrf (-1) (by decide)
    exact ⟨_, _, _, by unfold f_X9_which; rw [h1, pb1, if_pos rfl, e1, pb2], by unfold f_X10_which; rw [h2, pb1, if_pos rfl, e2, pb2], Rl0_mk hc hm hrf' hkn hle hli hsu⟩
  by_cases c1 : ¬ (0 : Int32) ≤ x2
  · obtain ⟨a', b', e1, e2, hrf'⟩ := rf_1 hrf (-4) (by decide)
    exact ⟨_, _, _, by unfold f_X9_which; rw [h1, pb1, if_neg i10, if_neg c1, e1, pb2], by unfold f_X10_which; rw [h2, pb1, if_neg i10, if_neg c1, e2, pb2], Rl0_mk hc hm hrf' hkn hle hli hsu⟩
  have c1 := Decidable.not_not.mp c1
  by_cases c2 : ¬ x2 ≤ 8
  · obtain ⟨a', b', e1, e2, hrf'⟩ := rf_1 hrf (-6) (by decide)
    exact ⟨_, _, _, by unfold f_X9_which; rw [h1, pb1, if_neg i10, if_pos c1, if_neg c2, e1, pb2], by unfold f_X10_which; rw [h2, pb1, if_neg i10, if_pos c1, if_neg c2, e2, pb2], Rl0_mk hc hm hrf' hkn hle hli hsu⟩
  have c2 := Decidable.not_not.mp c2
  obtain ⟨n, hn, rfl⟩ := k08 c1 c2
  rcases (inx 1 (by decide) x3).symm with ⟨hx3, i3⟩ | ⟨w, hw, rfl, i3⟩
  · obtain ⟨a', b', e1, e2, hrf'⟩ := rf_1 hrf (-2) (by decide)
    have n0 : ¬ x3 = 0 := fun h => by rcases hx3 with q | q <;> rw [h] at q <;> exact absurd q (by decide)
    have n1 : ¬ x3 = 1 := fun h => by rcases hx3 with q | q <;> rw [h] at q <;> exact absurd q (by decide)
    exact ⟨_, _, _, by unfold f_X9_which; rw [h1, pb1, if_neg i10, if_pos c1, if_pos c2, if_neg n0, if_neg n1, e1, pb2], by unfold f_X10_which; rw [h2, pb1, if_neg i10, if_pos c1, if_pos c2, show (1 : Int32) = nI 1 from rfl, i3, pb1, if_pos rfl, e2, pb2], Rl0_mk hc hm hrf' hkn hle hli hsu⟩
  have e57 : f_X9_which v9_refusals tz_S tz_C v4_values v4_lengths (nI l) (nI n) (nI w) = f_X9_which_57 tz_S tz_C v4_values v4_lengths v9_refusals (nI l) (nI n) (nI w) := by
    unfold f_X9_which
    rw [h1, pb1, if_neg i10, if_pos c1, if_pos c2]
    rcases (show w = 0 ∨ w = 1 by omega) with rfl | rfl
    · rw [if_pos (by rfl)]
    · rw [if_neg (by decide), if_pos (by rfl)]
  obtain ⟨g1, g2⟩ := hli l hl
  rcases g2 with g2 | ⟨k, hk, e, g3⟩
  · exact ⟨_, _, _, by rw [e57]; unfold f_X9_which_57; rw [k_miss1 hl g2, pb1, if_neg i10], by unfold f_X10_which; rw [h2, pb1, if_neg i10, if_pos c1, if_pos c2, show (f_X10_in (nI w) 0 1) = some 1 from i3, pb1, if_neg i10, pinn hl (by decide), nI_c l (by omega), ← g1, g2, if_neg le_m1], Rl0_mk hc hm hrf hkn hle hli hsu⟩
  have hN := qN_le n hn
  obtain ⟨hD, hD2⟩ := qD_step n hn
  obtain ⟨rr, hr⟩ : ∃ rr : Nat → Int32, ∀ s, s < 67 → f_X9_firstOtherwise tz_S tz_C v4_values v4_lengths (nI l) (nI s) = some (rr s) ∧ f_X10_otherBy tz_D tz_S tz_M v10_list v10_cell (nI l) (nI s) = some (rr s) := by
    refine ⟨fun s => (f_X9_firstOtherwise tz_S tz_C v4_values v4_lengths (nI l) (nI s)).getD 0, fun s hs => ?_⟩
    obtain ⟨r, e1, e2⟩ := fo_both hl hk hs e g1 g3
    have e8 : (f_X9_firstOtherwise tz_S tz_C v4_values v4_lengths (nI l) (nI s)).getD 0 = r := by rw [e1]; rfl
    show _ = some ((f_X9_firstOtherwise tz_S tz_C v4_values v4_lengths (nI l) (nI s)).getD 0) ∧ _ = some ((f_X9_firstOtherwise tz_S tz_C v4_values v4_lengths (nI l) (nI s)).getD 0)
    rw [e8]
    exact ⟨e1, e2⟩
  have m1 := w_many hn (fun s hs => (hr s hs).1) (qz_N n) 1000 0 (by omega) (by omega)
  have m2 := w_least hn (fun s hs => (hr s hs).1) (qz_N n) 1000 0 (by omega) (by omega)
  have m3 := w_down hn (fun s hs => (hr s hs).2) v10_refusals (nI w) (qz_N n) 0 1000 (by omega) (by omega)
  have e10 : f_X10_which tz_D tz_S tz_M v10_list v10_cell v10_refusals (nI l) (nI n) (nI w) = (if nI w = 0 then some (nI (cUp rr (qz_D n) (qz_N n)), v10_refusals) else some (lFirst rr (qz_D n) (qz_N n) 0, v10_refusals)) := by
    unfold f_X10_which
    rw [h2, pb1, if_neg i10, if_pos c1, if_pos c2, show (f_X10_in (nI w) 0 1) = some 1 from i3, pb1, if_neg i10, pinn hl (by decide), nI_c l (by omega), ← g1, e, if_pos (nI_pos' (by omega)), show nI n + (1 : Int32) = nI (n + 1) from nI_1 n, pinn (by omega) (by decide), nI_c (n + 1) (by omega), show tz_D (n + 1) = nI (qz_D n + qz_N n) by unfold tz_D; rw [hD], ← m3, Nat.sub_self]
    rfl
  have e9 : f_X9_which_57 tz_S tz_C v4_values v4_lengths v9_refusals (nI l) (nI n) (nI w) = (if nI w = 0 then some (nI (cUp rr (qz_D n) (qz_N n)), v9_refusals) else some (lFirst rr (qz_D n) (qz_N n) 0, v9_refusals)) := by
    unfold f_X9_which_57 f_X9_howManyBegin f_X9_leastThatBegins
    rw [k_miss0 hl hk e, pb1, if_pos rfl, k_firstOf n hn, pb1, k_countOf n hn, pb1, pb1, nI_add]
    by_cases c : nI w = 0
    · rw [if_pos c, if_pos c, show nI (qz_D n) = nI (qz_D n + 0) from rfl, show (0 : Int32) = nI (cUp rr (qz_D n) 0) from rfl, m1, pb1]
    · rw [if_neg c, if_neg c, pb1, pb1, pb1, nI_add, show nI (qz_D n) = nI (qz_D n + 0) from rfl]
      rw [m2, pb1]
  rw [e57, e9, e10]
  by_cases c : nI w = 0
  · rw [if_pos c, if_pos c]
    exact ⟨_, _, _, rfl, rfl, Rl0_mk hc hm hrf hkn hle hli hsu⟩
  · rw [if_neg c, if_neg c]
    exact ⟨_, _, _, rfl, rfl, Rl0_mk hc hm hrf hkn hle hli hsu⟩
