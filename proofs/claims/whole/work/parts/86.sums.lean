/-! sums, read -/
theorem six (x : Int32) : (∃ s, s < 4 ∧ x = nI s ∧ f_X8_has x = some 1 ∧ f_X10_isSum x = some 1) ∨ (f_X8_has x = some 0 ∧ f_X10_isSum x = some 0) := by
  rcases inx 3 (by decide) x with ⟨j, hj, rfl, h⟩ | ⟨h, h2⟩
  · refine Or.inl ⟨j, by omega, rfl, ?_, ?_⟩
    · unfold f_X8_has
      rw [if_neg (nI_pos (by omega)), if_neg (show ¬ (4 : Int32) ≤ nI j from nI_ge (a := j) (b := 4) (by omega) (by decide))]
    · unfold f_X10_isSum
      rw [show (3 : Int32) = nI 3 from rfl, h, pb1]
  · refine Or.inr ⟨?_, ?_⟩
    · unfold f_X8_has
      by_cases c : x < 0
      · rw [if_pos c]
      · rw [if_neg c, if_pos (show (4 : Int32) ≤ x from sl (m := 3) (by decide) (h.resolve_left c))]
    · unfold f_X10_isSum
      rw [show (3 : Int32) = nI 3 from rfl, h2, pb1]
theorem k_has8 : ∀ s, s < 4 → f_X8_has (nI s) = some 1 := by decide +kernel
theorem ix22 (l i : Nat) : nI l * (22 : Int32) + nI i = nI (22 * l + i) := by
  rw [show (22 : Int32) = nI 22 from rfl, nI_mul2, nI_add, Nat.mul_comm]
theorem ix22m (l i : Nat) : (22 : Int32) * nI l + nI i = nI (22 * l + i) := by
  rw [show (22 : Int32) = nI 22 from rfl, nI_mul2, nI_add]
theorem k_size8 {sizes : Nat → Int32} {s : Nat} (h : s < 4) : f_X8_sizeOf sizes (nI s) = some (sizes s) := by
  unfold f_X8_sizeOf
  rw [k_has8 s h, pb1, if_neg i10, pinn (by omega) (by decide), nI_c s (by omega)]
theorem k_miss81 {sizes : Nat → Int32} {s : Nat} (h : s < 4) (e : sizes s = -1) : f_X8_isMissing sizes (nI s) = some 1 := by
  unfold f_X8_isMissing
  rw [k_size8 h, pb1, if_pos e]
theorem k_miss80 {sizes : Nat → Int32} {s n : Nat} (h : s < 4) (hn : n < 9) (e : sizes s = nI n) : f_X8_isMissing sizes (nI s) = some 0 := by
  unfold f_X8_isMissing
  rw [k_size8 h, pb1, if_neg (by rw [e]; exact nI_m1 (by omega))]
theorem k_at8 {coefs : Nat → Int32} {s p : Nat} (h : s < 4) (hp : p < 22) : f_X8_at coefs (nI s) (nI p) = some (coefs (22 * s + p)) := by
  unfold f_X8_at f_X8_at_23
  rw [k_has8 s h, pb1, if_neg i10, if_neg (nI_pos (by omega)), if_neg (show ¬ (22 : Int32) ≤ nI p from nI_ge (a := p) (b := 22) (by omega) (by decide)), if_neg i10, ix22, pinn (by omega) (by decide), nI_c _ (by omega)]
def tcnt (c : Nat → Int32) : Nat → Nat
  | 0 => 0
  | p + 1 => tcnt c p + (if c p = 0 then 0 else 1)
theorem tcnt_congr {c c' : Nat → Int32} : ∀ p, (∀ q, q < p → c q = c' q) → tcnt c p = tcnt c' p
  | 0, _ => rfl
  | p + 1, h => by
    show tcnt c p + _ = tcnt c' p + _
    rw [tcnt_congr p (fun q hq => h q (by omega)), h p (by omega)]
theorem tcnt_zero {c : Nat → Int32} {n : Nat} : ∀ d, (∀ q, n ≤ q → q < n + d → c q = 0) → tcnt c (n + d) = tcnt c n
  | 0, _ => rfl
  | d + 1, h => by
    show tcnt c (n + d) + (if c (n + d) = 0 then 0 else 1) = tcnt c n
    rw [tcnt_zero d (fun q h1 h2 => h q h1 (by omega)), if_pos (h (n + d) (by omega) (by omega)), Nat.add_zero]
theorem k_terms {coefs : Nat → Int32} {s : Nat} (h : s < 4) : f_X8_termsOf coefs (nI s) = some (nI (tcnt (fun p => coefs (22 * s + p)) 22)) := by
  have key : ∀ (d f p : Nat), p + d = 22 → d < f → f_X8_termsOf_4 coefs f (nI s) (nI (tcnt (fun p => coefs (22 * s + p)) p)) (nI p) = some (nI (tcnt (fun p => coefs (22 * s + p)) 22)) := by
    intro d
    induction d with
    | zero =>
      intro f p hp hf
      obtain ⟨f, rfl⟩ : ∃ z, f = z + 1 := ⟨f - 1, by omega⟩
      obtain rfl : p = 22 := by omega
      show gf_X8_termsOf_4 (f_X8_termsOf_4 coefs f) coefs (nI s) _ _ = _
      unfold gf_X8_termsOf_4
      rw [if_pos (by decide)]
    | succ d ih =>
      intro f p hp hf
      obtain ⟨f, rfl⟩ : ∃ z, f = z + 1 := ⟨f - 1, by omega⟩
      have e := ih f (p + 1) (by omega) (by omega)
      have e3 : tcnt (fun p => coefs (22 * s + p)) (p + 1) = tcnt (fun p => coefs (22 * s + p)) p + (if coefs (22 * s + p) = 0 then 0 else 1) := rfl
      show gf_X8_termsOf_4 (f_X8_termsOf_4 coefs f) coefs (nI s) _ _ = _
      unfold gf_X8_termsOf_4
      rw [if_neg (show ¬ (22 : Int32) ≤ nI p from nI_ge (a := p) (b := 22) (by omega) (by decide)), k_at8 h (by omega), pb1, show nI p + (1 : Int32) = nI (p + 1) from nI_1 p]
      by_cases c : coefs (22 * s + p) = 0
      · rw [if_pos c] at e3 ⊢
        rw [show tcnt (fun p => coefs (22 * s + p)) p = tcnt (fun p => coefs (22 * s + p)) (p + 1) from e3.symm]
        exact e
      · rw [if_neg c] at e3 ⊢
        rw [show nI (tcnt (fun p => coefs (22 * s + p)) p) + (1 : Int32) = nI (tcnt (fun p => coefs (22 * s + p)) (p + 1)) by rw [e3]; exact nI_1 _]
        exact e
  exact key 22 1000 0 (by omega) (by omega)
theorem m_terms {sum coefficient : Nat → Int32} {s n : Nat} (h : s < 4) (hn : n < 9) (e : sum s = nI n) : f_X10_terms tz_D sum coefficient (nI s) = some (nI (tcnt (fun p => coefficient (22 * s + p)) (qz_N n))) := by
  have hN := qN_le n hn
  have key : ∀ (d f p : Nat), p + d = qz_N n → d < f → f_X10_terms_4 tz_D sum coefficient f (nI s) (nI (tcnt (fun p => coefficient (22 * s + p)) p)) (nI p) = some (nI (tcnt (fun p => coefficient (22 * s + p)) (qz_N n))) := by
    intro d
    induction d with
    | zero =>
      intro f p hp hf
      obtain ⟨f, rfl⟩ : ∃ z, f = z + 1 := ⟨f - 1, by omega⟩
      obtain rfl : p = qz_N n := by omega
      show gf_X10_terms_4 (f_X10_terms_4 tz_D sum coefficient f) tz_D sum coefficient (nI s) _ _ = _
      unfold gf_X10_terms_4
      rw [pinn h (by decide), nI_c s (by omega), e, if_neg (nI_pos (by omega)), pinn h (by decide), m_manyOf n hn, pb1, if_pos (Int32.le_refl _)]
    | succ d ih =>
      intro f p hp hf
      obtain ⟨f, rfl⟩ : ∃ z, f = z + 1 := ⟨f - 1, by omega⟩
      have e2 := ih f (p + 1) (by omega) (by omega)
      have e3 : tcnt (fun p => coefficient (22 * s + p)) (p + 1) = tcnt (fun p => coefficient (22 * s + p)) p + (if coefficient (22 * s + p) = 0 then 0 else 1) := rfl
      show gf_X10_terms_4 (f_X10_terms_4 tz_D sum coefficient f) tz_D sum coefficient (nI s) _ _ = _
      unfold gf_X10_terms_4 f_X10_terms_47
      rw [pinn h (by decide), nI_c s (by omega), e, if_neg (nI_pos (by omega)), pinn h (by decide), m_manyOf n hn, pb1, if_neg (nI_ge (by omega) (by omega)), ix22m, pinn (by omega) (by decide), nI_c _ (by omega), show nI p + (1 : Int32) = nI (p + 1) from nI_1 p]
      by_cases c : coefficient (22 * s + p) = 0
      · rw [if_pos c] at e3 ⊢
        rw [Int32.add_zero, show tcnt (fun p => coefficient (22 * s + p)) p = tcnt (fun p => coefficient (22 * s + p)) (p + 1) from e3.symm]
        exact e2
      · rw [if_neg c] at e3 ⊢
        rw [show nI (tcnt (fun p => coefficient (22 * s + p)) p) + (1 : Int32) = nI (tcnt (fun p => coefficient (22 * s + p)) (p + 1)) by rw [e3]; exact nI_1 _]
        exact e2
  exact key (qz_N n) 1000 0 (by omega) (by omega)
theorem m_terms0 {sum coefficient : Nat → Int32} {s : Nat} (h : s < 4) (e : sum s = -1) : f_X10_terms tz_D sum coefficient (nI s) = some 0 := by
  show gf_X10_terms_4 (f_X10_terms_4 tz_D sum coefficient 999) tz_D sum coefficient (nI s) 0 0 = _
  unfold gf_X10_terms_4
  rw [pinn h (by decide), nI_c s (by omega), e, if_pos (by decide)]
theorem terms_eq {sizes coefs sum coefficient : Nat → Int32} {s : Nat} (h : s < 4) (hr : Rs1 sizes coefs s sum coefficient s (22 * s)) : ∃ v, f_X8_termsOf coefs (nI s) = some v ∧ f_X10_terms tz_D sum coefficient (nI s) = some v := by
  obtain ⟨e0, ⟨e1, hz⟩ | ⟨n, hn, e1, h2, h3, h4⟩⟩ := hr
  · refine ⟨0, ?_, m_terms0 h (by rw [← e0, e1])⟩
    rw [k_terms h, show (22 : Nat) = 0 + 22 from rfl, tcnt_zero 22 (fun q _ hq => hz q (by omega))]
    rfl
  · have hN := qN_le n hn
    refine ⟨_, k_terms h, ?_⟩
    have z1 : tcnt (fun p => coefs (22 * s + p)) (qz_N n + (22 - qz_N n)) = tcnt (fun p => coefs (22 * s + p)) (qz_N n) := tcnt_zero (22 - qz_N n) (fun q h1 h2 => h3 q h1 (by omega))
    rw [Nat.add_sub_cancel' hN] at z1
    rw [m_terms h hn (by rw [← e0, e1]), z1]
    rw [tcnt_congr (c := fun p => coefs (22 * s + p)) (c' := fun p => coefficient (22 * s + p)) _ (fun q hq => h2 q (by omega))]
theorem first_eq {coefs sum coefficient : Nat → Int32} {s n : Nat} (h : s < 4) (hn : n < 9) (e1 : sum s = nI n) (h2 : ∀ p, p < 22 → coefs (22 * s + p) = coefficient (22 * s + p)) (h3 : ∀ p, qz_N n ≤ p → p < 22 → coefs (22 * s + p) = 0) (rb : Nat → Int32) : (∃ q, q < qz_N n ∧ f_X8_firstTermOf coefs (nI s) = some (nI q) ∧ f_X10_sum_67 tz_D sum coefficient 1000 rb (nI s) 0 = some (nI (qz_D n + q), rb)) ∨ (f_X8_firstTermOf coefs (nI s) = some (-1) ∧ f_X10_sum_67 tz_D sum coefficient 1000 rb (nI s) 0 = some (-9, rb)) := by
  have hN := qN_le n hn
  obtain ⟨hD, hD2⟩ := qD_step n hn
  have hz : ∀ (d f p : Nat), p + d = 22 → qz_N n ≤ p → d < f → f_X8_firstTermOf_2 coefs f (nI s) (nI p) = some (-1) := by
    intro d
    induction d with
    | zero =>
      intro f p hp hNp hf
      obtain ⟨f, rfl⟩ : ∃ z, f = z + 1 := ⟨f - 1, by omega⟩
      obtain rfl : p = 22 := by omega
      show gf_X8_firstTermOf_2 (f_X8_firstTermOf_2 coefs f) coefs (nI s) _ = _
      unfold gf_X8_firstTermOf_2
      rw [if_pos (by decide)]
    | succ d ih =>
      intro f p hp hNp hf
      obtain ⟨f, rfl⟩ : ∃ z, f = z + 1 := ⟨f - 1, by omega⟩
      show gf_X8_firstTermOf_2 (f_X8_firstTermOf_2 coefs f) coefs (nI s) _ = _
      unfold gf_X8_firstTermOf_2
      rw [if_neg (show ¬ (22 : Int32) ≤ nI p from nI_ge (a := p) (b := 22) (by omega) (by decide)), k_at8 h (by omega), pb1, h3 p hNp (by omega), if_pos rfl, show nI p + (1 : Int32) = nI (p + 1) from nI_1 p]
      exact ih f (p + 1) (by omega) (by omega) (by omega)
  have key : ∀ (d f g p : Nat), p + d = qz_N n → 30 < f + p → d < g → (∃ q, q < qz_N n ∧ f_X8_firstTermOf_2 coefs f (nI s) (nI p) = some (nI q) ∧ f_X10_sum_67 tz_D sum coefficient g rb (nI s) (nI p) = some (nI (qz_D n + q), rb)) ∨ (f_X8_firstTermOf_2 coefs f (nI s) (nI p) = some (-1) ∧ f_X10_sum_67 tz_D sum coefficient g rb (nI s) (nI p) = some (-9, rb)) := by
    intro d
    induction d with
    | zero =>
      intro f g p hp hf hg
      obtain ⟨g, rfl⟩ : ∃ z, g = z + 1 := ⟨g - 1, by omega⟩
      refine Or.inr ⟨hz (22 - p) f p (by omega) (by omega) (by omega), ?_⟩
      show gf_X10_sum_67 (f_X10_sum_67 tz_D sum coefficient g) tz_D sum coefficient rb (nI s) _ = _
      unfold gf_X10_sum_67
      obtain rfl : p = qz_N n := by omega
      rw [pinn h (by decide), nI_c s (by omega), e1, m_manyOf n hn, pb1, if_pos (Int32.le_refl _)]
    | succ d ih =>
      intro f g p hp hf hg
      obtain ⟨f, rfl⟩ : ∃ z, f = z + 1 := ⟨f - 1, by omega⟩
      obtain ⟨g, rfl⟩ : ∃ z, g = z + 1 := ⟨g - 1, by omega⟩
      have s1 : f_X8_firstTermOf_2 coefs (f + 1) (nI s) (nI p) = (if coefs (22 * s + p) = 0 then f_X8_firstTermOf_2 coefs f (nI s) (nI (p + 1)) else some (nI p)) := by
        show gf_X8_firstTermOf_2 (f_X8_firstTermOf_2 coefs f) coefs (nI s) _ = _
        unfold gf_X8_firstTermOf_2
        rw [if_neg (show ¬ (22 : Int32) ≤ nI p from nI_ge (a := p) (b := 22) (by omega) (by decide)), k_at8 h (by omega), pb1, show nI p + (1 : Int32) = nI (p + 1) from nI_1 p]
      have s2 : f_X10_sum_67 tz_D sum coefficient (g + 1) rb (nI s) (nI p) = (if coefs (22 * s + p) = 0 then f_X10_sum_67 tz_D sum coefficient g rb (nI s) (nI (p + 1)) else some (nI (qz_D n + p), rb)) := by
        show gf_X10_sum_67 (f_X10_sum_67 tz_D sum coefficient g) tz_D sum coefficient rb (nI s) _ = _
        unfold gf_X10_sum_67
        rw [pinn h (by decide), nI_c s (by omega), e1, m_manyOf n hn, pb1, if_neg (nI_ge (by omega) (by omega)), ix22m, pinn (by omega) (by decide), nI_c (22 * s + p) (by omega), ← h2 p (by omega), show nI p + (1 : Int32) = nI (p + 1) from nI_1 p, pinn h (by decide), pinn (by omega) (by decide), nI_c n (by omega), show tz_D n = nI (qz_D n) from rfl, nI_add]
      rw [s1, s2]
      by_cases c : coefs (22 * s + p) = 0
      · rw [if_pos c, if_pos c]
        exact ih f g (p + 1) (by omega) (by omega) (by omega)
      · rw [if_neg c, if_neg c]
        exact Or.inl ⟨p, by omega, rfl, rfl⟩
  exact key (qz_N n) 1000 1000 0 (by omega) (by omega) (by omega)
set_option maxRecDepth 10000 in
theorem eq_sum : EQ_sum Rl0 := by
  intro v9_refusals v7_rows v7_lengths v7_sizes v7_rests v7_orders v6_hooks v6_lefts v6_heights v1_table v5_known v8_sizes v8_coefficients v8_undoneSums v8_undos v8_nextUndo v8_imageTaken v0_totals v3_letters v3_count v3_next v3_size v4_values v4_lengths v10_firstOf v10_sizeOf v10_longOf v10_row v10_character v10_sum v10_coefficient v10_undone v10_wasSum v10_wasCoefficient v10_hasImage v10_letter v10_letters v10_list v10_cell v10_refusals v10_tried v10_left v10_high v10_then v10_at v10_readSize hR x1 x2
  obtain ⟨hc, hm, hrf, hkn, hle, hli, hsu⟩ := hR
  have hc1 := hc
  have hm1 := hm
  obtain ⟨rfl, rfl, rfl, rfl, rfl, rfl, rfl, rfl, rfl⟩ := hc1
  obtain ⟨rfl, rfl, rfl, rfl, rfl⟩ := hm1
  rcases (six x1).symm with ⟨h1, h2⟩ | ⟨s, hs, rfl, h1, h2⟩
  · obtain ⟨a', b', e1, e2, hrf'⟩ := rf_1 hrf (-1) (by decide)
    exact ⟨_, _, _, by unfold f_X9_sum; rw [h1, pb1, if_pos rfl, e1, pb2], by unfold f_X10_sum; rw [h2, pb1, if_pos rfl, e2, pb2], Rl0_mk hc hm hrf' hkn hle hli hsu⟩
  rcases (inx 2 (by decide) x2).symm with ⟨hx2, i2⟩ | ⟨w, hw, rfl, i2⟩
  · obtain ⟨a', b', e1, e2, hrf'⟩ := rf_1 hrf (-2) (by decide)
    have e9 : f_X9_sum v9_refusals v8_sizes v8_coefficients (nI s) x2 = some (-2, a') := by
      unfold f_X9_sum f_X9_sum_26
      rw [h1, pb1, if_neg i10]
      by_cases c : x2 < 0
      · rw [if_pos c, e1, pb2]
      · rw [if_neg c, if_neg (Int32.not_le.mpr (show (2 : Int32) < x2 from hx2.resolve_left c)), e1, pb2]
    exact ⟨_, _, _, e9, by unfold f_X10_sum; rw [h2, pb1, if_neg i10, show f_X10_in x2 0 2 = some 0 from i2, pb1, if_pos rfl, e2, pb2], Rl0_mk hc hm hrf' hkn hle hli hsu⟩
  have w0 : ¬ nI w < 0 := nI_pos (by omega)
  have w2 : nI w ≤ (2 : Int32) := nI_le (a := w) (b := 2) hw (by decide)
  have i2' : f_X10_in (nI w) 0 2 = some 1 := i2
  have hr := hsu.1 s hs
  have hr1 := hr
  obtain ⟨e0, ⟨e1, hz⟩ | ⟨n, hn, e1, q2, q3, q4⟩⟩ := hr1
  · exact ⟨_, _, _, by unfold f_X9_sum; rw [h1, pb1, if_neg i10, if_neg w0, if_pos w2, k_miss81 hs e1, pb1, if_neg i10], by unfold f_X10_sum; rw [h2, pb1, if_neg i10, i2', pb1, if_neg i10, pinn hs (by decide), nI_c s (by omega), ← e0, e1, if_neg le_m1], Rl0_mk hc hm hrf hkn hle hli hsu⟩
  obtain ⟨hD, hD2⟩ := qD_step n hn
  have hN := qN_le n hn
  have es : v10_sum s = nI n := by rw [← e0, e1]
  rcases (show w = 0 ∨ w = 1 ∨ w = 2 by omega) with rfl | rfl | rfl
  · exact ⟨_, _, _, by unfold f_X9_sum; rw [h1, pb1, if_neg i10, if_neg w0, if_pos w2, k_miss80 hs hn e1, pb1, if_pos rfl, if_pos (by rfl), k_size8 hs, pb1, e1], by unfold f_X10_sum; rw [h2, pb1, if_neg i10, i2', pb1, if_neg i10, pinn hs (by decide), nI_c s (by omega), es, if_pos (nI_pos' (by omega)), if_neg (by decide), if_pos (by rfl), pinn hs (by decide)], Rl0_mk hc hm hrf hkn hle hli hsu⟩
  · obtain ⟨v, t1, t2⟩ := terms_eq hs hr
    exact ⟨_, _, _, by unfold f_X9_sum; rw [h1, pb1, if_neg i10, if_neg w0, if_pos w2, k_miss80 hs hn e1, pb1, if_pos rfl, if_neg (by decide), if_pos (by rfl), t1, pb1], by unfold f_X10_sum; rw [h2, pb1, if_neg i10, i2', pb1, if_neg i10, pinn hs (by decide), nI_c s (by omega), es, if_pos (nI_pos' (by omega)), if_neg (by decide), if_neg (by decide), t2, pb1], Rl0_mk hc hm hrf hkn hle hli hsu⟩
  · rcases first_eq hs hn es q2 q3 v10_refusals with ⟨q, hq, t1, t2⟩ | ⟨t1, t2⟩
    · exact ⟨_, _, _, by unfold f_X9_sum f_X9_firstTerm; rw [h1, pb1, if_neg i10, if_neg w0, if_pos w2, k_miss80 hs hn e1, pb1, if_pos rfl, if_neg (by decide), if_neg (by decide), t1, pb1, if_pos (nI_pos' (by omega)), k_size8 hs, pb1, e1, k_firstOf n hn, pb1, pb1, nI_add], by unfold f_X10_sum; rw [h2, pb1, if_neg i10, i2', pb1, if_neg i10, pinn hs (by decide), nI_c s (by omega), es, if_pos (nI_pos' (by omega)), if_pos (by decide), t2], Rl0_mk hc hm hrf hkn hle hli hsu⟩
    · exact ⟨_, _, _, by unfold f_X9_sum f_X9_firstTerm; rw [h1, pb1, if_neg i10, if_neg w0, if_pos w2, k_miss80 hs hn e1, pb1, if_pos rfl, if_neg (by decide), if_neg (by decide), t1, pb1, if_neg le_m1, pb1], by unfold f_X10_sum; rw [h2, pb1, if_neg i10, i2', pb1, if_neg i10, pinn hs (by decide), nI_c s (by omega), es, if_pos (nI_pos' (by omega)), if_pos (by decide), t2], Rl0_mk hc hm hrf hkn hle hli hsu⟩
set_option maxRecDepth 10000 in
theorem eq_coefficient : EQ_coefficient Rl0 := by
  intro v9_refusals v7_rows v7_lengths v7_sizes v7_rests v7_orders v6_hooks v6_lefts v6_heights v1_table v5_known v8_sizes v8_coefficients v8_undoneSums v8_undos v8_nextUndo v8_imageTaken v0_totals v3_letters v3_count v3_next v3_size v4_values v4_lengths v10_firstOf v10_sizeOf v10_longOf v10_row v10_character v10_sum v10_coefficient v10_undone v10_wasSum v10_wasCoefficient v10_hasImage v10_letter v10_letters v10_list v10_cell v10_refusals v10_tried v10_left v10_high v10_then v10_at v10_readSize hR x1 x2
  obtain ⟨hc, hm, hrf, hkn, hle, hli, hsu⟩ := hR
  have hc1 := hc
  have hm1 := hm
  obtain ⟨rfl, rfl, rfl, rfl, rfl, rfl, rfl, rfl, rfl⟩ := hc1
  obtain ⟨rfl, rfl, rfl, rfl, rfl⟩ := hm1
  obtain ⟨v1, a1, b1, r1, r2, hrf1⟩ := rf_far hrf (-1) (by decide)
  rcases (six x1).symm with ⟨h1, h2⟩ | ⟨s, hs, rfl, h1, h2⟩
  · exact ⟨_, _, _, by unfold f_X9_coefficient f_X9_coefficient_22; rw [h1, pb1, if_pos rfl, r1, pb2], by unfold f_X10_coefficient f_X10_coefficient_14; rw [h2, pb1, if_pos rfl, r2, pb2], Rl0_mk hc hm hrf1 hkn hle hli hsu⟩
  rcases (shx x2).symm with ⟨f1, f2⟩ | ⟨t, ht, rfl, f1, f2⟩
  · exact ⟨_, _, _, by unfold f_X9_coefficient f_X9_coefficient_22; rw [h1, pb1, if_neg i10, f1, pb1, if_pos rfl, r1, pb2], by unfold f_X10_coefficient f_X10_coefficient_14; rw [h2, pb1, if_neg i10, f2, pb1, if_pos rfl, r2, pb2], Rl0_mk hc hm hrf1 hkn hle hli hsu⟩
  obtain ⟨e0, ⟨e1, hz⟩ | ⟨n, hn, e1, q2, q3, q4⟩⟩ := hsu.1 s hs
  · exact ⟨_, _, _, by unfold f_X9_coefficient; rw [h1, pb1, if_neg i10, f1, pb1, if_neg i10, k_miss81 hs e1, pb1, if_neg i10], by unfold f_X10_coefficient; rw [h2, pb1, if_neg i10, f2, pb1, if_neg i10, pinn hs (by decide), nI_c s (by omega), ← e0, e1, if_neg le_m1], Rl0_mk hc hm hrf hkn hle hli hsu⟩
  have es : v10_sum s = nI n := by rw [← e0, e1]
  have hN := qN_le n hn
  have hq9 := qS_16 t ht
  by_cases c : qz_S t = n
  · obtain ⟨p1, p2, p3⟩ := shp t ht
    rw [c] at p2 p3
    have c2 : nI (qz_S t) = nI n := by rw [c]
    exact ⟨_, _, _, by unfold f_X9_coefficient f_X9_coefficient_66; rw [h1, pb1, if_neg i10, f1, pb1, if_neg i10, k_miss80 hs hn e1, pb1, if_pos rfl, k_sizeN t ht, pb1, k_size8 hs, pb1, e1, if_pos c2, if_neg i10, k_placeOf t ht, pb1, c, k_at8 hs (show t - qz_D n < 22 by omega), pb1], by unfold f_X10_coefficient f_X10_coefficientOf; rw [h2, pb1, if_neg i10, f2, pb1, if_neg i10, pinn hs (by decide), nI_c s (by omega), es, if_pos (nI_pos' (by omega)), pinn ht (by decide), nI_c t (by omega), pinn hs (by decide), show tz_S t = nI (qz_S t) from rfl, if_pos c2, pinn hs (by decide), pinn (by omega) (by decide), nI_c n (by omega), ix22m, show tz_D n = nI (qz_D n) from rfl, nI_sub2 (show qz_D n ≤ 22 * s + t by omega), pinn (show 22 * s + t - qz_D n < 88 by omega) (by decide), pb1, nI_c (22 * s + t - qz_D n) (by omega), show 22 * s + t - qz_D n = 22 * s + (t - qz_D n) by omega, ← q2 _ (by omega)], Rl0_mk hc hm hrf hkn hle hli hsu⟩
  · have c2 : ¬ nI (qz_S t) = nI n := fun h => c ((nI_eq (by omega) (by omega)).mp h)
    exact ⟨_, _, _, by unfold f_X9_coefficient f_X9_coefficient_66; rw [h1, pb1, if_neg i10, f1, pb1, if_neg i10, k_miss80 hs hn e1, pb1, if_pos rfl, k_sizeN t ht, pb1, k_size8 hs, pb1, e1, if_neg c2, if_pos rfl], by unfold f_X10_coefficient f_X10_coefficientOf; rw [h2, pb1, if_neg i10, f2, pb1, if_neg i10, pinn hs (by decide), nI_c s (by omega), es, if_pos (nI_pos' (by omega)), pinn ht (by decide), nI_c t (by omega), pinn hs (by decide), show tz_S t = nI (qz_S t) from rfl, if_neg c2, pb1], Rl0_mk hc hm hrf hkn hle hli hsu⟩
