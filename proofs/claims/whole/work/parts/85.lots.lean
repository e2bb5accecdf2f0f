set_option maxRecDepth 10000 in
theorem eq_letter : EQ_letter Rl0 := by
  intro v9_refusals v7_rows v7_lengths v7_sizes v7_rests v7_orders v6_hooks v6_lefts v6_heights v1_table v5_known v8_sizes v8_coefficients v8_undoneSums v8_undos v8_nextUndo v8_imageTaken v0_totals v3_letters v3_count v3_next v3_size v4_values v4_lengths v10_firstOf v10_sizeOf v10_longOf v10_row v10_character v10_sum v10_coefficient v10_undone v10_wasSum v10_wasCoefficient v10_hasImage v10_letter v10_letters v10_list v10_cell v10_refusals v10_tried v10_left v10_high v10_then v10_at v10_readSize hR x1
  obtain ⟨hc, hm, hrf, hkn, hle, hli, hsu⟩ := hR
  have hc1 := hc
  have hm1 := hm
  obtain ⟨rfl, rfl, rfl, rfl, rfl, rfl, rfl, rfl, rfl⟩ := hc1
  obtain ⟨rfl, rfl, rfl, rfl, rfl⟩ := hm1
  obtain ⟨ec, n, hn, en, hl⟩ := hle
  by_cases c1 : ¬ (0 : Int32) ≤ x1
  · obtain ⟨a', b', e1, e2, hrf'⟩ := rf_1 hrf (-4) (by decide)
    exact ⟨_, _, _, _, _, _, _, by unfold f_X9_letter; rw [if_neg c1, e1, pb2], by unfold f_X10_letter; rw [if_neg c1, e2, pb2], Rl0_mk hc hm hrf' hkn ⟨ec, n, hn, en, hl⟩ hli hsu⟩
  have c1 := Decidable.not_not.mp c1
  by_cases c2 : (255 : Int32) < x1
  · obtain ⟨a', b', e1, e2, hrf'⟩ := rf_1 hrf (-6) (by decide)
    exact ⟨_, _, _, _, _, _, _, by unfold f_X9_letter f_X9_letter_28; rw [if_pos c1, if_pos c2, e1, pb2], by unfold f_X10_letter f_X10_letter_27; rw [if_pos c1, if_pos c2, e2, pb2], Rl0_mk hc hm hrf' hkn ⟨ec, n, hn, en, hl⟩ hli hsu⟩
  have el : v10_letters = nI n := by rw [← ec, en]
  subst en
  subst el
  by_cases c3 : n = 72
  · subst c3
    obtain ⟨a', b', e1, e2, hrf'⟩ := rf_1 hrf (-6) (by decide)
    have e3 : f_X3_areFull (nI 72) = some 1 := by decide +kernel
    exact ⟨_, _, _, _, _, _, _, by unfold f_X9_letter f_X9_letter_28; rw [if_pos c1, if_neg c2, e3, pb1, if_neg i10, e1, pb2], by unfold f_X10_letter f_X10_letter_27; rw [if_pos c1, if_neg c2, if_pos (by decide), e2, pb2], Rl0_mk hc hm hrf' hkn ⟨rfl, 72, hn, rfl, hl⟩ hli hsu⟩
  · have e3 : f_X3_areFull (nI n) = some 0 := by
      unfold f_X3_areFull
      rw [if_pos (show nI n < (72 : Int32) from nI_lt (b := 72) (by omega) (by decide))]
    have e4 : f_X3_add v3_letters (nI n) x1 = some (upd v3_letters n x1, nI (n + 1)) := by
      unfold f_X3_add
      rw [if_neg (nI_pos (by omega)), if_neg (show ¬ (72 : Int32) ≤ nI n from nI_ge (a := n) (b := 72) (by omega) (by decide)), pinn (by omega) (by decide), nI_c n (by omega), show nI n + (1 : Int32) = nI (n + 1) from nI_1 n]
    have c4 : ¬ nI n = (72 : Int32) := fun h => c3 ((nI_eq (a := n) (b := 72) (by omega) (by decide)).mp h)
    refine ⟨nI (n + 1), v9_refusals, upd v3_letters n x1, nI (n + 1), upd v10_letter n x1, nI (n + 1), v10_refusals, ?_, ?_, Rl0_mk hc hm hrf hkn ⟨rfl, n + 1, by omega, rfl, ?_⟩ hli hsu⟩
    · unfold f_X9_letter f_X3_howMany
      rw [if_pos c1, if_neg c2, e3, pb1, if_pos rfl, e4, pb2, pb1]
    · unfold f_X10_letter
      rw [if_pos c1, if_neg c2, if_neg c4, pinn (by omega) (by decide), nI_c n (by omega), show nI n + (1 : Int32) = nI (n + 1) from nI_1 n]
    · intro j hj
      unfold upd
      by_cases c : j = n
      · rw [if_pos c, if_pos c]
      · rw [if_neg c, if_neg c]; exact hl j (by omega)
theorem and_mask (x : Int32) : ∃ w, w < 2 ^ 31 ∧ (x &&& (2147483647 : Int32)) = nI w := by
  refine ⟨(x.toBitVec &&& 2147483647#32).toNat, ?_, ?_⟩
  · rw [BitVec.toNat_and]
    exact Nat.lt_of_le_of_lt Nat.and_le_right (by decide)
  · apply Int32.toBitVec_inj.mp
    rw [Int32.toBitVec_and]
    show _ = BitVec.ofNat 32 _
    rw [BitVec.ofNat_toNat, BitVec.setWidth_eq]
    rfl
theorem qN_pos : ∀ n, n < 9 → 0 < qz_N n := by decide +kernel
theorem drawn {n : Nat} (hn : n < 9) (sd : Int32) : ∃ i, i < qz_N n ∧ ((sd &&& (2147483647 : Int32)) / (256 : Int32)) - ((sd &&& (2147483647 : Int32)) / (256 : Int32)) / nI (qz_N n) * nI (qz_N n) = nI i := by
  obtain ⟨w, hw, e⟩ := and_mask sd
  have hN := qN_le n hn
  have hp := qN_pos n hn
  rw [e, show (256 : Int32) = nI 256 from rfl, pk_div hw (by decide) (by decide), pk_rem (by omega) hp (by omega)]
  exact ⟨_, Nat.mod_lt _ hp, rfl⟩
theorem pnz {α : Type} {y : Int32} {k : Option α} (h : ¬ y = 0) : p_nz y k = k := by unfold p_nz; rw [if_neg h]
theorem k_drawn {n : Nat} (hn : n < 9) (sd : Int32) : f_X9_drawnShape (nI n) sd = some (nI (qz_D n) + (((sd &&& (2147483647 : Int32)) / (256 : Int32)) - ((sd &&& (2147483647 : Int32)) / (256 : Int32)) / nI (qz_N n) * nI (qz_N n))) := by
  have hN := qN_le n hn
  have hp := qN_pos n hn
  unfold f_X9_drawnShape f_X9_drawnShape_27
  rw [k_countOf n hn, pb1, if_neg (nI_nle hp (by omega)), pnz (by decide), pnz (nI_ne0 hp (by omega)), k_firstOf n hn, pb1]
theorem lots_loop {n k : Nat} (hn : n < 9) (hk : k < 51) (ra rb : Nat → Int32) (w : Int32) : ∀ (d f g q : Nat), q + d = k → d < f → d < g → ∀ (sd a b : Int32) (known : Nat → Int32), Kn known → ∃ r known', f_X9_lots_66 tz_S tz_O tz_C f ra known (nI n) (nI k) w sd a b (nI q) = some (r, ra, known') ∧ Kn known' ∧ f_X10_lots_65 tz_D tz_S tz_L tz_R tz_M g rb (nI n) (nI k) w sd a b (nI q) = some (r, rb) := by
  have hN := qN_le n hn
  have hp := qN_pos n hn
  intro d
  induction d with
  | zero =>
    intro f g q hq hf hg sd a b known hkn
    obtain ⟨f, rfl⟩ : ∃ z, f = z + 1 := ⟨f - 1, by omega⟩
    obtain ⟨g, rfl⟩ : ∃ z, g = z + 1 := ⟨g - 1, by omega⟩
    obtain rfl : q = k := by omega
    refine ⟨if w = 0 then a else b, known, ?_, hkn, ?_⟩
    · show gf_X9_lots_66 (f_X9_lots_66 tz_S tz_O tz_C f) tz_S tz_O tz_C ra known (nI n) (nI q) w sd a b (nI q) = _
      unfold gf_X9_lots_66
      rw [if_pos (Int32.le_refl _)]
      by_cases c : w = 0
      · rw [if_pos c, if_pos c]
      · rw [if_neg c, if_neg c]
    · show gf_X10_lots_65 (f_X10_lots_65 tz_D tz_S tz_L tz_R tz_M g) tz_D tz_S tz_L tz_R tz_M rb (nI n) (nI q) w sd a b (nI q) = _
      unfold gf_X10_lots_65
      rw [if_pos (Int32.le_refl _)]
      by_cases c : w = 0
      · rw [if_pos c, if_pos c]
      · rw [if_neg c, if_neg c]
  | succ d ih =>
    intro f g q hq hf hg sd a b known hkn
    obtain ⟨f, rfl⟩ : ∃ z, f = z + 1 := ⟨f - 1, by omega⟩
    obtain ⟨g, rfl⟩ : ∃ z, g = z + 1 := ⟨g - 1, by omega⟩
    obtain ⟨i, hi, ei⟩ := drawn hn (sd * (1664525 : Int32) + (1013904223 : Int32))
    obtain ⟨j, hj, ej⟩ := drawn hn ((sd * (1664525 : Int32) + (1013904223 : Int32)) * (1664525 : Int32) + (1013904223 : Int32))
    obtain ⟨known1, e1, hkn1⟩ := k_at5 hn hi hi hj hkn
    have e2 := m_number hn hi hi hj
    have s1 : f_X9_lots_66 tz_S tz_O tz_C (f + 1) ra known (nI n) (nI k) w sd a b (nI q) = f_X9_lots_66 tz_S tz_O tz_C f ra known1 (nI n) (nI k) w ((sd * (1664525 : Int32) + (1013904223 : Int32)) * (1664525 : Int32) + (1013904223 : Int32)) (if nuV n i i j ≤ 0 then a else a + 1) (b + nuV n i i j) (nI (q + 1)) := by
      show gf_X9_lots_66 (f_X9_lots_66 tz_S tz_O tz_C f) tz_S tz_O tz_C ra known (nI n) (nI k) w sd a b (nI q) = _
      unfold gf_X9_lots_66 f_X9_lots_127 f_X9_nextSeed
      rw [if_neg (nI_ge (by omega) (by omega)), pb1, k_drawn hn, pb1, pb1, k_drawn hn, pb1, ei, ej, nI_add, nI_add, e1, pb2, show nI q + (1 : Int32) = nI (q + 1) from nI_1 q]
      by_cases c : nuV n i i j ≤ 0
      · rw [if_pos c, if_pos c]
      · rw [if_neg c, if_neg c]
    have s2 : f_X10_lots_65 tz_D tz_S tz_L tz_R tz_M (g + 1) rb (nI n) (nI k) w sd a b (nI q) = f_X10_lots_65 tz_D tz_S tz_L tz_R tz_M g rb (nI n) (nI k) w ((sd * (1664525 : Int32) + (1013904223 : Int32)) * (1664525 : Int32) + (1013904223 : Int32)) (if nuV n i i j ≤ 0 then a else a + 1) (b + nuV n i i j) (nI (q + 1)) := by
      show gf_X10_lots_65 (f_X10_lots_65 tz_D tz_S tz_L tz_R tz_M g) tz_D tz_S tz_L tz_R tz_M rb (nI n) (nI k) w sd a b (nI q) = _
      unfold gf_X10_lots_65 f_X10_lots_163
      rw [if_neg (nI_ge (by omega) (by omega)), pinn (by omega) (by decide), pnz (by decide), m_manyOf n hn, pb1, pnz (nI_ne0 hp (by omega)), pinn (by omega) (by decide), pnz (by decide), pb1, pnz (nI_ne0 hp (by omega)), nI_c n (by omega), show tz_D n = nI (qz_D n) from rfl, ei, ej, nI_add, nI_add, e2, pb1, show nI q + (1 : Int32) = nI (q + 1) from nI_1 q]
      by_cases c : nuV n i i j ≤ 0
      · rw [if_pos c, if_pos c, Int32.add_zero]
      · rw [if_neg c, if_neg c]
    rw [s1, s2]
    exact ih f g (q + 1) (by omega) (by omega) (by omega) _ _ _ known1 hkn1
theorem k150 {x : Int32} (h1 : (1 : Int32) ≤ x) (h2 : x ≤ 50) : ∃ k, k < 51 ∧ x = nI k := by
  obtain ⟨k, hk, rfl⟩ := nI_of2 (n := 50) (M := 50) (by decide) (show ¬ x < 0 from fun h => absurd (Int32.lt_of_lt_of_le h (Int32.le_trans (by decide) h1)) Int32.lt_irrefl) h2
  exact ⟨k, by omega, rfl⟩
set_option maxRecDepth 10000 in
theorem eq_lots : EQ_lots Rl0 := by
  intro v9_refusals v7_rows v7_lengths v7_sizes v7_rests v7_orders v6_hooks v6_lefts v6_heights v1_table v5_known v8_sizes v8_coefficients v8_undoneSums v8_undos v8_nextUndo v8_imageTaken v0_totals v3_letters v3_count v3_next v3_size v4_values v4_lengths v10_firstOf v10_sizeOf v10_longOf v10_row v10_character v10_sum v10_coefficient v10_undone v10_wasSum v10_wasCoefficient v10_hasImage v10_letter v10_letters v10_list v10_cell v10_refusals v10_tried v10_left v10_high v10_then v10_at v10_readSize hR x1 x2 x3 x4
  obtain ⟨hc, hm, hrf, hkn, hle, hli, hsu⟩ := hR
  have hc1 := hc
  have hm1 := hm
  obtain ⟨rfl, rfl, rfl, rfl, rfl, rfl, rfl, rfl, rfl⟩ := hc1
  obtain ⟨rfl, rfl, rfl, rfl, rfl⟩ := hm1
  obtain ⟨a1, b1, r1, r2, hrf1⟩ := rf_1 hrf (-4) (by decide)
  obtain ⟨a3, b3, u1, u2, hrf3⟩ := rf_1 hrf (-6) (by decide)
  by_cases c1 : x1 < 1
  · exact ⟨_, _, _, _, by unfold f_X9_lots f_X9_lots_10; rw [if_pos c1, r1, pb2], by unfold f_X10_lots f_X10_lots_10; rw [if_pos c1, r2, pb2], Rl0_mk hc hm hrf1 hkn hle hli hsu⟩
  by_cases c2 : ¬ (1 : Int32) ≤ x2
  · exact ⟨_, _, _, _, by unfold f_X9_lots f_X9_lots_10; rw [if_neg c1, if_neg c2, r1, pb2], by unfold f_X10_lots f_X10_lots_10; rw [if_neg c1, if_neg c2, r2, pb2], Rl0_mk hc hm hrf1 hkn hle hli hsu⟩
  have c2 := Decidable.not_not.mp c2
  by_cases c3 : (8 : Int32) < x1
  · exact ⟨_, _, _, _, by unfold f_X9_lots f_X9_lots_29; rw [if_neg c1, if_pos c2, if_pos c3, u1, pb2], by unfold f_X10_lots f_X10_lots_29; rw [if_neg c1, if_pos c2, if_pos c3, u2, pb2], Rl0_mk hc hm hrf3 hkn hle hli hsu⟩
  by_cases c4 : ¬ x2 ≤ 50
  · exact ⟨_, _, _, _, by unfold f_X9_lots f_X9_lots_29; rw [if_neg c1, if_pos c2, if_neg c3, if_neg c4, u1, pb2], by unfold f_X10_lots f_X10_lots_29; rw [if_neg c1, if_pos c2, if_neg c3, if_neg c4, u2, pb2], Rl0_mk hc hm hrf3 hkn hle hli hsu⟩
  have c4 := Decidable.not_not.mp c4
  obtain ⟨n, hn, hn1, rfl⟩ := k18 c1 (Int32.not_lt.mp c3)
  obtain ⟨k, hk, rfl⟩ := k150 c2 c4
  rcases (inx 1 (by decide) x4).symm with ⟨hx4, i4⟩ | ⟨w, hw, rfl, i4⟩
  · obtain ⟨a', b', e1, e2, hrf'⟩ := rf_1 hrf (-2) (by decide)
    have n0 : ¬ x4 = 0 := fun h => by rcases hx4 with q | q <;> rw [h] at q <;> exact absurd q (by decide)
    have n1 : ¬ x4 = 1 := fun h => by rcases hx4 with q | q <;> rw [h] at q <;> exact absurd q (by decide)
    exact ⟨_, _, _, _, by unfold f_X9_lots; rw [if_neg c1, if_pos c2, if_neg c3, if_pos c4, if_neg n0, if_neg n1, e1, pb2], by unfold f_X10_lots; rw [if_neg c1, if_pos c2, if_neg c3, if_pos c4, show (1 : Int32) = nI 1 from rfl, i4, pb1, if_pos rfl, e2, pb2], Rl0_mk hc hm hrf' hkn hle hli hsu⟩
  obtain ⟨r, known', e1, hkn', e2⟩ := lots_loop hn hk v9_refusals v10_refusals (nI w) k 1000 1000 0 (by omega) (by omega) (by omega) x3 0 0 v5_known hkn
  have e9 : f_X9_lots v9_refusals tz_S tz_O tz_C v5_known (nI n) (nI k) x3 (nI w) = some (r, v9_refusals, known') := by
    unfold f_X9_lots f_X9_lots_54
    rw [if_neg c1, if_pos c2, if_neg c3, if_pos c4]
    rcases (show w = 0 ∨ w = 1 by omega) with rfl | rfl
    · rw [if_pos (by rfl)]; exact e1
    · rw [if_neg (by decide), if_pos (by rfl)]; exact e1
  exact ⟨_, _, _, _, e9, by unfold f_X10_lots; rw [if_neg c1, if_pos c2, if_neg c3, if_pos c4, show (f_X10_in (nI w) 0 1) = some 1 from i4, pb1, if_neg i10]; exact e2, Rl0_mk hc hm hrf hkn' hle hli hsu⟩
