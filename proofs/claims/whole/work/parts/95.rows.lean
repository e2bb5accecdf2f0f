/-! rows told: each run of falling rows is itself a shape -/
def nx (s r : Nat) : Nat := ((List.range 67).find? (fun t => (List.range 8).all (fun k => qz_R (8 * t + k) == (if k = qz_L s then r else qz_R (8 * s + k))))).getD 67
def la (s : Nat) : Nat := if s = 0 then 8 else qz_R (8 * s + (qz_L s - 1))
def nx_ck (s r : Nat) : Bool := decide (nx s r < 67) && (decide (qz_S (nx s r) = qz_S s + r) && (decide (qz_L (nx s r) = qz_L s + 1) && (decide (la (nx s r) = r) && (decide (xi_KEYS (nx s r) = ((xi_KEYS s <<< ((4 : Int32) &&& 31)) ||| nI r)) && (List.range 8).all (fun k => qz_R (8 * nx s r + k) == (if k = qz_L s then r else qz_R (8 * s + k)))))))
theorem nx_all : ∀ s, s < 67 → ∀ r, r < 9 → r = 0 ∨ la s < r ∨ 8 < qz_S s + r ∨ nx_ck s r = true := by decide +kernel
theorem nx_ok {s r : Nat} (hs : s < 67) (h1 : 1 ≤ r) (h2 : r ≤ la s) (h3 : qz_S s + r ≤ 8) : nx s r < 67 ∧ qz_S (nx s r) = qz_S s + r ∧ qz_L (nx s r) = qz_L s + 1 ∧ la (nx s r) = r ∧ xi_KEYS (nx s r) = ((xi_KEYS s <<< ((4 : Int32) &&& 31)) ||| nI r) ∧ ∀ k, k < 8 → qz_R (8 * nx s r + k) = (if k = qz_L s then r else qz_R (8 * s + k)) := by
  have h := nx_all s hs r (by omega)
  have h := ((h.resolve_left (by omega)).resolve_left (by omega)).resolve_left (by omega)
  unfold nx_ck at h
  simp only [Bool.and_eq_true, decide_eq_true_eq] at h
  obtain ⟨a, b, c, d, e, f⟩ := h
  exact ⟨a, b, c, d, e, fun k hk => eq_of_beq (List.all_eq_true.mp f k (List.mem_range.mpr hk))⟩
theorem la_le : ∀ s, s < 67 → la s ≤ 8 ∧ qz_L s ≤ qz_S s ∧ qz_S s ≤ 8 := by decide +kernel
theorem k_find : ∀ s, s < 67 → f_X7_find (nI (qz_S s)) (xi_KEYS s) = some (nI s) := by decide +kernel
theorem rows_ne : ∀ s, s < 67 → ∀ a, a < s → (List.range 8).any (fun k => qz_R (8 * a + k) != qz_R (8 * s + k)) = true := by decide +kernel
theorem pre_all : ∀ s, s < 67 → ∀ a, a < 67 → (List.range (qz_L s)).any (fun k => qz_R (8 * a + k) != qz_R (8 * s + k)) = true ∨ 8 ≤ qz_L s ∨ (qz_R (8 * a + qz_L s) ≤ la s ∧ qz_S s + qz_R (8 * a + qz_L s) ≤ 8) := by decide +kernel
theorem qR_16 (j : Nat) : qz_R j < 16 := by unfold qz_R; omega
theorem tR_eq {i j : Nat} : tz_R i = tz_R j ↔ qz_R i = qz_R j := nI_eq (by have := qR_16 i; omega) (by have := qR_16 j; omega)
theorem st12_0 {tried : Nat → Int32} {a : Nat} (K : Int32 → Option Int32) : ∀ (d f r : Nat), r + d = 8 → d < f → f_X10_shapeTried_12 K tz_R tried f (nI a) 0 (nI r) = K (nI (a + 1)) := by
  intro d
  induction d with
  | zero =>
    intro f r hr hf
    obtain ⟨f, rfl⟩ : ∃ z, f = z + 1 := ⟨f - 1, by omega⟩
    obtain rfl : r = 8 := by omega
    show gf_X10_shapeTried_12 (f_X10_shapeTried_12 K tz_R tried f) K tz_R tried (nI a) 0 (nI 8) = _
    unfold gf_X10_shapeTried_12
    rw [if_pos (by decide), if_pos rfl, show nI a + (1 : Int32) = nI (a + 1) from nI_1 a]
  | succ d ih =>
    intro f r hr hf
    obtain ⟨f, rfl⟩ : ∃ z, f = z + 1 := ⟨f - 1, by omega⟩
    show gf_X10_shapeTried_12 (f_X10_shapeTried_12 K tz_R tried f) K tz_R tried (nI a) 0 (nI r) = _
    unfold gf_X10_shapeTried_12 f_X10_shapeTried_41
    rw [if_neg (show ¬ (8 : Int32) ≤ nI r from nI_ge (b := 8) (by omega) (by decide)), if_pos rfl, show nI r + (1 : Int32) = nI (r + 1) from nI_1 r]
    exact ih f (r + 1) (by omega) (by omega)
theorem st12_1 {tried : Nat → Int32} {a : Nat} (ha : a < 67) (K : Int32 → Option Int32) : ∀ (d f r : Nat), r + d = 8 → d < f → ((∀ k, r ≤ k → k < 8 → tried k = tz_R (8 * a + k)) → f_X10_shapeTried_12 K tz_R tried f (nI a) 1 (nI r) = some (nI a)) ∧ ((∃ k, r ≤ k ∧ k < 8 ∧ ¬ tried k = tz_R (8 * a + k)) → f_X10_shapeTried_12 K tz_R tried f (nI a) 1 (nI r) = K (nI (a + 1))) := by
  intro d
  induction d with
  | zero =>
    intro f r hr hf
    obtain ⟨f, rfl⟩ : ∃ z, f = z + 1 := ⟨f - 1, by omega⟩
    obtain rfl : r = 8 := by omega
    refine ⟨fun _ => ?_, fun ⟨k, h1, h2, _⟩ => by omega⟩
    show gf_X10_shapeTried_12 (f_X10_shapeTried_12 K tz_R tried f) K tz_R tried (nI a) 1 (nI 8) = _
    unfold gf_X10_shapeTried_12
    rw [if_pos (by decide), if_neg i10]
  | succ d ih =>
    intro f r hr hf
    obtain ⟨f, rfl⟩ : ∃ z, f = z + 1 := ⟨f - 1, by omega⟩
    have e : f_X10_shapeTried_12 K tz_R tried (f + 1) (nI a) 1 (nI r) = (if tried r = tz_R (8 * a + r) then f_X10_shapeTried_12 K tz_R tried f (nI a) 1 (nI (r + 1)) else f_X10_shapeTried_12 K tz_R tried f (nI a) 0 (nI (r + 1))) := by
      show gf_X10_shapeTried_12 (f_X10_shapeTried_12 K tz_R tried f) K tz_R tried (nI a) 1 (nI r) = _
      unfold gf_X10_shapeTried_12 f_X10_shapeTried_41
      rw [if_neg (show ¬ (8 : Int32) ≤ nI r from nI_ge (b := 8) (by omega) (by decide)), if_neg i10, pinn (by omega) (by decide), m_rowOf a ha r (by omega), pb1, nI_c r (by omega), show nI r + (1 : Int32) = nI (r + 1) from nI_1 r]
    obtain ⟨i1, i2⟩ := ih f (r + 1) (by omega) (by omega)
    rw [e]
    refine ⟨fun h => ?_, fun ⟨k, h1, h2, h3⟩ => ?_⟩
    · rw [if_pos (h r (Nat.le_refl _) (by omega))]
      exact i1 (fun k h1 h2 => h k (by omega) h2)
    · by_cases c : tried r = tz_R (8 * a + r)
      · rw [if_pos c]
        have : ¬ k = r := fun hk => h3 (by rw [hk]; exact c)
        exact i2 ⟨k, by omega, h2, h3⟩
      · rw [if_neg c]
        exact st12_0 K d f (r + 1) (by omega) (by omega)
theorem st_miss {tried : Nat → Int32} (h : ∀ a, a < 67 → ∃ k, k < 8 ∧ ¬ tried k = tz_R (8 * a + k)) : f_X10_shapeTried tz_R tried = some (-9) := by
  have key : ∀ (d f a : Nat), a + d = 67 → d < f → f_X10_shapeTried_2 tz_R tried f (nI a) = some (-9) := by
    intro d
    induction d with
    | zero =>
      intro f a ha hf
      obtain ⟨f, rfl⟩ : ∃ z, f = z + 1 := ⟨f - 1, by omega⟩
      obtain rfl : a = 67 := by omega
      show gf_X10_shapeTried_2 (f_X10_shapeTried_2 tz_R tried f) tz_R tried (nI 67) = _
      unfold gf_X10_shapeTried_2
      rw [if_pos (by decide)]
    | succ d ih =>
      intro f a ha hf
      obtain ⟨f, rfl⟩ : ∃ z, f = z + 1 := ⟨f - 1, by omega⟩
      obtain ⟨k, hk, hk2⟩ := h a (by omega)
      show gf_X10_shapeTried_2 (f_X10_shapeTried_2 tz_R tried f) tz_R tried (nI a) = _
      unfold gf_X10_shapeTried_2
      rw [if_neg (show ¬ (67 : Int32) ≤ nI a from nI_ge (b := 67) (by omega) (by decide))]
      exact ((st12_1 (by omega) (f_X10_shapeTried_2 tz_R tried f) 8 1000 0 (by omega) (by omega)).2 ⟨k, by omega, hk, hk2⟩).trans (ih f (a + 1) (by omega) (by omega))
  exact key 67 1000 0 (by omega) (by omega)
theorem st_hit {tried : Nat → Int32} {s : Nat} (hs : s < 67) (h : ∀ k, k < 8 → tried k = tz_R (8 * s + k)) : f_X10_shapeTried tz_R tried = some (nI s) := by
  have key : ∀ (d f a : Nat), a + d = s → d < f → f_X10_shapeTried_2 tz_R tried f (nI a) = some (nI s) := by
    intro d
    induction d with
    | zero =>
      intro f a ha hf
      obtain ⟨f, rfl⟩ : ∃ z, f = z + 1 := ⟨f - 1, by omega⟩
      obtain rfl : a = s := by omega
      show gf_X10_shapeTried_2 (f_X10_shapeTried_2 tz_R tried f) tz_R tried (nI a) = _
      unfold gf_X10_shapeTried_2
      rw [if_neg (show ¬ (67 : Int32) ≤ nI a from nI_ge (b := 67) (by omega) (by decide))]
      exact (st12_1 hs (f_X10_shapeTried_2 tz_R tried f) 8 1000 0 (by omega) (by omega)).1 (fun k _ hk => h k hk)
    | succ d ih =>
      intro f a ha hf
      obtain ⟨f, rfl⟩ : ∃ z, f = z + 1 := ⟨f - 1, by omega⟩
      obtain ⟨k, hk, hk2⟩ := List.any_eq_true.mp (rows_ne s hs a (by omega))
      have hk := List.mem_range.mp hk
      have hk3 : ¬ tried k = tz_R (8 * a + k) := fun e => by
        rw [h k hk] at e
        have e2 := tR_eq.mp e
        rw [e2] at hk2
        exact absurd hk2 (by simp)
      show gf_X10_shapeTried_2 (f_X10_shapeTried_2 tz_R tried f) tz_R tried (nI a) = _
      unfold gf_X10_shapeTried_2
      rw [if_neg (show ¬ (67 : Int32) ≤ nI a from nI_ge (b := 67) (by omega) (by decide))]
      exact ((st12_1 (by omega) (f_X10_shapeTried_2 tz_R tried f) 8 1000 0 (by omega) (by omega)).2 ⟨k, by omega, hk, hk3⟩).trans (ih f (a + 1) (by omega) (by omega))
  exact key s 1000 0 (by omega) (by omega)
theorem qR_0 : ∀ k, k < 8 → qz_R (8 * 0 + k) = 0 := by decide +kernel
theorem m_bad {l n i0 : Nat} (hl : l < 3) (hn : n ≤ 40) {list cell rb : Nat → Int32} (el : list l = nI n) : ∀ (d g j : Nat) (t : Nat → Int32), j + d = n → d < g → i0 < j → (∀ a, a < 67 → ∃ k, k < 8 ∧ k ≤ i0 ∧ ¬ t k = tz_R (8 * a + k)) → ∃ t', f_X10_shape_31 tz_R list cell g rb t (nI l) (nI j) = some (-9, rb, t') := by
  intro d
  induction d with
  | zero =>
    intro g j t hj hg hij hb
    obtain ⟨g, rfl⟩ : ∃ z, g = z + 1 := ⟨g - 1, by omega⟩
    obtain rfl : j = n := by omega
    refine ⟨t, ?_⟩
    show gf_X10_shape_31 (f_X10_shape_31 tz_R list cell g) tz_R list cell rb t (nI l) (nI j) = _
    unfold gf_X10_shape_31
    rw [pinn hl (by decide), nI_c l (by omega), el, if_pos (Int32.le_refl _), st_miss (fun a ha => by obtain ⟨k, h1, _, h2⟩ := hb a ha; exact ⟨k, h1, h2⟩), pb1]
  | succ d ih =>
    intro g j t hj hg hij hb
    obtain ⟨g, rfl⟩ : ∃ z, g = z + 1 := ⟨g - 1, by omega⟩
    have e1 : ∀ t2, f_X10_shape_31 tz_R list cell (g + 1) rb t2 (nI l) (nI j) = (if (8 : Int32) ≤ nI j then some (-9, rb, t2) else if (1 : Int32) ≤ cell (40 * l + j) then p_in (nI j) 9 (f_X10_shape_31 tz_R list cell g rb (upd t2 j (cell (40 * l + j))) (nI l) (nI (j + 1))) else some (-9, rb, t2)) := by
      intro t2
      show gf_X10_shape_31 (f_X10_shape_31 tz_R list cell g) tz_R list cell rb t2 (nI l) (nI j) = _
      unfold gf_X10_shape_31
      rw [pinn hl (by decide), nI_c l (by omega), el, if_neg (nI_ge (by omega) (by omega)), ix40m, pinn (by omega) (by decide), pinn (by omega) (by decide), nI_c (40 * l + j) (by omega), nI_c j (by omega), show nI j + (1 : Int32) = nI (j + 1) from nI_1 j]
    rw [e1]
    by_cases c : (8 : Int32) ≤ nI j
    · rw [if_pos c]; exact ⟨_, rfl⟩
    · rw [if_neg c]
      by_cases c2 : (1 : Int32) ≤ cell (40 * l + j)
      · rw [if_pos c2]
        have hj8 : j < 8 := by
          apply Decidable.byContradiction
          intro h
          exact c (nI_le (a := 8) (by omega) (by omega))
        rw [pinn (by omega) (by decide)]
        exact ih g (j + 1) _ (by omega) (by omega) (by omega) (fun a ha => by
          obtain ⟨k, h1, h2, h3⟩ := hb a ha
          exact ⟨k, h1, h2, by unfold upd; rw [if_neg (by omega)]; exact h3⟩)
      · rw [if_neg c2]; exact ⟨_, rfl⟩
theorem told_loop {l n : Nat} (hl : l < 3) (hn : n ≤ 40) {values lengths list cell : Nat → Int32} (rb : Nat → Int32) (e : lengths l = nI n) (el : list l = nI n) (hv : ∀ i, i < n → values (40 * l + i) = cell (40 * l + i)) : ∀ (d f g i s : Nat) (t : Nat → Int32), i + d = n → d < f → d < g → s < 67 → i = qz_L s → (∀ k, k < 8 → t k = tz_R (8 * s + k)) → ∃ r t', f_X9_shapeTold_11 values lengths f (nI l) (xi_KEYS s) (nI (qz_S s)) (nI (la s)) (nI i) = some r ∧ f_X10_shape_31 tz_R list cell g rb t (nI l) (nI i) = some (r, rb, t') := by
  intro d
  induction d with
  | zero =>
    intro f g i s t hi hf hg hs hL ht
    obtain ⟨f, rfl⟩ : ∃ z, f = z + 1 := ⟨f - 1, by omega⟩
    obtain ⟨g, rfl⟩ : ∃ z, g = z + 1 := ⟨g - 1, by omega⟩
    obtain rfl : i = n := by omega
    refine ⟨nI s, t, ?_, ?_⟩
    · show gf_X9_shapeTold_11 (f_X9_shapeTold_11 values lengths f) values lengths _ _ _ _ _ = _
      unfold gf_X9_shapeTold_11
      rw [k_len4 hl, pb1, e, if_pos (Int32.le_refl _), k_find s hs, pb1]
    · show gf_X10_shape_31 (f_X10_shape_31 tz_R list cell g) tz_R list cell rb t (nI l) (nI i) = _
      unfold gf_X10_shape_31
      rw [pinn hl (by decide), nI_c l (by omega), el, if_pos (Int32.le_refl _), st_hit hs ht, pb1]
  | succ d ih =>
    intro f g i s t hi hf hg hs hL ht
    obtain ⟨f, rfl⟩ : ∃ z, f = z + 1 := ⟨f - 1, by omega⟩
    obtain ⟨g, rfl⟩ : ∃ z, g = z + 1 := ⟨g - 1, by omega⟩
    obtain ⟨l1, l2, l3⟩ := la_le s hs
    have eK : f_X9_shapeTold_11 values lengths (f + 1) (nI l) (xi_KEYS s) (nI (qz_S s)) (nI (la s)) (nI i) = (if values (40 * l + i) < (1 : Int32) then some (-9) else if nI (la s) < values (40 * l + i) then some (-9) else if nI (qz_S s) + values (40 * l + i) ≤ (8 : Int32) then f_X9_shapeTold_11 values lengths f (nI l) ((xi_KEYS s <<< ((4 : Int32) &&& 31)) ||| values (40 * l + i)) (nI (qz_S s) + values (40 * l + i)) (values (40 * l + i)) (nI (i + 1)) else some (-9)) := by
      show gf_X9_shapeTold_11 (f_X9_shapeTold_11 values lengths f) values lengths _ _ _ _ _ = _
      unfold gf_X9_shapeTold_11 f_X7_keyWith
      rw [k_len4 hl, pb1, e, if_neg (nI_ge (by omega) (by omega)), k_at4 hl hn e (by omega), pb1, pb1, show nI i + (1 : Int32) = nI (i + 1) from nI_1 i]
    have eM : f_X10_shape_31 tz_R list cell (g + 1) rb t (nI l) (nI i) = (if (8 : Int32) ≤ nI i then some (-9, rb, t) else if (1 : Int32) ≤ cell (40 * l + i) then p_in (nI i) 9 (f_X10_shape_31 tz_R list cell g rb (upd t i (cell (40 * l + i))) (nI l) (nI (i + 1))) else some (-9, rb, t)) := by
      show gf_X10_shape_31 (f_X10_shape_31 tz_R list cell g) tz_R list cell rb t (nI l) (nI i) = _
      unfold gf_X10_shape_31
      rw [pinn hl (by decide), nI_c l (by omega), el, if_neg (nI_ge (by omega) (by omega)), ix40m, pinn (by omega) (by decide), pinn (by omega) (by decide), nI_c (40 * l + i) (by omega), nI_c i (by omega), show nI i + (1 : Int32) = nI (i + 1) from nI_1 i]
    rw [eK, eM, ← hv i (by omega)]
    generalize values (40 * l + i) = v
    by_cases c1 : v < (1 : Int32)
    · rw [if_pos c1, if_neg (Int32.not_le.mpr c1)]
      by_cases c : (8 : Int32) ≤ nI i
      · rw [if_pos c]; exact ⟨_, _, rfl, rfl⟩
      · rw [if_neg c]; exact ⟨_, _, rfl, rfl⟩
    have c1' : (1 : Int32) ≤ v := Int32.not_lt.mp c1
    obtain ⟨r, hr, rfl⟩ := nI_of (x := v) (fun h => c1 (Int32.lt_trans h (by decide)))
    have hr1 : 1 ≤ r := by
      apply Decidable.byContradiction
      intro h
      obtain rfl : r = 0 := by omega
      exact c1 (by decide)
    rw [if_neg c1, if_pos c1']
    by_cases c8 : 8 ≤ i
    · rw [if_pos (show (8 : Int32) ≤ nI i from nI_le (a := 8) c8 (by omega))]
      by_cases c2 : nI (la s) < nI r
      · rw [if_pos c2]; exact ⟨_, _, rfl, rfl⟩
      · rw [if_neg c2, if_neg]
        · exact ⟨_, _, rfl, rfl⟩
        · have : r ≤ la s := by
            apply Decidable.byContradiction
            intro h
            exact c2 (nI_lt (by omega) hr)
          rw [nI_add]
          exact nI_ge (b := qz_S s + r) (a := 8) (by omega) (by omega)
    rw [if_neg (show ¬ (8 : Int32) ≤ nI i from nI_ge (b := 8) (by omega) (by decide)), pinn (by omega) (by decide)]
    by_cases c2 : r ≤ la s ∧ qz_S s + r ≤ 8
    · obtain ⟨n1, n2, n3, n4, n5, n6⟩ := nx_ok hs hr1 c2.1 c2.2
      rw [if_neg (nI_nlt c2.1 (by omega)), nI_add, if_pos (show nI (qz_S s + r) ≤ (8 : Int32) from nI_le (b := 8) c2.2 (by decide)), ← n5, ← n2]
      have e2 := ih f g (i + 1) (nx s r) (upd t i (nI r)) (by omega) (by omega) (by omega) n1 (by omega) (fun k hk => by
        unfold upd tz_R
        rw [n6 k hk]
        by_cases c : k = i
        · rw [if_pos c, if_pos (by omega)]
        · rw [if_neg c, if_neg (by omega)]
          exact ht k hk)
      rw [n4] at e2
      exact e2
    · have hbad : ∀ a, a < 67 → ∃ k, k < 8 ∧ k ≤ i ∧ ¬ (upd t i (nI r)) k = tz_R (8 * a + k) := by
        intro a ha
        rcases pre_all s hs a ha with h | h | ⟨h, h'⟩
        · obtain ⟨k, hk, hk2⟩ := List.any_eq_true.mp h
          have hk := List.mem_range.mp hk
          refine ⟨k, by omega, by omega, fun e => ?_⟩
          unfold upd at e
          rw [if_neg (by omega), ht k (by omega)] at e
          have e2 := tR_eq.mp e
          rw [e2] at hk2
          exact absurd hk2 (by simp)
        · omega
        · refine ⟨i, by omega, by omega, fun e => ?_⟩
          unfold upd at e
          rw [if_pos rfl] at e
          have e2 : r = qz_R (8 * a + i) := (nI_eq hr (by have := qR_16 (8 * a + i); omega)).mp e
          rw [hL] at e2
          exact c2 (by omega)
      obtain ⟨t', e3⟩ := m_bad (rb := rb) hl hn el d g (i + 1) (upd t i (nI r)) (by omega) (by omega) (by omega) hbad
      refine ⟨-9, t', ?_, e3⟩
      by_cases c3 : nI (la s) < nI r
      · rw [if_pos c3]
      · have hrl : r ≤ la s := by
          apply Decidable.byContradiction
          intro h
          exact c3 (nI_lt (by omega) hr)
        rw [if_neg c3, if_neg]
        rw [nI_add]
        exact nI_ge (b := qz_S s + r) (a := 8) (by omega) (by omega)
set_option maxRecDepth 10000 in
theorem eq_shape : EQ_shape Rl0 := by
  intro v9_refusals v7_rows v7_lengths v7_sizes v7_rests v7_orders v6_hooks v6_lefts v6_heights v1_table v5_known v8_sizes v8_coefficients v8_undoneSums v8_undos v8_nextUndo v8_imageTaken v0_totals v3_letters v3_count v3_next v3_size v4_values v4_lengths v10_firstOf v10_sizeOf v10_longOf v10_row v10_character v10_sum v10_coefficient v10_undone v10_wasSum v10_wasCoefficient v10_hasImage v10_letter v10_letters v10_list v10_cell v10_refusals v10_tried v10_left v10_high v10_then v10_at v10_readSize hR x1
  obtain ⟨hc, hm, hrf, hkn, hle, hli, hsu⟩ := hR
  have hc1 := hc
  have hm1 := hm
  obtain ⟨rfl, rfl, rfl, rfl, rfl, rfl, rfl, rfl, rfl⟩ := hc1
  obtain ⟨rfl, rfl, rfl, rfl, rfl⟩ := hm1
  rcases (lix x1).symm with ⟨h1, h2⟩ | ⟨l, hl, rfl, h1, h2⟩
  · obtain ⟨a', b', e1, e2, hrf'⟩ := rf_1 hrf (-1) (by decide)
    exact ⟨_, _, _, _, by unfold f_X9_shape; rw [h1, pb1, if_pos rfl, e1, pb2], by unfold f_X10_shape; rw [h2, pb1, if_pos rfl, e2, pb2], Rl0_mk hc hm hrf' hkn hle hli hsu⟩
  obtain ⟨g1, g2⟩ := hli l hl
  rcases g2 with g2 | ⟨n, hn, e, g3⟩
  · exact ⟨_, _, _, _, by unfold f_X9_shape; rw [h1, pb1, if_neg i10, k_miss1 hl g2, pb1, if_neg i10], by unfold f_X10_shape; rw [h2, pb1, if_neg i10, pinn hl (by decide), nI_c l (by omega), ← g1, g2, if_neg le_m1], Rl0_mk hc hm hrf hkn hle hli hsu⟩
  obtain ⟨t0, et0, ht0⟩ := m_triesNone v10_tried
  obtain ⟨r, t', a1, a2⟩ := told_loop (cell := v10_cell) (rb := v10_refusals) hl hn e (g1.symm.trans e) g3 n 1000 1000 0 0 t0 (by omega) (by omega) (by omega) (by decide) (by decide) (fun k hk => by unfold tz_R; rw [qR_0 k hk, ht0 k (by omega)]; rfl)
  exact ⟨_, _, _, _, by unfold f_X9_shape f_X9_shapeTold; rw [h1, pb1, if_neg i10, k_miss0 hl hn e, pb1, if_pos rfl, show f_X9_shapeTold_11 v4_values v4_lengths 1000 (nI l) 0 0 8 0 = some r from a1, pb1], by unfold f_X10_shape; rw [h2, pb1, if_neg i10, pinn hl (by decide), nI_c l (by omega), ← g1, e, if_pos (nI_pos' (by omega)), et0, pb1]; exact a2, Rl0_mk hc hm hrf hkn hle hli hsu⟩
