/-! letters read -/
/-- the letter at a place, -1 behind the last -/
def ch (lt : Nat → Int32) (n a : Nat) : Int32 := if a < n then lt a else -1
theorem k_next {lc lm : Nat → Int32} {n a : Nat} (hn : n ≤ 72) (hl : ∀ j, j < n → lc j = lm j) (ha : a ≤ n) : f_X3_nextLetter lc (nI n) (nI a) = some (ch lm n a) := by
  unfold f_X3_nextLetter ch
  rw [if_neg (nI_pos (by omega))]
  by_cases c : a < n
  · rw [if_pos c, if_neg (nI_ge c (by omega)), if_neg (show ¬ (72 : Int32) ≤ nI a from nI_ge (b := 72) (by omega) (by decide)), pinn (by omega) (by decide), nI_c a (by omega), hl a c]
  · rw [if_neg c, if_pos (nI_le (by omega) (by omega))]
theorem k_pass1 {lc lm : Nat → Int32} {n a : Nat} {w : Int32} (hn : n ≤ 72) (hl : ∀ j, j < n → lc j = lm j) (ha : a ≤ n) (h : ch lm n a = w) : f_X3_passes lc (nI n) (nI a) w = some (1, nI (a + 1)) := by
  unfold f_X3_passes
  rw [k_next hn hl ha, pb1, if_pos h, if_neg i10, show nI a + (1 : Int32) = nI (a + 1) from nI_1 a]
theorem k_pass0 {lc lm : Nat → Int32} {n a : Nat} {w : Int32} (hn : n ≤ 72) (hl : ∀ j, j < n → lc j = lm j) (ha : a ≤ n) (h : ¬ ch lm n a = w) : f_X3_passes lc (nI n) (nI a) w = some (0, nI a) := by
  unfold f_X3_passes
  rw [k_next hn hl ha, pb1, if_neg h, if_pos rfl]
theorem m_here1 {lm : Nat → Int32} {n a : Nat} {lo hi : Int32} (hn : n ≤ 72) (ha : a < n) (h1 : ¬ lm a < lo) (h2 : ¬ hi < lm a) : f_X10_isHere lm (nI n) (nI a) lo hi = some 1 := by
  unfold f_X10_isHere f_X10_in
  rw [if_neg (nI_ge ha (by omega)), pinn (by omega) (by decide), nI_c a (by omega), if_neg h1, if_neg h2, pb1, if_neg i10]
theorem m_here0 {lm : Nat → Int32} {n a : Nat} {lo hi : Int32} (hn : n ≤ 72) (h : a < n → lm a < lo ∨ hi < lm a) (ha : a ≤ n) : f_X10_isHere lm (nI n) (nI a) lo hi = some 0 := by
  unfold f_X10_isHere f_X10_in
  by_cases c : a < n
  · rw [if_neg (nI_ge c (by omega)), pinn (by omega) (by decide), nI_c a (by omega)]
    by_cases c1 : lm a < lo
    · rw [if_pos c1, pb1, if_pos rfl]
    · rw [if_neg c1, if_pos ((h c).resolve_left c1), pb1, if_pos rfl]
  · rw [if_pos (nI_le (by omega) (by omega))]
theorem ne_lt_gt {x w : Int32} (h : ¬ x = w) : x < w ∨ w < x := by
  by_cases c : x < w
  · exact Or.inl c
  · by_cases d : w < x
    · exact Or.inr d
    · exact absurd (Int32.le_antisymm (Int32.not_lt.mp d) (Int32.not_lt.mp c)) h
theorem m_is1 {lm : Nat → Int32} {n a : Nat} {w : Int32} (hn : n ≤ 72) (hw : ¬ w = -1) (h : ch lm n a = w) : a < n ∧ lm a = w ∧ f_X10_isHere lm (nI n) (nI a) w w = some 1 := by
  unfold ch at h
  by_cases c : a < n
  · rw [if_pos c] at h
    exact ⟨c, h, m_here1 hn c (by rw [h]; exact Int32.lt_irrefl) (by rw [h]; exact Int32.lt_irrefl)⟩
  · rw [if_neg c] at h
    exact absurd h.symm hw
theorem m_is0 {lm : Nat → Int32} {n a : Nat} {w : Int32} (hn : n ≤ 72) (ha : a ≤ n) (h : ¬ ch lm n a = w) : f_X10_isHere lm (nI n) (nI a) w w = some 0 :=
  m_here0 hn (fun c => by
    unfold ch at h
    rw [if_pos c] at h
    exact ne_lt_gt h) ha
theorem ch_in {lm : Nat → Int32} {n a : Nat} (h : a < n) : ch lm n a = lm a := by unfold ch; rw [if_pos h]
theorem ch_out {lm : Nat → Int32} {n a : Nat} (h : ¬ a < n) : ch lm n a = -1 := by unfold ch; rw [if_neg h]
/-- a digit stands there, or none -/
theorem dig {lm : Nat → Int32} {n a : Nat} (hn : n ≤ 72) (ha : a ≤ n) : (∃ q, q ≤ 9 ∧ a < n ∧ ch lm n a = nI (48 + q) ∧ lm a = nI (48 + q) ∧ f_X10_isHere lm (nI n) (nI a) 48 57 = some 1) ∨ ((ch lm n a < 48 ∨ 57 < ch lm n a) ∧ f_X10_isHere lm (nI n) (nI a) 48 57 = some 0) := by
  by_cases c : a < n
  · rw [ch_in c]
    by_cases c1 : lm a < 48
    · exact Or.inr ⟨Or.inl c1, m_here0 hn (fun _ => Or.inl c1) ha⟩
    · by_cases c2 : (57 : Int32) < lm a
      · exact Or.inr ⟨Or.inr c2, m_here0 hn (fun _ => Or.inr c2) ha⟩
      · obtain ⟨j, hj, e⟩ := nI_of2 (n := 57) (M := 57) (x := lm a) (by decide) (fun h => c1 (Int32.lt_trans h (by decide))) (Int32.not_lt.mp c2)
        have h48 : 48 ≤ j := by
          apply Decidable.byContradiction
          intro h
          exact c1 (by rw [e]; exact nI_lt (b := 48) (by omega) (by decide))
        obtain ⟨q, rfl⟩ : ∃ q, j = 48 + q := ⟨j - 48, by omega⟩
        exact Or.inl ⟨q, by omega, c, e, e, m_here1 hn c c1 c2⟩
  · rw [ch_out c]
    exact Or.inr ⟨Or.inl (by decide), m_here0 hn (fun h => absurd h c) ha⟩
theorem m_number18 {lc lm : Nat → Int32} {n : Nat} (hn : n ≤ 72) (hl : ∀ j, j < n → lc j = lm j) {th : Nat → Int64} {t : Nat → Int32} {rs sg fi : Int32} (K : (Nat → Int32) → (Nat → Int64) → Int32 → Int32 → Int32 → Int32 → Int32 → Option (Int32 × (Nat → Int32) × (Nat → Int64) × Int32 × Int32)) : ∀ (d f g k a v : Nat), k + d = 3 → d < f → d < g → 1 ≤ k → a ≤ n → v < 10 ^ k → ∃ v' a', a ≤ a' ∧ a' ≤ n ∧ v' ≤ 999 ∧ f_X3_passNumber_4 lc (nI n) f (nI a) (nI v) (nI k) = some (nI v', nI a') ∧ f_X10_readTerm_18 K tz_D tz_R lm (nI n) g t th (nI a) rs sg fi (nI v) (nI k) = K t th (nI a') rs sg fi (nI v') := by
  intro d
  induction d with
  | zero =>
    intro f g k a v hk hf hg hk1 ha hv
    obtain ⟨f, rfl⟩ : ∃ z, f = z + 1 := ⟨f - 1, by omega⟩
    obtain ⟨g, rfl⟩ : ∃ z, g = z + 1 := ⟨g - 1, by omega⟩
    obtain rfl : k = 3 := by omega
    refine ⟨v, a, Nat.le_refl _, ha, by omega, ?_, ?_⟩
    · show gf_X3_passNumber_4 (f_X3_passNumber_4 lc (nI n) f) lc (nI n) _ _ _ = _
      unfold gf_X3_passNumber_4 f_X3_passNumber_56
      rw [if_pos (by decide), if_neg (by decide)]
    · show gf_X10_readTerm_18 (f_X10_readTerm_18 K tz_D tz_R lm (nI n) g) K tz_D tz_R lm (nI n) t th _ rs sg fi _ _ = _
      unfold gf_X10_readTerm_18
      rw [if_pos (by decide)]
  | succ d ih =>
    intro f g k a v hk hf hg hk1 ha hv
    obtain ⟨f, rfl⟩ : ∃ z, f = z + 1 := ⟨f - 1, by omega⟩
    obtain ⟨g, rfl⟩ : ∃ z, g = z + 1 := ⟨g - 1, by omega⟩
    have c3 : ¬ (3 : Int32) ≤ nI k := nI_ge (b := 3) (by omega) (by decide)
    have hv2 : v < 1000 := Nat.lt_of_lt_of_le hv (show 10 ^ k ≤ 10 ^ 3 from Nat.pow_le_pow_right (by decide) (by omega))
    rcases dig (lm := lm) hn ha with ⟨q, hq, han, q1, q2, q3⟩ | ⟨q1, q3⟩
    · have hv3 : v * 10 + q < 10 ^ (k + 1) := by rw [Nat.pow_succ]; omega
      obtain ⟨v', a', h1, h2, h3, e1, e2⟩ := ih f g (k + 1) (a + 1) (v * 10 + q) (by omega) (by omega) (by omega) (by omega) (by omega) hv3
      refine ⟨v', a', by omega, h2, h3, ?_, ?_⟩
      · show gf_X3_passNumber_4 (f_X3_passNumber_4 lc (nI n) f) lc (nI n) _ _ _ = _
        unfold gf_X3_passNumber_4
        rw [if_neg c3, k_next hn hl ha, pb1, q1, if_neg (show ¬ nI (48 + q) < (48 : Int32) from nI_nlt (b := 48) (by omega) (by omega)), pb1, if_neg (show ¬ (57 : Int32) < nI (48 + q) from nI_nlt (a := 57) (by omega) (by omega)), pb1, show nI v * (10 : Int32) + nI (48 + q) - (48 : Int32) = nI (v * 10 + q) by rw [show (10 : Int32) = nI 10 from rfl, nI_mul2, nI_add, show (48 : Int32) = nI 48 from rfl, nI_sub2 (by omega)]; congr 1; omega, show nI a + (1 : Int32) = nI (a + 1) from nI_1 a, show nI k + (1 : Int32) = nI (k + 1) from nI_1 k]
        exact e1
      · show gf_X10_readTerm_18 (f_X10_readTerm_18 K tz_D tz_R lm (nI n) g) K tz_D tz_R lm (nI n) t th _ rs sg fi _ _ = _
        unfold gf_X10_readTerm_18
        rw [if_neg c3, q3, pb1, if_neg i10, pinn (by omega) (by decide), nI_c a (by omega), q2, show (10 : Int32) * nI v + nI (48 + q) - (48 : Int32) = nI (v * 10 + q) by rw [show (10 : Int32) = nI 10 from rfl, nI_mul2, nI_add, show (48 : Int32) = nI 48 from rfl, nI_sub2 (by omega)]; congr 1; omega, show nI a + (1 : Int32) = nI (a + 1) from nI_1 a, show nI k + (1 : Int32) = nI (k + 1) from nI_1 k]
        exact e2
    · refine ⟨v, a, Nat.le_refl _, ha, by omega, ?_, ?_⟩
      · show gf_X3_passNumber_4 (f_X3_passNumber_4 lc (nI n) f) lc (nI n) _ _ _ = _
        unfold gf_X3_passNumber_4 f_X3_passNumber_56
        rw [if_neg c3, k_next hn hl ha, pb1, pb1, if_neg (nI_ne0 (by omega) (by omega))]
        by_cases c : ch lm n a < 48
        · rw [if_pos c]
        · rw [if_neg c, if_pos (q1.resolve_left c)]
      · show gf_X10_readTerm_18 (f_X10_readTerm_18 K tz_D tz_R lm (nI n) g) K tz_D tz_R lm (nI n) t th _ rs sg fi _ _ = _
        unfold gf_X10_readTerm_18
        rw [if_neg c3, q3, pb1, if_pos rfl]
theorem read_number {lc lm : Nat → Int32} {n a : Nat} (hn : n ≤ 72) (hl : ∀ j, j < n → lc j = lm j) (ha : a ≤ n) (th : Nat → Int64) (t : Nat → Int32) (rs sg fi : Int32) : ∃ v a', a ≤ a' ∧ a' ≤ n ∧ v ≤ 999 ∧ f_X3_passNumber lc (nI n) (nI a) = some (nI v, nI a') ∧ f_X10_readTerm tz_D tz_R lm (nI n) t th (nI a) rs sg fi = f_X10_readTerm_69 tz_D tz_R lm (nI n) t th (nI a') rs sg fi (nI v) := by
  rcases dig (lm := lm) hn ha with ⟨q, hq, han, q1, q2, q3⟩ | ⟨q1, q3⟩
  · obtain ⟨v', a', h1, h2, h3, e1, e2⟩ := m_number18 (rs := rs) (sg := sg) (fi := fi) (th := th) (t := t) hn hl (f_X10_readTerm_69 tz_D tz_R lm (nI n)) 2 999 999 1 (a + 1) q (by omega) (by omega) (by omega) (by omega) (by omega) (by omega)
    refine ⟨v', a', by omega, h2, h3, ?_, ?_⟩
    · unfold f_X3_passNumber
      show gf_X3_passNumber_4 (f_X3_passNumber_4 lc (nI n) 999) lc (nI n) (nI a) 0 0 = _
      unfold gf_X3_passNumber_4
      rw [if_neg (by decide), k_next hn hl ha, pb1, q1, if_neg (show ¬ nI (48 + q) < (48 : Int32) from nI_nlt (b := 48) (by omega) (by omega)), pb1, if_neg (show ¬ (57 : Int32) < nI (48 + q) from nI_nlt (a := 57) (by omega) (by omega)), pb1, show (0 : Int32) * (10 : Int32) + nI (48 + q) - (48 : Int32) = nI q by rw [show (0 : Int32) * (10 : Int32) = nI 0 from rfl, nI_add, show (48 : Int32) = nI 48 from rfl, nI_sub2 (by omega)]; congr 1; omega, show nI a + (1 : Int32) = nI (a + 1) from nI_1 a]
      exact e1
    · unfold f_X10_readTerm
      rw [q3, pb1, if_neg i10]
      show gf_X10_readTerm_18 (f_X10_readTerm_18 (f_X10_readTerm_69 tz_D tz_R lm (nI n)) tz_D tz_R lm (nI n) 999) (f_X10_readTerm_69 tz_D tz_R lm (nI n)) tz_D tz_R lm (nI n) t th _ rs sg fi _ _ = _
      unfold gf_X10_readTerm_18
      rw [if_neg (by decide), q3, pb1, if_neg i10, pinn (by omega) (by decide), nI_c a (by omega), q2, show (10 : Int32) * (0 : Int32) + nI (48 + q) - (48 : Int32) = nI q by rw [show (10 : Int32) * (0 : Int32) = nI 0 from rfl, nI_add, show (48 : Int32) = nI 48 from rfl, nI_sub2 (by omega)]; congr 1; omega, show nI a + (1 : Int32) = nI (a + 1) from nI_1 a]
      exact e2
  · refine ⟨1, a, Nat.le_refl _, ha, by omega, ?_, ?_⟩
    · unfold f_X3_passNumber
      show gf_X3_passNumber_4 (f_X3_passNumber_4 lc (nI n) 999) lc (nI n) (nI a) 0 0 = _
      unfold gf_X3_passNumber_4 f_X3_passNumber_56
      rw [if_neg (by decide), k_next hn hl ha, pb1, pb1, if_pos rfl]
      by_cases c : ch lm n a < 48
      · rw [if_pos c]; rfl
      · rw [if_neg c, if_pos (q1.resolve_left c)]; rfl
    · unfold f_X10_readTerm
      rw [q3, pb1, if_pos rfl]
      rfl
theorem bmi (z : Int) : z.bmod (2 ^ 32) = if z % 4294967296 < 2147483648 then z % 4294967296 else z % 4294967296 - 4294967296 := by
  rw [Int.bmod_def]
  rfl
/-- a letter that tells a row, or one that tells none -/
theorem rowl (x : Int32) : (∃ r, 1 ≤ r ∧ r ≤ 8 ∧ x = nI (48 + r)) ∨ ((x < 49 ∨ 56 < x) ∧ (x - 48 < 1 ∨ 8 < x - 48)) := by
  by_cases c1 : x < 49
  · refine Or.inr ⟨Or.inl c1, ?_⟩
    have h1 := Int32.lt_iff_toInt_lt.mp c1
    rw [show (49 : Int32).toInt = 49 by decide] at h1
    have hx := Int32.le_toInt x
    rw [Int32.lt_iff_toInt_lt, Int32.lt_iff_toInt_lt, Int32.toInt_sub, show (48 : Int32).toInt = 48 by decide, show (1 : Int32).toInt = 1 by decide, show (8 : Int32).toInt = 8 by decide, bmi]
    by_cases d : (x.toInt - 48) % 4294967296 < 2147483648
    · rw [if_pos d]; omega
    · rw [if_neg d]; omega
  · by_cases c2 : (56 : Int32) < x
    · refine Or.inr ⟨Or.inr c2, ?_⟩
      have h1 := Int32.lt_iff_toInt_lt.mp c2
      rw [show (56 : Int32).toInt = 56 by decide] at h1
      have hx := Int32.toInt_lt x
      rw [Int32.lt_iff_toInt_lt, Int32.lt_iff_toInt_lt, Int32.toInt_sub, show (48 : Int32).toInt = 48 by decide, show (1 : Int32).toInt = 1 by decide, show (8 : Int32).toInt = 8 by decide, bmi]
      by_cases d : (x.toInt - 48) % 4294967296 < 2147483648
      · rw [if_pos d]; omega
      · rw [if_neg d]; omega
    · obtain ⟨j, hj, e⟩ := nI_of2 (n := 56) (M := 56) (x := x) (by decide) (fun h => c1 (Int32.lt_trans h (by decide))) (Int32.not_lt.mp c2)
      have h48 : 49 ≤ j := by
        apply Decidable.byContradiction
        intro h
        exact c1 (by rw [e]; exact nI_lt (b := 49) (by omega) (by decide))
      exact Or.inl ⟨j - 48, by omega, by omega, by rw [e]; congr 1; omega⟩
/-- what the model does behind the rows of a term -/
def RTail (lm : Nat → Int32) (n : Nat) (t : Nat → Int32) (th : Nat → Int64) (a rs y1 y2 y3 y5 : Int32) : Option (Int32 × (Nat → Int32) × (Nat → Int64) × Int32 × Int32) := p_b1 (f_X10_isHere lm (nI n) a (93 : Int32) (93 : Int32)) (fun r_10 => if r_10 = 0 then (some ((0 : Int32), t, th, a, rs)) else (if y2 = 0 then (if y5 = rs then ((f_X10_readTerm_215 tz_D tz_R lm (nI n)) t th a rs y1 y3 y5) else (some ((0 : Int32), t, th, a, rs))) else ((f_X10_readTerm_215 tz_D tz_R lm (nI n)) t th a rs y1 y3 y5)))
def lac (M s : Nat) : Nat := if s = 0 then M else la s
theorem rd_rows {lc lm : Nat → Int32} {n M : Nat} (hn : n ≤ 72) (hM : M ≤ 8) (hl : ∀ j, j < n → lc j = lm j) {th : Nat → Int64} {rs y1 y2 y3 vs : Int32} : ∀ (d f g s a : Nat) (t : Nat → Int32), qz_L s + d = 8 → d < f → d < g → s < 67 → a ≤ n → qz_S s ≤ M → (∀ k, k < 8 → t k = tz_R (8 * s + k)) → ∃ s' a' t', s' < 67 ∧ qz_S s' ≤ M ∧ a ≤ a' ∧ a' ≤ n ∧ (∀ k, k < 8 → t' k = tz_R (8 * s' + k)) ∧ f_X3_passRows_28 lc (nI n) vs f (nI a) (nI M) (nI (lac M s)) (nI (qz_S s)) (xi_KEYS s) (nI (qz_L s)) = some (nI s', nI a') ∧ f_X10_readTerm_121 tz_D tz_R lm (nI n) g t th (nI a) rs y1 y2 y3 (nI (la s)) (nI (qz_S s)) (nI (qz_L s)) (nI M) = RTail lm n t' th (nI a') rs y1 y2 y3 (nI (qz_S s')) := by
  intro d
  induction d with
  | zero =>
    intro f g s a t hL hf hg hs ha hS ht
    obtain ⟨f, rfl⟩ : ∃ z, f = z + 1 := ⟨f - 1, by omega⟩
    obtain ⟨g, rfl⟩ : ∃ z, g = z + 1 := ⟨g - 1, by omega⟩
    obtain ⟨l1, l2, l3⟩ := la_le s hs
    refine ⟨s, a, t, hs, hS, Nat.le_refl _, ha, ht, ?_, ?_⟩
    · show gf_X3_passRows_28 (f_X3_passRows_28 lc (nI n) vs f) lc (nI n) vs _ _ _ _ _ _ = _
      unfold gf_X3_passRows_28 f_X3_passRows_100
      rw [if_pos (show (8 : Int32) ≤ nI (qz_L s) from nI_le (a := 8) (by omega) (by omega)), k_find s hs, pb1]
    · show gf_X10_readTerm_121 (f_X10_readTerm_121 tz_D tz_R lm (nI n) g) tz_D tz_R lm (nI n) t th _ rs y1 y2 y3 _ _ _ _ = _
      unfold gf_X10_readTerm_121
      rw [nI_sub2 hS, show M - qz_S s = 0 by omega]
      have e : f_X10_isHere lm (nI n) (nI a) 49 ((48 : Int32) + if nI 0 < nI (la s) then nI 0 else nI (la s)) = some 0 := by
        refine m_here0 hn (fun _ => ?_) ha
        by_cases c : lm a < 49
        · exact Or.inl c
        · refine Or.inr (Int32.lt_of_lt_of_le ?_ (Int32.not_lt.mp c))
          by_cases c2 : nI 0 < nI (la s)
          · rw [if_pos c2]; decide
          · rw [if_neg c2]
            have : la s = 0 := by
              apply Decidable.byContradiction
              intro h
              exact c2 (nI_lt (by omega) (by omega))
            rw [this]; decide
      rw [e, pb1, if_pos rfl]
      rfl
  | succ d ih =>
    intro f g s a t hL hf hg hs ha hS ht
    obtain ⟨f, rfl⟩ : ∃ z, f = z + 1 := ⟨f - 1, by omega⟩
    obtain ⟨g, rfl⟩ : ∃ z, g = z + 1 := ⟨g - 1, by omega⟩
    obtain ⟨l1, l2, l3⟩ := la_le s hs
    have hlac : lac M s ≤ 8 := by unfold lac; by_cases c : s = 0; { rw [if_pos c]; exact hM }; { rw [if_neg c]; exact l1 }
    have hlac2 : ∀ r, r + qz_S s ≤ M → (r ≤ lac M s ↔ r ≤ la s) := by
      intro r hr
      unfold lac
      by_cases c : s = 0
      · rw [if_pos c]
        have : la s = 8 := by rw [c]; rfl
        omega
      · rw [if_neg c]
    have emin : (48 : Int32) + (if nI M - nI (qz_S s) < nI (la s) then nI M - nI (qz_S s) else nI (la s)) = nI (48 + (if M - qz_S s < la s then M - qz_S s else la s)) := by
      rw [nI_sub2 hS]
      by_cases c : M - qz_S s < la s
      · rw [if_pos c, if_pos (nI_lt c (by omega)), show (48 : Int32) = nI 48 from rfl, nI_add]
      · rw [if_neg c, if_neg (nI_nlt (by omega) (by omega)), show (48 : Int32) = nI 48 from rfl, nI_add]
    have hmin : ∀ r, (r ≤ (if M - qz_S s < la s then M - qz_S s else la s)) ↔ (r ≤ M - qz_S s ∧ r ≤ la s) := by
      intro r
      by_cases c : M - qz_S s < la s
      · rw [if_pos c]; omega
      · rw [if_neg c]; omega
    have eK : f_X3_passRows_28 lc (nI n) vs (f + 1) (nI a) (nI M) (nI (lac M s)) (nI (qz_S s)) (xi_KEYS s) (nI (qz_L s)) = (if (ch lm n a - 48) < 1 then some (nI s, nI a) else (if nI (lac M s) < (ch lm n a - 48) then some (nI s, nI a) else (if (nI (qz_S s) + (ch lm n a - 48)) ≤ nI M then f_X3_passRows_28 lc (nI n) vs f (nI (a + 1)) (nI M) (ch lm n a - 48) (nI (qz_S s) + (ch lm n a - 48)) ((xi_KEYS s <<< ((4 : Int32) &&& 31)) ||| (ch lm n a - 48)) (nI (qz_L s + 1)) else some (nI s, nI a)))) := by
      show gf_X3_passRows_28 (f_X3_passRows_28 lc (nI n) vs f) lc (nI n) vs _ _ _ _ _ _ = _
      unfold gf_X3_passRows_28 f_X3_passRows_100 f_X7_keyWith
      rw [if_neg (show ¬ (8 : Int32) ≤ nI (qz_L s) from nI_ge (b := 8) (by omega) (by decide)), k_next hn hl ha, pb1, k_find s hs, pb1, pb1, show nI a + (1 : Int32) = nI (a + 1) from nI_1 a, show nI (qz_L s) + (1 : Int32) = nI (qz_L s + 1) from nI_1 _]
    have eM : f_X10_readTerm_121 tz_D tz_R lm (nI n) (g + 1) t th (nI a) rs y1 y2 y3 (nI (la s)) (nI (qz_S s)) (nI (qz_L s)) (nI M) = p_b1 (f_X10_isHere lm (nI n) (nI a) 49 (nI (48 + (if M - qz_S s < la s then M - qz_S s else la s)))) (fun r_6 => if r_6 = 0 then RTail lm n t th (nI a) rs y1 y2 y3 (nI (qz_S s)) else (p_in (nI a) 72 (f_X10_readTerm_121 tz_D tz_R lm (nI n) g (upd t (qz_L s) (lm (nI a).toNatClampNeg - 48)) th (nI (a + 1)) rs y1 y2 y3 (lm (nI a).toNatClampNeg - 48) (nI (qz_S s) + (lm (nI a).toNatClampNeg - 48)) (nI (qz_L s + 1)) (nI M)))) := by
      show gf_X10_readTerm_121 (f_X10_readTerm_121 tz_D tz_R lm (nI n) g) tz_D tz_R lm (nI n) t th _ rs y1 y2 y3 _ _ _ _ = _
      unfold gf_X10_readTerm_121
      rw [emin, pinn (show qz_L s < 9 by omega) (by decide), nI_c (qz_L s) (by omega), show nI a + (1 : Int32) = nI (a + 1) from nI_1 a, show nI (qz_L s) + (1 : Int32) = nI (qz_L s + 1) from nI_1 _]
      rfl
    rw [eK, eM]
    have stop : (a < n → lm a < 49 ∨ nI (48 + (if M - qz_S s < la s then M - qz_S s else la s)) < lm a) → ((ch lm n a - 48) < 1 ∨ nI (lac M s) < (ch lm n a - 48) ∨ ¬ (nI (qz_S s) + (ch lm n a - 48)) ≤ nI M) → ∃ s' a' t', s' < 67 ∧ qz_S s' ≤ M ∧ a ≤ a' ∧ a' ≤ n ∧ (∀ k, k < 8 → t' k = tz_R (8 * s' + k)) ∧ (if (ch lm n a - 48) < 1 then some (nI s, nI a) else (if nI (lac M s) < (ch lm n a - 48) then some (nI s, nI a) else (if (nI (qz_S s) + (ch lm n a - 48)) ≤ nI M then f_X3_passRows_28 lc (nI n) vs f (nI (a + 1)) (nI M) (ch lm n a - 48) (nI (qz_S s) + (ch lm n a - 48)) ((xi_KEYS s <<< ((4 : Int32) &&& 31)) ||| (ch lm n a - 48)) (nI (qz_L s + 1)) else some (nI s, nI a)))) = some (nI s', nI a') ∧ p_b1 (f_X10_isHere lm (nI n) (nI a) 49 (nI (48 + (if M - qz_S s < la s then M - qz_S s else la s)))) (fun r_6 => if r_6 = 0 then RTail lm n t th (nI a) rs y1 y2 y3 (nI (qz_S s)) else (p_in (nI a) 72 (f_X10_readTerm_121 tz_D tz_R lm (nI n) g (upd t (qz_L s) (lm (nI a).toNatClampNeg - 48)) th (nI (a + 1)) rs y1 y2 y3 (lm (nI a).toNatClampNeg - 48) (nI (qz_S s) + (lm (nI a).toNatClampNeg - 48)) (nI (qz_L s + 1)) (nI M)))) = RTail lm n t' th (nI a') rs y1 y2 y3 (nI (qz_S s')) := by
      intro h1 h2
      refine ⟨s, a, t, hs, hS, Nat.le_refl _, ha, ht, ?_, ?_⟩
      · by_cases c1 : (ch lm n a - 48) < 1
        · rw [if_pos c1]
        · rw [if_neg c1]
          by_cases c2 : nI (lac M s) < (ch lm n a - 48)
          · rw [if_pos c2]
          · rw [if_neg c2, if_neg ((h2.resolve_left c1).resolve_left c2)]
      · rw [m_here0 hn h1 ha, pb1, if_pos rfl]
    by_cases can : a < n
    case neg =>
      exact stop (fun h => absurd h can) (Or.inl (by rw [ch_out can]; decide))
    have ech := ch_in (lm := lm) can
    rcases rowl (lm a) with ⟨r, hr1, hr8, er⟩ | ⟨h1, h2⟩
    · have esub : ch lm n a - (48 : Int32) = nI r := by rw [ech, er, show (48 : Int32) = nI 48 from rfl, nI_sub2 (by omega)]; congr 1; omega
      by_cases c : r ≤ la s ∧ qz_S s + r ≤ M
      · obtain ⟨n1, n2, n3, n4, n5, n6⟩ := nx_ok hs hr1 c.1 (by omega)
        have hnx0 : ¬ nx s r = 0 := fun h => by rw [h] at n3; exact absurd n3 (by rw [show qz_L 0 = 0 by decide]; omega)
        obtain ⟨s', a', t', g1, g2, g3, g4, g5, g6, g7⟩ := ih f g (nx s r) (a + 1) (upd t (qz_L s) (nI r)) (by omega) (by omega) (by omega) n1 (by omega) (by omega) (fun k hk => by
          unfold upd tz_R
          rw [n6 k hk]
          by_cases c : k = qz_L s
          · rw [if_pos c, if_pos c]
          · rw [if_neg c, if_neg c]
            exact ht k hk)
        have elac : lac M (nx s r) = r := by unfold lac; rw [if_neg hnx0, n4]
        rw [elac, n2, n3, n5] at g6
        rw [n4, n2, n3] at g7
        refine ⟨s', a', t', g1, g2, by omega, g4, g5, ?_, ?_⟩
        · rw [esub, if_neg (show ¬ nI r < (1 : Int32) from nI_nlt (b := 1) hr1 (by omega)), if_neg (nI_nlt ((hlac2 r (by omega)).mpr c.1) (by omega)), nI_add, if_pos (nI_le c.2 (by omega))]
          exact g6
        · rw [m_here1 hn can (by rw [er]; exact nI_nlt (b := 49) (by omega) (by omega)) (by rw [er]; exact nI_nlt (by have := (hmin r).mpr ⟨by omega, c.1⟩; omega) (by have := (hmin r).mpr ⟨by omega, c.1⟩; by_cases cc : M - qz_S s < la s; { rw [if_pos cc]; omega }; { rw [if_neg cc]; omega })), pb1, if_neg i10, pinn (by omega) (by decide), nI_c a (by omega), ← ech, esub, nI_add]
          exact g7
      · refine stop (fun _ => Or.inr ?_) (Or.inr ?_)
        · rw [er]
          refine nI_lt ?_ (by omega)
          apply Decidable.byContradiction
          intro h
          have := (hmin r).mp (by omega)
          exact c ⟨this.2, by omega⟩
        · rw [esub, nI_add]
          by_cases c2 : qz_S s + r ≤ M
          · refine Or.inl (nI_lt ?_ (by omega))
            apply Decidable.byContradiction
            intro h
            exact c ⟨(hlac2 r (by omega)).mp (by omega), c2⟩
          · exact Or.inr (nI_ge (by omega) (by omega))
    · refine stop (fun _ => ?_) ?_
      · rcases h1 with h1 | h1
        · exact Or.inl h1
        · refine Or.inr (Int32.lt_of_le_of_lt ?_ h1)
          refine nI_le (b := 56) ?_ (by decide)
          by_cases cc : M - qz_S s < la s
          · rw [if_pos cc]; omega
          · rw [if_neg cc]; omega
      · rw [ech]
        rcases h2 with h2 | h2
        · exact Or.inl h2
        · exact Or.inr (Or.inl (Int32.lt_of_le_of_lt (nI_le (b := 8) hlac (by decide)) h2))
