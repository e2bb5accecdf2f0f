/-! sums: what they hold, read and changed -/
theorem tm_tc (c : Nat → Int32) : ∀ p, tcnt c p = tmN c p
  | 0 => rfl
  | p + 1 => by
    show tcnt c p + (if c p = 0 then 0 else 1) = if c p = 0 then tmN c p else tmN c p + 1
    rw [tm_tc c p]
    by_cases h : c p = 0
    · rw [if_pos h, if_pos h]; rfl
    · rw [if_neg h, if_neg h]
theorem tmN_congr {c c' : Nat → Int32} (p : Nat) (h : ∀ q, q < p → c q = c' q) : tmN c p = tmN c' p := by
  rw [← tm_tc, ← tm_tc, tcnt_congr p h]
theorem Rsm_Sl {sizes coefs sizes' coefs' : Nat → Int32} {t t' : Nat} {x : SV} (h : Sl sizes coefs t sizes' coefs' t') (hx : Rsm sizes coefs t x) : Rsm sizes' coefs' t' x := by
  cases x with
  | none => exact ⟨by rw [h.1]; exact hx.1, fun p hp => by rw [h.2 p hp]; exact hx.2 p hp⟩
  | some q => exact ⟨hx.1, by rw [h.1]; exact hx.2.1, fun p hp => by rw [h.2 p hp]; exact hx.2.2.1 p hp, hx.2.2.2.1, hx.2.2.2.2⟩
theorem Rsm_some {sizes coefs : Nat → Int32} {s n : Nat} {f : Nat → Int32} (h : Rsm sizes coefs s (some (n, f))) : n < 9 ∧ sizes s = nI n ∧ (∀ p, p < 22 → coefs (22 * s + p) = f p) ∧ (∀ p, qz_N n ≤ p → f p = 0) ∧ ∀ p, -1000000 ≤ (f p).toInt ∧ (f p).toInt ≤ 1000000 := h
theorem Rsm_terms {sizes coefs : Nat → Int32} {s n : Nat} {f : Nat → Int32} (hs : s < 4) (h : Rsm sizes coefs s (some (n, f))) : f_X8_termsOf coefs (nI s) = some (nI (tmN f 22)) := by
  rw [k_terms hs, tm_tc, tmN_congr 22 (fun q hq => h.2.2.1 q hq)]
/-- a draft is kept -/
theorem keep_S {sizes coefs us : Nat → Int32} {S : Nat → SV} {u nx s : Nat} {x : SV} (hS : ∀ t, t < 4 → Rsm sizes coefs t (S t)) (hu : u ≤ 8) (hnx : nx < 8) (hs : s < 4) (hx : Rsm sizes coefs 16 x) : ∃ sizes' coefs' us' u' nx', f_X8_keepDraft sizes coefs us (nI u) (nI nx) (nI s) = some (sizes', coefs', us', nI u', nI nx') ∧ (∀ t, t < 4 → Rsm sizes' coefs' t (upS S s x t)) ∧ u' ≤ 8 ∧ nx' < 8 := by
  obtain ⟨sizes', coefs', e, h1, h2, h3⟩ := k_keepDraft (sizes := sizes) (coefs := coefs) (us := us) hu hnx hs
  refine ⟨sizes', coefs', _, _, _, e, fun t ht => ?_, ?_, Nat.mod_lt _ (by decide)⟩
  · unfold upS
    by_cases c : t = s
    · rw [if_pos c, c]; exact Rsm_Sl h1 hx
    · rw [if_neg c]; exact Rsm_Sl (h3 t c (by omega)) (hS t ht)
  · split <;> omega
theorem keep_T {sizes coefs us : Nat → Int32} {S : Nat → SV} {u nx s n : Nat} {f : Nat → Int32} (hS : ∀ t, t < 4 → Rsm sizes coefs t (S t)) (hu : u ≤ 8) (hnx : nx < 8) (hs : s < 4) (hx : Rsm sizes coefs 16 (some (n, f))) : ∃ sizes' coefs' us' u' nx', f_X9_keepDraft sizes coefs us (nI u) (nI nx) (nI s) = some (nI (tmN f 22), sizes', coefs', us', nI u', nI nx') ∧ (∀ t, t < 4 → Rsm sizes' coefs' t (upS S s (some (n, f)) t)) ∧ u' ≤ 8 ∧ nx' < 8 := by
  obtain ⟨sizes', coefs', us', u', nx', e, h1, h2, h3⟩ := keep_S (us := us) hS hu hnx hs hx
  refine ⟨sizes', coefs', us', u', nx', ?_, h1, h2, h3⟩
  have hr := h1 s hs
  rw [show upS S s (some (n, f)) s = some (n, f) from if_pos rfl] at hr
  unfold f_X9_keepDraft
  rw [e, pb5, Rsm_terms hs hr, pb1]
theorem Fm_of {x : Int64} (h : -1000000 ≤ x.toInt ∧ x.toInt ≤ 1000000) : Fm x := by
  unfold Fm
  rw [Int64.le_iff_toInt_le, Int64.le_iff_toInt_le, show (-1000000 : Int64).toInt = -1000000 by decide, show (1000000 : Int64).toInt = 1000000 by decide]
  exact h
/-- totals become a draft -/
theorem draft_S {sizes coefs : Nat → Int32} {S : Nat → SV} {n : Nat} {T : Nat → Int64} {g : Nat → Int32} (hS : ∀ t, t < 4 → Rsm sizes coefs t (S t)) (hn : n < 9) (hT : ∀ p, p < 22 → Fm (T p) ∧ (T p).toInt32 = g p) (hz : ∀ p, qz_N n ≤ p → g p = 0) : ∃ sz cf, f_X0_draftsTotals sizes coefs T (nI n) = some (1, sz, cf) ∧ (∀ t, t < 4 → Rsm sz cf t (S t)) ∧ Rsm sz cf 16 (some (n, g)) := by
  have hN := qN_le n hn
  obtain ⟨sz, cf, h1, ⟨a1, a2, a3, a4⟩ | ⟨a1, p, hp, a2⟩⟩ := k_totals (sizes := sizes) (coefs := coefs) (T := T) (v := nI n)
  · refine ⟨sz, cf, a1, fun t ht => Rsm_Sl (h1 t (by omega)) (hS t ht), hn, a2, fun p hp => by rw [show 22 * 16 + p = 352 + p by omega, a4 p hp]; exact (hT p hp).2, hz, fun p => ?_⟩
    by_cases c : p < 22
    · obtain ⟨z, z1, z2, z3⟩ := Fm_int (hT p c).1
      show -1000000 ≤ (g p).toInt ∧ (g p).toInt ≤ 1000000
      rw [← (hT p c).2, z3]
      exact ⟨z1, z2⟩
    · show -1000000 ≤ (g p).toInt ∧ (g p).toInt ≤ 1000000
      rw [hz p (by omega)]
      decide
  · exact absurd (hT p hp).1 a2
theorem has8 {s : Nat} (hs : s < 4) : f_X8_has (nI s) = some 1 := k_has8 s hs
theorem pf_sum0 {rf sizes coefs : Nat → Int32} {s n : Nat} {f : Nat → Int32} (hs : s < 4) (h : Rsm sizes coefs s (some (n, f))) : f_X9_sum rf sizes coefs (nI s) 0 = some (nI n, rf) := by
  have i10 : ¬ (1 : Int32) = 0 := by decide
  unfold f_X9_sum
  rw [has8 hs, pb1, if_neg i10, if_neg (by decide), if_pos (by decide), k_miss80 hs h.1 h.2.1, pb1, if_pos rfl, if_pos rfl, k_size8 hs, pb1, h.2.1]
theorem pf_sum1 {rf sizes coefs : Nat → Int32} {s n : Nat} {f : Nat → Int32} (hs : s < 4) (h : Rsm sizes coefs s (some (n, f))) : f_X9_sum rf sizes coefs (nI s) 1 = some (nI (tmN f 22), rf) := by
  have i10 : ¬ (1 : Int32) = 0 := by decide
  unfold f_X9_sum
  rw [has8 hs, pb1, if_neg i10, if_neg (by decide), if_pos (by decide), k_miss80 hs h.1 h.2.1, pb1, if_pos rfl, if_neg i10, if_pos rfl, Rsm_terms hs h, pb1]
theorem pf_coefficient {rf sizes coefs : Nat → Int32} {s n p : Nat} {f : Nat → Int32} (hs : s < 4) (h : Rsm sizes coefs s (some (n, f))) (hp : p < qz_N n) : f_X9_coefficient rf tz_S sizes coefs (nI s) (nI (qz_D n + p)) = some (f p, rf) := by
  have i10 : ¬ (1 : Int32) = 0 := by decide
  have hN := qN_le n h.1
  unfold f_X9_coefficient f_X9_coefficient_66
  rw [has8 hs, pb1, if_neg i10, has_D h.1 hp, pb1, if_neg i10, k_miss80 hs h.1 h.2.1, pb1, if_pos rfl, k_sizeD h.1 hp, pb1, k_size8 hs, pb1, h.2.1, if_pos rfl, if_neg i10, k_placeN h.1 hp, pb1, k_at8 hs (by omega), pb1, h.2.2.1 p (by omega)]
theorem pf_inner {rf sizes coefs : Nat → Int32} {s t n : Nat} {f g : Nat → Int32} (hs : s < 4) (ht : t < 4) (h : Rsm sizes coefs s (some (n, f))) (h2 : Rsm sizes coefs t (some (n, g))) : f_X9_inner rf sizes coefs (nI s) (nI t) = some (inS f g 22, rf) := by
  have i10 : ¬ (1 : Int32) = 0 := by decide
  have key : ∀ (d k p : Nat), p + d = 22 → d < k → f_X0_innerOf_5 coefs k (nI s) (nI t) (inS f g p) (nI p) = some (inS f g 22) := by
    intro d
    induction d with
    | zero =>
      intro k p hp hk
      obtain ⟨k, rfl⟩ : ∃ z, k = z + 1 := ⟨k - 1, by omega⟩
      obtain rfl : p = 22 := by omega
      show gf_X0_innerOf_5 (f_X0_innerOf_5 coefs k) coefs (nI s) (nI t) _ _ = _
      unfold gf_X0_innerOf_5
      rw [if_pos (by decide)]
    | succ d ih =>
      intro k p hp hk
      obtain ⟨k, rfl⟩ : ∃ z, k = z + 1 := ⟨k - 1, by omega⟩
      have e := ih k (p + 1) (by omega) (by omega)
      show gf_X0_innerOf_5 (f_X0_innerOf_5 coefs k) coefs (nI s) (nI t) _ _ = _
      unfold gf_X0_innerOf_5
      rw [if_neg (show ¬ (22 : Int32) ≤ nI p from nI_ge (a := p) (b := 22) (by omega) (by decide)), k_at8 hs (by omega), pb1, k_at8 ht (by omega), pb1, h.2.2.1 p (by omega), h2.2.2.1 p (by omega), show nI p + (1 : Int32) = nI (p + 1) from nI_1 p]
      exact e
  unfold f_X9_inner f_X0_innerOf
  rw [has8 hs, pb1, if_neg i10, has8 ht, pb1, if_neg i10, k_miss80 hs h.1 h.2.1, pb1, if_pos rfl, k_miss80 ht h2.1 h2.2.1, pb1, if_pos rfl, k_size8 hs, pb1, k_size8 ht, pb1, h.2.1, h2.2.1, if_pos rfl, show (0 : Int32) = nI 0 from rfl, show (0 : Int64) = inS f g 0 from rfl, key 22 1000 0 (by omega) (by omega), pb1]
theorem pf_value {rf sizes coefs : Nat → Int32} {s n b : Nat} {f : Nat → Int32} (hs : s < 4) (h : Rsm sizes coefs s (some (n, f))) (hb : b < qz_N n) : f_X9_value rf tz_S tz_C sizes coefs (nI s) (nI (qz_D n + b)) = some (vaS n f b (qz_N n), rf) := by
  have i10 : ¬ (1 : Int32) = 0 := by decide
  have hn := h.1
  have hN := qN_le n hn
  have key : ∀ (d k p : Nat), p + d = qz_N n → d < k → f_X0_valueAt_25 tz_S tz_C sizes coefs k (nI s) (nI (qz_D n + b)) (nI n) (nI (qz_D n)) (vaS n f b p) (nI p) = some (vaS n f b (qz_N n)) := by
    intro d
    induction d with
    | zero =>
      intro k p hp hk
      obtain ⟨k, rfl⟩ : ∃ z, k = z + 1 := ⟨k - 1, by omega⟩
      obtain rfl : p = qz_N n := by omega
      show gf_X0_valueAt_25 (f_X0_valueAt_25 tz_S tz_C sizes coefs k) tz_S tz_C sizes coefs (nI s) _ (nI n) (nI (qz_D n)) _ _ = _
      unfold gf_X0_valueAt_25
      rw [k_countOf n hn, pb1, if_pos (Int32.le_refl _)]
    | succ d ih =>
      intro k p hp hk
      obtain ⟨k, rfl⟩ : ∃ z, k = z + 1 := ⟨k - 1, by omega⟩
      have e := ih k (p + 1) (by omega) (by omega)
      show gf_X0_valueAt_25 (f_X0_valueAt_25 tz_S tz_C sizes coefs k) tz_S tz_C sizes coefs (nI s) _ (nI n) (nI (qz_D n)) _ _ = _
      unfold gf_X0_valueAt_25
      rw [k_countOf n hn, pb1, if_neg (nI_ge (by omega) (by omega)), k_at8 hs (by omega), pb1, nI_add, k_atT n hn p (by omega) b hb, pb1, h.2.2.1 p (by omega), show nI p + (1 : Int32) = nI (p + 1) from nI_1 p]
      exact e
  have c2 : nI (qz_S (qz_D n + b)) = nI n := by rw [(shD n hn b hb).2]
  unfold f_X9_value f_X0_valueAt
  rw [has8 hs, pb1, if_neg i10, has_D hn hb, pb1, if_neg i10, k_miss80 hs hn h.2.1, pb1, if_pos rfl, k_sizeN _ (shD n hn b hb).1, pb1, k_size8 hs, pb1, h.2.1, if_pos c2, pb1, k_firstOf n hn, pb1, show (0 : Int32) = nI 0 from rfl, show (0 : Int64) = vaS n f b 0 from rfl, key (qz_N n) 1000 0 (by omega) (by omega), pb1]
theorem pf_clear {rf sizes coefs us : Nat → Int32} {S : Nat → SV} {u nx s : Nat} (hS : ∀ t, t < 4 → Rsm sizes coefs t (S t)) (hu : u ≤ 8) (hnx : nx < 8) (hs : s < 4) : ∃ r sizes' coefs' us' u' nx', f_X9_clear rf sizes coefs us (nI u) (nI nx) (nI s) = some (r, rf, sizes', coefs', us', nI u', nI nx') ∧ ¬ r < 0 ∧ (∀ t, t < 4 → Rsm sizes' coefs' t (upS S s none t)) ∧ u' ≤ 8 ∧ nx' < 8 := by
  have i10 : ¬ (1 : Int32) = 0 := by decide
  obtain ⟨sz, cf, e3, d1, d2, d3⟩ := k_beginDraft (sizes := sizes) (coefs := coefs) (v := -1)
  obtain ⟨sizes', coefs', us', u', nx', e4, h1, h2, h3⟩ := keep_S (us := us) (s := s) (x := none) (fun t ht => Rsm_Sl (d1 t (by omega)) (hS t ht)) hu hnx hs ⟨d2, fun p hp => by rw [show 22 * 16 + p = 352 + p by omega]; exact d3 p hp⟩
  have e6 : ∀ z, f_X9_clear_33 rf sizes coefs us (nI u) (nI nx) (nI s) z = some (z, rf, sizes', coefs', us', nI u', nI nx') := by
    intro z
    unfold f_X9_clear_33 f_X8_draftMissing
    rw [e3, pb2, pb2, e4, pb5]
  have hr := hS s hs
  cases hx : S s with
  | none =>
    rw [hx] at hr
    exact ⟨0, sizes', coefs', us', u', nx', by unfold f_X9_clear; rw [has8 hs, pb1, if_neg i10, k_miss81 hs hr.1, pb1, if_neg i10, e6], by decide, h1, h2, h3⟩
  | some q =>
    rw [hx] at hr
    exact ⟨1, sizes', coefs', us', u', nx', by unfold f_X9_clear; rw [has8 hs, pb1, if_neg i10, k_miss80 hs hr.1 hr.2.1, pb1, if_pos rfl, e6], by decide, h1, h2, h3⟩
theorem sm_0 : ∀ N, sm (fun _ => 0) N = 0
  | 0 => rfl
  | N + 1 => by show sm (fun _ => 0) N + 0 = 0; rw [sm_0 N]; rfl
theorem pf_times {rf known sizes coefs us : Nat → Int32} {tot : Nat → Int64} {S : Nat → SV} {u nx n : Nat} {f g : Nat → Int32} (hkn : Kn known) (hS : ∀ t, t < 4 → Rsm sizes coefs t (S t)) (hu : u ≤ 8) (hnx : nx < 8) (h0 : S 0 = some (n, f)) (h1 : S 1 = some (n, g)) (hfit : ∀ c, c < qz_N n → -1000000 ≤ (tmL n f g c).toInt ∧ (tmL n f g c).toInt ≤ 1000000) : ∃ known' sizes' coefs' us' u' nx' tot', f_X9_makes rf tz_O tz_C known sizes coefs us (nI u) (nI nx) tot 2 0 1 2 = some (nI (tmN (tmF n f g) 22), rf, known', sizes', coefs', us', nI u', nI nx', tot') ∧ Kn known' ∧ (∀ t, t < 4 → Rsm sizes' coefs' t (upS S 2 (some (n, tmF n f g)) t)) ∧ u' ≤ 8 ∧ nx' < 8 := by
  have i10 : ¬ (1 : Int32) = 0 := by decide
  have ha := hS 0 (by omega)
  have hb := hS 1 (by omega)
  rw [h0] at ha
  rw [h1] at hb
  have ha := Rsm_some ha
  have hb := Rsm_some hb
  have hn := ha.1
  have hN := qN_le n hn
  obtain ⟨known', X', e1, hk', hX'⟩ := k_times (sizes := sizes) (coefs := coefs) hn (show 0 < 4 by omega) (show 1 < 4 by omega) ha.2.1 hkn tot
  have hT : ∀ p, p < 22 → Fm (X' p) ∧ (X' p).toInt32 = tmF n f g p := by
    intro p hp
    unfold tmF
    by_cases c : p < qz_N n
    · have e : X' p = tmL n f g p := by
        rw [hX' p hp]
        unfold tmL
        refine sm_congr _ (fun i hi => sm_congr _ (fun j hj => ?_))
        unfold tg cl
        rw [if_pos c, ha.2.2.1 i (by omega), hb.2.2.1 j (by omega)]
      rw [if_pos c, e]
      exact ⟨Fm_of (hfit p c), rfl⟩
    · have e : X' p = 0 := by
        rw [hX' p hp, sm_congr _ (h := fun _ => 0) (fun i hi => ?_), sm_0]
        rw [sm_congr _ (h := fun _ => 0) (fun j hj => ?_), sm_0]
        unfold tg
        rw [if_neg c]
      rw [if_neg c, e]
      exact ⟨⟨by decide, by decide⟩, by decide⟩
  obtain ⟨sz, cf, g1, g2, g3⟩ := draft_S hS hn hT (fun p hp => if_neg (by omega))
  obtain ⟨sizes', coefs', us', u', nx', e4, q1, q2, q3⟩ := keep_T (us := us) g2 hu hnx (show 2 < 4 by omega) g3
  refine ⟨known', sizes', coefs', us', u', nx', X', ?_, hk', q1, q2, q3⟩
  show f_X9_makes rf tz_O tz_C known sizes coefs us (nI u) (nI nx) tot (nI 2) (nI 0) (nI 1) (nI 2) = _
  unfold f_X9_makes
  rw [has8 (show 2 < 4 by omega), pb1, if_neg (by decide), has8 (show 0 < 4 by omega), pb1, if_neg (by decide), has8 (show 1 < 4 by omega), pb1, if_neg (by decide), if_neg (by decide), if_pos (by decide), k_miss80 (show 0 < 4 by omega) hn ha.2.1, pb1, if_pos rfl, k_miss80 (show 1 < 4 by omega) hn hb.2.1, pb1, if_pos rfl, k_size8 (show 0 < 4 by omega), pb1, k_size8 (show 1 < 4 by omega), pb1, ha.2.1, hb.2.1, if_pos rfl, if_neg (by decide), if_neg (by decide), e1, g1, pb3, pb5]
  unfold f_X9_makes_177
  rw [if_neg i10, e4, pb6]
theorem t3264 (x : Int32) : x.toInt64.toInt32 = x := by
  refine Int32.toInt_inj.mp ?_
  rw [Int64.toInt_toInt32, Int32.toInt_toInt64]
  have h1 := Int32.le_toInt x
  have h2 := Int32.toInt_lt x
  exact Int.bmod_eq_of_le (by omega) (by omega)
theorem Fm32 {x : Int32} (h : -1000000 ≤ x.toInt ∧ x.toInt ≤ 1000000) : Fm x.toInt64 := Fm_of (by rw [Int32.toInt_toInt64]; exact h)
theorem db_int {x : Int32} (h : -20 ≤ x.toInt ∧ x.toInt ≤ 20) : (x + x).toInt = 2 * x.toInt := by
  rw [Int32.toInt_add, bm32 (by omega) (by omega)]
  omega
theorem pf_plus {rf known sizes coefs us : Nat → Int32} {tot : Nat → Int64} {S : Nat → SV} {u nx n : Nat} {f : Nat → Int32} (hS : ∀ t, t < 4 → Rsm sizes coefs t (S t)) (hu : u ≤ 8) (hnx : nx < 8) (h0 : S 0 = some (n, f)) (hf : ∀ p, -20 ≤ (f p).toInt ∧ (f p).toInt ≤ 20) : ∃ sizes' coefs' us' u' nx' tot', f_X9_makes rf tz_O tz_C known sizes coefs us (nI u) (nI nx) tot 3 0 0 0 = some (nI (tmN (dbF f) 22), rf, known, sizes', coefs', us', nI u', nI nx', tot') ∧ (∀ t, t < 4 → Rsm sizes' coefs' t (upS S 3 (some (n, dbF f)) t)) ∧ u' ≤ 8 ∧ nx' < 8 := by
  have i10 : ¬ (1 : Int32) = 0 := by decide
  have ha := hS 0 (by omega)
  rw [h0] at ha
  have ha := Rsm_some ha
  have hn := ha.1
  have hN := qN_le n hn
  obtain ⟨X', e1, hX'⟩ := k_plus (sizes := sizes) (coefs := coefs) (show 0 < 4 by omega) (show 0 < 4 by omega) 1 tot
  rw [ha.2.1] at e1
  have hT : ∀ p, p < 22 → Fm (X' p) ∧ (X' p).toInt32 = dbF f p := by
    intro p hp
    have e : X' p = (dbF f p).toInt64 := by
      rw [hX' p hp, ha.2.2.1 p hp, Int32.one_mul]
      rfl
    rw [e]
    refine ⟨Fm32 ?_, t3264 _⟩
    have := hf p
    rw [show dbF f p = f p + f p from rfl, db_int this]
    omega
  obtain ⟨sz, cf, g1, g2, g3⟩ := draft_S (T := X') (g := dbF f) hS hn hT (fun p hp => by show f p + f p = 0; rw [ha.2.2.2.1 p hp]; decide)
  obtain ⟨sizes', coefs', us', u', nx', e4, q1, q2, q3⟩ := keep_T (us := us) g2 hu hnx (show 3 < 4 by omega) g3
  refine ⟨sizes', coefs', us', u', nx', X', ?_, q1, q2, q3⟩
  show f_X9_makes rf tz_O tz_C known sizes coefs us (nI u) (nI nx) tot (nI 3) (nI 0) (nI 0) (nI 0) = _
  unfold f_X9_makes
  rw [has8 (show 3 < 4 by omega), pb1, if_neg i10, has8 (show 0 < 4 by omega), pb1, if_neg i10, pb1, if_neg i10, if_neg (by decide), if_pos (by decide), k_miss80 (show 0 < 4 by omega) hn ha.2.1, pb1, if_pos rfl, pb1, if_pos rfl, k_size8 (show 0 < 4 by omega), pb1, pb1, if_pos rfl, if_pos (show nI 0 = (0 : Int32) from rfl), e1, g1, pb3, pb4]
  unfold f_X9_makes_177
  rw [if_neg i10, e4, pb6]
