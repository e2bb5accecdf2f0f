def Fm (x : Int64) : Prop := (-1000000 : Int64) ≤ x ∧ x ≤ (1000000 : Int64)
theorem Fm_dec (x : Int64) : Fm x ∨ (¬ Fm x ∧ (x < (-1000000 : Int64) ∨ (1000000 : Int64) < x)) := by
  unfold Fm
  by_cases c : x < (-1000000 : Int64)
  · exact Or.inr ⟨fun h => absurd c (Int64.not_lt.mpr h.1), Or.inl c⟩
  · by_cases d : (1000000 : Int64) < x
    · exact Or.inr ⟨fun h => absurd d (Int64.not_lt.mpr h.2), Or.inr d⟩
    · exact Or.inl ⟨Int64.not_lt.mp c, Int64.not_lt.mp d⟩
theorem Fm_int {x : Int64} (h : Fm x) : ∃ z : Int, -1000000 ≤ z ∧ z ≤ 1000000 ∧ x.toInt32.toInt = z := by
  have h1 := Int64.le_iff_toInt_le.mp h.1
  have h2 := Int64.le_iff_toInt_le.mp h.2
  rw [show (-1000000 : Int64).toInt = -1000000 by decide] at h1
  rw [show (1000000 : Int64).toInt = 1000000 by decide] at h2
  refine ⟨x.toInt, h1, h2, ?_⟩
  rw [Int64.toInt_toInt32, Int.bmod_def]
  have : x.toInt % (2 ^ 32 : Nat) = if 0 ≤ x.toInt then x.toInt else x.toInt + 2 ^ 32 := by
    by_cases c : 0 ≤ x.toInt
    · rw [if_pos c]; omega
    · rw [if_neg c]; omega
  rw [this]
  by_cases c : 0 ≤ x.toInt
  · rw [if_pos c]; omega
  · rw [if_neg c]; omega
theorem k_beg0 (T : Nat → Int64) : ∃ T', f_X0_begin T = some T' ∧ ∀ p, p < 22 → T' p = 0 := by
  have key : ∀ (d f p : Nat) (T : Nat → Int64), p + d = 22 → d < f → (∀ q, q < p → T q = 0) → ∃ T', f_X0_begin_2 f T (nI p) = some T' ∧ ∀ p, p < 22 → T' p = 0 := by
    intro d
    induction d with
    | zero =>
      intro f p T hp hf h
      obtain ⟨f, rfl⟩ : ∃ z, f = z + 1 := ⟨f - 1, by omega⟩
      obtain rfl : p = 22 := by omega
      refine ⟨T, ?_, h⟩
      show gf_X0_begin_2 (f_X0_begin_2 f) T _ = _
      unfold gf_X0_begin_2
      rw [if_pos (by decide)]
    | succ d ih =>
      intro f p T hp hf h
      obtain ⟨f, rfl⟩ : ∃ z, f = z + 1 := ⟨f - 1, by omega⟩
      obtain ⟨T', e, g⟩ := ih f (p + 1) (vp_updL T p 0) (by omega) (by omega) (fun q hq => by
        unfold vp_updL
        by_cases c : q = p
        · rw [if_pos c]
        · rw [if_neg c]; exact h q (by omega))
      refine ⟨T', ?_, g⟩
      show gf_X0_begin_2 (f_X0_begin_2 f) T _ = _
      unfold gf_X0_begin_2
      rw [if_neg (show ¬ (22 : Int32) ≤ nI p from nI_ge (a := p) (b := 22) (by omega) (by decide)), pinn (by omega) (by decide), nI_c p (by omega), show nI p + (1 : Int32) = nI (p + 1) from nI_1 p]
      exact e
  exact key 22 1000 0 T (by omega) (by omega) (fun q hq => by omega)
theorem k_set1 {coefs : Nat → Int32} {p : Nat} {x : Int64} (hp : p < 22) (h : Fm x) : f_X8_setInDraft coefs (nI p) x = some (1, upd coefs (352 + p) x.toInt32) := by
  unfold f_X8_setInDraft
  rw [if_neg (fun c => absurd ((lg_cmp_lt _ _).mp c) (Int64.not_lt.mpr h.1)), if_neg (fun c => absurd ((lg_cmp_gt _ _).mp c) (Int64.not_lt.mpr h.2)), if_neg i10, if_neg (nI_pos (by omega)), if_neg (show ¬ (22 : Int32) ≤ nI p from nI_ge (a := p) (b := 22) (by omega) (by decide)), show (352 : Int32) + nI p = nI (352 + p) from nI_add 352 p, pinn (by omega) (by decide), nI_c _ (by omega)]
theorem k_set0 {coefs : Nat → Int32} {i : Int32} {x : Int64} (h : x < (-1000000 : Int64) ∨ (1000000 : Int64) < x) : f_X8_setInDraft coefs i x = some (0, coefs) := by
  unfold f_X8_setInDraft
  by_cases c : x < (-1000000 : Int64)
  · rw [if_pos ((lg_cmp_lt _ _).mpr c), if_pos rfl]
  · rw [if_neg (fun d => c ((lg_cmp_lt _ _).mp d)), if_pos ((lg_cmp_gt _ _).mpr (h.resolve_left c)), if_pos rfl]
theorem k_totals {sizes coefs : Nat → Int32} {T : Nat → Int64} {v : Int32} : ∃ sz cf, (∀ t, t < 16 → Sl sizes coefs t sz cf t) ∧ ((f_X0_draftsTotals sizes coefs T v = some (1, sz, cf) ∧ sz 16 = v ∧ (∀ p, p < 22 → Fm (T p)) ∧ ∀ p, p < 22 → cf (352 + p) = (T p).toInt32) ∨ (f_X0_draftsTotals sizes coefs T v = some (0, sz, cf) ∧ ∃ p, p < 22 ∧ ¬ Fm (T p))) := by
  obtain ⟨sz, cf, e0, d1, d2, d3⟩ := k_beginDraft (sizes := sizes) (coefs := coefs) (v := v)
  have key : ∀ (d f p : Nat) (c : Nat → Int32), p + d = 22 → d < f → (∀ k, k < 352 → c k = cf k) → (∀ q, q < p → Fm (T q) ∧ c (352 + q) = (T q).toInt32) → ∃ c', (∀ k, k < 352 → c' k = cf k) ∧ ((f_X0_draftsTotals_10 T f sz c (nI p) = some (1, sz, c') ∧ (∀ p, p < 22 → Fm (T p)) ∧ ∀ p, p < 22 → c' (352 + p) = (T p).toInt32) ∨ (f_X0_draftsTotals_10 T f sz c (nI p) = some (0, sz, c') ∧ ∃ p, p < 22 ∧ ¬ Fm (T p))) := by
    intro d
    induction d with
    | zero =>
      intro f p c hp hf h1 h2
      obtain ⟨f, rfl⟩ : ∃ z, f = z + 1 := ⟨f - 1, by omega⟩
      obtain rfl : p = 22 := by omega
      refine ⟨c, h1, Or.inl ⟨?_, fun p hp => (h2 p hp).1, fun p hp => (h2 p hp).2⟩⟩
      show gf_X0_draftsTotals_10 (f_X0_draftsTotals_10 T f) T sz c _ = _
      unfold gf_X0_draftsTotals_10
      rw [if_pos (by decide)]
    | succ d ih =>
      intro f p c hp hf h1 h2
      obtain ⟨f, rfl⟩ : ∃ z, f = z + 1 := ⟨f - 1, by omega⟩
      have e1 : f_X0_draftsTotals_10 T (f + 1) sz c (nI p) = p_b2 (f_X8_setInDraft c (nI p) (T p)) (fun r c4 => if r = 0 then (some (0, sz, c4)) else (f_X0_draftsTotals_10 T f sz c4 (nI (p + 1)))) := by
        show gf_X0_draftsTotals_10 (f_X0_draftsTotals_10 T f) T sz c _ = _
        unfold gf_X0_draftsTotals_10
        rw [if_neg (show ¬ (22 : Int32) ≤ nI p from nI_ge (a := p) (b := 22) (by omega) (by decide)), pinn (by omega) (by decide), nI_c p (by omega), show nI p + (1 : Int32) = nI (p + 1) from nI_1 p]
      rw [e1]
      rcases Fm_dec (T p) with hF | ⟨hF, hF2⟩
      · obtain ⟨c', g1, g2⟩ := ih f (p + 1) (upd c (352 + p) (T p).toInt32) (by omega) (by omega) (fun k hk => by unfold upd; rw [if_neg (by omega)]; exact h1 k hk) (fun q hq => by
          unfold upd
          by_cases cc : q = p
          · subst cc; rw [if_pos rfl]; exact ⟨hF, rfl⟩
          · rw [if_neg (by omega)]; exact h2 q (by omega))
        refine ⟨c', g1, ?_⟩
        rw [k_set1 (by omega) hF, pb2, if_neg i10]
        exact g2
      · refine ⟨c, h1, Or.inr ⟨?_, p, by omega, hF⟩⟩
        rw [k_set0 hF2, pb2, if_pos rfl]
  obtain ⟨c', g1, g2⟩ := key 22 1000 0 cf (by omega) (by omega) (fun _ _ => rfl) (fun q hq => by omega)
  have e2 : f_X0_draftsTotals sizes coefs T v = f_X0_draftsTotals_10 T 1000 sz cf (nI 0) := by
    unfold f_X0_draftsTotals
    rw [e0, pb2]
    rfl
  refine ⟨sz, c', fun t ht => Sl_trans (d1 t ht) ⟨rfl, fun p hp => g1 _ (by omega)⟩, ?_⟩
  rw [e2]
  rcases g2 with ⟨a, b, c⟩ | ⟨a, b⟩
  · exact Or.inl ⟨a, d2, b, c⟩
  · exact Or.inr ⟨a, b⟩
theorem sm_congr {g h : Nat → Int64} : ∀ N, (∀ i, i < N → g i = h i) → sm g N = sm h N
  | 0, _ => rfl
  | N + 1, e => by
    show sm g N + g N = sm h N + h N
    rw [sm_congr N (fun i hi => e i (by omega)), e N (by omega)]
theorem sm_add (g h : Nat → Int64) : ∀ N, sm (fun i => g i + h i) N = sm g N + sm h N
  | 0 => rfl
  | N + 1 => by
    show sm (fun i => g i + h i) N + (g N + h N) = (sm g N + g N) + (sm h N + h N)
    rw [sm_add g h N]
    ac_rfl
theorem sm_sq (f : Nat → Nat → Int64) : ∀ N, sm (fun i => sm (f i) N) N = sm (fun i => f i i + sm (fun j => f i j + f j i) i) N
  | 0 => rfl
  | N + 1 => by
    show sm (fun i => sm (f i) N + f i N) N + (sm (f N) N + f N N) = sm (fun i => f i i + sm (fun j => f i j + f j i) i) N + (f N N + sm (fun j => f N j + f j N) N)
    rw [sm_add (fun i => sm (f i) N) (fun i => f i N) N, sm_sq f N, sm_add (f N) (fun j => f j N) N]
    ac_rfl
def tg (A B : Nat → Int64) (n p i j : Nat) : Int64 := if p < qz_N n then A i * B j * (nuV n i j p).toInt64 else 0
theorem tg2 (A B : Nat → Int64) (n p i j : Nat) : (if p < qz_N n then (A i * B j + A j * B i) * (nuV n i j p).toInt64 else 0) = tg A B n p i j + tg A B n p j i := by
  unfold tg
  by_cases c : p < qz_N n
  · rw [if_pos c, if_pos c, if_pos c, nuV_12 n j i p, Int64.add_mul]
  · rw [if_neg c, if_neg c, if_neg c]; rfl
theorem k_add {T : Nat → Int64} {p : Nat} {x : Int64} (hp : p < 22) : f_X0_add T (nI p) x = some (vp_updL T p (T p + x)) := by
  unfold f_X0_add
  rw [if_neg (nI_pos (by omega)), if_neg (show ¬ (22 : Int32) ≤ nI p from nI_ge (a := p) (b := 22) (by omega) (by decide)), pinn hp (by decide), pinn hp (by decide), nI_c p (by omega)]
theorem k_addProd {n i j : Nat} (hn : n < 9) (hi : i < qz_N n) (hj : j < qz_N n) {known : Nat → Int32} (hkn : Kn known) (T : Nat → Int64) (v : Int64) : ∃ known' T', f_X0_addProduct tz_O tz_C known T (nI n) (nI i) (nI j) v = some (known', T') ∧ Kn known' ∧ ∀ p, p < 22 → T' p = T p + (if p < qz_N n then v * (nuV n i j p).toInt64 else 0) := by
  have hN := qN_le n hn
  unfold f_X0_addProduct
  by_cases c : v = 0
  · rw [if_pos ((lg_cmp_eq v 0).mpr c)]
    refine ⟨_, _, rfl, hkn, fun p hp => ?_⟩
    rw [c, Int64.zero_mul]
    by_cases d : p < qz_N n
    · rw [if_pos d, Int64.add_zero]
    · rw [if_neg d, Int64.add_zero]
  · rw [if_neg (fun h => c ((lg_cmp_eq v 0).mp h))]
    have key : ∀ (d f q : Nat) (known : Nat → Int32) (X : Nat → Int64), q + d = qz_N n → d < f → Kn known → (∀ p, p < 22 → X p = T p + (if p < q then v * (nuV n i j p).toInt64 else 0)) → ∃ known' T', f_X0_addProduct_10 tz_O tz_C f known X (nI n) (nI i) (nI j) v (nI q) = some (known', T') ∧ Kn known' ∧ ∀ p, p < 22 → T' p = T p + (if p < qz_N n then v * (nuV n i j p).toInt64 else 0) := by
      intro d
      induction d with
      | zero =>
        intro f q known X hq hf hk hX
        obtain ⟨f, rfl⟩ : ∃ z, f = z + 1 := ⟨f - 1, by omega⟩
        obtain rfl : q = qz_N n := by omega
        refine ⟨_, _, ?_, hk, hX⟩
        show gf_X0_addProduct_10 (f_X0_addProduct_10 tz_O tz_C f) tz_O tz_C known X _ _ _ v _ = _
        unfold gf_X0_addProduct_10
        rw [k_countOf n hn, pb1, if_pos (Int32.le_refl _)]
      | succ d ih =>
        intro f q known X hq hf hk hX
        obtain ⟨f, rfl⟩ : ∃ z, f = z + 1 := ⟨f - 1, by omega⟩
        obtain ⟨kn2, e1, hk2⟩ := k_atPlaces hn hi hj (show q < qz_N n by omega) hk
        obtain ⟨known', T', e, h1, h2⟩ := ih f (q + 1) kn2 (vp_updL X q (X q + v * (nuV n i j q).toInt64)) (by omega) (by omega) hk2 (fun p hp => by
          unfold vp_updL
          by_cases c : p = q
          · subst c
            rw [if_pos rfl, if_pos (show p < p + 1 by omega), hX p hp, if_neg (show ¬ p < p by omega), Int64.add_zero]
          · rw [if_neg c, hX p hp]
            by_cases c2 : p < q
            · rw [if_pos c2, if_pos (show p < q + 1 by omega)]
            · rw [if_neg c2, if_neg (show ¬ p < q + 1 by omega)])
        refine ⟨known', T', ?_, h1, h2⟩
        show gf_X0_addProduct_10 (f_X0_addProduct_10 tz_O tz_C f) tz_O tz_C known X _ _ _ v _ = _
        unfold gf_X0_addProduct_10
        rw [k_countOf n hn, pb1, if_neg (nI_ge (by omega) (by omega)), e1, pb2, k_add (by omega), pb1, show nI q + (1 : Int32) = nI (q + 1) from nI_1 q]
        exact e
    exact key (qz_N n) 1000 0 known T (by omega) (by omega) hkn (fun p _ => by rw [if_neg (by omega), Int64.add_zero])
def cl (coefs : Nat → Int32) (s i : Nat) : Int64 := (coefs (22 * s + i)).toInt64
theorem k_times64 {n i a b : Nat} (hn : n < 9) (hi : i < qz_N n) (ha : a < 4) (hb : b < 4) {sizes coefs : Nat → Int32} (K : (Nat → Int32) → (Nat → Int32) → (Nat → Int32) → (Nat → Int64) → Int32 → Int32 → Int32 → Int32 → Option (Int32 × (Nat → Int32) × (Nat → Int32) × (Nat → Int32) × (Nat → Int64))) {base : Nat → Int64} : ∀ (d f j : Nat) (known : Nat → Int32) (X : Nat → Int64), j + d = i → d < f → Kn known → (∀ p, p < 22 → X p = base p + sm (fun j => tg (cl coefs a) (cl coefs b) n p i j + tg (cl coefs a) (cl coefs b) n p j i) j) → ∃ known' X', f_X0_draftsTimes_64 K tz_O tz_C f known sizes coefs X (nI a) (nI b) (nI n) (nI i) (nI j) = K known' sizes coefs X' (nI a) (nI b) (nI n) (nI (i + 1)) ∧ Kn known' ∧ ∀ p, p < 22 → X' p = base p + sm (fun j => tg (cl coefs a) (cl coefs b) n p i j + tg (cl coefs a) (cl coefs b) n p j i) i := by
  have hN := qN_le n hn
  intro d
  induction d with
  | zero =>
    intro f j known X hj hf hk hX
    obtain ⟨f, rfl⟩ : ∃ z, f = z + 1 := ⟨f - 1, by omega⟩
    obtain rfl : j = i := by omega
    refine ⟨_, _, ?_, hk, hX⟩
    show gf_X0_draftsTimes_64 (f_X0_draftsTimes_64 K tz_O tz_C f) K tz_O tz_C known sizes coefs X _ _ _ _ _ = _
    unfold gf_X0_draftsTimes_64
    rw [if_pos (Int32.le_refl _), show nI j + (1 : Int32) = nI (j + 1) from nI_1 j]
  | succ d ih =>
    intro f j known X hj hf hk hX
    obtain ⟨f, rfl⟩ : ∃ z, f = z + 1 := ⟨f - 1, by omega⟩
    obtain ⟨kn2, X2, e1, hk2, hX2⟩ := k_addProd hn hi (show j < qz_N n by omega) hk X (cl coefs a i * cl coefs b j + cl coefs a j * cl coefs b i)
    obtain ⟨known', X', e, h1, h2⟩ := ih f (j + 1) kn2 X2 (by omega) (by omega) hk2 (fun p hp => by
      rw [hX2 p hp, hX p hp, tg2, Int64.add_assoc]
      rfl)
    refine ⟨known', X', ?_, h1, h2⟩
    show gf_X0_draftsTimes_64 (f_X0_draftsTimes_64 K tz_O tz_C f) K tz_O tz_C known sizes coefs X _ _ _ _ _ = _
    unfold gf_X0_draftsTimes_64
    rw [if_neg (nI_ge (by omega) (by omega)), k_at8 ha (by omega), pb1, k_at8 hb (by omega), pb1, k_at8 ha (by omega), pb1, k_at8 hb (by omega), pb1, show nI j + (1 : Int32) = nI (j + 1) from nI_1 j]
    unfold cl at e1
    rw [e1, pb2]
    exact e
theorem k_times {n a b : Nat} (hn : n < 9) (ha : a < 4) (hb : b < 4) {sizes coefs : Nat → Int32} (es : sizes a = nI n) {known : Nat → Int32} (hkn : Kn known) (T : Nat → Int64) : ∃ known' X', f_X0_draftsTimes tz_O tz_C known sizes coefs T (nI a) (nI b) = p_b3 (f_X0_draftsTotals sizes coefs X' (nI n)) (fun r s c => some (r, known', s, c, X')) ∧ Kn known' ∧ ∀ p, p < 22 → X' p = sm (fun i => sm (tg (cl coefs a) (cl coefs b) n p i) (qz_N n)) (qz_N n) := by
  have hN := qN_le n hn
  have key : ∀ (d f i : Nat) (known : Nat → Int32) (X : Nat → Int64), i + d = qz_N n → d < f → Kn known → (∀ p, p < 22 → X p = sm (fun i => tg (cl coefs a) (cl coefs b) n p i i + sm (fun j => tg (cl coefs a) (cl coefs b) n p i j + tg (cl coefs a) (cl coefs b) n p j i) i) i) → ∃ known' X', f_X0_draftsTimes_16 tz_O tz_C f known sizes coefs X (nI a) (nI b) (nI n) (nI i) = p_b3 (f_X0_draftsTotals sizes coefs X' (nI n)) (fun r s c => some (r, known', s, c, X')) ∧ Kn known' ∧ ∀ p, p < 22 → X' p = sm (fun i => tg (cl coefs a) (cl coefs b) n p i i + sm (fun j => tg (cl coefs a) (cl coefs b) n p i j + tg (cl coefs a) (cl coefs b) n p j i) i) (qz_N n) := by
    intro d
    induction d with
    | zero =>
      intro f i known X hi hf hk hX
      obtain ⟨f, rfl⟩ : ∃ z, f = z + 1 := ⟨f - 1, by omega⟩
      obtain rfl : i = qz_N n := by omega
      refine ⟨_, _, ?_, hk, hX⟩
      show gf_X0_draftsTimes_16 (f_X0_draftsTimes_16 tz_O tz_C f) tz_O tz_C known sizes coefs X _ _ _ _ = _
      unfold gf_X0_draftsTimes_16
      rw [k_countOf n hn, pb1, if_pos (Int32.le_refl _)]
    | succ d ih =>
      intro f i known X hi hf hk hX
      obtain ⟨f, rfl⟩ : ∃ z, f = z + 1 := ⟨f - 1, by omega⟩
      obtain ⟨kn2, X2, e1, hk2, hX2⟩ := k_addProd hn (show i < qz_N n by omega) (show i < qz_N n by omega) hk X (cl coefs a i * cl coefs b i)
      obtain ⟨kn3, X3, e3, hk3, hX3⟩ := k_times64 (sizes := sizes) (coefs := coefs) hn (show i < qz_N n by omega) ha hb (f_X0_draftsTimes_16 tz_O tz_C f) (base := X2) i 1000 0 kn2 X2 (by omega) (by omega) hk2 (fun p hp => (Int64.add_zero _).symm)
      obtain ⟨known', X', e, h1, h2⟩ := ih f (i + 1) kn3 X3 (by omega) (by omega) hk3 (fun p hp => by
        rw [hX3 p hp, hX2 p hp, hX p hp, Int64.add_assoc]
        rfl)
      refine ⟨known', X', ?_, h1, h2⟩
      show gf_X0_draftsTimes_16 (f_X0_draftsTimes_16 tz_O tz_C f) tz_O tz_C known sizes coefs X _ _ _ _ = _
      unfold gf_X0_draftsTimes_16
      unfold cl at e1
      rw [k_countOf n hn, pb1, if_neg (nI_ge (by omega) (by omega)), k_at8 ha (by omega), pb1, k_at8 hb (by omega), pb1, e1, pb2]
      exact e3.trans e
  obtain ⟨T0, e0, h0⟩ := k_beg0 T
  obtain ⟨known', X', e, h1, h2⟩ := key (qz_N n) 1000 0 known T0 (by omega) (by omega) hkn (fun p hp => h0 p hp)
  refine ⟨known', X', ?_, h1, fun p hp => ?_⟩
  · unfold f_X0_draftsTimes
    rw [k_size8 ha, pb1, e0, pb1, es]
    exact e
  · rw [h2 p hp, ← sm_sq]
theorem bm32 {z : Int} (h1 : -3000000 ≤ z) (h2 : z ≤ 3000000) : z.bmod (2 ^ 32) = z := by
  rw [Int.bmod_def]
  have : z % (2 ^ 32 : Nat) = if 0 ≤ z then z else z + 2 ^ 32 := by
    by_cases c : 0 ≤ z
    · rw [if_pos c]; omega
    · rw [if_neg c]; omega
  rw [this]
  by_cases c : 0 ≤ z
  · rw [if_pos c]; omega
  · rw [if_neg c]; omega
theorem bm64 {z : Int} (h1 : -3000000 ≤ z) (h2 : z ≤ 3000000) : z.bmod (2 ^ 64) = z := by
  rw [Int.bmod_def]
  have : z % (2 ^ 64 : Nat) = if 0 ≤ z then z else z + 2 ^ 64 := by
    by_cases c : 0 ≤ z
    · rw [if_pos c]; omega
    · rw [if_neg c]; omega
  rw [this]
  by_cases c : 0 ≤ z
  · rw [if_pos c]; omega
  · rw [if_neg c]; omega
def Bd (x : Int32) : Prop := ∃ z : Int, -1000000 ≤ z ∧ z ≤ 1000000 ∧ x.toInt = z
theorem add64 {u v : Int32} (hu : Bd u) (hv : Bd v) : (u + (1 : Int32) * v).toInt64 = u.toInt64 + (1 : Int64) * v.toInt64 := by
  obtain ⟨a, a1, a2, ea⟩ := hu
  obtain ⟨b, b1, b2, eb⟩ := hv
  rw [Int32.one_mul, Int64.one_mul]
  apply Int64.toInt_inj.mp
  rw [Int32.toInt_toInt64, Int64.toInt_add, Int32.toInt_add, Int32.toInt_toInt64, Int32.toInt_toInt64, ea, eb, bm32 (by omega) (by omega), bm64 (by omega) (by omega)]
theorem sub64 {u v : Int32} (hu : Bd u) (hv : Bd v) : (u + (-1 : Int32) * v).toInt64 = u.toInt64 + (-1 : Int64) * v.toInt64 := by
  obtain ⟨a, a1, a2, ea⟩ := hu
  obtain ⟨b, b1, b2, eb⟩ := hv
  rw [Int32.neg_mul, Int32.one_mul, Int64.neg_mul, Int64.one_mul]
  apply Int64.toInt_inj.mp
  rw [Int32.toInt_toInt64, Int64.toInt_add, Int32.toInt_add, Int32.toInt_toInt64, Int64.toInt_neg, Int32.toInt_neg, Int32.toInt_toInt64, ea, eb, bm32 (z := -b) (by omega) (by omega), bm32 (by omega) (by omega), bm64 (z := -b) (by omega) (by omega), bm64 (by omega) (by omega)]
theorem k_plus {sizes coefs : Nat → Int32} {a b : Nat} (ha : a < 4) (hb : b < 4) (sg : Int32) (T : Nat → Int64) : ∃ X', f_X0_draftsPlus sizes coefs T (nI a) (nI b) sg = p_b3 (f_X0_draftsTotals sizes coefs X' (sizes a)) (fun r s c => some (r, s, c, X')) ∧ ∀ p, p < 22 → X' p = (coefs (22 * a + p) + sg * coefs (22 * b + p)).toInt64 := by
  have key : ∀ (d f p : Nat) (X : Nat → Int64), p + d = 22 → d < f → (∀ q, q < 22 → X q = if q < p then (coefs (22 * a + q) + sg * coefs (22 * b + q)).toInt64 else 0) → ∃ X', f_X0_draftsPlus_7 f sizes coefs X (nI a) (nI b) sg (nI p) = p_b3 (f_X0_draftsTotals sizes coefs X' (sizes a)) (fun r s c => some (r, s, c, X')) ∧ ∀ p, p < 22 → X' p = (coefs (22 * a + p) + sg * coefs (22 * b + p)).toInt64 := by
    intro d
    induction d with
    | zero =>
      intro f p X hp hf hX
      obtain ⟨f, rfl⟩ : ∃ z, f = z + 1 := ⟨f - 1, by omega⟩
      obtain rfl : p = 22 := by omega
      refine ⟨X, ?_, fun q hq => by rw [hX q hq, if_pos hq]⟩
      show gf_X0_draftsPlus_7 (f_X0_draftsPlus_7 f) sizes coefs X _ _ _ _ = _
      unfold gf_X0_draftsPlus_7
      rw [if_pos (by decide), k_size8 ha, pb1]
    | succ d ih =>
      intro f p X hp hf hX
      obtain ⟨f, rfl⟩ : ∃ z, f = z + 1 := ⟨f - 1, by omega⟩
      obtain ⟨X', e, h⟩ := ih f (p + 1) (vp_updL X p (X p + (coefs (22 * a + p) + sg * coefs (22 * b + p)).toInt64)) (by omega) (by omega) (fun q hq => by
        unfold vp_updL
        by_cases c : q = p
        · subst c
          rw [if_pos rfl, if_pos (show q < q + 1 by omega), hX q hq, if_neg (show ¬ q < q by omega), Int64.zero_add]
        · rw [if_neg c, hX q hq]
          by_cases c2 : q < p
          · rw [if_pos c2, if_pos (show q < p + 1 by omega)]
          · rw [if_neg c2, if_neg (show ¬ q < p + 1 by omega)])
      refine ⟨X', ?_, h⟩
      show gf_X0_draftsPlus_7 (f_X0_draftsPlus_7 f) sizes coefs X _ _ _ _ = _
      unfold gf_X0_draftsPlus_7
      rw [if_neg (show ¬ (22 : Int32) ≤ nI p from nI_ge (a := p) (b := 22) (by omega) (by decide)), k_at8 ha (by omega), pb1, k_at8 hb (by omega), pb1, k_add (by omega), pb1, show nI p + (1 : Int32) = nI (p + 1) from nI_1 p]
      exact e
  obtain ⟨T0, e0, h0⟩ := k_beg0 T
  obtain ⟨X', e, h⟩ := key 22 1000 0 T0 (by omega) (by omega) (fun q hq => by rw [if_neg (by omega)]; exact h0 q hq)
  refine ⟨X', ?_, h⟩
  unfold f_X0_draftsPlus
  rw [e0, pb1]
  exact e
def st1 (tgt : Nat → Nat) (val : Nat → Int64) (X : Nat → Int64) (q : Nat) : Nat → Int64 := vp_updL X (tgt q) (X (tgt q) + val q)
def fs (tgt : Nat → Nat) (val : Nat → Int64) (l : List Nat) (X : Nat → Int64) : Nat → Int64 := l.foldl (st1 tgt val) X
theorem fs_range1 {tgt : Nat → Nat} {val : Nat → Int64} {P : Nat → Bool} {c : Nat} {X : Nat → Int64} (h : P c = true) : fs tgt val ((List.range (c + 1)).filter P) X = st1 tgt val (fs tgt val ((List.range c).filter P) X) c := by
  unfold fs
  rw [List.range_succ, List.filter_append, List.foldl_append]
  simp only [List.filter_cons, h, if_true, List.filter_nil, List.foldl_cons, List.foldl_nil]
theorem fs_range0 {tgt : Nat → Nat} {val : Nat → Int64} {P : Nat → Bool} {c : Nat} {X : Nat → Int64} (h : ¬ P c = true) : fs tgt val ((List.range (c + 1)).filter P) X = fs tgt val ((List.range c).filter P) X := by
  unfold fs
  rw [List.range_succ, List.filter_append, List.foldl_append]
  simp only [List.filter_cons, if_neg h, List.filter_nil, List.foldl_nil]
theorem fs_take {tgt : Nat → Nat} {val : Nat → Int64} {l : List Nat} {i : Nat} {X : Nat → Int64} (h : i < l.length) : fs tgt val (l.take (i + 1)) X = st1 tgt val (fs tgt val (l.take i) X) (l.getD i 0) := by
  unfold fs
  rw [List.take_succ, List.foldl_append, List.getElem?_eq_getElem h, List.getD_eq_getElem?_getD, List.getElem?_eq_getElem h]
  rfl
theorem fs_agree {tgt : Nat → Nat} {val val' : Nat → Int64} : ∀ (l : List Nat) (X Y : Nat → Int64), (∀ p, p < 22 → X p = Y p) → (∀ q, q ∈ l → tgt q < 22 ∧ val q = val' q) → ∀ p, p < 22 → fs tgt val l X p = fs tgt val' l Y p
  | [], X, Y, h, _ => h
  | q :: l, X, Y, h, hl => by
    obtain ⟨h1, h2⟩ := hl q (List.mem_cons_self ..)
    refine fs_agree l (st1 tgt val X q) (st1 tgt val' Y q) (fun p hp => ?_) (fun q hq => hl q (List.mem_cons_of_mem _ hq))
    unfold st1 vp_updL
    by_cases c : p = tgt q
    · rw [if_pos c, if_pos c, h _ h1, h2]
    · rw [if_neg c, if_neg c, h p hp]
theorem fs_zero {tgt : Nat → Nat} {val : Nat → Int64} {m : Nat} : ∀ (l : List Nat) (X : Nat → Int64), (∀ p, m ≤ p → p < 22 → X p = 0) → (∀ q, q ∈ l → tgt q < m) → ∀ p, m ≤ p → p < 22 → fs tgt val l X p = 0
  | [], X, h, _ => h
  | q :: l, X, h, hl => by
    have h1 := hl q (List.mem_cons_self ..)
    refine fs_zero l (st1 tgt val X q) (fun p hp1 hp => ?_) (fun q hq => hl q (List.mem_cons_of_mem _ hq))
    unfold st1 vp_updL
    rw [if_neg (by omega), h p hp1 hp]
def fo (tg : Nat → Nat → Nat) (vl : Nat → Nat → Int64) (m : Nat) (X : Nat → Int64) : Nat → (Nat → Int64)
  | 0 => X
  | i + 1 => fs (tg i) (vl i) (qcells (qz_D m + i) 1) (fo tg vl m X i)
def lp (m i q : Nat) : Nat := qz_F (8 * (qz_D m + i) + q) - qz_D (m - 1)
theorem lp_all : ∀ m, m < 9 → ∀ i, i < qz_N m → (qcells (qz_D m + i) 1).all (fun q => decide (1 ≤ m) && (decide (q < m) && (decide (qz_D (m - 1) ≤ qz_F (8 * (qz_D m + i) + q)) && decide (lp m i q < qz_N (m - 1))))) = true := by decide +kernel
theorem lp_ok {m i q : Nat} (hm : m < 9) (hi : i < qz_N m) (hq : q ∈ qcells (qz_D m + i) 1) : 1 ≤ m ∧ q < m ∧ qz_F (8 * (qz_D m + i) + q) = qz_D (m - 1) + lp m i q ∧ lp m i q < qz_N (m - 1) := by
  have h := List.all_eq_true.mp (lp_all m hm i hi) q hq
  simp only [Bool.and_eq_true, decide_eq_true_eq] at h
  obtain ⟨h1, h2, h3, h4⟩ := h
  refine ⟨h1, h2, ?_, h4⟩
  unfold lp
  omega
theorem qc_in {m i q : Nat} (h : q < qz_S (qz_D m + i)) (h2 : (qz_H (8 * (qz_D m + i) + q) == 1) = true) : q ∈ qcells (qz_D m + i) 1 := by
  unfold qcells
  exact List.mem_filter.mpr ⟨List.mem_range.mpr h, h2⟩
theorem k_hookBy8 : ∀ s, s < 67 → ∀ q, q < 8 → f_X6_hookBy tz_H (nI s) (nI q) = some (tz_H (8 * s + q)) := by decide +kernel
theorem tH_1 (k : Nat) : tz_H k = 1 ↔ (qz_H k == 1) = true := by
  unfold tz_H
  rw [beq_iff_eq]
  exact nI_eq (a := qz_H k) (b := 1) (by unfold qz_H; omega) (by decide)
theorem k_first7 : ∀ n, n < 9 → f_X7_firstOf (nI n) = some (nI (qz_D n)) := by decide +kernel
def tgR (m i q : Nat) : Nat := lp m i q
def vlR (coefs : Nat → Int32) (s i _q : Nat) : Int64 := cl coefs s i
def tgI (i _q : Nat) : Nat := i
def vlI (coefs : Nat → Int32) (s m i q : Nat) : Int64 := cl coefs s (lp m i q)
theorem k_restr {m s : Nat} (hm : m < 9) (hm1 : 1 ≤ m) (hs : s < 4) {sizes coefs : Nat → Int32} (es : sizes s = nI m) (T : Nat → Int64) : ∃ X0 X', f_X0_draftsRestricted tz_S tz_H tz_F sizes coefs T (nI s) = p_b3 (f_X0_draftsTotals sizes coefs X' (nI (m - 1))) (fun r z c => some (r, z, c, X')) ∧ (∀ p, p < 22 → X0 p = 0) ∧ X' = fo (tgR m) (vlR coefs s) m X0 (qz_N m) := by
  have hN := qN_le m hm
  have k42 : ∀ i, i < qz_N m → ∀ (K : (Nat → Int32) → (Nat → Int32) → (Nat → Int64) → Int32 → Int32 → Int32 → Option (Int32 × (Nat → Int32) × (Nat → Int32) × (Nat → Int64))) (X : Nat → Int64) (d f c : Nat), c + d = m → d < f → f_X0_draftsRestricted_42 K tz_S tz_H tz_F f sizes coefs (fs (tgR m i) (vlR coefs s i) ((List.range c).filter (fun q => qz_H (8 * (qz_D m + i) + q) == 1)) X) (nI s) (nI m) (nI i) (nI (qz_D m + i)) (nI c) = K sizes coefs (fs (tgR m i) (vlR coefs s i) (qcells (qz_D m + i) 1) X) (nI s) (nI m) (nI (i + 1)) := by
    intro i hi K X d
    obtain ⟨hD, hD2⟩ := shD m hm i hi
    induction d with
    | zero =>
      intro f c hc hf
      obtain ⟨f, rfl⟩ : ∃ z, f = z + 1 := ⟨f - 1, by omega⟩
      obtain rfl : c = m := by omega
      show gf_X0_draftsRestricted_42 (f_X0_draftsRestricted_42 K tz_S tz_H tz_F f) K tz_S tz_H tz_F sizes coefs _ _ _ _ _ _ = _
      unfold gf_X0_draftsRestricted_42
      rw [if_pos (Int32.le_refl _), show nI i + (1 : Int32) = nI (i + 1) from nI_1 i]
      unfold qcells
      rw [hD2]
    | succ d ih =>
      intro f c hc hf
      obtain ⟨f, rfl⟩ : ∃ z, f = z + 1 := ⟨f - 1, by omega⟩
      have e := ih f (c + 1) (by omega) (by omega)
      show gf_X0_draftsRestricted_42 (f_X0_draftsRestricted_42 K tz_S tz_H tz_F f) K tz_S tz_H tz_F sizes coefs _ _ _ _ _ _ = _
      unfold gf_X0_draftsRestricted_42
      rw [if_neg (nI_ge (by omega) (by omega)), k_hookBy8 _ hD c (by omega), pb1, show nI c + (1 : Int32) = nI (c + 1) from nI_1 c]
      by_cases h : tz_H (8 * (qz_D m + i) + c) = 1
      · have h2 := (tH_1 _).mp h
        obtain ⟨l1, l2, l3, l4⟩ := lp_ok hm hi (qc_in (by omega) h2)
        have hN1 := qN_le (m - 1) (by omega)
        rw [fs_range1 (P := fun q => qz_H (8 * (qz_D m + i) + q) == 1) h2] at e
        rw [if_pos h, k_leftBy _ hD c (by omega), pb1, show tz_F (8 * (qz_D m + i) + c) = nI (qz_D (m - 1) + lp m i c) by unfold tz_F; rw [l3], k_placeN (by omega) l4, pb1, k_at8 hs (by omega), pb1, k_add (by omega), pb1]
        exact e
      · rw [fs_range0 (P := fun q => qz_H (8 * (qz_D m + i) + q) == 1) (fun h2 => h ((tH_1 _).mpr h2))] at e
        rw [if_neg h]
        exact e
  have k15 : ∀ (d f i : Nat) (X0 : Nat → Int64), i + d = qz_N m → d < f → f_X0_draftsRestricted_15 tz_S tz_H tz_F f sizes coefs (fo (tgR m) (vlR coefs s) m X0 i) (nI s) (nI m) (nI i) = p_b3 (f_X0_draftsTotals sizes coefs (fo (tgR m) (vlR coefs s) m X0 (qz_N m)) (nI (m - 1))) (fun r z c => some (r, z, c, fo (tgR m) (vlR coefs s) m X0 (qz_N m))) := by
    intro d
    induction d with
    | zero =>
      intro f i X0 hi hf
      obtain ⟨f, rfl⟩ : ∃ z, f = z + 1 := ⟨f - 1, by omega⟩
      obtain rfl : i = qz_N m := by omega
      show gf_X0_draftsRestricted_15 (f_X0_draftsRestricted_15 tz_S tz_H tz_F f) tz_S tz_H tz_F sizes coefs _ _ _ _ = _
      unfold gf_X0_draftsRestricted_15
      rw [k_countOf m hm, pb1, if_pos (Int32.le_refl _), show nI m - (1 : Int32) = nI (m - 1) from nI_sub2 (b := 1) hm1]
    | succ d ih =>
      intro f i X0 hi hf
      obtain ⟨f, rfl⟩ : ∃ z, f = z + 1 := ⟨f - 1, by omega⟩
      show gf_X0_draftsRestricted_15 (f_X0_draftsRestricted_15 tz_S tz_H tz_F f) tz_S tz_H tz_F sizes coefs _ _ _ _ = _
      unfold gf_X0_draftsRestricted_15
      rw [k_countOf m hm, pb1, if_neg (nI_ge (by omega) (by omega)), k_first7 m hm, pb1, show nI (qz_D m) + nI i = nI (qz_D m + i) from nI_add _ _]
      exact (k42 i (by omega) (f_X0_draftsRestricted_15 tz_S tz_H tz_F f) (fo (tgR m) (vlR coefs s) m X0 i) m 1000 0 (by omega) (by omega)).trans (ih f (i + 1) X0 (by omega) (by omega))
  obtain ⟨X0, e0, h0⟩ := k_beg0 T
  refine ⟨X0, _, ?_, h0, rfl⟩
  unfold f_X0_draftsRestricted
  rw [k_size8 hs, pb1, e0, pb1, es]
  exact k15 (qz_N m) 1000 0 X0 (by omega) (by omega)
theorem k_indu {m s : Nat} (hm : m < 9) (hm1 : 1 ≤ m) (hs : s < 4) {sizes coefs : Nat → Int32} (es : sizes s = nI (m - 1)) (T : Nat → Int64) : ∃ X0 X', f_X0_draftsInduced tz_S tz_H tz_F sizes coefs T (nI s) = p_b3 (f_X0_draftsTotals sizes coefs X' (nI m)) (fun r z c => some (r, z, c, X')) ∧ (∀ p, p < 22 → X0 p = 0) ∧ X' = fo tgI (vlI coefs s m) m X0 (qz_N m) := by
  have hN := qN_le m hm
  have k42 : ∀ i, i < qz_N m → ∀ (K : (Nat → Int32) → (Nat → Int32) → (Nat → Int64) → Int32 → Int32 → Int32 → Option (Int32 × (Nat → Int32) × (Nat → Int32) × (Nat → Int64))) (X : Nat → Int64) (d f c : Nat), c + d = m → d < f → f_X0_draftsInduced_44 K tz_S tz_H tz_F f sizes coefs (fs (tgI i) (vlI coefs s m i) ((List.range c).filter (fun q => qz_H (8 * (qz_D m + i) + q) == 1)) X) (nI s) (nI m) (nI i) (nI (qz_D m + i)) (nI c) = K sizes coefs (fs (tgI i) (vlI coefs s m i) (qcells (qz_D m + i) 1) X) (nI s) (nI m) (nI (i + 1)) := by
    intro i hi K X d
    obtain ⟨hD, hD2⟩ := shD m hm i hi
    induction d with
    | zero =>
      intro f c hc hf
      obtain ⟨f, rfl⟩ : ∃ z, f = z + 1 := ⟨f - 1, by omega⟩
      obtain rfl : c = m := by omega
      show gf_X0_draftsInduced_44 (f_X0_draftsInduced_44 K tz_S tz_H tz_F f) K tz_S tz_H tz_F sizes coefs _ _ _ _ _ _ = _
      unfold gf_X0_draftsInduced_44
      rw [if_pos (Int32.le_refl _), show nI i + (1 : Int32) = nI (i + 1) from nI_1 i]
      unfold qcells
      rw [hD2]
    | succ d ih =>
      intro f c hc hf
      obtain ⟨f, rfl⟩ : ∃ z, f = z + 1 := ⟨f - 1, by omega⟩
      have e := ih f (c + 1) (by omega) (by omega)
      show gf_X0_draftsInduced_44 (f_X0_draftsInduced_44 K tz_S tz_H tz_F f) K tz_S tz_H tz_F sizes coefs _ _ _ _ _ _ = _
      unfold gf_X0_draftsInduced_44
      rw [if_neg (nI_ge (by omega) (by omega)), k_hookBy8 _ hD c (by omega), pb1, show nI c + (1 : Int32) = nI (c + 1) from nI_1 c]
      by_cases h : tz_H (8 * (qz_D m + i) + c) = 1
      · have h2 := (tH_1 _).mp h
        obtain ⟨l1, l2, l3, l4⟩ := lp_ok hm hi (qc_in (by omega) h2)
        have hN1 := qN_le (m - 1) (by omega)
        rw [fs_range1 (P := fun q => qz_H (8 * (qz_D m + i) + q) == 1) h2] at e
        rw [if_pos h, k_leftBy _ hD c (by omega), pb1, show tz_F (8 * (qz_D m + i) + c) = nI (qz_D (m - 1) + lp m i c) by unfold tz_F; rw [l3], k_placeN (by omega) l4, pb1, k_at8 hs (by omega), pb1, k_add (by omega), pb1]
        exact e
      · rw [fs_range0 (P := fun q => qz_H (8 * (qz_D m + i) + q) == 1) (fun h2 => h ((tH_1 _).mpr h2))] at e
        rw [if_neg h]
        exact e
  have k15 : ∀ (d f i : Nat) (X0 : Nat → Int64), i + d = qz_N m → d < f → f_X0_draftsInduced_17 tz_S tz_H tz_F f sizes coefs (fo tgI (vlI coefs s m) m X0 i) (nI s) (nI m) (nI i) = p_b3 (f_X0_draftsTotals sizes coefs (fo tgI (vlI coefs s m) m X0 (qz_N m)) (nI m)) (fun r z c => some (r, z, c, fo tgI (vlI coefs s m) m X0 (qz_N m))) := by
    intro d
    induction d with
    | zero =>
      intro f i X0 hi hf
      obtain ⟨f, rfl⟩ : ∃ z, f = z + 1 := ⟨f - 1, by omega⟩
      obtain rfl : i = qz_N m := by omega
      show gf_X0_draftsInduced_17 (f_X0_draftsInduced_17 tz_S tz_H tz_F f) tz_S tz_H tz_F sizes coefs _ _ _ _ = _
      unfold gf_X0_draftsInduced_17
      rw [k_countOf m hm, pb1, if_pos (Int32.le_refl _)]
    | succ d ih =>
      intro f i X0 hi hf
      obtain ⟨f, rfl⟩ : ∃ z, f = z + 1 := ⟨f - 1, by omega⟩
      show gf_X0_draftsInduced_17 (f_X0_draftsInduced_17 tz_S tz_H tz_F f) tz_S tz_H tz_F sizes coefs _ _ _ _ = _
      unfold gf_X0_draftsInduced_17
      rw [k_countOf m hm, pb1, if_neg (nI_ge (by omega) (by omega)), k_first7 m hm, pb1, show nI (qz_D m) + nI i = nI (qz_D m + i) from nI_add _ _]
      exact (k42 i (by omega) (f_X0_draftsInduced_17 tz_S tz_H tz_F f) (fo tgI (vlI coefs s m) m X0 i) m 1000 0 (by omega) (by omega)).trans (ih f (i + 1) X0 (by omega) (by omega))
  obtain ⟨X0, e0, h0⟩ := k_beg0 T
  refine ⟨X0, _, ?_, h0, rfl⟩
  unfold f_X0_draftsInduced
  rw [k_size8 hs, pb1, e0, pb1, es, show nI (m - 1) + (1 : Int32) = nI m by rw [show nI (m - 1) + (1 : Int32) = nI (m - 1 + 1) from nI_1 _, show m - 1 + 1 = m by omega]]
  exact k15 (qz_N m) 1000 0 X0 (by omega) (by omega)
def tp (n i : Nat) : Nat := qz_turn (qz_D n + i) - qz_D n
theorem tp_all : ∀ n, n < 9 → ∀ i, i < qz_N n → qz_turn (qz_D n + i) = qz_D n + tp n i ∧ tp n i < qz_N n ∧ tp n (tp n i) = i := by decide +kernel
def ab (A : Nat → Int64) (n i p : Nat) : Int64 := if p < qz_N n ∧ tp n p < i then A (tp n p) else 0
theorem ab_step {A : Nat → Int64} {n i : Nat} (hn : n < 9) (hi : i < qz_N n) (p : Nat) (_hp : p < 22) : (p = tp n i → ab A n i p = 0 ∧ ab A n (i + 1) p = A i) ∧ (¬ p = tp n i → ab A n (i + 1) p = ab A n i p) := by
  obtain ⟨t1, t2, t3⟩ := tp_all n hn i hi
  unfold ab
  refine ⟨fun h => ?_, fun h => ?_⟩
  · subst h
    rw [t3, if_neg (by omega), if_pos (by omega)]
    exact ⟨rfl, rfl⟩
  · by_cases c : p < qz_N n ∧ tp n p < i
    · rw [if_pos c, if_pos ⟨c.1, by omega⟩]
    · rw [if_neg c, if_neg]
      intro d
      have e : tp n p = i := by omega
      exact h (by rw [← e]; exact (tp_all n hn p d.1).2.2.symm)
theorem k_about {n s : Nat} (hn : n < 9) (hs : s < 4) {sizes coefs : Nat → Int32} (es : sizes s = nI n) (T : Nat → Int64) : ∃ X', f_X0_draftsAbout tz_R tz_S sizes coefs T (nI s) = p_b3 (f_X0_draftsTotals sizes coefs X' (nI n)) (fun r z c => some (r, z, c, X')) ∧ ∀ p, p < 22 → X' p = ab (cl coefs s) n (qz_N n) p := by
  have hN := qN_le n hn
  have key : ∀ (d f i : Nat) (X : Nat → Int64), i + d = qz_N n → d < f → (∀ p, p < 22 → X p = ab (cl coefs s) n i p) → ∃ X', f_X0_draftsAbout_15 tz_R tz_S f sizes coefs X (nI s) (nI n) (nI i) = p_b3 (f_X0_draftsTotals sizes coefs X' (nI n)) (fun r z c => some (r, z, c, X')) ∧ ∀ p, p < 22 → X' p = ab (cl coefs s) n (qz_N n) p := by
    intro d
    induction d with
    | zero =>
      intro f i X hi hf hX
      obtain ⟨f, rfl⟩ : ∃ z, f = z + 1 := ⟨f - 1, by omega⟩
      obtain rfl : i = qz_N n := by omega
      refine ⟨X, ?_, hX⟩
      show gf_X0_draftsAbout_15 (f_X0_draftsAbout_15 tz_R tz_S f) tz_R tz_S sizes coefs X _ _ _ = _
      unfold gf_X0_draftsAbout_15
      rw [k_countOf n hn, pb1, if_pos (Int32.le_refl _)]
    | succ d ih =>
      intro f i X hi hf hX
      obtain ⟨f, rfl⟩ : ∃ z, f = z + 1 := ⟨f - 1, by omega⟩
      obtain ⟨t1, t2, t3⟩ := tp_all n hn i (by omega)
      obtain ⟨hD, hD2⟩ := shD n hn i (by omega)
      obtain ⟨X', e, h⟩ := ih f (i + 1) (vp_updL X (tp n i) (X (tp n i) + cl coefs s i)) (by omega) (by omega) (fun p hp => by
        obtain ⟨s1, s2⟩ := ab_step (A := cl coefs s) hn (show i < qz_N n by omega) p hp
        unfold vp_updL
        by_cases c : p = tp n i
        · rw [if_pos c, ← c, hX p hp, (s1 c).1, (s1 c).2, Int64.zero_add]
        · rw [if_neg c, hX p hp, s2 c])
      refine ⟨X', ?_, h⟩
      show gf_X0_draftsAbout_15 (f_X0_draftsAbout_15 tz_R tz_S f) tz_R tz_S sizes coefs X _ _ _ = _
      unfold gf_X0_draftsAbout_15
      rw [k_countOf n hn, pb1, if_neg (nI_ge (by omega) (by omega)), k_first7 n hn, pb1, show nI (qz_D n) + nI i = nI (qz_D n + i) from nI_add _ _, k_turnedOf _ hD, pb1, show tz_turn (qz_D n + i) = nI (qz_D n + tp n i) by unfold tz_turn; rw [t1], k_placeN hn t2, pb1, k_at8 hs (by omega), pb1, k_add (by omega), pb1, show nI i + (1 : Int32) = nI (i + 1) from nI_1 i]
      exact e
  obtain ⟨T0, e0, h0⟩ := k_beg0 T
  obtain ⟨X', e, h⟩ := key (qz_N n) 1000 0 T0 (by omega) (by omega) (fun p hp => by unfold ab; rw [if_neg (by omega)]; exact h0 p hp)
  refine ⟨X', ?_, h⟩
  unfold f_X0_draftsAbout
  rw [k_size8 hs, pb1, e0, pb1, es]
  exact e
theorem qcell_mem {s k j : Nat} (h : j < qcnt s k) : qcell s k j ∈ qcells s k := by
  have h' : j < (qcells s k).length := h
  unfold qcell
  rw [List.getD_eq_getElem?_getD, List.getElem?_eq_getElem h']
  exact List.getElem_mem h'
theorem fo_agree {tg : Nat → Nat → Nat} {vl vl' : Nat → Nat → Int64} {m : Nat} {X Y : Nat → Int64} (h : ∀ p, p < 22 → X p = Y p) : ∀ N, (∀ i, i < N → ∀ q, q ∈ qcells (qz_D m + i) 1 → tg i q < 22 ∧ vl i q = vl' i q) → ∀ p, p < 22 → fo tg vl m X N p = fo tg vl' m Y N p
  | 0, _ => h
  | N + 1, hN => fs_agree _ _ _ (fo_agree h N (fun i hi => hN i (by omega))) (hN N (by omega))
theorem fo_zero {tg : Nat → Nat → Nat} {vl : Nat → Nat → Int64} {m z : Nat} {X : Nat → Int64} (h : ∀ p, z ≤ p → p < 22 → X p = 0) : ∀ N, (∀ i, i < N → ∀ q, q ∈ qcells (qz_D m + i) 1 → tg i q < z) → ∀ p, z ≤ p → p < 22 → fo tg vl m X N p = 0
  | 0, _ => h
  | N + 1, hN => fs_zero _ _ (fo_zero h N (fun i hi => hN i (by omega))) (hN N (by omega))
