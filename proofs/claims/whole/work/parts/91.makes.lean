/-! sums made of two sums -/
def sm (g : Nat → Int64) : Nat → Int64
  | 0 => 0
  | k + 1 => sm g k + g k
theorem sm_congr {g h : Nat → Int64} : ∀ N, (∀ i, i < N → g i = h i) → sm g N = sm h N
  | 0, _ => rfl
  | N + 1, e => by
    show sm g N + g N = sm h N + h N
    rw [sm_congr N (fun i hi => e i (by omega)), e N (by omega)]
theorem sm_add (g h : Nat → Int64) : ∀ N, sm (fun i => g i + h i) N = sm g N + sm h N
  | 0 => rfl
  | N + 1 => by
    show sm (fun i => g i + h i) N + (g N + h N) = (sm g N + g N) + (sm h N + h N)
    rw [sm_add g h N]
    ac_rfl
theorem sm_sq (f : Nat → Nat → Int64) : ∀ N, sm (fun i => sm (f i) N) N = sm (fun i => f i i + sm (fun j => f i j + f j i) i) N
  | 0 => rfl
  | N + 1 => by
    show sm (fun i => sm (f i) N + f i N) N + (sm (f N) N + f N N) = sm (fun i => f i i + sm (fun j => f i j + f j i) i) N + (f N N + sm (fun j => f N j + f j N) N)
    rw [sm_add (fun i => sm (f i) N) (fun i => f i N) N, sm_sq f N, sm_add (f N) (fun j => f j N) N]
    ac_rfl
def tg (A B : Nat → Int64) (n p i j : Nat) : Int64 := if p < qz_N n then A i * B j * (nuV n i j p).toInt64 else 0
theorem tg2 (A B : Nat → Int64) (n p i j : Nat) : (if p < qz_N n then (A i * B j + A j * B i) * (nuV n i j p).toInt64 else 0) = tg A B n p i j + tg A B n p j i := by
  unfold tg
  by_cases c : p < qz_N n
  · rw [if_pos c, if_pos c, if_pos c, nuV_12 n j i p, Int64.add_mul]
  · rw [if_neg c, if_neg c, if_neg c]; rfl
theorem k_add {T : Nat → Int64} {p : Nat} {x : Int64} (hp : p < 22) : f_X0_add T (nI p) x = some (vp_updL T p (T p + x)) := by
  unfold f_X0_add
  rw [if_neg (nI_pos (by omega)), if_neg (show ¬ (22 : Int32) ≤ nI p from nI_ge (a := p) (b := 22) (by omega) (by decide)), pinn hp (by decide), pinn hp (by decide), nI_c p (by omega)]
theorem k_addProd {n i j : Nat} (hn : n < 9) (hi : i < qz_N n) (hj : j < qz_N n) {known : Nat → Int32} (hkn : Kn known) (T : Nat → Int64) (v : Int64) : ∃ known' T', f_X0_addProduct tz_O tz_C known T (nI n) (nI i) (nI j) v = some (known', T') ∧ Kn known' ∧ ∀ p, p < 22 → T' p = T p + (if p < qz_N n then v * (nuV n i j p).toInt64 else 0) := by
  have hN := qN_le n hn
  unfold f_X0_addProduct
  by_cases c : v = 0
  · rw [if_pos ((lg_cmp_eq v 0).mpr c)]
    refine ⟨_, _, rfl, hkn, fun p hp => ?_⟩
    rw [c, Int64.zero_mul]
    by_cases d : p < qz_N n
    · rw [if_pos d, Int64.add_zero]
    · rw [if_neg d, Int64.add_zero]
  · rw [if_neg (fun h => c ((lg_cmp_eq v 0).mp h))]
    have key : ∀ (d f q : Nat) (known : Nat → Int32) (X : Nat → Int64), q + d = qz_N n → d < f → Kn known → (∀ p, p < 22 → X p = T p + (if p < q then v * (nuV n i j p).toInt64 else 0)) → ∃ known' T', f_X0_addProduct_10 tz_O tz_C f known X (nI n) (nI i) (nI j) v (nI q) = some (known', T') ∧ Kn known' ∧ ∀ p, p < 22 → T' p = T p + (if p < qz_N n then v * (nuV n i j p).toInt64 else 0) := by
      intro d
      induction d with
      | zero =>
        intro f q known X hq hf hk hX
        obtain ⟨f, rfl⟩ : ∃ z, f = z + 1 := ⟨f - 1, by omega⟩
        obtain rfl : q = qz_N n := by omega
        refine ⟨_, _, ?_, hk, hX⟩
        show gf_X0_addProduct_10 (f_X0_addProduct_10 tz_O tz_C f) tz_O tz_C known X _ _ _ v _ = _
        unfold gf_X0_addProduct_10
        rw [k_countOf n hn, pb1, if_pos (Int32.le_refl _)]
      | succ d ih =>
        intro f q known X hq hf hk hX
        obtain ⟨f, rfl⟩ : ∃ z, f = z + 1 := ⟨f - 1, by omega⟩
        obtain ⟨kn2, e1, hk2⟩ := k_atPlaces hn hi hj (show q < qz_N n by omega) hk
        obtain ⟨known', T', e, h1, h2⟩ := ih f (q + 1) kn2 (vp_updL X q (X q + v * (nuV n i j q).toInt64)) (by omega) (by omega) hk2 (fun p hp => by
          unfold vp_updL
          by_cases c : p = q
          · subst c
            rw [if_pos rfl, if_pos (show p < p + 1 by omega), hX p hp, if_neg (show ¬ p < p by omega), Int64.add_zero]
          · rw [if_neg c, hX p hp]
            by_cases c2 : p < q
            · rw [if_pos c2, if_pos (show p < q + 1 by omega)]
            · rw [if_neg c2, if_neg (show ¬ p < q + 1 by omega)])
        refine ⟨known', T', ?_, h1, h2⟩
        show gf_X0_addProduct_10 (f_X0_addProduct_10 tz_O tz_C f) tz_O tz_C known X _ _ _ v _ = _
        unfold gf_X0_addProduct_10
        rw [k_countOf n hn, pb1, if_neg (nI_ge (by omega) (by omega)), e1, pb2, k_add (by omega), pb1, show nI q + (1 : Int32) = nI (q + 1) from nI_1 q]
        exact e
    exact key (qz_N n) 1000 0 known T (by omega) (by omega) hkn (fun p _ => by rw [if_neg (by omega), Int64.add_zero])
/-- a sum's coefficients, as the arithmetic takes them -/
def cl (coefs : Nat → Int32) (s i : Nat) : Int64 := (coefs (22 * s + i)).toInt64
theorem k_times64 {n i a b : Nat} (hn : n < 9) (hi : i < qz_N n) (ha : a < 4) (hb : b < 4) {sizes coefs : Nat → Int32} (K : (Nat → Int32) → (Nat → Int32) → (Nat → Int32) → (Nat → Int64) → Int32 → Int32 → Int32 → Int32 → Option (Int32 × (Nat → Int32) × (Nat → Int32) × (Nat → Int32) × (Nat → Int64))) {base : Nat → Int64} : ∀ (d f j : Nat) (known : Nat → Int32) (X : Nat → Int64), j + d = i → d < f → Kn known → (∀ p, p < 22 → X p = base p + sm (fun j => tg (cl coefs a) (cl coefs b) n p i j + tg (cl coefs a) (cl coefs b) n p j i) j) → ∃ known' X', f_X0_draftsTimes_64 K tz_O tz_C f known sizes coefs X (nI a) (nI b) (nI n) (nI i) (nI j) = K known' sizes coefs X' (nI a) (nI b) (nI n) (nI (i + 1)) ∧ Kn known' ∧ ∀ p, p < 22 → X' p = base p + sm (fun j => tg (cl coefs a) (cl coefs b) n p i j + tg (cl coefs a) (cl coefs b) n p j i) i := by
  have hN := qN_le n hn
  intro d
  induction d with
  | zero =>
    intro f j known X hj hf hk hX
    obtain ⟨f, rfl⟩ : ∃ z, f = z + 1 := ⟨f - 1, by omega⟩
    obtain rfl : j = i := by omega
    refine ⟨_, _, ?_, hk, hX⟩
    show gf_X0_draftsTimes_64 (f_X0_draftsTimes_64 K tz_O tz_C f) K tz_O tz_C known sizes coefs X _ _ _ _ _ = _
    unfold gf_X0_draftsTimes_64
    rw [if_pos (Int32.le_refl _), show nI j + (1 : Int32) = nI (j + 1) from nI_1 j]
  | succ d ih =>
    intro f j known X hj hf hk hX
    obtain ⟨f, rfl⟩ : ∃ z, f = z + 1 := ⟨f - 1, by omega⟩
    obtain ⟨kn2, X2, e1, hk2, hX2⟩ := k_addProd hn hi (show j < qz_N n by omega) hk X (cl coefs a i * cl coefs b j + cl coefs a j * cl coefs b i)
    obtain ⟨known', X', e, h1, h2⟩ := ih f (j + 1) kn2 X2 (by omega) (by omega) hk2 (fun p hp => by
      rw [hX2 p hp, hX p hp, tg2, Int64.add_assoc]
      rfl)
    refine ⟨known', X', ?_, h1, h2⟩
    show gf_X0_draftsTimes_64 (f_X0_draftsTimes_64 K tz_O tz_C f) K tz_O tz_C known sizes coefs X _ _ _ _ _ = _
    unfold gf_X0_draftsTimes_64
    rw [if_neg (nI_ge (by omega) (by omega)), k_at8 ha (by omega), pb1, k_at8 hb (by omega), pb1, k_at8 ha (by omega), pb1, k_at8 hb (by omega), pb1, show nI j + (1 : Int32) = nI (j + 1) from nI_1 j]
    unfold cl at e1
    rw [e1, pb2]
    exact e
theorem k_times {n a b : Nat} (hn : n < 9) (ha : a < 4) (hb : b < 4) {sizes coefs : Nat → Int32} (es : sizes a = nI n) {known : Nat → Int32} (hkn : Kn known) (T : Nat → Int64) : ∃ known' X', f_X0_draftsTimes tz_O tz_C known sizes coefs T (nI a) (nI b) = p_b3 (f_X0_draftsTotals sizes coefs X' (nI n)) (fun r s c => some (r, known', s, c, X')) ∧ Kn known' ∧ ∀ p, p < 22 → X' p = sm (fun i => sm (tg (cl coefs a) (cl coefs b) n p i) (qz_N n)) (qz_N n) := by
  have hN := qN_le n hn
  have key : ∀ (d f i : Nat) (known : Nat → Int32) (X : Nat → Int64), i + d = qz_N n → d < f → Kn known → (∀ p, p < 22 → X p = sm (fun i => tg (cl coefs a) (cl coefs b) n p i i + sm (fun j => tg (cl coefs a) (cl coefs b) n p i j + tg (cl coefs a) (cl coefs b) n p j i) i) i) → ∃ known' X', f_X0_draftsTimes_16 tz_O tz_C f known sizes coefs X (nI a) (nI b) (nI n) (nI i) = p_b3 (f_X0_draftsTotals sizes coefs X' (nI n)) (fun r s c => some (r, known', s, c, X')) ∧ Kn known' ∧ ∀ p, p < 22 → X' p = sm (fun i => tg (cl coefs a) (cl coefs b) n p i i + sm (fun j => tg (cl coefs a) (cl coefs b) n p i j + tg (cl coefs a) (cl coefs b) n p j i) i) (qz_N n) := by
    intro d
    induction d with
    | zero =>
      intro f i known X hi hf hk hX
      obtain ⟨f, rfl⟩ : ∃ z, f = z + 1 := ⟨f - 1, by omega⟩
      obtain rfl : i = qz_N n := by omega
      refine ⟨_, _, ?_, hk, hX⟩
      show gf_X0_draftsTimes_16 (f_X0_draftsTimes_16 tz_O tz_C f) tz_O tz_C known sizes coefs X _ _ _ _ = _
      unfold gf_X0_draftsTimes_16
      rw [k_countOf n hn, pb1, if_pos (Int32.le_refl _)]
    | succ d ih =>
      intro f i known X hi hf hk hX
      obtain ⟨f, rfl⟩ : ∃ z, f = z + 1 := ⟨f - 1, by omega⟩
      obtain ⟨kn2, X2, e1, hk2, hX2⟩ := k_addProd hn (show i < qz_N n by omega) (show i < qz_N n by omega) hk X (cl coefs a i * cl coefs b i)
      obtain ⟨kn3, X3, e3, hk3, hX3⟩ := k_times64 (sizes := sizes) (coefs := coefs) hn (show i < qz_N n by omega) ha hb (f_X0_draftsTimes_16 tz_O tz_C f) (base := X2) i 1000 0 kn2 X2 (by omega) (by omega) hk2 (fun p hp => (Int64.add_zero _).symm)
      obtain ⟨known', X', e, h1, h2⟩ := ih f (i + 1) kn3 X3 (by omega) (by omega) hk3 (fun p hp => by
        rw [hX3 p hp, hX2 p hp, hX p hp, Int64.add_assoc]
        rfl)
      refine ⟨known', X', ?_, h1, h2⟩
      show gf_X0_draftsTimes_16 (f_X0_draftsTimes_16 tz_O tz_C f) tz_O tz_C known sizes coefs X _ _ _ _ = _
      unfold gf_X0_draftsTimes_16
      unfold cl at e1
      rw [k_countOf n hn, pb1, if_neg (nI_ge (by omega) (by omega)), k_at8 ha (by omega), pb1, k_at8 hb (by omega), pb1, e1, pb2]
      exact e3.trans e
  obtain ⟨T0, e0, h0⟩ := k_beg0 T
  obtain ⟨known', X', e, h1, h2⟩ := key (qz_N n) 1000 0 known T0 (by omega) (by omega) hkn (fun p hp => h0 p hp)
  refine ⟨known', X', ?_, h1, fun p hp => ?_⟩
  · unfold f_X0_draftsTimes
    rw [k_size8 ha, pb1, e0, pb1, es]
    exact e
  · rw [h2 p hp, ← sm_sq]
theorem m_coefOf {n i s : Nat} (hn : n < 9) (hi : i < qz_N n) (hs : s < 4) {sum coef : Nat → Int32} (es : sum s = nI n) : f_X10_coefficientOf tz_D tz_S sum coef (nI s) (nI (qz_D n + i)) = some (coef (22 * s + i)) := by
  obtain ⟨hD, hD2⟩ := shD n hn i hi
  have hN := qN_le n hn
  unfold f_X10_coefficientOf
  rw [pinn hD (by decide), nI_c (qz_D n + i) (by omega), pinn hs (by decide), nI_c s (by omega), es, if_pos (show tz_S (qz_D n + i) = nI n by unfold tz_S; rw [hD2]), pinn hs (by decide), pinn (by omega) (by decide), nI_c n (by omega), ix22m, show tz_D n = nI (qz_D n) from rfl, nI_sub2 (by omega), pinn (by omega) (by decide), nI_c _ (by omega), show 22 * s + (qz_D n + i) - qz_D n = 22 * s + i by omega]
theorem m_mult71 {n i j : Nat} (hn : n < 9) (hi : i < qz_N n) (hj : j < qz_N n) {sum coef : Nat → Int32} {x y : Int32} (K : (Nat → Int64) → Int32 → Int32 → Int32 → Int32 → Int32 → Option (Nat → Int64)) (T : Nat → Int64) (v : Int64) : ∃ T', f_X10_multiplies_71 K tz_D tz_S tz_L tz_R tz_M sum coef 1000 T x y (nI n) (nI (qz_D n + i)) (nI (qz_D n + j)) v 0 = K T' x y (nI n) (nI (qz_D n + i)) (nI (qz_D n + (j + 1))) ∧ ∀ p, p < 22 → T' p = T p + (if p < qz_N n then v * (nuV n i j p).toInt64 else 0) := by
  have hN := qN_le n hn
  have ej : nI (qz_D n + j) + (1 : Int32) = nI (qz_D n + (j + 1)) := nI_1 _
  by_cases c : v = 0
  · refine ⟨T, ?_, fun p hp => ?_⟩
    · show gf_X10_multiplies_71 (f_X10_multiplies_71 K tz_D tz_S tz_L tz_R tz_M sum coef 999) K tz_D tz_S tz_L tz_R tz_M sum coef T x y _ _ _ v _ = _
      unfold gf_X10_multiplies_71
      rw [if_pos ((lg_cmp_eq v 0).mpr c), ej]
    · rw [c, Int64.zero_mul]
      by_cases d : p < qz_N n
      · rw [if_pos d, Int64.add_zero]
      · rw [if_neg d, Int64.add_zero]
  · have key : ∀ (d f q : Nat) (X : Nat → Int64), q + d = qz_N n → d < f → (∀ p, p < 22 → X p = T p + (if p < q then v * (nuV n i j p).toInt64 else 0)) → ∃ T', f_X10_multiplies_71 K tz_D tz_S tz_L tz_R tz_M sum coef f X x y (nI n) (nI (qz_D n + i)) (nI (qz_D n + j)) v (nI q) = K T' x y (nI n) (nI (qz_D n + i)) (nI (qz_D n + (j + 1))) ∧ ∀ p, p < 22 → T' p = T p + (if p < qz_N n then v * (nuV n i j p).toInt64 else 0) := by
      intro d
      induction d with
      | zero =>
        intro f q X hq hf hX
        obtain ⟨f, rfl⟩ : ∃ z, f = z + 1 := ⟨f - 1, by omega⟩
        obtain rfl : q = qz_N n := by omega
        refine ⟨_, ?_, hX⟩
        show gf_X10_multiplies_71 (f_X10_multiplies_71 K tz_D tz_S tz_L tz_R tz_M sum coef f) K tz_D tz_S tz_L tz_R tz_M sum coef X x y _ _ _ v _ = _
        unfold gf_X10_multiplies_71
        rw [if_neg (fun h => c ((lg_cmp_eq v 0).mp h)), m_manyOf n hn, pb1, if_pos (Int32.le_refl _), ej]
      | succ d ih =>
        intro f q X hq hf hX
        obtain ⟨f, rfl⟩ : ∃ z, f = z + 1 := ⟨f - 1, by omega⟩
        obtain ⟨T', e, h2⟩ := ih f (q + 1) (vp_updL X q (X q + v * (nuV n i j q).toInt64)) (by omega) (by omega) (fun p hp => by
          unfold vp_updL
          by_cases c : p = q
          · subst c
            rw [if_pos rfl, if_pos (show p < p + 1 by omega), hX p hp, if_neg (show ¬ p < p by omega), Int64.add_zero]
          · rw [if_neg c, hX p hp]
            by_cases c2 : p < q
            · rw [if_pos c2, if_pos (show p < q + 1 by omega)]
            · rw [if_neg c2, if_neg (show ¬ p < q + 1 by omega)])
        refine ⟨T', ?_, h2⟩
        show gf_X10_multiplies_71 (f_X10_multiplies_71 K tz_D tz_S tz_L tz_R tz_M sum coef f) K tz_D tz_S tz_L tz_R tz_M sum coef X x y _ _ _ v _ = _
        unfold gf_X10_multiplies_71
        rw [if_neg (fun h => c ((lg_cmp_eq v 0).mp h)), m_manyOf n hn, pb1, if_neg (nI_ge (by omega) (by omega)), pinn (by omega) (by decide), pinn (by omega) (by decide), nI_c n (by omega), show tz_D n + nI q = nI (qz_D n + q) from nI_add _ _, m_number hn hi hj (show q < qz_N n by omega), pb1, pinn (by omega) (by decide), nI_c q (by omega), show nI q + (1 : Int32) = nI (q + 1) from nI_1 q]
        exact e
    exact key (qz_N n) 1000 0 T (by omega) (by omega) (fun p _ => by rw [if_neg (by omega), Int64.add_zero])
theorem m_mult36 {n i a b : Nat} (hn : n < 9) (hi : i < qz_N n) (ha : a < 4) (hb : b < 4) {sum coef : Nat → Int32} (ea : sum a = nI n) (eb : sum b = nI n) (K : (Nat → Int64) → Int32 → Int32 → Int32 → Int32 → Option (Nat → Int64)) {base : Nat → Int64} : ∀ (d f j : Nat) (X : Nat → Int64), j + d = qz_N n → d < f → (∀ p, p < 22 → X p = base p + sm (tg (cl coef a) (cl coef b) n p i) j) → ∃ T', f_X10_multiplies_36 K tz_D tz_S tz_L tz_R tz_M sum coef f X (nI a) (nI b) (nI n) (nI (qz_D n + i)) (nI (qz_D n + j)) = K T' (nI a) (nI b) (nI n) (nI (qz_D n + (i + 1))) ∧ ∀ p, p < 22 → T' p = base p + sm (tg (cl coef a) (cl coef b) n p i) (qz_N n) := by
  have hN := qN_le n hn
  obtain ⟨hD, hD2⟩ := qD_step n hn
  intro d
  induction d with
  | zero =>
    intro f j X hj hf hX
    obtain ⟨f, rfl⟩ : ∃ z, f = z + 1 := ⟨f - 1, by omega⟩
    obtain rfl : j = qz_N n := by omega
    refine ⟨_, ?_, hX⟩
    show gf_X10_multiplies_36 (f_X10_multiplies_36 K tz_D tz_S tz_L tz_R tz_M sum coef f) K tz_D tz_S tz_L tz_R tz_M sum coef X _ _ _ _ _ = _
    unfold gf_X10_multiplies_36
    rw [show nI n + (1 : Int32) = nI (n + 1) from nI_1 n, pinn (by omega) (by decide), nI_c (n + 1) (by omega), if_pos (show tz_D (n + 1) ≤ nI (qz_D n + qz_N n) from nI_le (by omega) (by omega)), show nI (qz_D n + i) + (1 : Int32) = nI (qz_D n + (i + 1)) from nI_1 _]
  | succ d ih =>
    intro f j X hj hf hX
    obtain ⟨f, rfl⟩ : ∃ z, f = z + 1 := ⟨f - 1, by omega⟩
    obtain ⟨X2, e1, hX2⟩ := m_mult71 (sum := sum) (coef := coef) (x := nI a) (y := nI b) hn hi (show j < qz_N n by omega) (f_X10_multiplies_36 K tz_D tz_S tz_L tz_R tz_M sum coef f) X (cl coef a i * cl coef b j)
    obtain ⟨T', e, h2⟩ := ih f (j + 1) X2 (by omega) (by omega) (fun p hp => by
      rw [hX2 p hp, hX p hp, Int64.add_assoc]
      rfl)
    refine ⟨T', ?_, h2⟩
    show gf_X10_multiplies_36 (f_X10_multiplies_36 K tz_D tz_S tz_L tz_R tz_M sum coef f) K tz_D tz_S tz_L tz_R tz_M sum coef X _ _ _ _ _ = _
    unfold gf_X10_multiplies_36
    rw [show nI n + (1 : Int32) = nI (n + 1) from nI_1 n, pinn (by omega) (by decide), nI_c (n + 1) (by omega), if_neg (show ¬ tz_D (n + 1) ≤ nI (qz_D n + j) from nI_ge (by omega) (by omega)), m_coefOf hn hi ha ea, pb1, m_coefOf hn (show j < qz_N n by omega) hb eb, pb1]
    exact e1.trans e
theorem m_multi {n a b : Nat} (hn : n < 9) (ha : a < 4) (hb : b < 4) {sum coef : Nat → Int32} (ea : sum a = nI n) (eb : sum b = nI n) {T : Nat → Int64} (h0 : ∀ p, p < 22 → T p = 0) : ∃ T', f_X10_multiplies tz_D tz_S tz_L tz_R tz_M sum coef T (nI a) (nI b) = some T' ∧ ∀ p, p < 22 → T' p = sm (fun i => sm (tg (cl coef a) (cl coef b) n p i) (qz_N n)) (qz_N n) := by
  have hN := qN_le n hn
  obtain ⟨hD, hD2⟩ := qD_step n hn
  have key : ∀ (d f i : Nat) (X : Nat → Int64), i + d = qz_N n → d < f → (∀ p, p < 22 → X p = sm (fun i => sm (tg (cl coef a) (cl coef b) n p i) (qz_N n)) i) → ∃ T', f_X10_multiplies_15 tz_D tz_S tz_L tz_R tz_M sum coef f X (nI a) (nI b) (nI n) (nI (qz_D n + i)) = some T' ∧ ∀ p, p < 22 → T' p = sm (fun i => sm (tg (cl coef a) (cl coef b) n p i) (qz_N n)) (qz_N n) := by
    intro d
    induction d with
    | zero =>
      intro f i X hi hf hX
      obtain ⟨f, rfl⟩ : ∃ z, f = z + 1 := ⟨f - 1, by omega⟩
      obtain rfl : i = qz_N n := by omega
      refine ⟨_, ?_, hX⟩
      show gf_X10_multiplies_15 (f_X10_multiplies_15 tz_D tz_S tz_L tz_R tz_M sum coef f) tz_D tz_S tz_L tz_R tz_M sum coef X _ _ _ _ = _
      unfold gf_X10_multiplies_15
      rw [show nI n + (1 : Int32) = nI (n + 1) from nI_1 n, pinn (by omega) (by decide), nI_c (n + 1) (by omega), if_pos (show tz_D (n + 1) ≤ nI (qz_D n + qz_N n) from nI_le (by omega) (by omega))]
    | succ d ih =>
      intro f i X hi hf hX
      obtain ⟨f, rfl⟩ : ∃ z, f = z + 1 := ⟨f - 1, by omega⟩
      obtain ⟨X2, e1, hX2⟩ := m_mult36 (coef := coef) hn (show i < qz_N n by omega) ha hb ea eb (f_X10_multiplies_15 tz_D tz_S tz_L tz_R tz_M sum coef f) (base := X) (qz_N n) 1000 0 X (by omega) (by omega) (fun p hp => (Int64.add_zero _).symm)
      obtain ⟨T', e, h2⟩ := ih f (i + 1) X2 (by omega) (by omega) (fun p hp => by
        rw [hX2 p hp, hX p hp]
        rfl)
      refine ⟨T', ?_, h2⟩
      show gf_X10_multiplies_15 (f_X10_multiplies_15 tz_D tz_S tz_L tz_R tz_M sum coef f) tz_D tz_S tz_L tz_R tz_M sum coef X _ _ _ _ = _
      unfold gf_X10_multiplies_15
      rw [show nI n + (1 : Int32) = nI (n + 1) from nI_1 n, pinn (by omega) (by decide), nI_c (n + 1) (by omega), if_neg (show ¬ tz_D (n + 1) ≤ nI (qz_D n + i) from nI_ge (by omega) (by omega)), pinn (by omega) (by decide), nI_c n (by omega)]
      exact e1.trans e
  obtain ⟨T', e, h⟩ := key (qz_N n) 1000 0 T (by omega) (by omega) (fun p hp => h0 p hp)
  refine ⟨T', ?_, h⟩
  unfold f_X10_multiplies
  rw [pinn ha (by decide), nI_c a (by omega), ea, pinn (by omega) (by decide), nI_c n (by omega)]
  exact e
