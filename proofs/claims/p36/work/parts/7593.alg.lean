/-! the law's checks, as sums -/
theorem sm_mulr (h : Nat → Int64) (k : Int64) : ∀ N, sm h N * k = sm (fun i => h i * k) N
  | 0 => Int64.zero_mul
  | N + 1 => by
    show (sm h N + h N) * k = sm (fun i => h i * k) N + h N * k
    rw [Int64.add_mul, sm_mulr h k N]
theorem sm_mull (h : Nat → Int64) (k : Int64) (N : Nat) : k * sm h N = sm (fun i => k * h i) N := by
  rw [Int64.mul_comm, sm_mulr]
  exact sm_congr N (fun i _ => Int64.mul_comm _ _)
theorem sm_swap (F : Nat → Nat → Int64) (M : Nat) : ∀ N, sm (fun i => sm (F i) M) N = sm (fun j => sm (fun i => F i j) N) M
  | 0 => (sm_0 M).symm
  | N + 1 => by
    show sm (fun i => sm (F i) M) N + sm (F N) M = sm (fun j => sm (fun i => F i j) N + F N j) M
    rw [sm_swap F M N, ← sm_add]
theorem sm_tail (h : Nat → Int64) (N : Nat) : ∀ d, (∀ i, N ≤ i → i < N + d → h i = 0) → sm h (N + d) = sm h N
  | 0, _ => rfl
  | d + 1, hz => by
    show sm h (N + d) + h (N + d) = sm h N
    rw [sm_tail h N d (fun i h1 h2 => hz i h1 (by omega)), hz (N + d) (by omega) (by omega), Int64.add_zero]
theorem sm_22 {h : Nat → Int64} {n : Nat} (hn : n < 9) (hz : ∀ i, qz_N n ≤ i → h i = 0) : sm h 22 = sm h (qz_N n) := by
  have hN := qN_le n hn
  have e := sm_tail h (qz_N n) (22 - qz_N n) (fun i h1 _ => hz i h1)
  rw [Nat.add_sub_cancel' hN] at e
  exact e
theorem z64 : (0 : Int32).toInt64 = 0 := by decide
theorem pu_in {n : Nat} {f g : Nat → Int32} (hn : n < 8) (hf : okF n f) : inS f g 22 = inS f g (qz_N n) := sm_22 (by omega) (fun i hi => by rw [hf.2.1 i hi, z64, Int64.zero_mul])
def sb (b : Nat → Nat) : Nat → Nat
  | 0 => 0
  | i + 1 => sb b i + b i
theorem sb_le (b : Nat → Nat) : ∀ N i, i < N → b i ≤ sb b N
  | 0, i, h => absurd h (Nat.not_lt_zero i)
  | N + 1, i, h => by
    show b i ≤ sb b N + b N
    by_cases c : i = N
    · rw [c]; omega
    · have := sb_le b N i (by omega); omega
theorem sm_bd {h : Nat → Int64} {b : Nat → Nat} : ∀ N, (∀ i, i < N → -(b i : Int) ≤ (h i).toInt ∧ (h i).toInt ≤ b i) → sb b N ≤ 1000000 → -(sb b N : Int) ≤ (sm h N).toInt ∧ (sm h N).toInt ≤ sb b N
  | 0, _, _ => by
    show -((0 : Nat) : Int) ≤ (0 : Int64).toInt ∧ (0 : Int64).toInt ≤ ((0 : Nat) : Int)
    decide
  | N + 1, hb, hs => by
    have hs' : sb b N + b N ≤ 1000000 := hs
    have h1 := sm_bd N (fun i hi => hb i (by omega)) (by omega)
    have h2 := hb N (by omega)
    show -((sb b N + b N : Nat) : Int) ≤ (sm h N + h N).toInt ∧ (sm h N + h N).toInt ≤ ((sb b N + b N : Nat) : Int)
    rw [Int64.toInt_add, bm64 (by omega) (by omega)]
    omega
theorem fg_bd : ∀ z, z < 41 → ∀ w, w < 41 → ∀ q, q < 10 → -((400 * q : Nat) : Int) ≤ ((nI z - 20).toInt64 * (nI w - 20).toInt64 * (nI q).toInt64).toInt ∧ ((nI z - 20).toInt64 * (nI w - 20).toInt64 * (nI q).toInt64).toInt ≤ ((400 * q : Nat) : Int) := by decide +kernel
theorem nu_sum : ∀ n, n < 8 → ∀ c, c < qz_N n → sb (fun i => sb (fun j => 400 * qnu n i j c) (qz_N n)) (qz_N n) ≤ 1000000 := by decide +kernel
theorem pu_fitT {n : Nat} {f g : Nat → Int32} (hn : n < 8) (hf : okF n f) (hg : okF n g) : ∀ c, c < qz_N n → -1000000 ≤ (tmL n f g c).toInt ∧ (tmL n f g c).toInt ≤ 1000000 := by
  intro c hc
  have ht := nu_sum n hn c hc
  have h := sm_bd (h := fun i => sm (fun j => (f i).toInt64 * (g j).toInt64 * (nuV n i j c).toInt64) (qz_N n)) (b := fun i => sb (fun j => 400 * qnu n i j c) (qz_N n)) (qz_N n) (fun i hi => by
    have hi2 := sb_le (fun i => sb (fun j => 400 * qnu n i j c) (qz_N n)) (qz_N n) i hi
    refine sm_bd (b := fun j => 400 * qnu n i j c) (qz_N n) (fun j hj => ?_) (by omega)
    obtain ⟨z, hz, e1⟩ := small_of (hf.1 i).1 (hf.1 i).2
    obtain ⟨w, hw, e2⟩ := small_of (hg.1 j).1 (hg.1 j).2
    rw [e1, e2, nu_val hn hi hj hc]
    exact fg_bd z hz w hw _ (qnu_sym n hn i hi j hj c hc).2) ht
  show -1000000 ≤ (sm (fun i => sm (fun j => (f i).toInt64 * (g j).toInt64 * (nuV n i j c).toInt64) (qz_N n)) (qz_N n)).toInt ∧ (sm (fun i => sm (fun j => (f i).toInt64 * (g j).toInt64 * (nuV n i j c).toInt64) (qz_N n)) (qz_N n)).toInt ≤ 1000000
  omega
theorem t6432 {x : Int64} (h : -1000000 ≤ x.toInt ∧ x.toInt ≤ 1000000) : x.toInt32.toInt64 = x := by
  refine Int64.toInt_inj.mp ?_
  rw [Int32.toInt_toInt64, Int64.toInt_toInt32, bm32 (by omega) (by omega)]
theorem pu_times {n : Nat} {f g : Nat → Int32} (hn : n < 8) (hf : okF n f) (hg : okF n g) {b : Nat} (hb : b < qz_N n) : vaS n (tmF n f g) b (qz_N n) = vaS n f b (qz_N n) * vaS n g b (qz_N n) := by
  have e1 : vaS n (tmF n f g) b (qz_N n) = sm (fun c => sm (fun i => sm (fun j => (f i).toInt64 * (g j).toInt64 * (nuV n i j c).toInt64 * (tc n c b).toInt64) (qz_N n)) (qz_N n)) (qz_N n) := by
    refine sm_congr _ (fun c hc => ?_)
    have e : (tmF n f g c).toInt64 = tmL n f g c := by
      unfold tmF
      rw [if_pos hc]
      exact t6432 (pu_fitT hn hf hg c hc)
    rw [e]
    unfold tmL
    rw [sm_mulr]
    exact sm_congr _ (fun i _ => sm_mulr _ _ _)
  have e2 : vaS n f b (qz_N n) * vaS n g b (qz_N n) = sm (fun i => sm (fun j => ((f i).toInt64 * (tc n i b).toInt64) * ((g j).toInt64 * (tc n j b).toInt64)) (qz_N n)) (qz_N n) := by
    unfold vaS
    rw [sm_mulr]
    exact sm_congr _ (fun i _ => sm_mull _ _ _)
  rw [e1, e2, sm_swap (fun c i => sm (fun j => (f i).toInt64 * (g j).toInt64 * (nuV n i j c).toInt64 * (tc n c b).toInt64) (qz_N n))]
  refine sm_congr _ (fun i hi => ?_)
  show sm (fun c => sm (fun j => (f i).toInt64 * (g j).toInt64 * (nuV n i j c).toInt64 * (tc n c b).toInt64) (qz_N n)) (qz_N n) = _
  rw [sm_swap (fun c j => (f i).toInt64 * (g j).toInt64 * (nuV n i j c).toInt64 * (tc n c b).toInt64)]
  refine sm_congr _ (fun j hj => ?_)
  show sm (fun c => (f i).toInt64 * (g j).toInt64 * (nuV n i j c).toInt64 * (tc n c b).toInt64) (qz_N n) = _
  have e3 : sm (fun c => (f i).toInt64 * (g j).toInt64 * (nuV n i j c).toInt64 * (tc n c b).toInt64) (qz_N n) = ((f i).toInt64 * (g j).toInt64) * sm (fun c => (nI (qnu n i j c)).toInt64 * (tc n c b).toInt64) (qz_N n) := by
    rw [sm_mull]
    refine sm_congr _ (fun c hc => ?_)
    rw [nu_val hn hi hj hc, Int64.mul_assoc]
  rw [e3, lp_prod n hn i hi j hj b hb]
  ac_rfl
theorem cor_lt (n q p : Nat) : cor n q p < 9 := by
  unfold cor
  have h := List.length_filter_le (fun c => decide (qz_H (8 * (qz_D n + q) + c) = 1) && decide (qz_F (8 * (qz_D n + q) + c) = qz_D (n - 1) + p)) (List.range 8)
  rw [List.length_range] at h
  omega
theorem db_bd : ∀ z, z < 41 → ∀ q, q < 9 → (-((400 : Nat) : Int) ≤ (((nI z - 20) + (nI z - 20)).toInt64 * (nI q).toInt64).toInt ∧ (((nI z - 20) + (nI z - 20)).toInt64 * (nI q).toInt64).toInt ≤ ((400 : Nat) : Int)) ∧ (-((400 : Nat) : Int) ≤ ((nI z - 20).toInt64 * (nI q).toInt64).toInt ∧ ((nI z - 20).toInt64 * (nI q).toInt64).toInt ≤ ((400 : Nat) : Int)) := by decide +kernel
theorem db_2 : ∀ z, z < 41 → ((nI z - 20) + (nI z - 20)).toInt64 = (2 : Int64) * (nI z - 20).toInt64 := by decide +kernel
theorem sb_400 : ∀ N, N ≤ 22 → sb (fun _ => 400) N ≤ 1000000 := by decide +kernel
theorem fit_of {h : Nat → Int64} {N : Nat} (hN : N ≤ 22) (hb : ∀ i, i < N → -((400 : Nat) : Int) ≤ (h i).toInt ∧ (h i).toInt ≤ ((400 : Nat) : Int)) : -1000000 ≤ (sm h N).toInt ∧ (sm h N).toInt ≤ 1000000 := by
  have h1 := sm_bd (b := fun _ => 400) N hb (sb_400 N hN)
  have h2 := sb_400 N hN
  omega
theorem pu_fitR {k : Nat} {f : Nat → Int32} (hn : k + 1 < 8) (hf : okF (k + 1) f) : ∀ c, c < qz_N k → -1000000 ≤ (sm (fun q => (dbF f q).toInt64 * (nI (cor (k + 1) q c)).toInt64) (qz_N (k + 1))).toInt ∧ (sm (fun q => (dbF f q).toInt64 * (nI (cor (k + 1) q c)).toInt64) (qz_N (k + 1))).toInt ≤ 1000000 := by
  intro c _
  refine fit_of (qN_le _ (by omega)) (fun i _ => ?_)
  obtain ⟨z, hz, e1⟩ := small_of (hf.1 i).1 (hf.1 i).2
  rw [show dbF f i = f i + f i from rfl, e1]
  exact (db_bd z hz _ (cor_lt _ _ _)).1
theorem pu_fitI {k : Nat} {f : Nat → Int32} (hn : k + 1 < 8) (hf : okF k f) : ∀ c, c < qz_N (k + 1) → -1000000 ≤ (sm (fun p => (f p).toInt64 * (nI (cor (k + 1) c p)).toInt64) (qz_N k)).toInt ∧ (sm (fun p => (f p).toInt64 * (nI (cor (k + 1) c p)).toInt64) (qz_N k)).toInt ≤ 1000000 := by
  intro c _
  refine fit_of (qN_le _ (by omega)) (fun i _ => ?_)
  obtain ⟨z, hz, e1⟩ := small_of (hf.1 i).1 (hf.1 i).2
  rw [e1]
  exact (db_bd z hz _ (cor_lt _ _ _)).2
theorem db_64 {f : Nat → Int32} {n : Nat} (hf : okF n f) (q : Nat) : (dbF f q).toInt64 = (2 : Int64) * (f q).toInt64 := by
  obtain ⟨z, hz, e1⟩ := small_of (hf.1 q).1 (hf.1 q).2
  rw [show dbF f q = f q + f q from rfl, e1]
  exact db_2 z hz
theorem re_64 {k : Nat} {f : Nat → Int32} (hn : k + 1 < 8) (hf : okF (k + 1) f) {p : Nat} (hp : p < qz_N k) : (reF (k + 1) (dbF f) p).toInt64 = sm (fun q => (dbF f q).toInt64 * (nI (cor (k + 1) q p)).toInt64) (qz_N (k + 1)) := by
  unfold reF
  rw [if_pos (show p < qz_N (k + 1 - 1) from hp)]
  exact t6432 (pu_fitR hn hf p hp)
theorem id_64 {k : Nat} {f : Nat → Int32} (hn : k + 1 < 8) (hf : okF k f) {q : Nat} (hq : q < qz_N (k + 1)) : (idF (k + 1) f q).toInt64 = sm (fun p => (f p).toInt64 * (nI (cor (k + 1) q p)).toInt64) (qz_N k) := by
  unfold idF
  rw [if_pos hq]
  exact t6432 (pu_fitI hn hf q hq)
theorem pu_restr {k : Nat} {f : Nat → Int32} (hn : k + 1 < 8) (hf : okF (k + 1) f) {b : Nat} (hb : b < qz_N k) : vaS k (reF (k + 1) (dbF f)) b (qz_N k) = brS k f b (qz_N (k + 1)) := by
  have e1 : vaS k (reF (k + 1) (dbF f)) b (qz_N k) = sm (fun p => sm (fun q => (dbF f q).toInt64 * (nI (cor (k + 1) q p)).toInt64 * (tc k p b).toInt64) (qz_N (k + 1))) (qz_N k) := by
    refine sm_congr _ (fun p hp => ?_)
    rw [re_64 hn hf hp, sm_mulr]
  rw [e1, sm_swap (fun p q => (dbF f q).toInt64 * (nI (cor (k + 1) q p)).toInt64 * (tc k p b).toInt64)]
  refine sm_congr _ (fun q hq => ?_)
  rw [← lp_branch k (by omega) q hq b hb, ← db_64 hf q, sm_mull]
  exact sm_congr _ (fun p _ => Int64.mul_assoc _ _ _)
theorem pu_frob {k : Nat} {f g : Nat → Int32} (hn : k + 1 < 8) (hf : okF (k + 1) f) (hg : okF k g) : inS (idF (k + 1) g) (dbF f) 22 = inS g (reF (k + 1) (dbF f)) 22 := by
  have a1 : inS (idF (k + 1) g) (dbF f) 22 = sm (fun q => sm (fun p => (g p).toInt64 * (nI (cor (k + 1) q p)).toInt64 * (dbF f q).toInt64) (qz_N k)) (qz_N (k + 1)) := by
    have e : inS (idF (k + 1) g) (dbF f) 22 = inS (idF (k + 1) g) (dbF f) (qz_N (k + 1)) := sm_22 (by omega) (fun i hi => by
      unfold idF
      rw [if_neg (by omega), z64, Int64.zero_mul])
    rw [e]
    refine sm_congr _ (fun q hq => ?_)
    rw [id_64 hn hg hq, sm_mulr]
  have a2 : inS g (reF (k + 1) (dbF f)) 22 = sm (fun p => sm (fun q => (g p).toInt64 * ((dbF f q).toInt64 * (nI (cor (k + 1) q p)).toInt64)) (qz_N (k + 1))) (qz_N k) := by
    have e : inS g (reF (k + 1) (dbF f)) 22 = inS g (reF (k + 1) (dbF f)) (qz_N k) := sm_22 (by omega) (fun i hi => by
      rw [hg.2.1 i hi, z64, Int64.zero_mul])
    rw [e]
    refine sm_congr _ (fun p hp => ?_)
    rw [re_64 hn hf hp, sm_mull]
  rw [a1, a2, sm_swap (fun q p => (g p).toInt64 * (nI (cor (k + 1) q p)).toInt64 * (dbF f q).toInt64)]
  refine sm_congr _ (fun p _ => sm_congr _ (fun q _ => ?_))
  show (g p).toInt64 * (nI (cor (k + 1) q p)).toInt64 * (dbF f q).toInt64 = (g p).toInt64 * ((dbF f q).toInt64 * (nI (cor (k + 1) q p)).toInt64)
  ac_rfl
theorem sm_perm {τ : Nat → Nat} {N : Nat} (h : ∀ p, p < N → τ p < N ∧ τ (τ p) = p) (F : Nat → Int64) : sm (fun p => F (τ p)) N = sm F N := by
  have e1 : sm (fun p => F (τ p)) N = sm (fun p => sm (fun q => if τ p = q then F q else 0) N) N := sm_congr _ (fun p hp => (sm_ind F (τ p) N (h p hp).1).symm)
  rw [e1, sm_swap (fun p q => if τ p = q then F q else 0)]
  refine sm_congr _ (fun q hq => ?_)
  have e2 : sm (fun p => if τ p = q then F q else 0) N = sm (fun p => if τ q = p then F q else 0) N := sm_congr _ (fun p hp => by
    by_cases c : τ p = q
    · rw [if_pos c, if_pos (by rw [← c]; exact (h p hp).2)]
    · rw [if_neg c, if_neg (fun e => c (by rw [← e]; exact (h q hq).2))])
  show sm (fun p => if τ p = q then F q else 0) N = F q
  rw [e2]
  exact sm_ind (fun _ => F q) (τ q) N (h q hq).1
theorem pu_turn {n : Nat} {f : Nat → Int32} (hn : n < 8) (hf : okF n f) {b : Nat} (hb : b < qz_N n) : vaS n (tuF n (dbF f)) b (qz_N n) = (2 : Int64) * vaS n f b (qz_N n) * (sgn (qz_D n + b)).toInt64 := by
  have e1 : vaS n (tuF n (dbF f)) b (qz_N n) = sm (fun p => (fun q => (2 : Int64) * ((f q).toInt64 * (tc n q b).toInt64) * (sgn (qz_D n + b)).toInt64) (tuP n p)) (qz_N n) := by
    refine sm_congr _ (fun p hp => ?_)
    show (tuF n (dbF f) p).toInt64 * (tc n p b).toInt64 = (2 : Int64) * ((f (tuP n p)).toInt64 * (tc n (tuP n p) b).toInt64) * (sgn (qz_D n + b)).toInt64
    unfold tuF
    rw [if_pos hp, db_64 hf, lp_sgn n hn b hb p hp]
    ac_rfl
  rw [e1, sm_perm (fun p hp => tu_lt n hn p hp) (fun q => (2 : Int64) * ((f q).toInt64 * (tc n q b).toInt64) * (sgn (qz_D n + b)).toInt64)]
  unfold vaS
  rw [sm_mull, sm_mulr]
theorem tmN_upd (g : Nat → Int32) (q : Nat) (x : Int32) : ∀ N, tmN (upd g q x) N ≤ tmN g N + (if q < N then 1 else 0)
  | 0 => Nat.zero_le _
  | N + 1 => by
    have ih := tmN_upd g q x N
    show (if upd g q x N = 0 then tmN (upd g q x) N else tmN (upd g q x) N + 1) ≤ (if g N = 0 then tmN g N else tmN g N + 1) + (if q < N + 1 then 1 else 0)
    by_cases c : N = q
    · rw [if_pos (show q < N + 1 by omega)]
      rw [if_neg (show ¬ q < N by omega)] at ih
      have a1 : (if upd g q x N = 0 then tmN (upd g q x) N else tmN (upd g q x) N + 1) ≤ tmN (upd g q x) N + 1 := by split <;> omega
      have a2 : tmN g N ≤ (if g N = 0 then tmN g N else tmN g N + 1) := by split <;> omega
      omega
    · have e : upd g q x N = g N := by unfold upd; rw [if_neg c]
      rw [e]
      have e2 : (if q < N + 1 then 1 else 0) = (if q < N then 1 else (0 : Nat)) := by
        by_cases d : q < N
        · rw [if_pos d, if_pos (by omega)]
        · rw [if_neg d, if_neg (by omega)]
      rw [e2]
      by_cases d : g N = 0
      · rw [if_pos d, if_pos d]; exact ih
      · rw [if_neg d, if_neg d]; omega
theorem tmN_z : ∀ N, tmN (fun _ => (0 : Int32)) N = 0
  | 0 => rfl
  | N + 1 => by
    show (if (0 : Int32) = 0 then tmN (fun _ => (0 : Int32)) N else tmN (fun _ => (0 : Int32)) N + 1) = 0
    rw [if_pos rfl, tmN_z N]
theorem z41 : ∀ z, z < 41 → -20 ≤ (nI z - 20).toInt ∧ (nI z - 20).toInt ≤ 20 := by decide +kernel
theorem ok_dra (L at_ n : Nat) (xs : Nat → Int32) (hn : n < 8) : okF n (dra L xs at_ (qz_N n) 4) := by
  have hN1 := qN_pos n (by omega)
  have key : ∀ i, (∀ p, -20 ≤ (dra L xs at_ (qz_N n) i p).toInt ∧ (dra L xs at_ (qz_N n) i p).toInt ≤ 20) ∧ (∀ p, qz_N n ≤ p → dra L xs at_ (qz_N n) i p = 0) ∧ tmN (dra L xs at_ (qz_N n) i) (qz_N n) ≤ i := by
    intro i
    induction i with
    | zero => exact ⟨fun p => by show -20 ≤ (0 : Int32).toInt ∧ (0 : Int32).toInt ≤ 20; decide, fun p _ => rfl, by show tmN (fun _ => (0 : Int32)) (qz_N n) ≤ 0; rw [tmN_z]; exact Nat.le_refl _⟩
    | succ i ih =>
      obtain ⟨h1, h2, h3⟩ := ih
      have hq : hlf (cel L xs (at_ + i)) / 256 % qz_N n < qz_N n := Nat.mod_lt _ hN1
      have e : dra L xs at_ (qz_N n) (i + 1) = upd (dra L xs at_ (qz_N n) i) (hlf (cel L xs (at_ + i)) / 256 % qz_N n) (nI (hlf (cel L xs (at_ + i)) % 41) - 20) := rfl
      rw [e]
      refine ⟨fun p => ?_, fun p hp => ?_, ?_⟩
      · unfold upd
        by_cases c : p = hlf (cel L xs (at_ + i)) / 256 % qz_N n
        · rw [if_pos c]; exact z41 _ (Nat.mod_lt _ (by decide))
        · rw [if_neg c]; exact h1 p
      · unfold upd
        rw [if_neg (by omega)]
        exact h2 p hp
      · have := tmN_upd (dra L xs at_ (qz_N n) i) (hlf (cel L xs (at_ + i)) / 256 % qz_N n) (nI (hlf (cel L xs (at_ + i)) % 41) - 20) (qz_N n)
        rw [if_pos hq] at this
        omega
  exact key 4
