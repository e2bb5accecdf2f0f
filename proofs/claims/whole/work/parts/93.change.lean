/-! sums changed: turned about, restricted, induced -/
def st1 (tgt : Nat → Nat) (val : Nat → Int64) (X : Nat → Int64) (q : Nat) : Nat → Int64 := vp_updL X (tgt q) (X (tgt q) + val q)
def fs (tgt : Nat → Nat) (val : Nat → Int64) (l : List Nat) (X : Nat → Int64) : Nat → Int64 := l.foldl (st1 tgt val) X
theorem fs_range1 {tgt : Nat → Nat} {val : Nat → Int64} {P : Nat → Bool} {c : Nat} {X : Nat → Int64} (h : P c = true) : fs tgt val ((List.range (c + 1)).filter P) X = st1 tgt val (fs tgt val ((List.range c).filter P) X) c := by
  unfold fs
  rw [List.range_succ, List.filter_append, List.foldl_append]
  simp only [List.filter_cons, h, if_true, List.filter_nil, List.foldl_cons, List.foldl_nil]
theorem fs_range0 {tgt : Nat → Nat} {val : Nat → Int64} {P : Nat → Bool} {c : Nat} {X : Nat → Int64} (h : ¬ P c = true) : fs tgt val ((List.range (c + 1)).filter P) X = fs tgt val ((List.range c).filter P) X := by
  unfold fs
  rw [List.range_succ, List.filter_append, List.foldl_append]
  simp only [List.filter_cons, if_neg h, List.filter_nil, List.foldl_nil]
theorem fs_take {tgt : Nat → Nat} {val : Nat → Int64} {l : List Nat} {i : Nat} {X : Nat → Int64} (h : i < l.length) : fs tgt val (l.take (i + 1)) X = st1 tgt val (fs tgt val (l.take i) X) (l.getD i 0) := by
  unfold fs
  rw [List.take_succ, List.foldl_append, List.getElem?_eq_getElem h, List.getD_eq_getElem?_getD, List.getElem?_eq_getElem h]
  rfl
theorem fs_agree {tgt : Nat → Nat} {val val' : Nat → Int64} : ∀ (l : List Nat) (X Y : Nat → Int64), (∀ p, p < 22 → X p = Y p) → (∀ q, q ∈ l → tgt q < 22 ∧ val q = val' q) → ∀ p, p < 22 → fs tgt val l X p = fs tgt val' l Y p
  | [], X, Y, h, _ => h
  | q :: l, X, Y, h, hl => by
    obtain ⟨h1, h2⟩ := hl q (List.mem_cons_self ..)
    refine fs_agree l (st1 tgt val X q) (st1 tgt val' Y q) (fun p hp => ?_) (fun q hq => hl q (List.mem_cons_of_mem _ hq))
    unfold st1 vp_updL
    by_cases c : p = tgt q
    · rw [if_pos c, if_pos c, h _ h1, h2]
    · rw [if_neg c, if_neg c, h p hp]
theorem fs_zero {tgt : Nat → Nat} {val : Nat → Int64} {m : Nat} : ∀ (l : List Nat) (X : Nat → Int64), (∀ p, m ≤ p → p < 22 → X p = 0) → (∀ q, q ∈ l → tgt q < m) → ∀ p, m ≤ p → p < 22 → fs tgt val l X p = 0
  | [], X, h, _ => h
  | q :: l, X, h, hl => by
    have h1 := hl q (List.mem_cons_self ..)
    refine fs_zero l (st1 tgt val X q) (fun p hp1 hp => ?_) (fun q hq => hl q (List.mem_cons_of_mem _ hq))
    unfold st1 vp_updL
    rw [if_neg (by omega), h p hp1 hp]
def fo (tg : Nat → Nat → Nat) (vl : Nat → Nat → Int64) (m : Nat) (X : Nat → Int64) : Nat → (Nat → Int64)
  | 0 => X
  | i + 1 => fs (tg i) (vl i) (qcells (qz_D m + i) 1) (fo tg vl m X i)
/-- the place of what is left when a cell whose hook is 1 is taken off -/
def lp (m i q : Nat) : Nat := qz_F (8 * (qz_D m + i) + q) - qz_D (m - 1)
theorem lp_all : ∀ m, m < 9 → ∀ i, i < qz_N m → (qcells (qz_D m + i) 1).all (fun q => decide (1 ≤ m) && (decide (q < m) && (decide (qz_D (m - 1) ≤ qz_F (8 * (qz_D m + i) + q)) && decide (lp m i q < qz_N (m - 1))))) = true := by decide +kernel
theorem lp_ok {m i q : Nat} (hm : m < 9) (hi : i < qz_N m) (hq : q ∈ qcells (qz_D m + i) 1) : 1 ≤ m ∧ q < m ∧ qz_F (8 * (qz_D m + i) + q) = qz_D (m - 1) + lp m i q ∧ lp m i q < qz_N (m - 1) := by
  have h := List.all_eq_true.mp (lp_all m hm i hi) q hq
  simp only [Bool.and_eq_true, decide_eq_true_eq] at h
  obtain ⟨h1, h2, h3, h4⟩ := h
  refine ⟨h1, h2, ?_, h4⟩
  unfold lp
  omega
theorem qc_in {m i q : Nat} (h : q < qz_S (qz_D m + i)) (h2 : (qz_H (8 * (qz_D m + i) + q) == 1) = true) : q ∈ qcells (qz_D m + i) 1 := by
  unfold qcells
  exact List.mem_filter.mpr ⟨List.mem_range.mpr h, h2⟩
theorem k_hookBy8 : ∀ s, s < 67 → ∀ q, q < 8 → f_X6_hookBy tz_H (nI s) (nI q) = some (tz_H (8 * s + q)) := by decide +kernel
theorem tH_1 (k : Nat) : tz_H k = 1 ↔ (qz_H k == 1) = true := by
  unfold tz_H
  rw [beq_iff_eq]
  exact nI_eq (a := qz_H k) (b := 1) (by unfold qz_H; omega) (by decide)
theorem k_first7 : ∀ n, n < 9 → f_X7_firstOf (nI n) = some (nI (qz_D n)) := by decide +kernel
def tgR (m i q : Nat) : Nat := lp m i q
def vlR (coefs : Nat → Int32) (s i _q : Nat) : Int64 := cl coefs s i
def tgI (i _q : Nat) : Nat := i
def vlI (coefs : Nat → Int32) (s m i q : Nat) : Int64 := cl coefs s (lp m i q)
theorem k_restr {m s : Nat} (hm : m < 9) (hm1 : 1 ≤ m) (hs : s < 4) {sizes coefs : Nat → Int32} (es : sizes s = nI m) (T : Nat → Int64) : ∃ X0 X', f_X0_draftsRestricted tz_S tz_H tz_F sizes coefs T (nI s) = p_b3 (f_X0_draftsTotals sizes coefs X' (nI (m - 1))) (fun r z c => some (r, z, c, X')) ∧ (∀ p, p < 22 → X0 p = 0) ∧ X' = fo (tgR m) (vlR coefs s) m X0 (qz_N m) := by
  have hN := qN_le m hm
  have k42 : ∀ i, i < qz_N m → ∀ (K : (Nat → Int32) → (Nat → Int32) → (Nat → Int64) → Int32 → Int32 → Int32 → Option (Int32 × (Nat → Int32) × (Nat → Int32) × (Nat → Int64))) (X : Nat → Int64) (d f c : Nat), c + d = m → d < f → f_X0_draftsRestricted_42 K tz_S tz_H tz_F f sizes coefs (fs (tgR m i) (vlR coefs s i) ((List.range c).filter (fun q => qz_H (8 * (qz_D m + i) + q) == 1)) X) (nI s) (nI m) (nI i) (nI (qz_D m + i)) (nI c) = K sizes coefs (fs (tgR m i) (vlR coefs s i) (qcells (qz_D m + i) 1) X) (nI s) (nI m) (nI (i + 1)) := by
    intro i hi K X d
    obtain ⟨hD, hD2⟩ := shD m hm i hi
    induction d with
    | zero =>
      intro f c hc hf
      obtain ⟨f, rfl⟩ : ∃ z, f = z + 1 := ⟨f - 1, by omega⟩
      obtain rfl : c = m := by omega
      show gf_X0_draftsRestricted_42 (f_X0_draftsRestricted_42 K tz_S tz_H tz_F f) K tz_S tz_H tz_F sizes coefs _ _ _ _ _ _ = _
      unfold gf_X0_draftsRestricted_42
      rw [if_pos (Int32.le_refl _), show nI i + (1 : Int32) = nI (i + 1) from nI_1 i]
      unfold qcells
      rw [hD2]
    | succ d ih =>
      intro f c hc hf
      obtain ⟨f, rfl⟩ : ∃ z, f = z + 1 := ⟨f - 1, by omega⟩
      have e := ih f (c + 1) (by omega) (by omega)
      show gf_X0_draftsRestricted_42 (f_X0_draftsRestricted_42 K tz_S tz_H tz_F f) K tz_S tz_H tz_F sizes coefs _ _ _ _ _ _ = _
      unfold gf_X0_draftsRestricted_42
      rw [if_neg (nI_ge (by omega) (by omega)), k_hookBy8 _ hD c (by omega), pb1, show nI c + (1 : Int32) = nI (c + 1) from nI_1 c]
      by_cases h : tz_H (8 * (qz_D m + i) + c) = 1
      · have h2 := (tH_1 _).mp h
        obtain ⟨l1, l2, l3, l4⟩ := lp_ok hm hi (qc_in (by omega) h2)
        have hN1 := qN_le (m - 1) (by omega)
        rw [fs_range1 (P := fun q => qz_H (8 * (qz_D m + i) + q) == 1) h2] at e
        rw [if_pos h, k_leftBy _ hD c (by omega), pb1, show tz_F (8 * (qz_D m + i) + c) = nI (qz_D (m - 1) + lp m i c) by unfold tz_F; rw [l3], k_placeN (by omega) l4, pb1, k_at8 hs (by omega), pb1, k_add (by omega), pb1]
        exact e
      · rw [fs_range0 (P := fun q => qz_H (8 * (qz_D m + i) + q) == 1) (fun h2 => h ((tH_1 _).mpr h2))] at e
        rw [if_neg h]
        exact e
  have k15 : ∀ (d f i : Nat) (X0 : Nat → Int64), i + d = qz_N m → d < f → f_X0_draftsRestricted_15 tz_S tz_H tz_F f sizes coefs (fo (tgR m) (vlR coefs s) m X0 i) (nI s) (nI m) (nI i) = p_b3 (f_X0_draftsTotals sizes coefs (fo (tgR m) (vlR coefs s) m X0 (qz_N m)) (nI (m - 1))) (fun r z c => some (r, z, c, fo (tgR m) (vlR coefs s) m X0 (qz_N m))) := by
    intro d
    induction d with
    | zero =>
      intro f i X0 hi hf
      obtain ⟨f, rfl⟩ : ∃ z, f = z + 1 := ⟨f - 1, by omega⟩
      obtain rfl : i = qz_N m := by omega
      show gf_X0_draftsRestricted_15 (f_X0_draftsRestricted_15 tz_S tz_H tz_F f) tz_S tz_H tz_F sizes coefs _ _ _ _ = _
      unfold gf_X0_draftsRestricted_15
      rw [k_countOf m hm, pb1, if_pos (Int32.le_refl _), show nI m - (1 : Int32) = nI (m - 1) from nI_sub2 (b := 1) hm1]
    | succ d ih =>
      intro f i X0 hi hf
      obtain ⟨f, rfl⟩ : ∃ z, f = z + 1 := ⟨f - 1, by omega⟩
      show gf_X0_draftsRestricted_15 (f_X0_draftsRestricted_15 tz_S tz_H tz_F f) tz_S tz_H tz_F sizes coefs _ _ _ _ = _
      unfold gf_X0_draftsRestricted_15
      rw [k_countOf m hm, pb1, if_neg (nI_ge (by omega) (by omega)), k_first7 m hm, pb1, show nI (qz_D m) + nI i = nI (qz_D m + i) from nI_add _ _]
      exact (k42 i (by omega) (f_X0_draftsRestricted_15 tz_S tz_H tz_F f) (fo (tgR m) (vlR coefs s) m X0 i) m 1000 0 (by omega) (by omega)).trans (ih f (i + 1) X0 (by omega) (by omega))
  obtain ⟨X0, e0, h0⟩ := k_beg0 T
  refine ⟨X0, _, ?_, h0, rfl⟩
  unfold f_X0_draftsRestricted
  rw [k_size8 hs, pb1, e0, pb1, es]
  exact k15 (qz_N m) 1000 0 X0 (by omega) (by omega)
theorem k_indu {m s : Nat} (hm : m < 9) (hm1 : 1 ≤ m) (hs : s < 4) {sizes coefs : Nat → Int32} (es : sizes s = nI (m - 1)) (T : Nat → Int64) : ∃ X0 X', f_X0_draftsInduced tz_S tz_H tz_F sizes coefs T (nI s) = p_b3 (f_X0_draftsTotals sizes coefs X' (nI m)) (fun r z c => some (r, z, c, X')) ∧ (∀ p, p < 22 → X0 p = 0) ∧ X' = fo tgI (vlI coefs s m) m X0 (qz_N m) := by
  have hN := qN_le m hm
  have k42 : ∀ i, i < qz_N m → ∀ (K : (Nat → Int32) → (Nat → Int32) → (Nat → Int64) → Int32 → Int32 → Int32 → Option (Int32 × (Nat → Int32) × (Nat → Int32) × (Nat → Int64))) (X : Nat → Int64) (d f c : Nat), c + d = m → d < f → f_X0_draftsInduced_44 K tz_S tz_H tz_F f sizes coefs (fs (tgI i) (vlI coefs s m i) ((List.range c).filter (fun q => qz_H (8 * (qz_D m + i) + q) == 1)) X) (nI s) (nI m) (nI i) (nI (qz_D m + i)) (nI c) = K sizes coefs (fs (tgI i) (vlI coefs s m i) (qcells (qz_D m + i) 1) X) (nI s) (nI m) (nI (i + 1)) := by
    intro i hi K X d
    obtain ⟨hD, hD2⟩ := shD m hm i hi
    induction d with
    | zero =>
      intro f c hc hf
      obtain ⟨f, rfl⟩ : ∃ z, f = z + 1 := ⟨f - 1, by omega⟩
      obtain rfl : c = m := by omega
      show gf_X0_draftsInduced_44 (f_X0_draftsInduced_44 K tz_S tz_H tz_F f) K tz_S tz_H tz_F sizes coefs _ _ _ _ _ _ = _
      unfold gf_X0_draftsInduced_44
      rw [if_pos (Int32.le_refl _), show nI i + (1 : Int32) = nI (i + 1) from nI_1 i]
      unfold qcells
      rw [hD2]
    | succ d ih =>
      intro f c hc hf
      obtain ⟨f, rfl⟩ : ∃ z, f = z + 1 := ⟨f - 1, by omega⟩
      have e := ih f (c + 1) (by omega) (by omega)
      show gf_X0_draftsInduced_44 (f_X0_draftsInduced_44 K tz_S tz_H tz_F f) K tz_S tz_H tz_F sizes coefs _ _ _ _ _ _ = _
      unfold gf_X0_draftsInduced_44
      rw [if_neg (nI_ge (by omega) (by omega)), k_hookBy8 _ hD c (by omega), pb1, show nI c + (1 : Int32) = nI (c + 1) from nI_1 c]
      by_cases h : tz_H (8 * (qz_D m + i) + c) = 1
      · have h2 := (tH_1 _).mp h
        obtain ⟨l1, l2, l3, l4⟩ := lp_ok hm hi (qc_in (by omega) h2)
        have hN1 := qN_le (m - 1) (by omega)
        rw [fs_range1 (P := fun q => qz_H (8 * (qz_D m + i) + q) == 1) h2] at e
        rw [if_pos h, k_leftBy _ hD c (by omega), pb1, show tz_F (8 * (qz_D m + i) + c) = nI (qz_D (m - 1) + lp m i c) by unfold tz_F; rw [l3], k_placeN (by omega) l4, pb1, k_at8 hs (by omega), pb1, k_add (by omega), pb1]
        exact e
      · rw [fs_range0 (P := fun q => qz_H (8 * (qz_D m + i) + q) == 1) (fun h2 => h ((tH_1 _).mpr h2))] at e
        rw [if_neg h]
        exact e
  have k15 : ∀ (d f i : Nat) (X0 : Nat → Int64), i + d = qz_N m → d < f → f_X0_draftsInduced_17 tz_S tz_H tz_F f sizes coefs (fo tgI (vlI coefs s m) m X0 i) (nI s) (nI m) (nI i) = p_b3 (f_X0_draftsTotals sizes coefs (fo tgI (vlI coefs s m) m X0 (qz_N m)) (nI m)) (fun r z c => some (r, z, c, fo tgI (vlI coefs s m) m X0 (qz_N m))) := by
    intro d
    induction d with
    | zero =>
      intro f i X0 hi hf
      obtain ⟨f, rfl⟩ : ∃ z, f = z + 1 := ⟨f - 1, by omega⟩
      obtain rfl : i = qz_N m := by omega
      show gf_X0_draftsInduced_17 (f_X0_draftsInduced_17 tz_S tz_H tz_F f) tz_S tz_H tz_F sizes coefs _ _ _ _ = _
      unfold gf_X0_draftsInduced_17
      rw [k_countOf m hm, pb1, if_pos (Int32.le_refl _)]
    | succ d ih =>
      intro f i X0 hi hf
      obtain ⟨f, rfl⟩ : ∃ z, f = z + 1 := ⟨f - 1, by omega⟩
      show gf_X0_draftsInduced_17 (f_X0_draftsInduced_17 tz_S tz_H tz_F f) tz_S tz_H tz_F sizes coefs _ _ _ _ = _
      unfold gf_X0_draftsInduced_17
      rw [k_countOf m hm, pb1, if_neg (nI_ge (by omega) (by omega)), k_first7 m hm, pb1, show nI (qz_D m) + nI i = nI (qz_D m + i) from nI_add _ _]
      exact (k42 i (by omega) (f_X0_draftsInduced_17 tz_S tz_H tz_F f) (fo tgI (vlI coefs s m) m X0 i) m 1000 0 (by omega) (by omega)).trans (ih f (i + 1) X0 (by omega) (by omega))
  obtain ⟨X0, e0, h0⟩ := k_beg0 T
  refine ⟨X0, _, ?_, h0, rfl⟩
  unfold f_X0_draftsInduced
  rw [k_size8 hs, pb1, e0, pb1, es, show nI (m - 1) + (1 : Int32) = nI m by rw [show nI (m - 1) + (1 : Int32) = nI (m - 1 + 1) from nI_1 _, show m - 1 + 1 = m by omega]]
  exact k15 (qz_N m) 1000 0 X0 (by omega) (by omega)
/-- the place of the turned shape -/
def tp (n i : Nat) : Nat := qz_turn (qz_D n + i) - qz_D n
theorem tp_all : ∀ n, n < 9 → ∀ i, i < qz_N n → qz_turn (qz_D n + i) = qz_D n + tp n i ∧ tp n i < qz_N n ∧ tp n (tp n i) = i := by decide +kernel
def ab (A : Nat → Int64) (n i p : Nat) : Int64 := if p < qz_N n ∧ tp n p < i then A (tp n p) else 0
theorem ab_step {A : Nat → Int64} {n i : Nat} (hn : n < 9) (hi : i < qz_N n) (p : Nat) (_hp : p < 22) : (p = tp n i → ab A n i p = 0 ∧ ab A n (i + 1) p = A i) ∧ (¬ p = tp n i → ab A n (i + 1) p = ab A n i p) := by
  obtain ⟨t1, t2, t3⟩ := tp_all n hn i hi
  unfold ab
  refine ⟨fun h => ?_, fun h => ?_⟩
  · subst h
    rw [t3, if_neg (by omega), if_pos (by omega)]
    exact ⟨rfl, rfl⟩
  · by_cases c : p < qz_N n ∧ tp n p < i
    · rw [if_pos c, if_pos ⟨c.1, by omega⟩]
    · rw [if_neg c, if_neg]
      intro d
      have e : tp n p = i := by omega
      exact h (by rw [← e]; exact (tp_all n hn p d.1).2.2.symm)
theorem k_about {n s : Nat} (hn : n < 9) (hs : s < 4) {sizes coefs : Nat → Int32} (es : sizes s = nI n) (T : Nat → Int64) : ∃ X', f_X0_draftsAbout tz_R tz_S sizes coefs T (nI s) = p_b3 (f_X0_draftsTotals sizes coefs X' (nI n)) (fun r z c => some (r, z, c, X')) ∧ ∀ p, p < 22 → X' p = ab (cl coefs s) n (qz_N n) p := by
  have hN := qN_le n hn
  have key : ∀ (d f i : Nat) (X : Nat → Int64), i + d = qz_N n → d < f → (∀ p, p < 22 → X p = ab (cl coefs s) n i p) → ∃ X', f_X0_draftsAbout_15 tz_R tz_S f sizes coefs X (nI s) (nI n) (nI i) = p_b3 (f_X0_draftsTotals sizes coefs X' (nI n)) (fun r z c => some (r, z, c, X')) ∧ ∀ p, p < 22 → X' p = ab (cl coefs s) n (qz_N n) p := by
    intro d
    induction d with
    | zero =>
      intro f i X hi hf hX
      obtain ⟨f, rfl⟩ : ∃ z, f = z + 1 := ⟨f - 1, by omega⟩
      obtain rfl : i = qz_N n := by omega
      refine ⟨X, ?_, hX⟩
      show gf_X0_draftsAbout_15 (f_X0_draftsAbout_15 tz_R tz_S f) tz_R tz_S sizes coefs X _ _ _ = _
      unfold gf_X0_draftsAbout_15
      rw [k_countOf n hn, pb1, if_pos (Int32.le_refl _)]
    | succ d ih =>
      intro f i X hi hf hX
      obtain ⟨f, rfl⟩ : ∃ z, f = z + 1 := ⟨f - 1, by omega⟩
      obtain ⟨t1, t2, t3⟩ := tp_all n hn i (by omega)
      obtain ⟨hD, hD2⟩ := shD n hn i (by omega)
      obtain ⟨X', e, h⟩ := ih f (i + 1) (vp_updL X (tp n i) (X (tp n i) + cl coefs s i)) (by omega) (by omega) (fun p hp => by
        obtain ⟨s1, s2⟩ := ab_step (A := cl coefs s) hn (show i < qz_N n by omega) p hp
        unfold vp_updL
        by_cases c : p = tp n i
        · rw [if_pos c, ← c, hX p hp, (s1 c).1, (s1 c).2, Int64.zero_add]
        · rw [if_neg c, hX p hp, s2 c])
      refine ⟨X', ?_, h⟩
      show gf_X0_draftsAbout_15 (f_X0_draftsAbout_15 tz_R tz_S f) tz_R tz_S sizes coefs X _ _ _ = _
      unfold gf_X0_draftsAbout_15
      rw [k_countOf n hn, pb1, if_neg (nI_ge (by omega) (by omega)), k_first7 n hn, pb1, show nI (qz_D n) + nI i = nI (qz_D n + i) from nI_add _ _, k_turnedOf _ hD, pb1, show tz_turn (qz_D n + i) = nI (qz_D n + tp n i) by unfold tz_turn; rw [t1], k_placeN hn t2, pb1, k_at8 hs (by omega), pb1, k_add (by omega), pb1, show nI i + (1 : Int32) = nI (i + 1) from nI_1 i]
      exact e
  obtain ⟨T0, e0, h0⟩ := k_beg0 T
  obtain ⟨X', e, h⟩ := key (qz_N n) 1000 0 T0 (by omega) (by omega) (fun p hp => by unfold ab; rw [if_neg (by omega)]; exact h0 p hp)
  refine ⟨X', ?_, h⟩
  unfold f_X0_draftsAbout
  rw [k_size8 hs, pb1, e0, pb1, es]
  exact e
