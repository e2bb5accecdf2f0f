/-! changed: the model's side -/
theorem qcell_mem {s k j : Nat} (h : j < qcnt s k) : qcell s k j ∈ qcells s k := by
  have h' : j < (qcells s k).length := h
  unfold qcell
  rw [List.getD_eq_getElem?_getD, List.getElem?_eq_getElem h']
  exact List.getElem_mem h'
theorem m_231R {m i s : Nat} (hm : m < 9) (hm1 : 1 ≤ m) (hi : i < qz_N m) (hs : s < 4) {sum coef ws wc rb : Nat → Int32} {un y5 : Int32} (es : sum s = nI m) (K : (Nat → Int32) → (Nat → Int32) → Int32 → (Nat → Int32) → (Nat → Int32) → (Nat → Int32) → (Nat → Int32) → Int32 → Int32 → (Nat → Int64) → Int32 → Int32 → Int32 → Int32 → Int32 → Option (Int32 × (Nat → Int32) × (Nat → Int32) × Int32 × (Nat → Int32) × (Nat → Int32) × (Nat → Int32) × (Nat → Int32) × Int32 × Int32 × (Nat → Int64))) (X : Nat → Int64) : ∀ (d f j : Nat) (t : Nat → Int32) (l h : Int32), j + d = qcnt (qz_D m + i) 1 → d < f → ∃ t' l' h', f_X10_changed_231 K tz_D tz_S tz_L tz_R f sum coef un ws wc rb t l h (fs (tgR m i) (vlR coef s i) ((qcells (qz_D m + i) 1).take j) X) (nI s) 1 (nI (m - 1)) y5 (nI (qz_D m + i)) (nI (qcnt (qz_D m + i) 1)) (nI j) = K sum coef un ws wc rb t' l' h' (fs (tgR m i) (vlR coef s i) (qcells (qz_D m + i) 1) X) (nI s) 1 (nI (m - 1)) y5 (nI (qz_D m + (i + 1))) := by
  obtain ⟨hD, hD2⟩ := shD m hm i hi
  have hc := qcnt_le _ hD 1 (by decide)
  intro d
  induction d with
  | zero =>
    intro f j t l h hj hf
    obtain ⟨f, rfl⟩ : ∃ z, f = z + 1 := ⟨f - 1, by omega⟩
    obtain rfl : j = qcnt (qz_D m + i) 1 := by omega
    refine ⟨t, l, h, ?_⟩
    show gf_X10_changed_231 (f_X10_changed_231 K tz_D tz_S tz_L tz_R f) K tz_D tz_S tz_L tz_R sum coef un ws wc rb t l h _ _ _ _ _ _ _ _ = _
    unfold gf_X10_changed_231
    rw [if_pos (Int32.le_refl _), show (qcells (qz_D m + i) 1).take (qcnt (qz_D m + i) 1) = qcells (qz_D m + i) 1 from List.take_length, show nI (qz_D m + i) + (1 : Int32) = nI (qz_D m + (i + 1)) from nI_1 _]
  | succ d ih =>
    intro f j t l h hj hf
    obtain ⟨f, rfl⟩ : ∃ z, f = z + 1 := ⟨f - 1, by omega⟩
    obtain ⟨t1, e1⟩ := m_rimOf_one _ hD 1 (by decide) (by decide) j (by omega) t l h
    obtain ⟨t', l', h', e⟩ := ih f (j + 1) t1 (tz_F (8 * (qz_D m + i) + qcell (qz_D m + i) 1 j)) (tz_E (8 * (qz_D m + i) + qcell (qz_D m + i) 1 j)) (by omega) (by omega)
    refine ⟨t', l', h', ?_⟩
    obtain ⟨l1, l2, l3, l4⟩ := lp_ok hm hi (qcell_mem (show j < qcnt (qz_D m + i) 1 by omega))
    have hN1 := qN_le (m - 1) (by omega)
    rw [fs_take (show j < (qcells (qz_D m + i) 1).length from by show j < qcnt (qz_D m + i) 1; omega)] at e
    show gf_X10_changed_231 (f_X10_changed_231 K tz_D tz_S tz_L tz_R f) K tz_D tz_S tz_L tz_R sum coef un ws wc rb t l h _ _ _ _ _ _ _ _ = _
    unfold gf_X10_changed_231
    rw [if_neg (nI_ge (by omega) (by omega)), show f_X10_rimOf tz_L tz_R t l h (nI (qz_D m + i)) (1 : Int32) (nI j) = _ from e1, pb4, if_pos rfl, pinn (show m - 1 < 10 by omega) (by decide), nI_c (m - 1) (by omega), show tz_F (8 * (qz_D m + i) + qcell (qz_D m + i) 1 j) = nI (qz_D (m - 1) + lp m i (qcell (qz_D m + i) 1 j)) by unfold tz_F; rw [l3], show tz_D (m - 1) = nI (qz_D (m - 1)) from rfl, nI_sub2 (by omega), Nat.add_sub_cancel_left, pinn (by omega) (by decide), m_coefOf hm hi hs es, pb1, pinn (by omega) (by decide), nI_c _ (by omega), show nI j + (1 : Int32) = nI (j + 1) from nI_1 j]
    rw [show tz_F (8 * (qz_D m + i) + qcell (qz_D m + i) 1 j) = nI (qz_D (m - 1) + lp m i (qcell (qz_D m + i) 1 j)) by unfold tz_F; rw [l3]] at e
    exact e
theorem m_231I {m i s : Nat} (hm : m < 9) (hm1 : 1 ≤ m) (hi : i < qz_N m) (hs : s < 4) {sum coef ws wc rb : Nat → Int32} {un y5 : Int32} (es : sum s = nI (m - 1)) (K : (Nat → Int32) → (Nat → Int32) → Int32 → (Nat → Int32) → (Nat → Int32) → (Nat → Int32) → (Nat → Int32) → Int32 → Int32 → (Nat → Int64) → Int32 → Int32 → Int32 → Int32 → Int32 → Option (Int32 × (Nat → Int32) × (Nat → Int32) × Int32 × (Nat → Int32) × (Nat → Int32) × (Nat → Int32) × (Nat → Int32) × Int32 × Int32 × (Nat → Int64))) (X : Nat → Int64) : ∀ (d f j : Nat) (t : Nat → Int32) (l h : Int32), j + d = qcnt (qz_D m + i) 1 → d < f → ∃ t' l' h', f_X10_changed_231 K tz_D tz_S tz_L tz_R f sum coef un ws wc rb t l h (fs (tgI i) (vlI coef s m i) ((qcells (qz_D m + i) 1).take j) X) (nI s) 2 (nI m) y5 (nI (qz_D m + i)) (nI (qcnt (qz_D m + i) 1)) (nI j) = K sum coef un ws wc rb t' l' h' (fs (tgI i) (vlI coef s m i) (qcells (qz_D m + i) 1) X) (nI s) 2 (nI m) y5 (nI (qz_D m + (i + 1))) := by
  obtain ⟨hD, hD2⟩ := shD m hm i hi
  have hc := qcnt_le _ hD 1 (by decide)
  have hN := qN_le m hm
  intro d
  induction d with
  | zero =>
    intro f j t l h hj hf
    obtain ⟨f, rfl⟩ : ∃ z, f = z + 1 := ⟨f - 1, by omega⟩
    obtain rfl : j = qcnt (qz_D m + i) 1 := by omega
    refine ⟨t, l, h, ?_⟩
    show gf_X10_changed_231 (f_X10_changed_231 K tz_D tz_S tz_L tz_R f) K tz_D tz_S tz_L tz_R sum coef un ws wc rb t l h _ _ _ _ _ _ _ _ = _
    unfold gf_X10_changed_231
    rw [if_pos (Int32.le_refl _), show (qcells (qz_D m + i) 1).take (qcnt (qz_D m + i) 1) = qcells (qz_D m + i) 1 from List.take_length, show nI (qz_D m + i) + (1 : Int32) = nI (qz_D m + (i + 1)) from nI_1 _]
  | succ d ih =>
    intro f j t l h hj hf
    obtain ⟨f, rfl⟩ : ∃ z, f = z + 1 := ⟨f - 1, by omega⟩
    obtain ⟨t1, e1⟩ := m_rimOf_one _ hD 1 (by decide) (by decide) j (by omega) t l h
    obtain ⟨t', l', h', e⟩ := ih f (j + 1) t1 (tz_F (8 * (qz_D m + i) + qcell (qz_D m + i) 1 j)) (tz_E (8 * (qz_D m + i) + qcell (qz_D m + i) 1 j)) (by omega) (by omega)
    refine ⟨t', l', h', ?_⟩
    obtain ⟨l1, l2, l3, l4⟩ := lp_ok hm hi (qcell_mem (show j < qcnt (qz_D m + i) 1 by omega))
    have hN1 := qN_le (m - 1) (by omega)
    rw [fs_take (show j < (qcells (qz_D m + i) 1).length from by show j < qcnt (qz_D m + i) 1; omega)] at e
    show gf_X10_changed_231 (f_X10_changed_231 K tz_D tz_S tz_L tz_R f) K tz_D tz_S tz_L tz_R sum coef un ws wc rb t l h _ _ _ _ _ _ _ _ = _
    unfold gf_X10_changed_231
    rw [if_neg (nI_ge (by omega) (by omega)), show f_X10_rimOf tz_L tz_R t l h (nI (qz_D m + i)) (1 : Int32) (nI j) = _ from e1, pb4, if_neg (by decide), pinn (show m < 10 by omega) (by decide), nI_c m (by omega), show tz_F (8 * (qz_D m + i) + qcell (qz_D m + i) 1 j) = nI (qz_D (m - 1) + lp m i (qcell (qz_D m + i) 1 j)) by unfold tz_F; rw [l3], show tz_D m = nI (qz_D m) from rfl, nI_sub2 (by omega), Nat.add_sub_cancel_left, pinn (by omega) (by decide), m_coefOf (by omega) l4 hs es, pb1, pinn (by omega) (by decide), nI_c i (by omega), show nI j + (1 : Int32) = nI (j + 1) from nI_1 j]
    rw [show tz_F (8 * (qz_D m + i) + qcell (qz_D m + i) 1 j) = nI (qz_D (m - 1) + lp m i (qcell (qz_D m + i) 1 j)) by unfold tz_F; rw [l3]] at e
    exact e
theorem m_207R {m s : Nat} (hm : m < 9) (hm1 : 1 ≤ m) (hs : s < 4) {sum coef ws wc rb : Nat → Int32} {un : Int32} (es : sum s = nI m) (X : Nat → Int64) : ∀ (d f i : Nat) (t : Nat → Int32) (l h : Int32), i + d = qz_N m → d < f → ∃ t' l' h', f_X10_changed_207 tz_D tz_S tz_L tz_R f sum coef un ws wc rb t l h (fo (tgR m) (vlR coef s) m X i) (nI s) 1 (nI (m - 1)) (tz_D (m + 1)) (nI (qz_D m + i)) = f_X10_changed_323 tz_D tz_S tz_L tz_R sum coef un ws wc rb t' l' h' (fo (tgR m) (vlR coef s) m X (qz_N m)) (nI s) (nI (m - 1)) := by
  obtain ⟨hD, hD2⟩ := qD_step m hm
  intro d
  induction d with
  | zero =>
    intro f i t l h hi hf
    obtain ⟨f, rfl⟩ : ∃ z, f = z + 1 := ⟨f - 1, by omega⟩
    obtain rfl : i = qz_N m := by omega
    refine ⟨t, l, h, ?_⟩
    show gf_X10_changed_207 (f_X10_changed_207 tz_D tz_S tz_L tz_R f) tz_D tz_S tz_L tz_R sum coef un ws wc rb t l h _ _ _ _ _ _ = _
    unfold gf_X10_changed_207
    rw [if_pos (show tz_D (m + 1) ≤ nI (qz_D m + qz_N m) from nI_le (by omega) (by omega))]
  | succ d ih =>
    intro f i t l h hi hf
    obtain ⟨f, rfl⟩ : ∃ z, f = z + 1 := ⟨f - 1, by omega⟩
    obtain ⟨hd, hd2⟩ := shD m hm i (by omega)
    have hc := qcnt_le _ hd 1 (by decide)
    obtain ⟨t1, l1, h1, e1⟩ := m_rimOf_all _ hd 1 (by decide) (by decide) t l h
    obtain ⟨t2, l2, h2, e2⟩ := m_231R (ws := ws) (wc := wc) (rb := rb) (un := un) (y5 := tz_D (m + 1)) (coef := coef) hm hm1 (show i < qz_N m by omega) hs es (f_X10_changed_207 tz_D tz_S tz_L tz_R f) (fo (tgR m) (vlR coef s) m X i) (qcnt (qz_D m + i) 1) 1000 0 t1 l1 h1 (by omega) (by omega)
    obtain ⟨t3, l3, h3, e3⟩ := ih f (i + 1) t2 l2 h2 (by omega) (by omega)
    refine ⟨t3, l3, h3, ?_⟩
    show gf_X10_changed_207 (f_X10_changed_207 tz_D tz_S tz_L tz_R f) tz_D tz_S tz_L tz_R sum coef un ws wc rb t l h _ _ _ _ _ _ = _
    unfold gf_X10_changed_207
    rw [if_neg (show ¬ tz_D (m + 1) ≤ nI (qz_D m + i) from nI_ge (by omega) (by omega)), if_neg (by decide), show f_X10_rimOf tz_L tz_R t l h (nI (qz_D m + i)) (1 : Int32) (-1 : Int32) = _ from e1, pb4]
    exact e2.trans e3
theorem m_207I {m s : Nat} (hm : m < 9) (hm1 : 1 ≤ m) (hs : s < 4) {sum coef ws wc rb : Nat → Int32} {un : Int32} (es : sum s = nI (m - 1)) (X : Nat → Int64) : ∀ (d f i : Nat) (t : Nat → Int32) (l h : Int32), i + d = qz_N m → d < f → ∃ t' l' h', f_X10_changed_207 tz_D tz_S tz_L tz_R f sum coef un ws wc rb t l h (fo tgI (vlI coef s m) m X i) (nI s) 2 (nI m) (tz_D (m + 1)) (nI (qz_D m + i)) = f_X10_changed_323 tz_D tz_S tz_L tz_R sum coef un ws wc rb t' l' h' (fo tgI (vlI coef s m) m X (qz_N m)) (nI s) (nI m) := by
  obtain ⟨hD, hD2⟩ := qD_step m hm
  intro d
  induction d with
  | zero =>
    intro f i t l h hi hf
    obtain ⟨f, rfl⟩ : ∃ z, f = z + 1 := ⟨f - 1, by omega⟩
    obtain rfl : i = qz_N m := by omega
    refine ⟨t, l, h, ?_⟩
    show gf_X10_changed_207 (f_X10_changed_207 tz_D tz_S tz_L tz_R f) tz_D tz_S tz_L tz_R sum coef un ws wc rb t l h _ _ _ _ _ _ = _
    unfold gf_X10_changed_207
    rw [if_pos (show tz_D (m + 1) ≤ nI (qz_D m + qz_N m) from nI_le (by omega) (by omega))]
  | succ d ih =>
    intro f i t l h hi hf
    obtain ⟨f, rfl⟩ : ∃ z, f = z + 1 := ⟨f - 1, by omega⟩
    obtain ⟨hd, hd2⟩ := shD m hm i (by omega)
    have hc := qcnt_le _ hd 1 (by decide)
    obtain ⟨t1, l1, h1, e1⟩ := m_rimOf_all _ hd 1 (by decide) (by decide) t l h
    obtain ⟨t2, l2, h2, e2⟩ := m_231I (ws := ws) (wc := wc) (rb := rb) (un := un) (y5 := tz_D (m + 1)) (coef := coef) hm hm1 (show i < qz_N m by omega) hs es (f_X10_changed_207 tz_D tz_S tz_L tz_R f) (fo tgI (vlI coef s m) m X i) (qcnt (qz_D m + i) 1) 1000 0 t1 l1 h1 (by omega) (by omega)
    obtain ⟨t3, l3, h3, e3⟩ := ih f (i + 1) t2 l2 h2 (by omega) (by omega)
    refine ⟨t3, l3, h3, ?_⟩
    show gf_X10_changed_207 (f_X10_changed_207 tz_D tz_S tz_L tz_R f) tz_D tz_S tz_L tz_R sum coef un ws wc rb t l h _ _ _ _ _ _ = _
    unfold gf_X10_changed_207
    rw [if_neg (show ¬ tz_D (m + 1) ≤ nI (qz_D m + i) from nI_ge (by omega) (by omega)), if_neg (by decide), show f_X10_rimOf tz_L tz_R t l h (nI (qz_D m + i)) (1 : Int32) (-1 : Int32) = _ from e1, pb4]
    exact e2.trans e3
theorem m_157_0 {n s : Nat} (hn : n < 9) {sum coef ws wc rb : Nat → Int32} {un : Int32} {t : Nat → Int32} {l h : Int32} {th : Nat → Int64} : f_X10_changed_157 tz_D tz_S tz_L tz_R sum coef un ws wc rb t l h th (nI s) 0 (nI n) = f_X10_changed_323 tz_D tz_S tz_L tz_R sum coef un ws wc rb t l h th (nI s) (nI n) := by
  unfold f_X10_changed_157 f_X10_changed_176 f_X10_changed_198
  rw [if_neg (by decide), pinn (show n < 10 by omega) (by decide), if_neg (by decide), show nI n + (1 : Int32) = nI (n + 1) from nI_1 n, pinn (show n + 1 < 10 by omega) (by decide)]
  show gf_X10_changed_207 (f_X10_changed_207 tz_D tz_S tz_L tz_R 999) tz_D tz_S tz_L tz_R sum coef un ws wc rb t l h _ _ _ _ _ _ = _
  unfold gf_X10_changed_207
  by_cases c : tz_D (nI (n + 1)).toNatClampNeg ≤ tz_D (nI n).toNatClampNeg
  · rw [if_pos c]
  · rw [if_neg c, if_pos (by decide)]
theorem m_about {n s : Nat} (hn : n < 9) (hs : s < 4) {sum coef ws wc rb : Nat → Int32} {un : Int32} (es : sum s = nI n) : ∀ (d f i : Nat) (t : Nat → Int32) (l h : Int32) (X : Nat → Int64), i + d = qz_N n → d < f → (∀ p, p < 22 → X p = ab (cl coef s) n i p) → ∃ t' X', f_X10_changed_108 tz_D tz_S tz_L tz_R f sum coef un ws wc rb t l h X (nI s) 0 (nI n) (nI (qz_D n + i)) = f_X10_changed_323 tz_D tz_S tz_L tz_R sum coef un ws wc rb t' l h X' (nI s) (nI n) ∧ ∀ p, p < 22 → X' p = ab (cl coef s) n (qz_N n) p := by
  obtain ⟨hD, hD2⟩ := qD_step n hn
  have hN := qN_le n hn
  intro d
  induction d with
  | zero =>
    intro f i t l h X hi hf hX
    obtain ⟨f, rfl⟩ : ∃ z, f = z + 1 := ⟨f - 1, by omega⟩
    obtain rfl : i = qz_N n := by omega
    refine ⟨t, X, ?_, hX⟩
    show gf_X10_changed_108 (f_X10_changed_108 tz_D tz_S tz_L tz_R f) tz_D tz_S tz_L tz_R sum coef un ws wc rb t l h X _ _ _ _ = _
    unfold gf_X10_changed_108
    rw [show nI n + (1 : Int32) = nI (n + 1) from nI_1 n, pinn (by omega) (by decide), nI_c (n + 1) (by omega), if_pos (show tz_D (n + 1) ≤ nI (qz_D n + qz_N n) from nI_le (by omega) (by omega)), m_157_0 hn]
  | succ d ih =>
    intro f i t l h X hi hf hX
    obtain ⟨f, rfl⟩ : ∃ z, f = z + 1 := ⟨f - 1, by omega⟩
    obtain ⟨t1, t2, t3⟩ := tp_all n hn i (by omega)
    obtain ⟨hd, hd2⟩ := shD n hn i (by omega)
    obtain ⟨tr', e1⟩ := m_turnedOf _ hd t
    obtain ⟨t', X', e, hh⟩ := ih f (i + 1) tr' l h (vp_updL X (tp n i) (cl coef s i)) (by omega) (by omega) (fun p hp => by
      obtain ⟨s1, s2⟩ := ab_step (A := cl coef s) hn (show i < qz_N n by omega) p hp
      unfold vp_updL
      by_cases c : p = tp n i
      · rw [if_pos c, (s1 c).2]
      · rw [if_neg c, hX p hp, s2 c])
    refine ⟨t', X', ?_, hh⟩
    show gf_X10_changed_108 (f_X10_changed_108 tz_D tz_S tz_L tz_R f) tz_D tz_S tz_L tz_R sum coef un ws wc rb t l h X _ _ _ _ = _
    unfold gf_X10_changed_108
    rw [show nI n + (1 : Int32) = nI (n + 1) from nI_1 n, pinn (by omega) (by decide), nI_c (n + 1) (by omega), if_neg (show ¬ tz_D (n + 1) ≤ nI (qz_D n + i) from nI_ge (by omega) (by omega)), if_pos rfl, e1, pb2, pinn (show n < 10 by omega) (by decide), nI_c n (by omega), m_coefOf hn (by omega) hs es, pb1, show tz_turn (qz_D n + i) = nI (qz_D n + tp n i) by unfold tz_turn; rw [t1], show tz_D n = nI (qz_D n) from rfl, nI_sub2 (by omega), Nat.add_sub_cancel_left, pinn (by omega) (by decide), nI_c (tp n i) (by omega), show nI (qz_D n + i) + (1 : Int32) = nI (qz_D n + (i + 1)) from nI_1 _]
    exact e
theorem m_108R {m s : Nat} (hm : m < 9) (hm1 : 1 ≤ m) (hs : s < 4) {sum coef ws wc rb : Nat → Int32} {un : Int32} (es : sum s = nI m) (t : Nat → Int32) (l h : Int32) (X : Nat → Int64) : ∃ t' l' h', f_X10_changed_108 tz_D tz_S tz_L tz_R 1000 sum coef un ws wc rb t l h X (nI s) 1 (nI (m - 1)) (tz_D (m - 1)) = f_X10_changed_323 tz_D tz_S tz_L tz_R sum coef un ws wc rb t' l' h' (fo (tgR m) (vlR coef s) m X (qz_N m)) (nI s) (nI (m - 1)) := by
  have hN := qN_le m hm
  obtain ⟨t', l', h', e⟩ := m_207R (ws := ws) (wc := wc) (rb := rb) (un := un) (coef := coef) hm hm1 hs es X (qz_N m) 1000 0 t l h (by omega) (by omega)
  have e157 : f_X10_changed_157 tz_D tz_S tz_L tz_R sum coef un ws wc rb t l h X (nI s) 1 (nI (m - 1)) = f_X10_changed_323 tz_D tz_S tz_L tz_R sum coef un ws wc rb t' l' h' (fo (tgR m) (vlR coef s) m X (qz_N m)) (nI s) (nI (m - 1)) := by
    unfold f_X10_changed_157 f_X10_changed_176 f_X10_changed_198
    rw [if_pos rfl, pinn hs (by decide), nI_c s (by omega), es, pinn (show m < 10 by omega) (by decide), if_pos rfl, pinn hs (by decide), show nI m + (1 : Int32) = nI (m + 1) from nI_1 m, pinn (show m + 1 < 10 by omega) (by decide), nI_c (m + 1) (by omega), nI_c m (by omega)]
    exact e
  refine ⟨t', l', h', ?_⟩
  show gf_X10_changed_108 (f_X10_changed_108 tz_D tz_S tz_L tz_R 999) tz_D tz_S tz_L tz_R sum coef un ws wc rb t l h X _ _ _ _ = _
  unfold gf_X10_changed_108
  rw [show nI (m - 1) + (1 : Int32) = nI (m - 1 + 1) from nI_1 _, pinn (by omega) (by decide)]
  by_cases c : tz_D (nI (m - 1 + 1)).toNatClampNeg ≤ tz_D (m - 1)
  · rw [if_pos c]; exact e157
  · rw [if_neg c, if_neg (by decide)]; exact e157
theorem m_108I {m s : Nat} (hm : m < 9) (hm1 : 1 ≤ m) (hs : s < 4) {sum coef ws wc rb : Nat → Int32} {un : Int32} (es : sum s = nI (m - 1)) (t : Nat → Int32) (l h : Int32) (X : Nat → Int64) : ∃ t' l' h', f_X10_changed_108 tz_D tz_S tz_L tz_R 1000 sum coef un ws wc rb t l h X (nI s) 2 (nI m) (tz_D m) = f_X10_changed_323 tz_D tz_S tz_L tz_R sum coef un ws wc rb t' l' h' (fo tgI (vlI coef s m) m X (qz_N m)) (nI s) (nI m) := by
  have hN := qN_le m hm
  obtain ⟨t', l', h', e⟩ := m_207I (ws := ws) (wc := wc) (rb := rb) (un := un) (coef := coef) hm hm1 hs es X (qz_N m) 1000 0 t l h (by omega) (by omega)
  have e157 : f_X10_changed_157 tz_D tz_S tz_L tz_R sum coef un ws wc rb t l h X (nI s) 2 (nI m) = f_X10_changed_323 tz_D tz_S tz_L tz_R sum coef un ws wc rb t' l' h' (fo tgI (vlI coef s m) m X (qz_N m)) (nI s) (nI m) := by
    unfold f_X10_changed_157 f_X10_changed_176 f_X10_changed_198
    rw [if_neg (by decide), pinn (show m < 10 by omega) (by decide), if_neg (by decide), show nI m + (1 : Int32) = nI (m + 1) from nI_1 m, pinn (show m + 1 < 10 by omega) (by decide), nI_c (m + 1) (by omega), nI_c m (by omega)]
    exact e
  refine ⟨t', l', h', ?_⟩
  show gf_X10_changed_108 (f_X10_changed_108 tz_D tz_S tz_L tz_R 999) tz_D tz_S tz_L tz_R sum coef un ws wc rb t l h X _ _ _ _ = _
  unfold gf_X10_changed_108
  rw [show nI m + (1 : Int32) = nI (m + 1) from nI_1 m, pinn (by omega) (by decide)]
  by_cases c : tz_D (nI (m + 1)).toNatClampNeg ≤ tz_D m
  · rw [if_pos c]; exact e157
  · rw [if_neg c, if_neg (by decide)]; exact e157
theorem in08 : ∀ k, k < 9 → f_X10_in (nI k) 0 8 = some 1 := by decide +kernel
theorem fo_agree {tg : Nat → Nat → Nat} {vl vl' : Nat → Nat → Int64} {m : Nat} {X Y : Nat → Int64} (h : ∀ p, p < 22 → X p = Y p) : ∀ N, (∀ i, i < N → ∀ q, q ∈ qcells (qz_D m + i) 1 → tg i q < 22 ∧ vl i q = vl' i q) → ∀ p, p < 22 → fo tg vl m X N p = fo tg vl' m Y N p
  | 0, _ => h
  | N + 1, hN => fs_agree _ _ _ (fo_agree h N (fun i hi => hN i (by omega))) (hN N (by omega))
theorem fo_zero {tg : Nat → Nat → Nat} {vl : Nat → Nat → Int64} {m z : Nat} {X : Nat → Int64} (h : ∀ p, z ≤ p → p < 22 → X p = 0) : ∀ N, (∀ i, i < N → ∀ q, q ∈ qcells (qz_D m + i) 1 → tg i q < z) → ∀ p, z ≤ p → p < 22 → fo tg vl m X N p = 0
  | 0, _ => h
  | N + 1, hN => fs_zero _ _ (fo_zero h N (fun i hi => hN i (by omega))) (hN N (by omega))
set_option maxRecDepth 10000 in
theorem eq_changed : EQ_changed Rl0 := by
  intro v9_refusals v7_rows v7_lengths v7_sizes v7_rests v7_orders v6_hooks v6_lefts v6_heights v1_table v5_known v8_sizes v8_coefficients v8_undoneSums v8_undos v8_nextUndo v8_imageTaken v0_totals v3_letters v3_count v3_next v3_size v4_values v4_lengths v10_firstOf v10_sizeOf v10_longOf v10_row v10_character v10_sum v10_coefficient v10_undone v10_wasSum v10_wasCoefficient v10_hasImage v10_letter v10_letters v10_list v10_cell v10_refusals v10_tried v10_left v10_high v10_then v10_at v10_readSize hR x1 x2
  obtain ⟨hc, hm, hrf, hkn, hle, hli, hsu⟩ := hR
  have hc1 := hc
  have hm1 := hm
  obtain ⟨rfl, rfl, rfl, rfl, rfl, rfl, rfl, rfl, rfl⟩ := hc1
  obtain ⟨rfl, rfl, rfl, rfl, rfl⟩ := hm1
  obtain ⟨r1, r1', d1, d1', hrf1⟩ := rf_1 hrf (-1) (by decide)
  obtain ⟨r2, r2', d2, d2', hrf2⟩ := rf_1 hrf (-2) (by decide)
  obtain ⟨r3, r3', d3, d3', hrf3⟩ := rf_1 hrf (-3) (by decide)
  obtain ⟨r6, r6', d6, d6', hrf6⟩ := rf_1 hrf (-6) (by decide)
  rcases (six x1).symm with ⟨h1, h1'⟩ | ⟨s, hs, rfl, h1, h1'⟩
  · exact ⟨_, _, _, _, _, _, _, _, _, _, _, _, _, _, _, _, _, _, by unfold f_X9_changed; rw [h1, pb1, if_pos rfl, d1, pb2], by unfold f_X10_changed; rw [h1', pb1, if_pos rfl, d1', pb2], Rl0_mk hc hm hrf1 hkn hle hli hsu⟩
  rcases (in02 x2).symm with ⟨h4, h4'⟩ | ⟨w, hw, rfl, h4'⟩
  · exact ⟨_, _, _, _, _, _, _, _, _, _, _, _, _, _, _, _, _, _, by
      unfold f_X9_changed f_X9_changed_26
      rw [h1, pb1, if_neg i10, d2, pb2]
      by_cases c : x2 < 0
      · rw [if_pos c]
      · rw [if_neg c, if_neg (h4.resolve_left c)], by unfold f_X10_changed; rw [h1', pb1, if_neg i10, h4', pb1, if_pos rfl, d2', pb2], Rl0_mk hc hm hrf2 hkn hle hli hsu⟩
  have c4 : ¬ nI w < 0 := nI_pos (by omega)
  have c4' : nI w ≤ (2 : Int32) := nI_le (a := w) (b := 2) (by omega) (by decide)
  rcases Rs1_n (hsu.1 s hs) with ⟨ea, ea'⟩ | ⟨n, hn, ea, ea', qa, za, ba⟩
  · exact ⟨_, _, _, _, _, _, _, _, _, _, _, _, _, _, _, _, _, _, by unfold f_X9_changed; rw [h1, pb1, if_neg i10, if_neg c4, if_pos c4', k_miss81 hs ea, pb1, if_neg i10], by unfold f_X10_changed; rw [h1', pb1, if_neg i10, h4', pb1, if_neg i10, pinn hs (by decide), nI_c s (by omega), ea', if_neg (by decide)], Rl0_mk hc hm hrf hkn hle hli hsu⟩
  have hN := qN_le n hn
  obtain ⟨t0, et0, ht0⟩ := m_thenNone v10_then
  have hw3 : w = 0 ∨ w = 1 ∨ w = 2 := by omega
  rcases hw3 with rfl | rfl | rfl
  · obtain ⟨X', e1, hX'⟩ := k_about (coefs := v8_coefficients) hn hs ea v0_totals
    obtain ⟨tr', T', e2, hT'⟩ := m_about (coef := v10_coefficient) (ws := v10_wasSum) (wc := v10_wasCoefficient) (rb := v10_refusals) (un := v10_undone) hn hs ea' (qz_N n) 1000 0 v10_tried v10_left v10_high t0 (by omega) (by omega) (fun p hp => by unfold ab; rw [if_neg (by omega)]; exact ht0 p hp)
    have eK : f_X9_changed v9_refusals tz_R tz_S tz_H tz_F v8_sizes v8_coefficients v8_undoneSums v8_undos v8_nextUndo v0_totals (nI s) (nI 0) = p_b4 (p_b3 (f_X0_draftsTotals v8_sizes v8_coefficients X' (nI n)) (fun r z c => some (r, z, c, X'))) (fun r_16 v8_sizes_17 v8_coefficients_18 v0_totals_19 => (f_X9_changed_148 tz_R tz_S tz_H tz_F) v9_refusals v8_sizes_17 v8_coefficients_18 v8_undoneSums v8_undos v8_nextUndo v0_totals_19 (nI s) r_16) := by
      unfold f_X9_changed f_X9_changed_66 f_X9_changed_84
      rw [h1, pb1, if_neg i10, if_neg c4, if_pos c4', k_miss80 hs hn ea, pb1, if_pos rfl, k_size8 hs, pb1, if_neg (show ¬ nI 0 = (1 : Int32) by decide), if_neg (show ¬ nI 0 = (2 : Int32) by decide), if_pos (show nI 0 = (0 : Int32) from rfl), e1]
    have eM : f_X10_changed tz_D tz_S tz_L tz_R v10_sum v10_coefficient v10_undone v10_wasSum v10_wasCoefficient v10_refusals v10_tried v10_left v10_high v10_then (nI s) (nI 0) = p_b7 (f_X10_becomes tz_D v10_sum v10_coefficient v10_undone v10_wasSum v10_wasCoefficient v10_refusals T' (nI s) (nI n)) (fun a b c d e f g => some (a, b, c, d, e, f, g, tr', v10_left, v10_high, T')) := by
      unfold f_X10_changed f_X10_changed_78
      rw [h1', pb1, if_neg i10, h4', pb1, if_neg i10, pinn hs (by decide), nI_c s (by omega), ea', if_pos (nI_pos' (by omega)), if_pos (show nI 0 = (0 : Int32) from rfl), pinn hs (by decide), in08 n hn, pb1, if_neg i10, et0, pb1, pinn (show n < 10 by omega) (by decide), nI_c n (by omega)]
      exact e2
    have hXT : ∀ p, p < 22 → X' p = T' p := fun p hp => by
      rw [hX' p hp, hT' p hp]
      unfold ab
      by_cases c : p < qz_N n ∧ tp n p < qz_N n
      · rw [if_pos c, if_pos c]; exact qa _ (by omega)
      · rw [if_neg c, if_neg c]
    have h0 : ∀ p, qz_N n ≤ p → p < 22 → T' p = 0 := fun p hp1 hp => by rw [hT' p hp]; unfold ab; rw [if_neg (by omega)]
    rcases both_keep hsu hs hn hXT h0 with ⟨sz, cf, v, sizes', coefs', us', undos', nx', sum', coef', un', ws', wc', g1, g2, g3, g4⟩ | ⟨sz, cf, g1, g2, g3⟩
    · exact ⟨_, _, _, _, _, _, _, _, _, _, _, _, _, _, _, _, _, _, by rw [eK, g1, pb3, pb4]; unfold f_X9_changed_148; rw [if_neg i10, g2, pb6], by rw [eM, g3, pb7], Rl0_mk hc hm hrf hkn hle hli g4⟩
    · exact ⟨_, _, _, _, _, _, _, _, _, _, _, _, _, _, _, _, _, _, by rw [eK, g1, pb3, pb4]; unfold f_X9_changed_148; rw [if_pos rfl, d6, pb2], by rw [eM, g3, d6', pb2, pb7], Rl0_mk hc hm hrf6 hkn hle hli g2⟩
  · by_cases c0 : n = 0
    · subst c0
      exact ⟨_, _, _, _, _, _, _, _, _, _, _, _, _, _, _, _, _, _, by unfold f_X9_changed f_X9_changed_77; rw [h1, pb1, if_neg i10, if_neg c4, if_pos c4', k_miss80 hs hn ea, pb1, if_pos rfl, k_size8 hs, pb1, if_pos (show nI 1 = (1 : Int32) from rfl), ea, if_pos (by decide), d3, pb2], by unfold f_X10_changed f_X10_changed_78; rw [h1', pb1, if_neg i10, h4', pb1, if_neg i10, pinn hs (by decide), nI_c s (by omega), ea', if_pos (by decide), if_neg (by decide), if_pos (show nI 1 = (1 : Int32) from rfl), pinn hs (by decide), show f_X10_in (nI 0 - (1 : Int32)) 0 8 = some 0 by decide +kernel, pb1, if_pos rfl, d3', pb2], Rl0_mk hc hm hrf3 hkn hle hli hsu⟩
    have hn1 : 1 ≤ n := by omega
    obtain ⟨X0, X', e1, hX0, hX'⟩ := k_restr (coefs := v8_coefficients) hn hn1 hs ea v0_totals
    obtain ⟨tr', l', h', e2⟩ := m_108R (coef := v10_coefficient) (ws := v10_wasSum) (wc := v10_wasCoefficient) (rb := v10_refusals) (un := v10_undone) hn hn1 hs ea' v10_tried v10_left v10_high t0
    have eK : f_X9_changed v9_refusals tz_R tz_S tz_H tz_F v8_sizes v8_coefficients v8_undoneSums v8_undos v8_nextUndo v0_totals (nI s) (nI 1) = p_b4 (p_b3 (f_X0_draftsTotals v8_sizes v8_coefficients X' (nI (n - 1))) (fun r z c => some (r, z, c, X'))) (fun r_16 v8_sizes_17 v8_coefficients_18 v0_totals_19 => (f_X9_changed_148 tz_R tz_S tz_H tz_F) v9_refusals v8_sizes_17 v8_coefficients_18 v8_undoneSums v8_undos v8_nextUndo v0_totals_19 (nI s) r_16) := by
      unfold f_X9_changed f_X9_changed_66 f_X9_changed_84
      rw [h1, pb1, if_neg i10, if_neg c4, if_pos c4', k_miss80 hs hn ea, pb1, if_pos rfl, k_size8 hs, pb1, if_pos (show nI 1 = (1 : Int32) from rfl), ea, if_neg (show ¬ nI n < (1 : Int32) from nI_nlt (b := 1) (by omega) (by omega)), if_neg (show ¬ nI 1 = (2 : Int32) by decide), if_neg (show ¬ nI 1 = (0 : Int32) by decide), if_pos (show nI 1 = (1 : Int32) from rfl), e1]
    have eM : f_X10_changed tz_D tz_S tz_L tz_R v10_sum v10_coefficient v10_undone v10_wasSum v10_wasCoefficient v10_refusals v10_tried v10_left v10_high v10_then (nI s) (nI 1) = p_b7 (f_X10_becomes tz_D v10_sum v10_coefficient v10_undone v10_wasSum v10_wasCoefficient v10_refusals (fo (tgR n) (vlR v10_coefficient s) n t0 (qz_N n)) (nI s) (nI (n - 1))) (fun a b c d e f g => some (a, b, c, d, e, f, g, tr', l', h', fo (tgR n) (vlR v10_coefficient s) n t0 (qz_N n))) := by
      unfold f_X10_changed f_X10_changed_78
      rw [h1', pb1, if_neg i10, h4', pb1, if_neg i10, pinn hs (by decide), nI_c s (by omega), ea', if_pos (nI_pos' (by omega)), if_neg (show ¬ nI 1 = (0 : Int32) by decide), if_pos (show nI 1 = (1 : Int32) from rfl), pinn hs (by decide), show nI n - (1 : Int32) = nI (n - 1) from nI_sub2 (b := 1) hn1, in08 (n - 1) (by omega), pb1, if_neg i10, et0, pb1, pinn (show n - 1 < 10 by omega) (by decide), nI_c (n - 1) (by omega)]
      exact e2
    have hN1 := qN_le (n - 1) (by omega)
    have hXT : ∀ p, p < 22 → X' p = fo (tgR n) (vlR v10_coefficient s) n t0 (qz_N n) p := by
      rw [hX']
      refine fo_agree (fun p hp => by rw [hX0 p hp, ht0 p hp]) _ (fun i hi q hq => ?_)
      obtain ⟨a1, a2, a3, a4⟩ := lp_ok hn hi hq
      exact ⟨by unfold tgR; omega, qa i (by omega)⟩
    have h0 : ∀ p, qz_N (n - 1) ≤ p → p < 22 → fo (tgR n) (vlR v10_coefficient s) n t0 (qz_N n) p = 0 := fo_zero (fun p _ hp => ht0 p hp) _ (fun i hi q hq => (lp_ok hn hi hq).2.2.2)
    rcases both_keep hsu hs (show n - 1 < 9 by omega) hXT h0 with ⟨sz, cf, v, sizes', coefs', us', undos', nx', sum', coef', un', ws', wc', g1, g2, g3, g4⟩ | ⟨sz, cf, g1, g2, g3⟩
    · exact ⟨_, _, _, _, _, _, _, _, _, _, _, _, _, _, _, _, _, _, by rw [eK, g1, pb3, pb4]; unfold f_X9_changed_148; rw [if_neg i10, g2, pb6], by rw [eM, g3, pb7], Rl0_mk hc hm hrf hkn hle hli g4⟩
    · exact ⟨_, _, _, _, _, _, _, _, _, _, _, _, _, _, _, _, _, _, by rw [eK, g1, pb3, pb4]; unfold f_X9_changed_148; rw [if_pos rfl, d6, pb2], by rw [eM, g3, d6', pb2, pb7], Rl0_mk hc hm hrf6 hkn hle hli g2⟩
  · by_cases c0 : n = 8
    · subst c0
      exact ⟨_, _, _, _, _, _, _, _, _, _, _, _, _, _, _, _, _, _, by unfold f_X9_changed f_X9_changed_66 f_X9_changed_77; rw [h1, pb1, if_neg i10, if_neg c4, if_pos c4', k_miss80 hs hn ea, pb1, if_pos rfl, k_size8 hs, pb1, if_neg (show ¬ nI 2 = (1 : Int32) by decide), if_pos (show nI 2 = (2 : Int32) from rfl), ea, if_neg (by decide), d3, pb2], by unfold f_X10_changed f_X10_changed_78; rw [h1', pb1, if_neg i10, h4', pb1, if_neg i10, pinn hs (by decide), nI_c s (by omega), ea', if_pos (by decide), if_neg (by decide), if_neg (show ¬ nI 2 = (1 : Int32) by decide), pinn hs (by decide), show f_X10_in (nI 8 + (1 : Int32)) 0 8 = some 0 by decide +kernel, pb1, if_pos rfl, d3', pb2], Rl0_mk hc hm hrf3 hkn hle hli hsu⟩
    have hm9 : n + 1 < 9 := by omega
    obtain ⟨X0, X', e1, hX0, hX'⟩ := k_indu (m := n + 1) (coefs := v8_coefficients) hm9 (by omega) hs ea v0_totals
    obtain ⟨tr', l', h', e2⟩ := m_108I (m := n + 1) (coef := v10_coefficient) (ws := v10_wasSum) (wc := v10_wasCoefficient) (rb := v10_refusals) (un := v10_undone) hm9 (by omega) hs ea' v10_tried v10_left v10_high t0
    have eK : f_X9_changed v9_refusals tz_R tz_S tz_H tz_F v8_sizes v8_coefficients v8_undoneSums v8_undos v8_nextUndo v0_totals (nI s) (nI 2) = p_b4 (p_b3 (f_X0_draftsTotals v8_sizes v8_coefficients X' (nI (n + 1))) (fun r z c => some (r, z, c, X'))) (fun r_16 v8_sizes_17 v8_coefficients_18 v0_totals_19 => (f_X9_changed_148 tz_R tz_S tz_H tz_F) v9_refusals v8_sizes_17 v8_coefficients_18 v8_undoneSums v8_undos v8_nextUndo v0_totals_19 (nI s) r_16) := by
      unfold f_X9_changed f_X9_changed_66 f_X9_changed_84
      rw [h1, pb1, if_neg i10, if_neg c4, if_pos c4', k_miss80 hs hn ea, pb1, if_pos rfl, k_size8 hs, pb1, if_neg (show ¬ nI 2 = (1 : Int32) by decide), if_pos (show nI 2 = (2 : Int32) from rfl), ea, if_pos (show nI n < (8 : Int32) from nI_lt (b := 8) (by omega) (by decide)), if_neg (show ¬ nI 2 = (0 : Int32) by decide), if_neg (show ¬ nI 2 = (1 : Int32) by decide), e1]
    have eM : f_X10_changed tz_D tz_S tz_L tz_R v10_sum v10_coefficient v10_undone v10_wasSum v10_wasCoefficient v10_refusals v10_tried v10_left v10_high v10_then (nI s) (nI 2) = p_b7 (f_X10_becomes tz_D v10_sum v10_coefficient v10_undone v10_wasSum v10_wasCoefficient v10_refusals (fo tgI (vlI v10_coefficient s (n + 1)) (n + 1) t0 (qz_N (n + 1))) (nI s) (nI (n + 1))) (fun a b c d e f g => some (a, b, c, d, e, f, g, tr', l', h', fo tgI (vlI v10_coefficient s (n + 1)) (n + 1) t0 (qz_N (n + 1)))) := by
      unfold f_X10_changed f_X10_changed_78
      rw [h1', pb1, if_neg i10, h4', pb1, if_neg i10, pinn hs (by decide), nI_c s (by omega), ea', if_pos (nI_pos' (by omega)), if_neg (show ¬ nI 2 = (0 : Int32) by decide), if_neg (show ¬ nI 2 = (1 : Int32) by decide), pinn hs (by decide), show nI n + (1 : Int32) = nI (n + 1) from nI_1 n, in08 (n + 1) (by omega), pb1, if_neg i10, et0, pb1, pinn (show n + 1 < 10 by omega) (by decide), nI_c (n + 1) (by omega)]
      exact e2
    have hN1 := qN_le (n + 1) (by omega)
    have hXT : ∀ p, p < 22 → X' p = fo tgI (vlI v10_coefficient s (n + 1)) (n + 1) t0 (qz_N (n + 1)) p := by
      rw [hX']
      refine fo_agree (fun p hp => by rw [hX0 p hp, ht0 p hp]) _ (fun i hi q hq => ?_)
      obtain ⟨a1, a2, a3, a4⟩ := lp_ok hm9 hi hq
      rw [Nat.add_sub_cancel] at a4
      exact ⟨by unfold tgI; omega, qa _ (by omega)⟩
    have h0 : ∀ p, qz_N (n + 1) ≤ p → p < 22 → fo tgI (vlI v10_coefficient s (n + 1)) (n + 1) t0 (qz_N (n + 1)) p = 0 := fo_zero (fun p _ hp => ht0 p hp) _ (fun i hi q hq => hi)
    rcases both_keep hsu hs hm9 hXT h0 with ⟨sz, cf, v, sizes', coefs', us', undos', nx', sum', coef', un', ws', wc', g1, g2, g3, g4⟩ | ⟨sz, cf, g1, g2, g3⟩
    · exact ⟨_, _, _, _, _, _, _, _, _, _, _, _, _, _, _, _, _, _, by rw [eK, g1, pb3, pb4]; unfold f_X9_changed_148; rw [if_neg i10, g2, pb6], by rw [eM, g3, pb7], Rl0_mk hc hm hrf hkn hle hli g4⟩
    · exact ⟨_, _, _, _, _, _, _, _, _, _, _, _, _, _, _, _, _, _, by rw [eK, g1, pb3, pb4]; unfold f_X9_changed_148; rw [if_pos rfl, d6, pb2], by rw [eM, g3, d6', pb2, pb7], Rl0_mk hc hm hrf6 hkn hle hli g2⟩
