/-! the start: tables of the class, filled from the left -/
def cut (T : Nat → Int32) (n : Nat) : Nat → Int32 := fun j => if j < n then T j else 0
theorem cut0 (T : Nat → Int32) : cut T 0 = fun _ => 0 := by
  funext j
  unfold cut
  rw [if_neg (by omega)]
theorem cutS (T : Nat → Int32) (n : Nat) : upd (cut T n) n (T n) = cut T (n + 1) := by
  funext j
  unfold upd cut
  by_cases c : j = n
  · subst c; rw [if_pos rfl, if_pos (by omega)]
  · rw [if_neg c]
    by_cases d : j < n
    · rw [if_pos d, if_pos (by omega)]
    · rw [if_neg d, if_neg (by omega)]
theorem cut_skip {T : Nat → Int32} {n m : Nat} (h : n ≤ m) (hz : ∀ j, n ≤ j → j < m → T j = 0) : cut T n = cut T m := by
  funext j
  unfold cut
  by_cases c : j < n
  · rw [if_pos c, if_pos (by omega)]
  · rw [if_neg c]
    by_cases d : j < m
    · rw [if_pos d, hz j (by omega) d]
    · rw [if_neg d]
theorem cut_all {T : Nat → Int32} {N : Nat} (h : ∀ j, N ≤ j → T j = 0) : cut T N = T := by
  funext j
  unfold cut
  by_cases c : j < N
  · rw [if_pos c]
  · rw [if_neg c, h j (by omega)]
theorem sh0 {x w N j : Nat} (hx : x < 2 ^ (w * N)) (h : N ≤ j) : x >>> (w * j) = 0 := by
  rw [Nat.shiftRight_eq_div_pow]
  exact Nat.div_eq_of_lt (Nat.lt_of_lt_of_le hx (Nat.pow_le_pow_right (by decide) (Nat.mul_le_mul_left w h)))
theorem tR_out : ∀ j, 536 ≤ j → tz_R j = 0 := fun j h => by unfold tz_R qz_R; rw [sh0 (N := 536) (by decide +kernel) h]; rfl
theorem tL_out : ∀ j, 67 ≤ j → tz_L j = 0 := fun j h => by unfold tz_L qz_L; rw [sh0 (N := 67) (by decide +kernel) h]; rfl
theorem tS_out : ∀ j, 67 ≤ j → tz_S j = 0 := fun j h => by unfold tz_S qz_S; rw [sh0 (N := 67) (by decide +kernel) h]; rfl
theorem tT_out : ∀ j, 67 ≤ j → tz_T j = 0 := fun j h => by unfold tz_T qz_T; rw [sh0 (N := 67) (by decide +kernel) h]; rfl
theorem tO_out : ∀ j, 67 ≤ j → tz_O j = 0 := fun j h => by unfold tz_O qz_O; rw [sh0 (N := 67) (by decide +kernel) h]; rfl
theorem tH_out : ∀ j, 536 ≤ j → tz_H j = 0 := fun j h => by unfold tz_H qz_H; rw [sh0 (N := 536) (by decide +kernel) h]; rfl
theorem tF_out : ∀ j, 536 ≤ j → tz_F j = 0 := fun j h => by unfold tz_F qz_F; rw [sh0 (N := 536) (by decide +kernel) h]; rfl
theorem tE_out : ∀ j, 536 ≤ j → tz_E j = 0 := fun j h => by unfold tz_E qz_E; rw [sh0 (N := 536) (by decide +kernel) h]; rfl
theorem tR_row : ∀ s, s < 67 → ∀ k, k < 8 → (qz_L s ≤ k → tz_R (8 * s + k) = 0) ∧ (k < qz_L s → 1 ≤ qz_R (8 * s + k)) := by decide +kernel
/-- the cells of the rows ahead -/
def rsum (s : Nat) : Nat → Nat
  | 0 => 0
  | k + 1 => rsum s k + qz_R (8 * s + k)
theorem rsum_all : ∀ s, s < 67 → rsum s (qz_L s) = qz_S s ∧ ∀ k, k < 9 → rsum s k ≤ 8 := by decide +kernel
theorem dgt : ∀ s, s < 67 → ∀ d, d < 8 → ((xi_KEYS s >>> ((nI d * (4 : Int32)) &&& 31)) &&& 15) = nI (if d < qz_L s then qz_R (8 * s + (qz_L s - 1 - d)) else 0) := by decide +kernel
def yv : Nat → Int32
  | 0 => -1
  | d + 1 => nI d
theorem yv_pred : ∀ d, nI d + (-1) = yv d
  | 0 => by decide
  | d + 1 => nIpred
theorem k_readRows {s : Nat} (hs : s < 67) : f_X7_readRows (cut tz_R (8 * s)) (cut tz_L s) (cut tz_S s) (nI s) = some (cut tz_R (8 * (s + 1)), cut tz_L (s + 1), cut tz_S (s + 1)) := by
  obtain ⟨l1, l2, l3⟩ := la_le s hs
  obtain ⟨r1, r2⟩ := rsum_all s hs
  have key : ∀ (d f : Nat), d ≤ 8 → d < f → f_X7_readRows_14 f (cut tz_R (8 * s + (qz_L s - d))) (cut tz_L s) (cut tz_S s) (nI s) (nI (s * 8)) (nI (qz_L s - d)) (nI (rsum s (qz_L s - d))) (yv d) = some (cut tz_R (8 * (s + 1)), cut tz_L (s + 1), cut tz_S (s + 1)) := by
    intro d
    induction d with
    | zero =>
      intro f hd hf
      obtain ⟨f, rfl⟩ : ∃ z, f = z + 1 := ⟨f - 1, by omega⟩
      show gf_X7_readRows_14 (f_X7_readRows_14 f) _ (cut tz_L s) (cut tz_S s) (nI s) (nI (s * 8)) _ _ _ = _
      unfold gf_X7_readRows_14
      rw [if_pos (show yv 0 < 0 by decide), pinn hs (by decide), pinn hs (by decide), nI_c s (by omega), Nat.sub_zero, r1, show nI (qz_L s) = tz_L s from rfl, show nI (qz_S s) = tz_S s from rfl, cutS, cutS, cut_skip (T := tz_R) (n := 8 * s + qz_L s) (m := 8 * (s + 1)) (by omega) (fun j h1 h2 => by
        obtain ⟨k, rfl⟩ : ∃ k, j = 8 * s + k := ⟨j - 8 * s, by omega⟩
        exact (tR_row s hs k (by omega)).1 (by omega))]
    | succ d ih =>
      intro f hd hf
      obtain ⟨f, rfl⟩ : ∃ z, f = z + 1 := ⟨f - 1, by omega⟩
      have e := ih f (by omega) (by omega)
      show gf_X7_readRows_14 (f_X7_readRows_14 f) _ (cut tz_L s) (cut tz_S s) (nI s) (nI (s * 8)) _ _ (nI d) = _
      unfold gf_X7_readRows_14
      rw [if_neg (nI_pos (by omega)), pinn hs (by decide), nI_c s (by omega), dgt s hs d (by omega), yv_pred]
      by_cases c : d < qz_L s
      · have h1 := (tR_row s hs (qz_L s - 1 - d) (by omega)).2 (by omega)
        have h16 := qR_16 (8 * s + (qz_L s - 1 - d))
        have el : qz_L s - (d + 1) = qz_L s - 1 - d := by omega
        have el2 : qz_L s - d = qz_L s - 1 - d + 1 := by omega
        rw [el2] at e
        rw [el, if_pos c, if_neg (nI_nle h1 (by omega)), if_neg (show ¬ (8 : Int32) ≤ nI (qz_L s - 1 - d) from nI_ge (b := 8) (by omega) (by decide)), nI_add, pinn (by omega) (by decide), nI_c _ (by omega), show s * 8 + (qz_L s - 1 - d) = 8 * s + (qz_L s - 1 - d) by omega, show nI (qz_R (8 * s + (qz_L s - 1 - d))) = tz_R (8 * s + (qz_L s - 1 - d)) from rfl, cutS, show nI (qz_L s - 1 - d) + (1 : Int32) = nI (qz_L s - 1 - d + 1) from nI_1 _, show nI (rsum s (qz_L s - 1 - d)) + tz_R (8 * s + (qz_L s - 1 - d)) = nI (rsum s (qz_L s - 1 - d + 1)) from nI_add _ _]
        exact e
      · rw [if_neg c, if_pos (by decide), show qz_L s - (d + 1) = qz_L s - d by omega]
        exact e
  have e := key 8 1000 (Nat.le_refl _) (by omega)
  rw [show qz_L s - 8 = 0 by omega] at e
  unfold f_X7_readRows
  rw [show nI s * (8 : Int32) = nI (s * 8) from nI_mul2 s 8]
  exact e
def kr (s : Nat) : Int32 := (f_X7_keyWithRows tz_R tz_L 0 (nI s) 1).getD 7
theorem k_rest : ∀ s, s < 67 → f_X7_keyWithRows tz_R tz_L 0 (nI s) 1 = some (kr s) ∧ f_X7_find (nI (qz_S s) - tz_R (8 * s + 0)) (kr s) = some (tz_T s) ∧ f_X7_countOrders tz_R tz_L tz_S (nI s) = some (tz_O s) := by decide +kernel
theorem k_init7 : f_X7_init = some (tz_R, tz_L, tz_S, tz_T, tz_O) := by
  have k66 : ∀ (d f s : Nat), s + d = 67 → d < f → f_X7_init_66 f tz_R tz_L tz_S (cut tz_T s) (cut tz_O s) (nI s) = some (tz_R, tz_L, tz_S, tz_T, tz_O) := by
    intro d
    induction d with
    | zero =>
      intro f s hs hf
      obtain ⟨f, rfl⟩ : ∃ z, f = z + 1 := ⟨f - 1, by omega⟩
      obtain rfl : s = 67 := by omega
      show gf_X7_init_66 (f_X7_init_66 f) tz_R tz_L tz_S _ _ (nI 67) = _
      unfold gf_X7_init_66
      rw [if_pos (by decide), cut_all tT_out, cut_all tO_out]
    | succ d ih =>
      intro f s hs hf
      obtain ⟨f, rfl⟩ : ∃ z, f = z + 1 := ⟨f - 1, by omega⟩
      have hs2 : s < 67 := by omega
      obtain ⟨e1, e2, e3⟩ := k_rest s hs2
      show gf_X7_init_66 (f_X7_init_66 f) tz_R tz_L tz_S _ _ (nI s) = _
      unfold gf_X7_init_66
      rw [if_neg (show ¬ (67 : Int32) ≤ nI s from nI_ge (b := 67) hs2 (by decide)), k_sizeN s hs2, pb1, show f_X7_row tz_R (nI s) (0 : Int32) = some (tz_R (8 * s + 0)) from k_row s hs2 0 (by decide), pb1, show f_X7_keyWithRows tz_R tz_L (0 : Int32) (nI s) (1 : Int32) = some (kr s) from e1, pb1, e2, pb1, pinn hs2 (by decide), e3, pb1, pinn hs2 (by decide), nI_c s (by omega), cutS, cutS, show nI s + (1 : Int32) = nI (s + 1) from nI_1 s]
      exact ih f (s + 1) (by omega) (by omega)
  have k47 : ∀ (d f s : Nat), s + d = 67 → d < f → f_X7_init_47 f (cut tz_R (8 * s)) (cut tz_L s) (cut tz_S s) (fun _ => 0) (fun _ => 0) (nI s) = some (tz_R, tz_L, tz_S, tz_T, tz_O) := by
    intro d
    induction d with
    | zero =>
      intro f s hs hf
      obtain ⟨f, rfl⟩ : ∃ z, f = z + 1 := ⟨f - 1, by omega⟩
      obtain rfl : s = 67 := by omega
      show gf_X7_init_47 (f_X7_init_47 f) _ _ _ _ _ (nI 67) = _
      unfold gf_X7_init_47
      have e := k66 67 1000 0 (by omega) (by omega)
      rw [cut0, cut0] at e
      rw [if_pos (by decide), show 8 * 67 = 536 from rfl, cut_all tR_out, cut_all tL_out, cut_all tS_out]
      exact e
    | succ d ih =>
      intro f s hs hf
      obtain ⟨f, rfl⟩ : ∃ z, f = z + 1 := ⟨f - 1, by omega⟩
      show gf_X7_init_47 (f_X7_init_47 f) _ _ _ _ _ (nI s) = _
      unfold gf_X7_init_47
      rw [if_neg (show ¬ (67 : Int32) ≤ nI s from nI_ge (b := 67) (by omega) (by decide)), k_readRows (by omega), pb3, show nI s + (1 : Int32) = nI (s + 1) from nI_1 s]
      exact ih f (s + 1) (by omega) (by omega)
  have e := k47 67 1000 0 (by omega) (by omega)
  rw [show 8 * 0 = 0 from rfl, cut0, cut0, cut0] at e
  exact e
def ccol (s c : Nat) : Int32 := (f_X7_column tz_R (nI s) (nI c)).getD 9
theorem note_1 : ∀ s, s < 67 → ∀ r, r < 8 → ∀ c, c < qz_R (8 * s + r) → f_X7_column tz_R (nI s) (nI c) = some (ccol s c) ∧ f_X7_hookAt tz_R (nI s) (nI r) (nI c) = some (tz_H (8 * s + (rsum s r + c))) := by decide +kernel
theorem note_2 : ∀ s, s < 67 → ∀ r, r < 8 → ∀ c, c < qz_R (8 * s + r) → f_X6_shapeLeft tz_R tz_L (nI s) (nI r) (ccol s c - 1) (nI c) = some (tz_F (8 * s + (rsum s r + c))) := by decide +kernel
theorem note_3 : ∀ s, s < 67 → ∀ r, r < 8 → ∀ c, c < qz_R (8 * s + r) → (ccol s c - 1) - nI r = tz_E (8 * s + (rsum s r + c)) ∧ rsum s r + c < qz_S s := by decide +kernel
theorem note_all (s : Nat) (hs : s < 67) (r : Nat) (hr : r < 8) (c : Nat) (hc : c < qz_R (8 * s + r)) : f_X7_column tz_R (nI s) (nI c) = some (ccol s c) ∧ f_X7_hookAt tz_R (nI s) (nI r) (nI c) = some (tz_H (8 * s + (rsum s r + c))) ∧ f_X6_shapeLeft tz_R tz_L (nI s) (nI r) (ccol s c - 1) (nI c) = some (tz_F (8 * s + (rsum s r + c))) ∧ (ccol s c - 1) - nI r = tz_E (8 * s + (rsum s r + c)) ∧ rsum s r + c < qz_S s := ⟨(note_1 s hs r hr c hc).1, (note_1 s hs r hr c hc).2, note_2 s hs r hr c hc, (note_3 s hs r hr c hc).1, (note_3 s hs r hr c hc).2⟩
theorem tHFE_0 : ∀ s, s < 67 → ∀ q, q < 8 → qz_S s ≤ q → tz_H (8 * s + q) = 0 ∧ tz_F (8 * s + q) = 0 ∧ tz_E (8 * s + q) = 0 := by decide +kernel
theorem k_lenL : ∀ s, s < 67 → f_X7_lengthOf tz_L (nI s) = some (nI (qz_L s)) := by decide +kernel
theorem k_note {s r c : Nat} (hs : s < 67) (hr : r < 8) (hc : c < qz_R (8 * s + r)) : f_X6_note tz_R tz_L (cut tz_H (8 * s + (rsum s r + c))) (cut tz_F (8 * s + (rsum s r + c))) (cut tz_E (8 * s + (rsum s r + c))) (nI s) (nI (rsum s r + c)) (nI r) (nI c) = some (cut tz_H (8 * s + (rsum s r + (c + 1))), cut tz_F (8 * s + (rsum s r + (c + 1))), cut tz_E (8 * s + (rsum s r + (c + 1)))) := by
  obtain ⟨e1, e2, e3, e4, e5⟩ := note_all s hs r hr c hc
  obtain ⟨l1, l2, l3⟩ := la_le s hs
  have h8 : rsum s r + c < 8 := by omega
  unfold f_X6_note f_X6_has
  rw [k_has s hs, pb1, if_neg i10, if_neg (nI_pos (by omega)), if_neg (show ¬ (8 : Int32) ≤ nI (rsum s r + c) from nI_ge (b := 8) h8 (by decide)), pb1, if_neg i10, e1, pb1, e2, pb1, show nI s * (8 : Int32) = nI (s * 8) from nI_mul2 s 8, nI_add, pinn (by omega) (by decide), pinn (by omega) (by decide), e3, pb1, pinn (by omega) (by decide), nI_c _ (by omega), e4, show s * 8 + (rsum s r + c) = 8 * s + (rsum s r + c) by omega, cutS, cutS, cutS]
  rfl
theorem k_init6 : f_X6_init tz_R tz_L = some (tz_H, tz_F, tz_E) := by
  have k62 : ∀ s, s < 67 → ∀ r, r < 8 → ∀ (K : (Nat → Int32) → (Nat → Int32) → (Nat → Int32) → Int32 → Int32 → Int32 → Option ((Nat → Int32) × (Nat → Int32) × (Nat → Int32))) (d f c : Nat), c + d = qz_R (8 * s + r) → d < f → f_X6_init_62 K tz_R tz_L f (cut tz_H (8 * s + (rsum s r + c))) (cut tz_F (8 * s + (rsum s r + c))) (cut tz_E (8 * s + (rsum s r + c))) (nI s) (nI (rsum s r + c)) (nI r) (nI c) = K (cut tz_H (8 * s + rsum s (r + 1))) (cut tz_F (8 * s + rsum s (r + 1))) (cut tz_E (8 * s + rsum s (r + 1))) (nI s) (nI (rsum s (r + 1))) (nI (r + 1)) := by
    intro s hs r hr K d
    have h16 := qR_16 (8 * s + r)
    induction d with
    | zero =>
      intro f c hc hf
      obtain ⟨f, rfl⟩ : ∃ z, f = z + 1 := ⟨f - 1, by omega⟩
      obtain rfl : c = qz_R (8 * s + r) := by omega
      show gf_X6_init_62 (f_X6_init_62 K tz_R tz_L f) K tz_R tz_L _ _ _ (nI s) _ (nI r) _ = _
      unfold gf_X6_init_62
      rw [k_row s hs r hr, pb1, if_pos (show tz_R (8 * s + r) ≤ nI (qz_R (8 * s + r)) from Int32.le_refl _), show nI r + (1 : Int32) = nI (r + 1) from nI_1 r]
      rfl
    | succ d ih =>
      intro f c hc hf
      obtain ⟨f, rfl⟩ : ∃ z, f = z + 1 := ⟨f - 1, by omega⟩
      show gf_X6_init_62 (f_X6_init_62 K tz_R tz_L f) K tz_R tz_L _ _ _ (nI s) _ (nI r) _ = _
      unfold gf_X6_init_62
      rw [k_row s hs r hr, pb1, if_neg (show ¬ tz_R (8 * s + r) ≤ nI c from nI_ge (by omega) (by omega)), k_note hs hr (by omega), pb3, show nI (rsum s r + c) + (1 : Int32) = nI (rsum s r + (c + 1)) from nI_1 _, show nI c + (1 : Int32) = nI (c + 1) from nI_1 c]
      exact ih f (c + 1) (by omega) (by omega)
  have k49 : ∀ s, s < 67 → ∀ (K : (Nat → Int32) → (Nat → Int32) → (Nat → Int32) → Int32 → Option ((Nat → Int32) × (Nat → Int32) × (Nat → Int32))) (d f r : Nat), r + d = qz_L s → d < f → f_X6_init_49 K tz_R tz_L f (cut tz_H (8 * s + rsum s r)) (cut tz_F (8 * s + rsum s r)) (cut tz_E (8 * s + rsum s r)) (nI s) (nI (rsum s r)) (nI r) = K (cut tz_H (8 * (s + 1))) (cut tz_F (8 * (s + 1))) (cut tz_E (8 * (s + 1))) (nI (s + 1)) := by
    intro s hs K d
    obtain ⟨l1, l2, l3⟩ := la_le s hs
    obtain ⟨r1, r2⟩ := rsum_all s hs
    induction d with
    | zero =>
      intro f r hr hf
      obtain ⟨f, rfl⟩ : ∃ z, f = z + 1 := ⟨f - 1, by omega⟩
      obtain rfl : r = qz_L s := by omega
      show gf_X6_init_49 (f_X6_init_49 K tz_R tz_L f) K tz_R tz_L _ _ _ (nI s) _ _ = _
      unfold gf_X6_init_49
      have hz : ∀ j, 8 * s + qz_S s ≤ j → j < 8 * (s + 1) → tz_H j = 0 ∧ tz_F j = 0 ∧ tz_E j = 0 := fun j h1 h2 => by
        obtain ⟨k, rfl⟩ : ∃ k, j = 8 * s + k := ⟨j - 8 * s, by omega⟩
        exact tHFE_0 s hs k (by omega) (by omega)
      rw [k_lenL s hs, pb1, if_pos (Int32.le_refl _), r1, cut_skip (T := tz_H) (n := 8 * s + qz_S s) (m := 8 * (s + 1)) (by omega) (fun j h1 h2 => (hz j h1 h2).1), cut_skip (T := tz_F) (n := 8 * s + qz_S s) (m := 8 * (s + 1)) (by omega) (fun j h1 h2 => (hz j h1 h2).2.1), cut_skip (T := tz_E) (n := 8 * s + qz_S s) (m := 8 * (s + 1)) (by omega) (fun j h1 h2 => (hz j h1 h2).2.2), show nI s + (1 : Int32) = nI (s + 1) from nI_1 s]
    | succ d ih =>
      intro f r hr hf
      obtain ⟨f, rfl⟩ : ∃ z, f = z + 1 := ⟨f - 1, by omega⟩
      have h16 := qR_16 (8 * s + r)
      show gf_X6_init_49 (f_X6_init_49 K tz_R tz_L f) K tz_R tz_L _ _ _ (nI s) _ _ = _
      unfold gf_X6_init_49
      rw [k_lenL s hs, pb1, if_neg (nI_ge (by omega) (by omega))]
      exact (k62 s hs r (by omega) (f_X6_init_49 K tz_R tz_L f) (qz_R (8 * s + r)) 1000 0 (by omega) (by omega)).trans (ih f (r + 1) (by omega) (by omega))
  have k38 : ∀ (d f s : Nat), s + d = 67 → d < f → f_X6_init_38 tz_R tz_L f (cut tz_H (8 * s)) (cut tz_F (8 * s)) (cut tz_E (8 * s)) (nI s) = some (tz_H, tz_F, tz_E) := by
    intro d
    induction d with
    | zero =>
      intro f s hs hf
      obtain ⟨f, rfl⟩ : ∃ z, f = z + 1 := ⟨f - 1, by omega⟩
      obtain rfl : s = 67 := by omega
      show gf_X6_init_38 (f_X6_init_38 tz_R tz_L f) tz_R tz_L _ _ _ (nI 67) = _
      unfold gf_X6_init_38
      rw [if_pos (by decide), show 8 * 67 = 536 from rfl, cut_all tH_out, cut_all tF_out, cut_all tE_out]
    | succ d ih =>
      intro f s hs hf
      obtain ⟨f, rfl⟩ : ∃ z, f = z + 1 := ⟨f - 1, by omega⟩
      have hs2 : s < 67 := by omega
      obtain ⟨l1, l2, l3⟩ := la_le s hs2
      show gf_X6_init_38 (f_X6_init_38 tz_R tz_L f) tz_R tz_L _ _ _ (nI s) = _
      unfold gf_X6_init_38
      rw [if_neg (show ¬ (67 : Int32) ≤ nI s from nI_ge (b := 67) hs2 (by decide))]
      exact (k49 s hs2 (f_X6_init_38 tz_R tz_L f) (qz_L s) 1000 0 (by omega) (by omega)).trans (ih f (s + 1) (by omega) (by omega))
  have e := k38 67 1000 0 (by omega) (by omega)
  rw [show 8 * 0 = 0 from rfl, cut0, cut0, cut0] at e
  exact e
