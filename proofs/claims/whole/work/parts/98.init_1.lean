/-! the start: the table of characters of the class; sums and lists -/
def sgE (s q : Nat) : Int32 := if (tz_E (8 * s + q) - tz_E (8 * s + q) / 2 * 2) = 0 then 1 else -1
/-- the place of a class's rest -/
def pl (t : Nat) : Nat := qz_T t - qz_D (qz_S (qz_T t))
def tm (s p q : Nat) : Int32 := if p < qz_N (qz_S s) ∧ tz_R (8 * (qz_D (qz_S s) + p) + 0) = tz_H (8 * s + q) then sgE s q * tz_C (22 * qz_F (8 * s + q) + pl (qz_D (qz_S s) + p)) else 0
def pC (s p : Nat) : Nat → Int32
  | 0 => 0
  | q + 1 => pC s p q + tm s p q
def ct (s q p : Nat) : Nat → Int32 := fun j => if j < 22 * s then tz_C j else if j < 22 * s + 22 then (if j - 22 * s < p then pC s (j - 22 * s) (q + 1) else pC s (j - 22 * s) q) else 0
theorem pC_all : ∀ s, s < 67 → s = 0 ∨ (List.range 22).all (fun p => pC s p (qz_S s) == tz_C (22 * s + p)) = true := by decide +kernel
theorem pl_ok : ∀ t, t < 67 → qz_T t < 67 ∧ pl t < 22 := by decide +kernel
theorem F_less : ∀ s, s < 67 → ∀ q, q < qz_S s → qz_F (8 * s + q) < s := by decide +kernel
theorem k_heightBy8 : ∀ s, s < 67 → ∀ q, q < 8 → f_X6_heightBy tz_E (nI s) (nI q) = some (tz_E (8 * s + q)) := by decide +kernel
theorem k_restOf8 : ∀ s, s < 67 → f_X7_restOf tz_T (nI s) = some (tz_T s) := by decide +kernel
theorem ct_low {s q p j : Nat} (h : j < 22 * s) : ct s q p j = tz_C j := by unfold ct; rw [if_pos h]
theorem ct_step {s q p : Nat} (hp : p < 22) : upd (ct s q p) (22 * s + p) (ct s q p (22 * s + p) + tm s p q) = ct s q (p + 1) := by
  have e : ct s q p (22 * s + p) = pC s p q := by
    unfold ct
    rw [if_neg (by omega), if_pos (by omega), if_neg (by omega), Nat.add_sub_cancel_left]
  rw [e]
  funext j
  unfold upd
  by_cases c : j = 22 * s + p
  · subst c
    unfold ct
    rw [if_pos rfl, if_neg (by omega), if_pos (by omega), if_pos (by omega), Nat.add_sub_cancel_left]
    rfl
  · rw [if_neg c]
    unfold ct
    by_cases c1 : j < 22 * s
    · rw [if_pos c1, if_pos c1]
    · rw [if_neg c1, if_neg c1]
      by_cases c2 : j < 22 * s + 22
      · rw [if_pos c2, if_pos c2]
        by_cases c3 : j - 22 * s < p
        · rw [if_pos c3, if_pos (by omega)]
        · rw [if_neg c3, if_neg (by omega)]
      · rw [if_neg c2, if_neg c2]
theorem ct_same {s q p : Nat} (hp : p < 22) (h : tm s p q = 0) : ct s q p = ct s q (p + 1) := by
  rw [← ct_step hp, h, Int32.add_zero]
  funext j
  unfold upd
  by_cases c : j = 22 * s + p
  · rw [if_pos c, c]
  · rw [if_neg c]
theorem ct_end {s q n : Nat} (hn : n ≤ 22) (h : ∀ p, n ≤ p → p < 22 → tm s p q = 0) : ct s q n = ct s (q + 1) 0 := by
  have key : ∀ d n, n + d = 22 → (∀ p, n ≤ p → p < 22 → tm s p q = 0) → ct s q n = ct s q 22 := by
    intro d
    induction d with
    | zero =>
      intro n hn _
      obtain rfl : n = 22 := by omega
      rfl
    | succ d ih =>
      intro n hn h
      rw [ct_same (by omega) (h n (Nat.le_refl _) (by omega))]
      exact ih (n + 1) (by omega) (fun p h1 h2 => h p (by omega) h2)
  rw [key (22 - n) n (by omega) h]
  funext j
  unfold ct
  by_cases c1 : j < 22 * s
  · rw [if_pos c1, if_pos c1]
  · rw [if_neg c1, if_neg c1]
    by_cases c2 : j < 22 * s + 22
    · rw [if_pos c2, if_pos c2, if_pos (by omega), if_neg (by omega)]
    · rw [if_neg c2, if_neg c2]
theorem ct_next {s : Nat} (hs : s < 67) (hs0 : ¬ s = 0) : ct s (qz_S s) 0 = ct (s + 1) 0 0 := by
  have h := (pC_all s hs).resolve_left hs0
  funext j
  unfold ct
  by_cases c1 : j < 22 * s
  · rw [if_pos c1, if_pos (by omega)]
  · rw [if_neg c1]
    by_cases c2 : j < 22 * s + 22
    · rw [if_pos c2, if_neg (by omega), if_pos (by omega)]
      have e := eq_of_beq (List.all_eq_true.mp h (j - 22 * s) (List.mem_range.mpr (by omega)))
      rw [e]
      congr 1
      omega
    · rw [if_neg c2, if_neg (by omega)]
      by_cases c3 : j < 22 * (s + 1) + 22
      · rw [if_pos c3, if_neg (by omega)]; rfl
      · rw [if_neg c3]
theorem k_addRim {s q : Nat} (hs : s < 67) (hq : q < qz_S s) : f_X1_addRim tz_R tz_S tz_T (ct s q 0) (nI s) (tz_H (8 * s + q)) (nI (qz_F (8 * s + q))) (sgE s q) = some (ct s (q + 1) 0) := by
  obtain ⟨p1, p2, p3⟩ := shp s hs
  have hN := qN_le _ p1
  have hF := F_less s hs q hq
  have key : ∀ (d f p : Nat), p + d = qz_N (qz_S s) → d < f → f_X1_addRim_37 tz_R tz_S tz_T f (ct s q p) (nI s) (tz_H (8 * s + q)) (nI (qz_F (8 * s + q))) (sgE s q) (nI (qz_D (qz_S s))) (nI (qz_N (qz_S s))) (nI p) = some (ct s (q + 1) 0) := by
    intro d
    induction d with
    | zero =>
      intro f p hp hf
      obtain ⟨f, rfl⟩ : ∃ z, f = z + 1 := ⟨f - 1, by omega⟩
      obtain rfl : p = qz_N (qz_S s) := by omega
      show gf_X1_addRim_37 (f_X1_addRim_37 tz_R tz_S tz_T f) tz_R tz_S tz_T _ (nI s) _ _ _ _ _ _ = _
      unfold gf_X1_addRim_37
      rw [if_pos (Int32.le_refl _), ct_end hN (fun p h1 _ => by unfold tm; rw [if_neg (by omega)])]
    | succ d ih =>
      intro f p hp hf
      obtain ⟨f, rfl⟩ : ∃ z, f = z + 1 := ⟨f - 1, by omega⟩
      have e := ih f (p + 1) (by omega) (by omega)
      obtain ⟨hD, hD2⟩ := shD _ p1 p (show p < qz_N (qz_S s) by omega)
      obtain ⟨w1, w2⟩ := pl_ok _ hD
      show gf_X1_addRim_37 (f_X1_addRim_37 tz_R tz_S tz_T f) tz_R tz_S tz_T _ (nI s) _ _ _ _ _ _ = _
      unfold gf_X1_addRim_37
      rw [if_neg (nI_ge (by omega) (by omega)), if_neg (show ¬ (22 : Int32) ≤ nI p from nI_ge (b := 22) (by omega) (by decide)), nI_add, show f_X7_row tz_R (nI (qz_D (qz_S s) + p)) (0 : Int32) = some (tz_R (8 * (qz_D (qz_S s) + p) + 0)) from k_row _ hD 0 (by decide), pb1, show nI p + (1 : Int32) = nI (p + 1) from nI_1 p]
      by_cases c : tz_R (8 * (qz_D (qz_S s) + p) + 0) = tz_H (8 * s + q)
      · have et : tm s p q = sgE s q * tz_C (22 * qz_F (8 * s + q) + pl (qz_D (qz_S s) + p)) := by unfold tm; rw [if_pos ⟨by omega, c⟩]
        have eat : f_X1_at tz_S (ct s q p) (nI (qz_F (8 * s + q))) (tz_T (qz_D (qz_S s) + p)) = some (tz_C (22 * qz_F (8 * s + q) + pl (qz_D (qz_S s) + p))) := by
          unfold f_X1_at f_X1_atPlace f_X1_atPlace_26
          rw [show f_X7_placeOf tz_S (tz_T (qz_D (qz_S s) + p)) = some (nI (pl (qz_D (qz_S s) + p))) from k_placeOf _ w1, pb1, k_has _ (by omega), pb1, if_neg i10, if_neg (nI_pos (by omega)), if_neg (show ¬ (22 : Int32) ≤ nI (pl (qz_D (qz_S s) + p)) from nI_ge (b := 22) (by omega) (by decide)), if_neg i10, ix22, pinn (by omega) (by decide), pb1, nI_c _ (by omega), ct_low (by omega)]
        rw [if_pos c, ix22, pinn (by omega) (by decide), k_restOf8 _ hD, pb1, eat, pb1, pinn (by omega) (by decide), nI_c (22 * s + p) (by omega), ← et, ct_step (by omega)]
        exact e
      · rw [if_neg c, ct_same (p := p) (by omega) (by unfold tm; rw [if_neg (fun h => c h.2)])]
        exact e
  unfold f_X1_addRim
  rw [k_sizeN s hs, pb1, k_first7 _ p1, pb1, pb1, k_countOf _ p1, pb1]
  exact key (qz_N (qz_S s)) 1000 0 (by omega) (by omega)
theorem k_init1 : f_X1_init tz_R tz_S tz_T tz_H tz_F tz_E = some tz_C := by
  have k36 : ∀ s, s < 67 → ¬ s = 0 → ∀ (K : (Nat → Int32) → Int32 → Option (Nat → Int32)) (d f q : Nat), q + d = qz_S s → d < f → f_X1_init_36 K tz_R tz_S tz_T tz_H tz_F tz_E f (ct s q 0) (nI s) (nI q) = K (ct (s + 1) 0 0) (nI (s + 1)) := by
    intro s hs hs0 K d
    obtain ⟨l1, l2, l3⟩ := la_le s hs
    induction d with
    | zero =>
      intro f q hq hf
      obtain ⟨f, rfl⟩ : ∃ z, f = z + 1 := ⟨f - 1, by omega⟩
      obtain rfl : q = qz_S s := by omega
      show gf_X1_init_36 (f_X1_init_36 K tz_R tz_S tz_T tz_H tz_F tz_E f) K tz_R tz_S tz_T tz_H tz_F tz_E _ (nI s) _ = _
      unfold gf_X1_init_36
      rw [k_sizeN s hs, pb1, if_pos (Int32.le_refl _), ct_next hs hs0, show nI s + (1 : Int32) = nI (s + 1) from nI_1 s]
    | succ d ih =>
      intro f q hq hf
      obtain ⟨f, rfl⟩ : ∃ z, f = z + 1 := ⟨f - 1, by omega⟩
      have e := ih f (q + 1) (by omega) (by omega)
      have hF := F_less s hs q (by omega)
      have e63 : ∀ z, z = sgE s q → f_X1_init_63 (f_X1_init_36 K tz_R tz_S tz_T tz_H tz_F tz_E f) tz_R tz_S tz_T tz_H tz_F tz_E (ct s q 0) (nI s) (nI q) z = K (ct (s + 1) 0 0) (nI (s + 1)) := by
        intro z hz
        subst hz
        unfold f_X1_init_63
        rw [k_hookBy8 s hs q (by omega), pb1, k_leftBy s hs q (by omega), pb1, show f_X1_addRim tz_R tz_S tz_T (ct s q 0) (nI s) (tz_H (8 * s + q)) (tz_F (8 * s + q)) (sgE s q) = some (ct s (q + 1) 0) from k_addRim hs (by omega), pb1, show nI q + (1 : Int32) = nI (q + 1) from nI_1 q]
        exact e
      show gf_X1_init_36 (f_X1_init_36 K tz_R tz_S tz_T tz_H tz_F tz_E f) K tz_R tz_S tz_T tz_H tz_F tz_E _ (nI s) _ = _
      unfold gf_X1_init_36
      rw [k_sizeN s hs, pb1, if_neg (nI_ge (by omega) (by omega)), k_heightBy8 s hs q (by omega), pb1, pnz (by decide)]
      by_cases c : (tz_E (8 * s + q) - tz_E (8 * s + q) / 2 * 2) = 0
      · rw [if_pos c]
        exact e63 1 (by unfold sgE; rw [if_pos c])
      · rw [if_neg c]
        exact e63 (-1) (by unfold sgE; rw [if_neg c])
  have k27 : ∀ (d f s : Nat), s + d = 67 → d < f → ¬ s = 0 → f_X1_init_27 tz_R tz_S tz_T tz_H tz_F tz_E f (ct s 0 0) (nI s) = some tz_C := by
    intro d
    induction d with
    | zero =>
      intro f s hs hf hs0
      obtain ⟨f, rfl⟩ : ∃ z, f = z + 1 := ⟨f - 1, by omega⟩
      obtain rfl : s = 67 := by omega
      show gf_X1_init_27 (f_X1_init_27 tz_R tz_S tz_T tz_H tz_F tz_E f) tz_R tz_S tz_T tz_H tz_F tz_E _ (nI 67) = _
      unfold gf_X1_init_27
      rw [if_pos (by decide)]
      congr 1
      funext j
      unfold ct
      by_cases c : j < 22 * 67
      · rw [if_pos c]
      · rw [if_neg c]
        have e : tz_C j = 0 := by unfold tz_C; rw [if_neg c]
        rw [e]
        by_cases c2 : j < 22 * 67 + 22
        · rw [if_pos c2, if_neg (by omega)]; rfl
        · rw [if_neg c2]
    | succ d ih =>
      intro f s hs hf hs0
      obtain ⟨f, rfl⟩ : ∃ z, f = z + 1 := ⟨f - 1, by omega⟩
      have hs2 : s < 67 := by omega
      obtain ⟨l1, l2, l3⟩ := la_le s hs2
      show gf_X1_init_27 (f_X1_init_27 tz_R tz_S tz_T tz_H tz_F tz_E f) tz_R tz_S tz_T tz_H tz_F tz_E _ (nI s) = _
      unfold gf_X1_init_27
      rw [if_neg (show ¬ (67 : Int32) ≤ nI s from nI_ge (b := 67) hs2 (by decide))]
      exact (k36 s hs2 hs0 (f_X1_init_27 tz_R tz_S tz_T tz_H tz_F tz_E f) (qz_S s) 1000 0 (by omega) (by omega)).trans (ih f (s + 1) (by omega) (by omega) (by omega))
  have e0 : ∀ j, j < 22 → tz_C j = if j = 0 then 1 else 0 := by decide +kernel
  have ect : upd (fun _ => 0) 0 1 = ct 1 0 0 := by
    funext j
    unfold upd ct
    by_cases c : j < 22 * 1
    · rw [if_pos c, e0 j (by omega)]
    · rw [if_neg c, if_neg (by omega)]
      by_cases c2 : j < 22 * 1 + 22
      · rw [if_pos c2, if_neg (by omega)]; rfl
      · rw [if_neg c2]
  unfold f_X1_init
  rw [show (0 : Int32) = nI 0 from rfl, pinn (by omega) (by decide), nI_c 0 (by omega)]
  show f_X1_init_27 tz_R tz_S tz_T tz_H tz_F tz_E 1000 (upd (fun _ => 0) 0 1) (nI 1) = _
  rw [ect]
  exact k27 66 1000 1 (by omega) (by omega) (by omega)
theorem k_init8 : ∃ sz, f_X8_init = some (sz, fun _ => 0, fun _ => 0, 0, 0, 0) ∧ ∀ j, j < 17 → sz j = -1 := by
  have key : ∀ (d f s : Nat) (sz : Nat → Int32), s + d = 17 → d < f → (∀ j, j < s → sz j = -1) → ∃ sz', f_X8_init_31 f sz (fun _ => 0) (fun _ => 0) 0 0 0 (nI s) = some (sz', fun _ => 0, fun _ => 0, 0, 0, 0) ∧ ∀ j, j < 17 → sz' j = -1 := by
    intro d
    induction d with
    | zero =>
      intro f s sz hs hf h
      obtain ⟨f, rfl⟩ : ∃ z, f = z + 1 := ⟨f - 1, by omega⟩
      obtain rfl : s = 17 := by omega
      refine ⟨sz, ?_, h⟩
      show gf_X8_init_31 (f_X8_init_31 f) sz _ _ _ _ _ (nI 17) = _
      unfold gf_X8_init_31
      rw [if_pos (by decide)]
    | succ d ih =>
      intro f s sz hs hf h
      obtain ⟨f, rfl⟩ : ∃ z, f = z + 1 := ⟨f - 1, by omega⟩
      obtain ⟨sz', e, g⟩ := ih f (s + 1) (upd sz s (-1)) (by omega) (by omega) (fun j hj => by
        unfold upd
        by_cases c : j = s
        · rw [if_pos c]
        · rw [if_neg c]; exact h j (by omega))
      refine ⟨sz', ?_, g⟩
      show gf_X8_init_31 (f_X8_init_31 f) sz _ _ _ _ _ (nI s) = _
      unfold gf_X8_init_31
      rw [if_neg (show ¬ (17 : Int32) ≤ nI s from nI_ge (b := 17) (by omega) (by decide)), pinn (by omega) (by decide), nI_c s (by omega), show nI s + (1 : Int32) = nI (s + 1) from nI_1 s]
      exact e
  exact key 17 1000 0 (fun _ => 0) (by omega) (by omega) (fun j hj => by omega)
theorem k_init4 : ∃ lens, f_X4_init = some (fun _ => 0, lens) ∧ ∀ j, j < 3 → lens j = -1 := by
  have key : ∀ (d f s : Nat) (sz : Nat → Int32), s + d = 3 → d < f → (∀ j, j < s → sz j = -1) → ∃ sz', f_X4_init_21 f (fun _ => 0) sz (nI s) = some (fun _ => 0, sz') ∧ ∀ j, j < 3 → sz' j = -1 := by
    intro d
    induction d with
    | zero =>
      intro f s sz hs hf h
      obtain ⟨f, rfl⟩ : ∃ z, f = z + 1 := ⟨f - 1, by omega⟩
      obtain rfl : s = 3 := by omega
      refine ⟨sz, ?_, h⟩
      show gf_X4_init_21 (f_X4_init_21 f) _ sz (nI 3) = _
      unfold gf_X4_init_21
      rw [if_pos (by decide)]
    | succ d ih =>
      intro f s sz hs hf h
      obtain ⟨f, rfl⟩ : ∃ z, f = z + 1 := ⟨f - 1, by omega⟩
      obtain ⟨sz', e, g⟩ := ih f (s + 1) (upd sz s (-1)) (by omega) (by omega) (fun j hj => by
        unfold upd
        by_cases c : j = s
        · rw [if_pos c]
        · rw [if_neg c]; exact h j (by omega))
      refine ⟨sz', ?_, g⟩
      show gf_X4_init_21 (f_X4_init_21 f) _ sz (nI s) = _
      unfold gf_X4_init_21
      rw [if_neg (show ¬ (3 : Int32) ≤ nI s from nI_ge (b := 3) (by omega) (by decide)), pinn (by omega) (by decide), nI_c s (by omega), show nI s + (1 : Int32) = nI (s + 1) from nI_1 s]
      exact e
  exact key 3 1000 0 (fun _ => 0) (by omega) (by omega) (fun j hj => by omega)
