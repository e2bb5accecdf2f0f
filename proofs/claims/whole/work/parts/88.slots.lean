/-! slots: what copying does, on either side -/
theorem vc0 (f g : Nat → Int32) (sp dp : Nat) : va_cpy f g sp dp 0 = g := by
  funext k
  unfold va_cpy
  rw [if_neg (by omega)]
theorem vcS (f g : Nat → Int32) (sp dp p : Nat) : upd (va_cpy f g sp dp p) (dp + p) (f (sp + p)) = va_cpy f g sp dp (p + 1) := by
  funext k
  unfold upd va_cpy
  by_cases e : k = dp + p
  · subst e
    rw [if_pos rfl, if_pos (by omega), Nat.add_sub_cancel_left]
  · rw [if_neg e]
    by_cases c : dp ≤ k ∧ k < dp + p
    · rw [if_pos c, if_pos (by omega)]
    · rw [if_neg c, if_neg (by omega)]
theorem vc_in {f g : Nat → Int32} {sp dp n k : Nat} (h : k < n) : va_cpy f g sp dp n (dp + k) = f (sp + k) := by
  unfold va_cpy
  rw [if_pos (by omega), Nat.add_sub_cancel_left]
theorem vc_out {f g : Nat → Int32} {sp dp n k : Nat} (h : k < dp ∨ dp + n ≤ k) : va_cpy f g sp dp n k = g k := by
  unfold va_cpy
  rw [if_neg (by omega)]
/-- one slot as another's copy -/
def Sl (sizes coefs : Nat → Int32) (t : Nat) (sizes' coefs' : Nat → Int32) (t' : Nat) : Prop := sizes' t' = sizes t ∧ ∀ p, p < 22 → coefs' (22 * t' + p) = coefs (22 * t + p)
def So (sum coefficient : Nat → Int32) (b c : Nat) (sum' coefficient' : Nat → Int32) (b' c' : Nat) : Prop := sum' b' = sum b ∧ ∀ p, p < 22 → coefficient' (c' + p) = coefficient (c + p)
theorem Rs1_go {sizes coefs sizes' coefs' sum coefficient sum' coefficient' : Nat → Int32} {t t' b c b' c' : Nat} (h : Rs1 sizes coefs t sum coefficient b c) (h1 : Sl sizes coefs t sizes' coefs' t') (h2 : So sum coefficient b c sum' coefficient' b' c') : Rs1 sizes' coefs' t' sum' coefficient' b' c' := by
  obtain ⟨e, r⟩ := h
  refine ⟨by rw [h1.1, h2.1, e], ?_⟩
  rcases r with ⟨r1, r2⟩ | ⟨n, hn, r1, r2, r3, r4⟩
  · exact Or.inl ⟨by rw [h1.1, r1], fun p hp => by rw [h1.2 p hp]; exact r2 p hp⟩
  · exact Or.inr ⟨n, hn, by rw [h1.1, r1], fun p hp => by rw [h1.2 p hp, h2.2 p hp]; exact r2 p hp, fun p h hp => by rw [h1.2 p hp]; exact r3 p h hp, fun p hp => by rw [h1.2 p hp]; exact r4 p hp⟩
theorem Sl_rfl (sizes coefs : Nat → Int32) (t : Nat) : Sl sizes coefs t sizes coefs t := ⟨rfl, fun _ _ => rfl⟩
theorem So_rfl (sum coefficient : Nat → Int32) (b c : Nat) : So sum coefficient b c sum coefficient b c := ⟨rfl, fun _ _ => rfl⟩
theorem Sl_trans {s1 c1 s2 c2 s3 c3 : Nat → Int32} {t1 t2 t3 : Nat} (h : Sl s1 c1 t1 s2 c2 t2) (g : Sl s2 c2 t2 s3 c3 t3) : Sl s1 c1 t1 s3 c3 t3 := ⟨by rw [g.1, h.1], fun p hp => by rw [g.2 p hp, h.2 p hp]⟩
theorem k_copy {sizes coefs : Nat → Int32} {a b : Nat} (ha : a < 17) (hb : b < 17) : ∃ sizes' coefs', f_X8_copy sizes coefs (nI a) (nI b) = some (sizes', coefs') ∧ Sl sizes coefs a sizes' coefs' b ∧ ∀ t, ¬ t = b → Sl sizes coefs t sizes' coefs' t := by
  refine ⟨upd sizes b (sizes a), va_cpy coefs coefs (a * 22) (b * 22) 22, ?_, ?_, ?_⟩
  · unfold f_X8_copy
    have e1 : (17 : Int32) = nI 17 := rfl
    have e2 : (22 : Int32) = nI 22 := rfl
    rw [if_neg (nI_pos (by omega)), e1, if_neg (nI_ge ha (by decide)), if_neg (nI_pos (by omega)), if_neg (nI_ge hb (by decide)), pinn ha (by decide), pinn hb (by decide), e2, nI_mul2, nI_mul2, nI_c a (by omega), nI_c b (by omega), nI_c (a * 22) (by omega), nI_c (b * 22) (by omega), nI_c 22 (by omega)]
    unfold p_cp
    rw [nI_c (a * 22) (by omega), nI_c (b * 22) (by omega), nI_c 22 (by omega), if_neg]
    intro h
    rcases h with h | h | h | h | h
    · exact nI_pos (by omega) h
    · exact nI_pos (by omega) h
    · exact nI_pos (by omega) h
    · omega
    · omega
  · refine ⟨by unfold upd; rw [if_pos rfl], fun p hp => ?_⟩
    rw [show 22 * b + p = b * 22 + p by omega, vc_in hp, Nat.mul_comm]
  · intro t ht
    refine ⟨by unfold upd; rw [if_neg ht], fun p hp => vc_out (by omega)⟩
theorem nx_up : ∀ nx, nx < 8 → (nI nx + (1 : Int32)) - (nI nx + (1 : Int32)) / (8 : Int32) * (8 : Int32) = nI ((nx + 1) % 8) := by decide +kernel
theorem nx_dn : ∀ nx, nx < 8 → ((nI nx + (8 : Int32)) - (1 : Int32)) - ((nI nx + (8 : Int32)) - (1 : Int32)) / (8 : Int32) * (8 : Int32) = nI ((nx + 7) % 8) := by decide +kernel
theorem u_up : ∀ u, u < 9 → (if (8 : Int32) < (nI u + (1 : Int32)) then (8 : Int32) else (nI u + (1 : Int32))) = nI (if u = 8 then 8 else u + 1) := by decide +kernel
theorem k_keepDraft {sizes coefs us : Nat → Int32} {u nx s : Nat} (hu : u ≤ 8) (hnx : nx < 8) (hs : s < 4) : ∃ sizes' coefs', f_X8_keepDraft sizes coefs us (nI u) (nI nx) (nI s) = some (sizes', coefs', upd us nx (nI s), nI (if u = 8 then 8 else u + 1), nI ((nx + 1) % 8)) ∧ Sl sizes coefs 16 sizes' coefs' s ∧ Sl sizes coefs s sizes' coefs' (8 + nx) ∧ ∀ t, ¬ t = s → ¬ t = 8 + nx → Sl sizes coefs t sizes' coefs' t := by
  obtain ⟨sz1, cf1, e1, a1, a2⟩ := k_copy (sizes := sizes) (coefs := coefs) (a := s) (b := 8 + nx) (by omega) (by omega)
  obtain ⟨sz2, cf2, e2, b1, b2⟩ := k_copy (sizes := sz1) (coefs := cf1) (a := 16) (b := s) (by omega) (by omega)
  refine ⟨sz2, cf2, ?_, Sl_trans (a2 16 (by omega)) b1, Sl_trans a1 (b2 _ (by omega)), fun t h1 h2 => Sl_trans (a2 t h2) (b2 t h1)⟩
  unfold f_X8_keepDraft
  rw [k_has8 s hs, pb1, if_neg i10, if_neg (nI_pos (by omega)), if_neg (show ¬ (8 : Int32) ≤ nI nx from nI_ge (b := 8) hnx (by decide)), show (8 : Int32) + nI nx = nI (8 + nx) from nI_add 8 nx, e1, pb2, pinn hnx (by decide), pnz (by decide), show f_X8_copy sz1 cf1 16 (nI s) = some (sz2, cf2) from e2, pb2, u_up u (by omega), nx_up nx hnx, nI_c nx (by omega)]
theorem ix4m (a p : Nat) : (4 : Int32) * nI a + nI p = nI (4 * a + p) := by
  rw [show (4 : Int32) = nI 4 from rfl, nI_mul2, nI_add]
theorem ix88m (a p : Nat) : (88 : Int32) * nI a + nI p = nI (88 * a + p) := by
  rw [show (88 : Int32) = nI 88 from rfl, nI_mul2, nI_add]
theorem m_keeps {sum coef ws wc : Nat → Int32} {at' : Nat} (ha : at' < 9) : f_X10_keeps sum coef ws wc (nI at') = some (va_cpy sum ws 0 (4 * at') 4, va_cpy coef wc 0 (88 * at') 88) := by
  have k2 : ∀ (d f p : Nat) (w : Nat → Int32), p + d = 88 → d < f → f_X10_keeps_31 sum coef f w (va_cpy coef wc 0 (88 * at') p) (nI at') (nI p) = some (w, va_cpy coef wc 0 (88 * at') 88) := by
    intro d
    induction d with
    | zero =>
      intro f p w hp hf
      obtain ⟨f, rfl⟩ : ∃ z, f = z + 1 := ⟨f - 1, by omega⟩
      obtain rfl : p = 88 := by omega
      show gf_X10_keeps_31 (f_X10_keeps_31 sum coef f) sum coef w _ _ _ = _
      unfold gf_X10_keeps_31
      rw [if_pos (by decide)]
    | succ d ih =>
      intro f p w hp hf
      obtain ⟨f, rfl⟩ : ∃ z, f = z + 1 := ⟨f - 1, by omega⟩
      show gf_X10_keeps_31 (f_X10_keeps_31 sum coef f) sum coef w _ _ _ = _
      unfold gf_X10_keeps_31
      rw [if_neg (show ¬ (88 : Int32) ≤ nI p from nI_ge (a := p) (b := 88) (by omega) (by decide)), pinn (by omega) (by decide), ix88m, pinn (by omega) (by decide), nI_c _ (by omega), nI_c p (by omega), show nI p + (1 : Int32) = nI (p + 1) from nI_1 p]
      have e := vcS coef wc 0 (88 * at') p
      rw [Nat.zero_add] at e
      rw [e]
      exact ih f (p + 1) w (by omega) (by omega)
  have k1 : ∀ (d f p : Nat), p + d = 4 → d < f → f_X10_keeps_2 sum coef f (va_cpy sum ws 0 (4 * at') p) wc (nI at') (nI p) = some (va_cpy sum ws 0 (4 * at') 4, va_cpy coef wc 0 (88 * at') 88) := by
    intro d
    induction d with
    | zero =>
      intro f p hp hf
      obtain ⟨f, rfl⟩ : ∃ z, f = z + 1 := ⟨f - 1, by omega⟩
      obtain rfl : p = 4 := by omega
      show gf_X10_keeps_2 (f_X10_keeps_2 sum coef f) sum coef _ _ _ _ = _
      unfold gf_X10_keeps_2
      rw [if_pos (by decide)]
      have e := k2 88 1000 0 (va_cpy sum ws 0 (4 * at') 4) (by omega) (by omega)
      rw [vc0] at e
      exact e
    | succ d ih =>
      intro f p hp hf
      obtain ⟨f, rfl⟩ : ∃ z, f = z + 1 := ⟨f - 1, by omega⟩
      show gf_X10_keeps_2 (f_X10_keeps_2 sum coef f) sum coef _ _ _ _ = _
      unfold gf_X10_keeps_2
      rw [if_neg (show ¬ (4 : Int32) ≤ nI p from nI_ge (a := p) (b := 4) (by omega) (by decide)), pinn (by omega) (by decide), ix4m, pinn (by omega) (by decide), nI_c _ (by omega), nI_c p (by omega), show nI p + (1 : Int32) = nI (p + 1) from nI_1 p]
      have e := vcS sum ws 0 (4 * at') p
      rw [Nat.zero_add] at e
      rw [e]
      exact ih f (p + 1) (by omega) (by omega)
  have e := k1 4 1000 0 (by omega) (by omega)
  rw [vc0] at e
  exact e
theorem m_laysBack {sum coef ws wc : Nat → Int32} {at' : Nat} (ha : at' < 9) : f_X10_laysBack sum coef ws wc (nI at') = some (va_cpy ws sum (4 * at') 0 4, va_cpy wc coef (88 * at') 0 88) := by
  have k2 : ∀ (d f p : Nat) (w : Nat → Int32), p + d = 88 → d < f → f_X10_laysBack_31 ws wc f w (va_cpy wc coef (88 * at') 0 p) (nI at') (nI p) = some (w, va_cpy wc coef (88 * at') 0 88) := by
    intro d
    induction d with
    | zero =>
      intro f p w hp hf
      obtain ⟨f, rfl⟩ : ∃ z, f = z + 1 := ⟨f - 1, by omega⟩
      obtain rfl : p = 88 := by omega
      show gf_X10_laysBack_31 (f_X10_laysBack_31 ws wc f) ws wc w _ _ _ = _
      unfold gf_X10_laysBack_31
      rw [if_pos (by decide)]
    | succ d ih =>
      intro f p w hp hf
      obtain ⟨f, rfl⟩ : ∃ z, f = z + 1 := ⟨f - 1, by omega⟩
      show gf_X10_laysBack_31 (f_X10_laysBack_31 ws wc f) ws wc w _ _ _ = _
      unfold gf_X10_laysBack_31
      rw [if_neg (show ¬ (88 : Int32) ≤ nI p from nI_ge (a := p) (b := 88) (by omega) (by decide)), ix88m, pinn (by omega) (by decide), pinn (by omega) (by decide), nI_c (88 * at' + p) (by omega), nI_c p (by omega), show nI p + (1 : Int32) = nI (p + 1) from nI_1 p]
      have e := vcS wc coef (88 * at') 0 p
      rw [Nat.zero_add] at e
      rw [e]
      exact ih f (p + 1) w (by omega) (by omega)
  have k1 : ∀ (d f p : Nat), p + d = 4 → d < f → f_X10_laysBack_2 ws wc f (va_cpy ws sum (4 * at') 0 p) coef (nI at') (nI p) = some (va_cpy ws sum (4 * at') 0 4, va_cpy wc coef (88 * at') 0 88) := by
    intro d
    induction d with
    | zero =>
      intro f p hp hf
      obtain ⟨f, rfl⟩ : ∃ z, f = z + 1 := ⟨f - 1, by omega⟩
      obtain rfl : p = 4 := by omega
      show gf_X10_laysBack_2 (f_X10_laysBack_2 ws wc f) ws wc _ _ _ _ = _
      unfold gf_X10_laysBack_2
      rw [if_pos (by decide)]
      have e := k2 88 1000 0 (va_cpy ws sum (4 * at') 0 4) (by omega) (by omega)
      rw [vc0] at e
      exact e
    | succ d ih =>
      intro f p hp hf
      obtain ⟨f, rfl⟩ : ∃ z, f = z + 1 := ⟨f - 1, by omega⟩
      show gf_X10_laysBack_2 (f_X10_laysBack_2 ws wc f) ws wc _ _ _ _ = _
      unfold gf_X10_laysBack_2
      rw [if_neg (show ¬ (4 : Int32) ≤ nI p from nI_ge (a := p) (b := 4) (by omega) (by decide)), ix4m, pinn (by omega) (by decide), pinn (by omega) (by decide), nI_c (4 * at' + p) (by omega), nI_c p (by omega), show nI p + (1 : Int32) = nI (p + 1) from nI_1 p]
      have e := vcS ws sum (4 * at') 0 p
      rw [Nat.zero_add] at e
      rw [e]
      exact ih f (p + 1) (by omega) (by omega)
  have e := k1 4 1000 0 (by omega) (by omega)
  rw [vc0] at e
  exact e
theorem m_shift {ws wc sum coef : Nat → Int32} {un : Int32} (K : Int32 → (Nat → Int32) → (Nat → Int32) → Option (Int32 × (Nat → Int32) × (Nat → Int32))) : f_X10_canBeUndone_11 K sum coef 1000 un ws wc (0 : Int32) = K (un - (1 : Int32)) (va_cpy ws ws 4 0 28) (va_cpy wc wc 88 0 616) := by
  have k2 : ∀ (d f p : Nat) (w : Nat → Int32), p + d = 616 → d < f → f_X10_canBeUndone_39 K sum coef f un w (va_cpy wc wc 88 0 p) (nI p) = K (un - (1 : Int32)) w (va_cpy wc wc 88 0 616) := by
    intro d
    induction d with
    | zero =>
      intro f p w hp hf
      obtain ⟨f, rfl⟩ : ∃ z, f = z + 1 := ⟨f - 1, by omega⟩
      obtain rfl : p = 616 := by omega
      show gf_X10_canBeUndone_39 (f_X10_canBeUndone_39 K sum coef f) K sum coef un w _ _ = _
      unfold gf_X10_canBeUndone_39
      rw [if_pos (by decide)]
    | succ d ih =>
      intro f p w hp hf
      obtain ⟨f, rfl⟩ : ∃ z, f = z + 1 := ⟨f - 1, by omega⟩
      show gf_X10_canBeUndone_39 (f_X10_canBeUndone_39 K sum coef f) K sum coef un w _ _ = _
      unfold gf_X10_canBeUndone_39
      rw [if_neg (show ¬ (616 : Int32) ≤ nI p from nI_ge (a := p) (b := 616) (by omega) (by decide)), show nI p + (88 : Int32) = nI (p + 88) from nI_add p 88, pinn (by omega) (by decide), pinn (by omega) (by decide), nI_c (p + 88) (by omega), nI_c p (by omega), show nI p + (1 : Int32) = nI (p + 1) from nI_1 p]
      have e := vcS wc wc 88 0 p
      rw [Nat.zero_add] at e
      rw [vc_out (by omega), Nat.add_comm p 88, e]
      exact ih f (p + 1) w (by omega) (by omega)
  have k1 : ∀ (d f p : Nat), p + d = 28 → d < f → f_X10_canBeUndone_11 K sum coef f un (va_cpy ws ws 4 0 p) wc (nI p) = K (un - (1 : Int32)) (va_cpy ws ws 4 0 28) (va_cpy wc wc 88 0 616) := by
    intro d
    induction d with
    | zero =>
      intro f p hp hf
      obtain ⟨f, rfl⟩ : ∃ z, f = z + 1 := ⟨f - 1, by omega⟩
      obtain rfl : p = 28 := by omega
      show gf_X10_canBeUndone_11 (f_X10_canBeUndone_11 K sum coef f) K sum coef un _ _ _ = _
      unfold gf_X10_canBeUndone_11
      rw [if_pos (by decide)]
      have e := k2 616 1000 0 (va_cpy ws ws 4 0 28) (by omega) (by omega)
      rw [vc0] at e
      exact e
    | succ d ih =>
      intro f p hp hf
      obtain ⟨f, rfl⟩ : ∃ z, f = z + 1 := ⟨f - 1, by omega⟩
      show gf_X10_canBeUndone_11 (f_X10_canBeUndone_11 K sum coef f) K sum coef un _ _ _ = _
      unfold gf_X10_canBeUndone_11
      rw [if_neg (show ¬ (28 : Int32) ≤ nI p from nI_ge (a := p) (b := 28) (by omega) (by decide)), show nI p + (4 : Int32) = nI (p + 4) from nI_add p 4, pinn (by omega) (by decide), pinn (by omega) (by decide), nI_c (p + 4) (by omega), nI_c p (by omega), show nI p + (1 : Int32) = nI (p + 1) from nI_1 p]
      have e := vcS ws ws 4 0 p
      rw [Nat.zero_add] at e
      rw [vc_out (by omega), Nat.add_comm p 4, e]
      exact ih f (p + 1) (by omega) (by omega)
  have e := k1 28 1000 0 (by omega) (by omega)
  rw [vc0] at e
  exact e
/-- what the model keeps of what was, after a change -/
def Kept (sum coef ws wc ws' wc' : Nat → Int32) (u u' : Nat) : Prop :=
  (∀ t, t < 4 → So sum coef t (22 * t) ws' wc' (4 * (u' - 1) + t) (88 * (u' - 1) + 22 * t)) ∧
  (∀ j, j + 1 < u' → ∀ t, t < 4 → So ws wc (4 * (u - 1 - j) + t) (88 * (u - 1 - j) + 22 * t) ws' wc' (4 * (u' - 1 - (j + 1)) + t) (88 * (u' - 1 - (j + 1)) + 22 * t)) ∧
  ∀ t, t < 4 → So ws wc (32 + t) (704 + 22 * t) ws' wc' (32 + t) (704 + 22 * t)
theorem m_kept {sum coef ws wc : Nat → Int32} {u : Nat} (hu : u ≤ 8) : ∃ ws' wc', f_X10_canBeUndone sum coef (nI u) ws wc = some (nI (if u = 8 then 8 else u + 1), ws', wc') ∧ Kept sum coef ws wc ws' wc' u (if u = 8 then 8 else u + 1) := by
  by_cases c : u = 8
  · subst c
    refine ⟨va_cpy sum (va_cpy ws ws 4 0 28) 0 (4 * 7) 4, va_cpy coef (va_cpy wc wc 88 0 616) 0 (88 * 7) 88, ?_, ?_⟩
    · unfold f_X10_canBeUndone
      rw [if_pos rfl, m_shift]
      unfold f_X10_canBeUndone_77
      rw [show nI 8 - (1 : Int32) = nI 7 from rfl, m_keeps (by omega), pb2]
      rfl
    · rw [if_pos rfl]
      refine ⟨fun t ht => ⟨?_, fun p hp => ?_⟩, fun j hj t ht => ⟨?_, fun p hp => ?_⟩, fun t ht => ⟨?_, fun p hp => ?_⟩⟩
      · rw [show 4 * (8 - 1) + t = 4 * 7 + t from rfl, vc_in ht, Nat.zero_add]
      · rw [show 88 * (8 - 1) + 22 * t + p = 88 * 7 + (22 * t + p) by omega, vc_in (by omega), Nat.zero_add]
      · rw [vc_out (by omega)]
        obtain ⟨k, hk⟩ : ∃ k, k = 4 * (8 - 1 - (j + 1)) + t := ⟨_, rfl⟩
        have e : va_cpy ws ws 4 0 28 (0 + k) = ws (4 + k) := vc_in (by omega)
        rw [Nat.zero_add] at e
        rw [← hk, e]
        congr 1
        omega
      · rw [vc_out (by omega)]
        obtain ⟨k, hk⟩ : ∃ k, k = 88 * (8 - 1 - (j + 1)) + 22 * t + p := ⟨_, rfl⟩
        have e : va_cpy wc wc 88 0 616 (0 + k) = wc (88 + k) := vc_in (by omega)
        rw [Nat.zero_add] at e
        rw [← hk, e]
        congr 1
        omega
      · rw [vc_out (by omega), vc_out (by omega)]
      · rw [vc_out (by omega), vc_out (by omega)]
  · refine ⟨va_cpy sum ws 0 (4 * u) 4, va_cpy coef wc 0 (88 * u) 88, ?_, ?_⟩
    · unfold f_X10_canBeUndone
      rw [if_neg (show ¬ nI u = (8 : Int32) from fun h => c ((nI_eq (a := u) (b := 8) (by omega) (by decide)).mp h))]
      unfold f_X10_canBeUndone_77
      rw [m_keeps (by omega), pb2, if_neg c, show nI u + (1 : Int32) = nI (u + 1) from nI_1 u]
    · rw [if_neg c]
      refine ⟨fun t ht => ⟨?_, fun p hp => ?_⟩, fun j hj t ht => ⟨?_, fun p hp => ?_⟩, fun t ht => ⟨?_, fun p hp => ?_⟩⟩
      · rw [show 4 * (u + 1 - 1) + t = 4 * u + t by omega, vc_in ht, Nat.zero_add]
      · rw [show 88 * (u + 1 - 1) + 22 * t + p = 88 * u + (22 * t + p) by omega, vc_in (by omega), Nat.zero_add]
      · rw [vc_out (by omega)]
        congr 1
        omega
      · rw [vc_out (by omega)]
        congr 1
        omega
      · rw [vc_out (by omega)]
      · rw [vc_out (by omega)]
