theorem nI_mul2 (a b : Nat) : nI a * nI b = nI (a * b) := (Int32.ofNat_mul a b).symm
theorem ix40 (l i : Nat) : nI l * (40 : Int32) + nI i = nI (40 * l + i) := by
  rw [show (40 : Int32) = nI 40 from rfl, nI_mul2, nI_add, Nat.mul_comm]
theorem ix40m (l i : Nat) : (40 : Int32) * nI l + nI i = nI (40 * l + i) := by
  rw [show (40 : Int32) = nI 40 from rfl, nI_mul2, nI_add]
theorem nI_m1 {n : Nat} (h : n < 2 ^ 31) : ¬ nI n = -1 := fun e => by
  have h1 := congrArg Int32.toInt e
  rw [nI_toInt h, show (-1 : Int32).toInt = -1 by decide] at h1
  omega
theorem le_m1 : ¬ (0 : Int32) ≤ -1 := by decide
theorem subneg : ∀ n, n < 41 → ∀ N, N < 23 → N ≤ n ∨ (nI n - nI N) < 0 := by decide +kernel
theorem nI_sub2 {a b : Nat} (h : b ≤ a) : nI a - nI b = nI (a - b) := by
  obtain ⟨k, rfl⟩ : ∃ k, a = k + b := ⟨a - b, by omega⟩
  rw [← nI_add, Int32.add_sub_cancel, Nat.add_sub_cancel]
theorem and_mask (x : Int32) : ∃ w, w < 2 ^ 31 ∧ (x &&& (2147483647 : Int32)) = nI w := by
  refine ⟨(x.toBitVec &&& 2147483647#32).toNat, ?_, ?_⟩
  · rw [BitVec.toNat_and]
    exact Nat.lt_of_le_of_lt Nat.and_le_right (by decide)
  · apply Int32.toBitVec_inj.mp
    rw [Int32.toBitVec_and]
    show _ = BitVec.ofNat 32 _
    rw [BitVec.ofNat_toNat, BitVec.setWidth_eq]
    rfl
theorem qN_pos : ∀ n, n < 9 → 0 < qz_N n := by decide +kernel
theorem pnz {α : Type} {y : Int32} {k : Option α} (h : ¬ y = 0) : p_nz y k = k := by unfold p_nz; rw [if_neg h]
theorem k_has8 : ∀ s, s < 4 → f_X8_has (nI s) = some 1 := by decide +kernel
theorem ix22 (l i : Nat) : nI l * (22 : Int32) + nI i = nI (22 * l + i) := by
  rw [show (22 : Int32) = nI 22 from rfl, nI_mul2, nI_add, Nat.mul_comm]
theorem ix22m (l i : Nat) : (22 : Int32) * nI l + nI i = nI (22 * l + i) := by
  rw [show (22 : Int32) = nI 22 from rfl, nI_mul2, nI_add]
theorem k_size8 {sizes : Nat → Int32} {s : Nat} (h : s < 4) : f_X8_sizeOf sizes (nI s) = some (sizes s) := by
  unfold f_X8_sizeOf
  rw [k_has8 s h, pb1, if_neg i10, pinn (by omega) (by decide), nI_c s (by omega)]
theorem k_miss81 {sizes : Nat → Int32} {s : Nat} (h : s < 4) (e : sizes s = -1) : f_X8_isMissing sizes (nI s) = some 1 := by
  unfold f_X8_isMissing
  rw [k_size8 h, pb1, if_pos e]
theorem k_miss80 {sizes : Nat → Int32} {s n : Nat} (h : s < 4) (hn : n < 9) (e : sizes s = nI n) : f_X8_isMissing sizes (nI s) = some 0 := by
  unfold f_X8_isMissing
  rw [k_size8 h, pb1, if_neg (by rw [e]; exact nI_m1 (by omega))]
theorem k_at8 {coefs : Nat → Int32} {s p : Nat} (h : s < 4) (hp : p < 22) : f_X8_at coefs (nI s) (nI p) = some (coefs (22 * s + p)) := by
  unfold f_X8_at f_X8_at_23
  rw [k_has8 s h, pb1, if_neg i10, if_neg (nI_pos (by omega)), if_neg (show ¬ (22 : Int32) ≤ nI p from nI_ge (a := p) (b := 22) (by omega) (by decide)), if_neg i10, ix22, pinn (by omega) (by decide), nI_c _ (by omega)]
def tcnt (c : Nat → Int32) : Nat → Nat
  | 0 => 0
  | p + 1 => tcnt c p + (if c p = 0 then 0 else 1)
theorem tcnt_congr {c c' : Nat → Int32} : ∀ p, (∀ q, q < p → c q = c' q) → tcnt c p = tcnt c' p
  | 0, _ => rfl
  | p + 1, h => by
    show tcnt c p + _ = tcnt c' p + _
    rw [tcnt_congr p (fun q hq => h q (by omega)), h p (by omega)]
theorem tcnt_zero {c : Nat → Int32} {n : Nat} : ∀ d, (∀ q, n ≤ q → q < n + d → c q = 0) → tcnt c (n + d) = tcnt c n
  | 0, _ => rfl
  | d + 1, h => by
    show tcnt c (n + d) + (if c (n + d) = 0 then 0 else 1) = tcnt c n
    rw [tcnt_zero d (fun q h1 h2 => h q h1 (by omega)), if_pos (h (n + d) (by omega) (by omega)), Nat.add_zero]
theorem k_terms {coefs : Nat → Int32} {s : Nat} (h : s < 4) : f_X8_termsOf coefs (nI s) = some (nI (tcnt (fun p => coefs (22 * s + p)) 22)) := by
  have key : ∀ (d f p : Nat), p + d = 22 → d < f → f_X8_termsOf_4 coefs f (nI s) (nI (tcnt (fun p => coefs (22 * s + p)) p)) (nI p) = some (nI (tcnt (fun p => coefs (22 * s + p)) 22)) := by
    intro d
    induction d with
    | zero =>
      intro f p hp hf
      obtain ⟨f, rfl⟩ : ∃ z, f = z + 1 := ⟨f - 1, by omega⟩
      obtain rfl : p = 22 := by omega
      show gf_X8_termsOf_4 (f_X8_termsOf_4 coefs f) coefs (nI s) _ _ = _
      unfold gf_X8_termsOf_4
      rw [if_pos (by decide)]
    | succ d ih =>
      intro f p hp hf
      obtain ⟨f, rfl⟩ : ∃ z, f = z + 1 := ⟨f - 1, by omega⟩
      have e := ih f (p + 1) (by omega) (by omega)
      have e3 : tcnt (fun p => coefs (22 * s + p)) (p + 1) = tcnt (fun p => coefs (22 * s + p)) p + (if coefs (22 * s + p) = 0 then 0 else 1) := rfl
      show gf_X8_termsOf_4 (f_X8_termsOf_4 coefs f) coefs (nI s) _ _ = _
      unfold gf_X8_termsOf_4
      rw [if_neg (show ¬ (22 : Int32) ≤ nI p from nI_ge (a := p) (b := 22) (by omega) (by decide)), k_at8 h (by omega), pb1, show nI p + (1 : Int32) = nI (p + 1) from nI_1 p]
      by_cases c : coefs (22 * s + p) = 0
      · rw [if_pos c] at e3 ⊢
        rw [show tcnt (fun p => coefs (22 * s + p)) p = tcnt (fun p => coefs (22 * s + p)) (p + 1) from e3.symm]
        exact e
      · rw [if_neg c] at e3 ⊢
        rw [show nI (tcnt (fun p => coefs (22 * s + p)) p) + (1 : Int32) = nI (tcnt (fun p => coefs (22 * s + p)) (p + 1)) by rw [e3]; exact nI_1 _]
        exact e
  exact key 22 1000 0 (by omega) (by omega)
theorem ix67 (s t : Nat) : (67 : Int32) * nI s + nI t = nI (67 * s + t) := idx67
theorem vc0 (f g : Nat → Int32) (sp dp : Nat) : va_cpy f g sp dp 0 = g := by
  funext k
  unfold va_cpy
  rw [if_neg (by omega)]
theorem vcS (f g : Nat → Int32) (sp dp p : Nat) : upd (va_cpy f g sp dp p) (dp + p) (f (sp + p)) = va_cpy f g sp dp (p + 1) := by
  funext k
  unfold upd va_cpy
  by_cases e : k = dp + p
  · subst e
    rw [if_pos rfl, if_pos (by omega), Nat.add_sub_cancel_left]
  · rw [if_neg e]
    by_cases c : dp ≤ k ∧ k < dp + p
    · rw [if_pos c, if_pos (by omega)]
    · rw [if_neg c, if_neg (by omega)]
theorem vc_in {f g : Nat → Int32} {sp dp n k : Nat} (h : k < n) : va_cpy f g sp dp n (dp + k) = f (sp + k) := by
  unfold va_cpy
  rw [if_pos (by omega), Nat.add_sub_cancel_left]
theorem vc_out {f g : Nat → Int32} {sp dp n k : Nat} (h : k < dp ∨ dp + n ≤ k) : va_cpy f g sp dp n k = g k := by
  unfold va_cpy
  rw [if_neg (by omega)]
def Sl (sizes coefs : Nat → Int32) (t : Nat) (sizes' coefs' : Nat → Int32) (t' : Nat) : Prop := sizes' t' = sizes t ∧ ∀ p, p < 22 → coefs' (22 * t' + p) = coefs (22 * t + p)
def So (sum coefficient : Nat → Int32) (b c : Nat) (sum' coefficient' : Nat → Int32) (b' c' : Nat) : Prop := sum' b' = sum b ∧ ∀ p, p < 22 → coefficient' (c' + p) = coefficient (c + p)
theorem Sl_rfl (sizes coefs : Nat → Int32) (t : Nat) : Sl sizes coefs t sizes coefs t := ⟨rfl, fun _ _ => rfl⟩
theorem So_rfl (sum coefficient : Nat → Int32) (b c : Nat) : So sum coefficient b c sum coefficient b c := ⟨rfl, fun _ _ => rfl⟩
theorem Sl_trans {s1 c1 s2 c2 s3 c3 : Nat → Int32} {t1 t2 t3 : Nat} (h : Sl s1 c1 t1 s2 c2 t2) (g : Sl s2 c2 t2 s3 c3 t3) : Sl s1 c1 t1 s3 c3 t3 := ⟨by rw [g.1, h.1], fun p hp => by rw [g.2 p hp, h.2 p hp]⟩
theorem k_copy {sizes coefs : Nat → Int32} {a b : Nat} (ha : a < 17) (hb : b < 17) : ∃ sizes' coefs', f_X8_copy sizes coefs (nI a) (nI b) = some (sizes', coefs') ∧ Sl sizes coefs a sizes' coefs' b ∧ ∀ t, ¬ t = b → Sl sizes coefs t sizes' coefs' t := by
  refine ⟨upd sizes b (sizes a), va_cpy coefs coefs (a * 22) (b * 22) 22, ?_, ?_, ?_⟩
  · unfold f_X8_copy
    have e1 : (17 : Int32) = nI 17 := rfl
    have e2 : (22 : Int32) = nI 22 := rfl
    rw [if_neg (nI_pos (by omega)), e1, if_neg (nI_ge ha (by decide)), if_neg (nI_pos (by omega)), if_neg (nI_ge hb (by decide)), pinn ha (by decide), pinn hb (by decide), e2, nI_mul2, nI_mul2, nI_c a (by omega), nI_c b (by omega), nI_c (a * 22) (by omega), nI_c (b * 22) (by omega), nI_c 22 (by omega)]
    unfold p_cp
    rw [nI_c (a * 22) (by omega), nI_c (b * 22) (by omega), nI_c 22 (by omega), if_neg]
    intro h
    rcases h with h | h | h | h | h
    · exact nI_pos (by omega) h
    · exact nI_pos (by omega) h
    · exact nI_pos (by omega) h
    · omega
    · omega
  · refine ⟨by unfold upd; rw [if_pos rfl], fun p hp => ?_⟩
    rw [show 22 * b + p = b * 22 + p by omega, vc_in hp, Nat.mul_comm]
  · intro t ht
    refine ⟨by unfold upd; rw [if_neg ht], fun p hp => vc_out (by omega)⟩
theorem nx_up : ∀ nx, nx < 8 → (nI nx + (1 : Int32)) - (nI nx + (1 : Int32)) / (8 : Int32) * (8 : Int32) = nI ((nx + 1) % 8) := by decide +kernel
theorem nx_dn : ∀ nx, nx < 8 → ((nI nx + (8 : Int32)) - (1 : Int32)) - ((nI nx + (8 : Int32)) - (1 : Int32)) / (8 : Int32) * (8 : Int32) = nI ((nx + 7) % 8) := by decide +kernel
theorem u_up : ∀ u, u < 9 → (if (8 : Int32) < (nI u + (1 : Int32)) then (8 : Int32) else (nI u + (1 : Int32))) = nI (if u = 8 then 8 else u + 1) := by decide +kernel
theorem k_keepDraft {sizes coefs us : Nat → Int32} {u nx s : Nat} (hu : u ≤ 8) (hnx : nx < 8) (hs : s < 4) : ∃ sizes' coefs', f_X8_keepDraft sizes coefs us (nI u) (nI nx) (nI s) = some (sizes', coefs', upd us nx (nI s), nI (if u = 8 then 8 else u + 1), nI ((nx + 1) % 8)) ∧ Sl sizes coefs 16 sizes' coefs' s ∧ Sl sizes coefs s sizes' coefs' (8 + nx) ∧ ∀ t, ¬ t = s → ¬ t = 8 + nx → Sl sizes coefs t sizes' coefs' t := by
  obtain ⟨sz1, cf1, e1, a1, a2⟩ := k_copy (sizes := sizes) (coefs := coefs) (a := s) (b := 8 + nx) (by omega) (by omega)
  obtain ⟨sz2, cf2, e2, b1, b2⟩ := k_copy (sizes := sz1) (coefs := cf1) (a := 16) (b := s) (by omega) (by omega)
  refine ⟨sz2, cf2, ?_, Sl_trans (a2 16 (by omega)) b1, Sl_trans a1 (b2 _ (by omega)), fun t h1 h2 => Sl_trans (a2 t h2) (b2 t h1)⟩
  unfold f_X8_keepDraft
  rw [k_has8 s hs, pb1, if_neg i10, if_neg (nI_pos (by omega)), if_neg (show ¬ (8 : Int32) ≤ nI nx from nI_ge (b := 8) hnx (by decide)), show (8 : Int32) + nI nx = nI (8 + nx) from nI_add 8 nx, e1, pb2, pinn hnx (by decide), pnz (by decide), show f_X8_copy sz1 cf1 16 (nI s) = some (sz2, cf2) from e2, pb2, u_up u (by omega), nx_up nx hnx, nI_c nx (by omega)]
theorem ix4m (a p : Nat) : (4 : Int32) * nI a + nI p = nI (4 * a + p) := by
  rw [show (4 : Int32) = nI 4 from rfl, nI_mul2, nI_add]
theorem ix88m (a p : Nat) : (88 : Int32) * nI a + nI p = nI (88 * a + p) := by
  rw [show (88 : Int32) = nI 88 from rfl, nI_mul2, nI_add]
theorem k_beginDraft {sizes coefs : Nat → Int32} {v : Int32} : ∃ sizes' coefs', f_X8_beginDraft sizes coefs v = some (sizes', coefs') ∧ (∀ t, t < 16 → Sl sizes coefs t sizes' coefs' t) ∧ sizes' 16 = v ∧ ∀ p, p < 22 → coefs' (352 + p) = 0 := by
  have key : ∀ (d f p : Nat) (c : Nat → Int32), p + d = 22 → d < f → (∀ k, k < 352 → c k = coefs k) → (∀ q, q < p → c (352 + q) = 0) → ∃ c', f_X8_beginDraft_10 f (upd sizes 16 v) c (nI p) = some (upd sizes 16 v, c') ∧ (∀ k, k < 352 → c' k = coefs k) ∧ ∀ q, q < 22 → c' (352 + q) = 0 := by
    intro d
    induction d with
    | zero =>
      intro f p c hp hf h1 h2
      obtain ⟨f, rfl⟩ : ∃ z, f = z + 1 := ⟨f - 1, by omega⟩
      obtain rfl : p = 22 := by omega
      refine ⟨c, ?_, h1, h2⟩
      show gf_X8_beginDraft_10 (f_X8_beginDraft_10 f) _ c _ = _
      unfold gf_X8_beginDraft_10
      rw [if_pos (by decide)]
    | succ d ih =>
      intro f p c hp hf h1 h2
      obtain ⟨f, rfl⟩ : ∃ z, f = z + 1 := ⟨f - 1, by omega⟩
      obtain ⟨c', e, g1, g2⟩ := ih f (p + 1) (upd c (352 + p) 0) (by omega) (by omega) (fun k hk => by unfold upd; rw [if_neg (by omega)]; exact h1 k hk) (fun q hq => by
        unfold upd
        by_cases cc : q = p
        · rw [if_pos (by omega)]
        · rw [if_neg (by omega)]; exact h2 q (by omega))
      refine ⟨c', ?_, g1, g2⟩
      show gf_X8_beginDraft_10 (f_X8_beginDraft_10 f) _ c _ = _
      unfold gf_X8_beginDraft_10
      rw [if_neg (show ¬ (22 : Int32) ≤ nI p from nI_ge (a := p) (b := 22) (by omega) (by decide)), show (352 : Int32) + nI p = nI (352 + p) from nI_add 352 p, pinn (by omega) (by decide), nI_c _ (by omega), show nI p + (1 : Int32) = nI (p + 1) from nI_1 p]
      exact e
  obtain ⟨c', e, g1, g2⟩ := key 22 1000 0 coefs (by omega) (by omega) (fun _ _ => rfl) (fun q hq => by omega)
  refine ⟨upd sizes 16 v, c', ?_, fun t ht => ⟨by unfold upd; rw [if_neg (by omega)], fun p hp => g1 _ (by omega)⟩, by unfold upd; rw [if_pos rfl], g2⟩
  unfold f_X8_beginDraft
  rw [show (16 : Int32) = nI 16 from rfl, pinn (by omega) (by decide), nI_c 16 (by omega)]
  exact e
