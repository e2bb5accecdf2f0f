def nx (s r : Nat) : Nat := ((List.range 67).find? (fun t => (List.range 8).all (fun k => qz_R (8 * t + k) == (if k = qz_L s then r else qz_R (8 * s + k))))).getD 67
def la (s : Nat) : Nat := if s = 0 then 8 else qz_R (8 * s + (qz_L s - 1))
def nx_ck (s r : Nat) : Bool := decide (nx s r < 67) && (decide (qz_S (nx s r) = qz_S s + r) && (decide (qz_L (nx s r) = qz_L s + 1) && (decide (la (nx s r) = r) && (decide (xi_KEYS (nx s r) = ((xi_KEYS s <<< ((4 : Int32) &&& 31)) ||| nI r)) && (List.range 8).all (fun k => qz_R (8 * nx s r + k) == (if k = qz_L s then r else qz_R (8 * s + k)))))))
theorem nx_all : ∀ s, s < 67 → ∀ r, r < 9 → r = 0 ∨ la s < r ∨ 8 < qz_S s + r ∨ nx_ck s r = true := by decide +kernel
theorem nx_ok {s r : Nat} (hs : s < 67) (h1 : 1 ≤ r) (h2 : r ≤ la s) (h3 : qz_S s + r ≤ 8) : nx s r < 67 ∧ qz_S (nx s r) = qz_S s + r ∧ qz_L (nx s r) = qz_L s + 1 ∧ la (nx s r) = r ∧ xi_KEYS (nx s r) = ((xi_KEYS s <<< ((4 : Int32) &&& 31)) ||| nI r) ∧ ∀ k, k < 8 → qz_R (8 * nx s r + k) = (if k = qz_L s then r else qz_R (8 * s + k)) := by
  have h := nx_all s hs r (by omega)
  have h := ((h.resolve_left (by omega)).resolve_left (by omega)).resolve_left (by omega)
  unfold nx_ck at h
  simp only [Bool.and_eq_true, decide_eq_true_eq] at h
  obtain ⟨a, b, c, d, e, f⟩ := h
  exact ⟨a, b, c, d, e, fun k hk => eq_of_beq (List.all_eq_true.mp f k (List.mem_range.mpr hk))⟩
theorem la_le : ∀ s, s < 67 → la s ≤ 8 ∧ qz_L s ≤ qz_S s ∧ qz_S s ≤ 8 := by decide +kernel
theorem k_find : ∀ s, s < 67 → f_X7_find (nI (qz_S s)) (xi_KEYS s) = some (nI s) := by decide +kernel
theorem rows_ne : ∀ s, s < 67 → ∀ a, a < s → (List.range 8).any (fun k => qz_R (8 * a + k) != qz_R (8 * s + k)) = true := by decide +kernel
theorem pre_all : ∀ s, s < 67 → ∀ a, a < 67 → (List.range (qz_L s)).any (fun k => qz_R (8 * a + k) != qz_R (8 * s + k)) = true ∨ 8 ≤ qz_L s ∨ (qz_R (8 * a + qz_L s) ≤ la s ∧ qz_S s + qz_R (8 * a + qz_L s) ≤ 8) := by decide +kernel
theorem qR_16 (j : Nat) : qz_R j < 16 := by unfold qz_R; omega
theorem tR_eq {i j : Nat} : tz_R i = tz_R j ↔ qz_R i = qz_R j := nI_eq (by have := qR_16 i; omega) (by have := qR_16 j; omega)
theorem qR_0 : ∀ k, k < 8 → qz_R (8 * 0 + k) = 0 := by decide +kernel
def ch (lt : Nat → Int32) (n a : Nat) : Int32 := if a < n then lt a else -1
theorem k_next {lc lm : Nat → Int32} {n a : Nat} (hn : n ≤ 72) (hl : ∀ j, j < n → lc j = lm j) (ha : a ≤ n) : f_X3_nextLetter lc (nI n) (nI a) = some (ch lm n a) := by
  unfold f_X3_nextLetter ch
  rw [if_neg (nI_pos (by omega))]
  by_cases c : a < n
  · rw [if_pos c, if_neg (nI_ge c (by omega)), if_neg (show ¬ (72 : Int32) ≤ nI a from nI_ge (b := 72) (by omega) (by decide)), pinn (by omega) (by decide), nI_c a (by omega), hl a c]
  · rw [if_neg c, if_pos (nI_le (by omega) (by omega))]
theorem k_pass1 {lc lm : Nat → Int32} {n a : Nat} {w : Int32} (hn : n ≤ 72) (hl : ∀ j, j < n → lc j = lm j) (ha : a ≤ n) (h : ch lm n a = w) : f_X3_passes lc (nI n) (nI a) w = some (1, nI (a + 1)) := by
  unfold f_X3_passes
  rw [k_next hn hl ha, pb1, if_pos h, if_neg i10, show nI a + (1 : Int32) = nI (a + 1) from nI_1 a]
theorem k_pass0 {lc lm : Nat → Int32} {n a : Nat} {w : Int32} (hn : n ≤ 72) (hl : ∀ j, j < n → lc j = lm j) (ha : a ≤ n) (h : ¬ ch lm n a = w) : f_X3_passes lc (nI n) (nI a) w = some (0, nI a) := by
  unfold f_X3_passes
  rw [k_next hn hl ha, pb1, if_neg h, if_pos rfl]
theorem ne_lt_gt {x w : Int32} (h : ¬ x = w) : x < w ∨ w < x := by
  by_cases c : x < w
  · exact Or.inl c
  · by_cases d : w < x
    · exact Or.inr d
    · exact absurd (Int32.le_antisymm (Int32.not_lt.mp d) (Int32.not_lt.mp c)) h
theorem ch_in {lm : Nat → Int32} {n a : Nat} (h : a < n) : ch lm n a = lm a := by unfold ch; rw [if_pos h]
theorem ch_out {lm : Nat → Int32} {n a : Nat} (h : ¬ a < n) : ch lm n a = -1 := by unfold ch; rw [if_neg h]
theorem bmi (z : Int) : z.bmod (2 ^ 32) = if z % 4294967296 < 2147483648 then z % 4294967296 else z % 4294967296 - 4294967296 := by
  rw [Int.bmod_def]
  rfl
theorem rowl (x : Int32) : (∃ r, 1 ≤ r ∧ r ≤ 8 ∧ x = nI (48 + r)) ∨ ((x < 49 ∨ 56 < x) ∧ (x - 48 < 1 ∨ 8 < x - 48)) := by
  by_cases c1 : x < 49
  · refine Or.inr ⟨Or.inl c1, ?_⟩
    have h1 := Int32.lt_iff_toInt_lt.mp c1
    rw [show (49 : Int32).toInt = 49 by decide] at h1
    have hx := Int32.le_toInt x
    rw [Int32.lt_iff_toInt_lt, Int32.lt_iff_toInt_lt, Int32.toInt_sub, show (48 : Int32).toInt = 48 by decide, show (1 : Int32).toInt = 1 by decide, show (8 : Int32).toInt = 8 by decide, bmi]
    by_cases d : (x.toInt - 48) % 4294967296 < 2147483648
    · rw [if_pos d]; omega
    · rw [if_neg d]; omega
  · by_cases c2 : (56 : Int32) < x
    · refine Or.inr ⟨Or.inr c2, ?_⟩
      have h1 := Int32.lt_iff_toInt_lt.mp c2
      rw [show (56 : Int32).toInt = 56 by decide] at h1
      have hx := Int32.toInt_lt x
      rw [Int32.lt_iff_toInt_lt, Int32.lt_iff_toInt_lt, Int32.toInt_sub, show (48 : Int32).toInt = 48 by decide, show (1 : Int32).toInt = 1 by decide, show (8 : Int32).toInt = 8 by decide, bmi]
      by_cases d : (x.toInt - 48) % 4294967296 < 2147483648
      · rw [if_pos d]; omega
      · rw [if_neg d]; omega
    · obtain ⟨j, hj, e⟩ := nI_of2 (n := 56) (M := 56) (x := x) (by decide) (fun h => c1 (Int32.lt_trans h (by decide))) (Int32.not_lt.mp c2)
      have h48 : 49 ≤ j := by
        apply Decidable.byContradiction
        intro h
        exact c1 (by rw [e]; exact nI_lt (b := 49) (by omega) (by decide))
      exact Or.inl ⟨j - 48, by omega, by omega, by rw [e]; congr 1; omega⟩
def lac (M s : Nat) : Nat := if s = 0 then M else la s
def Dr (sizes0 coefs0 sz cf : Nat → Int32) (th : Nat → Int64) (m k : Nat) : Prop := (∀ t, t < 16 → Sl sizes0 coefs0 t sz cf t) ∧ sz 16 = nI m ∧ m < 9 ∧ ∀ p, p < 22 → ∃ z : Int, -999 * (k : Int) ≤ z ∧ z ≤ 999 * (k : Int) ∧ (th p).toInt = z ∧ (cf (352 + p)).toInt = z ∧ (qz_N m ≤ p → z = 0)
def nmb (b v : Nat) : Int32 := if b = 0 then nI v else -nI v
def sgB (b : Nat) : Int32 := if b = 0 then 1 else -1
theorem sgn_mul (b v : Nat) : sgB b * nI v = nmb b v := by
  unfold sgB nmb
  by_cases c : b = 0
  · rw [if_pos c, if_pos c, Int32.one_mul]
  · rw [if_neg c, if_neg c, Int32.neg_mul, Int32.one_mul]
theorem nmb_int (b : Nat) {v : Nat} (hv : v ≤ 999) : ∃ z : Int, -999 ≤ z ∧ z ≤ 999 ∧ (nmb b v).toInt = z := by
  unfold nmb
  by_cases c : b = 0
  · rw [if_pos c]
    exact ⟨v, by omega, by omega, nI_toInt (by omega)⟩
  · rw [if_neg c]
    exact ⟨-v, by omega, by omega, by rw [Int32.toInt_neg, nI_toInt (by omega), bm32 (by omega) (by omega)]⟩
theorem Dr_add {sizes0 coefs0 sz cf : Nat → Int32} {th : Nat → Int64} {m k i b v : Nat} (h : Dr sizes0 coefs0 sz cf th m k) (hk : k ≤ 72) (hi : i < qz_N m) (hv : v ≤ 999) : Dr sizes0 coefs0 sz (upd cf (352 + i) (cf (352 + i) + nmb b v)) (vp_updL th i (th i + (sgB b * nI v).toInt64)) m (k + 1) := by
  obtain ⟨h1, h2, h3, h4⟩ := h
  have hN := qN_le m h3
  refine ⟨fun t ht => Sl_trans (h1 t ht) ⟨rfl, fun p hp => by unfold upd; rw [if_neg (by omega)]⟩, h2, h3, fun p hp => ?_⟩
  obtain ⟨z, z1, z2, z3, z4, z5⟩ := h4 p hp
  by_cases c : p = i
  · subst c
    obtain ⟨y, y1, y2, y3⟩ := nmb_int b hv
    refine ⟨z + y, by omega, by omega, ?_, ?_, fun hh => by omega⟩
    · unfold vp_updL
      rw [if_pos rfl, sgn_mul, Int64.toInt_add, Int32.toInt_toInt64, z3, y3, bm64 (by omega) (by omega)]
    · unfold upd
      rw [if_pos rfl, Int32.toInt_add, z4, y3, bm32 (by omega) (by omega)]
  · refine ⟨z, by omega, by omega, ?_, ?_, z5⟩
    · unfold vp_updL; rw [if_neg c]; exact z3
    · unfold upd; rw [if_neg (by omega)]; exact z4
theorem k_addD {cf : Nat → Int32} {i : Nat} {v : Int32} (hi : i < 22) : f_X8_addToDraft cf (nI i) v = some (upd cf (352 + i) (cf (352 + i) + v)) := by
  unfold f_X8_addToDraft
  rw [if_neg (nI_pos (by omega)), if_neg (show ¬ (22 : Int32) ≤ nI i from nI_ge (b := 22) (by omega) (by decide)), show (352 : Int32) + nI i = nI (352 + i) from nI_add 352 i, pinn (by omega) (by decide), pinn (by omega) (by decide), nI_c (352 + i) (by omega)]
theorem k_61 {lc lm : Nat → Int32} {n m i a b v : Nat} (hn : n ≤ 72) (hl : ∀ j, j < n → lc j = lm j) (ha : a ≤ n) (hm : m < 9) (hi : i < qz_N m) (hb : b < 2) {sz cf : Nat → Int32} (h93 : ch lm n a = 93) : f_X3_passesTerm_61 tz_S lc (nI n) sz cf (nI a) (nI m) (nI b) (nI v) (nI (qz_D m + i)) = some (1, sz, upd cf (352 + i) (cf (352 + i) + nmb b v), nI (a + 1), nI m) := by
  have hN := qN_le m hm
  unfold f_X3_passesTerm_61 f_X3_passesTerm_109 nmb
  rw [k_sizeD hm hi, pb1, if_pos rfl, k_pass1 hn hl ha h93, pb2, if_neg i10, k_placeN hm hi, pb1]
  by_cases c : b = 0
  · rw [if_pos (show nI b = 0 by rw [c]; rfl), if_pos c, k_addD (by omega), pb1]
  · rw [if_neg (nI_ne0 (by omega) (by omega)), if_neg c, k_addD (by omega), pb1]
theorem k_61f {lc lm : Nat → Int32} {n m i a b v : Nat} (hn : n ≤ 72) (hl : ∀ j, j < n → lc j = lm j) (ha : a ≤ n) (hm : m < 9) (hi : i < qz_N m) {sz cf : Nat → Int32} {vs : Int32} (h : ¬ nI m = vs ∨ ¬ ch lm n a = 93) : f_X3_passesTerm_61 tz_S lc (nI n) sz cf (nI a) vs (nI b) (nI v) (nI (qz_D m + i)) = some (0, sz, cf, nI a, vs) := by
  unfold f_X3_passesTerm_61
  rw [k_sizeD hm hi, pb1]
  by_cases c : nI m = vs
  · rw [if_pos c, k_pass0 hn hl ha (h.resolve_left (fun d => d c)), pb2, if_pos rfl]
  · rw [if_neg c]
def Out (sizes0 coefs0 : Nat → Int32) (C : Option (Int32 × (Nat → Int32) × (Nat → Int32) × Int32 × Int32)) (Mo : Option (Int32 × (Nat → Int32) × (Nat → Int64) × Int32 × Int32)) : Prop :=
  (∃ b sz cf vs t' th' rs', b ≤ 72 ∧ C = some (nI b, sz, cf, nI b, vs) ∧ Mo = some (0, t', th', nI b, rs') ∧ ∀ t, t < 16 → Sl sizes0 coefs0 t sz cf t) ∨ (∃ b sz cf vs t' th' m k, C = some (-1, sz, cf, nI b, vs) ∧ Mo = some (1, t', th', nI b, nI m) ∧ k ≤ 73 ∧ Dr sizes0 coefs0 sz cf th' m k)
def AT (lc : Nat → Int32) (n : Nat) (f : Nat) (sz cf : Nat → Int32) (a vs y2 : Int32) : Option (Int32 × (Nat → Int32) × (Nat → Int32) × Int32 × Int32) := if a = nI n then (some ((-1 : Int32), sz, cf, a, vs)) else (p_b2 (f_X3_passes lc (nI n) a (45 : Int32)) (fun r_11 v3_next_12 => if r_11 = 0 then (p_b2 (f_X3_passes lc (nI n) v3_next_12 (43 : Int32)) (fun r_16 v3_next_17 => if r_16 = 0 then (some (v3_next_17, sz, cf, v3_next_17, vs)) else (f_X3_readToDraft_19 tz_S lc (nI n) f sz cf v3_next_17 vs r_11 (y2 + (1 : Int32))))) else (f_X3_readToDraft_19 tz_S lc (nI n) f sz cf v3_next_12 vs r_11 (y2 + (1 : Int32)))))
theorem k_19 {lc : Nat → Int32} {n f y2 : Nat} (hy : y2 < 72) (sz cf : Nat → Int32) (a vs y1 : Int32) : f_X3_readToDraft_19 tz_S lc (nI n) (f + 1) sz cf a vs y1 (nI y2) = p_b5 (f_X3_passesTerm tz_S sz cf lc (nI n) a vs y1) (fun r_2 s3 c4 n5 z6 => if r_2 = 0 then some (n5, s3, c4, n5, z6) else AT lc n f s3 c4 n5 z6 (nI y2)) := by
  show gf_X3_readToDraft_19 (f_X3_readToDraft_19 tz_S lc (nI n) f) tz_S lc (nI n) sz cf a vs y1 (nI y2) = _
  unfold gf_X3_readToDraft_19
  rw [if_neg (show ¬ (72 : Int32) ≤ nI y2 from nI_ge (b := 72) (by omega) (by decide))]
  rfl
def cut (T : Nat → Int32) (n : Nat) : Nat → Int32 := fun j => if j < n then T j else 0
theorem cut0 (T : Nat → Int32) : cut T 0 = fun _ => 0 := by
  funext j
  unfold cut
  rw [if_neg (by omega)]
theorem cutS (T : Nat → Int32) (n : Nat) : upd (cut T n) n (T n) = cut T (n + 1) := by
  funext j
  unfold upd cut
  by_cases c : j = n
  · subst c; rw [if_pos rfl, if_pos (by omega)]
  · rw [if_neg c]
    by_cases d : j < n
    · rw [if_pos d, if_pos (by omega)]
    · rw [if_neg d, if_neg (by omega)]
theorem cut_skip {T : Nat → Int32} {n m : Nat} (h : n ≤ m) (hz : ∀ j, n ≤ j → j < m → T j = 0) : cut T n = cut T m := by
  funext j
  unfold cut
  by_cases c : j < n
  · rw [if_pos c, if_pos (by omega)]
  · rw [if_neg c]
    by_cases d : j < m
    · rw [if_pos d, hz j (by omega) d]
    · rw [if_neg d]
theorem cut_all {T : Nat → Int32} {N : Nat} (h : ∀ j, N ≤ j → T j = 0) : cut T N = T := by
  funext j
  unfold cut
  by_cases c : j < N
  · rw [if_pos c]
  · rw [if_neg c, h j (by omega)]
theorem sh0 {x w N j : Nat} (hx : x < 2 ^ (w * N)) (h : N ≤ j) : x >>> (w * j) = 0 := by
  rw [Nat.shiftRight_eq_div_pow]
  exact Nat.div_eq_of_lt (Nat.lt_of_lt_of_le hx (Nat.pow_le_pow_right (by decide) (Nat.mul_le_mul_left w h)))
theorem tR_out : ∀ j, 536 ≤ j → tz_R j = 0 := fun j h => by unfold tz_R qz_R; rw [sh0 (N := 536) (by decide +kernel) h]; rfl
theorem tL_out : ∀ j, 67 ≤ j → tz_L j = 0 := fun j h => by unfold tz_L qz_L; rw [sh0 (N := 67) (by decide +kernel) h]; rfl
theorem tS_out : ∀ j, 67 ≤ j → tz_S j = 0 := fun j h => by unfold tz_S qz_S; rw [sh0 (N := 67) (by decide +kernel) h]; rfl
theorem tT_out : ∀ j, 67 ≤ j → tz_T j = 0 := fun j h => by unfold tz_T qz_T; rw [sh0 (N := 67) (by decide +kernel) h]; rfl
theorem tO_out : ∀ j, 67 ≤ j → tz_O j = 0 := fun j h => by unfold tz_O qz_O; rw [sh0 (N := 67) (by decide +kernel) h]; rfl
theorem tH_out : ∀ j, 536 ≤ j → tz_H j = 0 := fun j h => by unfold tz_H qz_H; rw [sh0 (N := 536) (by decide +kernel) h]; rfl
theorem tF_out : ∀ j, 536 ≤ j → tz_F j = 0 := fun j h => by unfold tz_F qz_F; rw [sh0 (N := 536) (by decide +kernel) h]; rfl
theorem tE_out : ∀ j, 536 ≤ j → tz_E j = 0 := fun j h => by unfold tz_E qz_E; rw [sh0 (N := 536) (by decide +kernel) h]; rfl
theorem tR_row : ∀ s, s < 67 → ∀ k, k < 8 → (qz_L s ≤ k → tz_R (8 * s + k) = 0) ∧ (k < qz_L s → 1 ≤ qz_R (8 * s + k)) := by decide +kernel
def rsum (s : Nat) : Nat → Nat
  | 0 => 0
  | k + 1 => rsum s k + qz_R (8 * s + k)
theorem rsum_all : ∀ s, s < 67 → rsum s (qz_L s) = qz_S s ∧ ∀ k, k < 9 → rsum s k ≤ 8 := by decide +kernel
theorem dgt : ∀ s, s < 67 → ∀ d, d < 8 → ((xi_KEYS s >>> ((nI d * (4 : Int32)) &&& 31)) &&& 15) = nI (if d < qz_L s then qz_R (8 * s + (qz_L s - 1 - d)) else 0) := by decide +kernel
def yv : Nat → Int32
  | 0 => -1
  | d + 1 => nI d
theorem yv_pred : ∀ d, nI d + (-1) = yv d
  | 0 => by decide
  | d + 1 => nIpred
theorem k_readRows {s : Nat} (hs : s < 67) : f_X7_readRows (cut tz_R (8 * s)) (cut tz_L s) (cut tz_S s) (nI s) = some (cut tz_R (8 * (s + 1)), cut tz_L (s + 1), cut tz_S (s + 1)) := by
  obtain ⟨l1, l2, l3⟩ := la_le s hs
  obtain ⟨r1, r2⟩ := rsum_all s hs
  have key : ∀ (d f : Nat), d ≤ 8 → d < f → f_X7_readRows_14 f (cut tz_R (8 * s + (qz_L s - d))) (cut tz_L s) (cut tz_S s) (nI s) (nI (s * 8)) (nI (qz_L s - d)) (nI (rsum s (qz_L s - d))) (yv d) = some (cut tz_R (8 * (s + 1)), cut tz_L (s + 1), cut tz_S (s + 1)) := by
    intro d
    induction d with
    | zero =>
      intro f hd hf
      obtain ⟨f, rfl⟩ : ∃ z, f = z + 1 := ⟨f - 1, by omega⟩
      show gf_X7_readRows_14 (f_X7_readRows_14 f) _ (cut tz_L s) (cut tz_S s) (nI s) (nI (s * 8)) _ _ _ = _
      unfold gf_X7_readRows_14
      rw [if_pos (show yv 0 < 0 by decide), pinn hs (by decide), pinn hs (by decide), nI_c s (by omega), Nat.sub_zero, r1, show nI (qz_L s) = tz_L s from rfl, show nI (qz_S s) = tz_S s from rfl, cutS, cutS, cut_skip (T := tz_R) (n := 8 * s + qz_L s) (m := 8 * (s + 1)) (by omega) (fun j h1 h2 => by
        obtain ⟨k, rfl⟩ : ∃ k, j = 8 * s + k := ⟨j - 8 * s, by omega⟩
        exact (tR_row s hs k (by omega)).1 (by omega))]
    | succ d ih =>
      intro f hd hf
      obtain ⟨f, rfl⟩ : ∃ z, f = z + 1 := ⟨f - 1, by omega⟩
      have e := ih f (by omega) (by omega)
      show gf_X7_readRows_14 (f_X7_readRows_14 f) _ (cut tz_L s) (cut tz_S s) (nI s) (nI (s * 8)) _ _ (nI d) = _
      unfold gf_X7_readRows_14
      rw [if_neg (nI_pos (by omega)), pinn hs (by decide), nI_c s (by omega), dgt s hs d (by omega), yv_pred]
      by_cases c : d < qz_L s
      · have h1 := (tR_row s hs (qz_L s - 1 - d) (by omega)).2 (by omega)
        have h16 := qR_16 (8 * s + (qz_L s - 1 - d))
        have el : qz_L s - (d + 1) = qz_L s - 1 - d := by omega
        have el2 : qz_L s - d = qz_L s - 1 - d + 1 := by omega
        rw [el2] at e
        rw [el, if_pos c, if_neg (nI_nle h1 (by omega)), if_neg (show ¬ (8 : Int32) ≤ nI (qz_L s - 1 - d) from nI_ge (b := 8) (by omega) (by decide)), nI_add, pinn (by omega) (by decide), nI_c _ (by omega), show s * 8 + (qz_L s - 1 - d) = 8 * s + (qz_L s - 1 - d) by omega, show nI (qz_R (8 * s + (qz_L s - 1 - d))) = tz_R (8 * s + (qz_L s - 1 - d)) from rfl, cutS, show nI (qz_L s - 1 - d) + (1 : Int32) = nI (qz_L s - 1 - d + 1) from nI_1 _, show nI (rsum s (qz_L s - 1 - d)) + tz_R (8 * s + (qz_L s - 1 - d)) = nI (rsum s (qz_L s - 1 - d + 1)) from nI_add _ _]
        exact e
      · rw [if_neg c, if_pos (by decide), show qz_L s - (d + 1) = qz_L s - d by omega]
        exact e
  have e := key 8 1000 (Nat.le_refl _) (by omega)
  rw [show qz_L s - 8 = 0 by omega] at e
  unfold f_X7_readRows
  rw [show nI s * (8 : Int32) = nI (s * 8) from nI_mul2 s 8]
  exact e
def kr (s : Nat) : Int32 := (f_X7_keyWithRows tz_R tz_L 0 (nI s) 1).getD 7
theorem k_rest : ∀ s, s < 67 → f_X7_keyWithRows tz_R tz_L 0 (nI s) 1 = some (kr s) ∧ f_X7_find (nI (qz_S s) - tz_R (8 * s + 0)) (kr s) = some (tz_T s) ∧ f_X7_countOrders tz_R tz_L tz_S (nI s) = some (tz_O s) := by decide +kernel
theorem k_init7 : f_X7_init = some (tz_R, tz_L, tz_S, tz_T, tz_O) := by
  have k66 : ∀ (d f s : Nat), s + d = 67 → d < f → f_X7_init_66 f tz_R tz_L tz_S (cut tz_T s) (cut tz_O s) (nI s) = some (tz_R, tz_L, tz_S, tz_T, tz_O) := by
    intro d
    induction d with
    | zero =>
      intro f s hs hf
      obtain ⟨f, rfl⟩ : ∃ z, f = z + 1 := ⟨f - 1, by omega⟩
      obtain rfl : s = 67 := by omega
      show gf_X7_init_66 (f_X7_init_66 f) tz_R tz_L tz_S _ _ (nI 67) = _
      unfold gf_X7_init_66
      rw [if_pos (by decide), cut_all tT_out, cut_all tO_out]
    | succ d ih =>
      intro f s hs hf
      obtain ⟨f, rfl⟩ : ∃ z, f = z + 1 := ⟨f - 1, by omega⟩
      have hs2 : s < 67 := by omega
      obtain ⟨e1, e2, e3⟩ := k_rest s hs2
      show gf_X7_init_66 (f_X7_init_66 f) tz_R tz_L tz_S _ _ (nI s) = _
      unfold gf_X7_init_66
      rw [if_neg (show ¬ (67 : Int32) ≤ nI s from nI_ge (b := 67) hs2 (by decide)), k_sizeN s hs2, pb1, show f_X7_row tz_R (nI s) (0 : Int32) = some (tz_R (8 * s + 0)) from k_row s hs2 0 (by decide), pb1, show f_X7_keyWithRows tz_R tz_L (0 : Int32) (nI s) (1 : Int32) = some (kr s) from e1, pb1, e2, pb1, pinn hs2 (by decide), e3, pb1, pinn hs2 (by decide), nI_c s (by omega), cutS, cutS, show nI s + (1 : Int32) = nI (s + 1) from nI_1 s]
      exact ih f (s + 1) (by omega) (by omega)
  have k47 : ∀ (d f s : Nat), s + d = 67 → d < f → f_X7_init_47 f (cut tz_R (8 * s)) (cut tz_L s) (cut tz_S s) (fun _ => 0) (fun _ => 0) (nI s) = some (tz_R, tz_L, tz_S, tz_T, tz_O) := by
    intro d
    induction d with
    | zero =>
      intro f s hs hf
      obtain ⟨f, rfl⟩ : ∃ z, f = z + 1 := ⟨f - 1, by omega⟩
      obtain rfl : s = 67 := by omega
      show gf_X7_init_47 (f_X7_init_47 f) _ _ _ _ _ (nI 67) = _
      unfold gf_X7_init_47
      have e := k66 67 1000 0 (by omega) (by omega)
      rw [cut0, cut0] at e
      rw [if_pos (by decide), show 8 * 67 = 536 from rfl, cut_all tR_out, cut_all tL_out, cut_all tS_out]
      exact e
    | succ d ih =>
      intro f s hs hf
      obtain ⟨f, rfl⟩ : ∃ z, f = z + 1 := ⟨f - 1, by omega⟩
      show gf_X7_init_47 (f_X7_init_47 f) _ _ _ _ _ (nI s) = _
      unfold gf_X7_init_47
      rw [if_neg (show ¬ (67 : Int32) ≤ nI s from nI_ge (b := 67) (by omega) (by decide)), k_readRows (by omega), pb3, show nI s + (1 : Int32) = nI (s + 1) from nI_1 s]
      exact ih f (s + 1) (by omega) (by omega)
  have e := k47 67 1000 0 (by omega) (by omega)
  rw [show 8 * 0 = 0 from rfl, cut0, cut0, cut0] at e
  exact e
def ccol (s c : Nat) : Int32 := (f_X7_column tz_R (nI s) (nI c)).getD 9
theorem note_1 : ∀ s, s < 67 → ∀ r, r < 8 → ∀ c, c < qz_R (8 * s + r) → f_X7_column tz_R (nI s) (nI c) = some (ccol s c) ∧ f_X7_hookAt tz_R (nI s) (nI r) (nI c) = some (tz_H (8 * s + (rsum s r + c))) := by decide +kernel
theorem note_2 : ∀ s, s < 67 → ∀ r, r < 8 → ∀ c, c < qz_R (8 * s + r) → f_X6_shapeLeft tz_R tz_L (nI s) (nI r) (ccol s c - 1) (nI c) = some (tz_F (8 * s + (rsum s r + c))) := by decide +kernel
theorem note_3 : ∀ s, s < 67 → ∀ r, r < 8 → ∀ c, c < qz_R (8 * s + r) → (ccol s c - 1) - nI r = tz_E (8 * s + (rsum s r + c)) ∧ rsum s r + c < qz_S s := by decide +kernel
theorem note_all (s : Nat) (hs : s < 67) (r : Nat) (hr : r < 8) (c : Nat) (hc : c < qz_R (8 * s + r)) : f_X7_column tz_R (nI s) (nI c) = some (ccol s c) ∧ f_X7_hookAt tz_R (nI s) (nI r) (nI c) = some (tz_H (8 * s + (rsum s r + c))) ∧ f_X6_shapeLeft tz_R tz_L (nI s) (nI r) (ccol s c - 1) (nI c) = some (tz_F (8 * s + (rsum s r + c))) ∧ (ccol s c - 1) - nI r = tz_E (8 * s + (rsum s r + c)) ∧ rsum s r + c < qz_S s := ⟨(note_1 s hs r hr c hc).1, (note_1 s hs r hr c hc).2, note_2 s hs r hr c hc, (note_3 s hs r hr c hc).1, (note_3 s hs r hr c hc).2⟩
theorem tHFE_0 : ∀ s, s < 67 → ∀ q, q < 8 → qz_S s ≤ q → tz_H (8 * s + q) = 0 ∧ tz_F (8 * s + q) = 0 ∧ tz_E (8 * s + q) = 0 := by decide +kernel
theorem k_lenL : ∀ s, s < 67 → f_X7_lengthOf tz_L (nI s) = some (nI (qz_L s)) := by decide +kernel
theorem k_note {s r c : Nat} (hs : s < 67) (hr : r < 8) (hc : c < qz_R (8 * s + r)) : f_X6_note tz_R tz_L (cut tz_H (8 * s + (rsum s r + c))) (cut tz_F (8 * s + (rsum s r + c))) (cut tz_E (8 * s + (rsum s r + c))) (nI s) (nI (rsum s r + c)) (nI r) (nI c) = some (cut tz_H (8 * s + (rsum s r + (c + 1))), cut tz_F (8 * s + (rsum s r + (c + 1))), cut tz_E (8 * s + (rsum s r + (c + 1)))) := by
  obtain ⟨e1, e2, e3, e4, e5⟩ := note_all s hs r hr c hc
  obtain ⟨l1, l2, l3⟩ := la_le s hs
  have h8 : rsum s r + c < 8 := by omega
  unfold f_X6_note f_X6_has
  rw [k_has s hs, pb1, if_neg i10, if_neg (nI_pos (by omega)), if_neg (show ¬ (8 : Int32) ≤ nI (rsum s r + c) from nI_ge (b := 8) h8 (by decide)), pb1, if_neg i10, e1, pb1, e2, pb1, show nI s * (8 : Int32) = nI (s * 8) from nI_mul2 s 8, nI_add, pinn (by omega) (by decide), pinn (by omega) (by decide), e3, pb1, pinn (by omega) (by decide), nI_c _ (by omega), e4, show s * 8 + (rsum s r + c) = 8 * s + (rsum s r + c) by omega, cutS, cutS, cutS]
  rfl
theorem k_init6 : f_X6_init tz_R tz_L = some (tz_H, tz_F, tz_E) := by
  have k62 : ∀ s, s < 67 → ∀ r, r < 8 → ∀ (K : (Nat → Int32) → (Nat → Int32) → (Nat → Int32) → Int32 → Int32 → Int32 → Option ((Nat → Int32) × (Nat → Int32) × (Nat → Int32))) (d f c : Nat), c + d = qz_R (8 * s + r) → d < f → f_X6_init_62 K tz_R tz_L f (cut tz_H (8 * s + (rsum s r + c))) (cut tz_F (8 * s + (rsum s r + c))) (cut tz_E (8 * s + (rsum s r + c))) (nI s) (nI (rsum s r + c)) (nI r) (nI c) = K (cut tz_H (8 * s + rsum s (r + 1))) (cut tz_F (8 * s + rsum s (r + 1))) (cut tz_E (8 * s + rsum s (r + 1))) (nI s) (nI (rsum s (r + 1))) (nI (r + 1)) := by
    intro s hs r hr K d
    have h16 := qR_16 (8 * s + r)
    induction d with
    | zero =>
      intro f c hc hf
      obtain ⟨f, rfl⟩ : ∃ z, f = z + 1 := ⟨f - 1, by omega⟩
      obtain rfl : c = qz_R (8 * s + r) := by omega
      show gf_X6_init_62 (f_X6_init_62 K tz_R tz_L f) K tz_R tz_L _ _ _ (nI s) _ (nI r) _ = _
      unfold gf_X6_init_62
      rw [k_row s hs r hr, pb1, if_pos (show tz_R (8 * s + r) ≤ nI (qz_R (8 * s + r)) from Int32.le_refl _), show nI r + (1 : Int32) = nI (r + 1) from nI_1 r]
      rfl
    | succ d ih =>
      intro f c hc hf
      obtain ⟨f, rfl⟩ : ∃ z, f = z + 1 := ⟨f - 1, by omega⟩
      show gf_X6_init_62 (f_X6_init_62 K tz_R tz_L f) K tz_R tz_L _ _ _ (nI s) _ (nI r) _ = _
      unfold gf_X6_init_62
      rw [k_row s hs r hr, pb1, if_neg (show ¬ tz_R (8 * s + r) ≤ nI c from nI_ge (by omega) (by omega)), k_note hs hr (by omega), pb3, show nI (rsum s r + c) + (1 : Int32) = nI (rsum s r + (c + 1)) from nI_1 _, show nI c + (1 : Int32) = nI (c + 1) from nI_1 c]
      exact ih f (c + 1) (by omega) (by omega)
  have k49 : ∀ s, s < 67 → ∀ (K : (Nat → Int32) → (Nat → Int32) → (Nat → Int32) → Int32 → Option ((Nat → Int32) × (Nat → Int32) × (Nat → Int32))) (d f r : Nat), r + d = qz_L s → d < f → f_X6_init_49 K tz_R tz_L f (cut tz_H (8 * s + rsum s r)) (cut tz_F (8 * s + rsum s r)) (cut tz_E (8 * s + rsum s r)) (nI s) (nI (rsum s r)) (nI r) = K (cut tz_H (8 * (s + 1))) (cut tz_F (8 * (s + 1))) (cut tz_E (8 * (s + 1))) (nI (s + 1)) := by
    intro s hs K d
    obtain ⟨l1, l2, l3⟩ := la_le s hs
    obtain ⟨r1, r2⟩ := rsum_all s hs
    induction d with
    | zero =>
      intro f r hr hf
      obtain ⟨f, rfl⟩ : ∃ z, f = z + 1 := ⟨f - 1, by omega⟩
      obtain rfl : r = qz_L s := by omega
      show gf_X6_init_49 (f_X6_init_49 K tz_R tz_L f) K tz_R tz_L _ _ _ (nI s) _ _ = _
      unfold gf_X6_init_49
      have hz : ∀ j, 8 * s + qz_S s ≤ j → j < 8 * (s + 1) → tz_H j = 0 ∧ tz_F j = 0 ∧ tz_E j = 0 := fun j h1 h2 => by
        obtain ⟨k, rfl⟩ : ∃ k, j = 8 * s + k := ⟨j - 8 * s, by omega⟩
        exact tHFE_0 s hs k (by omega) (by omega)
      rw [k_lenL s hs, pb1, if_pos (Int32.le_refl _), r1, cut_skip (T := tz_H) (n := 8 * s + qz_S s) (m := 8 * (s + 1)) (by omega) (fun j h1 h2 => (hz j h1 h2).1), cut_skip (T := tz_F) (n := 8 * s + qz_S s) (m := 8 * (s + 1)) (by omega) (fun j h1 h2 => (hz j h1 h2).2.1), cut_skip (T := tz_E) (n := 8 * s + qz_S s) (m := 8 * (s + 1)) (by omega) (fun j h1 h2 => (hz j h1 h2).2.2), show nI s + (1 : Int32) = nI (s + 1) from nI_1 s]
    | succ d ih =>
      intro f r hr hf
      obtain ⟨f, rfl⟩ : ∃ z, f = z + 1 := ⟨f - 1, by omega⟩
      have h16 := qR_16 (8 * s + r)
      show gf_X6_init_49 (f_X6_init_49 K tz_R tz_L f) K tz_R tz_L _ _ _ (nI s) _ _ = _
      unfold gf_X6_init_49
      rw [k_lenL s hs, pb1, if_neg (nI_ge (by omega) (by omega))]
      exact (k62 s hs r (by omega) (f_X6_init_49 K tz_R tz_L f) (qz_R (8 * s + r)) 1000 0 (by omega) (by omega)).trans (ih f (r + 1) (by omega) (by omega))
  have k38 : ∀ (d f s : Nat), s + d = 67 → d < f → f_X6_init_38 tz_R tz_L f (cut tz_H (8 * s)) (cut tz_F (8 * s)) (cut tz_E (8 * s)) (nI s) = some (tz_H, tz_F, tz_E) := by
    intro d
    induction d with
    | zero =>
      intro f s hs hf
      obtain ⟨f, rfl⟩ : ∃ z, f = z + 1 := ⟨f - 1, by omega⟩
      obtain rfl : s = 67 := by omega
      show gf_X6_init_38 (f_X6_init_38 tz_R tz_L f) tz_R tz_L _ _ _ (nI 67) = _
      unfold gf_X6_init_38
      rw [if_pos (by decide), show 8 * 67 = 536 from rfl, cut_all tH_out, cut_all tF_out, cut_all tE_out]
    | succ d ih =>
      intro f s hs hf
      obtain ⟨f, rfl⟩ : ∃ z, f = z + 1 := ⟨f - 1, by omega⟩
      have hs2 : s < 67 := by omega
      obtain ⟨l1, l2, l3⟩ := la_le s hs2
      show gf_X6_init_38 (f_X6_init_38 tz_R tz_L f) tz_R tz_L _ _ _ (nI s) = _
      unfold gf_X6_init_38
      rw [if_neg (show ¬ (67 : Int32) ≤ nI s from nI_ge (b := 67) hs2 (by decide))]
      exact (k49 s hs2 (f_X6_init_38 tz_R tz_L f) (qz_L s) 1000 0 (by omega) (by omega)).trans (ih f (s + 1) (by omega) (by omega))
  have e := k38 67 1000 0 (by omega) (by omega)
  rw [show 8 * 0 = 0 from rfl, cut0, cut0, cut0] at e
  exact e
def sgE (s q : Nat) : Int32 := if (tz_E (8 * s + q) - tz_E (8 * s + q) / 2 * 2) = 0 then 1 else -1
def pl (t : Nat) : Nat := qz_T t - qz_D (qz_S (qz_T t))
def tm (s p q : Nat) : Int32 := if p < qz_N (qz_S s) ∧ tz_R (8 * (qz_D (qz_S s) + p) + 0) = tz_H (8 * s + q) then sgE s q * tz_C (22 * qz_F (8 * s + q) + pl (qz_D (qz_S s) + p)) else 0
def pC (s p : Nat) : Nat → Int32
  | 0 => 0
  | q + 1 => pC s p q + tm s p q
def ct (s q p : Nat) : Nat → Int32 := fun j => if j < 22 * s then tz_C j else if j < 22 * s + 22 then (if j - 22 * s < p then pC s (j - 22 * s) (q + 1) else pC s (j - 22 * s) q) else 0
theorem pC_all : ∀ s, s < 67 → s = 0 ∨ (List.range 22).all (fun p => pC s p (qz_S s) == tz_C (22 * s + p)) = true := by decide +kernel
theorem pl_ok : ∀ t, t < 67 → qz_T t < 67 ∧ pl t < 22 := by decide +kernel
theorem F_less : ∀ s, s < 67 → ∀ q, q < qz_S s → qz_F (8 * s + q) < s := by decide +kernel
theorem k_heightBy8 : ∀ s, s < 67 → ∀ q, q < 8 → f_X6_heightBy tz_E (nI s) (nI q) = some (tz_E (8 * s + q)) := by decide +kernel
theorem k_restOf8 : ∀ s, s < 67 → f_X7_restOf tz_T (nI s) = some (tz_T s) := by decide +kernel
theorem ct_low {s q p j : Nat} (h : j < 22 * s) : ct s q p j = tz_C j := by unfold ct; rw [if_pos h]
theorem ct_step {s q p : Nat} (hp : p < 22) : upd (ct s q p) (22 * s + p) (ct s q p (22 * s + p) + tm s p q) = ct s q (p + 1) := by
  have e : ct s q p (22 * s + p) = pC s p q := by
    unfold ct
    rw [if_neg (by omega), if_pos (by omega), if_neg (by omega), Nat.add_sub_cancel_left]
  rw [e]
  funext j
  unfold upd
  by_cases c : j = 22 * s + p
  · subst c
    unfold ct
    rw [if_pos rfl, if_neg (by omega), if_pos (by omega), if_pos (by omega), Nat.add_sub_cancel_left]
    rfl
  · rw [if_neg c]
    unfold ct
    by_cases c1 : j < 22 * s
    · rw [if_pos c1, if_pos c1]
    · rw [if_neg c1, if_neg c1]
      by_cases c2 : j < 22 * s + 22
      · rw [if_pos c2, if_pos c2]
        by_cases c3 : j - 22 * s < p
        · rw [if_pos c3, if_pos (by omega)]
        · rw [if_neg c3, if_neg (by omega)]
      · rw [if_neg c2, if_neg c2]
theorem ct_same {s q p : Nat} (hp : p < 22) (h : tm s p q = 0) : ct s q p = ct s q (p + 1) := by
  rw [← ct_step hp, h, Int32.add_zero]
  funext j
  unfold upd
  by_cases c : j = 22 * s + p
  · rw [if_pos c, c]
  · rw [if_neg c]
theorem ct_end {s q n : Nat} (hn : n ≤ 22) (h : ∀ p, n ≤ p → p < 22 → tm s p q = 0) : ct s q n = ct s (q + 1) 0 := by
  have key : ∀ d n, n + d = 22 → (∀ p, n ≤ p → p < 22 → tm s p q = 0) → ct s q n = ct s q 22 := by
    intro d
    induction d with
    | zero =>
      intro n hn _
      obtain rfl : n = 22 := by omega
      rfl
    | succ d ih =>
      intro n hn h
      rw [ct_same (by omega) (h n (Nat.le_refl _) (by omega))]
      exact ih (n + 1) (by omega) (fun p h1 h2 => h p (by omega) h2)
  rw [key (22 - n) n (by omega) h]
  funext j
  unfold ct
  by_cases c1 : j < 22 * s
  · rw [if_pos c1, if_pos c1]
  · rw [if_neg c1, if_neg c1]
    by_cases c2 : j < 22 * s + 22
    · rw [if_pos c2, if_pos c2, if_pos (by omega), if_neg (by omega)]
    · rw [if_neg c2, if_neg c2]
theorem ct_next {s : Nat} (hs : s < 67) (hs0 : ¬ s = 0) : ct s (qz_S s) 0 = ct (s + 1) 0 0 := by
  have h := (pC_all s hs).resolve_left hs0
  funext j
  unfold ct
  by_cases c1 : j < 22 * s
  · rw [if_pos c1, if_pos (by omega)]
  · rw [if_neg c1]
    by_cases c2 : j < 22 * s + 22
    · rw [if_pos c2, if_neg (by omega), if_pos (by omega)]
      have e := eq_of_beq (List.all_eq_true.mp h (j - 22 * s) (List.mem_range.mpr (by omega)))
      rw [e]
      congr 1
      omega
    · rw [if_neg c2, if_neg (by omega)]
      by_cases c3 : j < 22 * (s + 1) + 22
      · rw [if_pos c3, if_neg (by omega)]; rfl
      · rw [if_neg c3]
theorem k_addRim {s q : Nat} (hs : s < 67) (hq : q < qz_S s) : f_X1_addRim tz_R tz_S tz_T (ct s q 0) (nI s) (tz_H (8 * s + q)) (nI (qz_F (8 * s + q))) (sgE s q) = some (ct s (q + 1) 0) := by
  obtain ⟨p1, p2, p3⟩ := shp s hs
  have hN := qN_le _ p1
  have hF := F_less s hs q hq
  have key : ∀ (d f p : Nat), p + d = qz_N (qz_S s) → d < f → f_X1_addRim_37 tz_R tz_S tz_T f (ct s q p) (nI s) (tz_H (8 * s + q)) (nI (qz_F (8 * s + q))) (sgE s q) (nI (qz_D (qz_S s))) (nI (qz_N (qz_S s))) (nI p) = some (ct s (q + 1) 0) := by
    intro d
    induction d with
    | zero =>
      intro f p hp hf
      obtain ⟨f, rfl⟩ : ∃ z, f = z + 1 := ⟨f - 1, by omega⟩
      obtain rfl : p = qz_N (qz_S s) := by omega
      show gf_X1_addRim_37 (f_X1_addRim_37 tz_R tz_S tz_T f) tz_R tz_S tz_T _ (nI s) _ _ _ _ _ _ = _
      unfold gf_X1_addRim_37
      rw [if_pos (Int32.le_refl _), ct_end hN (fun p h1 _ => by unfold tm; rw [if_neg (by omega)])]
    | succ d ih =>
      intro f p hp hf
      obtain ⟨f, rfl⟩ : ∃ z, f = z + 1 := ⟨f - 1, by omega⟩
      have e := ih f (p + 1) (by omega) (by omega)
      obtain ⟨hD, hD2⟩ := shD _ p1 p (show p < qz_N (qz_S s) by omega)
      obtain ⟨w1, w2⟩ := pl_ok _ hD
      show gf_X1_addRim_37 (f_X1_addRim_37 tz_R tz_S tz_T f) tz_R tz_S tz_T _ (nI s) _ _ _ _ _ _ = _
      unfold gf_X1_addRim_37
      rw [if_neg (nI_ge (by omega) (by omega)), if_neg (show ¬ (22 : Int32) ≤ nI p from nI_ge (b := 22) (by omega) (by decide)), nI_add, show f_X7_row tz_R (nI (qz_D (qz_S s) + p)) (0 : Int32) = some (tz_R (8 * (qz_D (qz_S s) + p) + 0)) from k_row _ hD 0 (by decide), pb1, show nI p + (1 : Int32) = nI (p + 1) from nI_1 p]
      by_cases c : tz_R (8 * (qz_D (qz_S s) + p) + 0) = tz_H (8 * s + q)
      · have et : tm s p q = sgE s q * tz_C (22 * qz_F (8 * s + q) + pl (qz_D (qz_S s) + p)) := by unfold tm; rw [if_pos ⟨by omega, c⟩]
        have eat : f_X1_at tz_S (ct s q p) (nI (qz_F (8 * s + q))) (tz_T (qz_D (qz_S s) + p)) = some (tz_C (22 * qz_F (8 * s + q) + pl (qz_D (qz_S s) + p))) := by
          unfold f_X1_at f_X1_atPlace f_X1_atPlace_26
          rw [show f_X7_placeOf tz_S (tz_T (qz_D (qz_S s) + p)) = some (nI (pl (qz_D (qz_S s) + p))) from k_placeOf _ w1, pb1, k_has _ (by omega), pb1, if_neg i10, if_neg (nI_pos (by omega)), if_neg (show ¬ (22 : Int32) ≤ nI (pl (qz_D (qz_S s) + p)) from nI_ge (b := 22) (by omega) (by decide)), if_neg i10, ix22, pinn (by omega) (by decide), pb1, nI_c _ (by omega), ct_low (by omega)]
        rw [if_pos c, ix22, pinn (by omega) (by decide), k_restOf8 _ hD, pb1, eat, pb1, pinn (by omega) (by decide), nI_c (22 * s + p) (by omega), ← et, ct_step (by omega)]
        exact e
      · rw [if_neg c, ct_same (p := p) (by omega) (by unfold tm; rw [if_neg (fun h => c h.2)])]
        exact e
  unfold f_X1_addRim
  rw [k_sizeN s hs, pb1, k_first7 _ p1, pb1, pb1, k_countOf _ p1, pb1]
  exact key (qz_N (qz_S s)) 1000 0 (by omega) (by omega)
theorem k_init1 : f_X1_init tz_R tz_S tz_T tz_H tz_F tz_E = some tz_C := by
  have k36 : ∀ s, s < 67 → ¬ s = 0 → ∀ (K : (Nat → Int32) → Int32 → Option (Nat → Int32)) (d f q : Nat), q + d = qz_S s → d < f → f_X1_init_36 K tz_R tz_S tz_T tz_H tz_F tz_E f (ct s q 0) (nI s) (nI q) = K (ct (s + 1) 0 0) (nI (s + 1)) := by
    intro s hs hs0 K d
    obtain ⟨l1, l2, l3⟩ := la_le s hs
    induction d with
    | zero =>
      intro f q hq hf
      obtain ⟨f, rfl⟩ : ∃ z, f = z + 1 := ⟨f - 1, by omega⟩
      obtain rfl : q = qz_S s := by omega
      show gf_X1_init_36 (f_X1_init_36 K tz_R tz_S tz_T tz_H tz_F tz_E f) K tz_R tz_S tz_T tz_H tz_F tz_E _ (nI s) _ = _
      unfold gf_X1_init_36
      rw [k_sizeN s hs, pb1, if_pos (Int32.le_refl _), ct_next hs hs0, show nI s + (1 : Int32) = nI (s + 1) from nI_1 s]
    | succ d ih =>
      intro f q hq hf
      obtain ⟨f, rfl⟩ : ∃ z, f = z + 1 := ⟨f - 1, by omega⟩
      have e := ih f (q + 1) (by omega) (by omega)
      have hF := F_less s hs q (by omega)
      have e63 : ∀ z, z = sgE s q → f_X1_init_63 (f_X1_init_36 K tz_R tz_S tz_T tz_H tz_F tz_E f) tz_R tz_S tz_T tz_H tz_F tz_E (ct s q 0) (nI s) (nI q) z = K (ct (s + 1) 0 0) (nI (s + 1)) := by
        intro z hz
        subst hz
        unfold f_X1_init_63
        rw [k_hookBy8 s hs q (by omega), pb1, k_leftBy s hs q (by omega), pb1, show f_X1_addRim tz_R tz_S tz_T (ct s q 0) (nI s) (tz_H (8 * s + q)) (tz_F (8 * s + q)) (sgE s q) = some (ct s (q + 1) 0) from k_addRim hs (by omega), pb1, show nI q + (1 : Int32) = nI (q + 1) from nI_1 q]
        exact e
      show gf_X1_init_36 (f_X1_init_36 K tz_R tz_S tz_T tz_H tz_F tz_E f) K tz_R tz_S tz_T tz_H tz_F tz_E _ (nI s) _ = _
      unfold gf_X1_init_36
      rw [k_sizeN s hs, pb1, if_neg (nI_ge (by omega) (by omega)), k_heightBy8 s hs q (by omega), pb1, pnz (by decide)]
      by_cases c : (tz_E (8 * s + q) - tz_E (8 * s + q) / 2 * 2) = 0
      · rw [if_pos c]
        exact e63 1 (by unfold sgE; rw [if_pos c])
      · rw [if_neg c]
        exact e63 (-1) (by unfold sgE; rw [if_neg c])
  have k27 : ∀ (d f s : Nat), s + d = 67 → d < f → ¬ s = 0 → f_X1_init_27 tz_R tz_S tz_T tz_H tz_F tz_E f (ct s 0 0) (nI s) = some tz_C := by
    intro d
    induction d with
    | zero =>
      intro f s hs hf hs0
      obtain ⟨f, rfl⟩ : ∃ z, f = z + 1 := ⟨f - 1, by omega⟩
      obtain rfl : s = 67 := by omega
      show gf_X1_init_27 (f_X1_init_27 tz_R tz_S tz_T tz_H tz_F tz_E f) tz_R tz_S tz_T tz_H tz_F tz_E _ (nI 67) = _
      unfold gf_X1_init_27
      rw [if_pos (by decide)]
      congr 1
      funext j
      unfold ct
      by_cases c : j < 22 * 67
      · rw [if_pos c]
      · rw [if_neg c]
        have e : tz_C j = 0 := by unfold tz_C; rw [if_neg c]
        rw [e]
        by_cases c2 : j < 22 * 67 + 22
        · rw [if_pos c2, if_neg (by omega)]; rfl
        · rw [if_neg c2]
    | succ d ih =>
      intro f s hs hf hs0
      obtain ⟨f, rfl⟩ : ∃ z, f = z + 1 := ⟨f - 1, by omega⟩
      have hs2 : s < 67 := by omega
      obtain ⟨l1, l2, l3⟩ := la_le s hs2
      show gf_X1_init_27 (f_X1_init_27 tz_R tz_S tz_T tz_H tz_F tz_E f) tz_R tz_S tz_T tz_H tz_F tz_E _ (nI s) = _
      unfold gf_X1_init_27
      rw [if_neg (show ¬ (67 : Int32) ≤ nI s from nI_ge (b := 67) hs2 (by decide))]
      exact (k36 s hs2 hs0 (f_X1_init_27 tz_R tz_S tz_T tz_H tz_F tz_E f) (qz_S s) 1000 0 (by omega) (by omega)).trans (ih f (s + 1) (by omega) (by omega) (by omega))
  have e0 : ∀ j, j < 22 → tz_C j = if j = 0 then 1 else 0 := by decide +kernel
  have ect : upd (fun _ => 0) 0 1 = ct 1 0 0 := by
    funext j
    unfold upd ct
    by_cases c : j < 22 * 1
    · rw [if_pos c, e0 j (by omega)]
    · rw [if_neg c, if_neg (by omega)]
      by_cases c2 : j < 22 * 1 + 22
      · rw [if_pos c2, if_neg (by omega)]; rfl
      · rw [if_neg c2]
  unfold f_X1_init
  rw [show (0 : Int32) = nI 0 from rfl, pinn (by omega) (by decide), nI_c 0 (by omega)]
  show f_X1_init_27 tz_R tz_S tz_T tz_H tz_F tz_E 1000 (upd (fun _ => 0) 0 1) (nI 1) = _
  rw [ect]
  exact k27 66 1000 1 (by omega) (by omega) (by omega)
theorem k_init8 : ∃ sz, f_X8_init = some (sz, fun _ => 0, fun _ => 0, 0, 0, 0) ∧ ∀ j, j < 17 → sz j = -1 := by
  have key : ∀ (d f s : Nat) (sz : Nat → Int32), s + d = 17 → d < f → (∀ j, j < s → sz j = -1) → ∃ sz', f_X8_init_31 f sz (fun _ => 0) (fun _ => 0) 0 0 0 (nI s) = some (sz', fun _ => 0, fun _ => 0, 0, 0, 0) ∧ ∀ j, j < 17 → sz' j = -1 := by
    intro d
    induction d with
    | zero =>
      intro f s sz hs hf h
      obtain ⟨f, rfl⟩ : ∃ z, f = z + 1 := ⟨f - 1, by omega⟩
      obtain rfl : s = 17 := by omega
      refine ⟨sz, ?_, h⟩
      show gf_X8_init_31 (f_X8_init_31 f) sz _ _ _ _ _ (nI 17) = _
      unfold gf_X8_init_31
      rw [if_pos (by decide)]
    | succ d ih =>
      intro f s sz hs hf h
      obtain ⟨f, rfl⟩ : ∃ z, f = z + 1 := ⟨f - 1, by omega⟩
      obtain ⟨sz', e, g⟩ := ih f (s + 1) (upd sz s (-1)) (by omega) (by omega) (fun j hj => by
        unfold upd
        by_cases c : j = s
        · rw [if_pos c]
        · rw [if_neg c]; exact h j (by omega))
      refine ⟨sz', ?_, g⟩
      show gf_X8_init_31 (f_X8_init_31 f) sz _ _ _ _ _ (nI s) = _
      unfold gf_X8_init_31
      rw [if_neg (show ¬ (17 : Int32) ≤ nI s from nI_ge (b := 17) (by omega) (by decide)), pinn (by omega) (by decide), nI_c s (by omega), show nI s + (1 : Int32) = nI (s + 1) from nI_1 s]
      exact e
  exact key 17 1000 0 (fun _ => 0) (by omega) (by omega) (fun j hj => by omega)
theorem k_init4 : ∃ lens, f_X4_init = some (fun _ => 0, lens) ∧ ∀ j, j < 3 → lens j = -1 := by
  have key : ∀ (d f s : Nat) (sz : Nat → Int32), s + d = 3 → d < f → (∀ j, j < s → sz j = -1) → ∃ sz', f_X4_init_21 f (fun _ => 0) sz (nI s) = some (fun _ => 0, sz') ∧ ∀ j, j < 3 → sz' j = -1 := by
    intro d
    induction d with
    | zero =>
      intro f s sz hs hf h
      obtain ⟨f, rfl⟩ : ∃ z, f = z + 1 := ⟨f - 1, by omega⟩
      obtain rfl : s = 3 := by omega
      refine ⟨sz, ?_, h⟩
      show gf_X4_init_21 (f_X4_init_21 f) _ sz (nI 3) = _
      unfold gf_X4_init_21
      rw [if_pos (by decide)]
    | succ d ih =>
      intro f s sz hs hf h
      obtain ⟨f, rfl⟩ : ∃ z, f = z + 1 := ⟨f - 1, by omega⟩
      obtain ⟨sz', e, g⟩ := ih f (s + 1) (upd sz s (-1)) (by omega) (by omega) (fun j hj => by
        unfold upd
        by_cases c : j = s
        · rw [if_pos c]
        · rw [if_neg c]; exact h j (by omega))
      refine ⟨sz', ?_, g⟩
      show gf_X4_init_21 (f_X4_init_21 f) _ sz (nI s) = _
      unfold gf_X4_init_21
      rw [if_neg (show ¬ (3 : Int32) ≤ nI s from nI_ge (b := 3) (by omega) (by decide)), pinn (by omega) (by decide), nI_c s (by omega), show nI s + (1 : Int32) = nI (s + 1) from nI_1 s]
      exact e
  exact key 3 1000 0 (fun _ => 0) (by omega) (by omega) (fun j hj => by omega)
