/-! the start: tables of the model -/
theorem tD_out : ∀ j, 10 ≤ j → tz_D j = 0 := fun j h => by unfold tz_D qz_D; rw [sh0 (N := 10) (by decide +kernel) h]; rfl
theorem tM_out : ∀ j, 4489 ≤ j → tz_M j = 0 := fun j h => by unfold tz_M; rw [if_neg (by omega)]
theorem m_rowCut {M a k : Nat} (ha : a < 67) (hk : k < 8) (h : 8 * a + k < M) : f_X10_rowOf (cut tz_R M) (nI a) (nI k) = some (tz_R (8 * a + k)) := by
  unfold f_X10_rowOf cut
  rw [show (8 : Int32) * nI a = nI (8 * a) from nI_mul2 8 a, nI_add, pinn (by omega) (by decide), nI_c _ (by omega), if_pos h]
/-- the last row above 1 of the shape ahead -/
def kk (a : Nat) : Nat := ((List.range (qz_L (a - 1))).filter (fun k => qz_R (8 * (a - 1) + k) != 1)).length - 1
def lk (a k : Nat) : Nat := qz_S a - rsum a k
def f1 (a : Nat) : Bool := decide (kk a < qz_L (a - 1)) && (decide (¬ qz_R (8 * (a - 1) + kk a) = 1) && (decide (qz_R (8 * a + kk a) + 1 = qz_R (8 * (a - 1) + kk a)) && (decide (lk a (kk a + 1) = qz_L (a - 1) - kk a) && decide (kk a + 1 ≤ qz_L a))))
def f2 (a k : Nat) : Bool := decide (¬ (kk a < k ∧ k < qz_L (a - 1)) ∨ qz_R (8 * (a - 1) + k) = 1) && (decide (¬ k < kk a ∨ qz_R (8 * a + k) = qz_R (8 * (a - 1) + k)) && decide (¬ (kk a < k ∧ k < qz_L a) ∨ (0 < lk a k ∧ qz_R (8 * a + k) = (if lk a k < qz_R (8 * a + kk a) then lk a k else qz_R (8 * a + kk a)) ∧ rsum a (k + 1) ≤ qz_S a)))
theorem f1_all : ∀ a, a < 67 → a ≤ qz_D (qz_S a) ∨ f1 a = true := by decide +kernel
theorem f2_all : ∀ a, a < 67 → a ≤ qz_D (qz_S a) ∨ (List.range 8).all (fun k => f2 a k) = true := by decide +kernel
theorem m_follows {a : Nat} (ha : a < 67) (h : qz_D (qz_S a) < a) : f_X10_follows (cut tz_L a) (cut tz_R (8 * a)) (nI a) = some (cut tz_L (a + 1), cut tz_R (8 * (a + 1))) := by
  have g1 := (f1_all a ha).resolve_left (by omega)
  have g2 := (f2_all a ha).resolve_left (by omega)
  unfold f1 at g1
  simp only [Bool.and_eq_true, decide_eq_true_eq] at g1
  obtain ⟨p1, p2, p3, p4, p5⟩ := g1
  have g3 : ∀ k, k < 8 → (¬ (kk a < k ∧ k < qz_L (a - 1)) ∨ qz_R (8 * (a - 1) + k) = 1) ∧ (¬ k < kk a ∨ qz_R (8 * a + k) = qz_R (8 * (a - 1) + k)) ∧ (¬ (kk a < k ∧ k < qz_L a) ∨ (0 < lk a k ∧ qz_R (8 * a + k) = (if lk a k < qz_R (8 * a + kk a) then lk a k else qz_R (8 * a + kk a)) ∧ rsum a (k + 1) ≤ qz_S a)) := by
    intro k hk
    have e := List.all_eq_true.mp g2 k (List.mem_range.mpr hk)
    unfold f2 at e
    simp only [Bool.and_eq_true, decide_eq_true_eq] at e
    exact e
  obtain ⟨l1, l2, l3⟩ := la_le a ha
  obtain ⟨o1, o2, o3⟩ := la_le (a - 1) (by omega)
  obtain ⟨r1, r2⟩ := rsum_all a ha
  have ea : nI a - (1 : Int32) = nI (a - 1) := nI_sub2 (b := 1) (by omega)
  -- what is left follows
  have k98 : ∀ (d f k : Nat), k + d = qz_L a → d < f → kk a < k → f_X10_follows_98 f (cut tz_L a) (cut tz_R (8 * a + k)) (nI a) (nI k) (nI (lk a k)) (tz_R (8 * a + kk a)) = some (cut tz_L (a + 1), cut tz_R (8 * (a + 1))) := by
    intro d
    induction d with
    | zero =>
      intro f k hk hf hkk
      obtain ⟨f, rfl⟩ : ∃ z, f = z + 1 := ⟨f - 1, by omega⟩
      obtain rfl : k = qz_L a := by omega
      show gf_X10_follows_98 (f_X10_follows_98 f) _ _ (nI a) _ _ _ = _
      unfold gf_X10_follows_98
      rw [if_pos (show nI (lk a (qz_L a)) ≤ 0 by unfold lk; rw [r1, Nat.sub_self]; decide), pinn ha (by decide), nI_c a (by omega), show nI (qz_L a) = tz_L a from rfl, cutS, cut_skip (T := tz_R) (n := 8 * a + qz_L a) (m := 8 * (a + 1)) (by omega) (fun j h1 h2 => by
        obtain ⟨k, rfl⟩ : ∃ k, j = 8 * a + k := ⟨j - 8 * a, by omega⟩
        exact (tR_row a ha k (by omega)).1 (by omega))]
    | succ d ih =>
      intro f k hk hf hkk
      obtain ⟨f, rfl⟩ : ∃ z, f = z + 1 := ⟨f - 1, by omega⟩
      obtain ⟨_, _, q3⟩ := g3 k (by omega)
      obtain ⟨q4, q5, q6⟩ := q3.resolve_left (by omega)
      have h16 := qR_16 (8 * a + kk a)
      have hlk : lk a k ≤ 8 := by unfold lk; omega
      have emin : (if nI (lk a k) < tz_R (8 * a + kk a) then nI (lk a k) else tz_R (8 * a + kk a)) = tz_R (8 * a + k) := by
        unfold tz_R
        rw [q5]
        by_cases c : lk a k < qz_R (8 * a + kk a)
        · rw [if_pos c, if_pos (nI_lt c (by omega))]
        · rw [if_neg c, if_neg (nI_nlt (by omega) (by omega))]
      have ers : rsum a (k + 1) = rsum a k + qz_R (8 * a + k) := rfl
      have elk : nI (lk a k) - tz_R (8 * a + k) = nI (lk a (k + 1)) := by
        unfold tz_R
        rw [nI_sub2 (by unfold lk; omega)]
        congr 1
        unfold lk
        omega
      show gf_X10_follows_98 (f_X10_follows_98 f) _ _ (nI a) _ _ _ = _
      unfold gf_X10_follows_98
      rw [if_neg (nI_nle q4 (by omega)), emin, elk, show (8 : Int32) * nI a = nI (8 * a) from nI_mul2 8 a, nI_add, pinn (by omega) (by decide), nI_c _ (by omega), cutS, show nI k + (1 : Int32) = nI (k + 1) from nI_1 k]
      exact ih f (k + 1) (by omega) (by omega) (by omega)
  have k37 : ∀ (d f i : Nat), i + d = kk a → d < f → f_X10_follows_37 f (cut tz_L a) (cut tz_R (8 * a + i)) (nI a) (nI (kk a)) (nI (qz_L (a - 1) - kk a)) (nI i) = some (cut tz_L (a + 1), cut tz_R (8 * (a + 1))) := by
    intro d
    induction d with
    | zero =>
      intro f i hi hf
      obtain ⟨f, rfl⟩ : ∃ z, f = z + 1 := ⟨f - 1, by omega⟩
      obtain rfl : i = kk a := by omega
      show gf_X10_follows_37 (f_X10_follows_37 f) _ _ (nI a) _ _ _ = _
      unfold gf_X10_follows_37
      have ep : tz_R (8 * (a - 1) + kk a) - (1 : Int32) = tz_R (8 * a + kk a) := by
        unfold tz_R
        rw [← p3]
        exact nI_pred _
      rw [if_pos (Int32.le_refl _), ea, m_rowCut (by omega) (by omega) (by omega), pb1, ep, show (8 : Int32) * nI a = nI (8 * a) from nI_mul2 8 a, nI_add, pinn (by omega) (by decide), nI_c _ (by omega), cutS, show nI (kk a) + (1 : Int32) = nI (kk a + 1) from nI_1 _, ← p4]
      exact k98 (qz_L a - (kk a + 1)) 1000 (kk a + 1) (by omega) (by omega) (by omega)
    | succ d ih =>
      intro f i hi hf
      obtain ⟨f, rfl⟩ : ∃ z, f = z + 1 := ⟨f - 1, by omega⟩
      obtain ⟨_, q2, _⟩ := g3 i (by omega)
      have q2 := q2.resolve_left (by omega)
      show gf_X10_follows_37 (f_X10_follows_37 f) _ _ (nI a) _ _ _ = _
      unfold gf_X10_follows_37
      rw [if_neg (nI_ge (by omega) (by omega)), ea, m_rowCut (by omega) (by omega) (by omega), pb1, show tz_R (8 * (a - 1) + i) = tz_R (8 * a + i) by unfold tz_R; rw [q2], show (8 : Int32) * nI a = nI (8 * a) from nI_mul2 8 a, nI_add, pinn (by omega) (by decide), nI_c _ (by omega), cutS, show nI i + (1 : Int32) = nI (i + 1) from nI_1 _]
      exact ih f (i + 1) (by omega) (by omega)
  have k13 : ∀ (d f k : Nat), kk a + d = k → d < f → k < qz_L (a - 1) → f_X10_follows_13 f (cut tz_L a) (cut tz_R (8 * a)) (nI a) (nI k) (nI (qz_L (a - 1) - k)) = some (cut tz_L (a + 1), cut tz_R (8 * (a + 1))) := by
    intro d
    induction d with
    | zero =>
      intro f k hk hf hkl
      obtain ⟨f, rfl⟩ : ∃ z, f = z + 1 := ⟨f - 1, by omega⟩
      obtain rfl : k = kk a := by omega
      have h16 := qR_16 (8 * (a - 1) + kk a)
      show gf_X10_follows_13 (f_X10_follows_13 f) _ _ (nI a) _ _ = _
      unfold gf_X10_follows_13
      rw [ea, m_rowCut (by omega) (by omega) (by omega), pb1, if_neg (show ¬ tz_R (8 * (a - 1) + kk a) = (1 : Int32) from fun e => p2 ((nI_eq (b := 1) (by omega) (by decide)).mp e))]
      exact k37 (kk a) 1000 0 (by omega) (by omega)
    | succ d ih =>
      intro f k hk hf hkl
      obtain ⟨f, rfl⟩ : ∃ z, f = z + 1 := ⟨f - 1, by omega⟩
      obtain ⟨q1, _, _⟩ := g3 k (by omega)
      have q1 := q1.resolve_left (by omega)
      show gf_X10_follows_13 (f_X10_follows_13 f) _ _ (nI a) _ _ = _
      unfold gf_X10_follows_13
      obtain ⟨k, rfl⟩ : ∃ z, k = z + 1 := ⟨k - 1, by omega⟩
      rw [ea, m_rowCut (by omega) (by omega) (by omega), pb1, if_pos (show tz_R (8 * (a - 1) + (k + 1)) = (1 : Int32) by unfold tz_R; rw [q1]; rfl), nIpred, show nI (qz_L (a - 1) - (k + 1)) + (1 : Int32) = nI (qz_L (a - 1) - (k + 1) + 1) from nI_1 _, show qz_L (a - 1) - (k + 1) + 1 = qz_L (a - 1) - k by omega]
      exact ih f k (by omega) (by omega) (by omega)
  unfold f_X10_follows
  have e := k13 (qz_L (a - 1) - 1 - kk a) 1000 (qz_L (a - 1) - 1) (by omega) (by omega) (by omega)
  rw [show qz_L (a - 1) - (qz_L (a - 1) - 1) = 1 by omega] at e
  have ec : cut tz_L a (a - 1) = nI (qz_L (a - 1)) := by unfold cut; rw [if_pos (by omega)]; rfl
  rw [ea, pinn (show a - 1 < 67 by omega) (by decide), nI_c (a - 1) (by omega), ec, show nI (qz_L (a - 1)) - (1 : Int32) = nI (qz_L (a - 1) - 1) from nI_sub2 (b := 1) (by omega)]
  exact e
theorem first_all : ∀ n, n < 9 → qz_D n < 67 ∧ qz_R (8 * qz_D n) = n ∧ qz_L (qz_D n) = (if n = 0 then 0 else 1) := by decide +kernel
theorem k218 {vsum vcoef : Nat → Int32} {vun : Int32} {vws vwc : Nat → Int32} {vhi : Int32} {vle : Nat → Int32} {vls : Int32} {vli vce vrf : Nat → Int32} {vth : Nat → Int64} {vat vrs : Int32} {vch vt : Nat → Int32} {vl vh : Int32} (g : Nat) {n : Nat} (hn : n < 9) : ∀ (d f i : Nat), i + d = qz_N n → d < f → f_X10_init_218 (f_X10_init_205 g) f tz_D (cut tz_S (qz_D n + i)) (cut tz_L (qz_D n + i)) (cut tz_R (8 * (qz_D n + i))) vch vsum vcoef vun vws vwc vhi vle vls vli vce vrf vt vl vh vth vat vrs (nI n) (nI (qz_D n + i)) = f_X10_init_205 g tz_D (cut tz_S (qz_D (n + 1))) (cut tz_L (qz_D (n + 1))) (cut tz_R (8 * qz_D (n + 1))) vch vsum vcoef vun vws vwc vhi vle vls vli vce vrf vt vl vh vth vat vrs (nI (n + 1)) := by
  obtain ⟨hD, hD2⟩ := qD_step n hn
  intro d
  induction d with
  | zero =>
    intro f i hi hf
    obtain ⟨f, rfl⟩ : ∃ z, f = z + 1 := ⟨f - 1, by omega⟩
    obtain rfl : i = qz_N n := by omega
    show gf_X10_init_218 (f_X10_init_218 (f_X10_init_205 g) f) (f_X10_init_205 g) tz_D _ _ _ vch vsum vcoef vun vws vwc vhi vle vls vli vce vrf vt vl vh vth vat vrs (nI n) _ = _
    unfold gf_X10_init_218
    rw [show nI n + (1 : Int32) = nI (n + 1) from nI_1 n, pinn (by omega) (by decide), nI_c (n + 1) (by omega), if_pos (show tz_D (n + 1) ≤ nI (qz_D n + qz_N n) from nI_le (by omega) (by omega)), ← hD]
  | succ d ih =>
    intro f i hi hf
    obtain ⟨f, rfl⟩ : ∃ z, f = z + 1 := ⟨f - 1, by omega⟩
    have e := ih f (i + 1) (by omega) (by omega)
    obtain ⟨s1, s2⟩ := shD n hn i (by omega)
    have eS : upd (cut tz_S (qz_D n + i)) (qz_D n + i) (nI n) = cut tz_S (qz_D n + (i + 1)) := by
      rw [show nI n = tz_S (qz_D n + i) by unfold tz_S; rw [s2], cutS]
      rfl
    show gf_X10_init_218 (f_X10_init_218 (f_X10_init_205 g) f) (f_X10_init_205 g) tz_D _ _ _ vch vsum vcoef vun vws vwc vhi vle vls vli vce vrf vt vl vh vth vat vrs (nI n) _ = _
    unfold gf_X10_init_218
    rw [show nI n + (1 : Int32) = nI (n + 1) from nI_1 n, pinn (by omega) (by decide), nI_c (n + 1) (by omega), if_neg (show ¬ tz_D (n + 1) ≤ nI (qz_D n + i) from nI_ge (by omega) (by omega)), pinn s1 (by decide), pinn (by omega) (by decide), nI_c n (by omega), nI_c (qz_D n + i) (by omega), eS]
    by_cases c : i = 0
    · subst c
      obtain ⟨w1, w2, w3⟩ := first_all n hn
      rw [if_pos (show nI (qz_D n + 0) = tz_D n from rfl)]
      have e261 : ∀ z, z = tz_L (qz_D n + 0) → f_X10_init_261 (f_X10_init_218 (f_X10_init_205 g) f) tz_D (cut tz_S (qz_D n + (0 + 1))) (cut tz_L (qz_D n + 0)) (cut tz_R (8 * (qz_D n + 0))) vch vsum vcoef vun vws vwc vhi vle vls vli vce vrf vt vl vh vth vat vrs (nI n) (nI (qz_D n + 0)) z (nI (qz_D n + 0)) = f_X10_init_205 g tz_D (cut tz_S (qz_D (n + 1))) (cut tz_L (qz_D (n + 1))) (cut tz_R (8 * qz_D (n + 1))) vch vsum vcoef vun vws vwc vhi vle vls vli vce vrf vt vl vh vth vat vrs (nI (n + 1)) := by
        intro z hz
        subst hz
        unfold f_X10_init_261
        rw [pinn s1 (by decide), show (8 : Int32) * nI (qz_D n + 0) = nI (8 * (qz_D n + 0)) from nI_mul2 8 _, pinn (by omega) (by decide), nI_c (qz_D n + 0) (by omega), nI_c (8 * (qz_D n + 0)) (by omega), cutS, show nI n = tz_R (8 * (qz_D n + 0)) by unfold tz_R; rw [Nat.add_zero, w2], cutS, show nI (qz_D n + 0) + (1 : Int32) = nI (qz_D n + (0 + 1)) from nI_1 _, cut_skip (T := tz_R) (n := 8 * (qz_D n + 0) + 1) (m := 8 * (qz_D n + (0 + 1))) (by omega) (fun j h1 h2 => by
          obtain ⟨k, rfl⟩ : ∃ k, j = 8 * qz_D n + k := ⟨j - 8 * qz_D n, by omega⟩
          exact (tR_row _ w1 k (by omega)).1 (by rw [w3]; by_cases cc : n = 0; { rw [if_pos cc]; omega }; { rw [if_neg cc]; omega })), show tz_R (8 * (qz_D n + 0)) = nI n by unfold tz_R; rw [Nat.add_zero, w2]]
        exact e
      by_cases c0 : n = 0
      · rw [if_pos (show nI n ≤ 0 by rw [c0]; decide)]
        exact e261 0 (by unfold tz_L; rw [Nat.add_zero, w3, if_pos c0]; rfl)
      · rw [if_neg (nI_nle (by omega) (by omega))]
        exact e261 1 (by unfold tz_L; rw [Nat.add_zero, w3, if_neg c0]; rfl)
    · rw [if_neg (show ¬ nI (qz_D n + i) = tz_D n from fun h => c (by have := (nI_eq (a := qz_D n + i) (b := qz_D n) (by omega) (by omega)).mp h; omega)), m_follows s1 (by rw [s2]; omega), pb2, show nI (qz_D n + i) + (1 : Int32) = nI (qz_D n + (i + 1)) from nI_1 _]
      exact e
theorem k205 {vsum vcoef : Nat → Int32} {vun : Int32} {vws vwc : Nat → Int32} {vhi : Int32} {vle : Nat → Int32} {vls : Int32} {vli vce vrf : Nat → Int32} {vth : Nat → Int64} {vat vrs : Int32} {vch vt : Nat → Int32} {vl vh : Int32} : ∀ (d f n : Nat), n + d = 9 → d < f → f_X10_init_205 f tz_D (cut tz_S (qz_D n)) (cut tz_L (qz_D n)) (cut tz_R (8 * qz_D n)) vch vsum vcoef vun vws vwc vhi vle vls vli vce vrf vt vl vh vth vat vrs (nI n) = f_X10_init_294 1000 tz_D tz_S tz_L tz_R vch vsum vcoef vun vws vwc vhi vle vls vli vce vrf vt vl vh vth vat vrs 0 := by
  intro d
  induction d with
  | zero =>
    intro f n hn hf
    obtain ⟨f, rfl⟩ : ∃ z, f = z + 1 := ⟨f - 1, by omega⟩
    obtain rfl : n = 9 := by omega
    show gf_X10_init_205 (f_X10_init_205 f) tz_D _ _ _ vch vsum vcoef vun vws vwc vhi vle vls vli vce vrf vt vl vh vth vat vrs (nI 9) = _
    unfold gf_X10_init_205
    rw [if_pos (by decide), show qz_D 9 = 67 by decide, show 8 * 67 = 536 from rfl, cut_all tR_out, cut_all tL_out, cut_all tS_out]
  | succ d ih =>
    intro f n hn hf
    obtain ⟨f, rfl⟩ : ∃ z, f = z + 1 := ⟨f - 1, by omega⟩
    have hN := qN_le n (by omega)
    show gf_X10_init_205 (f_X10_init_205 f) tz_D _ _ _ vch vsum vcoef vun vws vwc vhi vle vls vli vce vrf vt vl vh vth vat vrs (nI n) = _
    unfold gf_X10_init_205
    rw [if_neg (show ¬ (8 : Int32) < nI n from nI_nlt (a := 8) (by omega) (by decide)), pinn (by omega) (by decide), nI_c n (by omega)]
    exact (k218 f (show n < 9 by omega) (qz_N n) 1000 0 (by omega) (by omega)).trans (ih f (n + 1) (by omega) (by omega))
/-! the model's characters -/
def sgM (a q : Nat) : Int32 := if (tz_E (8 * a + q) - tz_E (8 * a + q) / 2 * 2) = 1 then -1 else 1
def pS (a b : Nat) : Nat → Int32
  | 0 => 0
  | i + 1 => pS a b i + sgM a (qcell a (qz_R (8 * b)) i) * tz_M (67 * qz_F (8 * a + qcell a (qz_R (8 * b)) i) + qz_T b)
theorem pS_all : ∀ a, a < 67 → ∀ b, b < 67 → ¬ qz_S a = qz_S b ∨ b = 0 ∨ pS a b (qcnt a (qz_R (8 * b))) = tz_M (67 * a + b) := by decide +kernel
theorem tM_zero : ∀ a, a < 67 → ∀ b, b < 67 → qz_S a = qz_S b ∨ tz_M (67 * a + b) = 0 := by decide +kernel
theorem L_pos : ∀ b, b < 67 → b = 0 ∨ (1 ≤ qz_L b ∧ 1 ≤ qz_R (8 * b) ∧ qz_R (8 * b) < 9) := by decide +kernel
theorem T_rows : ∀ b, b < 67 → ∀ k, k < 8 → qz_R (8 * qz_T b + k) = if k + 1 < qz_L b then qz_R (8 * b + (k + 1)) else 0 := by decide +kernel
theorem m_characterOf {a b : Nat} (ha : a < 67) (hb : b < 67) (hs : qz_S a = qz_S b) (t : Nat → Int32) (l h : Int32) : ∃ t' l' h', f_X10_characterOf tz_L tz_R (cut tz_M (67 * a + b)) t l h (nI a) (nI b) = some (tz_M (67 * a + b), t', l', h') := by
  by_cases c0 : b = 0
  · subst c0
    have ea : a = 0 := by
      have h1 : ∀ a, a < 67 → qz_S a = qz_S 0 → a = 0 := by decide +kernel
      exact h1 a ha hs
    subst ea
    refine ⟨t, l, h, ?_⟩
    unfold f_X10_characterOf
    rw [pinn (by omega) (by decide), nI_c 0 (by omega), if_pos (by decide), show tz_M (67 * 0 + 0) = 1 by decide +kernel]
  obtain ⟨w1, w2, w3⟩ := (L_pos b hb).resolve_left c0
  obtain ⟨l1, l2, l3⟩ := la_le b hb
  have hpS := ((pS_all a ha b hb).resolve_left (fun h => h hs)).resolve_left c0
  obtain ⟨y1, -⟩ := pl_ok b hb
  have hcnt := qcnt_le a ha (qz_R (8 * b)) w3
  have k79 : ∀ (d f i : Nat) (t : Nat → Int32) (l h : Int32), i + d = qcnt a (qz_R (8 * b)) → d < f → ∃ t' l' h', f_X10_characterOf_79 tz_L tz_R (cut tz_M (67 * a + b)) f t l h (nI a) (nI (qz_R (8 * b))) (nI (qz_T b)) (pS a b i) (nI (qcnt a (qz_R (8 * b)))) (nI i) = some (tz_M (67 * a + b), t', l', h') := by
    intro d
    induction d with
    | zero =>
      intro f i t l h hi hf
      obtain ⟨f, rfl⟩ : ∃ z, f = z + 1 := ⟨f - 1, by omega⟩
      obtain rfl : i = qcnt a (qz_R (8 * b)) := by omega
      refine ⟨t, l, h, ?_⟩
      show gf_X10_characterOf_79 (f_X10_characterOf_79 tz_L tz_R _ f) tz_L tz_R _ t l h (nI a) _ _ _ _ _ = _
      unfold gf_X10_characterOf_79
      rw [if_pos (Int32.le_refl _), hpS]
    | succ d ih =>
      intro f i t l h hi hf
      obtain ⟨f, rfl⟩ : ∃ z, f = z + 1 := ⟨f - 1, by omega⟩
      obtain ⟨t1, e1⟩ := m_rimOf_one a ha (qz_R (8 * b)) w3 w2 i (by omega) t l h
      have hq := qcell_lt a ha (qz_R (8 * b)) w3 i (by omega)
      have hF := F_less a ha _ hq
      have hS8 := qS_le a ha
      obtain ⟨t', l', h', e⟩ := ih f (i + 1) t1 (tz_F (8 * a + qcell a (qz_R (8 * b)) i)) (tz_E (8 * a + qcell a (qz_R (8 * b)) i)) (by omega) (by omega)
      refine ⟨t', l', h', ?_⟩
      have e113 : ∀ z, z = sgM a (qcell a (qz_R (8 * b)) i) → f_X10_characterOf_113 (f_X10_characterOf_79 tz_L tz_R (cut tz_M (67 * a + b)) f) tz_L tz_R (cut tz_M (67 * a + b)) t1 (tz_F (8 * a + qcell a (qz_R (8 * b)) i)) (tz_E (8 * a + qcell a (qz_R (8 * b)) i)) (nI a) (nI (qz_R (8 * b))) (nI (qz_T b)) (nI (qcnt a (qz_R (8 * b)))) (nI i) z (pS a b i) = some (tz_M (67 * a + b), t', l', h') := by
        intro z hz
        subst hz
        unfold f_X10_characterOf_113
        have ec : cut tz_M (67 * a + b) (67 * qz_F (8 * a + qcell a (qz_R (8 * b)) i) + qz_T b) = tz_M (67 * qz_F (8 * a + qcell a (qz_R (8 * b)) i) + qz_T b) := by unfold cut; rw [if_pos (by omega)]
        rw [show (67 : Int32) * tz_F (8 * a + qcell a (qz_R (8 * b)) i) + nI (qz_T b) = nI (67 * qz_F (8 * a + qcell a (qz_R (8 * b)) i) + qz_T b) from ix67 _ _, pinn (by omega) (by decide), nI_c _ (by omega), ec, show nI i + (1 : Int32) = nI (i + 1) from nI_1 i]
        exact e
      show gf_X10_characterOf_79 (f_X10_characterOf_79 tz_L tz_R _ f) tz_L tz_R _ t l h (nI a) _ _ _ _ _ = _
      unfold gf_X10_characterOf_79
      rw [if_neg (nI_ge (by omega) (by omega)), e1, pb4, pnz (by decide)]
      by_cases c : (tz_E (8 * a + qcell a (qz_R (8 * b)) i) - tz_E (8 * a + qcell a (qz_R (8 * b)) i) / 2 * 2) = 1
      · rw [if_pos c]
        exact e113 (-1) (by unfold sgM; rw [if_pos c])
      · rw [if_neg c]
        exact e113 1 (by unfold sgM; rw [if_neg c])
  have k25 : ∀ (d f r : Nat) (t : Nat → Int32), r + 1 + d = qz_L b → d < f → (∀ k, k < 8 → t k = if k < r then tz_R (8 * b + (k + 1)) else 0) → ∃ t' l' h', f_X10_characterOf_25 tz_L tz_R (cut tz_M (67 * a + b)) f t l h (nI a) (nI b) (nI (qz_R (8 * b))) (nI (r + 1)) = some (tz_M (67 * a + b), t', l', h') := by
    intro d
    induction d with
    | zero =>
      intro f r t hr hf ht
      obtain ⟨f, rfl⟩ : ∃ z, f = z + 1 := ⟨f - 1, by omega⟩
      obtain ⟨t1, q1, q2, e1⟩ := m_rimOf_all a ha (qz_R (8 * b)) w3 w2 t l h
      obtain ⟨t', l', h', e⟩ := k79 (qcnt a (qz_R (8 * b))) 1000 0 t1 q1 q2 (by omega) (by omega)
      refine ⟨t', l', h', ?_⟩
      show gf_X10_characterOf_25 (f_X10_characterOf_25 tz_L tz_R _ f) tz_L tz_R _ t l h (nI a) (nI b) _ _ = _
      unfold gf_X10_characterOf_25
      rw [pinn hb (by decide), nI_c b (by omega), if_pos (show tz_L b ≤ nI (r + 1) from nI_le (by omega) (by omega)), st_hit (s := qz_T b) y1 (fun k hk => by
        rw [ht k hk]
        unfold tz_R
        rw [T_rows b hb k hk]
        by_cases c : k < r
        · rw [if_pos c, if_pos (by omega)]
        · rw [if_neg c, if_neg (by omega)]; rfl), pb1, e1, pb4]
      exact e
    | succ d ih =>
      intro f r t hr hf ht
      obtain ⟨f, rfl⟩ : ∃ z, f = z + 1 := ⟨f - 1, by omega⟩
      obtain ⟨t', l', h', e⟩ := ih f (r + 1) (upd t r (tz_R (8 * b + (r + 1)))) (by omega) (by omega) (fun k hk => by
        unfold upd
        by_cases c : k = r
        · subst c; rw [if_pos rfl, if_pos (by omega)]
        · rw [if_neg c, ht k hk]
          by_cases c2 : k < r
          · rw [if_pos c2, if_pos (by omega)]
          · rw [if_neg c2, if_neg (by omega)])
      refine ⟨t', l', h', ?_⟩
      show gf_X10_characterOf_25 (f_X10_characterOf_25 tz_L tz_R _ f) tz_L tz_R _ t l h (nI a) (nI b) _ _ = _
      unfold gf_X10_characterOf_25
      rw [pinn hb (by decide), nI_c b (by omega), if_neg (show ¬ tz_L b ≤ nI (r + 1) from nI_ge (by omega) (by omega)), m_rowOf b hb (r + 1) (by omega), pb1, show nI (r + 1) - (1 : Int32) = nI r from nI_pred r, pinn (by omega) (by decide), nI_c r (by omega), show nI (r + 1) + (1 : Int32) = nI (r + 1 + 1) from nI_1 _]
      exact e
  obtain ⟨t0, et0, ht0⟩ := m_triesNone t
  obtain ⟨t', l', h', e⟩ := k25 (qz_L b - 1) 1000 0 t0 (by omega) (by omega) (fun k hk => by rw [if_neg (by omega)]; exact ht0 k (by omega))
  refine ⟨t', l', h', ?_⟩
  unfold f_X10_characterOf
  rw [pinn hb (by decide), nI_c b (by omega), if_neg (show ¬ tz_L b = 0 from nI_ne0 (by omega) (by omega)), show f_X10_rowOf tz_R (nI b) (0 : Int32) = some (tz_R (8 * b + 0)) from m_rowOf b hb 0 (by decide), pb1, et0, pb1]
  exact e
theorem k312 {vsum vcoef : Nat → Int32} {vun : Int32} {vws vwc : Nat → Int32} {vhi : Int32} {vle : Nat → Int32} {vls : Int32} {vli vce vrf : Nat → Int32} {vth : Nat → Int64} {vat vrs : Int32} (g : Nat) {a : Nat} (ha : a < 67) : ∀ (d f i : Nat) (vt : Nat → Int32) (vl vh : Int32), i + d = qz_N (qz_S a) → d < f → ∃ t' l' h', f_X10_init_312 (f_X10_init_294 g) f tz_D tz_S tz_L tz_R (cut tz_M (67 * a + (qz_D (qz_S a) + i))) vsum vcoef vun vws vwc vhi vle vls vli vce vrf vt vl vh vth vat vrs (nI a) (nI (qz_D (qz_S a) + i)) = f_X10_init_294 g tz_D tz_S tz_L tz_R (cut tz_M (67 * (a + 1))) vsum vcoef vun vws vwc vhi vle vls vli vce vrf t' l' h' vth vat vrs (nI (a + 1)) := by
  obtain ⟨p1, p2, p3⟩ := shp a ha
  obtain ⟨hD, hD2⟩ := qD_step _ p1
  intro d
  induction d with
  | zero =>
    intro f i vt vl vh hi hf
    obtain ⟨f, rfl⟩ : ∃ z, f = z + 1 := ⟨f - 1, by omega⟩
    obtain rfl : i = qz_N (qz_S a) := by omega
    refine ⟨vt, vl, vh, ?_⟩
    show gf_X10_init_312 (f_X10_init_312 (f_X10_init_294 g) f) (f_X10_init_294 g) tz_D tz_S tz_L tz_R _ vsum vcoef vun vws vwc vhi vle vls vli vce vrf vt vl vh vth vat vrs (nI a) _ = _
    unfold gf_X10_init_312
    rw [pinn ha (by decide), nI_c a (by omega), show tz_S a + (1 : Int32) = nI (qz_S a + 1) from nI_1 _, pinn (by omega) (by decide), nI_c (qz_S a + 1) (by omega), if_pos (show tz_D (qz_S a + 1) ≤ nI (qz_D (qz_S a) + qz_N (qz_S a)) from nI_le (by omega) (by omega)), cut_skip (T := tz_M) (n := 67 * a + (qz_D (qz_S a) + qz_N (qz_S a))) (m := 67 * (a + 1)) (by omega) (fun j h1 h2 => by
      obtain ⟨b, rfl⟩ : ∃ b, j = 67 * a + b := ⟨j - 67 * a, by omega⟩
      refine (tM_zero a ha b (by omega)).resolve_left (fun hh => ?_)
      obtain ⟨y1, y2, y3⟩ := shp b (by omega)
      rw [← hh] at y3
      omega), show nI a + (1 : Int32) = nI (a + 1) from nI_1 a]
  | succ d ih =>
    intro f i vt vl vh hi hf
    obtain ⟨f, rfl⟩ : ∃ z, f = z + 1 := ⟨f - 1, by omega⟩
    obtain ⟨s1, s2⟩ := shD _ p1 i (show i < qz_N (qz_S a) by omega)
    obtain ⟨t1, l1, h1, e1⟩ := m_characterOf ha s1 s2.symm vt vl vh
    obtain ⟨t', l', h', e⟩ := ih f (i + 1) t1 l1 h1 (by omega) (by omega)
    refine ⟨t', l', h', ?_⟩
    show gf_X10_init_312 (f_X10_init_312 (f_X10_init_294 g) f) (f_X10_init_294 g) tz_D tz_S tz_L tz_R _ vsum vcoef vun vws vwc vhi vle vls vli vce vrf vt vl vh vth vat vrs (nI a) _ = _
    unfold gf_X10_init_312
    rw [pinn ha (by decide), nI_c a (by omega), show tz_S a + (1 : Int32) = nI (qz_S a + 1) from nI_1 _, pinn (by omega) (by decide), nI_c (qz_S a + 1) (by omega), if_neg (show ¬ tz_D (qz_S a + 1) ≤ nI (qz_D (qz_S a) + i) from nI_ge (by omega) (by omega)), e1, pb4, ix67, pinn (by omega) (by decide), nI_c (67 * a + (qz_D (qz_S a) + i)) (by omega), cutS, show nI (qz_D (qz_S a) + i) + (1 : Int32) = nI (qz_D (qz_S a) + (i + 1)) from nI_1 _]
    exact e
theorem k294 {vsum vcoef : Nat → Int32} {vun : Int32} {vws vwc : Nat → Int32} {vhi : Int32} {vle : Nat → Int32} {vls : Int32} {vli vce vrf : Nat → Int32} {vth : Nat → Int64} {vat vrs : Int32} : ∀ (d f a : Nat) (vt : Nat → Int32) (vl vh : Int32), a + d = 67 → d < f → ∃ t' l' h', f_X10_init_294 f tz_D tz_S tz_L tz_R (cut tz_M (67 * a)) vsum vcoef vun vws vwc vhi vle vls vli vce vrf vt vl vh vth vat vrs (nI a) = some (tz_D, tz_S, tz_L, tz_R, tz_M, vsum, vcoef, vun, vws, vwc, vhi, vle, vls, vli, vce, vrf, t', l', h', vth, vat, vrs) := by
  intro d
  induction d with
  | zero =>
    intro f a vt vl vh ha hf
    obtain ⟨f, rfl⟩ : ∃ z, f = z + 1 := ⟨f - 1, by omega⟩
    obtain rfl : a = 67 := by omega
    refine ⟨vt, vl, vh, ?_⟩
    show gf_X10_init_294 (f_X10_init_294 f) tz_D tz_S tz_L tz_R _ vsum vcoef vun vws vwc vhi vle vls vli vce vrf vt vl vh vth vat vrs (nI 67) = _
    unfold gf_X10_init_294
    rw [if_pos (by decide), show 67 * 67 = 4489 from rfl, cut_all tM_out]
  | succ d ih =>
    intro f a vt vl vh ha hf
    obtain ⟨f, rfl⟩ : ∃ z, f = z + 1 := ⟨f - 1, by omega⟩
    have ha2 : a < 67 := by omega
    obtain ⟨p1, p2, p3⟩ := shp a ha2
    have hN := qN_le _ p1
    have e0 : cut tz_M (67 * a) = cut tz_M (67 * a + (qz_D (qz_S a) + 0)) := cut_skip (by omega) (fun j h1 h2 => by
      obtain ⟨b, rfl⟩ : ∃ b, j = 67 * a + b := ⟨j - 67 * a, by omega⟩
      refine (tM_zero a ha2 b (by omega)).resolve_left (fun hh => ?_)
      obtain ⟨y1, y2, y3⟩ := shp b (by omega)
      rw [← hh] at y2
      omega)
    obtain ⟨t1, l1, h1, e1⟩ := k312 (vsum := vsum) (vcoef := vcoef) (vun := vun) (vws := vws) (vwc := vwc) (vhi := vhi) (vle := vle) (vls := vls) (vli := vli) (vce := vce) (vrf := vrf) (vth := vth) (vat := vat) (vrs := vrs) f ha2 (qz_N (qz_S a)) 1000 0 vt vl vh (by omega) (by omega)
    obtain ⟨t', l', h', e⟩ := ih f (a + 1) t1 l1 h1 (by omega) (by omega)
    refine ⟨t', l', h', ?_⟩
    show gf_X10_init_294 (f_X10_init_294 f) tz_D tz_S tz_L tz_R _ vsum vcoef vun vws vwc vhi vle vls vli vce vrf vt vl vh vth vat vrs (nI a) = _
    unfold gf_X10_init_294
    rw [if_neg (show ¬ (67 : Int32) ≤ nI a from nI_ge (b := 67) ha2 (by decide)), pinn ha2 (by decide), nI_c a (by omega), show tz_S a = nI (qz_S a) from rfl, pinn (by omega) (by decide), nI_c (qz_S a) (by omega), e0]
    exact e1.trans e
