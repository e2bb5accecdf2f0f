/-! reads -/
def Dr (sizes0 coefs0 sz cf : Nat → Int32) (th : Nat → Int64) (m k : Nat) : Prop := (∀ t, t < 16 → Sl sizes0 coefs0 t sz cf t) ∧ sz 16 = nI m ∧ m < 9 ∧ ∀ p, p < 22 → ∃ z : Int, -999 * (k : Int) ≤ z ∧ z ≤ 999 * (k : Int) ∧ (th p).toInt = z ∧ (cf (352 + p)).toInt = z ∧ (qz_N m ≤ p → z = 0)
def nmb (b v : Nat) : Int32 := if b = 0 then nI v else -nI v
def sgn (b : Nat) : Int32 := if b = 0 then 1 else -1
theorem sgn_mul (b v : Nat) : sgn b * nI v = nmb b v := by
  unfold sgn nmb
  by_cases c : b = 0
  · rw [if_pos c, if_pos c, Int32.one_mul]
  · rw [if_neg c, if_neg c, Int32.neg_mul, Int32.one_mul]
theorem nmb_int (b : Nat) {v : Nat} (hv : v ≤ 999) : ∃ z : Int, -999 ≤ z ∧ z ≤ 999 ∧ (nmb b v).toInt = z := by
  unfold nmb
  by_cases c : b = 0
  · rw [if_pos c]
    exact ⟨v, by omega, by omega, nI_toInt (by omega)⟩
  · rw [if_neg c]
    exact ⟨-v, by omega, by omega, by rw [Int32.toInt_neg, nI_toInt (by omega), bm32 (by omega) (by omega)]⟩
theorem Dr_add {sizes0 coefs0 sz cf : Nat → Int32} {th : Nat → Int64} {m k i b v : Nat} (h : Dr sizes0 coefs0 sz cf th m k) (hk : k ≤ 72) (hi : i < qz_N m) (hv : v ≤ 999) : Dr sizes0 coefs0 sz (upd cf (352 + i) (cf (352 + i) + nmb b v)) (vp_updL th i (th i + (sgn b * nI v).toInt64)) m (k + 1) := by
  obtain ⟨h1, h2, h3, h4⟩ := h
  have hN := qN_le m h3
  refine ⟨fun t ht => Sl_trans (h1 t ht) ⟨rfl, fun p hp => by unfold upd; rw [if_neg (by omega)]⟩, h2, h3, fun p hp => ?_⟩
  obtain ⟨z, z1, z2, z3, z4, z5⟩ := h4 p hp
  by_cases c : p = i
  · subst c
    obtain ⟨y, y1, y2, y3⟩ := nmb_int b hv
    refine ⟨z + y, by omega, by omega, ?_, ?_, fun hh => by omega⟩
    · unfold vp_updL
      rw [if_pos rfl, sgn_mul, Int64.toInt_add, Int32.toInt_toInt64, z3, y3, bm64 (by omega) (by omega)]
    · unfold upd
      rw [if_pos rfl, Int32.toInt_add, z4, y3, bm32 (by omega) (by omega)]
  · refine ⟨z, by omega, by omega, ?_, ?_, z5⟩
    · unfold vp_updL; rw [if_neg c]; exact z3
    · unfold upd; rw [if_neg (by omega)]; exact z4
theorem k_addD {cf : Nat → Int32} {i : Nat} {v : Int32} (hi : i < 22) : f_X8_addToDraft cf (nI i) v = some (upd cf (352 + i) (cf (352 + i) + v)) := by
  unfold f_X8_addToDraft
  rw [if_neg (nI_pos (by omega)), if_neg (show ¬ (22 : Int32) ≤ nI i from nI_ge (b := 22) (by omega) (by decide)), show (352 : Int32) + nI i = nI (352 + i) from nI_add 352 i, pinn (by omega) (by decide), pinn (by omega) (by decide), nI_c (352 + i) (by omega)]
theorem m_215 {lm t : Nat → Int32} {n m i a : Nat} {th : Nat → Int64} {rs y1 y3 : Int32} (hm : m < 9) (hi : i < qz_N m) (ht : ∀ k, k < 8 → t k = tz_R (8 * (qz_D m + i) + k)) : f_X10_readTerm_215 tz_D tz_R lm (nI n) t th (nI a) rs y1 y3 (nI m) = some (1, t, vp_updL th i (th i + (y1 * y3).toInt64), nI (a + 1), nI m) := by
  obtain ⟨hD, hD2⟩ := shD m hm i hi
  have hN := qN_le m hm
  unfold f_X10_readTerm_215
  rw [st_hit hD ht, pb1, pinn (show m < 10 by omega) (by decide), nI_c m (by omega), show tz_D m = nI (qz_D m) from rfl, nI_sub2 (by omega), Nat.add_sub_cancel_left, pinn (by omega) (by decide), pinn (by omega) (by decide), nI_c i (by omega), show nI a + (1 : Int32) = nI (a + 1) from nI_1 a]
theorem k_61 {lc lm : Nat → Int32} {n m i a b v : Nat} (hn : n ≤ 72) (hl : ∀ j, j < n → lc j = lm j) (ha : a ≤ n) (hm : m < 9) (hi : i < qz_N m) (hb : b < 2) {sz cf : Nat → Int32} (h93 : ch lm n a = 93) : f_X3_passesTerm_61 tz_S lc (nI n) sz cf (nI a) (nI m) (nI b) (nI v) (nI (qz_D m + i)) = some (1, sz, upd cf (352 + i) (cf (352 + i) + nmb b v), nI (a + 1), nI m) := by
  have hN := qN_le m hm
  unfold f_X3_passesTerm_61 f_X3_passesTerm_109 nmb
  rw [k_sizeD hm hi, pb1, if_pos rfl, k_pass1 hn hl ha h93, pb2, if_neg i10, k_placeN hm hi, pb1]
  by_cases c : b = 0
  · rw [if_pos (show nI b = 0 by rw [c]; rfl), if_pos c, k_addD (by omega), pb1]
  · rw [if_neg (nI_ne0 (by omega) (by omega)), if_neg c, k_addD (by omega), pb1]
theorem k_61f {lc lm : Nat → Int32} {n m i a b v : Nat} (hn : n ≤ 72) (hl : ∀ j, j < n → lc j = lm j) (ha : a ≤ n) (hm : m < 9) (hi : i < qz_N m) {sz cf : Nat → Int32} {vs : Int32} (h : ¬ nI m = vs ∨ ¬ ch lm n a = 93) : f_X3_passesTerm_61 tz_S lc (nI n) sz cf (nI a) vs (nI b) (nI v) (nI (qz_D m + i)) = some (0, sz, cf, nI a, vs) := by
  unfold f_X3_passesTerm_61
  rw [k_sizeD hm hi, pb1]
  by_cases c : nI m = vs
  · rw [if_pos c, k_pass0 hn hl ha (h.resolve_left (fun d => d c)), pb2, if_pos rfl]
  · rw [if_neg c]
theorem rd_core {lc lm : Nat → Int32} {n a b M : Nat} (hn : n ≤ 72) (hl : ∀ j, j < n → lc j = lm j) (ha : a ≤ n) (hM : M ≤ 8) (sz cf : Nat → Int32) (th : Nat → Int64) (t : Nat → Int32) {vs rs fi : Int32} (sg : Int32) (hv : (if vs = -1 then 8 else vs) = nI M) (hf : (if fi = 0 then rs else 8) = nI M) : (∃ a', a ≤ a' ∧ a' ≤ n ∧ f_X3_passesTerm tz_S sz cf lc (nI n) (nI a) vs (nI b) = some (0, sz, cf, nI a', vs) ∧ f_X10_readTerm tz_D tz_R lm (nI n) t th (nI a) rs sg fi = some (0, t, th, nI a', rs)) ∨ (∃ m i a' v t', m ≤ M ∧ i < qz_N m ∧ a < a' ∧ a' ≤ n ∧ v ≤ 999 ∧ (∀ k, k < 8 → t' k = tz_R (8 * (qz_D m + i) + k)) ∧ f_X3_passesTerm tz_S sz cf lc (nI n) (nI a) vs (nI b) = (if ch lm n a' = 93 then (if vs = -1 then p_b2 (f_X8_beginDraft sz cf (nI m)) (fun z1 z2 => f_X3_passesTerm_61 tz_S lc (nI n) z1 z2 (nI a') (nI m) (nI b) (nI v) (nI (qz_D m + i))) else f_X3_passesTerm_61 tz_S lc (nI n) sz cf (nI a') vs (nI b) (nI v) (nI (qz_D m + i))) else f_X3_passesTerm_61 tz_S lc (nI n) sz cf (nI a') vs (nI b) (nI v) (nI (qz_D m + i))) ∧ f_X10_readTerm tz_D tz_R lm (nI n) t th (nI a) rs sg fi = RTail lm n t' th (nI a') rs sg fi (nI v) (nI m)) := by
  obtain ⟨v, a1, p1, p2, p3, e1, e2⟩ := read_number hn hl ha th t rs sg fi
  by_cases c : ch lm n a1 = 91
  · obtain ⟨q1, q2, q3⟩ := m_is1 hn (by decide) c
    obtain ⟨t0, et0, ht0⟩ := m_triesNone t
    obtain ⟨s', a', t', g1, g2, g3, g4, g5, g6, g7⟩ := rd_rows (th := th) (rs := rs) (y1 := sg) (y2 := fi) (y3 := nI v) (vs := vs) hn hM hl 8 1000 1000 0 (a1 + 1) t0 (by decide) (by omega) (by omega) (by decide) (by omega) (by rw [show qz_S 0 = 0 by decide]; omega) (fun k hk => by unfold tz_R; rw [qR_0 k hk, ht0 k (by omega)]; rfl)
    obtain ⟨m, i, hm, hi, es, em⟩ := shn g1
    subst es
    rw [em] at g2 g7
    refine Or.inr ⟨m, i, a', v, t', g2, hi, by omega, g4, p3, g5, ?_, ?_⟩
    · have er : f_X3_passRows lc (nI n) (nI (a1 + 1)) vs = some (nI (qz_D m + i), nI a') := by
        unfold f_X3_passRows f_X3_passRows_17
        by_cases d : vs = -1
        · rw [if_pos d] at hv ⊢
          rw [hv]
          exact g6
        · rw [if_neg d] at hv ⊢
          rw [show f_X3_passRows_28 lc (nI n) vs 1000 (nI (a1 + 1)) vs vs 0 0 0 = f_X3_passRows_28 lc (nI n) vs 1000 (nI (a1 + 1)) (nI M) (nI M) 0 0 0 by rw [hv]]
          exact g6
      unfold f_X3_passesTerm
      rw [e1, pb2, k_pass1 hn hl p2 c, pb2, if_neg i10, er, pb2, k_next hn hl g4, pb1, k_sizeD hm hi, pb1]
    · rw [e2]
      unfold f_X10_readTerm_69 f_X10_readTerm_119
      rw [q3, pb1, if_neg i10, et0, pb1, show nI a1 + (1 : Int32) = nI (a1 + 1) from nI_1 a1]
      by_cases d : fi = 0
      · rw [if_pos d] at hf ⊢
        rw [show f_X10_readTerm_121 tz_D tz_R lm (nI n) 1000 t0 th (nI (a1 + 1)) rs sg fi (nI v) 8 0 0 rs = f_X10_readTerm_121 tz_D tz_R lm (nI n) 1000 t0 th (nI (a1 + 1)) rs sg fi (nI v) 8 0 0 (nI M) by rw [hf]]
        exact g7
      · rw [if_neg d] at hf ⊢
        have hM8 : M = 8 := (nI_eq (a := M) (b := 8) (by omega) (by decide)).mp hf.symm
        subst hM8
        exact g7
  · refine Or.inl ⟨a1, p1, p2, ?_, ?_⟩
    · unfold f_X3_passesTerm
      rw [e1, pb2, k_pass0 hn hl p2 c, pb2, if_pos rfl]
    · rw [e2]
      unfold f_X10_readTerm_69
      rw [m_is0 hn p2 c, pb1, if_pos rfl]
theorem rd_first {lc lm : Nat → Int32} {n a b : Nat} (hn : n ≤ 72) (hl : ∀ j, j < n → lc j = lm j) (ha : a ≤ n) (hb : b < 2) (sz cf : Nat → Int32) (th : Nat → Int64) (h0 : ∀ p, p < 22 → th p = 0) (t : Nat → Int32) (rs : Int32) : (∃ a' t', a ≤ a' ∧ a' ≤ n ∧ f_X3_passesTerm tz_S sz cf lc (nI n) (nI a) (-1) (nI b) = some (0, sz, cf, nI a', -1) ∧ f_X10_readTerm tz_D tz_R lm (nI n) t th (nI a) rs (sgn b) 1 = some (0, t', th, nI a', rs)) ∨ (∃ a' m sz' cf' th' t', a < a' ∧ a' ≤ n ∧ f_X3_passesTerm tz_S sz cf lc (nI n) (nI a) (-1) (nI b) = some (1, sz', cf', nI a', nI m) ∧ f_X10_readTerm tz_D tz_R lm (nI n) t th (nI a) rs (sgn b) 1 = some (1, t', th', nI a', nI m) ∧ Dr sz cf sz' cf' th' m 1) := by
  rcases rd_core (b := b) (M := 8) (vs := -1) (rs := rs) (fi := 1) hn hl ha (by omega) sz cf th t (sgn b) (by rw [if_pos rfl]; rfl) (by rw [if_neg i10]; rfl) with ⟨a', p1, p2, e1, e2⟩ | ⟨m, i, a', v, t', hm, hi, p1, p2, p3, ht', e1, e2⟩
  · exact Or.inl ⟨a', t, p1, p2, e1, e2⟩
  · rw [e1, e2]
    unfold RTail
    by_cases c : ch lm n a' = 93
    · obtain ⟨q1, q2, q3⟩ := m_is1 hn (by decide) c
      obtain ⟨sz', cf', e3, d1, d2, d3⟩ := k_beginDraft (sizes := sz) (coefs := cf) (v := nI m)
      have hD0 : Dr sz cf sz' cf' th m 0 := ⟨d1, d2, by omega, fun p hp => ⟨0, by omega, by omega, by rw [h0 p hp]; rfl, by rw [d3 p hp]; rfl, fun _ => rfl⟩⟩
      refine Or.inr ⟨a' + 1, m, sz', _, _, t', by omega, by omega, ?_, ?_, Dr_add (b := b) hD0 (by omega) hi p3⟩
      · rw [if_pos c, if_pos rfl, e3, pb2, k_61 hn hl p2 (by omega) hi hb c]
      · rw [q3, pb1, if_neg i10, if_neg i10, m_215 (by omega) hi ht']
    · refine Or.inl ⟨a', t', by omega, p2, ?_, ?_⟩
      · rw [if_neg c, k_61f hn hl p2 (by omega) hi (Or.inr c)]
      · rw [m_is0 hn p2 c, pb1, if_pos rfl]
theorem rd_more {sizes0 coefs0 : Nat → Int32} {lc lm : Nat → Int32} {n a b m k : Nat} (hn : n ≤ 72) (hl : ∀ j, j < n → lc j = lm j) (ha : a ≤ n) (hb : b < 2) (hk : k ≤ 72) {sz cf : Nat → Int32} {th : Nat → Int64} (hD : Dr sizes0 coefs0 sz cf th m k) (t : Nat → Int32) : (∃ a' t', a ≤ a' ∧ a' ≤ n ∧ f_X3_passesTerm tz_S sz cf lc (nI n) (nI a) (nI m) (nI b) = some (0, sz, cf, nI a', nI m) ∧ f_X10_readTerm tz_D tz_R lm (nI n) t th (nI a) (nI m) (sgn b) 0 = some (0, t', th, nI a', nI m)) ∨ (∃ a' cf' th' t', a < a' ∧ a' ≤ n ∧ f_X3_passesTerm tz_S sz cf lc (nI n) (nI a) (nI m) (nI b) = some (1, sz, cf', nI a', nI m) ∧ f_X10_readTerm tz_D tz_R lm (nI n) t th (nI a) (nI m) (sgn b) 0 = some (1, t', th', nI a', nI m) ∧ Dr sizes0 coefs0 sz cf' th' m (k + 1)) := by
  have hm9 := hD.2.2.1
  rcases rd_core (b := b) (M := m) (vs := nI m) (rs := nI m) (fi := 0) hn hl ha (by omega) sz cf th t (sgn b) (by rw [if_neg (nI_m1 (by omega))]) (by rw [if_pos rfl]) with ⟨a', p1, p2, e1, e2⟩ | ⟨m', i, a', v, t', hm, hi, p1, p2, p3, ht', e1, e2⟩
  · exact Or.inl ⟨a', t, p1, p2, e1, e2⟩
  · rw [if_neg (nI_m1 (by omega)), ite_self] at e1
    rw [e1, e2]
    unfold RTail
    by_cases c : m' = m ∧ ch lm n a' = 93
    · obtain ⟨rfl, c⟩ := c
      obtain ⟨q1, q2, q3⟩ := m_is1 hn (by decide) c
      refine Or.inr ⟨a' + 1, _, _, t', by omega, by omega, ?_, ?_, Dr_add (b := b) hD hk hi p3⟩
      · rw [k_61 hn hl p2 (by omega) hi hb c]
      · rw [q3, pb1, if_neg i10, if_pos rfl, if_pos rfl, m_215 (by omega) hi ht']
    · have c2 : ¬ nI m' = nI m ∨ ¬ ch lm n a' = 93 := by
        by_cases d : m' = m
        · exact Or.inr (fun h => c ⟨d, h⟩)
        · exact Or.inl (fun h => d ((nI_eq (by omega) (by omega)).mp h))
      refine Or.inl ⟨a', t', by omega, p2, ?_, ?_⟩
      · rw [k_61f hn hl p2 (by omega) hi c2]
      · by_cases d : ch lm n a' = 93
        · obtain ⟨q1, q2, q3⟩ := m_is1 hn (by decide) d
          rw [q3, pb1, if_neg i10, if_pos rfl, if_neg (c2.resolve_right (fun h => h d))]
        · rw [m_is0 hn p2 d, pb1, if_pos rfl]
/-- how both readings end -/
def Out (sizes0 coefs0 : Nat → Int32) (C : Option (Int32 × (Nat → Int32) × (Nat → Int32) × Int32 × Int32)) (Mo : Option (Int32 × (Nat → Int32) × (Nat → Int64) × Int32 × Int32)) : Prop :=
  (∃ b sz cf vs t' th' rs', b ≤ 72 ∧ C = some (nI b, sz, cf, nI b, vs) ∧ Mo = some (0, t', th', nI b, rs') ∧ ∀ t, t < 16 → Sl sizes0 coefs0 t sz cf t) ∨ (∃ b sz cf vs t' th' m k, C = some (-1, sz, cf, nI b, vs) ∧ Mo = some (1, t', th', nI b, nI m) ∧ k ≤ 73 ∧ Dr sizes0 coefs0 sz cf th' m k)
def AT (lc : Nat → Int32) (n : Nat) (f : Nat) (sz cf : Nat → Int32) (a vs y2 : Int32) : Option (Int32 × (Nat → Int32) × (Nat → Int32) × Int32 × Int32) := if a = nI n then (some ((-1 : Int32), sz, cf, a, vs)) else (p_b2 (f_X3_passes lc (nI n) a (45 : Int32)) (fun r_11 v3_next_12 => if r_11 = 0 then (p_b2 (f_X3_passes lc (nI n) v3_next_12 (43 : Int32)) (fun r_16 v3_next_17 => if r_16 = 0 then (some (v3_next_17, sz, cf, v3_next_17, vs)) else (f_X3_readToDraft_19 tz_S lc (nI n) f sz cf v3_next_17 vs r_11 (y2 + (1 : Int32))))) else (f_X3_readToDraft_19 tz_S lc (nI n) f sz cf v3_next_12 vs r_11 (y2 + (1 : Int32)))))
theorem k_19 {lc : Nat → Int32} {n f y2 : Nat} (hy : y2 < 72) (sz cf : Nat → Int32) (a vs y1 : Int32) : f_X3_readToDraft_19 tz_S lc (nI n) (f + 1) sz cf a vs y1 (nI y2) = p_b5 (f_X3_passesTerm tz_S sz cf lc (nI n) a vs y1) (fun r_2 s3 c4 n5 z6 => if r_2 = 0 then some (n5, s3, c4, n5, z6) else AT lc n f s3 c4 n5 z6 (nI y2)) := by
  show gf_X3_readToDraft_19 (f_X3_readToDraft_19 tz_S lc (nI n) f) tz_S lc (nI n) sz cf a vs y1 (nI y2) = _
  unfold gf_X3_readToDraft_19
  rw [if_neg (show ¬ (72 : Int32) ≤ nI y2 from nI_ge (b := 72) (by omega) (by decide))]
  rfl
theorem rd_loop {sizes0 coefs0 : Nat → Int32} {lc lm : Nat → Int32} {n : Nat} (hn : n ≤ 72) (hl : ∀ j, j < n → lc j = lm j) : ∀ (d f g a y2 m k : Nat) (sz cf : Nat → Int32) (th : Nat → Int64) (t : Nat → Int32), n ≤ a + d → a ≤ n → d < f → d < g → y2 + 1 ≤ a → k ≤ y2 + 1 → Dr sizes0 coefs0 sz cf th m k → Out sizes0 coefs0 (AT lc n f sz cf (nI a) (nI m) (nI y2)) (f_X10_readTerms_45 tz_D tz_R lm (nI n) g t th (nI a) (nI m)) := by
  intro d
  induction d with
  | zero =>
    intro f g a y2 m k sz cf th t hd ha hf hg hy hk hD
    obtain ⟨g, rfl⟩ : ∃ z, g = z + 1 := ⟨g - 1, by omega⟩
    obtain rfl : a = n := by omega
    refine Or.inr ⟨a, sz, cf, nI m, t, th, m, k, ?_, ?_, by omega, hD⟩
    · unfold AT
      rw [if_pos rfl]
    · show gf_X10_readTerms_45 (f_X10_readTerms_45 tz_D tz_R lm (nI a) g) tz_D tz_R lm (nI a) t th (nI a) (nI m) = _
      unfold gf_X10_readTerms_45
      rw [m_here0 hn (fun h => by omega) (Nat.le_refl _), pb1, if_pos rfl, m_here0 hn (fun h => by omega) (Nat.le_refl _), pb1, if_pos rfl, if_pos rfl]
  | succ d ih =>
    intro f g a y2 m k sz cf th t hd ha hf hg hy hk hD
    obtain ⟨f, rfl⟩ : ∃ z, f = z + 1 := ⟨f - 1, by omega⟩
    obtain ⟨g, rfl⟩ : ∃ z, g = z + 1 := ⟨g - 1, by omega⟩
    have hm9 := hD.2.2.1
    by_cases can : a = n
    · subst can
      refine Or.inr ⟨a, sz, cf, nI m, t, th, m, k, ?_, ?_, by omega, hD⟩
      · unfold AT
        rw [if_pos rfl]
      · show gf_X10_readTerms_45 (f_X10_readTerms_45 tz_D tz_R lm (nI a) g) tz_D tz_R lm (nI a) t th (nI a) (nI m) = _
        unfold gf_X10_readTerms_45
        rw [m_here0 hn (fun h => by omega) (Nat.le_refl _), pb1, if_pos rfl, m_here0 hn (fun h => by omega) (Nat.le_refl _), pb1, if_pos rfl, if_pos rfl]
    have hne : ¬ nI a = nI n := fun h => can ((nI_eq (by omega) (by omega)).mp h)
    have han : a < n := by omega
    -- a sign, then a term
    have go : ∀ b, b < 2 → Out sizes0 coefs0 (f_X3_readToDraft_19 tz_S lc (nI n) (f + 1) sz cf (nI (a + 1)) (nI m) (nI b) (nI y2 + 1)) (f_X10_readTerms_86 (f_X10_readTerms_45 tz_D tz_R lm (nI n) g) tz_D tz_R lm (nI n) t th (nI a) (nI m) (sgn b)) := by
      intro b hb
      rw [show nI y2 + (1 : Int32) = nI (y2 + 1) from nI_1 y2, k_19 (by omega)]
      unfold f_X10_readTerms_86
      rw [show nI a + (1 : Int32) = nI (a + 1) from nI_1 a]
      rcases rd_more hn hl (show a + 1 ≤ n by omega) hb (show k ≤ 72 by omega) hD t with ⟨a', t', p1, p2, e1, e2⟩ | ⟨a', cf', th', t', p1, p2, e1, e2, hD'⟩
      · rw [e1, e2, pb5, pb5, if_pos rfl, if_pos rfl]
        exact Or.inl ⟨a', sz, cf, nI m, t', th, nI m, by omega, rfl, rfl, hD.1⟩
      · rw [e1, e2, pb5, pb5, if_neg i10, if_neg i10]
        exact ih f g a' (y2 + 1) m (k + 1) sz cf' th' t' (by omega) p2 (by omega) (by omega) (by omega) (by omega) hD'
    have e45 : f_X10_readTerms_45 tz_D tz_R lm (nI n) (g + 1) t th (nI a) (nI m) = p_b1 (f_X10_isHere lm (nI n) (nI a) 43 43) (fun r_11 => if r_11 = 0 then (p_b1 (f_X10_isHere lm (nI n) (nI a) 45 45) (fun r_15 => if r_15 = 0 then (if nI a = nI n then (some (1, t, th, nI a, nI m)) else (some (0, t, th, nI a, nI m))) else (f_X10_readTerms_67 (f_X10_readTerms_45 tz_D tz_R lm (nI n) g) tz_D tz_R lm (nI n) t th (nI a) (nI m)))) else (f_X10_readTerms_67 (f_X10_readTerms_45 tz_D tz_R lm (nI n) g) tz_D tz_R lm (nI n) t th (nI a) (nI m))) := rfl
    have e67 : f_X10_readTerms_67 (f_X10_readTerms_45 tz_D tz_R lm (nI n) g) tz_D tz_R lm (nI n) t th (nI a) (nI m) = if lm a = 45 then f_X10_readTerms_86 (f_X10_readTerms_45 tz_D tz_R lm (nI n) g) tz_D tz_R lm (nI n) t th (nI a) (nI m) (-1) else f_X10_readTerms_86 (f_X10_readTerms_45 tz_D tz_R lm (nI n) g) tz_D tz_R lm (nI n) t th (nI a) (nI m) 1 := by
      unfold f_X10_readTerms_67
      rw [pinn (by omega) (by decide), nI_c a (by omega)]
    rw [e45, e67]
    unfold AT
    rw [if_neg hne]
    have hc := ch_in (lm := lm) han
    by_cases c45 : lm a = 45
    · rw [k_pass1 hn hl ha (by rw [hc]; exact c45), pb2, if_neg i10, m_is0 hn ha (w := 43) (by rw [hc, c45]; decide), pb1, if_pos rfl, (m_is1 hn (by decide) (by rw [hc]; exact c45)).2.2, pb1, if_neg i10, if_pos c45]
      exact go 1 (by omega)
    · by_cases c43 : lm a = 43
      · rw [k_pass0 hn hl ha (w := 45) (by rw [hc]; exact c45), pb2, if_pos rfl, k_pass1 hn hl ha (by rw [hc]; exact c43), pb2, if_neg i10, (m_is1 hn (by decide) (by rw [hc]; exact c43)).2.2, pb1, if_neg i10, if_neg c45]
        exact go 0 (by omega)
      · rw [k_pass0 hn hl ha (w := 45) (by rw [hc]; exact c45), pb2, if_pos rfl, k_pass0 hn hl ha (w := 43) (by rw [hc]; exact c43), pb2, if_pos rfl, m_is0 hn ha (w := 43) (by rw [hc]; exact c43), pb1, if_pos rfl, m_is0 hn ha (w := 45) (by rw [hc]; exact c45), pb1, if_pos rfl, if_neg hne]
        exact Or.inl ⟨a, sz, cf, nI m, t, th, nI m, by omega, rfl, rfl, hD.1⟩
theorem rd_all {lc lm : Nat → Int32} {n : Nat} (hn : n ≤ 72) (hl : ∀ j, j < n → lc j = lm j) (sz cf : Nat → Int32) (th : Nat → Int64) (t : Nat → Int32) (nx vs at' rs : Int32) : Out sz cf (f_X3_readToDraft tz_S sz cf lc (nI n) nx vs) (f_X10_readTerms tz_D tz_R lm (nI n) t th at' rs) := by
  obtain ⟨t0, et0, ht0⟩ := m_thenNone th
  have go : ∀ b, b < 2 → ∀ a, a ≤ n → Out sz cf (f_X3_readToDraft_19 tz_S lc (nI n) 1000 sz cf (nI a) (-1) (nI b) 0) (f_X10_readTerms_34 tz_D tz_R lm (nI n) t t0 (nI a) rs (sgn b)) := by
    intro b hb a ha
    rw [show f_X3_readToDraft_19 tz_S lc (nI n) 1000 sz cf (nI a) (-1) (nI b) 0 = _ from k_19 (f := 999) (y2 := 0) (by omega) sz cf (nI a) (-1) (nI b)]
    unfold f_X10_readTerms_34
    rcases rd_first hn hl ha hb sz cf t0 ht0 t rs with ⟨a', t', p1, p2, e1, e2⟩ | ⟨a', m, sz', cf', th', t', p1, p2, e1, e2, hD'⟩
    · rw [e1, e2, pb5, pb5, if_pos rfl, if_pos rfl]
      exact Or.inl ⟨a', sz, cf, -1, t', t0, rs, by omega, rfl, rfl, fun _ _ => Sl_rfl ..⟩
    · rw [e1, e2, pb5, pb5, if_neg i10, if_neg i10]
      exact rd_loop hn hl 73 999 1000 a' 0 m 1 sz' cf' th' t' (by omega) p2 (by omega) (by omega) (by omega) (by omega) hD'
  unfold f_X3_readToDraft f_X10_readTerms
  rw [et0, pb1]
  by_cases c : ch lm n 0 = 45
  · obtain ⟨q1, q2, q3⟩ := m_is1 hn (by decide) c
    rw [show f_X3_passes lc (nI n) (0 : Int32) 45 = some (1, nI 1) from k_pass1 (a := 0) hn hl (by omega) c, pb2, show f_X10_isHere lm (nI n) (0 : Int32) 45 45 = some 1 from q3, pb1, if_neg i10]
    exact go 1 (by omega) 1 (by omega)
  · rw [show f_X3_passes lc (nI n) (0 : Int32) 45 = some (0, nI 0) from k_pass0 (a := 0) hn hl (by omega) c, pb2, show f_X10_isHere lm (nI n) (0 : Int32) 45 45 = some 0 from m_is0 (a := 0) hn (by omega) c, pb1, if_pos rfl]
    exact go 0 (by omega) 0 (by omega)
set_option maxRecDepth 10000 in
theorem eq_reads : EQ_reads Rl0 := by
  intro v9_refusals v7_rows v7_lengths v7_sizes v7_rests v7_orders v6_hooks v6_lefts v6_heights v1_table v5_known v8_sizes v8_coefficients v8_undoneSums v8_undos v8_nextUndo v8_imageTaken v0_totals v3_letters v3_count v3_next v3_size v4_values v4_lengths v10_firstOf v10_sizeOf v10_longOf v10_row v10_character v10_sum v10_coefficient v10_undone v10_wasSum v10_wasCoefficient v10_hasImage v10_letter v10_letters v10_list v10_cell v10_refusals v10_tried v10_left v10_high v10_then v10_at v10_readSize hR x1
  obtain ⟨hc, hm, hrf, hkn, hle, hli, hsu⟩ := hR
  have hc1 := hc
  have hm1 := hm
  obtain ⟨rfl, rfl, rfl, rfl, rfl, rfl, rfl, rfl, rfl⟩ := hc1
  obtain ⟨rfl, rfl, rfl, rfl, rfl⟩ := hm1
  rcases (six x1).symm with ⟨h1, h2⟩ | ⟨s, hs, rfl, h1, h2⟩
  · obtain ⟨a', b', e1, e2, hrf'⟩ := rf_1 hrf (-1) (by decide)
    exact ⟨_, _, _, _, _, _, _, _, _, _, _, _, _, _, _, _, _, _, _, _, _, by unfold f_X9_reads; rw [h1, pb1, if_pos rfl, e1, pb2], by unfold f_X10_reads; rw [h2, pb1, if_pos rfl, e2, pb2], Rl0_mk hc hm hrf' hkn hle hli hsu⟩
  have hle1 := hle
  obtain ⟨el, n, hn, en, hl⟩ := hle1
  have hle0 : Rle v3_letters v10_letter 0 0 := ⟨rfl, 0, by omega, rfl, fun j hj => by omega⟩
  rcases rd_all hn hl v8_sizes v8_coefficients v10_then v10_tried v3_next v3_size v10_at v10_readSize with ⟨b, sz, cf, vs, t', th', rs', hb, e1, e2, hd⟩ | ⟨b, sz, cf, vs, t', th', m, k, e1, e2, hk, hD⟩
  · exact ⟨_, _, _, _, _, _, _, _, _, _, _, _, _, _, _, _, _, _, _, _, _, by unfold f_X9_reads f_X3_forget; rw [h1, pb1, if_neg i10, en, e1, pb5, pb1, if_neg (nI_m1 (by omega))], by unfold f_X10_reads; rw [h2, pb1, if_neg i10, ← el, en, e2, pb5, if_pos rfl], Rl0_mk hc hm hrf hkn hle0 hli (Rsu_draft hsu hd)⟩
  · obtain ⟨d1, d2, d3, d4⟩ := hD
    have hF : ∀ p, p < 22 → Fm (th' p) := fun p hp => by
      obtain ⟨z, z1, z2, z3, z4, z5⟩ := d4 p hp
      refine ⟨Int64.le_iff_toInt_le.mpr ?_, Int64.le_iff_toInt_le.mpr ?_⟩
      · rw [z3, show (-1000000 : Int64).toInt = -1000000 by decide]; omega
      · rw [z3, show (1000000 : Int64).toInt = 1000000 by decide]; omega
    obtain ⟨v, sizes', coefs', us', undos', nx', sum', coef', un', ws', wc', g1, g2, g3⟩ := keep_both (Rsu_draft hsu d1) hs d3 hF (fun p hp1 hp => by
      obtain ⟨z, z1, z2, z3, z4, z5⟩ := d4 p hp
      exact Int64.toInt_inj.mp (by rw [z3, z5 hp1]; rfl)) d2 (fun p hp => by
      obtain ⟨z, z1, z2, z3, z4, z5⟩ := d4 p hp
      exact Int32.toInt_inj.mp (by rw [z4, Int64.toInt_toInt32, z3, bm32 (by omega) (by omega)]))
    exact ⟨_, _, _, _, _, _, _, _, _, _, _, _, _, _, _, _, _, _, _, _, _, by unfold f_X9_reads f_X3_forget; rw [h1, pb1, if_neg i10, en, e1, pb5, pb1, if_pos rfl, g1, pb6], by unfold f_X10_reads; rw [h2, pb1, if_neg i10, ← el, en, e2, pb5, if_neg i10, g2, pb7], Rl0_mk hc hm hrf hkn hle0 hli g3⟩
