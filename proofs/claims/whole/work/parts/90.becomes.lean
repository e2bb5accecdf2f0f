/-! a draft kept, a sum that becomes what was reckoned -/
def Fm (x : Int64) : Prop := (-1000000 : Int64) ≤ x ∧ x ≤ (1000000 : Int64)
theorem Fm_dec (x : Int64) : Fm x ∨ (¬ Fm x ∧ (x < (-1000000 : Int64) ∨ (1000000 : Int64) < x)) := by
  unfold Fm
  by_cases c : x < (-1000000 : Int64)
  · exact Or.inr ⟨fun h => absurd c (Int64.not_lt.mpr h.1), Or.inl c⟩
  · by_cases d : (1000000 : Int64) < x
    · exact Or.inr ⟨fun h => absurd d (Int64.not_lt.mpr h.2), Or.inr d⟩
    · exact Or.inl ⟨Int64.not_lt.mp c, Int64.not_lt.mp d⟩
theorem Fm_int {x : Int64} (h : Fm x) : ∃ z : Int, -1000000 ≤ z ∧ z ≤ 1000000 ∧ x.toInt32.toInt = z := by
  have h1 := Int64.le_iff_toInt_le.mp h.1
  have h2 := Int64.le_iff_toInt_le.mp h.2
  rw [show (-1000000 : Int64).toInt = -1000000 by decide] at h1
  rw [show (1000000 : Int64).toInt = 1000000 by decide] at h2
  refine ⟨x.toInt, h1, h2, ?_⟩
  rw [Int64.toInt_toInt32, Int.bmod_def]
  have : x.toInt % (2 ^ 32 : Nat) = if 0 ≤ x.toInt then x.toInt else x.toInt + 2 ^ 32 := by
    by_cases c : 0 ≤ x.toInt
    · rw [if_pos c]; omega
    · rw [if_neg c]; omega
  rw [this]
  by_cases c : 0 ≤ x.toInt
  · rw [if_pos c]; omega
  · rw [if_neg c]; omega
theorem k_beg0 (T : Nat → Int64) : ∃ T', f_X0_begin T = some T' ∧ ∀ p, p < 22 → T' p = 0 := by
  have key : ∀ (d f p : Nat) (T : Nat → Int64), p + d = 22 → d < f → (∀ q, q < p → T q = 0) → ∃ T', f_X0_begin_2 f T (nI p) = some T' ∧ ∀ p, p < 22 → T' p = 0 := by
    intro d
    induction d with
    | zero =>
      intro f p T hp hf h
      obtain ⟨f, rfl⟩ : ∃ z, f = z + 1 := ⟨f - 1, by omega⟩
      obtain rfl : p = 22 := by omega
      refine ⟨T, ?_, h⟩
      show gf_X0_begin_2 (f_X0_begin_2 f) T _ = _
      unfold gf_X0_begin_2
      rw [if_pos (by decide)]
    | succ d ih =>
      intro f p T hp hf h
      obtain ⟨f, rfl⟩ : ∃ z, f = z + 1 := ⟨f - 1, by omega⟩
      obtain ⟨T', e, g⟩ := ih f (p + 1) (vp_updL T p 0) (by omega) (by omega) (fun q hq => by
        unfold vp_updL
        by_cases c : q = p
        · rw [if_pos c]
        · rw [if_neg c]; exact h q (by omega))
      refine ⟨T', ?_, g⟩
      show gf_X0_begin_2 (f_X0_begin_2 f) T _ = _
      unfold gf_X0_begin_2
      rw [if_neg (show ¬ (22 : Int32) ≤ nI p from nI_ge (a := p) (b := 22) (by omega) (by decide)), pinn (by omega) (by decide), nI_c p (by omega), show nI p + (1 : Int32) = nI (p + 1) from nI_1 p]
      exact e
  exact key 22 1000 0 T (by omega) (by omega) (fun q hq => by omega)
theorem m_thenNone (T : Nat → Int64) : ∃ T', f_X10_thenNone T = some T' ∧ ∀ p, p < 22 → T' p = 0 := by
  have key : ∀ (d f p : Nat) (T : Nat → Int64), p + d = 22 → d < f → (∀ q, q < p → T q = 0) → ∃ T', f_X10_thenNone_2 f T (nI p) = some T' ∧ ∀ p, p < 22 → T' p = 0 := by
    intro d
    induction d with
    | zero =>
      intro f p T hp hf h
      obtain ⟨f, rfl⟩ : ∃ z, f = z + 1 := ⟨f - 1, by omega⟩
      obtain rfl : p = 22 := by omega
      refine ⟨T, ?_, h⟩
      show gf_X10_thenNone_2 (f_X10_thenNone_2 f) T _ = _
      unfold gf_X10_thenNone_2
      rw [if_pos (by decide)]
    | succ d ih =>
      intro f p T hp hf h
      obtain ⟨f, rfl⟩ : ∃ z, f = z + 1 := ⟨f - 1, by omega⟩
      obtain ⟨T', e, g⟩ := ih f (p + 1) (vp_updL T p 0) (by omega) (by omega) (fun q hq => by
        unfold vp_updL
        by_cases c : q = p
        · rw [if_pos c]
        · rw [if_neg c]; exact h q (by omega))
      refine ⟨T', ?_, g⟩
      show gf_X10_thenNone_2 (f_X10_thenNone_2 f) T _ = _
      unfold gf_X10_thenNone_2
      rw [if_neg (show ¬ (22 : Int32) ≤ nI p from nI_ge (a := p) (b := 22) (by omega) (by decide)), pinn (by omega) (by decide), nI_c p (by omega), show nI p + (1 : Int32) = nI (p + 1) from nI_1 p]
      exact e
  exact key 22 1000 0 T (by omega) (by omega) (fun q hq => by omega)
theorem k_set1 {coefs : Nat → Int32} {p : Nat} {x : Int64} (hp : p < 22) (h : Fm x) : f_X8_setInDraft coefs (nI p) x = some (1, upd coefs (352 + p) x.toInt32) := by
  unfold f_X8_setInDraft
  rw [if_neg (fun c => absurd ((lg_cmp_lt _ _).mp c) (Int64.not_lt.mpr h.1)), if_neg (fun c => absurd ((lg_cmp_gt _ _).mp c) (Int64.not_lt.mpr h.2)), if_neg i10, if_neg (nI_pos (by omega)), if_neg (show ¬ (22 : Int32) ≤ nI p from nI_ge (a := p) (b := 22) (by omega) (by decide)), show (352 : Int32) + nI p = nI (352 + p) from nI_add 352 p, pinn (by omega) (by decide), nI_c _ (by omega)]
theorem k_set0 {coefs : Nat → Int32} {i : Int32} {x : Int64} (h : x < (-1000000 : Int64) ∨ (1000000 : Int64) < x) : f_X8_setInDraft coefs i x = some (0, coefs) := by
  unfold f_X8_setInDraft
  by_cases c : x < (-1000000 : Int64)
  · rw [if_pos ((lg_cmp_lt _ _).mpr c), if_pos rfl]
  · rw [if_neg (fun d => c ((lg_cmp_lt _ _).mp d)), if_pos ((lg_cmp_gt _ _).mpr (h.resolve_left c)), if_pos rfl]
theorem k_totals {sizes coefs : Nat → Int32} {T : Nat → Int64} {v : Int32} : ∃ sz cf, (∀ t, t < 16 → Sl sizes coefs t sz cf t) ∧ ((f_X0_draftsTotals sizes coefs T v = some (1, sz, cf) ∧ sz 16 = v ∧ (∀ p, p < 22 → Fm (T p)) ∧ ∀ p, p < 22 → cf (352 + p) = (T p).toInt32) ∨ (f_X0_draftsTotals sizes coefs T v = some (0, sz, cf) ∧ ∃ p, p < 22 ∧ ¬ Fm (T p))) := by
  obtain ⟨sz, cf, e0, d1, d2, d3⟩ := k_beginDraft (sizes := sizes) (coefs := coefs) (v := v)
  have key : ∀ (d f p : Nat) (c : Nat → Int32), p + d = 22 → d < f → (∀ k, k < 352 → c k = cf k) → (∀ q, q < p → Fm (T q) ∧ c (352 + q) = (T q).toInt32) → ∃ c', (∀ k, k < 352 → c' k = cf k) ∧ ((f_X0_draftsTotals_10 T f sz c (nI p) = some (1, sz, c') ∧ (∀ p, p < 22 → Fm (T p)) ∧ ∀ p, p < 22 → c' (352 + p) = (T p).toInt32) ∨ (f_X0_draftsTotals_10 T f sz c (nI p) = some (0, sz, c') ∧ ∃ p, p < 22 ∧ ¬ Fm (T p))) := by
    intro d
    induction d with
    | zero =>
      intro f p c hp hf h1 h2
      obtain ⟨f, rfl⟩ : ∃ z, f = z + 1 := ⟨f - 1, by omega⟩
      obtain rfl : p = 22 := by omega
      refine ⟨c, h1, Or.inl ⟨?_, fun p hp => (h2 p hp).1, fun p hp => (h2 p hp).2⟩⟩
      show gf_X0_draftsTotals_10 (f_X0_draftsTotals_10 T f) T sz c _ = _
      unfold gf_X0_draftsTotals_10
      rw [if_pos (by decide)]
    | succ d ih =>
      intro f p c hp hf h1 h2
      obtain ⟨f, rfl⟩ : ∃ z, f = z + 1 := ⟨f - 1, by omega⟩
      have e1 : f_X0_draftsTotals_10 T (f + 1) sz c (nI p) = p_b2 (f_X8_setInDraft c (nI p) (T p)) (fun r c4 => if r = 0 then (some (0, sz, c4)) else (f_X0_draftsTotals_10 T f sz c4 (nI (p + 1)))) := by
        show gf_X0_draftsTotals_10 (f_X0_draftsTotals_10 T f) T sz c _ = _
        unfold gf_X0_draftsTotals_10
        rw [if_neg (show ¬ (22 : Int32) ≤ nI p from nI_ge (a := p) (b := 22) (by omega) (by decide)), pinn (by omega) (by decide), nI_c p (by omega), show nI p + (1 : Int32) = nI (p + 1) from nI_1 p]
      rw [e1]
      rcases Fm_dec (T p) with hF | ⟨hF, hF2⟩
      · obtain ⟨c', g1, g2⟩ := ih f (p + 1) (upd c (352 + p) (T p).toInt32) (by omega) (by omega) (fun k hk => by unfold upd; rw [if_neg (by omega)]; exact h1 k hk) (fun q hq => by
          unfold upd
          by_cases cc : q = p
          · subst cc; rw [if_pos rfl]; exact ⟨hF, rfl⟩
          · rw [if_neg (by omega)]; exact h2 q (by omega))
        refine ⟨c', g1, ?_⟩
        rw [k_set1 (by omega) hF, pb2, if_neg i10]
        exact g2
      · refine ⟨c, h1, Or.inr ⟨?_, p, by omega, hF⟩⟩
        rw [k_set0 hF2, pb2, if_pos rfl]
  obtain ⟨c', g1, g2⟩ := key 22 1000 0 cf (by omega) (by omega) (fun _ _ => rfl) (fun q hq => by omega)
  have e2 : f_X0_draftsTotals sizes coefs T v = f_X0_draftsTotals_10 T 1000 sz cf (nI 0) := by
    unfold f_X0_draftsTotals
    rw [e0, pb2]
    rfl
  refine ⟨sz, c', fun t ht => Sl_trans (d1 t ht) ⟨rfl, fun p hp => g1 _ (by omega)⟩, ?_⟩
  rw [e2]
  rcases g2 with ⟨a, b, c⟩ | ⟨a, b⟩
  · exact Or.inl ⟨a, d2, b, c⟩
  · exact Or.inr ⟨a, b⟩
theorem m_bec0 {sum coef ws wc : Nat → Int32} {un : Int32} {rb : Nat → Int32} {th : Nat → Int64} {x v : Int32} (h : ∃ p, p < 22 ∧ ¬ Fm (th p)) : f_X10_becomes tz_D sum coef un ws wc rb th x v = f_X10_becomes_34 tz_D th sum coef un ws wc rb := by
  obtain ⟨p0, hp0, hF0⟩ := h
  have key : ∀ (d f p : Nat), p + d = p0 → d < f → f_X10_becomes_2 tz_D th f sum coef un ws wc rb x v (nI p) = f_X10_becomes_34 tz_D th sum coef un ws wc rb := by
    intro d
    induction d with
    | zero =>
      intro f p hp hf
      obtain ⟨f, rfl⟩ : ∃ z, f = z + 1 := ⟨f - 1, by omega⟩
      obtain rfl : p = p0 := by omega
      show gf_X10_becomes_2 (f_X10_becomes_2 tz_D th f) tz_D th sum coef un ws wc rb x v _ = _
      unfold gf_X10_becomes_2
      rw [if_neg (show ¬ (22 : Int32) ≤ nI p from nI_ge (a := p) (b := 22) (by omega) (by decide)), pinn (by omega) (by decide), nI_c p (by omega)]
      by_cases c : (1000000 : Int64) < th p
      · rw [if_pos ((lg_cmp_gt _ _).mpr c)]
      · rw [if_neg (fun d => c ((lg_cmp_gt _ _).mp d)), pinn (by omega) (by decide), if_neg (fun d => hF0 ⟨(lg_cmp_ge _ _).mp d, Int64.not_lt.mp c⟩)]
    | succ d ih =>
      intro f p hp hf
      obtain ⟨f, rfl⟩ : ∃ z, f = z + 1 := ⟨f - 1, by omega⟩
      show gf_X10_becomes_2 (f_X10_becomes_2 tz_D th f) tz_D th sum coef un ws wc rb x v _ = _
      unfold gf_X10_becomes_2
      rw [if_neg (show ¬ (22 : Int32) ≤ nI p from nI_ge (a := p) (b := 22) (by omega) (by decide)), pinn (by omega) (by decide), nI_c p (by omega)]
      by_cases c : (1000000 : Int64) < th p
      · rw [if_pos ((lg_cmp_gt _ _).mpr c)]
      · rw [if_neg (fun d => c ((lg_cmp_gt _ _).mp d)), pinn (by omega) (by decide)]
        by_cases c2 : (-1000000 : Int64) ≤ th p
        · rw [if_pos ((lg_cmp_ge _ _).mpr c2), show nI p + (1 : Int32) = nI (p + 1) from nI_1 p]
          exact ih f (p + 1) (by omega) (by omega)
        · rw [if_neg (fun d => c2 ((lg_cmp_ge _ _).mp d))]
  exact key p0 1000 0 (by omega) (by omega)
theorem m_bec1 {sum coef ws wc : Nat → Int32} {un : Int32} {rb : Nat → Int32} {th : Nat → Int64} {s : Nat} {v : Int32} (hs : s < 4) (h : ∀ p, p < 22 → Fm (th p)) {un' : Int32} {ws' wc' : Nat → Int32} (hb : f_X10_canBeUndone sum coef un ws wc = some (un', ws', wc')) : ∃ coef', (∀ p, p < 22 → coef' (22 * s + p) = (th p).toInt32) ∧ (∀ k, ¬ (22 * s ≤ k ∧ k < 22 * s + 22) → coef' k = coef k) ∧ f_X10_becomes tz_D sum coef un ws wc rb th (nI s) v = p_b1 (f_X10_terms tz_D (upd sum s v) coef' (nI s)) (fun r => some (r, upd sum s v, coef', un', ws', wc', rb)) := by
  have k60 : ∀ (d f p : Nat) (c : Nat → Int32), p + d = 22 → d < f → (∀ q, q < p → c (22 * s + q) = (th q).toInt32) → (∀ k, ¬ (22 * s ≤ k ∧ k < 22 * s + 22) → c k = coef k) → ∃ coef', (∀ p, p < 22 → coef' (22 * s + p) = (th p).toInt32) ∧ (∀ k, ¬ (22 * s ≤ k ∧ k < 22 * s + 22) → coef' k = coef k) ∧ f_X10_becomes_60 tz_D th f (upd sum s v) c un' ws' wc' rb (nI s) (nI p) = p_b1 (f_X10_terms tz_D (upd sum s v) coef' (nI s)) (fun r => some (r, upd sum s v, coef', un', ws', wc', rb)) := by
    intro d
    induction d with
    | zero =>
      intro f p c hp hf h1 h2
      obtain ⟨f, rfl⟩ : ∃ z, f = z + 1 := ⟨f - 1, by omega⟩
      obtain rfl : p = 22 := by omega
      refine ⟨c, h1, h2, ?_⟩
      show gf_X10_becomes_60 (f_X10_becomes_60 tz_D th f) tz_D th _ c un' ws' wc' rb _ _ = _
      unfold gf_X10_becomes_60
      rw [if_pos (by decide)]
    | succ d ih =>
      intro f p c hp hf h1 h2
      obtain ⟨f, rfl⟩ : ∃ z, f = z + 1 := ⟨f - 1, by omega⟩
      obtain ⟨c', g1, g2, g3⟩ := ih f (p + 1) (upd c (22 * s + p) (th p).toInt32) (by omega) (by omega) (fun q hq => by
        unfold upd
        by_cases cc : q = p
        · subst cc; rw [if_pos rfl]
        · rw [if_neg (by omega)]; exact h1 q (by omega)) (fun k hk => by unfold upd; rw [if_neg (by omega)]; exact h2 k hk)
      refine ⟨c', g1, g2, ?_⟩
      show gf_X10_becomes_60 (f_X10_becomes_60 tz_D th f) tz_D th _ c un' ws' wc' rb _ _ = _
      unfold gf_X10_becomes_60
      rw [if_neg (show ¬ (22 : Int32) ≤ nI p from nI_ge (a := p) (b := 22) (by omega) (by decide)), pinn (by omega) (by decide), ix22m, pinn (by omega) (by decide), nI_c (22 * s + p) (by omega), nI_c p (by omega), show nI p + (1 : Int32) = nI (p + 1) from nI_1 p]
      exact g3
  obtain ⟨coef', g1, g2, g3⟩ := k60 22 1000 0 coef (by omega) (by omega) (fun q hq => by omega) (fun _ _ => rfl)
  refine ⟨coef', g1, g2, ?_⟩
  have key : ∀ (d f p : Nat), p + d = 22 → d < f → f_X10_becomes_2 tz_D th f sum coef un ws wc rb (nI s) v (nI p) = f_X10_becomes_60 tz_D th 1000 (upd sum s v) coef un' ws' wc' rb (nI s) 0 := by
    intro d
    induction d with
    | zero =>
      intro f p hp hf
      obtain ⟨f, rfl⟩ : ∃ z, f = z + 1 := ⟨f - 1, by omega⟩
      obtain rfl : p = 22 := by omega
      show gf_X10_becomes_2 (f_X10_becomes_2 tz_D th f) tz_D th sum coef un ws wc rb (nI s) v _ = _
      unfold gf_X10_becomes_2
      rw [if_pos (by decide), hb, pb3, pinn hs (by decide), nI_c s (by omega)]
    | succ d ih =>
      intro f p hp hf
      obtain ⟨f, rfl⟩ : ∃ z, f = z + 1 := ⟨f - 1, by omega⟩
      show gf_X10_becomes_2 (f_X10_becomes_2 tz_D th f) tz_D th sum coef un ws wc rb (nI s) v _ = _
      unfold gf_X10_becomes_2
      obtain ⟨hF1, hF2⟩ := h p (by omega)
      rw [if_neg (show ¬ (22 : Int32) ≤ nI p from nI_ge (a := p) (b := 22) (by omega) (by decide)), pinn (by omega) (by decide), nI_c p (by omega), if_neg (fun c => absurd ((lg_cmp_gt _ _).mp c) (Int64.not_lt.mpr hF2)), pinn (by omega) (by decide), if_pos ((lg_cmp_ge _ _).mpr hF1), show nI p + (1 : Int32) = nI (p + 1) from nI_1 p]
      exact ih f (p + 1) (by omega) (by omega)
  rw [← g3]
  exact key 22 1000 0 (by omega) (by omega)
theorem keep_both {sizes coefs us : Nat → Int32} {undos nx img : Int32} {sum coef ws wc : Nat → Int32} {un hi : Int32} (hsu : Rsu sizes coefs us undos nx img sum coef un ws wc hi) {s n : Nat} (hs : s < 4) (hn : n < 9) {th : Nat → Int64} (h : ∀ p, p < 22 → Fm (th p)) (h0 : ∀ p, qz_N n ≤ p → p < 22 → th p = 0) (hz : sizes 16 = nI n) (hd : ∀ p, p < 22 → coefs (352 + p) = (th p).toInt32) : ∃ v sizes' coefs' us' undos' nx' sum' coef' un' ws' wc', f_X9_keepDraft sizes coefs us undos nx (nI s) = some (v, sizes', coefs', us', undos', nx') ∧ (∀ rb, f_X10_becomes tz_D sum coef un ws wc rb th (nI s) (nI n) = some (v, sum', coef', un', ws', wc', rb)) ∧ Rsu sizes' coefs' us' undos' nx' img sum' coef' un' ws' wc' hi := by
  obtain ⟨sizes', coefs', us', undos', nx', un', ws', wc', e1, e2, hgo⟩ := Rsu_keep hsu hs
  obtain ⟨coef', g1, g2, -⟩ := m_bec1 (sum := sum) (rb := sum) (v := nI n) hs h e2
  have hr : Rs1 sizes coefs 16 (upd sum s (nI n)) coef' s (22 * s) := by
    refine ⟨by unfold upd; rw [if_pos rfl, hz], Or.inr ⟨n, hn, hz, fun p hp => by rw [g1 p hp]; exact hd p hp, fun p hp1 hp => ?_, fun p hp => ?_⟩⟩
    · rw [show 22 * 16 + p = 352 + p from rfl, hd p hp, h0 p hp1 hp]; rfl
    · rw [show 22 * 16 + p = 352 + p from rfl, hd p hp]; exact Fm_int (h p hp)
  have hsu2 := hgo (upd sum s (nI n)) coef' hr (fun t ht hts => ⟨by unfold upd; rw [if_neg hts], fun p hp => g2 _ (by omega)⟩)
  obtain ⟨v, t1, t2⟩ := terms_eq hs (hsu2.1 s hs)
  refine ⟨v, sizes', coefs', us', undos', nx', upd sum s (nI n), coef', un', ws', wc', ?_, fun rb => ?_, hsu2⟩
  · unfold f_X9_keepDraft
    rw [e1, pb5, t1, pb1]
  · obtain ⟨coef2, q1, q2, q3⟩ := m_bec1 (sum := sum) (rb := rb) (v := nI n) hs h e2
    have e : coef2 = coef' := by
      funext k
      by_cases c : 22 * s ≤ k ∧ k < 22 * s + 22
      · obtain ⟨p, rfl⟩ : ∃ p, k = 22 * s + p := ⟨k - 22 * s, by omega⟩
        rw [q1 p (by omega), g1 p (by omega)]
      · rw [q2 k c, g2 k c]
    rw [q3, e, t2, pb1]
theorem both_keep {sizes coefs us : Nat → Int32} {undos nx img : Int32} {sum coef ws wc : Nat → Int32} {un hi : Int32} (hsu : Rsu sizes coefs us undos nx img sum coef un ws wc hi) {s n : Nat} (hs : s < 4) (hn : n < 9) {T th : Nat → Int64} (hT : ∀ p, p < 22 → T p = th p) (h0 : ∀ p, qz_N n ≤ p → p < 22 → th p = 0) : (∃ sz cf v sizes' coefs' us' undos' nx' sum' coef' un' ws' wc', f_X0_draftsTotals sizes coefs T (nI n) = some (1, sz, cf) ∧ f_X9_keepDraft sz cf us undos nx (nI s) = some (v, sizes', coefs', us', undos', nx') ∧ (∀ rb, f_X10_becomes tz_D sum coef un ws wc rb th (nI s) (nI n) = some (v, sum', coef', un', ws', wc', rb)) ∧ Rsu sizes' coefs' us' undos' nx' img sum' coef' un' ws' wc' hi) ∨ (∃ sz cf, f_X0_draftsTotals sizes coefs T (nI n) = some (0, sz, cf) ∧ Rsu sz cf us undos nx img sum coef un ws wc hi ∧ ∀ rb, f_X10_becomes tz_D sum coef un ws wc rb th (nI s) (nI n) = p_b2 (f_X10_refused rb (-6 : Int32)) (fun r rc => some (r, sum, coef, un, ws, wc, rc))) := by
  obtain ⟨sz, cf, h1, ⟨a1, a2, a3, a4⟩ | ⟨a1, p, hp, a2⟩⟩ := k_totals (sizes := sizes) (coefs := coefs) (T := T) (v := nI n)
  · obtain ⟨v, sizes', coefs', us', undos', nx', sum', coef', un', ws', wc', e1, e2, e3⟩ := keep_both (Rsu_draft hsu h1) hs hn (fun p hp => by rw [← hT p hp]; exact a3 p hp) h0 a2 (fun p hp => by rw [← hT p hp]; exact a4 p hp)
    exact Or.inl ⟨sz, cf, v, sizes', coefs', us', undos', nx', sum', coef', un', ws', wc', a1, e1, e2, e3⟩
  · exact Or.inr ⟨sz, cf, a1, Rsu_draft hsu h1, fun rb => m_bec0 ⟨p, hp, by rw [← hT p hp]; exact a2⟩⟩
