/-! sums: kept, undone, the image -/
theorem uslot_lt {us : Nat → Int32} {nx s : Nat} (hs : s < 4) : ∀ j, uslot us nx s j < 16
  | 0 => by show s < 16; omega
  | j + 1 => by
    show (if us ((nx + 7 - j) % 8) = nI s then 8 + (nx + 7 - j) % 8 else uslot us nx s j) < 16
    by_cases c : us ((nx + 7 - j) % 8) = nI s
    · rw [if_pos c]; omega
    · rw [if_neg c]; exact uslot_lt hs j
theorem uslot_push {us : Nat → Int32} {nx s t : Nat} (hnx : nx < 8) (hs : s < 4) (ht : t < 4) : ∀ j, j ≤ 7 → ¬ uslot (upd us nx (nI s)) ((nx + 1) % 8) t (j + 1) = s ∧ (if uslot (upd us nx (nI s)) ((nx + 1) % 8) t (j + 1) = 8 + nx then s else uslot (upd us nx (nI s)) ((nx + 1) % 8) t (j + 1)) = uslot us nx t j
  | 0, _ => by
    have e : uslot (upd us nx (nI s)) ((nx + 1) % 8) t (0 + 1) = if s = t then 8 + nx else t := by
      show (if (upd us nx (nI s)) (((nx + 1) % 8 + 7 - 0) % 8) = nI t then 8 + ((nx + 1) % 8 + 7 - 0) % 8 else t) = _
      rw [show ((nx + 1) % 8 + 7 - 0) % 8 = nx by omega]
      have e2 : (upd us nx (nI s)) nx = nI s := by unfold upd; rw [if_pos rfl]
      rw [e2]
      by_cases c : s = t
      · subst c; rw [if_pos rfl, if_pos rfl]
      · rw [if_neg c, if_neg (fun h => c ((nI_eq (by omega) (by omega)).mp h))]
    rw [e]
    by_cases c : s = t
    · rw [if_pos c]
      exact ⟨by omega, by rw [if_pos rfl, c]; rfl⟩
    · rw [if_neg c]
      exact ⟨fun h => c h.symm, by rw [if_neg (by omega)]; rfl⟩
  | j + 1, hj => by
    obtain ⟨h1, h2⟩ := uslot_push (us := us) hnx hs ht j (by omega)
    have e : uslot (upd us nx (nI s)) ((nx + 1) % 8) t (j + 1 + 1) = if us ((nx + 7 - j) % 8) = nI t then 8 + (nx + 7 - j) % 8 else uslot (upd us nx (nI s)) ((nx + 1) % 8) t (j + 1) := by
      show (if (upd us nx (nI s)) (((nx + 1) % 8 + 7 - (j + 1)) % 8) = nI t then 8 + ((nx + 1) % 8 + 7 - (j + 1)) % 8 else _) = _
      rw [show ((nx + 1) % 8 + 7 - (j + 1)) % 8 = (nx + 7 - j) % 8 by omega]
      have e2 : (upd us nx (nI s)) ((nx + 7 - j) % 8) = us ((nx + 7 - j) % 8) := by unfold upd; rw [if_neg (by omega)]
      rw [e2]
    have e3 : uslot us nx t (j + 1) = if us ((nx + 7 - j) % 8) = nI t then 8 + (nx + 7 - j) % 8 else uslot us nx t j := rfl
    rw [e, e3]
    by_cases c : us ((nx + 7 - j) % 8) = nI t
    · rw [if_pos c, if_pos c]
      exact ⟨by omega, by rw [if_neg (by omega)]⟩
    · rw [if_neg c, if_neg c]
      exact ⟨h1, h2⟩
theorem uslot_pop {us : Nat → Int32} {nx s t : Nat} (hnx : nx < 8) (hs : s < 4) (ht : t < 4) (he : us ((nx + 7) % 8) = nI s) : ∀ j, j ≤ 7 → (if uslot us ((nx + 7) % 8) t j = s then 8 + (nx + 7) % 8 else uslot us ((nx + 7) % 8) t j) = uslot us nx t (j + 1)
  | 0, _ => by
    show (if t = s then 8 + (nx + 7) % 8 else t) = if us ((nx + 7 - 0) % 8) = nI t then 8 + (nx + 7 - 0) % 8 else t
    rw [Nat.sub_zero, he]
    by_cases c : t = s
    · subst c; rw [if_pos rfl, if_pos rfl]
    · rw [if_neg c, if_neg (fun h => c ((nI_eq (by omega) (by omega)).mp h).symm)]
  | j + 1, hj => by
    have h2 := uslot_pop hnx hs ht he j (by omega)
    have e : uslot us ((nx + 7) % 8) t (j + 1) = if us ((nx + 7 - (j + 1)) % 8) = nI t then 8 + (nx + 7 - (j + 1)) % 8 else uslot us ((nx + 7) % 8) t j := by
      show (if us (((nx + 7) % 8 + 7 - j) % 8) = nI t then 8 + ((nx + 7) % 8 + 7 - j) % 8 else _) = _
      rw [show ((nx + 7) % 8 + 7 - j) % 8 = (nx + 7 - (j + 1)) % 8 by omega]
    have e3 : uslot us nx t (j + 1 + 1) = if us ((nx + 7 - (j + 1)) % 8) = nI t then 8 + (nx + 7 - (j + 1)) % 8 else uslot us nx t (j + 1) := rfl
    rw [e, e3]
    by_cases c : us ((nx + 7 - (j + 1)) % 8) = nI t
    · rw [if_pos c, if_pos c, if_neg (by omega)]
    · rw [if_neg c, if_neg c]
      exact h2
/-- the draft is no part of the relation -/
theorem Rsu_draft {sizes coefs sizes' coefs' us : Nat → Int32} {undos nx img : Int32} {sum coef ws wc : Nat → Int32} {un hi : Int32} (h : Rsu sizes coefs us undos nx img sum coef un ws wc hi) (hd : ∀ t, t < 16 → Sl sizes coefs t sizes' coefs' t) : Rsu sizes' coefs' us undos nx img sum coef un ws wc hi := by
  obtain ⟨h1, ⟨u, next, a1, a2, a3, a4, a5, a6, a7⟩, h3⟩ := h
  refine ⟨fun s hs => Rs1_go (h1 s hs) (hd s (by omega)) (So_rfl ..), ⟨u, next, a1, a2, a3, a4, a5, a6, fun j hj s hs => Rs1_go (a7 j hj s hs) (hd _ (uslot_lt hs _)) (So_rfl ..)⟩, ?_⟩
  rcases h3 with h3 | ⟨b1, b2, b3⟩
  · exact Or.inl h3
  · exact Or.inr ⟨b1, b2, fun s hs => Rs1_go (b3 s hs) (hd _ (by omega)) (So_rfl ..)⟩
theorem Rsu_keep {sizes coefs us : Nat → Int32} {undos nx img : Int32} {sum coef ws wc : Nat → Int32} {un hi : Int32} (h : Rsu sizes coefs us undos nx img sum coef un ws wc hi) {s : Nat} (hs : s < 4) : ∃ sizes' coefs' us' undos' nx' un' ws' wc', f_X8_keepDraft sizes coefs us undos nx (nI s) = some (sizes', coefs', us', undos', nx') ∧ f_X10_canBeUndone sum coef un ws wc = some (un', ws', wc') ∧ ∀ sum2 coef2, Rs1 sizes coefs 16 sum2 coef2 s (22 * s) → (∀ t, t < 4 → ¬ t = s → So sum coef t (22 * t) sum2 coef2 t (22 * t)) → Rsu sizes' coefs' us' undos' nx' img sum2 coef2 un' ws' wc' hi := by
  obtain ⟨h1, ⟨u, next, hu, hn, rfl, rfl, rfl, a6, a7⟩, h3⟩ := h
  obtain ⟨sizes', coefs', e1, k1, k2, k3⟩ := k_keepDraft (sizes := sizes) (coefs := coefs) (us := us) hu hn hs
  obtain ⟨ws', wc', e2, m1, m2, m3⟩ := m_kept (sum := sum) (coef := coef) (ws := ws) (wc := wc) hu
  refine ⟨_, _, _, _, _, _, _, _, e1, e2, fun sum2 coef2 hr ho => ?_⟩
  generalize hu' : (if u = 8 then 8 else u + 1) = u' at m1 m2 ⊢
  have hu2 : u' ≤ 8 ∧ 1 ≤ u' ∧ u' ≤ u + 1 := by
    by_cases c : u = 8
    · rw [if_pos c] at hu'; omega
    · rw [if_neg c] at hu'; omega
  have hu3 : u' - 1 ≤ u := by omega
  have him : ∀ t, t < 4 → Sl sizes coefs (4 + t) sizes' coefs' (4 + t) := fun t ht => k3 _ (by omega) (by omega)
  refine ⟨fun t ht => ?_, ⟨u', (next + 1) % 8, hu2.1, Nat.mod_lt _ (by decide), rfl, rfl, rfl, fun j hj => ?_, fun j hj t ht => ?_⟩, ?_⟩
  · by_cases c : t = s
    · subst c
      exact Rs1_go hr k1 (So_rfl ..)
    · exact Rs1_go (h1 t ht) (k3 t c (by omega)) (ho t ht c)
  · by_cases c : j = 0
    · subst c
      refine ⟨s, hs, ?_⟩
      rw [show ((next + 1) % 8 + 7 - 0) % 8 = next by omega]
      unfold upd
      rw [if_pos rfl]
    · obtain ⟨s', hs', e⟩ := a6 (j - 1) (by omega)
      refine ⟨s', hs', ?_⟩
      rw [show ((next + 1) % 8 + 7 - j) % 8 = (next + 7 - (j - 1)) % 8 by omega]
      unfold upd
      rw [if_neg (by omega)]
      exact e
  · obtain ⟨q1, q2⟩ := uslot_push (us := us) hn hs ht j (by omega)
    have hsl : Sl sizes coefs (uslot us next t j) sizes' coefs' (uslot (upd us next (nI s)) ((next + 1) % 8) t (j + 1)) := by
      by_cases c : uslot (upd us next (nI s)) ((next + 1) % 8) t (j + 1) = 8 + next
      · rw [if_pos c] at q2
        rw [c, ← q2]
        exact k2
      · rw [if_neg c] at q2
        rw [← q2]
        exact k3 _ q1 c
    by_cases c : j = 0
    · subst c
      exact Rs1_go (h1 t ht) hsl (m1 t ht)
    · obtain ⟨i, rfl⟩ : ∃ i, j = i + 1 := ⟨j - 1, by omega⟩
      exact Rs1_go (a7 i (by omega) t ht) hsl (m2 i (by omega) t ht)
  · rcases h3 with h3 | ⟨b1, b2, b3⟩
    · exact Or.inl h3
    · exact Or.inr ⟨b1, b2, fun t ht => Rs1_go (b3 t ht) (him t ht) (m3 t ht)⟩
theorem k_beginDraft {sizes coefs : Nat → Int32} {v : Int32} : ∃ sizes' coefs', f_X8_beginDraft sizes coefs v = some (sizes', coefs') ∧ (∀ t, t < 16 → Sl sizes coefs t sizes' coefs' t) ∧ sizes' 16 = v ∧ ∀ p, p < 22 → coefs' (352 + p) = 0 := by
  have key : ∀ (d f p : Nat) (c : Nat → Int32), p + d = 22 → d < f → (∀ k, k < 352 → c k = coefs k) → (∀ q, q < p → c (352 + q) = 0) → ∃ c', f_X8_beginDraft_10 f (upd sizes 16 v) c (nI p) = some (upd sizes 16 v, c') ∧ (∀ k, k < 352 → c' k = coefs k) ∧ ∀ q, q < 22 → c' (352 + q) = 0 := by
    intro d
    induction d with
    | zero =>
      intro f p c hp hf h1 h2
      obtain ⟨f, rfl⟩ : ∃ z, f = z + 1 := ⟨f - 1, by omega⟩
      obtain rfl : p = 22 := by omega
      refine ⟨c, ?_, h1, h2⟩
      show gf_X8_beginDraft_10 (f_X8_beginDraft_10 f) _ c _ = _
      unfold gf_X8_beginDraft_10
      rw [if_pos (by decide)]
    | succ d ih =>
      intro f p c hp hf h1 h2
      obtain ⟨f, rfl⟩ : ∃ z, f = z + 1 := ⟨f - 1, by omega⟩
      obtain ⟨c', e, g1, g2⟩ := ih f (p + 1) (upd c (352 + p) 0) (by omega) (by omega) (fun k hk => by unfold upd; rw [if_neg (by omega)]; exact h1 k hk) (fun q hq => by
        unfold upd
        by_cases cc : q = p
        · rw [if_pos (by omega)]
        · rw [if_neg (by omega)]; exact h2 q (by omega))
      refine ⟨c', ?_, g1, g2⟩
      show gf_X8_beginDraft_10 (f_X8_beginDraft_10 f) _ c _ = _
      unfold gf_X8_beginDraft_10
      rw [if_neg (show ¬ (22 : Int32) ≤ nI p from nI_ge (a := p) (b := 22) (by omega) (by decide)), show (352 : Int32) + nI p = nI (352 + p) from nI_add 352 p, pinn (by omega) (by decide), nI_c _ (by omega), show nI p + (1 : Int32) = nI (p + 1) from nI_1 p]
      exact e
  obtain ⟨c', e, g1, g2⟩ := key 22 1000 0 coefs (by omega) (by omega) (fun _ _ => rfl) (fun q hq => by omega)
  refine ⟨upd sizes 16 v, c', ?_, fun t ht => ⟨by unfold upd; rw [if_neg (by omega)], fun p hp => g1 _ (by omega)⟩, by unfold upd; rw [if_pos rfl], g2⟩
  unfold f_X8_beginDraft
  rw [show (16 : Int32) = nI 16 from rfl, pinn (by omega) (by decide), nI_c 16 (by omega)]
  exact e
set_option maxRecDepth 10000 in
theorem Rs1_miss {sizes coefs : Nat → Int32} {t : Nat} {sum coef : Nat → Int32} {b c : Nat} (h1 : sizes t = -1) (h2 : ∀ p, p < 22 → coefs (22 * t + p) = 0) (h3 : sum b = -1) : Rs1 sizes coefs t sum coef b c := ⟨by rw [h1, h3], Or.inl ⟨h1, h2⟩⟩
set_option maxRecDepth 10000 in
theorem eq_clear : EQ_clear Rl0 := by
  intro v9_refusals v7_rows v7_lengths v7_sizes v7_rests v7_orders v6_hooks v6_lefts v6_heights v1_table v5_known v8_sizes v8_coefficients v8_undoneSums v8_undos v8_nextUndo v8_imageTaken v0_totals v3_letters v3_count v3_next v3_size v4_values v4_lengths v10_firstOf v10_sizeOf v10_longOf v10_row v10_character v10_sum v10_coefficient v10_undone v10_wasSum v10_wasCoefficient v10_hasImage v10_letter v10_letters v10_list v10_cell v10_refusals v10_tried v10_left v10_high v10_then v10_at v10_readSize hR x1
  obtain ⟨hc, hm, hrf, hkn, hle, hli, hsu⟩ := hR
  have hc1 := hc
  have hm1 := hm
  obtain ⟨rfl, rfl, rfl, rfl, rfl, rfl, rfl, rfl, rfl⟩ := hc1
  obtain ⟨rfl, rfl, rfl, rfl, rfl⟩ := hm1
  rcases (six x1).symm with ⟨h1, h2⟩ | ⟨s, hs, rfl, h1, h2⟩
  · obtain ⟨a', b', e1, e2, hrf'⟩ := rf_1 hrf (-1) (by decide)
    exact ⟨_, _, _, _, _, _, _, _, _, _, _, _, by unfold f_X9_clear; rw [h1, pb1, if_pos rfl, e1, pb2], by unfold f_X10_clear; rw [h2, pb1, if_pos rfl, e2, pb2], Rl0_mk hc hm hrf' hkn hle hli hsu⟩
  obtain ⟨sz, cf, e3, d1, d2, d3⟩ := k_beginDraft (sizes := v8_sizes) (coefs := v8_coefficients) (v := -1)
  obtain ⟨sizes', coefs', us', undos', nx', un', ws', wc', e4, e5, hgo⟩ := Rsu_keep (Rsu_draft hsu d1) hs
  have hsu2 := hgo (upd v10_sum s (-1)) v10_coefficient (Rs1_miss d2 d3 (by unfold upd; rw [if_pos rfl])) (fun t ht hts => ⟨by unfold upd; rw [if_neg hts], fun _ _ => rfl⟩)
  have e6 : ∀ z, f_X9_clear_33 v9_refusals v8_sizes v8_coefficients v8_undoneSums v8_undos v8_nextUndo (nI s) z = some (z, v9_refusals, sizes', coefs', us', undos', nx') := by
    intro z
    unfold f_X9_clear_33 f_X8_draftMissing
    rw [e3, pb2, pb2, e4, pb5]
  obtain ⟨es, r⟩ := hsu.1 s hs
  rcases r with ⟨r1, -⟩ | ⟨n, hn, r1, -⟩
  · exact ⟨_, _, _, _, _, _, _, _, _, _, _, _, by unfold f_X9_clear; rw [h1, pb1, if_neg i10, k_miss81 hs r1, pb1, if_neg i10, e6], by unfold f_X10_clear; rw [h2, pb1, if_neg i10, e5, pb3, pinn hs (by decide), pinn hs (by decide), nI_c s (by omega), ← es, r1, if_neg (by decide)], Rl0_mk hc hm hrf hkn hle hli hsu2⟩
  · exact ⟨_, _, _, _, _, _, _, _, _, _, _, _, by unfold f_X9_clear; rw [h1, pb1, if_neg i10, k_miss80 hs hn r1, pb1, if_pos rfl, e6], by unfold f_X10_clear; rw [h2, pb1, if_neg i10, e5, pb3, pinn hs (by decide), pinn hs (by decide), nI_c s (by omega), ← es, r1, if_pos (nI_pos' (by omega))], Rl0_mk hc hm hrf hkn hle hli hsu2⟩
set_option maxRecDepth 10000 in
theorem eq_undo : EQ_undo Rl0 := by
  intro v9_refusals v7_rows v7_lengths v7_sizes v7_rests v7_orders v6_hooks v6_lefts v6_heights v1_table v5_known v8_sizes v8_coefficients v8_undoneSums v8_undos v8_nextUndo v8_imageTaken v0_totals v3_letters v3_count v3_next v3_size v4_values v4_lengths v10_firstOf v10_sizeOf v10_longOf v10_row v10_character v10_sum v10_coefficient v10_undone v10_wasSum v10_wasCoefficient v10_hasImage v10_letter v10_letters v10_list v10_cell v10_refusals v10_tried v10_left v10_high v10_then v10_at v10_readSize hR
  obtain ⟨hc, hm, hrf, hkn, hle, hli, hsu⟩ := hR
  have hc1 := hc
  have hm1 := hm
  obtain ⟨rfl, rfl, rfl, rfl, rfl, rfl, rfl, rfl, rfl⟩ := hc1
  obtain ⟨rfl, rfl, rfl, rfl, rfl⟩ := hm1
  have hsu1 := hsu
  obtain ⟨g1, ⟨u, nx, hu, hnx, rfl, rfl, rfl, a6, a7⟩, g3⟩ := hsu1
  by_cases c : u = 0
  · subst c
    obtain ⟨a', b', e1, e2, hrf'⟩ := rf_1 hrf (-3) (by decide)
    have e3 : f_X8_undoLatest v8_sizes v8_coefficients v8_undoneSums (nI 0) (nI nx) = some (0, v8_sizes, v8_coefficients, nI 0, nI nx) := by
      unfold f_X8_undoLatest
      rw [pnz (by decide), if_pos (by decide)]
    exact ⟨_, _, _, _, _, _, _, _, _, _, by unfold f_X9_undo; rw [e3, pb5, if_pos rfl, e1, pb2], by unfold f_X10_undo; rw [if_pos nI_0, e2, pb2], Rl0_mk hc hm hrf' hkn hle hli hsu⟩
  obtain ⟨s, hs, es⟩ := a6 0 (by omega)
  rw [Nat.sub_zero] at es
  obtain ⟨sz, cf, e1, k1, k2⟩ := k_copy (sizes := v8_sizes) (coefs := v8_coefficients) (a := 8 + (nx + 7) % 8) (b := s) (by omega) (by omega)
  have eu1 : nI u - (1 : Int32) = nI (u - 1) := nI_sub2 (b := 1) (by omega)
  have e3 : f_X8_undoLatest v8_sizes v8_coefficients v8_undoneSums (nI u) (nI nx) = some (1, sz, cf, nI (u - 1), nI ((nx + 7) % 8)) := by
    unfold f_X8_undoLatest
    rw [pnz (by decide), if_neg (show ¬ nI u < (1 : Int32) from nI_nlt (b := 1) (by omega) (by omega)), nx_dn nx hnx, if_pos (nI_pos' (by omega)), pinn (by omega) (by decide), nI_c _ (by omega), es, show (8 : Int32) + nI ((nx + 7) % 8) = nI (8 + (nx + 7) % 8) from nI_add 8 _, e1, pb2, eu1]
  have hsl : ∀ j, j ≤ 7 → ∀ t, t < 4 → Sl v8_sizes v8_coefficients (uslot v8_undoneSums nx t (j + 1)) sz cf (uslot v8_undoneSums ((nx + 7) % 8) t j) := by
    intro j hj t ht
    have e := uslot_pop hnx hs ht es j hj
    by_cases c2 : uslot v8_undoneSums ((nx + 7) % 8) t j = s
    · rw [if_pos c2] at e
      rw [c2, ← e]
      exact k1
    · rw [if_neg c2] at e
      rw [← e]
      exact k2 _ c2
  have hsu2 : Rsu sz cf v8_undoneSums (nI (u - 1)) (nI ((nx + 7) % 8)) v8_imageTaken (va_cpy v10_wasSum v10_sum (4 * (u - 1)) 0 4) (va_cpy v10_wasCoefficient v10_coefficient (88 * (u - 1)) 0 88) (nI (u - 1)) v10_wasSum v10_wasCoefficient v10_hasImage := by
    refine ⟨fun t ht => ?_, ⟨u - 1, (nx + 7) % 8, by omega, Nat.mod_lt _ (by decide), rfl, rfl, rfl, fun j hj => ?_, fun j hj t ht => ?_⟩, ?_⟩
    · refine Rs1_go (a7 0 (by omega) t ht) (hsl 0 (by omega) t ht) ⟨?_, fun p hp => ?_⟩
      · have e := vc_in (f := v10_wasSum) (g := v10_sum) (sp := 4 * (u - 1)) (dp := 0) ht
        rw [Nat.zero_add] at e
        rw [e, Nat.sub_zero]
      · have e := vc_in (f := v10_wasCoefficient) (g := v10_coefficient) (sp := 88 * (u - 1)) (dp := 0) (n := 88) (k := 22 * t + p) (by omega)
        rw [Nat.zero_add] at e
        rw [e, Nat.sub_zero, Nat.add_assoc]
    · obtain ⟨s', hs', e⟩ := a6 (j + 1) (by omega)
      exact ⟨s', hs', by rw [show ((nx + 7) % 8 + 7 - j) % 8 = (nx + 7 - (j + 1)) % 8 by omega]; exact e⟩
    · have e := Rs1_go (a7 (j + 1) (by omega) t ht) (hsl (j + 1) (by omega) t ht) (So_rfl ..)
      rw [show u - 1 - (j + 1) = u - 1 - 1 - j by omega] at e
      exact e
    · rcases g3 with g3 | ⟨b1, b2, b3⟩
      · exact Or.inl g3
      · exact Or.inr ⟨b1, b2, fun t ht => Rs1_go (b3 t ht) (k2 _ (by omega)) (So_rfl ..)⟩
  exact ⟨_, _, _, _, _, _, _, _, _, _, by unfold f_X9_undo; rw [e3, pb5, if_neg i10]; unfold f_X8_howManyUndos; rw [pb1], by unfold f_X10_undo; rw [if_neg (nI_ne0 (by omega) (by omega)), eu1, m_laysBack (by omega), pb2], Rl0_mk hc hm hrf hkn hle hli hsu2⟩
theorem k_takeImage {sizes coefs : Nat → Int32} {img : Int32} : ∃ sizes' coefs', f_X8_takeImage sizes coefs img = some (sizes', coefs', 1) ∧ (∀ t, t < 4 → Sl sizes coefs t sizes' coefs' (4 + t)) ∧ ∀ t, ¬ (4 ≤ t ∧ t < 8) → Sl sizes coefs t sizes' coefs' t := by
  have key : ∀ (d f p : Nat) (s c : Nat → Int32), p + d = 4 → d < f → (∀ t, t < p → Sl sizes coefs t s c (4 + t)) → (∀ t, ¬ (4 ≤ t ∧ t < 4 + p) → Sl sizes coefs t s c t) → ∃ s' c', f_X8_takeImage_2 f s c img (nI p) = some (s', c', 1) ∧ (∀ t, t < 4 → Sl sizes coefs t s' c' (4 + t)) ∧ ∀ t, ¬ (4 ≤ t ∧ t < 8) → Sl sizes coefs t s' c' t := by
    intro d
    induction d with
    | zero =>
      intro f p s c hp hf h1 h2
      obtain ⟨f, rfl⟩ : ∃ z, f = z + 1 := ⟨f - 1, by omega⟩
      obtain rfl : p = 4 := by omega
      refine ⟨s, c, ?_, h1, h2⟩
      show gf_X8_takeImage_2 (f_X8_takeImage_2 f) s c _ _ = _
      unfold gf_X8_takeImage_2
      rw [if_pos (by decide)]
    | succ d ih =>
      intro f p s c hp hf h1 h2
      obtain ⟨f, rfl⟩ : ∃ z, f = z + 1 := ⟨f - 1, by omega⟩
      obtain ⟨s', c', e, k1, k2⟩ := k_copy (sizes := s) (coefs := c) (a := p) (b := 4 + p) (by omega) (by omega)
      obtain ⟨s2, c2, e2, g1, g2⟩ := ih f (p + 1) s' c' (by omega) (by omega) (fun t ht => by
        by_cases cc : t = p
        · subst cc; exact Sl_trans (h2 t (by omega)) k1
        · exact Sl_trans (h1 t (by omega)) (k2 _ (by omega))) (fun t ht => Sl_trans (h2 t (by omega)) (k2 t (by omega)))
      refine ⟨s2, c2, ?_, g1, g2⟩
      show gf_X8_takeImage_2 (f_X8_takeImage_2 f) s c _ _ = _
      unfold gf_X8_takeImage_2
      rw [if_neg (show ¬ (4 : Int32) ≤ nI p from nI_ge (a := p) (b := 4) (by omega) (by decide)), show (4 : Int32) + nI p = nI (4 + p) from nI_add 4 p, e, pb2, show nI p + (1 : Int32) = nI (p + 1) from nI_1 p]
      exact e2
  exact key 4 1000 0 sizes coefs (by omega) (by omega) (fun t ht => by omega) (fun t _ => Sl_rfl ..)
theorem k_goOn {sizes coefs : Nat → Int32} {un img : Int32} (hi : ¬ img = 0) : ∃ sizes' coefs', f_X8_goOnFromImage sizes coefs un img = some (1, sizes', coefs', 0) ∧ (∀ t, t < 4 → Sl sizes coefs (4 + t) sizes' coefs' t) ∧ ∀ t, 4 ≤ t → Sl sizes coefs t sizes' coefs' t := by
  have key : ∀ (d f p : Nat) (s c : Nat → Int32), p + d = 4 → d < f → (∀ t, t < p → Sl sizes coefs (4 + t) s c t) → (∀ t, p ≤ t → Sl sizes coefs t s c t) → ∃ s' c', f_X8_goOnFromImage_11 img f s c un (nI p) = some (1, s', c', 0) ∧ (∀ t, t < 4 → Sl sizes coefs (4 + t) s' c' t) ∧ ∀ t, 4 ≤ t → Sl sizes coefs t s' c' t := by
    intro d
    induction d with
    | zero =>
      intro f p s c hp hf h1 h2
      obtain ⟨f, rfl⟩ : ∃ z, f = z + 1 := ⟨f - 1, by omega⟩
      obtain rfl : p = 4 := by omega
      refine ⟨s, c, ?_, h1, h2⟩
      show gf_X8_goOnFromImage_11 (f_X8_goOnFromImage_11 img f) img s c _ _ = _
      unfold gf_X8_goOnFromImage_11
      rw [if_pos (by decide)]
    | succ d ih =>
      intro f p s c hp hf h1 h2
      obtain ⟨f, rfl⟩ : ∃ z, f = z + 1 := ⟨f - 1, by omega⟩
      obtain ⟨s', c', e, k1, k2⟩ := k_copy (sizes := s) (coefs := c) (a := 4 + p) (b := p) (by omega) (by omega)
      obtain ⟨s2, c2, e2, g1, g2⟩ := ih f (p + 1) s' c' (by omega) (by omega) (fun t ht => by
        by_cases cc : t = p
        · subst cc; exact Sl_trans (h2 _ (by omega)) k1
        · exact Sl_trans (h1 t (by omega)) (k2 _ (by omega))) (fun t ht => Sl_trans (h2 t (by omega)) (k2 t (by omega)))
      refine ⟨s2, c2, ?_, g1, g2⟩
      show gf_X8_goOnFromImage_11 (f_X8_goOnFromImage_11 img f) img s c _ _ = _
      unfold gf_X8_goOnFromImage_11
      rw [if_neg (show ¬ (4 : Int32) ≤ nI p from nI_ge (a := p) (b := 4) (by omega) (by decide)), show (4 : Int32) + nI p = nI (4 + p) from nI_add 4 p, e, pb2, show nI p + (1 : Int32) = nI (p + 1) from nI_1 p]
      exact e2
  unfold f_X8_goOnFromImage
  rw [if_neg hi]
  exact key 4 1000 0 sizes coefs (by omega) (by omega) (fun t ht => by omega) (fun t _ => Sl_rfl ..)
set_option maxRecDepth 10000 in
theorem eq_image : EQ_image Rl0 := by
  intro v9_refusals v7_rows v7_lengths v7_sizes v7_rests v7_orders v6_hooks v6_lefts v6_heights v1_table v5_known v8_sizes v8_coefficients v8_undoneSums v8_undos v8_nextUndo v8_imageTaken v0_totals v3_letters v3_count v3_next v3_size v4_values v4_lengths v10_firstOf v10_sizeOf v10_longOf v10_row v10_character v10_sum v10_coefficient v10_undone v10_wasSum v10_wasCoefficient v10_hasImage v10_letter v10_letters v10_list v10_cell v10_refusals v10_tried v10_left v10_high v10_then v10_at v10_readSize hR
  obtain ⟨hc, hm, hrf, hkn, hle, hli, hsu⟩ := hR
  have hc1 := hc
  have hm1 := hm
  obtain ⟨rfl, rfl, rfl, rfl, rfl, rfl, rfl, rfl, rfl⟩ := hc1
  obtain ⟨rfl, rfl, rfl, rfl, rfl⟩ := hm1
  have hsu1 := hsu
  obtain ⟨g1, ⟨u, nx, hu, hnx, rfl, rfl, rfl, a6, a7⟩, g3⟩ := hsu1
  obtain ⟨sz, cf, e1, k1, k2⟩ := k_takeImage (sizes := v8_sizes) (coefs := v8_coefficients) (img := v8_imageTaken)
  have hg : ∀ t, t < 4 → Rs1 sz cf t v10_sum v10_coefficient t (22 * t) := fun t ht => Rs1_go (g1 t ht) (k2 t (by omega)) (So_rfl ..)
  obtain ⟨v, t1, t2⟩ := there_eq (Rs_sizes hg)
  have hu8 : ∀ j t, t < 4 → ¬ (4 ≤ uslot v8_undoneSums nx t j ∧ uslot v8_undoneSums nx t j < 8) := by
    intro j t ht
    induction j with
    | zero => show ¬ (4 ≤ t ∧ t < 8); omega
    | succ j ih =>
      have e : uslot v8_undoneSums nx t (j + 1) = if v8_undoneSums ((nx + 7 - j) % 8) = nI t then 8 + (nx + 7 - j) % 8 else uslot v8_undoneSums nx t j := rfl
      rw [e]
      by_cases c : v8_undoneSums ((nx + 7 - j) % 8) = nI t
      · rw [if_pos c]; omega
      · rw [if_neg c]; exact ih
  have hsu2 : Rsu sz cf v8_undoneSums (nI u) (nI nx) 1 v10_sum v10_coefficient (nI u) (va_cpy v10_sum v10_wasSum 0 (4 * 8) 4) (va_cpy v10_coefficient v10_wasCoefficient 0 (88 * 8) 88) 1 := by
    refine ⟨hg, ⟨u, nx, hu, hnx, rfl, rfl, rfl, a6, fun j hj t ht => ?_⟩, Or.inr ⟨rfl, rfl, fun t ht => ?_⟩⟩
    · exact Rs1_go (a7 j hj t ht) (k2 _ (hu8 (j + 1) t ht)) ⟨vc_out (by omega), fun p hp => vc_out (by omega)⟩
    · refine Rs1_go (g1 t ht) (k1 t ht) ⟨?_, fun p hp => ?_⟩
      · rw [show 32 + t = 4 * 8 + t from rfl, vc_in ht, Nat.zero_add]
      · rw [show 704 + 22 * t + p = 88 * 8 + (22 * t + p) by omega, vc_in (by omega), Nat.zero_add]
  exact ⟨_, _, _, _, _, _, _, by unfold f_X9_image; rw [e1, pb3, t1, pb1], by unfold f_X10_image; rw [show f_X10_keeps v10_sum v10_coefficient v10_wasSum v10_wasCoefficient (8 : Int32) = _ from m_keeps (at' := 8) (by omega), pb2, t2, pb1], Rl0_mk hc hm hrf hkn hle hli hsu2⟩
set_option maxRecDepth 10000 in
theorem eq_on : EQ_on Rl0 := by
  intro v9_refusals v7_rows v7_lengths v7_sizes v7_rests v7_orders v6_hooks v6_lefts v6_heights v1_table v5_known v8_sizes v8_coefficients v8_undoneSums v8_undos v8_nextUndo v8_imageTaken v0_totals v3_letters v3_count v3_next v3_size v4_values v4_lengths v10_firstOf v10_sizeOf v10_longOf v10_row v10_character v10_sum v10_coefficient v10_undone v10_wasSum v10_wasCoefficient v10_hasImage v10_letter v10_letters v10_list v10_cell v10_refusals v10_tried v10_left v10_high v10_then v10_at v10_readSize hR
  obtain ⟨hc, hm, hrf, hkn, hle, hli, hsu⟩ := hR
  have hc1 := hc
  have hm1 := hm
  obtain ⟨rfl, rfl, rfl, rfl, rfl, rfl, rfl, rfl, rfl⟩ := hc1
  obtain ⟨rfl, rfl, rfl, rfl, rfl⟩ := hm1
  have hsu1 := hsu
  obtain ⟨g1, ⟨u, nx, hu, hnx, rfl, rfl, rfl, a6, a7⟩, g3⟩ := hsu1
  rcases g3 with ⟨rfl, rfl⟩ | ⟨rfl, rfl, b3⟩
  · obtain ⟨a', b', e1, e2, hrf'⟩ := rf_1 hrf (-3) (by decide)
    exact ⟨_, _, _, _, _, _, _, _, _, by unfold f_X9_on f_X8_goOnFromImage; rw [if_pos rfl, pb4, if_pos rfl, e1, pb2], by unfold f_X10_on; rw [if_pos rfl, e2, pb2], Rl0_mk hc hm hrf' hkn hle hli hsu⟩
  obtain ⟨sz, cf, e1, k1, k2⟩ := k_goOn (sizes := v8_sizes) (coefs := v8_coefficients) (un := nI u) i10
  have hg : ∀ t, t < 4 → Rs1 sz cf t (va_cpy v10_wasSum v10_sum (4 * 8) 0 4) (va_cpy v10_wasCoefficient v10_coefficient (88 * 8) 0 88) t (22 * t) := by
    intro t ht
    refine Rs1_go (b3 t ht) (k1 t ht) ⟨?_, fun p hp => ?_⟩
    · have e := vc_in (f := v10_wasSum) (g := v10_sum) (sp := 4 * 8) (dp := 0) ht
      rw [Nat.zero_add] at e
      exact e
    · have e := vc_in (f := v10_wasCoefficient) (g := v10_coefficient) (sp := 88 * 8) (dp := 0) (n := 88) (k := 22 * t + p) (by omega)
      rw [Nat.zero_add] at e
      rw [e, Nat.add_assoc]
  obtain ⟨v, t1, t2⟩ := there_eq (Rs_sizes hg)
  have hsu2 : Rsu sz cf v8_undoneSums 0 (nI nx) 1 (va_cpy v10_wasSum v10_sum (4 * 8) 0 4) (va_cpy v10_wasCoefficient v10_coefficient (88 * 8) 0 88) 0 v10_wasSum v10_wasCoefficient 1 := by
    refine ⟨hg, ⟨0, nx, by omega, hnx, rfl, rfl, rfl, fun j hj => by omega, fun j hj => by omega⟩, Or.inr ⟨rfl, rfl, fun t ht => ?_⟩⟩
    exact Rs1_go (b3 t ht) (k2 _ (by omega)) (So_rfl ..)
  exact ⟨_, _, _, _, _, _, _, _, _, by unfold f_X9_on; rw [e1, pb4, if_neg i10, t1, pb1], by unfold f_X10_on; rw [if_neg i10, show f_X10_laysBack v10_sum v10_coefficient v10_wasSum v10_wasCoefficient (8 : Int32) = _ from m_laysBack (at' := 8) (by omega), pb2, t2, pb1], Rl0_mk hc hm hrf hkn hle hli hsu2⟩
