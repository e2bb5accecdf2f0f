theorem m_kd161 {L R t : Nat → Int32} : ∀ (n : Nat) (y1 y3 y4 : Int32), f_X10_isKind_161 L R n t y1 y3 y4 = ((f_X10_isKind_161 L R n (fun _ => 0) y1 y3 y4).map (·.1)).map (fun r => (r, t)) := by
  intro n
  induction n with
  | zero => intros; rfl
  | succ n ih =>
    intro y1 y3 y4
    show gf_X10_isKind_161 (f_X10_isKind_161 L R n) L R t y1 y3 y4 = ((gf_X10_isKind_161 (f_X10_isKind_161 L R n) L R (fun _ => 0) y1 y3 y4).map (·.1)).map (fun r => (r, t))
    unfold gf_X10_isKind_161
    by_cases c : y3 ≤ y4
    · rw [if_pos c, if_pos c]; rfl
    · rw [if_neg c, if_neg c]
      cases e : f_X10_rowOf R y1 y4 with
      | none => rfl
      | some r =>
        rw [pb1, pb1]
        by_cases c2 : r = y3 - y4
        · rw [if_pos c2, if_pos c2]; exact ih _ _ _
        · rw [if_neg c2, if_neg c2]; rfl
theorem m_kd {L R t : Nat → Int32} (x k : Int32) (hk : ¬ k = 4) : f_X10_isKind L R t x k = ((f_X10_isKind L R (fun _ => 0) x k).map (·.1)).map (fun r => (r, t)) := by
  unfold f_X10_isKind
  unfold p_in
  by_cases c : x < 0 ∨ 67 ≤ x.toNatClampNeg
  · rw [if_pos c, if_pos c]; rfl
  rw [if_neg c, if_neg c]
  by_cases c0 : k = 0
  · rw [if_pos c0, if_pos c0]
    by_cases d : (2 : Int32) ≤ L x.toNatClampNeg
    · rw [if_pos d, if_pos d]; rfl
    · rw [if_neg d, if_neg d]; rfl
  rw [if_neg c0, if_neg c0]
  by_cases c1 : k = 1
  · rw [if_pos c1, if_pos c1]
    by_cases d : L x.toNatClampNeg = 0
    · rw [if_pos d, if_pos d]; rfl
    · rw [if_neg d, if_neg d]
      cases f_X10_rowOf R x 0 with
      | none => rfl
      | some r =>
        rw [pb1, pb1]
        by_cases d2 : r = 1
        · rw [if_pos d2, if_pos d2]; rfl
        · rw [if_neg d2, if_neg d2]; rfl
  rw [if_neg c1, if_neg c1]
  by_cases c2 : k = 2
  · rw [if_pos c2, if_pos c2]
    by_cases d : (3 : Int32) ≤ L x.toNatClampNeg
    · rw [if_pos d, if_pos d]; rfl
    · rw [if_neg d, if_neg d]; rfl
  rw [if_neg c2, if_neg c2]
  by_cases c3 : k = 3
  · rw [if_pos c3, if_pos c3]
    by_cases d : L x.toNatClampNeg = 1
    · rw [if_pos d, if_pos d]; rfl
    · rw [if_neg d, if_neg d]
      by_cases d2 : L x.toNatClampNeg ≤ 1
      · rw [if_pos d2, if_pos d2]; rfl
      · rw [if_neg d2, if_neg d2]
        cases f_X10_rowOf R x 1 with
        | none => rfl
        | some r =>
          rw [pb1, pb1]
          by_cases d3 : r = 1
          · rw [if_pos d3, if_pos d3]; rfl
          · rw [if_neg d3, if_neg d3]; rfl
  rw [if_neg c3, if_neg c3, if_neg hk, if_neg hk]
  by_cases c5 : k = 5
  · rw [if_pos c5, if_pos c5]
    by_cases d : L x.toNatClampNeg = 0
    · rw [if_pos d, if_pos d]; rfl
    · rw [if_neg d, if_neg d]
      cases f_X10_rowOf R x 0 with
      | none => rfl
      | some r =>
        rw [pb1, pb1]
        cases f_X10_rowOf R x (L x.toNatClampNeg - 1) with
        | none => rfl
        | some q =>
          rw [pb1, pb1]
          by_cases d2 : r = q
          · rw [if_pos d2, if_pos d2]; rfl
          · rw [if_neg d2, if_neg d2]; rfl
  rw [if_neg c5, if_neg c5]
  exact m_kd161 _ _ _ _
def kb (s k : Nat) : Int32 := if k = 4 then (if tz_turn s = nI s then 1 else 0) else ((f_X10_isKind tz_L tz_R (fun _ => 0) (nI s) (nI k)).map (·.1)).getD 7
theorem kb_ok : ∀ s, s < 67 → ∀ k, k < 7 → k = 4 ∨ (f_X10_isKind tz_L tz_R (fun _ => 0) (nI s) (nI k)).map (·.1) = some (kb s k) := by decide +kernel
theorem m_isKind : ∀ s, s < 67 → ∀ k, k < 7 → ∀ t, ∃ t', f_X10_isKind tz_L tz_R t (nI s) (nI k) = some (kb s k, t') := by
  intro s hs k hk t
  by_cases c : k = 4
  · subst c
    obtain ⟨t', e⟩ := m_turnedOf s hs t
    refine ⟨t', ?_⟩
    unfold f_X10_isKind
    rw [pinn hs (by decide), if_neg (by decide), if_neg (by decide), if_neg (by decide), if_neg (by decide), if_pos (by decide), e, pb2]
    unfold kb
    rw [if_pos rfl]
    by_cases d : tz_turn s = nI s
    · rw [if_pos d, if_pos d]
    · rw [if_neg d, if_neg d]
  · have e := m_kd (L := tz_L) (R := tz_R) (t := t) (nI s) (nI k) (fun h => c ((nI_eq (by omega) (by omega)).mp h))
    have e2 := (kb_ok s hs k hk).resolve_left c
    rw [e2] at e
    exact ⟨t, e⟩
def kbits (s : Nat) : Nat → Int32
  | 0 => 0
  | k + 1 => kbits s k ||| (if kb s k = 0 then 0 else (1 : Int32) <<< (nI k &&& 31))
theorem kbits_ok : ∀ s, s < 67 → kbits s 7 = tz_kind s := by decide +kernel
theorem m_kinds {s : Nat} (hs : s < 67) (rf : Nat → Int32) : ∀ (d n k : Nat), k + d = 7 → d < n → ∀ t, ∃ t', f_X10_of_111 tz_S tz_L tz_R n rf t (nI s) (kbits s k) (nI k) = some (tz_kind s, rf, t') := by
  intro d
  induction d with
  | zero =>
    intro n k hk hn t
    obtain ⟨n, rfl⟩ : ∃ q, n = q + 1 := ⟨n - 1, by omega⟩
    obtain rfl : k = 7 := by omega
    refine ⟨t, ?_⟩
    show gf_X10_of_111 (f_X10_of_111 tz_S tz_L tz_R n) tz_S tz_L tz_R rf t (nI s) (kbits s 7) (nI 7) = _
    unfold gf_X10_of_111
    rw [if_pos (by decide), kbits_ok s hs]
  | succ d ih =>
    intro n k hk hn t
    obtain ⟨n, rfl⟩ : ∃ q, n = q + 1 := ⟨n - 1, by omega⟩
    obtain ⟨t1, e1⟩ := m_isKind s hs k (by omega) t
    obtain ⟨t2, e2⟩ := ih n (k + 1) (by omega) (by omega) t1
    refine ⟨t2, ?_⟩
    show gf_X10_of_111 (f_X10_of_111 tz_S tz_L tz_R n) tz_S tz_L tz_R rf t (nI s) (kbits s k) (nI k) = _
    unfold gf_X10_of_111 f_X10_of_137
    rw [if_neg (show ¬ (7 : Int32) ≤ nI k from nI_ge (a := k) (b := 7) (by omega) (by decide)), e1, pb2, show nI k + (1 : Int32) = nI (k + 1) from nI_1 k]
    by_cases c : kb s k = 0
    · rw [if_pos c]
      have e3 : kbits s (k + 1) = kbits s k ||| (0 : Int32) := by show kbits s k ||| (if kb s k = 0 then 0 else _) = _; rw [if_pos c]
      rw [← e3]; exact e2
    · rw [if_neg c]
      have e3 : kbits s (k + 1) = kbits s k ||| ((1 : Int32) <<< (nI k &&& 31)) := by show kbits s k ||| (if kb s k = 0 then 0 else _) = _; rw [if_neg c]
      rw [← e3]; exact e2
theorem k_rowX : ∀ s, s < 67 → ∀ r, r < 8 → f_X7_row tz_R (nI s) (nI (10 + r) - 10) = some (tz_R (8 * s + r)) := by decide +kernel
theorem m_rowX : ∀ s, s < 67 → ∀ r, r < 8 → f_X10_rowOf tz_R (nI s) (nI (10 + r) - 10) = some (tz_R (8 * s + r)) := by decide +kernel
theorem m_rowOf : ∀ s, s < 67 → ∀ r, r < 8 → f_X10_rowOf tz_R (nI s) (nI r) = some (tz_R (8 * s + r)) := by decide +kernel
set_option maxRecDepth 10000 in
theorem eq_of : EQ_of Rl0 := by
  intro v9_refusals v7_rows v7_lengths v7_sizes v7_rests v7_orders v6_hooks v6_lefts v6_heights v1_table v5_known v8_sizes v8_coefficients v8_undoneSums v8_undos v8_nextUndo v8_imageTaken v0_totals v3_letters v3_count v3_next v3_size v4_values v4_lengths v10_firstOf v10_sizeOf v10_longOf v10_row v10_character v10_sum v10_coefficient v10_undone v10_wasSum v10_wasCoefficient v10_hasImage v10_letter v10_letters v10_list v10_cell v10_refusals v10_tried v10_left v10_high v10_then v10_at v10_readSize hR x1 x2
  obtain ⟨hc, hm, hrf, hkn, hle, hli, hsu⟩ := hR
  have hc1 := hc
  have hm1 := hm
  obtain ⟨rfl, rfl, rfl, rfl, rfl, rfl, rfl, rfl, rfl⟩ := hc1
  obtain ⟨rfl, rfl, rfl, rfl, rfl⟩ := hm1
  rcases shx x1 with ⟨s, hs, rfl, h1, h2⟩ | ⟨h1, h2⟩
  · have hin : ∀ {α : Type} (k : Option α), p_in (nI s) 67 k = k := fun k => pinn hs (by decide)
    have hcs : (nI s).toNatClampNeg = s := nI_c s (by omega)
    by_cases c1 : (x2 < 10 ∨ (18 : Int32) ≤ x2)
    · have e9 : f_X9_of v9_refusals tz_R tz_L tz_S tz_O tz_H (nI s) x2 = f_X9_of_42 tz_R tz_L tz_S tz_O tz_H v9_refusals (nI s) x2 := by
        unfold f_X9_of
        rw [h1, pb1, if_neg i10]
        by_cases c2 : x2 < 10
        · rw [if_pos c2]
        · rw [if_neg c2, if_pos (c1.resolve_left c2)]
      have e10 : f_X10_in x2 10 17 = some 0 := by
        unfold f_X10_in
        by_cases c2 : x2 < 10
        · rw [if_pos c2]
        · rw [if_neg c2, if_pos (Int32.lt_of_lt_of_le (by decide) (c1.resolve_left c2))]
      rw [e9]
      unfold f_X9_of_42 f_X10_of
      rw [h2, pb1, if_neg i10, e10, pb1, if_pos rfl]
      by_cases d0 : x2 = 0
      · exact ⟨_, _, _, _, by rw [if_pos d0, k_sizeOf s hs, pb1], by rw [if_pos d0, hin, hcs], Rl0_mk hc hm hrf hkn hle hli hsu⟩
      rw [if_neg d0, if_neg d0]
      by_cases d1 : x2 = 1
      · exact ⟨_, _, _, _, by rw [if_pos d1, k_lengthOf s hs, pb1], by rw [if_pos d1, hin, hcs], Rl0_mk hc hm hrf hkn hle hli hsu⟩
      rw [if_neg d1, if_neg d1]
      by_cases d2 : x2 = 2
      · obtain ⟨t', e⟩ := m_turnedOf s hs v10_tried
        exact ⟨_, _, _, _, by rw [if_pos d2, k_turnedOf s hs, pb1], by rw [if_pos d2, e, pb2], Rl0_mk hc hm hrf hkn hle hli hsu⟩
      rw [if_neg d2, if_neg d2]
      by_cases d3 : x2 = 3
      · exact ⟨_, _, _, _, by rw [if_pos d3, k_dimensionOf s hs, pb1], by rw [if_pos d3, m_dimension s hs, pb1], Rl0_mk hc hm hrf hkn hle hli hsu⟩
      rw [if_neg d3, if_neg d3]
      by_cases d4 : x2 = 4
      · exact ⟨_, _, _, _, by rw [if_pos d4, k_ordersOf s hs, pb1], by rw [if_pos d4, m_ordersOf s hs, pb1], Rl0_mk hc hm hrf hkn hle hli hsu⟩
      rw [if_neg d4, if_neg d4]
      by_cases d5 : x2 = 5
      · obtain ⟨t', e⟩ := m_kinds hs v10_refusals 7 1000 0 rfl (by omega) v10_tried
        exact ⟨_, _, _, _, by rw [if_pos d5, k_bitsOf s hs, pb1], by rw [if_pos d5]; exact e, Rl0_mk hc hm hrf hkn hle hli hsu⟩
      rw [if_neg d5, if_neg d5]
      obtain ⟨a', b', e1, e2, hrf'⟩ := rf_1 hrf (-2) (by decide)
      exact ⟨_, _, _, _, by rw [e1, pb2], by rw [e2, pb2], Rl0_mk hc hm hrf' hkn hle hli hsu⟩
    · have c2 : ¬ x2 < 10 := fun h => c1 (Or.inl h)
      have c3 : ¬ (18 : Int32) ≤ x2 := fun h => c1 (Or.inr h)
      obtain ⟨r, hr, rfl⟩ : ∃ r, r < 8 ∧ x2 = nI (10 + r) := by
        obtain ⟨j, hj, rfl⟩ := nI_of2 (n := 17) (M := 17) (x := x2) (by decide) (fun h => c2 (Int32.lt_trans h (by decide))) (by
          rw [Int32.le_iff_toInt_le] at c3 ⊢
          rw [show (18 : Int32).toInt = 18 by decide] at c3
          rw [show (17 : Int32).toInt = 17 by decide]
          omega)
        have h10 : 10 ≤ j := by
          rcases Nat.lt_or_ge j 10 with q | q
          · exact absurd (show nI j < 10 from nI_lt (b := 10) q (by decide)) c2
          · exact q
        exact ⟨j - 10, by omega, by rw [Nat.add_sub_cancel' h10]⟩
      have e10 : f_X10_in (nI (10 + r)) 10 17 = some 1 := by
        unfold f_X10_in
        rw [if_neg c2, if_neg (show ¬ (17 : Int32) < nI (10 + r) from nI_nlt (a := 17) (b := 10 + r) (by omega) (by decide))]
      exact ⟨_, _, _, _, by unfold f_X9_of; rw [h1, pb1, if_neg i10, if_neg c2, if_neg c3, k_rowX s hs r hr, pb1], by unfold f_X10_of; rw [h2, pb1, if_neg i10, e10, pb1, if_neg i10, m_rowX s hs r hr, pb1], Rl0_mk hc hm hrf hkn hle hli hsu⟩
  · obtain ⟨a', b', e1, e2, hrf'⟩ := rf_1 hrf (-1) (by decide)
    exact ⟨_, _, _, _, by unfold f_X9_of; rw [h1, pb1, if_pos rfl, e1, pb2], by unfold f_X10_of; rw [h2, pb1, if_pos rfl, e2, pb2], Rl0_mk hc hm hrf' hkn hle hli hsu⟩
