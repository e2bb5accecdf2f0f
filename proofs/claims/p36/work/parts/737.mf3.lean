/-! changed: turned, restricted, induced -/
def lsm (v : Nat → Int64) (tgt : Nat → Nat) (p : Nat) : List Nat → Int64
  | [] => 0
  | q :: l => (if tgt q = p then v q else 0) + lsm v tgt p l
def cnt (tgt : Nat → Nat) (p : Nat) : List Nat → Nat
  | [] => 0
  | q :: l => (if tgt q = p then 1 else 0) + cnt tgt p l
def asm (v : Nat → Int64) : List Nat → Int64
  | [] => 0
  | q :: l => v q + asm v l
theorem fs_lsm (tgt : Nat → Nat) (val : Nat → Int64) (p : Nat) : ∀ (l : List Nat) (X : Nat → Int64), fs tgt val l X p = X p + lsm val tgt p l
  | [], X => (Int64.add_zero _).symm
  | q :: l, X => by
    show fs tgt val l (st1 tgt val X q) p = X p + ((if tgt q = p then val q else 0) + lsm val tgt p l)
    rw [fs_lsm tgt val p l, ← Int64.add_assoc]
    congr 1
    unfold st1 vp_updL
    by_cases c : p = tgt q
    · rw [if_pos c, if_pos c.symm, c]
    · rw [if_neg c, if_neg (fun h => c h.symm), Int64.add_zero]
theorem fo_lsm (tg : Nat → Nat → Nat) (vl : Nat → Nat → Int64) (m : Nat) (X : Nat → Int64) (p : Nat) : ∀ N, fo tg vl m X N p = X p + sm (fun i => lsm (vl i) (tg i) p (qcells (qz_D m + i) 1)) N
  | 0 => (Int64.add_zero _).symm
  | N + 1 => by
    show fs (tg N) (vl N) (qcells (qz_D m + N) 1) (fo tg vl m X N) p = X p + (sm (fun i => lsm (vl i) (tg i) p (qcells (qz_D m + i) 1)) N + lsm (vl N) (tg N) p (qcells (qz_D m + N) 1))
    rw [fs_lsm, fo_lsm tg vl m X p N, Int64.add_assoc]
theorem n64_s {c : Nat} (h : c < 1000) : (nI (1 + c)).toInt64 = 1 + (nI c).toInt64 := by
  refine Int64.toInt_inj.mp ?_
  rw [Int32.toInt_toInt64, nI_toInt (by omega), Int64.toInt_add, Int32.toInt_toInt64, nI_toInt (by omega), show (1 : Int64).toInt = 1 by decide, bm64 (by omega) (by omega)]
  omega
theorem cnt_le (tgt : Nat → Nat) (p : Nat) : ∀ l, cnt tgt p l ≤ l.length
  | [] => Nat.le_refl _
  | q :: l => by
    have := cnt_le tgt p l
    show (if tgt q = p then 1 else 0) + cnt tgt p l ≤ l.length + 1
    split <;> omega
theorem lsm_const (v : Int64) (tgt : Nat → Nat) (p : Nat) : ∀ l : List Nat, l.length < 1000 → lsm (fun _ => v) tgt p l = v * (nI (cnt tgt p l)).toInt64
  | [], _ => by
    show (0 : Int64) = v * (nI 0).toInt64
    rw [show (nI 0).toInt64 = 0 by decide, Int64.mul_zero]
  | q :: l, h => by
    have hl : l.length + 1 < 1000 := h
    have hc := cnt_le tgt p l
    show (if tgt q = p then v else 0) + lsm (fun _ => v) tgt p l = v * (nI ((if tgt q = p then 1 else 0) + cnt tgt p l)).toInt64
    rw [lsm_const v tgt p l (by omega)]
    by_cases c : tgt q = p
    · rw [if_pos c, if_pos c, n64_s (by omega), Int64.mul_add, Int64.mul_one]
    · rw [if_neg c, if_neg c, Int64.zero_add, Nat.zero_add]
theorem lsm_fst (v : Nat → Int64) (i p : Nat) : ∀ l, lsm v (fun _ => i) p l = if i = p then asm v l else 0
  | [] => by
    show (0 : Int64) = if i = p then 0 else 0
    split <;> rfl
  | q :: l => by
    show (if i = p then v q else 0) + lsm v (fun _ => i) p l = if i = p then v q + asm v l else 0
    rw [lsm_fst v i p l]
    by_cases c : i = p
    · rw [if_pos c, if_pos c, if_pos c]
    · rw [if_neg c, if_neg c, if_neg c]; rfl
theorem sm_ind0 (F : Nat → Int64) (a : Nat) : ∀ M, M ≤ a → sm (fun r => if a = r then F r else 0) M = 0
  | 0, _ => rfl
  | M + 1, h => by
    show sm (fun r => if a = r then F r else 0) M + (if a = M then F M else 0) = 0
    rw [sm_ind0 F a M (by omega), if_neg (by omega)]
    rfl
theorem sm_ind (F : Nat → Int64) (a : Nat) : ∀ M, a < M → sm (fun r => if a = r then F r else 0) M = F a
  | 0, h => absurd h (Nat.not_lt_zero _)
  | M + 1, h => by
    show sm (fun r => if a = r then F r else 0) M + (if a = M then F M else 0) = F a
    by_cases c : a = M
    · rw [sm_ind0 F a M (by omega), if_pos c, c, Int64.zero_add]
    · rw [sm_ind F a M (by omega), if_neg c, Int64.add_zero]
theorem asm_cnt (F : Nat → Int64) (t : Nat → Nat) (M : Nat) : ∀ l : List Nat, l.length < 1000 → (∀ q ∈ l, t q < M) → asm (fun q => F (t q)) l = sm (fun r => F r * (nI (cnt t r l)).toInt64) M
  | [], _, _ => by
    show (0 : Int64) = sm (fun r => F r * (nI 0).toInt64) M
    rw [sm_congr M (h := fun _ => 0) (fun i _ => by show F i * (nI 0).toInt64 = 0; rw [show (nI 0).toInt64 = 0 by decide, Int64.mul_zero]), sm_0]
  | q :: l, h, hq => by
    have hl : l.length + 1 < 1000 := h
    show F (t q) + asm (fun q => F (t q)) l = sm (fun r => F r * (nI ((if t q = r then 1 else 0) + cnt t r l)).toInt64) M
    rw [asm_cnt F t M l (by omega) (fun x hx => hq x (List.mem_cons_of_mem _ hx)), ← sm_ind F (t q) M (hq q List.mem_cons_self), ← sm_add]
    refine sm_congr M (fun r _ => ?_)
    have hc := cnt_le t r l
    show (if t q = r then F r else 0) + F r * (nI (cnt t r l)).toInt64 = F r * (nI ((if t q = r then 1 else 0) + cnt t r l)).toInt64
    by_cases c : t q = r
    · rw [if_pos c, if_pos c, n64_s (by omega), Int64.mul_add, Int64.mul_one]
    · rw [if_neg c, if_neg c, Int64.zero_add, Nat.zero_add]
theorem qcells_len (s k : Nat) : (qcells s k).length < 1000 := by
  unfold qcells
  have h1 := List.length_filter_le (fun q => qz_H (8 * s + q) == k) (List.range (qz_S s))
  rw [List.length_range] at h1
  have h2 : qz_S s < 16 := Nat.mod_lt _ (by decide)
  omega
theorem cor_ok : ∀ m, m < 9 → ∀ i, i < qz_N m → ∀ p, p < qz_N (m - 1) → cnt (lp m i) p (qcells (qz_D m + i) 1) = cor m i p := by decide +kernel
theorem pf_restricted {rf sizes coefs us : Nat → Int32} {tot : Nat → Int64} {S : Nat → SV} {u nx n : Nat} {f : Nat → Int32} (hS : ∀ t, t < 4 → Rsm sizes coefs t (S t)) (hu : u ≤ 8) (hnx : nx < 8) (h0 : S 3 = some (n, f)) (hn0 : 0 < n) (hfit : ∀ c, c < qz_N (n - 1) → -1000000 ≤ (sm (fun q => (f q).toInt64 * (nI (cor n q c)).toInt64) (qz_N n)).toInt ∧ (sm (fun q => (f q).toInt64 * (nI (cor n q c)).toInt64) (qz_N n)).toInt ≤ 1000000) : ∃ sizes' coefs' us' u' nx' tot', f_X9_changed rf tz_R tz_S tz_H tz_F sizes coefs us (nI u) (nI nx) tot 3 1 = some (nI (tmN (reF n f) 22), rf, sizes', coefs', us', nI u', nI nx', tot') ∧ (∀ t, t < 4 → Rsm sizes' coefs' t (upS S 3 (some (n - 1, reF n f)) t)) ∧ u' ≤ 8 ∧ nx' < 8 := by
  have i10 : ¬ (1 : Int32) = 0 := by decide
  have ha := hS 3 (by omega)
  rw [h0] at ha
  have ha := Rsm_some ha
  have hn := ha.1
  have hN := qN_le n hn
  obtain ⟨X0, X', e1, hX0, hX'⟩ := k_restr (sizes := sizes) (coefs := coefs) hn (show 1 ≤ n by omega) (show 3 < 4 by omega) ha.2.1 tot
  have hT : ∀ p, p < 22 → Fm (X' p) ∧ (X' p).toInt32 = reF n f p := by
    intro p hp
    unfold reF
    by_cases c : p < qz_N (n - 1)
    · have e : X' p = sm (fun q => (f q).toInt64 * (nI (cor n q p)).toInt64) (qz_N n) := by
        rw [hX', fo_lsm, hX0 p hp, Int64.zero_add]
        refine sm_congr _ (fun i hi => ?_)
        show lsm (fun _ => cl coefs 3 i) (lp n i) p (qcells (qz_D n + i) 1) = _
        rw [lsm_const _ _ _ _ (qcells_len _ _), cor_ok n hn i hi p c]
        unfold cl
        rw [ha.2.2.1 i (by omega)]
      rw [if_pos c, e]
      exact ⟨Fm_of (hfit p c), rfl⟩
    · have e : X' p = 0 := by
        rw [hX']
        exact fo_zero (z := qz_N (n - 1)) (fun p _ hp => hX0 p hp) _ (fun i hi q hq => (lp_ok hn hi hq).2.2.2) p (by omega) hp
      rw [if_neg c, e]
      exact ⟨⟨by decide, by decide⟩, by decide⟩
  obtain ⟨sz, cf, g1, g2, g3⟩ := draft_S hS (show n - 1 < 9 by omega) hT (fun p hp => if_neg (by omega))
  obtain ⟨sizes', coefs', us', u', nx', e4, q1, q2, q3⟩ := keep_T (us := us) g2 hu hnx (show 3 < 4 by omega) g3
  refine ⟨sizes', coefs', us', u', nx', X', ?_, q1, q2, q3⟩
  have eK : f_X9_changed rf tz_R tz_S tz_H tz_F sizes coefs us (nI u) (nI nx) tot (nI 3) (nI 1) = p_b4 (p_b3 (f_X0_draftsTotals sizes coefs X' (nI (n - 1))) (fun r z c => some (r, z, c, X'))) (fun r_16 v8_sizes_17 v8_coefficients_18 v0_totals_19 => (f_X9_changed_148 tz_R tz_S tz_H tz_F) rf v8_sizes_17 v8_coefficients_18 us (nI u) (nI nx) v0_totals_19 (nI 3) r_16) := by
    unfold f_X9_changed f_X9_changed_66 f_X9_changed_84
    rw [has8 (show 3 < 4 by omega), pb1, if_neg i10, if_neg (by decide), if_pos (by decide), k_miss80 (show 3 < 4 by omega) hn ha.2.1, pb1, if_pos rfl, k_size8 (show 3 < 4 by omega), pb1, if_pos (show nI 1 = (1 : Int32) from rfl), ha.2.1, if_neg (show ¬ nI n < (1 : Int32) from nI_nlt (b := 1) (by omega) (by omega)), if_neg (show ¬ nI 1 = (2 : Int32) by decide), if_neg (show ¬ nI 1 = (0 : Int32) by decide), if_pos (show nI 1 = (1 : Int32) from rfl), e1]
  show f_X9_changed rf tz_R tz_S tz_H tz_F sizes coefs us (nI u) (nI nx) tot (nI 3) (nI 1) = _
  rw [eK, g1, pb3, pb4]
  unfold f_X9_changed_148
  rw [if_neg i10, e4, pb6]
theorem pf_restricted0 {rf sizes coefs us : Nat → Int32} {tot : Nat → Int64} {S : Nat → SV} {u nx : Int32} {f : Nat → Int32} (hS : ∀ t, t < 4 → Rsm sizes coefs t (S t)) (h0 : S 3 = some (0, f)) : ∃ rf', f_X9_changed rf tz_R tz_S tz_H tz_F sizes coefs us u nx tot 3 1 = some (-3, rf', sizes, coefs, us, u, nx, tot) := by
  have i10 : ¬ (1 : Int32) = 0 := by decide
  have ha := hS 3 (by omega)
  rw [h0] at ha
  have ha := Rsm_some ha
  refine ⟨upd rf 3 (rf 3 + 1), ?_⟩
  show f_X9_changed rf tz_R tz_S tz_H tz_F sizes coefs us u nx tot (nI 3) (nI 1) = _
  have e3 : f_X9_refuse rf (-3 : Int32) = some (-3, upd rf 3 (rf 3 + 1)) := by
    unfold f_X9_refuse p_in
    rfl
  unfold f_X9_changed f_X9_changed_77
  rw [has8 (show 3 < 4 by omega), pb1, if_neg i10, if_neg (by decide), if_pos (by decide), k_miss80 (show 3 < 4 by omega) ha.1 ha.2.1, pb1, if_pos rfl, k_size8 (show 3 < 4 by omega), pb1, if_pos (show nI 1 = (1 : Int32) from rfl), ha.2.1, if_pos (by decide), e3, pb2]
theorem pf_induced {rf sizes coefs us : Nat → Int32} {tot : Nat → Int64} {S : Nat → SV} {u nx n : Nat} {f : Nat → Int32} (hS : ∀ t, t < 4 → Rsm sizes coefs t (S t)) (hu : u ≤ 8) (hnx : nx < 8) (h0 : S 2 = some (n - 1, f)) (hn0 : 0 < n) (hn : n < 9) (hfit : ∀ c, c < qz_N n → -1000000 ≤ (sm (fun p => (f p).toInt64 * (nI (cor n c p)).toInt64) (qz_N (n - 1))).toInt ∧ (sm (fun p => (f p).toInt64 * (nI (cor n c p)).toInt64) (qz_N (n - 1))).toInt ≤ 1000000) : ∃ sizes' coefs' us' u' nx' tot', f_X9_changed rf tz_R tz_S tz_H tz_F sizes coefs us (nI u) (nI nx) tot 2 2 = some (nI (tmN (idF n f) 22), rf, sizes', coefs', us', nI u', nI nx', tot') ∧ (∀ t, t < 4 → Rsm sizes' coefs' t (upS S 2 (some (n, idF n f)) t)) ∧ u' ≤ 8 ∧ nx' < 8 := by
  have i10 : ¬ (1 : Int32) = 0 := by decide
  have ha := hS 2 (by omega)
  rw [h0] at ha
  have ha := Rsm_some ha
  have hN := qN_le n hn
  have hN2 := qN_le (n - 1) (by omega)
  obtain ⟨X0, X', e1, hX0, hX'⟩ := k_indu (sizes := sizes) (coefs := coefs) hn (show 1 ≤ n by omega) (show 2 < 4 by omega) ha.2.1 tot
  have hT : ∀ p, p < 22 → Fm (X' p) ∧ (X' p).toInt32 = idF n f p := by
    intro p hp
    unfold idF
    by_cases c : p < qz_N n
    · have e : X' p = sm (fun r => (f r).toInt64 * (nI (cor n p r)).toInt64) (qz_N (n - 1)) := by
        rw [hX', fo_lsm, hX0 p hp, Int64.zero_add]
        have e2 : sm (fun i => lsm (vlI coefs 2 n i) (tgI i) p (qcells (qz_D n + i) 1)) (qz_N n) = sm (fun i => if p = i then asm (vlI coefs 2 n i) (qcells (qz_D n + i) 1) else 0) (qz_N n) := sm_congr _ (fun i hi => by
          show lsm (vlI coefs 2 n i) (fun _ => i) p (qcells (qz_D n + i) 1) = _
          rw [lsm_fst]
          by_cases d : i = p
          · rw [if_pos d, if_pos d.symm]
          · rw [if_neg d, if_neg (fun h => d h.symm)])
        rw [e2, sm_ind (fun i => asm (vlI coefs 2 n i) (qcells (qz_D n + i) 1)) p (qz_N n) c]
        show asm (fun q => cl coefs 2 (lp n p q)) (qcells (qz_D n + p) 1) = _
        rw [asm_cnt (fun r => cl coefs 2 r) (lp n p) (qz_N (n - 1)) _ (qcells_len _ _) (fun q hq => (lp_ok hn c hq).2.2.2)]
        refine sm_congr _ (fun r hr => ?_)
        rw [cor_ok n hn p c r hr]
        unfold cl
        rw [ha.2.2.1 r (by omega)]
      rw [if_pos c, e]
      exact ⟨Fm_of (hfit p c), rfl⟩
    · have e : X' p = 0 := by
        rw [hX']
        exact fo_zero (z := qz_N n) (fun p _ hp => hX0 p hp) _ (fun i hi q hq => hi) p (by omega) hp
      rw [if_neg c, e]
      exact ⟨⟨by decide, by decide⟩, by decide⟩
  obtain ⟨sz, cf, g1, g2, g3⟩ := draft_S hS hn hT (fun p hp => if_neg (by omega))
  obtain ⟨sizes', coefs', us', u', nx', e4, q1, q2, q3⟩ := keep_T (us := us) g2 hu hnx (show 2 < 4 by omega) g3
  refine ⟨sizes', coefs', us', u', nx', X', ?_, q1, q2, q3⟩
  have eK : f_X9_changed rf tz_R tz_S tz_H tz_F sizes coefs us (nI u) (nI nx) tot (nI 2) (nI 2) = p_b4 (p_b3 (f_X0_draftsTotals sizes coefs X' (nI n)) (fun r z c => some (r, z, c, X'))) (fun r_16 v8_sizes_17 v8_coefficients_18 v0_totals_19 => (f_X9_changed_148 tz_R tz_S tz_H tz_F) rf v8_sizes_17 v8_coefficients_18 us (nI u) (nI nx) v0_totals_19 (nI 2) r_16) := by
    unfold f_X9_changed f_X9_changed_66 f_X9_changed_84
    rw [has8 (show 2 < 4 by omega), pb1, if_neg i10, if_neg (by decide), if_pos (by decide), k_miss80 (show 2 < 4 by omega) ha.1 ha.2.1, pb1, if_pos rfl, k_size8 (show 2 < 4 by omega), pb1, if_neg (show ¬ nI 2 = (1 : Int32) by decide), if_pos (show nI 2 = (2 : Int32) from rfl), ha.2.1, if_pos (show nI (n - 1) < (8 : Int32) from nI_lt (b := 8) (by omega) (by decide)), if_neg (show ¬ nI 2 = (0 : Int32) by decide), if_neg (show ¬ nI 2 = (1 : Int32) by decide), e1]
  show f_X9_changed rf tz_R tz_S tz_H tz_F sizes coefs us (nI u) (nI nx) tot (nI 2) (nI 2) = _
  rw [eK, g1, pb3, pb4]
  unfold f_X9_changed_148
  rw [if_neg i10, e4, pb6]
theorem pf_turned {rf sizes coefs us : Nat → Int32} {tot : Nat → Int64} {S : Nat → SV} {u nx n : Nat} {f : Nat → Int32} (hS : ∀ t, t < 4 → Rsm sizes coefs t (S t)) (hu : u ≤ 8) (hnx : nx < 8) (h0 : S 3 = some (n, f)) : ∃ sizes' coefs' us' u' nx' tot', f_X9_changed rf tz_R tz_S tz_H tz_F sizes coefs us (nI u) (nI nx) tot 3 0 = some (nI (tmN (tuF n f) 22), rf, sizes', coefs', us', nI u', nI nx', tot') ∧ (∀ t, t < 4 → Rsm sizes' coefs' t (upS S 3 (some (n, tuF n f)) t)) ∧ u' ≤ 8 ∧ nx' < 8 := by
  have i10 : ¬ (1 : Int32) = 0 := by decide
  have ha := hS 3 (by omega)
  rw [h0] at ha
  have ha := Rsm_some ha
  have hn := ha.1
  have hN := qN_le n hn
  obtain ⟨X', e1, hX'⟩ := k_about (sizes := sizes) (coefs := coefs) hn (show 3 < 4 by omega) ha.2.1 tot
  have hT : ∀ p, p < 22 → Fm (X' p) ∧ (X' p).toInt32 = tuF n f p := by
    intro p hp
    rw [hX' p hp]
    unfold ab tuF
    by_cases c : p < qz_N n
    · obtain ⟨t1, t2, t3⟩ := tp_all n hn p c
      rw [if_pos ⟨c, t2⟩, if_pos c]
      unfold cl
      rw [ha.2.2.1 _ (by omega)]
      exact ⟨Fm32 (ha.2.2.2.2 _), t3264 _⟩
    · rw [if_neg (fun h => c h.1), if_neg c]
      exact ⟨⟨by decide, by decide⟩, by decide⟩
  obtain ⟨sz, cf, g1, g2, g3⟩ := draft_S hS hn hT (fun p hp => if_neg (by omega))
  obtain ⟨sizes', coefs', us', u', nx', e4, q1, q2, q3⟩ := keep_T (us := us) g2 hu hnx (show 3 < 4 by omega) g3
  refine ⟨sizes', coefs', us', u', nx', X', ?_, q1, q2, q3⟩
  have eK : f_X9_changed rf tz_R tz_S tz_H tz_F sizes coefs us (nI u) (nI nx) tot (nI 3) (nI 0) = p_b4 (p_b3 (f_X0_draftsTotals sizes coefs X' (nI n)) (fun r z c => some (r, z, c, X'))) (fun r_16 v8_sizes_17 v8_coefficients_18 v0_totals_19 => (f_X9_changed_148 tz_R tz_S tz_H tz_F) rf v8_sizes_17 v8_coefficients_18 us (nI u) (nI nx) v0_totals_19 (nI 3) r_16) := by
    unfold f_X9_changed f_X9_changed_66 f_X9_changed_84
    rw [has8 (show 3 < 4 by omega), pb1, if_neg i10, if_neg (by decide), if_pos (by decide), k_miss80 (show 3 < 4 by omega) hn ha.2.1, pb1, if_pos rfl, k_size8 (show 3 < 4 by omega), pb1, if_neg (show ¬ nI 0 = (1 : Int32) by decide), if_neg (show ¬ nI 0 = (2 : Int32) by decide), if_pos (show nI 0 = (0 : Int32) from rfl), e1]
  show f_X9_changed rf tz_R tz_S tz_H tz_F sizes coefs us (nI u) (nI nx) tot (nI 3) (nI 0) = _
  rw [eK, g1, pb3, pb4]
  unfold f_X9_changed_148
  rw [if_neg i10, e4, pb6]
