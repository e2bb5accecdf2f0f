/-! a sum's own text read back, whole -/
theorem tp_pre (D0 : Nat) (f : Nat → Int32) (k : Nat) : ∀ d, ∃ R, txP D0 f (k + d) = txP D0 f k ++ R
  | 0 => ⟨[], (List.append_nil _).symm⟩
  | d + 1 => by
    obtain ⟨R, hR⟩ := tp_pre D0 f k d
    show ∃ R, (if f (k + d) = 0 then txP D0 f (k + d) else tmT (txP D0 f (k + d)) (f (k + d)) (D0 + (k + d))) = txP D0 f k ++ R
    by_cases c : f (k + d) = 0
    · rw [if_pos c]; exact ⟨R, hR⟩
    · rw [if_neg c]
      unfold tmT
      rw [hR]
      exact ⟨_, by simp only [List.append_assoc]; rfl⟩
theorem tp_pos (D0 : Nat) (f : Nat → Int32) : ∀ k, 0 < tmN f k → 0 < (txP D0 f k).length
  | 0, h => absurd h (Nat.lt_irrefl 0)
  | k + 1, h => by
    have h' : 0 < (if f k = 0 then tmN f k else tmN f k + 1) := h
    show 0 < (if f k = 0 then txP D0 f k else tmT (txP D0 f k) (f k) (D0 + k)).length
    by_cases c : f k = 0
    · rw [if_pos c] at h' ⊢
      exact tp_pos D0 f k h'
    · rw [if_neg c]
      unfold tmT
      simp only [List.length_append, List.length_cons]
      omega
theorem tp_zero (D0 : Nat) (f : Nat → Int32) : ∀ k, tmN f k = 0 → txP D0 f k = [] ∧ ∀ j, j < k → f j = 0
  | 0, _ => ⟨rfl, fun j hj => absurd hj (Nat.not_lt_zero j)⟩
  | k + 1, h => by
    have h' : (if f k = 0 then tmN f k else tmN f k + 1) = 0 := h
    by_cases c : f k = 0
    · rw [if_pos c] at h'
      obtain ⟨h1, h2⟩ := tp_zero D0 f k h'
      refine ⟨by show (if f k = 0 then txP D0 f k else _) = []; rw [if_pos c]; exact h1, fun j hj => ?_⟩
      by_cases e : j = k
      · rw [e]; exact c
      · exact h2 j (by omega)
    · rw [if_neg c] at h'
      omega
theorem tm_first (f : Nat → Int32) : ∀ N, ¬ tmN f N = 0 → ∃ k, k < N ∧ ¬ f k = 0 ∧ tmN f k = 0
  | 0, h => absurd rfl h
  | N + 1, h => by
    by_cases c : tmN f N = 0
    · have h' : ¬ (if f N = 0 then tmN f N else tmN f N + 1) = 0 := h
      refine ⟨N, by omega, fun e => ?_, c⟩
      rw [if_pos e] at h'
      exact h' c
    · obtain ⟨k, h1, h2, h3⟩ := tm_first f N c
      exact ⟨k, by omega, h2, h3⟩
def sgB2 (x : Int32) : Nat := if x < 0 then 1 else 0
theorem nmb_tab : ∀ z, z < 41 → nmb (sgB2 (nI z - 20)) (absN (nI z - 20)) = nI z - 20 ∧ absN (nI z - 20) < 100 := by decide +kernel
theorem nmb_abs {x : Int32} (h1 : -20 ≤ x.toInt) (h2 : x.toInt ≤ 20) : nmb (sgB2 x) (absN x) = x ∧ absN x < 100 := by
  obtain ⟨z, hz, rfl⟩ := small_of h1 h2
  exact nmb_tab z hz
def Dd (sz0 cf0 sz cf : Nat → Int32) (n k : Nat) (f : Nat → Int32) : Prop := (∀ t, t < 16 → Sl sz0 cf0 t sz cf t) ∧ sz 16 = nI n ∧ ∀ p, p < 22 → cf (352 + p) = if p < k then cutF n f p else 0
theorem Dd_skip {sz0 cf0 sz cf : Nat → Int32} {n k : Nat} {f : Nat → Int32} (h : Dd sz0 cf0 sz cf n k f) (hk : k < qz_N n) (hf : f k = 0) : Dd sz0 cf0 sz cf n (k + 1) f := by
  refine ⟨h.1, h.2.1, fun p hp => ?_⟩
  rw [h.2.2 p hp]
  by_cases c : p < k
  · rw [if_pos c, if_pos (by omega)]
  · rw [if_neg c]
    by_cases e : p = k
    · rw [if_pos (by omega), e]
      unfold cutF
      rw [if_pos hk, hf]
    · rw [if_neg (by omega)]
theorem Dd_put {sz0 cf0 sz cf : Nat → Int32} {n k : Nat} {f : Nat → Int32} (h : Dd sz0 cf0 sz cf n k f) (hk : k < qz_N n) (hk22 : k < 22) (h1 : -20 ≤ (f k).toInt) (h2 : (f k).toInt ≤ 20) : Dd sz0 cf0 sz (upd cf (352 + k) (cf (352 + k) + nmb (sgB2 (f k)) (absN (f k)))) n (k + 1) f := by
  refine ⟨fun t ht => Sl_trans (h.1 t ht) ⟨rfl, fun p hp => by unfold upd; rw [if_neg (by omega)]⟩, h.2.1, fun p hp => ?_⟩
  unfold upd
  by_cases e : p = k
  · rw [e, if_pos rfl, h.2.2 k hk22, if_neg (by omega), Int32.zero_add, (nmb_abs h1 h2).1, if_pos (by omega)]
    unfold cutF
    rw [if_pos hk]
  · rw [if_neg (by omega), h.2.2 p hp]
    by_cases c : p < k
    · rw [if_pos c, if_pos (by omega)]
    · rw [if_neg c, if_neg (by omega)]
theorem rd_lp {lc : Nat → Int32} {T : List Nat} {n : Nat} {f : Nat → Int32} {sz0 cf0 : Nat → Int32} (hT : T = txP (qz_D n) f (qz_N n)) (hn : T.length ≤ 72) (hl : ∀ j, j < T.length → lc j = ltx T j) (hn9 : n < 9) (hf : ∀ p, p < qz_N n → -20 ≤ (f p).toInt ∧ (f p).toInt ≤ 20) : ∀ (d F k y2 : Nat) (sz cf : Nat → Int32), k + d = qz_N n → d < F → y2 + d < 72 → 0 < tmN f k → Dd sz0 cf0 sz cf n k f → ∃ cf', AT lc T.length F sz cf (nI (txP (qz_D n) f k).length) (nI n) (nI y2) = some (-1, sz, cf', nI T.length, nI n) ∧ Dd sz0 cf0 sz cf' n (qz_N n) f := by
  have i10 : ¬ (1 : Int32) = 0 := by decide
  have hN := qN_le n hn9
  intro d
  induction d with
  | zero =>
    intro F k y2 sz cf hk hF hy htm hD
    obtain rfl : k = qz_N n := by omega
    refine ⟨cf, ?_, hD⟩
    unfold AT
    rw [← hT, if_pos rfl]
  | succ d ih =>
    intro F k y2 sz cf hk hF hy htm hD
    by_cases c : f k = 0
    · have e1 : txP (qz_D n) f (k + 1) = txP (qz_D n) f k := if_pos c
      have e2 : tmN f (k + 1) = tmN f k := if_pos c
      rw [← e1]
      exact ih F (k + 1) y2 sz cf (by omega) (by omega) (by omega) (by rw [e2]; exact htm) (Dd_skip hD (by omega) c)
    · obtain ⟨F, rfl⟩ : ∃ z, F = z + 1 := ⟨F - 1, by omega⟩
      have e1 : txP (qz_D n) f (k + 1) = tmT (txP (qz_D n) f k) (f k) (qz_D n + k) := if_neg c
      have e2 : tmN f (k + 1) = tmN f k + 1 := if_neg c
      obtain ⟨R, hR⟩ := tp_pre (qz_D n) f (k + 1) d
      rw [show k + 1 + d = qz_N n by omega, ← hT] at hR
      have hpos := tp_pos (qz_D n) f k htm
      have hfk := hf k (by omega)
      obtain ⟨hnm, hab⟩ := nmb_abs hfk.1 hfk.2
      have hTl : T.length = (txP (qz_D n) f (k + 1)).length + R.length := by rw [hR, List.length_append]
      have go : ∀ ch1 : Nat, sgT (txP (qz_D n) f k) (f k) = [ch1] → T = txP (qz_D n) f k ++ ch1 :: (jdg (absN (f k)) ++ (91 :: (rwT (qz_D n + k) ++ (93 :: R)))) ∧ (txP (qz_D n) f k).length < T.length ∧ ∃ cf', f_X3_readToDraft_19 tz_S lc (nI T.length) (F + 1) sz cf (nI ((txP (qz_D n) f k).length + 1)) (nI n) (nI (sgB2 (f k))) (nI (y2 + 1)) = some (-1, sz, cf', nI T.length, nI n) ∧ Dd sz0 cf0 sz cf' n (qz_N n) f := by
        intro ch1 hch
        have hT2 : T = txP (qz_D n) f k ++ ch1 :: (jdg (absN (f k)) ++ (91 :: (rwT (qz_D n + k) ++ (93 :: R)))) := by
          rw [hR, e1]
          unfold tmT
          rw [hch]
          simp only [List.append_assoc, List.cons_append, List.nil_append]
        have hT3 : T = (txP (qz_D n) f k ++ [ch1]) ++ (jdg (absN (f k)) ++ (91 :: (rwT (qz_D n + k) ++ (93 :: R)))) := by
          rw [hT2]; simp only [List.append_assoc, List.cons_append, List.nil_append]
        have hlt : (txP (qz_D n) f k).length < T.length := by rw [hT2]; simp only [List.length_append, List.length_cons]; omega
        refine ⟨hT2, hlt, ?_⟩
        have ht := (term_ok (lc := lc) (vs := nI n) (b := sgB2 (f k)) hT3 hn hl hn9 (show k < qz_N n by omega) hab (by unfold sgB2; split <;> omega) sz cf).1
        rw [show (txP (qz_D n) f k ++ [ch1]).length = (txP (qz_D n) f k).length + 1 by rw [List.length_append]; rfl] at ht
        obtain ⟨cf', e3, h3⟩ := ih F (k + 1) (y2 + 1) sz _ (by omega) (by omega) (by omega) (by omega) (Dd_put hD (by omega) (by omega) hfk.1 hfk.2)
        refine ⟨cf', ?_, h3⟩
        rw [k_19 (by omega), ht, pb5, if_neg i10, show T.length - R.length = (txP (qz_D n) f (k + 1)).length by omega]
        exact e3
      unfold AT
      by_cases c2 : f k < 0
      · have hch : sgT (txP (qz_D n) f k) (f k) = [45] := if_pos c2
        obtain ⟨g1, g2, cf', g3, g4⟩ := go 45 hch
        rw [show sgB2 (f k) = 1 from if_pos c2] at g3
        refine ⟨cf', ?_, g4⟩
        rw [if_neg (fun h => by have := (nI_eq (by omega) (by omega)).mp h; omega), k_pass1 (w := (45 : Int32)) hn hl (by omega) (ch_mid g1), pb2, if_neg i10, show nI y2 + (1 : Int32) = nI (y2 + 1) from nI_1 y2]
        exact g3
      · have hch : sgT (txP (qz_D n) f k) (f k) = [43] := by unfold sgT; rw [if_neg c2, if_neg (by omega)]
        obtain ⟨g1, g2, cf', g3, g4⟩ := go 43 hch
        rw [show sgB2 (f k) = 0 from if_neg c2] at g3
        refine ⟨cf', ?_, g4⟩
        have h43 : ch (ltx T) T.length (txP (qz_D n) f k).length = nI 43 := ch_mid g1
        rw [if_neg (fun h => by have := (nI_eq (by omega) (by omega)).mp h; omega), k_pass0 (w := (45 : Int32)) hn hl (by omega) (by rw [h43]; decide), pb2, if_pos rfl, k_pass1 (w := (43 : Int32)) hn hl (by omega) h43, pb2, if_neg i10, show nI y2 + (1 : Int32) = nI (y2 + 1) from nI_1 y2]
        exact g3
theorem jdg_head (v : Nat) : ∃ q R, jdg v = (48 + q) :: R := by
  unfold jdg
  by_cases c : v < 10
  · rw [if_pos c]; exact ⟨_, _, rfl⟩
  · rw [if_neg c]; exact ⟨_, _, rfl⟩
theorem dig_ne {q : Nat} (h : 48 + q < 2 ^ 31) : ¬ nI (48 + q) = (45 : Int32) := fun e => by
  have := (nI_eq (a := 48 + q) (b := 45) h (by decide)).mp e
  omega
theorem rd_text {lc : Nat → Int32} {n : Nat} {f : Nat → Int32} (sz0 cf0 : Nat → Int32) (nx vs : Int32) (hn : (txF n f).length ≤ 72) (hl : ∀ j, j < (txF n f).length → lc j = ltx (txF n f) j) (hn8 : n < 8) (hf : ∀ p, p < qz_N n → -20 ≤ (f p).toInt ∧ (f p).toInt ≤ 20) : ∃ sz cf, f_X3_readToDraft tz_S sz0 cf0 lc (nI (txF n f).length) nx vs = some (-1, sz, cf, nI (txF n f).length, nI n) ∧ Dd sz0 cf0 sz cf n (qz_N n) f := by
  have i10 : ¬ (1 : Int32) = 0 := by decide
  have hn9 : n < 9 := by omega
  have hN := qN_le n hn9
  have hN1 : 0 < qz_N n := qN_pos n hn9
  obtain ⟨sz, cf, eb, d1, d2, d3⟩ := k_beginDraft (sizes := sz0) (coefs := cf0) (v := nI n)
  -- a first term without a sign, or with one
  have first : ∀ (P R : List Nat) (i v b : Nat), txF n f = P ++ (jdg v ++ (91 :: (rwT (qz_D n + i) ++ (93 :: R)))) → i < qz_N n → v < 100 → b < 2 → f_X3_readToDraft_19 tz_S lc (nI (txF n f).length) 1000 sz0 cf0 (nI P.length) (-1) (nI b) 0 = AT lc (txF n f).length 999 sz (upd cf (352 + i) (cf (352 + i) + nmb b v)) (nI ((txF n f).length - R.length)) (nI n) (nI 0) := by
    intro P R i v b h hi hv hb
    have ht := (term_ok (lc := lc) (vs := -1) h hn hl hn9 hi hv hb sz0 cf0).2
    rw [show f_X3_readToDraft_19 tz_S lc (nI (txF n f).length) 1000 sz0 cf0 (nI P.length) (-1) (nI b) 0 = _ from k_19 (f := 999) (y2 := 0) (by omega) sz0 cf0 (nI P.length) (-1) (nI b), ht, eb, pb2, pb5, if_neg i10]
  by_cases c0 : tmN f (qz_N n) = 0
  · have hT : txF n f = [] ++ (jdg 0 ++ (91 :: (rwT (qz_D n + 0) ++ (93 :: [])))) := by
      unfold txF
      rw [if_pos c0]
      simp only [List.append_assoc, List.cons_append, List.nil_append, Nat.add_zero]
      rfl
    have h48 : ch (ltx (txF n f)) (txF n f).length 0 = nI 48 := ch_mid (Q := []) (R := 91 :: (rwT (qz_D n + 0) ++ (93 :: []))) hT
    have hz := (tp_zero (qz_D n) f (qz_N n) c0).2
    have hz2 : ∀ p, cutF n f p = 0 := fun p => by
      unfold cutF
      by_cases e : p < qz_N n
      · rw [if_pos e]; exact hz p e
      · rw [if_neg e]
    have hd : ∀ p, p < 22 → upd cf (352 + 0) (cf (352 + 0) + nmb 0 0) (352 + p) = 0 := fun p hp => by
      unfold upd
      by_cases e : p = 0
      · rw [e, if_pos rfl, d3 0 (by omega)]; decide
      · rw [if_neg (by omega)]; exact d3 p hp
    refine ⟨sz, upd cf (352 + 0) (cf (352 + 0) + nmb 0 0), ?_, fun t ht => Sl_trans (d1 t ht) ⟨rfl, fun p hp => by unfold upd; rw [if_neg (by omega)]⟩, d2, fun p hp => by rw [hd p hp, hz2 p, ite_self]⟩
    unfold f_X3_readToDraft
    rw [show f_X3_passes lc (nI (txF n f).length) (0 : Int32) 45 = some (0, nI 0) from k_pass0 (a := 0) hn hl (by omega) (by rw [h48]; decide), pb2]
    rw [show f_X3_readToDraft_19 tz_S lc (nI (txF n f).length) 1000 sz0 cf0 (nI 0) (-1) 0 0 = _ from first [] [] 0 0 0 hT (by omega) (by omega) (by omega)]
    unfold AT
    rw [show (txF n f).length - ([] : List Nat).length = (txF n f).length from rfl, if_pos rfl]
  · have hT : txF n f = txP (qz_D n) f (qz_N n) := if_neg c0
    obtain ⟨k, hk, hfk, htk⟩ := tm_first f (qz_N n) c0
    obtain ⟨z1, z2⟩ := tp_zero (qz_D n) f k htk
    obtain ⟨R, hR⟩ := tp_pre (qz_D n) f (k + 1) (qz_N n - (k + 1))
    rw [show k + 1 + (qz_N n - (k + 1)) = qz_N n by omega, ← hT] at hR
    have e1 : txP (qz_D n) f (k + 1) = tmT (txP (qz_D n) f k) (f k) (qz_D n + k) := if_neg hfk
    have e2 : tmN f (k + 1) = tmN f k + 1 := if_neg hfk
    have hTl : (txF n f).length = (txP (qz_D n) f (k + 1)).length + R.length := by rw [hR, List.length_append]
    have hfb := hf k hk
    obtain ⟨hnm, hab⟩ := nmb_abs hfb.1 hfb.2
    have hDk : Dd sz0 cf0 sz cf n k f := ⟨d1, d2, fun p hp => by
      rw [d3 p hp]
      by_cases e : p < k
      · rw [if_pos e]
        unfold cutF
        rw [if_pos (by omega), z2 p e]
      · rw [if_neg e]⟩
    obtain ⟨cf', e3, h3⟩ := rd_lp (sz0 := sz0) (cf0 := cf0) hT hn hl hn9 hf (qz_N n - (k + 1)) 999 (k + 1) 0 sz _ (by omega) (by omega) (by omega) (by omega) (Dd_put hDk hk (by omega) hfb.1 hfb.2)
    refine ⟨sz, cf', ?_, h3⟩
    have htail : ∀ P : List Nat, sgT (txP (qz_D n) f k) (f k) = P → txF n f = P ++ (jdg (absN (f k)) ++ (91 :: (rwT (qz_D n + k) ++ (93 :: R)))) := fun P hP => by
      rw [hR, e1]
      unfold tmT
      rw [hP, z1]
      simp only [List.append_assoc, List.cons_append, List.nil_append]
    have hpos : (txF n f).length - R.length = (txP (qz_D n) f (k + 1)).length := by omega
    unfold f_X3_readToDraft
    by_cases c2 : f k < 0
    · have hT2 := htail [45] (if_pos c2)
      have g := first [45] R k (absN (f k)) (sgB2 (f k)) hT2 hk hab (by unfold sgB2; split <;> omega)
      rw [hpos, e3, show sgB2 (f k) = 1 from if_pos c2] at g
      have h45 : ch (ltx (txF n f)) (txF n f).length 0 = nI 45 := ch_mid (Q := []) (R := (jdg (absN (f k)) ++ (91 :: (rwT (qz_D n + k) ++ (93 :: R))))) hT2
      rw [show f_X3_passes lc (nI (txF n f).length) (0 : Int32) 45 = some (1, nI 1) from k_pass1 (a := 0) hn hl (by omega) h45, pb2]
      exact g
    · have hT2 := htail [] (by unfold sgT; rw [if_neg c2, z1]; rfl)
      have g := first [] R k (absN (f k)) (sgB2 (f k)) hT2 hk hab (by unfold sgB2; split <;> omega)
      rw [hpos, e3, show sgB2 (f k) = 0 from if_neg c2] at g
      obtain ⟨q, R2, hq⟩ := jdg_head (absN (f k))
      have hqd : ch (ltx (txF n f)) (txF n f).length 0 = nI (48 + q) := ch_mid (Q := []) (R := R2 ++ (91 :: (rwT (qz_D n + k) ++ (93 :: R)))) (by rw [hT2, hq]; rfl)
      have hqs : q ≤ 9 ∨ q ≤ absN (f k) := by
        unfold jdg at hq
        by_cases d : absN (f k) < 10
        · rw [if_pos d] at hq
          have := (List.cons.inj hq).1
          omega
        · rw [if_neg d] at hq
          have := (List.cons.inj hq).1
          omega
      rw [show f_X3_passes lc (nI (txF n f).length) (0 : Int32) 45 = some (0, nI 0) from k_pass0 (a := 0) hn hl (by omega) (by rw [hqd]; exact dig_ne (by omega)), pb2]
      exact g
theorem tm_cut (n : Nat) (f : Nat → Int32) (hn : n < 9) : tmN (cutF n f) 22 = tmN f (qz_N n) := by
  have hN := qN_le n hn
  have z1 : tcnt (cutF n f) (qz_N n + (22 - qz_N n)) = tcnt (cutF n f) (qz_N n) := tcnt_zero (22 - qz_N n) (fun q h1 h2 => by unfold cutF; rw [if_neg (by omega)])
  rw [Nat.add_sub_cancel' hN, tm_tc, tm_tc] at z1
  rw [z1]
  exact tmN_congr _ (fun q hq => by unfold cutF; rw [if_pos hq])
theorem pf_reads {rf sizes coefs us lc : Nat → Int32} {nx3 sz3 : Int32} {S : Nat → SV} {u nx s n : Nat} {f : Nat → Int32} (hS : ∀ t, t < 4 → Rsm sizes coefs t (S t)) (hu : u ≤ 8) (hnx : nx < 8) (hs : s < 4) (hn : (txF n f).length ≤ 72) (hl : ∀ j, j < (txF n f).length → lc j = ltx (txF n f) j) (hn8 : n < 8) (hf : ∀ p, p < qz_N n → -20 ≤ (f p).toInt ∧ (f p).toInt ≤ 20) : ∃ sizes' coefs' us' u' nx' nx3' sz3', f_X9_reads rf tz_S sizes coefs us (nI u) (nI nx) lc (nI (txF n f).length) nx3 sz3 (nI s) = some (nI (tmN f (qz_N n)), rf, sizes', coefs', us', nI u', nI nx', 0, nx3', sz3') ∧ (∀ t, t < 4 → Rsm sizes' coefs' t (upS S s (some (n, cutF n f)) t)) ∧ u' ≤ 8 ∧ nx' < 8 := by
  have i10 : ¬ (1 : Int32) = 0 := by decide
  have hN := qN_le n (by omega)
  obtain ⟨sz, cf, e1, h1, h2, h3⟩ := rd_text sizes coefs nx3 sz3 hn hl hn8 hf
  have hx : Rsm sz cf 16 (some (n, cutF n f)) := by
    refine ⟨by show n < 9; omega, h2, fun p hp => ?_, fun p hp => if_neg (Nat.not_lt.mpr hp), fun p => ?_⟩
    · rw [show 22 * 16 + p = 352 + p by omega, h3 p hp]
      show (if p < qz_N n then cutF n f p else 0) = cutF n f p
      unfold cutF
      by_cases c : p < qz_N n
      · rw [if_pos c]
      · rw [if_neg c]; rw [if_neg c]
    · show -1000000 ≤ (cutF n f p).toInt ∧ (cutF n f p).toInt ≤ 1000000
      unfold cutF
      by_cases c : p < qz_N n
      · rw [if_pos c]
        have := hf p c
        omega
      · rw [if_neg c]; decide
  obtain ⟨sizes', coefs', us', u', nx', e4, q1, q2, q3⟩ := keep_T (us := us) (fun t ht => Rsm_Sl (h1 t (by omega)) (hS t ht)) hu hnx hs hx
  refine ⟨sizes', coefs', us', u', nx', nI (txF n f).length, nI n, ?_, q1, q2, q3⟩
  unfold f_X9_reads f_X3_forget
  rw [has8 hs, pb1, if_neg i10, e1, pb5, pb1, if_pos rfl, e4, pb6, tm_cut n f (by omega)]
