/-! letters: one put behind the others; a sum's own text read back -/
theorem pf_letter {rf lc : Nat → Int32} {n c : Nat} (hn : n < 72) (hc : c < 256) : f_X9_letter rf lc (nI n) (nI c) = some (nI (n + 1), rf, upd lc n (nI c), nI (n + 1)) := by
  have e3 : f_X3_areFull (nI n) = some 0 := by
    unfold f_X3_areFull
    rw [if_pos (show nI n < (72 : Int32) from nI_lt (b := 72) hn (by decide))]
  have e4 : f_X3_add lc (nI n) (nI c) = some (upd lc n (nI c), nI (n + 1)) := by
    unfold f_X3_add
    rw [if_neg (nI_pos (by omega)), if_neg (show ¬ (72 : Int32) ≤ nI n from nI_ge (a := n) (b := 72) hn (by decide)), pinn hn (by decide), nI_c n (by omega), show nI n + (1 : Int32) = nI (n + 1) from nI_1 n]
  unfold f_X9_letter f_X3_howMany
  rw [if_pos (nI_pos' (by omega)), if_neg (show ¬ (255 : Int32) < nI c from nI_nlt (a := 255) (by omega) (by decide)), e3, pb1, if_pos rfl, e4, pb2, pb1]
def ltx (T : List Nat) : Nat → Int32 := fun j => nI (T.getD j 0)
theorem ch_mid {T Q R : List Nat} {c : Nat} (h : T = Q ++ c :: R) : ch (ltx T) T.length Q.length = nI c := by
  subst h
  rw [ch_in (by rw [List.length_append, List.length_cons]; omega)]
  unfold ltx
  rw [List.getD_eq_getElem?_getD, List.getElem?_append_right (Nat.le_refl _), Nat.sub_self]
  rfl
theorem ch_row {T Q R : List Nat} {K i : Nat} (h : T = Q ++ (rwT K ++ R)) (hi : i < sl K) : ch (ltx T) T.length (Q.length + i) = nI (48 + sc K i) := by
  have hl := rwT_len K
  subst h
  rw [ch_in (by rw [List.length_append, List.length_append, hl]; omega)]
  unfold ltx
  rw [List.getD_eq_getElem?_getD, List.getElem?_append_right (by omega), Nat.add_sub_cancel_left, List.getElem?_append_left (by omega)]
  unfold rwT
  rw [List.getElem?_map, List.getElem?_range hi]
  rfl
section RD
variable {lc : Nat → Int32} {T : List Nat}
theorem dg_step {a q y k f : Nat} (hn : T.length ≤ 72) (hl : ∀ j, j < T.length → lc j = ltx T j) (ha : a < T.length) (hc : ch (ltx T) T.length a = nI (48 + q)) (hq : q ≤ 9) (hk : k < 3) : f_X3_passNumber_4 lc (nI T.length) (f + 1) (nI a) (nI y) (nI k) = f_X3_passNumber_4 lc (nI T.length) f (nI (a + 1)) (nI (y * 10 + q)) (nI (k + 1)) := by
  show gf_X3_passNumber_4 (f_X3_passNumber_4 lc (nI T.length) f) lc (nI T.length) (nI a) (nI y) (nI k) = _
  unfold gf_X3_passNumber_4
  rw [if_neg (show ¬ (3 : Int32) ≤ nI k from nI_ge (b := 3) hk (by decide)), k_next hn hl (by omega), pb1, hc, if_neg (show ¬ nI (48 + q) < (48 : Int32) from nI_nlt (b := 48) (by omega) (by omega)), pb1, if_neg (show ¬ (57 : Int32) < nI (48 + q) from nI_nlt (a := 57) (by omega) (by decide)), pb1, show nI y * (10 : Int32) + nI (48 + q) - (48 : Int32) = nI (y * 10 + q) by rw [show (10 : Int32) = nI 10 from rfl, nI_mul2, nI_add, show (48 : Int32) = nI 48 from rfl, nI_sub2 (by omega)]; congr 1; omega, show nI a + (1 : Int32) = nI (a + 1) from nI_1 a, show nI k + (1 : Int32) = nI (k + 1) from nI_1 k]
theorem dg_stop {a y k f : Nat} (hn : T.length ≤ 72) (hl : ∀ j, j < T.length → lc j = ltx T j) (ha : a < T.length) (hc : ch (ltx T) T.length a = nI 91) (hk1 : 1 ≤ k) (hk : k < 3) : f_X3_passNumber_4 lc (nI T.length) (f + 1) (nI a) (nI y) (nI k) = some (nI y, nI a) := by
  show gf_X3_passNumber_4 (f_X3_passNumber_4 lc (nI T.length) f) lc (nI T.length) (nI a) (nI y) (nI k) = _
  unfold gf_X3_passNumber_4 f_X3_passNumber_56
  rw [if_neg (show ¬ (3 : Int32) ≤ nI k from nI_ge (b := 3) hk (by decide)), k_next hn hl (by omega), pb1, hc, if_neg (by decide), pb1, if_pos (by decide), if_neg (nI_ne0 (by omega) (by omega))]
theorem pn_ok {Q R : List Nat} {v : Nat} (h : T = Q ++ (jdg v ++ 91 :: R)) (hv : v < 100) (hn : T.length ≤ 72) (hl : ∀ j, j < T.length → lc j = ltx T j) : f_X3_passNumber lc (nI T.length) (nI Q.length) = some (nI v, nI (Q.length + (jdg v).length)) := by
  have hlen : T.length = Q.length + ((jdg v).length + (R.length + 1)) := by rw [h]; simp
  unfold f_X3_passNumber
  show f_X3_passNumber_4 lc (nI T.length) 1000 (nI Q.length) (nI 0) (nI 0) = _
  unfold jdg at h hlen ⊢
  by_cases c : v < 10
  · rw [if_pos c] at h hlen ⊢
    have h1 : ch (ltx T) T.length Q.length = nI (48 + v) := ch_mid (R := 91 :: R) h
    have h2 : ch (ltx T) T.length (Q.length + 1) = nI 91 := by
      have := ch_mid (T := T) (Q := Q ++ [48 + v]) (c := 91) (R := R) (by rw [h, List.append_assoc])
      rw [List.length_append] at this
      exact this
    have hl1 : [48 + v].length = 1 := rfl
    rw [hl1] at hlen ⊢
    rw [dg_step (q := v) hn hl (by omega) h1 (by omega) (by omega), dg_stop hn hl (by omega) h2 (by omega) (by omega)]
    rw [show 0 * 10 + v = v by omega]
  · rw [if_neg c] at h hlen ⊢
    have h1 : ch (ltx T) T.length Q.length = nI (48 + v / 10) := ch_mid (R := (48 + v % 10) :: 91 :: R) h
    have h2 : ch (ltx T) T.length (Q.length + 1) = nI (48 + v % 10) := by
      have := ch_mid (T := T) (Q := Q ++ [48 + v / 10]) (c := 48 + v % 10) (R := 91 :: R) (by rw [h, List.append_assoc]; rfl)
      rw [List.length_append] at this
      exact this
    have h3 : ch (ltx T) T.length (Q.length + 1 + 1) = nI 91 := by
      have := ch_mid (T := T) (Q := Q ++ [48 + v / 10, 48 + v % 10]) (c := 91) (R := R) (by rw [h, List.append_assoc])
      rw [List.length_append] at this
      exact this
    have hl1 : [48 + v / 10, 48 + v % 10].length = 2 := rfl
    rw [hl1] at hlen ⊢
    rw [dg_step (q := v / 10) hn hl (by omega) h1 (by omega) (by omega), dg_step (q := v % 10) hn hl (by omega) h2 (by omega) (by omega), dg_stop hn hl (by omega) h3 (by omega) (by omega)]
    rw [show (0 * 10 + v / 10) * 10 + v % 10 = v by omega]
def pfx (K i : Nat) : Nat := ((List.range 67).find? (fun s => decide (sl s = i) && (List.range i).all (fun j => decide (sc s j = sc K j)))).getD 0
theorem px_ok : ∀ K, K < 67 → ∀ i, i < sl K → ((1 ≤ sc K i ∧ sc K i ≤ 8) ∧ (qz_S (pfx K i) + sc K i = qz_S (pfx K (i + 1)) ∧ qz_S (pfx K (i + 1)) ≤ qz_S K)) ∧ (f_X7_keyWith (xi_KEYS (pfx K i)) (nI (sc K i)) = some (xi_KEYS (pfx K (i + 1))) ∧ ((i = 0 ∨ sc K i ≤ sc K (i - 1)) ∧ i < 8)) := by decide +kernel
theorem px_0 : ∀ K, K < 67 → pfx K 0 = 0 ∧ pfx K (sl K) = K ∧ qz_S K ≤ 8 := by decide +kernel
theorem px_k : xi_KEYS 0 = 0 ∧ qz_S 0 = 0 := by decide +kernel
def lstR (K M : Nat) : Nat → Nat
  | 0 => M
  | i + 1 => sc K i
theorem rows_ok {Q R : List Nat} {K M : Nat} {vs : Int32} (h : T = Q ++ (rwT K ++ 93 :: R)) (hK : K < 67) (hM : qz_S K ≤ M) (hM8 : M ≤ 8) (hn : T.length ≤ 72) (hl : ∀ j, j < T.length → lc j = ltx T j) : ∀ (d f i : Nat), i + d = sl K → d < f → f_X3_passRows_28 lc (nI T.length) vs f (nI (Q.length + i)) (nI M) (nI (lstR K M i)) (nI (qz_S (pfx K i))) (xi_KEYS (pfx K i)) (nI i) = some (nI K, nI (Q.length + sl K)) := by
  have hs8 := sl_small K hK
  have hlen : T.length = Q.length + (sl K + (R.length + 1)) := by rw [h]; simp [rwT_len]
  intro d
  induction d with
  | zero =>
    intro f i hi hf
    obtain ⟨f, rfl⟩ : ∃ z, f = z + 1 := ⟨f - 1, by omega⟩
    obtain rfl : i = sl K := by omega
    have e100 : ∀ x, f_X3_passRows_100 lc (nI T.length) vs x (nI (qz_S (pfx K (sl K)))) (xi_KEYS (pfx K (sl K))) = some (nI K, x) := by
      intro x
      unfold f_X3_passRows_100
      rw [(px_0 K hK).2.1, k_find K hK, pb1]
    show gf_X3_passRows_28 (f_X3_passRows_28 lc (nI T.length) vs f) lc (nI T.length) vs _ _ _ _ _ _ = _
    unfold gf_X3_passRows_28
    by_cases c8 : (8 : Int32) ≤ nI (sl K)
    · rw [if_pos c8, e100]
    · have h93 : ch (ltx T) T.length (Q.length + sl K) = nI 93 := by
        have := ch_mid (T := T) (Q := Q ++ rwT K) (c := 93) (R := R) (by rw [h, List.append_assoc])
        rw [List.length_append, rwT_len] at this
        exact this
      have hls : lstR K M (sl K) < 45 := by
        cases hk : sl K with
        | zero => show M < 45; omega
        | succ i => have := (px_ok K hK i (by omega)).1.1.2; show sc K i < 45; omega
      rw [if_neg c8, k_next hn hl (by omega), pb1, h93, if_neg (by decide), if_pos (show nI (lstR K M (sl K)) < nI 93 - 48 from by rw [show nI 93 - (48 : Int32) = nI 45 by decide]; exact nI_lt hls (by decide)), e100]
  | succ d ih =>
    intro f i hi hf
    obtain ⟨f, rfl⟩ : ∃ z, f = z + 1 := ⟨f - 1, by omega⟩
    obtain ⟨⟨⟨p1, p2⟩, p3, p4⟩, p5, p6, p7⟩ := px_ok K hK i (by omega)
    have e := ih f (i + 1) (by omega) (by omega)
    have hS8 := (px_0 K hK).2.2
    have hls : sc K i ≤ lstR K M i ∧ lstR K M i ≤ 8 := by
      cases i with
      | zero => exact ⟨by show sc K 0 ≤ M; omega, hM8⟩
      | succ i =>
        have q1 := (px_ok K hK i (by omega)).1.1.2
        have q2 : sc K (i + 1) ≤ sc K i := by
          rcases p6 with h9 | h9
          · omega
          · exact h9
        exact ⟨q2, q1⟩
    show gf_X3_passRows_28 (f_X3_passRows_28 lc (nI T.length) vs f) lc (nI T.length) vs _ _ _ _ _ _ = _
    unfold gf_X3_passRows_28
    rw [if_neg (show ¬ (8 : Int32) ≤ nI i from nI_ge (b := 8) (by omega) (by decide)), k_next hn hl (by omega), pb1, ch_row (R := 93 :: R) h (by omega), show nI (48 + sc K i) - (48 : Int32) = nI (sc K i) by rw [show (48 : Int32) = nI 48 from rfl, nI_sub2 (by omega)]; congr 1; omega, if_neg (show ¬ nI (sc K i) < 1 from nI_nlt (b := 1) (by omega) (by omega)), if_neg (nI_nlt hls.1 (by omega)), nI_add, p3, if_pos (nI_le (by omega) (by omega)), p5, pb1, show nI (Q.length + i) + (1 : Int32) = nI (Q.length + (i + 1)) from nI_1 _, show nI i + (1 : Int32) = nI (i + 1) from nI_1 i]
    exact e
theorem rows_all {Q R : List Nat} {K : Nat} {vs : Int32} {M : Nat} (h : T = Q ++ (rwT K ++ 93 :: R)) (hK : K < 67) (hM : qz_S K ≤ M) (hM8 : M ≤ 8) (hvs : (if vs = -1 then 8 else vs) = nI M) (hn : T.length ≤ 72) (hl : ∀ j, j < T.length → lc j = ltx T j) : f_X3_passRows lc (nI T.length) (nI Q.length) vs = some (nI K, nI (Q.length + sl K)) := by
  have e := rows_ok (vs := vs) (M := M) h hK hM hM8 hn hl (sl K) 1000 0 (by omega) (by have := sl_small K hK; omega)
  rw [(px_0 K hK).1, px_k.1, px_k.2] at e
  unfold f_X3_passRows f_X3_passRows_17
  by_cases d : vs = -1
  · rw [if_pos d] at hvs ⊢
    rw [hvs]
    exact e
  · rw [if_neg d] at hvs ⊢
    rw [show f_X3_passRows_28 lc (nI T.length) vs 1000 (nI Q.length) vs vs 0 0 0 = f_X3_passRows_28 lc (nI T.length) vs 1000 (nI Q.length) (nI M) (nI M) 0 0 0 by rw [hvs]]
    exact e
/-- one term of a text -/
theorem term_ok {P R : List Nat} {n i v b : Nat} {vs : Int32} (h : T = P ++ (jdg v ++ (91 :: (rwT (qz_D n + i) ++ (93 :: R))))) (hn : T.length ≤ 72) (hl : ∀ j, j < T.length → lc j = ltx T j) (hn9 : n < 9) (hi : i < qz_N n) (hv : v < 100) (hb : b < 2) (sz cf : Nat → Int32) : f_X3_passesTerm tz_S sz cf lc (nI T.length) (nI P.length) (nI n) (nI b) = some (1, sz, upd cf (352 + i) (cf (352 + i) + nmb b v), nI (T.length - R.length), nI n) ∧ f_X3_passesTerm tz_S sz cf lc (nI T.length) (nI P.length) (-1) (nI b) = p_b2 (f_X8_beginDraft sz cf (nI n)) (fun z1 z2 => some (1, z1, upd z2 (352 + i) (z2 (352 + i) + nmb b v), nI (T.length - R.length), nI n)) := by
  have i10 : ¬ (1 : Int32) = 0 := by decide
  obtain ⟨hD, hSn⟩ := shD n hn9 i hi
  have hN := qN_le n hn9
  have hlen : T.length = P.length + ((jdg v).length + (1 + (sl (qz_D n + i) + (1 + R.length)))) := by
    rw [h]
    simp only [List.length_append, List.length_cons, rwT_len]
    omega
  have e1 := pn_ok (Q := P) (v := v) h hv hn hl
  have h91 : ch (ltx T) T.length (P.length + (jdg v).length) = nI 91 := by
    have := ch_mid (T := T) (Q := P ++ jdg v) (c := 91) (R := rwT (qz_D n + i) ++ (93 :: R)) (by rw [h, List.append_assoc])
    rw [List.length_append] at this
    exact this
  have hrT : T = (P ++ (jdg v ++ [91])) ++ (rwT (qz_D n + i) ++ 93 :: R) := by rw [h]; simp only [List.append_assoc, List.cons_append, List.nil_append]
  have hQ : (P ++ (jdg v ++ [91])).length = P.length + (jdg v).length + 1 := by simp only [List.length_append, List.length_cons, List.length_nil]; omega
  have h93 : ch (ltx T) T.length (P.length + (jdg v).length + 1 + sl (qz_D n + i)) = nI 93 := by
    have := ch_mid (T := T) (Q := (P ++ (jdg v ++ [91])) ++ rwT (qz_D n + i)) (c := 93) (R := R) (by rw [hrT]; simp only [List.append_assoc])
    rw [List.length_append, hQ, rwT_len] at this
    exact this
  have p91 := k_pass1 (w := (91 : Int32)) hn hl (show P.length + (jdg v).length ≤ T.length by omega) h91
  have ha93 : P.length + (jdg v).length + 1 + sl (qz_D n + i) ≤ T.length := by omega
  have h61 : ∀ (z1 z2 : Nat → Int32), f_X3_passesTerm_61 tz_S lc (nI T.length) z1 z2 (nI (P.length + (jdg v).length + 1 + sl (qz_D n + i))) (nI n) (nI b) (nI v) (nI (qz_D n + i)) = some (1, z1, upd z2 (352 + i) (z2 (352 + i) + nmb b v), nI (T.length - R.length), nI n) := by
    intro z1 z2
    rw [k_61 hn hl ha93 hn9 hi hb h93]
    congr 6
    omega
  constructor
  · have er := rows_all (vs := nI n) (M := n) hrT hD (by omega) (by omega) (by rw [if_neg (nI_m1 (by omega))]) hn hl
    rw [hQ] at er
    unfold f_X3_passesTerm
    rw [e1, pb2, p91, pb2, if_neg i10, er, pb2, k_next hn hl ha93, pb1, h93, if_pos (by decide), if_neg (nI_m1 (by omega))]
    exact h61 _ _
  · have er := rows_all (vs := -1) (M := 8) hrT hD (by omega) (by omega) (by rw [if_pos rfl]; rfl) hn hl
    rw [hQ] at er
    unfold f_X3_passesTerm
    rw [e1, pb2, p91, pb2, if_neg i10, er, pb2, k_next hn hl ha93, pb1, h93, if_pos (by decide), if_pos rfl, k_sizeD hn9 hi, pb1]
    congr 1
    funext z1 z2
    exact h61 _ _
end RD
