theorem pk_L_cell : xk_S yL_cell cL_cell 2 (some .int) 2 := ⟨mw_3_160, mw_1_0, mw_3_161, by decide +kernel⟩
theorem pk_L_first : xk_S yL_first cL_first 1 (some .int) 1 := ⟨mw_3_177, mw_1_0, mw_3_178, by decide +kernel⟩
theorem pk_L_times : xk_S yL_times cL_times 1 (some .int) 1 := ⟨mw_3_183, mw_1_0, mw_3_184, by decide +kernel⟩
theorem pk_L_size : xk_S yL_size cL_size 6 (some .int) 1 := ⟨mw_3_174, mw_1_0, mw_3_175, by decide +kernel⟩
theorem pk_L_orders : xk_S yL_orders cL_orders 5 (some .int) 1 := ⟨mw_3_186, mw_1_0, mw_3_187, by decide +kernel⟩
theorem pk_L_character : xk_S yL_character cL_character 7 (some .int) 3 := ⟨mw_3_192, mw_1_0, mw_3_193, by decide +kernel⟩
set_option maxHeartbeats 4000000 in
set_option maxRecDepth 20000 in
theorem c_L_cell (l : Launch) (D : va_G) (cyI cyJ cyB cyQ : ClassId) (sz : Nat) (a1 N : Nat) (f : Nat → Int32) (k : Nat) (hN : N < 1000) (hk : k < 1000) : ym_i (S := Unit) l yL_cell (Cond.code yL_cell cL_cell 2 (some .int) :: xg_tbl) { frames := 0, cells := 0, slots := 0, locals := 0 } D xcl (ytys cyI cyJ cyB cyQ) (ZI a1 N f) sz [.ref a1, .int (nI k)] [] (fun r _ => r = cel N f k) (fun _ => []) 0 0 := by
  refine ym_of (own := RL) (by decide) rfl rfl (Nat.le_of_ble_eq_true rfl) ?_
  intro p e s m args below meth c ls Q A H hQ hAe hH hin Cx hsz hP hD hS hl
  have Cx1 := Cx
  obtain ⟨⟨hx, hb, hml, hown, hts⟩, hr, hlocks, hK, hA, hT⟩ := Cx1
  have hl : lv_has ls 2 [(0, .ref a1), (1, .int (nI k))] := hl
  refine lv_iload_n hx hb dL_cell_0 rfl (lv_at hl 1 rfl) ?_
  refine lv_aload_n hx hb dL_cell_1 rfl (lv_at hl 0 rfl) ?_
  refine yf_len hx hb (va_T.kept hT hS.2.1) dL_cell_2 ?_
  refine lv_icmp_ge (tgt := 12) hx hb dL_cell_3 (by decide) (fun hc => ?_) (fun hc => ?_)
  · rw [nI_leI (by omega) (by omega)] at hc
    refine lv_ldc (v := (40503 : Int32)) hx hb hown (hts _ mw_3_162) dL_cell_12 ?_
    refine lv_iload_n hx hb dL_cell_14 rfl (lv_at hl 1 rfl) ?_
    refine lv_imul hx hb dL_cell_15 ?_
    subst hAe
    rw [← hQ]
    exact ye_iret (post := (fun r _ => r = cel N f k)) (w1 := (fun _ => [])) () Cx (by exact (by show _ = cel N f k; unfold cel; rw [if_neg (by omega)])) rfl hP hD hS dL_cell_16
  · rw [nI_leI (by omega) (by omega)] at hc
    refine lv_aload_n hx hb dL_cell_6 rfl (lv_at hl 0 rfl) ?_
    refine lv_iload_n hx hb dL_cell_7 rfl (lv_at hl 1 rfl) ?_
    refine yf_ild hx hb (va_T.kept hT hS.2.1) (vp_in_nI (by omega) (by omega)) (v := (f k)) (by rw [nI_clamp (by omega)]) dL_cell_8 ?_
    refine lv_goto (tgt := 16) hx hb dL_cell_9 (by decide) ?_
    subst hAe
    rw [← hQ]
    exact ye_iret (post := (fun r _ => r = cel N f k)) (w1 := (fun _ => [])) () Cx (by exact (by show _ = cel N f k; unfold cel; rw [if_pos (by omega)])) rfl hP hD hS dL_cell_16
def l_first : Nat → Int32 := (upd (upd (upd (upd (upd (upd (upd (upd (upd (upd (fun _ => (0 : Int32)) (Int32.toNatClampNeg (0 : Int32)) (0 : Int32)) (Int32.toNatClampNeg (1 : Int32)) (1 : Int32)) (Int32.toNatClampNeg (2 : Int32)) (2 : Int32)) (Int32.toNatClampNeg (3 : Int32)) (4 : Int32)) (Int32.toNatClampNeg (4 : Int32)) (7 : Int32)) (Int32.toNatClampNeg (5 : Int32)) (12 : Int32)) (Int32.toNatClampNeg (6 : Int32)) (19 : Int32)) (Int32.toNatClampNeg (7 : Int32)) (30 : Int32)) (Int32.toNatClampNeg (8 : Int32)) (45 : Int32)) (Int32.toNatClampNeg (9 : Int32)) (67 : Int32))
theorem l_first_ok : ∀ n, n < 10 → l_first (nI n).toNatClampNeg = nI (qz_D n) := by decide +kernel
set_option maxHeartbeats 4000000 in
set_option maxRecDepth 20000 in
theorem c_L_first (l : Launch) (D : va_G) (cyI cyJ cyB cyQ : ClassId) (sz : Nat) (n : Nat) (hn : n < 10) : ym_i (S := Unit) l yL_first (Cond.code yL_first cL_first 1 (some .int) :: xg_tbl) { frames := 0, cells := 1, slots := 10, locals := 0 } D xcl (ytys cyI cyJ cyB cyQ) (fun _ _ _ => True) sz [.int (nI n)] [] (fun r _ => r = nI (qz_D n)) (fun _ => []) 1 10 := by
  refine ym_of (own := RL) (by decide) rfl rfl (Nat.le_of_ble_eq_true rfl) ?_
  intro p e s m args below meth c ls Q A H hQ hAe hH hin Cx hsz hP hD hS hl
  have Cx1 := Cx
  obtain ⟨⟨hx, hb, hml, hown, hts⟩, hr, hlocks, hK, hA, hT⟩ := Cx1
  have hl : lv_has ls 1 [(0, .int (nI n))] := hl
  refine lv_bipush (v := (10 : Int32)) hx hb dL_first_0 (by decide) ?_
  refine va_newa (atype := .int) (ty := .int) (a0 := (10, .inl (fun _ => 0))) (N' := 10) hx hb (hts _ mw_1_104) rfl hK hP hD hS hA (fun _ => rfl) (by decide) (by decide) (Nat.le_of_ble_eq_true rfl) (show 0 + 1 ≤ (1 : Nat) by omega) (show 0 + 10 ≤ (10 : Nat) by omega) dL_first_2 (fun u cA H hK1 hP hD hS => ?_)
  have eA := y_sameI hK hK1
  rw [eA] at hP hD
  have hP : va_P D xcl [(u, .inl (cyI, 10, .inl (fun _ => (0 : Int32))))] H := hP
  have hD : va_D A [(u, .inl (cyI, 10, .inl (fun _ => (0 : Int32))))] := hD
  refine lv_dup hx hb dL_first_4 rfl ?_
  refine lv_iconst (v := (0 : Int32)) hx hb dL_first_5 (by decide) ?_
  refine lv_iconst (v := (0 : Int32)) hx hb dL_first_6 (by decide) ?_
  refine va_iast hx hb hK hP hD hS 0 0 rfl rfl (by unfold vp_in; decide) dL_first_7 (fun H locs hP hD hS => ?_)
  refine lv_dup hx hb dL_first_8 rfl ?_
  refine lv_iconst (v := (1 : Int32)) hx hb dL_first_9 (by decide) ?_
  refine lv_iconst (v := (1 : Int32)) hx hb dL_first_10 (by decide) ?_
  refine va_iast hx hb hK hP hD hS 0 0 rfl rfl (by unfold vp_in; decide) dL_first_11 (fun H locs hP hD hS => ?_)
  refine lv_dup hx hb dL_first_12 rfl ?_
  refine lv_iconst (v := (2 : Int32)) hx hb dL_first_13 (by decide) ?_
  refine lv_iconst (v := (2 : Int32)) hx hb dL_first_14 (by decide) ?_
  refine va_iast hx hb hK hP hD hS 0 0 rfl rfl (by unfold vp_in; decide) dL_first_15 (fun H locs hP hD hS => ?_)
  refine lv_dup hx hb dL_first_16 rfl ?_
  refine lv_iconst (v := (3 : Int32)) hx hb dL_first_17 (by decide) ?_
  refine lv_iconst (v := (4 : Int32)) hx hb dL_first_18 (by decide) ?_
  refine va_iast hx hb hK hP hD hS 0 0 rfl rfl (by unfold vp_in; decide) dL_first_19 (fun H locs hP hD hS => ?_)
  refine lv_dup hx hb dL_first_20 rfl ?_
  refine lv_iconst (v := (4 : Int32)) hx hb dL_first_21 (by decide) ?_
  refine lv_bipush (v := (7 : Int32)) hx hb dL_first_22 (by decide) ?_
  refine va_iast hx hb hK hP hD hS 0 0 rfl rfl (by unfold vp_in; decide) dL_first_24 (fun H locs hP hD hS => ?_)
  refine lv_dup hx hb dL_first_25 rfl ?_
  refine lv_iconst (v := (5 : Int32)) hx hb dL_first_26 (by decide) ?_
  refine lv_bipush (v := (12 : Int32)) hx hb dL_first_27 (by decide) ?_
  refine va_iast hx hb hK hP hD hS 0 0 rfl rfl (by unfold vp_in; decide) dL_first_29 (fun H locs hP hD hS => ?_)
  refine lv_dup hx hb dL_first_30 rfl ?_
  refine lv_bipush (v := (6 : Int32)) hx hb dL_first_31 (by decide) ?_
  refine lv_bipush (v := (19 : Int32)) hx hb dL_first_33 (by decide) ?_
  refine va_iast hx hb hK hP hD hS 0 0 rfl rfl (by unfold vp_in; decide) dL_first_35 (fun H locs hP hD hS => ?_)
  refine lv_dup hx hb dL_first_36 rfl ?_
  refine lv_bipush (v := (7 : Int32)) hx hb dL_first_37 (by decide) ?_
  refine lv_bipush (v := (30 : Int32)) hx hb dL_first_39 (by decide) ?_
  refine va_iast hx hb hK hP hD hS 0 0 rfl rfl (by unfold vp_in; decide) dL_first_41 (fun H locs hP hD hS => ?_)
  refine lv_dup hx hb dL_first_42 rfl ?_
  refine lv_bipush (v := (8 : Int32)) hx hb dL_first_43 (by decide) ?_
  refine lv_bipush (v := (45 : Int32)) hx hb dL_first_45 (by decide) ?_
  refine va_iast hx hb hK hP hD hS 0 0 rfl rfl (by unfold vp_in; decide) dL_first_47 (fun H locs hP hD hS => ?_)
  refine lv_dup hx hb dL_first_48 rfl ?_
  refine lv_bipush (v := (9 : Int32)) hx hb dL_first_49 (by decide) ?_
  refine lv_bipush (v := (67 : Int32)) hx hb dL_first_51 (by decide) ?_
  refine va_iast hx hb hK hP hD hS 0 0 rfl rfl (by unfold vp_in; decide) dL_first_53 (fun H locs hP hD hS => ?_)
  refine lv_iload_n hx hb dL_first_54 rfl (lv_at hl 0 rfl) ?_
  refine va_iald hx hb hK hP 0 0 rfl rfl (vp_in_nI hn (by decide)) dL_first_55 ?_
  refine W.widen (k := 1) (n := 10) (show (0 + 1) ≤ 1 by omega) (show (0 + 10) ≤ 10 by omega) ?_
  have hP : va_P D xcl [] H := xq_pick hP [] rfl
  have hD : va_D A [] := hD.sub [] rfl rfl
  subst hAe
  rw [← hQ]
  exact ye_iret (post := (fun r _ => r = nI (qz_D n))) (w1 := (fun _ => [])) () Cx (by exact (l_first_ok n hn)) rfl hP hD hS dL_first_56
def l_rt (d : Nat) : Room := { frames := d, cells := 0, slots := 0, locals := 20 * d }
theorem l_fact : ∀ n, n < 8 → nI (n + 1) * xi_FACTORIALS n = xi_FACTORIALS (n + 1) := by decide +kernel
theorem l_fact1 : xi_FACTORIALS 0 = 1 ∧ xi_FACTORIALS 1 = 1 := by decide +kernel
set_option maxHeartbeats 4000000 in
set_option maxRecDepth 20000 in
theorem c_L_times (l : Launch) (D : va_G) (cyI cyJ cyB cyQ : ClassId) : ∀ (d n sz : Nat), n ≤ d → n ≤ 8 → ym_i (S := Unit) l yL_times (Cond.code yL_times cL_times 1 (some .int) :: xg_tbl) (l_rt d) D xcl (ytys cyI cyJ cyB cyQ) (fun _ _ _ => True) sz [.int (nI n)] [] (fun r _ => r = xi_FACTORIALS n) (fun _ => []) 0 0 := by
  intro d
  induction d with
  | zero =>
    intro n sz hnd hn
    refine ym_of (own := RL) (by decide) rfl rfl (Nat.le_of_ble_eq_true rfl) ?_
    intro p e s m args below meth c ls Q A H hQ hAe hH hin Cx hsz hP hD hS hl
    have Cx1 := Cx
    obtain ⟨⟨hx, hb, hml, hown, hts⟩, hr, hlocks, hK, hA, hT⟩ := Cx1
    have hl : lv_has ls 1 [(0, .int (nI n))] := hl
    refine lv_iload_n hx hb dL_times_0 rfl (lv_at hl 0 rfl) ?_
    refine lv_iconst (v := (2 : Int32)) hx hb dL_times_1 (by decide) ?_
    refine lv_icmp_ge (tgt := 9) hx hb dL_times_2 (by decide) (fun hc => absurd hc (show ¬ (2 : Int32) ≤ nI n from nI_ge (b := 2) (by omega) (by decide))) (fun _ => ?_)
    refine lv_iconst (v := (1 : Int32)) hx hb dL_times_5 (by decide) ?_
    refine lv_goto (tgt := 17) hx hb dL_times_6 (by decide) ?_
    subst hAe
    rw [← hQ]
    exact ye_iret (post := (fun r _ => r = xi_FACTORIALS n)) (w1 := (fun _ => [])) () Cx (by exact (by rcases (show n = 0 ∨ n = 1 by omega) with rfl | rfl; exact l_fact1.1.symm; exact l_fact1.2.symm)) rfl hP hD hS dL_times_17
  | succ d ih =>
    intro n sz hnd hn
    by_cases hn2 : n < 2
    · clear ih
      refine ym_of (own := RL) (by decide) rfl rfl (Nat.le_of_ble_eq_true rfl) ?_
      intro p e s m args below meth c ls Q A H hQ hAe hH hin Cx hsz hP hD hS hl
      have Cx1 := Cx
      obtain ⟨⟨hx, hb, hml, hown, hts⟩, hr, hlocks, hK, hA, hT⟩ := Cx1
      have hl : lv_has ls 1 [(0, .int (nI n))] := hl
      refine lv_iload_n hx hb dL_times_0 rfl (lv_at hl 0 rfl) ?_
      refine lv_iconst (v := (2 : Int32)) hx hb dL_times_1 (by decide) ?_
      refine lv_icmp_ge (tgt := 9) hx hb dL_times_2 (by decide) (fun hc => absurd hc (show ¬ (2 : Int32) ≤ nI n from nI_ge (b := 2) (by omega) (by decide))) (fun _ => ?_)
      refine lv_iconst (v := (1 : Int32)) hx hb dL_times_5 (by decide) ?_
      refine lv_goto (tgt := 17) hx hb dL_times_6 (by decide) ?_
      subst hAe
      rw [← hQ]
      exact ye_iret (post := (fun r _ => r = xi_FACTORIALS n)) (w1 := (fun _ => [])) () Cx (by exact (by rcases (show n = 0 ∨ n = 1 by omega) with rfl | rfl; exact l_fact1.1.symm; exact l_fact1.2.symm)) rfl hP hD hS dL_times_17
    · obtain ⟨k, rfl⟩ : ∃ k, n = k + 1 := ⟨n - 1, by omega⟩
      refine ym_of (own := RL) (by decide) rfl rfl (Nat.le_of_ble_eq_true rfl) ?_
      intro p e s m args below meth c ls Q A H hQ hAe hH hin Cx hsz hP hD hS hl
      have Cx1 := Cx
      obtain ⟨⟨hx, hb, hml, hown, hts⟩, hr, hlocks, hK, hA, hT⟩ := Cx1
      have hl : lv_has ls 1 [(0, .int (nI (k + 1)))] := hl
      refine lv_iload_n hx hb dL_times_0 rfl (lv_at hl 0 rfl) ?_
      refine lv_iconst (v := (2 : Int32)) hx hb dL_times_1 (by decide) ?_
      refine lv_icmp_ge (tgt := 9) hx hb dL_times_2 (by decide) (fun _ => ?_) (fun hc => absurd (show (2 : Int32) ≤ nI (k + 1) from nI_le (a := 2) (by omega) (by omega)) hc)
      refine lv_iload_n hx hb dL_times_9 rfl (lv_at hl 0 rfl) ?_
      refine lv_iload_n hx hb dL_times_10 rfl (lv_at hl 0 rfl) ?_
      refine lv_iconst (v := (1 : Int32)) hx hb dL_times_11 (by decide) ?_
      refine lv_isub hx hb dL_times_12 ?_
      rw [show ((nI (k + 1)) - (1 : Int32)) = (nI k) from (nI_pred k)]
      refine yr_i Cx hP hD hS (yq_none (S := Unit) []) (yx_S (n := 1) (As := [.int (nI k)]) (rest := [.int (nI (k + 1))]) Cx hP hD hS hl (yq_none (S := Unit) []) hK fz_0 (fun hF => trivial) (ih k H.size (by omega) (by omega)) pk_L_times mw_3_182 ⟨rfl, rfl, (show d + 1 ≤ d + 1 from Nat.le_refl _), (show 8 + (1 + 11) + 20 * d ≤ 20 * (d + 1) by omega)⟩ rfl rfl (Nat.le_of_ble_eq_true rfl) ⟨Nat.le_of_ble_eq_true rfl, Nat.le_of_ble_eq_true rfl⟩ dL_times_13) (fun r_1 u H locs hp hP hD hS => ?_)
      have hP : va_P D xcl [] H := hP
      have hD : va_D A [] := hD
      rw [hp]
      refine lv_imul hx hb dL_times_16 ?_
      subst hAe
      rw [← hQ]
      exact ye_iret (post := (fun r _ => r = xi_FACTORIALS (k + 1))) (w1 := (fun _ => [])) () Cx (by exact (l_fact k (by omega))) rfl hP hD hS dL_times_17
set_option maxHeartbeats 4000000 in
set_option maxRecDepth 20000 in
theorem c_L_size (l : Launch) (D : va_G) (cyI cyJ cyB cyQ : ClassId) (sz : Nat) (a1 N : Nat) (f : Nat → Int32) (hN : N < 1000) : ym_i (S := Unit) l yL_size (Cond.code yL_size cL_size 6 (some .int) :: xg_tbl) { frames := 0, cells := 0, slots := 0, locals := 0 } D xcl (ytys cyI cyJ cyB cyQ) (ZI a1 N f) sz [.ref a1] [] (fun r _ => r = szf f N) (fun _ => []) 0 0 := by
  refine ym_of (own := RL) (by decide) rfl rfl (Nat.le_of_ble_eq_true rfl) ?_
  intro p e s m args below meth c ls Q A H hQ hAe hH hin Cx hsz hP hD hS hl
  have Cx1 := Cx
  obtain ⟨⟨hx, hb, hml, hown, hts⟩, hr, hlocks, hK, hA, hT⟩ := Cx1
  have hl : lv_has ls 6 [(0, .ref a1)] := hl
  refine lv_iconst (v := (0 : Int32)) hx hb dL_size_0 (by decide) ?_
  refine lv_istore_n (lv' := [(1, .int (0 : Int32)), (0, .ref a1)]) hx hb dL_size_1 rfl hl (by decide) rfl (fun ls hl => ?_)
  refine lv_aload_n hx hb dL_size_2 rfl (lv_at hl 1 rfl) ?_
  refine lv_astore_n (lv' := [(2, .ref a1), (1, .int (0 : Int32)), (0, .ref a1)]) hx hb dL_size_3 rfl hl (by decide) rfl (fun ls hl => ?_)
  refine lv_aload_n hx hb dL_size_4 rfl (lv_at hl 0 rfl) ?_
  refine yf_len hx hb (va_T.kept hT hS.2.1) dL_size_5 ?_
  refine lv_istore_n (lv' := [(3, .int (nI N)), (2, .ref a1), (1, .int (0 : Int32)), (0, .ref a1)]) hx hb dL_size_6 rfl hl (by decide) rfl (fun ls hl => ?_)
  refine lv_iconst (v := (0 : Int32)) hx hb dL_size_7 (by decide) ?_
  refine lv_istore (lv' := [(4, .int (0 : Int32)), (3, .int (nI N)), (2, .ref a1), (1, .int (0 : Int32)), (0, .ref a1)]) hx hb dL_size_8 hl (by decide) rfl (fun ls hl => ?_)
  have w_10 : ∀ (d : Nat) (i : Nat) (H : Heap) (locs : List Loc) (ls : Array Slot), i + d = N →  va_P D xcl [] H → va_D A [] → va_S A s.heap H locs → lv_has ls 6 [(4, .int (nI i)), (3, .int (nI N)), (2, .ref a1), (1, .int (szf f i))] → W p l e { frames := 0, cells := 0, slots := 0, locals := 0 } s m args below meth c H locs 0 0 Q (F0 m 10 ls []) := by
    intro d
    induction d with
    | zero =>
      intro i H locs ls hi hP hD hS hl
      obtain rfl : i = N := by omega
      refine lv_iload hx hb dL_size_10 (lv_at hl 0 rfl) ?_
      refine lv_iload_n hx hb dL_size_12 rfl (lv_at hl 1 rfl) ?_
      refine lv_icmp_ge (tgt := 33) hx hb dL_size_13 (by decide) (fun _ => ?_) (fun hc => absurd (Int32.le_refl _) hc)
      refine lv_iload_n hx hb dL_size_33 rfl (lv_at hl 3 rfl) ?_
      subst hAe
      rw [← hQ]
      exact ye_iret (post := (fun r _ => r = szf f i)) (w1 := (fun _ => [])) () Cx (by exact rfl) rfl hP hD hS dL_size_34
    | succ d ih_10 =>
      intro i H locs ls hi hP hD hS hl
      refine lv_iload hx hb dL_size_10 (lv_at hl 0 rfl) ?_
      refine lv_iload_n hx hb dL_size_12 rfl (lv_at hl 1 rfl) ?_
      refine lv_icmp_ge (tgt := 33) hx hb dL_size_13 (by decide) (fun hc => absurd hc (nI_ge (by omega) (by omega))) (fun _ => ?_)
      refine lv_aload_n hx hb dL_size_16 rfl (lv_at hl 2 rfl) ?_
      refine lv_iload hx hb dL_size_17 (lv_at hl 0 rfl) ?_
      refine yf_ild hx hb (va_T.kept hT hS.2.1) (vp_in_nI (by omega) (by omega)) (v := (f i)) (by rw [nI_clamp (by omega)]) dL_size_19 ?_
      refine lv_istore (lv' := [(5, .int (f i)), (4, .int (nI i)), (3, .int (nI N)), (2, .ref a1), (1, .int (szf f i))]) hx hb dL_size_20 hl (by decide) rfl (fun ls hl => ?_)
      refine lv_iload_n hx hb dL_size_22 rfl (lv_at hl 4 rfl) ?_
      refine lv_iload hx hb dL_size_23 (lv_at hl 0 rfl) ?_
      refine lv_iadd hx hb dL_size_25 ?_
      refine lv_istore_n (lv' := [(1, .int ((szf f i) + (f i))), (5, .int (f i)), (4, .int (nI i)), (3, .int (nI N)), (2, .ref a1)]) hx hb dL_size_26 rfl hl (by decide) rfl (fun ls hl => ?_)
      refine lv_iinc (v := ((nI i) + (1 : Int32))) (lv' := [(4, .int ((nI i) + (1 : Int32))), (1, .int ((szf f i) + (f i))), (5, .int (f i)), (3, .int (nI N)), (2, .ref a1)]) hx hb dL_size_27 hl (k := 2) rfl rfl (by decide) rfl (fun ls hl => ?_)
      refine lv_goto (tgt := 10) hx hb dL_size_30 (by decide) ?_
      rw [show ((nI i) + (1 : Int32)) = (nI (i + 1)) from (nI_1 i)] at hl
      exact ih_10  (i + 1) H _ ls (by omega) hP hD hS (lv_sub hl [0, 3, 4, 1] rfl)
  exact w_10 N 0 H _ ls (by omega) hP hD hS (lv_sub hl [0, 1, 2, 3] rfl)
set_option maxHeartbeats 4000000 in
set_option maxRecDepth 20000 in
theorem c_L_orders (l : Launch) (D : va_G) (cyI cyJ cyB cyQ : ClassId) (sz : Nat) (a1 N n : Nat) (f : Nat → Int32) (hN : N < 1000) (hs : szf f N = nI n) (hn : n ≤ 8) (hby : ¬ byf f N = 0) : ym_i (S := Unit) l yL_orders (Cond.code yL_orders cL_orders 5 (some .int) :: xg_tbl) { frames := 9, cells := 0, slots := 0, locals := 180 } D xcl (ytys cyI cyJ cyB cyQ) (ZI a1 N f) sz [.ref a1] [] (fun r _ => r = xi_FACTORIALS n / byf f N) (fun _ => []) 0 0 := by
  refine ym_of (own := RL) (by decide) rfl rfl (Nat.le_of_ble_eq_true rfl) ?_
  intro p e s m args below meth c ls Q A H hQ hAe hH hin Cx hsz hP hD hS hl
  have Cx1 := Cx
  obtain ⟨⟨hx, hb, hml, hown, hts⟩, hr, hlocks, hK, hA, hT⟩ := Cx1
  have hl : lv_has ls 5 [(0, .ref a1)] := hl
  refine lv_iconst (v := (1 : Int32)) hx hb dL_orders_0 (by decide) ?_
  refine lv_istore_n (lv' := [(1, .int (1 : Int32)), (0, .ref a1)]) hx hb dL_orders_1 rfl hl (by decide) rfl (fun ls hl => ?_)
  refine lv_iconst (v := (0 : Int32)) hx hb dL_orders_2 (by decide) ?_
  refine lv_istore_n (lv' := [(2, .int (0 : Int32)), (1, .int (1 : Int32)), (0, .ref a1)]) hx hb dL_orders_3 rfl hl (by decide) rfl (fun ls hl => ?_)
  have w_4 : ∀ (d : Nat) (i : Nat) (H : Heap) (locs : List Loc) (ls : Array Slot), i + d = N →  va_P D xcl [] H → va_D A [] → va_S A s.heap H locs → lv_has ls 5 [(2, .int (nI i)), (1, .int (byf f i)), (0, .ref a1)] → W p l e { frames := 9, cells := 0, slots := 0, locals := 180 } s m args below meth c H locs 0 0 Q (F0 m 4 ls []) := by
    intro d
    induction d with
    | zero =>
      intro i H locs ls hi hP hD hS hl
      obtain rfl : i = N := by omega
      refine lv_iload_n hx hb dL_orders_4 rfl (lv_at hl 0 rfl) ?_
      refine lv_aload_n hx hb dL_orders_5 rfl (lv_at hl 2 rfl) ?_
      refine yf_len hx hb (va_T.kept hT hS.2.1) dL_orders_6 ?_
      refine lv_icmp_ge (tgt := 54) hx hb dL_orders_7 (by decide) (fun _ => ?_) (fun hc => absurd (Int32.le_refl _) hc)
      refine lv_aload_n hx hb dL_orders_54 rfl (lv_at hl 2 rfl) ?_
      refine yr_i Cx hP hD hS (yq_none (S := Unit) []) (yx_S (n := 1) (As := [.ref a1]) (rest := []) Cx hP hD hS hl (yq_none (S := Unit) []) hK (fz_ZI a1 i f) (fun hF => (fz_give (fz_ZI a1 i f) hT hS hF)) (c_L_size l D cyI cyJ cyB cyQ H.size a1 i f hN) pk_L_size mw_3_173 ⟨rfl, rfl, Nat.le_of_ble_eq_true rfl, Nat.le_of_ble_eq_true rfl⟩ rfl rfl (Nat.le_of_ble_eq_true rfl) ⟨Nat.le_of_ble_eq_true rfl, Nat.le_of_ble_eq_true rfl⟩ dL_orders_55) (fun r_1 u H locs hp hP hD hS => ?_)
      have hP : va_P D xcl [] H := hP
      have hD : va_D A [] := hD
      rw [hp, hs]
      refine yr_i Cx hP hD hS (yq_none (S := Unit) []) (yx_S (n := 1) (As := [.int (nI n)]) (rest := []) Cx hP hD hS hl (yq_none (S := Unit) []) hK fz_0 (fun hF => trivial) (c_L_times l D cyI cyJ cyB cyQ 8 n H.size hn hn) pk_L_times mw_3_182 ⟨rfl, rfl, Nat.le_of_ble_eq_true rfl, Nat.le_of_ble_eq_true rfl⟩ rfl rfl (Nat.le_of_ble_eq_true rfl) ⟨Nat.le_of_ble_eq_true rfl, Nat.le_of_ble_eq_true rfl⟩ dL_orders_58) (fun r_2 u_2 H locs hp hP hD hS => ?_)
      have hP : va_P D xcl [] H := hP
      have hD : va_D A [] := hD
      rw [hp]
      refine lv_iload_n hx hb dL_orders_61 rfl (lv_at hl 1 rfl) ?_
      refine lv_idiv hx hb dL_orders_62 hby ?_
      subst hAe
      rw [← hQ]
      exact ye_iret (post := (fun r _ => r = xi_FACTORIALS n / byf f i)) (w1 := (fun _ => [])) () Cx (by exact rfl) rfl hP hD hS dL_orders_63
    | succ d ih_4 =>
      intro i H locs ls hi hP hD hS hl
      refine lv_iload_n hx hb dL_orders_4 rfl (lv_at hl 0 rfl) ?_
      refine lv_aload_n hx hb dL_orders_5 rfl (lv_at hl 2 rfl) ?_
      refine yf_len hx hb (va_T.kept hT hS.2.1) dL_orders_6 ?_
      refine lv_icmp_ge (tgt := 54) hx hb dL_orders_7 (by decide) (fun hc => absurd hc (nI_ge (by omega) (by omega))) (fun _ => ?_)
      refine lv_iconst (v := (0 : Int32)) hx hb dL_orders_10 (by decide) ?_
      refine lv_istore_n (lv' := [(3, .int (0 : Int32)), (2, .int (nI i)), (1, .int (byf f i)), (0, .ref a1)]) hx hb dL_orders_11 rfl hl (by decide) rfl (fun ls hl => ?_)
      refine lv_iconst (v := (0 : Int32)) hx hb dL_orders_12 (by decide) ?_
      refine lv_istore (lv' := [(4, .int (0 : Int32)), (3, .int (0 : Int32)), (2, .int (nI i)), (1, .int (byf f i)), (0, .ref a1)]) hx hb dL_orders_13 hl (by decide) rfl (fun ls hl => ?_)
      have w_15 : ∀ (d2 : Nat) (q : Nat) (H : Heap) (locs : List Loc) (ls : Array Slot), q + d2 = i + 1 →  va_P D xcl [] H → va_D A [] → va_S A s.heap H locs → lv_has ls 5 [(4, .int (nI q)), (3, .int (alk f i q)), (2, .int (nI i)), (1, .int (byf f i)), (0, .ref a1)] → W p l e { frames := 9, cells := 0, slots := 0, locals := 180 } s m args below meth c H locs 0 0 Q (F0 m 15 ls []) := by
        intro d2
        induction d2 with
        | zero =>
          intro q H locs ls hq hP hD hS hl
          obtain rfl : q = i + 1 := by omega
          refine lv_iload hx hb dL_orders_15 (lv_at hl 0 rfl) ?_
          refine lv_iload_n hx hb dL_orders_17 rfl (lv_at hl 2 rfl) ?_
          refine lv_icmp_gt (tgt := 40) hx hb dL_orders_18 (by decide) (fun _ => ?_) (fun hc => absurd (nI_lt (by omega) (by omega)) hc)
          refine lv_iload_n hx hb dL_orders_40 rfl (lv_at hl 3 rfl) ?_
          refine lv_aload_n hx hb dL_orders_41 rfl (lv_at hl 4 rfl) ?_
          refine lv_iload_n hx hb dL_orders_42 rfl (lv_at hl 2 rfl) ?_
          refine yf_ild hx hb (va_T.kept hT hS.2.1) (vp_in_nI (by omega) (by omega)) (v := (f i)) (by rw [nI_clamp (by omega)]) dL_orders_43 ?_
          refine lv_iload_n hx hb dL_orders_44 rfl (lv_at hl 1 rfl) ?_
          refine lv_imul hx hb dL_orders_45 ?_
          refine lv_imul hx hb dL_orders_46 ?_
          refine lv_istore_n (lv' := [(1, .int ((byf f i) * ((f i) * (alk f i (i + 1))))), (4, .int (nI (i + 1))), (3, .int (alk f i (i + 1))), (2, .int (nI i)), (0, .ref a1)]) hx hb dL_orders_47 rfl hl (by decide) rfl (fun ls hl => ?_)
          refine lv_iinc (v := ((nI i) + (1 : Int32))) (lv' := [(2, .int ((nI i) + (1 : Int32))), (1, .int ((byf f i) * ((f i) * (alk f i (i + 1))))), (4, .int (nI (i + 1))), (3, .int (alk f i (i + 1))), (0, .ref a1)]) hx hb dL_orders_48 hl (k := 3) rfl rfl (by decide) rfl (fun ls hl => ?_)
          refine lv_goto (tgt := 4) hx hb dL_orders_51 (by decide) ?_
          rw [show ((nI i) + (1 : Int32)) = (nI (i + 1)) from (nI_1 i)] at hl
          exact ih_4  (i + 1) H _ ls (by omega) hP hD hS (lv_sub hl [0, 1, 4] rfl)
        | succ d2 ih_15 =>
          intro q H locs ls hq hP hD hS hl
          refine lv_iload hx hb dL_orders_15 (lv_at hl 0 rfl) ?_
          refine lv_iload_n hx hb dL_orders_17 rfl (lv_at hl 2 rfl) ?_
          refine lv_icmp_gt (tgt := 40) hx hb dL_orders_18 (by decide) (fun hc => absurd hc (nI_nlt (by omega) (by omega))) (fun _ => ?_)
          refine lv_aload_n hx hb dL_orders_21 rfl (lv_at hl 4 rfl) ?_
          refine lv_iload hx hb dL_orders_22 (lv_at hl 0 rfl) ?_
          refine yf_ild hx hb (va_T.kept hT hS.2.1) (vp_in_nI (by omega) (by omega)) (v := (f q)) (by rw [nI_clamp (by omega)]) dL_orders_24 ?_
          refine lv_aload_n hx hb dL_orders_25 rfl (lv_at hl 4 rfl) ?_
          refine lv_iload_n hx hb dL_orders_26 rfl (lv_at hl 2 rfl) ?_
          refine yf_ild hx hb (va_T.kept hT hS.2.1) (vp_in_nI (by omega) (by omega)) (v := (f i)) (by rw [nI_clamp (by omega)]) dL_orders_27 ?_
          refine lv_icmp_ne (tgt := 34) hx hb dL_orders_28 (by decide) (fun hc => ?_) (fun hc => ?_)
          · have ea : alk f i q = alk f i (q + 1) := (if_neg hc).symm
            refine lv_iinc (v := ((nI q) + (1 : Int32))) (lv' := [(4, .int ((nI q) + (1 : Int32))), (3, .int (alk f i q)), (2, .int (nI i)), (1, .int (byf f i)), (0, .ref a1)]) hx hb dL_orders_34 hl (k := 0) rfl rfl (by decide) rfl (fun ls hl => ?_)
            refine lv_goto (tgt := 15) hx hb dL_orders_37 (by decide) ?_
            rw [ea] at hl
            rw [show ((nI q) + (1 : Int32)) = (nI (q + 1)) from (nI_1 q)] at hl
            exact ih_15  (q + 1) H _ ls (by omega) hP hD hS (lv_sub hl [0, 1, 2, 3, 4] rfl)
          · have ea : alk f i q + (1 : Int32) = alk f i (q + 1) := (if_pos hc).symm
            refine lv_iinc (v := ((alk f i q) + (1 : Int32))) (lv' := [(3, .int ((alk f i q) + (1 : Int32))), (4, .int (nI q)), (2, .int (nI i)), (1, .int (byf f i)), (0, .ref a1)]) hx hb dL_orders_31 hl (k := 1) rfl rfl (by decide) rfl (fun ls hl => ?_)
            rw [ea] at hl
            refine lv_iinc (v := ((nI q) + (1 : Int32))) (lv' := [(4, .int ((nI q) + (1 : Int32))), (3, .int (alk f i (q + 1))), (2, .int (nI i)), (1, .int (byf f i)), (0, .ref a1)]) hx hb dL_orders_34 hl (k := 1) rfl rfl (by decide) rfl (fun ls hl => ?_)
            refine lv_goto (tgt := 15) hx hb dL_orders_37 (by decide) ?_
            rw [show ((nI q) + (1 : Int32)) = (nI (q + 1)) from (nI_1 q)] at hl
            exact ih_15  (q + 1) H _ ls (by omega) hP hD hS (lv_sub hl [0, 1, 2, 3, 4] rfl)
      exact w_15 (i + 1) 0 H _ ls (by omega) hP hD hS (lv_sub hl [0, 1, 2, 3, 4] rfl)
  exact w_4 N 0 H _ ls (by omega) hP hD hS (lv_sub hl [0, 1, 2] rfl)
def l_rc (d : Nat) : Room := { frames := d + 1, cells := 0, slots := 0, locals := 26 * d + 28 }
set_option maxHeartbeats 8000000 in
set_option maxRecDepth 20000 in
theorem c_L_character (l : Launch) (D : va_G) (cyI cyJ cyB cyQ : ClassId) (a1 M : Nat) (c0 : Nat → Nat) (hM : M < 1000) (hc1 : ∀ k, k < M → c0 k ≤ 16) (g : Nat → Nat) : ∀ (d k sz : Nat) (x0 : Int32), k + d = M → ym_i (S := Unit) l yL_character (Cond.code yL_character cL_character 7 (some .int) :: xg_tbl) (l_rc d) D xcl (ytys cyI cyJ cyB cyQ) (fun A U H => ZI a1 M (fun k => nI (c0 k)) A U H ∧ ZJ g A U H) sz [.int x0, .ref a1, .int (nI k)] [] (fun r _ => r = chF c0 M d x0) (fun _ => []) 0 0 := by
  intro d
  induction d with
  | zero =>
    intro k sz x0 hkd
    obtain rfl : k = M := by omega
    refine ym_of (own := RL) (by decide) rfl rfl (Nat.le_of_ble_eq_true rfl) ?_
    intro p e s m args below meth c ls Q A H hQ hAe hH hin Cx hsz hP hD hS hl
    have Cx1 := Cx
    obtain ⟨⟨hx, hb, hml, hown, hts⟩, hr, hlocks, hK, hA, hT⟩ := Cx1
    have hl : lv_has ls 7 [(0, .int x0), (1, .ref a1), (2, .int (nI k))] := hl
    refine lv_iload_n hx hb dL_character_0 rfl (lv_at hl 2 rfl) ?_
    refine lv_aload_n hx hb dL_character_1 rfl (lv_at hl 1 rfl) ?_
    refine yf_len hx hb (va_T.kept hT.1 hS.2.1) dL_character_2 ?_
    refine lv_icmp_ne (tgt := 8) hx hb dL_character_3 (by decide) (fun hc => absurd rfl hc) (fun _ => ?_)
    refine lv_iconst (v := (1 : Int32)) hx hb dL_character_6 (by decide) ?_
    subst hAe
    rw [← hQ]
    exact ye_iret (post := (fun r _ => r = chF c0 k 0 x0)) (w1 := (fun _ => [])) () Cx (by exact rfl) rfl hP hD hS dL_character_7
  | succ d ih =>
    intro k sz x0 hkd
    refine ym_of (own := RL) (by decide) rfl rfl (Nat.le_of_ble_eq_true rfl) ?_
    intro p e s m args below meth c ls Q A H hQ hAe hH hin Cx hsz hP hD hS hl
    have Cx1 := Cx
    obtain ⟨⟨hx, hb, hml, hown, hts⟩, hr, hlocks, hK, hA, hT⟩ := Cx1
    have hl : lv_has ls 7 [(0, .int x0), (1, .ref a1), (2, .int (nI k))] := hl
    have ek : M - (d + 1) = k := by omega
    have hck := hc1 k (by omega)
    refine lv_iload_n hx hb dL_character_0 rfl (lv_at hl 2 rfl) ?_
    refine lv_aload_n hx hb dL_character_1 rfl (lv_at hl 1 rfl) ?_
    refine yf_len hx hb (va_T.kept hT.1 hS.2.1) dL_character_2 ?_
    refine lv_icmp_ne (tgt := 8) hx hb dL_character_3 (by decide) (fun _ => ?_) (fun hc => absurd hc (show ¬ nI k = nI M from fun h9 => by have := (nI_eq (by omega) (by omega)).mp h9; omega))
    refine lv_iconst (v := (0 : Int32)) hx hb dL_character_8 (by decide) ?_
    refine lv_istore_n (lv' := [(3, .int (0 : Int32)), (0, .int x0), (1, .ref a1), (2, .int (nI k))]) hx hb dL_character_9 rfl hl (by decide) rfl (fun ls hl => ?_)
    refine lv_aload_n hx hb dL_character_10 rfl (lv_at hl 2 rfl) ?_
    refine lv_iload_n hx hb dL_character_11 rfl (lv_at hl 3 rfl) ?_
    refine yf_ild hx hb (va_T.kept hT.1 hS.2.1) (vp_in_nI (by omega) (by omega)) (v := (nI (c0 k))) (by rw [nI_clamp (by omega)]) dL_character_12 ?_
    refine lv_istore (lv' := [(4, .int (nI (c0 k))), (3, .int (0 : Int32)), (0, .int x0), (1, .ref a1), (2, .int (nI k))]) hx hb dL_character_13 hl (by decide) rfl (fun ls hl => ?_)
    have er : chF c0 M (d + 1) x0 = chL (nI (c0 k)) (chF c0 M d) x0 (16 - c0 k) 0 := by show chL (nI (c0 (M - (d + 1)))) (chF c0 M d) x0 (16 - c0 (M - (d + 1))) 0 = _; rw [ek]
    have w_15 : ∀ (j : Nat) (x4 x3 : Int32) (H : Heap) (locs : List Loc) (ls : Array Slot), j ≤ 16 - c0 k → x4 = nI (16 - j) → chL (nI (c0 k)) (chF c0 M d) x0 j x3 = chL (nI (c0 k)) (chF c0 M d) x0 (16 - c0 k) 0 →  va_P D xcl [] H → va_D A [] → va_S A s.heap H locs → lv_has ls 7 [(4, .int x4), (3, .int x3), (0, .int x0), (1, .ref a1), (2, .int (nI k))] → W p l e (l_rc (d + 1)) s m args below meth c H locs 0 0 Q (F0 m 15 ls []) := by
      intro j
      induction j with
      | zero =>
        intro x4 x3 H locs ls hj e4 e3 hP hD hS hl
        refine lv_iload hx hb dL_character_15 (lv_at hl 0 rfl) ?_
        refine lv_bipush (v := (16 : Int32)) hx hb dL_character_17 (by decide) ?_
        refine lv_icmp_ge (tgt := 118) hx hb dL_character_19 (by decide) (fun _ => ?_) (fun hc => absurd (show (16 : Int32) ≤ x4 from by rw [e4]; decide) hc)
        refine lv_iload_n hx hb dL_character_118 rfl (lv_at hl 1 rfl) ?_
        rw [show chL (nI (c0 k)) (chF c0 M d) x0 0 x3 = x3 from rfl] at e3
        subst hAe
        rw [← hQ]
        exact ye_iret (post := (fun r _ => r = chF c0 M (d + 1) x0)) (w1 := (fun _ => [])) () Cx (by exact (by rw [er, e3])) rfl hP hD hS dL_character_119
      | succ j ih_15 =>
        intro x4 x3 H locs ls hj e4 e3 hP hD hS hl
        refine lv_iload hx hb dL_character_15 (lv_at hl 0 rfl) ?_
        refine lv_bipush (v := (16 : Int32)) hx hb dL_character_17 (by decide) ?_
        refine lv_icmp_ge (tgt := 118) hx hb dL_character_19 (by decide) (fun hc => absurd hc (show ¬ (16 : Int32) ≤ x4 from by rw [e4]; exact nI_ge (b := 16) (by omega) (by decide))) (fun _ => ?_)
        refine lv_iload hx hb dL_character_22 (lv_at hl 0 rfl) ?_
        refine lv_aload_n hx hb dL_character_24 rfl (lv_at hl 3 rfl) ?_
        refine lv_iload_n hx hb dL_character_25 rfl (lv_at hl 4 rfl) ?_
        refine yf_ild hx hb (va_T.kept hT.1 hS.2.1) (vp_in_nI (by omega) (by omega)) (v := (nI (c0 k))) (by rw [nI_clamp (by omega)]) dL_character_26 ?_
        refine lv_isub hx hb dL_character_27 ?_
        refine lv_istore (lv' := [(5, .int (x4 - (nI (c0 k)))), (4, .int x4), (3, .int x3), (0, .int x0), (1, .ref a1), (2, .int (nI k))]) hx hb dL_character_28 hl (by decide) rfl (fun ls hl => ?_)
        refine lv_iload_n hx hb dL_character_30 rfl (lv_at hl 3 rfl) ?_
        refine lv_iload hx hb dL_character_31 (lv_at hl 1 rfl) ?_
        refine lv_ishr hx hb dL_character_33 ?_
        refine lv_iconst (v := (1 : Int32)) hx hb dL_character_34 (by decide) ?_
        refine lv_iand hx hb dL_character_35 ?_
        have es : chL (nI (c0 k)) (chF c0 M d) x0 (j + 1) x3 = chL (nI (c0 k)) (chF c0 M d) x0 j (chS (nI (c0 k)) (chF c0 M d) x0 x4 x3) := by rw [e4, show 16 - (j + 1) = 15 - j by omega]; rfl
        rw [es] at e3
        have e4' : x4 + (1 : Int32) = nI (16 - j) := by rw [e4, nI_1]; exact congrArg nI (by omega)
        refine lv_if_eq (tgt := 112) hx hb dL_character_36 (by decide) (fun hc_1 => ?_) (fun hc_1 => ?_)
        · rw [show chS (nI (c0 k)) (chF c0 M d) x0 x4 x3 = x3 from (by unfold chS; rw [if_pos hc_1])] at e3
          refine lv_iinc (v := (x4 + (1 : Int32))) (lv' := [(4, .int (x4 + (1 : Int32))), (5, .int (x4 - (nI (c0 k)))), (3, .int x3), (0, .int x0), (1, .ref a1), (2, .int (nI k))]) hx hb dL_character_112 hl (k := 1) rfl rfl (by decide) rfl (fun ls hl => ?_)
          refine lv_goto (tgt := 15) hx hb dL_character_115 (by decide) ?_
          exact ih_15  (x4 + (1 : Int32)) x3 H _ ls (by omega) e4' e3 hP hD hS (lv_sub hl [0, 2, 3, 4, 5] rfl)
        · refine lv_iload_n hx hb dL_character_39 rfl (lv_at hl 3 rfl) ?_
          refine lv_iload hx hb dL_character_40 (lv_at hl 0 rfl) ?_
          refine lv_ishr hx hb dL_character_42 ?_
          refine lv_iconst (v := (1 : Int32)) hx hb dL_character_43 (by decide) ?_
          refine lv_iand hx hb dL_character_44 ?_
          refine lv_iconst (v := (1 : Int32)) hx hb dL_character_45 (by decide) ?_
          refine lv_icmp_ne (tgt := 52) hx hb dL_character_46 (by decide) (fun hc_2 => ?_) (fun hc_2 => ?_)
          · refine lv_iload_n hx hb dL_character_52 rfl (lv_at hl 3 rfl) ?_
            refine lv_iload hx hb dL_character_53 (lv_at hl 0 rfl) ?_
            refine lv_iconst (v := (1 : Int32)) hx hb dL_character_55 (by decide) ?_
            refine lv_iadd hx hb dL_character_56 ?_
            refine lv_ishr hx hb dL_character_57 ?_
            refine lv_iconst (v := (1 : Int32)) hx hb dL_character_58 (by decide) ?_
            refine lv_iload hx hb dL_character_59 (lv_at hl 1 rfl) ?_
            refine lv_iload hx hb dL_character_61 (lv_at hl 0 rfl) ?_
            refine lv_isub hx hb dL_character_63 ?_
            refine lv_iconst (v := (1 : Int32)) hx hb dL_character_64 (by decide) ?_
            refine lv_isub hx hb dL_character_65 ?_
            refine lv_ishl hx hb dL_character_66 ?_
            refine lv_iconst (v := (1 : Int32)) hx hb dL_character_67 (by decide) ?_
            refine lv_isub hx hb dL_character_68 ?_
            refine lv_iand hx hb dL_character_69 ?_
            refine yr_i Cx hP hD hS (yq_none (S := Unit) []) (yx_S (n := 1) (As := [.int ((x0 >>> (((x4 - (nI (c0 k))) + (1 : Int32)) &&& 31)) &&& (((1 : Int32) <<< (((x4 - (x4 - (nI (c0 k)))) - (1 : Int32)) &&& 31)) - (1 : Int32)))]) (rest := []) Cx hP hD hS hl (yq_none (S := Unit) []) hK (fz_ZJ g) (fun hF => (fz_give (fz_ZJ g) hT.2 hS hF)) (c_J6_bitCount_0f7a4 l D cyI cyJ cyB cyQ g H.size _) pk_J6_bitCount_0f7a4 mw_3_194 ⟨rfl, rfl, (show 0 + 1 ≤ d + 1 + 1 by omega), (show 8 + (1 + 11) + 0 ≤ 26 * (d + 1) + 28 by omega)⟩ rfl rfl (Nat.le_of_ble_eq_true rfl) ⟨Nat.le_of_ble_eq_true rfl, Nat.le_of_ble_eq_true rfl⟩ dL_character_70) (fun r_1 u H locs hp hP hD hS => ?_)
            have hP : va_P D xcl [] H := hP
            have hD : va_D A [] := hD
            have hp : r_1 = chP (nI (c0 k)) x0 x4 := hp
            rw [hp]
            refine lv_istore (lv' := [(6, .int (chP (nI (c0 k)) x0 x4)), (5, .int (x4 - (nI (c0 k)))), (4, .int x4), (3, .int x3), (0, .int x0), (1, .ref a1), (2, .int (nI k))]) hx hb dL_character_73 hl (by decide) rfl (fun ls hl => ?_)
            refine lv_iload_n hx hb dL_character_75 rfl (lv_at hl 3 rfl) ?_
            refine lv_iload hx hb dL_character_76 (lv_at hl 0 rfl) ?_
            refine lv_iconst (v := (2 : Int32)) hx hb dL_character_78 (by decide) ?_
            refine lv_irem hx hb dL_character_79 (by decide) ?_
            refine lv_iconst (v := (1 : Int32)) hx hb dL_character_80 (by decide) ?_
            refine lv_icmp_ne (tgt := 88) hx hb dL_character_81 (by decide) (fun hc_3 => ?_) (fun hc_3 => ?_)
            · refine lv_iconst (v := (1 : Int32)) hx hb dL_character_88 (by decide) ?_
              refine lv_iload_n hx hb dL_character_89 rfl (lv_at hl 4 rfl) ?_
              refine lv_iconst (v := (1 : Int32)) hx hb dL_character_90 (by decide) ?_
              refine lv_iload hx hb dL_character_91 (lv_at hl 2 rfl) ?_
              refine lv_ishl hx hb dL_character_93 ?_
              refine lv_iconst (v := (-1 : Int32)) hx hb dL_character_94 (by decide) ?_
              refine lv_ixor hx hb dL_character_95 ?_
              refine lv_iand hx hb dL_character_96 ?_
              refine lv_iconst (v := (1 : Int32)) hx hb dL_character_97 (by decide) ?_
              refine lv_iload hx hb dL_character_98 (lv_at hl 1 rfl) ?_
              refine lv_ishl hx hb dL_character_100 ?_
              refine lv_ior hx hb dL_character_101 ?_
              refine lv_aload_n hx hb dL_character_102 rfl (lv_at hl 5 rfl) ?_
              refine lv_iload_n hx hb dL_character_103 rfl (lv_at hl 6 rfl) ?_
              refine lv_iconst (v := (1 : Int32)) hx hb dL_character_104 (by decide) ?_
              refine lv_iadd hx hb dL_character_105 ?_
              rw [show ((nI k) + (1 : Int32)) = (nI (k + 1)) from (nI_1 k)]
              refine yr_i Cx hP hD hS (yq_none (S := Unit) []) (yx_S (n := 3) (As := [.int ((x0 &&& (((1 : Int32) <<< (x4 &&& 31)) ^^^ (-1 : Int32))) ||| ((1 : Int32) <<< ((x4 - (nI (c0 k))) &&& 31))), .ref a1, .int (nI (k + 1))]) (rest := [.int (1 : Int32), .int x3]) Cx hP hD hS hl (yq_none (S := Unit) []) hK (fz_and (fz_ZI a1 M (fun k => nI (c0 k))) (fz_ZJ g)) (fun hF => (fz_give (fz_and (fz_ZI a1 M (fun k => nI (c0 k))) (fz_ZJ g)) hT hS hF)) (ih (k + 1) H.size _ (by omega)) pk_L_character mw_3_191 ⟨rfl, rfl, (show d + 1 + 1 ≤ d + 1 + 1 from Nat.le_refl _), (show 8 + (7 + 11) + (26 * d + 28) ≤ 26 * (d + 1) + 28 by omega)⟩ rfl rfl (Nat.le_of_ble_eq_true rfl) ⟨Nat.le_of_ble_eq_true rfl, Nat.le_of_ble_eq_true rfl⟩ dL_character_106) (fun r_2 u_3 H locs hp hP hD hS => ?_)
              have hP : va_P D xcl [] H := hP
              have hD : va_D A [] := hD
              have hp : r_2 = chF c0 M d (chN (nI (c0 k)) x0 x4) := hp
              rw [hp]
              refine lv_imul hx hb dL_character_109 ?_
              refine lv_iadd hx hb dL_character_110 ?_
              refine lv_istore_n (lv' := [(3, .int (x3 + ((1 : Int32) * (chF c0 M d (chN (nI (c0 k)) x0 x4))))), (6, .int (chP (nI (c0 k)) x0 x4)), (5, .int (x4 - (nI (c0 k)))), (4, .int x4), (0, .int x0), (1, .ref a1), (2, .int (nI k))]) hx hb dL_character_111 rfl hl (by decide) rfl (fun ls hl => ?_)
              rw [show chS (nI (c0 k)) (chF c0 M d) x0 x4 x3 = (x3 + (1 : Int32) * chF c0 M d (chN (nI (c0 k)) x0 x4)) from (by unfold chS; rw [if_neg hc_1, if_neg hc_2, if_neg hc_3])] at e3
              refine lv_iinc (v := (x4 + (1 : Int32))) (lv' := [(4, .int (x4 + (1 : Int32))), (3, .int (x3 + ((1 : Int32) * (chF c0 M d (chN (nI (c0 k)) x0 x4))))), (6, .int (chP (nI (c0 k)) x0 x4)), (5, .int (x4 - (nI (c0 k)))), (0, .int x0), (1, .ref a1), (2, .int (nI k))]) hx hb dL_character_112 hl (k := 3) rfl rfl (by decide) rfl (fun ls hl => ?_)
              refine lv_goto (tgt := 15) hx hb dL_character_115 (by decide) ?_
              exact ih_15  (x4 + (1 : Int32)) (x3 + (1 : Int32) * chF c0 M d (chN (nI (c0 k)) x0 x4)) H _ ls (by omega) e4' e3 hP hD hS (lv_sub hl [0, 1, 4, 5, 6] rfl)
            · refine lv_iconst (v := (-1 : Int32)) hx hb dL_character_84 (by decide) ?_
              refine lv_goto (tgt := 89) hx hb dL_character_85 (by decide) ?_
              refine lv_iload_n hx hb dL_character_89 rfl (lv_at hl 4 rfl) ?_
              refine lv_iconst (v := (1 : Int32)) hx hb dL_character_90 (by decide) ?_
              refine lv_iload hx hb dL_character_91 (lv_at hl 2 rfl) ?_
              refine lv_ishl hx hb dL_character_93 ?_
              refine lv_iconst (v := (-1 : Int32)) hx hb dL_character_94 (by decide) ?_
              refine lv_ixor hx hb dL_character_95 ?_
              refine lv_iand hx hb dL_character_96 ?_
              refine lv_iconst (v := (1 : Int32)) hx hb dL_character_97 (by decide) ?_
              refine lv_iload hx hb dL_character_98 (lv_at hl 1 rfl) ?_
              refine lv_ishl hx hb dL_character_100 ?_
              refine lv_ior hx hb dL_character_101 ?_
              refine lv_aload_n hx hb dL_character_102 rfl (lv_at hl 5 rfl) ?_
              refine lv_iload_n hx hb dL_character_103 rfl (lv_at hl 6 rfl) ?_
              refine lv_iconst (v := (1 : Int32)) hx hb dL_character_104 (by decide) ?_
              refine lv_iadd hx hb dL_character_105 ?_
              rw [show ((nI k) + (1 : Int32)) = (nI (k + 1)) from (nI_1 k)]
              refine yr_i Cx hP hD hS (yq_none (S := Unit) []) (yx_S (n := 3) (As := [.int ((x0 &&& (((1 : Int32) <<< (x4 &&& 31)) ^^^ (-1 : Int32))) ||| ((1 : Int32) <<< ((x4 - (nI (c0 k))) &&& 31))), .ref a1, .int (nI (k + 1))]) (rest := [.int (-1 : Int32), .int x3]) Cx hP hD hS hl (yq_none (S := Unit) []) hK (fz_and (fz_ZI a1 M (fun k => nI (c0 k))) (fz_ZJ g)) (fun hF => (fz_give (fz_and (fz_ZI a1 M (fun k => nI (c0 k))) (fz_ZJ g)) hT hS hF)) (ih (k + 1) H.size _ (by omega)) pk_L_character mw_3_191 ⟨rfl, rfl, (show d + 1 + 1 ≤ d + 1 + 1 from Nat.le_refl _), (show 8 + (7 + 11) + (26 * d + 28) ≤ 26 * (d + 1) + 28 by omega)⟩ rfl rfl (Nat.le_of_ble_eq_true rfl) ⟨Nat.le_of_ble_eq_true rfl, Nat.le_of_ble_eq_true rfl⟩ dL_character_106) (fun r_2 u_3 H locs hp hP hD hS => ?_)
              have hP : va_P D xcl [] H := hP
              have hD : va_D A [] := hD
              have hp : r_2 = chF c0 M d (chN (nI (c0 k)) x0 x4) := hp
              rw [hp]
              refine lv_imul hx hb dL_character_109 ?_
              refine lv_iadd hx hb dL_character_110 ?_
              refine lv_istore_n (lv' := [(3, .int (x3 + ((-1 : Int32) * (chF c0 M d (chN (nI (c0 k)) x0 x4))))), (6, .int (chP (nI (c0 k)) x0 x4)), (5, .int (x4 - (nI (c0 k)))), (4, .int x4), (0, .int x0), (1, .ref a1), (2, .int (nI k))]) hx hb dL_character_111 rfl hl (by decide) rfl (fun ls hl => ?_)
              rw [show chS (nI (c0 k)) (chF c0 M d) x0 x4 x3 = (x3 + (-1 : Int32) * chF c0 M d (chN (nI (c0 k)) x0 x4)) from (by unfold chS; rw [if_neg hc_1, if_neg hc_2, if_pos hc_3])] at e3
              refine lv_iinc (v := (x4 + (1 : Int32))) (lv' := [(4, .int (x4 + (1 : Int32))), (3, .int (x3 + ((-1 : Int32) * (chF c0 M d (chN (nI (c0 k)) x0 x4))))), (6, .int (chP (nI (c0 k)) x0 x4)), (5, .int (x4 - (nI (c0 k)))), (0, .int x0), (1, .ref a1), (2, .int (nI k))]) hx hb dL_character_112 hl (k := 3) rfl rfl (by decide) rfl (fun ls hl => ?_)
              refine lv_goto (tgt := 15) hx hb dL_character_115 (by decide) ?_
              exact ih_15  (x4 + (1 : Int32)) (x3 + (-1 : Int32) * chF c0 M d (chN (nI (c0 k)) x0 x4)) H _ ls (by omega) e4' e3 hP hD hS (lv_sub hl [0, 1, 4, 5, 6] rfl)
          · refine lv_goto (tgt := 112) hx hb dL_character_49 (by decide) ?_
            rw [show chS (nI (c0 k)) (chF c0 M d) x0 x4 x3 = x3 from (by unfold chS; rw [if_neg hc_1, if_pos hc_2])] at e3
            refine lv_iinc (v := (x4 + (1 : Int32))) (lv' := [(4, .int (x4 + (1 : Int32))), (5, .int (x4 - (nI (c0 k)))), (3, .int x3), (0, .int x0), (1, .ref a1), (2, .int (nI k))]) hx hb dL_character_112 hl (k := 1) rfl rfl (by decide) rfl (fun ls hl => ?_)
            refine lv_goto (tgt := 15) hx hb dL_character_115 (by decide) ?_
            exact ih_15  (x4 + (1 : Int32)) x3 H _ ls (by omega) e4' e3 hP hD hS (lv_sub hl [0, 2, 3, 4, 5] rfl)
    exact w_15 (16 - c0 k) (nI (c0 k)) (0 : Int32) H _ ls (Nat.le_refl _) (congrArg nI (by omega)) rfl hP hD hS (lv_sub hl [0, 1, 2, 3, 4] rfl)
