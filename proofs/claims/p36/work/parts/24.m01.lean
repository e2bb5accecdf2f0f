def f_X1_atPlace_26 (v1_table : Nat → Int32) (y1 : Int32) (y2 : Int32) (z0 : Int32) : Option (Int32) := if z0 = 0 then (some ((0 : Int32))) else (p_in ((y1 * (22 : Int32)) + y2) 1474 (some ((v1_table (Int32.toNatClampNeg ((y1 * (22 : Int32)) + y2))))))
def f_X1_atPlace_25 (K_26 : Int32 → Int32 → Int32 → Option (Int32)) (v1_table : Nat → Int32) (y1 : Int32) (y2 : Int32) : Option (Int32) := K_26 y1 y2 (0 : Int32)
def f_X1_atPlace (v1_table : Nat → Int32) (x1 : Int32) (x2 : Int32) : Option (Int32) := p_b1 (f_X7_has x1) (fun r_3 => if r_3 = 0 then ((f_X1_atPlace_25 (f_X1_atPlace_26 v1_table) v1_table) x1 x2) else (if x2 < 0 then ((f_X1_atPlace_25 (f_X1_atPlace_26 v1_table) v1_table) x1 x2) else (if (22 : Int32) ≤ x2 then ((f_X1_atPlace_25 (f_X1_atPlace_26 v1_table) v1_table) x1 x2) else ((f_X1_atPlace_26 v1_table) x1 x2 (1 : Int32)))))
set_option maxHeartbeats 4000000 in
set_option maxRecDepth 20000 in
theorem c_X1_atPlace (l : Launch) (D : va_G) (cyI cyJ : ClassId) (G a : Nat → Nat) (sz : Nat) (v1_table : Nat → Int32) (v7_rows : Nat → Int32) (v7_lengths : Nat → Int32) (v7_sizes : Nat → Int32) (v7_rests : Nat → Int32) (v7_orders : Nat → Int32) (x1 : Int32) (x2 : Int32) (ro : Int32) (hf : f_X1_atPlace v1_table x1 x2 = some ro) : xm_i l yX1_atPlace (Cond.code yX1_atPlace cX1_atPlace 4 (some .int) :: xg_tbl) { frames := 1, cells := 0, slots := 0, locals := 21 } D xcl [(cyI, .int), (cyJ, .long)] G sz [.ref (a 13), .int x1, .int x2] (wd_X1 a cyI cyJ v1_table v7_rows v7_lengths v7_sizes v7_rests v7_orders) (wd_X1 a cyI cyJ v1_table v7_rows v7_lengths v7_sizes v7_rests v7_orders) ro := by
  refine xm_of_i (own := RX1) (by decide) rfl rfl (Nat.le_of_ble_eq_true rfl) ?_
  intro p e s m args below meth c ls Q A hQ hAe hin Cx hsz hP hD hS hl
  have Cx1 := Cx
  obtain ⟨⟨hx, hb, hml, hown, hts⟩, hr, hlocks, hK, hA, hT⟩ := Cx1
  have hl : lv_has ls 4 [(0, .ref (a 13)), (1, .int x1), (2, .int x2)] := hl
  obtain ⟨H, eH⟩ : ∃ H, H = s.heap := ⟨_, rfl⟩
  obtain ⟨locs, eL⟩ : ∃ L : List Loc, L = [] := ⟨_, rfl⟩
  rw [← eH] at hP
  have hS : va_S A s.heap H locs := by rw [eH, eL]; exact hS
  suffices hgo : W p l e { frames := 1, cells := 0, slots := 0, locals := 21 } s m args below meth c H locs 0 0 Q (F0 m 0 ls []) by rw [eH, eL] at hgo; exact hgo
  clear eH eL
  unfold f_X1_atPlace at hf
  have w_26 : ∀ (y1 : Int32) (y2 : Int32) (z0 : Int32) (H : Heap) (locs : List Loc) (ls : Array Slot), (f_X1_atPlace_26 v1_table) y1 y2 z0 = some ro → va_P D xcl (wd_X1 a cyI cyJ v1_table v7_rows v7_lengths v7_sizes v7_rests v7_orders) H → va_D A (wd_X1 a cyI cyJ v1_table v7_rows v7_lengths v7_sizes v7_rests v7_orders) → va_S A s.heap H locs → lv_has ls 4 [(0, .ref (a 13)), (1, .int y1), (2, .int y2)] → W p l e { frames := 1, cells := 0, slots := 0, locals := 21 } s m args below meth c H locs 0 0 Q (F0 m 26 ls [.int z0]) := by
    intro y1 y2 z0 H locs ls hf hP hD hS hl
    unfold f_X1_atPlace_26 at hf
    refine lv_istore_n (lv' := [(3, .int z0), (0, .ref (a 13)), (1, .int y1), (2, .int y2)]) hx hb dX1_atPlace_26 rfl hl (by decide) rfl (fun ls hl => ?_)
    refine lv_iload_n hx hb dX1_atPlace_27 rfl (lv_at hl 0 rfl) ?_
    refine lv_if_eq (tgt := 45) hx hb dX1_atPlace_28 (by decide) (fun hc_9 => ?_) (fun hc_9 => ?_)
    · have hf := pe_t hf hc_9
      refine lv_iconst (v := (0 : Int32)) hx hb dX1_atPlace_45 (by decide) ?_
      obtain rfl := po_1 hf
      rw [← hQ]; exact xe_iret Cx rfl hP hD hS dX1_atPlace_46
    · have hf := pe_f hf hc_9
      refine lv_aload_n hx hb dX1_atPlace_31 rfl (lv_at hl 1 rfl) ?_
      refine va_get (ci := 1) (v := .ref (a 14)) hx hb hts wX1_in hown hK hP 0 rfl rfl 1 (by decide) (hts _ mw_1_194) (fun _ h9 => h9) rfl dX1_atPlace_32 ?_
      refine lv_iload_n hx hb dX1_atPlace_35 rfl (lv_at hl 2 rfl) ?_
      refine lv_bipush (v := (22 : Int32)) hx hb dX1_atPlace_36 (by decide) ?_
      refine lv_imul hx hb dX1_atPlace_38 ?_
      refine lv_iload_n hx hb dX1_atPlace_39 rfl (lv_at hl 3 rfl) ?_
      refine lv_iadd hx hb dX1_atPlace_40 ?_
      obtain ⟨hi_10, hf⟩ := pe_in hf
      refine va_iald hx hb hK hP 1 0 rfl rfl hi_10 dX1_atPlace_41 ?_
      refine lv_goto (tgt := 46) hx hb dX1_atPlace_42 (by decide) ?_
      obtain rfl := po_1 hf
      rw [← hQ]; exact xe_iret Cx rfl hP hD hS dX1_atPlace_46
  have w_25 : ∀ (y1 : Int32) (y2 : Int32) (H : Heap) (locs : List Loc) (ls : Array Slot), (f_X1_atPlace_25 (f_X1_atPlace_26 v1_table) v1_table) y1 y2 = some ro → va_P D xcl (wd_X1 a cyI cyJ v1_table v7_rows v7_lengths v7_sizes v7_rests v7_orders) H → va_D A (wd_X1 a cyI cyJ v1_table v7_rows v7_lengths v7_sizes v7_rests v7_orders) → va_S A s.heap H locs → lv_has ls 4 [(0, .ref (a 13)), (1, .int y1), (2, .int y2)] → W p l e { frames := 1, cells := 0, slots := 0, locals := 21 } s m args below meth c H locs 0 0 Q (F0 m 25 ls []) := by
    intro y1 y2 H locs ls hf hP hD hS hl
    unfold f_X1_atPlace_25 at hf
    refine lv_iconst (v := (0 : Int32)) hx hb dX1_atPlace_25 (by decide) ?_
    exact w_26 y1 y2 (0 : Int32) H locs ls hf hP hD hS (lv_sub hl [0, 1, 2] rfl)
  refine lv_aload_n hx hb dX1_atPlace_0 rfl (lv_at hl 0 rfl) ?_
  refine va_get (ci := 1) (v := .ref (a 2)) hx hb hts wX1_in hown hK hP 0 rfl rfl 0 (by decide) (hts _ mw_1_193) (fun _ h9 => h9) rfl dX1_atPlace_1 ?_
  refine lv_iload_n hx hb dX1_atPlace_4 rfl (lv_at hl 1 rfl) ?_
  obtain ⟨r_11, hk_12, hf⟩ := pe_1 hf
  refine xv_z (As := [.int x1]) (rest := []) (q0 := 0) (ci := 7) Cx hP hD hS hl (pl_X1_X7 a cyI cyJ v1_table v7_rows v7_lengths v7_sizes v7_rests v7_orders v7_rows v7_lengths v7_sizes v7_rests v7_orders) (c_X7_has l D cyI cyJ G a H.size v7_rows v7_lengths v7_sizes v7_rests v7_orders x1 r_11 hk_12) pk_X7_has mw_1_192 ⟨rfl, rfl, Nat.le_of_ble_eq_true rfl, Nat.le_of_ble_eq_true rfl⟩ rfl rfl rfl rfl rfl (Nat.le_of_ble_eq_true rfl) ⟨Nat.le_of_ble_eq_true rfl, Nat.le_of_ble_eq_true rfl⟩ dX1_atPlace_5 (fun H locs hn_13 hP hD hS => ?_)
  refine lv_if_eq (tgt := 25) hx hb dX1_atPlace_8 (by decide) (fun hc_14 => ?_) (fun hc_14 => ?_)
  · have hf := pe_t hf hc_14
    exact w_25 x1 x2 H locs ls hf hP hD hS (lv_sub hl [0, 1, 2] rfl)
  · have hf := pe_f hf hc_14
    refine lv_iload_n hx hb dX1_atPlace_11 rfl (lv_at hl 2 rfl) ?_
    refine lv_if_lt (tgt := 25) hx hb dX1_atPlace_12 (by decide) (fun hc_15 => ?_) (fun hc_15 => ?_)
    · have hf := pe_t hf hc_15
      exact w_25 x1 x2 H locs ls hf hP hD hS (lv_sub hl [0, 1, 2] rfl)
    · have hf := pe_f hf hc_15
      refine lv_iload_n hx hb dX1_atPlace_15 rfl (lv_at hl 2 rfl) ?_
      refine lv_bipush (v := (22 : Int32)) hx hb dX1_atPlace_16 (by decide) ?_
      refine lv_icmp_ge (tgt := 25) hx hb dX1_atPlace_18 (by decide) (fun hc_16 => ?_) (fun hc_16 => ?_)
      · have hf := pe_t hf hc_16
        exact w_25 x1 x2 H locs ls hf hP hD hS (lv_sub hl [0, 1, 2] rfl)
      · have hf := pe_f hf hc_16
        refine lv_iconst (v := (1 : Int32)) hx hb dX1_atPlace_21 (by decide) ?_
        refine lv_goto (tgt := 26) hx hb dX1_atPlace_22 (by decide) ?_
        exact w_26 x1 x2 (1 : Int32) H locs ls hf hP hD hS (lv_sub hl [0, 1, 2] rfl)
def f_X1_at (v7_sizes : Nat → Int32) (v1_table : Nat → Int32) (x1 : Int32) (x2 : Int32) : Option (Int32) := p_b1 (f_X7_placeOf v7_sizes x2) (fun r_1 => p_b1 (f_X1_atPlace v1_table x1 r_1) (fun r_3 => some (r_3)))
set_option maxHeartbeats 4000000 in
set_option maxRecDepth 20000 in
theorem c_X1_at (l : Launch) (D : va_G) (cyI cyJ : ClassId) (G a : Nat → Nat) (sz : Nat) (v1_table : Nat → Int32) (v7_rows : Nat → Int32) (v7_lengths : Nat → Int32) (v7_sizes : Nat → Int32) (v7_rests : Nat → Int32) (v7_orders : Nat → Int32) (x1 : Int32) (x2 : Int32) (ro : Int32) (hf : f_X1_at v7_sizes v1_table x1 x2 = some ro) : xm_i l yX1_at (Cond.code yX1_at cX1_at 3 (some .int) :: xg_tbl) { frames := 3, cells := 0, slots := 0, locals := 63 } D xcl [(cyI, .int), (cyJ, .long)] G sz [.ref (a 13), .int x1, .int x2] (wd_X1 a cyI cyJ v1_table v7_rows v7_lengths v7_sizes v7_rests v7_orders) (wd_X1 a cyI cyJ v1_table v7_rows v7_lengths v7_sizes v7_rests v7_orders) ro := by
  refine xm_of_i (own := RX1) (by decide) rfl rfl (Nat.le_of_ble_eq_true rfl) ?_
  intro p e s m args below meth c ls Q A hQ hAe hin Cx hsz hP hD hS hl
  have Cx1 := Cx
  obtain ⟨⟨hx, hb, hml, hown, hts⟩, hr, hlocks, hK, hA, hT⟩ := Cx1
  have hl : lv_has ls 3 [(0, .ref (a 13)), (1, .int x1), (2, .int x2)] := hl
  obtain ⟨H, eH⟩ : ∃ H, H = s.heap := ⟨_, rfl⟩
  obtain ⟨locs, eL⟩ : ∃ L : List Loc, L = [] := ⟨_, rfl⟩
  rw [← eH] at hP
  have hS : va_S A s.heap H locs := by rw [eH, eL]; exact hS
  suffices hgo : W p l e { frames := 3, cells := 0, slots := 0, locals := 63 } s m args below meth c H locs 0 0 Q (F0 m 0 ls []) by rw [eH, eL] at hgo; exact hgo
  clear eH eL
  unfold f_X1_at at hf
  refine lv_aload_n hx hb dX1_at_0 rfl (lv_at hl 0 rfl) ?_
  refine lv_iload_n hx hb dX1_at_1 rfl (lv_at hl 1 rfl) ?_
  refine lv_aload_n hx hb dX1_at_2 rfl (lv_at hl 0 rfl) ?_
  refine va_get (ci := 1) (v := .ref (a 2)) hx hb hts wX1_in hown hK hP 0 rfl rfl 0 (by decide) (hts _ mw_1_193) (fun _ h9 => h9) rfl dX1_at_3 ?_
  refine lv_iload_n hx hb dX1_at_6 rfl (lv_at hl 2 rfl) ?_
  obtain ⟨r_5, hk_6, hf⟩ := pe_1 hf
  refine xv_i (As := [.int x2]) (rest := [.int x1, .ref (a 13)]) (q0 := 0) (ci := 7) Cx hP hD hS hl (pl_X1_X7 a cyI cyJ v1_table v7_rows v7_lengths v7_sizes v7_rests v7_orders v7_rows v7_lengths v7_sizes v7_rests v7_orders) (c_X7_placeOf l D cyI cyJ G a H.size v7_rows v7_lengths v7_sizes v7_rests v7_orders x2 r_5 hk_6) pk_X7_placeOf mw_1_184 ⟨rfl, rfl, Nat.le_of_ble_eq_true rfl, Nat.le_of_ble_eq_true rfl⟩ rfl rfl rfl rfl rfl (Nat.le_of_ble_eq_true rfl) ⟨Nat.le_of_ble_eq_true rfl, Nat.le_of_ble_eq_true rfl⟩ dX1_at_7 (fun H locs hP hD hS => ?_)
  obtain ⟨r_7, hk_8, hf⟩ := pe_1 hf
  refine xv_i (As := [.int x1, .int r_5]) (rest := []) (q0 := 0) (ci := 1) Cx hP hD hS hl (pl_X1_X1 a cyI cyJ v1_table v7_rows v7_lengths v7_sizes v7_rests v7_orders v1_table v7_rows v7_lengths v7_sizes v7_rests v7_orders) (c_X1_atPlace l D cyI cyJ G a H.size v1_table v7_rows v7_lengths v7_sizes v7_rests v7_orders x1 r_5 r_7 hk_8) pk_X1_atPlace mw_1_188 ⟨rfl, rfl, Nat.le_of_ble_eq_true rfl, Nat.le_of_ble_eq_true rfl⟩ rfl rfl rfl rfl rfl (Nat.le_of_ble_eq_true rfl) ⟨Nat.le_of_ble_eq_true rfl, Nat.le_of_ble_eq_true rfl⟩ dX1_at_10 (fun H locs hP hD hS => ?_)
  obtain rfl := po_1 hf
  rw [← hQ]; exact xe_iret Cx rfl hP hD hS dX1_at_13
def gf_X1_addRim_37 (K_37 : (Nat → Int32) → Int32 → Int32 → Int32 → Int32 → Int32 → Int32 → Int32 → Option ((Nat → Int32))) (v7_rows : Nat → Int32) (v7_sizes : Nat → Int32) (v7_rests : Nat → Int32) (v1_table : Nat → Int32) (y1 : Int32) (y2 : Int32) (y3 : Int32) (y4 : Int32) (y5 : Int32) (y6 : Int32) (y7 : Int32) : Option ((Nat → Int32)) := if y6 ≤ y7 then (some (v1_table)) else (if (22 : Int32) ≤ y7 then (some (v1_table)) else (p_b1 (f_X7_row v7_rows (y5 + y7) (0 : Int32)) (fun r_3 => if r_3 = y2 then (p_in ((y1 * (22 : Int32)) + y7) 1474 (p_b1 (f_X7_restOf v7_rests (y5 + y7)) (fun r_7 => p_b1 (f_X1_at v7_sizes v1_table y3 r_7) (fun r_9 => p_in ((y1 * (22 : Int32)) + y7) 1474 (K_37 (upd v1_table (Int32.toNatClampNeg ((y1 * (22 : Int32)) + y7)) ((v1_table (Int32.toNatClampNeg ((y1 * (22 : Int32)) + y7))) + (y4 * r_9))) y1 y2 y3 y4 y5 y6 (y7 + (1 : Int32))))))) else (K_37 v1_table y1 y2 y3 y4 y5 y6 (y7 + (1 : Int32))))))
def f_X1_addRim_37 (v7_rows : Nat → Int32) (v7_sizes : Nat → Int32) (v7_rests : Nat → Int32) : Nat → (Nat → Int32) → Int32 → Int32 → Int32 → Int32 → Int32 → Int32 → Int32 → Option ((Nat → Int32))
  | 0 => fun _ _ _ _ _ _ _ _ => none
  | n + 1 => gf_X1_addRim_37 (f_X1_addRim_37 v7_rows v7_sizes v7_rests n) v7_rows v7_sizes v7_rests
def f_X1_addRim (v7_rows : Nat → Int32) (v7_sizes : Nat → Int32) (v7_rests : Nat → Int32) (v1_table : Nat → Int32) (x1 : Int32) (x2 : Int32) (x3 : Int32) (x4 : Int32) : Option ((Nat → Int32)) := p_b1 (f_X7_sizeOf v7_sizes x1) (fun r_12 => p_b1 (f_X7_firstOf r_12) (fun r_14 => p_b1 (f_X7_sizeOf v7_sizes x1) (fun r_16 => p_b1 (f_X7_countOf r_16) (fun r_18 => (f_X1_addRim_37 v7_rows v7_sizes v7_rests 1000) v1_table x1 x2 x3 x4 r_14 r_18 (0 : Int32)))))
set_option maxHeartbeats 4000000 in
set_option maxRecDepth 20000 in
theorem c_X1_addRim (l : Launch) (D : va_G) (cyI cyJ : ClassId) (G a : Nat → Nat) (sz : Nat) (v1_table : Nat → Int32) (v7_rows : Nat → Int32) (v7_lengths : Nat → Int32) (v7_sizes : Nat → Int32) (v7_rests : Nat → Int32) (v7_orders : Nat → Int32) (x1 : Int32) (x2 : Int32) (x3 : Int32) (x4 : Int32) (ov1_table : Nat → Int32) (hf : f_X1_addRim v7_rows v7_sizes v7_rests v1_table x1 x2 x3 x4 = some ov1_table) : xm_v l yX1_addRim (Cond.code yX1_addRim cX1_addRim 8 none :: xg_tbl) { frames := 4, cells := 0, slots := 0, locals := 85 } D xcl [(cyI, .int), (cyJ, .long)] G sz [.ref (a 13), .int x1, .int x2, .int x3, .int x4] (wd_X1 a cyI cyJ v1_table v7_rows v7_lengths v7_sizes v7_rests v7_orders) (wd_X1 a cyI cyJ ov1_table v7_rows v7_lengths v7_sizes v7_rests v7_orders) := by
  refine xm_of_v (own := RX1) (by decide) rfl rfl (Nat.le_of_ble_eq_true rfl) ?_
  intro p e s m args below meth c ls Q A hQ hAe hin Cx hsz hP hD hS hl
  have Cx1 := Cx
  obtain ⟨⟨hx, hb, hml, hown, hts⟩, hr, hlocks, hK, hA, hT⟩ := Cx1
  have hl : lv_has ls 8 [(0, .ref (a 13)), (1, .int x1), (2, .int x2), (3, .int x3), (4, .int x4)] := hl
  obtain ⟨H, eH⟩ : ∃ H, H = s.heap := ⟨_, rfl⟩
  obtain ⟨locs, eL⟩ : ∃ L : List Loc, L = [] := ⟨_, rfl⟩
  rw [← eH] at hP
  have hS : va_S A s.heap H locs := by rw [eH, eL]; exact hS
  suffices hgo : W p l e { frames := 4, cells := 0, slots := 0, locals := 85 } s m args below meth c H locs 0 0 Q (F0 m 0 ls []) by rw [eH, eL] at hgo; exact hgo
  clear eH eL
  unfold f_X1_addRim at hf
  have w_37 : ∀ (n_37 : Nat) (v1_table : Nat → Int32) (y1 : Int32) (y2 : Int32) (y3 : Int32) (y4 : Int32) (y5 : Int32) (y6 : Int32) (y7 : Int32) (H : Heap) (locs : List Loc) (ls : Array Slot), (f_X1_addRim_37 v7_rows v7_sizes v7_rests) n_37 v1_table y1 y2 y3 y4 y5 y6 y7 = some ov1_table → va_P D xcl (wd_X1 a cyI cyJ v1_table v7_rows v7_lengths v7_sizes v7_rests v7_orders) H → va_D A (wd_X1 a cyI cyJ v1_table v7_rows v7_lengths v7_sizes v7_rests v7_orders) → va_S A s.heap H locs → lv_has ls 8 [(0, .ref (a 13)), (1, .int y1), (2, .int y2), (3, .int y3), (4, .int y4), (5, .int y5), (6, .int y6), (7, .int y7)] → W p l e { frames := 4, cells := 0, slots := 0, locals := 85 } s m args below meth c H locs 0 0 Q (F0 m 37 ls []) := by
    intro n_37
    induction n_37 with
    | zero => intro v1_table y1 y2 y3 y4 y5 y6 y7 H locs ls hf; exact absurd hf (by intro h9; cases h9)
    | succ n_37 w_37 =>
      intro v1_table y1 y2 y3 y4 y5 y6 y7 H locs ls hf hP hD hS hl
      have hf : gf_X1_addRim_37 ((f_X1_addRim_37 v7_rows v7_sizes v7_rests) n_37) v7_rows v7_sizes v7_rests v1_table y1 y2 y3 y4 y5 y6 y7 = some ov1_table := hf
      unfold gf_X1_addRim_37 at hf
      refine lv_iload hx hb dX1_addRim_37 (lv_at hl 7 rfl) ?_
      refine lv_iload hx hb dX1_addRim_39 (lv_at hl 6 rfl) ?_
      refine lv_icmp_ge (tgt := 109) hx hb dX1_addRim_41 (by decide) (fun hc_20 => ?_) (fun hc_20 => ?_)
      · have hf := pe_t hf hc_20
        obtain rfl := po_1 hf
        rw [← hQ]; exact xe_vret Cx hP hD hS dX1_addRim_109
      · have hf := pe_f hf hc_20
        refine lv_iload hx hb dX1_addRim_44 (lv_at hl 7 rfl) ?_
        refine lv_bipush (v := (22 : Int32)) hx hb dX1_addRim_46 (by decide) ?_
        refine lv_icmp_ge (tgt := 109) hx hb dX1_addRim_48 (by decide) (fun hc_21 => ?_) (fun hc_21 => ?_)
        · have hf := pe_t hf hc_21
          obtain rfl := po_1 hf
          rw [← hQ]; exact xe_vret Cx hP hD hS dX1_addRim_109
        · have hf := pe_f hf hc_21
          refine lv_aload_n hx hb dX1_addRim_51 rfl (lv_at hl 0 rfl) ?_
          refine va_get (ci := 1) (v := .ref (a 2)) hx hb hts wX1_in hown hK hP 0 rfl rfl 0 (by decide) (hts _ mw_1_193) (fun _ h9 => h9) rfl dX1_addRim_52 ?_
          refine lv_iload hx hb dX1_addRim_55 (lv_at hl 5 rfl) ?_
          refine lv_iload hx hb dX1_addRim_57 (lv_at hl 7 rfl) ?_
          refine lv_iadd hx hb dX1_addRim_59 ?_
          refine lv_iconst (v := (0 : Int32)) hx hb dX1_addRim_60 (by decide) ?_
          obtain ⟨r_22, hk_23, hf⟩ := pe_1 hf
          refine xv_i (As := [.int (y5 + y7), .int (0 : Int32)]) (rest := []) (q0 := 0) (ci := 7) Cx hP hD hS hl (pl_X1_X7 a cyI cyJ v1_table v7_rows v7_lengths v7_sizes v7_rests v7_orders v7_rows v7_lengths v7_sizes v7_rests v7_orders) (c_X7_row l D cyI cyJ G a H.size v7_rows v7_lengths v7_sizes v7_rests v7_orders (y5 + y7) (0 : Int32) r_22 hk_23) pk_X7_row mw_1_175 ⟨rfl, rfl, Nat.le_of_ble_eq_true rfl, Nat.le_of_ble_eq_true rfl⟩ rfl rfl rfl rfl rfl (Nat.le_of_ble_eq_true rfl) ⟨Nat.le_of_ble_eq_true rfl, Nat.le_of_ble_eq_true rfl⟩ dX1_addRim_61 (fun H locs hP hD hS => ?_)
          refine lv_iload_n hx hb dX1_addRim_64 rfl (lv_at hl 2 rfl) ?_
          refine lv_icmp_ne (tgt := 103) hx hb dX1_addRim_65 (by decide) (fun hc_24 => ?_) (fun hc_24 => ?_)
          · have hf := pe_f hf hc_24
            refine lv_iinc (v := (y7 + (1 : Int32))) (lv' := [(7, .int (y7 + (1 : Int32))), (0, .ref (a 13)), (1, .int y1), (2, .int y2), (3, .int y3), (4, .int y4), (5, .int y5), (6, .int y6)]) hx hb dX1_addRim_103 hl (k := 7) rfl rfl (by decide) rfl (fun ls hl => ?_)
            refine lv_goto (tgt := 37) hx hb dX1_addRim_106 (by decide) ?_
            exact w_37 v1_table y1 y2 y3 y4 y5 y6 (y7 + (1 : Int32)) H locs ls hf hP hD hS (lv_sub hl [1, 2, 3, 4, 5, 6, 7, 0] rfl)
          · have hf := pe_t hf hc_24
            refine lv_aload_n hx hb dX1_addRim_68 rfl (lv_at hl 0 rfl) ?_
            refine va_get (ci := 1) (v := .ref (a 14)) hx hb hts wX1_in hown hK hP 0 rfl rfl 1 (by decide) (hts _ mw_1_194) (fun _ h9 => h9) rfl dX1_addRim_69 ?_
            refine lv_iload_n hx hb dX1_addRim_72 rfl (lv_at hl 1 rfl) ?_
            refine lv_bipush (v := (22 : Int32)) hx hb dX1_addRim_73 (by decide) ?_
            refine lv_imul hx hb dX1_addRim_75 ?_
            refine lv_iload hx hb dX1_addRim_76 (lv_at hl 7 rfl) ?_
            refine lv_iadd hx hb dX1_addRim_78 ?_
            refine lv_dup2_11 hx hb dX1_addRim_79 rfl rfl ?_
            obtain ⟨hi_25, hf⟩ := pe_in hf
            refine va_iald hx hb hK hP 1 0 rfl rfl hi_25 dX1_addRim_80 ?_
            refine lv_iload hx hb dX1_addRim_81 (lv_at hl 4 rfl) ?_
            refine lv_aload_n hx hb dX1_addRim_83 rfl (lv_at hl 0 rfl) ?_
            refine lv_iload_n hx hb dX1_addRim_84 rfl (lv_at hl 3 rfl) ?_
            refine lv_aload_n hx hb dX1_addRim_85 rfl (lv_at hl 0 rfl) ?_
            refine va_get (ci := 1) (v := .ref (a 2)) hx hb hts wX1_in hown hK hP 0 rfl rfl 0 (by decide) (hts _ mw_1_193) (fun _ h9 => h9) rfl dX1_addRim_86 ?_
            refine lv_iload hx hb dX1_addRim_89 (lv_at hl 5 rfl) ?_
            refine lv_iload hx hb dX1_addRim_91 (lv_at hl 7 rfl) ?_
            refine lv_iadd hx hb dX1_addRim_93 ?_
            obtain ⟨r_26, hk_27, hf⟩ := pe_1 hf
            refine xv_i (As := [.int (y5 + y7)]) (rest := [.int y3, .ref (a 13), .int y4, .int (v1_table (Int32.toNatClampNeg ((y1 * (22 : Int32)) + y7))), .int ((y1 * (22 : Int32)) + y7), .ref (a 14)]) (q0 := 0) (ci := 7) Cx hP hD hS hl (pl_X1_X7 a cyI cyJ v1_table v7_rows v7_lengths v7_sizes v7_rests v7_orders v7_rows v7_lengths v7_sizes v7_rests v7_orders) (c_X7_restOf l D cyI cyJ G a H.size v7_rows v7_lengths v7_sizes v7_rests v7_orders (y5 + y7) r_26 hk_27) pk_X7_restOf mw_1_176 ⟨rfl, rfl, Nat.le_of_ble_eq_true rfl, Nat.le_of_ble_eq_true rfl⟩ rfl rfl rfl rfl rfl (Nat.le_of_ble_eq_true rfl) ⟨Nat.le_of_ble_eq_true rfl, Nat.le_of_ble_eq_true rfl⟩ dX1_addRim_94 (fun H locs hP hD hS => ?_)
            obtain ⟨r_28, hk_29, hf⟩ := pe_1 hf
            refine xv_i (As := [.int y3, .int r_26]) (rest := [.int y4, .int (v1_table (Int32.toNatClampNeg ((y1 * (22 : Int32)) + y7))), .int ((y1 * (22 : Int32)) + y7), .ref (a 14)]) (q0 := 0) (ci := 1) Cx hP hD hS hl (pl_X1_X1 a cyI cyJ v1_table v7_rows v7_lengths v7_sizes v7_rests v7_orders v1_table v7_rows v7_lengths v7_sizes v7_rests v7_orders) (c_X1_at l D cyI cyJ G a H.size v1_table v7_rows v7_lengths v7_sizes v7_rests v7_orders y3 r_26 r_28 hk_29) pk_X1_at mw_1_180 ⟨rfl, rfl, Nat.le_of_ble_eq_true rfl, Nat.le_of_ble_eq_true rfl⟩ rfl rfl rfl rfl rfl (Nat.le_of_ble_eq_true rfl) ⟨Nat.le_of_ble_eq_true rfl, Nat.le_of_ble_eq_true rfl⟩ dX1_addRim_97 (fun H locs hP hD hS => ?_)
            refine lv_imul hx hb dX1_addRim_100 ?_
            refine lv_iadd hx hb dX1_addRim_101 ?_
            obtain ⟨hi_30, hf⟩ := pe_in hf
            refine va_iast hx hb hK hP hD hS 1 0 rfl rfl hi_30 dX1_addRim_102 (fun H locs hP hD hS => ?_)
            have hP : va_P D xcl (wd_X1 a cyI cyJ (upd v1_table (Int32.toNatClampNeg ((y1 * (22 : Int32)) + y7)) ((v1_table (Int32.toNatClampNeg ((y1 * (22 : Int32)) + y7))) + (y4 * r_28))) v7_rows v7_lengths v7_sizes v7_rests v7_orders) H := hP
            have hD : va_D A (wd_X1 a cyI cyJ (upd v1_table (Int32.toNatClampNeg ((y1 * (22 : Int32)) + y7)) ((v1_table (Int32.toNatClampNeg ((y1 * (22 : Int32)) + y7))) + (y4 * r_28))) v7_rows v7_lengths v7_sizes v7_rests v7_orders) := hD
            refine lv_iinc (v := (y7 + (1 : Int32))) (lv' := [(7, .int (y7 + (1 : Int32))), (0, .ref (a 13)), (1, .int y1), (2, .int y2), (3, .int y3), (4, .int y4), (5, .int y5), (6, .int y6)]) hx hb dX1_addRim_103 hl (k := 7) rfl rfl (by decide) rfl (fun ls hl => ?_)
            refine lv_goto (tgt := 37) hx hb dX1_addRim_106 (by decide) ?_
            exact w_37 (upd v1_table (Int32.toNatClampNeg ((y1 * (22 : Int32)) + y7)) ((v1_table (Int32.toNatClampNeg ((y1 * (22 : Int32)) + y7))) + (y4 * r_28))) y1 y2 y3 y4 y5 y6 (y7 + (1 : Int32)) H locs ls hf hP hD hS (lv_sub hl [1, 2, 3, 4, 5, 6, 7, 0] rfl)
  refine lv_aload_n hx hb dX1_addRim_0 rfl (lv_at hl 0 rfl) ?_
  refine va_get (ci := 1) (v := .ref (a 2)) hx hb hts wX1_in hown hK hP 0 rfl rfl 0 (by decide) (hts _ mw_1_193) (fun _ h9 => h9) rfl dX1_addRim_1 ?_
  refine lv_aload_n hx hb dX1_addRim_4 rfl (lv_at hl 0 rfl) ?_
  refine va_get (ci := 1) (v := .ref (a 2)) hx hb hts wX1_in hown hK hP 0 rfl rfl 0 (by decide) (hts _ mw_1_193) (fun _ h9 => h9) rfl dX1_addRim_5 ?_
  refine lv_iload_n hx hb dX1_addRim_8 rfl (lv_at hl 1 rfl) ?_
  obtain ⟨r_31, hk_32, hf⟩ := pe_1 hf
  refine xv_i (As := [.int x1]) (rest := [.ref (a 2)]) (q0 := 0) (ci := 7) Cx hP hD hS hl (pl_X1_X7 a cyI cyJ v1_table v7_rows v7_lengths v7_sizes v7_rests v7_orders v7_rows v7_lengths v7_sizes v7_rests v7_orders) (c_X7_sizeOf l D cyI cyJ G a H.size v7_rows v7_lengths v7_sizes v7_rests v7_orders x1 r_31 hk_32) pk_X7_sizeOf mw_1_156 ⟨rfl, rfl, Nat.le_of_ble_eq_true rfl, Nat.le_of_ble_eq_true rfl⟩ rfl rfl rfl rfl rfl (Nat.le_of_ble_eq_true rfl) ⟨Nat.le_of_ble_eq_true rfl, Nat.le_of_ble_eq_true rfl⟩ dX1_addRim_9 (fun H locs hP hD hS => ?_)
  obtain ⟨r_33, hk_34, hf⟩ := pe_1 hf
  refine xv_i (As := [.int r_31]) (rest := []) (q0 := 0) (ci := 7) Cx hP hD hS hl (pl_X1_X7 a cyI cyJ v1_table v7_rows v7_lengths v7_sizes v7_rests v7_orders v7_rows v7_lengths v7_sizes v7_rests v7_orders) (c_X7_firstOf l D cyI cyJ G a H.size v7_rows v7_lengths v7_sizes v7_rests v7_orders r_31 r_33 hk_34) pk_X7_firstOf mw_1_173 ⟨rfl, rfl, Nat.le_of_ble_eq_true rfl, Nat.le_of_ble_eq_true rfl⟩ rfl rfl rfl rfl rfl (Nat.le_of_ble_eq_true rfl) ⟨Nat.le_of_ble_eq_true rfl, Nat.le_of_ble_eq_true rfl⟩ dX1_addRim_12 (fun H locs hP hD hS => ?_)
  refine lv_istore (lv' := [(5, .int r_33), (0, .ref (a 13)), (1, .int x1), (2, .int x2), (3, .int x3), (4, .int x4)]) hx hb dX1_addRim_15 hl (by decide) rfl (fun ls hl => ?_)
  refine lv_aload_n hx hb dX1_addRim_17 rfl (lv_at hl 1 rfl) ?_
  refine va_get (ci := 1) (v := .ref (a 2)) hx hb hts wX1_in hown hK hP 0 rfl rfl 0 (by decide) (hts _ mw_1_193) (fun _ h9 => h9) rfl dX1_addRim_18 ?_
  refine lv_aload_n hx hb dX1_addRim_21 rfl (lv_at hl 1 rfl) ?_
  refine va_get (ci := 1) (v := .ref (a 2)) hx hb hts wX1_in hown hK hP 0 rfl rfl 0 (by decide) (hts _ mw_1_193) (fun _ h9 => h9) rfl dX1_addRim_22 ?_
  refine lv_iload_n hx hb dX1_addRim_25 rfl (lv_at hl 2 rfl) ?_
  obtain ⟨r_35, hk_36, hf⟩ := pe_1 hf
  refine xv_i (As := [.int x1]) (rest := [.ref (a 2)]) (q0 := 0) (ci := 7) Cx hP hD hS hl (pl_X1_X7 a cyI cyJ v1_table v7_rows v7_lengths v7_sizes v7_rests v7_orders v7_rows v7_lengths v7_sizes v7_rests v7_orders) (c_X7_sizeOf l D cyI cyJ G a H.size v7_rows v7_lengths v7_sizes v7_rests v7_orders x1 r_35 hk_36) pk_X7_sizeOf mw_1_156 ⟨rfl, rfl, Nat.le_of_ble_eq_true rfl, Nat.le_of_ble_eq_true rfl⟩ rfl rfl rfl rfl rfl (Nat.le_of_ble_eq_true rfl) ⟨Nat.le_of_ble_eq_true rfl, Nat.le_of_ble_eq_true rfl⟩ dX1_addRim_26 (fun H locs hP hD hS => ?_)
  obtain ⟨r_37, hk_38, hf⟩ := pe_1 hf
  refine xv_i (As := [.int r_35]) (rest := []) (q0 := 0) (ci := 7) Cx hP hD hS hl (pl_X1_X7 a cyI cyJ v1_table v7_rows v7_lengths v7_sizes v7_rests v7_orders v7_rows v7_lengths v7_sizes v7_rests v7_orders) (c_X7_countOf l D cyI cyJ G a H.size v7_rows v7_lengths v7_sizes v7_rests v7_orders r_35 r_37 hk_38) pk_X7_countOf mw_1_174 ⟨rfl, rfl, Nat.le_of_ble_eq_true rfl, Nat.le_of_ble_eq_true rfl⟩ rfl rfl rfl rfl rfl (Nat.le_of_ble_eq_true rfl) ⟨Nat.le_of_ble_eq_true rfl, Nat.le_of_ble_eq_true rfl⟩ dX1_addRim_29 (fun H locs hP hD hS => ?_)
  refine lv_istore (lv' := [(6, .int r_37), (5, .int r_33), (0, .ref (a 13)), (1, .int x1), (2, .int x2), (3, .int x3), (4, .int x4)]) hx hb dX1_addRim_32 hl (by decide) rfl (fun ls hl => ?_)
  refine lv_iconst (v := (0 : Int32)) hx hb dX1_addRim_34 (by decide) ?_
  refine lv_istore (lv' := [(7, .int (0 : Int32)), (6, .int r_37), (5, .int r_33), (0, .ref (a 13)), (1, .int x1), (2, .int x2), (3, .int x3), (4, .int x4)]) hx hb dX1_addRim_35 hl (by decide) rfl (fun ls hl => ?_)
  exact w_37 1000 v1_table x1 x2 x3 x4 r_33 r_37 (0 : Int32) H locs ls hf hP hD hS (lv_sub hl [3, 4, 5, 6, 7, 2, 1, 0] rfl)
