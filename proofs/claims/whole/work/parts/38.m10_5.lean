def f_X10_image (v10_sum : Nat → Int32) (v10_coefficient : Nat → Int32) (v10_wasSum : Nat → Int32) (v10_wasCoefficient : Nat → Int32) (v10_hasImage : Int32) : Option (Int32 × (Nat → Int32) × (Nat → Int32) × Int32) := p_b2 (f_X10_keeps v10_sum v10_coefficient v10_wasSum v10_wasCoefficient (8 : Int32)) (fun v10_wasSum_1 v10_wasCoefficient_2 => p_b1 (f_X10_there v10_sum) (fun r_4 => some (r_4, v10_wasSum_1, v10_wasCoefficient_2, (1 : Int32))))
set_option maxHeartbeats 4000000 in
set_option maxRecDepth 20000 in
theorem c_X10_image (l : Launch) (D : va_G) (cyI cyJ : ClassId) (G a : Nat → Nat) (sz : Nat) (v10_firstOf : Nat → Int32) (v10_sizeOf : Nat → Int32) (v10_longOf : Nat → Int32) (v10_row : Nat → Int32) (v10_character : Nat → Int32) (v10_sum : Nat → Int32) (v10_coefficient : Nat → Int32) (v10_undone : Int32) (v10_wasSum : Nat → Int32) (v10_wasCoefficient : Nat → Int32) (v10_hasImage : Int32) (v10_letter : Nat → Int32) (v10_letters : Int32) (v10_list : Nat → Int32) (v10_cell : Nat → Int32) (v10_refusals : Nat → Int32) (v10_tried : Nat → Int32) (v10_left : Int32) (v10_high : Int32) (v10_then : Nat → Int64) (v10_at : Int32) (v10_readSize : Int32) (ro : Int32) (ov10_wasSum : Nat → Int32) (ov10_wasCoefficient : Nat → Int32) (ov10_hasImage : Int32) (hf : f_X10_image v10_sum v10_coefficient v10_wasSum v10_wasCoefficient v10_hasImage = some (ro, ov10_wasSum, ov10_wasCoefficient, ov10_hasImage)) : xm_i l yX10_image (Cond.code yX10_image cX10_image 1 (some .int) :: xg_tbl) { frames := 1, cells := 0, slots := 0, locals := 22 } D xcl [(cyI, .int), (cyJ, .long)] G sz [.ref (a 28)] (wd_X10 a cyI cyJ v10_firstOf v10_sizeOf v10_longOf v10_row v10_character v10_sum v10_coefficient v10_undone v10_wasSum v10_wasCoefficient v10_hasImage v10_letter v10_letters v10_list v10_cell v10_refusals v10_tried v10_left v10_high v10_then v10_at v10_readSize) (wd_X10 a cyI cyJ v10_firstOf v10_sizeOf v10_longOf v10_row v10_character v10_sum v10_coefficient v10_undone ov10_wasSum ov10_wasCoefficient ov10_hasImage v10_letter v10_letters v10_list v10_cell v10_refusals v10_tried v10_left v10_high v10_then v10_at v10_readSize) ro := by
  refine xm_of_i (own := RX10) (by decide) rfl rfl (Nat.le_of_ble_eq_true rfl) ?_
  intro p e s m args below meth c ls Q A hQ hAe hin Cx hsz hP hD hS hl
  have Cx1 := Cx
  obtain ⟨⟨hx, hb, hml, hown, hts⟩, hr, hlocks, hK, hA, hT⟩ := Cx1
  have hl : lv_has ls 1 [(0, .ref (a 28))] := hl
  obtain ⟨H, eH⟩ : ∃ H, H = s.heap := ⟨_, rfl⟩
  obtain ⟨locs, eL⟩ : ∃ L : List Loc, L = [] := ⟨_, rfl⟩
  rw [← eH] at hP
  have hS : va_S A s.heap H locs := by rw [eH, eL]; exact hS
  suffices hgo : W p l e { frames := 1, cells := 0, slots := 0, locals := 22 } s m args below meth c H locs 0 0 Q (F0 m 0 ls []) by rw [eH, eL] at hgo; exact hgo
  clear eH eL
  unfold f_X10_image at hf
  refine lv_aload_n hx hb dX10_image_0 rfl (lv_at hl 0 rfl) ?_
  refine lv_iconst (v := (1 : Int32)) hx hb dX10_image_1 (by decide) ?_
  refine va_put (ci := 10) (v := .int (1 : Int32)) (ty := .boolean) hx hb hts wX10_in tyX10 tyX10_ok nmX10 hown hK hP hD hS 0 rfl rfl 10 (by decide) (hts _ mw_4_202) (fun _ h9 => h9) rfl (by decide +kernel) rfl rfl (Nat.le_of_ble_eq_true rfl) dX10_image_2 (fun H locs hP hD hS => ?_)
  have hP : va_P D xcl (wd_X10 a cyI cyJ v10_firstOf v10_sizeOf v10_longOf v10_row v10_character v10_sum v10_coefficient v10_undone v10_wasSum v10_wasCoefficient (1 : Int32) v10_letter v10_letters v10_list v10_cell v10_refusals v10_tried v10_left v10_high v10_then v10_at v10_readSize) H := hP
  have hD : va_D A (wd_X10 a cyI cyJ v10_firstOf v10_sizeOf v10_longOf v10_row v10_character v10_sum v10_coefficient v10_undone v10_wasSum v10_wasCoefficient (1 : Int32) v10_letter v10_letters v10_list v10_cell v10_refusals v10_tried v10_left v10_high v10_then v10_at v10_readSize) := hD
  refine lv_aload_n hx hb dX10_image_5 rfl (lv_at hl 0 rfl) ?_
  refine lv_bipush (v := (8 : Int32)) hx hb dX10_image_6 (by decide) ?_
  obtain ⟨v10_wasSum_6, v10_wasCoefficient_7, hk_8, hf⟩ := pe_2 hf
  refine xv_v (As := [.int (8 : Int32)]) (rest := []) (q0 := 0) (ci := 10) Cx hP hD hS hl (pl_X10_X10 a cyI cyJ v10_firstOf v10_sizeOf v10_longOf v10_row v10_character v10_sum v10_coefficient v10_undone v10_wasSum v10_wasCoefficient (1 : Int32) v10_letter v10_letters v10_list v10_cell v10_refusals v10_tried v10_left v10_high v10_then v10_at v10_readSize v10_firstOf v10_sizeOf v10_longOf v10_row v10_character v10_sum v10_coefficient v10_undone v10_wasSum_6 v10_wasCoefficient_7 (1 : Int32) v10_letter v10_letters v10_list v10_cell v10_refusals v10_tried v10_left v10_high v10_then v10_at v10_readSize) (c_X10_keeps l D cyI cyJ G a H.size v10_firstOf v10_sizeOf v10_longOf v10_row v10_character v10_sum v10_coefficient v10_undone v10_wasSum v10_wasCoefficient (1 : Int32) v10_letter v10_letters v10_list v10_cell v10_refusals v10_tried v10_left v10_high v10_then v10_at v10_readSize (8 : Int32) v10_wasSum_6 v10_wasCoefficient_7 hk_8) pk_X10_keeps mw_5_181 ⟨rfl, rfl, Nat.le_of_ble_eq_true rfl, Nat.le_of_ble_eq_true rfl⟩ rfl rfl rfl rfl rfl (Nat.le_of_ble_eq_true rfl) ⟨Nat.le_of_ble_eq_true rfl, Nat.le_of_ble_eq_true rfl⟩ dX10_image_8 (fun H locs hP hD hS => ?_)
  refine lv_aload_n hx hb dX10_image_11 rfl (lv_at hl 0 rfl) ?_
  obtain ⟨r_9, hk_10, hf⟩ := pe_1 hf
  refine xv_i (As := []) (rest := []) (q0 := 0) (ci := 10) Cx hP hD hS hl (pl_X10_X10 a cyI cyJ v10_firstOf v10_sizeOf v10_longOf v10_row v10_character v10_sum v10_coefficient v10_undone v10_wasSum_6 v10_wasCoefficient_7 (1 : Int32) v10_letter v10_letters v10_list v10_cell v10_refusals v10_tried v10_left v10_high v10_then v10_at v10_readSize v10_firstOf v10_sizeOf v10_longOf v10_row v10_character v10_sum v10_coefficient v10_undone v10_wasSum_6 v10_wasCoefficient_7 (1 : Int32) v10_letter v10_letters v10_list v10_cell v10_refusals v10_tried v10_left v10_high v10_then v10_at v10_readSize) (c_X10_there l D cyI cyJ G a H.size v10_firstOf v10_sizeOf v10_longOf v10_row v10_character v10_sum v10_coefficient v10_undone v10_wasSum_6 v10_wasCoefficient_7 (1 : Int32) v10_letter v10_letters v10_list v10_cell v10_refusals v10_tried v10_left v10_high v10_then v10_at v10_readSize r_9 hk_10) pk_X10_there mw_6_29 ⟨rfl, rfl, Nat.le_of_ble_eq_true rfl, Nat.le_of_ble_eq_true rfl⟩ rfl rfl rfl rfl rfl (Nat.le_of_ble_eq_true rfl) ⟨Nat.le_of_ble_eq_true rfl, Nat.le_of_ble_eq_true rfl⟩ dX10_image_12 (fun H locs hP hD hS => ?_)
  obtain ⟨rfl, rfl, rfl, rfl⟩ := po_4 hf
  rw [← hQ]; exact xe_iret Cx rfl hP hD hS dX10_image_15
def f_X10_on (v10_sum : Nat → Int32) (v10_coefficient : Nat → Int32) (v10_undone : Int32) (v10_wasSum : Nat → Int32) (v10_wasCoefficient : Nat → Int32) (v10_hasImage : Int32) (v10_refusals : Nat → Int32) : Option (Int32 × (Nat → Int32) × (Nat → Int32) × Int32 × (Nat → Int32)) := if v10_hasImage = 0 then (p_b2 (f_X10_refused v10_refusals (-3 : Int32)) (fun r_7 v10_refusals_8 => some (r_7, v10_sum, v10_coefficient, v10_undone, v10_refusals_8))) else (p_b2 (f_X10_laysBack v10_sum v10_coefficient v10_wasSum v10_wasCoefficient (8 : Int32)) (fun v10_sum_2 v10_coefficient_3 => p_b1 (f_X10_there v10_sum_2) (fun r_5 => some (r_5, v10_sum_2, v10_coefficient_3, (0 : Int32), v10_refusals))))
set_option maxHeartbeats 4000000 in
set_option maxRecDepth 20000 in
theorem c_X10_on (l : Launch) (D : va_G) (cyI cyJ : ClassId) (G a : Nat → Nat) (sz : Nat) (v10_firstOf : Nat → Int32) (v10_sizeOf : Nat → Int32) (v10_longOf : Nat → Int32) (v10_row : Nat → Int32) (v10_character : Nat → Int32) (v10_sum : Nat → Int32) (v10_coefficient : Nat → Int32) (v10_undone : Int32) (v10_wasSum : Nat → Int32) (v10_wasCoefficient : Nat → Int32) (v10_hasImage : Int32) (v10_letter : Nat → Int32) (v10_letters : Int32) (v10_list : Nat → Int32) (v10_cell : Nat → Int32) (v10_refusals : Nat → Int32) (v10_tried : Nat → Int32) (v10_left : Int32) (v10_high : Int32) (v10_then : Nat → Int64) (v10_at : Int32) (v10_readSize : Int32) (ro : Int32) (ov10_sum : Nat → Int32) (ov10_coefficient : Nat → Int32) (ov10_undone : Int32) (ov10_refusals : Nat → Int32) (hf : f_X10_on v10_sum v10_coefficient v10_undone v10_wasSum v10_wasCoefficient v10_hasImage v10_refusals = some (ro, ov10_sum, ov10_coefficient, ov10_undone, ov10_refusals)) : xm_i l yX10_on (Cond.code yX10_on cX10_on 1 (some .int) :: xg_tbl) { frames := 1, cells := 0, slots := 0, locals := 22 } D xcl [(cyI, .int), (cyJ, .long)] G sz [.ref (a 28)] (wd_X10 a cyI cyJ v10_firstOf v10_sizeOf v10_longOf v10_row v10_character v10_sum v10_coefficient v10_undone v10_wasSum v10_wasCoefficient v10_hasImage v10_letter v10_letters v10_list v10_cell v10_refusals v10_tried v10_left v10_high v10_then v10_at v10_readSize) (wd_X10 a cyI cyJ v10_firstOf v10_sizeOf v10_longOf v10_row v10_character ov10_sum ov10_coefficient ov10_undone v10_wasSum v10_wasCoefficient v10_hasImage v10_letter v10_letters v10_list v10_cell ov10_refusals v10_tried v10_left v10_high v10_then v10_at v10_readSize) ro := by
  refine xm_of_i (own := RX10) (by decide) rfl rfl (Nat.le_of_ble_eq_true rfl) ?_
  intro p e s m args below meth c ls Q A hQ hAe hin Cx hsz hP hD hS hl
  have Cx1 := Cx
  obtain ⟨⟨hx, hb, hml, hown, hts⟩, hr, hlocks, hK, hA, hT⟩ := Cx1
  have hl : lv_has ls 1 [(0, .ref (a 28))] := hl
  obtain ⟨H, eH⟩ : ∃ H, H = s.heap := ⟨_, rfl⟩
  obtain ⟨locs, eL⟩ : ∃ L : List Loc, L = [] := ⟨_, rfl⟩
  rw [← eH] at hP
  have hS : va_S A s.heap H locs := by rw [eH, eL]; exact hS
  suffices hgo : W p l e { frames := 1, cells := 0, slots := 0, locals := 22 } s m args below meth c H locs 0 0 Q (F0 m 0 ls []) by rw [eH, eL] at hgo; exact hgo
  clear eH eL
  unfold f_X10_on at hf
  refine lv_aload_n hx hb dX10_on_0 rfl (lv_at hl 0 rfl) ?_
  refine va_get (ci := 10) (v := .int v10_hasImage) hx hb hts wX10_in hown hK hP 0 rfl rfl 10 (by decide) (hts _ mw_4_202) (fun _ h9 => h9) rfl dX10_on_1 ?_
  refine lv_if_ne (tgt := 14) hx hb dX10_on_4 (by decide) (fun hc_10 => ?_) (fun hc_10 => ?_)
  · have hf := pe_f hf hc_10
    refine lv_aload_n hx hb dX10_on_14 rfl (lv_at hl 0 rfl) ?_
    refine lv_bipush (v := (8 : Int32)) hx hb dX10_on_15 (by decide) ?_
    obtain ⟨v10_sum_11, v10_coefficient_12, hk_13, hf⟩ := pe_2 hf
    refine xv_v (As := [.int (8 : Int32)]) (rest := []) (q0 := 0) (ci := 10) Cx hP hD hS hl (pl_X10_X10 a cyI cyJ v10_firstOf v10_sizeOf v10_longOf v10_row v10_character v10_sum v10_coefficient v10_undone v10_wasSum v10_wasCoefficient v10_hasImage v10_letter v10_letters v10_list v10_cell v10_refusals v10_tried v10_left v10_high v10_then v10_at v10_readSize v10_firstOf v10_sizeOf v10_longOf v10_row v10_character v10_sum_11 v10_coefficient_12 v10_undone v10_wasSum v10_wasCoefficient v10_hasImage v10_letter v10_letters v10_list v10_cell v10_refusals v10_tried v10_left v10_high v10_then v10_at v10_readSize) (c_X10_laysBack l D cyI cyJ G a H.size v10_firstOf v10_sizeOf v10_longOf v10_row v10_character v10_sum v10_coefficient v10_undone v10_wasSum v10_wasCoefficient v10_hasImage v10_letter v10_letters v10_list v10_cell v10_refusals v10_tried v10_left v10_high v10_then v10_at v10_readSize (8 : Int32) v10_sum_11 v10_coefficient_12 hk_13) pk_X10_laysBack mw_6_21 ⟨rfl, rfl, Nat.le_of_ble_eq_true rfl, Nat.le_of_ble_eq_true rfl⟩ rfl rfl rfl rfl rfl (Nat.le_of_ble_eq_true rfl) ⟨Nat.le_of_ble_eq_true rfl, Nat.le_of_ble_eq_true rfl⟩ dX10_on_17 (fun H locs hP hD hS => ?_)
    refine lv_aload_n hx hb dX10_on_20 rfl (lv_at hl 0 rfl) ?_
    refine lv_iconst (v := (0 : Int32)) hx hb dX10_on_21 (by decide) ?_
    refine va_put (ci := 10) (v := .int (0 : Int32)) (ty := .int) hx hb hts wX10_in tyX10 tyX10_ok nmX10 hown hK hP hD hS 0 rfl rfl 7 (by decide) (hts _ mw_4_199) (fun _ h9 => h9) rfl (by decide +kernel) rfl rfl (Nat.le_of_ble_eq_true rfl) dX10_on_22 (fun H locs hP hD hS => ?_)
    have hP : va_P D xcl (wd_X10 a cyI cyJ v10_firstOf v10_sizeOf v10_longOf v10_row v10_character v10_sum_11 v10_coefficient_12 (0 : Int32) v10_wasSum v10_wasCoefficient v10_hasImage v10_letter v10_letters v10_list v10_cell v10_refusals v10_tried v10_left v10_high v10_then v10_at v10_readSize) H := hP
    have hD : va_D A (wd_X10 a cyI cyJ v10_firstOf v10_sizeOf v10_longOf v10_row v10_character v10_sum_11 v10_coefficient_12 (0 : Int32) v10_wasSum v10_wasCoefficient v10_hasImage v10_letter v10_letters v10_list v10_cell v10_refusals v10_tried v10_left v10_high v10_then v10_at v10_readSize) := hD
    refine lv_aload_n hx hb dX10_on_25 rfl (lv_at hl 0 rfl) ?_
    obtain ⟨r_14, hk_15, hf⟩ := pe_1 hf
    refine xv_i (As := []) (rest := []) (q0 := 0) (ci := 10) Cx hP hD hS hl (pl_X10_X10 a cyI cyJ v10_firstOf v10_sizeOf v10_longOf v10_row v10_character v10_sum_11 v10_coefficient_12 (0 : Int32) v10_wasSum v10_wasCoefficient v10_hasImage v10_letter v10_letters v10_list v10_cell v10_refusals v10_tried v10_left v10_high v10_then v10_at v10_readSize v10_firstOf v10_sizeOf v10_longOf v10_row v10_character v10_sum_11 v10_coefficient_12 (0 : Int32) v10_wasSum v10_wasCoefficient v10_hasImage v10_letter v10_letters v10_list v10_cell v10_refusals v10_tried v10_left v10_high v10_then v10_at v10_readSize) (c_X10_there l D cyI cyJ G a H.size v10_firstOf v10_sizeOf v10_longOf v10_row v10_character v10_sum_11 v10_coefficient_12 (0 : Int32) v10_wasSum v10_wasCoefficient v10_hasImage v10_letter v10_letters v10_list v10_cell v10_refusals v10_tried v10_left v10_high v10_then v10_at v10_readSize r_14 hk_15) pk_X10_there mw_6_29 ⟨rfl, rfl, Nat.le_of_ble_eq_true rfl, Nat.le_of_ble_eq_true rfl⟩ rfl rfl rfl rfl rfl (Nat.le_of_ble_eq_true rfl) ⟨Nat.le_of_ble_eq_true rfl, Nat.le_of_ble_eq_true rfl⟩ dX10_on_26 (fun H locs hP hD hS => ?_)
    obtain ⟨rfl, rfl, rfl, rfl, rfl⟩ := po_5 hf
    rw [← hQ]; exact xe_iret Cx rfl hP hD hS dX10_on_29
  · have hf := pe_t hf hc_10
    refine lv_aload_n hx hb dX10_on_7 rfl (lv_at hl 0 rfl) ?_
    refine lv_bipush (v := (-3 : Int32)) hx hb dX10_on_8 (by decide) ?_
    obtain ⟨r_16, v10_refusals_17, hk_18, hf⟩ := pe_2 hf
    refine xv_i (As := [.int (-3 : Int32)]) (rest := []) (q0 := 0) (ci := 10) Cx hP hD hS hl (pl_X10_X10 a cyI cyJ v10_firstOf v10_sizeOf v10_longOf v10_row v10_character v10_sum v10_coefficient v10_undone v10_wasSum v10_wasCoefficient v10_hasImage v10_letter v10_letters v10_list v10_cell v10_refusals v10_tried v10_left v10_high v10_then v10_at v10_readSize v10_firstOf v10_sizeOf v10_longOf v10_row v10_character v10_sum v10_coefficient v10_undone v10_wasSum v10_wasCoefficient v10_hasImage v10_letter v10_letters v10_list v10_cell v10_refusals_17 v10_tried v10_left v10_high v10_then v10_at v10_readSize) (c_X10_refused l D cyI cyJ G a H.size v10_firstOf v10_sizeOf v10_longOf v10_row v10_character v10_sum v10_coefficient v10_undone v10_wasSum v10_wasCoefficient v10_hasImage v10_letter v10_letters v10_list v10_cell v10_refusals v10_tried v10_left v10_high v10_then v10_at v10_readSize (-3 : Int32) r_16 v10_refusals_17 hk_18) pk_X10_refused mw_5_29 ⟨rfl, rfl, Nat.le_of_ble_eq_true rfl, Nat.le_of_ble_eq_true rfl⟩ rfl rfl rfl rfl rfl (Nat.le_of_ble_eq_true rfl) ⟨Nat.le_of_ble_eq_true rfl, Nat.le_of_ble_eq_true rfl⟩ dX10_on_10 (fun H locs hP hD hS => ?_)
    obtain ⟨rfl, rfl, rfl, rfl, rfl⟩ := po_5 hf
    rw [← hQ]; exact xe_iret Cx rfl hP hD hS dX10_on_13
def gf_X10_count_66 (K_66 : Int32 → Int32 → Option (Int32)) (v10_firstOf : Nat → Int32) (v10_sum : Nat → Int32) (v10_coefficient : Nat → Int32) (v10_undone : Int32) (v10_letters : Int32) (v10_refusals : Nat → Int32) (y2 : Int32) (y3 : Int32) : Option (Int32) := if (4 : Int32) ≤ y3 then (some (y2)) else (p_b1 (f_X10_terms v10_firstOf v10_sum v10_coefficient y3) (fun r_2 => K_66 (y2 + r_2) (y3 + (1 : Int32))))
def f_X10_count_66 (v10_firstOf : Nat → Int32) (v10_sum : Nat → Int32) (v10_coefficient : Nat → Int32) (v10_undone : Int32) (v10_letters : Int32) (v10_refusals : Nat → Int32) : Nat → Int32 → Int32 → Option (Int32)
  | 0 => fun _ _ => none
  | n + 1 => gf_X10_count_66 (f_X10_count_66 v10_firstOf v10_sum v10_coefficient v10_undone v10_letters v10_refusals n) v10_firstOf v10_sum v10_coefficient v10_undone v10_letters v10_refusals
def f_X10_count (v10_firstOf : Nat → Int32) (v10_sum : Nat → Int32) (v10_coefficient : Nat → Int32) (v10_undone : Int32) (v10_letters : Int32) (v10_refusals : Nat → Int32) (x1 : Int32) : Option (Int32) := p_b1 (f_X10_in x1 (11 : Int32) (16 : Int32)) (fun r_4 => if r_4 = 0 then (if x1 = (0 : Int32) then (p_b1 (f_X10_there v10_sum) (fun r_9 => some (r_9))) else (if x1 = (1 : Int32) then (some (v10_letters)) else (if x1 = (2 : Int32) then ((f_X10_count_66 v10_firstOf v10_sum v10_coefficient v10_undone v10_letters v10_refusals 1000) (0 : Int32) (0 : Int32)) else (if x1 = (3 : Int32) then (some (v10_undone)) else (some ((-9 : Int32))))))) else (p_in (x1 - (10 : Int32)) 7 (some ((v10_refusals (Int32.toNatClampNeg (x1 - (10 : Int32))))))))
set_option maxHeartbeats 4000000 in
set_option maxRecDepth 20000 in
theorem c_X10_count (l : Launch) (D : va_G) (cyI cyJ : ClassId) (G a : Nat → Nat) (sz : Nat) (v10_firstOf : Nat → Int32) (v10_sizeOf : Nat → Int32) (v10_longOf : Nat → Int32) (v10_row : Nat → Int32) (v10_character : Nat → Int32) (v10_sum : Nat → Int32) (v10_coefficient : Nat → Int32) (v10_undone : Int32) (v10_wasSum : Nat → Int32) (v10_wasCoefficient : Nat → Int32) (v10_hasImage : Int32) (v10_letter : Nat → Int32) (v10_letters : Int32) (v10_list : Nat → Int32) (v10_cell : Nat → Int32) (v10_refusals : Nat → Int32) (v10_tried : Nat → Int32) (v10_left : Int32) (v10_high : Int32) (v10_then : Nat → Int64) (v10_at : Int32) (v10_readSize : Int32) (x1 : Int32) (ro : Int32) (hf : f_X10_count v10_firstOf v10_sum v10_coefficient v10_undone v10_letters v10_refusals x1 = some ro) : xm_i l yX10_count (Cond.code yX10_count cX10_count 4 (some .int) :: xg_tbl) { frames := 2, cells := 0, slots := 0, locals := 44 } D xcl [(cyI, .int), (cyJ, .long)] G sz [.ref (a 28), .int x1] (wd_X10 a cyI cyJ v10_firstOf v10_sizeOf v10_longOf v10_row v10_character v10_sum v10_coefficient v10_undone v10_wasSum v10_wasCoefficient v10_hasImage v10_letter v10_letters v10_list v10_cell v10_refusals v10_tried v10_left v10_high v10_then v10_at v10_readSize) (wd_X10 a cyI cyJ v10_firstOf v10_sizeOf v10_longOf v10_row v10_character v10_sum v10_coefficient v10_undone v10_wasSum v10_wasCoefficient v10_hasImage v10_letter v10_letters v10_list v10_cell v10_refusals v10_tried v10_left v10_high v10_then v10_at v10_readSize) ro := by
  refine xm_of_i (own := RX10) (by decide) rfl rfl (Nat.le_of_ble_eq_true rfl) ?_
  intro p e s m args below meth c ls Q A hQ hAe hin Cx hsz hP hD hS hl
  have Cx1 := Cx
  obtain ⟨⟨hx, hb, hml, hown, hts⟩, hr, hlocks, hK, hA, hT⟩ := Cx1
  have hl : lv_has ls 4 [(0, .ref (a 28)), (1, .int x1)] := hl
  obtain ⟨H, eH⟩ : ∃ H, H = s.heap := ⟨_, rfl⟩
  obtain ⟨locs, eL⟩ : ∃ L : List Loc, L = [] := ⟨_, rfl⟩
  rw [← eH] at hP
  have hS : va_S A s.heap H locs := by rw [eH, eL]; exact hS
  suffices hgo : W p l e { frames := 2, cells := 0, slots := 0, locals := 44 } s m args below meth c H locs 0 0 Q (F0 m 0 ls []) by rw [eH, eL] at hgo; exact hgo
  clear eH eL
  unfold f_X10_count at hf
  have w_66 : ∀ (n_66 : Nat) (y2 : Int32) (y3 : Int32) (H : Heap) (locs : List Loc) (ls : Array Slot), (f_X10_count_66 v10_firstOf v10_sum v10_coefficient v10_undone v10_letters v10_refusals) n_66 y2 y3 = some ro → va_P D xcl (wd_X10 a cyI cyJ v10_firstOf v10_sizeOf v10_longOf v10_row v10_character v10_sum v10_coefficient v10_undone v10_wasSum v10_wasCoefficient v10_hasImage v10_letter v10_letters v10_list v10_cell v10_refusals v10_tried v10_left v10_high v10_then v10_at v10_readSize) H → va_D A (wd_X10 a cyI cyJ v10_firstOf v10_sizeOf v10_longOf v10_row v10_character v10_sum v10_coefficient v10_undone v10_wasSum v10_wasCoefficient v10_hasImage v10_letter v10_letters v10_list v10_cell v10_refusals v10_tried v10_left v10_high v10_then v10_at v10_readSize) → va_S A s.heap H locs → lv_has ls 4 [(0, .ref (a 28)), (2, .int y2), (3, .int y3)] → W p l e { frames := 2, cells := 0, slots := 0, locals := 44 } s m args below meth c H locs 0 0 Q (F0 m 66 ls []) := by
    intro n_66
    induction n_66 with
    | zero => intro y2 y3 H locs ls hf; exact absurd hf (by intro h9; cases h9)
    | succ n_66 w_66 =>
      intro y2 y3 H locs ls hf hP hD hS hl
      have hf : gf_X10_count_66 ((f_X10_count_66 v10_firstOf v10_sum v10_coefficient v10_undone v10_letters v10_refusals) n_66) v10_firstOf v10_sum v10_coefficient v10_undone v10_letters v10_refusals y2 y3 = some ro := hf
      unfold gf_X10_count_66 at hf
      refine lv_iload_n hx hb dX10_count_66 rfl (lv_at hl 2 rfl) ?_
      refine lv_iconst (v := (4 : Int32)) hx hb dX10_count_67 (by decide) ?_
      refine lv_icmp_ge (tgt := 85) hx hb dX10_count_68 (by decide) (fun hc_15 => ?_) (fun hc_15 => ?_)
      · have hf := pe_t hf hc_15
        refine lv_iload_n hx hb dX10_count_85 rfl (lv_at hl 1 rfl) ?_
        obtain rfl := po_1 hf
        rw [← hQ]; exact xe_iret Cx rfl hP hD hS dX10_count_86
      · have hf := pe_f hf hc_15
        refine lv_iload_n hx hb dX10_count_71 rfl (lv_at hl 1 rfl) ?_
        refine lv_aload_n hx hb dX10_count_72 rfl (lv_at hl 0 rfl) ?_
        refine lv_iload_n hx hb dX10_count_73 rfl (lv_at hl 2 rfl) ?_
        obtain ⟨r_16, hk_17, hf⟩ := pe_1 hf
        refine xv_i (As := [.int y3]) (rest := [.int y2]) (q0 := 0) (ci := 10) Cx hP hD hS hl (pl_X10_X10 a cyI cyJ v10_firstOf v10_sizeOf v10_longOf v10_row v10_character v10_sum v10_coefficient v10_undone v10_wasSum v10_wasCoefficient v10_hasImage v10_letter v10_letters v10_list v10_cell v10_refusals v10_tried v10_left v10_high v10_then v10_at v10_readSize v10_firstOf v10_sizeOf v10_longOf v10_row v10_character v10_sum v10_coefficient v10_undone v10_wasSum v10_wasCoefficient v10_hasImage v10_letter v10_letters v10_list v10_cell v10_refusals v10_tried v10_left v10_high v10_then v10_at v10_readSize) (c_X10_terms l D cyI cyJ G a H.size v10_firstOf v10_sizeOf v10_longOf v10_row v10_character v10_sum v10_coefficient v10_undone v10_wasSum v10_wasCoefficient v10_hasImage v10_letter v10_letters v10_list v10_cell v10_refusals v10_tried v10_left v10_high v10_then v10_at v10_readSize y3 r_16 hk_17) pk_X10_terms mw_5_185 ⟨rfl, rfl, Nat.le_of_ble_eq_true rfl, Nat.le_of_ble_eq_true rfl⟩ rfl rfl rfl rfl rfl (Nat.le_of_ble_eq_true rfl) ⟨Nat.le_of_ble_eq_true rfl, Nat.le_of_ble_eq_true rfl⟩ dX10_count_74 (fun H locs hP hD hS => ?_)
        refine lv_iadd hx hb dX10_count_77 ?_
        refine lv_istore_n (lv' := [(2, .int (y2 + r_16)), (0, .ref (a 28)), (3, .int y3)]) hx hb dX10_count_78 rfl hl (by decide) rfl (fun ls hl => ?_)
        refine lv_iinc (v := (y3 + (1 : Int32))) (lv' := [(3, .int (y3 + (1 : Int32))), (2, .int (y2 + r_16)), (0, .ref (a 28))]) hx hb dX10_count_79 hl (k := 2) rfl rfl (by decide) rfl (fun ls hl => ?_)
        refine lv_goto (tgt := 66) hx hb dX10_count_82 (by decide) ?_
        exact w_66 (y2 + r_16) (y3 + (1 : Int32)) H locs ls hf hP hD hS (lv_sub hl [2, 1, 0] rfl)
  refine lv_iload_n hx hb dX10_count_0 rfl (lv_at hl 1 rfl) ?_
  refine lv_bipush (v := (11 : Int32)) hx hb dX10_count_1 (by decide) ?_
  refine lv_bipush (v := (16 : Int32)) hx hb dX10_count_3 (by decide) ?_
  obtain ⟨r_18, hk_19, hf⟩ := pe_1 hf
  refine xw_z (As := [.int x1, .int (11 : Int32), .int (16 : Int32)]) (rest := []) Cx hP hD hS hl (xq_none _) (c_X10_in l D cyI cyJ G H.size x1 (11 : Int32) (16 : Int32) r_18 hk_19) pk_X10_in mw_5_26 ⟨rfl, rfl, Nat.le_of_ble_eq_true rfl, Nat.le_of_ble_eq_true rfl⟩ rfl rfl (Nat.le_of_ble_eq_true rfl) ⟨Nat.le_of_ble_eq_true rfl, Nat.le_of_ble_eq_true rfl⟩ dX10_count_5 (fun H locs hn_20 hP hD hS => ?_)
  refine lv_if_eq (tgt := 21) hx hb dX10_count_8 (by decide) (fun hc_21 => ?_) (fun hc_21 => ?_)
  · have hf := pe_t hf hc_21
    refine lv_iload_n hx hb dX10_count_21 rfl (lv_at hl 1 rfl) ?_
    by_cases hc_22 : x1 = (0 : Int32)
    · have hf := pe_t hf hc_22
      refine lv_tableIn (tgt := 52) hx hb dX10_count_22 (by rw [hc_22]; decide) (by rw [hc_22]; decide) (by rw [hc_22]; rfl) (by decide) ?_
      refine lv_aload_n hx hb dX10_count_52 rfl (lv_at hl 0 rfl) ?_
      obtain ⟨r_23, hk_24, hf⟩ := pe_1 hf
      refine xv_i (As := []) (rest := []) (q0 := 0) (ci := 10) Cx hP hD hS hl (pl_X10_X10 a cyI cyJ v10_firstOf v10_sizeOf v10_longOf v10_row v10_character v10_sum v10_coefficient v10_undone v10_wasSum v10_wasCoefficient v10_hasImage v10_letter v10_letters v10_list v10_cell v10_refusals v10_tried v10_left v10_high v10_then v10_at v10_readSize v10_firstOf v10_sizeOf v10_longOf v10_row v10_character v10_sum v10_coefficient v10_undone v10_wasSum v10_wasCoefficient v10_hasImage v10_letter v10_letters v10_list v10_cell v10_refusals v10_tried v10_left v10_high v10_then v10_at v10_readSize) (c_X10_there l D cyI cyJ G a H.size v10_firstOf v10_sizeOf v10_longOf v10_row v10_character v10_sum v10_coefficient v10_undone v10_wasSum v10_wasCoefficient v10_hasImage v10_letter v10_letters v10_list v10_cell v10_refusals v10_tried v10_left v10_high v10_then v10_at v10_readSize r_23 hk_24) pk_X10_there mw_6_29 ⟨rfl, rfl, Nat.le_of_ble_eq_true rfl, Nat.le_of_ble_eq_true rfl⟩ rfl rfl rfl rfl rfl (Nat.le_of_ble_eq_true rfl) ⟨Nat.le_of_ble_eq_true rfl, Nat.le_of_ble_eq_true rfl⟩ dX10_count_53 (fun H locs hP hD hS => ?_)
      obtain rfl := po_1 hf
      rw [← hQ]; exact xe_iret Cx rfl hP hD hS dX10_count_56
    · have hf := pe_f hf hc_22
      by_cases hc_25 : x1 = (1 : Int32)
      · have hf := pe_t hf hc_25
        refine lv_tableIn (tgt := 57) hx hb dX10_count_22 (by rw [hc_25]; decide) (by rw [hc_25]; decide) (by rw [hc_25]; rfl) (by decide) ?_
        refine lv_aload_n hx hb dX10_count_57 rfl (lv_at hl 0 rfl) ?_
        refine va_get (ci := 10) (v := .int v10_letters) hx hb hts wX10_in hown hK hP 0 rfl rfl 12 (by decide) (hts _ mw_4_204) (fun _ h9 => h9) rfl dX10_count_58 ?_
        obtain rfl := po_1 hf
        rw [← hQ]; exact xe_iret Cx rfl hP hD hS dX10_count_61
      · have hf := pe_f hf hc_25
        by_cases hc_26 : x1 = (2 : Int32)
        · have hf := pe_t hf hc_26
          refine lv_tableIn (tgt := 62) hx hb dX10_count_22 (by rw [hc_26]; decide) (by rw [hc_26]; decide) (by rw [hc_26]; rfl) (by decide) ?_
          refine lv_iconst (v := (0 : Int32)) hx hb dX10_count_62 (by decide) ?_
          refine lv_istore_n (lv' := [(2, .int (0 : Int32)), (0, .ref (a 28)), (1, .int x1)]) hx hb dX10_count_63 rfl hl (by decide) rfl (fun ls hl => ?_)
          refine lv_iconst (v := (0 : Int32)) hx hb dX10_count_64 (by decide) ?_
          refine lv_istore_n (lv' := [(3, .int (0 : Int32)), (2, .int (0 : Int32)), (0, .ref (a 28)), (1, .int x1)]) hx hb dX10_count_65 rfl hl (by decide) rfl (fun ls hl => ?_)
          exact w_66 1000 (0 : Int32) (0 : Int32) H locs ls hf hP hD hS (lv_sub hl [2, 1, 0] rfl)
        · have hf := pe_f hf hc_26
          by_cases hc_27 : x1 = (3 : Int32)
          · have hf := pe_t hf hc_27
            refine lv_tableIn (tgt := 87) hx hb dX10_count_22 (by rw [hc_27]; decide) (by rw [hc_27]; decide) (by rw [hc_27]; rfl) (by decide) ?_
            refine lv_aload_n hx hb dX10_count_87 rfl (lv_at hl 0 rfl) ?_
            refine va_get (ci := 10) (v := .int v10_undone) hx hb hts wX10_in hown hK hP 0 rfl rfl 7 (by decide) (hts _ mw_4_199) (fun _ h9 => h9) rfl dX10_count_88 ?_
            obtain rfl := po_1 hf
            rw [← hQ]; exact xe_iret Cx rfl hP hD hS dX10_count_91
          · have hf := pe_f hf hc_27
            have hc_22 : (x1).toInt ≠ 0 := xh_ne (by decide) hc_22
            have hc_25 : (x1).toInt ≠ 1 := xh_ne (by decide) hc_25
            have hc_26 : (x1).toInt ≠ 2 := xh_ne (by decide) hc_26
            have hc_27 : (x1).toInt ≠ 3 := xh_ne (by decide) hc_27
            refine lv_tableOut (tgt := 92) hx hb dX10_count_22 (by omega) (by decide) ?_
            refine lv_bipush (v := (-9 : Int32)) hx hb dX10_count_92 (by decide) ?_
            obtain rfl := po_1 hf
            rw [← hQ]; exact xe_iret Cx rfl hP hD hS dX10_count_94
  · have hf := pe_f hf hc_21
    refine lv_aload_n hx hb dX10_count_11 rfl (lv_at hl 0 rfl) ?_
    refine va_get (ci := 10) (v := .ref (a 41)) hx hb hts wX10_in hown hK hP 0 rfl rfl 15 (by decide) (hts _ mw_4_207) (fun _ h9 => h9) rfl dX10_count_12 ?_
    refine lv_iload_n hx hb dX10_count_15 rfl (lv_at hl 1 rfl) ?_
    refine lv_bipush (v := (10 : Int32)) hx hb dX10_count_16 (by decide) ?_
    refine lv_isub hx hb dX10_count_18 ?_
    obtain ⟨hi_28, hf⟩ := pe_in hf
    refine va_iald hx hb hK hP 13 0 rfl rfl hi_28 dX10_count_19 ?_
    obtain rfl := po_1 hf
    rw [← hQ]; exact xe_iret Cx rfl hP hD hS dX10_count_20
