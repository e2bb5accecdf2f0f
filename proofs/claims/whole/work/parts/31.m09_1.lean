def f_X9_canGrow (v7_sizes : Nat → Int32) (x1 : Int32) : Option (Int32) := p_b1 (f_X7_sizeOf v7_sizes x1) (fun r_1 => if (4 : Int32) < r_1 then (some ((0 : Int32))) else (some ((1 : Int32))))
set_option maxHeartbeats 4000000 in
set_option maxRecDepth 20000 in
theorem c_X9_canGrow (l : Launch) (D : va_G) (cyI cyJ : ClassId) (G a : Nat → Nat) (sz : Nat) (v9_refusals : Nat → Int32) (v7_rows : Nat → Int32) (v7_lengths : Nat → Int32) (v7_sizes : Nat → Int32) (v7_rests : Nat → Int32) (v7_orders : Nat → Int32) (v6_hooks : Nat → Int32) (v6_lefts : Nat → Int32) (v6_heights : Nat → Int32) (v1_table : Nat → Int32) (v5_known : Nat → Int32) (v8_sizes : Nat → Int32) (v8_coefficients : Nat → Int32) (v8_undoneSums : Nat → Int32) (v8_undos : Int32) (v8_nextUndo : Int32) (v8_imageTaken : Int32) (v0_totals : Nat → Int64) (v3_letters : Nat → Int32) (v3_count : Int32) (v3_next : Int32) (v3_size : Int32) (v4_values : Nat → Int32) (v4_lengths : Nat → Int32) (x1 : Int32) (ro : Int32) (hf : f_X9_canGrow v7_sizes x1 = some ro) : xm_z l yX9_canGrow (Cond.code yX9_canGrow cX9_canGrow 2 (some .boolean) :: xg_tbl) { frames := 2, cells := 0, slots := 0, locals := 42 } D xcl [(cyI, .int), (cyJ, .long)] G sz [.ref (a 0), .int x1] (wd_X9 a cyI cyJ v9_refusals v7_rows v7_lengths v7_sizes v7_rests v7_orders v6_hooks v6_lefts v6_heights v1_table v5_known v8_sizes v8_coefficients v8_undoneSums v8_undos v8_nextUndo v8_imageTaken v0_totals v3_letters v3_count v3_next v3_size v4_values v4_lengths) (wd_X9 a cyI cyJ v9_refusals v7_rows v7_lengths v7_sizes v7_rests v7_orders v6_hooks v6_lefts v6_heights v1_table v5_known v8_sizes v8_coefficients v8_undoneSums v8_undos v8_nextUndo v8_imageTaken v0_totals v3_letters v3_count v3_next v3_size v4_values v4_lengths) ro := by
  refine xm_of_z (own := RX9) (by decide) rfl rfl (Nat.le_of_ble_eq_true rfl) ?_
  intro p e s m args below meth c ls Q A hQ hAe hin Cx hsz hP hD hS hl
  have Cx1 := Cx
  obtain ⟨⟨hx, hb, hml, hown, hts⟩, hr, hlocks, hK, hA, hT⟩ := Cx1
  have hl : lv_has ls 2 [(0, .ref (a 0)), (1, .int x1)] := hl
  obtain ⟨H, eH⟩ : ∃ H, H = s.heap := ⟨_, rfl⟩
  obtain ⟨locs, eL⟩ : ∃ L : List Loc, L = [] := ⟨_, rfl⟩
  rw [← eH] at hP
  have hS : va_S A s.heap H locs := by rw [eH, eL]; exact hS
  suffices hgo : W p l e { frames := 2, cells := 0, slots := 0, locals := 42 } s m args below meth c H locs 0 0 Q (F0 m 0 ls []) by rw [eH, eL] at hgo; exact hgo
  clear eH eL
  unfold f_X9_canGrow at hf
  refine lv_aload_n hx hb dX9_canGrow_0 rfl (lv_at hl 0 rfl) ?_
  refine va_get (ci := 9) (v := .ref (a 2)) hx hb hts wX9_in hown hK hP 0 rfl rfl 0 (by decide) (hts _ mw_2_67) (fun _ h9 => h9) rfl dX9_canGrow_1 ?_
  refine lv_iload_n hx hb dX9_canGrow_4 rfl (lv_at hl 1 rfl) ?_
  obtain ⟨r_4, hk_5, hf⟩ := pe_1 hf
  refine xv_i (As := [.int x1]) (rest := []) (q0 := 0) (ci := 7) Cx hP hD hS hl (pl_X9_X7 a cyI cyJ v9_refusals v7_rows v7_lengths v7_sizes v7_rests v7_orders v6_hooks v6_lefts v6_heights v1_table v5_known v8_sizes v8_coefficients v8_undoneSums v8_undos v8_nextUndo v8_imageTaken v0_totals v3_letters v3_count v3_next v3_size v4_values v4_lengths v7_rows v7_lengths v7_sizes v7_rests v7_orders) (c_X7_sizeOf l D cyI cyJ G a H.size v7_rows v7_lengths v7_sizes v7_rests v7_orders x1 r_4 hk_5) pk_X7_sizeOf mw_2_108 ⟨rfl, rfl, Nat.le_of_ble_eq_true rfl, Nat.le_of_ble_eq_true rfl⟩ rfl rfl rfl rfl rfl (Nat.le_of_ble_eq_true rfl) ⟨Nat.le_of_ble_eq_true rfl, Nat.le_of_ble_eq_true rfl⟩ dX9_canGrow_5 (fun H locs hP hD hS => ?_)
  refine lv_iconst (v := (4 : Int32)) hx hb dX9_canGrow_8 (by decide) ?_
  refine lv_icmp_gt (tgt := 16) hx hb dX9_canGrow_9 (by decide) (fun hc_6 => ?_) (fun hc_6 => ?_)
  · have hf := pe_t hf hc_6
    refine lv_iconst (v := (0 : Int32)) hx hb dX9_canGrow_16 (by decide) ?_
    obtain rfl := po_1 hf
    rw [← hQ]; exact xe_zret Cx rfl rfl hP hD hS dX9_canGrow_17
  · have hf := pe_f hf hc_6
    refine lv_iconst (v := (1 : Int32)) hx hb dX9_canGrow_12 (by decide) ?_
    refine lv_goto (tgt := 17) hx hb dX9_canGrow_13 (by decide) ?_
    obtain rfl := po_1 hf
    rw [← hQ]; exact xe_zret Cx rfl rfl hP hD hS dX9_canGrow_17
def f_X9_grown (v9_refusals : Nat → Int32) (v7_rows : Nat → Int32) (v7_lengths : Nat → Int32) (v7_sizes : Nat → Int32) (x1 : Int32) (x2 : Int32) : Option (Int32 × (Nat → Int32)) := p_b1 (f_X7_has x1) (fun r_1 => if r_1 = 0 then (p_b2 (f_X9_refuse v9_refusals (-1 : Int32)) (fun r_22 v9_refusals_23 => some (r_22, v9_refusals_23))) else (if 0 ≤ x2 then (if x2 ≤ (8 : Int32) then (p_b1 (f_X9_canGrow v7_sizes x1) (fun r_7 => if r_7 = 0 then (p_b2 (f_X9_refuse v9_refusals (-3 : Int32)) (fun r_11 v9_refusals_12 => some (r_11, v9_refusals_12))) else (p_b1 (f_X7_grownTo v7_rows v7_lengths v7_sizes x1 x2) (fun r_14 => some (r_14, v9_refusals))))) else (p_b2 (f_X9_refuse v9_refusals (-6 : Int32)) (fun r_16 v9_refusals_17 => some (r_16, v9_refusals_17)))) else (p_b2 (f_X9_refuse v9_refusals (-4 : Int32)) (fun r_19 v9_refusals_20 => some (r_19, v9_refusals_20)))))
set_option maxHeartbeats 4000000 in
set_option maxRecDepth 20000 in
theorem c_X9_grown (l : Launch) (D : va_G) (cyI cyJ : ClassId) (G a : Nat → Nat) (sz : Nat) (v9_refusals : Nat → Int32) (v7_rows : Nat → Int32) (v7_lengths : Nat → Int32) (v7_sizes : Nat → Int32) (v7_rests : Nat → Int32) (v7_orders : Nat → Int32) (v6_hooks : Nat → Int32) (v6_lefts : Nat → Int32) (v6_heights : Nat → Int32) (v1_table : Nat → Int32) (v5_known : Nat → Int32) (v8_sizes : Nat → Int32) (v8_coefficients : Nat → Int32) (v8_undoneSums : Nat → Int32) (v8_undos : Int32) (v8_nextUndo : Int32) (v8_imageTaken : Int32) (v0_totals : Nat → Int64) (v3_letters : Nat → Int32) (v3_count : Int32) (v3_next : Int32) (v3_size : Int32) (v4_values : Nat → Int32) (v4_lengths : Nat → Int32) (x1 : Int32) (x2 : Int32) (ro : Int32) (ov9_refusals : Nat → Int32) (hf : f_X9_grown v9_refusals v7_rows v7_lengths v7_sizes x1 x2 = some (ro, ov9_refusals)) : xm_i l yX9_grown (Cond.code yX9_grown cX9_grown 3 (some .int) :: xg_tbl) { frames := 4, cells := 0, slots := 0, locals := 92 } D xcl [(cyI, .int), (cyJ, .long)] G sz [.ref (a 0), .int x1, .int x2] (wd_X9 a cyI cyJ v9_refusals v7_rows v7_lengths v7_sizes v7_rests v7_orders v6_hooks v6_lefts v6_heights v1_table v5_known v8_sizes v8_coefficients v8_undoneSums v8_undos v8_nextUndo v8_imageTaken v0_totals v3_letters v3_count v3_next v3_size v4_values v4_lengths) (wd_X9 a cyI cyJ ov9_refusals v7_rows v7_lengths v7_sizes v7_rests v7_orders v6_hooks v6_lefts v6_heights v1_table v5_known v8_sizes v8_coefficients v8_undoneSums v8_undos v8_nextUndo v8_imageTaken v0_totals v3_letters v3_count v3_next v3_size v4_values v4_lengths) ro := by
  refine xm_of_i (own := RX9) (by decide) rfl rfl (Nat.le_of_ble_eq_true rfl) ?_
  intro p e s m args below meth c ls Q A hQ hAe hin Cx hsz hP hD hS hl
  have Cx1 := Cx
  obtain ⟨⟨hx, hb, hml, hown, hts⟩, hr, hlocks, hK, hA, hT⟩ := Cx1
  have hl : lv_has ls 3 [(0, .ref (a 0)), (1, .int x1), (2, .int x2)] := hl
  obtain ⟨H, eH⟩ : ∃ H, H = s.heap := ⟨_, rfl⟩
  obtain ⟨locs, eL⟩ : ∃ L : List Loc, L = [] := ⟨_, rfl⟩
  rw [← eH] at hP
  have hS : va_S A s.heap H locs := by rw [eH, eL]; exact hS
  suffices hgo : W p l e { frames := 4, cells := 0, slots := 0, locals := 92 } s m args below meth c H locs 0 0 Q (F0 m 0 ls []) by rw [eH, eL] at hgo; exact hgo
  clear eH eL
  unfold f_X9_grown at hf
  refine lv_aload_n hx hb dX9_grown_0 rfl (lv_at hl 0 rfl) ?_
  refine va_get (ci := 9) (v := .ref (a 2)) hx hb hts wX9_in hown hK hP 0 rfl rfl 0 (by decide) (hts _ mw_2_67) (fun _ h9 => h9) rfl dX9_grown_1 ?_
  refine lv_iload_n hx hb dX9_grown_4 rfl (lv_at hl 1 rfl) ?_
  obtain ⟨r_25, hk_26, hf⟩ := pe_1 hf
  refine xv_z (As := [.int x1]) (rest := []) (q0 := 0) (ci := 7) Cx hP hD hS hl (pl_X9_X7 a cyI cyJ v9_refusals v7_rows v7_lengths v7_sizes v7_rests v7_orders v6_hooks v6_lefts v6_heights v1_table v5_known v8_sizes v8_coefficients v8_undoneSums v8_undos v8_nextUndo v8_imageTaken v0_totals v3_letters v3_count v3_next v3_size v4_values v4_lengths v7_rows v7_lengths v7_sizes v7_rests v7_orders) (c_X7_has l D cyI cyJ G a H.size v7_rows v7_lengths v7_sizes v7_rests v7_orders x1 r_25 hk_26) pk_X7_has mw_2_102 ⟨rfl, rfl, Nat.le_of_ble_eq_true rfl, Nat.le_of_ble_eq_true rfl⟩ rfl rfl rfl rfl rfl (Nat.le_of_ble_eq_true rfl) ⟨Nat.le_of_ble_eq_true rfl, Nat.le_of_ble_eq_true rfl⟩ dX9_grown_5 (fun H locs hn_27 hP hD hS => ?_)
  refine lv_if_ne (tgt := 17) hx hb dX9_grown_8 (by decide) (fun hc_28 => ?_) (fun hc_28 => ?_)
  · have hf := pe_f hf hc_28
    refine lv_iload_n hx hb dX9_grown_17 rfl (lv_at hl 2 rfl) ?_
    refine lv_if_ge (tgt := 28) hx hb dX9_grown_18 (by decide) (fun hc_29 => ?_) (fun hc_29 => ?_)
    · have hf := pe_t hf hc_29
      refine lv_iload_n hx hb dX9_grown_28 rfl (lv_at hl 2 rfl) ?_
      refine lv_bipush (v := (8 : Int32)) hx hb dX9_grown_29 (by decide) ?_
      refine lv_icmp_le (tgt := 41) hx hb dX9_grown_31 (by decide) (fun hc_30 => ?_) (fun hc_30 => ?_)
      · have hf := pe_t hf hc_30
        refine lv_aload_n hx hb dX9_grown_41 rfl (lv_at hl 0 rfl) ?_
        refine lv_iload_n hx hb dX9_grown_42 rfl (lv_at hl 1 rfl) ?_
        obtain ⟨r_31, hk_32, hf⟩ := pe_1 hf
        refine xv_z (As := [.int x1]) (rest := []) (q0 := 0) (ci := 9) Cx hP hD hS hl (pl_X9_X9 a cyI cyJ v9_refusals v7_rows v7_lengths v7_sizes v7_rests v7_orders v6_hooks v6_lefts v6_heights v1_table v5_known v8_sizes v8_coefficients v8_undoneSums v8_undos v8_nextUndo v8_imageTaken v0_totals v3_letters v3_count v3_next v3_size v4_values v4_lengths v9_refusals v7_rows v7_lengths v7_sizes v7_rests v7_orders v6_hooks v6_lefts v6_heights v1_table v5_known v8_sizes v8_coefficients v8_undoneSums v8_undos v8_nextUndo v8_imageTaken v0_totals v3_letters v3_count v3_next v3_size v4_values v4_lengths) (c_X9_canGrow l D cyI cyJ G a H.size v9_refusals v7_rows v7_lengths v7_sizes v7_rests v7_orders v6_hooks v6_lefts v6_heights v1_table v5_known v8_sizes v8_coefficients v8_undoneSums v8_undos v8_nextUndo v8_imageTaken v0_totals v3_letters v3_count v3_next v3_size v4_values v4_lengths x1 r_31 hk_32) pk_X9_canGrow mw_3_65 ⟨rfl, rfl, Nat.le_of_ble_eq_true rfl, Nat.le_of_ble_eq_true rfl⟩ rfl rfl rfl rfl rfl (Nat.le_of_ble_eq_true rfl) ⟨Nat.le_of_ble_eq_true rfl, Nat.le_of_ble_eq_true rfl⟩ dX9_grown_43 (fun H locs hn_33 hP hD hS => ?_)
        refine lv_if_eq (tgt := 61) hx hb dX9_grown_46 (by decide) (fun hc_34 => ?_) (fun hc_34 => ?_)
        · have hf := pe_t hf hc_34
          refine lv_aload_n hx hb dX9_grown_61 rfl (lv_at hl 0 rfl) ?_
          refine lv_bipush (v := (-3 : Int32)) hx hb dX9_grown_62 (by decide) ?_
          obtain ⟨r_35, v9_refusals_36, hk_37, hf⟩ := pe_2 hf
          refine xv_i (As := [.int (-3 : Int32)]) (rest := []) (q0 := 0) (ci := 9) Cx hP hD hS hl (pl_X9_X9 a cyI cyJ v9_refusals v7_rows v7_lengths v7_sizes v7_rests v7_orders v6_hooks v6_lefts v6_heights v1_table v5_known v8_sizes v8_coefficients v8_undoneSums v8_undos v8_nextUndo v8_imageTaken v0_totals v3_letters v3_count v3_next v3_size v4_values v4_lengths v9_refusals_36 v7_rows v7_lengths v7_sizes v7_rests v7_orders v6_hooks v6_lefts v6_heights v1_table v5_known v8_sizes v8_coefficients v8_undoneSums v8_undos v8_nextUndo v8_imageTaken v0_totals v3_letters v3_count v3_next v3_size v4_values v4_lengths) (c_X9_refuse l D cyI cyJ G a H.size v9_refusals v7_rows v7_lengths v7_sizes v7_rests v7_orders v6_hooks v6_lefts v6_heights v1_table v5_known v8_sizes v8_coefficients v8_undoneSums v8_undos v8_nextUndo v8_imageTaken v0_totals v3_letters v3_count v3_next v3_size v4_values v4_lengths (-3 : Int32) r_35 v9_refusals_36 hk_37) pk_X9_refuse mw_2_103 ⟨rfl, rfl, Nat.le_of_ble_eq_true rfl, Nat.le_of_ble_eq_true rfl⟩ rfl rfl rfl rfl rfl (Nat.le_of_ble_eq_true rfl) ⟨Nat.le_of_ble_eq_true rfl, Nat.le_of_ble_eq_true rfl⟩ dX9_grown_64 (fun H locs hP hD hS => ?_)
          obtain ⟨rfl, rfl⟩ := po_2 hf
          rw [← hQ]; exact xe_iret Cx rfl hP hD hS dX9_grown_67
        · have hf := pe_f hf hc_34
          refine lv_aload_n hx hb dX9_grown_49 rfl (lv_at hl 0 rfl) ?_
          refine va_get (ci := 9) (v := .ref (a 2)) hx hb hts wX9_in hown hK hP 0 rfl rfl 0 (by decide) (hts _ mw_2_67) (fun _ h9 => h9) rfl dX9_grown_50 ?_
          refine lv_iload_n hx hb dX9_grown_53 rfl (lv_at hl 1 rfl) ?_
          refine lv_iload_n hx hb dX9_grown_54 rfl (lv_at hl 2 rfl) ?_
          obtain ⟨r_38, hk_39, hf⟩ := pe_1 hf
          refine xv_i (As := [.int x1, .int x2]) (rest := []) (q0 := 0) (ci := 7) Cx hP hD hS hl (pl_X9_X7 a cyI cyJ v9_refusals v7_rows v7_lengths v7_sizes v7_rests v7_orders v6_hooks v6_lefts v6_heights v1_table v5_known v8_sizes v8_coefficients v8_undoneSums v8_undos v8_nextUndo v8_imageTaken v0_totals v3_letters v3_count v3_next v3_size v4_values v4_lengths v7_rows v7_lengths v7_sizes v7_rests v7_orders) (c_X7_grownTo l D cyI cyJ G a H.size v7_rows v7_lengths v7_sizes v7_rests v7_orders x1 x2 r_38 hk_39) pk_X7_grownTo mw_3_69 ⟨rfl, rfl, Nat.le_of_ble_eq_true rfl, Nat.le_of_ble_eq_true rfl⟩ rfl rfl rfl rfl rfl (Nat.le_of_ble_eq_true rfl) ⟨Nat.le_of_ble_eq_true rfl, Nat.le_of_ble_eq_true rfl⟩ dX9_grown_55 (fun H locs hP hD hS => ?_)
          refine lv_goto (tgt := 67) hx hb dX9_grown_58 (by decide) ?_
          obtain ⟨rfl, rfl⟩ := po_2 hf
          rw [← hQ]; exact xe_iret Cx rfl hP hD hS dX9_grown_67
      · have hf := pe_f hf hc_30
        refine lv_aload_n hx hb dX9_grown_34 rfl (lv_at hl 0 rfl) ?_
        refine lv_bipush (v := (-6 : Int32)) hx hb dX9_grown_35 (by decide) ?_
        obtain ⟨r_40, v9_refusals_41, hk_42, hf⟩ := pe_2 hf
        refine xv_i (As := [.int (-6 : Int32)]) (rest := []) (q0 := 0) (ci := 9) Cx hP hD hS hl (pl_X9_X9 a cyI cyJ v9_refusals v7_rows v7_lengths v7_sizes v7_rests v7_orders v6_hooks v6_lefts v6_heights v1_table v5_known v8_sizes v8_coefficients v8_undoneSums v8_undos v8_nextUndo v8_imageTaken v0_totals v3_letters v3_count v3_next v3_size v4_values v4_lengths v9_refusals_41 v7_rows v7_lengths v7_sizes v7_rests v7_orders v6_hooks v6_lefts v6_heights v1_table v5_known v8_sizes v8_coefficients v8_undoneSums v8_undos v8_nextUndo v8_imageTaken v0_totals v3_letters v3_count v3_next v3_size v4_values v4_lengths) (c_X9_refuse l D cyI cyJ G a H.size v9_refusals v7_rows v7_lengths v7_sizes v7_rests v7_orders v6_hooks v6_lefts v6_heights v1_table v5_known v8_sizes v8_coefficients v8_undoneSums v8_undos v8_nextUndo v8_imageTaken v0_totals v3_letters v3_count v3_next v3_size v4_values v4_lengths (-6 : Int32) r_40 v9_refusals_41 hk_42) pk_X9_refuse mw_2_103 ⟨rfl, rfl, Nat.le_of_ble_eq_true rfl, Nat.le_of_ble_eq_true rfl⟩ rfl rfl rfl rfl rfl (Nat.le_of_ble_eq_true rfl) ⟨Nat.le_of_ble_eq_true rfl, Nat.le_of_ble_eq_true rfl⟩ dX9_grown_37 (fun H locs hP hD hS => ?_)
        obtain ⟨rfl, rfl⟩ := po_2 hf
        rw [← hQ]; exact xe_iret Cx rfl hP hD hS dX9_grown_40
    · have hf := pe_f hf hc_29
      refine lv_aload_n hx hb dX9_grown_21 rfl (lv_at hl 0 rfl) ?_
      refine lv_bipush (v := (-4 : Int32)) hx hb dX9_grown_22 (by decide) ?_
      obtain ⟨r_43, v9_refusals_44, hk_45, hf⟩ := pe_2 hf
      refine xv_i (As := [.int (-4 : Int32)]) (rest := []) (q0 := 0) (ci := 9) Cx hP hD hS hl (pl_X9_X9 a cyI cyJ v9_refusals v7_rows v7_lengths v7_sizes v7_rests v7_orders v6_hooks v6_lefts v6_heights v1_table v5_known v8_sizes v8_coefficients v8_undoneSums v8_undos v8_nextUndo v8_imageTaken v0_totals v3_letters v3_count v3_next v3_size v4_values v4_lengths v9_refusals_44 v7_rows v7_lengths v7_sizes v7_rests v7_orders v6_hooks v6_lefts v6_heights v1_table v5_known v8_sizes v8_coefficients v8_undoneSums v8_undos v8_nextUndo v8_imageTaken v0_totals v3_letters v3_count v3_next v3_size v4_values v4_lengths) (c_X9_refuse l D cyI cyJ G a H.size v9_refusals v7_rows v7_lengths v7_sizes v7_rests v7_orders v6_hooks v6_lefts v6_heights v1_table v5_known v8_sizes v8_coefficients v8_undoneSums v8_undos v8_nextUndo v8_imageTaken v0_totals v3_letters v3_count v3_next v3_size v4_values v4_lengths (-4 : Int32) r_43 v9_refusals_44 hk_45) pk_X9_refuse mw_2_103 ⟨rfl, rfl, Nat.le_of_ble_eq_true rfl, Nat.le_of_ble_eq_true rfl⟩ rfl rfl rfl rfl rfl (Nat.le_of_ble_eq_true rfl) ⟨Nat.le_of_ble_eq_true rfl, Nat.le_of_ble_eq_true rfl⟩ dX9_grown_24 (fun H locs hP hD hS => ?_)
      obtain ⟨rfl, rfl⟩ := po_2 hf
      rw [← hQ]; exact xe_iret Cx rfl hP hD hS dX9_grown_27
  · have hf := pe_t hf hc_28
    refine lv_aload_n hx hb dX9_grown_11 rfl (lv_at hl 0 rfl) ?_
    refine lv_iconst (v := (-1 : Int32)) hx hb dX9_grown_12 (by decide) ?_
    obtain ⟨r_46, v9_refusals_47, hk_48, hf⟩ := pe_2 hf
    refine xv_i (As := [.int (-1 : Int32)]) (rest := []) (q0 := 0) (ci := 9) Cx hP hD hS hl (pl_X9_X9 a cyI cyJ v9_refusals v7_rows v7_lengths v7_sizes v7_rests v7_orders v6_hooks v6_lefts v6_heights v1_table v5_known v8_sizes v8_coefficients v8_undoneSums v8_undos v8_nextUndo v8_imageTaken v0_totals v3_letters v3_count v3_next v3_size v4_values v4_lengths v9_refusals_47 v7_rows v7_lengths v7_sizes v7_rests v7_orders v6_hooks v6_lefts v6_heights v1_table v5_known v8_sizes v8_coefficients v8_undoneSums v8_undos v8_nextUndo v8_imageTaken v0_totals v3_letters v3_count v3_next v3_size v4_values v4_lengths) (c_X9_refuse l D cyI cyJ G a H.size v9_refusals v7_rows v7_lengths v7_sizes v7_rests v7_orders v6_hooks v6_lefts v6_heights v1_table v5_known v8_sizes v8_coefficients v8_undoneSums v8_undos v8_nextUndo v8_imageTaken v0_totals v3_letters v3_count v3_next v3_size v4_values v4_lengths (-1 : Int32) r_46 v9_refusals_47 hk_48) pk_X9_refuse mw_2_103 ⟨rfl, rfl, Nat.le_of_ble_eq_true rfl, Nat.le_of_ble_eq_true rfl⟩ rfl rfl rfl rfl rfl (Nat.le_of_ble_eq_true rfl) ⟨Nat.le_of_ble_eq_true rfl, Nat.le_of_ble_eq_true rfl⟩ dX9_grown_13 (fun H locs hP hD hS => ?_)
    obtain ⟨rfl, rfl⟩ := po_2 hf
    rw [← hQ]; exact xe_iret Cx rfl hP hD hS dX9_grown_16
def gf_X9_settled_120 (K_120 : (Nat → Int32) → (Nat → Int32) → Int32 → Int32 → Int32 → Int32 → Int32 → Option (Int32 × (Nat → Int32) × (Nat → Int32))) (v7_rows : Nat → Int32) (v7_lengths : Nat → Int32) (v7_sizes : Nat → Int32) (v7_orders : Nat → Int32) (v1_table : Nat → Int32) (v9_refusals : Nat → Int32) (v5_known : Nat → Int32) (y1 : Int32) (y2 : Int32) (y3 : Int32) (y5 : Int32) (y6 : Int32) : Option (Int32 × (Nat → Int32) × (Nat → Int32)) := if y6 ≤ 0 then (some (y6, v9_refusals, v5_known)) else (p_b2 (f_X5_grownTo v7_rows v7_lengths v7_sizes v7_orders v1_table v5_known y1 y2 y3 (y6 - (1 : Int32))) (fun r_2 v5_known_3 => if r_2 = y5 then (K_120 v9_refusals v5_known_3 y1 y2 y3 y5 (y6 + (-1 : Int32))) else (some (y6, v9_refusals, v5_known_3))))
def f_X9_settled_120 (v7_rows : Nat → Int32) (v7_lengths : Nat → Int32) (v7_sizes : Nat → Int32) (v7_orders : Nat → Int32) (v1_table : Nat → Int32) : Nat → (Nat → Int32) → (Nat → Int32) → Int32 → Int32 → Int32 → Int32 → Int32 → Option (Int32 × (Nat → Int32) × (Nat → Int32))
  | 0 => fun _ _ _ _ _ _ _ => none
  | n + 1 => gf_X9_settled_120 (f_X9_settled_120 v7_rows v7_lengths v7_sizes v7_orders v1_table n) v7_rows v7_lengths v7_sizes v7_orders v1_table
def f_X9_settled_81 (v7_rows : Nat → Int32) (v7_lengths : Nat → Int32) (v7_sizes : Nat → Int32) (v7_orders : Nat → Int32) (v1_table : Nat → Int32) (v9_refusals : Nat → Int32) (v5_known : Nat → Int32) : Option (Int32 × (Nat → Int32) × (Nat → Int32)) := p_b2 (f_X9_refuse v9_refusals (-3 : Int32)) (fun r_6 v9_refusals_7 => some (r_6, v9_refusals_7, v5_known))
def f_X9_settled_57 (v7_rows : Nat → Int32) (v7_lengths : Nat → Int32) (v7_sizes : Nat → Int32) (v7_orders : Nat → Int32) (v1_table : Nat → Int32) (v9_refusals : Nat → Int32) (v5_known : Nat → Int32) (y1 : Int32) (y2 : Int32) (y3 : Int32) (y4 : Int32) : Option (Int32 × (Nat → Int32) × (Nat → Int32)) := p_b1 (f_X9_canGrow v7_sizes y1) (fun r_9 => if r_9 = 0 then ((f_X9_settled_81 v7_rows v7_lengths v7_sizes v7_orders v1_table) v9_refusals v5_known) else (p_b1 (f_X9_canGrow v7_sizes y2) (fun r_13 => if r_13 = 0 then ((f_X9_settled_81 v7_rows v7_lengths v7_sizes v7_orders v1_table) v9_refusals v5_known) else (p_b1 (f_X9_canGrow v7_sizes y3) (fun r_17 => if r_17 = 0 then ((f_X9_settled_81 v7_rows v7_lengths v7_sizes v7_orders v1_table) v9_refusals v5_known) else (p_b2 (f_X5_grownTo v7_rows v7_lengths v7_sizes v7_orders v1_table v5_known y1 y2 y3 (8 : Int32)) (fun r_21 v5_known_22 => if r_21 < 0 then (some (r_21, v9_refusals, v5_known_22)) else (if y4 = (1 : Int32) then (some (r_21, v9_refusals, v5_known_22)) else ((f_X9_settled_120 v7_rows v7_lengths v7_sizes v7_orders v1_table 1000) v9_refusals v5_known_22 y1 y2 y3 r_21 (8 : Int32))))))))))
def f_X9_settled_33 (v7_rows : Nat → Int32) (v7_lengths : Nat → Int32) (v7_sizes : Nat → Int32) (v7_orders : Nat → Int32) (v1_table : Nat → Int32) (v9_refusals : Nat → Int32) (v5_known : Nat → Int32) : Option (Int32 × (Nat → Int32) × (Nat → Int32)) := p_b2 (f_X9_refuse v9_refusals (-1 : Int32)) (fun r_26 v9_refusals_27 => some (r_26, v9_refusals_27, v5_known))
def f_X9_settled (v9_refusals : Nat → Int32) (v7_rows : Nat → Int32) (v7_lengths : Nat → Int32) (v7_sizes : Nat → Int32) (v7_orders : Nat → Int32) (v1_table : Nat → Int32) (v5_known : Nat → Int32) (x1 : Int32) (x2 : Int32) (x3 : Int32) (x4 : Int32) : Option (Int32 × (Nat → Int32) × (Nat → Int32)) := p_b1 (f_X7_has x1) (fun r_29 => if r_29 = 0 then ((f_X9_settled_33 v7_rows v7_lengths v7_sizes v7_orders v1_table) v9_refusals v5_known) else (p_b1 (f_X7_has x2) (fun r_33 => if r_33 = 0 then ((f_X9_settled_33 v7_rows v7_lengths v7_sizes v7_orders v1_table) v9_refusals v5_known) else (p_b1 (f_X7_has x3) (fun r_37 => if r_37 = 0 then ((f_X9_settled_33 v7_rows v7_lengths v7_sizes v7_orders v1_table) v9_refusals v5_known) else (if x4 = 0 then ((f_X9_settled_57 v7_rows v7_lengths v7_sizes v7_orders v1_table) v9_refusals v5_known x1 x2 x3 x4) else (if x4 = (1 : Int32) then ((f_X9_settled_57 v7_rows v7_lengths v7_sizes v7_orders v1_table) v9_refusals v5_known x1 x2 x3 x4) else (p_b2 (f_X9_refuse v9_refusals (-2 : Int32)) (fun r_43 v9_refusals_44 => some (r_43, v9_refusals_44, v5_known))))))))))
set_option maxHeartbeats 4000000 in
set_option maxRecDepth 20000 in
theorem c_X9_settled (l : Launch) (D : va_G) (cyI cyJ : ClassId) (G a : Nat → Nat) (sz : Nat) (v9_refusals : Nat → Int32) (v7_rows : Nat → Int32) (v7_lengths : Nat → Int32) (v7_sizes : Nat → Int32) (v7_rests : Nat → Int32) (v7_orders : Nat → Int32) (v6_hooks : Nat → Int32) (v6_lefts : Nat → Int32) (v6_heights : Nat → Int32) (v1_table : Nat → Int32) (v5_known : Nat → Int32) (v8_sizes : Nat → Int32) (v8_coefficients : Nat → Int32) (v8_undoneSums : Nat → Int32) (v8_undos : Int32) (v8_nextUndo : Int32) (v8_imageTaken : Int32) (v0_totals : Nat → Int64) (v3_letters : Nat → Int32) (v3_count : Int32) (v3_next : Int32) (v3_size : Int32) (v4_values : Nat → Int32) (v4_lengths : Nat → Int32) (x1 : Int32) (x2 : Int32) (x3 : Int32) (x4 : Int32) (ro : Int32) (ov9_refusals : Nat → Int32) (ov5_known : Nat → Int32) (hf : f_X9_settled v9_refusals v7_rows v7_lengths v7_sizes v7_orders v1_table v5_known x1 x2 x3 x4 = some (ro, ov9_refusals, ov5_known)) : xm_i l yX9_settled (Cond.code yX9_settled cX9_settled 7 (some .int) :: xg_tbl) { frames := 6, cells := 0, slots := 0, locals := 150 } D xcl [(cyI, .int), (cyJ, .long)] G sz [.ref (a 0), .int x1, .int x2, .int x3, .int x4] (wd_X9 a cyI cyJ v9_refusals v7_rows v7_lengths v7_sizes v7_rests v7_orders v6_hooks v6_lefts v6_heights v1_table v5_known v8_sizes v8_coefficients v8_undoneSums v8_undos v8_nextUndo v8_imageTaken v0_totals v3_letters v3_count v3_next v3_size v4_values v4_lengths) (wd_X9 a cyI cyJ ov9_refusals v7_rows v7_lengths v7_sizes v7_rests v7_orders v6_hooks v6_lefts v6_heights v1_table ov5_known v8_sizes v8_coefficients v8_undoneSums v8_undos v8_nextUndo v8_imageTaken v0_totals v3_letters v3_count v3_next v3_size v4_values v4_lengths) ro := by
  refine xm_of_i (own := RX9) (by decide) rfl rfl (Nat.le_of_ble_eq_true rfl) ?_
  intro p e s m args below meth c ls Q A hQ hAe hin Cx hsz hP hD hS hl
  have Cx1 := Cx
  obtain ⟨⟨hx, hb, hml, hown, hts⟩, hr, hlocks, hK, hA, hT⟩ := Cx1
  have hl : lv_has ls 7 [(0, .ref (a 0)), (1, .int x1), (2, .int x2), (3, .int x3), (4, .int x4)] := hl
  obtain ⟨H, eH⟩ : ∃ H, H = s.heap := ⟨_, rfl⟩
  obtain ⟨locs, eL⟩ : ∃ L : List Loc, L = [] := ⟨_, rfl⟩
  rw [← eH] at hP
  have hS : va_S A s.heap H locs := by rw [eH, eL]; exact hS
  suffices hgo : W p l e { frames := 6, cells := 0, slots := 0, locals := 150 } s m args below meth c H locs 0 0 Q (F0 m 0 ls []) by rw [eH, eL] at hgo; exact hgo
  clear eH eL
  unfold f_X9_settled at hf
  have w_57 : ∀ (v9_refusals : Nat → Int32) (v5_known : Nat → Int32) (y1 : Int32) (y2 : Int32) (y3 : Int32) (y4 : Int32) (H : Heap) (locs : List Loc) (ls : Array Slot), (f_X9_settled_57 v7_rows v7_lengths v7_sizes v7_orders v1_table) v9_refusals v5_known y1 y2 y3 y4 = some (ro, ov9_refusals, ov5_known) → va_P D xcl (wd_X9 a cyI cyJ v9_refusals v7_rows v7_lengths v7_sizes v7_rests v7_orders v6_hooks v6_lefts v6_heights v1_table v5_known v8_sizes v8_coefficients v8_undoneSums v8_undos v8_nextUndo v8_imageTaken v0_totals v3_letters v3_count v3_next v3_size v4_values v4_lengths) H → va_D A (wd_X9 a cyI cyJ v9_refusals v7_rows v7_lengths v7_sizes v7_rests v7_orders v6_hooks v6_lefts v6_heights v1_table v5_known v8_sizes v8_coefficients v8_undoneSums v8_undos v8_nextUndo v8_imageTaken v0_totals v3_letters v3_count v3_next v3_size v4_values v4_lengths) → va_S A s.heap H locs → lv_has ls 7 [(0, .ref (a 0)), (1, .int y1), (2, .int y2), (3, .int y3), (4, .int y4)] → W p l e { frames := 6, cells := 0, slots := 0, locals := 150 } s m args below meth c H locs 0 0 Q (F0 m 57 ls []) := by
    intro v9_refusals v5_known y1 y2 y3 y4 H locs ls hf hP hD hS hl
    unfold f_X9_settled_57 at hf
    have w_120 : ∀ (n_120 : Nat) (v9_refusals : Nat → Int32) (v5_known : Nat → Int32) (y1 : Int32) (y2 : Int32) (y3 : Int32) (y5 : Int32) (y6 : Int32) (H : Heap) (locs : List Loc) (ls : Array Slot), (f_X9_settled_120 v7_rows v7_lengths v7_sizes v7_orders v1_table) n_120 v9_refusals v5_known y1 y2 y3 y5 y6 = some (ro, ov9_refusals, ov5_known) → va_P D xcl (wd_X9 a cyI cyJ v9_refusals v7_rows v7_lengths v7_sizes v7_rests v7_orders v6_hooks v6_lefts v6_heights v1_table v5_known v8_sizes v8_coefficients v8_undoneSums v8_undos v8_nextUndo v8_imageTaken v0_totals v3_letters v3_count v3_next v3_size v4_values v4_lengths) H → va_D A (wd_X9 a cyI cyJ v9_refusals v7_rows v7_lengths v7_sizes v7_rests v7_orders v6_hooks v6_lefts v6_heights v1_table v5_known v8_sizes v8_coefficients v8_undoneSums v8_undos v8_nextUndo v8_imageTaken v0_totals v3_letters v3_count v3_next v3_size v4_values v4_lengths) → va_S A s.heap H locs → lv_has ls 7 [(0, .ref (a 0)), (1, .int y1), (2, .int y2), (3, .int y3), (5, .int y5), (6, .int y6)] → W p l e { frames := 6, cells := 0, slots := 0, locals := 150 } s m args below meth c H locs 0 0 Q (F0 m 120 ls []) := by
      intro n_120
      induction n_120 with
      | zero => intro v9_refusals v5_known y1 y2 y3 y5 y6 H locs ls hf; exact absurd hf (by intro h9; cases h9)
      | succ n_120 w_120 =>
        intro v9_refusals v5_known y1 y2 y3 y5 y6 H locs ls hf hP hD hS hl
        have hf : gf_X9_settled_120 ((f_X9_settled_120 v7_rows v7_lengths v7_sizes v7_orders v1_table) n_120) v7_rows v7_lengths v7_sizes v7_orders v1_table v9_refusals v5_known y1 y2 y3 y5 y6 = some (ro, ov9_refusals, ov5_known) := hf
        unfold gf_X9_settled_120 at hf
        refine lv_iload hx hb dX9_settled_120 (lv_at hl 5 rfl) ?_
        refine lv_if_le (tgt := 150) hx hb dX9_settled_122 (by decide) (fun hc_46 => ?_) (fun hc_46 => ?_)
        · have hf := pe_t hf hc_46
          refine lv_iload hx hb dX9_settled_150 (lv_at hl 5 rfl) ?_
          obtain ⟨rfl, rfl, rfl⟩ := po_3 hf
          rw [← hQ]; exact xe_iret Cx rfl hP hD hS dX9_settled_152
        · have hf := pe_f hf hc_46
          refine lv_aload_n hx hb dX9_settled_125 rfl (lv_at hl 0 rfl) ?_
          refine va_get (ci := 9) (v := .ref (a 15)) hx hb hts wX9_in hown hK hP 0 rfl rfl 4 (by decide) (hts _ mw_2_71) (fun _ h9 => h9) rfl dX9_settled_126 ?_
          refine lv_iload_n hx hb dX9_settled_129 rfl (lv_at hl 1 rfl) ?_
          refine lv_iload_n hx hb dX9_settled_130 rfl (lv_at hl 2 rfl) ?_
          refine lv_iload_n hx hb dX9_settled_131 rfl (lv_at hl 3 rfl) ?_
          refine lv_iload hx hb dX9_settled_132 (lv_at hl 5 rfl) ?_
          refine lv_iconst (v := (1 : Int32)) hx hb dX9_settled_134 (by decide) ?_
          refine lv_isub hx hb dX9_settled_135 ?_
          obtain ⟨r_47, v5_known_48, hk_49, hf⟩ := pe_2 hf
          refine xv_i (As := [.int y1, .int y2, .int y3, .int (y6 - (1 : Int32))]) (rest := []) (q0 := 0) (ci := 5) Cx hP hD hS hl (pl_X9_X5 a cyI cyJ v9_refusals v7_rows v7_lengths v7_sizes v7_rests v7_orders v6_hooks v6_lefts v6_heights v1_table v5_known v8_sizes v8_coefficients v8_undoneSums v8_undos v8_nextUndo v8_imageTaken v0_totals v3_letters v3_count v3_next v3_size v4_values v4_lengths v5_known_48 v1_table v7_rows v7_lengths v7_sizes v7_rests v7_orders) (c_X5_grownTo l D cyI cyJ G a H.size v5_known v1_table v7_rows v7_lengths v7_sizes v7_rests v7_orders y1 y2 y3 (y6 - (1 : Int32)) r_47 v5_known_48 hk_49) pk_X5_grownTo mw_3_77 ⟨rfl, rfl, Nat.le_of_ble_eq_true rfl, Nat.le_of_ble_eq_true rfl⟩ rfl rfl rfl rfl rfl (Nat.le_of_ble_eq_true rfl) ⟨Nat.le_of_ble_eq_true rfl, Nat.le_of_ble_eq_true rfl⟩ dX9_settled_136 (fun H locs hP hD hS => ?_)
          refine lv_iload hx hb dX9_settled_139 (lv_at hl 4 rfl) ?_
          refine lv_icmp_ne (tgt := 150) hx hb dX9_settled_141 (by decide) (fun hc_50 => ?_) (fun hc_50 => ?_)
          · have hf := pe_f hf hc_50
            refine lv_iload hx hb dX9_settled_150 (lv_at hl 5 rfl) ?_
            obtain ⟨rfl, rfl, rfl⟩ := po_3 hf
            rw [← hQ]; exact xe_iret Cx rfl hP hD hS dX9_settled_152
          · have hf := pe_t hf hc_50
            refine lv_iinc (v := (y6 + (-1 : Int32))) (lv' := [(6, .int (y6 + (-1 : Int32))), (0, .ref (a 0)), (1, .int y1), (2, .int y2), (3, .int y3), (5, .int y5)]) hx hb dX9_settled_144 hl (k := 5) rfl rfl (by decide) rfl (fun ls hl => ?_)
            refine lv_goto (tgt := 120) hx hb dX9_settled_147 (by decide) ?_
            exact w_120 v9_refusals v5_known_48 y1 y2 y3 y5 (y6 + (-1 : Int32)) H locs ls hf hP hD hS (lv_sub hl [1, 2, 3, 4, 5, 0] rfl)
    have w_81 : ∀ (v9_refusals : Nat → Int32) (v5_known : Nat → Int32) (H : Heap) (locs : List Loc) (ls : Array Slot), (f_X9_settled_81 v7_rows v7_lengths v7_sizes v7_orders v1_table) v9_refusals v5_known = some (ro, ov9_refusals, ov5_known) → va_P D xcl (wd_X9 a cyI cyJ v9_refusals v7_rows v7_lengths v7_sizes v7_rests v7_orders v6_hooks v6_lefts v6_heights v1_table v5_known v8_sizes v8_coefficients v8_undoneSums v8_undos v8_nextUndo v8_imageTaken v0_totals v3_letters v3_count v3_next v3_size v4_values v4_lengths) H → va_D A (wd_X9 a cyI cyJ v9_refusals v7_rows v7_lengths v7_sizes v7_rests v7_orders v6_hooks v6_lefts v6_heights v1_table v5_known v8_sizes v8_coefficients v8_undoneSums v8_undos v8_nextUndo v8_imageTaken v0_totals v3_letters v3_count v3_next v3_size v4_values v4_lengths) → va_S A s.heap H locs → lv_has ls 7 [(0, .ref (a 0))] → W p l e { frames := 6, cells := 0, slots := 0, locals := 150 } s m args below meth c H locs 0 0 Q (F0 m 81 ls []) := by
      intro v9_refusals v5_known H locs ls hf hP hD hS hl
      unfold f_X9_settled_81 at hf
      refine lv_aload_n hx hb dX9_settled_81 rfl (lv_at hl 0 rfl) ?_
      refine lv_bipush (v := (-3 : Int32)) hx hb dX9_settled_82 (by decide) ?_
      obtain ⟨r_51, v9_refusals_52, hk_53, hf⟩ := pe_2 hf
      refine xv_i (As := [.int (-3 : Int32)]) (rest := []) (q0 := 0) (ci := 9) Cx hP hD hS hl (pl_X9_X9 a cyI cyJ v9_refusals v7_rows v7_lengths v7_sizes v7_rests v7_orders v6_hooks v6_lefts v6_heights v1_table v5_known v8_sizes v8_coefficients v8_undoneSums v8_undos v8_nextUndo v8_imageTaken v0_totals v3_letters v3_count v3_next v3_size v4_values v4_lengths v9_refusals_52 v7_rows v7_lengths v7_sizes v7_rests v7_orders v6_hooks v6_lefts v6_heights v1_table v5_known v8_sizes v8_coefficients v8_undoneSums v8_undos v8_nextUndo v8_imageTaken v0_totals v3_letters v3_count v3_next v3_size v4_values v4_lengths) (c_X9_refuse l D cyI cyJ G a H.size v9_refusals v7_rows v7_lengths v7_sizes v7_rests v7_orders v6_hooks v6_lefts v6_heights v1_table v5_known v8_sizes v8_coefficients v8_undoneSums v8_undos v8_nextUndo v8_imageTaken v0_totals v3_letters v3_count v3_next v3_size v4_values v4_lengths (-3 : Int32) r_51 v9_refusals_52 hk_53) pk_X9_refuse mw_2_103 ⟨rfl, rfl, Nat.le_of_ble_eq_true rfl, Nat.le_of_ble_eq_true rfl⟩ rfl rfl rfl rfl rfl (Nat.le_of_ble_eq_true rfl) ⟨Nat.le_of_ble_eq_true rfl, Nat.le_of_ble_eq_true rfl⟩ dX9_settled_84 (fun H locs hP hD hS => ?_)
      obtain ⟨rfl, rfl, rfl⟩ := po_3 hf
      rw [← hQ]; exact xe_iret Cx rfl hP hD hS dX9_settled_87
    refine lv_aload_n hx hb dX9_settled_57 rfl (lv_at hl 0 rfl) ?_
    refine lv_iload_n hx hb dX9_settled_58 rfl (lv_at hl 1 rfl) ?_
    obtain ⟨r_54, hk_55, hf⟩ := pe_1 hf
    refine xv_z (As := [.int y1]) (rest := []) (q0 := 0) (ci := 9) Cx hP hD hS hl (pl_X9_X9 a cyI cyJ v9_refusals v7_rows v7_lengths v7_sizes v7_rests v7_orders v6_hooks v6_lefts v6_heights v1_table v5_known v8_sizes v8_coefficients v8_undoneSums v8_undos v8_nextUndo v8_imageTaken v0_totals v3_letters v3_count v3_next v3_size v4_values v4_lengths v9_refusals v7_rows v7_lengths v7_sizes v7_rests v7_orders v6_hooks v6_lefts v6_heights v1_table v5_known v8_sizes v8_coefficients v8_undoneSums v8_undos v8_nextUndo v8_imageTaken v0_totals v3_letters v3_count v3_next v3_size v4_values v4_lengths) (c_X9_canGrow l D cyI cyJ G a H.size v9_refusals v7_rows v7_lengths v7_sizes v7_rests v7_orders v6_hooks v6_lefts v6_heights v1_table v5_known v8_sizes v8_coefficients v8_undoneSums v8_undos v8_nextUndo v8_imageTaken v0_totals v3_letters v3_count v3_next v3_size v4_values v4_lengths y1 r_54 hk_55) pk_X9_canGrow mw_3_65 ⟨rfl, rfl, Nat.le_of_ble_eq_true rfl, Nat.le_of_ble_eq_true rfl⟩ rfl rfl rfl rfl rfl (Nat.le_of_ble_eq_true rfl) ⟨Nat.le_of_ble_eq_true rfl, Nat.le_of_ble_eq_true rfl⟩ dX9_settled_59 (fun H locs hn_56 hP hD hS => ?_)
    refine lv_if_eq (tgt := 81) hx hb dX9_settled_62 (by decide) (fun hc_57 => ?_) (fun hc_57 => ?_)
    · have hf := pe_t hf hc_57
      exact w_81 v9_refusals v5_known H locs ls hf hP hD hS (lv_sub hl [0] rfl)
    · have hf := pe_f hf hc_57
      refine lv_aload_n hx hb dX9_settled_65 rfl (lv_at hl 0 rfl) ?_
      refine lv_iload_n hx hb dX9_settled_66 rfl (lv_at hl 2 rfl) ?_
      obtain ⟨r_58, hk_59, hf⟩ := pe_1 hf
      refine xv_z (As := [.int y2]) (rest := []) (q0 := 0) (ci := 9) Cx hP hD hS hl (pl_X9_X9 a cyI cyJ v9_refusals v7_rows v7_lengths v7_sizes v7_rests v7_orders v6_hooks v6_lefts v6_heights v1_table v5_known v8_sizes v8_coefficients v8_undoneSums v8_undos v8_nextUndo v8_imageTaken v0_totals v3_letters v3_count v3_next v3_size v4_values v4_lengths v9_refusals v7_rows v7_lengths v7_sizes v7_rests v7_orders v6_hooks v6_lefts v6_heights v1_table v5_known v8_sizes v8_coefficients v8_undoneSums v8_undos v8_nextUndo v8_imageTaken v0_totals v3_letters v3_count v3_next v3_size v4_values v4_lengths) (c_X9_canGrow l D cyI cyJ G a H.size v9_refusals v7_rows v7_lengths v7_sizes v7_rests v7_orders v6_hooks v6_lefts v6_heights v1_table v5_known v8_sizes v8_coefficients v8_undoneSums v8_undos v8_nextUndo v8_imageTaken v0_totals v3_letters v3_count v3_next v3_size v4_values v4_lengths y2 r_58 hk_59) pk_X9_canGrow mw_3_65 ⟨rfl, rfl, Nat.le_of_ble_eq_true rfl, Nat.le_of_ble_eq_true rfl⟩ rfl rfl rfl rfl rfl (Nat.le_of_ble_eq_true rfl) ⟨Nat.le_of_ble_eq_true rfl, Nat.le_of_ble_eq_true rfl⟩ dX9_settled_67 (fun H locs hn_60 hP hD hS => ?_)
      refine lv_if_eq (tgt := 81) hx hb dX9_settled_70 (by decide) (fun hc_61 => ?_) (fun hc_61 => ?_)
      · have hf := pe_t hf hc_61
        exact w_81 v9_refusals v5_known H locs ls hf hP hD hS (lv_sub hl [0] rfl)
      · have hf := pe_f hf hc_61
        refine lv_aload_n hx hb dX9_settled_73 rfl (lv_at hl 0 rfl) ?_
        refine lv_iload_n hx hb dX9_settled_74 rfl (lv_at hl 3 rfl) ?_
        obtain ⟨r_62, hk_63, hf⟩ := pe_1 hf
        refine xv_z (As := [.int y3]) (rest := []) (q0 := 0) (ci := 9) Cx hP hD hS hl (pl_X9_X9 a cyI cyJ v9_refusals v7_rows v7_lengths v7_sizes v7_rests v7_orders v6_hooks v6_lefts v6_heights v1_table v5_known v8_sizes v8_coefficients v8_undoneSums v8_undos v8_nextUndo v8_imageTaken v0_totals v3_letters v3_count v3_next v3_size v4_values v4_lengths v9_refusals v7_rows v7_lengths v7_sizes v7_rests v7_orders v6_hooks v6_lefts v6_heights v1_table v5_known v8_sizes v8_coefficients v8_undoneSums v8_undos v8_nextUndo v8_imageTaken v0_totals v3_letters v3_count v3_next v3_size v4_values v4_lengths) (c_X9_canGrow l D cyI cyJ G a H.size v9_refusals v7_rows v7_lengths v7_sizes v7_rests v7_orders v6_hooks v6_lefts v6_heights v1_table v5_known v8_sizes v8_coefficients v8_undoneSums v8_undos v8_nextUndo v8_imageTaken v0_totals v3_letters v3_count v3_next v3_size v4_values v4_lengths y3 r_62 hk_63) pk_X9_canGrow mw_3_65 ⟨rfl, rfl, Nat.le_of_ble_eq_true rfl, Nat.le_of_ble_eq_true rfl⟩ rfl rfl rfl rfl rfl (Nat.le_of_ble_eq_true rfl) ⟨Nat.le_of_ble_eq_true rfl, Nat.le_of_ble_eq_true rfl⟩ dX9_settled_75 (fun H locs hn_64 hP hD hS => ?_)
        refine lv_if_ne (tgt := 88) hx hb dX9_settled_78 (by decide) (fun hc_65 => ?_) (fun hc_65 => ?_)
        · have hf := pe_f hf hc_65
          refine lv_aload_n hx hb dX9_settled_88 rfl (lv_at hl 0 rfl) ?_
          refine va_get (ci := 9) (v := .ref (a 15)) hx hb hts wX9_in hown hK hP 0 rfl rfl 4 (by decide) (hts _ mw_2_71) (fun _ h9 => h9) rfl dX9_settled_89 ?_
          refine lv_iload_n hx hb dX9_settled_92 rfl (lv_at hl 1 rfl) ?_
          refine lv_iload_n hx hb dX9_settled_93 rfl (lv_at hl 2 rfl) ?_
          refine lv_iload_n hx hb dX9_settled_94 rfl (lv_at hl 3 rfl) ?_
          refine lv_bipush (v := (8 : Int32)) hx hb dX9_settled_95 (by decide) ?_
          obtain ⟨r_66, v5_known_67, hk_68, hf⟩ := pe_2 hf
          refine xv_i (As := [.int y1, .int y2, .int y3, .int (8 : Int32)]) (rest := []) (q0 := 0) (ci := 5) Cx hP hD hS hl (pl_X9_X5 a cyI cyJ v9_refusals v7_rows v7_lengths v7_sizes v7_rests v7_orders v6_hooks v6_lefts v6_heights v1_table v5_known v8_sizes v8_coefficients v8_undoneSums v8_undos v8_nextUndo v8_imageTaken v0_totals v3_letters v3_count v3_next v3_size v4_values v4_lengths v5_known_67 v1_table v7_rows v7_lengths v7_sizes v7_rests v7_orders) (c_X5_grownTo l D cyI cyJ G a H.size v5_known v1_table v7_rows v7_lengths v7_sizes v7_rests v7_orders y1 y2 y3 (8 : Int32) r_66 v5_known_67 hk_68) pk_X5_grownTo mw_3_77 ⟨rfl, rfl, Nat.le_of_ble_eq_true rfl, Nat.le_of_ble_eq_true rfl⟩ rfl rfl rfl rfl rfl (Nat.le_of_ble_eq_true rfl) ⟨Nat.le_of_ble_eq_true rfl, Nat.le_of_ble_eq_true rfl⟩ dX9_settled_97 (fun H locs hP hD hS => ?_)
          refine lv_istore (lv' := [(5, .int r_66), (0, .ref (a 0)), (1, .int y1), (2, .int y2), (3, .int y3), (4, .int y4)]) hx hb dX9_settled_100 hl (by decide) rfl (fun ls hl => ?_)
          refine lv_iload hx hb dX9_settled_102 (lv_at hl 0 rfl) ?_
          refine lv_if_lt (tgt := 113) hx hb dX9_settled_104 (by decide) (fun hc_69 => ?_) (fun hc_69 => ?_)
          · have hf := pe_t hf hc_69
            refine lv_iload hx hb dX9_settled_113 (lv_at hl 0 rfl) ?_
            obtain ⟨rfl, rfl, rfl⟩ := po_3 hf
            rw [← hQ]; exact xe_iret Cx rfl hP hD hS dX9_settled_115
          · have hf := pe_f hf hc_69
            refine lv_iload hx hb dX9_settled_107 (lv_at hl 5 rfl) ?_
            refine lv_iconst (v := (1 : Int32)) hx hb dX9_settled_109 (by decide) ?_
            refine lv_icmp_ne (tgt := 116) hx hb dX9_settled_110 (by decide) (fun hc_70 => ?_) (fun hc_70 => ?_)
            · have hf := pe_f hf hc_70
              refine lv_bipush (v := (8 : Int32)) hx hb dX9_settled_116 (by decide) ?_
              refine lv_istore (lv' := [(6, .int (8 : Int32)), (5, .int r_66), (0, .ref (a 0)), (1, .int y1), (2, .int y2), (3, .int y3), (4, .int y4)]) hx hb dX9_settled_118 hl (by decide) rfl (fun ls hl => ?_)
              exact w_120 1000 v9_refusals v5_known_67 y1 y2 y3 r_66 (8 : Int32) H locs ls hf hP hD hS (lv_sub hl [2, 3, 4, 5, 1, 0] rfl)
            · have hf := pe_t hf hc_70
              refine lv_iload hx hb dX9_settled_113 (lv_at hl 0 rfl) ?_
              obtain ⟨rfl, rfl, rfl⟩ := po_3 hf
              rw [← hQ]; exact xe_iret Cx rfl hP hD hS dX9_settled_115
        · have hf := pe_t hf hc_65
          exact w_81 v9_refusals v5_known H locs ls hf hP hD hS (lv_sub hl [0] rfl)
  have w_33 : ∀ (v9_refusals : Nat → Int32) (v5_known : Nat → Int32) (H : Heap) (locs : List Loc) (ls : Array Slot), (f_X9_settled_33 v7_rows v7_lengths v7_sizes v7_orders v1_table) v9_refusals v5_known = some (ro, ov9_refusals, ov5_known) → va_P D xcl (wd_X9 a cyI cyJ v9_refusals v7_rows v7_lengths v7_sizes v7_rests v7_orders v6_hooks v6_lefts v6_heights v1_table v5_known v8_sizes v8_coefficients v8_undoneSums v8_undos v8_nextUndo v8_imageTaken v0_totals v3_letters v3_count v3_next v3_size v4_values v4_lengths) H → va_D A (wd_X9 a cyI cyJ v9_refusals v7_rows v7_lengths v7_sizes v7_rests v7_orders v6_hooks v6_lefts v6_heights v1_table v5_known v8_sizes v8_coefficients v8_undoneSums v8_undos v8_nextUndo v8_imageTaken v0_totals v3_letters v3_count v3_next v3_size v4_values v4_lengths) → va_S A s.heap H locs → lv_has ls 7 [(0, .ref (a 0))] → W p l e { frames := 6, cells := 0, slots := 0, locals := 150 } s m args below meth c H locs 0 0 Q (F0 m 33 ls []) := by
    intro v9_refusals v5_known H locs ls hf hP hD hS hl
    unfold f_X9_settled_33 at hf
    refine lv_aload_n hx hb dX9_settled_33 rfl (lv_at hl 0 rfl) ?_
    refine lv_iconst (v := (-1 : Int32)) hx hb dX9_settled_34 (by decide) ?_
    obtain ⟨r_71, v9_refusals_72, hk_73, hf⟩ := pe_2 hf
    refine xv_i (As := [.int (-1 : Int32)]) (rest := []) (q0 := 0) (ci := 9) Cx hP hD hS hl (pl_X9_X9 a cyI cyJ v9_refusals v7_rows v7_lengths v7_sizes v7_rests v7_orders v6_hooks v6_lefts v6_heights v1_table v5_known v8_sizes v8_coefficients v8_undoneSums v8_undos v8_nextUndo v8_imageTaken v0_totals v3_letters v3_count v3_next v3_size v4_values v4_lengths v9_refusals_72 v7_rows v7_lengths v7_sizes v7_rests v7_orders v6_hooks v6_lefts v6_heights v1_table v5_known v8_sizes v8_coefficients v8_undoneSums v8_undos v8_nextUndo v8_imageTaken v0_totals v3_letters v3_count v3_next v3_size v4_values v4_lengths) (c_X9_refuse l D cyI cyJ G a H.size v9_refusals v7_rows v7_lengths v7_sizes v7_rests v7_orders v6_hooks v6_lefts v6_heights v1_table v5_known v8_sizes v8_coefficients v8_undoneSums v8_undos v8_nextUndo v8_imageTaken v0_totals v3_letters v3_count v3_next v3_size v4_values v4_lengths (-1 : Int32) r_71 v9_refusals_72 hk_73) pk_X9_refuse mw_2_103 ⟨rfl, rfl, Nat.le_of_ble_eq_true rfl, Nat.le_of_ble_eq_true rfl⟩ rfl rfl rfl rfl rfl (Nat.le_of_ble_eq_true rfl) ⟨Nat.le_of_ble_eq_true rfl, Nat.le_of_ble_eq_true rfl⟩ dX9_settled_35 (fun H locs hP hD hS => ?_)
    obtain ⟨rfl, rfl, rfl⟩ := po_3 hf
    rw [← hQ]; exact xe_iret Cx rfl hP hD hS dX9_settled_38
  refine lv_aload_n hx hb dX9_settled_0 rfl (lv_at hl 0 rfl) ?_
  refine va_get (ci := 9) (v := .ref (a 2)) hx hb hts wX9_in hown hK hP 0 rfl rfl 0 (by decide) (hts _ mw_2_67) (fun _ h9 => h9) rfl dX9_settled_1 ?_
  refine lv_iload_n hx hb dX9_settled_4 rfl (lv_at hl 1 rfl) ?_
  obtain ⟨r_74, hk_75, hf⟩ := pe_1 hf
  refine xv_z (As := [.int x1]) (rest := []) (q0 := 0) (ci := 7) Cx hP hD hS hl (pl_X9_X7 a cyI cyJ v9_refusals v7_rows v7_lengths v7_sizes v7_rests v7_orders v6_hooks v6_lefts v6_heights v1_table v5_known v8_sizes v8_coefficients v8_undoneSums v8_undos v8_nextUndo v8_imageTaken v0_totals v3_letters v3_count v3_next v3_size v4_values v4_lengths v7_rows v7_lengths v7_sizes v7_rests v7_orders) (c_X7_has l D cyI cyJ G a H.size v7_rows v7_lengths v7_sizes v7_rests v7_orders x1 r_74 hk_75) pk_X7_has mw_2_102 ⟨rfl, rfl, Nat.le_of_ble_eq_true rfl, Nat.le_of_ble_eq_true rfl⟩ rfl rfl rfl rfl rfl (Nat.le_of_ble_eq_true rfl) ⟨Nat.le_of_ble_eq_true rfl, Nat.le_of_ble_eq_true rfl⟩ dX9_settled_5 (fun H locs hn_76 hP hD hS => ?_)
  refine lv_if_eq (tgt := 33) hx hb dX9_settled_8 (by decide) (fun hc_77 => ?_) (fun hc_77 => ?_)
  · have hf := pe_t hf hc_77
    exact w_33 v9_refusals v5_known H locs ls hf hP hD hS (lv_sub hl [0] rfl)
  · have hf := pe_f hf hc_77
    refine lv_aload_n hx hb dX9_settled_11 rfl (lv_at hl 0 rfl) ?_
    refine va_get (ci := 9) (v := .ref (a 2)) hx hb hts wX9_in hown hK hP 0 rfl rfl 0 (by decide) (hts _ mw_2_67) (fun _ h9 => h9) rfl dX9_settled_12 ?_
    refine lv_iload_n hx hb dX9_settled_15 rfl (lv_at hl 2 rfl) ?_
    obtain ⟨r_78, hk_79, hf⟩ := pe_1 hf
    refine xv_z (As := [.int x2]) (rest := []) (q0 := 0) (ci := 7) Cx hP hD hS hl (pl_X9_X7 a cyI cyJ v9_refusals v7_rows v7_lengths v7_sizes v7_rests v7_orders v6_hooks v6_lefts v6_heights v1_table v5_known v8_sizes v8_coefficients v8_undoneSums v8_undos v8_nextUndo v8_imageTaken v0_totals v3_letters v3_count v3_next v3_size v4_values v4_lengths v7_rows v7_lengths v7_sizes v7_rests v7_orders) (c_X7_has l D cyI cyJ G a H.size v7_rows v7_lengths v7_sizes v7_rests v7_orders x2 r_78 hk_79) pk_X7_has mw_2_102 ⟨rfl, rfl, Nat.le_of_ble_eq_true rfl, Nat.le_of_ble_eq_true rfl⟩ rfl rfl rfl rfl rfl (Nat.le_of_ble_eq_true rfl) ⟨Nat.le_of_ble_eq_true rfl, Nat.le_of_ble_eq_true rfl⟩ dX9_settled_16 (fun H locs hn_80 hP hD hS => ?_)
    refine lv_if_eq (tgt := 33) hx hb dX9_settled_19 (by decide) (fun hc_81 => ?_) (fun hc_81 => ?_)
    · have hf := pe_t hf hc_81
      exact w_33 v9_refusals v5_known H locs ls hf hP hD hS (lv_sub hl [0] rfl)
    · have hf := pe_f hf hc_81
      refine lv_aload_n hx hb dX9_settled_22 rfl (lv_at hl 0 rfl) ?_
      refine va_get (ci := 9) (v := .ref (a 2)) hx hb hts wX9_in hown hK hP 0 rfl rfl 0 (by decide) (hts _ mw_2_67) (fun _ h9 => h9) rfl dX9_settled_23 ?_
      refine lv_iload_n hx hb dX9_settled_26 rfl (lv_at hl 3 rfl) ?_
      obtain ⟨r_82, hk_83, hf⟩ := pe_1 hf
      refine xv_z (As := [.int x3]) (rest := []) (q0 := 0) (ci := 7) Cx hP hD hS hl (pl_X9_X7 a cyI cyJ v9_refusals v7_rows v7_lengths v7_sizes v7_rests v7_orders v6_hooks v6_lefts v6_heights v1_table v5_known v8_sizes v8_coefficients v8_undoneSums v8_undos v8_nextUndo v8_imageTaken v0_totals v3_letters v3_count v3_next v3_size v4_values v4_lengths v7_rows v7_lengths v7_sizes v7_rests v7_orders) (c_X7_has l D cyI cyJ G a H.size v7_rows v7_lengths v7_sizes v7_rests v7_orders x3 r_82 hk_83) pk_X7_has mw_2_102 ⟨rfl, rfl, Nat.le_of_ble_eq_true rfl, Nat.le_of_ble_eq_true rfl⟩ rfl rfl rfl rfl rfl (Nat.le_of_ble_eq_true rfl) ⟨Nat.le_of_ble_eq_true rfl, Nat.le_of_ble_eq_true rfl⟩ dX9_settled_27 (fun H locs hn_84 hP hD hS => ?_)
      refine lv_if_ne (tgt := 39) hx hb dX9_settled_30 (by decide) (fun hc_85 => ?_) (fun hc_85 => ?_)
      · have hf := pe_f hf hc_85
        refine lv_iload hx hb dX9_settled_39 (lv_at hl 4 rfl) ?_
        refine lv_if_eq (tgt := 57) hx hb dX9_settled_41 (by decide) (fun hc_86 => ?_) (fun hc_86 => ?_)
        · have hf := pe_t hf hc_86
          exact w_57 v9_refusals v5_known x1 x2 x3 x4 H locs ls hf hP hD hS (lv_sub hl [0, 1, 2, 3, 4] rfl)
        · have hf := pe_f hf hc_86
          refine lv_iload hx hb dX9_settled_44 (lv_at hl 4 rfl) ?_
          refine lv_iconst (v := (1 : Int32)) hx hb dX9_settled_46 (by decide) ?_
          refine lv_icmp_eq (tgt := 57) hx hb dX9_settled_47 (by decide) (fun hc_87 => ?_) (fun hc_87 => ?_)
          · have hf := pe_t hf hc_87
            exact w_57 v9_refusals v5_known x1 x2 x3 x4 H locs ls hf hP hD hS (lv_sub hl [0, 1, 2, 3, 4] rfl)
          · have hf := pe_f hf hc_87
            refine lv_aload_n hx hb dX9_settled_50 rfl (lv_at hl 0 rfl) ?_
            refine lv_bipush (v := (-2 : Int32)) hx hb dX9_settled_51 (by decide) ?_
            obtain ⟨r_88, v9_refusals_89, hk_90, hf⟩ := pe_2 hf
            refine xv_i (As := [.int (-2 : Int32)]) (rest := []) (q0 := 0) (ci := 9) Cx hP hD hS hl (pl_X9_X9 a cyI cyJ v9_refusals v7_rows v7_lengths v7_sizes v7_rests v7_orders v6_hooks v6_lefts v6_heights v1_table v5_known v8_sizes v8_coefficients v8_undoneSums v8_undos v8_nextUndo v8_imageTaken v0_totals v3_letters v3_count v3_next v3_size v4_values v4_lengths v9_refusals_89 v7_rows v7_lengths v7_sizes v7_rests v7_orders v6_hooks v6_lefts v6_heights v1_table v5_known v8_sizes v8_coefficients v8_undoneSums v8_undos v8_nextUndo v8_imageTaken v0_totals v3_letters v3_count v3_next v3_size v4_values v4_lengths) (c_X9_refuse l D cyI cyJ G a H.size v9_refusals v7_rows v7_lengths v7_sizes v7_rests v7_orders v6_hooks v6_lefts v6_heights v1_table v5_known v8_sizes v8_coefficients v8_undoneSums v8_undos v8_nextUndo v8_imageTaken v0_totals v3_letters v3_count v3_next v3_size v4_values v4_lengths (-2 : Int32) r_88 v9_refusals_89 hk_90) pk_X9_refuse mw_2_103 ⟨rfl, rfl, Nat.le_of_ble_eq_true rfl, Nat.le_of_ble_eq_true rfl⟩ rfl rfl rfl rfl rfl (Nat.le_of_ble_eq_true rfl) ⟨Nat.le_of_ble_eq_true rfl, Nat.le_of_ble_eq_true rfl⟩ dX9_settled_53 (fun H locs hP hD hS => ?_)
            obtain ⟨rfl, rfl, rfl⟩ := po_3 hf
            rw [← hQ]; exact xe_iret Cx rfl hP hD hS dX9_settled_56
      · have hf := pe_t hf hc_85
        exact w_33 v9_refusals v5_known H locs ls hf hP hD hS (lv_sub hl [0] rfl)
def f_X9_nextSeed (x0 : Int32) : Option (Int32) := some (((x0 * (1664525 : Int32)) + (1013904223 : Int32)))
set_option maxHeartbeats 4000000 in
set_option maxRecDepth 20000 in
theorem c_X9_nextSeed (l : Launch) (D : va_G) (cyI cyJ : ClassId) (G : Nat → Nat) (sz : Nat) (x0 : Int32) (ro : Int32) (hf : f_X9_nextSeed x0 = some ro) : xm_i l yX9_nextSeed (Cond.code yX9_nextSeed cX9_nextSeed 1 (some .int) :: xg_tbl) { frames := 0, cells := 0, slots := 0, locals := 0 } D xcl [(cyI, .int), (cyJ, .long)] G sz [.int x0] [] [] ro := by
  refine xm_of_i (own := RX9) (by decide) rfl rfl (Nat.le_of_ble_eq_true rfl) ?_
  intro p e s m args below meth c ls Q A hQ hAe hin Cx hsz hP hD hS hl
  have Cx1 := Cx
  obtain ⟨⟨hx, hb, hml, hown, hts⟩, hr, hlocks, hK, hA, hT⟩ := Cx1
  have hl : lv_has ls 1 [(0, .int x0)] := hl
  obtain ⟨H, eH⟩ : ∃ H, H = s.heap := ⟨_, rfl⟩
  obtain ⟨locs, eL⟩ : ∃ L : List Loc, L = [] := ⟨_, rfl⟩
  rw [← eH] at hP
  have hS : va_S A s.heap H locs := by rw [eH, eL]; exact hS
  suffices hgo : W p l e { frames := 0, cells := 0, slots := 0, locals := 0 } s m args below meth c H locs 0 0 Q (F0 m 0 ls []) by rw [eH, eL] at hgo; exact hgo
  clear eH eL
  unfold f_X9_nextSeed at hf
  refine lv_iload_n hx hb dX9_nextSeed_0 rfl (lv_at hl 0 rfl) ?_
  refine lv_ldc (v := (1664525 : Int32)) hx hb hown (hts _ mw_3_89) dX9_nextSeed_1 ?_
  refine lv_imul hx hb dX9_nextSeed_3 ?_
  refine lv_ldc (v := (1013904223 : Int32)) hx hb hown (hts _ mw_3_90) dX9_nextSeed_4 ?_
  refine lv_iadd hx hb dX9_nextSeed_6 ?_
  obtain rfl := po_1 hf
  rw [← hQ]; exact xe_iret Cx rfl hP hD hS dX9_nextSeed_7
def f_X9_drawnShape_27 (y1 : Int32) (z0 : Int32) : Option (Int32) := p_b1 (f_X7_firstOf y1) (fun r_1 => some ((r_1 + z0)))
def f_X9_drawnShape (x1 : Int32) (x2 : Int32) : Option (Int32) := p_b1 (f_X7_countOf x1) (fun r_3 => if r_3 ≤ 0 then ((f_X9_drawnShape_27) x1 (0 : Int32)) else (p_nz (256 : Int32) (p_nz r_3 ((f_X9_drawnShape_27) x1 (((x2 &&& (2147483647 : Int32)) / (256 : Int32)) - ((x2 &&& (2147483647 : Int32)) / (256 : Int32)) / r_3 * r_3)))))
set_option maxHeartbeats 4000000 in
set_option maxRecDepth 20000 in
theorem c_X9_drawnShape (l : Launch) (D : va_G) (cyI cyJ : ClassId) (G a : Nat → Nat) (sz : Nat) (v9_refusals : Nat → Int32) (v7_rows : Nat → Int32) (v7_lengths : Nat → Int32) (v7_sizes : Nat → Int32) (v7_rests : Nat → Int32) (v7_orders : Nat → Int32) (v6_hooks : Nat → Int32) (v6_lefts : Nat → Int32) (v6_heights : Nat → Int32) (v1_table : Nat → Int32) (v5_known : Nat → Int32) (v8_sizes : Nat → Int32) (v8_coefficients : Nat → Int32) (v8_undoneSums : Nat → Int32) (v8_undos : Int32) (v8_nextUndo : Int32) (v8_imageTaken : Int32) (v0_totals : Nat → Int64) (v3_letters : Nat → Int32) (v3_count : Int32) (v3_next : Int32) (v3_size : Int32) (v4_values : Nat → Int32) (v4_lengths : Nat → Int32) (x1 : Int32) (x2 : Int32) (ro : Int32) (hf : f_X9_drawnShape x1 x2 = some ro) : xm_i l yX9_drawnShape (Cond.code yX9_drawnShape cX9_drawnShape 5 (some .int) :: xg_tbl) { frames := 1, cells := 0, slots := 0, locals := 21 } D xcl [(cyI, .int), (cyJ, .long)] G sz [.ref (a 0), .int x1, .int x2] (wd_X9 a cyI cyJ v9_refusals v7_rows v7_lengths v7_sizes v7_rests v7_orders v6_hooks v6_lefts v6_heights v1_table v5_known v8_sizes v8_coefficients v8_undoneSums v8_undos v8_nextUndo v8_imageTaken v0_totals v3_letters v3_count v3_next v3_size v4_values v4_lengths) (wd_X9 a cyI cyJ v9_refusals v7_rows v7_lengths v7_sizes v7_rests v7_orders v6_hooks v6_lefts v6_heights v1_table v5_known v8_sizes v8_coefficients v8_undoneSums v8_undos v8_nextUndo v8_imageTaken v0_totals v3_letters v3_count v3_next v3_size v4_values v4_lengths) ro := by
  refine xm_of_i (own := RX9) (by decide) rfl rfl (Nat.le_of_ble_eq_true rfl) ?_
  intro p e s m args below meth c ls Q A hQ hAe hin Cx hsz hP hD hS hl
  have Cx1 := Cx
  obtain ⟨⟨hx, hb, hml, hown, hts⟩, hr, hlocks, hK, hA, hT⟩ := Cx1
  have hl : lv_has ls 5 [(0, .ref (a 0)), (1, .int x1), (2, .int x2)] := hl
  obtain ⟨H, eH⟩ : ∃ H, H = s.heap := ⟨_, rfl⟩
  obtain ⟨locs, eL⟩ : ∃ L : List Loc, L = [] := ⟨_, rfl⟩
  rw [← eH] at hP
  have hS : va_S A s.heap H locs := by rw [eH, eL]; exact hS
  suffices hgo : W p l e { frames := 1, cells := 0, slots := 0, locals := 21 } s m args below meth c H locs 0 0 Q (F0 m 0 ls []) by rw [eH, eL] at hgo; exact hgo
  clear eH eL
  unfold f_X9_drawnShape at hf
  have w_27 : ∀ (y1 : Int32) (z0 : Int32) (H : Heap) (locs : List Loc) (ls : Array Slot), f_X9_drawnShape_27 y1 z0 = some ro → va_P D xcl (wd_X9 a cyI cyJ v9_refusals v7_rows v7_lengths v7_sizes v7_rests v7_orders v6_hooks v6_lefts v6_heights v1_table v5_known v8_sizes v8_coefficients v8_undoneSums v8_undos v8_nextUndo v8_imageTaken v0_totals v3_letters v3_count v3_next v3_size v4_values v4_lengths) H → va_D A (wd_X9 a cyI cyJ v9_refusals v7_rows v7_lengths v7_sizes v7_rests v7_orders v6_hooks v6_lefts v6_heights v1_table v5_known v8_sizes v8_coefficients v8_undoneSums v8_undos v8_nextUndo v8_imageTaken v0_totals v3_letters v3_count v3_next v3_size v4_values v4_lengths) → va_S A s.heap H locs → lv_has ls 5 [(0, .ref (a 0)), (1, .int y1)] → W p l e { frames := 1, cells := 0, slots := 0, locals := 21 } s m args below meth c H locs 0 0 Q (F0 m 27 ls [.int z0]) := by
    intro y1 z0 H locs ls hf hP hD hS hl
    unfold f_X9_drawnShape_27 at hf
    refine lv_istore (lv' := [(4, .int z0), (0, .ref (a 0)), (1, .int y1)]) hx hb dX9_drawnShape_27 hl (by decide) rfl (fun ls hl => ?_)
    refine lv_aload_n hx hb dX9_drawnShape_29 rfl (lv_at hl 1 rfl) ?_
    refine va_get (ci := 9) (v := .ref (a 2)) hx hb hts wX9_in hown hK hP 0 rfl rfl 0 (by decide) (hts _ mw_2_67) (fun _ h9 => h9) rfl dX9_drawnShape_30 ?_
    refine lv_iload_n hx hb dX9_drawnShape_33 rfl (lv_at hl 2 rfl) ?_
    obtain ⟨r_8, hk_9, hf⟩ := pe_1 hf
    refine xv_i (As := [.int y1]) (rest := []) (q0 := 0) (ci := 7) Cx hP hD hS hl (pl_X9_X7 a cyI cyJ v9_refusals v7_rows v7_lengths v7_sizes v7_rests v7_orders v6_hooks v6_lefts v6_heights v1_table v5_known v8_sizes v8_coefficients v8_undoneSums v8_undos v8_nextUndo v8_imageTaken v0_totals v3_letters v3_count v3_next v3_size v4_values v4_lengths v7_rows v7_lengths v7_sizes v7_rests v7_orders) (c_X7_firstOf l D cyI cyJ G a H.size v7_rows v7_lengths v7_sizes v7_rests v7_orders y1 r_8 hk_9) pk_X7_firstOf mw_2_176 ⟨rfl, rfl, Nat.le_of_ble_eq_true rfl, Nat.le_of_ble_eq_true rfl⟩ rfl rfl rfl rfl rfl (Nat.le_of_ble_eq_true rfl) ⟨Nat.le_of_ble_eq_true rfl, Nat.le_of_ble_eq_true rfl⟩ dX9_drawnShape_34 (fun H locs hP hD hS => ?_)
    refine lv_iload hx hb dX9_drawnShape_37 (lv_at hl 0 rfl) ?_
    refine lv_iadd hx hb dX9_drawnShape_39 ?_
    obtain rfl := po_1 hf
    rw [← hQ]; exact xe_iret Cx rfl hP hD hS dX9_drawnShape_40
  refine lv_aload_n hx hb dX9_drawnShape_0 rfl (lv_at hl 0 rfl) ?_
  refine va_get (ci := 9) (v := .ref (a 2)) hx hb hts wX9_in hown hK hP 0 rfl rfl 0 (by decide) (hts _ mw_2_67) (fun _ h9 => h9) rfl dX9_drawnShape_1 ?_
  refine lv_iload_n hx hb dX9_drawnShape_4 rfl (lv_at hl 1 rfl) ?_
  obtain ⟨r_10, hk_11, hf⟩ := pe_1 hf
  refine xv_i (As := [.int x1]) (rest := []) (q0 := 0) (ci := 7) Cx hP hD hS hl (pl_X9_X7 a cyI cyJ v9_refusals v7_rows v7_lengths v7_sizes v7_rests v7_orders v6_hooks v6_lefts v6_heights v1_table v5_known v8_sizes v8_coefficients v8_undoneSums v8_undos v8_nextUndo v8_imageTaken v0_totals v3_letters v3_count v3_next v3_size v4_values v4_lengths v7_rows v7_lengths v7_sizes v7_rests v7_orders) (c_X7_countOf l D cyI cyJ G a H.size v7_rows v7_lengths v7_sizes v7_rests v7_orders x1 r_10 hk_11) pk_X7_countOf mw_2_177 ⟨rfl, rfl, Nat.le_of_ble_eq_true rfl, Nat.le_of_ble_eq_true rfl⟩ rfl rfl rfl rfl rfl (Nat.le_of_ble_eq_true rfl) ⟨Nat.le_of_ble_eq_true rfl, Nat.le_of_ble_eq_true rfl⟩ dX9_drawnShape_5 (fun H locs hP hD hS => ?_)
  refine lv_istore_n (lv' := [(3, .int r_10), (0, .ref (a 0)), (1, .int x1), (2, .int x2)]) hx hb dX9_drawnShape_8 rfl hl (by decide) rfl (fun ls hl => ?_)
  refine lv_iload_n hx hb dX9_drawnShape_9 rfl (lv_at hl 0 rfl) ?_
  refine lv_if_le (tgt := 26) hx hb dX9_drawnShape_10 (by decide) (fun hc_12 => ?_) (fun hc_12 => ?_)
  · have hf := pe_t hf hc_12
    refine lv_iconst (v := (0 : Int32)) hx hb dX9_drawnShape_26 (by decide) ?_
    exact w_27 x1 (0 : Int32) H locs ls hf hP hD hS (lv_sub hl [1, 2] rfl)
  · have hf := pe_f hf hc_12
    refine lv_iload_n hx hb dX9_drawnShape_13 rfl (lv_at hl 3 rfl) ?_
    refine lv_ldc (v := (2147483647 : Int32)) hx hb hown (hts _ mw_3_95) dX9_drawnShape_14 ?_
    refine lv_iand hx hb dX9_drawnShape_16 ?_
    refine lv_sipush (v := (256 : Int32)) hx hb dX9_drawnShape_17 (by decide) ?_
    obtain ⟨hz_13, hf⟩ := pe_nz hf
    refine lv_idiv hx hb dX9_drawnShape_20 hz_13 ?_
    refine lv_iload_n hx hb dX9_drawnShape_21 rfl (lv_at hl 0 rfl) ?_
    obtain ⟨hz_14, hf⟩ := pe_nz hf
    refine lv_irem hx hb dX9_drawnShape_22 hz_14 ?_
    refine lv_goto (tgt := 27) hx hb dX9_drawnShape_23 (by decide) ?_
    exact w_27 x1 (((x2 &&& (2147483647 : Int32)) / (256 : Int32)) - ((x2 &&& (2147483647 : Int32)) / (256 : Int32)) / r_10 * r_10) H locs ls hf hP hD hS (lv_sub hl [1, 2] rfl)
def f_X9_lots_127 (K_66 : (Nat → Int32) → (Nat → Int32) → Int32 → Int32 → Int32 → Int32 → Int32 → Int32 → Int32 → Option (Int32 × (Nat → Int32) × (Nat → Int32))) (v7_sizes : Nat → Int32) (v7_orders : Nat → Int32) (v1_table : Nat → Int32) (v9_refusals : Nat → Int32) (v5_known : Nat → Int32) (y1 : Int32) (y2 : Int32) (y4 : Int32) (y5 : Int32) (y6 : Int32) (y7 : Int32) (y8 : Int32) (y11 : Int32) : Option (Int32 × (Nat → Int32) × (Nat → Int32)) := K_66 v9_refusals v5_known y1 y2 y4 y5 y6 (y7 + y11) (y8 + (1 : Int32))
def gf_X9_lots_66 (K_66 : (Nat → Int32) → (Nat → Int32) → Int32 → Int32 → Int32 → Int32 → Int32 → Int32 → Int32 → Option (Int32 × (Nat → Int32) × (Nat → Int32))) (v7_sizes : Nat → Int32) (v7_orders : Nat → Int32) (v1_table : Nat → Int32) (v9_refusals : Nat → Int32) (v5_known : Nat → Int32) (y1 : Int32) (y2 : Int32) (y4 : Int32) (y5 : Int32) (y6 : Int32) (y7 : Int32) (y8 : Int32) : Option (Int32 × (Nat → Int32) × (Nat → Int32)) := if y2 ≤ y8 then (if y4 = 0 then (some (y6, v9_refusals, v5_known)) else (some (y7, v9_refusals, v5_known))) else (p_b1 (f_X9_nextSeed y5) (fun r_3 => p_b1 (f_X9_drawnShape y1 r_3) (fun r_5 => p_b1 (f_X9_nextSeed r_3) (fun r_7 => p_b1 (f_X9_drawnShape y1 r_7) (fun r_9 => p_b2 (f_X5_at v7_sizes v7_orders v1_table v5_known r_5 r_5 r_9) (fun r_11 v5_known_12 => if r_11 ≤ 0 then ((f_X9_lots_127 K_66 v7_sizes v7_orders v1_table) v9_refusals v5_known_12 y1 y2 y4 r_7 y6 y7 y8 r_11) else ((f_X9_lots_127 K_66 v7_sizes v7_orders v1_table) v9_refusals v5_known_12 y1 y2 y4 r_7 (y6 + (1 : Int32)) y7 y8 r_11)))))))
def f_X9_lots_66 (v7_sizes : Nat → Int32) (v7_orders : Nat → Int32) (v1_table : Nat → Int32) : Nat → (Nat → Int32) → (Nat → Int32) → Int32 → Int32 → Int32 → Int32 → Int32 → Int32 → Int32 → Option (Int32 × (Nat → Int32) × (Nat → Int32))
  | 0 => fun _ _ _ _ _ _ _ _ _ => none
  | n + 1 => gf_X9_lots_66 (f_X9_lots_66 v7_sizes v7_orders v1_table n) v7_sizes v7_orders v1_table
def f_X9_lots_54 (v7_sizes : Nat → Int32) (v7_orders : Nat → Int32) (v1_table : Nat → Int32) (v9_refusals : Nat → Int32) (v5_known : Nat → Int32) (y1 : Int32) (y2 : Int32) (y3 : Int32) (y4 : Int32) : Option (Int32 × (Nat → Int32) × (Nat → Int32)) := (f_X9_lots_66 v7_sizes v7_orders v1_table 1000) v9_refusals v5_known y1 y2 y4 y3 (0 : Int32) (0 : Int32) (0 : Int32)
def f_X9_lots_29 (v7_sizes : Nat → Int32) (v7_orders : Nat → Int32) (v1_table : Nat → Int32) (v9_refusals : Nat → Int32) (v5_known : Nat → Int32) : Option (Int32 × (Nat → Int32) × (Nat → Int32)) := p_b2 (f_X9_refuse v9_refusals (-6 : Int32)) (fun r_15 v9_refusals_16 => some (r_15, v9_refusals_16, v5_known))
def f_X9_lots_10 (v7_sizes : Nat → Int32) (v7_orders : Nat → Int32) (v1_table : Nat → Int32) (v9_refusals : Nat → Int32) (v5_known : Nat → Int32) : Option (Int32 × (Nat → Int32) × (Nat → Int32)) := p_b2 (f_X9_refuse v9_refusals (-4 : Int32)) (fun r_18 v9_refusals_19 => some (r_18, v9_refusals_19, v5_known))
def f_X9_lots (v9_refusals : Nat → Int32) (v7_sizes : Nat → Int32) (v7_orders : Nat → Int32) (v1_table : Nat → Int32) (v5_known : Nat → Int32) (x1 : Int32) (x2 : Int32) (x3 : Int32) (x4 : Int32) : Option (Int32 × (Nat → Int32) × (Nat → Int32)) := if x1 < (1 : Int32) then ((f_X9_lots_10 v7_sizes v7_orders v1_table) v9_refusals v5_known) else (if (1 : Int32) ≤ x2 then (if (8 : Int32) < x1 then ((f_X9_lots_29 v7_sizes v7_orders v1_table) v9_refusals v5_known) else (if x2 ≤ (50 : Int32) then (if x4 = 0 then ((f_X9_lots_54 v7_sizes v7_orders v1_table) v9_refusals v5_known x1 x2 x3 x4) else (if x4 = (1 : Int32) then ((f_X9_lots_54 v7_sizes v7_orders v1_table) v9_refusals v5_known x1 x2 x3 x4) else (p_b2 (f_X9_refuse v9_refusals (-2 : Int32)) (fun r_27 v9_refusals_28 => some (r_27, v9_refusals_28, v5_known))))) else ((f_X9_lots_29 v7_sizes v7_orders v1_table) v9_refusals v5_known))) else ((f_X9_lots_10 v7_sizes v7_orders v1_table) v9_refusals v5_known))
set_option maxHeartbeats 4000000 in
set_option maxRecDepth 20000 in
theorem c_X9_lots (l : Launch) (D : va_G) (cyI cyJ : ClassId) (G a : Nat → Nat) (sz : Nat) (v9_refusals : Nat → Int32) (v7_rows : Nat → Int32) (v7_lengths : Nat → Int32) (v7_sizes : Nat → Int32) (v7_rests : Nat → Int32) (v7_orders : Nat → Int32) (v6_hooks : Nat → Int32) (v6_lefts : Nat → Int32) (v6_heights : Nat → Int32) (v1_table : Nat → Int32) (v5_known : Nat → Int32) (v8_sizes : Nat → Int32) (v8_coefficients : Nat → Int32) (v8_undoneSums : Nat → Int32) (v8_undos : Int32) (v8_nextUndo : Int32) (v8_imageTaken : Int32) (v0_totals : Nat → Int64) (v3_letters : Nat → Int32) (v3_count : Int32) (v3_next : Int32) (v3_size : Int32) (v4_values : Nat → Int32) (v4_lengths : Nat → Int32) (x1 : Int32) (x2 : Int32) (x3 : Int32) (x4 : Int32) (ro : Int32) (ov9_refusals : Nat → Int32) (ov5_known : Nat → Int32) (hf : f_X9_lots v9_refusals v7_sizes v7_orders v1_table v5_known x1 x2 x3 x4 = some (ro, ov9_refusals, ov5_known)) : xm_i l yX9_lots (Cond.code yX9_lots cX9_lots 12 (some .int) :: xg_tbl) { frames := 5, cells := 0, slots := 0, locals := 123 } D xcl [(cyI, .int), (cyJ, .long)] G sz [.ref (a 0), .int x1, .int x2, .int x3, .int x4] (wd_X9 a cyI cyJ v9_refusals v7_rows v7_lengths v7_sizes v7_rests v7_orders v6_hooks v6_lefts v6_heights v1_table v5_known v8_sizes v8_coefficients v8_undoneSums v8_undos v8_nextUndo v8_imageTaken v0_totals v3_letters v3_count v3_next v3_size v4_values v4_lengths) (wd_X9 a cyI cyJ ov9_refusals v7_rows v7_lengths v7_sizes v7_rests v7_orders v6_hooks v6_lefts v6_heights v1_table ov5_known v8_sizes v8_coefficients v8_undoneSums v8_undos v8_nextUndo v8_imageTaken v0_totals v3_letters v3_count v3_next v3_size v4_values v4_lengths) ro := by
  refine xm_of_i (own := RX9) (by decide) rfl rfl (Nat.le_of_ble_eq_true rfl) ?_
  intro p e s m args below meth c ls Q A hQ hAe hin Cx hsz hP hD hS hl
  have Cx1 := Cx
  obtain ⟨⟨hx, hb, hml, hown, hts⟩, hr, hlocks, hK, hA, hT⟩ := Cx1
  have hl : lv_has ls 12 [(0, .ref (a 0)), (1, .int x1), (2, .int x2), (3, .int x3), (4, .int x4)] := hl
  obtain ⟨H, eH⟩ : ∃ H, H = s.heap := ⟨_, rfl⟩
  obtain ⟨locs, eL⟩ : ∃ L : List Loc, L = [] := ⟨_, rfl⟩
  rw [← eH] at hP
  have hS : va_S A s.heap H locs := by rw [eH, eL]; exact hS
  suffices hgo : W p l e { frames := 5, cells := 0, slots := 0, locals := 123 } s m args below meth c H locs 0 0 Q (F0 m 0 ls []) by rw [eH, eL] at hgo; exact hgo
  clear eH eL
  unfold f_X9_lots at hf
  have w_54 : ∀ (v9_refusals : Nat → Int32) (v5_known : Nat → Int32) (y1 : Int32) (y2 : Int32) (y3 : Int32) (y4 : Int32) (H : Heap) (locs : List Loc) (ls : Array Slot), (f_X9_lots_54 v7_sizes v7_orders v1_table) v9_refusals v5_known y1 y2 y3 y4 = some (ro, ov9_refusals, ov5_known) → va_P D xcl (wd_X9 a cyI cyJ v9_refusals v7_rows v7_lengths v7_sizes v7_rests v7_orders v6_hooks v6_lefts v6_heights v1_table v5_known v8_sizes v8_coefficients v8_undoneSums v8_undos v8_nextUndo v8_imageTaken v0_totals v3_letters v3_count v3_next v3_size v4_values v4_lengths) H → va_D A (wd_X9 a cyI cyJ v9_refusals v7_rows v7_lengths v7_sizes v7_rests v7_orders v6_hooks v6_lefts v6_heights v1_table v5_known v8_sizes v8_coefficients v8_undoneSums v8_undos v8_nextUndo v8_imageTaken v0_totals v3_letters v3_count v3_next v3_size v4_values v4_lengths) → va_S A s.heap H locs → lv_has ls 12 [(0, .ref (a 0)), (1, .int y1), (2, .int y2), (3, .int y3), (4, .int y4)] → W p l e { frames := 5, cells := 0, slots := 0, locals := 123 } s m args below meth c H locs 0 0 Q (F0 m 54 ls []) := by
    intro v9_refusals v5_known y1 y2 y3 y4 H locs ls hf hP hD hS hl
    unfold f_X9_lots_54 at hf
    have w_66 : ∀ (n_66 : Nat) (v9_refusals : Nat → Int32) (v5_known : Nat → Int32) (y1 : Int32) (y2 : Int32) (y4 : Int32) (y5 : Int32) (y6 : Int32) (y7 : Int32) (y8 : Int32) (H : Heap) (locs : List Loc) (ls : Array Slot), (f_X9_lots_66 v7_sizes v7_orders v1_table) n_66 v9_refusals v5_known y1 y2 y4 y5 y6 y7 y8 = some (ro, ov9_refusals, ov5_known) → va_P D xcl (wd_X9 a cyI cyJ v9_refusals v7_rows v7_lengths v7_sizes v7_rests v7_orders v6_hooks v6_lefts v6_heights v1_table v5_known v8_sizes v8_coefficients v8_undoneSums v8_undos v8_nextUndo v8_imageTaken v0_totals v3_letters v3_count v3_next v3_size v4_values v4_lengths) H → va_D A (wd_X9 a cyI cyJ v9_refusals v7_rows v7_lengths v7_sizes v7_rests v7_orders v6_hooks v6_lefts v6_heights v1_table v5_known v8_sizes v8_coefficients v8_undoneSums v8_undos v8_nextUndo v8_imageTaken v0_totals v3_letters v3_count v3_next v3_size v4_values v4_lengths) → va_S A s.heap H locs → lv_has ls 12 [(0, .ref (a 0)), (1, .int y1), (2, .int y2), (4, .int y4), (5, .int y5), (6, .int y6), (7, .int y7), (8, .int y8)] → W p l e { frames := 5, cells := 0, slots := 0, locals := 123 } s m args below meth c H locs 0 0 Q (F0 m 66 ls []) := by
      intro n_66
      induction n_66 with
      | zero => intro v9_refusals v5_known y1 y2 y4 y5 y6 y7 y8 H locs ls hf; exact absurd hf (by intro h9; cases h9)
      | succ n_66 w_66 =>
        intro v9_refusals v5_known y1 y2 y4 y5 y6 y7 y8 H locs ls hf hP hD hS hl
        have hf : gf_X9_lots_66 ((f_X9_lots_66 v7_sizes v7_orders v1_table) n_66) v7_sizes v7_orders v1_table v9_refusals v5_known y1 y2 y4 y5 y6 y7 y8 = some (ro, ov9_refusals, ov5_known) := hf
        unfold gf_X9_lots_66 at hf
        have w_127 : ∀ (v9_refusals : Nat → Int32) (v5_known : Nat → Int32) (y1 : Int32) (y2 : Int32) (y4 : Int32) (y5 : Int32) (y6 : Int32) (y7 : Int32) (y8 : Int32) (y11 : Int32) (H : Heap) (locs : List Loc) (ls : Array Slot), (f_X9_lots_127 ((f_X9_lots_66 v7_sizes v7_orders v1_table) n_66) v7_sizes v7_orders v1_table) v9_refusals v5_known y1 y2 y4 y5 y6 y7 y8 y11 = some (ro, ov9_refusals, ov5_known) → va_P D xcl (wd_X9 a cyI cyJ v9_refusals v7_rows v7_lengths v7_sizes v7_rests v7_orders v6_hooks v6_lefts v6_heights v1_table v5_known v8_sizes v8_coefficients v8_undoneSums v8_undos v8_nextUndo v8_imageTaken v0_totals v3_letters v3_count v3_next v3_size v4_values v4_lengths) H → va_D A (wd_X9 a cyI cyJ v9_refusals v7_rows v7_lengths v7_sizes v7_rests v7_orders v6_hooks v6_lefts v6_heights v1_table v5_known v8_sizes v8_coefficients v8_undoneSums v8_undos v8_nextUndo v8_imageTaken v0_totals v3_letters v3_count v3_next v3_size v4_values v4_lengths) → va_S A s.heap H locs → lv_has ls 12 [(0, .ref (a 0)), (1, .int y1), (2, .int y2), (4, .int y4), (5, .int y5), (6, .int y6), (7, .int y7), (8, .int y8), (11, .int y11)] → W p l e { frames := 5, cells := 0, slots := 0, locals := 123 } s m args below meth c H locs 0 0 Q (F0 m 127 ls []) := by
          intro v9_refusals v5_known y1 y2 y4 y5 y6 y7 y8 y11 H locs ls hf hP hD hS hl
          unfold f_X9_lots_127 at hf
          refine lv_iload hx hb dX9_lots_127 (lv_at hl 6 rfl) ?_
          refine lv_iload hx hb dX9_lots_129 (lv_at hl 8 rfl) ?_
          refine lv_iadd hx hb dX9_lots_131 ?_
          refine lv_istore (lv' := [(7, .int (y7 + y11)), (0, .ref (a 0)), (1, .int y1), (2, .int y2), (4, .int y4), (5, .int y5), (6, .int y6), (8, .int y8), (11, .int y11)]) hx hb dX9_lots_132 hl (by decide) rfl (fun ls hl => ?_)
          refine lv_iinc (v := (y8 + (1 : Int32))) (lv' := [(8, .int (y8 + (1 : Int32))), (7, .int (y7 + y11)), (0, .ref (a 0)), (1, .int y1), (2, .int y2), (4, .int y4), (5, .int y5), (6, .int y6), (11, .int y11)]) hx hb dX9_lots_134 hl (k := 7) rfl rfl (by decide) rfl (fun ls hl => ?_)
          refine lv_goto (tgt := 66) hx hb dX9_lots_137 (by decide) ?_
          exact w_66 v9_refusals v5_known y1 y2 y4 y5 y6 (y7 + y11) (y8 + (1 : Int32)) H locs ls hf hP hD hS (lv_sub hl [2, 3, 4, 5, 6, 7, 1, 0] rfl)
        refine lv_iload hx hb dX9_lots_66 (lv_at hl 7 rfl) ?_
        refine lv_iload_n hx hb dX9_lots_68 rfl (lv_at hl 2 rfl) ?_
        refine lv_icmp_ge (tgt := 140) hx hb dX9_lots_69 (by decide) (fun hc_30 => ?_) (fun hc_30 => ?_)
        · have hf := pe_t hf hc_30
          refine lv_iload hx hb dX9_lots_140 (lv_at hl 3 rfl) ?_
          refine lv_if_ne (tgt := 150) hx hb dX9_lots_142 (by decide) (fun hc_31 => ?_) (fun hc_31 => ?_)
          · have hf := pe_f hf hc_31
            refine lv_iload hx hb dX9_lots_150 (lv_at hl 6 rfl) ?_
            obtain ⟨rfl, rfl, rfl⟩ := po_3 hf
            rw [← hQ]; exact xe_iret Cx rfl hP hD hS dX9_lots_152
          · have hf := pe_t hf hc_31
            refine lv_iload hx hb dX9_lots_145 (lv_at hl 5 rfl) ?_
            refine lv_goto (tgt := 152) hx hb dX9_lots_147 (by decide) ?_
            obtain ⟨rfl, rfl, rfl⟩ := po_3 hf
            rw [← hQ]; exact xe_iret Cx rfl hP hD hS dX9_lots_152
        · have hf := pe_f hf hc_30
          refine lv_iload hx hb dX9_lots_72 (lv_at hl 4 rfl) ?_
          obtain ⟨r_32, hk_33, hf⟩ := pe_1 hf
          refine xw_i (As := [.int y5]) (rest := []) Cx hP hD hS hl (xq_none _) (c_X9_nextSeed l D cyI cyJ G H.size y5 r_32 hk_33) pk_X9_nextSeed mw_3_86 ⟨rfl, rfl, Nat.le_of_ble_eq_true rfl, Nat.le_of_ble_eq_true rfl⟩ rfl rfl (Nat.le_of_ble_eq_true rfl) ⟨Nat.le_of_ble_eq_true rfl, Nat.le_of_ble_eq_true rfl⟩ dX9_lots_74 (fun H locs hP hD hS => ?_)
          refine lv_istore (lv' := [(5, .int r_32), (0, .ref (a 0)), (1, .int y1), (2, .int y2), (4, .int y4), (6, .int y6), (7, .int y7), (8, .int y8)]) hx hb dX9_lots_77 hl (by decide) rfl (fun ls hl => ?_)
          refine lv_aload_n hx hb dX9_lots_79 rfl (lv_at hl 1 rfl) ?_
          refine lv_iload_n hx hb dX9_lots_80 rfl (lv_at hl 2 rfl) ?_
          refine lv_iload hx hb dX9_lots_81 (lv_at hl 0 rfl) ?_
          obtain ⟨r_34, hk_35, hf⟩ := pe_1 hf
          refine xv_i (As := [.int y1, .int r_32]) (rest := []) (q0 := 0) (ci := 9) Cx hP hD hS hl (pl_X9_X9 a cyI cyJ v9_refusals v7_rows v7_lengths v7_sizes v7_rests v7_orders v6_hooks v6_lefts v6_heights v1_table v5_known v8_sizes v8_coefficients v8_undoneSums v8_undos v8_nextUndo v8_imageTaken v0_totals v3_letters v3_count v3_next v3_size v4_values v4_lengths v9_refusals v7_rows v7_lengths v7_sizes v7_rests v7_orders v6_hooks v6_lefts v6_heights v1_table v5_known v8_sizes v8_coefficients v8_undoneSums v8_undos v8_nextUndo v8_imageTaken v0_totals v3_letters v3_count v3_next v3_size v4_values v4_lengths) (c_X9_drawnShape l D cyI cyJ G a H.size v9_refusals v7_rows v7_lengths v7_sizes v7_rests v7_orders v6_hooks v6_lefts v6_heights v1_table v5_known v8_sizes v8_coefficients v8_undoneSums v8_undos v8_nextUndo v8_imageTaken v0_totals v3_letters v3_count v3_next v3_size v4_values v4_lengths y1 r_32 r_34 hk_35) pk_X9_drawnShape mw_3_91 ⟨rfl, rfl, Nat.le_of_ble_eq_true rfl, Nat.le_of_ble_eq_true rfl⟩ rfl rfl rfl rfl rfl (Nat.le_of_ble_eq_true rfl) ⟨Nat.le_of_ble_eq_true rfl, Nat.le_of_ble_eq_true rfl⟩ dX9_lots_83 (fun H locs hP hD hS => ?_)
          refine lv_istore (lv' := [(9, .int r_34), (5, .int r_32), (0, .ref (a 0)), (1, .int y1), (2, .int y2), (4, .int y4), (6, .int y6), (7, .int y7), (8, .int y8)]) hx hb dX9_lots_86 hl (by decide) rfl (fun ls hl => ?_)
          refine lv_iload hx hb dX9_lots_88 (lv_at hl 1 rfl) ?_
          obtain ⟨r_36, hk_37, hf⟩ := pe_1 hf
          refine xw_i (As := [.int r_32]) (rest := []) Cx hP hD hS hl (xq_none _) (c_X9_nextSeed l D cyI cyJ G H.size r_32 r_36 hk_37) pk_X9_nextSeed mw_3_86 ⟨rfl, rfl, Nat.le_of_ble_eq_true rfl, Nat.le_of_ble_eq_true rfl⟩ rfl rfl (Nat.le_of_ble_eq_true rfl) ⟨Nat.le_of_ble_eq_true rfl, Nat.le_of_ble_eq_true rfl⟩ dX9_lots_90 (fun H locs hP hD hS => ?_)
          refine lv_istore (lv' := [(5, .int r_36), (9, .int r_34), (0, .ref (a 0)), (1, .int y1), (2, .int y2), (4, .int y4), (6, .int y6), (7, .int y7), (8, .int y8)]) hx hb dX9_lots_93 hl (by decide) rfl (fun ls hl => ?_)
          refine lv_aload_n hx hb dX9_lots_95 rfl (lv_at hl 2 rfl) ?_
          refine lv_iload_n hx hb dX9_lots_96 rfl (lv_at hl 3 rfl) ?_
          refine lv_iload hx hb dX9_lots_97 (lv_at hl 0 rfl) ?_
          obtain ⟨r_38, hk_39, hf⟩ := pe_1 hf
          refine xv_i (As := [.int y1, .int r_36]) (rest := []) (q0 := 0) (ci := 9) Cx hP hD hS hl (pl_X9_X9 a cyI cyJ v9_refusals v7_rows v7_lengths v7_sizes v7_rests v7_orders v6_hooks v6_lefts v6_heights v1_table v5_known v8_sizes v8_coefficients v8_undoneSums v8_undos v8_nextUndo v8_imageTaken v0_totals v3_letters v3_count v3_next v3_size v4_values v4_lengths v9_refusals v7_rows v7_lengths v7_sizes v7_rests v7_orders v6_hooks v6_lefts v6_heights v1_table v5_known v8_sizes v8_coefficients v8_undoneSums v8_undos v8_nextUndo v8_imageTaken v0_totals v3_letters v3_count v3_next v3_size v4_values v4_lengths) (c_X9_drawnShape l D cyI cyJ G a H.size v9_refusals v7_rows v7_lengths v7_sizes v7_rests v7_orders v6_hooks v6_lefts v6_heights v1_table v5_known v8_sizes v8_coefficients v8_undoneSums v8_undos v8_nextUndo v8_imageTaken v0_totals v3_letters v3_count v3_next v3_size v4_values v4_lengths y1 r_36 r_38 hk_39) pk_X9_drawnShape mw_3_91 ⟨rfl, rfl, Nat.le_of_ble_eq_true rfl, Nat.le_of_ble_eq_true rfl⟩ rfl rfl rfl rfl rfl (Nat.le_of_ble_eq_true rfl) ⟨Nat.le_of_ble_eq_true rfl, Nat.le_of_ble_eq_true rfl⟩ dX9_lots_99 (fun H locs hP hD hS => ?_)
          refine lv_istore (lv' := [(10, .int r_38), (5, .int r_36), (9, .int r_34), (0, .ref (a 0)), (1, .int y1), (2, .int y2), (4, .int y4), (6, .int y6), (7, .int y7), (8, .int y8)]) hx hb dX9_lots_102 hl (by decide) rfl (fun ls hl => ?_)
          refine lv_aload_n hx hb dX9_lots_104 rfl (lv_at hl 3 rfl) ?_
          refine va_get (ci := 9) (v := .ref (a 15)) hx hb hts wX9_in hown hK hP 0 rfl rfl 4 (by decide) (hts _ mw_2_71) (fun _ h9 => h9) rfl dX9_lots_105 ?_
          refine lv_iload hx hb dX9_lots_108 (lv_at hl 2 rfl) ?_
          refine lv_iload hx hb dX9_lots_110 (lv_at hl 2 rfl) ?_
          refine lv_iload hx hb dX9_lots_112 (lv_at hl 0 rfl) ?_
          obtain ⟨r_40, v5_known_41, hk_42, hf⟩ := pe_2 hf
          refine xv_i (As := [.int r_34, .int r_34, .int r_38]) (rest := []) (q0 := 0) (ci := 5) Cx hP hD hS hl (pl_X9_X5 a cyI cyJ v9_refusals v7_rows v7_lengths v7_sizes v7_rests v7_orders v6_hooks v6_lefts v6_heights v1_table v5_known v8_sizes v8_coefficients v8_undoneSums v8_undos v8_nextUndo v8_imageTaken v0_totals v3_letters v3_count v3_next v3_size v4_values v4_lengths v5_known_41 v1_table v7_rows v7_lengths v7_sizes v7_rests v7_orders) (c_X5_at l D cyI cyJ G a H.size v5_known v1_table v7_rows v7_lengths v7_sizes v7_rests v7_orders r_34 r_34 r_38 r_40 v5_known_41 hk_42) pk_X5_at mw_3_1 ⟨rfl, rfl, Nat.le_of_ble_eq_true rfl, Nat.le_of_ble_eq_true rfl⟩ rfl rfl rfl rfl rfl (Nat.le_of_ble_eq_true rfl) ⟨Nat.le_of_ble_eq_true rfl, Nat.le_of_ble_eq_true rfl⟩ dX9_lots_114 (fun H locs hP hD hS => ?_)
          refine lv_istore (lv' := [(11, .int r_40), (10, .int r_38), (5, .int r_36), (9, .int r_34), (0, .ref (a 0)), (1, .int y1), (2, .int y2), (4, .int y4), (6, .int y6), (7, .int y7), (8, .int y8)]) hx hb dX9_lots_117 hl (by decide) rfl (fun ls hl => ?_)
          refine lv_iload hx hb dX9_lots_119 (lv_at hl 0 rfl) ?_
          refine lv_if_le (tgt := 127) hx hb dX9_lots_121 (by decide) (fun hc_43 => ?_) (fun hc_43 => ?_)
          · have hf := pe_t hf hc_43
            exact w_127 v9_refusals v5_known_41 y1 y2 y4 r_36 y6 y7 y8 r_40 H locs ls hf hP hD hS (lv_sub hl [4, 5, 6, 7, 2, 8, 9, 10, 0] rfl)
          · have hf := pe_f hf hc_43
            refine lv_iinc (v := (y6 + (1 : Int32))) (lv' := [(6, .int (y6 + (1 : Int32))), (11, .int r_40), (10, .int r_38), (5, .int r_36), (9, .int r_34), (0, .ref (a 0)), (1, .int y1), (2, .int y2), (4, .int y4), (7, .int y7), (8, .int y8)]) hx hb dX9_lots_124 hl (k := 8) rfl rfl (by decide) rfl (fun ls hl => ?_)
            exact w_127 v9_refusals v5_known_41 y1 y2 y4 r_36 (y6 + (1 : Int32)) y7 y8 r_40 H locs ls hf hP hD hS (lv_sub hl [5, 6, 7, 8, 3, 0, 9, 10, 1] rfl)
    refine lv_iload_n hx hb dX9_lots_54 rfl (lv_at hl 3 rfl) ?_
    refine lv_istore (lv' := [(5, .int y3), (0, .ref (a 0)), (1, .int y1), (2, .int y2), (3, .int y3), (4, .int y4)]) hx hb dX9_lots_55 hl (by decide) rfl (fun ls hl => ?_)
    refine lv_iconst (v := (0 : Int32)) hx hb dX9_lots_57 (by decide) ?_
    refine lv_istore (lv' := [(6, .int (0 : Int32)), (5, .int y3), (0, .ref (a 0)), (1, .int y1), (2, .int y2), (3, .int y3), (4, .int y4)]) hx hb dX9_lots_58 hl (by decide) rfl (fun ls hl => ?_)
    refine lv_iconst (v := (0 : Int32)) hx hb dX9_lots_60 (by decide) ?_
    refine lv_istore (lv' := [(7, .int (0 : Int32)), (6, .int (0 : Int32)), (5, .int y3), (0, .ref (a 0)), (1, .int y1), (2, .int y2), (3, .int y3), (4, .int y4)]) hx hb dX9_lots_61 hl (by decide) rfl (fun ls hl => ?_)
    refine lv_iconst (v := (0 : Int32)) hx hb dX9_lots_63 (by decide) ?_
    refine lv_istore (lv' := [(8, .int (0 : Int32)), (7, .int (0 : Int32)), (6, .int (0 : Int32)), (5, .int y3), (0, .ref (a 0)), (1, .int y1), (2, .int y2), (3, .int y3), (4, .int y4)]) hx hb dX9_lots_64 hl (by decide) rfl (fun ls hl => ?_)
    exact w_66 1000 v9_refusals v5_known y1 y2 y4 y3 (0 : Int32) (0 : Int32) (0 : Int32) H locs ls hf hP hD hS (lv_sub hl [4, 5, 6, 8, 3, 2, 1, 0] rfl)
  have w_29 : ∀ (v9_refusals : Nat → Int32) (v5_known : Nat → Int32) (H : Heap) (locs : List Loc) (ls : Array Slot), (f_X9_lots_29 v7_sizes v7_orders v1_table) v9_refusals v5_known = some (ro, ov9_refusals, ov5_known) → va_P D xcl (wd_X9 a cyI cyJ v9_refusals v7_rows v7_lengths v7_sizes v7_rests v7_orders v6_hooks v6_lefts v6_heights v1_table v5_known v8_sizes v8_coefficients v8_undoneSums v8_undos v8_nextUndo v8_imageTaken v0_totals v3_letters v3_count v3_next v3_size v4_values v4_lengths) H → va_D A (wd_X9 a cyI cyJ v9_refusals v7_rows v7_lengths v7_sizes v7_rests v7_orders v6_hooks v6_lefts v6_heights v1_table v5_known v8_sizes v8_coefficients v8_undoneSums v8_undos v8_nextUndo v8_imageTaken v0_totals v3_letters v3_count v3_next v3_size v4_values v4_lengths) → va_S A s.heap H locs → lv_has ls 12 [(0, .ref (a 0))] → W p l e { frames := 5, cells := 0, slots := 0, locals := 123 } s m args below meth c H locs 0 0 Q (F0 m 29 ls []) := by
    intro v9_refusals v5_known H locs ls hf hP hD hS hl
    unfold f_X9_lots_29 at hf
    refine lv_aload_n hx hb dX9_lots_29 rfl (lv_at hl 0 rfl) ?_
    refine lv_bipush (v := (-6 : Int32)) hx hb dX9_lots_30 (by decide) ?_
    obtain ⟨r_44, v9_refusals_45, hk_46, hf⟩ := pe_2 hf
    refine xv_i (As := [.int (-6 : Int32)]) (rest := []) (q0 := 0) (ci := 9) Cx hP hD hS hl (pl_X9_X9 a cyI cyJ v9_refusals v7_rows v7_lengths v7_sizes v7_rests v7_orders v6_hooks v6_lefts v6_heights v1_table v5_known v8_sizes v8_coefficients v8_undoneSums v8_undos v8_nextUndo v8_imageTaken v0_totals v3_letters v3_count v3_next v3_size v4_values v4_lengths v9_refusals_45 v7_rows v7_lengths v7_sizes v7_rests v7_orders v6_hooks v6_lefts v6_heights v1_table v5_known v8_sizes v8_coefficients v8_undoneSums v8_undos v8_nextUndo v8_imageTaken v0_totals v3_letters v3_count v3_next v3_size v4_values v4_lengths) (c_X9_refuse l D cyI cyJ G a H.size v9_refusals v7_rows v7_lengths v7_sizes v7_rests v7_orders v6_hooks v6_lefts v6_heights v1_table v5_known v8_sizes v8_coefficients v8_undoneSums v8_undos v8_nextUndo v8_imageTaken v0_totals v3_letters v3_count v3_next v3_size v4_values v4_lengths (-6 : Int32) r_44 v9_refusals_45 hk_46) pk_X9_refuse mw_2_103 ⟨rfl, rfl, Nat.le_of_ble_eq_true rfl, Nat.le_of_ble_eq_true rfl⟩ rfl rfl rfl rfl rfl (Nat.le_of_ble_eq_true rfl) ⟨Nat.le_of_ble_eq_true rfl, Nat.le_of_ble_eq_true rfl⟩ dX9_lots_32 (fun H locs hP hD hS => ?_)
    obtain ⟨rfl, rfl, rfl⟩ := po_3 hf
    rw [← hQ]; exact xe_iret Cx rfl hP hD hS dX9_lots_35
  have w_10 : ∀ (v9_refusals : Nat → Int32) (v5_known : Nat → Int32) (H : Heap) (locs : List Loc) (ls : Array Slot), (f_X9_lots_10 v7_sizes v7_orders v1_table) v9_refusals v5_known = some (ro, ov9_refusals, ov5_known) → va_P D xcl (wd_X9 a cyI cyJ v9_refusals v7_rows v7_lengths v7_sizes v7_rests v7_orders v6_hooks v6_lefts v6_heights v1_table v5_known v8_sizes v8_coefficients v8_undoneSums v8_undos v8_nextUndo v8_imageTaken v0_totals v3_letters v3_count v3_next v3_size v4_values v4_lengths) H → va_D A (wd_X9 a cyI cyJ v9_refusals v7_rows v7_lengths v7_sizes v7_rests v7_orders v6_hooks v6_lefts v6_heights v1_table v5_known v8_sizes v8_coefficients v8_undoneSums v8_undos v8_nextUndo v8_imageTaken v0_totals v3_letters v3_count v3_next v3_size v4_values v4_lengths) → va_S A s.heap H locs → lv_has ls 12 [(0, .ref (a 0))] → W p l e { frames := 5, cells := 0, slots := 0, locals := 123 } s m args below meth c H locs 0 0 Q (F0 m 10 ls []) := by
    intro v9_refusals v5_known H locs ls hf hP hD hS hl
    unfold f_X9_lots_10 at hf
    refine lv_aload_n hx hb dX9_lots_10 rfl (lv_at hl 0 rfl) ?_
    refine lv_bipush (v := (-4 : Int32)) hx hb dX9_lots_11 (by decide) ?_
    obtain ⟨r_47, v9_refusals_48, hk_49, hf⟩ := pe_2 hf
    refine xv_i (As := [.int (-4 : Int32)]) (rest := []) (q0 := 0) (ci := 9) Cx hP hD hS hl (pl_X9_X9 a cyI cyJ v9_refusals v7_rows v7_lengths v7_sizes v7_rests v7_orders v6_hooks v6_lefts v6_heights v1_table v5_known v8_sizes v8_coefficients v8_undoneSums v8_undos v8_nextUndo v8_imageTaken v0_totals v3_letters v3_count v3_next v3_size v4_values v4_lengths v9_refusals_48 v7_rows v7_lengths v7_sizes v7_rests v7_orders v6_hooks v6_lefts v6_heights v1_table v5_known v8_sizes v8_coefficients v8_undoneSums v8_undos v8_nextUndo v8_imageTaken v0_totals v3_letters v3_count v3_next v3_size v4_values v4_lengths) (c_X9_refuse l D cyI cyJ G a H.size v9_refusals v7_rows v7_lengths v7_sizes v7_rests v7_orders v6_hooks v6_lefts v6_heights v1_table v5_known v8_sizes v8_coefficients v8_undoneSums v8_undos v8_nextUndo v8_imageTaken v0_totals v3_letters v3_count v3_next v3_size v4_values v4_lengths (-4 : Int32) r_47 v9_refusals_48 hk_49) pk_X9_refuse mw_2_103 ⟨rfl, rfl, Nat.le_of_ble_eq_true rfl, Nat.le_of_ble_eq_true rfl⟩ rfl rfl rfl rfl rfl (Nat.le_of_ble_eq_true rfl) ⟨Nat.le_of_ble_eq_true rfl, Nat.le_of_ble_eq_true rfl⟩ dX9_lots_13 (fun H locs hP hD hS => ?_)
    obtain ⟨rfl, rfl, rfl⟩ := po_3 hf
    rw [← hQ]; exact xe_iret Cx rfl hP hD hS dX9_lots_16
  refine lv_iload_n hx hb dX9_lots_0 rfl (lv_at hl 1 rfl) ?_
  refine lv_iconst (v := (1 : Int32)) hx hb dX9_lots_1 (by decide) ?_
  refine lv_icmp_lt (tgt := 10) hx hb dX9_lots_2 (by decide) (fun hc_50 => ?_) (fun hc_50 => ?_)
  · have hf := pe_t hf hc_50
    exact w_10 v9_refusals v5_known H locs ls hf hP hD hS (lv_sub hl [0] rfl)
  · have hf := pe_f hf hc_50
    refine lv_iload_n hx hb dX9_lots_5 rfl (lv_at hl 2 rfl) ?_
    refine lv_iconst (v := (1 : Int32)) hx hb dX9_lots_6 (by decide) ?_
    refine lv_icmp_ge (tgt := 17) hx hb dX9_lots_7 (by decide) (fun hc_51 => ?_) (fun hc_51 => ?_)
    · have hf := pe_t hf hc_51
      refine lv_iload_n hx hb dX9_lots_17 rfl (lv_at hl 1 rfl) ?_
      refine lv_bipush (v := (8 : Int32)) hx hb dX9_lots_18 (by decide) ?_
      refine lv_icmp_gt (tgt := 29) hx hb dX9_lots_20 (by decide) (fun hc_52 => ?_) (fun hc_52 => ?_)
      · have hf := pe_t hf hc_52
        exact w_29 v9_refusals v5_known H locs ls hf hP hD hS (lv_sub hl [0] rfl)
      · have hf := pe_f hf hc_52
        refine lv_iload_n hx hb dX9_lots_23 rfl (lv_at hl 2 rfl) ?_
        refine lv_bipush (v := (50 : Int32)) hx hb dX9_lots_24 (by decide) ?_
        refine lv_icmp_le (tgt := 36) hx hb dX9_lots_26 (by decide) (fun hc_53 => ?_) (fun hc_53 => ?_)
        · have hf := pe_t hf hc_53
          refine lv_iload hx hb dX9_lots_36 (lv_at hl 4 rfl) ?_
          refine lv_if_eq (tgt := 54) hx hb dX9_lots_38 (by decide) (fun hc_54 => ?_) (fun hc_54 => ?_)
          · have hf := pe_t hf hc_54
            exact w_54 v9_refusals v5_known x1 x2 x3 x4 H locs ls hf hP hD hS (lv_sub hl [0, 1, 2, 3, 4] rfl)
          · have hf := pe_f hf hc_54
            refine lv_iload hx hb dX9_lots_41 (lv_at hl 4 rfl) ?_
            refine lv_iconst (v := (1 : Int32)) hx hb dX9_lots_43 (by decide) ?_
            refine lv_icmp_eq (tgt := 54) hx hb dX9_lots_44 (by decide) (fun hc_55 => ?_) (fun hc_55 => ?_)
            · have hf := pe_t hf hc_55
              exact w_54 v9_refusals v5_known x1 x2 x3 x4 H locs ls hf hP hD hS (lv_sub hl [0, 1, 2, 3, 4] rfl)
            · have hf := pe_f hf hc_55
              refine lv_aload_n hx hb dX9_lots_47 rfl (lv_at hl 0 rfl) ?_
              refine lv_bipush (v := (-2 : Int32)) hx hb dX9_lots_48 (by decide) ?_
              obtain ⟨r_56, v9_refusals_57, hk_58, hf⟩ := pe_2 hf
              refine xv_i (As := [.int (-2 : Int32)]) (rest := []) (q0 := 0) (ci := 9) Cx hP hD hS hl (pl_X9_X9 a cyI cyJ v9_refusals v7_rows v7_lengths v7_sizes v7_rests v7_orders v6_hooks v6_lefts v6_heights v1_table v5_known v8_sizes v8_coefficients v8_undoneSums v8_undos v8_nextUndo v8_imageTaken v0_totals v3_letters v3_count v3_next v3_size v4_values v4_lengths v9_refusals_57 v7_rows v7_lengths v7_sizes v7_rests v7_orders v6_hooks v6_lefts v6_heights v1_table v5_known v8_sizes v8_coefficients v8_undoneSums v8_undos v8_nextUndo v8_imageTaken v0_totals v3_letters v3_count v3_next v3_size v4_values v4_lengths) (c_X9_refuse l D cyI cyJ G a H.size v9_refusals v7_rows v7_lengths v7_sizes v7_rests v7_orders v6_hooks v6_lefts v6_heights v1_table v5_known v8_sizes v8_coefficients v8_undoneSums v8_undos v8_nextUndo v8_imageTaken v0_totals v3_letters v3_count v3_next v3_size v4_values v4_lengths (-2 : Int32) r_56 v9_refusals_57 hk_58) pk_X9_refuse mw_2_103 ⟨rfl, rfl, Nat.le_of_ble_eq_true rfl, Nat.le_of_ble_eq_true rfl⟩ rfl rfl rfl rfl rfl (Nat.le_of_ble_eq_true rfl) ⟨Nat.le_of_ble_eq_true rfl, Nat.le_of_ble_eq_true rfl⟩ dX9_lots_50 (fun H locs hP hD hS => ?_)
              obtain ⟨rfl, rfl, rfl⟩ := po_3 hf
              rw [← hQ]; exact xe_iret Cx rfl hP hD hS dX9_lots_53
        · have hf := pe_f hf hc_53
          exact w_29 v9_refusals v5_known H locs ls hf hP hD hS (lv_sub hl [0] rfl)
    · have hf := pe_f hf hc_51
      exact w_10 v9_refusals v5_known H locs ls hf hP hD hS (lv_sub hl [0] rfl)
def f_X9_letter_28 (v9_refusals : Nat → Int32) (v3_letters : Nat → Int32) (v3_count : Int32) : Option (Int32 × (Nat → Int32) × (Nat → Int32) × Int32) := p_b2 (f_X9_refuse v9_refusals (-6 : Int32)) (fun r_1 v9_refusals_2 => some (r_1, v9_refusals_2, v3_letters, v3_count))
def f_X9_letter (v9_refusals : Nat → Int32) (v3_letters : Nat → Int32) (v3_count : Int32) (x1 : Int32) : Option (Int32 × (Nat → Int32) × (Nat → Int32) × Int32) := if 0 ≤ x1 then (if (255 : Int32) < x1 then ((f_X9_letter_28) v9_refusals v3_letters v3_count) else (p_b1 (f_X3_areFull v3_count) (fun r_6 => if r_6 = 0 then (p_b2 (f_X3_add v3_letters v3_count x1) (fun v3_letters_10 v3_count_11 => p_b1 (f_X3_howMany v3_count_11) (fun r_13 => some (r_13, v9_refusals, v3_letters_10, v3_count_11)))) else ((f_X9_letter_28) v9_refusals v3_letters v3_count)))) else (p_b2 (f_X9_refuse v9_refusals (-4 : Int32)) (fun r_15 v9_refusals_16 => some (r_15, v9_refusals_16, v3_letters, v3_count)))
set_option maxHeartbeats 4000000 in
set_option maxRecDepth 20000 in
theorem c_X9_letter (l : Launch) (D : va_G) (cyI cyJ : ClassId) (G a : Nat → Nat) (sz : Nat) (v9_refusals : Nat → Int32) (v7_rows : Nat → Int32) (v7_lengths : Nat → Int32) (v7_sizes : Nat → Int32) (v7_rests : Nat → Int32) (v7_orders : Nat → Int32) (v6_hooks : Nat → Int32) (v6_lefts : Nat → Int32) (v6_heights : Nat → Int32) (v1_table : Nat → Int32) (v5_known : Nat → Int32) (v8_sizes : Nat → Int32) (v8_coefficients : Nat → Int32) (v8_undoneSums : Nat → Int32) (v8_undos : Int32) (v8_nextUndo : Int32) (v8_imageTaken : Int32) (v0_totals : Nat → Int64) (v3_letters : Nat → Int32) (v3_count : Int32) (v3_next : Int32) (v3_size : Int32) (v4_values : Nat → Int32) (v4_lengths : Nat → Int32) (x1 : Int32) (ro : Int32) (ov9_refusals : Nat → Int32) (ov3_letters : Nat → Int32) (ov3_count : Int32) (hf : f_X9_letter v9_refusals v3_letters v3_count x1 = some (ro, ov9_refusals, ov3_letters, ov3_count)) : xm_i l yX9_letter (Cond.code yX9_letter cX9_letter 2 (some .int) :: xg_tbl) { frames := 1, cells := 0, slots := 0, locals := 22 } D xcl [(cyI, .int), (cyJ, .long)] G sz [.ref (a 0), .int x1] (wd_X9 a cyI cyJ v9_refusals v7_rows v7_lengths v7_sizes v7_rests v7_orders v6_hooks v6_lefts v6_heights v1_table v5_known v8_sizes v8_coefficients v8_undoneSums v8_undos v8_nextUndo v8_imageTaken v0_totals v3_letters v3_count v3_next v3_size v4_values v4_lengths) (wd_X9 a cyI cyJ ov9_refusals v7_rows v7_lengths v7_sizes v7_rests v7_orders v6_hooks v6_lefts v6_heights v1_table v5_known v8_sizes v8_coefficients v8_undoneSums v8_undos v8_nextUndo v8_imageTaken v0_totals ov3_letters ov3_count v3_next v3_size v4_values v4_lengths) ro := by
  refine xm_of_i (own := RX9) (by decide) rfl rfl (Nat.le_of_ble_eq_true rfl) ?_
  intro p e s m args below meth c ls Q A hQ hAe hin Cx hsz hP hD hS hl
  have Cx1 := Cx
  obtain ⟨⟨hx, hb, hml, hown, hts⟩, hr, hlocks, hK, hA, hT⟩ := Cx1
  have hl : lv_has ls 2 [(0, .ref (a 0)), (1, .int x1)] := hl
  obtain ⟨H, eH⟩ : ∃ H, H = s.heap := ⟨_, rfl⟩
  obtain ⟨locs, eL⟩ : ∃ L : List Loc, L = [] := ⟨_, rfl⟩
  rw [← eH] at hP
  have hS : va_S A s.heap H locs := by rw [eH, eL]; exact hS
  suffices hgo : W p l e { frames := 1, cells := 0, slots := 0, locals := 22 } s m args below meth c H locs 0 0 Q (F0 m 0 ls []) by rw [eH, eL] at hgo; exact hgo
  clear eH eL
  unfold f_X9_letter at hf
  have w_28 : ∀ (v9_refusals : Nat → Int32) (v3_letters : Nat → Int32) (v3_count : Int32) (H : Heap) (locs : List Loc) (ls : Array Slot), f_X9_letter_28 v9_refusals v3_letters v3_count = some (ro, ov9_refusals, ov3_letters, ov3_count) → va_P D xcl (wd_X9 a cyI cyJ v9_refusals v7_rows v7_lengths v7_sizes v7_rests v7_orders v6_hooks v6_lefts v6_heights v1_table v5_known v8_sizes v8_coefficients v8_undoneSums v8_undos v8_nextUndo v8_imageTaken v0_totals v3_letters v3_count v3_next v3_size v4_values v4_lengths) H → va_D A (wd_X9 a cyI cyJ v9_refusals v7_rows v7_lengths v7_sizes v7_rests v7_orders v6_hooks v6_lefts v6_heights v1_table v5_known v8_sizes v8_coefficients v8_undoneSums v8_undos v8_nextUndo v8_imageTaken v0_totals v3_letters v3_count v3_next v3_size v4_values v4_lengths) → va_S A s.heap H locs → lv_has ls 2 [(0, .ref (a 0))] → W p l e { frames := 1, cells := 0, slots := 0, locals := 22 } s m args below meth c H locs 0 0 Q (F0 m 28 ls []) := by
    intro v9_refusals v3_letters v3_count H locs ls hf hP hD hS hl
    unfold f_X9_letter_28 at hf
    refine lv_aload_n hx hb dX9_letter_28 rfl (lv_at hl 0 rfl) ?_
    refine lv_bipush (v := (-6 : Int32)) hx hb dX9_letter_29 (by decide) ?_
    obtain ⟨r_18, v9_refusals_19, hk_20, hf⟩ := pe_2 hf
    refine xv_i (As := [.int (-6 : Int32)]) (rest := []) (q0 := 0) (ci := 9) Cx hP hD hS hl (pl_X9_X9 a cyI cyJ v9_refusals v7_rows v7_lengths v7_sizes v7_rests v7_orders v6_hooks v6_lefts v6_heights v1_table v5_known v8_sizes v8_coefficients v8_undoneSums v8_undos v8_nextUndo v8_imageTaken v0_totals v3_letters v3_count v3_next v3_size v4_values v4_lengths v9_refusals_19 v7_rows v7_lengths v7_sizes v7_rests v7_orders v6_hooks v6_lefts v6_heights v1_table v5_known v8_sizes v8_coefficients v8_undoneSums v8_undos v8_nextUndo v8_imageTaken v0_totals v3_letters v3_count v3_next v3_size v4_values v4_lengths) (c_X9_refuse l D cyI cyJ G a H.size v9_refusals v7_rows v7_lengths v7_sizes v7_rests v7_orders v6_hooks v6_lefts v6_heights v1_table v5_known v8_sizes v8_coefficients v8_undoneSums v8_undos v8_nextUndo v8_imageTaken v0_totals v3_letters v3_count v3_next v3_size v4_values v4_lengths (-6 : Int32) r_18 v9_refusals_19 hk_20) pk_X9_refuse mw_2_103 ⟨rfl, rfl, Nat.le_of_ble_eq_true rfl, Nat.le_of_ble_eq_true rfl⟩ rfl rfl rfl rfl rfl (Nat.le_of_ble_eq_true rfl) ⟨Nat.le_of_ble_eq_true rfl, Nat.le_of_ble_eq_true rfl⟩ dX9_letter_31 (fun H locs hP hD hS => ?_)
    obtain ⟨rfl, rfl, rfl, rfl⟩ := po_4 hf
    rw [← hQ]; exact xe_iret Cx rfl hP hD hS dX9_letter_34
  refine lv_iload_n hx hb dX9_letter_0 rfl (lv_at hl 1 rfl) ?_
  refine lv_if_ge (tgt := 11) hx hb dX9_letter_1 (by decide) (fun hc_21 => ?_) (fun hc_21 => ?_)
  · have hf := pe_t hf hc_21
    refine lv_iload_n hx hb dX9_letter_11 rfl (lv_at hl 1 rfl) ?_
    refine lv_sipush (v := (255 : Int32)) hx hb dX9_letter_12 (by decide) ?_
    refine lv_icmp_gt (tgt := 28) hx hb dX9_letter_15 (by decide) (fun hc_22 => ?_) (fun hc_22 => ?_)
    · have hf := pe_t hf hc_22
      exact w_28 v9_refusals v3_letters v3_count H locs ls hf hP hD hS (lv_sub hl [0] rfl)
    · have hf := pe_f hf hc_22
      refine lv_aload_n hx hb dX9_letter_18 rfl (lv_at hl 0 rfl) ?_
      refine va_get (ci := 9) (v := .ref (a 23)) hx hb hts wX9_in hown hK hP 0 rfl rfl 7 (by decide) (hts _ mw_2_74) (fun _ h9 => h9) rfl dX9_letter_19 ?_
      obtain ⟨r_23, hk_24, hf⟩ := pe_1 hf
      refine xv_z (As := []) (rest := []) (q0 := 0) (ci := 3) Cx hP hD hS hl (pl_X9_X3 a cyI cyJ v9_refusals v7_rows v7_lengths v7_sizes v7_rests v7_orders v6_hooks v6_lefts v6_heights v1_table v5_known v8_sizes v8_coefficients v8_undoneSums v8_undos v8_nextUndo v8_imageTaken v0_totals v3_letters v3_count v3_next v3_size v4_values v4_lengths v3_letters v3_count v3_next v3_size v7_rows v7_lengths v7_sizes v7_rests v7_orders v8_sizes v8_coefficients v8_undoneSums v8_undos v8_nextUndo v8_imageTaken) (c_X3_areFull l D cyI cyJ G a H.size v3_letters v3_count v3_next v3_size v7_rows v7_lengths v7_sizes v7_rests v7_orders v8_sizes v8_coefficients v8_undoneSums v8_undos v8_nextUndo v8_imageTaken r_23 hk_24) pk_X3_areFull mw_3_100 ⟨rfl, rfl, Nat.le_of_ble_eq_true rfl, Nat.le_of_ble_eq_true rfl⟩ rfl rfl rfl rfl rfl (Nat.le_of_ble_eq_true rfl) ⟨Nat.le_of_ble_eq_true rfl, Nat.le_of_ble_eq_true rfl⟩ dX9_letter_22 (fun H locs hn_25 hP hD hS => ?_)
      refine lv_if_eq (tgt := 35) hx hb dX9_letter_25 (by decide) (fun hc_26 => ?_) (fun hc_26 => ?_)
      · have hf := pe_t hf hc_26
        refine lv_aload_n hx hb dX9_letter_35 rfl (lv_at hl 0 rfl) ?_
        refine va_get (ci := 9) (v := .ref (a 23)) hx hb hts wX9_in hown hK hP 0 rfl rfl 7 (by decide) (hts _ mw_2_74) (fun _ h9 => h9) rfl dX9_letter_36 ?_
        refine lv_iload_n hx hb dX9_letter_39 rfl (lv_at hl 1 rfl) ?_
        obtain ⟨v3_letters_27, v3_count_28, hk_29, hf⟩ := pe_2 hf
        refine xv_v (As := [.int x1]) (rest := []) (q0 := 0) (ci := 3) Cx hP hD hS hl (pl_X9_X3 a cyI cyJ v9_refusals v7_rows v7_lengths v7_sizes v7_rests v7_orders v6_hooks v6_lefts v6_heights v1_table v5_known v8_sizes v8_coefficients v8_undoneSums v8_undos v8_nextUndo v8_imageTaken v0_totals v3_letters v3_count v3_next v3_size v4_values v4_lengths v3_letters_27 v3_count_28 v3_next v3_size v7_rows v7_lengths v7_sizes v7_rests v7_orders v8_sizes v8_coefficients v8_undoneSums v8_undos v8_nextUndo v8_imageTaken) (c_X3_add l D cyI cyJ G a H.size v3_letters v3_count v3_next v3_size v7_rows v7_lengths v7_sizes v7_rests v7_orders v8_sizes v8_coefficients v8_undoneSums v8_undos v8_nextUndo v8_imageTaken x1 v3_letters_27 v3_count_28 hk_29) pk_X3_add mw_3_104 ⟨rfl, rfl, Nat.le_of_ble_eq_true rfl, Nat.le_of_ble_eq_true rfl⟩ rfl rfl rfl rfl rfl (Nat.le_of_ble_eq_true rfl) ⟨Nat.le_of_ble_eq_true rfl, Nat.le_of_ble_eq_true rfl⟩ dX9_letter_40 (fun H locs hP hD hS => ?_)
        refine lv_aload_n hx hb dX9_letter_43 rfl (lv_at hl 0 rfl) ?_
        refine va_get (ci := 9) (v := .ref (a 23)) hx hb hts wX9_in hown hK hP 0 rfl rfl 7 (by decide) (hts _ mw_2_74) (fun _ h9 => h9) rfl dX9_letter_44 ?_
        obtain ⟨r_30, hk_31, hf⟩ := pe_1 hf
        refine xv_i (As := []) (rest := []) (q0 := 0) (ci := 3) Cx hP hD hS hl (pl_X9_X3 a cyI cyJ v9_refusals v7_rows v7_lengths v7_sizes v7_rests v7_orders v6_hooks v6_lefts v6_heights v1_table v5_known v8_sizes v8_coefficients v8_undoneSums v8_undos v8_nextUndo v8_imageTaken v0_totals v3_letters_27 v3_count_28 v3_next v3_size v4_values v4_lengths v3_letters_27 v3_count_28 v3_next v3_size v7_rows v7_lengths v7_sizes v7_rests v7_orders v8_sizes v8_coefficients v8_undoneSums v8_undos v8_nextUndo v8_imageTaken) (c_X3_howMany l D cyI cyJ G a H.size v3_letters_27 v3_count_28 v3_next v3_size v7_rows v7_lengths v7_sizes v7_rests v7_orders v8_sizes v8_coefficients v8_undoneSums v8_undos v8_nextUndo v8_imageTaken r_30 hk_31) pk_X3_howMany mw_3_108 ⟨rfl, rfl, Nat.le_of_ble_eq_true rfl, Nat.le_of_ble_eq_true rfl⟩ rfl rfl rfl rfl rfl (Nat.le_of_ble_eq_true rfl) ⟨Nat.le_of_ble_eq_true rfl, Nat.le_of_ble_eq_true rfl⟩ dX9_letter_47 (fun H locs hP hD hS => ?_)
        obtain ⟨rfl, rfl, rfl, rfl⟩ := po_4 hf
        rw [← hQ]; exact xe_iret Cx rfl hP hD hS dX9_letter_50
      · have hf := pe_f hf hc_26
        exact w_28 v9_refusals v3_letters v3_count H locs ls hf hP hD hS (lv_sub hl [0] rfl)
  · have hf := pe_f hf hc_21
    refine lv_aload_n hx hb dX9_letter_4 rfl (lv_at hl 0 rfl) ?_
    refine lv_bipush (v := (-4 : Int32)) hx hb dX9_letter_5 (by decide) ?_
    obtain ⟨r_32, v9_refusals_33, hk_34, hf⟩ := pe_2 hf
    refine xv_i (As := [.int (-4 : Int32)]) (rest := []) (q0 := 0) (ci := 9) Cx hP hD hS hl (pl_X9_X9 a cyI cyJ v9_refusals v7_rows v7_lengths v7_sizes v7_rests v7_orders v6_hooks v6_lefts v6_heights v1_table v5_known v8_sizes v8_coefficients v8_undoneSums v8_undos v8_nextUndo v8_imageTaken v0_totals v3_letters v3_count v3_next v3_size v4_values v4_lengths v9_refusals_33 v7_rows v7_lengths v7_sizes v7_rests v7_orders v6_hooks v6_lefts v6_heights v1_table v5_known v8_sizes v8_coefficients v8_undoneSums v8_undos v8_nextUndo v8_imageTaken v0_totals v3_letters v3_count v3_next v3_size v4_values v4_lengths) (c_X9_refuse l D cyI cyJ G a H.size v9_refusals v7_rows v7_lengths v7_sizes v7_rests v7_orders v6_hooks v6_lefts v6_heights v1_table v5_known v8_sizes v8_coefficients v8_undoneSums v8_undos v8_nextUndo v8_imageTaken v0_totals v3_letters v3_count v3_next v3_size v4_values v4_lengths (-4 : Int32) r_32 v9_refusals_33 hk_34) pk_X9_refuse mw_2_103 ⟨rfl, rfl, Nat.le_of_ble_eq_true rfl, Nat.le_of_ble_eq_true rfl⟩ rfl rfl rfl rfl rfl (Nat.le_of_ble_eq_true rfl) ⟨Nat.le_of_ble_eq_true rfl, Nat.le_of_ble_eq_true rfl⟩ dX9_letter_7 (fun H locs hP hD hS => ?_)
    obtain ⟨rfl, rfl, rfl, rfl⟩ := po_4 hf
    rw [← hQ]; exact xe_iret Cx rfl hP hD hS dX9_letter_10
def f_X9_keepDraft (v8_sizes : Nat → Int32) (v8_coefficients : Nat → Int32) (v8_undoneSums : Nat → Int32) (v8_undos : Int32) (v8_nextUndo : Int32) (x1 : Int32) : Option (Int32 × (Nat → Int32) × (Nat → Int32) × (Nat → Int32) × Int32 × Int32) := p_b5 (f_X8_keepDraft v8_sizes v8_coefficients v8_undoneSums v8_undos v8_nextUndo x1) (fun v8_sizes_1 v8_coefficients_2 v8_undoneSums_3 v8_undos_4 v8_nextUndo_5 => p_b1 (f_X8_termsOf v8_coefficients_2 x1) (fun r_7 => some (r_7, v8_sizes_1, v8_coefficients_2, v8_undoneSums_3, v8_undos_4, v8_nextUndo_5)))
set_option maxHeartbeats 4000000 in
set_option maxRecDepth 20000 in
theorem c_X9_keepDraft (l : Launch) (D : va_G) (cyI cyJ : ClassId) (G a : Nat → Nat) (sz : Nat) (v9_refusals : Nat → Int32) (v7_rows : Nat → Int32) (v7_lengths : Nat → Int32) (v7_sizes : Nat → Int32) (v7_rests : Nat → Int32) (v7_orders : Nat → Int32) (v6_hooks : Nat → Int32) (v6_lefts : Nat → Int32) (v6_heights : Nat → Int32) (v1_table : Nat → Int32) (v5_known : Nat → Int32) (v8_sizes : Nat → Int32) (v8_coefficients : Nat → Int32) (v8_undoneSums : Nat → Int32) (v8_undos : Int32) (v8_nextUndo : Int32) (v8_imageTaken : Int32) (v0_totals : Nat → Int64) (v3_letters : Nat → Int32) (v3_count : Int32) (v3_next : Int32) (v3_size : Int32) (v4_values : Nat → Int32) (v4_lengths : Nat → Int32) (x1 : Int32) (ro : Int32) (ov8_sizes : Nat → Int32) (ov8_coefficients : Nat → Int32) (ov8_undoneSums : Nat → Int32) (ov8_undos : Int32) (ov8_nextUndo : Int32) (hf : f_X9_keepDraft v8_sizes v8_coefficients v8_undoneSums v8_undos v8_nextUndo x1 = some (ro, ov8_sizes, ov8_coefficients, ov8_undoneSums, ov8_undos, ov8_nextUndo)) : xm_i l yX9_keepDraft (Cond.code yX9_keepDraft cX9_keepDraft 2 (some .int) :: xg_tbl) { frames := 3, cells := 0, slots := 0, locals := 111 } D xcl [(cyI, .int), (cyJ, .long)] G sz [.ref (a 0), .int x1] (wd_X9 a cyI cyJ v9_refusals v7_rows v7_lengths v7_sizes v7_rests v7_orders v6_hooks v6_lefts v6_heights v1_table v5_known v8_sizes v8_coefficients v8_undoneSums v8_undos v8_nextUndo v8_imageTaken v0_totals v3_letters v3_count v3_next v3_size v4_values v4_lengths) (wd_X9 a cyI cyJ v9_refusals v7_rows v7_lengths v7_sizes v7_rests v7_orders v6_hooks v6_lefts v6_heights v1_table v5_known ov8_sizes ov8_coefficients ov8_undoneSums ov8_undos ov8_nextUndo v8_imageTaken v0_totals v3_letters v3_count v3_next v3_size v4_values v4_lengths) ro := by
  refine xm_of_i (own := RX9) (by decide) rfl rfl (Nat.le_of_ble_eq_true rfl) ?_
  intro p e s m args below meth c ls Q A hQ hAe hin Cx hsz hP hD hS hl
  have Cx1 := Cx
  obtain ⟨⟨hx, hb, hml, hown, hts⟩, hr, hlocks, hK, hA, hT⟩ := Cx1
  have hl : lv_has ls 2 [(0, .ref (a 0)), (1, .int x1)] := hl
  obtain ⟨H, eH⟩ : ∃ H, H = s.heap := ⟨_, rfl⟩
  obtain ⟨locs, eL⟩ : ∃ L : List Loc, L = [] := ⟨_, rfl⟩
  rw [← eH] at hP
  have hS : va_S A s.heap H locs := by rw [eH, eL]; exact hS
  suffices hgo : W p l e { frames := 3, cells := 0, slots := 0, locals := 111 } s m args below meth c H locs 0 0 Q (F0 m 0 ls []) by rw [eH, eL] at hgo; exact hgo
  clear eH eL
  unfold f_X9_keepDraft at hf
  refine lv_aload_n hx hb dX9_keepDraft_0 rfl (lv_at hl 0 rfl) ?_
  refine va_get (ci := 9) (v := .ref (a 17)) hx hb hts wX9_in hown hK hP 0 rfl rfl 5 (by decide) (hts _ mw_2_72) (fun _ h9 => h9) rfl dX9_keepDraft_1 ?_
  refine lv_iload_n hx hb dX9_keepDraft_4 rfl (lv_at hl 1 rfl) ?_
  obtain ⟨v8_sizes_9, v8_coefficients_10, v8_undoneSums_11, v8_undos_12, v8_nextUndo_13, hk_14, hf⟩ := pe_5 hf
  refine xv_v (As := [.int x1]) (rest := []) (q0 := 0) (ci := 8) Cx hP hD hS hl (pl_X9_X8 a cyI cyJ v9_refusals v7_rows v7_lengths v7_sizes v7_rests v7_orders v6_hooks v6_lefts v6_heights v1_table v5_known v8_sizes v8_coefficients v8_undoneSums v8_undos v8_nextUndo v8_imageTaken v0_totals v3_letters v3_count v3_next v3_size v4_values v4_lengths v8_sizes_9 v8_coefficients_10 v8_undoneSums_11 v8_undos_12 v8_nextUndo_13 v8_imageTaken) (c_X8_keepDraft l D cyI cyJ G a H.size v8_sizes v8_coefficients v8_undoneSums v8_undos v8_nextUndo v8_imageTaken x1 v8_sizes_9 v8_coefficients_10 v8_undoneSums_11 v8_undos_12 v8_nextUndo_13 hk_14) pk_X8_keepDraft mw_3_164 ⟨rfl, rfl, Nat.le_of_ble_eq_true rfl, Nat.le_of_ble_eq_true rfl⟩ rfl rfl rfl rfl rfl (Nat.le_of_ble_eq_true rfl) ⟨Nat.le_of_ble_eq_true rfl, Nat.le_of_ble_eq_true rfl⟩ dX9_keepDraft_5 (fun H locs hP hD hS => ?_)
  refine lv_aload_n hx hb dX9_keepDraft_8 rfl (lv_at hl 0 rfl) ?_
  refine va_get (ci := 9) (v := .ref (a 17)) hx hb hts wX9_in hown hK hP 0 rfl rfl 5 (by decide) (hts _ mw_2_72) (fun _ h9 => h9) rfl dX9_keepDraft_9 ?_
  refine lv_iload_n hx hb dX9_keepDraft_12 rfl (lv_at hl 1 rfl) ?_
  obtain ⟨r_15, hk_16, hf⟩ := pe_1 hf
  refine xv_i (As := [.int x1]) (rest := []) (q0 := 0) (ci := 8) Cx hP hD hS hl (pl_X9_X8 a cyI cyJ v9_refusals v7_rows v7_lengths v7_sizes v7_rests v7_orders v6_hooks v6_lefts v6_heights v1_table v5_known v8_sizes_9 v8_coefficients_10 v8_undoneSums_11 v8_undos_12 v8_nextUndo_13 v8_imageTaken v0_totals v3_letters v3_count v3_next v3_size v4_values v4_lengths v8_sizes_9 v8_coefficients_10 v8_undoneSums_11 v8_undos_12 v8_nextUndo_13 v8_imageTaken) (c_X8_termsOf l D cyI cyJ G a H.size v8_sizes_9 v8_coefficients_10 v8_undoneSums_11 v8_undos_12 v8_nextUndo_13 v8_imageTaken x1 r_15 hk_16) pk_X8_termsOf mw_3_177 ⟨rfl, rfl, Nat.le_of_ble_eq_true rfl, Nat.le_of_ble_eq_true rfl⟩ rfl rfl rfl rfl rfl (Nat.le_of_ble_eq_true rfl) ⟨Nat.le_of_ble_eq_true rfl, Nat.le_of_ble_eq_true rfl⟩ dX9_keepDraft_13 (fun H locs hP hD hS => ?_)
  obtain ⟨rfl, rfl, rfl, rfl, rfl, rfl⟩ := po_6 hf
  rw [← hQ]; exact xe_iret Cx rfl hP hD hS dX9_keepDraft_16
def f_X9_reads (v9_refusals : Nat → Int32) (v7_sizes : Nat → Int32) (v8_sizes : Nat → Int32) (v8_coefficients : Nat → Int32) (v8_undoneSums : Nat → Int32) (v8_undos : Int32) (v8_nextUndo : Int32) (v3_letters : Nat → Int32) (v3_count : Int32) (v3_next : Int32) (v3_size : Int32) (x1 : Int32) : Option (Int32 × (Nat → Int32) × (Nat → Int32) × (Nat → Int32) × (Nat → Int32) × Int32 × Int32 × Int32 × Int32 × Int32) := p_b1 (f_X8_has x1) (fun r_1 => if r_1 = 0 then (p_b2 (f_X9_refuse v9_refusals (-1 : Int32)) (fun r_21 v9_refusals_22 => some (r_21, v9_refusals_22, v8_sizes, v8_coefficients, v8_undoneSums, v8_undos, v8_nextUndo, v3_count, v3_next, v3_size))) else (p_b5 (f_X3_readToDraft v7_sizes v8_sizes v8_coefficients v3_letters v3_count v3_next v3_size) (fun r_5 v8_sizes_6 v8_coefficients_7 v3_next_8 v3_size_9 => p_b1 (f_X3_forget v3_count) (fun v3_count_11 => if r_5 = (-1 : Int32) then (p_b6 (f_X9_keepDraft v8_sizes_6 v8_coefficients_7 v8_undoneSums v8_undos v8_nextUndo x1) (fun r_14 v8_sizes_15 v8_coefficients_16 v8_undoneSums_17 v8_undos_18 v8_nextUndo_19 => some (r_14, v9_refusals, v8_sizes_15, v8_coefficients_16, v8_undoneSums_17, v8_undos_18, v8_nextUndo_19, v3_count_11, v3_next_8, v3_size_9))) else (some (((-1000 : Int32) - r_5), v9_refusals, v8_sizes_6, v8_coefficients_7, v8_undoneSums, v8_undos, v8_nextUndo, v3_count_11, v3_next_8, v3_size_9))))))
set_option maxHeartbeats 4000000 in
set_option maxRecDepth 20000 in
theorem c_X9_reads (l : Launch) (D : va_G) (cyI cyJ : ClassId) (G a : Nat → Nat) (sz : Nat) (v9_refusals : Nat → Int32) (v7_rows : Nat → Int32) (v7_lengths : Nat → Int32) (v7_sizes : Nat → Int32) (v7_rests : Nat → Int32) (v7_orders : Nat → Int32) (v6_hooks : Nat → Int32) (v6_lefts : Nat → Int32) (v6_heights : Nat → Int32) (v1_table : Nat → Int32) (v5_known : Nat → Int32) (v8_sizes : Nat → Int32) (v8_coefficients : Nat → Int32) (v8_undoneSums : Nat → Int32) (v8_undos : Int32) (v8_nextUndo : Int32) (v8_imageTaken : Int32) (v0_totals : Nat → Int64) (v3_letters : Nat → Int32) (v3_count : Int32) (v3_next : Int32) (v3_size : Int32) (v4_values : Nat → Int32) (v4_lengths : Nat → Int32) (x1 : Int32) (ro : Int32) (ov9_refusals : Nat → Int32) (ov8_sizes : Nat → Int32) (ov8_coefficients : Nat → Int32) (ov8_undoneSums : Nat → Int32) (ov8_undos : Int32) (ov8_nextUndo : Int32) (ov3_count : Int32) (ov3_next : Int32) (ov3_size : Int32) (hf : f_X9_reads v9_refusals v7_sizes v8_sizes v8_coefficients v8_undoneSums v8_undos v8_nextUndo v3_letters v3_count v3_next v3_size x1 = some (ro, ov9_refusals, ov8_sizes, ov8_coefficients, ov8_undoneSums, ov8_undos, ov8_nextUndo, ov3_count, ov3_next, ov3_size)) : xm_i l yX9_reads (Cond.code yX9_reads cX9_reads 3 (some .int) :: xg_tbl) { frames := 5, cells := 0, slots := 0, locals := 132 } D xcl [(cyI, .int), (cyJ, .long)] G sz [.ref (a 0), .int x1] (wd_X9 a cyI cyJ v9_refusals v7_rows v7_lengths v7_sizes v7_rests v7_orders v6_hooks v6_lefts v6_heights v1_table v5_known v8_sizes v8_coefficients v8_undoneSums v8_undos v8_nextUndo v8_imageTaken v0_totals v3_letters v3_count v3_next v3_size v4_values v4_lengths) (wd_X9 a cyI cyJ ov9_refusals v7_rows v7_lengths v7_sizes v7_rests v7_orders v6_hooks v6_lefts v6_heights v1_table v5_known ov8_sizes ov8_coefficients ov8_undoneSums ov8_undos ov8_nextUndo v8_imageTaken v0_totals v3_letters ov3_count ov3_next ov3_size v4_values v4_lengths) ro := by
  refine xm_of_i (own := RX9) (by decide) rfl rfl (Nat.le_of_ble_eq_true rfl) ?_
  intro p e s m args below meth c ls Q A hQ hAe hin Cx hsz hP hD hS hl
  have Cx1 := Cx
  obtain ⟨⟨hx, hb, hml, hown, hts⟩, hr, hlocks, hK, hA, hT⟩ := Cx1
  have hl : lv_has ls 3 [(0, .ref (a 0)), (1, .int x1)] := hl
  obtain ⟨H, eH⟩ : ∃ H, H = s.heap := ⟨_, rfl⟩
  obtain ⟨locs, eL⟩ : ∃ L : List Loc, L = [] := ⟨_, rfl⟩
  rw [← eH] at hP
  have hS : va_S A s.heap H locs := by rw [eH, eL]; exact hS
  suffices hgo : W p l e { frames := 5, cells := 0, slots := 0, locals := 132 } s m args below meth c H locs 0 0 Q (F0 m 0 ls []) by rw [eH, eL] at hgo; exact hgo
  clear eH eL
  unfold f_X9_reads at hf
  refine lv_aload_n hx hb dX9_reads_0 rfl (lv_at hl 0 rfl) ?_
  refine va_get (ci := 9) (v := .ref (a 17)) hx hb hts wX9_in hown hK hP 0 rfl rfl 5 (by decide) (hts _ mw_2_72) (fun _ h9 => h9) rfl dX9_reads_1 ?_
  refine lv_iload_n hx hb dX9_reads_4 rfl (lv_at hl 1 rfl) ?_
  obtain ⟨r_24, hk_25, hf⟩ := pe_1 hf
  refine xv_z (As := [.int x1]) (rest := []) (q0 := 0) (ci := 8) Cx hP hD hS hl (pl_X9_X8 a cyI cyJ v9_refusals v7_rows v7_lengths v7_sizes v7_rests v7_orders v6_hooks v6_lefts v6_heights v1_table v5_known v8_sizes v8_coefficients v8_undoneSums v8_undos v8_nextUndo v8_imageTaken v0_totals v3_letters v3_count v3_next v3_size v4_values v4_lengths v8_sizes v8_coefficients v8_undoneSums v8_undos v8_nextUndo v8_imageTaken) (c_X8_has l D cyI cyJ G a H.size v8_sizes v8_coefficients v8_undoneSums v8_undos v8_nextUndo v8_imageTaken x1 r_24 hk_25) pk_X8_has mw_3_116 ⟨rfl, rfl, Nat.le_of_ble_eq_true rfl, Nat.le_of_ble_eq_true rfl⟩ rfl rfl rfl rfl rfl (Nat.le_of_ble_eq_true rfl) ⟨Nat.le_of_ble_eq_true rfl, Nat.le_of_ble_eq_true rfl⟩ dX9_reads_5 (fun H locs hn_26 hP hD hS => ?_)
  refine lv_if_ne (tgt := 17) hx hb dX9_reads_8 (by decide) (fun hc_27 => ?_) (fun hc_27 => ?_)
  · have hf := pe_f hf hc_27
    refine lv_aload_n hx hb dX9_reads_17 rfl (lv_at hl 0 rfl) ?_
    refine va_get (ci := 9) (v := .ref (a 23)) hx hb hts wX9_in hown hK hP 0 rfl rfl 7 (by decide) (hts _ mw_2_74) (fun _ h9 => h9) rfl dX9_reads_18 ?_
    obtain ⟨r_28, v8_sizes_29, v8_coefficients_30, v3_next_31, v3_size_32, hk_33, hf⟩ := pe_5 hf
    refine xv_i (As := []) (rest := []) (q0 := 0) (ci := 3) Cx hP hD hS hl (pl_X9_X3 a cyI cyJ v9_refusals v7_rows v7_lengths v7_sizes v7_rests v7_orders v6_hooks v6_lefts v6_heights v1_table v5_known v8_sizes v8_coefficients v8_undoneSums v8_undos v8_nextUndo v8_imageTaken v0_totals v3_letters v3_count v3_next v3_size v4_values v4_lengths v3_letters v3_count v3_next_31 v3_size_32 v7_rows v7_lengths v7_sizes v7_rests v7_orders v8_sizes_29 v8_coefficients_30 v8_undoneSums v8_undos v8_nextUndo v8_imageTaken) (c_X3_readToDraft l D cyI cyJ G a H.size v3_letters v3_count v3_next v3_size v7_rows v7_lengths v7_sizes v7_rests v7_orders v8_sizes v8_coefficients v8_undoneSums v8_undos v8_nextUndo v8_imageTaken r_28 v8_sizes_29 v8_coefficients_30 v3_next_31 v3_size_32 hk_33) pk_X3_readToDraft mw_3_120 ⟨rfl, rfl, Nat.le_of_ble_eq_true rfl, Nat.le_of_ble_eq_true rfl⟩ rfl rfl rfl rfl rfl (Nat.le_of_ble_eq_true rfl) ⟨Nat.le_of_ble_eq_true rfl, Nat.le_of_ble_eq_true rfl⟩ dX9_reads_21 (fun H locs hP hD hS => ?_)
    refine lv_istore_n (lv' := [(2, .int r_28), (0, .ref (a 0)), (1, .int x1)]) hx hb dX9_reads_24 rfl hl (by decide) rfl (fun ls hl => ?_)
    refine lv_aload_n hx hb dX9_reads_25 rfl (lv_at hl 1 rfl) ?_
    refine va_get (ci := 9) (v := .ref (a 23)) hx hb hts wX9_in hown hK hP 0 rfl rfl 7 (by decide) (hts _ mw_2_74) (fun _ h9 => h9) rfl dX9_reads_26 ?_
    obtain ⟨v3_count_34, hk_35, hf⟩ := pe_1 hf
    refine xv_v (As := []) (rest := []) (q0 := 0) (ci := 3) Cx hP hD hS hl (pl_X9_X3 a cyI cyJ v9_refusals v7_rows v7_lengths v7_sizes v7_rests v7_orders v6_hooks v6_lefts v6_heights v1_table v5_known v8_sizes_29 v8_coefficients_30 v8_undoneSums v8_undos v8_nextUndo v8_imageTaken v0_totals v3_letters v3_count v3_next_31 v3_size_32 v4_values v4_lengths v3_letters v3_count_34 v3_next_31 v3_size_32 v7_rows v7_lengths v7_sizes v7_rests v7_orders v8_sizes_29 v8_coefficients_30 v8_undoneSums v8_undos v8_nextUndo v8_imageTaken) (c_X3_forget l D cyI cyJ G a H.size v3_letters v3_count v3_next_31 v3_size_32 v7_rows v7_lengths v7_sizes v7_rests v7_orders v8_sizes_29 v8_coefficients_30 v8_undoneSums v8_undos v8_nextUndo v8_imageTaken v3_count_34 hk_35) pk_X3_forget mw_3_156 ⟨rfl, rfl, Nat.le_of_ble_eq_true rfl, Nat.le_of_ble_eq_true rfl⟩ rfl rfl rfl rfl rfl (Nat.le_of_ble_eq_true rfl) ⟨Nat.le_of_ble_eq_true rfl, Nat.le_of_ble_eq_true rfl⟩ dX9_reads_29 (fun H locs hP hD hS => ?_)
    refine lv_iload_n hx hb dX9_reads_32 rfl (lv_at hl 0 rfl) ?_
    refine lv_iconst (v := (-1 : Int32)) hx hb dX9_reads_33 (by decide) ?_
    refine lv_icmp_ne (tgt := 45) hx hb dX9_reads_34 (by decide) (fun hc_36 => ?_) (fun hc_36 => ?_)
    · have hf := pe_f hf hc_36
      refine lv_sipush (v := (-1000 : Int32)) hx hb dX9_reads_45 (by decide) ?_
      refine lv_iload_n hx hb dX9_reads_48 rfl (lv_at hl 0 rfl) ?_
      refine lv_isub hx hb dX9_reads_49 ?_
      simp only [Option.some.injEq, Prod.mk.injEq] at hf
      obtain ⟨rfl, rfl, rfl, rfl, rfl, rfl, rfl, rfl, rfl, rfl⟩ := hf
      rw [← hQ]; exact xe_iret Cx rfl hP hD hS dX9_reads_50
    · have hf := pe_t hf hc_36
      refine lv_aload_n hx hb dX9_reads_37 rfl (lv_at hl 1 rfl) ?_
      refine lv_iload_n hx hb dX9_reads_38 rfl (lv_at hl 2 rfl) ?_
      obtain ⟨r_37, v8_sizes_38, v8_coefficients_39, v8_undoneSums_40, v8_undos_41, v8_nextUndo_42, hk_43, hf⟩ := pe_6 hf
      refine xv_i (As := [.int x1]) (rest := []) (q0 := 0) (ci := 9) Cx hP hD hS hl (pl_X9_X9 a cyI cyJ v9_refusals v7_rows v7_lengths v7_sizes v7_rests v7_orders v6_hooks v6_lefts v6_heights v1_table v5_known v8_sizes_29 v8_coefficients_30 v8_undoneSums v8_undos v8_nextUndo v8_imageTaken v0_totals v3_letters v3_count_34 v3_next_31 v3_size_32 v4_values v4_lengths v9_refusals v7_rows v7_lengths v7_sizes v7_rests v7_orders v6_hooks v6_lefts v6_heights v1_table v5_known v8_sizes_38 v8_coefficients_39 v8_undoneSums_40 v8_undos_41 v8_nextUndo_42 v8_imageTaken v0_totals v3_letters v3_count_34 v3_next_31 v3_size_32 v4_values v4_lengths) (c_X9_keepDraft l D cyI cyJ G a H.size v9_refusals v7_rows v7_lengths v7_sizes v7_rests v7_orders v6_hooks v6_lefts v6_heights v1_table v5_known v8_sizes_29 v8_coefficients_30 v8_undoneSums v8_undos v8_nextUndo v8_imageTaken v0_totals v3_letters v3_count_34 v3_next_31 v3_size_32 v4_values v4_lengths x1 r_37 v8_sizes_38 v8_coefficients_39 v8_undoneSums_40 v8_undos_41 v8_nextUndo_42 hk_43) pk_X9_keepDraft mw_3_160 ⟨rfl, rfl, Nat.le_of_ble_eq_true rfl, Nat.le_of_ble_eq_true rfl⟩ rfl rfl rfl rfl rfl (Nat.le_of_ble_eq_true rfl) ⟨Nat.le_of_ble_eq_true rfl, Nat.le_of_ble_eq_true rfl⟩ dX9_reads_39 (fun H locs hP hD hS => ?_)
      refine lv_goto (tgt := 50) hx hb dX9_reads_42 (by decide) ?_
      simp only [Option.some.injEq, Prod.mk.injEq] at hf
      obtain ⟨rfl, rfl, rfl, rfl, rfl, rfl, rfl, rfl, rfl, rfl⟩ := hf
      rw [← hQ]; exact xe_iret Cx rfl hP hD hS dX9_reads_50
  · have hf := pe_t hf hc_27
    refine lv_aload_n hx hb dX9_reads_11 rfl (lv_at hl 0 rfl) ?_
    refine lv_iconst (v := (-1 : Int32)) hx hb dX9_reads_12 (by decide) ?_
    obtain ⟨r_44, v9_refusals_45, hk_46, hf⟩ := pe_2 hf
    refine xv_i (As := [.int (-1 : Int32)]) (rest := []) (q0 := 0) (ci := 9) Cx hP hD hS hl (pl_X9_X9 a cyI cyJ v9_refusals v7_rows v7_lengths v7_sizes v7_rests v7_orders v6_hooks v6_lefts v6_heights v1_table v5_known v8_sizes v8_coefficients v8_undoneSums v8_undos v8_nextUndo v8_imageTaken v0_totals v3_letters v3_count v3_next v3_size v4_values v4_lengths v9_refusals_45 v7_rows v7_lengths v7_sizes v7_rests v7_orders v6_hooks v6_lefts v6_heights v1_table v5_known v8_sizes v8_coefficients v8_undoneSums v8_undos v8_nextUndo v8_imageTaken v0_totals v3_letters v3_count v3_next v3_size v4_values v4_lengths) (c_X9_refuse l D cyI cyJ G a H.size v9_refusals v7_rows v7_lengths v7_sizes v7_rests v7_orders v6_hooks v6_lefts v6_heights v1_table v5_known v8_sizes v8_coefficients v8_undoneSums v8_undos v8_nextUndo v8_imageTaken v0_totals v3_letters v3_count v3_next v3_size v4_values v4_lengths (-1 : Int32) r_44 v9_refusals_45 hk_46) pk_X9_refuse mw_2_103 ⟨rfl, rfl, Nat.le_of_ble_eq_true rfl, Nat.le_of_ble_eq_true rfl⟩ rfl rfl rfl rfl rfl (Nat.le_of_ble_eq_true rfl) ⟨Nat.le_of_ble_eq_true rfl, Nat.le_of_ble_eq_true rfl⟩ dX9_reads_13 (fun H locs hP hD hS => ?_)
    simp only [Option.some.injEq, Prod.mk.injEq] at hf
    obtain ⟨rfl, rfl, rfl, rfl, rfl, rfl, rfl, rfl, rfl, rfl⟩ := hf
    rw [← hQ]; exact xe_iret Cx rfl hP hD hS dX9_reads_16
def f_X9_clear_33 (v9_refusals : Nat → Int32) (v8_sizes : Nat → Int32) (v8_coefficients : Nat → Int32) (v8_undoneSums : Nat → Int32) (v8_undos : Int32) (v8_nextUndo : Int32) (y1 : Int32) (z0 : Int32) : Option (Int32 × (Nat → Int32) × (Nat → Int32) × (Nat → Int32) × (Nat → Int32) × Int32 × Int32) := p_b2 (f_X8_draftMissing v8_sizes v8_coefficients) (fun v8_sizes_1 v8_coefficients_2 => p_b5 (f_X8_keepDraft v8_sizes_1 v8_coefficients_2 v8_undoneSums v8_undos v8_nextUndo y1) (fun v8_sizes_4 v8_coefficients_5 v8_undoneSums_6 v8_undos_7 v8_nextUndo_8 => some (z0, v9_refusals, v8_sizes_4, v8_coefficients_5, v8_undoneSums_6, v8_undos_7, v8_nextUndo_8)))
def f_X9_clear (v9_refusals : Nat → Int32) (v8_sizes : Nat → Int32) (v8_coefficients : Nat → Int32) (v8_undoneSums : Nat → Int32) (v8_undos : Int32) (v8_nextUndo : Int32) (x1 : Int32) : Option (Int32 × (Nat → Int32) × (Nat → Int32) × (Nat → Int32) × (Nat → Int32) × Int32 × Int32) := p_b1 (f_X8_has x1) (fun r_10 => if r_10 = 0 then (p_b2 (f_X9_refuse v9_refusals (-1 : Int32)) (fun r_18 v9_refusals_19 => some (r_18, v9_refusals_19, v8_sizes, v8_coefficients, v8_undoneSums, v8_undos, v8_nextUndo))) else (p_b1 (f_X8_isMissing v8_sizes x1) (fun r_14 => if r_14 = 0 then ((f_X9_clear_33) v9_refusals v8_sizes v8_coefficients v8_undoneSums v8_undos v8_nextUndo x1 (1 : Int32)) else ((f_X9_clear_33) v9_refusals v8_sizes v8_coefficients v8_undoneSums v8_undos v8_nextUndo x1 (0 : Int32)))))
set_option maxHeartbeats 4000000 in
set_option maxRecDepth 20000 in
theorem c_X9_clear (l : Launch) (D : va_G) (cyI cyJ : ClassId) (G a : Nat → Nat) (sz : Nat) (v9_refusals : Nat → Int32) (v7_rows : Nat → Int32) (v7_lengths : Nat → Int32) (v7_sizes : Nat → Int32) (v7_rests : Nat → Int32) (v7_orders : Nat → Int32) (v6_hooks : Nat → Int32) (v6_lefts : Nat → Int32) (v6_heights : Nat → Int32) (v1_table : Nat → Int32) (v5_known : Nat → Int32) (v8_sizes : Nat → Int32) (v8_coefficients : Nat → Int32) (v8_undoneSums : Nat → Int32) (v8_undos : Int32) (v8_nextUndo : Int32) (v8_imageTaken : Int32) (v0_totals : Nat → Int64) (v3_letters : Nat → Int32) (v3_count : Int32) (v3_next : Int32) (v3_size : Int32) (v4_values : Nat → Int32) (v4_lengths : Nat → Int32) (x1 : Int32) (ro : Int32) (ov9_refusals : Nat → Int32) (ov8_sizes : Nat → Int32) (ov8_coefficients : Nat → Int32) (ov8_undoneSums : Nat → Int32) (ov8_undos : Int32) (ov8_nextUndo : Int32) (hf : f_X9_clear v9_refusals v8_sizes v8_coefficients v8_undoneSums v8_undos v8_nextUndo x1 = some (ro, ov9_refusals, ov8_sizes, ov8_coefficients, ov8_undoneSums, ov8_undos, ov8_nextUndo)) : xm_i l yX9_clear (Cond.code yX9_clear cX9_clear 3 (some .int) :: xg_tbl) { frames := 3, cells := 0, slots := 0, locals := 111 } D xcl [(cyI, .int), (cyJ, .long)] G sz [.ref (a 0), .int x1] (wd_X9 a cyI cyJ v9_refusals v7_rows v7_lengths v7_sizes v7_rests v7_orders v6_hooks v6_lefts v6_heights v1_table v5_known v8_sizes v8_coefficients v8_undoneSums v8_undos v8_nextUndo v8_imageTaken v0_totals v3_letters v3_count v3_next v3_size v4_values v4_lengths) (wd_X9 a cyI cyJ ov9_refusals v7_rows v7_lengths v7_sizes v7_rests v7_orders v6_hooks v6_lefts v6_heights v1_table v5_known ov8_sizes ov8_coefficients ov8_undoneSums ov8_undos ov8_nextUndo v8_imageTaken v0_totals v3_letters v3_count v3_next v3_size v4_values v4_lengths) ro := by
  refine xm_of_i (own := RX9) (by decide) rfl rfl (Nat.le_of_ble_eq_true rfl) ?_
  intro p e s m args below meth c ls Q A hQ hAe hin Cx hsz hP hD hS hl
  have Cx1 := Cx
  obtain ⟨⟨hx, hb, hml, hown, hts⟩, hr, hlocks, hK, hA, hT⟩ := Cx1
  have hl : lv_has ls 3 [(0, .ref (a 0)), (1, .int x1)] := hl
  obtain ⟨H, eH⟩ : ∃ H, H = s.heap := ⟨_, rfl⟩
  obtain ⟨locs, eL⟩ : ∃ L : List Loc, L = [] := ⟨_, rfl⟩
  rw [← eH] at hP
  have hS : va_S A s.heap H locs := by rw [eH, eL]; exact hS
  suffices hgo : W p l e { frames := 3, cells := 0, slots := 0, locals := 111 } s m args below meth c H locs 0 0 Q (F0 m 0 ls []) by rw [eH, eL] at hgo; exact hgo
  clear eH eL
  unfold f_X9_clear at hf
  have w_33 : ∀ (v9_refusals : Nat → Int32) (v8_sizes : Nat → Int32) (v8_coefficients : Nat → Int32) (v8_undoneSums : Nat → Int32) (v8_undos : Int32) (v8_nextUndo : Int32) (y1 : Int32) (z0 : Int32) (H : Heap) (locs : List Loc) (ls : Array Slot), f_X9_clear_33 v9_refusals v8_sizes v8_coefficients v8_undoneSums v8_undos v8_nextUndo y1 z0 = some (ro, ov9_refusals, ov8_sizes, ov8_coefficients, ov8_undoneSums, ov8_undos, ov8_nextUndo) → va_P D xcl (wd_X9 a cyI cyJ v9_refusals v7_rows v7_lengths v7_sizes v7_rests v7_orders v6_hooks v6_lefts v6_heights v1_table v5_known v8_sizes v8_coefficients v8_undoneSums v8_undos v8_nextUndo v8_imageTaken v0_totals v3_letters v3_count v3_next v3_size v4_values v4_lengths) H → va_D A (wd_X9 a cyI cyJ v9_refusals v7_rows v7_lengths v7_sizes v7_rests v7_orders v6_hooks v6_lefts v6_heights v1_table v5_known v8_sizes v8_coefficients v8_undoneSums v8_undos v8_nextUndo v8_imageTaken v0_totals v3_letters v3_count v3_next v3_size v4_values v4_lengths) → va_S A s.heap H locs → lv_has ls 3 [(0, .ref (a 0)), (1, .int y1)] → W p l e { frames := 3, cells := 0, slots := 0, locals := 111 } s m args below meth c H locs 0 0 Q (F0 m 33 ls [.int z0]) := by
    intro v9_refusals v8_sizes v8_coefficients v8_undoneSums v8_undos v8_nextUndo y1 z0 H locs ls hf hP hD hS hl
    unfold f_X9_clear_33 at hf
    refine lv_istore_n (lv' := [(2, .int z0), (0, .ref (a 0)), (1, .int y1)]) hx hb dX9_clear_33 rfl hl (by decide) rfl (fun ls hl => ?_)
    refine lv_aload_n hx hb dX9_clear_34 rfl (lv_at hl 1 rfl) ?_
    refine va_get (ci := 9) (v := .ref (a 17)) hx hb hts wX9_in hown hK hP 0 rfl rfl 5 (by decide) (hts _ mw_2_72) (fun _ h9 => h9) rfl dX9_clear_35 ?_
    obtain ⟨v8_sizes_21, v8_coefficients_22, hk_23, hf⟩ := pe_2 hf
    refine xv_v (As := []) (rest := []) (q0 := 0) (ci := 8) Cx hP hD hS hl (pl_X9_X8 a cyI cyJ v9_refusals v7_rows v7_lengths v7_sizes v7_rests v7_orders v6_hooks v6_lefts v6_heights v1_table v5_known v8_sizes v8_coefficients v8_undoneSums v8_undos v8_nextUndo v8_imageTaken v0_totals v3_letters v3_count v3_next v3_size v4_values v4_lengths v8_sizes_21 v8_coefficients_22 v8_undoneSums v8_undos v8_nextUndo v8_imageTaken) (c_X8_draftMissing l D cyI cyJ G a H.size v8_sizes v8_coefficients v8_undoneSums v8_undos v8_nextUndo v8_imageTaken v8_sizes_21 v8_coefficients_22 hk_23) pk_X8_draftMissing mw_3_197 ⟨rfl, rfl, Nat.le_of_ble_eq_true rfl, Nat.le_of_ble_eq_true rfl⟩ rfl rfl rfl rfl rfl (Nat.le_of_ble_eq_true rfl) ⟨Nat.le_of_ble_eq_true rfl, Nat.le_of_ble_eq_true rfl⟩ dX9_clear_38 (fun H locs hP hD hS => ?_)
    refine lv_aload_n hx hb dX9_clear_41 rfl (lv_at hl 1 rfl) ?_
    refine va_get (ci := 9) (v := .ref (a 17)) hx hb hts wX9_in hown hK hP 0 rfl rfl 5 (by decide) (hts _ mw_2_72) (fun _ h9 => h9) rfl dX9_clear_42 ?_
    refine lv_iload_n hx hb dX9_clear_45 rfl (lv_at hl 2 rfl) ?_
    obtain ⟨v8_sizes_24, v8_coefficients_25, v8_undoneSums_26, v8_undos_27, v8_nextUndo_28, hk_29, hf⟩ := pe_5 hf
    refine xv_v (As := [.int y1]) (rest := []) (q0 := 0) (ci := 8) Cx hP hD hS hl (pl_X9_X8 a cyI cyJ v9_refusals v7_rows v7_lengths v7_sizes v7_rests v7_orders v6_hooks v6_lefts v6_heights v1_table v5_known v8_sizes_21 v8_coefficients_22 v8_undoneSums v8_undos v8_nextUndo v8_imageTaken v0_totals v3_letters v3_count v3_next v3_size v4_values v4_lengths v8_sizes_24 v8_coefficients_25 v8_undoneSums_26 v8_undos_27 v8_nextUndo_28 v8_imageTaken) (c_X8_keepDraft l D cyI cyJ G a H.size v8_sizes_21 v8_coefficients_22 v8_undoneSums v8_undos v8_nextUndo v8_imageTaken y1 v8_sizes_24 v8_coefficients_25 v8_undoneSums_26 v8_undos_27 v8_nextUndo_28 hk_29) pk_X8_keepDraft mw_3_164 ⟨rfl, rfl, Nat.le_of_ble_eq_true rfl, Nat.le_of_ble_eq_true rfl⟩ rfl rfl rfl rfl rfl (Nat.le_of_ble_eq_true rfl) ⟨Nat.le_of_ble_eq_true rfl, Nat.le_of_ble_eq_true rfl⟩ dX9_clear_46 (fun H locs hP hD hS => ?_)
    refine lv_iload_n hx hb dX9_clear_49 rfl (lv_at hl 0 rfl) ?_
    obtain ⟨rfl, rfl, rfl, rfl, rfl, rfl, rfl⟩ := po_7 hf
    rw [← hQ]; exact xe_iret Cx rfl hP hD hS dX9_clear_50
  refine lv_aload_n hx hb dX9_clear_0 rfl (lv_at hl 0 rfl) ?_
  refine va_get (ci := 9) (v := .ref (a 17)) hx hb hts wX9_in hown hK hP 0 rfl rfl 5 (by decide) (hts _ mw_2_72) (fun _ h9 => h9) rfl dX9_clear_1 ?_
  refine lv_iload_n hx hb dX9_clear_4 rfl (lv_at hl 1 rfl) ?_
  obtain ⟨r_30, hk_31, hf⟩ := pe_1 hf
  refine xv_z (As := [.int x1]) (rest := []) (q0 := 0) (ci := 8) Cx hP hD hS hl (pl_X9_X8 a cyI cyJ v9_refusals v7_rows v7_lengths v7_sizes v7_rests v7_orders v6_hooks v6_lefts v6_heights v1_table v5_known v8_sizes v8_coefficients v8_undoneSums v8_undos v8_nextUndo v8_imageTaken v0_totals v3_letters v3_count v3_next v3_size v4_values v4_lengths v8_sizes v8_coefficients v8_undoneSums v8_undos v8_nextUndo v8_imageTaken) (c_X8_has l D cyI cyJ G a H.size v8_sizes v8_coefficients v8_undoneSums v8_undos v8_nextUndo v8_imageTaken x1 r_30 hk_31) pk_X8_has mw_3_116 ⟨rfl, rfl, Nat.le_of_ble_eq_true rfl, Nat.le_of_ble_eq_true rfl⟩ rfl rfl rfl rfl rfl (Nat.le_of_ble_eq_true rfl) ⟨Nat.le_of_ble_eq_true rfl, Nat.le_of_ble_eq_true rfl⟩ dX9_clear_5 (fun H locs hn_32 hP hD hS => ?_)
  refine lv_if_ne (tgt := 17) hx hb dX9_clear_8 (by decide) (fun hc_33 => ?_) (fun hc_33 => ?_)
  · have hf := pe_f hf hc_33
    refine lv_aload_n hx hb dX9_clear_17 rfl (lv_at hl 0 rfl) ?_
    refine va_get (ci := 9) (v := .ref (a 17)) hx hb hts wX9_in hown hK hP 0 rfl rfl 5 (by decide) (hts _ mw_2_72) (fun _ h9 => h9) rfl dX9_clear_18 ?_
    refine lv_iload_n hx hb dX9_clear_21 rfl (lv_at hl 1 rfl) ?_
    obtain ⟨r_34, hk_35, hf⟩ := pe_1 hf
    refine xv_z (As := [.int x1]) (rest := []) (q0 := 0) (ci := 8) Cx hP hD hS hl (pl_X9_X8 a cyI cyJ v9_refusals v7_rows v7_lengths v7_sizes v7_rests v7_orders v6_hooks v6_lefts v6_heights v1_table v5_known v8_sizes v8_coefficients v8_undoneSums v8_undos v8_nextUndo v8_imageTaken v0_totals v3_letters v3_count v3_next v3_size v4_values v4_lengths v8_sizes v8_coefficients v8_undoneSums v8_undos v8_nextUndo v8_imageTaken) (c_X8_isMissing l D cyI cyJ G a H.size v8_sizes v8_coefficients v8_undoneSums v8_undos v8_nextUndo v8_imageTaken x1 r_34 hk_35) pk_X8_isMissing mw_3_189 ⟨rfl, rfl, Nat.le_of_ble_eq_true rfl, Nat.le_of_ble_eq_true rfl⟩ rfl rfl rfl rfl rfl (Nat.le_of_ble_eq_true rfl) ⟨Nat.le_of_ble_eq_true rfl, Nat.le_of_ble_eq_true rfl⟩ dX9_clear_22 (fun H locs hn_36 hP hD hS => ?_)
    refine lv_if_eq (tgt := 32) hx hb dX9_clear_25 (by decide) (fun hc_37 => ?_) (fun hc_37 => ?_)
    · have hf := pe_t hf hc_37
      refine lv_iconst (v := (1 : Int32)) hx hb dX9_clear_32 (by decide) ?_
      exact w_33 v9_refusals v8_sizes v8_coefficients v8_undoneSums v8_undos v8_nextUndo x1 (1 : Int32) H locs ls hf hP hD hS (lv_sub hl [0, 1] rfl)
    · have hf := pe_f hf hc_37
      refine lv_iconst (v := (0 : Int32)) hx hb dX9_clear_28 (by decide) ?_
      refine lv_goto (tgt := 33) hx hb dX9_clear_29 (by decide) ?_
      exact w_33 v9_refusals v8_sizes v8_coefficients v8_undoneSums v8_undos v8_nextUndo x1 (0 : Int32) H locs ls hf hP hD hS (lv_sub hl [0, 1] rfl)
  · have hf := pe_t hf hc_33
    refine lv_aload_n hx hb dX9_clear_11 rfl (lv_at hl 0 rfl) ?_
    refine lv_iconst (v := (-1 : Int32)) hx hb dX9_clear_12 (by decide) ?_
    obtain ⟨r_38, v9_refusals_39, hk_40, hf⟩ := pe_2 hf
    refine xv_i (As := [.int (-1 : Int32)]) (rest := []) (q0 := 0) (ci := 9) Cx hP hD hS hl (pl_X9_X9 a cyI cyJ v9_refusals v7_rows v7_lengths v7_sizes v7_rests v7_orders v6_hooks v6_lefts v6_heights v1_table v5_known v8_sizes v8_coefficients v8_undoneSums v8_undos v8_nextUndo v8_imageTaken v0_totals v3_letters v3_count v3_next v3_size v4_values v4_lengths v9_refusals_39 v7_rows v7_lengths v7_sizes v7_rests v7_orders v6_hooks v6_lefts v6_heights v1_table v5_known v8_sizes v8_coefficients v8_undoneSums v8_undos v8_nextUndo v8_imageTaken v0_totals v3_letters v3_count v3_next v3_size v4_values v4_lengths) (c_X9_refuse l D cyI cyJ G a H.size v9_refusals v7_rows v7_lengths v7_sizes v7_rests v7_orders v6_hooks v6_lefts v6_heights v1_table v5_known v8_sizes v8_coefficients v8_undoneSums v8_undos v8_nextUndo v8_imageTaken v0_totals v3_letters v3_count v3_next v3_size v4_values v4_lengths (-1 : Int32) r_38 v9_refusals_39 hk_40) pk_X9_refuse mw_2_103 ⟨rfl, rfl, Nat.le_of_ble_eq_true rfl, Nat.le_of_ble_eq_true rfl⟩ rfl rfl rfl rfl rfl (Nat.le_of_ble_eq_true rfl) ⟨Nat.le_of_ble_eq_true rfl, Nat.le_of_ble_eq_true rfl⟩ dX9_clear_13 (fun H locs hP hD hS => ?_)
    obtain ⟨rfl, rfl, rfl, rfl, rfl, rfl, rfl⟩ := po_7 hf
    rw [← hQ]; exact xe_iret Cx rfl hP hD hS dX9_clear_16
def f_X9_firstTerm (v8_sizes : Nat → Int32) (v8_coefficients : Nat → Int32) (x1 : Int32) : Option (Int32) := p_b1 (f_X8_firstTermOf v8_coefficients x1) (fun r_1 => if 0 ≤ r_1 then (p_b1 (f_X8_sizeOf v8_sizes x1) (fun r_4 => p_b1 (f_X7_firstOf r_4) (fun r_6 => some ((r_6 + r_1))))) else (some ((-9 : Int32))))
set_option maxHeartbeats 4000000 in
set_option maxRecDepth 20000 in
theorem c_X9_firstTerm (l : Launch) (D : va_G) (cyI cyJ : ClassId) (G a : Nat → Nat) (sz : Nat) (v9_refusals : Nat → Int32) (v7_rows : Nat → Int32) (v7_lengths : Nat → Int32) (v7_sizes : Nat → Int32) (v7_rests : Nat → Int32) (v7_orders : Nat → Int32) (v6_hooks : Nat → Int32) (v6_lefts : Nat → Int32) (v6_heights : Nat → Int32) (v1_table : Nat → Int32) (v5_known : Nat → Int32) (v8_sizes : Nat → Int32) (v8_coefficients : Nat → Int32) (v8_undoneSums : Nat → Int32) (v8_undos : Int32) (v8_nextUndo : Int32) (v8_imageTaken : Int32) (v0_totals : Nat → Int64) (v3_letters : Nat → Int32) (v3_count : Int32) (v3_next : Int32) (v3_size : Int32) (v4_values : Nat → Int32) (v4_lengths : Nat → Int32) (x1 : Int32) (ro : Int32) (hf : f_X9_firstTerm v8_sizes v8_coefficients x1 = some ro) : xm_i l yX9_firstTerm (Cond.code yX9_firstTerm cX9_firstTerm 3 (some .int) :: xg_tbl) { frames := 3, cells := 0, slots := 0, locals := 66 } D xcl [(cyI, .int), (cyJ, .long)] G sz [.ref (a 0), .int x1] (wd_X9 a cyI cyJ v9_refusals v7_rows v7_lengths v7_sizes v7_rests v7_orders v6_hooks v6_lefts v6_heights v1_table v5_known v8_sizes v8_coefficients v8_undoneSums v8_undos v8_nextUndo v8_imageTaken v0_totals v3_letters v3_count v3_next v3_size v4_values v4_lengths) (wd_X9 a cyI cyJ v9_refusals v7_rows v7_lengths v7_sizes v7_rests v7_orders v6_hooks v6_lefts v6_heights v1_table v5_known v8_sizes v8_coefficients v8_undoneSums v8_undos v8_nextUndo v8_imageTaken v0_totals v3_letters v3_count v3_next v3_size v4_values v4_lengths) ro := by
  refine xm_of_i (own := RX9) (by decide) rfl rfl (Nat.le_of_ble_eq_true rfl) ?_
  intro p e s m args below meth c ls Q A hQ hAe hin Cx hsz hP hD hS hl
  have Cx1 := Cx
  obtain ⟨⟨hx, hb, hml, hown, hts⟩, hr, hlocks, hK, hA, hT⟩ := Cx1
  have hl : lv_has ls 3 [(0, .ref (a 0)), (1, .int x1)] := hl
  obtain ⟨H, eH⟩ : ∃ H, H = s.heap := ⟨_, rfl⟩
  obtain ⟨locs, eL⟩ : ∃ L : List Loc, L = [] := ⟨_, rfl⟩
  rw [← eH] at hP
  have hS : va_S A s.heap H locs := by rw [eH, eL]; exact hS
  suffices hgo : W p l e { frames := 3, cells := 0, slots := 0, locals := 66 } s m args below meth c H locs 0 0 Q (F0 m 0 ls []) by rw [eH, eL] at hgo; exact hgo
  clear eH eL
  unfold f_X9_firstTerm at hf
  refine lv_aload_n hx hb dX9_firstTerm_0 rfl (lv_at hl 0 rfl) ?_
  refine va_get (ci := 9) (v := .ref (a 17)) hx hb hts wX9_in hown hK hP 0 rfl rfl 5 (by decide) (hts _ mw_2_72) (fun _ h9 => h9) rfl dX9_firstTerm_1 ?_
  refine lv_iload_n hx hb dX9_firstTerm_4 rfl (lv_at hl 1 rfl) ?_
  obtain ⟨r_8, hk_9, hf⟩ := pe_1 hf
  refine xv_i (As := [.int x1]) (rest := []) (q0 := 0) (ci := 8) Cx hP hD hS hl (pl_X9_X8 a cyI cyJ v9_refusals v7_rows v7_lengths v7_sizes v7_rests v7_orders v6_hooks v6_lefts v6_heights v1_table v5_known v8_sizes v8_coefficients v8_undoneSums v8_undos v8_nextUndo v8_imageTaken v0_totals v3_letters v3_count v3_next v3_size v4_values v4_lengths v8_sizes v8_coefficients v8_undoneSums v8_undos v8_nextUndo v8_imageTaken) (c_X8_firstTermOf l D cyI cyJ G a H.size v8_sizes v8_coefficients v8_undoneSums v8_undos v8_nextUndo v8_imageTaken x1 r_8 hk_9) pk_X8_firstTermOf mw_3_211 ⟨rfl, rfl, Nat.le_of_ble_eq_true rfl, Nat.le_of_ble_eq_true rfl⟩ rfl rfl rfl rfl rfl (Nat.le_of_ble_eq_true rfl) ⟨Nat.le_of_ble_eq_true rfl, Nat.le_of_ble_eq_true rfl⟩ dX9_firstTerm_5 (fun H locs hP hD hS => ?_)
  refine lv_istore_n (lv' := [(2, .int r_8), (0, .ref (a 0)), (1, .int x1)]) hx hb dX9_firstTerm_8 rfl hl (by decide) rfl (fun ls hl => ?_)
  refine lv_iload_n hx hb dX9_firstTerm_9 rfl (lv_at hl 0 rfl) ?_
  refine lv_if_ge (tgt := 18) hx hb dX9_firstTerm_10 (by decide) (fun hc_10 => ?_) (fun hc_10 => ?_)
  · have hf := pe_t hf hc_10
    refine lv_aload_n hx hb dX9_firstTerm_18 rfl (lv_at hl 1 rfl) ?_
    refine va_get (ci := 9) (v := .ref (a 2)) hx hb hts wX9_in hown hK hP 0 rfl rfl 0 (by decide) (hts _ mw_2_67) (fun _ h9 => h9) rfl dX9_firstTerm_19 ?_
    refine lv_aload_n hx hb dX9_firstTerm_22 rfl (lv_at hl 1 rfl) ?_
    refine va_get (ci := 9) (v := .ref (a 17)) hx hb hts wX9_in hown hK hP 0 rfl rfl 5 (by decide) (hts _ mw_2_72) (fun _ h9 => h9) rfl dX9_firstTerm_23 ?_
    refine lv_iload_n hx hb dX9_firstTerm_26 rfl (lv_at hl 2 rfl) ?_
    obtain ⟨r_11, hk_12, hf⟩ := pe_1 hf
    refine xv_i (As := [.int x1]) (rest := [.ref (a 2)]) (q0 := 0) (ci := 8) Cx hP hD hS hl (pl_X9_X8 a cyI cyJ v9_refusals v7_rows v7_lengths v7_sizes v7_rests v7_orders v6_hooks v6_lefts v6_heights v1_table v5_known v8_sizes v8_coefficients v8_undoneSums v8_undos v8_nextUndo v8_imageTaken v0_totals v3_letters v3_count v3_next v3_size v4_values v4_lengths v8_sizes v8_coefficients v8_undoneSums v8_undos v8_nextUndo v8_imageTaken) (c_X8_sizeOf l D cyI cyJ G a H.size v8_sizes v8_coefficients v8_undoneSums v8_undos v8_nextUndo v8_imageTaken x1 r_11 hk_12) pk_X8_sizeOf mw_3_206 ⟨rfl, rfl, Nat.le_of_ble_eq_true rfl, Nat.le_of_ble_eq_true rfl⟩ rfl rfl rfl rfl rfl (Nat.le_of_ble_eq_true rfl) ⟨Nat.le_of_ble_eq_true rfl, Nat.le_of_ble_eq_true rfl⟩ dX9_firstTerm_27 (fun H locs hP hD hS => ?_)
    obtain ⟨r_13, hk_14, hf⟩ := pe_1 hf
    refine xv_i (As := [.int r_11]) (rest := []) (q0 := 0) (ci := 7) Cx hP hD hS hl (pl_X9_X7 a cyI cyJ v9_refusals v7_rows v7_lengths v7_sizes v7_rests v7_orders v6_hooks v6_lefts v6_heights v1_table v5_known v8_sizes v8_coefficients v8_undoneSums v8_undos v8_nextUndo v8_imageTaken v0_totals v3_letters v3_count v3_next v3_size v4_values v4_lengths v7_rows v7_lengths v7_sizes v7_rests v7_orders) (c_X7_firstOf l D cyI cyJ G a H.size v7_rows v7_lengths v7_sizes v7_rests v7_orders r_11 r_13 hk_14) pk_X7_firstOf mw_2_176 ⟨rfl, rfl, Nat.le_of_ble_eq_true rfl, Nat.le_of_ble_eq_true rfl⟩ rfl rfl rfl rfl rfl (Nat.le_of_ble_eq_true rfl) ⟨Nat.le_of_ble_eq_true rfl, Nat.le_of_ble_eq_true rfl⟩ dX9_firstTerm_30 (fun H locs hP hD hS => ?_)
    refine lv_iload_n hx hb dX9_firstTerm_33 rfl (lv_at hl 0 rfl) ?_
    refine lv_iadd hx hb dX9_firstTerm_34 ?_
    obtain rfl := po_1 hf
    rw [← hQ]; exact xe_iret Cx rfl hP hD hS dX9_firstTerm_35
  · have hf := pe_f hf hc_10
    refine lv_bipush (v := (-9 : Int32)) hx hb dX9_firstTerm_13 (by decide) ?_
    refine lv_goto (tgt := 35) hx hb dX9_firstTerm_15 (by decide) ?_
    obtain rfl := po_1 hf
    rw [← hQ]; exact xe_iret Cx rfl hP hD hS dX9_firstTerm_35
def f_X9_sum_26 (v8_sizes : Nat → Int32) (v8_coefficients : Nat → Int32) (v9_refusals : Nat → Int32) : Option (Int32 × (Nat → Int32)) := p_b2 (f_X9_refuse v9_refusals (-2 : Int32)) (fun r_1 v9_refusals_2 => some (r_1, v9_refusals_2))
def f_X9_sum (v9_refusals : Nat → Int32) (v8_sizes : Nat → Int32) (v8_coefficients : Nat → Int32) (x1 : Int32) (x2 : Int32) : Option (Int32 × (Nat → Int32)) := p_b1 (f_X8_has x1) (fun r_4 => if r_4 = 0 then (p_b2 (f_X9_refuse v9_refusals (-1 : Int32)) (fun r_22 v9_refusals_23 => some (r_22, v9_refusals_23))) else (if x2 < 0 then ((f_X9_sum_26 v8_sizes v8_coefficients) v9_refusals) else (if x2 ≤ (2 : Int32) then (p_b1 (f_X8_isMissing v8_sizes x1) (fun r_10 => if r_10 = 0 then (if x2 = (0 : Int32) then (p_b1 (f_X8_sizeOf v8_sizes x1) (fun r_15 => some (r_15, v9_refusals))) else (if x2 = (1 : Int32) then (p_b1 (f_X8_termsOf v8_coefficients x1) (fun r_18 => some (r_18, v9_refusals))) else (p_b1 (f_X9_firstTerm v8_sizes v8_coefficients x1) (fun r_20 => some (r_20, v9_refusals))))) else (some ((-11 : Int32), v9_refusals)))) else ((f_X9_sum_26 v8_sizes v8_coefficients) v9_refusals))))
set_option maxHeartbeats 4000000 in
set_option maxRecDepth 20000 in
theorem c_X9_sum (l : Launch) (D : va_G) (cyI cyJ : ClassId) (G a : Nat → Nat) (sz : Nat) (v9_refusals : Nat → Int32) (v7_rows : Nat → Int32) (v7_lengths : Nat → Int32) (v7_sizes : Nat → Int32) (v7_rests : Nat → Int32) (v7_orders : Nat → Int32) (v6_hooks : Nat → Int32) (v6_lefts : Nat → Int32) (v6_heights : Nat → Int32) (v1_table : Nat → Int32) (v5_known : Nat → Int32) (v8_sizes : Nat → Int32) (v8_coefficients : Nat → Int32) (v8_undoneSums : Nat → Int32) (v8_undos : Int32) (v8_nextUndo : Int32) (v8_imageTaken : Int32) (v0_totals : Nat → Int64) (v3_letters : Nat → Int32) (v3_count : Int32) (v3_next : Int32) (v3_size : Int32) (v4_values : Nat → Int32) (v4_lengths : Nat → Int32) (x1 : Int32) (x2 : Int32) (ro : Int32) (ov9_refusals : Nat → Int32) (hf : f_X9_sum v9_refusals v8_sizes v8_coefficients x1 x2 = some (ro, ov9_refusals)) : xm_i l yX9_sum (Cond.code yX9_sum cX9_sum 3 (some .int) :: xg_tbl) { frames := 4, cells := 0, slots := 0, locals := 88 } D xcl [(cyI, .int), (cyJ, .long)] G sz [.ref (a 0), .int x1, .int x2] (wd_X9 a cyI cyJ v9_refusals v7_rows v7_lengths v7_sizes v7_rests v7_orders v6_hooks v6_lefts v6_heights v1_table v5_known v8_sizes v8_coefficients v8_undoneSums v8_undos v8_nextUndo v8_imageTaken v0_totals v3_letters v3_count v3_next v3_size v4_values v4_lengths) (wd_X9 a cyI cyJ ov9_refusals v7_rows v7_lengths v7_sizes v7_rests v7_orders v6_hooks v6_lefts v6_heights v1_table v5_known v8_sizes v8_coefficients v8_undoneSums v8_undos v8_nextUndo v8_imageTaken v0_totals v3_letters v3_count v3_next v3_size v4_values v4_lengths) ro := by
  refine xm_of_i (own := RX9) (by decide) rfl rfl (Nat.le_of_ble_eq_true rfl) ?_
  intro p e s m args below meth c ls Q A hQ hAe hin Cx hsz hP hD hS hl
  have Cx1 := Cx
  obtain ⟨⟨hx, hb, hml, hown, hts⟩, hr, hlocks, hK, hA, hT⟩ := Cx1
  have hl : lv_has ls 3 [(0, .ref (a 0)), (1, .int x1), (2, .int x2)] := hl
  obtain ⟨H, eH⟩ : ∃ H, H = s.heap := ⟨_, rfl⟩
  obtain ⟨locs, eL⟩ : ∃ L : List Loc, L = [] := ⟨_, rfl⟩
  rw [← eH] at hP
  have hS : va_S A s.heap H locs := by rw [eH, eL]; exact hS
  suffices hgo : W p l e { frames := 4, cells := 0, slots := 0, locals := 88 } s m args below meth c H locs 0 0 Q (F0 m 0 ls []) by rw [eH, eL] at hgo; exact hgo
  clear eH eL
  unfold f_X9_sum at hf
  have w_26 : ∀ (v9_refusals : Nat → Int32) (H : Heap) (locs : List Loc) (ls : Array Slot), (f_X9_sum_26 v8_sizes v8_coefficients) v9_refusals = some (ro, ov9_refusals) → va_P D xcl (wd_X9 a cyI cyJ v9_refusals v7_rows v7_lengths v7_sizes v7_rests v7_orders v6_hooks v6_lefts v6_heights v1_table v5_known v8_sizes v8_coefficients v8_undoneSums v8_undos v8_nextUndo v8_imageTaken v0_totals v3_letters v3_count v3_next v3_size v4_values v4_lengths) H → va_D A (wd_X9 a cyI cyJ v9_refusals v7_rows v7_lengths v7_sizes v7_rests v7_orders v6_hooks v6_lefts v6_heights v1_table v5_known v8_sizes v8_coefficients v8_undoneSums v8_undos v8_nextUndo v8_imageTaken v0_totals v3_letters v3_count v3_next v3_size v4_values v4_lengths) → va_S A s.heap H locs → lv_has ls 3 [(0, .ref (a 0))] → W p l e { frames := 4, cells := 0, slots := 0, locals := 88 } s m args below meth c H locs 0 0 Q (F0 m 26 ls []) := by
    intro v9_refusals H locs ls hf hP hD hS hl
    unfold f_X9_sum_26 at hf
    refine lv_aload_n hx hb dX9_sum_26 rfl (lv_at hl 0 rfl) ?_
    refine lv_bipush (v := (-2 : Int32)) hx hb dX9_sum_27 (by decide) ?_
    obtain ⟨r_25, v9_refusals_26, hk_27, hf⟩ := pe_2 hf
    refine xv_i (As := [.int (-2 : Int32)]) (rest := []) (q0 := 0) (ci := 9) Cx hP hD hS hl (pl_X9_X9 a cyI cyJ v9_refusals v7_rows v7_lengths v7_sizes v7_rests v7_orders v6_hooks v6_lefts v6_heights v1_table v5_known v8_sizes v8_coefficients v8_undoneSums v8_undos v8_nextUndo v8_imageTaken v0_totals v3_letters v3_count v3_next v3_size v4_values v4_lengths v9_refusals_26 v7_rows v7_lengths v7_sizes v7_rests v7_orders v6_hooks v6_lefts v6_heights v1_table v5_known v8_sizes v8_coefficients v8_undoneSums v8_undos v8_nextUndo v8_imageTaken v0_totals v3_letters v3_count v3_next v3_size v4_values v4_lengths) (c_X9_refuse l D cyI cyJ G a H.size v9_refusals v7_rows v7_lengths v7_sizes v7_rests v7_orders v6_hooks v6_lefts v6_heights v1_table v5_known v8_sizes v8_coefficients v8_undoneSums v8_undos v8_nextUndo v8_imageTaken v0_totals v3_letters v3_count v3_next v3_size v4_values v4_lengths (-2 : Int32) r_25 v9_refusals_26 hk_27) pk_X9_refuse mw_2_103 ⟨rfl, rfl, Nat.le_of_ble_eq_true rfl, Nat.le_of_ble_eq_true rfl⟩ rfl rfl rfl rfl rfl (Nat.le_of_ble_eq_true rfl) ⟨Nat.le_of_ble_eq_true rfl, Nat.le_of_ble_eq_true rfl⟩ dX9_sum_29 (fun H locs hP hD hS => ?_)
    obtain ⟨rfl, rfl⟩ := po_2 hf
    rw [← hQ]; exact xe_iret Cx rfl hP hD hS dX9_sum_32
  refine lv_aload_n hx hb dX9_sum_0 rfl (lv_at hl 0 rfl) ?_
  refine va_get (ci := 9) (v := .ref (a 17)) hx hb hts wX9_in hown hK hP 0 rfl rfl 5 (by decide) (hts _ mw_2_72) (fun _ h9 => h9) rfl dX9_sum_1 ?_
  refine lv_iload_n hx hb dX9_sum_4 rfl (lv_at hl 1 rfl) ?_
  obtain ⟨r_28, hk_29, hf⟩ := pe_1 hf
  refine xv_z (As := [.int x1]) (rest := []) (q0 := 0) (ci := 8) Cx hP hD hS hl (pl_X9_X8 a cyI cyJ v9_refusals v7_rows v7_lengths v7_sizes v7_rests v7_orders v6_hooks v6_lefts v6_heights v1_table v5_known v8_sizes v8_coefficients v8_undoneSums v8_undos v8_nextUndo v8_imageTaken v0_totals v3_letters v3_count v3_next v3_size v4_values v4_lengths v8_sizes v8_coefficients v8_undoneSums v8_undos v8_nextUndo v8_imageTaken) (c_X8_has l D cyI cyJ G a H.size v8_sizes v8_coefficients v8_undoneSums v8_undos v8_nextUndo v8_imageTaken x1 r_28 hk_29) pk_X8_has mw_3_116 ⟨rfl, rfl, Nat.le_of_ble_eq_true rfl, Nat.le_of_ble_eq_true rfl⟩ rfl rfl rfl rfl rfl (Nat.le_of_ble_eq_true rfl) ⟨Nat.le_of_ble_eq_true rfl, Nat.le_of_ble_eq_true rfl⟩ dX9_sum_5 (fun H locs hn_30 hP hD hS => ?_)
  refine lv_if_ne (tgt := 17) hx hb dX9_sum_8 (by decide) (fun hc_31 => ?_) (fun hc_31 => ?_)
  · have hf := pe_f hf hc_31
    refine lv_iload_n hx hb dX9_sum_17 rfl (lv_at hl 2 rfl) ?_
    refine lv_if_lt (tgt := 26) hx hb dX9_sum_18 (by decide) (fun hc_32 => ?_) (fun hc_32 => ?_)
    · have hf := pe_t hf hc_32
      exact w_26 v9_refusals H locs ls hf hP hD hS (lv_sub hl [0] rfl)
    · have hf := pe_f hf hc_32
      refine lv_iload_n hx hb dX9_sum_21 rfl (lv_at hl 2 rfl) ?_
      refine lv_iconst (v := (2 : Int32)) hx hb dX9_sum_22 (by decide) ?_
      refine lv_icmp_le (tgt := 33) hx hb dX9_sum_23 (by decide) (fun hc_33 => ?_) (fun hc_33 => ?_)
      · have hf := pe_t hf hc_33
        refine lv_aload_n hx hb dX9_sum_33 rfl (lv_at hl 0 rfl) ?_
        refine va_get (ci := 9) (v := .ref (a 17)) hx hb hts wX9_in hown hK hP 0 rfl rfl 5 (by decide) (hts _ mw_2_72) (fun _ h9 => h9) rfl dX9_sum_34 ?_
        refine lv_iload_n hx hb dX9_sum_37 rfl (lv_at hl 1 rfl) ?_
        obtain ⟨r_34, hk_35, hf⟩ := pe_1 hf
        refine xv_z (As := [.int x1]) (rest := []) (q0 := 0) (ci := 8) Cx hP hD hS hl (pl_X9_X8 a cyI cyJ v9_refusals v7_rows v7_lengths v7_sizes v7_rests v7_orders v6_hooks v6_lefts v6_heights v1_table v5_known v8_sizes v8_coefficients v8_undoneSums v8_undos v8_nextUndo v8_imageTaken v0_totals v3_letters v3_count v3_next v3_size v4_values v4_lengths v8_sizes v8_coefficients v8_undoneSums v8_undos v8_nextUndo v8_imageTaken) (c_X8_isMissing l D cyI cyJ G a H.size v8_sizes v8_coefficients v8_undoneSums v8_undos v8_nextUndo v8_imageTaken x1 r_34 hk_35) pk_X8_isMissing mw_3_189 ⟨rfl, rfl, Nat.le_of_ble_eq_true rfl, Nat.le_of_ble_eq_true rfl⟩ rfl rfl rfl rfl rfl (Nat.le_of_ble_eq_true rfl) ⟨Nat.le_of_ble_eq_true rfl, Nat.le_of_ble_eq_true rfl⟩ dX9_sum_38 (fun H locs hn_36 hP hD hS => ?_)
        refine lv_if_eq (tgt := 47) hx hb dX9_sum_41 (by decide) (fun hc_37 => ?_) (fun hc_37 => ?_)
        · have hf := pe_t hf hc_37
          refine lv_iload_n hx hb dX9_sum_47 rfl (lv_at hl 2 rfl) ?_
          by_cases hc_38 : x2 = (0 : Int32)
          · have hf := pe_t hf hc_38
            refine lv_lookup (tgt := 76) hx hb dX9_sum_48 (by decide) (by rw [hc_38]; first | done | rfl) (by decide) ?_
            refine lv_aload_n hx hb dX9_sum_76 rfl (lv_at hl 0 rfl) ?_
            refine va_get (ci := 9) (v := .ref (a 17)) hx hb hts wX9_in hown hK hP 0 rfl rfl 5 (by decide) (hts _ mw_2_72) (fun _ h9 => h9) rfl dX9_sum_77 ?_
            refine lv_iload_n hx hb dX9_sum_80 rfl (lv_at hl 1 rfl) ?_
            obtain ⟨r_39, hk_40, hf⟩ := pe_1 hf
            refine xv_i (As := [.int x1]) (rest := []) (q0 := 0) (ci := 8) Cx hP hD hS hl (pl_X9_X8 a cyI cyJ v9_refusals v7_rows v7_lengths v7_sizes v7_rests v7_orders v6_hooks v6_lefts v6_heights v1_table v5_known v8_sizes v8_coefficients v8_undoneSums v8_undos v8_nextUndo v8_imageTaken v0_totals v3_letters v3_count v3_next v3_size v4_values v4_lengths v8_sizes v8_coefficients v8_undoneSums v8_undos v8_nextUndo v8_imageTaken) (c_X8_sizeOf l D cyI cyJ G a H.size v8_sizes v8_coefficients v8_undoneSums v8_undos v8_nextUndo v8_imageTaken x1 r_39 hk_40) pk_X8_sizeOf mw_3_206 ⟨rfl, rfl, Nat.le_of_ble_eq_true rfl, Nat.le_of_ble_eq_true rfl⟩ rfl rfl rfl rfl rfl (Nat.le_of_ble_eq_true rfl) ⟨Nat.le_of_ble_eq_true rfl, Nat.le_of_ble_eq_true rfl⟩ dX9_sum_81 (fun H locs hP hD hS => ?_)
            obtain ⟨rfl, rfl⟩ := po_2 hf
            rw [← hQ]; exact xe_iret Cx rfl hP hD hS dX9_sum_84
          · have hf := pe_f hf hc_38
            by_cases hc_41 : x2 = (1 : Int32)
            · have hf := pe_t hf hc_41
              refine lv_lookup (tgt := 85) hx hb dX9_sum_48 (by decide) (by rw [hc_41]; first | done | rfl) (by decide) ?_
              refine lv_aload_n hx hb dX9_sum_85 rfl (lv_at hl 0 rfl) ?_
              refine va_get (ci := 9) (v := .ref (a 17)) hx hb hts wX9_in hown hK hP 0 rfl rfl 5 (by decide) (hts _ mw_2_72) (fun _ h9 => h9) rfl dX9_sum_86 ?_
              refine lv_iload_n hx hb dX9_sum_89 rfl (lv_at hl 1 rfl) ?_
              obtain ⟨r_42, hk_43, hf⟩ := pe_1 hf
              refine xv_i (As := [.int x1]) (rest := []) (q0 := 0) (ci := 8) Cx hP hD hS hl (pl_X9_X8 a cyI cyJ v9_refusals v7_rows v7_lengths v7_sizes v7_rests v7_orders v6_hooks v6_lefts v6_heights v1_table v5_known v8_sizes v8_coefficients v8_undoneSums v8_undos v8_nextUndo v8_imageTaken v0_totals v3_letters v3_count v3_next v3_size v4_values v4_lengths v8_sizes v8_coefficients v8_undoneSums v8_undos v8_nextUndo v8_imageTaken) (c_X8_termsOf l D cyI cyJ G a H.size v8_sizes v8_coefficients v8_undoneSums v8_undos v8_nextUndo v8_imageTaken x1 r_42 hk_43) pk_X8_termsOf mw_3_177 ⟨rfl, rfl, Nat.le_of_ble_eq_true rfl, Nat.le_of_ble_eq_true rfl⟩ rfl rfl rfl rfl rfl (Nat.le_of_ble_eq_true rfl) ⟨Nat.le_of_ble_eq_true rfl, Nat.le_of_ble_eq_true rfl⟩ dX9_sum_90 (fun H locs hP hD hS => ?_)
              obtain ⟨rfl, rfl⟩ := po_2 hf
              rw [← hQ]; exact xe_iret Cx rfl hP hD hS dX9_sum_93
            · have hf := pe_f hf hc_41
              have hc_38 : (x2).toInt ≠ 0 := xh_ne (by decide) hc_38
              have hc_41 : (x2).toInt ≠ 1 := xh_ne (by decide) hc_41
              refine lv_lookup (tgt := 94) hx hb dX9_sum_48 (by decide) (by rw [Op.lookupswitch.offset_cons, if_neg (Ne.symm hc_38), Op.lookupswitch.offset_cons, if_neg (Ne.symm hc_41), Op.lookupswitch.offset_nil]) (by decide) ?_
              refine lv_aload_n hx hb dX9_sum_94 rfl (lv_at hl 0 rfl) ?_
              refine lv_iload_n hx hb dX9_sum_95 rfl (lv_at hl 1 rfl) ?_
              obtain ⟨r_44, hk_45, hf⟩ := pe_1 hf
              refine xv_i (As := [.int x1]) (rest := []) (q0 := 0) (ci := 9) Cx hP hD hS hl (pl_X9_X9 a cyI cyJ v9_refusals v7_rows v7_lengths v7_sizes v7_rests v7_orders v6_hooks v6_lefts v6_heights v1_table v5_known v8_sizes v8_coefficients v8_undoneSums v8_undos v8_nextUndo v8_imageTaken v0_totals v3_letters v3_count v3_next v3_size v4_values v4_lengths v9_refusals v7_rows v7_lengths v7_sizes v7_rests v7_orders v6_hooks v6_lefts v6_heights v1_table v5_known v8_sizes v8_coefficients v8_undoneSums v8_undos v8_nextUndo v8_imageTaken v0_totals v3_letters v3_count v3_next v3_size v4_values v4_lengths) (c_X9_firstTerm l D cyI cyJ G a H.size v9_refusals v7_rows v7_lengths v7_sizes v7_rests v7_orders v6_hooks v6_lefts v6_heights v1_table v5_known v8_sizes v8_coefficients v8_undoneSums v8_undos v8_nextUndo v8_imageTaken v0_totals v3_letters v3_count v3_next v3_size v4_values v4_lengths x1 r_44 hk_45) pk_X9_firstTerm mw_3_207 ⟨rfl, rfl, Nat.le_of_ble_eq_true rfl, Nat.le_of_ble_eq_true rfl⟩ rfl rfl rfl rfl rfl (Nat.le_of_ble_eq_true rfl) ⟨Nat.le_of_ble_eq_true rfl, Nat.le_of_ble_eq_true rfl⟩ dX9_sum_96 (fun H locs hP hD hS => ?_)
              obtain ⟨rfl, rfl⟩ := po_2 hf
              rw [← hQ]; exact xe_iret Cx rfl hP hD hS dX9_sum_99
        · have hf := pe_f hf hc_37
          refine lv_bipush (v := (-11 : Int32)) hx hb dX9_sum_44 (by decide) ?_
          obtain ⟨rfl, rfl⟩ := po_2 hf
          rw [← hQ]; exact xe_iret Cx rfl hP hD hS dX9_sum_46
      · have hf := pe_f hf hc_33
        exact w_26 v9_refusals H locs ls hf hP hD hS (lv_sub hl [0] rfl)
  · have hf := pe_t hf hc_31
    refine lv_aload_n hx hb dX9_sum_11 rfl (lv_at hl 0 rfl) ?_
    refine lv_iconst (v := (-1 : Int32)) hx hb dX9_sum_12 (by decide) ?_
    obtain ⟨r_46, v9_refusals_47, hk_48, hf⟩ := pe_2 hf
    refine xv_i (As := [.int (-1 : Int32)]) (rest := []) (q0 := 0) (ci := 9) Cx hP hD hS hl (pl_X9_X9 a cyI cyJ v9_refusals v7_rows v7_lengths v7_sizes v7_rests v7_orders v6_hooks v6_lefts v6_heights v1_table v5_known v8_sizes v8_coefficients v8_undoneSums v8_undos v8_nextUndo v8_imageTaken v0_totals v3_letters v3_count v3_next v3_size v4_values v4_lengths v9_refusals_47 v7_rows v7_lengths v7_sizes v7_rests v7_orders v6_hooks v6_lefts v6_heights v1_table v5_known v8_sizes v8_coefficients v8_undoneSums v8_undos v8_nextUndo v8_imageTaken v0_totals v3_letters v3_count v3_next v3_size v4_values v4_lengths) (c_X9_refuse l D cyI cyJ G a H.size v9_refusals v7_rows v7_lengths v7_sizes v7_rests v7_orders v6_hooks v6_lefts v6_heights v1_table v5_known v8_sizes v8_coefficients v8_undoneSums v8_undos v8_nextUndo v8_imageTaken v0_totals v3_letters v3_count v3_next v3_size v4_values v4_lengths (-1 : Int32) r_46 v9_refusals_47 hk_48) pk_X9_refuse mw_2_103 ⟨rfl, rfl, Nat.le_of_ble_eq_true rfl, Nat.le_of_ble_eq_true rfl⟩ rfl rfl rfl rfl rfl (Nat.le_of_ble_eq_true rfl) ⟨Nat.le_of_ble_eq_true rfl, Nat.le_of_ble_eq_true rfl⟩ dX9_sum_13 (fun H locs hP hD hS => ?_)
    obtain ⟨rfl, rfl⟩ := po_2 hf
    rw [← hQ]; exact xe_iret Cx rfl hP hD hS dX9_sum_16
def f_X9_coefficient_66 (v7_sizes : Nat → Int32) (v8_sizes : Nat → Int32) (v8_coefficients : Nat → Int32) (v9_refusals : Nat → Int32) (y1 : Int32) (y2 : Int32) (z0 : Int32) : Option (Int32 × (Nat → Int32)) := if z0 = 0 then (some ((0 : Int32), v9_refusals)) else (p_b1 (f_X7_placeOf v7_sizes y2) (fun r_2 => p_b1 (f_X8_at v8_coefficients y1 r_2) (fun r_4 => some (r_4, v9_refusals))))
def f_X9_coefficient_22 (v7_sizes : Nat → Int32) (v8_sizes : Nat → Int32) (v8_coefficients : Nat → Int32) (v9_refusals : Nat → Int32) : Option (Int32 × (Nat → Int32)) := p_b2 (f_X9_refuseFar v9_refusals (-1 : Int32)) (fun r_6 v9_refusals_7 => some (r_6, v9_refusals_7))
def f_X9_coefficient (v9_refusals : Nat → Int32) (v7_sizes : Nat → Int32) (v8_sizes : Nat → Int32) (v8_coefficients : Nat → Int32) (x1 : Int32) (x2 : Int32) : Option (Int32 × (Nat → Int32)) := p_b1 (f_X8_has x1) (fun r_9 => if r_9 = 0 then ((f_X9_coefficient_22 v7_sizes v8_sizes v8_coefficients) v9_refusals) else (p_b1 (f_X7_has x2) (fun r_13 => if r_13 = 0 then ((f_X9_coefficient_22 v7_sizes v8_sizes v8_coefficients) v9_refusals) else (p_b1 (f_X8_isMissing v8_sizes x1) (fun r_17 => if r_17 = 0 then (p_b1 (f_X7_sizeOf v7_sizes x2) (fun r_21 => p_b1 (f_X8_sizeOf v8_sizes x1) (fun r_23 => if r_21 = r_23 then ((f_X9_coefficient_66 v7_sizes v8_sizes v8_coefficients) v9_refusals x1 x2 (1 : Int32)) else ((f_X9_coefficient_66 v7_sizes v8_sizes v8_coefficients) v9_refusals x1 x2 (0 : Int32))))) else (some ((1000000011 : Int32), v9_refusals)))))))
set_option maxHeartbeats 4000000 in
set_option maxRecDepth 20000 in
theorem c_X9_coefficient (l : Launch) (D : va_G) (cyI cyJ : ClassId) (G a : Nat → Nat) (sz : Nat) (v9_refusals : Nat → Int32) (v7_rows : Nat → Int32) (v7_lengths : Nat → Int32) (v7_sizes : Nat → Int32) (v7_rests : Nat → Int32) (v7_orders : Nat → Int32) (v6_hooks : Nat → Int32) (v6_lefts : Nat → Int32) (v6_heights : Nat → Int32) (v1_table : Nat → Int32) (v5_known : Nat → Int32) (v8_sizes : Nat → Int32) (v8_coefficients : Nat → Int32) (v8_undoneSums : Nat → Int32) (v8_undos : Int32) (v8_nextUndo : Int32) (v8_imageTaken : Int32) (v0_totals : Nat → Int64) (v3_letters : Nat → Int32) (v3_count : Int32) (v3_next : Int32) (v3_size : Int32) (v4_values : Nat → Int32) (v4_lengths : Nat → Int32) (x1 : Int32) (x2 : Int32) (ro : Int32) (ov9_refusals : Nat → Int32) (hf : f_X9_coefficient v9_refusals v7_sizes v8_sizes v8_coefficients x1 x2 = some (ro, ov9_refusals)) : xm_i l yX9_coefficient (Cond.code yX9_coefficient cX9_coefficient 4 (some .int) :: xg_tbl) { frames := 3, cells := 0, slots := 0, locals := 63 } D xcl [(cyI, .int), (cyJ, .long)] G sz [.ref (a 0), .int x1, .int x2] (wd_X9 a cyI cyJ v9_refusals v7_rows v7_lengths v7_sizes v7_rests v7_orders v6_hooks v6_lefts v6_heights v1_table v5_known v8_sizes v8_coefficients v8_undoneSums v8_undos v8_nextUndo v8_imageTaken v0_totals v3_letters v3_count v3_next v3_size v4_values v4_lengths) (wd_X9 a cyI cyJ ov9_refusals v7_rows v7_lengths v7_sizes v7_rests v7_orders v6_hooks v6_lefts v6_heights v1_table v5_known v8_sizes v8_coefficients v8_undoneSums v8_undos v8_nextUndo v8_imageTaken v0_totals v3_letters v3_count v3_next v3_size v4_values v4_lengths) ro := by
  refine xm_of_i (own := RX9) (by decide) rfl rfl (Nat.le_of_ble_eq_true rfl) ?_
  intro p e s m args below meth c ls Q A hQ hAe hin Cx hsz hP hD hS hl
  have Cx1 := Cx
  obtain ⟨⟨hx, hb, hml, hown, hts⟩, hr, hlocks, hK, hA, hT⟩ := Cx1
  have hl : lv_has ls 4 [(0, .ref (a 0)), (1, .int x1), (2, .int x2)] := hl
  obtain ⟨H, eH⟩ : ∃ H, H = s.heap := ⟨_, rfl⟩
  obtain ⟨locs, eL⟩ : ∃ L : List Loc, L = [] := ⟨_, rfl⟩
  rw [← eH] at hP
  have hS : va_S A s.heap H locs := by rw [eH, eL]; exact hS
  suffices hgo : W p l e { frames := 3, cells := 0, slots := 0, locals := 63 } s m args below meth c H locs 0 0 Q (F0 m 0 ls []) by rw [eH, eL] at hgo; exact hgo
  clear eH eL
  unfold f_X9_coefficient at hf
  have w_66 : ∀ (v9_refusals : Nat → Int32) (y1 : Int32) (y2 : Int32) (z0 : Int32) (H : Heap) (locs : List Loc) (ls : Array Slot), (f_X9_coefficient_66 v7_sizes v8_sizes v8_coefficients) v9_refusals y1 y2 z0 = some (ro, ov9_refusals) → va_P D xcl (wd_X9 a cyI cyJ v9_refusals v7_rows v7_lengths v7_sizes v7_rests v7_orders v6_hooks v6_lefts v6_heights v1_table v5_known v8_sizes v8_coefficients v8_undoneSums v8_undos v8_nextUndo v8_imageTaken v0_totals v3_letters v3_count v3_next v3_size v4_values v4_lengths) H → va_D A (wd_X9 a cyI cyJ v9_refusals v7_rows v7_lengths v7_sizes v7_rests v7_orders v6_hooks v6_lefts v6_heights v1_table v5_known v8_sizes v8_coefficients v8_undoneSums v8_undos v8_nextUndo v8_imageTaken v0_totals v3_letters v3_count v3_next v3_size v4_values v4_lengths) → va_S A s.heap H locs → lv_has ls 4 [(0, .ref (a 0)), (1, .int y1), (2, .int y2)] → W p l e { frames := 3, cells := 0, slots := 0, locals := 63 } s m args below meth c H locs 0 0 Q (F0 m 66 ls [.int z0]) := by
    intro v9_refusals y1 y2 z0 H locs ls hf hP hD hS hl
    unfold f_X9_coefficient_66 at hf
    refine lv_istore_n (lv' := [(3, .int z0), (0, .ref (a 0)), (1, .int y1), (2, .int y2)]) hx hb dX9_coefficient_66 rfl hl (by decide) rfl (fun ls hl => ?_)
    refine lv_iload_n hx hb dX9_coefficient_67 rfl (lv_at hl 0 rfl) ?_
    refine lv_if_eq (tgt := 90) hx hb dX9_coefficient_68 (by decide) (fun hc_26 => ?_) (fun hc_26 => ?_)
    · have hf := pe_t hf hc_26
      refine lv_iconst (v := (0 : Int32)) hx hb dX9_coefficient_90 (by decide) ?_
      obtain ⟨rfl, rfl⟩ := po_2 hf
      rw [← hQ]; exact xe_iret Cx rfl hP hD hS dX9_coefficient_91
    · have hf := pe_f hf hc_26
      refine lv_aload_n hx hb dX9_coefficient_71 rfl (lv_at hl 1 rfl) ?_
      refine va_get (ci := 9) (v := .ref (a 17)) hx hb hts wX9_in hown hK hP 0 rfl rfl 5 (by decide) (hts _ mw_2_72) (fun _ h9 => h9) rfl dX9_coefficient_72 ?_
      refine lv_iload_n hx hb dX9_coefficient_75 rfl (lv_at hl 2 rfl) ?_
      refine lv_aload_n hx hb dX9_coefficient_76 rfl (lv_at hl 1 rfl) ?_
      refine va_get (ci := 9) (v := .ref (a 2)) hx hb hts wX9_in hown hK hP 0 rfl rfl 0 (by decide) (hts _ mw_2_67) (fun _ h9 => h9) rfl dX9_coefficient_77 ?_
      refine lv_iload_n hx hb dX9_coefficient_80 rfl (lv_at hl 3 rfl) ?_
      obtain ⟨r_27, hk_28, hf⟩ := pe_1 hf
      refine xv_i (As := [.int y2]) (rest := [.int y1, .ref (a 17)]) (q0 := 0) (ci := 7) Cx hP hD hS hl (pl_X9_X7 a cyI cyJ v9_refusals v7_rows v7_lengths v7_sizes v7_rests v7_orders v6_hooks v6_lefts v6_heights v1_table v5_known v8_sizes v8_coefficients v8_undoneSums v8_undos v8_nextUndo v8_imageTaken v0_totals v3_letters v3_count v3_next v3_size v4_values v4_lengths v7_rows v7_lengths v7_sizes v7_rests v7_orders) (c_X7_placeOf l D cyI cyJ G a H.size v7_rows v7_lengths v7_sizes v7_rests v7_orders y2 r_27 hk_28) pk_X7_placeOf mw_3_220 ⟨rfl, rfl, Nat.le_of_ble_eq_true rfl, Nat.le_of_ble_eq_true rfl⟩ rfl rfl rfl rfl rfl (Nat.le_of_ble_eq_true rfl) ⟨Nat.le_of_ble_eq_true rfl, Nat.le_of_ble_eq_true rfl⟩ dX9_coefficient_81 (fun H locs hP hD hS => ?_)
      obtain ⟨r_29, hk_30, hf⟩ := pe_1 hf
      refine xv_i (As := [.int y1, .int r_27]) (rest := []) (q0 := 0) (ci := 8) Cx hP hD hS hl (pl_X9_X8 a cyI cyJ v9_refusals v7_rows v7_lengths v7_sizes v7_rests v7_orders v6_hooks v6_lefts v6_heights v1_table v5_known v8_sizes v8_coefficients v8_undoneSums v8_undos v8_nextUndo v8_imageTaken v0_totals v3_letters v3_count v3_next v3_size v4_values v4_lengths v8_sizes v8_coefficients v8_undoneSums v8_undos v8_nextUndo v8_imageTaken) (c_X8_at l D cyI cyJ G a H.size v8_sizes v8_coefficients v8_undoneSums v8_undos v8_nextUndo v8_imageTaken y1 r_27 r_29 hk_30) pk_X8_at mw_3_221 ⟨rfl, rfl, Nat.le_of_ble_eq_true rfl, Nat.le_of_ble_eq_true rfl⟩ rfl rfl rfl rfl rfl (Nat.le_of_ble_eq_true rfl) ⟨Nat.le_of_ble_eq_true rfl, Nat.le_of_ble_eq_true rfl⟩ dX9_coefficient_84 (fun H locs hP hD hS => ?_)
      refine lv_goto (tgt := 91) hx hb dX9_coefficient_87 (by decide) ?_
      obtain ⟨rfl, rfl⟩ := po_2 hf
      rw [← hQ]; exact xe_iret Cx rfl hP hD hS dX9_coefficient_91
  have w_22 : ∀ (v9_refusals : Nat → Int32) (H : Heap) (locs : List Loc) (ls : Array Slot), (f_X9_coefficient_22 v7_sizes v8_sizes v8_coefficients) v9_refusals = some (ro, ov9_refusals) → va_P D xcl (wd_X9 a cyI cyJ v9_refusals v7_rows v7_lengths v7_sizes v7_rests v7_orders v6_hooks v6_lefts v6_heights v1_table v5_known v8_sizes v8_coefficients v8_undoneSums v8_undos v8_nextUndo v8_imageTaken v0_totals v3_letters v3_count v3_next v3_size v4_values v4_lengths) H → va_D A (wd_X9 a cyI cyJ v9_refusals v7_rows v7_lengths v7_sizes v7_rests v7_orders v6_hooks v6_lefts v6_heights v1_table v5_known v8_sizes v8_coefficients v8_undoneSums v8_undos v8_nextUndo v8_imageTaken v0_totals v3_letters v3_count v3_next v3_size v4_values v4_lengths) → va_S A s.heap H locs → lv_has ls 4 [(0, .ref (a 0))] → W p l e { frames := 3, cells := 0, slots := 0, locals := 63 } s m args below meth c H locs 0 0 Q (F0 m 22 ls []) := by
    intro v9_refusals H locs ls hf hP hD hS hl
    unfold f_X9_coefficient_22 at hf
    refine lv_aload_n hx hb dX9_coefficient_22 rfl (lv_at hl 0 rfl) ?_
    refine lv_iconst (v := (-1 : Int32)) hx hb dX9_coefficient_23 (by decide) ?_
    obtain ⟨r_31, v9_refusals_32, hk_33, hf⟩ := pe_2 hf
    refine xv_i (As := [.int (-1 : Int32)]) (rest := []) (q0 := 0) (ci := 9) Cx hP hD hS hl (pl_X9_X9 a cyI cyJ v9_refusals v7_rows v7_lengths v7_sizes v7_rests v7_orders v6_hooks v6_lefts v6_heights v1_table v5_known v8_sizes v8_coefficients v8_undoneSums v8_undos v8_nextUndo v8_imageTaken v0_totals v3_letters v3_count v3_next v3_size v4_values v4_lengths v9_refusals_32 v7_rows v7_lengths v7_sizes v7_rests v7_orders v6_hooks v6_lefts v6_heights v1_table v5_known v8_sizes v8_coefficients v8_undoneSums v8_undos v8_nextUndo v8_imageTaken v0_totals v3_letters v3_count v3_next v3_size v4_values v4_lengths) (c_X9_refuseFar l D cyI cyJ G a H.size v9_refusals v7_rows v7_lengths v7_sizes v7_rests v7_orders v6_hooks v6_lefts v6_heights v1_table v5_known v8_sizes v8_coefficients v8_undoneSums v8_undos v8_nextUndo v8_imageTaken v0_totals v3_letters v3_count v3_next v3_size v4_values v4_lengths (-1 : Int32) r_31 v9_refusals_32 hk_33) pk_X9_refuseFar mw_2_209 ⟨rfl, rfl, Nat.le_of_ble_eq_true rfl, Nat.le_of_ble_eq_true rfl⟩ rfl rfl rfl rfl rfl (Nat.le_of_ble_eq_true rfl) ⟨Nat.le_of_ble_eq_true rfl, Nat.le_of_ble_eq_true rfl⟩ dX9_coefficient_24 (fun H locs hP hD hS => ?_)
    obtain ⟨rfl, rfl⟩ := po_2 hf
    rw [← hQ]; exact xe_iret Cx rfl hP hD hS dX9_coefficient_27
  refine lv_aload_n hx hb dX9_coefficient_0 rfl (lv_at hl 0 rfl) ?_
  refine va_get (ci := 9) (v := .ref (a 17)) hx hb hts wX9_in hown hK hP 0 rfl rfl 5 (by decide) (hts _ mw_2_72) (fun _ h9 => h9) rfl dX9_coefficient_1 ?_
  refine lv_iload_n hx hb dX9_coefficient_4 rfl (lv_at hl 1 rfl) ?_
  obtain ⟨r_34, hk_35, hf⟩ := pe_1 hf
  refine xv_z (As := [.int x1]) (rest := []) (q0 := 0) (ci := 8) Cx hP hD hS hl (pl_X9_X8 a cyI cyJ v9_refusals v7_rows v7_lengths v7_sizes v7_rests v7_orders v6_hooks v6_lefts v6_heights v1_table v5_known v8_sizes v8_coefficients v8_undoneSums v8_undos v8_nextUndo v8_imageTaken v0_totals v3_letters v3_count v3_next v3_size v4_values v4_lengths v8_sizes v8_coefficients v8_undoneSums v8_undos v8_nextUndo v8_imageTaken) (c_X8_has l D cyI cyJ G a H.size v8_sizes v8_coefficients v8_undoneSums v8_undos v8_nextUndo v8_imageTaken x1 r_34 hk_35) pk_X8_has mw_3_116 ⟨rfl, rfl, Nat.le_of_ble_eq_true rfl, Nat.le_of_ble_eq_true rfl⟩ rfl rfl rfl rfl rfl (Nat.le_of_ble_eq_true rfl) ⟨Nat.le_of_ble_eq_true rfl, Nat.le_of_ble_eq_true rfl⟩ dX9_coefficient_5 (fun H locs hn_36 hP hD hS => ?_)
  refine lv_if_eq (tgt := 22) hx hb dX9_coefficient_8 (by decide) (fun hc_37 => ?_) (fun hc_37 => ?_)
  · have hf := pe_t hf hc_37
    exact w_22 v9_refusals H locs ls hf hP hD hS (lv_sub hl [0] rfl)
  · have hf := pe_f hf hc_37
    refine lv_aload_n hx hb dX9_coefficient_11 rfl (lv_at hl 0 rfl) ?_
    refine va_get (ci := 9) (v := .ref (a 2)) hx hb hts wX9_in hown hK hP 0 rfl rfl 0 (by decide) (hts _ mw_2_67) (fun _ h9 => h9) rfl dX9_coefficient_12 ?_
    refine lv_iload_n hx hb dX9_coefficient_15 rfl (lv_at hl 2 rfl) ?_
    obtain ⟨r_38, hk_39, hf⟩ := pe_1 hf
    refine xv_z (As := [.int x2]) (rest := []) (q0 := 0) (ci := 7) Cx hP hD hS hl (pl_X9_X7 a cyI cyJ v9_refusals v7_rows v7_lengths v7_sizes v7_rests v7_orders v6_hooks v6_lefts v6_heights v1_table v5_known v8_sizes v8_coefficients v8_undoneSums v8_undos v8_nextUndo v8_imageTaken v0_totals v3_letters v3_count v3_next v3_size v4_values v4_lengths v7_rows v7_lengths v7_sizes v7_rests v7_orders) (c_X7_has l D cyI cyJ G a H.size v7_rows v7_lengths v7_sizes v7_rests v7_orders x2 r_38 hk_39) pk_X7_has mw_2_102 ⟨rfl, rfl, Nat.le_of_ble_eq_true rfl, Nat.le_of_ble_eq_true rfl⟩ rfl rfl rfl rfl rfl (Nat.le_of_ble_eq_true rfl) ⟨Nat.le_of_ble_eq_true rfl, Nat.le_of_ble_eq_true rfl⟩ dX9_coefficient_16 (fun H locs hn_40 hP hD hS => ?_)
    refine lv_if_ne (tgt := 28) hx hb dX9_coefficient_19 (by decide) (fun hc_41 => ?_) (fun hc_41 => ?_)
    · have hf := pe_f hf hc_41
      refine lv_aload_n hx hb dX9_coefficient_28 rfl (lv_at hl 0 rfl) ?_
      refine va_get (ci := 9) (v := .ref (a 17)) hx hb hts wX9_in hown hK hP 0 rfl rfl 5 (by decide) (hts _ mw_2_72) (fun _ h9 => h9) rfl dX9_coefficient_29 ?_
      refine lv_iload_n hx hb dX9_coefficient_32 rfl (lv_at hl 1 rfl) ?_
      obtain ⟨r_42, hk_43, hf⟩ := pe_1 hf
      refine xv_z (As := [.int x1]) (rest := []) (q0 := 0) (ci := 8) Cx hP hD hS hl (pl_X9_X8 a cyI cyJ v9_refusals v7_rows v7_lengths v7_sizes v7_rests v7_orders v6_hooks v6_lefts v6_heights v1_table v5_known v8_sizes v8_coefficients v8_undoneSums v8_undos v8_nextUndo v8_imageTaken v0_totals v3_letters v3_count v3_next v3_size v4_values v4_lengths v8_sizes v8_coefficients v8_undoneSums v8_undos v8_nextUndo v8_imageTaken) (c_X8_isMissing l D cyI cyJ G a H.size v8_sizes v8_coefficients v8_undoneSums v8_undos v8_nextUndo v8_imageTaken x1 r_42 hk_43) pk_X8_isMissing mw_3_189 ⟨rfl, rfl, Nat.le_of_ble_eq_true rfl, Nat.le_of_ble_eq_true rfl⟩ rfl rfl rfl rfl rfl (Nat.le_of_ble_eq_true rfl) ⟨Nat.le_of_ble_eq_true rfl, Nat.le_of_ble_eq_true rfl⟩ dX9_coefficient_33 (fun H locs hn_44 hP hD hS => ?_)
      refine lv_if_eq (tgt := 42) hx hb dX9_coefficient_36 (by decide) (fun hc_45 => ?_) (fun hc_45 => ?_)
      · have hf := pe_t hf hc_45
        refine lv_aload_n hx hb dX9_coefficient_42 rfl (lv_at hl 0 rfl) ?_
        refine va_get (ci := 9) (v := .ref (a 2)) hx hb hts wX9_in hown hK hP 0 rfl rfl 0 (by decide) (hts _ mw_2_67) (fun _ h9 => h9) rfl dX9_coefficient_43 ?_
        refine lv_iload_n hx hb dX9_coefficient_46 rfl (lv_at hl 2 rfl) ?_
        obtain ⟨r_46, hk_47, hf⟩ := pe_1 hf
        refine xv_i (As := [.int x2]) (rest := []) (q0 := 0) (ci := 7) Cx hP hD hS hl (pl_X9_X7 a cyI cyJ v9_refusals v7_rows v7_lengths v7_sizes v7_rests v7_orders v6_hooks v6_lefts v6_heights v1_table v5_known v8_sizes v8_coefficients v8_undoneSums v8_undos v8_nextUndo v8_imageTaken v0_totals v3_letters v3_count v3_next v3_size v4_values v4_lengths v7_rows v7_lengths v7_sizes v7_rests v7_orders) (c_X7_sizeOf l D cyI cyJ G a H.size v7_rows v7_lengths v7_sizes v7_rests v7_orders x2 r_46 hk_47) pk_X7_sizeOf mw_2_108 ⟨rfl, rfl, Nat.le_of_ble_eq_true rfl, Nat.le_of_ble_eq_true rfl⟩ rfl rfl rfl rfl rfl (Nat.le_of_ble_eq_true rfl) ⟨Nat.le_of_ble_eq_true rfl, Nat.le_of_ble_eq_true rfl⟩ dX9_coefficient_47 (fun H locs hP hD hS => ?_)
        refine lv_aload_n hx hb dX9_coefficient_50 rfl (lv_at hl 0 rfl) ?_
        refine va_get (ci := 9) (v := .ref (a 17)) hx hb hts wX9_in hown hK hP 0 rfl rfl 5 (by decide) (hts _ mw_2_72) (fun _ h9 => h9) rfl dX9_coefficient_51 ?_
        refine lv_iload_n hx hb dX9_coefficient_54 rfl (lv_at hl 1 rfl) ?_
        obtain ⟨r_48, hk_49, hf⟩ := pe_1 hf
        refine xv_i (As := [.int x1]) (rest := [.int r_46]) (q0 := 0) (ci := 8) Cx hP hD hS hl (pl_X9_X8 a cyI cyJ v9_refusals v7_rows v7_lengths v7_sizes v7_rests v7_orders v6_hooks v6_lefts v6_heights v1_table v5_known v8_sizes v8_coefficients v8_undoneSums v8_undos v8_nextUndo v8_imageTaken v0_totals v3_letters v3_count v3_next v3_size v4_values v4_lengths v8_sizes v8_coefficients v8_undoneSums v8_undos v8_nextUndo v8_imageTaken) (c_X8_sizeOf l D cyI cyJ G a H.size v8_sizes v8_coefficients v8_undoneSums v8_undos v8_nextUndo v8_imageTaken x1 r_48 hk_49) pk_X8_sizeOf mw_3_206 ⟨rfl, rfl, Nat.le_of_ble_eq_true rfl, Nat.le_of_ble_eq_true rfl⟩ rfl rfl rfl rfl rfl (Nat.le_of_ble_eq_true rfl) ⟨Nat.le_of_ble_eq_true rfl, Nat.le_of_ble_eq_true rfl⟩ dX9_coefficient_55 (fun H locs hP hD hS => ?_)
        refine lv_icmp_ne (tgt := 65) hx hb dX9_coefficient_58 (by decide) (fun hc_50 => ?_) (fun hc_50 => ?_)
        · have hf := pe_f hf hc_50
          refine lv_iconst (v := (0 : Int32)) hx hb dX9_coefficient_65 (by decide) ?_
          exact w_66 v9_refusals x1 x2 (0 : Int32) H locs ls hf hP hD hS (lv_sub hl [0, 1, 2] rfl)
        · have hf := pe_t hf hc_50
          refine lv_iconst (v := (1 : Int32)) hx hb dX9_coefficient_61 (by decide) ?_
          refine lv_goto (tgt := 66) hx hb dX9_coefficient_62 (by decide) ?_
          exact w_66 v9_refusals x1 x2 (1 : Int32) H locs ls hf hP hD hS (lv_sub hl [0, 1, 2] rfl)
      · have hf := pe_f hf hc_45
        refine lv_ldc (v := (1000000011 : Int32)) hx hb hown (hts _ mw_3_219) dX9_coefficient_39 ?_
        obtain ⟨rfl, rfl⟩ := po_2 hf
        rw [← hQ]; exact xe_iret Cx rfl hP hD hS dX9_coefficient_41
    · have hf := pe_t hf hc_41
      exact w_22 v9_refusals H locs ls hf hP hD hS (lv_sub hl [0] rfl)
def f_X9_makes_177 (v7_orders : Nat → Int32) (v1_table : Nat → Int32) (v9_refusals : Nat → Int32) (v5_known : Nat → Int32) (v8_sizes : Nat → Int32) (v8_coefficients : Nat → Int32) (v8_undoneSums : Nat → Int32) (v8_undos : Int32) (v8_nextUndo : Int32) (v0_totals : Nat → Int64) (y1 : Int32) (y5 : Int32) : Option (Int32 × (Nat → Int32) × (Nat → Int32) × (Nat → Int32) × (Nat → Int32) × (Nat → Int32) × Int32 × Int32 × (Nat → Int64)) := if y5 = 0 then (p_b2 (f_X9_refuse v9_refusals (-6 : Int32)) (fun r_2 v9_refusals_3 => some (r_2, v9_refusals_3, v5_known, v8_sizes, v8_coefficients, v8_undoneSums, v8_undos, v8_nextUndo, v0_totals))) else (p_b6 (f_X9_keepDraft v8_sizes v8_coefficients v8_undoneSums v8_undos v8_nextUndo y1) (fun r_5 v8_sizes_6 v8_coefficients_7 v8_undoneSums_8 v8_undos_9 v8_nextUndo_10 => some (r_5, v9_refusals, v5_known, v8_sizes_6, v8_coefficients_7, v8_undoneSums_8, v8_undos_9, v8_nextUndo_10, v0_totals)))
def f_X9_makes_50 (v7_orders : Nat → Int32) (v1_table : Nat → Int32) (v9_refusals : Nat → Int32) (v5_known : Nat → Int32) (v8_sizes : Nat → Int32) (v8_coefficients : Nat → Int32) (v8_undoneSums : Nat → Int32) (v8_undos : Int32) (v8_nextUndo : Int32) (v0_totals : Nat → Int64) : Option (Int32 × (Nat → Int32) × (Nat → Int32) × (Nat → Int32) × (Nat → Int32) × (Nat → Int32) × Int32 × Int32 × (Nat → Int64)) := p_b2 (f_X9_refuse v9_refusals (-2 : Int32)) (fun r_12 v9_refusals_13 => some (r_12, v9_refusals_13, v5_known, v8_sizes, v8_coefficients, v8_undoneSums, v8_undos, v8_nextUndo, v0_totals))
def f_X9_makes_33 (v7_orders : Nat → Int32) (v1_table : Nat → Int32) (v9_refusals : Nat → Int32) (v5_known : Nat → Int32) (v8_sizes : Nat → Int32) (v8_coefficients : Nat → Int32) (v8_undoneSums : Nat → Int32) (v8_undos : Int32) (v8_nextUndo : Int32) (v0_totals : Nat → Int64) : Option (Int32 × (Nat → Int32) × (Nat → Int32) × (Nat → Int32) × (Nat → Int32) × (Nat → Int32) × Int32 × Int32 × (Nat → Int64)) := p_b2 (f_X9_refuse v9_refusals (-1 : Int32)) (fun r_15 v9_refusals_16 => some (r_15, v9_refusals_16, v5_known, v8_sizes, v8_coefficients, v8_undoneSums, v8_undos, v8_nextUndo, v0_totals))
def f_X9_makes (v9_refusals : Nat → Int32) (v7_orders : Nat → Int32) (v1_table : Nat → Int32) (v5_known : Nat → Int32) (v8_sizes : Nat → Int32) (v8_coefficients : Nat → Int32) (v8_undoneSums : Nat → Int32) (v8_undos : Int32) (v8_nextUndo : Int32) (v0_totals : Nat → Int64) (x1 : Int32) (x2 : Int32) (x3 : Int32) (x4 : Int32) : Option (Int32 × (Nat → Int32) × (Nat → Int32) × (Nat → Int32) × (Nat → Int32) × (Nat → Int32) × Int32 × Int32 × (Nat → Int64)) := p_b1 (f_X8_has x1) (fun r_18 => if r_18 = 0 then ((f_X9_makes_33 v7_orders v1_table) v9_refusals v5_known v8_sizes v8_coefficients v8_undoneSums v8_undos v8_nextUndo v0_totals) else (p_b1 (f_X8_has x2) (fun r_22 => if r_22 = 0 then ((f_X9_makes_33 v7_orders v1_table) v9_refusals v5_known v8_sizes v8_coefficients v8_undoneSums v8_undos v8_nextUndo v0_totals) else (p_b1 (f_X8_has x3) (fun r_26 => if r_26 = 0 then ((f_X9_makes_33 v7_orders v1_table) v9_refusals v5_known v8_sizes v8_coefficients v8_undoneSums v8_undos v8_nextUndo v0_totals) else (if x4 < 0 then ((f_X9_makes_50 v7_orders v1_table) v9_refusals v5_known v8_sizes v8_coefficients v8_undoneSums v8_undos v8_nextUndo v0_totals) else (if x4 ≤ (2 : Int32) then (p_b1 (f_X8_isMissing v8_sizes x2) (fun r_32 => if r_32 = 0 then (p_b1 (f_X8_isMissing v8_sizes x3) (fun r_36 => if r_36 = 0 then (p_b1 (f_X8_sizeOf v8_sizes x2) (fun r_40 => p_b1 (f_X8_sizeOf v8_sizes x3) (fun r_42 => if r_40 = r_42 then (if x4 = (0 : Int32) then (p_b4 (f_X0_draftsPlus v8_sizes v8_coefficients v0_totals x2 x3 (1 : Int32)) (fun r_46 v8_sizes_47 v8_coefficients_48 v0_totals_49 => (f_X9_makes_177 v7_orders v1_table) v9_refusals v5_known v8_sizes_47 v8_coefficients_48 v8_undoneSums v8_undos v8_nextUndo v0_totals_49 x1 r_46)) else (if x4 = (1 : Int32) then (p_b4 (f_X0_draftsPlus v8_sizes v8_coefficients v0_totals x2 x3 (-1 : Int32)) (fun r_53 v8_sizes_54 v8_coefficients_55 v0_totals_56 => (f_X9_makes_177 v7_orders v1_table) v9_refusals v5_known v8_sizes_54 v8_coefficients_55 v8_undoneSums v8_undos v8_nextUndo v0_totals_56 x1 r_53)) else (p_b5 (f_X0_draftsTimes v7_orders v1_table v5_known v8_sizes v8_coefficients v0_totals x2 x3) (fun r_59 v5_known_60 v8_sizes_61 v8_coefficients_62 v0_totals_63 => (f_X9_makes_177 v7_orders v1_table) v9_refusals v5_known_60 v8_sizes_61 v8_coefficients_62 v8_undoneSums v8_undos v8_nextUndo v0_totals_63 x1 r_59)))) else (p_b2 (f_X9_refuse v9_refusals (-3 : Int32)) (fun r_66 v9_refusals_67 => some (r_66, v9_refusals_67, v5_known, v8_sizes, v8_coefficients, v8_undoneSums, v8_undos, v8_nextUndo, v0_totals)))))) else (some ((-11 : Int32), v9_refusals, v5_known, v8_sizes, v8_coefficients, v8_undoneSums, v8_undos, v8_nextUndo, v0_totals)))) else (some ((-11 : Int32), v9_refusals, v5_known, v8_sizes, v8_coefficients, v8_undoneSums, v8_undos, v8_nextUndo, v0_totals)))) else ((f_X9_makes_50 v7_orders v1_table) v9_refusals v5_known v8_sizes v8_coefficients v8_undoneSums v8_undos v8_nextUndo v0_totals))))))))
set_option maxHeartbeats 4000000 in
set_option maxRecDepth 20000 in
theorem c_X9_makes (l : Launch) (D : va_G) (cyI cyJ : ClassId) (G a : Nat → Nat) (sz : Nat) (v9_refusals : Nat → Int32) (v7_rows : Nat → Int32) (v7_lengths : Nat → Int32) (v7_sizes : Nat → Int32) (v7_rests : Nat → Int32) (v7_orders : Nat → Int32) (v6_hooks : Nat → Int32) (v6_lefts : Nat → Int32) (v6_heights : Nat → Int32) (v1_table : Nat → Int32) (v5_known : Nat → Int32) (v8_sizes : Nat → Int32) (v8_coefficients : Nat → Int32) (v8_undoneSums : Nat → Int32) (v8_undos : Int32) (v8_nextUndo : Int32) (v8_imageTaken : Int32) (v0_totals : Nat → Int64) (v3_letters : Nat → Int32) (v3_count : Int32) (v3_next : Int32) (v3_size : Int32) (v4_values : Nat → Int32) (v4_lengths : Nat → Int32) (x1 : Int32) (x2 : Int32) (x3 : Int32) (x4 : Int32) (ro : Int32) (ov9_refusals : Nat → Int32) (ov5_known : Nat → Int32) (ov8_sizes : Nat → Int32) (ov8_coefficients : Nat → Int32) (ov8_undoneSums : Nat → Int32) (ov8_undos : Int32) (ov8_nextUndo : Int32) (ov0_totals : Nat → Int64) (hf : f_X9_makes v9_refusals v7_orders v1_table v5_known v8_sizes v8_coefficients v8_undoneSums v8_undos v8_nextUndo v0_totals x1 x2 x3 x4 = some (ro, ov9_refusals, ov5_known, ov8_sizes, ov8_coefficients, ov8_undoneSums, ov8_undos, ov8_nextUndo, ov0_totals)) : xm_i l yX9_makes (Cond.code yX9_makes cX9_makes 6 (some .int) :: xg_tbl) { frames := 6, cells := 0, slots := 0, locals := 152 } D xcl [(cyI, .int), (cyJ, .long)] G sz [.ref (a 0), .int x1, .int x2, .int x3, .int x4] (wd_X9 a cyI cyJ v9_refusals v7_rows v7_lengths v7_sizes v7_rests v7_orders v6_hooks v6_lefts v6_heights v1_table v5_known v8_sizes v8_coefficients v8_undoneSums v8_undos v8_nextUndo v8_imageTaken v0_totals v3_letters v3_count v3_next v3_size v4_values v4_lengths) (wd_X9 a cyI cyJ ov9_refusals v7_rows v7_lengths v7_sizes v7_rests v7_orders v6_hooks v6_lefts v6_heights v1_table ov5_known ov8_sizes ov8_coefficients ov8_undoneSums ov8_undos ov8_nextUndo v8_imageTaken ov0_totals v3_letters v3_count v3_next v3_size v4_values v4_lengths) ro := by
  refine xm_of_i (own := RX9) (by decide) rfl rfl (Nat.le_of_ble_eq_true rfl) ?_
  intro p e s m args below meth c ls Q A hQ hAe hin Cx hsz hP hD hS hl
  have Cx1 := Cx
  obtain ⟨⟨hx, hb, hml, hown, hts⟩, hr, hlocks, hK, hA, hT⟩ := Cx1
  have hl : lv_has ls 6 [(0, .ref (a 0)), (1, .int x1), (2, .int x2), (3, .int x3), (4, .int x4)] := hl
  obtain ⟨H, eH⟩ : ∃ H, H = s.heap := ⟨_, rfl⟩
  obtain ⟨locs, eL⟩ : ∃ L : List Loc, L = [] := ⟨_, rfl⟩
  rw [← eH] at hP
  have hS : va_S A s.heap H locs := by rw [eH, eL]; exact hS
  suffices hgo : W p l e { frames := 6, cells := 0, slots := 0, locals := 152 } s m args below meth c H locs 0 0 Q (F0 m 0 ls []) by rw [eH, eL] at hgo; exact hgo
  clear eH eL
  unfold f_X9_makes at hf
  have w_177 : ∀ (v9_refusals : Nat → Int32) (v5_known : Nat → Int32) (v8_sizes : Nat → Int32) (v8_coefficients : Nat → Int32) (v8_undoneSums : Nat → Int32) (v8_undos : Int32) (v8_nextUndo : Int32) (v0_totals : Nat → Int64) (y1 : Int32) (y5 : Int32) (H : Heap) (locs : List Loc) (ls : Array Slot), (f_X9_makes_177 v7_orders v1_table) v9_refusals v5_known v8_sizes v8_coefficients v8_undoneSums v8_undos v8_nextUndo v0_totals y1 y5 = some (ro, ov9_refusals, ov5_known, ov8_sizes, ov8_coefficients, ov8_undoneSums, ov8_undos, ov8_nextUndo, ov0_totals) → va_P D xcl (wd_X9 a cyI cyJ v9_refusals v7_rows v7_lengths v7_sizes v7_rests v7_orders v6_hooks v6_lefts v6_heights v1_table v5_known v8_sizes v8_coefficients v8_undoneSums v8_undos v8_nextUndo v8_imageTaken v0_totals v3_letters v3_count v3_next v3_size v4_values v4_lengths) H → va_D A (wd_X9 a cyI cyJ v9_refusals v7_rows v7_lengths v7_sizes v7_rests v7_orders v6_hooks v6_lefts v6_heights v1_table v5_known v8_sizes v8_coefficients v8_undoneSums v8_undos v8_nextUndo v8_imageTaken v0_totals v3_letters v3_count v3_next v3_size v4_values v4_lengths) → va_S A s.heap H locs → lv_has ls 6 [(0, .ref (a 0)), (1, .int y1), (5, .int y5)] → W p l e { frames := 6, cells := 0, slots := 0, locals := 152 } s m args below meth c H locs 0 0 Q (F0 m 177 ls []) := by
    intro v9_refusals v5_known v8_sizes v8_coefficients v8_undoneSums v8_undos v8_nextUndo v0_totals y1 y5 H locs ls hf hP hD hS hl
    unfold f_X9_makes_177 at hf
    refine lv_iload hx hb dX9_makes_177 (lv_at hl 2 rfl) ?_
    refine lv_if_eq (tgt := 190) hx hb dX9_makes_179 (by decide) (fun hc_69 => ?_) (fun hc_69 => ?_)
    · have hf := pe_t hf hc_69
      refine lv_aload_n hx hb dX9_makes_190 rfl (lv_at hl 0 rfl) ?_
      refine lv_bipush (v := (-6 : Int32)) hx hb dX9_makes_191 (by decide) ?_
      obtain ⟨r_70, v9_refusals_71, hk_72, hf⟩ := pe_2 hf
      refine xv_i (As := [.int (-6 : Int32)]) (rest := []) (q0 := 0) (ci := 9) Cx hP hD hS hl (pl_X9_X9 a cyI cyJ v9_refusals v7_rows v7_lengths v7_sizes v7_rests v7_orders v6_hooks v6_lefts v6_heights v1_table v5_known v8_sizes v8_coefficients v8_undoneSums v8_undos v8_nextUndo v8_imageTaken v0_totals v3_letters v3_count v3_next v3_size v4_values v4_lengths v9_refusals_71 v7_rows v7_lengths v7_sizes v7_rests v7_orders v6_hooks v6_lefts v6_heights v1_table v5_known v8_sizes v8_coefficients v8_undoneSums v8_undos v8_nextUndo v8_imageTaken v0_totals v3_letters v3_count v3_next v3_size v4_values v4_lengths) (c_X9_refuse l D cyI cyJ G a H.size v9_refusals v7_rows v7_lengths v7_sizes v7_rests v7_orders v6_hooks v6_lefts v6_heights v1_table v5_known v8_sizes v8_coefficients v8_undoneSums v8_undos v8_nextUndo v8_imageTaken v0_totals v3_letters v3_count v3_next v3_size v4_values v4_lengths (-6 : Int32) r_70 v9_refusals_71 hk_72) pk_X9_refuse mw_2_103 ⟨rfl, rfl, Nat.le_of_ble_eq_true rfl, Nat.le_of_ble_eq_true rfl⟩ rfl rfl rfl rfl rfl (Nat.le_of_ble_eq_true rfl) ⟨Nat.le_of_ble_eq_true rfl, Nat.le_of_ble_eq_true rfl⟩ dX9_makes_193 (fun H locs hP hD hS => ?_)
      obtain ⟨rfl, rfl, rfl, rfl, rfl, rfl, rfl, rfl, rfl⟩ := po_9 hf
      rw [← hQ]; exact xe_iret Cx rfl hP hD hS dX9_makes_196
    · have hf := pe_f hf hc_69
      refine lv_aload_n hx hb dX9_makes_182 rfl (lv_at hl 0 rfl) ?_
      refine lv_iload_n hx hb dX9_makes_183 rfl (lv_at hl 1 rfl) ?_
      obtain ⟨r_73, v8_sizes_74, v8_coefficients_75, v8_undoneSums_76, v8_undos_77, v8_nextUndo_78, hk_79, hf⟩ := pe_6 hf
      refine xv_i (As := [.int y1]) (rest := []) (q0 := 0) (ci := 9) Cx hP hD hS hl (pl_X9_X9 a cyI cyJ v9_refusals v7_rows v7_lengths v7_sizes v7_rests v7_orders v6_hooks v6_lefts v6_heights v1_table v5_known v8_sizes v8_coefficients v8_undoneSums v8_undos v8_nextUndo v8_imageTaken v0_totals v3_letters v3_count v3_next v3_size v4_values v4_lengths v9_refusals v7_rows v7_lengths v7_sizes v7_rests v7_orders v6_hooks v6_lefts v6_heights v1_table v5_known v8_sizes_74 v8_coefficients_75 v8_undoneSums_76 v8_undos_77 v8_nextUndo_78 v8_imageTaken v0_totals v3_letters v3_count v3_next v3_size v4_values v4_lengths) (c_X9_keepDraft l D cyI cyJ G a H.size v9_refusals v7_rows v7_lengths v7_sizes v7_rests v7_orders v6_hooks v6_lefts v6_heights v1_table v5_known v8_sizes v8_coefficients v8_undoneSums v8_undos v8_nextUndo v8_imageTaken v0_totals v3_letters v3_count v3_next v3_size v4_values v4_lengths y1 r_73 v8_sizes_74 v8_coefficients_75 v8_undoneSums_76 v8_undos_77 v8_nextUndo_78 hk_79) pk_X9_keepDraft mw_3_160 ⟨rfl, rfl, Nat.le_of_ble_eq_true rfl, Nat.le_of_ble_eq_true rfl⟩ rfl rfl rfl rfl rfl (Nat.le_of_ble_eq_true rfl) ⟨Nat.le_of_ble_eq_true rfl, Nat.le_of_ble_eq_true rfl⟩ dX9_makes_184 (fun H locs hP hD hS => ?_)
      refine lv_goto (tgt := 196) hx hb dX9_makes_187 (by decide) ?_
      obtain ⟨rfl, rfl, rfl, rfl, rfl, rfl, rfl, rfl, rfl⟩ := po_9 hf
      rw [← hQ]; exact xe_iret Cx rfl hP hD hS dX9_makes_196
  have w_50 : ∀ (v9_refusals : Nat → Int32) (v5_known : Nat → Int32) (v8_sizes : Nat → Int32) (v8_coefficients : Nat → Int32) (v8_undoneSums : Nat → Int32) (v8_undos : Int32) (v8_nextUndo : Int32) (v0_totals : Nat → Int64) (H : Heap) (locs : List Loc) (ls : Array Slot), (f_X9_makes_50 v7_orders v1_table) v9_refusals v5_known v8_sizes v8_coefficients v8_undoneSums v8_undos v8_nextUndo v0_totals = some (ro, ov9_refusals, ov5_known, ov8_sizes, ov8_coefficients, ov8_undoneSums, ov8_undos, ov8_nextUndo, ov0_totals) → va_P D xcl (wd_X9 a cyI cyJ v9_refusals v7_rows v7_lengths v7_sizes v7_rests v7_orders v6_hooks v6_lefts v6_heights v1_table v5_known v8_sizes v8_coefficients v8_undoneSums v8_undos v8_nextUndo v8_imageTaken v0_totals v3_letters v3_count v3_next v3_size v4_values v4_lengths) H → va_D A (wd_X9 a cyI cyJ v9_refusals v7_rows v7_lengths v7_sizes v7_rests v7_orders v6_hooks v6_lefts v6_heights v1_table v5_known v8_sizes v8_coefficients v8_undoneSums v8_undos v8_nextUndo v8_imageTaken v0_totals v3_letters v3_count v3_next v3_size v4_values v4_lengths) → va_S A s.heap H locs → lv_has ls 6 [(0, .ref (a 0))] → W p l e { frames := 6, cells := 0, slots := 0, locals := 152 } s m args below meth c H locs 0 0 Q (F0 m 50 ls []) := by
    intro v9_refusals v5_known v8_sizes v8_coefficients v8_undoneSums v8_undos v8_nextUndo v0_totals H locs ls hf hP hD hS hl
    unfold f_X9_makes_50 at hf
    refine lv_aload_n hx hb dX9_makes_50 rfl (lv_at hl 0 rfl) ?_
    refine lv_bipush (v := (-2 : Int32)) hx hb dX9_makes_51 (by decide) ?_
    obtain ⟨r_80, v9_refusals_81, hk_82, hf⟩ := pe_2 hf
    refine xv_i (As := [.int (-2 : Int32)]) (rest := []) (q0 := 0) (ci := 9) Cx hP hD hS hl (pl_X9_X9 a cyI cyJ v9_refusals v7_rows v7_lengths v7_sizes v7_rests v7_orders v6_hooks v6_lefts v6_heights v1_table v5_known v8_sizes v8_coefficients v8_undoneSums v8_undos v8_nextUndo v8_imageTaken v0_totals v3_letters v3_count v3_next v3_size v4_values v4_lengths v9_refusals_81 v7_rows v7_lengths v7_sizes v7_rests v7_orders v6_hooks v6_lefts v6_heights v1_table v5_known v8_sizes v8_coefficients v8_undoneSums v8_undos v8_nextUndo v8_imageTaken v0_totals v3_letters v3_count v3_next v3_size v4_values v4_lengths) (c_X9_refuse l D cyI cyJ G a H.size v9_refusals v7_rows v7_lengths v7_sizes v7_rests v7_orders v6_hooks v6_lefts v6_heights v1_table v5_known v8_sizes v8_coefficients v8_undoneSums v8_undos v8_nextUndo v8_imageTaken v0_totals v3_letters v3_count v3_next v3_size v4_values v4_lengths (-2 : Int32) r_80 v9_refusals_81 hk_82) pk_X9_refuse mw_2_103 ⟨rfl, rfl, Nat.le_of_ble_eq_true rfl, Nat.le_of_ble_eq_true rfl⟩ rfl rfl rfl rfl rfl (Nat.le_of_ble_eq_true rfl) ⟨Nat.le_of_ble_eq_true rfl, Nat.le_of_ble_eq_true rfl⟩ dX9_makes_53 (fun H locs hP hD hS => ?_)
    obtain ⟨rfl, rfl, rfl, rfl, rfl, rfl, rfl, rfl, rfl⟩ := po_9 hf
    rw [← hQ]; exact xe_iret Cx rfl hP hD hS dX9_makes_56
  have w_33 : ∀ (v9_refusals : Nat → Int32) (v5_known : Nat → Int32) (v8_sizes : Nat → Int32) (v8_coefficients : Nat → Int32) (v8_undoneSums : Nat → Int32) (v8_undos : Int32) (v8_nextUndo : Int32) (v0_totals : Nat → Int64) (H : Heap) (locs : List Loc) (ls : Array Slot), (f_X9_makes_33 v7_orders v1_table) v9_refusals v5_known v8_sizes v8_coefficients v8_undoneSums v8_undos v8_nextUndo v0_totals = some (ro, ov9_refusals, ov5_known, ov8_sizes, ov8_coefficients, ov8_undoneSums, ov8_undos, ov8_nextUndo, ov0_totals) → va_P D xcl (wd_X9 a cyI cyJ v9_refusals v7_rows v7_lengths v7_sizes v7_rests v7_orders v6_hooks v6_lefts v6_heights v1_table v5_known v8_sizes v8_coefficients v8_undoneSums v8_undos v8_nextUndo v8_imageTaken v0_totals v3_letters v3_count v3_next v3_size v4_values v4_lengths) H → va_D A (wd_X9 a cyI cyJ v9_refusals v7_rows v7_lengths v7_sizes v7_rests v7_orders v6_hooks v6_lefts v6_heights v1_table v5_known v8_sizes v8_coefficients v8_undoneSums v8_undos v8_nextUndo v8_imageTaken v0_totals v3_letters v3_count v3_next v3_size v4_values v4_lengths) → va_S A s.heap H locs → lv_has ls 6 [(0, .ref (a 0))] → W p l e { frames := 6, cells := 0, slots := 0, locals := 152 } s m args below meth c H locs 0 0 Q (F0 m 33 ls []) := by
    intro v9_refusals v5_known v8_sizes v8_coefficients v8_undoneSums v8_undos v8_nextUndo v0_totals H locs ls hf hP hD hS hl
    unfold f_X9_makes_33 at hf
    refine lv_aload_n hx hb dX9_makes_33 rfl (lv_at hl 0 rfl) ?_
    refine lv_iconst (v := (-1 : Int32)) hx hb dX9_makes_34 (by decide) ?_
    obtain ⟨r_83, v9_refusals_84, hk_85, hf⟩ := pe_2 hf
    refine xv_i (As := [.int (-1 : Int32)]) (rest := []) (q0 := 0) (ci := 9) Cx hP hD hS hl (pl_X9_X9 a cyI cyJ v9_refusals v7_rows v7_lengths v7_sizes v7_rests v7_orders v6_hooks v6_lefts v6_heights v1_table v5_known v8_sizes v8_coefficients v8_undoneSums v8_undos v8_nextUndo v8_imageTaken v0_totals v3_letters v3_count v3_next v3_size v4_values v4_lengths v9_refusals_84 v7_rows v7_lengths v7_sizes v7_rests v7_orders v6_hooks v6_lefts v6_heights v1_table v5_known v8_sizes v8_coefficients v8_undoneSums v8_undos v8_nextUndo v8_imageTaken v0_totals v3_letters v3_count v3_next v3_size v4_values v4_lengths) (c_X9_refuse l D cyI cyJ G a H.size v9_refusals v7_rows v7_lengths v7_sizes v7_rests v7_orders v6_hooks v6_lefts v6_heights v1_table v5_known v8_sizes v8_coefficients v8_undoneSums v8_undos v8_nextUndo v8_imageTaken v0_totals v3_letters v3_count v3_next v3_size v4_values v4_lengths (-1 : Int32) r_83 v9_refusals_84 hk_85) pk_X9_refuse mw_2_103 ⟨rfl, rfl, Nat.le_of_ble_eq_true rfl, Nat.le_of_ble_eq_true rfl⟩ rfl rfl rfl rfl rfl (Nat.le_of_ble_eq_true rfl) ⟨Nat.le_of_ble_eq_true rfl, Nat.le_of_ble_eq_true rfl⟩ dX9_makes_35 (fun H locs hP hD hS => ?_)
    obtain ⟨rfl, rfl, rfl, rfl, rfl, rfl, rfl, rfl, rfl⟩ := po_9 hf
    rw [← hQ]; exact xe_iret Cx rfl hP hD hS dX9_makes_38
  refine lv_aload_n hx hb dX9_makes_0 rfl (lv_at hl 0 rfl) ?_
  refine va_get (ci := 9) (v := .ref (a 17)) hx hb hts wX9_in hown hK hP 0 rfl rfl 5 (by decide) (hts _ mw_2_72) (fun _ h9 => h9) rfl dX9_makes_1 ?_
  refine lv_iload_n hx hb dX9_makes_4 rfl (lv_at hl 1 rfl) ?_
  obtain ⟨r_86, hk_87, hf⟩ := pe_1 hf
  refine xv_z (As := [.int x1]) (rest := []) (q0 := 0) (ci := 8) Cx hP hD hS hl (pl_X9_X8 a cyI cyJ v9_refusals v7_rows v7_lengths v7_sizes v7_rests v7_orders v6_hooks v6_lefts v6_heights v1_table v5_known v8_sizes v8_coefficients v8_undoneSums v8_undos v8_nextUndo v8_imageTaken v0_totals v3_letters v3_count v3_next v3_size v4_values v4_lengths v8_sizes v8_coefficients v8_undoneSums v8_undos v8_nextUndo v8_imageTaken) (c_X8_has l D cyI cyJ G a H.size v8_sizes v8_coefficients v8_undoneSums v8_undos v8_nextUndo v8_imageTaken x1 r_86 hk_87) pk_X8_has mw_3_116 ⟨rfl, rfl, Nat.le_of_ble_eq_true rfl, Nat.le_of_ble_eq_true rfl⟩ rfl rfl rfl rfl rfl (Nat.le_of_ble_eq_true rfl) ⟨Nat.le_of_ble_eq_true rfl, Nat.le_of_ble_eq_true rfl⟩ dX9_makes_5 (fun H locs hn_88 hP hD hS => ?_)
  refine lv_if_eq (tgt := 33) hx hb dX9_makes_8 (by decide) (fun hc_89 => ?_) (fun hc_89 => ?_)
  · have hf := pe_t hf hc_89
    exact w_33 v9_refusals v5_known v8_sizes v8_coefficients v8_undoneSums v8_undos v8_nextUndo v0_totals H locs ls hf hP hD hS (lv_sub hl [0] rfl)
  · have hf := pe_f hf hc_89
    refine lv_aload_n hx hb dX9_makes_11 rfl (lv_at hl 0 rfl) ?_
    refine va_get (ci := 9) (v := .ref (a 17)) hx hb hts wX9_in hown hK hP 0 rfl rfl 5 (by decide) (hts _ mw_2_72) (fun _ h9 => h9) rfl dX9_makes_12 ?_
    refine lv_iload_n hx hb dX9_makes_15 rfl (lv_at hl 2 rfl) ?_
    obtain ⟨r_90, hk_91, hf⟩ := pe_1 hf
    refine xv_z (As := [.int x2]) (rest := []) (q0 := 0) (ci := 8) Cx hP hD hS hl (pl_X9_X8 a cyI cyJ v9_refusals v7_rows v7_lengths v7_sizes v7_rests v7_orders v6_hooks v6_lefts v6_heights v1_table v5_known v8_sizes v8_coefficients v8_undoneSums v8_undos v8_nextUndo v8_imageTaken v0_totals v3_letters v3_count v3_next v3_size v4_values v4_lengths v8_sizes v8_coefficients v8_undoneSums v8_undos v8_nextUndo v8_imageTaken) (c_X8_has l D cyI cyJ G a H.size v8_sizes v8_coefficients v8_undoneSums v8_undos v8_nextUndo v8_imageTaken x2 r_90 hk_91) pk_X8_has mw_3_116 ⟨rfl, rfl, Nat.le_of_ble_eq_true rfl, Nat.le_of_ble_eq_true rfl⟩ rfl rfl rfl rfl rfl (Nat.le_of_ble_eq_true rfl) ⟨Nat.le_of_ble_eq_true rfl, Nat.le_of_ble_eq_true rfl⟩ dX9_makes_16 (fun H locs hn_92 hP hD hS => ?_)
    refine lv_if_eq (tgt := 33) hx hb dX9_makes_19 (by decide) (fun hc_93 => ?_) (fun hc_93 => ?_)
    · have hf := pe_t hf hc_93
      exact w_33 v9_refusals v5_known v8_sizes v8_coefficients v8_undoneSums v8_undos v8_nextUndo v0_totals H locs ls hf hP hD hS (lv_sub hl [0] rfl)
    · have hf := pe_f hf hc_93
      refine lv_aload_n hx hb dX9_makes_22 rfl (lv_at hl 0 rfl) ?_
      refine va_get (ci := 9) (v := .ref (a 17)) hx hb hts wX9_in hown hK hP 0 rfl rfl 5 (by decide) (hts _ mw_2_72) (fun _ h9 => h9) rfl dX9_makes_23 ?_
      refine lv_iload_n hx hb dX9_makes_26 rfl (lv_at hl 3 rfl) ?_
      obtain ⟨r_94, hk_95, hf⟩ := pe_1 hf
      refine xv_z (As := [.int x3]) (rest := []) (q0 := 0) (ci := 8) Cx hP hD hS hl (pl_X9_X8 a cyI cyJ v9_refusals v7_rows v7_lengths v7_sizes v7_rests v7_orders v6_hooks v6_lefts v6_heights v1_table v5_known v8_sizes v8_coefficients v8_undoneSums v8_undos v8_nextUndo v8_imageTaken v0_totals v3_letters v3_count v3_next v3_size v4_values v4_lengths v8_sizes v8_coefficients v8_undoneSums v8_undos v8_nextUndo v8_imageTaken) (c_X8_has l D cyI cyJ G a H.size v8_sizes v8_coefficients v8_undoneSums v8_undos v8_nextUndo v8_imageTaken x3 r_94 hk_95) pk_X8_has mw_3_116 ⟨rfl, rfl, Nat.le_of_ble_eq_true rfl, Nat.le_of_ble_eq_true rfl⟩ rfl rfl rfl rfl rfl (Nat.le_of_ble_eq_true rfl) ⟨Nat.le_of_ble_eq_true rfl, Nat.le_of_ble_eq_true rfl⟩ dX9_makes_27 (fun H locs hn_96 hP hD hS => ?_)
      refine lv_if_ne (tgt := 39) hx hb dX9_makes_30 (by decide) (fun hc_97 => ?_) (fun hc_97 => ?_)
      · have hf := pe_f hf hc_97
        refine lv_iload hx hb dX9_makes_39 (lv_at hl 4 rfl) ?_
        refine lv_if_lt (tgt := 50) hx hb dX9_makes_41 (by decide) (fun hc_98 => ?_) (fun hc_98 => ?_)
        · have hf := pe_t hf hc_98
          exact w_50 v9_refusals v5_known v8_sizes v8_coefficients v8_undoneSums v8_undos v8_nextUndo v0_totals H locs ls hf hP hD hS (lv_sub hl [0] rfl)
        · have hf := pe_f hf hc_98
          refine lv_iload hx hb dX9_makes_44 (lv_at hl 4 rfl) ?_
          refine lv_iconst (v := (2 : Int32)) hx hb dX9_makes_46 (by decide) ?_
          refine lv_icmp_le (tgt := 57) hx hb dX9_makes_47 (by decide) (fun hc_99 => ?_) (fun hc_99 => ?_)
          · have hf := pe_t hf hc_99
            refine lv_aload_n hx hb dX9_makes_57 rfl (lv_at hl 0 rfl) ?_
            refine va_get (ci := 9) (v := .ref (a 17)) hx hb hts wX9_in hown hK hP 0 rfl rfl 5 (by decide) (hts _ mw_2_72) (fun _ h9 => h9) rfl dX9_makes_58 ?_
            refine lv_iload_n hx hb dX9_makes_61 rfl (lv_at hl 2 rfl) ?_
            obtain ⟨r_100, hk_101, hf⟩ := pe_1 hf
            refine xv_z (As := [.int x2]) (rest := []) (q0 := 0) (ci := 8) Cx hP hD hS hl (pl_X9_X8 a cyI cyJ v9_refusals v7_rows v7_lengths v7_sizes v7_rests v7_orders v6_hooks v6_lefts v6_heights v1_table v5_known v8_sizes v8_coefficients v8_undoneSums v8_undos v8_nextUndo v8_imageTaken v0_totals v3_letters v3_count v3_next v3_size v4_values v4_lengths v8_sizes v8_coefficients v8_undoneSums v8_undos v8_nextUndo v8_imageTaken) (c_X8_isMissing l D cyI cyJ G a H.size v8_sizes v8_coefficients v8_undoneSums v8_undos v8_nextUndo v8_imageTaken x2 r_100 hk_101) pk_X8_isMissing mw_3_189 ⟨rfl, rfl, Nat.le_of_ble_eq_true rfl, Nat.le_of_ble_eq_true rfl⟩ rfl rfl rfl rfl rfl (Nat.le_of_ble_eq_true rfl) ⟨Nat.le_of_ble_eq_true rfl, Nat.le_of_ble_eq_true rfl⟩ dX9_makes_62 (fun H locs hn_102 hP hD hS => ?_)
            refine lv_if_ne (tgt := 79) hx hb dX9_makes_65 (by decide) (fun hc_103 => ?_) (fun hc_103 => ?_)
            · have hf := pe_f hf hc_103
              refine lv_bipush (v := (-11 : Int32)) hx hb dX9_makes_79 (by decide) ?_
              obtain ⟨rfl, rfl, rfl, rfl, rfl, rfl, rfl, rfl, rfl⟩ := po_9 hf
              rw [← hQ]; exact xe_iret Cx rfl hP hD hS dX9_makes_81
            · have hf := pe_t hf hc_103
              refine lv_aload_n hx hb dX9_makes_68 rfl (lv_at hl 0 rfl) ?_
              refine va_get (ci := 9) (v := .ref (a 17)) hx hb hts wX9_in hown hK hP 0 rfl rfl 5 (by decide) (hts _ mw_2_72) (fun _ h9 => h9) rfl dX9_makes_69 ?_
              refine lv_iload_n hx hb dX9_makes_72 rfl (lv_at hl 3 rfl) ?_
              obtain ⟨r_104, hk_105, hf⟩ := pe_1 hf
              refine xv_z (As := [.int x3]) (rest := []) (q0 := 0) (ci := 8) Cx hP hD hS hl (pl_X9_X8 a cyI cyJ v9_refusals v7_rows v7_lengths v7_sizes v7_rests v7_orders v6_hooks v6_lefts v6_heights v1_table v5_known v8_sizes v8_coefficients v8_undoneSums v8_undos v8_nextUndo v8_imageTaken v0_totals v3_letters v3_count v3_next v3_size v4_values v4_lengths v8_sizes v8_coefficients v8_undoneSums v8_undos v8_nextUndo v8_imageTaken) (c_X8_isMissing l D cyI cyJ G a H.size v8_sizes v8_coefficients v8_undoneSums v8_undos v8_nextUndo v8_imageTaken x3 r_104 hk_105) pk_X8_isMissing mw_3_189 ⟨rfl, rfl, Nat.le_of_ble_eq_true rfl, Nat.le_of_ble_eq_true rfl⟩ rfl rfl rfl rfl rfl (Nat.le_of_ble_eq_true rfl) ⟨Nat.le_of_ble_eq_true rfl, Nat.le_of_ble_eq_true rfl⟩ dX9_makes_73 (fun H locs hn_106 hP hD hS => ?_)
              refine lv_if_eq (tgt := 82) hx hb dX9_makes_76 (by decide) (fun hc_107 => ?_) (fun hc_107 => ?_)
              · have hf := pe_t hf hc_107
                refine lv_aload_n hx hb dX9_makes_82 rfl (lv_at hl 0 rfl) ?_
                refine va_get (ci := 9) (v := .ref (a 17)) hx hb hts wX9_in hown hK hP 0 rfl rfl 5 (by decide) (hts _ mw_2_72) (fun _ h9 => h9) rfl dX9_makes_83 ?_
                refine lv_iload_n hx hb dX9_makes_86 rfl (lv_at hl 2 rfl) ?_
                obtain ⟨r_108, hk_109, hf⟩ := pe_1 hf
                refine xv_i (As := [.int x2]) (rest := []) (q0 := 0) (ci := 8) Cx hP hD hS hl (pl_X9_X8 a cyI cyJ v9_refusals v7_rows v7_lengths v7_sizes v7_rests v7_orders v6_hooks v6_lefts v6_heights v1_table v5_known v8_sizes v8_coefficients v8_undoneSums v8_undos v8_nextUndo v8_imageTaken v0_totals v3_letters v3_count v3_next v3_size v4_values v4_lengths v8_sizes v8_coefficients v8_undoneSums v8_undos v8_nextUndo v8_imageTaken) (c_X8_sizeOf l D cyI cyJ G a H.size v8_sizes v8_coefficients v8_undoneSums v8_undos v8_nextUndo v8_imageTaken x2 r_108 hk_109) pk_X8_sizeOf mw_3_206 ⟨rfl, rfl, Nat.le_of_ble_eq_true rfl, Nat.le_of_ble_eq_true rfl⟩ rfl rfl rfl rfl rfl (Nat.le_of_ble_eq_true rfl) ⟨Nat.le_of_ble_eq_true rfl, Nat.le_of_ble_eq_true rfl⟩ dX9_makes_87 (fun H locs hP hD hS => ?_)
                refine lv_aload_n hx hb dX9_makes_90 rfl (lv_at hl 0 rfl) ?_
                refine va_get (ci := 9) (v := .ref (a 17)) hx hb hts wX9_in hown hK hP 0 rfl rfl 5 (by decide) (hts _ mw_2_72) (fun _ h9 => h9) rfl dX9_makes_91 ?_
                refine lv_iload_n hx hb dX9_makes_94 rfl (lv_at hl 3 rfl) ?_
                obtain ⟨r_110, hk_111, hf⟩ := pe_1 hf
                refine xv_i (As := [.int x3]) (rest := [.int r_108]) (q0 := 0) (ci := 8) Cx hP hD hS hl (pl_X9_X8 a cyI cyJ v9_refusals v7_rows v7_lengths v7_sizes v7_rests v7_orders v6_hooks v6_lefts v6_heights v1_table v5_known v8_sizes v8_coefficients v8_undoneSums v8_undos v8_nextUndo v8_imageTaken v0_totals v3_letters v3_count v3_next v3_size v4_values v4_lengths v8_sizes v8_coefficients v8_undoneSums v8_undos v8_nextUndo v8_imageTaken) (c_X8_sizeOf l D cyI cyJ G a H.size v8_sizes v8_coefficients v8_undoneSums v8_undos v8_nextUndo v8_imageTaken x3 r_110 hk_111) pk_X8_sizeOf mw_3_206 ⟨rfl, rfl, Nat.le_of_ble_eq_true rfl, Nat.le_of_ble_eq_true rfl⟩ rfl rfl rfl rfl rfl (Nat.le_of_ble_eq_true rfl) ⟨Nat.le_of_ble_eq_true rfl, Nat.le_of_ble_eq_true rfl⟩ dX9_makes_95 (fun H locs hP hD hS => ?_)
                refine lv_icmp_eq (tgt := 108) hx hb dX9_makes_98 (by decide) (fun hc_112 => ?_) (fun hc_112 => ?_)
                · have hf := pe_t hf hc_112
                  refine lv_iload hx hb dX9_makes_108 (lv_at hl 4 rfl) ?_
                  by_cases hc_113 : x4 = (0 : Int32)
                  · have hf := pe_t hf hc_113
                    refine lv_lookup (tgt := 136) hx hb dX9_makes_110 (by decide) (by rw [hc_113]; first | done | rfl) (by decide) ?_
                    refine lv_aload_n hx hb dX9_makes_136 rfl (lv_at hl 0 rfl) ?_
                    refine va_get (ci := 9) (v := .ref (a 21)) hx hb hts wX9_in hown hK hP 0 rfl rfl 6 (by decide) (hts _ mw_2_73) (fun _ h9 => h9) rfl dX9_makes_137 ?_
                    refine lv_iload_n hx hb dX9_makes_140 rfl (lv_at hl 2 rfl) ?_
                    refine lv_iload_n hx hb dX9_makes_141 rfl (lv_at hl 3 rfl) ?_
                    refine lv_iconst (v := (1 : Int32)) hx hb dX9_makes_142 (by decide) ?_
                    obtain ⟨r_114, v8_sizes_115, v8_coefficients_116, v0_totals_117, hk_118, hf⟩ := pe_4 hf
                    refine xv_z (As := [.int x2, .int x3, .int (1 : Int32)]) (rest := []) (q0 := 0) (ci := 0) Cx hP hD hS hl (pl_X9_X0 a cyI cyJ v9_refusals v7_rows v7_lengths v7_sizes v7_rests v7_orders v6_hooks v6_lefts v6_heights v1_table v5_known v8_sizes v8_coefficients v8_undoneSums v8_undos v8_nextUndo v8_imageTaken v0_totals v3_letters v3_count v3_next v3_size v4_values v4_lengths v0_totals_117 v7_rows v7_lengths v7_sizes v7_rests v7_orders v6_hooks v6_lefts v6_heights v1_table v5_known v8_sizes_115 v8_coefficients_116 v8_undoneSums v8_undos v8_nextUndo v8_imageTaken) (c_X0_draftsPlus l D cyI cyJ G a H.size v0_totals v7_rows v7_lengths v7_sizes v7_rests v7_orders v6_hooks v6_lefts v6_heights v1_table v5_known v8_sizes v8_coefficients v8_undoneSums v8_undos v8_nextUndo v8_imageTaken x2 x3 (1 : Int32) r_114 v8_sizes_115 v8_coefficients_116 v0_totals_117 hk_118) pk_X0_draftsPlus mw_3_226 ⟨rfl, rfl, Nat.le_of_ble_eq_true rfl, Nat.le_of_ble_eq_true rfl⟩ rfl rfl rfl rfl rfl (Nat.le_of_ble_eq_true rfl) ⟨Nat.le_of_ble_eq_true rfl, Nat.le_of_ble_eq_true rfl⟩ dX9_makes_143 (fun H locs hn_119 hP hD hS => ?_)
                    refine lv_istore (lv' := [(5, .int r_114), (0, .ref (a 0)), (1, .int x1), (2, .int x2), (3, .int x3), (4, .int x4)]) hx hb dX9_makes_146 hl (by decide) rfl (fun ls hl => ?_)
                    refine lv_goto (tgt := 177) hx hb dX9_makes_148 (by decide) ?_
                    exact w_177 v9_refusals v5_known v8_sizes_115 v8_coefficients_116 v8_undoneSums v8_undos v8_nextUndo v0_totals_117 x1 r_114 H locs ls hf hP hD hS (lv_sub hl [1, 2, 0] rfl)
                  · have hf := pe_f hf hc_113
                    by_cases hc_120 : x4 = (1 : Int32)
                    · have hf := pe_t hf hc_120
                      refine lv_lookup (tgt := 151) hx hb dX9_makes_110 (by decide) (by rw [hc_120]; first | done | rfl) (by decide) ?_
                      refine lv_aload_n hx hb dX9_makes_151 rfl (lv_at hl 0 rfl) ?_
                      refine va_get (ci := 9) (v := .ref (a 21)) hx hb hts wX9_in hown hK hP 0 rfl rfl 6 (by decide) (hts _ mw_2_73) (fun _ h9 => h9) rfl dX9_makes_152 ?_
                      refine lv_iload_n hx hb dX9_makes_155 rfl (lv_at hl 2 rfl) ?_
                      refine lv_iload_n hx hb dX9_makes_156 rfl (lv_at hl 3 rfl) ?_
                      refine lv_iconst (v := (-1 : Int32)) hx hb dX9_makes_157 (by decide) ?_
                      obtain ⟨r_121, v8_sizes_122, v8_coefficients_123, v0_totals_124, hk_125, hf⟩ := pe_4 hf
                      refine xv_z (As := [.int x2, .int x3, .int (-1 : Int32)]) (rest := []) (q0 := 0) (ci := 0) Cx hP hD hS hl (pl_X9_X0 a cyI cyJ v9_refusals v7_rows v7_lengths v7_sizes v7_rests v7_orders v6_hooks v6_lefts v6_heights v1_table v5_known v8_sizes v8_coefficients v8_undoneSums v8_undos v8_nextUndo v8_imageTaken v0_totals v3_letters v3_count v3_next v3_size v4_values v4_lengths v0_totals_124 v7_rows v7_lengths v7_sizes v7_rests v7_orders v6_hooks v6_lefts v6_heights v1_table v5_known v8_sizes_122 v8_coefficients_123 v8_undoneSums v8_undos v8_nextUndo v8_imageTaken) (c_X0_draftsPlus l D cyI cyJ G a H.size v0_totals v7_rows v7_lengths v7_sizes v7_rests v7_orders v6_hooks v6_lefts v6_heights v1_table v5_known v8_sizes v8_coefficients v8_undoneSums v8_undos v8_nextUndo v8_imageTaken x2 x3 (-1 : Int32) r_121 v8_sizes_122 v8_coefficients_123 v0_totals_124 hk_125) pk_X0_draftsPlus mw_3_226 ⟨rfl, rfl, Nat.le_of_ble_eq_true rfl, Nat.le_of_ble_eq_true rfl⟩ rfl rfl rfl rfl rfl (Nat.le_of_ble_eq_true rfl) ⟨Nat.le_of_ble_eq_true rfl, Nat.le_of_ble_eq_true rfl⟩ dX9_makes_158 (fun H locs hn_126 hP hD hS => ?_)
                      refine lv_istore (lv' := [(5, .int r_121), (0, .ref (a 0)), (1, .int x1), (2, .int x2), (3, .int x3), (4, .int x4)]) hx hb dX9_makes_161 hl (by decide) rfl (fun ls hl => ?_)
                      refine lv_goto (tgt := 177) hx hb dX9_makes_163 (by decide) ?_
                      exact w_177 v9_refusals v5_known v8_sizes_122 v8_coefficients_123 v8_undoneSums v8_undos v8_nextUndo v0_totals_124 x1 r_121 H locs ls hf hP hD hS (lv_sub hl [1, 2, 0] rfl)
                    · have hf := pe_f hf hc_120
                      have hc_113 : (x4).toInt ≠ 0 := xh_ne (by decide) hc_113
                      have hc_120 : (x4).toInt ≠ 1 := xh_ne (by decide) hc_120
                      refine lv_lookup (tgt := 166) hx hb dX9_makes_110 (by decide) (by rw [Op.lookupswitch.offset_cons, if_neg (Ne.symm hc_113), Op.lookupswitch.offset_cons, if_neg (Ne.symm hc_120), Op.lookupswitch.offset_nil]) (by decide) ?_
                      refine lv_aload_n hx hb dX9_makes_166 rfl (lv_at hl 0 rfl) ?_
                      refine va_get (ci := 9) (v := .ref (a 21)) hx hb hts wX9_in hown hK hP 0 rfl rfl 6 (by decide) (hts _ mw_2_73) (fun _ h9 => h9) rfl dX9_makes_167 ?_
                      refine lv_iload_n hx hb dX9_makes_170 rfl (lv_at hl 2 rfl) ?_
                      refine lv_iload_n hx hb dX9_makes_171 rfl (lv_at hl 3 rfl) ?_
                      obtain ⟨r_127, v5_known_128, v8_sizes_129, v8_coefficients_130, v0_totals_131, hk_132, hf⟩ := pe_5 hf
                      refine xv_z (As := [.int x2, .int x3]) (rest := []) (q0 := 0) (ci := 0) Cx hP hD hS hl (pl_X9_X0 a cyI cyJ v9_refusals v7_rows v7_lengths v7_sizes v7_rests v7_orders v6_hooks v6_lefts v6_heights v1_table v5_known v8_sizes v8_coefficients v8_undoneSums v8_undos v8_nextUndo v8_imageTaken v0_totals v3_letters v3_count v3_next v3_size v4_values v4_lengths v0_totals_131 v7_rows v7_lengths v7_sizes v7_rests v7_orders v6_hooks v6_lefts v6_heights v1_table v5_known_128 v8_sizes_129 v8_coefficients_130 v8_undoneSums v8_undos v8_nextUndo v8_imageTaken) (c_X0_draftsTimes l D cyI cyJ G a H.size v0_totals v7_rows v7_lengths v7_sizes v7_rests v7_orders v6_hooks v6_lefts v6_heights v1_table v5_known v8_sizes v8_coefficients v8_undoneSums v8_undos v8_nextUndo v8_imageTaken x2 x3 r_127 v5_known_128 v8_sizes_129 v8_coefficients_130 v0_totals_131 hk_132) pk_X0_draftsTimes mw_4_11 ⟨rfl, rfl, Nat.le_of_ble_eq_true rfl, Nat.le_of_ble_eq_true rfl⟩ rfl rfl rfl rfl rfl (Nat.le_of_ble_eq_true rfl) ⟨Nat.le_of_ble_eq_true rfl, Nat.le_of_ble_eq_true rfl⟩ dX9_makes_172 (fun H locs hn_133 hP hD hS => ?_)
                      refine lv_istore (lv' := [(5, .int r_127), (0, .ref (a 0)), (1, .int x1), (2, .int x2), (3, .int x3), (4, .int x4)]) hx hb dX9_makes_175 hl (by decide) rfl (fun ls hl => ?_)
                      exact w_177 v9_refusals v5_known_128 v8_sizes_129 v8_coefficients_130 v8_undoneSums v8_undos v8_nextUndo v0_totals_131 x1 r_127 H locs ls hf hP hD hS (lv_sub hl [1, 2, 0] rfl)
                · have hf := pe_f hf hc_112
                  refine lv_aload_n hx hb dX9_makes_101 rfl (lv_at hl 0 rfl) ?_
                  refine lv_bipush (v := (-3 : Int32)) hx hb dX9_makes_102 (by decide) ?_
                  obtain ⟨r_134, v9_refusals_135, hk_136, hf⟩ := pe_2 hf
                  refine xv_i (As := [.int (-3 : Int32)]) (rest := []) (q0 := 0) (ci := 9) Cx hP hD hS hl (pl_X9_X9 a cyI cyJ v9_refusals v7_rows v7_lengths v7_sizes v7_rests v7_orders v6_hooks v6_lefts v6_heights v1_table v5_known v8_sizes v8_coefficients v8_undoneSums v8_undos v8_nextUndo v8_imageTaken v0_totals v3_letters v3_count v3_next v3_size v4_values v4_lengths v9_refusals_135 v7_rows v7_lengths v7_sizes v7_rests v7_orders v6_hooks v6_lefts v6_heights v1_table v5_known v8_sizes v8_coefficients v8_undoneSums v8_undos v8_nextUndo v8_imageTaken v0_totals v3_letters v3_count v3_next v3_size v4_values v4_lengths) (c_X9_refuse l D cyI cyJ G a H.size v9_refusals v7_rows v7_lengths v7_sizes v7_rests v7_orders v6_hooks v6_lefts v6_heights v1_table v5_known v8_sizes v8_coefficients v8_undoneSums v8_undos v8_nextUndo v8_imageTaken v0_totals v3_letters v3_count v3_next v3_size v4_values v4_lengths (-3 : Int32) r_134 v9_refusals_135 hk_136) pk_X9_refuse mw_2_103 ⟨rfl, rfl, Nat.le_of_ble_eq_true rfl, Nat.le_of_ble_eq_true rfl⟩ rfl rfl rfl rfl rfl (Nat.le_of_ble_eq_true rfl) ⟨Nat.le_of_ble_eq_true rfl, Nat.le_of_ble_eq_true rfl⟩ dX9_makes_104 (fun H locs hP hD hS => ?_)
                  obtain ⟨rfl, rfl, rfl, rfl, rfl, rfl, rfl, rfl, rfl⟩ := po_9 hf
                  rw [← hQ]; exact xe_iret Cx rfl hP hD hS dX9_makes_107
              · have hf := pe_f hf hc_107
                refine lv_bipush (v := (-11 : Int32)) hx hb dX9_makes_79 (by decide) ?_
                obtain ⟨rfl, rfl, rfl, rfl, rfl, rfl, rfl, rfl, rfl⟩ := po_9 hf
                rw [← hQ]; exact xe_iret Cx rfl hP hD hS dX9_makes_81
          · have hf := pe_f hf hc_99
            exact w_50 v9_refusals v5_known v8_sizes v8_coefficients v8_undoneSums v8_undos v8_nextUndo v0_totals H locs ls hf hP hD hS (lv_sub hl [0] rfl)
      · have hf := pe_t hf hc_97
        exact w_33 v9_refusals v5_known v8_sizes v8_coefficients v8_undoneSums v8_undos v8_nextUndo v0_totals H locs ls hf hP hD hS (lv_sub hl [0] rfl)
def f_X9_changed_77 (v7_rows : Nat → Int32) (v7_sizes : Nat → Int32) (v6_hooks : Nat → Int32) (v6_lefts : Nat → Int32) (v9_refusals : Nat → Int32) (v8_sizes : Nat → Int32) (v8_coefficients : Nat → Int32) (v8_undoneSums : Nat → Int32) (v8_undos : Int32) (v8_nextUndo : Int32) (v0_totals : Nat → Int64) : Option (Int32 × (Nat → Int32) × (Nat → Int32) × (Nat → Int32) × (Nat → Int32) × Int32 × Int32 × (Nat → Int64)) := p_b2 (f_X9_refuse v9_refusals (-3 : Int32)) (fun r_1 v9_refusals_2 => some (r_1, v9_refusals_2, v8_sizes, v8_coefficients, v8_undoneSums, v8_undos, v8_nextUndo, v0_totals))
def f_X9_changed_148 (v7_rows : Nat → Int32) (v7_sizes : Nat → Int32) (v6_hooks : Nat → Int32) (v6_lefts : Nat → Int32) (v9_refusals : Nat → Int32) (v8_sizes : Nat → Int32) (v8_coefficients : Nat → Int32) (v8_undoneSums : Nat → Int32) (v8_undos : Int32) (v8_nextUndo : Int32) (v0_totals : Nat → Int64) (y1 : Int32) (y4 : Int32) : Option (Int32 × (Nat → Int32) × (Nat → Int32) × (Nat → Int32) × (Nat → Int32) × Int32 × Int32 × (Nat → Int64)) := if y4 = 0 then (p_b2 (f_X9_refuse v9_refusals (-6 : Int32)) (fun r_5 v9_refusals_6 => some (r_5, v9_refusals_6, v8_sizes, v8_coefficients, v8_undoneSums, v8_undos, v8_nextUndo, v0_totals))) else (p_b6 (f_X9_keepDraft v8_sizes v8_coefficients v8_undoneSums v8_undos v8_nextUndo y1) (fun r_8 v8_sizes_9 v8_coefficients_10 v8_undoneSums_11 v8_undos_12 v8_nextUndo_13 => some (r_8, v9_refusals, v8_sizes_9, v8_coefficients_10, v8_undoneSums_11, v8_undos_12, v8_nextUndo_13, v0_totals)))
def f_X9_changed_84 (v7_rows : Nat → Int32) (v7_sizes : Nat → Int32) (v6_hooks : Nat → Int32) (v6_lefts : Nat → Int32) (v9_refusals : Nat → Int32) (v8_sizes : Nat → Int32) (v8_coefficients : Nat → Int32) (v8_undoneSums : Nat → Int32) (v8_undos : Int32) (v8_nextUndo : Int32) (v0_totals : Nat → Int64) (y1 : Int32) (y2 : Int32) : Option (Int32 × (Nat → Int32) × (Nat → Int32) × (Nat → Int32) × (Nat → Int32) × Int32 × Int32 × (Nat → Int64)) := if y2 = (0 : Int32) then (p_b4 (f_X0_draftsAbout v7_rows v7_sizes v8_sizes v8_coefficients v0_totals y1) (fun r_16 v8_sizes_17 v8_coefficients_18 v0_totals_19 => (f_X9_changed_148 v7_rows v7_sizes v6_hooks v6_lefts) v9_refusals v8_sizes_17 v8_coefficients_18 v8_undoneSums v8_undos v8_nextUndo v0_totals_19 y1 r_16)) else (if y2 = (1 : Int32) then (p_b4 (f_X0_draftsRestricted v7_sizes v6_hooks v6_lefts v8_sizes v8_coefficients v0_totals y1) (fun r_23 v8_sizes_24 v8_coefficients_25 v0_totals_26 => (f_X9_changed_148 v7_rows v7_sizes v6_hooks v6_lefts) v9_refusals v8_sizes_24 v8_coefficients_25 v8_undoneSums v8_undos v8_nextUndo v0_totals_26 y1 r_23)) else (p_b4 (f_X0_draftsInduced v7_sizes v6_hooks v6_lefts v8_sizes v8_coefficients v0_totals y1) (fun r_29 v8_sizes_30 v8_coefficients_31 v0_totals_32 => (f_X9_changed_148 v7_rows v7_sizes v6_hooks v6_lefts) v9_refusals v8_sizes_30 v8_coefficients_31 v8_undoneSums v8_undos v8_nextUndo v0_totals_32 y1 r_29)))
def f_X9_changed_66 (K_77 : (Nat → Int32) → (Nat → Int32) → (Nat → Int32) → (Nat → Int32) → Int32 → Int32 → (Nat → Int64) → Option (Int32 × (Nat → Int32) × (Nat → Int32) × (Nat → Int32) × (Nat → Int32) × Int32 × Int32 × (Nat → Int64))) (v7_rows : Nat → Int32) (v7_sizes : Nat → Int32) (v6_hooks : Nat → Int32) (v6_lefts : Nat → Int32) (v9_refusals : Nat → Int32) (v8_sizes : Nat → Int32) (v8_coefficients : Nat → Int32) (v8_undoneSums : Nat → Int32) (v8_undos : Int32) (v8_nextUndo : Int32) (v0_totals : Nat → Int64) (y1 : Int32) (y2 : Int32) (y3 : Int32) : Option (Int32 × (Nat → Int32) × (Nat → Int32) × (Nat → Int32) × (Nat → Int32) × Int32 × Int32 × (Nat → Int64)) := if y2 = (2 : Int32) then (if y3 < (8 : Int32) then ((f_X9_changed_84 v7_rows v7_sizes v6_hooks v6_lefts) v9_refusals v8_sizes v8_coefficients v8_undoneSums v8_undos v8_nextUndo v0_totals y1 y2) else (K_77 v9_refusals v8_sizes v8_coefficients v8_undoneSums v8_undos v8_nextUndo v0_totals)) else ((f_X9_changed_84 v7_rows v7_sizes v6_hooks v6_lefts) v9_refusals v8_sizes v8_coefficients v8_undoneSums v8_undos v8_nextUndo v0_totals y1 y2)
def f_X9_changed_26 (v7_rows : Nat → Int32) (v7_sizes : Nat → Int32) (v6_hooks : Nat → Int32) (v6_lefts : Nat → Int32) (v9_refusals : Nat → Int32) (v8_sizes : Nat → Int32) (v8_coefficients : Nat → Int32) (v8_undoneSums : Nat → Int32) (v8_undos : Int32) (v8_nextUndo : Int32) (v0_totals : Nat → Int64) : Option (Int32 × (Nat → Int32) × (Nat → Int32) × (Nat → Int32) × (Nat → Int32) × Int32 × Int32 × (Nat → Int64)) := p_b2 (f_X9_refuse v9_refusals (-2 : Int32)) (fun r_37 v9_refusals_38 => some (r_37, v9_refusals_38, v8_sizes, v8_coefficients, v8_undoneSums, v8_undos, v8_nextUndo, v0_totals))
def f_X9_changed (v9_refusals : Nat → Int32) (v7_rows : Nat → Int32) (v7_sizes : Nat → Int32) (v6_hooks : Nat → Int32) (v6_lefts : Nat → Int32) (v8_sizes : Nat → Int32) (v8_coefficients : Nat → Int32) (v8_undoneSums : Nat → Int32) (v8_undos : Int32) (v8_nextUndo : Int32) (v0_totals : Nat → Int64) (x1 : Int32) (x2 : Int32) : Option (Int32 × (Nat → Int32) × (Nat → Int32) × (Nat → Int32) × (Nat → Int32) × Int32 × Int32 × (Nat → Int64)) := p_b1 (f_X8_has x1) (fun r_40 => if r_40 = 0 then (p_b2 (f_X9_refuse v9_refusals (-1 : Int32)) (fun r_54 v9_refusals_55 => some (r_54, v9_refusals_55, v8_sizes, v8_coefficients, v8_undoneSums, v8_undos, v8_nextUndo, v0_totals))) else (if x2 < 0 then ((f_X9_changed_26 v7_rows v7_sizes v6_hooks v6_lefts) v9_refusals v8_sizes v8_coefficients v8_undoneSums v8_undos v8_nextUndo v0_totals) else (if x2 ≤ (2 : Int32) then (p_b1 (f_X8_isMissing v8_sizes x1) (fun r_46 => if r_46 = 0 then (p_b1 (f_X8_sizeOf v8_sizes x1) (fun r_50 => if x2 = (1 : Int32) then (if r_50 < (1 : Int32) then ((f_X9_changed_77 v7_rows v7_sizes v6_hooks v6_lefts) v9_refusals v8_sizes v8_coefficients v8_undoneSums v8_undos v8_nextUndo v0_totals) else ((f_X9_changed_66 (f_X9_changed_77 v7_rows v7_sizes v6_hooks v6_lefts) v7_rows v7_sizes v6_hooks v6_lefts) v9_refusals v8_sizes v8_coefficients v8_undoneSums v8_undos v8_nextUndo v0_totals x1 x2 r_50)) else ((f_X9_changed_66 (f_X9_changed_77 v7_rows v7_sizes v6_hooks v6_lefts) v7_rows v7_sizes v6_hooks v6_lefts) v9_refusals v8_sizes v8_coefficients v8_undoneSums v8_undos v8_nextUndo v0_totals x1 x2 r_50))) else (some ((-11 : Int32), v9_refusals, v8_sizes, v8_coefficients, v8_undoneSums, v8_undos, v8_nextUndo, v0_totals)))) else ((f_X9_changed_26 v7_rows v7_sizes v6_hooks v6_lefts) v9_refusals v8_sizes v8_coefficients v8_undoneSums v8_undos v8_nextUndo v0_totals))))
set_option maxHeartbeats 4000000 in
set_option maxRecDepth 20000 in
theorem c_X9_changed (l : Launch) (D : va_G) (cyI cyJ : ClassId) (G a : Nat → Nat) (sz : Nat) (v9_refusals : Nat → Int32) (v7_rows : Nat → Int32) (v7_lengths : Nat → Int32) (v7_sizes : Nat → Int32) (v7_rests : Nat → Int32) (v7_orders : Nat → Int32) (v6_hooks : Nat → Int32) (v6_lefts : Nat → Int32) (v6_heights : Nat → Int32) (v1_table : Nat → Int32) (v5_known : Nat → Int32) (v8_sizes : Nat → Int32) (v8_coefficients : Nat → Int32) (v8_undoneSums : Nat → Int32) (v8_undos : Int32) (v8_nextUndo : Int32) (v8_imageTaken : Int32) (v0_totals : Nat → Int64) (v3_letters : Nat → Int32) (v3_count : Int32) (v3_next : Int32) (v3_size : Int32) (v4_values : Nat → Int32) (v4_lengths : Nat → Int32) (x1 : Int32) (x2 : Int32) (ro : Int32) (ov9_refusals : Nat → Int32) (ov8_sizes : Nat → Int32) (ov8_coefficients : Nat → Int32) (ov8_undoneSums : Nat → Int32) (ov8_undos : Int32) (ov8_nextUndo : Int32) (ov0_totals : Nat → Int64) (hf : f_X9_changed v9_refusals v7_rows v7_sizes v6_hooks v6_lefts v8_sizes v8_coefficients v8_undoneSums v8_undos v8_nextUndo v0_totals x1 x2 = some (ro, ov9_refusals, ov8_sizes, ov8_coefficients, ov8_undoneSums, ov8_undos, ov8_nextUndo, ov0_totals)) : xm_i l yX9_changed (Cond.code yX9_changed cX9_changed 5 (some .int) :: xg_tbl) { frames := 5, cells := 0, slots := 0, locals := 132 } D xcl [(cyI, .int), (cyJ, .long)] G sz [.ref (a 0), .int x1, .int x2] (wd_X9 a cyI cyJ v9_refusals v7_rows v7_lengths v7_sizes v7_rests v7_orders v6_hooks v6_lefts v6_heights v1_table v5_known v8_sizes v8_coefficients v8_undoneSums v8_undos v8_nextUndo v8_imageTaken v0_totals v3_letters v3_count v3_next v3_size v4_values v4_lengths) (wd_X9 a cyI cyJ ov9_refusals v7_rows v7_lengths v7_sizes v7_rests v7_orders v6_hooks v6_lefts v6_heights v1_table v5_known ov8_sizes ov8_coefficients ov8_undoneSums ov8_undos ov8_nextUndo v8_imageTaken ov0_totals v3_letters v3_count v3_next v3_size v4_values v4_lengths) ro := by
  refine xm_of_i (own := RX9) (by decide) rfl rfl (Nat.le_of_ble_eq_true rfl) ?_
  intro p e s m args below meth c ls Q A hQ hAe hin Cx hsz hP hD hS hl
  have Cx1 := Cx
  obtain ⟨⟨hx, hb, hml, hown, hts⟩, hr, hlocks, hK, hA, hT⟩ := Cx1
  have hl : lv_has ls 5 [(0, .ref (a 0)), (1, .int x1), (2, .int x2)] := hl
  obtain ⟨H, eH⟩ : ∃ H, H = s.heap := ⟨_, rfl⟩
  obtain ⟨locs, eL⟩ : ∃ L : List Loc, L = [] := ⟨_, rfl⟩
  rw [← eH] at hP
  have hS : va_S A s.heap H locs := by rw [eH, eL]; exact hS
  suffices hgo : W p l e { frames := 5, cells := 0, slots := 0, locals := 132 } s m args below meth c H locs 0 0 Q (F0 m 0 ls []) by rw [eH, eL] at hgo; exact hgo
  clear eH eL
  unfold f_X9_changed at hf
  have w_77 : ∀ (v9_refusals : Nat → Int32) (v8_sizes : Nat → Int32) (v8_coefficients : Nat → Int32) (v8_undoneSums : Nat → Int32) (v8_undos : Int32) (v8_nextUndo : Int32) (v0_totals : Nat → Int64) (H : Heap) (locs : List Loc) (ls : Array Slot), (f_X9_changed_77 v7_rows v7_sizes v6_hooks v6_lefts) v9_refusals v8_sizes v8_coefficients v8_undoneSums v8_undos v8_nextUndo v0_totals = some (ro, ov9_refusals, ov8_sizes, ov8_coefficients, ov8_undoneSums, ov8_undos, ov8_nextUndo, ov0_totals) → va_P D xcl (wd_X9 a cyI cyJ v9_refusals v7_rows v7_lengths v7_sizes v7_rests v7_orders v6_hooks v6_lefts v6_heights v1_table v5_known v8_sizes v8_coefficients v8_undoneSums v8_undos v8_nextUndo v8_imageTaken v0_totals v3_letters v3_count v3_next v3_size v4_values v4_lengths) H → va_D A (wd_X9 a cyI cyJ v9_refusals v7_rows v7_lengths v7_sizes v7_rests v7_orders v6_hooks v6_lefts v6_heights v1_table v5_known v8_sizes v8_coefficients v8_undoneSums v8_undos v8_nextUndo v8_imageTaken v0_totals v3_letters v3_count v3_next v3_size v4_values v4_lengths) → va_S A s.heap H locs → lv_has ls 5 [(0, .ref (a 0))] → W p l e { frames := 5, cells := 0, slots := 0, locals := 132 } s m args below meth c H locs 0 0 Q (F0 m 77 ls []) := by
    intro v9_refusals v8_sizes v8_coefficients v8_undoneSums v8_undos v8_nextUndo v0_totals H locs ls hf hP hD hS hl
    unfold f_X9_changed_77 at hf
    refine lv_aload_n hx hb dX9_changed_77 rfl (lv_at hl 0 rfl) ?_
    refine lv_bipush (v := (-3 : Int32)) hx hb dX9_changed_78 (by decide) ?_
    obtain ⟨r_57, v9_refusals_58, hk_59, hf⟩ := pe_2 hf
    refine xv_i (As := [.int (-3 : Int32)]) (rest := []) (q0 := 0) (ci := 9) Cx hP hD hS hl (pl_X9_X9 a cyI cyJ v9_refusals v7_rows v7_lengths v7_sizes v7_rests v7_orders v6_hooks v6_lefts v6_heights v1_table v5_known v8_sizes v8_coefficients v8_undoneSums v8_undos v8_nextUndo v8_imageTaken v0_totals v3_letters v3_count v3_next v3_size v4_values v4_lengths v9_refusals_58 v7_rows v7_lengths v7_sizes v7_rests v7_orders v6_hooks v6_lefts v6_heights v1_table v5_known v8_sizes v8_coefficients v8_undoneSums v8_undos v8_nextUndo v8_imageTaken v0_totals v3_letters v3_count v3_next v3_size v4_values v4_lengths) (c_X9_refuse l D cyI cyJ G a H.size v9_refusals v7_rows v7_lengths v7_sizes v7_rests v7_orders v6_hooks v6_lefts v6_heights v1_table v5_known v8_sizes v8_coefficients v8_undoneSums v8_undos v8_nextUndo v8_imageTaken v0_totals v3_letters v3_count v3_next v3_size v4_values v4_lengths (-3 : Int32) r_57 v9_refusals_58 hk_59) pk_X9_refuse mw_2_103 ⟨rfl, rfl, Nat.le_of_ble_eq_true rfl, Nat.le_of_ble_eq_true rfl⟩ rfl rfl rfl rfl rfl (Nat.le_of_ble_eq_true rfl) ⟨Nat.le_of_ble_eq_true rfl, Nat.le_of_ble_eq_true rfl⟩ dX9_changed_80 (fun H locs hP hD hS => ?_)
    obtain ⟨rfl, rfl, rfl, rfl, rfl, rfl, rfl, rfl⟩ := po_8 hf
    rw [← hQ]; exact xe_iret Cx rfl hP hD hS dX9_changed_83
  have w_66 : ∀ (v9_refusals : Nat → Int32) (v8_sizes : Nat → Int32) (v8_coefficients : Nat → Int32) (v8_undoneSums : Nat → Int32) (v8_undos : Int32) (v8_nextUndo : Int32) (v0_totals : Nat → Int64) (y1 : Int32) (y2 : Int32) (y3 : Int32) (H : Heap) (locs : List Loc) (ls : Array Slot), (f_X9_changed_66 (f_X9_changed_77 v7_rows v7_sizes v6_hooks v6_lefts) v7_rows v7_sizes v6_hooks v6_lefts) v9_refusals v8_sizes v8_coefficients v8_undoneSums v8_undos v8_nextUndo v0_totals y1 y2 y3 = some (ro, ov9_refusals, ov8_sizes, ov8_coefficients, ov8_undoneSums, ov8_undos, ov8_nextUndo, ov0_totals) → va_P D xcl (wd_X9 a cyI cyJ v9_refusals v7_rows v7_lengths v7_sizes v7_rests v7_orders v6_hooks v6_lefts v6_heights v1_table v5_known v8_sizes v8_coefficients v8_undoneSums v8_undos v8_nextUndo v8_imageTaken v0_totals v3_letters v3_count v3_next v3_size v4_values v4_lengths) H → va_D A (wd_X9 a cyI cyJ v9_refusals v7_rows v7_lengths v7_sizes v7_rests v7_orders v6_hooks v6_lefts v6_heights v1_table v5_known v8_sizes v8_coefficients v8_undoneSums v8_undos v8_nextUndo v8_imageTaken v0_totals v3_letters v3_count v3_next v3_size v4_values v4_lengths) → va_S A s.heap H locs → lv_has ls 5 [(0, .ref (a 0)), (1, .int y1), (2, .int y2), (3, .int y3)] → W p l e { frames := 5, cells := 0, slots := 0, locals := 132 } s m args below meth c H locs 0 0 Q (F0 m 66 ls []) := by
    intro v9_refusals v8_sizes v8_coefficients v8_undoneSums v8_undos v8_nextUndo v0_totals y1 y2 y3 H locs ls hf hP hD hS hl
    unfold f_X9_changed_66 at hf
    have w_84 : ∀ (v9_refusals : Nat → Int32) (v8_sizes : Nat → Int32) (v8_coefficients : Nat → Int32) (v8_undoneSums : Nat → Int32) (v8_undos : Int32) (v8_nextUndo : Int32) (v0_totals : Nat → Int64) (y1 : Int32) (y2 : Int32) (H : Heap) (locs : List Loc) (ls : Array Slot), (f_X9_changed_84 v7_rows v7_sizes v6_hooks v6_lefts) v9_refusals v8_sizes v8_coefficients v8_undoneSums v8_undos v8_nextUndo v0_totals y1 y2 = some (ro, ov9_refusals, ov8_sizes, ov8_coefficients, ov8_undoneSums, ov8_undos, ov8_nextUndo, ov0_totals) → va_P D xcl (wd_X9 a cyI cyJ v9_refusals v7_rows v7_lengths v7_sizes v7_rests v7_orders v6_hooks v6_lefts v6_heights v1_table v5_known v8_sizes v8_coefficients v8_undoneSums v8_undos v8_nextUndo v8_imageTaken v0_totals v3_letters v3_count v3_next v3_size v4_values v4_lengths) H → va_D A (wd_X9 a cyI cyJ v9_refusals v7_rows v7_lengths v7_sizes v7_rests v7_orders v6_hooks v6_lefts v6_heights v1_table v5_known v8_sizes v8_coefficients v8_undoneSums v8_undos v8_nextUndo v8_imageTaken v0_totals v3_letters v3_count v3_next v3_size v4_values v4_lengths) → va_S A s.heap H locs → lv_has ls 5 [(0, .ref (a 0)), (1, .int y1), (2, .int y2)] → W p l e { frames := 5, cells := 0, slots := 0, locals := 132 } s m args below meth c H locs 0 0 Q (F0 m 84 ls []) := by
      intro v9_refusals v8_sizes v8_coefficients v8_undoneSums v8_undos v8_nextUndo v0_totals y1 y2 H locs ls hf hP hD hS hl
      unfold f_X9_changed_84 at hf
      have w_148 : ∀ (v9_refusals : Nat → Int32) (v8_sizes : Nat → Int32) (v8_coefficients : Nat → Int32) (v8_undoneSums : Nat → Int32) (v8_undos : Int32) (v8_nextUndo : Int32) (v0_totals : Nat → Int64) (y1 : Int32) (y4 : Int32) (H : Heap) (locs : List Loc) (ls : Array Slot), (f_X9_changed_148 v7_rows v7_sizes v6_hooks v6_lefts) v9_refusals v8_sizes v8_coefficients v8_undoneSums v8_undos v8_nextUndo v0_totals y1 y4 = some (ro, ov9_refusals, ov8_sizes, ov8_coefficients, ov8_undoneSums, ov8_undos, ov8_nextUndo, ov0_totals) → va_P D xcl (wd_X9 a cyI cyJ v9_refusals v7_rows v7_lengths v7_sizes v7_rests v7_orders v6_hooks v6_lefts v6_heights v1_table v5_known v8_sizes v8_coefficients v8_undoneSums v8_undos v8_nextUndo v8_imageTaken v0_totals v3_letters v3_count v3_next v3_size v4_values v4_lengths) H → va_D A (wd_X9 a cyI cyJ v9_refusals v7_rows v7_lengths v7_sizes v7_rests v7_orders v6_hooks v6_lefts v6_heights v1_table v5_known v8_sizes v8_coefficients v8_undoneSums v8_undos v8_nextUndo v8_imageTaken v0_totals v3_letters v3_count v3_next v3_size v4_values v4_lengths) → va_S A s.heap H locs → lv_has ls 5 [(0, .ref (a 0)), (1, .int y1), (4, .int y4)] → W p l e { frames := 5, cells := 0, slots := 0, locals := 132 } s m args below meth c H locs 0 0 Q (F0 m 148 ls []) := by
        intro v9_refusals v8_sizes v8_coefficients v8_undoneSums v8_undos v8_nextUndo v0_totals y1 y4 H locs ls hf hP hD hS hl
        unfold f_X9_changed_148 at hf
        refine lv_iload hx hb dX9_changed_148 (lv_at hl 2 rfl) ?_
        refine lv_if_eq (tgt := 161) hx hb dX9_changed_150 (by decide) (fun hc_60 => ?_) (fun hc_60 => ?_)
        · have hf := pe_t hf hc_60
          refine lv_aload_n hx hb dX9_changed_161 rfl (lv_at hl 0 rfl) ?_
          refine lv_bipush (v := (-6 : Int32)) hx hb dX9_changed_162 (by decide) ?_
          obtain ⟨r_61, v9_refusals_62, hk_63, hf⟩ := pe_2 hf
          refine xv_i (As := [.int (-6 : Int32)]) (rest := []) (q0 := 0) (ci := 9) Cx hP hD hS hl (pl_X9_X9 a cyI cyJ v9_refusals v7_rows v7_lengths v7_sizes v7_rests v7_orders v6_hooks v6_lefts v6_heights v1_table v5_known v8_sizes v8_coefficients v8_undoneSums v8_undos v8_nextUndo v8_imageTaken v0_totals v3_letters v3_count v3_next v3_size v4_values v4_lengths v9_refusals_62 v7_rows v7_lengths v7_sizes v7_rests v7_orders v6_hooks v6_lefts v6_heights v1_table v5_known v8_sizes v8_coefficients v8_undoneSums v8_undos v8_nextUndo v8_imageTaken v0_totals v3_letters v3_count v3_next v3_size v4_values v4_lengths) (c_X9_refuse l D cyI cyJ G a H.size v9_refusals v7_rows v7_lengths v7_sizes v7_rests v7_orders v6_hooks v6_lefts v6_heights v1_table v5_known v8_sizes v8_coefficients v8_undoneSums v8_undos v8_nextUndo v8_imageTaken v0_totals v3_letters v3_count v3_next v3_size v4_values v4_lengths (-6 : Int32) r_61 v9_refusals_62 hk_63) pk_X9_refuse mw_2_103 ⟨rfl, rfl, Nat.le_of_ble_eq_true rfl, Nat.le_of_ble_eq_true rfl⟩ rfl rfl rfl rfl rfl (Nat.le_of_ble_eq_true rfl) ⟨Nat.le_of_ble_eq_true rfl, Nat.le_of_ble_eq_true rfl⟩ dX9_changed_164 (fun H locs hP hD hS => ?_)
          obtain ⟨rfl, rfl, rfl, rfl, rfl, rfl, rfl, rfl⟩ := po_8 hf
          rw [← hQ]; exact xe_iret Cx rfl hP hD hS dX9_changed_167
        · have hf := pe_f hf hc_60
          refine lv_aload_n hx hb dX9_changed_153 rfl (lv_at hl 0 rfl) ?_
          refine lv_iload_n hx hb dX9_changed_154 rfl (lv_at hl 1 rfl) ?_
          obtain ⟨r_64, v8_sizes_65, v8_coefficients_66, v8_undoneSums_67, v8_undos_68, v8_nextUndo_69, hk_70, hf⟩ := pe_6 hf
          refine xv_i (As := [.int y1]) (rest := []) (q0 := 0) (ci := 9) Cx hP hD hS hl (pl_X9_X9 a cyI cyJ v9_refusals v7_rows v7_lengths v7_sizes v7_rests v7_orders v6_hooks v6_lefts v6_heights v1_table v5_known v8_sizes v8_coefficients v8_undoneSums v8_undos v8_nextUndo v8_imageTaken v0_totals v3_letters v3_count v3_next v3_size v4_values v4_lengths v9_refusals v7_rows v7_lengths v7_sizes v7_rests v7_orders v6_hooks v6_lefts v6_heights v1_table v5_known v8_sizes_65 v8_coefficients_66 v8_undoneSums_67 v8_undos_68 v8_nextUndo_69 v8_imageTaken v0_totals v3_letters v3_count v3_next v3_size v4_values v4_lengths) (c_X9_keepDraft l D cyI cyJ G a H.size v9_refusals v7_rows v7_lengths v7_sizes v7_rests v7_orders v6_hooks v6_lefts v6_heights v1_table v5_known v8_sizes v8_coefficients v8_undoneSums v8_undos v8_nextUndo v8_imageTaken v0_totals v3_letters v3_count v3_next v3_size v4_values v4_lengths y1 r_64 v8_sizes_65 v8_coefficients_66 v8_undoneSums_67 v8_undos_68 v8_nextUndo_69 hk_70) pk_X9_keepDraft mw_3_160 ⟨rfl, rfl, Nat.le_of_ble_eq_true rfl, Nat.le_of_ble_eq_true rfl⟩ rfl rfl rfl rfl rfl (Nat.le_of_ble_eq_true rfl) ⟨Nat.le_of_ble_eq_true rfl, Nat.le_of_ble_eq_true rfl⟩ dX9_changed_155 (fun H locs hP hD hS => ?_)
          refine lv_goto (tgt := 167) hx hb dX9_changed_158 (by decide) ?_
          obtain ⟨rfl, rfl, rfl, rfl, rfl, rfl, rfl, rfl⟩ := po_8 hf
          rw [← hQ]; exact xe_iret Cx rfl hP hD hS dX9_changed_167
      refine lv_iload_n hx hb dX9_changed_84 rfl (lv_at hl 2 rfl) ?_
      by_cases hc_71 : y2 = (0 : Int32)
      · have hf := pe_t hf hc_71
        refine lv_lookup (tgt := 112) hx hb dX9_changed_85 (by decide) (by rw [hc_71]; first | done | rfl) (by decide) ?_
        refine lv_aload_n hx hb dX9_changed_112 rfl (lv_at hl 0 rfl) ?_
        refine va_get (ci := 9) (v := .ref (a 21)) hx hb hts wX9_in hown hK hP 0 rfl rfl 6 (by decide) (hts _ mw_2_73) (fun _ h9 => h9) rfl dX9_changed_113 ?_
        refine lv_iload_n hx hb dX9_changed_116 rfl (lv_at hl 1 rfl) ?_
        obtain ⟨r_72, v8_sizes_73, v8_coefficients_74, v0_totals_75, hk_76, hf⟩ := pe_4 hf
        refine xv_z (As := [.int y1]) (rest := []) (q0 := 0) (ci := 0) Cx hP hD hS hl (pl_X9_X0 a cyI cyJ v9_refusals v7_rows v7_lengths v7_sizes v7_rests v7_orders v6_hooks v6_lefts v6_heights v1_table v5_known v8_sizes v8_coefficients v8_undoneSums v8_undos v8_nextUndo v8_imageTaken v0_totals v3_letters v3_count v3_next v3_size v4_values v4_lengths v0_totals_75 v7_rows v7_lengths v7_sizes v7_rests v7_orders v6_hooks v6_lefts v6_heights v1_table v5_known v8_sizes_73 v8_coefficients_74 v8_undoneSums v8_undos v8_nextUndo v8_imageTaken) (c_X0_draftsAbout l D cyI cyJ G a H.size v0_totals v7_rows v7_lengths v7_sizes v7_rests v7_orders v6_hooks v6_lefts v6_heights v1_table v5_known v8_sizes v8_coefficients v8_undoneSums v8_undos v8_nextUndo v8_imageTaken y1 r_72 v8_sizes_73 v8_coefficients_74 v0_totals_75 hk_76) pk_X0_draftsAbout mw_4_25 ⟨rfl, rfl, Nat.le_of_ble_eq_true rfl, Nat.le_of_ble_eq_true rfl⟩ rfl rfl rfl rfl rfl (Nat.le_of_ble_eq_true rfl) ⟨Nat.le_of_ble_eq_true rfl, Nat.le_of_ble_eq_true rfl⟩ dX9_changed_117 (fun H locs hn_77 hP hD hS => ?_)
        refine lv_istore (lv' := [(4, .int r_72), (0, .ref (a 0)), (1, .int y1), (2, .int y2)]) hx hb dX9_changed_120 hl (by decide) rfl (fun ls hl => ?_)
        refine lv_goto (tgt := 148) hx hb dX9_changed_122 (by decide) ?_
        exact w_148 v9_refusals v8_sizes_73 v8_coefficients_74 v8_undoneSums v8_undos v8_nextUndo v0_totals_75 y1 r_72 H locs ls hf hP hD hS (lv_sub hl [1, 2, 0] rfl)
      · have hf := pe_f hf hc_71
        by_cases hc_78 : y2 = (1 : Int32)
        · have hf := pe_t hf hc_78
          refine lv_lookup (tgt := 125) hx hb dX9_changed_85 (by decide) (by rw [hc_78]; first | done | rfl) (by decide) ?_
          refine lv_aload_n hx hb dX9_changed_125 rfl (lv_at hl 0 rfl) ?_
          refine va_get (ci := 9) (v := .ref (a 21)) hx hb hts wX9_in hown hK hP 0 rfl rfl 6 (by decide) (hts _ mw_2_73) (fun _ h9 => h9) rfl dX9_changed_126 ?_
          refine lv_iload_n hx hb dX9_changed_129 rfl (lv_at hl 1 rfl) ?_
          obtain ⟨r_79, v8_sizes_80, v8_coefficients_81, v0_totals_82, hk_83, hf⟩ := pe_4 hf
          refine xv_z (As := [.int y1]) (rest := []) (q0 := 0) (ci := 0) Cx hP hD hS hl (pl_X9_X0 a cyI cyJ v9_refusals v7_rows v7_lengths v7_sizes v7_rests v7_orders v6_hooks v6_lefts v6_heights v1_table v5_known v8_sizes v8_coefficients v8_undoneSums v8_undos v8_nextUndo v8_imageTaken v0_totals v3_letters v3_count v3_next v3_size v4_values v4_lengths v0_totals_82 v7_rows v7_lengths v7_sizes v7_rests v7_orders v6_hooks v6_lefts v6_heights v1_table v5_known v8_sizes_80 v8_coefficients_81 v8_undoneSums v8_undos v8_nextUndo v8_imageTaken) (c_X0_draftsRestricted l D cyI cyJ G a H.size v0_totals v7_rows v7_lengths v7_sizes v7_rests v7_orders v6_hooks v6_lefts v6_heights v1_table v5_known v8_sizes v8_coefficients v8_undoneSums v8_undos v8_nextUndo v8_imageTaken y1 r_79 v8_sizes_80 v8_coefficients_81 v0_totals_82 hk_83) pk_X0_draftsRestricted mw_4_32 ⟨rfl, rfl, Nat.le_of_ble_eq_true rfl, Nat.le_of_ble_eq_true rfl⟩ rfl rfl rfl rfl rfl (Nat.le_of_ble_eq_true rfl) ⟨Nat.le_of_ble_eq_true rfl, Nat.le_of_ble_eq_true rfl⟩ dX9_changed_130 (fun H locs hn_84 hP hD hS => ?_)
          refine lv_istore (lv' := [(4, .int r_79), (0, .ref (a 0)), (1, .int y1), (2, .int y2)]) hx hb dX9_changed_133 hl (by decide) rfl (fun ls hl => ?_)
          refine lv_goto (tgt := 148) hx hb dX9_changed_135 (by decide) ?_
          exact w_148 v9_refusals v8_sizes_80 v8_coefficients_81 v8_undoneSums v8_undos v8_nextUndo v0_totals_82 y1 r_79 H locs ls hf hP hD hS (lv_sub hl [1, 2, 0] rfl)
        · have hf := pe_f hf hc_78
          have hc_71 : (y2).toInt ≠ 0 := xh_ne (by decide) hc_71
          have hc_78 : (y2).toInt ≠ 1 := xh_ne (by decide) hc_78
          refine lv_lookup (tgt := 138) hx hb dX9_changed_85 (by decide) (by rw [Op.lookupswitch.offset_cons, if_neg (Ne.symm hc_71), Op.lookupswitch.offset_cons, if_neg (Ne.symm hc_78), Op.lookupswitch.offset_nil]) (by decide) ?_
          refine lv_aload_n hx hb dX9_changed_138 rfl (lv_at hl 0 rfl) ?_
          refine va_get (ci := 9) (v := .ref (a 21)) hx hb hts wX9_in hown hK hP 0 rfl rfl 6 (by decide) (hts _ mw_2_73) (fun _ h9 => h9) rfl dX9_changed_139 ?_
          refine lv_iload_n hx hb dX9_changed_142 rfl (lv_at hl 1 rfl) ?_
          obtain ⟨r_85, v8_sizes_86, v8_coefficients_87, v0_totals_88, hk_89, hf⟩ := pe_4 hf
          refine xv_z (As := [.int y1]) (rest := []) (q0 := 0) (ci := 0) Cx hP hD hS hl (pl_X9_X0 a cyI cyJ v9_refusals v7_rows v7_lengths v7_sizes v7_rests v7_orders v6_hooks v6_lefts v6_heights v1_table v5_known v8_sizes v8_coefficients v8_undoneSums v8_undos v8_nextUndo v8_imageTaken v0_totals v3_letters v3_count v3_next v3_size v4_values v4_lengths v0_totals_88 v7_rows v7_lengths v7_sizes v7_rests v7_orders v6_hooks v6_lefts v6_heights v1_table v5_known v8_sizes_86 v8_coefficients_87 v8_undoneSums v8_undos v8_nextUndo v8_imageTaken) (c_X0_draftsInduced l D cyI cyJ G a H.size v0_totals v7_rows v7_lengths v7_sizes v7_rests v7_orders v6_hooks v6_lefts v6_heights v1_table v5_known v8_sizes v8_coefficients v8_undoneSums v8_undos v8_nextUndo v8_imageTaken y1 r_85 v8_sizes_86 v8_coefficients_87 v0_totals_88 hk_89) pk_X0_draftsInduced mw_4_38 ⟨rfl, rfl, Nat.le_of_ble_eq_true rfl, Nat.le_of_ble_eq_true rfl⟩ rfl rfl rfl rfl rfl (Nat.le_of_ble_eq_true rfl) ⟨Nat.le_of_ble_eq_true rfl, Nat.le_of_ble_eq_true rfl⟩ dX9_changed_143 (fun H locs hn_90 hP hD hS => ?_)
          refine lv_istore (lv' := [(4, .int r_85), (0, .ref (a 0)), (1, .int y1), (2, .int y2)]) hx hb dX9_changed_146 hl (by decide) rfl (fun ls hl => ?_)
          exact w_148 v9_refusals v8_sizes_86 v8_coefficients_87 v8_undoneSums v8_undos v8_nextUndo v0_totals_88 y1 r_85 H locs ls hf hP hD hS (lv_sub hl [1, 2, 0] rfl)
    refine lv_iload_n hx hb dX9_changed_66 rfl (lv_at hl 2 rfl) ?_
    refine lv_iconst (v := (2 : Int32)) hx hb dX9_changed_67 (by decide) ?_
    refine lv_icmp_ne (tgt := 84) hx hb dX9_changed_68 (by decide) (fun hc_91 => ?_) (fun hc_91 => ?_)
    · have hf := pe_f hf hc_91
      exact w_84 v9_refusals v8_sizes v8_coefficients v8_undoneSums v8_undos v8_nextUndo v0_totals y1 y2 H locs ls hf hP hD hS (lv_sub hl [0, 1, 2] rfl)
    · have hf := pe_t hf hc_91
      refine lv_iload_n hx hb dX9_changed_71 rfl (lv_at hl 3 rfl) ?_
      refine lv_bipush (v := (8 : Int32)) hx hb dX9_changed_72 (by decide) ?_
      refine lv_icmp_lt (tgt := 84) hx hb dX9_changed_74 (by decide) (fun hc_92 => ?_) (fun hc_92 => ?_)
      · have hf := pe_t hf hc_92
        exact w_84 v9_refusals v8_sizes v8_coefficients v8_undoneSums v8_undos v8_nextUndo v0_totals y1 y2 H locs ls hf hP hD hS (lv_sub hl [0, 1, 2] rfl)
      · have hf := pe_f hf hc_92
        exact w_77 v9_refusals v8_sizes v8_coefficients v8_undoneSums v8_undos v8_nextUndo v0_totals H locs ls hf hP hD hS (lv_sub hl [0] rfl)
  have w_26 : ∀ (v9_refusals : Nat → Int32) (v8_sizes : Nat → Int32) (v8_coefficients : Nat → Int32) (v8_undoneSums : Nat → Int32) (v8_undos : Int32) (v8_nextUndo : Int32) (v0_totals : Nat → Int64) (H : Heap) (locs : List Loc) (ls : Array Slot), (f_X9_changed_26 v7_rows v7_sizes v6_hooks v6_lefts) v9_refusals v8_sizes v8_coefficients v8_undoneSums v8_undos v8_nextUndo v0_totals = some (ro, ov9_refusals, ov8_sizes, ov8_coefficients, ov8_undoneSums, ov8_undos, ov8_nextUndo, ov0_totals) → va_P D xcl (wd_X9 a cyI cyJ v9_refusals v7_rows v7_lengths v7_sizes v7_rests v7_orders v6_hooks v6_lefts v6_heights v1_table v5_known v8_sizes v8_coefficients v8_undoneSums v8_undos v8_nextUndo v8_imageTaken v0_totals v3_letters v3_count v3_next v3_size v4_values v4_lengths) H → va_D A (wd_X9 a cyI cyJ v9_refusals v7_rows v7_lengths v7_sizes v7_rests v7_orders v6_hooks v6_lefts v6_heights v1_table v5_known v8_sizes v8_coefficients v8_undoneSums v8_undos v8_nextUndo v8_imageTaken v0_totals v3_letters v3_count v3_next v3_size v4_values v4_lengths) → va_S A s.heap H locs → lv_has ls 5 [(0, .ref (a 0))] → W p l e { frames := 5, cells := 0, slots := 0, locals := 132 } s m args below meth c H locs 0 0 Q (F0 m 26 ls []) := by
    intro v9_refusals v8_sizes v8_coefficients v8_undoneSums v8_undos v8_nextUndo v0_totals H locs ls hf hP hD hS hl
    unfold f_X9_changed_26 at hf
    refine lv_aload_n hx hb dX9_changed_26 rfl (lv_at hl 0 rfl) ?_
    refine lv_bipush (v := (-2 : Int32)) hx hb dX9_changed_27 (by decide) ?_
    obtain ⟨r_93, v9_refusals_94, hk_95, hf⟩ := pe_2 hf
    refine xv_i (As := [.int (-2 : Int32)]) (rest := []) (q0 := 0) (ci := 9) Cx hP hD hS hl (pl_X9_X9 a cyI cyJ v9_refusals v7_rows v7_lengths v7_sizes v7_rests v7_orders v6_hooks v6_lefts v6_heights v1_table v5_known v8_sizes v8_coefficients v8_undoneSums v8_undos v8_nextUndo v8_imageTaken v0_totals v3_letters v3_count v3_next v3_size v4_values v4_lengths v9_refusals_94 v7_rows v7_lengths v7_sizes v7_rests v7_orders v6_hooks v6_lefts v6_heights v1_table v5_known v8_sizes v8_coefficients v8_undoneSums v8_undos v8_nextUndo v8_imageTaken v0_totals v3_letters v3_count v3_next v3_size v4_values v4_lengths) (c_X9_refuse l D cyI cyJ G a H.size v9_refusals v7_rows v7_lengths v7_sizes v7_rests v7_orders v6_hooks v6_lefts v6_heights v1_table v5_known v8_sizes v8_coefficients v8_undoneSums v8_undos v8_nextUndo v8_imageTaken v0_totals v3_letters v3_count v3_next v3_size v4_values v4_lengths (-2 : Int32) r_93 v9_refusals_94 hk_95) pk_X9_refuse mw_2_103 ⟨rfl, rfl, Nat.le_of_ble_eq_true rfl, Nat.le_of_ble_eq_true rfl⟩ rfl rfl rfl rfl rfl (Nat.le_of_ble_eq_true rfl) ⟨Nat.le_of_ble_eq_true rfl, Nat.le_of_ble_eq_true rfl⟩ dX9_changed_29 (fun H locs hP hD hS => ?_)
    obtain ⟨rfl, rfl, rfl, rfl, rfl, rfl, rfl, rfl⟩ := po_8 hf
    rw [← hQ]; exact xe_iret Cx rfl hP hD hS dX9_changed_32
  refine lv_aload_n hx hb dX9_changed_0 rfl (lv_at hl 0 rfl) ?_
  refine va_get (ci := 9) (v := .ref (a 17)) hx hb hts wX9_in hown hK hP 0 rfl rfl 5 (by decide) (hts _ mw_2_72) (fun _ h9 => h9) rfl dX9_changed_1 ?_
  refine lv_iload_n hx hb dX9_changed_4 rfl (lv_at hl 1 rfl) ?_
  obtain ⟨r_96, hk_97, hf⟩ := pe_1 hf
  refine xv_z (As := [.int x1]) (rest := []) (q0 := 0) (ci := 8) Cx hP hD hS hl (pl_X9_X8 a cyI cyJ v9_refusals v7_rows v7_lengths v7_sizes v7_rests v7_orders v6_hooks v6_lefts v6_heights v1_table v5_known v8_sizes v8_coefficients v8_undoneSums v8_undos v8_nextUndo v8_imageTaken v0_totals v3_letters v3_count v3_next v3_size v4_values v4_lengths v8_sizes v8_coefficients v8_undoneSums v8_undos v8_nextUndo v8_imageTaken) (c_X8_has l D cyI cyJ G a H.size v8_sizes v8_coefficients v8_undoneSums v8_undos v8_nextUndo v8_imageTaken x1 r_96 hk_97) pk_X8_has mw_3_116 ⟨rfl, rfl, Nat.le_of_ble_eq_true rfl, Nat.le_of_ble_eq_true rfl⟩ rfl rfl rfl rfl rfl (Nat.le_of_ble_eq_true rfl) ⟨Nat.le_of_ble_eq_true rfl, Nat.le_of_ble_eq_true rfl⟩ dX9_changed_5 (fun H locs hn_98 hP hD hS => ?_)
  refine lv_if_ne (tgt := 17) hx hb dX9_changed_8 (by decide) (fun hc_99 => ?_) (fun hc_99 => ?_)
  · have hf := pe_f hf hc_99
    refine lv_iload_n hx hb dX9_changed_17 rfl (lv_at hl 2 rfl) ?_
    refine lv_if_lt (tgt := 26) hx hb dX9_changed_18 (by decide) (fun hc_100 => ?_) (fun hc_100 => ?_)
    · have hf := pe_t hf hc_100
      exact w_26 v9_refusals v8_sizes v8_coefficients v8_undoneSums v8_undos v8_nextUndo v0_totals H locs ls hf hP hD hS (lv_sub hl [0] rfl)
    · have hf := pe_f hf hc_100
      refine lv_iload_n hx hb dX9_changed_21 rfl (lv_at hl 2 rfl) ?_
      refine lv_iconst (v := (2 : Int32)) hx hb dX9_changed_22 (by decide) ?_
      refine lv_icmp_le (tgt := 33) hx hb dX9_changed_23 (by decide) (fun hc_101 => ?_) (fun hc_101 => ?_)
      · have hf := pe_t hf hc_101
        refine lv_aload_n hx hb dX9_changed_33 rfl (lv_at hl 0 rfl) ?_
        refine va_get (ci := 9) (v := .ref (a 17)) hx hb hts wX9_in hown hK hP 0 rfl rfl 5 (by decide) (hts _ mw_2_72) (fun _ h9 => h9) rfl dX9_changed_34 ?_
        refine lv_iload_n hx hb dX9_changed_37 rfl (lv_at hl 1 rfl) ?_
        obtain ⟨r_102, hk_103, hf⟩ := pe_1 hf
        refine xv_z (As := [.int x1]) (rest := []) (q0 := 0) (ci := 8) Cx hP hD hS hl (pl_X9_X8 a cyI cyJ v9_refusals v7_rows v7_lengths v7_sizes v7_rests v7_orders v6_hooks v6_lefts v6_heights v1_table v5_known v8_sizes v8_coefficients v8_undoneSums v8_undos v8_nextUndo v8_imageTaken v0_totals v3_letters v3_count v3_next v3_size v4_values v4_lengths v8_sizes v8_coefficients v8_undoneSums v8_undos v8_nextUndo v8_imageTaken) (c_X8_isMissing l D cyI cyJ G a H.size v8_sizes v8_coefficients v8_undoneSums v8_undos v8_nextUndo v8_imageTaken x1 r_102 hk_103) pk_X8_isMissing mw_3_189 ⟨rfl, rfl, Nat.le_of_ble_eq_true rfl, Nat.le_of_ble_eq_true rfl⟩ rfl rfl rfl rfl rfl (Nat.le_of_ble_eq_true rfl) ⟨Nat.le_of_ble_eq_true rfl, Nat.le_of_ble_eq_true rfl⟩ dX9_changed_38 (fun H locs hn_104 hP hD hS => ?_)
        refine lv_if_eq (tgt := 47) hx hb dX9_changed_41 (by decide) (fun hc_105 => ?_) (fun hc_105 => ?_)
        · have hf := pe_t hf hc_105
          refine lv_aload_n hx hb dX9_changed_47 rfl (lv_at hl 0 rfl) ?_
          refine va_get (ci := 9) (v := .ref (a 17)) hx hb hts wX9_in hown hK hP 0 rfl rfl 5 (by decide) (hts _ mw_2_72) (fun _ h9 => h9) rfl dX9_changed_48 ?_
          refine lv_iload_n hx hb dX9_changed_51 rfl (lv_at hl 1 rfl) ?_
          obtain ⟨r_106, hk_107, hf⟩ := pe_1 hf
          refine xv_i (As := [.int x1]) (rest := []) (q0 := 0) (ci := 8) Cx hP hD hS hl (pl_X9_X8 a cyI cyJ v9_refusals v7_rows v7_lengths v7_sizes v7_rests v7_orders v6_hooks v6_lefts v6_heights v1_table v5_known v8_sizes v8_coefficients v8_undoneSums v8_undos v8_nextUndo v8_imageTaken v0_totals v3_letters v3_count v3_next v3_size v4_values v4_lengths v8_sizes v8_coefficients v8_undoneSums v8_undos v8_nextUndo v8_imageTaken) (c_X8_sizeOf l D cyI cyJ G a H.size v8_sizes v8_coefficients v8_undoneSums v8_undos v8_nextUndo v8_imageTaken x1 r_106 hk_107) pk_X8_sizeOf mw_3_206 ⟨rfl, rfl, Nat.le_of_ble_eq_true rfl, Nat.le_of_ble_eq_true rfl⟩ rfl rfl rfl rfl rfl (Nat.le_of_ble_eq_true rfl) ⟨Nat.le_of_ble_eq_true rfl, Nat.le_of_ble_eq_true rfl⟩ dX9_changed_52 (fun H locs hP hD hS => ?_)
          refine lv_istore_n (lv' := [(3, .int r_106), (0, .ref (a 0)), (1, .int x1), (2, .int x2)]) hx hb dX9_changed_55 rfl hl (by decide) rfl (fun ls hl => ?_)
          refine lv_iload_n hx hb dX9_changed_56 rfl (lv_at hl 3 rfl) ?_
          refine lv_iconst (v := (1 : Int32)) hx hb dX9_changed_57 (by decide) ?_
          refine lv_icmp_ne (tgt := 66) hx hb dX9_changed_58 (by decide) (fun hc_108 => ?_) (fun hc_108 => ?_)
          · have hf := pe_f hf hc_108
            exact w_66 v9_refusals v8_sizes v8_coefficients v8_undoneSums v8_undos v8_nextUndo v0_totals x1 x2 r_106 H locs ls hf hP hD hS (lv_sub hl [1, 2, 3, 0] rfl)
          · have hf := pe_t hf hc_108
            refine lv_iload_n hx hb dX9_changed_61 rfl (lv_at hl 0 rfl) ?_
            refine lv_iconst (v := (1 : Int32)) hx hb dX9_changed_62 (by decide) ?_
            refine lv_icmp_lt (tgt := 77) hx hb dX9_changed_63 (by decide) (fun hc_109 => ?_) (fun hc_109 => ?_)
            · have hf := pe_t hf hc_109
              exact w_77 v9_refusals v8_sizes v8_coefficients v8_undoneSums v8_undos v8_nextUndo v0_totals H locs ls hf hP hD hS (lv_sub hl [1] rfl)
            · have hf := pe_f hf hc_109
              exact w_66 v9_refusals v8_sizes v8_coefficients v8_undoneSums v8_undos v8_nextUndo v0_totals x1 x2 r_106 H locs ls hf hP hD hS (lv_sub hl [1, 2, 3, 0] rfl)
        · have hf := pe_f hf hc_105
          refine lv_bipush (v := (-11 : Int32)) hx hb dX9_changed_44 (by decide) ?_
          obtain ⟨rfl, rfl, rfl, rfl, rfl, rfl, rfl, rfl⟩ := po_8 hf
          rw [← hQ]; exact xe_iret Cx rfl hP hD hS dX9_changed_46
      · have hf := pe_f hf hc_101
        exact w_26 v9_refusals v8_sizes v8_coefficients v8_undoneSums v8_undos v8_nextUndo v0_totals H locs ls hf hP hD hS (lv_sub hl [0] rfl)
  · have hf := pe_t hf hc_99
    refine lv_aload_n hx hb dX9_changed_11 rfl (lv_at hl 0 rfl) ?_
    refine lv_iconst (v := (-1 : Int32)) hx hb dX9_changed_12 (by decide) ?_
    obtain ⟨r_110, v9_refusals_111, hk_112, hf⟩ := pe_2 hf
    refine xv_i (As := [.int (-1 : Int32)]) (rest := []) (q0 := 0) (ci := 9) Cx hP hD hS hl (pl_X9_X9 a cyI cyJ v9_refusals v7_rows v7_lengths v7_sizes v7_rests v7_orders v6_hooks v6_lefts v6_heights v1_table v5_known v8_sizes v8_coefficients v8_undoneSums v8_undos v8_nextUndo v8_imageTaken v0_totals v3_letters v3_count v3_next v3_size v4_values v4_lengths v9_refusals_111 v7_rows v7_lengths v7_sizes v7_rests v7_orders v6_hooks v6_lefts v6_heights v1_table v5_known v8_sizes v8_coefficients v8_undoneSums v8_undos v8_nextUndo v8_imageTaken v0_totals v3_letters v3_count v3_next v3_size v4_values v4_lengths) (c_X9_refuse l D cyI cyJ G a H.size v9_refusals v7_rows v7_lengths v7_sizes v7_rests v7_orders v6_hooks v6_lefts v6_heights v1_table v5_known v8_sizes v8_coefficients v8_undoneSums v8_undos v8_nextUndo v8_imageTaken v0_totals v3_letters v3_count v3_next v3_size v4_values v4_lengths (-1 : Int32) r_110 v9_refusals_111 hk_112) pk_X9_refuse mw_2_103 ⟨rfl, rfl, Nat.le_of_ble_eq_true rfl, Nat.le_of_ble_eq_true rfl⟩ rfl rfl rfl rfl rfl (Nat.le_of_ble_eq_true rfl) ⟨Nat.le_of_ble_eq_true rfl, Nat.le_of_ble_eq_true rfl⟩ dX9_changed_13 (fun H locs hP hD hS => ?_)
    obtain ⟨rfl, rfl, rfl, rfl, rfl, rfl, rfl, rfl⟩ := po_8 hf
    rw [← hQ]; exact xe_iret Cx rfl hP hD hS dX9_changed_16
def f_X9_value_22 (v7_sizes : Nat → Int32) (v1_table : Nat → Int32) (v8_sizes : Nat → Int32) (v8_coefficients : Nat → Int32) (v9_refusals : Nat → Int32) : Option (Int64 × (Nat → Int32)) := p_b2 (f_X9_refuseFarLong v9_refusals (-1 : Int32)) (fun r_1 v9_refusals_2 => some (r_1, v9_refusals_2))
def f_X9_value (v9_refusals : Nat → Int32) (v7_sizes : Nat → Int32) (v1_table : Nat → Int32) (v8_sizes : Nat → Int32) (v8_coefficients : Nat → Int32) (x1 : Int32) (x2 : Int32) : Option (Int64 × (Nat → Int32)) := p_b1 (f_X8_has x1) (fun r_4 => if r_4 = 0 then ((f_X9_value_22 v7_sizes v1_table v8_sizes v8_coefficients) v9_refusals) else (p_b1 (f_X7_has x2) (fun r_8 => if r_8 = 0 then ((f_X9_value_22 v7_sizes v1_table v8_sizes v8_coefficients) v9_refusals) else (p_b1 (f_X8_isMissing v8_sizes x1) (fun r_12 => if r_12 = 0 then (p_b1 (f_X7_sizeOf v7_sizes x2) (fun r_16 => p_b1 (f_X8_sizeOf v8_sizes x1) (fun r_18 => if r_16 = r_18 then (p_b1 (f_X0_valueAt v7_sizes v1_table v8_sizes v8_coefficients x1 x2) (fun r_21 => some (r_21, v9_refusals))) else (p_b2 (f_X9_refuseFarLong v9_refusals (-3 : Int32)) (fun r_23 v9_refusals_24 => some (r_23, v9_refusals_24)))))) else (some ((4000000000000000011 : Int64), v9_refusals)))))))
set_option maxHeartbeats 4000000 in
set_option maxRecDepth 20000 in
theorem c_X9_value (l : Launch) (D : va_G) (cyI cyJ : ClassId) (G a : Nat → Nat) (sz : Nat) (v9_refusals : Nat → Int32) (v7_rows : Nat → Int32) (v7_lengths : Nat → Int32) (v7_sizes : Nat → Int32) (v7_rests : Nat → Int32) (v7_orders : Nat → Int32) (v6_hooks : Nat → Int32) (v6_lefts : Nat → Int32) (v6_heights : Nat → Int32) (v1_table : Nat → Int32) (v5_known : Nat → Int32) (v8_sizes : Nat → Int32) (v8_coefficients : Nat → Int32) (v8_undoneSums : Nat → Int32) (v8_undos : Int32) (v8_nextUndo : Int32) (v8_imageTaken : Int32) (v0_totals : Nat → Int64) (v3_letters : Nat → Int32) (v3_count : Int32) (v3_next : Int32) (v3_size : Int32) (v4_values : Nat → Int32) (v4_lengths : Nat → Int32) (x1 : Int32) (x2 : Int32) (ro : Int64) (ov9_refusals : Nat → Int32) (hf : f_X9_value v9_refusals v7_sizes v1_table v8_sizes v8_coefficients x1 x2 = some (ro, ov9_refusals)) : xm_l l yX9_value (Cond.code yX9_value cX9_value 3 (some .long) :: xg_tbl) { frames := 5, cells := 0, slots := 0, locals := 112 } D xcl [(cyI, .int), (cyJ, .long)] G sz [.ref (a 0), .int x1, .int x2] (wd_X9 a cyI cyJ v9_refusals v7_rows v7_lengths v7_sizes v7_rests v7_orders v6_hooks v6_lefts v6_heights v1_table v5_known v8_sizes v8_coefficients v8_undoneSums v8_undos v8_nextUndo v8_imageTaken v0_totals v3_letters v3_count v3_next v3_size v4_values v4_lengths) (wd_X9 a cyI cyJ ov9_refusals v7_rows v7_lengths v7_sizes v7_rests v7_orders v6_hooks v6_lefts v6_heights v1_table v5_known v8_sizes v8_coefficients v8_undoneSums v8_undos v8_nextUndo v8_imageTaken v0_totals v3_letters v3_count v3_next v3_size v4_values v4_lengths) ro := by
  refine xm_of_l (own := RX9) (by decide) rfl rfl (Nat.le_of_ble_eq_true rfl) ?_
  intro p e s m args below meth c ls Q A hQ hAe hin Cx hsz hP hD hS hl
  have Cx1 := Cx
  obtain ⟨⟨hx, hb, hml, hown, hts⟩, hr, hlocks, hK, hA, hT⟩ := Cx1
  have hl : lv_has ls 3 [(0, .ref (a 0)), (1, .int x1), (2, .int x2)] := hl
  obtain ⟨H, eH⟩ : ∃ H, H = s.heap := ⟨_, rfl⟩
  obtain ⟨locs, eL⟩ : ∃ L : List Loc, L = [] := ⟨_, rfl⟩
  rw [← eH] at hP
  have hS : va_S A s.heap H locs := by rw [eH, eL]; exact hS
  suffices hgo : W p l e { frames := 5, cells := 0, slots := 0, locals := 112 } s m args below meth c H locs 0 0 Q (F0 m 0 ls []) by rw [eH, eL] at hgo; exact hgo
  clear eH eL
  unfold f_X9_value at hf
  have w_22 : ∀ (v9_refusals : Nat → Int32) (H : Heap) (locs : List Loc) (ls : Array Slot), (f_X9_value_22 v7_sizes v1_table v8_sizes v8_coefficients) v9_refusals = some (ro, ov9_refusals) → va_P D xcl (wd_X9 a cyI cyJ v9_refusals v7_rows v7_lengths v7_sizes v7_rests v7_orders v6_hooks v6_lefts v6_heights v1_table v5_known v8_sizes v8_coefficients v8_undoneSums v8_undos v8_nextUndo v8_imageTaken v0_totals v3_letters v3_count v3_next v3_size v4_values v4_lengths) H → va_D A (wd_X9 a cyI cyJ v9_refusals v7_rows v7_lengths v7_sizes v7_rests v7_orders v6_hooks v6_lefts v6_heights v1_table v5_known v8_sizes v8_coefficients v8_undoneSums v8_undos v8_nextUndo v8_imageTaken v0_totals v3_letters v3_count v3_next v3_size v4_values v4_lengths) → va_S A s.heap H locs → lv_has ls 3 [(0, .ref (a 0))] → W p l e { frames := 5, cells := 0, slots := 0, locals := 112 } s m args below meth c H locs 0 0 Q (F0 m 22 ls []) := by
    intro v9_refusals H locs ls hf hP hD hS hl
    unfold f_X9_value_22 at hf
    refine lv_aload_n hx hb dX9_value_22 rfl (lv_at hl 0 rfl) ?_
    refine lv_iconst (v := (-1 : Int32)) hx hb dX9_value_23 (by decide) ?_
    obtain ⟨r_26, v9_refusals_27, hk_28, hf⟩ := pe_2 hf
    refine xv_l (As := [.int (-1 : Int32)]) (rest := []) (q0 := 0) (ci := 9) Cx hP hD hS hl (pl_X9_X9 a cyI cyJ v9_refusals v7_rows v7_lengths v7_sizes v7_rests v7_orders v6_hooks v6_lefts v6_heights v1_table v5_known v8_sizes v8_coefficients v8_undoneSums v8_undos v8_nextUndo v8_imageTaken v0_totals v3_letters v3_count v3_next v3_size v4_values v4_lengths v9_refusals_27 v7_rows v7_lengths v7_sizes v7_rests v7_orders v6_hooks v6_lefts v6_heights v1_table v5_known v8_sizes v8_coefficients v8_undoneSums v8_undos v8_nextUndo v8_imageTaken v0_totals v3_letters v3_count v3_next v3_size v4_values v4_lengths) (c_X9_refuseFarLong l D cyI cyJ G a H.size v9_refusals v7_rows v7_lengths v7_sizes v7_rests v7_orders v6_hooks v6_lefts v6_heights v1_table v5_known v8_sizes v8_coefficients v8_undoneSums v8_undos v8_nextUndo v8_imageTaken v0_totals v3_letters v3_count v3_next v3_size v4_values v4_lengths (-1 : Int32) r_26 v9_refusals_27 hk_28) pk_X9_refuseFarLong mw_2_223 ⟨rfl, rfl, Nat.le_of_ble_eq_true rfl, Nat.le_of_ble_eq_true rfl⟩ rfl rfl rfl rfl rfl (Nat.le_of_ble_eq_true rfl) ⟨Nat.le_of_ble_eq_true rfl, Nat.le_of_ble_eq_true rfl⟩ dX9_value_24 (fun H locs hP hD hS => ?_)
    obtain ⟨rfl, rfl⟩ := po_2 hf
    rw [← hQ]; exact xe_lret Cx rfl hP hD hS dX9_value_27
  refine lv_aload_n hx hb dX9_value_0 rfl (lv_at hl 0 rfl) ?_
  refine va_get (ci := 9) (v := .ref (a 17)) hx hb hts wX9_in hown hK hP 0 rfl rfl 5 (by decide) (hts _ mw_2_72) (fun _ h9 => h9) rfl dX9_value_1 ?_
  refine lv_iload_n hx hb dX9_value_4 rfl (lv_at hl 1 rfl) ?_
  obtain ⟨r_29, hk_30, hf⟩ := pe_1 hf
  refine xv_z (As := [.int x1]) (rest := []) (q0 := 0) (ci := 8) Cx hP hD hS hl (pl_X9_X8 a cyI cyJ v9_refusals v7_rows v7_lengths v7_sizes v7_rests v7_orders v6_hooks v6_lefts v6_heights v1_table v5_known v8_sizes v8_coefficients v8_undoneSums v8_undos v8_nextUndo v8_imageTaken v0_totals v3_letters v3_count v3_next v3_size v4_values v4_lengths v8_sizes v8_coefficients v8_undoneSums v8_undos v8_nextUndo v8_imageTaken) (c_X8_has l D cyI cyJ G a H.size v8_sizes v8_coefficients v8_undoneSums v8_undos v8_nextUndo v8_imageTaken x1 r_29 hk_30) pk_X8_has mw_3_116 ⟨rfl, rfl, Nat.le_of_ble_eq_true rfl, Nat.le_of_ble_eq_true rfl⟩ rfl rfl rfl rfl rfl (Nat.le_of_ble_eq_true rfl) ⟨Nat.le_of_ble_eq_true rfl, Nat.le_of_ble_eq_true rfl⟩ dX9_value_5 (fun H locs hn_31 hP hD hS => ?_)
  refine lv_if_eq (tgt := 22) hx hb dX9_value_8 (by decide) (fun hc_32 => ?_) (fun hc_32 => ?_)
  · have hf := pe_t hf hc_32
    exact w_22 v9_refusals H locs ls hf hP hD hS (lv_sub hl [0] rfl)
  · have hf := pe_f hf hc_32
    refine lv_aload_n hx hb dX9_value_11 rfl (lv_at hl 0 rfl) ?_
    refine va_get (ci := 9) (v := .ref (a 2)) hx hb hts wX9_in hown hK hP 0 rfl rfl 0 (by decide) (hts _ mw_2_67) (fun _ h9 => h9) rfl dX9_value_12 ?_
    refine lv_iload_n hx hb dX9_value_15 rfl (lv_at hl 2 rfl) ?_
    obtain ⟨r_33, hk_34, hf⟩ := pe_1 hf
    refine xv_z (As := [.int x2]) (rest := []) (q0 := 0) (ci := 7) Cx hP hD hS hl (pl_X9_X7 a cyI cyJ v9_refusals v7_rows v7_lengths v7_sizes v7_rests v7_orders v6_hooks v6_lefts v6_heights v1_table v5_known v8_sizes v8_coefficients v8_undoneSums v8_undos v8_nextUndo v8_imageTaken v0_totals v3_letters v3_count v3_next v3_size v4_values v4_lengths v7_rows v7_lengths v7_sizes v7_rests v7_orders) (c_X7_has l D cyI cyJ G a H.size v7_rows v7_lengths v7_sizes v7_rests v7_orders x2 r_33 hk_34) pk_X7_has mw_2_102 ⟨rfl, rfl, Nat.le_of_ble_eq_true rfl, Nat.le_of_ble_eq_true rfl⟩ rfl rfl rfl rfl rfl (Nat.le_of_ble_eq_true rfl) ⟨Nat.le_of_ble_eq_true rfl, Nat.le_of_ble_eq_true rfl⟩ dX9_value_16 (fun H locs hn_35 hP hD hS => ?_)
    refine lv_if_ne (tgt := 28) hx hb dX9_value_19 (by decide) (fun hc_36 => ?_) (fun hc_36 => ?_)
    · have hf := pe_f hf hc_36
      refine lv_aload_n hx hb dX9_value_28 rfl (lv_at hl 0 rfl) ?_
      refine va_get (ci := 9) (v := .ref (a 17)) hx hb hts wX9_in hown hK hP 0 rfl rfl 5 (by decide) (hts _ mw_2_72) (fun _ h9 => h9) rfl dX9_value_29 ?_
      refine lv_iload_n hx hb dX9_value_32 rfl (lv_at hl 1 rfl) ?_
      obtain ⟨r_37, hk_38, hf⟩ := pe_1 hf
      refine xv_z (As := [.int x1]) (rest := []) (q0 := 0) (ci := 8) Cx hP hD hS hl (pl_X9_X8 a cyI cyJ v9_refusals v7_rows v7_lengths v7_sizes v7_rests v7_orders v6_hooks v6_lefts v6_heights v1_table v5_known v8_sizes v8_coefficients v8_undoneSums v8_undos v8_nextUndo v8_imageTaken v0_totals v3_letters v3_count v3_next v3_size v4_values v4_lengths v8_sizes v8_coefficients v8_undoneSums v8_undos v8_nextUndo v8_imageTaken) (c_X8_isMissing l D cyI cyJ G a H.size v8_sizes v8_coefficients v8_undoneSums v8_undos v8_nextUndo v8_imageTaken x1 r_37 hk_38) pk_X8_isMissing mw_3_189 ⟨rfl, rfl, Nat.le_of_ble_eq_true rfl, Nat.le_of_ble_eq_true rfl⟩ rfl rfl rfl rfl rfl (Nat.le_of_ble_eq_true rfl) ⟨Nat.le_of_ble_eq_true rfl, Nat.le_of_ble_eq_true rfl⟩ dX9_value_33 (fun H locs hn_39 hP hD hS => ?_)
      refine lv_if_eq (tgt := 43) hx hb dX9_value_36 (by decide) (fun hc_40 => ?_) (fun hc_40 => ?_)
      · have hf := pe_t hf hc_40
        refine lv_aload_n hx hb dX9_value_43 rfl (lv_at hl 0 rfl) ?_
        refine va_get (ci := 9) (v := .ref (a 2)) hx hb hts wX9_in hown hK hP 0 rfl rfl 0 (by decide) (hts _ mw_2_67) (fun _ h9 => h9) rfl dX9_value_44 ?_
        refine lv_iload_n hx hb dX9_value_47 rfl (lv_at hl 2 rfl) ?_
        obtain ⟨r_41, hk_42, hf⟩ := pe_1 hf
        refine xv_i (As := [.int x2]) (rest := []) (q0 := 0) (ci := 7) Cx hP hD hS hl (pl_X9_X7 a cyI cyJ v9_refusals v7_rows v7_lengths v7_sizes v7_rests v7_orders v6_hooks v6_lefts v6_heights v1_table v5_known v8_sizes v8_coefficients v8_undoneSums v8_undos v8_nextUndo v8_imageTaken v0_totals v3_letters v3_count v3_next v3_size v4_values v4_lengths v7_rows v7_lengths v7_sizes v7_rests v7_orders) (c_X7_sizeOf l D cyI cyJ G a H.size v7_rows v7_lengths v7_sizes v7_rests v7_orders x2 r_41 hk_42) pk_X7_sizeOf mw_2_108 ⟨rfl, rfl, Nat.le_of_ble_eq_true rfl, Nat.le_of_ble_eq_true rfl⟩ rfl rfl rfl rfl rfl (Nat.le_of_ble_eq_true rfl) ⟨Nat.le_of_ble_eq_true rfl, Nat.le_of_ble_eq_true rfl⟩ dX9_value_48 (fun H locs hP hD hS => ?_)
        refine lv_aload_n hx hb dX9_value_51 rfl (lv_at hl 0 rfl) ?_
        refine va_get (ci := 9) (v := .ref (a 17)) hx hb hts wX9_in hown hK hP 0 rfl rfl 5 (by decide) (hts _ mw_2_72) (fun _ h9 => h9) rfl dX9_value_52 ?_
        refine lv_iload_n hx hb dX9_value_55 rfl (lv_at hl 1 rfl) ?_
        obtain ⟨r_43, hk_44, hf⟩ := pe_1 hf
        refine xv_i (As := [.int x1]) (rest := [.int r_41]) (q0 := 0) (ci := 8) Cx hP hD hS hl (pl_X9_X8 a cyI cyJ v9_refusals v7_rows v7_lengths v7_sizes v7_rests v7_orders v6_hooks v6_lefts v6_heights v1_table v5_known v8_sizes v8_coefficients v8_undoneSums v8_undos v8_nextUndo v8_imageTaken v0_totals v3_letters v3_count v3_next v3_size v4_values v4_lengths v8_sizes v8_coefficients v8_undoneSums v8_undos v8_nextUndo v8_imageTaken) (c_X8_sizeOf l D cyI cyJ G a H.size v8_sizes v8_coefficients v8_undoneSums v8_undos v8_nextUndo v8_imageTaken x1 r_43 hk_44) pk_X8_sizeOf mw_3_206 ⟨rfl, rfl, Nat.le_of_ble_eq_true rfl, Nat.le_of_ble_eq_true rfl⟩ rfl rfl rfl rfl rfl (Nat.le_of_ble_eq_true rfl) ⟨Nat.le_of_ble_eq_true rfl, Nat.le_of_ble_eq_true rfl⟩ dX9_value_56 (fun H locs hP hD hS => ?_)
        refine lv_icmp_eq (tgt := 69) hx hb dX9_value_59 (by decide) (fun hc_45 => ?_) (fun hc_45 => ?_)
        · have hf := pe_t hf hc_45
          refine lv_aload_n hx hb dX9_value_69 rfl (lv_at hl 0 rfl) ?_
          refine va_get (ci := 9) (v := .ref (a 21)) hx hb hts wX9_in hown hK hP 0 rfl rfl 6 (by decide) (hts _ mw_2_73) (fun _ h9 => h9) rfl dX9_value_70 ?_
          refine lv_iload_n hx hb dX9_value_73 rfl (lv_at hl 1 rfl) ?_
          refine lv_iload_n hx hb dX9_value_74 rfl (lv_at hl 2 rfl) ?_
          obtain ⟨r_46, hk_47, hf⟩ := pe_1 hf
          refine xv_l (As := [.int x1, .int x2]) (rest := []) (q0 := 0) (ci := 0) Cx hP hD hS hl (pl_X9_X0 a cyI cyJ v9_refusals v7_rows v7_lengths v7_sizes v7_rests v7_orders v6_hooks v6_lefts v6_heights v1_table v5_known v8_sizes v8_coefficients v8_undoneSums v8_undos v8_nextUndo v8_imageTaken v0_totals v3_letters v3_count v3_next v3_size v4_values v4_lengths v0_totals v7_rows v7_lengths v7_sizes v7_rests v7_orders v6_hooks v6_lefts v6_heights v1_table v5_known v8_sizes v8_coefficients v8_undoneSums v8_undos v8_nextUndo v8_imageTaken) (c_X0_valueAt l D cyI cyJ G a H.size v0_totals v7_rows v7_lengths v7_sizes v7_rests v7_orders v6_hooks v6_lefts v6_heights v1_table v5_known v8_sizes v8_coefficients v8_undoneSums v8_undos v8_nextUndo v8_imageTaken x1 x2 r_46 hk_47) pk_X0_valueAt mw_4_47 ⟨rfl, rfl, Nat.le_of_ble_eq_true rfl, Nat.le_of_ble_eq_true rfl⟩ rfl rfl rfl rfl rfl (Nat.le_of_ble_eq_true rfl) ⟨Nat.le_of_ble_eq_true rfl, Nat.le_of_ble_eq_true rfl⟩ dX9_value_75 (fun H locs hP hD hS => ?_)
          obtain ⟨rfl, rfl⟩ := po_2 hf
          rw [← hQ]; exact xe_lret Cx rfl hP hD hS dX9_value_78
        · have hf := pe_f hf hc_45
          refine lv_aload_n hx hb dX9_value_62 rfl (lv_at hl 0 rfl) ?_
          refine lv_bipush (v := (-3 : Int32)) hx hb dX9_value_63 (by decide) ?_
          obtain ⟨r_48, v9_refusals_49, hk_50, hf⟩ := pe_2 hf
          refine xv_l (As := [.int (-3 : Int32)]) (rest := []) (q0 := 0) (ci := 9) Cx hP hD hS hl (pl_X9_X9 a cyI cyJ v9_refusals v7_rows v7_lengths v7_sizes v7_rests v7_orders v6_hooks v6_lefts v6_heights v1_table v5_known v8_sizes v8_coefficients v8_undoneSums v8_undos v8_nextUndo v8_imageTaken v0_totals v3_letters v3_count v3_next v3_size v4_values v4_lengths v9_refusals_49 v7_rows v7_lengths v7_sizes v7_rests v7_orders v6_hooks v6_lefts v6_heights v1_table v5_known v8_sizes v8_coefficients v8_undoneSums v8_undos v8_nextUndo v8_imageTaken v0_totals v3_letters v3_count v3_next v3_size v4_values v4_lengths) (c_X9_refuseFarLong l D cyI cyJ G a H.size v9_refusals v7_rows v7_lengths v7_sizes v7_rests v7_orders v6_hooks v6_lefts v6_heights v1_table v5_known v8_sizes v8_coefficients v8_undoneSums v8_undos v8_nextUndo v8_imageTaken v0_totals v3_letters v3_count v3_next v3_size v4_values v4_lengths (-3 : Int32) r_48 v9_refusals_49 hk_50) pk_X9_refuseFarLong mw_2_223 ⟨rfl, rfl, Nat.le_of_ble_eq_true rfl, Nat.le_of_ble_eq_true rfl⟩ rfl rfl rfl rfl rfl (Nat.le_of_ble_eq_true rfl) ⟨Nat.le_of_ble_eq_true rfl, Nat.le_of_ble_eq_true rfl⟩ dX9_value_65 (fun H locs hP hD hS => ?_)
          obtain ⟨rfl, rfl⟩ := po_2 hf
          rw [← hQ]; exact xe_lret Cx rfl hP hD hS dX9_value_68
      · have hf := pe_f hf hc_40
        refine lv_ldc2 (v := (4000000000000000011 : Int64)) hx hb hown (hts _ mw_4_46) dX9_value_39 ?_
        obtain ⟨rfl, rfl⟩ := po_2 hf
        rw [← hQ]; exact xe_lret Cx rfl hP hD hS dX9_value_42
    · have hf := pe_t hf hc_36
      exact w_22 v9_refusals H locs ls hf hP hD hS (lv_sub hl [0] rfl)
