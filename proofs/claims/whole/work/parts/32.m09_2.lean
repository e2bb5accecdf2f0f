def f_X9_inner_22 (v8_sizes : Nat → Int32) (v8_coefficients : Nat → Int32) (v9_refusals : Nat → Int32) : Option (Int64 × (Nat → Int32)) := p_b2 (f_X9_refuseFarLong v9_refusals (-1 : Int32)) (fun r_1 v9_refusals_2 => some (r_1, v9_refusals_2))
def f_X9_inner (v9_refusals : Nat → Int32) (v8_sizes : Nat → Int32) (v8_coefficients : Nat → Int32) (x1 : Int32) (x2 : Int32) : Option (Int64 × (Nat → Int32)) := p_b1 (f_X8_has x1) (fun r_4 => if r_4 = 0 then ((f_X9_inner_22 v8_sizes v8_coefficients) v9_refusals) else (p_b1 (f_X8_has x2) (fun r_8 => if r_8 = 0 then ((f_X9_inner_22 v8_sizes v8_coefficients) v9_refusals) else (p_b1 (f_X8_isMissing v8_sizes x1) (fun r_12 => if r_12 = 0 then (p_b1 (f_X8_isMissing v8_sizes x2) (fun r_16 => if r_16 = 0 then (p_b1 (f_X8_sizeOf v8_sizes x1) (fun r_20 => p_b1 (f_X8_sizeOf v8_sizes x2) (fun r_22 => if r_20 = r_22 then (p_b1 (f_X0_innerOf v8_coefficients x1 x2) (fun r_25 => some (r_25, v9_refusals))) else (p_b2 (f_X9_refuseFarLong v9_refusals (-3 : Int32)) (fun r_27 v9_refusals_28 => some (r_27, v9_refusals_28)))))) else (some ((4000000000000000011 : Int64), v9_refusals)))) else (some ((4000000000000000011 : Int64), v9_refusals)))))))
set_option maxHeartbeats 4000000 in
set_option maxRecDepth 20000 in
theorem c_X9_inner (l : Launch) (D : va_G) (cyI cyJ : ClassId) (G a : Nat → Nat) (sz : Nat) (v9_refusals : Nat → Int32) (v7_rows : Nat → Int32) (v7_lengths : Nat → Int32) (v7_sizes : Nat → Int32) (v7_rests : Nat → Int32) (v7_orders : Nat → Int32) (v6_hooks : Nat → Int32) (v6_lefts : Nat → Int32) (v6_heights : Nat → Int32) (v1_table : Nat → Int32) (v5_known : Nat → Int32) (v8_sizes : Nat → Int32) (v8_coefficients : Nat → Int32) (v8_undoneSums : Nat → Int32) (v8_undos : Int32) (v8_nextUndo : Int32) (v8_imageTaken : Int32) (v0_totals : Nat → Int64) (v3_letters : Nat → Int32) (v3_count : Int32) (v3_next : Int32) (v3_size : Int32) (v4_values : Nat → Int32) (v4_lengths : Nat → Int32) (x1 : Int32) (x2 : Int32) (ro : Int64) (ov9_refusals : Nat → Int32) (hf : f_X9_inner v9_refusals v8_sizes v8_coefficients x1 x2 = some (ro, ov9_refusals)) : xm_l l yX9_inner (Cond.code yX9_inner cX9_inner 3 (some .long) :: xg_tbl) { frames := 3, cells := 0, slots := 0, locals := 69 } D xcl [(cyI, .int), (cyJ, .long)] G sz [.ref (a 0), .int x1, .int x2] (wd_X9 a cyI cyJ v9_refusals v7_rows v7_lengths v7_sizes v7_rests v7_orders v6_hooks v6_lefts v6_heights v1_table v5_known v8_sizes v8_coefficients v8_undoneSums v8_undos v8_nextUndo v8_imageTaken v0_totals v3_letters v3_count v3_next v3_size v4_values v4_lengths) (wd_X9 a cyI cyJ ov9_refusals v7_rows v7_lengths v7_sizes v7_rests v7_orders v6_hooks v6_lefts v6_heights v1_table v5_known v8_sizes v8_coefficients v8_undoneSums v8_undos v8_nextUndo v8_imageTaken v0_totals v3_letters v3_count v3_next v3_size v4_values v4_lengths) ro := by
  refine xm_of_l (own := RX9) (by decide) rfl rfl (Nat.le_of_ble_eq_true rfl) ?_
  intro p e s m args below meth c ls Q A hQ hAe hin Cx hsz hP hD hS hl
  have Cx1 := Cx
  obtain ⟨⟨hx, hb, hml, hown, hts⟩, hr, hlocks, hK, hA, hT⟩ := Cx1
  have hl : lv_has ls 3 [(0, .ref (a 0)), (1, .int x1), (2, .int x2)] := hl
  obtain ⟨H, eH⟩ : ∃ H, H = s.heap := ⟨_, rfl⟩
  obtain ⟨locs, eL⟩ : ∃ L : List Loc, L = [] := ⟨_, rfl⟩
  rw [← eH] at hP
  have hS : va_S A s.heap H locs := by rw [eH, eL]; exact hS
  suffices hgo : W p l e { frames := 3, cells := 0, slots := 0, locals := 69 } s m args below meth c H locs 0 0 Q (F0 m 0 ls []) by rw [eH, eL] at hgo; exact hgo
  clear eH eL
  unfold f_X9_inner at hf
  have w_22 : ∀ (v9_refusals : Nat → Int32) (H : Heap) (locs : List Loc) (ls : Array Slot), (f_X9_inner_22 v8_sizes v8_coefficients) v9_refusals = some (ro, ov9_refusals) → va_P D xcl (wd_X9 a cyI cyJ v9_refusals v7_rows v7_lengths v7_sizes v7_rests v7_orders v6_hooks v6_lefts v6_heights v1_table v5_known v8_sizes v8_coefficients v8_undoneSums v8_undos v8_nextUndo v8_imageTaken v0_totals v3_letters v3_count v3_next v3_size v4_values v4_lengths) H → va_D A (wd_X9 a cyI cyJ v9_refusals v7_rows v7_lengths v7_sizes v7_rests v7_orders v6_hooks v6_lefts v6_heights v1_table v5_known v8_sizes v8_coefficients v8_undoneSums v8_undos v8_nextUndo v8_imageTaken v0_totals v3_letters v3_count v3_next v3_size v4_values v4_lengths) → va_S A s.heap H locs → lv_has ls 3 [(0, .ref (a 0))] → W p l e { frames := 3, cells := 0, slots := 0, locals := 69 } s m args below meth c H locs 0 0 Q (F0 m 22 ls []) := by
    intro v9_refusals H locs ls hf hP hD hS hl
    unfold f_X9_inner_22 at hf
    refine lv_aload_n hx hb dX9_inner_22 rfl (lv_at hl 0 rfl) ?_
    refine lv_iconst (v := (-1 : Int32)) hx hb dX9_inner_23 (by decide) ?_
    obtain ⟨r_30, v9_refusals_31, hk_32, hf⟩ := pe_2 hf
    refine xv_l (As := [.int (-1 : Int32)]) (rest := []) (q0 := 0) (ci := 9) Cx hP hD hS hl (pl_X9_X9 a cyI cyJ v9_refusals v7_rows v7_lengths v7_sizes v7_rests v7_orders v6_hooks v6_lefts v6_heights v1_table v5_known v8_sizes v8_coefficients v8_undoneSums v8_undos v8_nextUndo v8_imageTaken v0_totals v3_letters v3_count v3_next v3_size v4_values v4_lengths v9_refusals_31 v7_rows v7_lengths v7_sizes v7_rests v7_orders v6_hooks v6_lefts v6_heights v1_table v5_known v8_sizes v8_coefficients v8_undoneSums v8_undos v8_nextUndo v8_imageTaken v0_totals v3_letters v3_count v3_next v3_size v4_values v4_lengths) (c_X9_refuseFarLong l D cyI cyJ G a H.size v9_refusals v7_rows v7_lengths v7_sizes v7_rests v7_orders v6_hooks v6_lefts v6_heights v1_table v5_known v8_sizes v8_coefficients v8_undoneSums v8_undos v8_nextUndo v8_imageTaken v0_totals v3_letters v3_count v3_next v3_size v4_values v4_lengths (-1 : Int32) r_30 v9_refusals_31 hk_32) pk_X9_refuseFarLong mw_2_223 ⟨rfl, rfl, Nat.le_of_ble_eq_true rfl, Nat.le_of_ble_eq_true rfl⟩ rfl rfl rfl rfl rfl (Nat.le_of_ble_eq_true rfl) ⟨Nat.le_of_ble_eq_true rfl, Nat.le_of_ble_eq_true rfl⟩ dX9_inner_24 (fun H locs hP hD hS => ?_)
    obtain ⟨rfl, rfl⟩ := po_2 hf
    rw [← hQ]; exact xe_lret Cx rfl hP hD hS dX9_inner_27
  refine lv_aload_n hx hb dX9_inner_0 rfl (lv_at hl 0 rfl) ?_
  refine va_get (ci := 9) (v := .ref (a 17)) hx hb hts wX9_in hown hK hP 0 rfl rfl 5 (by decide) (hts _ mw_2_72) (fun _ h9 => h9) rfl dX9_inner_1 ?_
  refine lv_iload_n hx hb dX9_inner_4 rfl (lv_at hl 1 rfl) ?_
  obtain ⟨r_33, hk_34, hf⟩ := pe_1 hf
  refine xv_z (As := [.int x1]) (rest := []) (q0 := 0) (ci := 8) Cx hP hD hS hl (pl_X9_X8 a cyI cyJ v9_refusals v7_rows v7_lengths v7_sizes v7_rests v7_orders v6_hooks v6_lefts v6_heights v1_table v5_known v8_sizes v8_coefficients v8_undoneSums v8_undos v8_nextUndo v8_imageTaken v0_totals v3_letters v3_count v3_next v3_size v4_values v4_lengths v8_sizes v8_coefficients v8_undoneSums v8_undos v8_nextUndo v8_imageTaken) (c_X8_has l D cyI cyJ G a H.size v8_sizes v8_coefficients v8_undoneSums v8_undos v8_nextUndo v8_imageTaken x1 r_33 hk_34) pk_X8_has mw_3_116 ⟨rfl, rfl, Nat.le_of_ble_eq_true rfl, Nat.le_of_ble_eq_true rfl⟩ rfl rfl rfl rfl rfl (Nat.le_of_ble_eq_true rfl) ⟨Nat.le_of_ble_eq_true rfl, Nat.le_of_ble_eq_true rfl⟩ dX9_inner_5 (fun H locs hn_35 hP hD hS => ?_)
  refine lv_if_eq (tgt := 22) hx hb dX9_inner_8 (by decide) (fun hc_36 => ?_) (fun hc_36 => ?_)
  · have hf := pe_t hf hc_36
    exact w_22 v9_refusals H locs ls hf hP hD hS (lv_sub hl [0] rfl)
  · have hf := pe_f hf hc_36
    refine lv_aload_n hx hb dX9_inner_11 rfl (lv_at hl 0 rfl) ?_
    refine va_get (ci := 9) (v := .ref (a 17)) hx hb hts wX9_in hown hK hP 0 rfl rfl 5 (by decide) (hts _ mw_2_72) (fun _ h9 => h9) rfl dX9_inner_12 ?_
    refine lv_iload_n hx hb dX9_inner_15 rfl (lv_at hl 2 rfl) ?_
    obtain ⟨r_37, hk_38, hf⟩ := pe_1 hf
    refine xv_z (As := [.int x2]) (rest := []) (q0 := 0) (ci := 8) Cx hP hD hS hl (pl_X9_X8 a cyI cyJ v9_refusals v7_rows v7_lengths v7_sizes v7_rests v7_orders v6_hooks v6_lefts v6_heights v1_table v5_known v8_sizes v8_coefficients v8_undoneSums v8_undos v8_nextUndo v8_imageTaken v0_totals v3_letters v3_count v3_next v3_size v4_values v4_lengths v8_sizes v8_coefficients v8_undoneSums v8_undos v8_nextUndo v8_imageTaken) (c_X8_has l D cyI cyJ G a H.size v8_sizes v8_coefficients v8_undoneSums v8_undos v8_nextUndo v8_imageTaken x2 r_37 hk_38) pk_X8_has mw_3_116 ⟨rfl, rfl, Nat.le_of_ble_eq_true rfl, Nat.le_of_ble_eq_true rfl⟩ rfl rfl rfl rfl rfl (Nat.le_of_ble_eq_true rfl) ⟨Nat.le_of_ble_eq_true rfl, Nat.le_of_ble_eq_true rfl⟩ dX9_inner_16 (fun H locs hn_39 hP hD hS => ?_)
    refine lv_if_ne (tgt := 28) hx hb dX9_inner_19 (by decide) (fun hc_40 => ?_) (fun hc_40 => ?_)
    · have hf := pe_f hf hc_40
      refine lv_aload_n hx hb dX9_inner_28 rfl (lv_at hl 0 rfl) ?_
      refine va_get (ci := 9) (v := .ref (a 17)) hx hb hts wX9_in hown hK hP 0 rfl rfl 5 (by decide) (hts _ mw_2_72) (fun _ h9 => h9) rfl dX9_inner_29 ?_
      refine lv_iload_n hx hb dX9_inner_32 rfl (lv_at hl 1 rfl) ?_
      obtain ⟨r_41, hk_42, hf⟩ := pe_1 hf
      refine xv_z (As := [.int x1]) (rest := []) (q0 := 0) (ci := 8) Cx hP hD hS hl (pl_X9_X8 a cyI cyJ v9_refusals v7_rows v7_lengths v7_sizes v7_rests v7_orders v6_hooks v6_lefts v6_heights v1_table v5_known v8_sizes v8_coefficients v8_undoneSums v8_undos v8_nextUndo v8_imageTaken v0_totals v3_letters v3_count v3_next v3_size v4_values v4_lengths v8_sizes v8_coefficients v8_undoneSums v8_undos v8_nextUndo v8_imageTaken) (c_X8_isMissing l D cyI cyJ G a H.size v8_sizes v8_coefficients v8_undoneSums v8_undos v8_nextUndo v8_imageTaken x1 r_41 hk_42) pk_X8_isMissing mw_3_189 ⟨rfl, rfl, Nat.le_of_ble_eq_true rfl, Nat.le_of_ble_eq_true rfl⟩ rfl rfl rfl rfl rfl (Nat.le_of_ble_eq_true rfl) ⟨Nat.le_of_ble_eq_true rfl, Nat.le_of_ble_eq_true rfl⟩ dX9_inner_33 (fun H locs hn_43 hP hD hS => ?_)
      refine lv_if_ne (tgt := 50) hx hb dX9_inner_36 (by decide) (fun hc_44 => ?_) (fun hc_44 => ?_)
      · have hf := pe_f hf hc_44
        refine lv_ldc2 (v := (4000000000000000011 : Int64)) hx hb hown (hts _ mw_4_46) dX9_inner_50 ?_
        obtain ⟨rfl, rfl⟩ := po_2 hf
        rw [← hQ]; exact xe_lret Cx rfl hP hD hS dX9_inner_53
      · have hf := pe_t hf hc_44
        refine lv_aload_n hx hb dX9_inner_39 rfl (lv_at hl 0 rfl) ?_
        refine va_get (ci := 9) (v := .ref (a 17)) hx hb hts wX9_in hown hK hP 0 rfl rfl 5 (by decide) (hts _ mw_2_72) (fun _ h9 => h9) rfl dX9_inner_40 ?_
        refine lv_iload_n hx hb dX9_inner_43 rfl (lv_at hl 2 rfl) ?_
        obtain ⟨r_45, hk_46, hf⟩ := pe_1 hf
        refine xv_z (As := [.int x2]) (rest := []) (q0 := 0) (ci := 8) Cx hP hD hS hl (pl_X9_X8 a cyI cyJ v9_refusals v7_rows v7_lengths v7_sizes v7_rests v7_orders v6_hooks v6_lefts v6_heights v1_table v5_known v8_sizes v8_coefficients v8_undoneSums v8_undos v8_nextUndo v8_imageTaken v0_totals v3_letters v3_count v3_next v3_size v4_values v4_lengths v8_sizes v8_coefficients v8_undoneSums v8_undos v8_nextUndo v8_imageTaken) (c_X8_isMissing l D cyI cyJ G a H.size v8_sizes v8_coefficients v8_undoneSums v8_undos v8_nextUndo v8_imageTaken x2 r_45 hk_46) pk_X8_isMissing mw_3_189 ⟨rfl, rfl, Nat.le_of_ble_eq_true rfl, Nat.le_of_ble_eq_true rfl⟩ rfl rfl rfl rfl rfl (Nat.le_of_ble_eq_true rfl) ⟨Nat.le_of_ble_eq_true rfl, Nat.le_of_ble_eq_true rfl⟩ dX9_inner_44 (fun H locs hn_47 hP hD hS => ?_)
        refine lv_if_eq (tgt := 54) hx hb dX9_inner_47 (by decide) (fun hc_48 => ?_) (fun hc_48 => ?_)
        · have hf := pe_t hf hc_48
          refine lv_aload_n hx hb dX9_inner_54 rfl (lv_at hl 0 rfl) ?_
          refine va_get (ci := 9) (v := .ref (a 17)) hx hb hts wX9_in hown hK hP 0 rfl rfl 5 (by decide) (hts _ mw_2_72) (fun _ h9 => h9) rfl dX9_inner_55 ?_
          refine lv_iload_n hx hb dX9_inner_58 rfl (lv_at hl 1 rfl) ?_
          obtain ⟨r_49, hk_50, hf⟩ := pe_1 hf
          refine xv_i (As := [.int x1]) (rest := []) (q0 := 0) (ci := 8) Cx hP hD hS hl (pl_X9_X8 a cyI cyJ v9_refusals v7_rows v7_lengths v7_sizes v7_rests v7_orders v6_hooks v6_lefts v6_heights v1_table v5_known v8_sizes v8_coefficients v8_undoneSums v8_undos v8_nextUndo v8_imageTaken v0_totals v3_letters v3_count v3_next v3_size v4_values v4_lengths v8_sizes v8_coefficients v8_undoneSums v8_undos v8_nextUndo v8_imageTaken) (c_X8_sizeOf l D cyI cyJ G a H.size v8_sizes v8_coefficients v8_undoneSums v8_undos v8_nextUndo v8_imageTaken x1 r_49 hk_50) pk_X8_sizeOf mw_3_206 ⟨rfl, rfl, Nat.le_of_ble_eq_true rfl, Nat.le_of_ble_eq_true rfl⟩ rfl rfl rfl rfl rfl (Nat.le_of_ble_eq_true rfl) ⟨Nat.le_of_ble_eq_true rfl, Nat.le_of_ble_eq_true rfl⟩ dX9_inner_59 (fun H locs hP hD hS => ?_)
          refine lv_aload_n hx hb dX9_inner_62 rfl (lv_at hl 0 rfl) ?_
          refine va_get (ci := 9) (v := .ref (a 17)) hx hb hts wX9_in hown hK hP 0 rfl rfl 5 (by decide) (hts _ mw_2_72) (fun _ h9 => h9) rfl dX9_inner_63 ?_
          refine lv_iload_n hx hb dX9_inner_66 rfl (lv_at hl 2 rfl) ?_
          obtain ⟨r_51, hk_52, hf⟩ := pe_1 hf
          refine xv_i (As := [.int x2]) (rest := [.int r_49]) (q0 := 0) (ci := 8) Cx hP hD hS hl (pl_X9_X8 a cyI cyJ v9_refusals v7_rows v7_lengths v7_sizes v7_rests v7_orders v6_hooks v6_lefts v6_heights v1_table v5_known v8_sizes v8_coefficients v8_undoneSums v8_undos v8_nextUndo v8_imageTaken v0_totals v3_letters v3_count v3_next v3_size v4_values v4_lengths v8_sizes v8_coefficients v8_undoneSums v8_undos v8_nextUndo v8_imageTaken) (c_X8_sizeOf l D cyI cyJ G a H.size v8_sizes v8_coefficients v8_undoneSums v8_undos v8_nextUndo v8_imageTaken x2 r_51 hk_52) pk_X8_sizeOf mw_3_206 ⟨rfl, rfl, Nat.le_of_ble_eq_true rfl, Nat.le_of_ble_eq_true rfl⟩ rfl rfl rfl rfl rfl (Nat.le_of_ble_eq_true rfl) ⟨Nat.le_of_ble_eq_true rfl, Nat.le_of_ble_eq_true rfl⟩ dX9_inner_67 (fun H locs hP hD hS => ?_)
          refine lv_icmp_eq (tgt := 80) hx hb dX9_inner_70 (by decide) (fun hc_53 => ?_) (fun hc_53 => ?_)
          · have hf := pe_t hf hc_53
            refine lv_aload_n hx hb dX9_inner_80 rfl (lv_at hl 0 rfl) ?_
            refine va_get (ci := 9) (v := .ref (a 21)) hx hb hts wX9_in hown hK hP 0 rfl rfl 6 (by decide) (hts _ mw_2_73) (fun _ h9 => h9) rfl dX9_inner_81 ?_
            refine lv_iload_n hx hb dX9_inner_84 rfl (lv_at hl 1 rfl) ?_
            refine lv_iload_n hx hb dX9_inner_85 rfl (lv_at hl 2 rfl) ?_
            obtain ⟨r_54, hk_55, hf⟩ := pe_1 hf
            refine xv_l (As := [.int x1, .int x2]) (rest := []) (q0 := 0) (ci := 0) Cx hP hD hS hl (pl_X9_X0 a cyI cyJ v9_refusals v7_rows v7_lengths v7_sizes v7_rests v7_orders v6_hooks v6_lefts v6_heights v1_table v5_known v8_sizes v8_coefficients v8_undoneSums v8_undos v8_nextUndo v8_imageTaken v0_totals v3_letters v3_count v3_next v3_size v4_values v4_lengths v0_totals v7_rows v7_lengths v7_sizes v7_rests v7_orders v6_hooks v6_lefts v6_heights v1_table v5_known v8_sizes v8_coefficients v8_undoneSums v8_undos v8_nextUndo v8_imageTaken) (c_X0_innerOf l D cyI cyJ G a H.size v0_totals v7_rows v7_lengths v7_sizes v7_rests v7_orders v6_hooks v6_lefts v6_heights v1_table v5_known v8_sizes v8_coefficients v8_undoneSums v8_undos v8_nextUndo v8_imageTaken x1 x2 r_54 hk_55) pk_X0_innerOf mw_4_56 ⟨rfl, rfl, Nat.le_of_ble_eq_true rfl, Nat.le_of_ble_eq_true rfl⟩ rfl rfl rfl rfl rfl (Nat.le_of_ble_eq_true rfl) ⟨Nat.le_of_ble_eq_true rfl, Nat.le_of_ble_eq_true rfl⟩ dX9_inner_86 (fun H locs hP hD hS => ?_)
            obtain ⟨rfl, rfl⟩ := po_2 hf
            rw [← hQ]; exact xe_lret Cx rfl hP hD hS dX9_inner_89
          · have hf := pe_f hf hc_53
            refine lv_aload_n hx hb dX9_inner_73 rfl (lv_at hl 0 rfl) ?_
            refine lv_bipush (v := (-3 : Int32)) hx hb dX9_inner_74 (by decide) ?_
            obtain ⟨r_56, v9_refusals_57, hk_58, hf⟩ := pe_2 hf
            refine xv_l (As := [.int (-3 : Int32)]) (rest := []) (q0 := 0) (ci := 9) Cx hP hD hS hl (pl_X9_X9 a cyI cyJ v9_refusals v7_rows v7_lengths v7_sizes v7_rests v7_orders v6_hooks v6_lefts v6_heights v1_table v5_known v8_sizes v8_coefficients v8_undoneSums v8_undos v8_nextUndo v8_imageTaken v0_totals v3_letters v3_count v3_next v3_size v4_values v4_lengths v9_refusals_57 v7_rows v7_lengths v7_sizes v7_rests v7_orders v6_hooks v6_lefts v6_heights v1_table v5_known v8_sizes v8_coefficients v8_undoneSums v8_undos v8_nextUndo v8_imageTaken v0_totals v3_letters v3_count v3_next v3_size v4_values v4_lengths) (c_X9_refuseFarLong l D cyI cyJ G a H.size v9_refusals v7_rows v7_lengths v7_sizes v7_rests v7_orders v6_hooks v6_lefts v6_heights v1_table v5_known v8_sizes v8_coefficients v8_undoneSums v8_undos v8_nextUndo v8_imageTaken v0_totals v3_letters v3_count v3_next v3_size v4_values v4_lengths (-3 : Int32) r_56 v9_refusals_57 hk_58) pk_X9_refuseFarLong mw_2_223 ⟨rfl, rfl, Nat.le_of_ble_eq_true rfl, Nat.le_of_ble_eq_true rfl⟩ rfl rfl rfl rfl rfl (Nat.le_of_ble_eq_true rfl) ⟨Nat.le_of_ble_eq_true rfl, Nat.le_of_ble_eq_true rfl⟩ dX9_inner_76 (fun H locs hP hD hS => ?_)
            obtain ⟨rfl, rfl⟩ := po_2 hf
            rw [← hQ]; exact xe_lret Cx rfl hP hD hS dX9_inner_79
        · have hf := pe_f hf hc_48
          refine lv_ldc2 (v := (4000000000000000011 : Int64)) hx hb hown (hts _ mw_4_46) dX9_inner_50 ?_
          obtain ⟨rfl, rfl⟩ := po_2 hf
          rw [← hQ]; exact xe_lret Cx rfl hP hD hS dX9_inner_53
    · have hf := pe_t hf hc_40
      exact w_22 v9_refusals H locs ls hf hP hD hS (lv_sub hl [0] rfl)
def f_X9_list (v9_refusals : Nat → Int32) (v4_values : Nat → Int32) (v4_lengths : Nat → Int32) (x1 : Int32) (x2 : Int32) : Option (Int32 × (Nat → Int32) × (Nat → Int32) × (Nat → Int32)) := p_b1 (f_X4_has x1) (fun r_1 => if r_1 = 0 then (p_b2 (f_X9_refuse v9_refusals (-1 : Int32)) (fun r_13 v9_refusals_14 => some (r_13, v9_refusals_14, v4_values, v4_lengths))) else (if x2 ≤ (40 : Int32) then (if 0 ≤ x2 then (p_b2 (f_X4_begin v4_values v4_lengths x1 x2) (fun v4_values_7 v4_lengths_8 => some ((1 : Int32), v9_refusals, v4_values_7, v4_lengths_8))) else (some ((-14 : Int32), v9_refusals, v4_values, v4_lengths))) else (p_b2 (f_X9_refuse v9_refusals (-6 : Int32)) (fun r_10 v9_refusals_11 => some (r_10, v9_refusals_11, v4_values, v4_lengths)))))
set_option maxHeartbeats 4000000 in
set_option maxRecDepth 20000 in
theorem c_X9_list (l : Launch) (D : va_G) (cyI cyJ : ClassId) (G a : Nat → Nat) (sz : Nat) (v9_refusals : Nat → Int32) (v7_rows : Nat → Int32) (v7_lengths : Nat → Int32) (v7_sizes : Nat → Int32) (v7_rests : Nat → Int32) (v7_orders : Nat → Int32) (v6_hooks : Nat → Int32) (v6_lefts : Nat → Int32) (v6_heights : Nat → Int32) (v1_table : Nat → Int32) (v5_known : Nat → Int32) (v8_sizes : Nat → Int32) (v8_coefficients : Nat → Int32) (v8_undoneSums : Nat → Int32) (v8_undos : Int32) (v8_nextUndo : Int32) (v8_imageTaken : Int32) (v0_totals : Nat → Int64) (v3_letters : Nat → Int32) (v3_count : Int32) (v3_next : Int32) (v3_size : Int32) (v4_values : Nat → Int32) (v4_lengths : Nat → Int32) (x1 : Int32) (x2 : Int32) (ro : Int32) (ov9_refusals : Nat → Int32) (ov4_values : Nat → Int32) (ov4_lengths : Nat → Int32) (hf : f_X9_list v9_refusals v4_values v4_lengths x1 x2 = some (ro, ov9_refusals, ov4_values, ov4_lengths)) : xm_i l yX9_list (Cond.code yX9_list cX9_list 3 (some .int) :: xg_tbl) { frames := 2, cells := 0, slots := 0, locals := 44 } D xcl [(cyI, .int), (cyJ, .long)] G sz [.ref (a 0), .int x1, .int x2] (wd_X9 a cyI cyJ v9_refusals v7_rows v7_lengths v7_sizes v7_rests v7_orders v6_hooks v6_lefts v6_heights v1_table v5_known v8_sizes v8_coefficients v8_undoneSums v8_undos v8_nextUndo v8_imageTaken v0_totals v3_letters v3_count v3_next v3_size v4_values v4_lengths) (wd_X9 a cyI cyJ ov9_refusals v7_rows v7_lengths v7_sizes v7_rests v7_orders v6_hooks v6_lefts v6_heights v1_table v5_known v8_sizes v8_coefficients v8_undoneSums v8_undos v8_nextUndo v8_imageTaken v0_totals v3_letters v3_count v3_next v3_size ov4_values ov4_lengths) ro := by
  refine xm_of_i (own := RX9) (by decide) rfl rfl (Nat.le_of_ble_eq_true rfl) ?_
  intro p e s m args below meth c ls Q A hQ hAe hin Cx hsz hP hD hS hl
  have Cx1 := Cx
  obtain ⟨⟨hx, hb, hml, hown, hts⟩, hr, hlocks, hK, hA, hT⟩ := Cx1
  have hl : lv_has ls 3 [(0, .ref (a 0)), (1, .int x1), (2, .int x2)] := hl
  obtain ⟨H, eH⟩ : ∃ H, H = s.heap := ⟨_, rfl⟩
  obtain ⟨locs, eL⟩ : ∃ L : List Loc, L = [] := ⟨_, rfl⟩
  rw [← eH] at hP
  have hS : va_S A s.heap H locs := by rw [eH, eL]; exact hS
  suffices hgo : W p l e { frames := 2, cells := 0, slots := 0, locals := 44 } s m args below meth c H locs 0 0 Q (F0 m 0 ls []) by rw [eH, eL] at hgo; exact hgo
  clear eH eL
  unfold f_X9_list at hf
  refine lv_aload_n hx hb dX9_list_0 rfl (lv_at hl 0 rfl) ?_
  refine va_get (ci := 9) (v := .ref (a 25)) hx hb hts wX9_in hown hK hP 0 rfl rfl 8 (by decide) (hts _ mw_2_75) (fun _ h9 => h9) rfl dX9_list_1 ?_
  refine lv_iload_n hx hb dX9_list_4 rfl (lv_at hl 1 rfl) ?_
  obtain ⟨r_16, hk_17, hf⟩ := pe_1 hf
  refine xv_z (As := [.int x1]) (rest := []) (q0 := 0) (ci := 4) Cx hP hD hS hl (pl_X9_X4 a cyI cyJ v9_refusals v7_rows v7_lengths v7_sizes v7_rests v7_orders v6_hooks v6_lefts v6_heights v1_table v5_known v8_sizes v8_coefficients v8_undoneSums v8_undos v8_nextUndo v8_imageTaken v0_totals v3_letters v3_count v3_next v3_size v4_values v4_lengths v4_values v4_lengths) (c_X4_has l D cyI cyJ G a H.size v4_values v4_lengths x1 r_16 hk_17) pk_X4_has mw_2_144 ⟨rfl, rfl, Nat.le_of_ble_eq_true rfl, Nat.le_of_ble_eq_true rfl⟩ rfl rfl rfl rfl rfl (Nat.le_of_ble_eq_true rfl) ⟨Nat.le_of_ble_eq_true rfl, Nat.le_of_ble_eq_true rfl⟩ dX9_list_5 (fun H locs hn_18 hP hD hS => ?_)
  refine lv_if_ne (tgt := 17) hx hb dX9_list_8 (by decide) (fun hc_19 => ?_) (fun hc_19 => ?_)
  · have hf := pe_f hf hc_19
    refine lv_iload_n hx hb dX9_list_17 rfl (lv_at hl 2 rfl) ?_
    refine lv_bipush (v := (40 : Int32)) hx hb dX9_list_18 (by decide) ?_
    refine lv_icmp_le (tgt := 30) hx hb dX9_list_20 (by decide) (fun hc_20 => ?_) (fun hc_20 => ?_)
    · have hf := pe_t hf hc_20
      refine lv_iload_n hx hb dX9_list_30 rfl (lv_at hl 2 rfl) ?_
      refine lv_if_ge (tgt := 37) hx hb dX9_list_31 (by decide) (fun hc_21 => ?_) (fun hc_21 => ?_)
      · have hf := pe_t hf hc_21
        refine lv_aload_n hx hb dX9_list_37 rfl (lv_at hl 0 rfl) ?_
        refine va_get (ci := 9) (v := .ref (a 25)) hx hb hts wX9_in hown hK hP 0 rfl rfl 8 (by decide) (hts _ mw_2_75) (fun _ h9 => h9) rfl dX9_list_38 ?_
        refine lv_iload_n hx hb dX9_list_41 rfl (lv_at hl 1 rfl) ?_
        refine lv_iload_n hx hb dX9_list_42 rfl (lv_at hl 2 rfl) ?_
        obtain ⟨v4_values_22, v4_lengths_23, hk_24, hf⟩ := pe_2 hf
        refine xv_v (As := [.int x1, .int x2]) (rest := []) (q0 := 0) (ci := 4) Cx hP hD hS hl (pl_X9_X4 a cyI cyJ v9_refusals v7_rows v7_lengths v7_sizes v7_rests v7_orders v6_hooks v6_lefts v6_heights v1_table v5_known v8_sizes v8_coefficients v8_undoneSums v8_undos v8_nextUndo v8_imageTaken v0_totals v3_letters v3_count v3_next v3_size v4_values v4_lengths v4_values_22 v4_lengths_23) (c_X4_begin l D cyI cyJ G a H.size v4_values v4_lengths x1 x2 v4_values_22 v4_lengths_23 hk_24) pk_X4_begin mw_4_64 ⟨rfl, rfl, Nat.le_of_ble_eq_true rfl, Nat.le_of_ble_eq_true rfl⟩ rfl rfl rfl rfl rfl (Nat.le_of_ble_eq_true rfl) ⟨Nat.le_of_ble_eq_true rfl, Nat.le_of_ble_eq_true rfl⟩ dX9_list_43 (fun H locs hP hD hS => ?_)
        refine lv_iconst (v := (1 : Int32)) hx hb dX9_list_46 (by decide) ?_
        obtain ⟨rfl, rfl, rfl, rfl⟩ := po_4 hf
        rw [← hQ]; exact xe_iret Cx rfl hP hD hS dX9_list_47
      · have hf := pe_f hf hc_21
        refine lv_bipush (v := (-14 : Int32)) hx hb dX9_list_34 (by decide) ?_
        obtain ⟨rfl, rfl, rfl, rfl⟩ := po_4 hf
        rw [← hQ]; exact xe_iret Cx rfl hP hD hS dX9_list_36
    · have hf := pe_f hf hc_20
      refine lv_aload_n hx hb dX9_list_23 rfl (lv_at hl 0 rfl) ?_
      refine lv_bipush (v := (-6 : Int32)) hx hb dX9_list_24 (by decide) ?_
      obtain ⟨r_25, v9_refusals_26, hk_27, hf⟩ := pe_2 hf
      refine xv_i (As := [.int (-6 : Int32)]) (rest := []) (q0 := 0) (ci := 9) Cx hP hD hS hl (pl_X9_X9 a cyI cyJ v9_refusals v7_rows v7_lengths v7_sizes v7_rests v7_orders v6_hooks v6_lefts v6_heights v1_table v5_known v8_sizes v8_coefficients v8_undoneSums v8_undos v8_nextUndo v8_imageTaken v0_totals v3_letters v3_count v3_next v3_size v4_values v4_lengths v9_refusals_26 v7_rows v7_lengths v7_sizes v7_rests v7_orders v6_hooks v6_lefts v6_heights v1_table v5_known v8_sizes v8_coefficients v8_undoneSums v8_undos v8_nextUndo v8_imageTaken v0_totals v3_letters v3_count v3_next v3_size v4_values v4_lengths) (c_X9_refuse l D cyI cyJ G a H.size v9_refusals v7_rows v7_lengths v7_sizes v7_rests v7_orders v6_hooks v6_lefts v6_heights v1_table v5_known v8_sizes v8_coefficients v8_undoneSums v8_undos v8_nextUndo v8_imageTaken v0_totals v3_letters v3_count v3_next v3_size v4_values v4_lengths (-6 : Int32) r_25 v9_refusals_26 hk_27) pk_X9_refuse mw_2_103 ⟨rfl, rfl, Nat.le_of_ble_eq_true rfl, Nat.le_of_ble_eq_true rfl⟩ rfl rfl rfl rfl rfl (Nat.le_of_ble_eq_true rfl) ⟨Nat.le_of_ble_eq_true rfl, Nat.le_of_ble_eq_true rfl⟩ dX9_list_26 (fun H locs hP hD hS => ?_)
      obtain ⟨rfl, rfl, rfl, rfl⟩ := po_4 hf
      rw [← hQ]; exact xe_iret Cx rfl hP hD hS dX9_list_29
  · have hf := pe_t hf hc_19
    refine lv_aload_n hx hb dX9_list_11 rfl (lv_at hl 0 rfl) ?_
    refine lv_iconst (v := (-1 : Int32)) hx hb dX9_list_12 (by decide) ?_
    obtain ⟨r_28, v9_refusals_29, hk_30, hf⟩ := pe_2 hf
    refine xv_i (As := [.int (-1 : Int32)]) (rest := []) (q0 := 0) (ci := 9) Cx hP hD hS hl (pl_X9_X9 a cyI cyJ v9_refusals v7_rows v7_lengths v7_sizes v7_rests v7_orders v6_hooks v6_lefts v6_heights v1_table v5_known v8_sizes v8_coefficients v8_undoneSums v8_undos v8_nextUndo v8_imageTaken v0_totals v3_letters v3_count v3_next v3_size v4_values v4_lengths v9_refusals_29 v7_rows v7_lengths v7_sizes v7_rests v7_orders v6_hooks v6_lefts v6_heights v1_table v5_known v8_sizes v8_coefficients v8_undoneSums v8_undos v8_nextUndo v8_imageTaken v0_totals v3_letters v3_count v3_next v3_size v4_values v4_lengths) (c_X9_refuse l D cyI cyJ G a H.size v9_refusals v7_rows v7_lengths v7_sizes v7_rests v7_orders v6_hooks v6_lefts v6_heights v1_table v5_known v8_sizes v8_coefficients v8_undoneSums v8_undos v8_nextUndo v8_imageTaken v0_totals v3_letters v3_count v3_next v3_size v4_values v4_lengths (-1 : Int32) r_28 v9_refusals_29 hk_30) pk_X9_refuse mw_2_103 ⟨rfl, rfl, Nat.le_of_ble_eq_true rfl, Nat.le_of_ble_eq_true rfl⟩ rfl rfl rfl rfl rfl (Nat.le_of_ble_eq_true rfl) ⟨Nat.le_of_ble_eq_true rfl, Nat.le_of_ble_eq_true rfl⟩ dX9_list_13 (fun H locs hP hD hS => ?_)
    obtain ⟨rfl, rfl, rfl, rfl⟩ := po_4 hf
    rw [← hQ]; exact xe_iret Cx rfl hP hD hS dX9_list_16
def f_X9_put (v9_refusals : Nat → Int32) (v4_values : Nat → Int32) (v4_lengths : Nat → Int32) (x1 : Int32) (x2 : Int32) (x3 : Int32) : Option (Int32 × (Nat → Int32) × (Nat → Int32)) := p_b1 (f_X4_has x1) (fun r_1 => if r_1 = 0 then (p_b2 (f_X9_refuse v9_refusals (-1 : Int32)) (fun r_15 v9_refusals_16 => some (r_15, v9_refusals_16, v4_values))) else (p_b1 (f_X4_isMissing v4_lengths x1) (fun r_5 => if r_5 = 0 then (p_b1 (f_X4_hasPlace v4_lengths x1 x2) (fun r_9 => if r_9 = 0 then (some ((-13 : Int32), v9_refusals, v4_values)) else (p_b1 (f_X4_store v4_values v4_lengths x1 x2 x3) (fun v4_values_13 => some ((1 : Int32), v9_refusals, v4_values_13))))) else (some ((-11 : Int32), v9_refusals, v4_values)))))
set_option maxHeartbeats 4000000 in
set_option maxRecDepth 20000 in
theorem c_X9_put (l : Launch) (D : va_G) (cyI cyJ : ClassId) (G a : Nat → Nat) (sz : Nat) (v9_refusals : Nat → Int32) (v7_rows : Nat → Int32) (v7_lengths : Nat → Int32) (v7_sizes : Nat → Int32) (v7_rests : Nat → Int32) (v7_orders : Nat → Int32) (v6_hooks : Nat → Int32) (v6_lefts : Nat → Int32) (v6_heights : Nat → Int32) (v1_table : Nat → Int32) (v5_known : Nat → Int32) (v8_sizes : Nat → Int32) (v8_coefficients : Nat → Int32) (v8_undoneSums : Nat → Int32) (v8_undos : Int32) (v8_nextUndo : Int32) (v8_imageTaken : Int32) (v0_totals : Nat → Int64) (v3_letters : Nat → Int32) (v3_count : Int32) (v3_next : Int32) (v3_size : Int32) (v4_values : Nat → Int32) (v4_lengths : Nat → Int32) (x1 : Int32) (x2 : Int32) (x3 : Int32) (ro : Int32) (ov9_refusals : Nat → Int32) (ov4_values : Nat → Int32) (hf : f_X9_put v9_refusals v4_values v4_lengths x1 x2 x3 = some (ro, ov9_refusals, ov4_values)) : xm_i l yX9_put (Cond.code yX9_put cX9_put 4 (some .int) :: xg_tbl) { frames := 4, cells := 0, slots := 0, locals := 87 } D xcl [(cyI, .int), (cyJ, .long)] G sz [.ref (a 0), .int x1, .int x2, .int x3] (wd_X9 a cyI cyJ v9_refusals v7_rows v7_lengths v7_sizes v7_rests v7_orders v6_hooks v6_lefts v6_heights v1_table v5_known v8_sizes v8_coefficients v8_undoneSums v8_undos v8_nextUndo v8_imageTaken v0_totals v3_letters v3_count v3_next v3_size v4_values v4_lengths) (wd_X9 a cyI cyJ ov9_refusals v7_rows v7_lengths v7_sizes v7_rests v7_orders v6_hooks v6_lefts v6_heights v1_table v5_known v8_sizes v8_coefficients v8_undoneSums v8_undos v8_nextUndo v8_imageTaken v0_totals v3_letters v3_count v3_next v3_size ov4_values v4_lengths) ro := by
  refine xm_of_i (own := RX9) (by decide) rfl rfl (Nat.le_of_ble_eq_true rfl) ?_
  intro p e s m args below meth c ls Q A hQ hAe hin Cx hsz hP hD hS hl
  have Cx1 := Cx
  obtain ⟨⟨hx, hb, hml, hown, hts⟩, hr, hlocks, hK, hA, hT⟩ := Cx1
  have hl : lv_has ls 4 [(0, .ref (a 0)), (1, .int x1), (2, .int x2), (3, .int x3)] := hl
  obtain ⟨H, eH⟩ : ∃ H, H = s.heap := ⟨_, rfl⟩
  obtain ⟨locs, eL⟩ : ∃ L : List Loc, L = [] := ⟨_, rfl⟩
  rw [← eH] at hP
  have hS : va_S A s.heap H locs := by rw [eH, eL]; exact hS
  suffices hgo : W p l e { frames := 4, cells := 0, slots := 0, locals := 87 } s m args below meth c H locs 0 0 Q (F0 m 0 ls []) by rw [eH, eL] at hgo; exact hgo
  clear eH eL
  unfold f_X9_put at hf
  refine lv_aload_n hx hb dX9_put_0 rfl (lv_at hl 0 rfl) ?_
  refine va_get (ci := 9) (v := .ref (a 25)) hx hb hts wX9_in hown hK hP 0 rfl rfl 8 (by decide) (hts _ mw_2_75) (fun _ h9 => h9) rfl dX9_put_1 ?_
  refine lv_iload_n hx hb dX9_put_4 rfl (lv_at hl 1 rfl) ?_
  obtain ⟨r_18, hk_19, hf⟩ := pe_1 hf
  refine xv_z (As := [.int x1]) (rest := []) (q0 := 0) (ci := 4) Cx hP hD hS hl (pl_X9_X4 a cyI cyJ v9_refusals v7_rows v7_lengths v7_sizes v7_rests v7_orders v6_hooks v6_lefts v6_heights v1_table v5_known v8_sizes v8_coefficients v8_undoneSums v8_undos v8_nextUndo v8_imageTaken v0_totals v3_letters v3_count v3_next v3_size v4_values v4_lengths v4_values v4_lengths) (c_X4_has l D cyI cyJ G a H.size v4_values v4_lengths x1 r_18 hk_19) pk_X4_has mw_2_144 ⟨rfl, rfl, Nat.le_of_ble_eq_true rfl, Nat.le_of_ble_eq_true rfl⟩ rfl rfl rfl rfl rfl (Nat.le_of_ble_eq_true rfl) ⟨Nat.le_of_ble_eq_true rfl, Nat.le_of_ble_eq_true rfl⟩ dX9_put_5 (fun H locs hn_20 hP hD hS => ?_)
  refine lv_if_ne (tgt := 17) hx hb dX9_put_8 (by decide) (fun hc_21 => ?_) (fun hc_21 => ?_)
  · have hf := pe_f hf hc_21
    refine lv_aload_n hx hb dX9_put_17 rfl (lv_at hl 0 rfl) ?_
    refine va_get (ci := 9) (v := .ref (a 25)) hx hb hts wX9_in hown hK hP 0 rfl rfl 8 (by decide) (hts _ mw_2_75) (fun _ h9 => h9) rfl dX9_put_18 ?_
    refine lv_iload_n hx hb dX9_put_21 rfl (lv_at hl 1 rfl) ?_
    obtain ⟨r_22, hk_23, hf⟩ := pe_1 hf
    refine xv_z (As := [.int x1]) (rest := []) (q0 := 0) (ci := 4) Cx hP hD hS hl (pl_X9_X4 a cyI cyJ v9_refusals v7_rows v7_lengths v7_sizes v7_rests v7_orders v6_hooks v6_lefts v6_heights v1_table v5_known v8_sizes v8_coefficients v8_undoneSums v8_undos v8_nextUndo v8_imageTaken v0_totals v3_letters v3_count v3_next v3_size v4_values v4_lengths v4_values v4_lengths) (c_X4_isMissing l D cyI cyJ G a H.size v4_values v4_lengths x1 r_22 hk_23) pk_X4_isMissing mw_2_148 ⟨rfl, rfl, Nat.le_of_ble_eq_true rfl, Nat.le_of_ble_eq_true rfl⟩ rfl rfl rfl rfl rfl (Nat.le_of_ble_eq_true rfl) ⟨Nat.le_of_ble_eq_true rfl, Nat.le_of_ble_eq_true rfl⟩ dX9_put_22 (fun H locs hn_24 hP hD hS => ?_)
    refine lv_if_eq (tgt := 31) hx hb dX9_put_25 (by decide) (fun hc_25 => ?_) (fun hc_25 => ?_)
    · have hf := pe_t hf hc_25
      refine lv_aload_n hx hb dX9_put_31 rfl (lv_at hl 0 rfl) ?_
      refine va_get (ci := 9) (v := .ref (a 25)) hx hb hts wX9_in hown hK hP 0 rfl rfl 8 (by decide) (hts _ mw_2_75) (fun _ h9 => h9) rfl dX9_put_32 ?_
      refine lv_iload_n hx hb dX9_put_35 rfl (lv_at hl 1 rfl) ?_
      refine lv_iload_n hx hb dX9_put_36 rfl (lv_at hl 2 rfl) ?_
      obtain ⟨r_26, hk_27, hf⟩ := pe_1 hf
      refine xv_z (As := [.int x1, .int x2]) (rest := []) (q0 := 0) (ci := 4) Cx hP hD hS hl (pl_X9_X4 a cyI cyJ v9_refusals v7_rows v7_lengths v7_sizes v7_rests v7_orders v6_hooks v6_lefts v6_heights v1_table v5_known v8_sizes v8_coefficients v8_undoneSums v8_undos v8_nextUndo v8_imageTaken v0_totals v3_letters v3_count v3_next v3_size v4_values v4_lengths v4_values v4_lengths) (c_X4_hasPlace l D cyI cyJ G a H.size v4_values v4_lengths x1 x2 r_26 hk_27) pk_X4_hasPlace mw_4_72 ⟨rfl, rfl, Nat.le_of_ble_eq_true rfl, Nat.le_of_ble_eq_true rfl⟩ rfl rfl rfl rfl rfl (Nat.le_of_ble_eq_true rfl) ⟨Nat.le_of_ble_eq_true rfl, Nat.le_of_ble_eq_true rfl⟩ dX9_put_37 (fun H locs hn_28 hP hD hS => ?_)
      refine lv_if_ne (tgt := 46) hx hb dX9_put_40 (by decide) (fun hc_29 => ?_) (fun hc_29 => ?_)
      · have hf := pe_f hf hc_29
        refine lv_aload_n hx hb dX9_put_46 rfl (lv_at hl 0 rfl) ?_
        refine va_get (ci := 9) (v := .ref (a 25)) hx hb hts wX9_in hown hK hP 0 rfl rfl 8 (by decide) (hts _ mw_2_75) (fun _ h9 => h9) rfl dX9_put_47 ?_
        refine lv_iload_n hx hb dX9_put_50 rfl (lv_at hl 1 rfl) ?_
        refine lv_iload_n hx hb dX9_put_51 rfl (lv_at hl 2 rfl) ?_
        refine lv_iload_n hx hb dX9_put_52 rfl (lv_at hl 3 rfl) ?_
        obtain ⟨v4_values_30, hk_31, hf⟩ := pe_1 hf
        refine xv_v (As := [.int x1, .int x2, .int x3]) (rest := []) (q0 := 0) (ci := 4) Cx hP hD hS hl (pl_X9_X4 a cyI cyJ v9_refusals v7_rows v7_lengths v7_sizes v7_rests v7_orders v6_hooks v6_lefts v6_heights v1_table v5_known v8_sizes v8_coefficients v8_undoneSums v8_undos v8_nextUndo v8_imageTaken v0_totals v3_letters v3_count v3_next v3_size v4_values v4_lengths v4_values_30 v4_lengths) (c_X4_store l D cyI cyJ G a H.size v4_values v4_lengths x1 x2 x3 v4_values_30 hk_31) pk_X4_store mw_4_73 ⟨rfl, rfl, Nat.le_of_ble_eq_true rfl, Nat.le_of_ble_eq_true rfl⟩ rfl rfl rfl rfl rfl (Nat.le_of_ble_eq_true rfl) ⟨Nat.le_of_ble_eq_true rfl, Nat.le_of_ble_eq_true rfl⟩ dX9_put_53 (fun H locs hP hD hS => ?_)
        refine lv_iconst (v := (1 : Int32)) hx hb dX9_put_56 (by decide) ?_
        obtain ⟨rfl, rfl, rfl⟩ := po_3 hf
        rw [← hQ]; exact xe_iret Cx rfl hP hD hS dX9_put_57
      · have hf := pe_t hf hc_29
        refine lv_bipush (v := (-13 : Int32)) hx hb dX9_put_43 (by decide) ?_
        obtain ⟨rfl, rfl, rfl⟩ := po_3 hf
        rw [← hQ]; exact xe_iret Cx rfl hP hD hS dX9_put_45
    · have hf := pe_f hf hc_25
      refine lv_bipush (v := (-11 : Int32)) hx hb dX9_put_28 (by decide) ?_
      obtain ⟨rfl, rfl, rfl⟩ := po_3 hf
      rw [← hQ]; exact xe_iret Cx rfl hP hD hS dX9_put_30
  · have hf := pe_t hf hc_21
    refine lv_aload_n hx hb dX9_put_11 rfl (lv_at hl 0 rfl) ?_
    refine lv_iconst (v := (-1 : Int32)) hx hb dX9_put_12 (by decide) ?_
    obtain ⟨r_32, v9_refusals_33, hk_34, hf⟩ := pe_2 hf
    refine xv_i (As := [.int (-1 : Int32)]) (rest := []) (q0 := 0) (ci := 9) Cx hP hD hS hl (pl_X9_X9 a cyI cyJ v9_refusals v7_rows v7_lengths v7_sizes v7_rests v7_orders v6_hooks v6_lefts v6_heights v1_table v5_known v8_sizes v8_coefficients v8_undoneSums v8_undos v8_nextUndo v8_imageTaken v0_totals v3_letters v3_count v3_next v3_size v4_values v4_lengths v9_refusals_33 v7_rows v7_lengths v7_sizes v7_rests v7_orders v6_hooks v6_lefts v6_heights v1_table v5_known v8_sizes v8_coefficients v8_undoneSums v8_undos v8_nextUndo v8_imageTaken v0_totals v3_letters v3_count v3_next v3_size v4_values v4_lengths) (c_X9_refuse l D cyI cyJ G a H.size v9_refusals v7_rows v7_lengths v7_sizes v7_rests v7_orders v6_hooks v6_lefts v6_heights v1_table v5_known v8_sizes v8_coefficients v8_undoneSums v8_undos v8_nextUndo v8_imageTaken v0_totals v3_letters v3_count v3_next v3_size v4_values v4_lengths (-1 : Int32) r_32 v9_refusals_33 hk_34) pk_X9_refuse mw_2_103 ⟨rfl, rfl, Nat.le_of_ble_eq_true rfl, Nat.le_of_ble_eq_true rfl⟩ rfl rfl rfl rfl rfl (Nat.le_of_ble_eq_true rfl) ⟨Nat.le_of_ble_eq_true rfl, Nat.le_of_ble_eq_true rfl⟩ dX9_put_13 (fun H locs hP hD hS => ?_)
    obtain ⟨rfl, rfl, rfl⟩ := po_3 hf
    rw [← hQ]; exact xe_iret Cx rfl hP hD hS dX9_put_16
def f_X9_look (v9_refusals : Nat → Int32) (v4_values : Nat → Int32) (v4_lengths : Nat → Int32) (x1 : Int32) (x2 : Int32) : Option (Int64 × (Nat → Int32)) := p_b1 (f_X4_has x1) (fun r_1 => if r_1 = 0 then (p_b2 (f_X9_refuseFarLong v9_refusals (-1 : Int32)) (fun r_15 v9_refusals_16 => some (r_15, v9_refusals_16))) else (p_b1 (f_X4_isMissing v4_lengths x1) (fun r_5 => if r_5 = 0 then (p_b1 (f_X4_hasPlace v4_lengths x1 x2) (fun r_9 => if r_9 = 0 then (some ((4000000000000000013 : Int64), v9_refusals)) else (p_b1 (f_X4_at v4_values v4_lengths x1 x2) (fun r_13 => some ((Int32.toInt64 r_13), v9_refusals))))) else (some ((4000000000000000011 : Int64), v9_refusals)))))
set_option maxHeartbeats 4000000 in
set_option maxRecDepth 20000 in
theorem c_X9_look (l : Launch) (D : va_G) (cyI cyJ : ClassId) (G a : Nat → Nat) (sz : Nat) (v9_refusals : Nat → Int32) (v7_rows : Nat → Int32) (v7_lengths : Nat → Int32) (v7_sizes : Nat → Int32) (v7_rests : Nat → Int32) (v7_orders : Nat → Int32) (v6_hooks : Nat → Int32) (v6_lefts : Nat → Int32) (v6_heights : Nat → Int32) (v1_table : Nat → Int32) (v5_known : Nat → Int32) (v8_sizes : Nat → Int32) (v8_coefficients : Nat → Int32) (v8_undoneSums : Nat → Int32) (v8_undos : Int32) (v8_nextUndo : Int32) (v8_imageTaken : Int32) (v0_totals : Nat → Int64) (v3_letters : Nat → Int32) (v3_count : Int32) (v3_next : Int32) (v3_size : Int32) (v4_values : Nat → Int32) (v4_lengths : Nat → Int32) (x1 : Int32) (x2 : Int32) (ro : Int64) (ov9_refusals : Nat → Int32) (hf : f_X9_look v9_refusals v4_values v4_lengths x1 x2 = some (ro, ov9_refusals)) : xm_l l yX9_look (Cond.code yX9_look cX9_look 3 (some .long) :: xg_tbl) { frames := 4, cells := 0, slots := 0, locals := 86 } D xcl [(cyI, .int), (cyJ, .long)] G sz [.ref (a 0), .int x1, .int x2] (wd_X9 a cyI cyJ v9_refusals v7_rows v7_lengths v7_sizes v7_rests v7_orders v6_hooks v6_lefts v6_heights v1_table v5_known v8_sizes v8_coefficients v8_undoneSums v8_undos v8_nextUndo v8_imageTaken v0_totals v3_letters v3_count v3_next v3_size v4_values v4_lengths) (wd_X9 a cyI cyJ ov9_refusals v7_rows v7_lengths v7_sizes v7_rests v7_orders v6_hooks v6_lefts v6_heights v1_table v5_known v8_sizes v8_coefficients v8_undoneSums v8_undos v8_nextUndo v8_imageTaken v0_totals v3_letters v3_count v3_next v3_size v4_values v4_lengths) ro := by
  refine xm_of_l (own := RX9) (by decide) rfl rfl (Nat.le_of_ble_eq_true rfl) ?_
  intro p e s m args below meth c ls Q A hQ hAe hin Cx hsz hP hD hS hl
  have Cx1 := Cx
  obtain ⟨⟨hx, hb, hml, hown, hts⟩, hr, hlocks, hK, hA, hT⟩ := Cx1
  have hl : lv_has ls 3 [(0, .ref (a 0)), (1, .int x1), (2, .int x2)] := hl
  obtain ⟨H, eH⟩ : ∃ H, H = s.heap := ⟨_, rfl⟩
  obtain ⟨locs, eL⟩ : ∃ L : List Loc, L = [] := ⟨_, rfl⟩
  rw [← eH] at hP
  have hS : va_S A s.heap H locs := by rw [eH, eL]; exact hS
  suffices hgo : W p l e { frames := 4, cells := 0, slots := 0, locals := 86 } s m args below meth c H locs 0 0 Q (F0 m 0 ls []) by rw [eH, eL] at hgo; exact hgo
  clear eH eL
  unfold f_X9_look at hf
  refine lv_aload_n hx hb dX9_look_0 rfl (lv_at hl 0 rfl) ?_
  refine va_get (ci := 9) (v := .ref (a 25)) hx hb hts wX9_in hown hK hP 0 rfl rfl 8 (by decide) (hts _ mw_2_75) (fun _ h9 => h9) rfl dX9_look_1 ?_
  refine lv_iload_n hx hb dX9_look_4 rfl (lv_at hl 1 rfl) ?_
  obtain ⟨r_18, hk_19, hf⟩ := pe_1 hf
  refine xv_z (As := [.int x1]) (rest := []) (q0 := 0) (ci := 4) Cx hP hD hS hl (pl_X9_X4 a cyI cyJ v9_refusals v7_rows v7_lengths v7_sizes v7_rests v7_orders v6_hooks v6_lefts v6_heights v1_table v5_known v8_sizes v8_coefficients v8_undoneSums v8_undos v8_nextUndo v8_imageTaken v0_totals v3_letters v3_count v3_next v3_size v4_values v4_lengths v4_values v4_lengths) (c_X4_has l D cyI cyJ G a H.size v4_values v4_lengths x1 r_18 hk_19) pk_X4_has mw_2_144 ⟨rfl, rfl, Nat.le_of_ble_eq_true rfl, Nat.le_of_ble_eq_true rfl⟩ rfl rfl rfl rfl rfl (Nat.le_of_ble_eq_true rfl) ⟨Nat.le_of_ble_eq_true rfl, Nat.le_of_ble_eq_true rfl⟩ dX9_look_5 (fun H locs hn_20 hP hD hS => ?_)
  refine lv_if_ne (tgt := 17) hx hb dX9_look_8 (by decide) (fun hc_21 => ?_) (fun hc_21 => ?_)
  · have hf := pe_f hf hc_21
    refine lv_aload_n hx hb dX9_look_17 rfl (lv_at hl 0 rfl) ?_
    refine va_get (ci := 9) (v := .ref (a 25)) hx hb hts wX9_in hown hK hP 0 rfl rfl 8 (by decide) (hts _ mw_2_75) (fun _ h9 => h9) rfl dX9_look_18 ?_
    refine lv_iload_n hx hb dX9_look_21 rfl (lv_at hl 1 rfl) ?_
    obtain ⟨r_22, hk_23, hf⟩ := pe_1 hf
    refine xv_z (As := [.int x1]) (rest := []) (q0 := 0) (ci := 4) Cx hP hD hS hl (pl_X9_X4 a cyI cyJ v9_refusals v7_rows v7_lengths v7_sizes v7_rests v7_orders v6_hooks v6_lefts v6_heights v1_table v5_known v8_sizes v8_coefficients v8_undoneSums v8_undos v8_nextUndo v8_imageTaken v0_totals v3_letters v3_count v3_next v3_size v4_values v4_lengths v4_values v4_lengths) (c_X4_isMissing l D cyI cyJ G a H.size v4_values v4_lengths x1 r_22 hk_23) pk_X4_isMissing mw_2_148 ⟨rfl, rfl, Nat.le_of_ble_eq_true rfl, Nat.le_of_ble_eq_true rfl⟩ rfl rfl rfl rfl rfl (Nat.le_of_ble_eq_true rfl) ⟨Nat.le_of_ble_eq_true rfl, Nat.le_of_ble_eq_true rfl⟩ dX9_look_22 (fun H locs hn_24 hP hD hS => ?_)
    refine lv_if_eq (tgt := 32) hx hb dX9_look_25 (by decide) (fun hc_25 => ?_) (fun hc_25 => ?_)
    · have hf := pe_t hf hc_25
      refine lv_aload_n hx hb dX9_look_32 rfl (lv_at hl 0 rfl) ?_
      refine va_get (ci := 9) (v := .ref (a 25)) hx hb hts wX9_in hown hK hP 0 rfl rfl 8 (by decide) (hts _ mw_2_75) (fun _ h9 => h9) rfl dX9_look_33 ?_
      refine lv_iload_n hx hb dX9_look_36 rfl (lv_at hl 1 rfl) ?_
      refine lv_iload_n hx hb dX9_look_37 rfl (lv_at hl 2 rfl) ?_
      obtain ⟨r_26, hk_27, hf⟩ := pe_1 hf
      refine xv_z (As := [.int x1, .int x2]) (rest := []) (q0 := 0) (ci := 4) Cx hP hD hS hl (pl_X9_X4 a cyI cyJ v9_refusals v7_rows v7_lengths v7_sizes v7_rests v7_orders v6_hooks v6_lefts v6_heights v1_table v5_known v8_sizes v8_coefficients v8_undoneSums v8_undos v8_nextUndo v8_imageTaken v0_totals v3_letters v3_count v3_next v3_size v4_values v4_lengths v4_values v4_lengths) (c_X4_hasPlace l D cyI cyJ G a H.size v4_values v4_lengths x1 x2 r_26 hk_27) pk_X4_hasPlace mw_4_72 ⟨rfl, rfl, Nat.le_of_ble_eq_true rfl, Nat.le_of_ble_eq_true rfl⟩ rfl rfl rfl rfl rfl (Nat.le_of_ble_eq_true rfl) ⟨Nat.le_of_ble_eq_true rfl, Nat.le_of_ble_eq_true rfl⟩ dX9_look_38 (fun H locs hn_28 hP hD hS => ?_)
      refine lv_if_eq (tgt := 57) hx hb dX9_look_41 (by decide) (fun hc_29 => ?_) (fun hc_29 => ?_)
      · have hf := pe_t hf hc_29
        refine lv_ldc2 (v := (4000000000000000013 : Int64)) hx hb hown (hts _ mw_4_81) dX9_look_57 ?_
        obtain ⟨rfl, rfl⟩ := po_2 hf
        rw [← hQ]; exact xe_lret Cx rfl hP hD hS dX9_look_60
      · have hf := pe_f hf hc_29
        refine lv_aload_n hx hb dX9_look_44 rfl (lv_at hl 0 rfl) ?_
        refine va_get (ci := 9) (v := .ref (a 25)) hx hb hts wX9_in hown hK hP 0 rfl rfl 8 (by decide) (hts _ mw_2_75) (fun _ h9 => h9) rfl dX9_look_45 ?_
        refine lv_iload_n hx hb dX9_look_48 rfl (lv_at hl 1 rfl) ?_
        refine lv_iload_n hx hb dX9_look_49 rfl (lv_at hl 2 rfl) ?_
        obtain ⟨r_30, hk_31, hf⟩ := pe_1 hf
        refine xv_i (As := [.int x1, .int x2]) (rest := []) (q0 := 0) (ci := 4) Cx hP hD hS hl (pl_X9_X4 a cyI cyJ v9_refusals v7_rows v7_lengths v7_sizes v7_rests v7_orders v6_hooks v6_lefts v6_heights v1_table v5_known v8_sizes v8_coefficients v8_undoneSums v8_undos v8_nextUndo v8_imageTaken v0_totals v3_letters v3_count v3_next v3_size v4_values v4_lengths v4_values v4_lengths) (c_X4_at l D cyI cyJ G a H.size v4_values v4_lengths x1 x2 r_30 hk_31) pk_X4_at mw_2_162 ⟨rfl, rfl, Nat.le_of_ble_eq_true rfl, Nat.le_of_ble_eq_true rfl⟩ rfl rfl rfl rfl rfl (Nat.le_of_ble_eq_true rfl) ⟨Nat.le_of_ble_eq_true rfl, Nat.le_of_ble_eq_true rfl⟩ dX9_look_50 (fun H locs hP hD hS => ?_)
        refine lv_i2l (v := Int32.toInt64 r_30) hx hb dX9_look_53 rfl ?_
        refine lv_goto (tgt := 60) hx hb dX9_look_54 (by decide) ?_
        obtain ⟨rfl, rfl⟩ := po_2 hf
        rw [← hQ]; exact xe_lret Cx rfl hP hD hS dX9_look_60
    · have hf := pe_f hf hc_25
      refine lv_ldc2 (v := (4000000000000000011 : Int64)) hx hb hown (hts _ mw_4_46) dX9_look_28 ?_
      obtain ⟨rfl, rfl⟩ := po_2 hf
      rw [← hQ]; exact xe_lret Cx rfl hP hD hS dX9_look_31
  · have hf := pe_t hf hc_21
    refine lv_aload_n hx hb dX9_look_11 rfl (lv_at hl 0 rfl) ?_
    refine lv_iconst (v := (-1 : Int32)) hx hb dX9_look_12 (by decide) ?_
    obtain ⟨r_32, v9_refusals_33, hk_34, hf⟩ := pe_2 hf
    refine xv_l (As := [.int (-1 : Int32)]) (rest := []) (q0 := 0) (ci := 9) Cx hP hD hS hl (pl_X9_X9 a cyI cyJ v9_refusals v7_rows v7_lengths v7_sizes v7_rests v7_orders v6_hooks v6_lefts v6_heights v1_table v5_known v8_sizes v8_coefficients v8_undoneSums v8_undos v8_nextUndo v8_imageTaken v0_totals v3_letters v3_count v3_next v3_size v4_values v4_lengths v9_refusals_33 v7_rows v7_lengths v7_sizes v7_rests v7_orders v6_hooks v6_lefts v6_heights v1_table v5_known v8_sizes v8_coefficients v8_undoneSums v8_undos v8_nextUndo v8_imageTaken v0_totals v3_letters v3_count v3_next v3_size v4_values v4_lengths) (c_X9_refuseFarLong l D cyI cyJ G a H.size v9_refusals v7_rows v7_lengths v7_sizes v7_rests v7_orders v6_hooks v6_lefts v6_heights v1_table v5_known v8_sizes v8_coefficients v8_undoneSums v8_undos v8_nextUndo v8_imageTaken v0_totals v3_letters v3_count v3_next v3_size v4_values v4_lengths (-1 : Int32) r_32 v9_refusals_33 hk_34) pk_X9_refuseFarLong mw_2_223 ⟨rfl, rfl, Nat.le_of_ble_eq_true rfl, Nat.le_of_ble_eq_true rfl⟩ rfl rfl rfl rfl rfl (Nat.le_of_ble_eq_true rfl) ⟨Nat.le_of_ble_eq_true rfl, Nat.le_of_ble_eq_true rfl⟩ dX9_look_13 (fun H locs hP hD hS => ?_)
    obtain ⟨rfl, rfl⟩ := po_2 hf
    rw [← hQ]; exact xe_lret Cx rfl hP hD hS dX9_look_16
def gf_X9_lays_84 (K_84 : (Nat → Int32) → (Nat → Int32) → Int32 → Int32 → Int32 → Int32 → Int32 → Option (Int32 × (Nat → Int32) × (Nat → Int32))) (v7_sizes : Nat → Int32) (v1_table : Nat → Int32) (v4_lengths : Nat → Int32) (v9_refusals : Nat → Int32) (v4_values : Nat → Int32) (y1 : Int32) (y2 : Int32) (y3 : Int32) (y4 : Int32) (y5 : Int32) : Option (Int32 × (Nat → Int32) × (Nat → Int32)) := if y4 ≤ y5 then (some (y4, v9_refusals, v4_values)) else (p_b1 (f_X1_atPlace v1_table y3 y5) (fun r_2 => p_b1 (f_X4_store v4_values v4_lengths y1 (y2 + y5) r_2) (fun v4_values_4 => K_84 v9_refusals v4_values_4 y1 y2 y3 y4 (y5 + (1 : Int32)))))
def f_X9_lays_84 (v7_sizes : Nat → Int32) (v1_table : Nat → Int32) (v4_lengths : Nat → Int32) : Nat → (Nat → Int32) → (Nat → Int32) → Int32 → Int32 → Int32 → Int32 → Int32 → Option (Int32 × (Nat → Int32) × (Nat → Int32))
  | 0 => fun _ _ _ _ _ _ _ => none
  | n + 1 => gf_X9_lays_84 (f_X9_lays_84 v7_sizes v1_table v4_lengths n) v7_sizes v1_table v4_lengths
def f_X9_lays_22 (v7_sizes : Nat → Int32) (v1_table : Nat → Int32) (v4_lengths : Nat → Int32) (v9_refusals : Nat → Int32) (v4_values : Nat → Int32) : Option (Int32 × (Nat → Int32) × (Nat → Int32)) := p_b2 (f_X9_refuse v9_refusals (-1 : Int32)) (fun r_6 v9_refusals_7 => some (r_6, v9_refusals_7, v4_values))
def f_X9_lays (v9_refusals : Nat → Int32) (v7_sizes : Nat → Int32) (v1_table : Nat → Int32) (v4_values : Nat → Int32) (v4_lengths : Nat → Int32) (x1 : Int32) (x2 : Int32) (x3 : Int32) : Option (Int32 × (Nat → Int32) × (Nat → Int32)) := p_b1 (f_X4_has x1) (fun r_9 => if r_9 = 0 then ((f_X9_lays_22 v7_sizes v1_table v4_lengths) v9_refusals v4_values) else (p_b1 (f_X7_has x3) (fun r_13 => if r_13 = 0 then ((f_X9_lays_22 v7_sizes v1_table v4_lengths) v9_refusals v4_values) else (p_b1 (f_X4_isMissing v4_lengths x1) (fun r_17 => if r_17 = 0 then (p_b1 (f_X7_sizeOf v7_sizes x3) (fun r_21 => p_b1 (f_X7_countOf r_21) (fun r_23 => if x2 < 0 then (some ((-13 : Int32), v9_refusals, v4_values)) else (p_b1 (f_X4_lengthOf v4_lengths x1) (fun r_26 => if x2 ≤ (r_26 - r_23) then ((f_X9_lays_84 v7_sizes v1_table v4_lengths 1000) v9_refusals v4_values x1 x2 x3 r_23 (0 : Int32)) else (some ((-13 : Int32), v9_refusals, v4_values))))))) else (some ((-11 : Int32), v9_refusals, v4_values)))))))
set_option maxHeartbeats 4000000 in
set_option maxRecDepth 20000 in
theorem c_X9_lays (l : Launch) (D : va_G) (cyI cyJ : ClassId) (G a : Nat → Nat) (sz : Nat) (v9_refusals : Nat → Int32) (v7_rows : Nat → Int32) (v7_lengths : Nat → Int32) (v7_sizes : Nat → Int32) (v7_rests : Nat → Int32) (v7_orders : Nat → Int32) (v6_hooks : Nat → Int32) (v6_lefts : Nat → Int32) (v6_heights : Nat → Int32) (v1_table : Nat → Int32) (v5_known : Nat → Int32) (v8_sizes : Nat → Int32) (v8_coefficients : Nat → Int32) (v8_undoneSums : Nat → Int32) (v8_undos : Int32) (v8_nextUndo : Int32) (v8_imageTaken : Int32) (v0_totals : Nat → Int64) (v3_letters : Nat → Int32) (v3_count : Int32) (v3_next : Int32) (v3_size : Int32) (v4_values : Nat → Int32) (v4_lengths : Nat → Int32) (x1 : Int32) (x2 : Int32) (x3 : Int32) (ro : Int32) (ov9_refusals : Nat → Int32) (ov4_values : Nat → Int32) (hf : f_X9_lays v9_refusals v7_sizes v1_table v4_values v4_lengths x1 x2 x3 = some (ro, ov9_refusals, ov4_values)) : xm_i l yX9_lays (Cond.code yX9_lays cX9_lays 6 (some .int) :: xg_tbl) { frames := 4, cells := 0, slots := 0, locals := 87 } D xcl [(cyI, .int), (cyJ, .long)] G sz [.ref (a 0), .int x1, .int x2, .int x3] (wd_X9 a cyI cyJ v9_refusals v7_rows v7_lengths v7_sizes v7_rests v7_orders v6_hooks v6_lefts v6_heights v1_table v5_known v8_sizes v8_coefficients v8_undoneSums v8_undos v8_nextUndo v8_imageTaken v0_totals v3_letters v3_count v3_next v3_size v4_values v4_lengths) (wd_X9 a cyI cyJ ov9_refusals v7_rows v7_lengths v7_sizes v7_rests v7_orders v6_hooks v6_lefts v6_heights v1_table v5_known v8_sizes v8_coefficients v8_undoneSums v8_undos v8_nextUndo v8_imageTaken v0_totals v3_letters v3_count v3_next v3_size ov4_values v4_lengths) ro := by
  refine xm_of_i (own := RX9) (by decide) rfl rfl (Nat.le_of_ble_eq_true rfl) ?_
  intro p e s m args below meth c ls Q A hQ hAe hin Cx hsz hP hD hS hl
  have Cx1 := Cx
  obtain ⟨⟨hx, hb, hml, hown, hts⟩, hr, hlocks, hK, hA, hT⟩ := Cx1
  have hl : lv_has ls 6 [(0, .ref (a 0)), (1, .int x1), (2, .int x2), (3, .int x3)] := hl
  obtain ⟨H, eH⟩ : ∃ H, H = s.heap := ⟨_, rfl⟩
  obtain ⟨locs, eL⟩ : ∃ L : List Loc, L = [] := ⟨_, rfl⟩
  rw [← eH] at hP
  have hS : va_S A s.heap H locs := by rw [eH, eL]; exact hS
  suffices hgo : W p l e { frames := 4, cells := 0, slots := 0, locals := 87 } s m args below meth c H locs 0 0 Q (F0 m 0 ls []) by rw [eH, eL] at hgo; exact hgo
  clear eH eL
  unfold f_X9_lays at hf
  have w_84 : ∀ (n_84 : Nat) (v9_refusals : Nat → Int32) (v4_values : Nat → Int32) (y1 : Int32) (y2 : Int32) (y3 : Int32) (y4 : Int32) (y5 : Int32) (H : Heap) (locs : List Loc) (ls : Array Slot), (f_X9_lays_84 v7_sizes v1_table v4_lengths) n_84 v9_refusals v4_values y1 y2 y3 y4 y5 = some (ro, ov9_refusals, ov4_values) → va_P D xcl (wd_X9 a cyI cyJ v9_refusals v7_rows v7_lengths v7_sizes v7_rests v7_orders v6_hooks v6_lefts v6_heights v1_table v5_known v8_sizes v8_coefficients v8_undoneSums v8_undos v8_nextUndo v8_imageTaken v0_totals v3_letters v3_count v3_next v3_size v4_values v4_lengths) H → va_D A (wd_X9 a cyI cyJ v9_refusals v7_rows v7_lengths v7_sizes v7_rests v7_orders v6_hooks v6_lefts v6_heights v1_table v5_known v8_sizes v8_coefficients v8_undoneSums v8_undos v8_nextUndo v8_imageTaken v0_totals v3_letters v3_count v3_next v3_size v4_values v4_lengths) → va_S A s.heap H locs → lv_has ls 6 [(0, .ref (a 0)), (1, .int y1), (2, .int y2), (3, .int y3), (4, .int y4), (5, .int y5)] → W p l e { frames := 4, cells := 0, slots := 0, locals := 87 } s m args below meth c H locs 0 0 Q (F0 m 84 ls []) := by
    intro n_84
    induction n_84 with
    | zero => intro v9_refusals v4_values y1 y2 y3 y4 y5 H locs ls hf; exact absurd hf (by intro h9; cases h9)
    | succ n_84 w_84 =>
      intro v9_refusals v4_values y1 y2 y3 y4 y5 H locs ls hf hP hD hS hl
      have hf : gf_X9_lays_84 ((f_X9_lays_84 v7_sizes v1_table v4_lengths) n_84) v7_sizes v1_table v4_lengths v9_refusals v4_values y1 y2 y3 y4 y5 = some (ro, ov9_refusals, ov4_values) := hf
      unfold gf_X9_lays_84 at hf
      refine lv_iload hx hb dX9_lays_84 (lv_at hl 5 rfl) ?_
      refine lv_iload hx hb dX9_lays_86 (lv_at hl 4 rfl) ?_
      refine lv_icmp_ge (tgt := 119) hx hb dX9_lays_88 (by decide) (fun hc_29 => ?_) (fun hc_29 => ?_)
      · have hf := pe_t hf hc_29
        refine lv_iload hx hb dX9_lays_119 (lv_at hl 4 rfl) ?_
        obtain ⟨rfl, rfl, rfl⟩ := po_3 hf
        rw [← hQ]; exact xe_iret Cx rfl hP hD hS dX9_lays_121
      · have hf := pe_f hf hc_29
        refine lv_aload_n hx hb dX9_lays_91 rfl (lv_at hl 0 rfl) ?_
        refine va_get (ci := 9) (v := .ref (a 25)) hx hb hts wX9_in hown hK hP 0 rfl rfl 8 (by decide) (hts _ mw_2_75) (fun _ h9 => h9) rfl dX9_lays_92 ?_
        refine lv_iload_n hx hb dX9_lays_95 rfl (lv_at hl 1 rfl) ?_
        refine lv_iload_n hx hb dX9_lays_96 rfl (lv_at hl 2 rfl) ?_
        refine lv_iload hx hb dX9_lays_97 (lv_at hl 5 rfl) ?_
        refine lv_iadd hx hb dX9_lays_99 ?_
        refine lv_aload_n hx hb dX9_lays_100 rfl (lv_at hl 0 rfl) ?_
        refine va_get (ci := 9) (v := .ref (a 13)) hx hb hts wX9_in hown hK hP 0 rfl rfl 3 (by decide) (hts _ mw_2_70) (fun _ h9 => h9) rfl dX9_lays_101 ?_
        refine lv_iload_n hx hb dX9_lays_104 rfl (lv_at hl 3 rfl) ?_
        refine lv_iload hx hb dX9_lays_105 (lv_at hl 5 rfl) ?_
        obtain ⟨r_30, hk_31, hf⟩ := pe_1 hf
        refine xv_i (As := [.int y3, .int y5]) (rest := [.int (y2 + y5), .int y1, .ref (a 25)]) (q0 := 0) (ci := 1) Cx hP hD hS hl (pl_X9_X1 a cyI cyJ v9_refusals v7_rows v7_lengths v7_sizes v7_rests v7_orders v6_hooks v6_lefts v6_heights v1_table v5_known v8_sizes v8_coefficients v8_undoneSums v8_undos v8_nextUndo v8_imageTaken v0_totals v3_letters v3_count v3_next v3_size v4_values v4_lengths v1_table v7_rows v7_lengths v7_sizes v7_rests v7_orders) (c_X1_atPlace l D cyI cyJ G a H.size v1_table v7_rows v7_lengths v7_sizes v7_rests v7_orders y3 y5 r_30 hk_31) pk_X1_atPlace mw_4_86 ⟨rfl, rfl, Nat.le_of_ble_eq_true rfl, Nat.le_of_ble_eq_true rfl⟩ rfl rfl rfl rfl rfl (Nat.le_of_ble_eq_true rfl) ⟨Nat.le_of_ble_eq_true rfl, Nat.le_of_ble_eq_true rfl⟩ dX9_lays_107 (fun H locs hP hD hS => ?_)
        obtain ⟨v4_values_32, hk_33, hf⟩ := pe_1 hf
        refine xv_v (As := [.int y1, .int (y2 + y5), .int r_30]) (rest := []) (q0 := 0) (ci := 4) Cx hP hD hS hl (pl_X9_X4 a cyI cyJ v9_refusals v7_rows v7_lengths v7_sizes v7_rests v7_orders v6_hooks v6_lefts v6_heights v1_table v5_known v8_sizes v8_coefficients v8_undoneSums v8_undos v8_nextUndo v8_imageTaken v0_totals v3_letters v3_count v3_next v3_size v4_values v4_lengths v4_values_32 v4_lengths) (c_X4_store l D cyI cyJ G a H.size v4_values v4_lengths y1 (y2 + y5) r_30 v4_values_32 hk_33) pk_X4_store mw_4_73 ⟨rfl, rfl, Nat.le_of_ble_eq_true rfl, Nat.le_of_ble_eq_true rfl⟩ rfl rfl rfl rfl rfl (Nat.le_of_ble_eq_true rfl) ⟨Nat.le_of_ble_eq_true rfl, Nat.le_of_ble_eq_true rfl⟩ dX9_lays_110 (fun H locs hP hD hS => ?_)
        refine lv_iinc (v := (y5 + (1 : Int32))) (lv' := [(5, .int (y5 + (1 : Int32))), (0, .ref (a 0)), (1, .int y1), (2, .int y2), (3, .int y3), (4, .int y4)]) hx hb dX9_lays_113 hl (k := 5) rfl rfl (by decide) rfl (fun ls hl => ?_)
        refine lv_goto (tgt := 84) hx hb dX9_lays_116 (by decide) ?_
        exact w_84 v9_refusals v4_values_32 y1 y2 y3 y4 (y5 + (1 : Int32)) H locs ls hf hP hD hS (lv_sub hl [1, 2, 3, 4, 5, 0] rfl)
  have w_22 : ∀ (v9_refusals : Nat → Int32) (v4_values : Nat → Int32) (H : Heap) (locs : List Loc) (ls : Array Slot), (f_X9_lays_22 v7_sizes v1_table v4_lengths) v9_refusals v4_values = some (ro, ov9_refusals, ov4_values) → va_P D xcl (wd_X9 a cyI cyJ v9_refusals v7_rows v7_lengths v7_sizes v7_rests v7_orders v6_hooks v6_lefts v6_heights v1_table v5_known v8_sizes v8_coefficients v8_undoneSums v8_undos v8_nextUndo v8_imageTaken v0_totals v3_letters v3_count v3_next v3_size v4_values v4_lengths) H → va_D A (wd_X9 a cyI cyJ v9_refusals v7_rows v7_lengths v7_sizes v7_rests v7_orders v6_hooks v6_lefts v6_heights v1_table v5_known v8_sizes v8_coefficients v8_undoneSums v8_undos v8_nextUndo v8_imageTaken v0_totals v3_letters v3_count v3_next v3_size v4_values v4_lengths) → va_S A s.heap H locs → lv_has ls 6 [(0, .ref (a 0))] → W p l e { frames := 4, cells := 0, slots := 0, locals := 87 } s m args below meth c H locs 0 0 Q (F0 m 22 ls []) := by
    intro v9_refusals v4_values H locs ls hf hP hD hS hl
    unfold f_X9_lays_22 at hf
    refine lv_aload_n hx hb dX9_lays_22 rfl (lv_at hl 0 rfl) ?_
    refine lv_iconst (v := (-1 : Int32)) hx hb dX9_lays_23 (by decide) ?_
    obtain ⟨r_34, v9_refusals_35, hk_36, hf⟩ := pe_2 hf
    refine xv_i (As := [.int (-1 : Int32)]) (rest := []) (q0 := 0) (ci := 9) Cx hP hD hS hl (pl_X9_X9 a cyI cyJ v9_refusals v7_rows v7_lengths v7_sizes v7_rests v7_orders v6_hooks v6_lefts v6_heights v1_table v5_known v8_sizes v8_coefficients v8_undoneSums v8_undos v8_nextUndo v8_imageTaken v0_totals v3_letters v3_count v3_next v3_size v4_values v4_lengths v9_refusals_35 v7_rows v7_lengths v7_sizes v7_rests v7_orders v6_hooks v6_lefts v6_heights v1_table v5_known v8_sizes v8_coefficients v8_undoneSums v8_undos v8_nextUndo v8_imageTaken v0_totals v3_letters v3_count v3_next v3_size v4_values v4_lengths) (c_X9_refuse l D cyI cyJ G a H.size v9_refusals v7_rows v7_lengths v7_sizes v7_rests v7_orders v6_hooks v6_lefts v6_heights v1_table v5_known v8_sizes v8_coefficients v8_undoneSums v8_undos v8_nextUndo v8_imageTaken v0_totals v3_letters v3_count v3_next v3_size v4_values v4_lengths (-1 : Int32) r_34 v9_refusals_35 hk_36) pk_X9_refuse mw_2_103 ⟨rfl, rfl, Nat.le_of_ble_eq_true rfl, Nat.le_of_ble_eq_true rfl⟩ rfl rfl rfl rfl rfl (Nat.le_of_ble_eq_true rfl) ⟨Nat.le_of_ble_eq_true rfl, Nat.le_of_ble_eq_true rfl⟩ dX9_lays_24 (fun H locs hP hD hS => ?_)
    obtain ⟨rfl, rfl, rfl⟩ := po_3 hf
    rw [← hQ]; exact xe_iret Cx rfl hP hD hS dX9_lays_27
  refine lv_aload_n hx hb dX9_lays_0 rfl (lv_at hl 0 rfl) ?_
  refine va_get (ci := 9) (v := .ref (a 25)) hx hb hts wX9_in hown hK hP 0 rfl rfl 8 (by decide) (hts _ mw_2_75) (fun _ h9 => h9) rfl dX9_lays_1 ?_
  refine lv_iload_n hx hb dX9_lays_4 rfl (lv_at hl 1 rfl) ?_
  obtain ⟨r_37, hk_38, hf⟩ := pe_1 hf
  refine xv_z (As := [.int x1]) (rest := []) (q0 := 0) (ci := 4) Cx hP hD hS hl (pl_X9_X4 a cyI cyJ v9_refusals v7_rows v7_lengths v7_sizes v7_rests v7_orders v6_hooks v6_lefts v6_heights v1_table v5_known v8_sizes v8_coefficients v8_undoneSums v8_undos v8_nextUndo v8_imageTaken v0_totals v3_letters v3_count v3_next v3_size v4_values v4_lengths v4_values v4_lengths) (c_X4_has l D cyI cyJ G a H.size v4_values v4_lengths x1 r_37 hk_38) pk_X4_has mw_2_144 ⟨rfl, rfl, Nat.le_of_ble_eq_true rfl, Nat.le_of_ble_eq_true rfl⟩ rfl rfl rfl rfl rfl (Nat.le_of_ble_eq_true rfl) ⟨Nat.le_of_ble_eq_true rfl, Nat.le_of_ble_eq_true rfl⟩ dX9_lays_5 (fun H locs hn_39 hP hD hS => ?_)
  refine lv_if_eq (tgt := 22) hx hb dX9_lays_8 (by decide) (fun hc_40 => ?_) (fun hc_40 => ?_)
  · have hf := pe_t hf hc_40
    exact w_22 v9_refusals v4_values H locs ls hf hP hD hS (lv_sub hl [0] rfl)
  · have hf := pe_f hf hc_40
    refine lv_aload_n hx hb dX9_lays_11 rfl (lv_at hl 0 rfl) ?_
    refine va_get (ci := 9) (v := .ref (a 2)) hx hb hts wX9_in hown hK hP 0 rfl rfl 0 (by decide) (hts _ mw_2_67) (fun _ h9 => h9) rfl dX9_lays_12 ?_
    refine lv_iload_n hx hb dX9_lays_15 rfl (lv_at hl 3 rfl) ?_
    obtain ⟨r_41, hk_42, hf⟩ := pe_1 hf
    refine xv_z (As := [.int x3]) (rest := []) (q0 := 0) (ci := 7) Cx hP hD hS hl (pl_X9_X7 a cyI cyJ v9_refusals v7_rows v7_lengths v7_sizes v7_rests v7_orders v6_hooks v6_lefts v6_heights v1_table v5_known v8_sizes v8_coefficients v8_undoneSums v8_undos v8_nextUndo v8_imageTaken v0_totals v3_letters v3_count v3_next v3_size v4_values v4_lengths v7_rows v7_lengths v7_sizes v7_rests v7_orders) (c_X7_has l D cyI cyJ G a H.size v7_rows v7_lengths v7_sizes v7_rests v7_orders x3 r_41 hk_42) pk_X7_has mw_2_102 ⟨rfl, rfl, Nat.le_of_ble_eq_true rfl, Nat.le_of_ble_eq_true rfl⟩ rfl rfl rfl rfl rfl (Nat.le_of_ble_eq_true rfl) ⟨Nat.le_of_ble_eq_true rfl, Nat.le_of_ble_eq_true rfl⟩ dX9_lays_16 (fun H locs hn_43 hP hD hS => ?_)
    refine lv_if_ne (tgt := 28) hx hb dX9_lays_19 (by decide) (fun hc_44 => ?_) (fun hc_44 => ?_)
    · have hf := pe_f hf hc_44
      refine lv_aload_n hx hb dX9_lays_28 rfl (lv_at hl 0 rfl) ?_
      refine va_get (ci := 9) (v := .ref (a 25)) hx hb hts wX9_in hown hK hP 0 rfl rfl 8 (by decide) (hts _ mw_2_75) (fun _ h9 => h9) rfl dX9_lays_29 ?_
      refine lv_iload_n hx hb dX9_lays_32 rfl (lv_at hl 1 rfl) ?_
      obtain ⟨r_45, hk_46, hf⟩ := pe_1 hf
      refine xv_z (As := [.int x1]) (rest := []) (q0 := 0) (ci := 4) Cx hP hD hS hl (pl_X9_X4 a cyI cyJ v9_refusals v7_rows v7_lengths v7_sizes v7_rests v7_orders v6_hooks v6_lefts v6_heights v1_table v5_known v8_sizes v8_coefficients v8_undoneSums v8_undos v8_nextUndo v8_imageTaken v0_totals v3_letters v3_count v3_next v3_size v4_values v4_lengths v4_values v4_lengths) (c_X4_isMissing l D cyI cyJ G a H.size v4_values v4_lengths x1 r_45 hk_46) pk_X4_isMissing mw_2_148 ⟨rfl, rfl, Nat.le_of_ble_eq_true rfl, Nat.le_of_ble_eq_true rfl⟩ rfl rfl rfl rfl rfl (Nat.le_of_ble_eq_true rfl) ⟨Nat.le_of_ble_eq_true rfl, Nat.le_of_ble_eq_true rfl⟩ dX9_lays_33 (fun H locs hn_47 hP hD hS => ?_)
      refine lv_if_eq (tgt := 42) hx hb dX9_lays_36 (by decide) (fun hc_48 => ?_) (fun hc_48 => ?_)
      · have hf := pe_t hf hc_48
        refine lv_aload_n hx hb dX9_lays_42 rfl (lv_at hl 0 rfl) ?_
        refine va_get (ci := 9) (v := .ref (a 2)) hx hb hts wX9_in hown hK hP 0 rfl rfl 0 (by decide) (hts _ mw_2_67) (fun _ h9 => h9) rfl dX9_lays_43 ?_
        refine lv_aload_n hx hb dX9_lays_46 rfl (lv_at hl 0 rfl) ?_
        refine va_get (ci := 9) (v := .ref (a 2)) hx hb hts wX9_in hown hK hP 0 rfl rfl 0 (by decide) (hts _ mw_2_67) (fun _ h9 => h9) rfl dX9_lays_47 ?_
        refine lv_iload_n hx hb dX9_lays_50 rfl (lv_at hl 3 rfl) ?_
        obtain ⟨r_49, hk_50, hf⟩ := pe_1 hf
        refine xv_i (As := [.int x3]) (rest := [.ref (a 2)]) (q0 := 0) (ci := 7) Cx hP hD hS hl (pl_X9_X7 a cyI cyJ v9_refusals v7_rows v7_lengths v7_sizes v7_rests v7_orders v6_hooks v6_lefts v6_heights v1_table v5_known v8_sizes v8_coefficients v8_undoneSums v8_undos v8_nextUndo v8_imageTaken v0_totals v3_letters v3_count v3_next v3_size v4_values v4_lengths v7_rows v7_lengths v7_sizes v7_rests v7_orders) (c_X7_sizeOf l D cyI cyJ G a H.size v7_rows v7_lengths v7_sizes v7_rests v7_orders x3 r_49 hk_50) pk_X7_sizeOf mw_2_108 ⟨rfl, rfl, Nat.le_of_ble_eq_true rfl, Nat.le_of_ble_eq_true rfl⟩ rfl rfl rfl rfl rfl (Nat.le_of_ble_eq_true rfl) ⟨Nat.le_of_ble_eq_true rfl, Nat.le_of_ble_eq_true rfl⟩ dX9_lays_51 (fun H locs hP hD hS => ?_)
        obtain ⟨r_51, hk_52, hf⟩ := pe_1 hf
        refine xv_i (As := [.int r_49]) (rest := []) (q0 := 0) (ci := 7) Cx hP hD hS hl (pl_X9_X7 a cyI cyJ v9_refusals v7_rows v7_lengths v7_sizes v7_rests v7_orders v6_hooks v6_lefts v6_heights v1_table v5_known v8_sizes v8_coefficients v8_undoneSums v8_undos v8_nextUndo v8_imageTaken v0_totals v3_letters v3_count v3_next v3_size v4_values v4_lengths v7_rows v7_lengths v7_sizes v7_rests v7_orders) (c_X7_countOf l D cyI cyJ G a H.size v7_rows v7_lengths v7_sizes v7_rests v7_orders r_49 r_51 hk_52) pk_X7_countOf mw_2_177 ⟨rfl, rfl, Nat.le_of_ble_eq_true rfl, Nat.le_of_ble_eq_true rfl⟩ rfl rfl rfl rfl rfl (Nat.le_of_ble_eq_true rfl) ⟨Nat.le_of_ble_eq_true rfl, Nat.le_of_ble_eq_true rfl⟩ dX9_lays_54 (fun H locs hP hD hS => ?_)
        refine lv_istore (lv' := [(4, .int r_51), (0, .ref (a 0)), (1, .int x1), (2, .int x2), (3, .int x3)]) hx hb dX9_lays_57 hl (by decide) rfl (fun ls hl => ?_)
        refine lv_iload_n hx hb dX9_lays_59 rfl (lv_at hl 3 rfl) ?_
        refine lv_if_lt (tgt := 78) hx hb dX9_lays_60 (by decide) (fun hc_53 => ?_) (fun hc_53 => ?_)
        · have hf := pe_t hf hc_53
          refine lv_bipush (v := (-13 : Int32)) hx hb dX9_lays_78 (by decide) ?_
          obtain ⟨rfl, rfl, rfl⟩ := po_3 hf
          rw [← hQ]; exact xe_iret Cx rfl hP hD hS dX9_lays_80
        · have hf := pe_f hf hc_53
          refine lv_iload_n hx hb dX9_lays_63 rfl (lv_at hl 3 rfl) ?_
          refine lv_aload_n hx hb dX9_lays_64 rfl (lv_at hl 1 rfl) ?_
          refine va_get (ci := 9) (v := .ref (a 25)) hx hb hts wX9_in hown hK hP 0 rfl rfl 8 (by decide) (hts _ mw_2_75) (fun _ h9 => h9) rfl dX9_lays_65 ?_
          refine lv_iload_n hx hb dX9_lays_68 rfl (lv_at hl 2 rfl) ?_
          obtain ⟨r_54, hk_55, hf⟩ := pe_1 hf
          refine xv_i (As := [.int x1]) (rest := [.int x2]) (q0 := 0) (ci := 4) Cx hP hD hS hl (pl_X9_X4 a cyI cyJ v9_refusals v7_rows v7_lengths v7_sizes v7_rests v7_orders v6_hooks v6_lefts v6_heights v1_table v5_known v8_sizes v8_coefficients v8_undoneSums v8_undos v8_nextUndo v8_imageTaken v0_totals v3_letters v3_count v3_next v3_size v4_values v4_lengths v4_values v4_lengths) (c_X4_lengthOf l D cyI cyJ G a H.size v4_values v4_lengths x1 r_54 hk_55) pk_X4_lengthOf mw_2_161 ⟨rfl, rfl, Nat.le_of_ble_eq_true rfl, Nat.le_of_ble_eq_true rfl⟩ rfl rfl rfl rfl rfl (Nat.le_of_ble_eq_true rfl) ⟨Nat.le_of_ble_eq_true rfl, Nat.le_of_ble_eq_true rfl⟩ dX9_lays_69 (fun H locs hP hD hS => ?_)
          refine lv_iload hx hb dX9_lays_72 (lv_at hl 0 rfl) ?_
          refine lv_isub hx hb dX9_lays_74 ?_
          refine lv_icmp_le (tgt := 81) hx hb dX9_lays_75 (by decide) (fun hc_56 => ?_) (fun hc_56 => ?_)
          · have hf := pe_t hf hc_56
            refine lv_iconst (v := (0 : Int32)) hx hb dX9_lays_81 (by decide) ?_
            refine lv_istore (lv' := [(5, .int (0 : Int32)), (4, .int r_51), (0, .ref (a 0)), (1, .int x1), (2, .int x2), (3, .int x3)]) hx hb dX9_lays_82 hl (by decide) rfl (fun ls hl => ?_)
            exact w_84 1000 v9_refusals v4_values x1 x2 x3 r_51 (0 : Int32) H locs ls hf hP hD hS (lv_sub hl [2, 3, 4, 5, 1, 0] rfl)
          · have hf := pe_f hf hc_56
            refine lv_bipush (v := (-13 : Int32)) hx hb dX9_lays_78 (by decide) ?_
            obtain ⟨rfl, rfl, rfl⟩ := po_3 hf
            rw [← hQ]; exact xe_iret Cx rfl hP hD hS dX9_lays_80
      · have hf := pe_f hf hc_48
        refine lv_bipush (v := (-11 : Int32)) hx hb dX9_lays_39 (by decide) ?_
        obtain ⟨rfl, rfl, rfl⟩ := po_3 hf
        rw [← hQ]; exact xe_iret Cx rfl hP hD hS dX9_lays_41
    · have hf := pe_t hf hc_44
      exact w_22 v9_refusals v4_values H locs ls hf hP hD hS (lv_sub hl [0] rfl)
def gf_X9_firstOtherwise_19 (K_19 : Int32 → Int32 → Int32 → Int32 → Option (Int32)) (v7_sizes : Nat → Int32) (v1_table : Nat → Int32) (v4_values : Nat → Int32) (v4_lengths : Nat → Int32) (y1 : Int32) (y2 : Int32) (y3 : Int32) (y4 : Int32) : Option (Int32) := p_b1 (f_X4_lengthOf v4_lengths y1) (fun r_1 => if r_1 ≤ y4 then (some ((-9 : Int32))) else (if y3 ≤ y4 then (some (y4)) else (p_b1 (f_X4_at v4_values v4_lengths y1 y4) (fun r_5 => p_b1 (f_X1_atPlace v1_table y2 y4) (fun r_7 => if r_5 = r_7 then (K_19 y1 y2 y3 (y4 + (1 : Int32))) else (some (y4)))))))
def f_X9_firstOtherwise_19 (v7_sizes : Nat → Int32) (v1_table : Nat → Int32) (v4_values : Nat → Int32) (v4_lengths : Nat → Int32) : Nat → Int32 → Int32 → Int32 → Int32 → Option (Int32)
  | 0 => fun _ _ _ _ => none
  | n + 1 => gf_X9_firstOtherwise_19 (f_X9_firstOtherwise_19 v7_sizes v1_table v4_values v4_lengths n) v7_sizes v1_table v4_values v4_lengths
def f_X9_firstOtherwise (v7_sizes : Nat → Int32) (v1_table : Nat → Int32) (v4_values : Nat → Int32) (v4_lengths : Nat → Int32) (x1 : Int32) (x2 : Int32) : Option (Int32) := p_b1 (f_X7_sizeOf v7_sizes x2) (fun r_10 => p_b1 (f_X7_countOf r_10) (fun r_12 => (f_X9_firstOtherwise_19 v7_sizes v1_table v4_values v4_lengths 1000) x1 x2 r_12 (0 : Int32)))
set_option maxHeartbeats 4000000 in
set_option maxRecDepth 20000 in
theorem c_X9_firstOtherwise (l : Launch) (D : va_G) (cyI cyJ : ClassId) (G a : Nat → Nat) (sz : Nat) (v9_refusals : Nat → Int32) (v7_rows : Nat → Int32) (v7_lengths : Nat → Int32) (v7_sizes : Nat → Int32) (v7_rests : Nat → Int32) (v7_orders : Nat → Int32) (v6_hooks : Nat → Int32) (v6_lefts : Nat → Int32) (v6_heights : Nat → Int32) (v1_table : Nat → Int32) (v5_known : Nat → Int32) (v8_sizes : Nat → Int32) (v8_coefficients : Nat → Int32) (v8_undoneSums : Nat → Int32) (v8_undos : Int32) (v8_nextUndo : Int32) (v8_imageTaken : Int32) (v0_totals : Nat → Int64) (v3_letters : Nat → Int32) (v3_count : Int32) (v3_next : Int32) (v3_size : Int32) (v4_values : Nat → Int32) (v4_lengths : Nat → Int32) (x1 : Int32) (x2 : Int32) (ro : Int32) (hf : f_X9_firstOtherwise v7_sizes v1_table v4_values v4_lengths x1 x2 = some ro) : xm_i l yX9_firstOtherwise (Cond.code yX9_firstOtherwise cX9_firstOtherwise 5 (some .int) :: xg_tbl) { frames := 4, cells := 0, slots := 0, locals := 86 } D xcl [(cyI, .int), (cyJ, .long)] G sz [.ref (a 0), .int x1, .int x2] (wd_X9 a cyI cyJ v9_refusals v7_rows v7_lengths v7_sizes v7_rests v7_orders v6_hooks v6_lefts v6_heights v1_table v5_known v8_sizes v8_coefficients v8_undoneSums v8_undos v8_nextUndo v8_imageTaken v0_totals v3_letters v3_count v3_next v3_size v4_values v4_lengths) (wd_X9 a cyI cyJ v9_refusals v7_rows v7_lengths v7_sizes v7_rests v7_orders v6_hooks v6_lefts v6_heights v1_table v5_known v8_sizes v8_coefficients v8_undoneSums v8_undos v8_nextUndo v8_imageTaken v0_totals v3_letters v3_count v3_next v3_size v4_values v4_lengths) ro := by
  refine xm_of_i (own := RX9) (by decide) rfl rfl (Nat.le_of_ble_eq_true rfl) ?_
  intro p e s m args below meth c ls Q A hQ hAe hin Cx hsz hP hD hS hl
  have Cx1 := Cx
  obtain ⟨⟨hx, hb, hml, hown, hts⟩, hr, hlocks, hK, hA, hT⟩ := Cx1
  have hl : lv_has ls 5 [(0, .ref (a 0)), (1, .int x1), (2, .int x2)] := hl
  obtain ⟨H, eH⟩ : ∃ H, H = s.heap := ⟨_, rfl⟩
  obtain ⟨locs, eL⟩ : ∃ L : List Loc, L = [] := ⟨_, rfl⟩
  rw [← eH] at hP
  have hS : va_S A s.heap H locs := by rw [eH, eL]; exact hS
  suffices hgo : W p l e { frames := 4, cells := 0, slots := 0, locals := 86 } s m args below meth c H locs 0 0 Q (F0 m 0 ls []) by rw [eH, eL] at hgo; exact hgo
  clear eH eL
  unfold f_X9_firstOtherwise at hf
  have w_19 : ∀ (n_19 : Nat) (y1 : Int32) (y2 : Int32) (y3 : Int32) (y4 : Int32) (H : Heap) (locs : List Loc) (ls : Array Slot), (f_X9_firstOtherwise_19 v7_sizes v1_table v4_values v4_lengths) n_19 y1 y2 y3 y4 = some ro → va_P D xcl (wd_X9 a cyI cyJ v9_refusals v7_rows v7_lengths v7_sizes v7_rests v7_orders v6_hooks v6_lefts v6_heights v1_table v5_known v8_sizes v8_coefficients v8_undoneSums v8_undos v8_nextUndo v8_imageTaken v0_totals v3_letters v3_count v3_next v3_size v4_values v4_lengths) H → va_D A (wd_X9 a cyI cyJ v9_refusals v7_rows v7_lengths v7_sizes v7_rests v7_orders v6_hooks v6_lefts v6_heights v1_table v5_known v8_sizes v8_coefficients v8_undoneSums v8_undos v8_nextUndo v8_imageTaken v0_totals v3_letters v3_count v3_next v3_size v4_values v4_lengths) → va_S A s.heap H locs → lv_has ls 5 [(0, .ref (a 0)), (1, .int y1), (2, .int y2), (3, .int y3), (4, .int y4)] → W p l e { frames := 4, cells := 0, slots := 0, locals := 86 } s m args below meth c H locs 0 0 Q (F0 m 19 ls []) := by
    intro n_19
    induction n_19 with
    | zero => intro y1 y2 y3 y4 H locs ls hf; exact absurd hf (by intro h9; cases h9)
    | succ n_19 w_19 =>
      intro y1 y2 y3 y4 H locs ls hf hP hD hS hl
      have hf : gf_X9_firstOtherwise_19 ((f_X9_firstOtherwise_19 v7_sizes v1_table v4_values v4_lengths) n_19) v7_sizes v1_table v4_values v4_lengths y1 y2 y3 y4 = some ro := hf
      unfold gf_X9_firstOtherwise_19 at hf
      refine lv_iload hx hb dX9_firstOtherwise_19 (lv_at hl 4 rfl) ?_
      refine lv_aload_n hx hb dX9_firstOtherwise_21 rfl (lv_at hl 0 rfl) ?_
      refine va_get (ci := 9) (v := .ref (a 25)) hx hb hts wX9_in hown hK hP 0 rfl rfl 8 (by decide) (hts _ mw_2_75) (fun _ h9 => h9) rfl dX9_firstOtherwise_22 ?_
      refine lv_iload_n hx hb dX9_firstOtherwise_25 rfl (lv_at hl 1 rfl) ?_
      obtain ⟨r_14, hk_15, hf⟩ := pe_1 hf
      refine xv_i (As := [.int y1]) (rest := [.int y4]) (q0 := 0) (ci := 4) Cx hP hD hS hl (pl_X9_X4 a cyI cyJ v9_refusals v7_rows v7_lengths v7_sizes v7_rests v7_orders v6_hooks v6_lefts v6_heights v1_table v5_known v8_sizes v8_coefficients v8_undoneSums v8_undos v8_nextUndo v8_imageTaken v0_totals v3_letters v3_count v3_next v3_size v4_values v4_lengths v4_values v4_lengths) (c_X4_lengthOf l D cyI cyJ G a H.size v4_values v4_lengths y1 r_14 hk_15) pk_X4_lengthOf mw_2_161 ⟨rfl, rfl, Nat.le_of_ble_eq_true rfl, Nat.le_of_ble_eq_true rfl⟩ rfl rfl rfl rfl rfl (Nat.le_of_ble_eq_true rfl) ⟨Nat.le_of_ble_eq_true rfl, Nat.le_of_ble_eq_true rfl⟩ dX9_firstOtherwise_26 (fun H locs hP hD hS => ?_)
      refine lv_icmp_ge (tgt := 70) hx hb dX9_firstOtherwise_29 (by decide) (fun hc_16 => ?_) (fun hc_16 => ?_)
      · have hf := pe_t hf hc_16
        refine lv_bipush (v := (-9 : Int32)) hx hb dX9_firstOtherwise_70 (by decide) ?_
        obtain rfl := po_1 hf
        rw [← hQ]; exact xe_iret Cx rfl hP hD hS dX9_firstOtherwise_72
      · have hf := pe_f hf hc_16
        refine lv_iload hx hb dX9_firstOtherwise_32 (lv_at hl 4 rfl) ?_
        refine lv_iload_n hx hb dX9_firstOtherwise_34 rfl (lv_at hl 3 rfl) ?_
        refine lv_icmp_ge (tgt := 61) hx hb dX9_firstOtherwise_35 (by decide) (fun hc_17 => ?_) (fun hc_17 => ?_)
        · have hf := pe_t hf hc_17
          refine lv_iload hx hb dX9_firstOtherwise_61 (lv_at hl 4 rfl) ?_
          obtain rfl := po_1 hf
          rw [← hQ]; exact xe_iret Cx rfl hP hD hS dX9_firstOtherwise_63
        · have hf := pe_f hf hc_17
          refine lv_aload_n hx hb dX9_firstOtherwise_38 rfl (lv_at hl 0 rfl) ?_
          refine va_get (ci := 9) (v := .ref (a 25)) hx hb hts wX9_in hown hK hP 0 rfl rfl 8 (by decide) (hts _ mw_2_75) (fun _ h9 => h9) rfl dX9_firstOtherwise_39 ?_
          refine lv_iload_n hx hb dX9_firstOtherwise_42 rfl (lv_at hl 1 rfl) ?_
          refine lv_iload hx hb dX9_firstOtherwise_43 (lv_at hl 4 rfl) ?_
          obtain ⟨r_18, hk_19, hf⟩ := pe_1 hf
          refine xv_i (As := [.int y1, .int y4]) (rest := []) (q0 := 0) (ci := 4) Cx hP hD hS hl (pl_X9_X4 a cyI cyJ v9_refusals v7_rows v7_lengths v7_sizes v7_rests v7_orders v6_hooks v6_lefts v6_heights v1_table v5_known v8_sizes v8_coefficients v8_undoneSums v8_undos v8_nextUndo v8_imageTaken v0_totals v3_letters v3_count v3_next v3_size v4_values v4_lengths v4_values v4_lengths) (c_X4_at l D cyI cyJ G a H.size v4_values v4_lengths y1 y4 r_18 hk_19) pk_X4_at mw_2_162 ⟨rfl, rfl, Nat.le_of_ble_eq_true rfl, Nat.le_of_ble_eq_true rfl⟩ rfl rfl rfl rfl rfl (Nat.le_of_ble_eq_true rfl) ⟨Nat.le_of_ble_eq_true rfl, Nat.le_of_ble_eq_true rfl⟩ dX9_firstOtherwise_45 (fun H locs hP hD hS => ?_)
          refine lv_aload_n hx hb dX9_firstOtherwise_48 rfl (lv_at hl 0 rfl) ?_
          refine va_get (ci := 9) (v := .ref (a 13)) hx hb hts wX9_in hown hK hP 0 rfl rfl 3 (by decide) (hts _ mw_2_70) (fun _ h9 => h9) rfl dX9_firstOtherwise_49 ?_
          refine lv_iload_n hx hb dX9_firstOtherwise_52 rfl (lv_at hl 2 rfl) ?_
          refine lv_iload hx hb dX9_firstOtherwise_53 (lv_at hl 4 rfl) ?_
          obtain ⟨r_20, hk_21, hf⟩ := pe_1 hf
          refine xv_i (As := [.int y2, .int y4]) (rest := [.int r_18]) (q0 := 0) (ci := 1) Cx hP hD hS hl (pl_X9_X1 a cyI cyJ v9_refusals v7_rows v7_lengths v7_sizes v7_rests v7_orders v6_hooks v6_lefts v6_heights v1_table v5_known v8_sizes v8_coefficients v8_undoneSums v8_undos v8_nextUndo v8_imageTaken v0_totals v3_letters v3_count v3_next v3_size v4_values v4_lengths v1_table v7_rows v7_lengths v7_sizes v7_rests v7_orders) (c_X1_atPlace l D cyI cyJ G a H.size v1_table v7_rows v7_lengths v7_sizes v7_rests v7_orders y2 y4 r_20 hk_21) pk_X1_atPlace mw_4_86 ⟨rfl, rfl, Nat.le_of_ble_eq_true rfl, Nat.le_of_ble_eq_true rfl⟩ rfl rfl rfl rfl rfl (Nat.le_of_ble_eq_true rfl) ⟨Nat.le_of_ble_eq_true rfl, Nat.le_of_ble_eq_true rfl⟩ dX9_firstOtherwise_55 (fun H locs hP hD hS => ?_)
          refine lv_icmp_eq (tgt := 64) hx hb dX9_firstOtherwise_58 (by decide) (fun hc_22 => ?_) (fun hc_22 => ?_)
          · have hf := pe_t hf hc_22
            refine lv_iinc (v := (y4 + (1 : Int32))) (lv' := [(4, .int (y4 + (1 : Int32))), (0, .ref (a 0)), (1, .int y1), (2, .int y2), (3, .int y3)]) hx hb dX9_firstOtherwise_64 hl (k := 4) rfl rfl (by decide) rfl (fun ls hl => ?_)
            refine lv_goto (tgt := 19) hx hb dX9_firstOtherwise_67 (by decide) ?_
            exact w_19 y1 y2 y3 (y4 + (1 : Int32)) H locs ls hf hP hD hS (lv_sub hl [1, 2, 3, 4, 0] rfl)
          · have hf := pe_f hf hc_22
            refine lv_iload hx hb dX9_firstOtherwise_61 (lv_at hl 4 rfl) ?_
            obtain rfl := po_1 hf
            rw [← hQ]; exact xe_iret Cx rfl hP hD hS dX9_firstOtherwise_63
  refine lv_aload_n hx hb dX9_firstOtherwise_0 rfl (lv_at hl 0 rfl) ?_
  refine va_get (ci := 9) (v := .ref (a 2)) hx hb hts wX9_in hown hK hP 0 rfl rfl 0 (by decide) (hts _ mw_2_67) (fun _ h9 => h9) rfl dX9_firstOtherwise_1 ?_
  refine lv_aload_n hx hb dX9_firstOtherwise_4 rfl (lv_at hl 0 rfl) ?_
  refine va_get (ci := 9) (v := .ref (a 2)) hx hb hts wX9_in hown hK hP 0 rfl rfl 0 (by decide) (hts _ mw_2_67) (fun _ h9 => h9) rfl dX9_firstOtherwise_5 ?_
  refine lv_iload_n hx hb dX9_firstOtherwise_8 rfl (lv_at hl 2 rfl) ?_
  obtain ⟨r_23, hk_24, hf⟩ := pe_1 hf
  refine xv_i (As := [.int x2]) (rest := [.ref (a 2)]) (q0 := 0) (ci := 7) Cx hP hD hS hl (pl_X9_X7 a cyI cyJ v9_refusals v7_rows v7_lengths v7_sizes v7_rests v7_orders v6_hooks v6_lefts v6_heights v1_table v5_known v8_sizes v8_coefficients v8_undoneSums v8_undos v8_nextUndo v8_imageTaken v0_totals v3_letters v3_count v3_next v3_size v4_values v4_lengths v7_rows v7_lengths v7_sizes v7_rests v7_orders) (c_X7_sizeOf l D cyI cyJ G a H.size v7_rows v7_lengths v7_sizes v7_rests v7_orders x2 r_23 hk_24) pk_X7_sizeOf mw_2_108 ⟨rfl, rfl, Nat.le_of_ble_eq_true rfl, Nat.le_of_ble_eq_true rfl⟩ rfl rfl rfl rfl rfl (Nat.le_of_ble_eq_true rfl) ⟨Nat.le_of_ble_eq_true rfl, Nat.le_of_ble_eq_true rfl⟩ dX9_firstOtherwise_9 (fun H locs hP hD hS => ?_)
  obtain ⟨r_25, hk_26, hf⟩ := pe_1 hf
  refine xv_i (As := [.int r_23]) (rest := []) (q0 := 0) (ci := 7) Cx hP hD hS hl (pl_X9_X7 a cyI cyJ v9_refusals v7_rows v7_lengths v7_sizes v7_rests v7_orders v6_hooks v6_lefts v6_heights v1_table v5_known v8_sizes v8_coefficients v8_undoneSums v8_undos v8_nextUndo v8_imageTaken v0_totals v3_letters v3_count v3_next v3_size v4_values v4_lengths v7_rows v7_lengths v7_sizes v7_rests v7_orders) (c_X7_countOf l D cyI cyJ G a H.size v7_rows v7_lengths v7_sizes v7_rests v7_orders r_23 r_25 hk_26) pk_X7_countOf mw_2_177 ⟨rfl, rfl, Nat.le_of_ble_eq_true rfl, Nat.le_of_ble_eq_true rfl⟩ rfl rfl rfl rfl rfl (Nat.le_of_ble_eq_true rfl) ⟨Nat.le_of_ble_eq_true rfl, Nat.le_of_ble_eq_true rfl⟩ dX9_firstOtherwise_12 (fun H locs hP hD hS => ?_)
  refine lv_istore_n (lv' := [(3, .int r_25), (0, .ref (a 0)), (1, .int x1), (2, .int x2)]) hx hb dX9_firstOtherwise_15 rfl hl (by decide) rfl (fun ls hl => ?_)
  refine lv_iconst (v := (0 : Int32)) hx hb dX9_firstOtherwise_16 (by decide) ?_
  refine lv_istore (lv' := [(4, .int (0 : Int32)), (3, .int r_25), (0, .ref (a 0)), (1, .int x1), (2, .int x2)]) hx hb dX9_firstOtherwise_17 hl (by decide) rfl (fun ls hl => ?_)
  exact w_19 1000 x1 x2 r_25 (0 : Int32) H locs ls hf hP hD hS (lv_sub hl [2, 3, 4, 1, 0] rfl)
def f_X9_judge_22 (v7_sizes : Nat → Int32) (v1_table : Nat → Int32) (v4_values : Nat → Int32) (v4_lengths : Nat → Int32) (v9_refusals : Nat → Int32) : Option (Int32 × (Nat → Int32)) := p_b2 (f_X9_refuse v9_refusals (-1 : Int32)) (fun r_1 v9_refusals_2 => some (r_1, v9_refusals_2))
def f_X9_judge (v9_refusals : Nat → Int32) (v7_sizes : Nat → Int32) (v1_table : Nat → Int32) (v4_values : Nat → Int32) (v4_lengths : Nat → Int32) (x1 : Int32) (x2 : Int32) : Option (Int32 × (Nat → Int32)) := p_b1 (f_X4_has x1) (fun r_4 => if r_4 = 0 then ((f_X9_judge_22 v7_sizes v1_table v4_values v4_lengths) v9_refusals) else (p_b1 (f_X7_has x2) (fun r_8 => if r_8 = 0 then ((f_X9_judge_22 v7_sizes v1_table v4_values v4_lengths) v9_refusals) else (p_b1 (f_X4_isMissing v4_lengths x1) (fun r_12 => if r_12 = 0 then (p_b1 (f_X9_firstOtherwise v7_sizes v1_table v4_values v4_lengths x1 x2) (fun r_16 => some (r_16, v9_refusals))) else (some ((-11 : Int32), v9_refusals)))))))
set_option maxHeartbeats 4000000 in
set_option maxRecDepth 20000 in
theorem c_X9_judge (l : Launch) (D : va_G) (cyI cyJ : ClassId) (G a : Nat → Nat) (sz : Nat) (v9_refusals : Nat → Int32) (v7_rows : Nat → Int32) (v7_lengths : Nat → Int32) (v7_sizes : Nat → Int32) (v7_rests : Nat → Int32) (v7_orders : Nat → Int32) (v6_hooks : Nat → Int32) (v6_lefts : Nat → Int32) (v6_heights : Nat → Int32) (v1_table : Nat → Int32) (v5_known : Nat → Int32) (v8_sizes : Nat → Int32) (v8_coefficients : Nat → Int32) (v8_undoneSums : Nat → Int32) (v8_undos : Int32) (v8_nextUndo : Int32) (v8_imageTaken : Int32) (v0_totals : Nat → Int64) (v3_letters : Nat → Int32) (v3_count : Int32) (v3_next : Int32) (v3_size : Int32) (v4_values : Nat → Int32) (v4_lengths : Nat → Int32) (x1 : Int32) (x2 : Int32) (ro : Int32) (ov9_refusals : Nat → Int32) (hf : f_X9_judge v9_refusals v7_sizes v1_table v4_values v4_lengths x1 x2 = some (ro, ov9_refusals)) : xm_i l yX9_judge (Cond.code yX9_judge cX9_judge 3 (some .int) :: xg_tbl) { frames := 5, cells := 0, slots := 0, locals := 110 } D xcl [(cyI, .int), (cyJ, .long)] G sz [.ref (a 0), .int x1, .int x2] (wd_X9 a cyI cyJ v9_refusals v7_rows v7_lengths v7_sizes v7_rests v7_orders v6_hooks v6_lefts v6_heights v1_table v5_known v8_sizes v8_coefficients v8_undoneSums v8_undos v8_nextUndo v8_imageTaken v0_totals v3_letters v3_count v3_next v3_size v4_values v4_lengths) (wd_X9 a cyI cyJ ov9_refusals v7_rows v7_lengths v7_sizes v7_rests v7_orders v6_hooks v6_lefts v6_heights v1_table v5_known v8_sizes v8_coefficients v8_undoneSums v8_undos v8_nextUndo v8_imageTaken v0_totals v3_letters v3_count v3_next v3_size v4_values v4_lengths) ro := by
  refine xm_of_i (own := RX9) (by decide) rfl rfl (Nat.le_of_ble_eq_true rfl) ?_
  intro p e s m args below meth c ls Q A hQ hAe hin Cx hsz hP hD hS hl
  have Cx1 := Cx
  obtain ⟨⟨hx, hb, hml, hown, hts⟩, hr, hlocks, hK, hA, hT⟩ := Cx1
  have hl : lv_has ls 3 [(0, .ref (a 0)), (1, .int x1), (2, .int x2)] := hl
  obtain ⟨H, eH⟩ : ∃ H, H = s.heap := ⟨_, rfl⟩
  obtain ⟨locs, eL⟩ : ∃ L : List Loc, L = [] := ⟨_, rfl⟩
  rw [← eH] at hP
  have hS : va_S A s.heap H locs := by rw [eH, eL]; exact hS
  suffices hgo : W p l e { frames := 5, cells := 0, slots := 0, locals := 110 } s m args below meth c H locs 0 0 Q (F0 m 0 ls []) by rw [eH, eL] at hgo; exact hgo
  clear eH eL
  unfold f_X9_judge at hf
  have w_22 : ∀ (v9_refusals : Nat → Int32) (H : Heap) (locs : List Loc) (ls : Array Slot), (f_X9_judge_22 v7_sizes v1_table v4_values v4_lengths) v9_refusals = some (ro, ov9_refusals) → va_P D xcl (wd_X9 a cyI cyJ v9_refusals v7_rows v7_lengths v7_sizes v7_rests v7_orders v6_hooks v6_lefts v6_heights v1_table v5_known v8_sizes v8_coefficients v8_undoneSums v8_undos v8_nextUndo v8_imageTaken v0_totals v3_letters v3_count v3_next v3_size v4_values v4_lengths) H → va_D A (wd_X9 a cyI cyJ v9_refusals v7_rows v7_lengths v7_sizes v7_rests v7_orders v6_hooks v6_lefts v6_heights v1_table v5_known v8_sizes v8_coefficients v8_undoneSums v8_undos v8_nextUndo v8_imageTaken v0_totals v3_letters v3_count v3_next v3_size v4_values v4_lengths) → va_S A s.heap H locs → lv_has ls 3 [(0, .ref (a 0))] → W p l e { frames := 5, cells := 0, slots := 0, locals := 110 } s m args below meth c H locs 0 0 Q (F0 m 22 ls []) := by
    intro v9_refusals H locs ls hf hP hD hS hl
    unfold f_X9_judge_22 at hf
    refine lv_aload_n hx hb dX9_judge_22 rfl (lv_at hl 0 rfl) ?_
    refine lv_iconst (v := (-1 : Int32)) hx hb dX9_judge_23 (by decide) ?_
    obtain ⟨r_18, v9_refusals_19, hk_20, hf⟩ := pe_2 hf
    refine xv_i (As := [.int (-1 : Int32)]) (rest := []) (q0 := 0) (ci := 9) Cx hP hD hS hl (pl_X9_X9 a cyI cyJ v9_refusals v7_rows v7_lengths v7_sizes v7_rests v7_orders v6_hooks v6_lefts v6_heights v1_table v5_known v8_sizes v8_coefficients v8_undoneSums v8_undos v8_nextUndo v8_imageTaken v0_totals v3_letters v3_count v3_next v3_size v4_values v4_lengths v9_refusals_19 v7_rows v7_lengths v7_sizes v7_rests v7_orders v6_hooks v6_lefts v6_heights v1_table v5_known v8_sizes v8_coefficients v8_undoneSums v8_undos v8_nextUndo v8_imageTaken v0_totals v3_letters v3_count v3_next v3_size v4_values v4_lengths) (c_X9_refuse l D cyI cyJ G a H.size v9_refusals v7_rows v7_lengths v7_sizes v7_rests v7_orders v6_hooks v6_lefts v6_heights v1_table v5_known v8_sizes v8_coefficients v8_undoneSums v8_undos v8_nextUndo v8_imageTaken v0_totals v3_letters v3_count v3_next v3_size v4_values v4_lengths (-1 : Int32) r_18 v9_refusals_19 hk_20) pk_X9_refuse mw_2_103 ⟨rfl, rfl, Nat.le_of_ble_eq_true rfl, Nat.le_of_ble_eq_true rfl⟩ rfl rfl rfl rfl rfl (Nat.le_of_ble_eq_true rfl) ⟨Nat.le_of_ble_eq_true rfl, Nat.le_of_ble_eq_true rfl⟩ dX9_judge_24 (fun H locs hP hD hS => ?_)
    obtain ⟨rfl, rfl⟩ := po_2 hf
    rw [← hQ]; exact xe_iret Cx rfl hP hD hS dX9_judge_27
  refine lv_aload_n hx hb dX9_judge_0 rfl (lv_at hl 0 rfl) ?_
  refine va_get (ci := 9) (v := .ref (a 25)) hx hb hts wX9_in hown hK hP 0 rfl rfl 8 (by decide) (hts _ mw_2_75) (fun _ h9 => h9) rfl dX9_judge_1 ?_
  refine lv_iload_n hx hb dX9_judge_4 rfl (lv_at hl 1 rfl) ?_
  obtain ⟨r_21, hk_22, hf⟩ := pe_1 hf
  refine xv_z (As := [.int x1]) (rest := []) (q0 := 0) (ci := 4) Cx hP hD hS hl (pl_X9_X4 a cyI cyJ v9_refusals v7_rows v7_lengths v7_sizes v7_rests v7_orders v6_hooks v6_lefts v6_heights v1_table v5_known v8_sizes v8_coefficients v8_undoneSums v8_undos v8_nextUndo v8_imageTaken v0_totals v3_letters v3_count v3_next v3_size v4_values v4_lengths v4_values v4_lengths) (c_X4_has l D cyI cyJ G a H.size v4_values v4_lengths x1 r_21 hk_22) pk_X4_has mw_2_144 ⟨rfl, rfl, Nat.le_of_ble_eq_true rfl, Nat.le_of_ble_eq_true rfl⟩ rfl rfl rfl rfl rfl (Nat.le_of_ble_eq_true rfl) ⟨Nat.le_of_ble_eq_true rfl, Nat.le_of_ble_eq_true rfl⟩ dX9_judge_5 (fun H locs hn_23 hP hD hS => ?_)
  refine lv_if_eq (tgt := 22) hx hb dX9_judge_8 (by decide) (fun hc_24 => ?_) (fun hc_24 => ?_)
  · have hf := pe_t hf hc_24
    exact w_22 v9_refusals H locs ls hf hP hD hS (lv_sub hl [0] rfl)
  · have hf := pe_f hf hc_24
    refine lv_aload_n hx hb dX9_judge_11 rfl (lv_at hl 0 rfl) ?_
    refine va_get (ci := 9) (v := .ref (a 2)) hx hb hts wX9_in hown hK hP 0 rfl rfl 0 (by decide) (hts _ mw_2_67) (fun _ h9 => h9) rfl dX9_judge_12 ?_
    refine lv_iload_n hx hb dX9_judge_15 rfl (lv_at hl 2 rfl) ?_
    obtain ⟨r_25, hk_26, hf⟩ := pe_1 hf
    refine xv_z (As := [.int x2]) (rest := []) (q0 := 0) (ci := 7) Cx hP hD hS hl (pl_X9_X7 a cyI cyJ v9_refusals v7_rows v7_lengths v7_sizes v7_rests v7_orders v6_hooks v6_lefts v6_heights v1_table v5_known v8_sizes v8_coefficients v8_undoneSums v8_undos v8_nextUndo v8_imageTaken v0_totals v3_letters v3_count v3_next v3_size v4_values v4_lengths v7_rows v7_lengths v7_sizes v7_rests v7_orders) (c_X7_has l D cyI cyJ G a H.size v7_rows v7_lengths v7_sizes v7_rests v7_orders x2 r_25 hk_26) pk_X7_has mw_2_102 ⟨rfl, rfl, Nat.le_of_ble_eq_true rfl, Nat.le_of_ble_eq_true rfl⟩ rfl rfl rfl rfl rfl (Nat.le_of_ble_eq_true rfl) ⟨Nat.le_of_ble_eq_true rfl, Nat.le_of_ble_eq_true rfl⟩ dX9_judge_16 (fun H locs hn_27 hP hD hS => ?_)
    refine lv_if_ne (tgt := 28) hx hb dX9_judge_19 (by decide) (fun hc_28 => ?_) (fun hc_28 => ?_)
    · have hf := pe_f hf hc_28
      refine lv_aload_n hx hb dX9_judge_28 rfl (lv_at hl 0 rfl) ?_
      refine va_get (ci := 9) (v := .ref (a 25)) hx hb hts wX9_in hown hK hP 0 rfl rfl 8 (by decide) (hts _ mw_2_75) (fun _ h9 => h9) rfl dX9_judge_29 ?_
      refine lv_iload_n hx hb dX9_judge_32 rfl (lv_at hl 1 rfl) ?_
      obtain ⟨r_29, hk_30, hf⟩ := pe_1 hf
      refine xv_z (As := [.int x1]) (rest := []) (q0 := 0) (ci := 4) Cx hP hD hS hl (pl_X9_X4 a cyI cyJ v9_refusals v7_rows v7_lengths v7_sizes v7_rests v7_orders v6_hooks v6_lefts v6_heights v1_table v5_known v8_sizes v8_coefficients v8_undoneSums v8_undos v8_nextUndo v8_imageTaken v0_totals v3_letters v3_count v3_next v3_size v4_values v4_lengths v4_values v4_lengths) (c_X4_isMissing l D cyI cyJ G a H.size v4_values v4_lengths x1 r_29 hk_30) pk_X4_isMissing mw_2_148 ⟨rfl, rfl, Nat.le_of_ble_eq_true rfl, Nat.le_of_ble_eq_true rfl⟩ rfl rfl rfl rfl rfl (Nat.le_of_ble_eq_true rfl) ⟨Nat.le_of_ble_eq_true rfl, Nat.le_of_ble_eq_true rfl⟩ dX9_judge_33 (fun H locs hn_31 hP hD hS => ?_)
      refine lv_if_eq (tgt := 44) hx hb dX9_judge_36 (by decide) (fun hc_32 => ?_) (fun hc_32 => ?_)
      · have hf := pe_t hf hc_32
        refine lv_aload_n hx hb dX9_judge_44 rfl (lv_at hl 0 rfl) ?_
        refine lv_iload_n hx hb dX9_judge_45 rfl (lv_at hl 1 rfl) ?_
        refine lv_iload_n hx hb dX9_judge_46 rfl (lv_at hl 2 rfl) ?_
        obtain ⟨r_33, hk_34, hf⟩ := pe_1 hf
        refine xv_i (As := [.int x1, .int x2]) (rest := []) (q0 := 0) (ci := 9) Cx hP hD hS hl (pl_X9_X9 a cyI cyJ v9_refusals v7_rows v7_lengths v7_sizes v7_rests v7_orders v6_hooks v6_lefts v6_heights v1_table v5_known v8_sizes v8_coefficients v8_undoneSums v8_undos v8_nextUndo v8_imageTaken v0_totals v3_letters v3_count v3_next v3_size v4_values v4_lengths v9_refusals v7_rows v7_lengths v7_sizes v7_rests v7_orders v6_hooks v6_lefts v6_heights v1_table v5_known v8_sizes v8_coefficients v8_undoneSums v8_undos v8_nextUndo v8_imageTaken v0_totals v3_letters v3_count v3_next v3_size v4_values v4_lengths) (c_X9_firstOtherwise l D cyI cyJ G a H.size v9_refusals v7_rows v7_lengths v7_sizes v7_rests v7_orders v6_hooks v6_lefts v6_heights v1_table v5_known v8_sizes v8_coefficients v8_undoneSums v8_undos v8_nextUndo v8_imageTaken v0_totals v3_letters v3_count v3_next v3_size v4_values v4_lengths x1 x2 r_33 hk_34) pk_X9_firstOtherwise mw_4_91 ⟨rfl, rfl, Nat.le_of_ble_eq_true rfl, Nat.le_of_ble_eq_true rfl⟩ rfl rfl rfl rfl rfl (Nat.le_of_ble_eq_true rfl) ⟨Nat.le_of_ble_eq_true rfl, Nat.le_of_ble_eq_true rfl⟩ dX9_judge_47 (fun H locs hP hD hS => ?_)
        obtain ⟨rfl, rfl⟩ := po_2 hf
        rw [← hQ]; exact xe_iret Cx rfl hP hD hS dX9_judge_50
      · have hf := pe_f hf hc_32
        refine lv_bipush (v := (-11 : Int32)) hx hb dX9_judge_39 (by decide) ?_
        refine lv_goto (tgt := 50) hx hb dX9_judge_41 (by decide) ?_
        obtain ⟨rfl, rfl⟩ := po_2 hf
        rw [← hQ]; exact xe_iret Cx rfl hP hD hS dX9_judge_50
    · have hf := pe_t hf hc_28
      exact w_22 v9_refusals H locs ls hf hP hD hS (lv_sub hl [0] rfl)
def gf_X9_howManyBegin_31 (K_31 : Int32 → Int32 → Int32 → Int32 → Option (Int32)) (v7_sizes : Nat → Int32) (v1_table : Nat → Int32) (v4_values : Nat → Int32) (v4_lengths : Nat → Int32) (y1 : Int32) (y3 : Int32) (y4 : Int32) (y5 : Int32) : Option (Int32) := if y4 ≤ y5 then (some (y3)) else (p_b1 (f_X9_firstOtherwise v7_sizes v1_table v4_values v4_lengths y1 y5) (fun r_2 => if r_2 = (-9 : Int32) then (K_31 y1 (y3 + (1 : Int32)) y4 (y5 + (1 : Int32))) else (K_31 y1 y3 y4 (y5 + (1 : Int32)))))
def f_X9_howManyBegin_31 (v7_sizes : Nat → Int32) (v1_table : Nat → Int32) (v4_values : Nat → Int32) (v4_lengths : Nat → Int32) : Nat → Int32 → Int32 → Int32 → Int32 → Option (Int32)
  | 0 => fun _ _ _ _ => none
  | n + 1 => gf_X9_howManyBegin_31 (f_X9_howManyBegin_31 v7_sizes v1_table v4_values v4_lengths n) v7_sizes v1_table v4_values v4_lengths
def f_X9_howManyBegin (v7_sizes : Nat → Int32) (v1_table : Nat → Int32) (v4_values : Nat → Int32) (v4_lengths : Nat → Int32) (x1 : Int32) (x2 : Int32) : Option (Int32) := p_b1 (f_X7_firstOf x2) (fun r_5 => p_b1 (f_X7_countOf x2) (fun r_7 => p_b1 (f_X7_firstOf x2) (fun r_9 => (f_X9_howManyBegin_31 v7_sizes v1_table v4_values v4_lengths 1000) x1 (0 : Int32) (r_5 + r_7) r_9)))
set_option maxHeartbeats 4000000 in
set_option maxRecDepth 20000 in
theorem c_X9_howManyBegin (l : Launch) (D : va_G) (cyI cyJ : ClassId) (G a : Nat → Nat) (sz : Nat) (v9_refusals : Nat → Int32) (v7_rows : Nat → Int32) (v7_lengths : Nat → Int32) (v7_sizes : Nat → Int32) (v7_rests : Nat → Int32) (v7_orders : Nat → Int32) (v6_hooks : Nat → Int32) (v6_lefts : Nat → Int32) (v6_heights : Nat → Int32) (v1_table : Nat → Int32) (v5_known : Nat → Int32) (v8_sizes : Nat → Int32) (v8_coefficients : Nat → Int32) (v8_undoneSums : Nat → Int32) (v8_undos : Int32) (v8_nextUndo : Int32) (v8_imageTaken : Int32) (v0_totals : Nat → Int64) (v3_letters : Nat → Int32) (v3_count : Int32) (v3_next : Int32) (v3_size : Int32) (v4_values : Nat → Int32) (v4_lengths : Nat → Int32) (x1 : Int32) (x2 : Int32) (ro : Int32) (hf : f_X9_howManyBegin v7_sizes v1_table v4_values v4_lengths x1 x2 = some ro) : xm_i l yX9_howManyBegin (Cond.code yX9_howManyBegin cX9_howManyBegin 6 (some .int) :: xg_tbl) { frames := 5, cells := 0, slots := 0, locals := 110 } D xcl [(cyI, .int), (cyJ, .long)] G sz [.ref (a 0), .int x1, .int x2] (wd_X9 a cyI cyJ v9_refusals v7_rows v7_lengths v7_sizes v7_rests v7_orders v6_hooks v6_lefts v6_heights v1_table v5_known v8_sizes v8_coefficients v8_undoneSums v8_undos v8_nextUndo v8_imageTaken v0_totals v3_letters v3_count v3_next v3_size v4_values v4_lengths) (wd_X9 a cyI cyJ v9_refusals v7_rows v7_lengths v7_sizes v7_rests v7_orders v6_hooks v6_lefts v6_heights v1_table v5_known v8_sizes v8_coefficients v8_undoneSums v8_undos v8_nextUndo v8_imageTaken v0_totals v3_letters v3_count v3_next v3_size v4_values v4_lengths) ro := by
  refine xm_of_i (own := RX9) (by decide) rfl rfl (Nat.le_of_ble_eq_true rfl) ?_
  intro p e s m args below meth c ls Q A hQ hAe hin Cx hsz hP hD hS hl
  have Cx1 := Cx
  obtain ⟨⟨hx, hb, hml, hown, hts⟩, hr, hlocks, hK, hA, hT⟩ := Cx1
  have hl : lv_has ls 6 [(0, .ref (a 0)), (1, .int x1), (2, .int x2)] := hl
  obtain ⟨H, eH⟩ : ∃ H, H = s.heap := ⟨_, rfl⟩
  obtain ⟨locs, eL⟩ : ∃ L : List Loc, L = [] := ⟨_, rfl⟩
  rw [← eH] at hP
  have hS : va_S A s.heap H locs := by rw [eH, eL]; exact hS
  suffices hgo : W p l e { frames := 5, cells := 0, slots := 0, locals := 110 } s m args below meth c H locs 0 0 Q (F0 m 0 ls []) by rw [eH, eL] at hgo; exact hgo
  clear eH eL
  unfold f_X9_howManyBegin at hf
  have w_31 : ∀ (n_31 : Nat) (y1 : Int32) (y3 : Int32) (y4 : Int32) (y5 : Int32) (H : Heap) (locs : List Loc) (ls : Array Slot), (f_X9_howManyBegin_31 v7_sizes v1_table v4_values v4_lengths) n_31 y1 y3 y4 y5 = some ro → va_P D xcl (wd_X9 a cyI cyJ v9_refusals v7_rows v7_lengths v7_sizes v7_rests v7_orders v6_hooks v6_lefts v6_heights v1_table v5_known v8_sizes v8_coefficients v8_undoneSums v8_undos v8_nextUndo v8_imageTaken v0_totals v3_letters v3_count v3_next v3_size v4_values v4_lengths) H → va_D A (wd_X9 a cyI cyJ v9_refusals v7_rows v7_lengths v7_sizes v7_rests v7_orders v6_hooks v6_lefts v6_heights v1_table v5_known v8_sizes v8_coefficients v8_undoneSums v8_undos v8_nextUndo v8_imageTaken v0_totals v3_letters v3_count v3_next v3_size v4_values v4_lengths) → va_S A s.heap H locs → lv_has ls 6 [(0, .ref (a 0)), (1, .int y1), (3, .int y3), (4, .int y4), (5, .int y5)] → W p l e { frames := 5, cells := 0, slots := 0, locals := 110 } s m args below meth c H locs 0 0 Q (F0 m 31 ls []) := by
    intro n_31
    induction n_31 with
    | zero => intro y1 y3 y4 y5 H locs ls hf; exact absurd hf (by intro h9; cases h9)
    | succ n_31 w_31 =>
      intro y1 y3 y4 y5 H locs ls hf hP hD hS hl
      have hf : gf_X9_howManyBegin_31 ((f_X9_howManyBegin_31 v7_sizes v1_table v4_values v4_lengths) n_31) v7_sizes v1_table v4_values v4_lengths y1 y3 y4 y5 = some ro := hf
      unfold gf_X9_howManyBegin_31 at hf
      refine lv_iload hx hb dX9_howManyBegin_31 (lv_at hl 4 rfl) ?_
      refine lv_iload hx hb dX9_howManyBegin_33 (lv_at hl 3 rfl) ?_
      refine lv_icmp_ge (tgt := 59) hx hb dX9_howManyBegin_35 (by decide) (fun hc_11 => ?_) (fun hc_11 => ?_)
      · have hf := pe_t hf hc_11
        refine lv_iload_n hx hb dX9_howManyBegin_59 rfl (lv_at hl 2 rfl) ?_
        obtain rfl := po_1 hf
        rw [← hQ]; exact xe_iret Cx rfl hP hD hS dX9_howManyBegin_60
      · have hf := pe_f hf hc_11
        refine lv_aload_n hx hb dX9_howManyBegin_38 rfl (lv_at hl 0 rfl) ?_
        refine lv_iload_n hx hb dX9_howManyBegin_39 rfl (lv_at hl 1 rfl) ?_
        refine lv_iload hx hb dX9_howManyBegin_40 (lv_at hl 4 rfl) ?_
        obtain ⟨r_12, hk_13, hf⟩ := pe_1 hf
        refine xv_i (As := [.int y1, .int y5]) (rest := []) (q0 := 0) (ci := 9) Cx hP hD hS hl (pl_X9_X9 a cyI cyJ v9_refusals v7_rows v7_lengths v7_sizes v7_rests v7_orders v6_hooks v6_lefts v6_heights v1_table v5_known v8_sizes v8_coefficients v8_undoneSums v8_undos v8_nextUndo v8_imageTaken v0_totals v3_letters v3_count v3_next v3_size v4_values v4_lengths v9_refusals v7_rows v7_lengths v7_sizes v7_rests v7_orders v6_hooks v6_lefts v6_heights v1_table v5_known v8_sizes v8_coefficients v8_undoneSums v8_undos v8_nextUndo v8_imageTaken v0_totals v3_letters v3_count v3_next v3_size v4_values v4_lengths) (c_X9_firstOtherwise l D cyI cyJ G a H.size v9_refusals v7_rows v7_lengths v7_sizes v7_rests v7_orders v6_hooks v6_lefts v6_heights v1_table v5_known v8_sizes v8_coefficients v8_undoneSums v8_undos v8_nextUndo v8_imageTaken v0_totals v3_letters v3_count v3_next v3_size v4_values v4_lengths y1 y5 r_12 hk_13) pk_X9_firstOtherwise mw_4_91 ⟨rfl, rfl, Nat.le_of_ble_eq_true rfl, Nat.le_of_ble_eq_true rfl⟩ rfl rfl rfl rfl rfl (Nat.le_of_ble_eq_true rfl) ⟨Nat.le_of_ble_eq_true rfl, Nat.le_of_ble_eq_true rfl⟩ dX9_howManyBegin_42 (fun H locs hP hD hS => ?_)
        refine lv_bipush (v := (-9 : Int32)) hx hb dX9_howManyBegin_45 (by decide) ?_
        refine lv_icmp_ne (tgt := 53) hx hb dX9_howManyBegin_47 (by decide) (fun hc_14 => ?_) (fun hc_14 => ?_)
        · have hf := pe_f hf hc_14
          refine lv_iinc (v := (y5 + (1 : Int32))) (lv' := [(5, .int (y5 + (1 : Int32))), (0, .ref (a 0)), (1, .int y1), (3, .int y3), (4, .int y4)]) hx hb dX9_howManyBegin_53 hl (k := 4) rfl rfl (by decide) rfl (fun ls hl => ?_)
          refine lv_goto (tgt := 31) hx hb dX9_howManyBegin_56 (by decide) ?_
          exact w_31 y1 y3 y4 (y5 + (1 : Int32)) H locs ls hf hP hD hS (lv_sub hl [1, 2, 3, 4, 0] rfl)
        · have hf := pe_t hf hc_14
          refine lv_iinc (v := (y3 + (1 : Int32))) (lv' := [(3, .int (y3 + (1 : Int32))), (0, .ref (a 0)), (1, .int y1), (4, .int y4), (5, .int y5)]) hx hb dX9_howManyBegin_50 hl (k := 2) rfl rfl (by decide) rfl (fun ls hl => ?_)
          refine lv_iinc (v := (y5 + (1 : Int32))) (lv' := [(5, .int (y5 + (1 : Int32))), (3, .int (y3 + (1 : Int32))), (0, .ref (a 0)), (1, .int y1), (4, .int y4)]) hx hb dX9_howManyBegin_53 hl (k := 4) rfl rfl (by decide) rfl (fun ls hl => ?_)
          refine lv_goto (tgt := 31) hx hb dX9_howManyBegin_56 (by decide) ?_
          exact w_31 y1 (y3 + (1 : Int32)) y4 (y5 + (1 : Int32)) H locs ls hf hP hD hS (lv_sub hl [2, 3, 1, 4, 0] rfl)
  refine lv_iconst (v := (0 : Int32)) hx hb dX9_howManyBegin_0 (by decide) ?_
  refine lv_istore_n (lv' := [(3, .int (0 : Int32)), (0, .ref (a 0)), (1, .int x1), (2, .int x2)]) hx hb dX9_howManyBegin_1 rfl hl (by decide) rfl (fun ls hl => ?_)
  refine lv_aload_n hx hb dX9_howManyBegin_2 rfl (lv_at hl 1 rfl) ?_
  refine va_get (ci := 9) (v := .ref (a 2)) hx hb hts wX9_in hown hK hP 0 rfl rfl 0 (by decide) (hts _ mw_2_67) (fun _ h9 => h9) rfl dX9_howManyBegin_3 ?_
  refine lv_iload_n hx hb dX9_howManyBegin_6 rfl (lv_at hl 3 rfl) ?_
  obtain ⟨r_15, hk_16, hf⟩ := pe_1 hf
  refine xv_i (As := [.int x2]) (rest := []) (q0 := 0) (ci := 7) Cx hP hD hS hl (pl_X9_X7 a cyI cyJ v9_refusals v7_rows v7_lengths v7_sizes v7_rests v7_orders v6_hooks v6_lefts v6_heights v1_table v5_known v8_sizes v8_coefficients v8_undoneSums v8_undos v8_nextUndo v8_imageTaken v0_totals v3_letters v3_count v3_next v3_size v4_values v4_lengths v7_rows v7_lengths v7_sizes v7_rests v7_orders) (c_X7_firstOf l D cyI cyJ G a H.size v7_rows v7_lengths v7_sizes v7_rests v7_orders x2 r_15 hk_16) pk_X7_firstOf mw_2_176 ⟨rfl, rfl, Nat.le_of_ble_eq_true rfl, Nat.le_of_ble_eq_true rfl⟩ rfl rfl rfl rfl rfl (Nat.le_of_ble_eq_true rfl) ⟨Nat.le_of_ble_eq_true rfl, Nat.le_of_ble_eq_true rfl⟩ dX9_howManyBegin_7 (fun H locs hP hD hS => ?_)
  refine lv_aload_n hx hb dX9_howManyBegin_10 rfl (lv_at hl 1 rfl) ?_
  refine va_get (ci := 9) (v := .ref (a 2)) hx hb hts wX9_in hown hK hP 0 rfl rfl 0 (by decide) (hts _ mw_2_67) (fun _ h9 => h9) rfl dX9_howManyBegin_11 ?_
  refine lv_iload_n hx hb dX9_howManyBegin_14 rfl (lv_at hl 3 rfl) ?_
  obtain ⟨r_17, hk_18, hf⟩ := pe_1 hf
  refine xv_i (As := [.int x2]) (rest := [.int r_15]) (q0 := 0) (ci := 7) Cx hP hD hS hl (pl_X9_X7 a cyI cyJ v9_refusals v7_rows v7_lengths v7_sizes v7_rests v7_orders v6_hooks v6_lefts v6_heights v1_table v5_known v8_sizes v8_coefficients v8_undoneSums v8_undos v8_nextUndo v8_imageTaken v0_totals v3_letters v3_count v3_next v3_size v4_values v4_lengths v7_rows v7_lengths v7_sizes v7_rests v7_orders) (c_X7_countOf l D cyI cyJ G a H.size v7_rows v7_lengths v7_sizes v7_rests v7_orders x2 r_17 hk_18) pk_X7_countOf mw_2_177 ⟨rfl, rfl, Nat.le_of_ble_eq_true rfl, Nat.le_of_ble_eq_true rfl⟩ rfl rfl rfl rfl rfl (Nat.le_of_ble_eq_true rfl) ⟨Nat.le_of_ble_eq_true rfl, Nat.le_of_ble_eq_true rfl⟩ dX9_howManyBegin_15 (fun H locs hP hD hS => ?_)
  refine lv_iadd hx hb dX9_howManyBegin_18 ?_
  refine lv_istore (lv' := [(4, .int (r_15 + r_17)), (3, .int (0 : Int32)), (0, .ref (a 0)), (1, .int x1), (2, .int x2)]) hx hb dX9_howManyBegin_19 hl (by decide) rfl (fun ls hl => ?_)
  refine lv_aload_n hx hb dX9_howManyBegin_21 rfl (lv_at hl 2 rfl) ?_
  refine va_get (ci := 9) (v := .ref (a 2)) hx hb hts wX9_in hown hK hP 0 rfl rfl 0 (by decide) (hts _ mw_2_67) (fun _ h9 => h9) rfl dX9_howManyBegin_22 ?_
  refine lv_iload_n hx hb dX9_howManyBegin_25 rfl (lv_at hl 4 rfl) ?_
  obtain ⟨r_19, hk_20, hf⟩ := pe_1 hf
  refine xv_i (As := [.int x2]) (rest := []) (q0 := 0) (ci := 7) Cx hP hD hS hl (pl_X9_X7 a cyI cyJ v9_refusals v7_rows v7_lengths v7_sizes v7_rests v7_orders v6_hooks v6_lefts v6_heights v1_table v5_known v8_sizes v8_coefficients v8_undoneSums v8_undos v8_nextUndo v8_imageTaken v0_totals v3_letters v3_count v3_next v3_size v4_values v4_lengths v7_rows v7_lengths v7_sizes v7_rests v7_orders) (c_X7_firstOf l D cyI cyJ G a H.size v7_rows v7_lengths v7_sizes v7_rests v7_orders x2 r_19 hk_20) pk_X7_firstOf mw_2_176 ⟨rfl, rfl, Nat.le_of_ble_eq_true rfl, Nat.le_of_ble_eq_true rfl⟩ rfl rfl rfl rfl rfl (Nat.le_of_ble_eq_true rfl) ⟨Nat.le_of_ble_eq_true rfl, Nat.le_of_ble_eq_true rfl⟩ dX9_howManyBegin_26 (fun H locs hP hD hS => ?_)
  refine lv_istore (lv' := [(5, .int r_19), (4, .int (r_15 + r_17)), (3, .int (0 : Int32)), (0, .ref (a 0)), (1, .int x1), (2, .int x2)]) hx hb dX9_howManyBegin_29 hl (by decide) rfl (fun ls hl => ?_)
  exact w_31 1000 x1 (0 : Int32) (r_15 + r_17) r_19 H locs ls hf hP hD hS (lv_sub hl [3, 4, 2, 1, 0] rfl)
def gf_X9_leastThatBegins_28 (K_28 : Int32 → Int32 → Int32 → Option (Int32)) (v7_sizes : Nat → Int32) (v1_table : Nat → Int32) (v4_values : Nat → Int32) (v4_lengths : Nat → Int32) (y1 : Int32) (y3 : Int32) (y4 : Int32) : Option (Int32) := if y3 ≤ y4 then (some ((-9 : Int32))) else (p_b1 (f_X9_firstOtherwise v7_sizes v1_table v4_values v4_lengths y1 y4) (fun r_2 => if r_2 = (-9 : Int32) then (some (y4)) else (K_28 y1 y3 (y4 + (1 : Int32)))))
def f_X9_leastThatBegins_28 (v7_sizes : Nat → Int32) (v1_table : Nat → Int32) (v4_values : Nat → Int32) (v4_lengths : Nat → Int32) : Nat → Int32 → Int32 → Int32 → Option (Int32)
  | 0 => fun _ _ _ => none
  | n + 1 => gf_X9_leastThatBegins_28 (f_X9_leastThatBegins_28 v7_sizes v1_table v4_values v4_lengths n) v7_sizes v1_table v4_values v4_lengths
def f_X9_leastThatBegins (v7_sizes : Nat → Int32) (v1_table : Nat → Int32) (v4_values : Nat → Int32) (v4_lengths : Nat → Int32) (x1 : Int32) (x2 : Int32) : Option (Int32) := p_b1 (f_X7_firstOf x2) (fun r_5 => p_b1 (f_X7_countOf x2) (fun r_7 => p_b1 (f_X7_firstOf x2) (fun r_9 => (f_X9_leastThatBegins_28 v7_sizes v1_table v4_values v4_lengths 1000) x1 (r_5 + r_7) r_9)))
set_option maxHeartbeats 4000000 in
set_option maxRecDepth 20000 in
theorem c_X9_leastThatBegins (l : Launch) (D : va_G) (cyI cyJ : ClassId) (G a : Nat → Nat) (sz : Nat) (v9_refusals : Nat → Int32) (v7_rows : Nat → Int32) (v7_lengths : Nat → Int32) (v7_sizes : Nat → Int32) (v7_rests : Nat → Int32) (v7_orders : Nat → Int32) (v6_hooks : Nat → Int32) (v6_lefts : Nat → Int32) (v6_heights : Nat → Int32) (v1_table : Nat → Int32) (v5_known : Nat → Int32) (v8_sizes : Nat → Int32) (v8_coefficients : Nat → Int32) (v8_undoneSums : Nat → Int32) (v8_undos : Int32) (v8_nextUndo : Int32) (v8_imageTaken : Int32) (v0_totals : Nat → Int64) (v3_letters : Nat → Int32) (v3_count : Int32) (v3_next : Int32) (v3_size : Int32) (v4_values : Nat → Int32) (v4_lengths : Nat → Int32) (x1 : Int32) (x2 : Int32) (ro : Int32) (hf : f_X9_leastThatBegins v7_sizes v1_table v4_values v4_lengths x1 x2 = some ro) : xm_i l yX9_leastThatBegins (Cond.code yX9_leastThatBegins cX9_leastThatBegins 5 (some .int) :: xg_tbl) { frames := 5, cells := 0, slots := 0, locals := 110 } D xcl [(cyI, .int), (cyJ, .long)] G sz [.ref (a 0), .int x1, .int x2] (wd_X9 a cyI cyJ v9_refusals v7_rows v7_lengths v7_sizes v7_rests v7_orders v6_hooks v6_lefts v6_heights v1_table v5_known v8_sizes v8_coefficients v8_undoneSums v8_undos v8_nextUndo v8_imageTaken v0_totals v3_letters v3_count v3_next v3_size v4_values v4_lengths) (wd_X9 a cyI cyJ v9_refusals v7_rows v7_lengths v7_sizes v7_rests v7_orders v6_hooks v6_lefts v6_heights v1_table v5_known v8_sizes v8_coefficients v8_undoneSums v8_undos v8_nextUndo v8_imageTaken v0_totals v3_letters v3_count v3_next v3_size v4_values v4_lengths) ro := by
  refine xm_of_i (own := RX9) (by decide) rfl rfl (Nat.le_of_ble_eq_true rfl) ?_
  intro p e s m args below meth c ls Q A hQ hAe hin Cx hsz hP hD hS hl
  have Cx1 := Cx
  obtain ⟨⟨hx, hb, hml, hown, hts⟩, hr, hlocks, hK, hA, hT⟩ := Cx1
  have hl : lv_has ls 5 [(0, .ref (a 0)), (1, .int x1), (2, .int x2)] := hl
  obtain ⟨H, eH⟩ : ∃ H, H = s.heap := ⟨_, rfl⟩
  obtain ⟨locs, eL⟩ : ∃ L : List Loc, L = [] := ⟨_, rfl⟩
  rw [← eH] at hP
  have hS : va_S A s.heap H locs := by rw [eH, eL]; exact hS
  suffices hgo : W p l e { frames := 5, cells := 0, slots := 0, locals := 110 } s m args below meth c H locs 0 0 Q (F0 m 0 ls []) by rw [eH, eL] at hgo; exact hgo
  clear eH eL
  unfold f_X9_leastThatBegins at hf
  have w_28 : ∀ (n_28 : Nat) (y1 : Int32) (y3 : Int32) (y4 : Int32) (H : Heap) (locs : List Loc) (ls : Array Slot), (f_X9_leastThatBegins_28 v7_sizes v1_table v4_values v4_lengths) n_28 y1 y3 y4 = some ro → va_P D xcl (wd_X9 a cyI cyJ v9_refusals v7_rows v7_lengths v7_sizes v7_rests v7_orders v6_hooks v6_lefts v6_heights v1_table v5_known v8_sizes v8_coefficients v8_undoneSums v8_undos v8_nextUndo v8_imageTaken v0_totals v3_letters v3_count v3_next v3_size v4_values v4_lengths) H → va_D A (wd_X9 a cyI cyJ v9_refusals v7_rows v7_lengths v7_sizes v7_rests v7_orders v6_hooks v6_lefts v6_heights v1_table v5_known v8_sizes v8_coefficients v8_undoneSums v8_undos v8_nextUndo v8_imageTaken v0_totals v3_letters v3_count v3_next v3_size v4_values v4_lengths) → va_S A s.heap H locs → lv_has ls 5 [(0, .ref (a 0)), (1, .int y1), (3, .int y3), (4, .int y4)] → W p l e { frames := 5, cells := 0, slots := 0, locals := 110 } s m args below meth c H locs 0 0 Q (F0 m 28 ls []) := by
    intro n_28
    induction n_28 with
    | zero => intro y1 y3 y4 H locs ls hf; exact absurd hf (by intro h9; cases h9)
    | succ n_28 w_28 =>
      intro y1 y3 y4 H locs ls hf hP hD hS hl
      have hf : gf_X9_leastThatBegins_28 ((f_X9_leastThatBegins_28 v7_sizes v1_table v4_values v4_lengths) n_28) v7_sizes v1_table v4_values v4_lengths y1 y3 y4 = some ro := hf
      unfold gf_X9_leastThatBegins_28 at hf
      refine lv_iload hx hb dX9_leastThatBegins_28 (lv_at hl 3 rfl) ?_
      refine lv_iload_n hx hb dX9_leastThatBegins_30 rfl (lv_at hl 2 rfl) ?_
      refine lv_icmp_ge (tgt := 55) hx hb dX9_leastThatBegins_31 (by decide) (fun hc_11 => ?_) (fun hc_11 => ?_)
      · have hf := pe_t hf hc_11
        refine lv_bipush (v := (-9 : Int32)) hx hb dX9_leastThatBegins_55 (by decide) ?_
        obtain rfl := po_1 hf
        rw [← hQ]; exact xe_iret Cx rfl hP hD hS dX9_leastThatBegins_57
      · have hf := pe_f hf hc_11
        refine lv_aload_n hx hb dX9_leastThatBegins_34 rfl (lv_at hl 0 rfl) ?_
        refine lv_iload_n hx hb dX9_leastThatBegins_35 rfl (lv_at hl 1 rfl) ?_
        refine lv_iload hx hb dX9_leastThatBegins_36 (lv_at hl 3 rfl) ?_
        obtain ⟨r_12, hk_13, hf⟩ := pe_1 hf
        refine xv_i (As := [.int y1, .int y4]) (rest := []) (q0 := 0) (ci := 9) Cx hP hD hS hl (pl_X9_X9 a cyI cyJ v9_refusals v7_rows v7_lengths v7_sizes v7_rests v7_orders v6_hooks v6_lefts v6_heights v1_table v5_known v8_sizes v8_coefficients v8_undoneSums v8_undos v8_nextUndo v8_imageTaken v0_totals v3_letters v3_count v3_next v3_size v4_values v4_lengths v9_refusals v7_rows v7_lengths v7_sizes v7_rests v7_orders v6_hooks v6_lefts v6_heights v1_table v5_known v8_sizes v8_coefficients v8_undoneSums v8_undos v8_nextUndo v8_imageTaken v0_totals v3_letters v3_count v3_next v3_size v4_values v4_lengths) (c_X9_firstOtherwise l D cyI cyJ G a H.size v9_refusals v7_rows v7_lengths v7_sizes v7_rests v7_orders v6_hooks v6_lefts v6_heights v1_table v5_known v8_sizes v8_coefficients v8_undoneSums v8_undos v8_nextUndo v8_imageTaken v0_totals v3_letters v3_count v3_next v3_size v4_values v4_lengths y1 y4 r_12 hk_13) pk_X9_firstOtherwise mw_4_91 ⟨rfl, rfl, Nat.le_of_ble_eq_true rfl, Nat.le_of_ble_eq_true rfl⟩ rfl rfl rfl rfl rfl (Nat.le_of_ble_eq_true rfl) ⟨Nat.le_of_ble_eq_true rfl, Nat.le_of_ble_eq_true rfl⟩ dX9_leastThatBegins_38 (fun H locs hP hD hS => ?_)
        refine lv_bipush (v := (-9 : Int32)) hx hb dX9_leastThatBegins_41 (by decide) ?_
        refine lv_icmp_ne (tgt := 49) hx hb dX9_leastThatBegins_43 (by decide) (fun hc_14 => ?_) (fun hc_14 => ?_)
        · have hf := pe_f hf hc_14
          refine lv_iinc (v := (y4 + (1 : Int32))) (lv' := [(4, .int (y4 + (1 : Int32))), (0, .ref (a 0)), (1, .int y1), (3, .int y3)]) hx hb dX9_leastThatBegins_49 hl (k := 3) rfl rfl (by decide) rfl (fun ls hl => ?_)
          refine lv_goto (tgt := 28) hx hb dX9_leastThatBegins_52 (by decide) ?_
          exact w_28 y1 y3 (y4 + (1 : Int32)) H locs ls hf hP hD hS (lv_sub hl [1, 2, 3, 0] rfl)
        · have hf := pe_t hf hc_14
          refine lv_iload hx hb dX9_leastThatBegins_46 (lv_at hl 3 rfl) ?_
          obtain rfl := po_1 hf
          rw [← hQ]; exact xe_iret Cx rfl hP hD hS dX9_leastThatBegins_48
  refine lv_aload_n hx hb dX9_leastThatBegins_0 rfl (lv_at hl 0 rfl) ?_
  refine va_get (ci := 9) (v := .ref (a 2)) hx hb hts wX9_in hown hK hP 0 rfl rfl 0 (by decide) (hts _ mw_2_67) (fun _ h9 => h9) rfl dX9_leastThatBegins_1 ?_
  refine lv_iload_n hx hb dX9_leastThatBegins_4 rfl (lv_at hl 2 rfl) ?_
  obtain ⟨r_15, hk_16, hf⟩ := pe_1 hf
  refine xv_i (As := [.int x2]) (rest := []) (q0 := 0) (ci := 7) Cx hP hD hS hl (pl_X9_X7 a cyI cyJ v9_refusals v7_rows v7_lengths v7_sizes v7_rests v7_orders v6_hooks v6_lefts v6_heights v1_table v5_known v8_sizes v8_coefficients v8_undoneSums v8_undos v8_nextUndo v8_imageTaken v0_totals v3_letters v3_count v3_next v3_size v4_values v4_lengths v7_rows v7_lengths v7_sizes v7_rests v7_orders) (c_X7_firstOf l D cyI cyJ G a H.size v7_rows v7_lengths v7_sizes v7_rests v7_orders x2 r_15 hk_16) pk_X7_firstOf mw_2_176 ⟨rfl, rfl, Nat.le_of_ble_eq_true rfl, Nat.le_of_ble_eq_true rfl⟩ rfl rfl rfl rfl rfl (Nat.le_of_ble_eq_true rfl) ⟨Nat.le_of_ble_eq_true rfl, Nat.le_of_ble_eq_true rfl⟩ dX9_leastThatBegins_5 (fun H locs hP hD hS => ?_)
  refine lv_aload_n hx hb dX9_leastThatBegins_8 rfl (lv_at hl 0 rfl) ?_
  refine va_get (ci := 9) (v := .ref (a 2)) hx hb hts wX9_in hown hK hP 0 rfl rfl 0 (by decide) (hts _ mw_2_67) (fun _ h9 => h9) rfl dX9_leastThatBegins_9 ?_
  refine lv_iload_n hx hb dX9_leastThatBegins_12 rfl (lv_at hl 2 rfl) ?_
  obtain ⟨r_17, hk_18, hf⟩ := pe_1 hf
  refine xv_i (As := [.int x2]) (rest := [.int r_15]) (q0 := 0) (ci := 7) Cx hP hD hS hl (pl_X9_X7 a cyI cyJ v9_refusals v7_rows v7_lengths v7_sizes v7_rests v7_orders v6_hooks v6_lefts v6_heights v1_table v5_known v8_sizes v8_coefficients v8_undoneSums v8_undos v8_nextUndo v8_imageTaken v0_totals v3_letters v3_count v3_next v3_size v4_values v4_lengths v7_rows v7_lengths v7_sizes v7_rests v7_orders) (c_X7_countOf l D cyI cyJ G a H.size v7_rows v7_lengths v7_sizes v7_rests v7_orders x2 r_17 hk_18) pk_X7_countOf mw_2_177 ⟨rfl, rfl, Nat.le_of_ble_eq_true rfl, Nat.le_of_ble_eq_true rfl⟩ rfl rfl rfl rfl rfl (Nat.le_of_ble_eq_true rfl) ⟨Nat.le_of_ble_eq_true rfl, Nat.le_of_ble_eq_true rfl⟩ dX9_leastThatBegins_13 (fun H locs hP hD hS => ?_)
  refine lv_iadd hx hb dX9_leastThatBegins_16 ?_
  refine lv_istore_n (lv' := [(3, .int (r_15 + r_17)), (0, .ref (a 0)), (1, .int x1), (2, .int x2)]) hx hb dX9_leastThatBegins_17 rfl hl (by decide) rfl (fun ls hl => ?_)
  refine lv_aload_n hx hb dX9_leastThatBegins_18 rfl (lv_at hl 1 rfl) ?_
  refine va_get (ci := 9) (v := .ref (a 2)) hx hb hts wX9_in hown hK hP 0 rfl rfl 0 (by decide) (hts _ mw_2_67) (fun _ h9 => h9) rfl dX9_leastThatBegins_19 ?_
  refine lv_iload_n hx hb dX9_leastThatBegins_22 rfl (lv_at hl 3 rfl) ?_
  obtain ⟨r_19, hk_20, hf⟩ := pe_1 hf
  refine xv_i (As := [.int x2]) (rest := []) (q0 := 0) (ci := 7) Cx hP hD hS hl (pl_X9_X7 a cyI cyJ v9_refusals v7_rows v7_lengths v7_sizes v7_rests v7_orders v6_hooks v6_lefts v6_heights v1_table v5_known v8_sizes v8_coefficients v8_undoneSums v8_undos v8_nextUndo v8_imageTaken v0_totals v3_letters v3_count v3_next v3_size v4_values v4_lengths v7_rows v7_lengths v7_sizes v7_rests v7_orders) (c_X7_firstOf l D cyI cyJ G a H.size v7_rows v7_lengths v7_sizes v7_rests v7_orders x2 r_19 hk_20) pk_X7_firstOf mw_2_176 ⟨rfl, rfl, Nat.le_of_ble_eq_true rfl, Nat.le_of_ble_eq_true rfl⟩ rfl rfl rfl rfl rfl (Nat.le_of_ble_eq_true rfl) ⟨Nat.le_of_ble_eq_true rfl, Nat.le_of_ble_eq_true rfl⟩ dX9_leastThatBegins_23 (fun H locs hP hD hS => ?_)
  refine lv_istore (lv' := [(4, .int r_19), (3, .int (r_15 + r_17)), (0, .ref (a 0)), (1, .int x1), (2, .int x2)]) hx hb dX9_leastThatBegins_26 hl (by decide) rfl (fun ls hl => ?_)
  exact w_28 1000 x1 (r_15 + r_17) r_19 H locs ls hf hP hD hS (lv_sub hl [2, 3, 1, 0] rfl)
def f_X9_which_57 (v7_sizes : Nat → Int32) (v1_table : Nat → Int32) (v4_values : Nat → Int32) (v4_lengths : Nat → Int32) (v9_refusals : Nat → Int32) (y1 : Int32) (y2 : Int32) (y3 : Int32) : Option (Int32 × (Nat → Int32)) := p_b1 (f_X4_isMissing v4_lengths y1) (fun r_1 => if r_1 = 0 then (if y3 = 0 then (p_b1 (f_X9_howManyBegin v7_sizes v1_table v4_values v4_lengths y1 y2) (fun r_8 => some (r_8, v9_refusals))) else (p_b1 (f_X9_leastThatBegins v7_sizes v1_table v4_values v4_lengths y1 y2) (fun r_6 => some (r_6, v9_refusals)))) else (some ((-11 : Int32), v9_refusals)))
def f_X9_which (v9_refusals : Nat → Int32) (v7_sizes : Nat → Int32) (v1_table : Nat → Int32) (v4_values : Nat → Int32) (v4_lengths : Nat → Int32) (x1 : Int32) (x2 : Int32) (x3 : Int32) : Option (Int32 × (Nat → Int32)) := p_b1 (f_X4_has x1) (fun r_10 => if r_10 = 0 then (p_b2 (f_X9_refuse v9_refusals (-1 : Int32)) (fun r_27 v9_refusals_28 => some (r_27, v9_refusals_28))) else (if 0 ≤ x2 then (if x2 ≤ (8 : Int32) then (if x3 = 0 then ((f_X9_which_57 v7_sizes v1_table v4_values v4_lengths) v9_refusals x1 x2 x3) else (if x3 = (1 : Int32) then ((f_X9_which_57 v7_sizes v1_table v4_values v4_lengths) v9_refusals x1 x2 x3) else (p_b2 (f_X9_refuse v9_refusals (-2 : Int32)) (fun r_18 v9_refusals_19 => some (r_18, v9_refusals_19))))) else (p_b2 (f_X9_refuse v9_refusals (-6 : Int32)) (fun r_21 v9_refusals_22 => some (r_21, v9_refusals_22)))) else (p_b2 (f_X9_refuse v9_refusals (-4 : Int32)) (fun r_24 v9_refusals_25 => some (r_24, v9_refusals_25)))))
set_option maxHeartbeats 4000000 in
set_option maxRecDepth 20000 in
theorem c_X9_which (l : Launch) (D : va_G) (cyI cyJ : ClassId) (G a : Nat → Nat) (sz : Nat) (v9_refusals : Nat → Int32) (v7_rows : Nat → Int32) (v7_lengths : Nat → Int32) (v7_sizes : Nat → Int32) (v7_rests : Nat → Int32) (v7_orders : Nat → Int32) (v6_hooks : Nat → Int32) (v6_lefts : Nat → Int32) (v6_heights : Nat → Int32) (v1_table : Nat → Int32) (v5_known : Nat → Int32) (v8_sizes : Nat → Int32) (v8_coefficients : Nat → Int32) (v8_undoneSums : Nat → Int32) (v8_undos : Int32) (v8_nextUndo : Int32) (v8_imageTaken : Int32) (v0_totals : Nat → Int64) (v3_letters : Nat → Int32) (v3_count : Int32) (v3_next : Int32) (v3_size : Int32) (v4_values : Nat → Int32) (v4_lengths : Nat → Int32) (x1 : Int32) (x2 : Int32) (x3 : Int32) (ro : Int32) (ov9_refusals : Nat → Int32) (hf : f_X9_which v9_refusals v7_sizes v1_table v4_values v4_lengths x1 x2 x3 = some (ro, ov9_refusals)) : xm_i l yX9_which (Cond.code yX9_which cX9_which 4 (some .int) :: xg_tbl) { frames := 6, cells := 0, slots := 0, locals := 135 } D xcl [(cyI, .int), (cyJ, .long)] G sz [.ref (a 0), .int x1, .int x2, .int x3] (wd_X9 a cyI cyJ v9_refusals v7_rows v7_lengths v7_sizes v7_rests v7_orders v6_hooks v6_lefts v6_heights v1_table v5_known v8_sizes v8_coefficients v8_undoneSums v8_undos v8_nextUndo v8_imageTaken v0_totals v3_letters v3_count v3_next v3_size v4_values v4_lengths) (wd_X9 a cyI cyJ ov9_refusals v7_rows v7_lengths v7_sizes v7_rests v7_orders v6_hooks v6_lefts v6_heights v1_table v5_known v8_sizes v8_coefficients v8_undoneSums v8_undos v8_nextUndo v8_imageTaken v0_totals v3_letters v3_count v3_next v3_size v4_values v4_lengths) ro := by
  refine xm_of_i (own := RX9) (by decide) rfl rfl (Nat.le_of_ble_eq_true rfl) ?_
  intro p e s m args below meth c ls Q A hQ hAe hin Cx hsz hP hD hS hl
  have Cx1 := Cx
  obtain ⟨⟨hx, hb, hml, hown, hts⟩, hr, hlocks, hK, hA, hT⟩ := Cx1
  have hl : lv_has ls 4 [(0, .ref (a 0)), (1, .int x1), (2, .int x2), (3, .int x3)] := hl
  obtain ⟨H, eH⟩ : ∃ H, H = s.heap := ⟨_, rfl⟩
  obtain ⟨locs, eL⟩ : ∃ L : List Loc, L = [] := ⟨_, rfl⟩
  rw [← eH] at hP
  have hS : va_S A s.heap H locs := by rw [eH, eL]; exact hS
  suffices hgo : W p l e { frames := 6, cells := 0, slots := 0, locals := 135 } s m args below meth c H locs 0 0 Q (F0 m 0 ls []) by rw [eH, eL] at hgo; exact hgo
  clear eH eL
  unfold f_X9_which at hf
  have w_57 : ∀ (v9_refusals : Nat → Int32) (y1 : Int32) (y2 : Int32) (y3 : Int32) (H : Heap) (locs : List Loc) (ls : Array Slot), (f_X9_which_57 v7_sizes v1_table v4_values v4_lengths) v9_refusals y1 y2 y3 = some (ro, ov9_refusals) → va_P D xcl (wd_X9 a cyI cyJ v9_refusals v7_rows v7_lengths v7_sizes v7_rests v7_orders v6_hooks v6_lefts v6_heights v1_table v5_known v8_sizes v8_coefficients v8_undoneSums v8_undos v8_nextUndo v8_imageTaken v0_totals v3_letters v3_count v3_next v3_size v4_values v4_lengths) H → va_D A (wd_X9 a cyI cyJ v9_refusals v7_rows v7_lengths v7_sizes v7_rests v7_orders v6_hooks v6_lefts v6_heights v1_table v5_known v8_sizes v8_coefficients v8_undoneSums v8_undos v8_nextUndo v8_imageTaken v0_totals v3_letters v3_count v3_next v3_size v4_values v4_lengths) → va_S A s.heap H locs → lv_has ls 4 [(0, .ref (a 0)), (1, .int y1), (2, .int y2), (3, .int y3)] → W p l e { frames := 6, cells := 0, slots := 0, locals := 135 } s m args below meth c H locs 0 0 Q (F0 m 57 ls []) := by
    intro v9_refusals y1 y2 y3 H locs ls hf hP hD hS hl
    unfold f_X9_which_57 at hf
    refine lv_aload_n hx hb dX9_which_57 rfl (lv_at hl 0 rfl) ?_
    refine va_get (ci := 9) (v := .ref (a 25)) hx hb hts wX9_in hown hK hP 0 rfl rfl 8 (by decide) (hts _ mw_2_75) (fun _ h9 => h9) rfl dX9_which_58 ?_
    refine lv_iload_n hx hb dX9_which_61 rfl (lv_at hl 1 rfl) ?_
    obtain ⟨r_30, hk_31, hf⟩ := pe_1 hf
    refine xv_z (As := [.int y1]) (rest := []) (q0 := 0) (ci := 4) Cx hP hD hS hl (pl_X9_X4 a cyI cyJ v9_refusals v7_rows v7_lengths v7_sizes v7_rests v7_orders v6_hooks v6_lefts v6_heights v1_table v5_known v8_sizes v8_coefficients v8_undoneSums v8_undos v8_nextUndo v8_imageTaken v0_totals v3_letters v3_count v3_next v3_size v4_values v4_lengths v4_values v4_lengths) (c_X4_isMissing l D cyI cyJ G a H.size v4_values v4_lengths y1 r_30 hk_31) pk_X4_isMissing mw_2_148 ⟨rfl, rfl, Nat.le_of_ble_eq_true rfl, Nat.le_of_ble_eq_true rfl⟩ rfl rfl rfl rfl rfl (Nat.le_of_ble_eq_true rfl) ⟨Nat.le_of_ble_eq_true rfl, Nat.le_of_ble_eq_true rfl⟩ dX9_which_62 (fun H locs hn_32 hP hD hS => ?_)
    refine lv_if_eq (tgt := 71) hx hb dX9_which_65 (by decide) (fun hc_33 => ?_) (fun hc_33 => ?_)
    · have hf := pe_t hf hc_33
      refine lv_iload_n hx hb dX9_which_71 rfl (lv_at hl 3 rfl) ?_
      refine lv_if_ne (tgt := 84) hx hb dX9_which_72 (by decide) (fun hc_34 => ?_) (fun hc_34 => ?_)
      · have hf := pe_f hf hc_34
        refine lv_aload_n hx hb dX9_which_84 rfl (lv_at hl 0 rfl) ?_
        refine lv_iload_n hx hb dX9_which_85 rfl (lv_at hl 1 rfl) ?_
        refine lv_iload_n hx hb dX9_which_86 rfl (lv_at hl 2 rfl) ?_
        obtain ⟨r_35, hk_36, hf⟩ := pe_1 hf
        refine xv_i (As := [.int y1, .int y2]) (rest := []) (q0 := 0) (ci := 9) Cx hP hD hS hl (pl_X9_X9 a cyI cyJ v9_refusals v7_rows v7_lengths v7_sizes v7_rests v7_orders v6_hooks v6_lefts v6_heights v1_table v5_known v8_sizes v8_coefficients v8_undoneSums v8_undos v8_nextUndo v8_imageTaken v0_totals v3_letters v3_count v3_next v3_size v4_values v4_lengths v9_refusals v7_rows v7_lengths v7_sizes v7_rests v7_orders v6_hooks v6_lefts v6_heights v1_table v5_known v8_sizes v8_coefficients v8_undoneSums v8_undos v8_nextUndo v8_imageTaken v0_totals v3_letters v3_count v3_next v3_size v4_values v4_lengths) (c_X9_leastThatBegins l D cyI cyJ G a H.size v9_refusals v7_rows v7_lengths v7_sizes v7_rests v7_orders v6_hooks v6_lefts v6_heights v1_table v5_known v8_sizes v8_coefficients v8_undoneSums v8_undos v8_nextUndo v8_imageTaken v0_totals v3_letters v3_count v3_next v3_size v4_values v4_lengths y1 y2 r_35 hk_36) pk_X9_leastThatBegins mw_4_103 ⟨rfl, rfl, Nat.le_of_ble_eq_true rfl, Nat.le_of_ble_eq_true rfl⟩ rfl rfl rfl rfl rfl (Nat.le_of_ble_eq_true rfl) ⟨Nat.le_of_ble_eq_true rfl, Nat.le_of_ble_eq_true rfl⟩ dX9_which_87 (fun H locs hP hD hS => ?_)
        obtain ⟨rfl, rfl⟩ := po_2 hf
        rw [← hQ]; exact xe_iret Cx rfl hP hD hS dX9_which_90
      · have hf := pe_t hf hc_34
        refine lv_aload_n hx hb dX9_which_75 rfl (lv_at hl 0 rfl) ?_
        refine lv_iload_n hx hb dX9_which_76 rfl (lv_at hl 1 rfl) ?_
        refine lv_iload_n hx hb dX9_which_77 rfl (lv_at hl 2 rfl) ?_
        obtain ⟨r_37, hk_38, hf⟩ := pe_1 hf
        refine xv_i (As := [.int y1, .int y2]) (rest := []) (q0 := 0) (ci := 9) Cx hP hD hS hl (pl_X9_X9 a cyI cyJ v9_refusals v7_rows v7_lengths v7_sizes v7_rests v7_orders v6_hooks v6_lefts v6_heights v1_table v5_known v8_sizes v8_coefficients v8_undoneSums v8_undos v8_nextUndo v8_imageTaken v0_totals v3_letters v3_count v3_next v3_size v4_values v4_lengths v9_refusals v7_rows v7_lengths v7_sizes v7_rests v7_orders v6_hooks v6_lefts v6_heights v1_table v5_known v8_sizes v8_coefficients v8_undoneSums v8_undos v8_nextUndo v8_imageTaken v0_totals v3_letters v3_count v3_next v3_size v4_values v4_lengths) (c_X9_howManyBegin l D cyI cyJ G a H.size v9_refusals v7_rows v7_lengths v7_sizes v7_rests v7_orders v6_hooks v6_lefts v6_heights v1_table v5_known v8_sizes v8_coefficients v8_undoneSums v8_undos v8_nextUndo v8_imageTaken v0_totals v3_letters v3_count v3_next v3_size v4_values v4_lengths y1 y2 r_37 hk_38) pk_X9_howManyBegin mw_4_99 ⟨rfl, rfl, Nat.le_of_ble_eq_true rfl, Nat.le_of_ble_eq_true rfl⟩ rfl rfl rfl rfl rfl (Nat.le_of_ble_eq_true rfl) ⟨Nat.le_of_ble_eq_true rfl, Nat.le_of_ble_eq_true rfl⟩ dX9_which_78 (fun H locs hP hD hS => ?_)
        refine lv_goto (tgt := 90) hx hb dX9_which_81 (by decide) ?_
        obtain ⟨rfl, rfl⟩ := po_2 hf
        rw [← hQ]; exact xe_iret Cx rfl hP hD hS dX9_which_90
    · have hf := pe_f hf hc_33
      refine lv_bipush (v := (-11 : Int32)) hx hb dX9_which_68 (by decide) ?_
      obtain ⟨rfl, rfl⟩ := po_2 hf
      rw [← hQ]; exact xe_iret Cx rfl hP hD hS dX9_which_70
  refine lv_aload_n hx hb dX9_which_0 rfl (lv_at hl 0 rfl) ?_
  refine va_get (ci := 9) (v := .ref (a 25)) hx hb hts wX9_in hown hK hP 0 rfl rfl 8 (by decide) (hts _ mw_2_75) (fun _ h9 => h9) rfl dX9_which_1 ?_
  refine lv_iload_n hx hb dX9_which_4 rfl (lv_at hl 1 rfl) ?_
  obtain ⟨r_39, hk_40, hf⟩ := pe_1 hf
  refine xv_z (As := [.int x1]) (rest := []) (q0 := 0) (ci := 4) Cx hP hD hS hl (pl_X9_X4 a cyI cyJ v9_refusals v7_rows v7_lengths v7_sizes v7_rests v7_orders v6_hooks v6_lefts v6_heights v1_table v5_known v8_sizes v8_coefficients v8_undoneSums v8_undos v8_nextUndo v8_imageTaken v0_totals v3_letters v3_count v3_next v3_size v4_values v4_lengths v4_values v4_lengths) (c_X4_has l D cyI cyJ G a H.size v4_values v4_lengths x1 r_39 hk_40) pk_X4_has mw_2_144 ⟨rfl, rfl, Nat.le_of_ble_eq_true rfl, Nat.le_of_ble_eq_true rfl⟩ rfl rfl rfl rfl rfl (Nat.le_of_ble_eq_true rfl) ⟨Nat.le_of_ble_eq_true rfl, Nat.le_of_ble_eq_true rfl⟩ dX9_which_5 (fun H locs hn_41 hP hD hS => ?_)
  refine lv_if_ne (tgt := 17) hx hb dX9_which_8 (by decide) (fun hc_42 => ?_) (fun hc_42 => ?_)
  · have hf := pe_f hf hc_42
    refine lv_iload_n hx hb dX9_which_17 rfl (lv_at hl 2 rfl) ?_
    refine lv_if_ge (tgt := 28) hx hb dX9_which_18 (by decide) (fun hc_43 => ?_) (fun hc_43 => ?_)
    · have hf := pe_t hf hc_43
      refine lv_iload_n hx hb dX9_which_28 rfl (lv_at hl 2 rfl) ?_
      refine lv_bipush (v := (8 : Int32)) hx hb dX9_which_29 (by decide) ?_
      refine lv_icmp_le (tgt := 41) hx hb dX9_which_31 (by decide) (fun hc_44 => ?_) (fun hc_44 => ?_)
      · have hf := pe_t hf hc_44
        refine lv_iload_n hx hb dX9_which_41 rfl (lv_at hl 3 rfl) ?_
        refine lv_if_eq (tgt := 57) hx hb dX9_which_42 (by decide) (fun hc_45 => ?_) (fun hc_45 => ?_)
        · have hf := pe_t hf hc_45
          exact w_57 v9_refusals x1 x2 x3 H locs ls hf hP hD hS (lv_sub hl [0, 1, 2, 3] rfl)
        · have hf := pe_f hf hc_45
          refine lv_iload_n hx hb dX9_which_45 rfl (lv_at hl 3 rfl) ?_
          refine lv_iconst (v := (1 : Int32)) hx hb dX9_which_46 (by decide) ?_
          refine lv_icmp_eq (tgt := 57) hx hb dX9_which_47 (by decide) (fun hc_46 => ?_) (fun hc_46 => ?_)
          · have hf := pe_t hf hc_46
            exact w_57 v9_refusals x1 x2 x3 H locs ls hf hP hD hS (lv_sub hl [0, 1, 2, 3] rfl)
          · have hf := pe_f hf hc_46
            refine lv_aload_n hx hb dX9_which_50 rfl (lv_at hl 0 rfl) ?_
            refine lv_bipush (v := (-2 : Int32)) hx hb dX9_which_51 (by decide) ?_
            obtain ⟨r_47, v9_refusals_48, hk_49, hf⟩ := pe_2 hf
            refine xv_i (As := [.int (-2 : Int32)]) (rest := []) (q0 := 0) (ci := 9) Cx hP hD hS hl (pl_X9_X9 a cyI cyJ v9_refusals v7_rows v7_lengths v7_sizes v7_rests v7_orders v6_hooks v6_lefts v6_heights v1_table v5_known v8_sizes v8_coefficients v8_undoneSums v8_undos v8_nextUndo v8_imageTaken v0_totals v3_letters v3_count v3_next v3_size v4_values v4_lengths v9_refusals_48 v7_rows v7_lengths v7_sizes v7_rests v7_orders v6_hooks v6_lefts v6_heights v1_table v5_known v8_sizes v8_coefficients v8_undoneSums v8_undos v8_nextUndo v8_imageTaken v0_totals v3_letters v3_count v3_next v3_size v4_values v4_lengths) (c_X9_refuse l D cyI cyJ G a H.size v9_refusals v7_rows v7_lengths v7_sizes v7_rests v7_orders v6_hooks v6_lefts v6_heights v1_table v5_known v8_sizes v8_coefficients v8_undoneSums v8_undos v8_nextUndo v8_imageTaken v0_totals v3_letters v3_count v3_next v3_size v4_values v4_lengths (-2 : Int32) r_47 v9_refusals_48 hk_49) pk_X9_refuse mw_2_103 ⟨rfl, rfl, Nat.le_of_ble_eq_true rfl, Nat.le_of_ble_eq_true rfl⟩ rfl rfl rfl rfl rfl (Nat.le_of_ble_eq_true rfl) ⟨Nat.le_of_ble_eq_true rfl, Nat.le_of_ble_eq_true rfl⟩ dX9_which_53 (fun H locs hP hD hS => ?_)
            obtain ⟨rfl, rfl⟩ := po_2 hf
            rw [← hQ]; exact xe_iret Cx rfl hP hD hS dX9_which_56
      · have hf := pe_f hf hc_44
        refine lv_aload_n hx hb dX9_which_34 rfl (lv_at hl 0 rfl) ?_
        refine lv_bipush (v := (-6 : Int32)) hx hb dX9_which_35 (by decide) ?_
        obtain ⟨r_50, v9_refusals_51, hk_52, hf⟩ := pe_2 hf
        refine xv_i (As := [.int (-6 : Int32)]) (rest := []) (q0 := 0) (ci := 9) Cx hP hD hS hl (pl_X9_X9 a cyI cyJ v9_refusals v7_rows v7_lengths v7_sizes v7_rests v7_orders v6_hooks v6_lefts v6_heights v1_table v5_known v8_sizes v8_coefficients v8_undoneSums v8_undos v8_nextUndo v8_imageTaken v0_totals v3_letters v3_count v3_next v3_size v4_values v4_lengths v9_refusals_51 v7_rows v7_lengths v7_sizes v7_rests v7_orders v6_hooks v6_lefts v6_heights v1_table v5_known v8_sizes v8_coefficients v8_undoneSums v8_undos v8_nextUndo v8_imageTaken v0_totals v3_letters v3_count v3_next v3_size v4_values v4_lengths) (c_X9_refuse l D cyI cyJ G a H.size v9_refusals v7_rows v7_lengths v7_sizes v7_rests v7_orders v6_hooks v6_lefts v6_heights v1_table v5_known v8_sizes v8_coefficients v8_undoneSums v8_undos v8_nextUndo v8_imageTaken v0_totals v3_letters v3_count v3_next v3_size v4_values v4_lengths (-6 : Int32) r_50 v9_refusals_51 hk_52) pk_X9_refuse mw_2_103 ⟨rfl, rfl, Nat.le_of_ble_eq_true rfl, Nat.le_of_ble_eq_true rfl⟩ rfl rfl rfl rfl rfl (Nat.le_of_ble_eq_true rfl) ⟨Nat.le_of_ble_eq_true rfl, Nat.le_of_ble_eq_true rfl⟩ dX9_which_37 (fun H locs hP hD hS => ?_)
        obtain ⟨rfl, rfl⟩ := po_2 hf
        rw [← hQ]; exact xe_iret Cx rfl hP hD hS dX9_which_40
    · have hf := pe_f hf hc_43
      refine lv_aload_n hx hb dX9_which_21 rfl (lv_at hl 0 rfl) ?_
      refine lv_bipush (v := (-4 : Int32)) hx hb dX9_which_22 (by decide) ?_
      obtain ⟨r_53, v9_refusals_54, hk_55, hf⟩ := pe_2 hf
      refine xv_i (As := [.int (-4 : Int32)]) (rest := []) (q0 := 0) (ci := 9) Cx hP hD hS hl (pl_X9_X9 a cyI cyJ v9_refusals v7_rows v7_lengths v7_sizes v7_rests v7_orders v6_hooks v6_lefts v6_heights v1_table v5_known v8_sizes v8_coefficients v8_undoneSums v8_undos v8_nextUndo v8_imageTaken v0_totals v3_letters v3_count v3_next v3_size v4_values v4_lengths v9_refusals_54 v7_rows v7_lengths v7_sizes v7_rests v7_orders v6_hooks v6_lefts v6_heights v1_table v5_known v8_sizes v8_coefficients v8_undoneSums v8_undos v8_nextUndo v8_imageTaken v0_totals v3_letters v3_count v3_next v3_size v4_values v4_lengths) (c_X9_refuse l D cyI cyJ G a H.size v9_refusals v7_rows v7_lengths v7_sizes v7_rests v7_orders v6_hooks v6_lefts v6_heights v1_table v5_known v8_sizes v8_coefficients v8_undoneSums v8_undos v8_nextUndo v8_imageTaken v0_totals v3_letters v3_count v3_next v3_size v4_values v4_lengths (-4 : Int32) r_53 v9_refusals_54 hk_55) pk_X9_refuse mw_2_103 ⟨rfl, rfl, Nat.le_of_ble_eq_true rfl, Nat.le_of_ble_eq_true rfl⟩ rfl rfl rfl rfl rfl (Nat.le_of_ble_eq_true rfl) ⟨Nat.le_of_ble_eq_true rfl, Nat.le_of_ble_eq_true rfl⟩ dX9_which_24 (fun H locs hP hD hS => ?_)
      obtain ⟨rfl, rfl⟩ := po_2 hf
      rw [← hQ]; exact xe_iret Cx rfl hP hD hS dX9_which_27
  · have hf := pe_t hf hc_42
    refine lv_aload_n hx hb dX9_which_11 rfl (lv_at hl 0 rfl) ?_
    refine lv_iconst (v := (-1 : Int32)) hx hb dX9_which_12 (by decide) ?_
    obtain ⟨r_56, v9_refusals_57, hk_58, hf⟩ := pe_2 hf
    refine xv_i (As := [.int (-1 : Int32)]) (rest := []) (q0 := 0) (ci := 9) Cx hP hD hS hl (pl_X9_X9 a cyI cyJ v9_refusals v7_rows v7_lengths v7_sizes v7_rests v7_orders v6_hooks v6_lefts v6_heights v1_table v5_known v8_sizes v8_coefficients v8_undoneSums v8_undos v8_nextUndo v8_imageTaken v0_totals v3_letters v3_count v3_next v3_size v4_values v4_lengths v9_refusals_57 v7_rows v7_lengths v7_sizes v7_rests v7_orders v6_hooks v6_lefts v6_heights v1_table v5_known v8_sizes v8_coefficients v8_undoneSums v8_undos v8_nextUndo v8_imageTaken v0_totals v3_letters v3_count v3_next v3_size v4_values v4_lengths) (c_X9_refuse l D cyI cyJ G a H.size v9_refusals v7_rows v7_lengths v7_sizes v7_rests v7_orders v6_hooks v6_lefts v6_heights v1_table v5_known v8_sizes v8_coefficients v8_undoneSums v8_undos v8_nextUndo v8_imageTaken v0_totals v3_letters v3_count v3_next v3_size v4_values v4_lengths (-1 : Int32) r_56 v9_refusals_57 hk_58) pk_X9_refuse mw_2_103 ⟨rfl, rfl, Nat.le_of_ble_eq_true rfl, Nat.le_of_ble_eq_true rfl⟩ rfl rfl rfl rfl rfl (Nat.le_of_ble_eq_true rfl) ⟨Nat.le_of_ble_eq_true rfl, Nat.le_of_ble_eq_true rfl⟩ dX9_which_13 (fun H locs hP hD hS => ?_)
    obtain ⟨rfl, rfl⟩ := po_2 hf
    rw [← hQ]; exact xe_iret Cx rfl hP hD hS dX9_which_16
def f_X9_undo (v9_refusals : Nat → Int32) (v8_sizes : Nat → Int32) (v8_coefficients : Nat → Int32) (v8_undoneSums : Nat → Int32) (v8_undos : Int32) (v8_nextUndo : Int32) : Option (Int32 × (Nat → Int32) × (Nat → Int32) × (Nat → Int32) × Int32 × Int32) := p_b5 (f_X8_undoLatest v8_sizes v8_coefficients v8_undoneSums v8_undos v8_nextUndo) (fun r_1 v8_sizes_2 v8_coefficients_3 v8_undos_4 v8_nextUndo_5 => if r_1 = 0 then (p_b2 (f_X9_refuse v9_refusals (-3 : Int32)) (fun r_9 v9_refusals_10 => some (r_9, v9_refusals_10, v8_sizes_2, v8_coefficients_3, v8_undos_4, v8_nextUndo_5))) else (p_b1 (f_X8_howManyUndos v8_undos_4) (fun r_12 => some (r_12, v9_refusals, v8_sizes_2, v8_coefficients_3, v8_undos_4, v8_nextUndo_5))))
set_option maxHeartbeats 4000000 in
set_option maxRecDepth 20000 in
theorem c_X9_undo (l : Launch) (D : va_G) (cyI cyJ : ClassId) (G a : Nat → Nat) (sz : Nat) (v9_refusals : Nat → Int32) (v7_rows : Nat → Int32) (v7_lengths : Nat → Int32) (v7_sizes : Nat → Int32) (v7_rests : Nat → Int32) (v7_orders : Nat → Int32) (v6_hooks : Nat → Int32) (v6_lefts : Nat → Int32) (v6_heights : Nat → Int32) (v1_table : Nat → Int32) (v5_known : Nat → Int32) (v8_sizes : Nat → Int32) (v8_coefficients : Nat → Int32) (v8_undoneSums : Nat → Int32) (v8_undos : Int32) (v8_nextUndo : Int32) (v8_imageTaken : Int32) (v0_totals : Nat → Int64) (v3_letters : Nat → Int32) (v3_count : Int32) (v3_next : Int32) (v3_size : Int32) (v4_values : Nat → Int32) (v4_lengths : Nat → Int32) (ro : Int32) (ov9_refusals : Nat → Int32) (ov8_sizes : Nat → Int32) (ov8_coefficients : Nat → Int32) (ov8_undos : Int32) (ov8_nextUndo : Int32) (hf : f_X9_undo v9_refusals v8_sizes v8_coefficients v8_undoneSums v8_undos v8_nextUndo = some (ro, ov9_refusals, ov8_sizes, ov8_coefficients, ov8_undos, ov8_nextUndo)) : xm_i l yX9_undo (Cond.code yX9_undo cX9_undo 1 (some .int) :: xg_tbl) { frames := 3, cells := 0, slots := 0, locals := 111 } D xcl [(cyI, .int), (cyJ, .long)] G sz [.ref (a 0)] (wd_X9 a cyI cyJ v9_refusals v7_rows v7_lengths v7_sizes v7_rests v7_orders v6_hooks v6_lefts v6_heights v1_table v5_known v8_sizes v8_coefficients v8_undoneSums v8_undos v8_nextUndo v8_imageTaken v0_totals v3_letters v3_count v3_next v3_size v4_values v4_lengths) (wd_X9 a cyI cyJ ov9_refusals v7_rows v7_lengths v7_sizes v7_rests v7_orders v6_hooks v6_lefts v6_heights v1_table v5_known ov8_sizes ov8_coefficients v8_undoneSums ov8_undos ov8_nextUndo v8_imageTaken v0_totals v3_letters v3_count v3_next v3_size v4_values v4_lengths) ro := by
  refine xm_of_i (own := RX9) (by decide) rfl rfl (Nat.le_of_ble_eq_true rfl) ?_
  intro p e s m args below meth c ls Q A hQ hAe hin Cx hsz hP hD hS hl
  have Cx1 := Cx
  obtain ⟨⟨hx, hb, hml, hown, hts⟩, hr, hlocks, hK, hA, hT⟩ := Cx1
  have hl : lv_has ls 1 [(0, .ref (a 0))] := hl
  obtain ⟨H, eH⟩ : ∃ H, H = s.heap := ⟨_, rfl⟩
  obtain ⟨locs, eL⟩ : ∃ L : List Loc, L = [] := ⟨_, rfl⟩
  rw [← eH] at hP
  have hS : va_S A s.heap H locs := by rw [eH, eL]; exact hS
  suffices hgo : W p l e { frames := 3, cells := 0, slots := 0, locals := 111 } s m args below meth c H locs 0 0 Q (F0 m 0 ls []) by rw [eH, eL] at hgo; exact hgo
  clear eH eL
  unfold f_X9_undo at hf
  refine lv_aload_n hx hb dX9_undo_0 rfl (lv_at hl 0 rfl) ?_
  refine va_get (ci := 9) (v := .ref (a 17)) hx hb hts wX9_in hown hK hP 0 rfl rfl 5 (by decide) (hts _ mw_2_72) (fun _ h9 => h9) rfl dX9_undo_1 ?_
  obtain ⟨r_14, v8_sizes_15, v8_coefficients_16, v8_undos_17, v8_nextUndo_18, hk_19, hf⟩ := pe_5 hf
  refine xv_z (As := []) (rest := []) (q0 := 0) (ci := 8) Cx hP hD hS hl (pl_X9_X8 a cyI cyJ v9_refusals v7_rows v7_lengths v7_sizes v7_rests v7_orders v6_hooks v6_lefts v6_heights v1_table v5_known v8_sizes v8_coefficients v8_undoneSums v8_undos v8_nextUndo v8_imageTaken v0_totals v3_letters v3_count v3_next v3_size v4_values v4_lengths v8_sizes_15 v8_coefficients_16 v8_undoneSums v8_undos_17 v8_nextUndo_18 v8_imageTaken) (c_X8_undoLatest l D cyI cyJ G a H.size v8_sizes v8_coefficients v8_undoneSums v8_undos v8_nextUndo v8_imageTaken r_14 v8_sizes_15 v8_coefficients_16 v8_undos_17 v8_nextUndo_18 hk_19) pk_X8_undoLatest mw_4_111 ⟨rfl, rfl, Nat.le_of_ble_eq_true rfl, Nat.le_of_ble_eq_true rfl⟩ rfl rfl rfl rfl rfl (Nat.le_of_ble_eq_true rfl) ⟨Nat.le_of_ble_eq_true rfl, Nat.le_of_ble_eq_true rfl⟩ dX9_undo_4 (fun H locs hn_20 hP hD hS => ?_)
  refine lv_if_eq (tgt := 20) hx hb dX9_undo_7 (by decide) (fun hc_21 => ?_) (fun hc_21 => ?_)
  · have hf := pe_t hf hc_21
    refine lv_aload_n hx hb dX9_undo_20 rfl (lv_at hl 0 rfl) ?_
    refine lv_bipush (v := (-3 : Int32)) hx hb dX9_undo_21 (by decide) ?_
    obtain ⟨r_22, v9_refusals_23, hk_24, hf⟩ := pe_2 hf
    refine xv_i (As := [.int (-3 : Int32)]) (rest := []) (q0 := 0) (ci := 9) Cx hP hD hS hl (pl_X9_X9 a cyI cyJ v9_refusals v7_rows v7_lengths v7_sizes v7_rests v7_orders v6_hooks v6_lefts v6_heights v1_table v5_known v8_sizes_15 v8_coefficients_16 v8_undoneSums v8_undos_17 v8_nextUndo_18 v8_imageTaken v0_totals v3_letters v3_count v3_next v3_size v4_values v4_lengths v9_refusals_23 v7_rows v7_lengths v7_sizes v7_rests v7_orders v6_hooks v6_lefts v6_heights v1_table v5_known v8_sizes_15 v8_coefficients_16 v8_undoneSums v8_undos_17 v8_nextUndo_18 v8_imageTaken v0_totals v3_letters v3_count v3_next v3_size v4_values v4_lengths) (c_X9_refuse l D cyI cyJ G a H.size v9_refusals v7_rows v7_lengths v7_sizes v7_rests v7_orders v6_hooks v6_lefts v6_heights v1_table v5_known v8_sizes_15 v8_coefficients_16 v8_undoneSums v8_undos_17 v8_nextUndo_18 v8_imageTaken v0_totals v3_letters v3_count v3_next v3_size v4_values v4_lengths (-3 : Int32) r_22 v9_refusals_23 hk_24) pk_X9_refuse mw_2_103 ⟨rfl, rfl, Nat.le_of_ble_eq_true rfl, Nat.le_of_ble_eq_true rfl⟩ rfl rfl rfl rfl rfl (Nat.le_of_ble_eq_true rfl) ⟨Nat.le_of_ble_eq_true rfl, Nat.le_of_ble_eq_true rfl⟩ dX9_undo_23 (fun H locs hP hD hS => ?_)
    obtain ⟨rfl, rfl, rfl, rfl, rfl, rfl⟩ := po_6 hf
    rw [← hQ]; exact xe_iret Cx rfl hP hD hS dX9_undo_26
  · have hf := pe_f hf hc_21
    refine lv_aload_n hx hb dX9_undo_10 rfl (lv_at hl 0 rfl) ?_
    refine va_get (ci := 9) (v := .ref (a 17)) hx hb hts wX9_in hown hK hP 0 rfl rfl 5 (by decide) (hts _ mw_2_72) (fun _ h9 => h9) rfl dX9_undo_11 ?_
    obtain ⟨r_25, hk_26, hf⟩ := pe_1 hf
    refine xv_i (As := []) (rest := []) (q0 := 0) (ci := 8) Cx hP hD hS hl (pl_X9_X8 a cyI cyJ v9_refusals v7_rows v7_lengths v7_sizes v7_rests v7_orders v6_hooks v6_lefts v6_heights v1_table v5_known v8_sizes_15 v8_coefficients_16 v8_undoneSums v8_undos_17 v8_nextUndo_18 v8_imageTaken v0_totals v3_letters v3_count v3_next v3_size v4_values v4_lengths v8_sizes_15 v8_coefficients_16 v8_undoneSums v8_undos_17 v8_nextUndo_18 v8_imageTaken) (c_X8_howManyUndos l D cyI cyJ G a H.size v8_sizes_15 v8_coefficients_16 v8_undoneSums v8_undos_17 v8_nextUndo_18 v8_imageTaken r_25 hk_26) pk_X8_howManyUndos mw_4_115 ⟨rfl, rfl, Nat.le_of_ble_eq_true rfl, Nat.le_of_ble_eq_true rfl⟩ rfl rfl rfl rfl rfl (Nat.le_of_ble_eq_true rfl) ⟨Nat.le_of_ble_eq_true rfl, Nat.le_of_ble_eq_true rfl⟩ dX9_undo_14 (fun H locs hP hD hS => ?_)
    refine lv_goto (tgt := 26) hx hb dX9_undo_17 (by decide) ?_
    obtain ⟨rfl, rfl, rfl, rfl, rfl, rfl⟩ := po_6 hf
    rw [← hQ]; exact xe_iret Cx rfl hP hD hS dX9_undo_26
def f_X9_image (v8_sizes : Nat → Int32) (v8_coefficients : Nat → Int32) (v8_imageTaken : Int32) : Option (Int32 × (Nat → Int32) × (Nat → Int32) × Int32) := p_b3 (f_X8_takeImage v8_sizes v8_coefficients v8_imageTaken) (fun v8_sizes_1 v8_coefficients_2 v8_imageTaken_3 => p_b1 (f_X8_howMany v8_sizes_1) (fun r_5 => some (r_5, v8_sizes_1, v8_coefficients_2, v8_imageTaken_3)))
set_option maxHeartbeats 4000000 in
set_option maxRecDepth 20000 in
theorem c_X9_image (l : Launch) (D : va_G) (cyI cyJ : ClassId) (G a : Nat → Nat) (sz : Nat) (v9_refusals : Nat → Int32) (v7_rows : Nat → Int32) (v7_lengths : Nat → Int32) (v7_sizes : Nat → Int32) (v7_rests : Nat → Int32) (v7_orders : Nat → Int32) (v6_hooks : Nat → Int32) (v6_lefts : Nat → Int32) (v6_heights : Nat → Int32) (v1_table : Nat → Int32) (v5_known : Nat → Int32) (v8_sizes : Nat → Int32) (v8_coefficients : Nat → Int32) (v8_undoneSums : Nat → Int32) (v8_undos : Int32) (v8_nextUndo : Int32) (v8_imageTaken : Int32) (v0_totals : Nat → Int64) (v3_letters : Nat → Int32) (v3_count : Int32) (v3_next : Int32) (v3_size : Int32) (v4_values : Nat → Int32) (v4_lengths : Nat → Int32) (ro : Int32) (ov8_sizes : Nat → Int32) (ov8_coefficients : Nat → Int32) (ov8_imageTaken : Int32) (hf : f_X9_image v8_sizes v8_coefficients v8_imageTaken = some (ro, ov8_sizes, ov8_coefficients, ov8_imageTaken)) : xm_i l yX9_image (Cond.code yX9_image cX9_image 1 (some .int) :: xg_tbl) { frames := 4, cells := 0, slots := 0, locals := 111 } D xcl [(cyI, .int), (cyJ, .long)] G sz [.ref (a 0)] (wd_X9 a cyI cyJ v9_refusals v7_rows v7_lengths v7_sizes v7_rests v7_orders v6_hooks v6_lefts v6_heights v1_table v5_known v8_sizes v8_coefficients v8_undoneSums v8_undos v8_nextUndo v8_imageTaken v0_totals v3_letters v3_count v3_next v3_size v4_values v4_lengths) (wd_X9 a cyI cyJ v9_refusals v7_rows v7_lengths v7_sizes v7_rests v7_orders v6_hooks v6_lefts v6_heights v1_table v5_known ov8_sizes ov8_coefficients v8_undoneSums v8_undos v8_nextUndo ov8_imageTaken v0_totals v3_letters v3_count v3_next v3_size v4_values v4_lengths) ro := by
  refine xm_of_i (own := RX9) (by decide) rfl rfl (Nat.le_of_ble_eq_true rfl) ?_
  intro p e s m args below meth c ls Q A hQ hAe hin Cx hsz hP hD hS hl
  have Cx1 := Cx
  obtain ⟨⟨hx, hb, hml, hown, hts⟩, hr, hlocks, hK, hA, hT⟩ := Cx1
  have hl : lv_has ls 1 [(0, .ref (a 0))] := hl
  obtain ⟨H, eH⟩ : ∃ H, H = s.heap := ⟨_, rfl⟩
  obtain ⟨locs, eL⟩ : ∃ L : List Loc, L = [] := ⟨_, rfl⟩
  rw [← eH] at hP
  have hS : va_S A s.heap H locs := by rw [eH, eL]; exact hS
  suffices hgo : W p l e { frames := 4, cells := 0, slots := 0, locals := 111 } s m args below meth c H locs 0 0 Q (F0 m 0 ls []) by rw [eH, eL] at hgo; exact hgo
  clear eH eL
  unfold f_X9_image at hf
  refine lv_aload_n hx hb dX9_image_0 rfl (lv_at hl 0 rfl) ?_
  refine va_get (ci := 9) (v := .ref (a 17)) hx hb hts wX9_in hown hK hP 0 rfl rfl 5 (by decide) (hts _ mw_2_72) (fun _ h9 => h9) rfl dX9_image_1 ?_
  obtain ⟨v8_sizes_7, v8_coefficients_8, v8_imageTaken_9, hk_10, hf⟩ := pe_3 hf
  refine xv_v (As := []) (rest := []) (q0 := 0) (ci := 8) Cx hP hD hS hl (pl_X9_X8 a cyI cyJ v9_refusals v7_rows v7_lengths v7_sizes v7_rests v7_orders v6_hooks v6_lefts v6_heights v1_table v5_known v8_sizes v8_coefficients v8_undoneSums v8_undos v8_nextUndo v8_imageTaken v0_totals v3_letters v3_count v3_next v3_size v4_values v4_lengths v8_sizes_7 v8_coefficients_8 v8_undoneSums v8_undos v8_nextUndo v8_imageTaken_9) (c_X8_takeImage l D cyI cyJ G a H.size v8_sizes v8_coefficients v8_undoneSums v8_undos v8_nextUndo v8_imageTaken v8_sizes_7 v8_coefficients_8 v8_imageTaken_9 hk_10) pk_X8_takeImage mw_4_123 ⟨rfl, rfl, Nat.le_of_ble_eq_true rfl, Nat.le_of_ble_eq_true rfl⟩ rfl rfl rfl rfl rfl (Nat.le_of_ble_eq_true rfl) ⟨Nat.le_of_ble_eq_true rfl, Nat.le_of_ble_eq_true rfl⟩ dX9_image_4 (fun H locs hP hD hS => ?_)
  refine lv_aload_n hx hb dX9_image_7 rfl (lv_at hl 0 rfl) ?_
  refine va_get (ci := 9) (v := .ref (a 17)) hx hb hts wX9_in hown hK hP 0 rfl rfl 5 (by decide) (hts _ mw_2_72) (fun _ h9 => h9) rfl dX9_image_8 ?_
  obtain ⟨r_11, hk_12, hf⟩ := pe_1 hf
  refine xv_i (As := []) (rest := []) (q0 := 0) (ci := 8) Cx hP hD hS hl (pl_X9_X8 a cyI cyJ v9_refusals v7_rows v7_lengths v7_sizes v7_rests v7_orders v6_hooks v6_lefts v6_heights v1_table v5_known v8_sizes_7 v8_coefficients_8 v8_undoneSums v8_undos v8_nextUndo v8_imageTaken_9 v0_totals v3_letters v3_count v3_next v3_size v4_values v4_lengths v8_sizes_7 v8_coefficients_8 v8_undoneSums v8_undos v8_nextUndo v8_imageTaken_9) (c_X8_howMany l D cyI cyJ G a H.size v8_sizes_7 v8_coefficients_8 v8_undoneSums v8_undos v8_nextUndo v8_imageTaken_9 r_11 hk_12) pk_X8_howMany mw_4_127 ⟨rfl, rfl, Nat.le_of_ble_eq_true rfl, Nat.le_of_ble_eq_true rfl⟩ rfl rfl rfl rfl rfl (Nat.le_of_ble_eq_true rfl) ⟨Nat.le_of_ble_eq_true rfl, Nat.le_of_ble_eq_true rfl⟩ dX9_image_11 (fun H locs hP hD hS => ?_)
  obtain ⟨rfl, rfl, rfl, rfl⟩ := po_4 hf
  rw [← hQ]; exact xe_iret Cx rfl hP hD hS dX9_image_14
def f_X9_on (v9_refusals : Nat → Int32) (v8_sizes : Nat → Int32) (v8_coefficients : Nat → Int32) (v8_undos : Int32) (v8_imageTaken : Int32) : Option (Int32 × (Nat → Int32) × (Nat → Int32) × (Nat → Int32) × Int32) := p_b4 (f_X8_goOnFromImage v8_sizes v8_coefficients v8_undos v8_imageTaken) (fun r_1 v8_sizes_2 v8_coefficients_3 v8_undos_4 => if r_1 = 0 then (p_b2 (f_X9_refuse v9_refusals (-3 : Int32)) (fun r_8 v9_refusals_9 => some (r_8, v9_refusals_9, v8_sizes_2, v8_coefficients_3, v8_undos_4))) else (p_b1 (f_X8_howMany v8_sizes_2) (fun r_11 => some (r_11, v9_refusals, v8_sizes_2, v8_coefficients_3, v8_undos_4))))
set_option maxHeartbeats 4000000 in
set_option maxRecDepth 20000 in
theorem c_X9_on (l : Launch) (D : va_G) (cyI cyJ : ClassId) (G a : Nat → Nat) (sz : Nat) (v9_refusals : Nat → Int32) (v7_rows : Nat → Int32) (v7_lengths : Nat → Int32) (v7_sizes : Nat → Int32) (v7_rests : Nat → Int32) (v7_orders : Nat → Int32) (v6_hooks : Nat → Int32) (v6_lefts : Nat → Int32) (v6_heights : Nat → Int32) (v1_table : Nat → Int32) (v5_known : Nat → Int32) (v8_sizes : Nat → Int32) (v8_coefficients : Nat → Int32) (v8_undoneSums : Nat → Int32) (v8_undos : Int32) (v8_nextUndo : Int32) (v8_imageTaken : Int32) (v0_totals : Nat → Int64) (v3_letters : Nat → Int32) (v3_count : Int32) (v3_next : Int32) (v3_size : Int32) (v4_values : Nat → Int32) (v4_lengths : Nat → Int32) (ro : Int32) (ov9_refusals : Nat → Int32) (ov8_sizes : Nat → Int32) (ov8_coefficients : Nat → Int32) (ov8_undos : Int32) (hf : f_X9_on v9_refusals v8_sizes v8_coefficients v8_undos v8_imageTaken = some (ro, ov9_refusals, ov8_sizes, ov8_coefficients, ov8_undos)) : xm_i l yX9_on (Cond.code yX9_on cX9_on 1 (some .int) :: xg_tbl) { frames := 4, cells := 0, slots := 0, locals := 111 } D xcl [(cyI, .int), (cyJ, .long)] G sz [.ref (a 0)] (wd_X9 a cyI cyJ v9_refusals v7_rows v7_lengths v7_sizes v7_rests v7_orders v6_hooks v6_lefts v6_heights v1_table v5_known v8_sizes v8_coefficients v8_undoneSums v8_undos v8_nextUndo v8_imageTaken v0_totals v3_letters v3_count v3_next v3_size v4_values v4_lengths) (wd_X9 a cyI cyJ ov9_refusals v7_rows v7_lengths v7_sizes v7_rests v7_orders v6_hooks v6_lefts v6_heights v1_table v5_known ov8_sizes ov8_coefficients v8_undoneSums ov8_undos v8_nextUndo v8_imageTaken v0_totals v3_letters v3_count v3_next v3_size v4_values v4_lengths) ro := by
  refine xm_of_i (own := RX9) (by decide) rfl rfl (Nat.le_of_ble_eq_true rfl) ?_
  intro p e s m args below meth c ls Q A hQ hAe hin Cx hsz hP hD hS hl
  have Cx1 := Cx
  obtain ⟨⟨hx, hb, hml, hown, hts⟩, hr, hlocks, hK, hA, hT⟩ := Cx1
  have hl : lv_has ls 1 [(0, .ref (a 0))] := hl
  obtain ⟨H, eH⟩ : ∃ H, H = s.heap := ⟨_, rfl⟩
  obtain ⟨locs, eL⟩ : ∃ L : List Loc, L = [] := ⟨_, rfl⟩
  rw [← eH] at hP
  have hS : va_S A s.heap H locs := by rw [eH, eL]; exact hS
  suffices hgo : W p l e { frames := 4, cells := 0, slots := 0, locals := 111 } s m args below meth c H locs 0 0 Q (F0 m 0 ls []) by rw [eH, eL] at hgo; exact hgo
  clear eH eL
  unfold f_X9_on at hf
  refine lv_aload_n hx hb dX9_on_0 rfl (lv_at hl 0 rfl) ?_
  refine va_get (ci := 9) (v := .ref (a 17)) hx hb hts wX9_in hown hK hP 0 rfl rfl 5 (by decide) (hts _ mw_2_72) (fun _ h9 => h9) rfl dX9_on_1 ?_
  obtain ⟨r_13, v8_sizes_14, v8_coefficients_15, v8_undos_16, hk_17, hf⟩ := pe_4 hf
  refine xv_z (As := []) (rest := []) (q0 := 0) (ci := 8) Cx hP hD hS hl (pl_X9_X8 a cyI cyJ v9_refusals v7_rows v7_lengths v7_sizes v7_rests v7_orders v6_hooks v6_lefts v6_heights v1_table v5_known v8_sizes v8_coefficients v8_undoneSums v8_undos v8_nextUndo v8_imageTaken v0_totals v3_letters v3_count v3_next v3_size v4_values v4_lengths v8_sizes_14 v8_coefficients_15 v8_undoneSums v8_undos_16 v8_nextUndo v8_imageTaken) (c_X8_goOnFromImage l D cyI cyJ G a H.size v8_sizes v8_coefficients v8_undoneSums v8_undos v8_nextUndo v8_imageTaken r_13 v8_sizes_14 v8_coefficients_15 v8_undos_16 hk_17) pk_X8_goOnFromImage mw_4_136 ⟨rfl, rfl, Nat.le_of_ble_eq_true rfl, Nat.le_of_ble_eq_true rfl⟩ rfl rfl rfl rfl rfl (Nat.le_of_ble_eq_true rfl) ⟨Nat.le_of_ble_eq_true rfl, Nat.le_of_ble_eq_true rfl⟩ dX9_on_4 (fun H locs hn_18 hP hD hS => ?_)
  refine lv_if_eq (tgt := 20) hx hb dX9_on_7 (by decide) (fun hc_19 => ?_) (fun hc_19 => ?_)
  · have hf := pe_t hf hc_19
    refine lv_aload_n hx hb dX9_on_20 rfl (lv_at hl 0 rfl) ?_
    refine lv_bipush (v := (-3 : Int32)) hx hb dX9_on_21 (by decide) ?_
    obtain ⟨r_20, v9_refusals_21, hk_22, hf⟩ := pe_2 hf
    refine xv_i (As := [.int (-3 : Int32)]) (rest := []) (q0 := 0) (ci := 9) Cx hP hD hS hl (pl_X9_X9 a cyI cyJ v9_refusals v7_rows v7_lengths v7_sizes v7_rests v7_orders v6_hooks v6_lefts v6_heights v1_table v5_known v8_sizes_14 v8_coefficients_15 v8_undoneSums v8_undos_16 v8_nextUndo v8_imageTaken v0_totals v3_letters v3_count v3_next v3_size v4_values v4_lengths v9_refusals_21 v7_rows v7_lengths v7_sizes v7_rests v7_orders v6_hooks v6_lefts v6_heights v1_table v5_known v8_sizes_14 v8_coefficients_15 v8_undoneSums v8_undos_16 v8_nextUndo v8_imageTaken v0_totals v3_letters v3_count v3_next v3_size v4_values v4_lengths) (c_X9_refuse l D cyI cyJ G a H.size v9_refusals v7_rows v7_lengths v7_sizes v7_rests v7_orders v6_hooks v6_lefts v6_heights v1_table v5_known v8_sizes_14 v8_coefficients_15 v8_undoneSums v8_undos_16 v8_nextUndo v8_imageTaken v0_totals v3_letters v3_count v3_next v3_size v4_values v4_lengths (-3 : Int32) r_20 v9_refusals_21 hk_22) pk_X9_refuse mw_2_103 ⟨rfl, rfl, Nat.le_of_ble_eq_true rfl, Nat.le_of_ble_eq_true rfl⟩ rfl rfl rfl rfl rfl (Nat.le_of_ble_eq_true rfl) ⟨Nat.le_of_ble_eq_true rfl, Nat.le_of_ble_eq_true rfl⟩ dX9_on_23 (fun H locs hP hD hS => ?_)
    obtain ⟨rfl, rfl, rfl, rfl, rfl⟩ := po_5 hf
    rw [← hQ]; exact xe_iret Cx rfl hP hD hS dX9_on_26
  · have hf := pe_f hf hc_19
    refine lv_aload_n hx hb dX9_on_10 rfl (lv_at hl 0 rfl) ?_
    refine va_get (ci := 9) (v := .ref (a 17)) hx hb hts wX9_in hown hK hP 0 rfl rfl 5 (by decide) (hts _ mw_2_72) (fun _ h9 => h9) rfl dX9_on_11 ?_
    obtain ⟨r_23, hk_24, hf⟩ := pe_1 hf
    refine xv_i (As := []) (rest := []) (q0 := 0) (ci := 8) Cx hP hD hS hl (pl_X9_X8 a cyI cyJ v9_refusals v7_rows v7_lengths v7_sizes v7_rests v7_orders v6_hooks v6_lefts v6_heights v1_table v5_known v8_sizes_14 v8_coefficients_15 v8_undoneSums v8_undos_16 v8_nextUndo v8_imageTaken v0_totals v3_letters v3_count v3_next v3_size v4_values v4_lengths v8_sizes_14 v8_coefficients_15 v8_undoneSums v8_undos_16 v8_nextUndo v8_imageTaken) (c_X8_howMany l D cyI cyJ G a H.size v8_sizes_14 v8_coefficients_15 v8_undoneSums v8_undos_16 v8_nextUndo v8_imageTaken r_23 hk_24) pk_X8_howMany mw_4_127 ⟨rfl, rfl, Nat.le_of_ble_eq_true rfl, Nat.le_of_ble_eq_true rfl⟩ rfl rfl rfl rfl rfl (Nat.le_of_ble_eq_true rfl) ⟨Nat.le_of_ble_eq_true rfl, Nat.le_of_ble_eq_true rfl⟩ dX9_on_14 (fun H locs hP hD hS => ?_)
    refine lv_goto (tgt := 26) hx hb dX9_on_17 (by decide) ?_
    obtain ⟨rfl, rfl, rfl, rfl, rfl⟩ := po_5 hf
    rw [← hQ]; exact xe_iret Cx rfl hP hD hS dX9_on_26
def f_X9_count_22 (v9_refusals : Nat → Int32) (v8_sizes : Nat → Int32) (v8_coefficients : Nat → Int32) (v8_undos : Int32) (v3_count : Int32) (y1 : Int32) : Option (Int32) := if y1 = (0 : Int32) then (p_b1 (f_X8_howMany v8_sizes) (fun r_2 => some (r_2))) else (if y1 = (1 : Int32) then (p_b1 (f_X3_howMany v3_count) (fun r_5 => some (r_5))) else (if y1 = (2 : Int32) then (p_b1 (f_X8_termsOfAll v8_coefficients) (fun r_8 => some (r_8))) else (if y1 = (3 : Int32) then (p_b1 (f_X8_howManyUndos v8_undos) (fun r_11 => some (r_11))) else (some ((-9 : Int32))))))
def f_X9_count (v9_refusals : Nat → Int32) (v8_sizes : Nat → Int32) (v8_coefficients : Nat → Int32) (v8_undos : Int32) (v3_count : Int32) (x1 : Int32) : Option (Int32) := if x1 ≤ (10 : Int32) then ((f_X9_count_22 v9_refusals v8_sizes v8_coefficients v8_undos v3_count) x1) else (if (16 : Int32) < x1 then ((f_X9_count_22 v9_refusals v8_sizes v8_coefficients v8_undos v3_count) x1) else (p_in (x1 - (10 : Int32)) 7 (some ((v9_refusals (Int32.toNatClampNeg (x1 - (10 : Int32))))))))
set_option maxHeartbeats 4000000 in
set_option maxRecDepth 20000 in
theorem c_X9_count (l : Launch) (D : va_G) (cyI cyJ : ClassId) (G a : Nat → Nat) (sz : Nat) (v9_refusals : Nat → Int32) (v7_rows : Nat → Int32) (v7_lengths : Nat → Int32) (v7_sizes : Nat → Int32) (v7_rests : Nat → Int32) (v7_orders : Nat → Int32) (v6_hooks : Nat → Int32) (v6_lefts : Nat → Int32) (v6_heights : Nat → Int32) (v1_table : Nat → Int32) (v5_known : Nat → Int32) (v8_sizes : Nat → Int32) (v8_coefficients : Nat → Int32) (v8_undoneSums : Nat → Int32) (v8_undos : Int32) (v8_nextUndo : Int32) (v8_imageTaken : Int32) (v0_totals : Nat → Int64) (v3_letters : Nat → Int32) (v3_count : Int32) (v3_next : Int32) (v3_size : Int32) (v4_values : Nat → Int32) (v4_lengths : Nat → Int32) (x1 : Int32) (ro : Int32) (hf : f_X9_count v9_refusals v8_sizes v8_coefficients v8_undos v3_count x1 = some ro) : xm_i l yX9_count (Cond.code yX9_count cX9_count 2 (some .int) :: xg_tbl) { frames := 4, cells := 0, slots := 0, locals := 89 } D xcl [(cyI, .int), (cyJ, .long)] G sz [.ref (a 0), .int x1] (wd_X9 a cyI cyJ v9_refusals v7_rows v7_lengths v7_sizes v7_rests v7_orders v6_hooks v6_lefts v6_heights v1_table v5_known v8_sizes v8_coefficients v8_undoneSums v8_undos v8_nextUndo v8_imageTaken v0_totals v3_letters v3_count v3_next v3_size v4_values v4_lengths) (wd_X9 a cyI cyJ v9_refusals v7_rows v7_lengths v7_sizes v7_rests v7_orders v6_hooks v6_lefts v6_heights v1_table v5_known v8_sizes v8_coefficients v8_undoneSums v8_undos v8_nextUndo v8_imageTaken v0_totals v3_letters v3_count v3_next v3_size v4_values v4_lengths) ro := by
  refine xm_of_i (own := RX9) (by decide) rfl rfl (Nat.le_of_ble_eq_true rfl) ?_
  intro p e s m args below meth c ls Q A hQ hAe hin Cx hsz hP hD hS hl
  have Cx1 := Cx
  obtain ⟨⟨hx, hb, hml, hown, hts⟩, hr, hlocks, hK, hA, hT⟩ := Cx1
  have hl : lv_has ls 2 [(0, .ref (a 0)), (1, .int x1)] := hl
  obtain ⟨H, eH⟩ : ∃ H, H = s.heap := ⟨_, rfl⟩
  obtain ⟨locs, eL⟩ : ∃ L : List Loc, L = [] := ⟨_, rfl⟩
  rw [← eH] at hP
  have hS : va_S A s.heap H locs := by rw [eH, eL]; exact hS
  suffices hgo : W p l e { frames := 4, cells := 0, slots := 0, locals := 89 } s m args below meth c H locs 0 0 Q (F0 m 0 ls []) by rw [eH, eL] at hgo; exact hgo
  clear eH eL
  unfold f_X9_count at hf
  have w_22 : ∀ (y1 : Int32) (H : Heap) (locs : List Loc) (ls : Array Slot), (f_X9_count_22 v9_refusals v8_sizes v8_coefficients v8_undos v3_count) y1 = some ro → va_P D xcl (wd_X9 a cyI cyJ v9_refusals v7_rows v7_lengths v7_sizes v7_rests v7_orders v6_hooks v6_lefts v6_heights v1_table v5_known v8_sizes v8_coefficients v8_undoneSums v8_undos v8_nextUndo v8_imageTaken v0_totals v3_letters v3_count v3_next v3_size v4_values v4_lengths) H → va_D A (wd_X9 a cyI cyJ v9_refusals v7_rows v7_lengths v7_sizes v7_rests v7_orders v6_hooks v6_lefts v6_heights v1_table v5_known v8_sizes v8_coefficients v8_undoneSums v8_undos v8_nextUndo v8_imageTaken v0_totals v3_letters v3_count v3_next v3_size v4_values v4_lengths) → va_S A s.heap H locs → lv_has ls 2 [(0, .ref (a 0)), (1, .int y1)] → W p l e { frames := 4, cells := 0, slots := 0, locals := 89 } s m args below meth c H locs 0 0 Q (F0 m 22 ls []) := by
    intro y1 H locs ls hf hP hD hS hl
    unfold f_X9_count_22 at hf
    refine lv_iload_n hx hb dX9_count_22 rfl (lv_at hl 1 rfl) ?_
    by_cases hc_16 : y1 = (0 : Int32)
    · have hf := pe_t hf hc_16
      refine lv_tableIn (tgt := 52) hx hb dX9_count_23 (by rw [hc_16]; decide) (by rw [hc_16]; decide) (by rw [hc_16]; rfl) (by decide) ?_
      refine lv_aload_n hx hb dX9_count_52 rfl (lv_at hl 0 rfl) ?_
      refine va_get (ci := 9) (v := .ref (a 17)) hx hb hts wX9_in hown hK hP 0 rfl rfl 5 (by decide) (hts _ mw_2_72) (fun _ h9 => h9) rfl dX9_count_53 ?_
      obtain ⟨r_17, hk_18, hf⟩ := pe_1 hf
      refine xv_i (As := []) (rest := []) (q0 := 0) (ci := 8) Cx hP hD hS hl (pl_X9_X8 a cyI cyJ v9_refusals v7_rows v7_lengths v7_sizes v7_rests v7_orders v6_hooks v6_lefts v6_heights v1_table v5_known v8_sizes v8_coefficients v8_undoneSums v8_undos v8_nextUndo v8_imageTaken v0_totals v3_letters v3_count v3_next v3_size v4_values v4_lengths v8_sizes v8_coefficients v8_undoneSums v8_undos v8_nextUndo v8_imageTaken) (c_X8_howMany l D cyI cyJ G a H.size v8_sizes v8_coefficients v8_undoneSums v8_undos v8_nextUndo v8_imageTaken r_17 hk_18) pk_X8_howMany mw_4_127 ⟨rfl, rfl, Nat.le_of_ble_eq_true rfl, Nat.le_of_ble_eq_true rfl⟩ rfl rfl rfl rfl rfl (Nat.le_of_ble_eq_true rfl) ⟨Nat.le_of_ble_eq_true rfl, Nat.le_of_ble_eq_true rfl⟩ dX9_count_56 (fun H locs hP hD hS => ?_)
      obtain rfl := po_1 hf
      rw [← hQ]; exact xe_iret Cx rfl hP hD hS dX9_count_59
    · have hf := pe_f hf hc_16
      by_cases hc_19 : y1 = (1 : Int32)
      · have hf := pe_t hf hc_19
        refine lv_tableIn (tgt := 60) hx hb dX9_count_23 (by rw [hc_19]; decide) (by rw [hc_19]; decide) (by rw [hc_19]; rfl) (by decide) ?_
        refine lv_aload_n hx hb dX9_count_60 rfl (lv_at hl 0 rfl) ?_
        refine va_get (ci := 9) (v := .ref (a 23)) hx hb hts wX9_in hown hK hP 0 rfl rfl 7 (by decide) (hts _ mw_2_74) (fun _ h9 => h9) rfl dX9_count_61 ?_
        obtain ⟨r_20, hk_21, hf⟩ := pe_1 hf
        refine xv_i (As := []) (rest := []) (q0 := 0) (ci := 3) Cx hP hD hS hl (pl_X9_X3 a cyI cyJ v9_refusals v7_rows v7_lengths v7_sizes v7_rests v7_orders v6_hooks v6_lefts v6_heights v1_table v5_known v8_sizes v8_coefficients v8_undoneSums v8_undos v8_nextUndo v8_imageTaken v0_totals v3_letters v3_count v3_next v3_size v4_values v4_lengths v3_letters v3_count v3_next v3_size v7_rows v7_lengths v7_sizes v7_rests v7_orders v8_sizes v8_coefficients v8_undoneSums v8_undos v8_nextUndo v8_imageTaken) (c_X3_howMany l D cyI cyJ G a H.size v3_letters v3_count v3_next v3_size v7_rows v7_lengths v7_sizes v7_rests v7_orders v8_sizes v8_coefficients v8_undoneSums v8_undos v8_nextUndo v8_imageTaken r_20 hk_21) pk_X3_howMany mw_3_108 ⟨rfl, rfl, Nat.le_of_ble_eq_true rfl, Nat.le_of_ble_eq_true rfl⟩ rfl rfl rfl rfl rfl (Nat.le_of_ble_eq_true rfl) ⟨Nat.le_of_ble_eq_true rfl, Nat.le_of_ble_eq_true rfl⟩ dX9_count_64 (fun H locs hP hD hS => ?_)
        obtain rfl := po_1 hf
        rw [← hQ]; exact xe_iret Cx rfl hP hD hS dX9_count_67
      · have hf := pe_f hf hc_19
        by_cases hc_22 : y1 = (2 : Int32)
        · have hf := pe_t hf hc_22
          refine lv_tableIn (tgt := 68) hx hb dX9_count_23 (by rw [hc_22]; decide) (by rw [hc_22]; decide) (by rw [hc_22]; rfl) (by decide) ?_
          refine lv_aload_n hx hb dX9_count_68 rfl (lv_at hl 0 rfl) ?_
          refine va_get (ci := 9) (v := .ref (a 17)) hx hb hts wX9_in hown hK hP 0 rfl rfl 5 (by decide) (hts _ mw_2_72) (fun _ h9 => h9) rfl dX9_count_69 ?_
          obtain ⟨r_23, hk_24, hf⟩ := pe_1 hf
          refine xv_i (As := []) (rest := []) (q0 := 0) (ci := 8) Cx hP hD hS hl (pl_X9_X8 a cyI cyJ v9_refusals v7_rows v7_lengths v7_sizes v7_rests v7_orders v6_hooks v6_lefts v6_heights v1_table v5_known v8_sizes v8_coefficients v8_undoneSums v8_undos v8_nextUndo v8_imageTaken v0_totals v3_letters v3_count v3_next v3_size v4_values v4_lengths v8_sizes v8_coefficients v8_undoneSums v8_undos v8_nextUndo v8_imageTaken) (c_X8_termsOfAll l D cyI cyJ G a H.size v8_sizes v8_coefficients v8_undoneSums v8_undos v8_nextUndo v8_imageTaken r_23 hk_24) pk_X8_termsOfAll mw_4_144 ⟨rfl, rfl, Nat.le_of_ble_eq_true rfl, Nat.le_of_ble_eq_true rfl⟩ rfl rfl rfl rfl rfl (Nat.le_of_ble_eq_true rfl) ⟨Nat.le_of_ble_eq_true rfl, Nat.le_of_ble_eq_true rfl⟩ dX9_count_72 (fun H locs hP hD hS => ?_)
          obtain rfl := po_1 hf
          rw [← hQ]; exact xe_iret Cx rfl hP hD hS dX9_count_75
        · have hf := pe_f hf hc_22
          by_cases hc_25 : y1 = (3 : Int32)
          · have hf := pe_t hf hc_25
            refine lv_tableIn (tgt := 76) hx hb dX9_count_23 (by rw [hc_25]; decide) (by rw [hc_25]; decide) (by rw [hc_25]; rfl) (by decide) ?_
            refine lv_aload_n hx hb dX9_count_76 rfl (lv_at hl 0 rfl) ?_
            refine va_get (ci := 9) (v := .ref (a 17)) hx hb hts wX9_in hown hK hP 0 rfl rfl 5 (by decide) (hts _ mw_2_72) (fun _ h9 => h9) rfl dX9_count_77 ?_
            obtain ⟨r_26, hk_27, hf⟩ := pe_1 hf
            refine xv_i (As := []) (rest := []) (q0 := 0) (ci := 8) Cx hP hD hS hl (pl_X9_X8 a cyI cyJ v9_refusals v7_rows v7_lengths v7_sizes v7_rests v7_orders v6_hooks v6_lefts v6_heights v1_table v5_known v8_sizes v8_coefficients v8_undoneSums v8_undos v8_nextUndo v8_imageTaken v0_totals v3_letters v3_count v3_next v3_size v4_values v4_lengths v8_sizes v8_coefficients v8_undoneSums v8_undos v8_nextUndo v8_imageTaken) (c_X8_howManyUndos l D cyI cyJ G a H.size v8_sizes v8_coefficients v8_undoneSums v8_undos v8_nextUndo v8_imageTaken r_26 hk_27) pk_X8_howManyUndos mw_4_115 ⟨rfl, rfl, Nat.le_of_ble_eq_true rfl, Nat.le_of_ble_eq_true rfl⟩ rfl rfl rfl rfl rfl (Nat.le_of_ble_eq_true rfl) ⟨Nat.le_of_ble_eq_true rfl, Nat.le_of_ble_eq_true rfl⟩ dX9_count_80 (fun H locs hP hD hS => ?_)
            obtain rfl := po_1 hf
            rw [← hQ]; exact xe_iret Cx rfl hP hD hS dX9_count_83
          · have hf := pe_f hf hc_25
            have hc_16 : (y1).toInt ≠ 0 := xh_ne (by decide) hc_16
            have hc_19 : (y1).toInt ≠ 1 := xh_ne (by decide) hc_19
            have hc_22 : (y1).toInt ≠ 2 := xh_ne (by decide) hc_22
            have hc_25 : (y1).toInt ≠ 3 := xh_ne (by decide) hc_25
            refine lv_tableOut (tgt := 84) hx hb dX9_count_23 (by omega) (by decide) ?_
            refine lv_bipush (v := (-9 : Int32)) hx hb dX9_count_84 (by decide) ?_
            obtain rfl := po_1 hf
            rw [← hQ]; exact xe_iret Cx rfl hP hD hS dX9_count_86
  refine lv_iload_n hx hb dX9_count_0 rfl (lv_at hl 1 rfl) ?_
  refine lv_bipush (v := (10 : Int32)) hx hb dX9_count_1 (by decide) ?_
  refine lv_icmp_le (tgt := 22) hx hb dX9_count_3 (by decide) (fun hc_28 => ?_) (fun hc_28 => ?_)
  · have hf := pe_t hf hc_28
    exact w_22 x1 H locs ls hf hP hD hS (lv_sub hl [0, 1] rfl)
  · have hf := pe_f hf hc_28
    refine lv_iload_n hx hb dX9_count_6 rfl (lv_at hl 1 rfl) ?_
    refine lv_bipush (v := (16 : Int32)) hx hb dX9_count_7 (by decide) ?_
    refine lv_icmp_gt (tgt := 22) hx hb dX9_count_9 (by decide) (fun hc_29 => ?_) (fun hc_29 => ?_)
    · have hf := pe_t hf hc_29
      exact w_22 x1 H locs ls hf hP hD hS (lv_sub hl [0, 1] rfl)
    · have hf := pe_f hf hc_29
      refine lv_aload_n hx hb dX9_count_12 rfl (lv_at hl 0 rfl) ?_
      refine va_get (ci := 9) (v := .ref (a 1)) hx hb hts wX9_in hown hK hP 0 rfl rfl 9 (by decide) (hts _ mw_2_76) (fun _ h9 => h9) rfl dX9_count_13 ?_
      refine lv_iload_n hx hb dX9_count_16 rfl (lv_at hl 1 rfl) ?_
      refine lv_bipush (v := (10 : Int32)) hx hb dX9_count_17 (by decide) ?_
      refine lv_isub hx hb dX9_count_19 ?_
      obtain ⟨hi_30, hf⟩ := pe_in hf
      refine va_iald hx hb hK hP 1 0 rfl rfl hi_30 dX9_count_20 ?_
      obtain rfl := po_1 hf
      rw [← hQ]; exact xe_iret Cx rfl hP hD hS dX9_count_21
