def f_X9_refuse (v9_refusals : Nat → Int32) (x1 : Int32) : Option (Int32 × (Nat → Int32)) := if (-x1) < (1 : Int32) then (some (x1, v9_refusals)) else (if (6 : Int32) < (-x1) then (some (x1, v9_refusals)) else (p_in (-x1) 7 (p_in (-x1) 7 (some (x1, (upd v9_refusals (Int32.toNatClampNeg (-x1)) ((v9_refusals (Int32.toNatClampNeg (-x1))) + (1 : Int32))))))))
set_option maxHeartbeats 4000000 in
set_option maxRecDepth 20000 in
theorem c_X9_refuse (l : Launch) (D : va_G) (cyI cyJ : ClassId) (G a : Nat → Nat) (sz : Nat) (v9_refusals : Nat → Int32) (v7_rows : Nat → Int32) (v7_lengths : Nat → Int32) (v7_sizes : Nat → Int32) (v7_rests : Nat → Int32) (v7_orders : Nat → Int32) (v6_hooks : Nat → Int32) (v6_lefts : Nat → Int32) (v6_heights : Nat → Int32) (v1_table : Nat → Int32) (v5_known : Nat → Int32) (v8_sizes : Nat → Int32) (v8_coefficients : Nat → Int32) (v8_undoneSums : Nat → Int32) (v8_undos : Int32) (v8_nextUndo : Int32) (v8_imageTaken : Int32) (v0_totals : Nat → Int64) (v3_letters : Nat → Int32) (v3_count : Int32) (v3_next : Int32) (v3_size : Int32) (v4_values : Nat → Int32) (v4_lengths : Nat → Int32) (x1 : Int32) (ro : Int32) (ov9_refusals : Nat → Int32) (hf : f_X9_refuse v9_refusals x1 = some (ro, ov9_refusals)) : xm_i l yX9_refuse (Cond.code yX9_refuse cX9_refuse 3 (some .int) :: xg_tbl) { frames := 0, cells := 0, slots := 0, locals := 0 } D xcl [(cyI, .int), (cyJ, .long)] G sz [.ref (a 0), .int x1] (wd_X9 a cyI cyJ v9_refusals v7_rows v7_lengths v7_sizes v7_rests v7_orders v6_hooks v6_lefts v6_heights v1_table v5_known v8_sizes v8_coefficients v8_undoneSums v8_undos v8_nextUndo v8_imageTaken v0_totals v3_letters v3_count v3_next v3_size v4_values v4_lengths) (wd_X9 a cyI cyJ ov9_refusals v7_rows v7_lengths v7_sizes v7_rests v7_orders v6_hooks v6_lefts v6_heights v1_table v5_known v8_sizes v8_coefficients v8_undoneSums v8_undos v8_nextUndo v8_imageTaken v0_totals v3_letters v3_count v3_next v3_size v4_values v4_lengths) ro := by
  refine xm_of_i (own := RX9) (by decide) rfl rfl (Nat.le_of_ble_eq_true rfl) ?_
  intro p e s m args below meth c ls Q A hQ hAe hin Cx hsz hP hD hS hl
  have Cx1 := Cx
  obtain ⟨⟨hx, hb, hml, hown, hts⟩, hr, hlocks, hK, hA, hT⟩ := Cx1
  have hl : lv_has ls 3 [(0, .ref (a 0)), (1, .int x1)] := hl
  obtain ⟨H, eH⟩ : ∃ H, H = s.heap := ⟨_, rfl⟩
  obtain ⟨locs, eL⟩ : ∃ L : List Loc, L = [] := ⟨_, rfl⟩
  rw [← eH] at hP
  have hS : va_S A s.heap H locs := by rw [eH, eL]; exact hS
  suffices hgo : W p l e { frames := 0, cells := 0, slots := 0, locals := 0 } s m args below meth c H locs 0 0 Q (F0 m 0 ls []) by rw [eH, eL] at hgo; exact hgo
  clear eH eL
  unfold f_X9_refuse at hf
  refine lv_iload_n hx hb dX9_refuse_0 rfl (lv_at hl 1 rfl) ?_
  refine lv_ineg hx hb dX9_refuse_1 ?_
  refine lv_istore_n (lv' := [(2, .int (-x1)), (0, .ref (a 0)), (1, .int x1)]) hx hb dX9_refuse_2 rfl hl (by decide) rfl (fun ls hl => ?_)
  refine lv_iload_n hx hb dX9_refuse_3 rfl (lv_at hl 0 rfl) ?_
  refine lv_iconst (v := (1 : Int32)) hx hb dX9_refuse_4 (by decide) ?_
  refine lv_icmp_lt (tgt := 24) hx hb dX9_refuse_5 (by decide) (fun hc_5 => ?_) (fun hc_5 => ?_)
  · have hf := pe_t hf hc_5
    refine lv_iload_n hx hb dX9_refuse_24 rfl (lv_at hl 2 rfl) ?_
    obtain ⟨rfl, rfl⟩ := po_2 hf
    rw [← hQ]; exact xe_iret Cx rfl hP hD hS dX9_refuse_25
  · have hf := pe_f hf hc_5
    refine lv_iload_n hx hb dX9_refuse_8 rfl (lv_at hl 0 rfl) ?_
    refine lv_bipush (v := (6 : Int32)) hx hb dX9_refuse_9 (by decide) ?_
    refine lv_icmp_gt (tgt := 24) hx hb dX9_refuse_11 (by decide) (fun hc_6 => ?_) (fun hc_6 => ?_)
    · have hf := pe_t hf hc_6
      refine lv_iload_n hx hb dX9_refuse_24 rfl (lv_at hl 2 rfl) ?_
      obtain ⟨rfl, rfl⟩ := po_2 hf
      rw [← hQ]; exact xe_iret Cx rfl hP hD hS dX9_refuse_25
    · have hf := pe_f hf hc_6
      refine lv_aload_n hx hb dX9_refuse_14 rfl (lv_at hl 1 rfl) ?_
      refine va_get (ci := 9) (v := .ref (a 1)) hx hb hts wX9_in hown hK hP 0 rfl rfl 9 (by decide) (hts _ mw_2_76) (fun _ h9 => h9) rfl dX9_refuse_15 ?_
      refine lv_iload_n hx hb dX9_refuse_18 rfl (lv_at hl 0 rfl) ?_
      refine lv_dup2_11 hx hb dX9_refuse_19 rfl rfl ?_
      obtain ⟨hi_7, hf⟩ := pe_in hf
      refine va_iald hx hb hK hP 1 0 rfl rfl hi_7 dX9_refuse_20 ?_
      refine lv_iconst (v := (1 : Int32)) hx hb dX9_refuse_21 (by decide) ?_
      refine lv_iadd hx hb dX9_refuse_22 ?_
      obtain ⟨hi_8, hf⟩ := pe_in hf
      refine va_iast hx hb hK hP hD hS 1 0 rfl rfl hi_8 dX9_refuse_23 (fun H locs hP hD hS => ?_)
      have hP : va_P D xcl (wd_X9 a cyI cyJ (upd v9_refusals (Int32.toNatClampNeg (-x1)) ((v9_refusals (Int32.toNatClampNeg (-x1))) + (1 : Int32))) v7_rows v7_lengths v7_sizes v7_rests v7_orders v6_hooks v6_lefts v6_heights v1_table v5_known v8_sizes v8_coefficients v8_undoneSums v8_undos v8_nextUndo v8_imageTaken v0_totals v3_letters v3_count v3_next v3_size v4_values v4_lengths) H := hP
      have hD : va_D A (wd_X9 a cyI cyJ (upd v9_refusals (Int32.toNatClampNeg (-x1)) ((v9_refusals (Int32.toNatClampNeg (-x1))) + (1 : Int32))) v7_rows v7_lengths v7_sizes v7_rests v7_orders v6_hooks v6_lefts v6_heights v1_table v5_known v8_sizes v8_coefficients v8_undoneSums v8_undos v8_nextUndo v8_imageTaken v0_totals v3_letters v3_count v3_next v3_size v4_values v4_lengths) := hD
      refine lv_iload_n hx hb dX9_refuse_24 rfl (lv_at hl 2 rfl) ?_
      obtain ⟨rfl, rfl⟩ := po_2 hf
      rw [← hQ]; exact xe_iret Cx rfl hP hD hS dX9_refuse_25
def f_X9_of_42 (v7_rows : Nat → Int32) (v7_lengths : Nat → Int32) (v7_sizes : Nat → Int32) (v7_orders : Nat → Int32) (v6_hooks : Nat → Int32) (v9_refusals : Nat → Int32) (y1 : Int32) (y2 : Int32) : Option (Int32 × (Nat → Int32)) := if y2 = (0 : Int32) then (p_b1 (f_X7_sizeOf v7_sizes y1) (fun r_2 => some (r_2, v9_refusals))) else (if y2 = (1 : Int32) then (p_b1 (f_X7_lengthOf v7_lengths y1) (fun r_5 => some (r_5, v9_refusals))) else (if y2 = (2 : Int32) then (p_b1 (f_X7_turnedOf v7_rows v7_sizes y1) (fun r_8 => some (r_8, v9_refusals))) else (if y2 = (3 : Int32) then (p_b1 (f_X6_dimensionOf v7_sizes v6_hooks y1) (fun r_11 => some (r_11, v9_refusals))) else (if y2 = (4 : Int32) then (p_b1 (f_X7_ordersOf v7_orders y1) (fun r_14 => some (r_14, v9_refusals))) else (if y2 = (5 : Int32) then (p_b1 (f_X2_bitsOf v7_rows v7_lengths v7_sizes y1) (fun r_17 => some (r_17, v9_refusals))) else (p_b2 (f_X9_refuse v9_refusals (-2 : Int32)) (fun r_19 v9_refusals_20 => some (r_19, v9_refusals_20))))))))
def f_X9_of (v9_refusals : Nat → Int32) (v7_rows : Nat → Int32) (v7_lengths : Nat → Int32) (v7_sizes : Nat → Int32) (v7_orders : Nat → Int32) (v6_hooks : Nat → Int32) (x1 : Int32) (x2 : Int32) : Option (Int32 × (Nat → Int32)) := p_b1 (f_X7_has x1) (fun r_22 => if r_22 = 0 then (p_b2 (f_X9_refuse v9_refusals (-1 : Int32)) (fun r_30 v9_refusals_31 => some (r_30, v9_refusals_31))) else (if x2 < (10 : Int32) then ((f_X9_of_42 v7_rows v7_lengths v7_sizes v7_orders v6_hooks) v9_refusals x1 x2) else (if (18 : Int32) ≤ x2 then ((f_X9_of_42 v7_rows v7_lengths v7_sizes v7_orders v6_hooks) v9_refusals x1 x2) else (p_b1 (f_X7_row v7_rows x1 (x2 - (10 : Int32))) (fun r_28 => some (r_28, v9_refusals))))))
set_option maxHeartbeats 4000000 in
set_option maxRecDepth 20000 in
theorem c_X9_of (l : Launch) (D : va_G) (cyI cyJ : ClassId) (G a : Nat → Nat) (sz : Nat) (v9_refusals : Nat → Int32) (v7_rows : Nat → Int32) (v7_lengths : Nat → Int32) (v7_sizes : Nat → Int32) (v7_rests : Nat → Int32) (v7_orders : Nat → Int32) (v6_hooks : Nat → Int32) (v6_lefts : Nat → Int32) (v6_heights : Nat → Int32) (v1_table : Nat → Int32) (v5_known : Nat → Int32) (v8_sizes : Nat → Int32) (v8_coefficients : Nat → Int32) (v8_undoneSums : Nat → Int32) (v8_undos : Int32) (v8_nextUndo : Int32) (v8_imageTaken : Int32) (v0_totals : Nat → Int64) (v3_letters : Nat → Int32) (v3_count : Int32) (v3_next : Int32) (v3_size : Int32) (v4_values : Nat → Int32) (v4_lengths : Nat → Int32) (x1 : Int32) (x2 : Int32) (ro : Int32) (ov9_refusals : Nat → Int32) (hf : f_X9_of v9_refusals v7_rows v7_lengths v7_sizes v7_orders v6_hooks x1 x2 = some (ro, ov9_refusals)) : xm_i l yX9_of (Cond.code yX9_of cX9_of 3 (some .int) :: xg_tbl) { frames := 6, cells := 0, slots := 0, locals := 136 } D xcl [(cyI, .int), (cyJ, .long)] G sz [.ref (a 0), .int x1, .int x2] (wd_X9 a cyI cyJ v9_refusals v7_rows v7_lengths v7_sizes v7_rests v7_orders v6_hooks v6_lefts v6_heights v1_table v5_known v8_sizes v8_coefficients v8_undoneSums v8_undos v8_nextUndo v8_imageTaken v0_totals v3_letters v3_count v3_next v3_size v4_values v4_lengths) (wd_X9 a cyI cyJ ov9_refusals v7_rows v7_lengths v7_sizes v7_rests v7_orders v6_hooks v6_lefts v6_heights v1_table v5_known v8_sizes v8_coefficients v8_undoneSums v8_undos v8_nextUndo v8_imageTaken v0_totals v3_letters v3_count v3_next v3_size v4_values v4_lengths) ro := by
  refine xm_of_i (own := RX9) (by decide) rfl rfl (Nat.le_of_ble_eq_true rfl) ?_
  intro p e s m args below meth c ls Q A hQ hAe hin Cx hsz hP hD hS hl
  have Cx1 := Cx
  obtain ⟨⟨hx, hb, hml, hown, hts⟩, hr, hlocks, hK, hA, hT⟩ := Cx1
  have hl : lv_has ls 3 [(0, .ref (a 0)), (1, .int x1), (2, .int x2)] := hl
  obtain ⟨H, eH⟩ : ∃ H, H = s.heap := ⟨_, rfl⟩
  obtain ⟨locs, eL⟩ : ∃ L : List Loc, L = [] := ⟨_, rfl⟩
  rw [← eH] at hP
  have hS : va_S A s.heap H locs := by rw [eH, eL]; exact hS
  suffices hgo : W p l e { frames := 6, cells := 0, slots := 0, locals := 136 } s m args below meth c H locs 0 0 Q (F0 m 0 ls []) by rw [eH, eL] at hgo; exact hgo
  clear eH eL
  unfold f_X9_of at hf
  have w_42 : ∀ (v9_refusals : Nat → Int32) (y1 : Int32) (y2 : Int32) (H : Heap) (locs : List Loc) (ls : Array Slot), (f_X9_of_42 v7_rows v7_lengths v7_sizes v7_orders v6_hooks) v9_refusals y1 y2 = some (ro, ov9_refusals) → va_P D xcl (wd_X9 a cyI cyJ v9_refusals v7_rows v7_lengths v7_sizes v7_rests v7_orders v6_hooks v6_lefts v6_heights v1_table v5_known v8_sizes v8_coefficients v8_undoneSums v8_undos v8_nextUndo v8_imageTaken v0_totals v3_letters v3_count v3_next v3_size v4_values v4_lengths) H → va_D A (wd_X9 a cyI cyJ v9_refusals v7_rows v7_lengths v7_sizes v7_rests v7_orders v6_hooks v6_lefts v6_heights v1_table v5_known v8_sizes v8_coefficients v8_undoneSums v8_undos v8_nextUndo v8_imageTaken v0_totals v3_letters v3_count v3_next v3_size v4_values v4_lengths) → va_S A s.heap H locs → lv_has ls 3 [(0, .ref (a 0)), (1, .int y1), (2, .int y2)] → W p l e { frames := 6, cells := 0, slots := 0, locals := 136 } s m args below meth c H locs 0 0 Q (F0 m 42 ls []) := by
    intro v9_refusals y1 y2 H locs ls hf hP hD hS hl
    unfold f_X9_of_42 at hf
    refine lv_iload_n hx hb dX9_of_42 rfl (lv_at hl 2 rfl) ?_
    by_cases hc_33 : y2 = (0 : Int32)
    · have hf := pe_t hf hc_33
      refine lv_tableIn (tgt := 80) hx hb dX9_of_43 (by rw [hc_33]; decide) (by rw [hc_33]; decide) (by rw [hc_33]; rfl) (by decide) ?_
      refine lv_aload_n hx hb dX9_of_80 rfl (lv_at hl 0 rfl) ?_
      refine va_get (ci := 9) (v := .ref (a 2)) hx hb hts wX9_in hown hK hP 0 rfl rfl 0 (by decide) (hts _ mw_2_67) (fun _ h9 => h9) rfl dX9_of_81 ?_
      refine lv_iload_n hx hb dX9_of_84 rfl (lv_at hl 1 rfl) ?_
      obtain ⟨r_34, hk_35, hf⟩ := pe_1 hf
      refine xv_i (As := [.int y1]) (rest := []) (q0 := 0) (ci := 7) Cx hP hD hS hl (pl_X9_X7 a cyI cyJ v9_refusals v7_rows v7_lengths v7_sizes v7_rests v7_orders v6_hooks v6_lefts v6_heights v1_table v5_known v8_sizes v8_coefficients v8_undoneSums v8_undos v8_nextUndo v8_imageTaken v0_totals v3_letters v3_count v3_next v3_size v4_values v4_lengths v7_rows v7_lengths v7_sizes v7_rests v7_orders) (c_X7_sizeOf l D cyI cyJ G a H.size v7_rows v7_lengths v7_sizes v7_rests v7_orders y1 r_34 hk_35) pk_X7_sizeOf mw_2_108 ⟨rfl, rfl, Nat.le_of_ble_eq_true rfl, Nat.le_of_ble_eq_true rfl⟩ rfl rfl rfl rfl rfl (Nat.le_of_ble_eq_true rfl) ⟨Nat.le_of_ble_eq_true rfl, Nat.le_of_ble_eq_true rfl⟩ dX9_of_85 (fun H locs hP hD hS => ?_)
      obtain ⟨rfl, rfl⟩ := po_2 hf
      rw [← hQ]; exact xe_iret Cx rfl hP hD hS dX9_of_88
    · have hf := pe_f hf hc_33
      by_cases hc_36 : y2 = (1 : Int32)
      · have hf := pe_t hf hc_36
        refine lv_tableIn (tgt := 89) hx hb dX9_of_43 (by rw [hc_36]; decide) (by rw [hc_36]; decide) (by rw [hc_36]; rfl) (by decide) ?_
        refine lv_aload_n hx hb dX9_of_89 rfl (lv_at hl 0 rfl) ?_
        refine va_get (ci := 9) (v := .ref (a 2)) hx hb hts wX9_in hown hK hP 0 rfl rfl 0 (by decide) (hts _ mw_2_67) (fun _ h9 => h9) rfl dX9_of_90 ?_
        refine lv_iload_n hx hb dX9_of_93 rfl (lv_at hl 1 rfl) ?_
        obtain ⟨r_37, hk_38, hf⟩ := pe_1 hf
        refine xv_i (As := [.int y1]) (rest := []) (q0 := 0) (ci := 7) Cx hP hD hS hl (pl_X9_X7 a cyI cyJ v9_refusals v7_rows v7_lengths v7_sizes v7_rests v7_orders v6_hooks v6_lefts v6_heights v1_table v5_known v8_sizes v8_coefficients v8_undoneSums v8_undos v8_nextUndo v8_imageTaken v0_totals v3_letters v3_count v3_next v3_size v4_values v4_lengths v7_rows v7_lengths v7_sizes v7_rests v7_orders) (c_X7_lengthOf l D cyI cyJ G a H.size v7_rows v7_lengths v7_sizes v7_rests v7_orders y1 r_37 hk_38) pk_X7_lengthOf mw_2_109 ⟨rfl, rfl, Nat.le_of_ble_eq_true rfl, Nat.le_of_ble_eq_true rfl⟩ rfl rfl rfl rfl rfl (Nat.le_of_ble_eq_true rfl) ⟨Nat.le_of_ble_eq_true rfl, Nat.le_of_ble_eq_true rfl⟩ dX9_of_94 (fun H locs hP hD hS => ?_)
        obtain ⟨rfl, rfl⟩ := po_2 hf
        rw [← hQ]; exact xe_iret Cx rfl hP hD hS dX9_of_97
      · have hf := pe_f hf hc_36
        by_cases hc_39 : y2 = (2 : Int32)
        · have hf := pe_t hf hc_39
          refine lv_tableIn (tgt := 98) hx hb dX9_of_43 (by rw [hc_39]; decide) (by rw [hc_39]; decide) (by rw [hc_39]; rfl) (by decide) ?_
          refine lv_aload_n hx hb dX9_of_98 rfl (lv_at hl 0 rfl) ?_
          refine va_get (ci := 9) (v := .ref (a 2)) hx hb hts wX9_in hown hK hP 0 rfl rfl 0 (by decide) (hts _ mw_2_67) (fun _ h9 => h9) rfl dX9_of_99 ?_
          refine lv_iload_n hx hb dX9_of_102 rfl (lv_at hl 1 rfl) ?_
          obtain ⟨r_40, hk_41, hf⟩ := pe_1 hf
          refine xv_i (As := [.int y1]) (rest := []) (q0 := 0) (ci := 7) Cx hP hD hS hl (pl_X9_X7 a cyI cyJ v9_refusals v7_rows v7_lengths v7_sizes v7_rests v7_orders v6_hooks v6_lefts v6_heights v1_table v5_known v8_sizes v8_coefficients v8_undoneSums v8_undos v8_nextUndo v8_imageTaken v0_totals v3_letters v3_count v3_next v3_size v4_values v4_lengths v7_rows v7_lengths v7_sizes v7_rests v7_orders) (c_X7_turnedOf l D cyI cyJ G a H.size v7_rows v7_lengths v7_sizes v7_rests v7_orders y1 r_40 hk_41) pk_X7_turnedOf mw_2_110 ⟨rfl, rfl, Nat.le_of_ble_eq_true rfl, Nat.le_of_ble_eq_true rfl⟩ rfl rfl rfl rfl rfl (Nat.le_of_ble_eq_true rfl) ⟨Nat.le_of_ble_eq_true rfl, Nat.le_of_ble_eq_true rfl⟩ dX9_of_103 (fun H locs hP hD hS => ?_)
          obtain ⟨rfl, rfl⟩ := po_2 hf
          rw [← hQ]; exact xe_iret Cx rfl hP hD hS dX9_of_106
        · have hf := pe_f hf hc_39
          by_cases hc_42 : y2 = (3 : Int32)
          · have hf := pe_t hf hc_42
            refine lv_tableIn (tgt := 107) hx hb dX9_of_43 (by rw [hc_42]; decide) (by rw [hc_42]; decide) (by rw [hc_42]; rfl) (by decide) ?_
            refine lv_aload_n hx hb dX9_of_107 rfl (lv_at hl 0 rfl) ?_
            refine va_get (ci := 9) (v := .ref (a 8)) hx hb hts wX9_in hown hK hP 0 rfl rfl 1 (by decide) (hts _ mw_2_68) (fun _ h9 => h9) rfl dX9_of_108 ?_
            refine lv_iload_n hx hb dX9_of_111 rfl (lv_at hl 1 rfl) ?_
            obtain ⟨r_43, hk_44, hf⟩ := pe_1 hf
            refine xv_i (As := [.int y1]) (rest := []) (q0 := 0) (ci := 6) Cx hP hD hS hl (pl_X9_X6 a cyI cyJ v9_refusals v7_rows v7_lengths v7_sizes v7_rests v7_orders v6_hooks v6_lefts v6_heights v1_table v5_known v8_sizes v8_coefficients v8_undoneSums v8_undos v8_nextUndo v8_imageTaken v0_totals v3_letters v3_count v3_next v3_size v4_values v4_lengths v6_hooks v6_lefts v6_heights v7_rows v7_lengths v7_sizes v7_rests v7_orders) (c_X6_dimensionOf l D cyI cyJ G a H.size v6_hooks v6_lefts v6_heights v7_rows v7_lengths v7_sizes v7_rests v7_orders y1 r_43 hk_44) pk_X6_dimensionOf mw_2_114 ⟨rfl, rfl, Nat.le_of_ble_eq_true rfl, Nat.le_of_ble_eq_true rfl⟩ rfl rfl rfl rfl rfl (Nat.le_of_ble_eq_true rfl) ⟨Nat.le_of_ble_eq_true rfl, Nat.le_of_ble_eq_true rfl⟩ dX9_of_112 (fun H locs hP hD hS => ?_)
            obtain ⟨rfl, rfl⟩ := po_2 hf
            rw [← hQ]; exact xe_iret Cx rfl hP hD hS dX9_of_115
          · have hf := pe_f hf hc_42
            by_cases hc_45 : y2 = (4 : Int32)
            · have hf := pe_t hf hc_45
              refine lv_tableIn (tgt := 116) hx hb dX9_of_43 (by rw [hc_45]; decide) (by rw [hc_45]; decide) (by rw [hc_45]; rfl) (by decide) ?_
              refine lv_aload_n hx hb dX9_of_116 rfl (lv_at hl 0 rfl) ?_
              refine va_get (ci := 9) (v := .ref (a 2)) hx hb hts wX9_in hown hK hP 0 rfl rfl 0 (by decide) (hts _ mw_2_67) (fun _ h9 => h9) rfl dX9_of_117 ?_
              refine lv_iload_n hx hb dX9_of_120 rfl (lv_at hl 1 rfl) ?_
              obtain ⟨r_46, hk_47, hf⟩ := pe_1 hf
              refine xv_i (As := [.int y1]) (rest := []) (q0 := 0) (ci := 7) Cx hP hD hS hl (pl_X9_X7 a cyI cyJ v9_refusals v7_rows v7_lengths v7_sizes v7_rests v7_orders v6_hooks v6_lefts v6_heights v1_table v5_known v8_sizes v8_coefficients v8_undoneSums v8_undos v8_nextUndo v8_imageTaken v0_totals v3_letters v3_count v3_next v3_size v4_values v4_lengths v7_rows v7_lengths v7_sizes v7_rests v7_orders) (c_X7_ordersOf l D cyI cyJ G a H.size v7_rows v7_lengths v7_sizes v7_rests v7_orders y1 r_46 hk_47) pk_X7_ordersOf mw_2_121 ⟨rfl, rfl, Nat.le_of_ble_eq_true rfl, Nat.le_of_ble_eq_true rfl⟩ rfl rfl rfl rfl rfl (Nat.le_of_ble_eq_true rfl) ⟨Nat.le_of_ble_eq_true rfl, Nat.le_of_ble_eq_true rfl⟩ dX9_of_121 (fun H locs hP hD hS => ?_)
              obtain ⟨rfl, rfl⟩ := po_2 hf
              rw [← hQ]; exact xe_iret Cx rfl hP hD hS dX9_of_124
            · have hf := pe_f hf hc_45
              by_cases hc_48 : y2 = (5 : Int32)
              · have hf := pe_t hf hc_48
                refine lv_tableIn (tgt := 125) hx hb dX9_of_43 (by rw [hc_48]; decide) (by rw [hc_48]; decide) (by rw [hc_48]; rfl) (by decide) ?_
                refine lv_aload_n hx hb dX9_of_125 rfl (lv_at hl 0 rfl) ?_
                refine va_get (ci := 9) (v := .ref (a 12)) hx hb hts wX9_in hown hK hP 0 rfl rfl 2 (by decide) (hts _ mw_2_69) (fun _ h9 => h9) rfl dX9_of_126 ?_
                refine lv_iload_n hx hb dX9_of_129 rfl (lv_at hl 1 rfl) ?_
                obtain ⟨r_49, hk_50, hf⟩ := pe_1 hf
                refine xv_i (As := [.int y1]) (rest := []) (q0 := 0) (ci := 2) Cx hP hD hS hl (pl_X9_X2 a cyI cyJ v9_refusals v7_rows v7_lengths v7_sizes v7_rests v7_orders v6_hooks v6_lefts v6_heights v1_table v5_known v8_sizes v8_coefficients v8_undoneSums v8_undos v8_nextUndo v8_imageTaken v0_totals v3_letters v3_count v3_next v3_size v4_values v4_lengths v7_rows v7_lengths v7_sizes v7_rests v7_orders) (c_X2_bitsOf l D cyI cyJ G a H.size v7_rows v7_lengths v7_sizes v7_rests v7_orders y1 r_49 hk_50) pk_X2_bitsOf mw_2_125 ⟨rfl, rfl, Nat.le_of_ble_eq_true rfl, Nat.le_of_ble_eq_true rfl⟩ rfl rfl rfl rfl rfl (Nat.le_of_ble_eq_true rfl) ⟨Nat.le_of_ble_eq_true rfl, Nat.le_of_ble_eq_true rfl⟩ dX9_of_130 (fun H locs hP hD hS => ?_)
                obtain ⟨rfl, rfl⟩ := po_2 hf
                rw [← hQ]; exact xe_iret Cx rfl hP hD hS dX9_of_133
              · have hf := pe_f hf hc_48
                have hc_33 : (y2).toInt ≠ 0 := xh_ne (by decide) hc_33
                have hc_36 : (y2).toInt ≠ 1 := xh_ne (by decide) hc_36
                have hc_39 : (y2).toInt ≠ 2 := xh_ne (by decide) hc_39
                have hc_42 : (y2).toInt ≠ 3 := xh_ne (by decide) hc_42
                have hc_45 : (y2).toInt ≠ 4 := xh_ne (by decide) hc_45
                have hc_48 : (y2).toInt ≠ 5 := xh_ne (by decide) hc_48
                refine lv_tableOut (tgt := 134) hx hb dX9_of_43 (by omega) (by decide) ?_
                refine lv_aload_n hx hb dX9_of_134 rfl (lv_at hl 0 rfl) ?_
                refine lv_bipush (v := (-2 : Int32)) hx hb dX9_of_135 (by decide) ?_
                obtain ⟨r_51, v9_refusals_52, hk_53, hf⟩ := pe_2 hf
                refine xv_i (As := [.int (-2 : Int32)]) (rest := []) (q0 := 0) (ci := 9) Cx hP hD hS hl (pl_X9_X9 a cyI cyJ v9_refusals v7_rows v7_lengths v7_sizes v7_rests v7_orders v6_hooks v6_lefts v6_heights v1_table v5_known v8_sizes v8_coefficients v8_undoneSums v8_undos v8_nextUndo v8_imageTaken v0_totals v3_letters v3_count v3_next v3_size v4_values v4_lengths v9_refusals_52 v7_rows v7_lengths v7_sizes v7_rests v7_orders v6_hooks v6_lefts v6_heights v1_table v5_known v8_sizes v8_coefficients v8_undoneSums v8_undos v8_nextUndo v8_imageTaken v0_totals v3_letters v3_count v3_next v3_size v4_values v4_lengths) (c_X9_refuse l D cyI cyJ G a H.size v9_refusals v7_rows v7_lengths v7_sizes v7_rests v7_orders v6_hooks v6_lefts v6_heights v1_table v5_known v8_sizes v8_coefficients v8_undoneSums v8_undos v8_nextUndo v8_imageTaken v0_totals v3_letters v3_count v3_next v3_size v4_values v4_lengths (-2 : Int32) r_51 v9_refusals_52 hk_53) pk_X9_refuse mw_2_103 ⟨rfl, rfl, Nat.le_of_ble_eq_true rfl, Nat.le_of_ble_eq_true rfl⟩ rfl rfl rfl rfl rfl (Nat.le_of_ble_eq_true rfl) ⟨Nat.le_of_ble_eq_true rfl, Nat.le_of_ble_eq_true rfl⟩ dX9_of_137 (fun H locs hP hD hS => ?_)
                obtain ⟨rfl, rfl⟩ := po_2 hf
                rw [← hQ]; exact xe_iret Cx rfl hP hD hS dX9_of_140
  refine lv_aload_n hx hb dX9_of_0 rfl (lv_at hl 0 rfl) ?_
  refine va_get (ci := 9) (v := .ref (a 2)) hx hb hts wX9_in hown hK hP 0 rfl rfl 0 (by decide) (hts _ mw_2_67) (fun _ h9 => h9) rfl dX9_of_1 ?_
  refine lv_iload_n hx hb dX9_of_4 rfl (lv_at hl 1 rfl) ?_
  obtain ⟨r_54, hk_55, hf⟩ := pe_1 hf
  refine xv_z (As := [.int x1]) (rest := []) (q0 := 0) (ci := 7) Cx hP hD hS hl (pl_X9_X7 a cyI cyJ v9_refusals v7_rows v7_lengths v7_sizes v7_rests v7_orders v6_hooks v6_lefts v6_heights v1_table v5_known v8_sizes v8_coefficients v8_undoneSums v8_undos v8_nextUndo v8_imageTaken v0_totals v3_letters v3_count v3_next v3_size v4_values v4_lengths v7_rows v7_lengths v7_sizes v7_rests v7_orders) (c_X7_has l D cyI cyJ G a H.size v7_rows v7_lengths v7_sizes v7_rests v7_orders x1 r_54 hk_55) pk_X7_has mw_2_102 ⟨rfl, rfl, Nat.le_of_ble_eq_true rfl, Nat.le_of_ble_eq_true rfl⟩ rfl rfl rfl rfl rfl (Nat.le_of_ble_eq_true rfl) ⟨Nat.le_of_ble_eq_true rfl, Nat.le_of_ble_eq_true rfl⟩ dX9_of_5 (fun H locs hn_56 hP hD hS => ?_)
  refine lv_if_ne (tgt := 17) hx hb dX9_of_8 (by decide) (fun hc_57 => ?_) (fun hc_57 => ?_)
  · have hf := pe_f hf hc_57
    refine lv_iload_n hx hb dX9_of_17 rfl (lv_at hl 2 rfl) ?_
    refine lv_bipush (v := (10 : Int32)) hx hb dX9_of_18 (by decide) ?_
    refine lv_icmp_lt (tgt := 42) hx hb dX9_of_20 (by decide) (fun hc_58 => ?_) (fun hc_58 => ?_)
    · have hf := pe_t hf hc_58
      exact w_42 v9_refusals x1 x2 H locs ls hf hP hD hS (lv_sub hl [0, 1, 2] rfl)
    · have hf := pe_f hf hc_58
      refine lv_iload_n hx hb dX9_of_23 rfl (lv_at hl 2 rfl) ?_
      refine lv_bipush (v := (18 : Int32)) hx hb dX9_of_24 (by decide) ?_
      refine lv_icmp_ge (tgt := 42) hx hb dX9_of_26 (by decide) (fun hc_59 => ?_) (fun hc_59 => ?_)
      · have hf := pe_t hf hc_59
        exact w_42 v9_refusals x1 x2 H locs ls hf hP hD hS (lv_sub hl [0, 1, 2] rfl)
      · have hf := pe_f hf hc_59
        refine lv_aload_n hx hb dX9_of_29 rfl (lv_at hl 0 rfl) ?_
        refine va_get (ci := 9) (v := .ref (a 2)) hx hb hts wX9_in hown hK hP 0 rfl rfl 0 (by decide) (hts _ mw_2_67) (fun _ h9 => h9) rfl dX9_of_30 ?_
        refine lv_iload_n hx hb dX9_of_33 rfl (lv_at hl 1 rfl) ?_
        refine lv_iload_n hx hb dX9_of_34 rfl (lv_at hl 2 rfl) ?_
        refine lv_bipush (v := (10 : Int32)) hx hb dX9_of_35 (by decide) ?_
        refine lv_isub hx hb dX9_of_37 ?_
        obtain ⟨r_60, hk_61, hf⟩ := pe_1 hf
        refine xv_i (As := [.int x1, .int (x2 - (10 : Int32))]) (rest := []) (q0 := 0) (ci := 7) Cx hP hD hS hl (pl_X9_X7 a cyI cyJ v9_refusals v7_rows v7_lengths v7_sizes v7_rests v7_orders v6_hooks v6_lefts v6_heights v1_table v5_known v8_sizes v8_coefficients v8_undoneSums v8_undos v8_nextUndo v8_imageTaken v0_totals v3_letters v3_count v3_next v3_size v4_values v4_lengths v7_rows v7_lengths v7_sizes v7_rests v7_orders) (c_X7_row l D cyI cyJ G a H.size v7_rows v7_lengths v7_sizes v7_rests v7_orders x1 (x2 - (10 : Int32)) r_60 hk_61) pk_X7_row mw_2_107 ⟨rfl, rfl, Nat.le_of_ble_eq_true rfl, Nat.le_of_ble_eq_true rfl⟩ rfl rfl rfl rfl rfl (Nat.le_of_ble_eq_true rfl) ⟨Nat.le_of_ble_eq_true rfl, Nat.le_of_ble_eq_true rfl⟩ dX9_of_38 (fun H locs hP hD hS => ?_)
        obtain ⟨rfl, rfl⟩ := po_2 hf
        rw [← hQ]; exact xe_iret Cx rfl hP hD hS dX9_of_41
  · have hf := pe_t hf hc_57
    refine lv_aload_n hx hb dX9_of_11 rfl (lv_at hl 0 rfl) ?_
    refine lv_iconst (v := (-1 : Int32)) hx hb dX9_of_12 (by decide) ?_
    obtain ⟨r_62, v9_refusals_63, hk_64, hf⟩ := pe_2 hf
    refine xv_i (As := [.int (-1 : Int32)]) (rest := []) (q0 := 0) (ci := 9) Cx hP hD hS hl (pl_X9_X9 a cyI cyJ v9_refusals v7_rows v7_lengths v7_sizes v7_rests v7_orders v6_hooks v6_lefts v6_heights v1_table v5_known v8_sizes v8_coefficients v8_undoneSums v8_undos v8_nextUndo v8_imageTaken v0_totals v3_letters v3_count v3_next v3_size v4_values v4_lengths v9_refusals_63 v7_rows v7_lengths v7_sizes v7_rests v7_orders v6_hooks v6_lefts v6_heights v1_table v5_known v8_sizes v8_coefficients v8_undoneSums v8_undos v8_nextUndo v8_imageTaken v0_totals v3_letters v3_count v3_next v3_size v4_values v4_lengths) (c_X9_refuse l D cyI cyJ G a H.size v9_refusals v7_rows v7_lengths v7_sizes v7_rests v7_orders v6_hooks v6_lefts v6_heights v1_table v5_known v8_sizes v8_coefficients v8_undoneSums v8_undos v8_nextUndo v8_imageTaken v0_totals v3_letters v3_count v3_next v3_size v4_values v4_lengths (-1 : Int32) r_62 v9_refusals_63 hk_64) pk_X9_refuse mw_2_103 ⟨rfl, rfl, Nat.le_of_ble_eq_true rfl, Nat.le_of_ble_eq_true rfl⟩ rfl rfl rfl rfl rfl (Nat.le_of_ble_eq_true rfl) ⟨Nat.le_of_ble_eq_true rfl, Nat.le_of_ble_eq_true rfl⟩ dX9_of_13 (fun H locs hP hD hS => ?_)
    obtain ⟨rfl, rfl⟩ := po_2 hf
    rw [← hQ]; exact xe_iret Cx rfl hP hD hS dX9_of_16
def gf_X9_shapeTold_11 (K_11 : Int32 → Int32 → Int32 → Int32 → Int32 → Option (Int32)) (v4_values : Nat → Int32) (v4_lengths : Nat → Int32) (y1 : Int32) (y2 : Int32) (y3 : Int32) (y4 : Int32) (y5 : Int32) : Option (Int32) := p_b1 (f_X4_lengthOf v4_lengths y1) (fun r_1 => if r_1 ≤ y5 then (p_b1 (f_X7_find y3 y2) (fun r_4 => some (r_4))) else (p_b1 (f_X4_at v4_values v4_lengths y1 y5) (fun r_6 => if r_6 < (1 : Int32) then (some ((-9 : Int32))) else (if y4 < r_6 then (some ((-9 : Int32))) else (if (y3 + r_6) ≤ (8 : Int32) then (p_b1 (f_X7_keyWith y2 r_6) (fun r_11 => K_11 y1 r_11 (y3 + r_6) r_6 (y5 + (1 : Int32)))) else (some ((-9 : Int32))))))))
def f_X9_shapeTold_11 (v4_values : Nat → Int32) (v4_lengths : Nat → Int32) : Nat → Int32 → Int32 → Int32 → Int32 → Int32 → Option (Int32)
  | 0 => fun _ _ _ _ _ => none
  | n + 1 => gf_X9_shapeTold_11 (f_X9_shapeTold_11 v4_values v4_lengths n) v4_values v4_lengths
def f_X9_shapeTold (v4_values : Nat → Int32) (v4_lengths : Nat → Int32) (x1 : Int32) : Option (Int32) := (f_X9_shapeTold_11 v4_values v4_lengths 1000) x1 (0 : Int32) (0 : Int32) (8 : Int32) (0 : Int32)
set_option maxHeartbeats 4000000 in
set_option maxRecDepth 20000 in
theorem c_X9_shapeTold (l : Launch) (D : va_G) (cyI cyJ : ClassId) (G a : Nat → Nat) (sz : Nat) (v9_refusals : Nat → Int32) (v7_rows : Nat → Int32) (v7_lengths : Nat → Int32) (v7_sizes : Nat → Int32) (v7_rests : Nat → Int32) (v7_orders : Nat → Int32) (v6_hooks : Nat → Int32) (v6_lefts : Nat → Int32) (v6_heights : Nat → Int32) (v1_table : Nat → Int32) (v5_known : Nat → Int32) (v8_sizes : Nat → Int32) (v8_coefficients : Nat → Int32) (v8_undoneSums : Nat → Int32) (v8_undos : Int32) (v8_nextUndo : Int32) (v8_imageTaken : Int32) (v0_totals : Nat → Int64) (v3_letters : Nat → Int32) (v3_count : Int32) (v3_next : Int32) (v3_size : Int32) (v4_values : Nat → Int32) (v4_lengths : Nat → Int32) (x1 : Int32) (ro : Int32) (hf : f_X9_shapeTold v4_values v4_lengths x1 = some ro) : xm_i l yX9_shapeTold (Cond.code yX9_shapeTold cX9_shapeTold 7 (some .int) :: xg_tbl) { frames := 4, cells := 0, slots := 0, locals := 86 } D xcl [(cyI, .int), (cyJ, .long)] G sz [.ref (a 0), .int x1] (wd_X9 a cyI cyJ v9_refusals v7_rows v7_lengths v7_sizes v7_rests v7_orders v6_hooks v6_lefts v6_heights v1_table v5_known v8_sizes v8_coefficients v8_undoneSums v8_undos v8_nextUndo v8_imageTaken v0_totals v3_letters v3_count v3_next v3_size v4_values v4_lengths) (wd_X9 a cyI cyJ v9_refusals v7_rows v7_lengths v7_sizes v7_rests v7_orders v6_hooks v6_lefts v6_heights v1_table v5_known v8_sizes v8_coefficients v8_undoneSums v8_undos v8_nextUndo v8_imageTaken v0_totals v3_letters v3_count v3_next v3_size v4_values v4_lengths) ro := by
  refine xm_of_i (own := RX9) (by decide) rfl rfl (Nat.le_of_ble_eq_true rfl) ?_
  intro p e s m args below meth c ls Q A hQ hAe hin Cx hsz hP hD hS hl
  have Cx1 := Cx
  obtain ⟨⟨hx, hb, hml, hown, hts⟩, hr, hlocks, hK, hA, hT⟩ := Cx1
  have hl : lv_has ls 7 [(0, .ref (a 0)), (1, .int x1)] := hl
  obtain ⟨H, eH⟩ : ∃ H, H = s.heap := ⟨_, rfl⟩
  obtain ⟨locs, eL⟩ : ∃ L : List Loc, L = [] := ⟨_, rfl⟩
  rw [← eH] at hP
  have hS : va_S A s.heap H locs := by rw [eH, eL]; exact hS
  suffices hgo : W p l e { frames := 4, cells := 0, slots := 0, locals := 86 } s m args below meth c H locs 0 0 Q (F0 m 0 ls []) by rw [eH, eL] at hgo; exact hgo
  clear eH eL
  unfold f_X9_shapeTold at hf
  have w_11 : ∀ (n_11 : Nat) (y1 : Int32) (y2 : Int32) (y3 : Int32) (y4 : Int32) (y5 : Int32) (H : Heap) (locs : List Loc) (ls : Array Slot), (f_X9_shapeTold_11 v4_values v4_lengths) n_11 y1 y2 y3 y4 y5 = some ro → va_P D xcl (wd_X9 a cyI cyJ v9_refusals v7_rows v7_lengths v7_sizes v7_rests v7_orders v6_hooks v6_lefts v6_heights v1_table v5_known v8_sizes v8_coefficients v8_undoneSums v8_undos v8_nextUndo v8_imageTaken v0_totals v3_letters v3_count v3_next v3_size v4_values v4_lengths) H → va_D A (wd_X9 a cyI cyJ v9_refusals v7_rows v7_lengths v7_sizes v7_rests v7_orders v6_hooks v6_lefts v6_heights v1_table v5_known v8_sizes v8_coefficients v8_undoneSums v8_undos v8_nextUndo v8_imageTaken v0_totals v3_letters v3_count v3_next v3_size v4_values v4_lengths) → va_S A s.heap H locs → lv_has ls 7 [(0, .ref (a 0)), (1, .int y1), (2, .int y2), (3, .int y3), (4, .int y4), (5, .int y5)] → W p l e { frames := 4, cells := 0, slots := 0, locals := 86 } s m args below meth c H locs 0 0 Q (F0 m 11 ls []) := by
    intro n_11
    induction n_11 with
    | zero => intro y1 y2 y3 y4 y5 H locs ls hf; exact absurd hf (by intro h9; cases h9)
    | succ n_11 w_11 =>
      intro y1 y2 y3 y4 y5 H locs ls hf hP hD hS hl
      have hf : gf_X9_shapeTold_11 ((f_X9_shapeTold_11 v4_values v4_lengths) n_11) v4_values v4_lengths y1 y2 y3 y4 y5 = some ro := hf
      unfold gf_X9_shapeTold_11 at hf
      refine lv_iload hx hb dX9_shapeTold_11 (lv_at hl 5 rfl) ?_
      refine lv_aload_n hx hb dX9_shapeTold_13 rfl (lv_at hl 0 rfl) ?_
      refine va_get (ci := 9) (v := .ref (a 25)) hx hb hts wX9_in hown hK hP 0 rfl rfl 8 (by decide) (hts _ mw_2_75) (fun _ h9 => h9) rfl dX9_shapeTold_14 ?_
      refine lv_iload_n hx hb dX9_shapeTold_17 rfl (lv_at hl 1 rfl) ?_
      obtain ⟨r_13, hk_14, hf⟩ := pe_1 hf
      refine xv_i (As := [.int y1]) (rest := [.int y5]) (q0 := 0) (ci := 4) Cx hP hD hS hl (pl_X9_X4 a cyI cyJ v9_refusals v7_rows v7_lengths v7_sizes v7_rests v7_orders v6_hooks v6_lefts v6_heights v1_table v5_known v8_sizes v8_coefficients v8_undoneSums v8_undos v8_nextUndo v8_imageTaken v0_totals v3_letters v3_count v3_next v3_size v4_values v4_lengths v4_values v4_lengths) (c_X4_lengthOf l D cyI cyJ G a H.size v4_values v4_lengths y1 r_13 hk_14) pk_X4_lengthOf mw_2_161 ⟨rfl, rfl, Nat.le_of_ble_eq_true rfl, Nat.le_of_ble_eq_true rfl⟩ rfl rfl rfl rfl rfl (Nat.le_of_ble_eq_true rfl) ⟨Nat.le_of_ble_eq_true rfl, Nat.le_of_ble_eq_true rfl⟩ dX9_shapeTold_18 (fun H locs hP hD hS => ?_)
      refine lv_icmp_ge (tgt := 83) hx hb dX9_shapeTold_21 (by decide) (fun hc_15 => ?_) (fun hc_15 => ?_)
      · have hf := pe_t hf hc_15
        refine lv_aload_n hx hb dX9_shapeTold_83 rfl (lv_at hl 0 rfl) ?_
        refine va_get (ci := 9) (v := .ref (a 2)) hx hb hts wX9_in hown hK hP 0 rfl rfl 0 (by decide) (hts _ mw_2_67) (fun _ h9 => h9) rfl dX9_shapeTold_84 ?_
        refine lv_iload_n hx hb dX9_shapeTold_87 rfl (lv_at hl 3 rfl) ?_
        refine lv_iload_n hx hb dX9_shapeTold_88 rfl (lv_at hl 2 rfl) ?_
        obtain ⟨r_16, hk_17, hf⟩ := pe_1 hf
        refine xv_i (As := [.int y3, .int y2]) (rest := []) (q0 := 0) (ci := 7) Cx hP hD hS hl (pl_X9_X7 a cyI cyJ v9_refusals v7_rows v7_lengths v7_sizes v7_rests v7_orders v6_hooks v6_lefts v6_heights v1_table v5_known v8_sizes v8_coefficients v8_undoneSums v8_undos v8_nextUndo v8_imageTaken v0_totals v3_letters v3_count v3_next v3_size v4_values v4_lengths v7_rows v7_lengths v7_sizes v7_rests v7_orders) (c_X7_find l D cyI cyJ G a H.size v7_rows v7_lengths v7_sizes v7_rests v7_orders y3 y2 r_16 hk_17) pk_X7_find mw_2_171 ⟨rfl, rfl, Nat.le_of_ble_eq_true rfl, Nat.le_of_ble_eq_true rfl⟩ rfl rfl rfl rfl rfl (Nat.le_of_ble_eq_true rfl) ⟨Nat.le_of_ble_eq_true rfl, Nat.le_of_ble_eq_true rfl⟩ dX9_shapeTold_89 (fun H locs hP hD hS => ?_)
        obtain rfl := po_1 hf
        rw [← hQ]; exact xe_iret Cx rfl hP hD hS dX9_shapeTold_92
      · have hf := pe_f hf hc_15
        refine lv_aload_n hx hb dX9_shapeTold_24 rfl (lv_at hl 0 rfl) ?_
        refine va_get (ci := 9) (v := .ref (a 25)) hx hb hts wX9_in hown hK hP 0 rfl rfl 8 (by decide) (hts _ mw_2_75) (fun _ h9 => h9) rfl dX9_shapeTold_25 ?_
        refine lv_iload_n hx hb dX9_shapeTold_28 rfl (lv_at hl 1 rfl) ?_
        refine lv_iload hx hb dX9_shapeTold_29 (lv_at hl 5 rfl) ?_
        obtain ⟨r_18, hk_19, hf⟩ := pe_1 hf
        refine xv_i (As := [.int y1, .int y5]) (rest := []) (q0 := 0) (ci := 4) Cx hP hD hS hl (pl_X9_X4 a cyI cyJ v9_refusals v7_rows v7_lengths v7_sizes v7_rests v7_orders v6_hooks v6_lefts v6_heights v1_table v5_known v8_sizes v8_coefficients v8_undoneSums v8_undos v8_nextUndo v8_imageTaken v0_totals v3_letters v3_count v3_next v3_size v4_values v4_lengths v4_values v4_lengths) (c_X4_at l D cyI cyJ G a H.size v4_values v4_lengths y1 y5 r_18 hk_19) pk_X4_at mw_2_162 ⟨rfl, rfl, Nat.le_of_ble_eq_true rfl, Nat.le_of_ble_eq_true rfl⟩ rfl rfl rfl rfl rfl (Nat.le_of_ble_eq_true rfl) ⟨Nat.le_of_ble_eq_true rfl, Nat.le_of_ble_eq_true rfl⟩ dX9_shapeTold_31 (fun H locs hP hD hS => ?_)
        refine lv_istore (lv' := [(6, .int r_18), (0, .ref (a 0)), (1, .int y1), (2, .int y2), (3, .int y3), (4, .int y4), (5, .int y5)]) hx hb dX9_shapeTold_34 hl (by decide) rfl (fun ls hl => ?_)
        refine lv_iload hx hb dX9_shapeTold_36 (lv_at hl 0 rfl) ?_
        refine lv_iconst (v := (1 : Int32)) hx hb dX9_shapeTold_38 (by decide) ?_
        refine lv_icmp_lt (tgt := 58) hx hb dX9_shapeTold_39 (by decide) (fun hc_20 => ?_) (fun hc_20 => ?_)
        · have hf := pe_t hf hc_20
          refine lv_bipush (v := (-9 : Int32)) hx hb dX9_shapeTold_58 (by decide) ?_
          obtain rfl := po_1 hf
          rw [← hQ]; exact xe_iret Cx rfl hP hD hS dX9_shapeTold_60
        · have hf := pe_f hf hc_20
          refine lv_iload hx hb dX9_shapeTold_42 (lv_at hl 0 rfl) ?_
          refine lv_iload hx hb dX9_shapeTold_44 (lv_at hl 5 rfl) ?_
          refine lv_icmp_gt (tgt := 58) hx hb dX9_shapeTold_46 (by decide) (fun hc_21 => ?_) (fun hc_21 => ?_)
          · have hf := pe_t hf hc_21
            refine lv_bipush (v := (-9 : Int32)) hx hb dX9_shapeTold_58 (by decide) ?_
            obtain rfl := po_1 hf
            rw [← hQ]; exact xe_iret Cx rfl hP hD hS dX9_shapeTold_60
          · have hf := pe_f hf hc_21
            refine lv_iload_n hx hb dX9_shapeTold_49 rfl (lv_at hl 4 rfl) ?_
            refine lv_iload hx hb dX9_shapeTold_50 (lv_at hl 0 rfl) ?_
            refine lv_iadd hx hb dX9_shapeTold_52 ?_
            refine lv_bipush (v := (8 : Int32)) hx hb dX9_shapeTold_53 (by decide) ?_
            refine lv_icmp_le (tgt := 61) hx hb dX9_shapeTold_55 (by decide) (fun hc_22 => ?_) (fun hc_22 => ?_)
            · have hf := pe_t hf hc_22
              refine lv_iload_n hx hb dX9_shapeTold_61 rfl (lv_at hl 3 rfl) ?_
              refine lv_iload hx hb dX9_shapeTold_62 (lv_at hl 0 rfl) ?_
              obtain ⟨r_23, hk_24, hf⟩ := pe_1 hf
              refine xw_i (As := [.int y2, .int r_18]) (rest := []) Cx hP hD hS hl (xq_none _) (c_X7_keyWith l D cyI cyJ G H.size y2 r_18 r_23 hk_24) pk_X7_keyWith mw_2_170 ⟨rfl, rfl, Nat.le_of_ble_eq_true rfl, Nat.le_of_ble_eq_true rfl⟩ rfl rfl (Nat.le_of_ble_eq_true rfl) ⟨Nat.le_of_ble_eq_true rfl, Nat.le_of_ble_eq_true rfl⟩ dX9_shapeTold_64 (fun H locs hP hD hS => ?_)
              refine lv_istore_n (lv' := [(2, .int r_23), (6, .int r_18), (0, .ref (a 0)), (1, .int y1), (3, .int y3), (4, .int y4), (5, .int y5)]) hx hb dX9_shapeTold_67 rfl hl (by decide) rfl (fun ls hl => ?_)
              refine lv_iload_n hx hb dX9_shapeTold_68 rfl (lv_at hl 4 rfl) ?_
              refine lv_iload hx hb dX9_shapeTold_69 (lv_at hl 1 rfl) ?_
              refine lv_iadd hx hb dX9_shapeTold_71 ?_
              refine lv_istore_n (lv' := [(3, .int (y3 + r_18)), (2, .int r_23), (6, .int r_18), (0, .ref (a 0)), (1, .int y1), (4, .int y4), (5, .int y5)]) hx hb dX9_shapeTold_72 rfl hl (by decide) rfl (fun ls hl => ?_)
              refine lv_iload hx hb dX9_shapeTold_73 (lv_at hl 2 rfl) ?_
              refine lv_istore (lv' := [(4, .int r_18), (3, .int (y3 + r_18)), (2, .int r_23), (6, .int r_18), (0, .ref (a 0)), (1, .int y1), (5, .int y5)]) hx hb dX9_shapeTold_75 hl (by decide) rfl (fun ls hl => ?_)
              refine lv_iinc (v := (y5 + (1 : Int32))) (lv' := [(5, .int (y5 + (1 : Int32))), (4, .int r_18), (3, .int (y3 + r_18)), (2, .int r_23), (6, .int r_18), (0, .ref (a 0)), (1, .int y1)]) hx hb dX9_shapeTold_77 hl (k := 6) rfl rfl (by decide) rfl (fun ls hl => ?_)
              refine lv_goto (tgt := 11) hx hb dX9_shapeTold_80 (by decide) ?_
              exact w_11 y1 r_23 (y3 + r_18) r_18 (y5 + (1 : Int32)) H locs ls hf hP hD hS (lv_sub hl [5, 6, 3, 2, 1, 0] rfl)
            · have hf := pe_f hf hc_22
              refine lv_bipush (v := (-9 : Int32)) hx hb dX9_shapeTold_58 (by decide) ?_
              obtain rfl := po_1 hf
              rw [← hQ]; exact xe_iret Cx rfl hP hD hS dX9_shapeTold_60
  refine lv_iconst (v := (0 : Int32)) hx hb dX9_shapeTold_0 (by decide) ?_
  refine lv_istore_n (lv' := [(2, .int (0 : Int32)), (0, .ref (a 0)), (1, .int x1)]) hx hb dX9_shapeTold_1 rfl hl (by decide) rfl (fun ls hl => ?_)
  refine lv_iconst (v := (0 : Int32)) hx hb dX9_shapeTold_2 (by decide) ?_
  refine lv_istore_n (lv' := [(3, .int (0 : Int32)), (2, .int (0 : Int32)), (0, .ref (a 0)), (1, .int x1)]) hx hb dX9_shapeTold_3 rfl hl (by decide) rfl (fun ls hl => ?_)
  refine lv_bipush (v := (8 : Int32)) hx hb dX9_shapeTold_4 (by decide) ?_
  refine lv_istore (lv' := [(4, .int (8 : Int32)), (3, .int (0 : Int32)), (2, .int (0 : Int32)), (0, .ref (a 0)), (1, .int x1)]) hx hb dX9_shapeTold_6 hl (by decide) rfl (fun ls hl => ?_)
  refine lv_iconst (v := (0 : Int32)) hx hb dX9_shapeTold_8 (by decide) ?_
  refine lv_istore (lv' := [(5, .int (0 : Int32)), (4, .int (8 : Int32)), (3, .int (0 : Int32)), (2, .int (0 : Int32)), (0, .ref (a 0)), (1, .int x1)]) hx hb dX9_shapeTold_9 hl (by decide) rfl (fun ls hl => ?_)
  exact w_11 1000 x1 (0 : Int32) (0 : Int32) (8 : Int32) (0 : Int32) H locs ls hf hP hD hS (lv_sub hl [4, 5, 3, 2, 1, 0] rfl)
def f_X9_shape (v9_refusals : Nat → Int32) (v4_values : Nat → Int32) (v4_lengths : Nat → Int32) (x1 : Int32) : Option (Int32 × (Nat → Int32)) := p_b1 (f_X4_has x1) (fun r_1 => if r_1 = 0 then (p_b2 (f_X9_refuse v9_refusals (-1 : Int32)) (fun r_11 v9_refusals_12 => some (r_11, v9_refusals_12))) else (p_b1 (f_X4_isMissing v4_lengths x1) (fun r_5 => if r_5 = 0 then (p_b1 (f_X9_shapeTold v4_values v4_lengths x1) (fun r_9 => some (r_9, v9_refusals))) else (some ((-11 : Int32), v9_refusals)))))
set_option maxHeartbeats 4000000 in
set_option maxRecDepth 20000 in
theorem c_X9_shape (l : Launch) (D : va_G) (cyI cyJ : ClassId) (G a : Nat → Nat) (sz : Nat) (v9_refusals : Nat → Int32) (v7_rows : Nat → Int32) (v7_lengths : Nat → Int32) (v7_sizes : Nat → Int32) (v7_rests : Nat → Int32) (v7_orders : Nat → Int32) (v6_hooks : Nat → Int32) (v6_lefts : Nat → Int32) (v6_heights : Nat → Int32) (v1_table : Nat → Int32) (v5_known : Nat → Int32) (v8_sizes : Nat → Int32) (v8_coefficients : Nat → Int32) (v8_undoneSums : Nat → Int32) (v8_undos : Int32) (v8_nextUndo : Int32) (v8_imageTaken : Int32) (v0_totals : Nat → Int64) (v3_letters : Nat → Int32) (v3_count : Int32) (v3_next : Int32) (v3_size : Int32) (v4_values : Nat → Int32) (v4_lengths : Nat → Int32) (x1 : Int32) (ro : Int32) (ov9_refusals : Nat → Int32) (hf : f_X9_shape v9_refusals v4_values v4_lengths x1 = some (ro, ov9_refusals)) : xm_i l yX9_shape (Cond.code yX9_shape cX9_shape 2 (some .int) :: xg_tbl) { frames := 5, cells := 0, slots := 0, locals := 112 } D xcl [(cyI, .int), (cyJ, .long)] G sz [.ref (a 0), .int x1] (wd_X9 a cyI cyJ v9_refusals v7_rows v7_lengths v7_sizes v7_rests v7_orders v6_hooks v6_lefts v6_heights v1_table v5_known v8_sizes v8_coefficients v8_undoneSums v8_undos v8_nextUndo v8_imageTaken v0_totals v3_letters v3_count v3_next v3_size v4_values v4_lengths) (wd_X9 a cyI cyJ ov9_refusals v7_rows v7_lengths v7_sizes v7_rests v7_orders v6_hooks v6_lefts v6_heights v1_table v5_known v8_sizes v8_coefficients v8_undoneSums v8_undos v8_nextUndo v8_imageTaken v0_totals v3_letters v3_count v3_next v3_size v4_values v4_lengths) ro := by
  refine xm_of_i (own := RX9) (by decide) rfl rfl (Nat.le_of_ble_eq_true rfl) ?_
  intro p e s m args below meth c ls Q A hQ hAe hin Cx hsz hP hD hS hl
  have Cx1 := Cx
  obtain ⟨⟨hx, hb, hml, hown, hts⟩, hr, hlocks, hK, hA, hT⟩ := Cx1
  have hl : lv_has ls 2 [(0, .ref (a 0)), (1, .int x1)] := hl
  obtain ⟨H, eH⟩ : ∃ H, H = s.heap := ⟨_, rfl⟩
  obtain ⟨locs, eL⟩ : ∃ L : List Loc, L = [] := ⟨_, rfl⟩
  rw [← eH] at hP
  have hS : va_S A s.heap H locs := by rw [eH, eL]; exact hS
  suffices hgo : W p l e { frames := 5, cells := 0, slots := 0, locals := 112 } s m args below meth c H locs 0 0 Q (F0 m 0 ls []) by rw [eH, eL] at hgo; exact hgo
  clear eH eL
  unfold f_X9_shape at hf
  refine lv_aload_n hx hb dX9_shape_0 rfl (lv_at hl 0 rfl) ?_
  refine va_get (ci := 9) (v := .ref (a 25)) hx hb hts wX9_in hown hK hP 0 rfl rfl 8 (by decide) (hts _ mw_2_75) (fun _ h9 => h9) rfl dX9_shape_1 ?_
  refine lv_iload_n hx hb dX9_shape_4 rfl (lv_at hl 1 rfl) ?_
  obtain ⟨r_14, hk_15, hf⟩ := pe_1 hf
  refine xv_z (As := [.int x1]) (rest := []) (q0 := 0) (ci := 4) Cx hP hD hS hl (pl_X9_X4 a cyI cyJ v9_refusals v7_rows v7_lengths v7_sizes v7_rests v7_orders v6_hooks v6_lefts v6_heights v1_table v5_known v8_sizes v8_coefficients v8_undoneSums v8_undos v8_nextUndo v8_imageTaken v0_totals v3_letters v3_count v3_next v3_size v4_values v4_lengths v4_values v4_lengths) (c_X4_has l D cyI cyJ G a H.size v4_values v4_lengths x1 r_14 hk_15) pk_X4_has mw_2_144 ⟨rfl, rfl, Nat.le_of_ble_eq_true rfl, Nat.le_of_ble_eq_true rfl⟩ rfl rfl rfl rfl rfl (Nat.le_of_ble_eq_true rfl) ⟨Nat.le_of_ble_eq_true rfl, Nat.le_of_ble_eq_true rfl⟩ dX9_shape_5 (fun H locs hn_16 hP hD hS => ?_)
  refine lv_if_ne (tgt := 17) hx hb dX9_shape_8 (by decide) (fun hc_17 => ?_) (fun hc_17 => ?_)
  · have hf := pe_f hf hc_17
    refine lv_aload_n hx hb dX9_shape_17 rfl (lv_at hl 0 rfl) ?_
    refine va_get (ci := 9) (v := .ref (a 25)) hx hb hts wX9_in hown hK hP 0 rfl rfl 8 (by decide) (hts _ mw_2_75) (fun _ h9 => h9) rfl dX9_shape_18 ?_
    refine lv_iload_n hx hb dX9_shape_21 rfl (lv_at hl 1 rfl) ?_
    obtain ⟨r_18, hk_19, hf⟩ := pe_1 hf
    refine xv_z (As := [.int x1]) (rest := []) (q0 := 0) (ci := 4) Cx hP hD hS hl (pl_X9_X4 a cyI cyJ v9_refusals v7_rows v7_lengths v7_sizes v7_rests v7_orders v6_hooks v6_lefts v6_heights v1_table v5_known v8_sizes v8_coefficients v8_undoneSums v8_undos v8_nextUndo v8_imageTaken v0_totals v3_letters v3_count v3_next v3_size v4_values v4_lengths v4_values v4_lengths) (c_X4_isMissing l D cyI cyJ G a H.size v4_values v4_lengths x1 r_18 hk_19) pk_X4_isMissing mw_2_148 ⟨rfl, rfl, Nat.le_of_ble_eq_true rfl, Nat.le_of_ble_eq_true rfl⟩ rfl rfl rfl rfl rfl (Nat.le_of_ble_eq_true rfl) ⟨Nat.le_of_ble_eq_true rfl, Nat.le_of_ble_eq_true rfl⟩ dX9_shape_22 (fun H locs hn_20 hP hD hS => ?_)
    refine lv_if_eq (tgt := 33) hx hb dX9_shape_25 (by decide) (fun hc_21 => ?_) (fun hc_21 => ?_)
    · have hf := pe_t hf hc_21
      refine lv_aload_n hx hb dX9_shape_33 rfl (lv_at hl 0 rfl) ?_
      refine lv_iload_n hx hb dX9_shape_34 rfl (lv_at hl 1 rfl) ?_
      obtain ⟨r_22, hk_23, hf⟩ := pe_1 hf
      refine xv_i (As := [.int x1]) (rest := []) (q0 := 0) (ci := 9) Cx hP hD hS hl (pl_X9_X9 a cyI cyJ v9_refusals v7_rows v7_lengths v7_sizes v7_rests v7_orders v6_hooks v6_lefts v6_heights v1_table v5_known v8_sizes v8_coefficients v8_undoneSums v8_undos v8_nextUndo v8_imageTaken v0_totals v3_letters v3_count v3_next v3_size v4_values v4_lengths v9_refusals v7_rows v7_lengths v7_sizes v7_rests v7_orders v6_hooks v6_lefts v6_heights v1_table v5_known v8_sizes v8_coefficients v8_undoneSums v8_undos v8_nextUndo v8_imageTaken v0_totals v3_letters v3_count v3_next v3_size v4_values v4_lengths) (c_X9_shapeTold l D cyI cyJ G a H.size v9_refusals v7_rows v7_lengths v7_sizes v7_rests v7_orders v6_hooks v6_lefts v6_heights v1_table v5_known v8_sizes v8_coefficients v8_undoneSums v8_undos v8_nextUndo v8_imageTaken v0_totals v3_letters v3_count v3_next v3_size v4_values v4_lengths x1 r_22 hk_23) pk_X9_shapeTold mw_2_157 ⟨rfl, rfl, Nat.le_of_ble_eq_true rfl, Nat.le_of_ble_eq_true rfl⟩ rfl rfl rfl rfl rfl (Nat.le_of_ble_eq_true rfl) ⟨Nat.le_of_ble_eq_true rfl, Nat.le_of_ble_eq_true rfl⟩ dX9_shape_35 (fun H locs hP hD hS => ?_)
      obtain ⟨rfl, rfl⟩ := po_2 hf
      rw [← hQ]; exact xe_iret Cx rfl hP hD hS dX9_shape_38
    · have hf := pe_f hf hc_21
      refine lv_bipush (v := (-11 : Int32)) hx hb dX9_shape_28 (by decide) ?_
      refine lv_goto (tgt := 38) hx hb dX9_shape_30 (by decide) ?_
      obtain ⟨rfl, rfl⟩ := po_2 hf
      rw [← hQ]; exact xe_iret Cx rfl hP hD hS dX9_shape_38
  · have hf := pe_t hf hc_17
    refine lv_aload_n hx hb dX9_shape_11 rfl (lv_at hl 0 rfl) ?_
    refine lv_iconst (v := (-1 : Int32)) hx hb dX9_shape_12 (by decide) ?_
    obtain ⟨r_24, v9_refusals_25, hk_26, hf⟩ := pe_2 hf
    refine xv_i (As := [.int (-1 : Int32)]) (rest := []) (q0 := 0) (ci := 9) Cx hP hD hS hl (pl_X9_X9 a cyI cyJ v9_refusals v7_rows v7_lengths v7_sizes v7_rests v7_orders v6_hooks v6_lefts v6_heights v1_table v5_known v8_sizes v8_coefficients v8_undoneSums v8_undos v8_nextUndo v8_imageTaken v0_totals v3_letters v3_count v3_next v3_size v4_values v4_lengths v9_refusals_25 v7_rows v7_lengths v7_sizes v7_rests v7_orders v6_hooks v6_lefts v6_heights v1_table v5_known v8_sizes v8_coefficients v8_undoneSums v8_undos v8_nextUndo v8_imageTaken v0_totals v3_letters v3_count v3_next v3_size v4_values v4_lengths) (c_X9_refuse l D cyI cyJ G a H.size v9_refusals v7_rows v7_lengths v7_sizes v7_rests v7_orders v6_hooks v6_lefts v6_heights v1_table v5_known v8_sizes v8_coefficients v8_undoneSums v8_undos v8_nextUndo v8_imageTaken v0_totals v3_letters v3_count v3_next v3_size v4_values v4_lengths (-1 : Int32) r_24 v9_refusals_25 hk_26) pk_X9_refuse mw_2_103 ⟨rfl, rfl, Nat.le_of_ble_eq_true rfl, Nat.le_of_ble_eq_true rfl⟩ rfl rfl rfl rfl rfl (Nat.le_of_ble_eq_true rfl) ⟨Nat.le_of_ble_eq_true rfl, Nat.le_of_ble_eq_true rfl⟩ dX9_shape_13 (fun H locs hP hD hS => ?_)
    obtain ⟨rfl, rfl⟩ := po_2 hf
    rw [← hQ]; exact xe_iret Cx rfl hP hD hS dX9_shape_16
def f_X9_shapes (v9_refusals : Nat → Int32) (x1 : Int32) (x2 : Int32) : Option (Int32 × (Nat → Int32)) := if 0 ≤ x1 then (if x1 ≤ (8 : Int32) then (if x2 = (0 : Int32) then (p_b1 (f_X7_firstOf x1) (fun r_4 => some (r_4, v9_refusals))) else (if x2 = (1 : Int32) then (p_b1 (f_X7_countOf x1) (fun r_7 => some (r_7, v9_refusals))) else (p_b2 (f_X9_refuse v9_refusals (-2 : Int32)) (fun r_9 v9_refusals_10 => some (r_9, v9_refusals_10))))) else (p_b2 (f_X9_refuse v9_refusals (-6 : Int32)) (fun r_12 v9_refusals_13 => some (r_12, v9_refusals_13)))) else (p_b2 (f_X9_refuse v9_refusals (-4 : Int32)) (fun r_15 v9_refusals_16 => some (r_15, v9_refusals_16)))
set_option maxHeartbeats 4000000 in
set_option maxRecDepth 20000 in
theorem c_X9_shapes (l : Launch) (D : va_G) (cyI cyJ : ClassId) (G a : Nat → Nat) (sz : Nat) (v9_refusals : Nat → Int32) (v7_rows : Nat → Int32) (v7_lengths : Nat → Int32) (v7_sizes : Nat → Int32) (v7_rests : Nat → Int32) (v7_orders : Nat → Int32) (v6_hooks : Nat → Int32) (v6_lefts : Nat → Int32) (v6_heights : Nat → Int32) (v1_table : Nat → Int32) (v5_known : Nat → Int32) (v8_sizes : Nat → Int32) (v8_coefficients : Nat → Int32) (v8_undoneSums : Nat → Int32) (v8_undos : Int32) (v8_nextUndo : Int32) (v8_imageTaken : Int32) (v0_totals : Nat → Int64) (v3_letters : Nat → Int32) (v3_count : Int32) (v3_next : Int32) (v3_size : Int32) (v4_values : Nat → Int32) (v4_lengths : Nat → Int32) (x1 : Int32) (x2 : Int32) (ro : Int32) (ov9_refusals : Nat → Int32) (hf : f_X9_shapes v9_refusals x1 x2 = some (ro, ov9_refusals)) : xm_i l yX9_shapes (Cond.code yX9_shapes cX9_shapes 3 (some .int) :: xg_tbl) { frames := 1, cells := 0, slots := 0, locals := 22 } D xcl [(cyI, .int), (cyJ, .long)] G sz [.ref (a 0), .int x1, .int x2] (wd_X9 a cyI cyJ v9_refusals v7_rows v7_lengths v7_sizes v7_rests v7_orders v6_hooks v6_lefts v6_heights v1_table v5_known v8_sizes v8_coefficients v8_undoneSums v8_undos v8_nextUndo v8_imageTaken v0_totals v3_letters v3_count v3_next v3_size v4_values v4_lengths) (wd_X9 a cyI cyJ ov9_refusals v7_rows v7_lengths v7_sizes v7_rests v7_orders v6_hooks v6_lefts v6_heights v1_table v5_known v8_sizes v8_coefficients v8_undoneSums v8_undos v8_nextUndo v8_imageTaken v0_totals v3_letters v3_count v3_next v3_size v4_values v4_lengths) ro := by
  refine xm_of_i (own := RX9) (by decide) rfl rfl (Nat.le_of_ble_eq_true rfl) ?_
  intro p e s m args below meth c ls Q A hQ hAe hin Cx hsz hP hD hS hl
  have Cx1 := Cx
  obtain ⟨⟨hx, hb, hml, hown, hts⟩, hr, hlocks, hK, hA, hT⟩ := Cx1
  have hl : lv_has ls 3 [(0, .ref (a 0)), (1, .int x1), (2, .int x2)] := hl
  obtain ⟨H, eH⟩ : ∃ H, H = s.heap := ⟨_, rfl⟩
  obtain ⟨locs, eL⟩ : ∃ L : List Loc, L = [] := ⟨_, rfl⟩
  rw [← eH] at hP
  have hS : va_S A s.heap H locs := by rw [eH, eL]; exact hS
  suffices hgo : W p l e { frames := 1, cells := 0, slots := 0, locals := 22 } s m args below meth c H locs 0 0 Q (F0 m 0 ls []) by rw [eH, eL] at hgo; exact hgo
  clear eH eL
  unfold f_X9_shapes at hf
  refine lv_iload_n hx hb dX9_shapes_0 rfl (lv_at hl 1 rfl) ?_
  refine lv_if_ge (tgt := 11) hx hb dX9_shapes_1 (by decide) (fun hc_18 => ?_) (fun hc_18 => ?_)
  · have hf := pe_t hf hc_18
    refine lv_iload_n hx hb dX9_shapes_11 rfl (lv_at hl 1 rfl) ?_
    refine lv_bipush (v := (8 : Int32)) hx hb dX9_shapes_12 (by decide) ?_
    refine lv_icmp_le (tgt := 24) hx hb dX9_shapes_14 (by decide) (fun hc_19 => ?_) (fun hc_19 => ?_)
    · have hf := pe_t hf hc_19
      refine lv_iload_n hx hb dX9_shapes_24 rfl (lv_at hl 2 rfl) ?_
      by_cases hc_20 : x2 = (0 : Int32)
      · have hf := pe_t hf hc_20
        refine lv_lookup (tgt := 52) hx hb dX9_shapes_25 (by decide) (by rw [hc_20]; first | done | rfl) (by decide) ?_
        refine lv_aload_n hx hb dX9_shapes_52 rfl (lv_at hl 0 rfl) ?_
        refine va_get (ci := 9) (v := .ref (a 2)) hx hb hts wX9_in hown hK hP 0 rfl rfl 0 (by decide) (hts _ mw_2_67) (fun _ h9 => h9) rfl dX9_shapes_53 ?_
        refine lv_iload_n hx hb dX9_shapes_56 rfl (lv_at hl 1 rfl) ?_
        obtain ⟨r_21, hk_22, hf⟩ := pe_1 hf
        refine xv_i (As := [.int x1]) (rest := []) (q0 := 0) (ci := 7) Cx hP hD hS hl (pl_X9_X7 a cyI cyJ v9_refusals v7_rows v7_lengths v7_sizes v7_rests v7_orders v6_hooks v6_lefts v6_heights v1_table v5_known v8_sizes v8_coefficients v8_undoneSums v8_undos v8_nextUndo v8_imageTaken v0_totals v3_letters v3_count v3_next v3_size v4_values v4_lengths v7_rows v7_lengths v7_sizes v7_rests v7_orders) (c_X7_firstOf l D cyI cyJ G a H.size v7_rows v7_lengths v7_sizes v7_rests v7_orders x1 r_21 hk_22) pk_X7_firstOf mw_2_176 ⟨rfl, rfl, Nat.le_of_ble_eq_true rfl, Nat.le_of_ble_eq_true rfl⟩ rfl rfl rfl rfl rfl (Nat.le_of_ble_eq_true rfl) ⟨Nat.le_of_ble_eq_true rfl, Nat.le_of_ble_eq_true rfl⟩ dX9_shapes_57 (fun H locs hP hD hS => ?_)
        obtain ⟨rfl, rfl⟩ := po_2 hf
        rw [← hQ]; exact xe_iret Cx rfl hP hD hS dX9_shapes_60
      · have hf := pe_f hf hc_20
        by_cases hc_23 : x2 = (1 : Int32)
        · have hf := pe_t hf hc_23
          refine lv_lookup (tgt := 61) hx hb dX9_shapes_25 (by decide) (by rw [hc_23]; first | done | rfl) (by decide) ?_
          refine lv_aload_n hx hb dX9_shapes_61 rfl (lv_at hl 0 rfl) ?_
          refine va_get (ci := 9) (v := .ref (a 2)) hx hb hts wX9_in hown hK hP 0 rfl rfl 0 (by decide) (hts _ mw_2_67) (fun _ h9 => h9) rfl dX9_shapes_62 ?_
          refine lv_iload_n hx hb dX9_shapes_65 rfl (lv_at hl 1 rfl) ?_
          obtain ⟨r_24, hk_25, hf⟩ := pe_1 hf
          refine xv_i (As := [.int x1]) (rest := []) (q0 := 0) (ci := 7) Cx hP hD hS hl (pl_X9_X7 a cyI cyJ v9_refusals v7_rows v7_lengths v7_sizes v7_rests v7_orders v6_hooks v6_lefts v6_heights v1_table v5_known v8_sizes v8_coefficients v8_undoneSums v8_undos v8_nextUndo v8_imageTaken v0_totals v3_letters v3_count v3_next v3_size v4_values v4_lengths v7_rows v7_lengths v7_sizes v7_rests v7_orders) (c_X7_countOf l D cyI cyJ G a H.size v7_rows v7_lengths v7_sizes v7_rests v7_orders x1 r_24 hk_25) pk_X7_countOf mw_2_177 ⟨rfl, rfl, Nat.le_of_ble_eq_true rfl, Nat.le_of_ble_eq_true rfl⟩ rfl rfl rfl rfl rfl (Nat.le_of_ble_eq_true rfl) ⟨Nat.le_of_ble_eq_true rfl, Nat.le_of_ble_eq_true rfl⟩ dX9_shapes_66 (fun H locs hP hD hS => ?_)
          obtain ⟨rfl, rfl⟩ := po_2 hf
          rw [← hQ]; exact xe_iret Cx rfl hP hD hS dX9_shapes_69
        · have hf := pe_f hf hc_23
          have hc_20 : (x2).toInt ≠ 0 := xh_ne (by decide) hc_20
          have hc_23 : (x2).toInt ≠ 1 := xh_ne (by decide) hc_23
          refine lv_lookup (tgt := 70) hx hb dX9_shapes_25 (by decide) (by rw [Op.lookupswitch.offset_cons, if_neg (Ne.symm hc_20), Op.lookupswitch.offset_cons, if_neg (Ne.symm hc_23), Op.lookupswitch.offset_nil]) (by decide) ?_
          refine lv_aload_n hx hb dX9_shapes_70 rfl (lv_at hl 0 rfl) ?_
          refine lv_bipush (v := (-2 : Int32)) hx hb dX9_shapes_71 (by decide) ?_
          obtain ⟨r_26, v9_refusals_27, hk_28, hf⟩ := pe_2 hf
          refine xv_i (As := [.int (-2 : Int32)]) (rest := []) (q0 := 0) (ci := 9) Cx hP hD hS hl (pl_X9_X9 a cyI cyJ v9_refusals v7_rows v7_lengths v7_sizes v7_rests v7_orders v6_hooks v6_lefts v6_heights v1_table v5_known v8_sizes v8_coefficients v8_undoneSums v8_undos v8_nextUndo v8_imageTaken v0_totals v3_letters v3_count v3_next v3_size v4_values v4_lengths v9_refusals_27 v7_rows v7_lengths v7_sizes v7_rests v7_orders v6_hooks v6_lefts v6_heights v1_table v5_known v8_sizes v8_coefficients v8_undoneSums v8_undos v8_nextUndo v8_imageTaken v0_totals v3_letters v3_count v3_next v3_size v4_values v4_lengths) (c_X9_refuse l D cyI cyJ G a H.size v9_refusals v7_rows v7_lengths v7_sizes v7_rests v7_orders v6_hooks v6_lefts v6_heights v1_table v5_known v8_sizes v8_coefficients v8_undoneSums v8_undos v8_nextUndo v8_imageTaken v0_totals v3_letters v3_count v3_next v3_size v4_values v4_lengths (-2 : Int32) r_26 v9_refusals_27 hk_28) pk_X9_refuse mw_2_103 ⟨rfl, rfl, Nat.le_of_ble_eq_true rfl, Nat.le_of_ble_eq_true rfl⟩ rfl rfl rfl rfl rfl (Nat.le_of_ble_eq_true rfl) ⟨Nat.le_of_ble_eq_true rfl, Nat.le_of_ble_eq_true rfl⟩ dX9_shapes_73 (fun H locs hP hD hS => ?_)
          obtain ⟨rfl, rfl⟩ := po_2 hf
          rw [← hQ]; exact xe_iret Cx rfl hP hD hS dX9_shapes_76
    · have hf := pe_f hf hc_19
      refine lv_aload_n hx hb dX9_shapes_17 rfl (lv_at hl 0 rfl) ?_
      refine lv_bipush (v := (-6 : Int32)) hx hb dX9_shapes_18 (by decide) ?_
      obtain ⟨r_29, v9_refusals_30, hk_31, hf⟩ := pe_2 hf
      refine xv_i (As := [.int (-6 : Int32)]) (rest := []) (q0 := 0) (ci := 9) Cx hP hD hS hl (pl_X9_X9 a cyI cyJ v9_refusals v7_rows v7_lengths v7_sizes v7_rests v7_orders v6_hooks v6_lefts v6_heights v1_table v5_known v8_sizes v8_coefficients v8_undoneSums v8_undos v8_nextUndo v8_imageTaken v0_totals v3_letters v3_count v3_next v3_size v4_values v4_lengths v9_refusals_30 v7_rows v7_lengths v7_sizes v7_rests v7_orders v6_hooks v6_lefts v6_heights v1_table v5_known v8_sizes v8_coefficients v8_undoneSums v8_undos v8_nextUndo v8_imageTaken v0_totals v3_letters v3_count v3_next v3_size v4_values v4_lengths) (c_X9_refuse l D cyI cyJ G a H.size v9_refusals v7_rows v7_lengths v7_sizes v7_rests v7_orders v6_hooks v6_lefts v6_heights v1_table v5_known v8_sizes v8_coefficients v8_undoneSums v8_undos v8_nextUndo v8_imageTaken v0_totals v3_letters v3_count v3_next v3_size v4_values v4_lengths (-6 : Int32) r_29 v9_refusals_30 hk_31) pk_X9_refuse mw_2_103 ⟨rfl, rfl, Nat.le_of_ble_eq_true rfl, Nat.le_of_ble_eq_true rfl⟩ rfl rfl rfl rfl rfl (Nat.le_of_ble_eq_true rfl) ⟨Nat.le_of_ble_eq_true rfl, Nat.le_of_ble_eq_true rfl⟩ dX9_shapes_20 (fun H locs hP hD hS => ?_)
      obtain ⟨rfl, rfl⟩ := po_2 hf
      rw [← hQ]; exact xe_iret Cx rfl hP hD hS dX9_shapes_23
  · have hf := pe_f hf hc_18
    refine lv_aload_n hx hb dX9_shapes_4 rfl (lv_at hl 0 rfl) ?_
    refine lv_bipush (v := (-4 : Int32)) hx hb dX9_shapes_5 (by decide) ?_
    obtain ⟨r_32, v9_refusals_33, hk_34, hf⟩ := pe_2 hf
    refine xv_i (As := [.int (-4 : Int32)]) (rest := []) (q0 := 0) (ci := 9) Cx hP hD hS hl (pl_X9_X9 a cyI cyJ v9_refusals v7_rows v7_lengths v7_sizes v7_rests v7_orders v6_hooks v6_lefts v6_heights v1_table v5_known v8_sizes v8_coefficients v8_undoneSums v8_undos v8_nextUndo v8_imageTaken v0_totals v3_letters v3_count v3_next v3_size v4_values v4_lengths v9_refusals_33 v7_rows v7_lengths v7_sizes v7_rests v7_orders v6_hooks v6_lefts v6_heights v1_table v5_known v8_sizes v8_coefficients v8_undoneSums v8_undos v8_nextUndo v8_imageTaken v0_totals v3_letters v3_count v3_next v3_size v4_values v4_lengths) (c_X9_refuse l D cyI cyJ G a H.size v9_refusals v7_rows v7_lengths v7_sizes v7_rests v7_orders v6_hooks v6_lefts v6_heights v1_table v5_known v8_sizes v8_coefficients v8_undoneSums v8_undos v8_nextUndo v8_imageTaken v0_totals v3_letters v3_count v3_next v3_size v4_values v4_lengths (-4 : Int32) r_32 v9_refusals_33 hk_34) pk_X9_refuse mw_2_103 ⟨rfl, rfl, Nat.le_of_ble_eq_true rfl, Nat.le_of_ble_eq_true rfl⟩ rfl rfl rfl rfl rfl (Nat.le_of_ble_eq_true rfl) ⟨Nat.le_of_ble_eq_true rfl, Nat.le_of_ble_eq_true rfl⟩ dX9_shapes_7 (fun H locs hP hD hS => ?_)
    obtain ⟨rfl, rfl⟩ := po_2 hf
    rw [← hQ]; exact xe_iret Cx rfl hP hD hS dX9_shapes_10
def f_X9_hook_24 (v7_rows : Nat → Int32) (v9_refusals : Nat → Int32) : Option (Int32 × (Nat → Int32)) := p_b2 (f_X9_refuse v9_refusals (-1 : Int32)) (fun r_1 v9_refusals_2 => some (r_1, v9_refusals_2))
def f_X9_hook (v9_refusals : Nat → Int32) (v7_rows : Nat → Int32) (x1 : Int32) (x2 : Int32) (x3 : Int32) : Option (Int32 × (Nat → Int32)) := p_b1 (f_X7_has x1) (fun r_4 => if r_4 = 0 then ((f_X9_hook_24 v7_rows) v9_refusals) else (p_b1 (f_X7_hasCell v7_rows x1 x2 x3) (fun r_8 => if r_8 = 0 then ((f_X9_hook_24 v7_rows) v9_refusals) else (p_b1 (f_X7_hookAt v7_rows x1 x2 x3) (fun r_12 => some (r_12, v9_refusals))))))
set_option maxHeartbeats 4000000 in
set_option maxRecDepth 20000 in
theorem c_X9_hook (l : Launch) (D : va_G) (cyI cyJ : ClassId) (G a : Nat → Nat) (sz : Nat) (v9_refusals : Nat → Int32) (v7_rows : Nat → Int32) (v7_lengths : Nat → Int32) (v7_sizes : Nat → Int32) (v7_rests : Nat → Int32) (v7_orders : Nat → Int32) (v6_hooks : Nat → Int32) (v6_lefts : Nat → Int32) (v6_heights : Nat → Int32) (v1_table : Nat → Int32) (v5_known : Nat → Int32) (v8_sizes : Nat → Int32) (v8_coefficients : Nat → Int32) (v8_undoneSums : Nat → Int32) (v8_undos : Int32) (v8_nextUndo : Int32) (v8_imageTaken : Int32) (v0_totals : Nat → Int64) (v3_letters : Nat → Int32) (v3_count : Int32) (v3_next : Int32) (v3_size : Int32) (v4_values : Nat → Int32) (v4_lengths : Nat → Int32) (x1 : Int32) (x2 : Int32) (x3 : Int32) (ro : Int32) (ov9_refusals : Nat → Int32) (hf : f_X9_hook v9_refusals v7_rows x1 x2 x3 = some (ro, ov9_refusals)) : xm_i l yX9_hook (Cond.code yX9_hook cX9_hook 4 (some .int) :: xg_tbl) { frames := 4, cells := 0, slots := 0, locals := 92 } D xcl [(cyI, .int), (cyJ, .long)] G sz [.ref (a 0), .int x1, .int x2, .int x3] (wd_X9 a cyI cyJ v9_refusals v7_rows v7_lengths v7_sizes v7_rests v7_orders v6_hooks v6_lefts v6_heights v1_table v5_known v8_sizes v8_coefficients v8_undoneSums v8_undos v8_nextUndo v8_imageTaken v0_totals v3_letters v3_count v3_next v3_size v4_values v4_lengths) (wd_X9 a cyI cyJ ov9_refusals v7_rows v7_lengths v7_sizes v7_rests v7_orders v6_hooks v6_lefts v6_heights v1_table v5_known v8_sizes v8_coefficients v8_undoneSums v8_undos v8_nextUndo v8_imageTaken v0_totals v3_letters v3_count v3_next v3_size v4_values v4_lengths) ro := by
  refine xm_of_i (own := RX9) (by decide) rfl rfl (Nat.le_of_ble_eq_true rfl) ?_
  intro p e s m args below meth c ls Q A hQ hAe hin Cx hsz hP hD hS hl
  have Cx1 := Cx
  obtain ⟨⟨hx, hb, hml, hown, hts⟩, hr, hlocks, hK, hA, hT⟩ := Cx1
  have hl : lv_has ls 4 [(0, .ref (a 0)), (1, .int x1), (2, .int x2), (3, .int x3)] := hl
  obtain ⟨H, eH⟩ : ∃ H, H = s.heap := ⟨_, rfl⟩
  obtain ⟨locs, eL⟩ : ∃ L : List Loc, L = [] := ⟨_, rfl⟩
  rw [← eH] at hP
  have hS : va_S A s.heap H locs := by rw [eH, eL]; exact hS
  suffices hgo : W p l e { frames := 4, cells := 0, slots := 0, locals := 92 } s m args below meth c H locs 0 0 Q (F0 m 0 ls []) by rw [eH, eL] at hgo; exact hgo
  clear eH eL
  unfold f_X9_hook at hf
  have w_24 : ∀ (v9_refusals : Nat → Int32) (H : Heap) (locs : List Loc) (ls : Array Slot), (f_X9_hook_24 v7_rows) v9_refusals = some (ro, ov9_refusals) → va_P D xcl (wd_X9 a cyI cyJ v9_refusals v7_rows v7_lengths v7_sizes v7_rests v7_orders v6_hooks v6_lefts v6_heights v1_table v5_known v8_sizes v8_coefficients v8_undoneSums v8_undos v8_nextUndo v8_imageTaken v0_totals v3_letters v3_count v3_next v3_size v4_values v4_lengths) H → va_D A (wd_X9 a cyI cyJ v9_refusals v7_rows v7_lengths v7_sizes v7_rests v7_orders v6_hooks v6_lefts v6_heights v1_table v5_known v8_sizes v8_coefficients v8_undoneSums v8_undos v8_nextUndo v8_imageTaken v0_totals v3_letters v3_count v3_next v3_size v4_values v4_lengths) → va_S A s.heap H locs → lv_has ls 4 [(0, .ref (a 0))] → W p l e { frames := 4, cells := 0, slots := 0, locals := 92 } s m args below meth c H locs 0 0 Q (F0 m 24 ls []) := by
    intro v9_refusals H locs ls hf hP hD hS hl
    unfold f_X9_hook_24 at hf
    refine lv_aload_n hx hb dX9_hook_24 rfl (lv_at hl 0 rfl) ?_
    refine lv_iconst (v := (-1 : Int32)) hx hb dX9_hook_25 (by decide) ?_
    obtain ⟨r_14, v9_refusals_15, hk_16, hf⟩ := pe_2 hf
    refine xv_i (As := [.int (-1 : Int32)]) (rest := []) (q0 := 0) (ci := 9) Cx hP hD hS hl (pl_X9_X9 a cyI cyJ v9_refusals v7_rows v7_lengths v7_sizes v7_rests v7_orders v6_hooks v6_lefts v6_heights v1_table v5_known v8_sizes v8_coefficients v8_undoneSums v8_undos v8_nextUndo v8_imageTaken v0_totals v3_letters v3_count v3_next v3_size v4_values v4_lengths v9_refusals_15 v7_rows v7_lengths v7_sizes v7_rests v7_orders v6_hooks v6_lefts v6_heights v1_table v5_known v8_sizes v8_coefficients v8_undoneSums v8_undos v8_nextUndo v8_imageTaken v0_totals v3_letters v3_count v3_next v3_size v4_values v4_lengths) (c_X9_refuse l D cyI cyJ G a H.size v9_refusals v7_rows v7_lengths v7_sizes v7_rests v7_orders v6_hooks v6_lefts v6_heights v1_table v5_known v8_sizes v8_coefficients v8_undoneSums v8_undos v8_nextUndo v8_imageTaken v0_totals v3_letters v3_count v3_next v3_size v4_values v4_lengths (-1 : Int32) r_14 v9_refusals_15 hk_16) pk_X9_refuse mw_2_103 ⟨rfl, rfl, Nat.le_of_ble_eq_true rfl, Nat.le_of_ble_eq_true rfl⟩ rfl rfl rfl rfl rfl (Nat.le_of_ble_eq_true rfl) ⟨Nat.le_of_ble_eq_true rfl, Nat.le_of_ble_eq_true rfl⟩ dX9_hook_26 (fun H locs hP hD hS => ?_)
    obtain ⟨rfl, rfl⟩ := po_2 hf
    rw [← hQ]; exact xe_iret Cx rfl hP hD hS dX9_hook_29
  refine lv_aload_n hx hb dX9_hook_0 rfl (lv_at hl 0 rfl) ?_
  refine va_get (ci := 9) (v := .ref (a 2)) hx hb hts wX9_in hown hK hP 0 rfl rfl 0 (by decide) (hts _ mw_2_67) (fun _ h9 => h9) rfl dX9_hook_1 ?_
  refine lv_iload_n hx hb dX9_hook_4 rfl (lv_at hl 1 rfl) ?_
  obtain ⟨r_17, hk_18, hf⟩ := pe_1 hf
  refine xv_z (As := [.int x1]) (rest := []) (q0 := 0) (ci := 7) Cx hP hD hS hl (pl_X9_X7 a cyI cyJ v9_refusals v7_rows v7_lengths v7_sizes v7_rests v7_orders v6_hooks v6_lefts v6_heights v1_table v5_known v8_sizes v8_coefficients v8_undoneSums v8_undos v8_nextUndo v8_imageTaken v0_totals v3_letters v3_count v3_next v3_size v4_values v4_lengths v7_rows v7_lengths v7_sizes v7_rests v7_orders) (c_X7_has l D cyI cyJ G a H.size v7_rows v7_lengths v7_sizes v7_rests v7_orders x1 r_17 hk_18) pk_X7_has mw_2_102 ⟨rfl, rfl, Nat.le_of_ble_eq_true rfl, Nat.le_of_ble_eq_true rfl⟩ rfl rfl rfl rfl rfl (Nat.le_of_ble_eq_true rfl) ⟨Nat.le_of_ble_eq_true rfl, Nat.le_of_ble_eq_true rfl⟩ dX9_hook_5 (fun H locs hn_19 hP hD hS => ?_)
  refine lv_if_eq (tgt := 24) hx hb dX9_hook_8 (by decide) (fun hc_20 => ?_) (fun hc_20 => ?_)
  · have hf := pe_t hf hc_20
    exact w_24 v9_refusals H locs ls hf hP hD hS (lv_sub hl [0] rfl)
  · have hf := pe_f hf hc_20
    refine lv_aload_n hx hb dX9_hook_11 rfl (lv_at hl 0 rfl) ?_
    refine va_get (ci := 9) (v := .ref (a 2)) hx hb hts wX9_in hown hK hP 0 rfl rfl 0 (by decide) (hts _ mw_2_67) (fun _ h9 => h9) rfl dX9_hook_12 ?_
    refine lv_iload_n hx hb dX9_hook_15 rfl (lv_at hl 1 rfl) ?_
    refine lv_iload_n hx hb dX9_hook_16 rfl (lv_at hl 2 rfl) ?_
    refine lv_iload_n hx hb dX9_hook_17 rfl (lv_at hl 3 rfl) ?_
    obtain ⟨r_21, hk_22, hf⟩ := pe_1 hf
    refine xv_z (As := [.int x1, .int x2, .int x3]) (rest := []) (q0 := 0) (ci := 7) Cx hP hD hS hl (pl_X9_X7 a cyI cyJ v9_refusals v7_rows v7_lengths v7_sizes v7_rests v7_orders v6_hooks v6_lefts v6_heights v1_table v5_known v8_sizes v8_coefficients v8_undoneSums v8_undos v8_nextUndo v8_imageTaken v0_totals v3_letters v3_count v3_next v3_size v4_values v4_lengths v7_rows v7_lengths v7_sizes v7_rests v7_orders) (c_X7_hasCell l D cyI cyJ G a H.size v7_rows v7_lengths v7_sizes v7_rests v7_orders x1 x2 x3 r_21 hk_22) pk_X7_hasCell mw_2_182 ⟨rfl, rfl, Nat.le_of_ble_eq_true rfl, Nat.le_of_ble_eq_true rfl⟩ rfl rfl rfl rfl rfl (Nat.le_of_ble_eq_true rfl) ⟨Nat.le_of_ble_eq_true rfl, Nat.le_of_ble_eq_true rfl⟩ dX9_hook_18 (fun H locs hn_23 hP hD hS => ?_)
    refine lv_if_ne (tgt := 30) hx hb dX9_hook_21 (by decide) (fun hc_24 => ?_) (fun hc_24 => ?_)
    · have hf := pe_f hf hc_24
      refine lv_aload_n hx hb dX9_hook_30 rfl (lv_at hl 0 rfl) ?_
      refine va_get (ci := 9) (v := .ref (a 2)) hx hb hts wX9_in hown hK hP 0 rfl rfl 0 (by decide) (hts _ mw_2_67) (fun _ h9 => h9) rfl dX9_hook_31 ?_
      refine lv_iload_n hx hb dX9_hook_34 rfl (lv_at hl 1 rfl) ?_
      refine lv_iload_n hx hb dX9_hook_35 rfl (lv_at hl 2 rfl) ?_
      refine lv_iload_n hx hb dX9_hook_36 rfl (lv_at hl 3 rfl) ?_
      obtain ⟨r_25, hk_26, hf⟩ := pe_1 hf
      refine xv_i (As := [.int x1, .int x2, .int x3]) (rest := []) (q0 := 0) (ci := 7) Cx hP hD hS hl (pl_X9_X7 a cyI cyJ v9_refusals v7_rows v7_lengths v7_sizes v7_rests v7_orders v6_hooks v6_lefts v6_heights v1_table v5_known v8_sizes v8_coefficients v8_undoneSums v8_undos v8_nextUndo v8_imageTaken v0_totals v3_letters v3_count v3_next v3_size v4_values v4_lengths v7_rows v7_lengths v7_sizes v7_rests v7_orders) (c_X7_hookAt l D cyI cyJ G a H.size v7_rows v7_lengths v7_sizes v7_rests v7_orders x1 x2 x3 r_25 hk_26) pk_X7_hookAt mw_2_186 ⟨rfl, rfl, Nat.le_of_ble_eq_true rfl, Nat.le_of_ble_eq_true rfl⟩ rfl rfl rfl rfl rfl (Nat.le_of_ble_eq_true rfl) ⟨Nat.le_of_ble_eq_true rfl, Nat.le_of_ble_eq_true rfl⟩ dX9_hook_37 (fun H locs hP hD hS => ?_)
      obtain ⟨rfl, rfl⟩ := po_2 hf
      rw [← hQ]; exact xe_iret Cx rfl hP hD hS dX9_hook_40
    · have hf := pe_t hf hc_24
      exact w_24 v9_refusals H locs ls hf hP hD hS (lv_sub hl [0] rfl)
def f_X9_rims_27 (v7_sizes : Nat → Int32) (v6_hooks : Nat → Int32) (v6_lefts : Nat → Int32) (v9_refusals : Nat → Int32) : Option (Int32 × (Nat → Int32)) := p_b2 (f_X9_refuse v9_refusals (-4 : Int32)) (fun r_1 v9_refusals_2 => some (r_1, v9_refusals_2))
def f_X9_rims (v9_refusals : Nat → Int32) (v7_sizes : Nat → Int32) (v6_hooks : Nat → Int32) (v6_lefts : Nat → Int32) (x1 : Int32) (x2 : Int32) (x3 : Int32) : Option (Int32 × (Nat → Int32)) := p_b1 (f_X7_has x1) (fun r_4 => if r_4 = 0 then (p_b2 (f_X9_refuse v9_refusals (-1 : Int32)) (fun r_22 v9_refusals_23 => some (r_22, v9_refusals_23))) else (if x2 < (1 : Int32) then ((f_X9_rims_27 v7_sizes v6_hooks v6_lefts) v9_refusals) else (if (-1 : Int32) ≤ x3 then (if x2 ≤ (8 : Int32) then (if x3 = (-1 : Int32) then (p_b1 (f_X6_howMany v7_sizes v6_hooks x1 x2) (fun r_17 => some (r_17, v9_refusals))) else (p_b1 (f_X6_cellOf v7_sizes v6_hooks x1 x2 x3) (fun r_12 => if 0 ≤ r_12 then (p_b1 (f_X6_leftBy v6_lefts x1 r_12) (fun r_15 => some (r_15, v9_refusals))) else (some ((-9 : Int32), v9_refusals))))) else (p_b2 (f_X9_refuse v9_refusals (-6 : Int32)) (fun r_19 v9_refusals_20 => some (r_19, v9_refusals_20)))) else ((f_X9_rims_27 v7_sizes v6_hooks v6_lefts) v9_refusals))))
set_option maxHeartbeats 4000000 in
set_option maxRecDepth 20000 in
theorem c_X9_rims (l : Launch) (D : va_G) (cyI cyJ : ClassId) (G a : Nat → Nat) (sz : Nat) (v9_refusals : Nat → Int32) (v7_rows : Nat → Int32) (v7_lengths : Nat → Int32) (v7_sizes : Nat → Int32) (v7_rests : Nat → Int32) (v7_orders : Nat → Int32) (v6_hooks : Nat → Int32) (v6_lefts : Nat → Int32) (v6_heights : Nat → Int32) (v1_table : Nat → Int32) (v5_known : Nat → Int32) (v8_sizes : Nat → Int32) (v8_coefficients : Nat → Int32) (v8_undoneSums : Nat → Int32) (v8_undos : Int32) (v8_nextUndo : Int32) (v8_imageTaken : Int32) (v0_totals : Nat → Int64) (v3_letters : Nat → Int32) (v3_count : Int32) (v3_next : Int32) (v3_size : Int32) (v4_values : Nat → Int32) (v4_lengths : Nat → Int32) (x1 : Int32) (x2 : Int32) (x3 : Int32) (ro : Int32) (ov9_refusals : Nat → Int32) (hf : f_X9_rims v9_refusals v7_sizes v6_hooks v6_lefts x1 x2 x3 = some (ro, ov9_refusals)) : xm_i l yX9_rims (Cond.code yX9_rims cX9_rims 5 (some .int) :: xg_tbl) { frames := 4, cells := 0, slots := 0, locals := 90 } D xcl [(cyI, .int), (cyJ, .long)] G sz [.ref (a 0), .int x1, .int x2, .int x3] (wd_X9 a cyI cyJ v9_refusals v7_rows v7_lengths v7_sizes v7_rests v7_orders v6_hooks v6_lefts v6_heights v1_table v5_known v8_sizes v8_coefficients v8_undoneSums v8_undos v8_nextUndo v8_imageTaken v0_totals v3_letters v3_count v3_next v3_size v4_values v4_lengths) (wd_X9 a cyI cyJ ov9_refusals v7_rows v7_lengths v7_sizes v7_rests v7_orders v6_hooks v6_lefts v6_heights v1_table v5_known v8_sizes v8_coefficients v8_undoneSums v8_undos v8_nextUndo v8_imageTaken v0_totals v3_letters v3_count v3_next v3_size v4_values v4_lengths) ro := by
  refine xm_of_i (own := RX9) (by decide) rfl rfl (Nat.le_of_ble_eq_true rfl) ?_
  intro p e s m args below meth c ls Q A hQ hAe hin Cx hsz hP hD hS hl
  have Cx1 := Cx
  obtain ⟨⟨hx, hb, hml, hown, hts⟩, hr, hlocks, hK, hA, hT⟩ := Cx1
  have hl : lv_has ls 5 [(0, .ref (a 0)), (1, .int x1), (2, .int x2), (3, .int x3)] := hl
  obtain ⟨H, eH⟩ : ∃ H, H = s.heap := ⟨_, rfl⟩
  obtain ⟨locs, eL⟩ : ∃ L : List Loc, L = [] := ⟨_, rfl⟩
  rw [← eH] at hP
  have hS : va_S A s.heap H locs := by rw [eH, eL]; exact hS
  suffices hgo : W p l e { frames := 4, cells := 0, slots := 0, locals := 90 } s m args below meth c H locs 0 0 Q (F0 m 0 ls []) by rw [eH, eL] at hgo; exact hgo
  clear eH eL
  unfold f_X9_rims at hf
  have w_27 : ∀ (v9_refusals : Nat → Int32) (H : Heap) (locs : List Loc) (ls : Array Slot), (f_X9_rims_27 v7_sizes v6_hooks v6_lefts) v9_refusals = some (ro, ov9_refusals) → va_P D xcl (wd_X9 a cyI cyJ v9_refusals v7_rows v7_lengths v7_sizes v7_rests v7_orders v6_hooks v6_lefts v6_heights v1_table v5_known v8_sizes v8_coefficients v8_undoneSums v8_undos v8_nextUndo v8_imageTaken v0_totals v3_letters v3_count v3_next v3_size v4_values v4_lengths) H → va_D A (wd_X9 a cyI cyJ v9_refusals v7_rows v7_lengths v7_sizes v7_rests v7_orders v6_hooks v6_lefts v6_heights v1_table v5_known v8_sizes v8_coefficients v8_undoneSums v8_undos v8_nextUndo v8_imageTaken v0_totals v3_letters v3_count v3_next v3_size v4_values v4_lengths) → va_S A s.heap H locs → lv_has ls 5 [(0, .ref (a 0))] → W p l e { frames := 4, cells := 0, slots := 0, locals := 90 } s m args below meth c H locs 0 0 Q (F0 m 27 ls []) := by
    intro v9_refusals H locs ls hf hP hD hS hl
    unfold f_X9_rims_27 at hf
    refine lv_aload_n hx hb dX9_rims_27 rfl (lv_at hl 0 rfl) ?_
    refine lv_bipush (v := (-4 : Int32)) hx hb dX9_rims_28 (by decide) ?_
    obtain ⟨r_25, v9_refusals_26, hk_27, hf⟩ := pe_2 hf
    refine xv_i (As := [.int (-4 : Int32)]) (rest := []) (q0 := 0) (ci := 9) Cx hP hD hS hl (pl_X9_X9 a cyI cyJ v9_refusals v7_rows v7_lengths v7_sizes v7_rests v7_orders v6_hooks v6_lefts v6_heights v1_table v5_known v8_sizes v8_coefficients v8_undoneSums v8_undos v8_nextUndo v8_imageTaken v0_totals v3_letters v3_count v3_next v3_size v4_values v4_lengths v9_refusals_26 v7_rows v7_lengths v7_sizes v7_rests v7_orders v6_hooks v6_lefts v6_heights v1_table v5_known v8_sizes v8_coefficients v8_undoneSums v8_undos v8_nextUndo v8_imageTaken v0_totals v3_letters v3_count v3_next v3_size v4_values v4_lengths) (c_X9_refuse l D cyI cyJ G a H.size v9_refusals v7_rows v7_lengths v7_sizes v7_rests v7_orders v6_hooks v6_lefts v6_heights v1_table v5_known v8_sizes v8_coefficients v8_undoneSums v8_undos v8_nextUndo v8_imageTaken v0_totals v3_letters v3_count v3_next v3_size v4_values v4_lengths (-4 : Int32) r_25 v9_refusals_26 hk_27) pk_X9_refuse mw_2_103 ⟨rfl, rfl, Nat.le_of_ble_eq_true rfl, Nat.le_of_ble_eq_true rfl⟩ rfl rfl rfl rfl rfl (Nat.le_of_ble_eq_true rfl) ⟨Nat.le_of_ble_eq_true rfl, Nat.le_of_ble_eq_true rfl⟩ dX9_rims_30 (fun H locs hP hD hS => ?_)
    obtain ⟨rfl, rfl⟩ := po_2 hf
    rw [← hQ]; exact xe_iret Cx rfl hP hD hS dX9_rims_33
  refine lv_aload_n hx hb dX9_rims_0 rfl (lv_at hl 0 rfl) ?_
  refine va_get (ci := 9) (v := .ref (a 2)) hx hb hts wX9_in hown hK hP 0 rfl rfl 0 (by decide) (hts _ mw_2_67) (fun _ h9 => h9) rfl dX9_rims_1 ?_
  refine lv_iload_n hx hb dX9_rims_4 rfl (lv_at hl 1 rfl) ?_
  obtain ⟨r_28, hk_29, hf⟩ := pe_1 hf
  refine xv_z (As := [.int x1]) (rest := []) (q0 := 0) (ci := 7) Cx hP hD hS hl (pl_X9_X7 a cyI cyJ v9_refusals v7_rows v7_lengths v7_sizes v7_rests v7_orders v6_hooks v6_lefts v6_heights v1_table v5_known v8_sizes v8_coefficients v8_undoneSums v8_undos v8_nextUndo v8_imageTaken v0_totals v3_letters v3_count v3_next v3_size v4_values v4_lengths v7_rows v7_lengths v7_sizes v7_rests v7_orders) (c_X7_has l D cyI cyJ G a H.size v7_rows v7_lengths v7_sizes v7_rests v7_orders x1 r_28 hk_29) pk_X7_has mw_2_102 ⟨rfl, rfl, Nat.le_of_ble_eq_true rfl, Nat.le_of_ble_eq_true rfl⟩ rfl rfl rfl rfl rfl (Nat.le_of_ble_eq_true rfl) ⟨Nat.le_of_ble_eq_true rfl, Nat.le_of_ble_eq_true rfl⟩ dX9_rims_5 (fun H locs hn_30 hP hD hS => ?_)
  refine lv_if_ne (tgt := 17) hx hb dX9_rims_8 (by decide) (fun hc_31 => ?_) (fun hc_31 => ?_)
  · have hf := pe_f hf hc_31
    refine lv_iload_n hx hb dX9_rims_17 rfl (lv_at hl 2 rfl) ?_
    refine lv_iconst (v := (1 : Int32)) hx hb dX9_rims_18 (by decide) ?_
    refine lv_icmp_lt (tgt := 27) hx hb dX9_rims_19 (by decide) (fun hc_32 => ?_) (fun hc_32 => ?_)
    · have hf := pe_t hf hc_32
      exact w_27 v9_refusals H locs ls hf hP hD hS (lv_sub hl [0] rfl)
    · have hf := pe_f hf hc_32
      refine lv_iload_n hx hb dX9_rims_22 rfl (lv_at hl 3 rfl) ?_
      refine lv_iconst (v := (-1 : Int32)) hx hb dX9_rims_23 (by decide) ?_
      refine lv_icmp_ge (tgt := 34) hx hb dX9_rims_24 (by decide) (fun hc_33 => ?_) (fun hc_33 => ?_)
      · have hf := pe_t hf hc_33
        refine lv_iload_n hx hb dX9_rims_34 rfl (lv_at hl 2 rfl) ?_
        refine lv_bipush (v := (8 : Int32)) hx hb dX9_rims_35 (by decide) ?_
        refine lv_icmp_le (tgt := 47) hx hb dX9_rims_37 (by decide) (fun hc_34 => ?_) (fun hc_34 => ?_)
        · have hf := pe_t hf hc_34
          refine lv_iload_n hx hb dX9_rims_47 rfl (lv_at hl 3 rfl) ?_
          refine lv_iconst (v := (-1 : Int32)) hx hb dX9_rims_48 (by decide) ?_
          refine lv_icmp_ne (tgt := 62) hx hb dX9_rims_49 (by decide) (fun hc_35 => ?_) (fun hc_35 => ?_)
          · have hf := pe_f hf hc_35
            refine lv_aload_n hx hb dX9_rims_62 rfl (lv_at hl 0 rfl) ?_
            refine va_get (ci := 9) (v := .ref (a 8)) hx hb hts wX9_in hown hK hP 0 rfl rfl 1 (by decide) (hts _ mw_2_68) (fun _ h9 => h9) rfl dX9_rims_63 ?_
            refine lv_iload_n hx hb dX9_rims_66 rfl (lv_at hl 1 rfl) ?_
            refine lv_iload_n hx hb dX9_rims_67 rfl (lv_at hl 2 rfl) ?_
            refine lv_iload_n hx hb dX9_rims_68 rfl (lv_at hl 3 rfl) ?_
            obtain ⟨r_36, hk_37, hf⟩ := pe_1 hf
            refine xv_i (As := [.int x1, .int x2, .int x3]) (rest := []) (q0 := 0) (ci := 6) Cx hP hD hS hl (pl_X9_X6 a cyI cyJ v9_refusals v7_rows v7_lengths v7_sizes v7_rests v7_orders v6_hooks v6_lefts v6_heights v1_table v5_known v8_sizes v8_coefficients v8_undoneSums v8_undos v8_nextUndo v8_imageTaken v0_totals v3_letters v3_count v3_next v3_size v4_values v4_lengths v6_hooks v6_lefts v6_heights v7_rows v7_lengths v7_sizes v7_rests v7_orders) (c_X6_cellOf l D cyI cyJ G a H.size v6_hooks v6_lefts v6_heights v7_rows v7_lengths v7_sizes v7_rests v7_orders x1 x2 x3 r_36 hk_37) pk_X6_cellOf mw_2_195 ⟨rfl, rfl, Nat.le_of_ble_eq_true rfl, Nat.le_of_ble_eq_true rfl⟩ rfl rfl rfl rfl rfl (Nat.le_of_ble_eq_true rfl) ⟨Nat.le_of_ble_eq_true rfl, Nat.le_of_ble_eq_true rfl⟩ dX9_rims_69 (fun H locs hP hD hS => ?_)
            refine lv_istore (lv' := [(4, .int r_36), (0, .ref (a 0)), (1, .int x1), (2, .int x2), (3, .int x3)]) hx hb dX9_rims_72 hl (by decide) rfl (fun ls hl => ?_)
            refine lv_iload hx hb dX9_rims_74 (lv_at hl 0 rfl) ?_
            refine lv_if_ge (tgt := 84) hx hb dX9_rims_76 (by decide) (fun hc_38 => ?_) (fun hc_38 => ?_)
            · have hf := pe_t hf hc_38
              refine lv_aload_n hx hb dX9_rims_84 rfl (lv_at hl 1 rfl) ?_
              refine va_get (ci := 9) (v := .ref (a 8)) hx hb hts wX9_in hown hK hP 0 rfl rfl 1 (by decide) (hts _ mw_2_68) (fun _ h9 => h9) rfl dX9_rims_85 ?_
              refine lv_iload_n hx hb dX9_rims_88 rfl (lv_at hl 2 rfl) ?_
              refine lv_iload hx hb dX9_rims_89 (lv_at hl 0 rfl) ?_
              obtain ⟨r_39, hk_40, hf⟩ := pe_1 hf
              refine xv_i (As := [.int x1, .int r_36]) (rest := []) (q0 := 0) (ci := 6) Cx hP hD hS hl (pl_X9_X6 a cyI cyJ v9_refusals v7_rows v7_lengths v7_sizes v7_rests v7_orders v6_hooks v6_lefts v6_heights v1_table v5_known v8_sizes v8_coefficients v8_undoneSums v8_undos v8_nextUndo v8_imageTaken v0_totals v3_letters v3_count v3_next v3_size v4_values v4_lengths v6_hooks v6_lefts v6_heights v7_rows v7_lengths v7_sizes v7_rests v7_orders) (c_X6_leftBy l D cyI cyJ G a H.size v6_hooks v6_lefts v6_heights v7_rows v7_lengths v7_sizes v7_rests v7_orders x1 r_36 r_39 hk_40) pk_X6_leftBy mw_2_199 ⟨rfl, rfl, Nat.le_of_ble_eq_true rfl, Nat.le_of_ble_eq_true rfl⟩ rfl rfl rfl rfl rfl (Nat.le_of_ble_eq_true rfl) ⟨Nat.le_of_ble_eq_true rfl, Nat.le_of_ble_eq_true rfl⟩ dX9_rims_91 (fun H locs hP hD hS => ?_)
              obtain ⟨rfl, rfl⟩ := po_2 hf
              rw [← hQ]; exact xe_iret Cx rfl hP hD hS dX9_rims_94
            · have hf := pe_f hf hc_38
              refine lv_bipush (v := (-9 : Int32)) hx hb dX9_rims_79 (by decide) ?_
              refine lv_goto (tgt := 94) hx hb dX9_rims_81 (by decide) ?_
              obtain ⟨rfl, rfl⟩ := po_2 hf
              rw [← hQ]; exact xe_iret Cx rfl hP hD hS dX9_rims_94
          · have hf := pe_t hf hc_35
            refine lv_aload_n hx hb dX9_rims_52 rfl (lv_at hl 0 rfl) ?_
            refine va_get (ci := 9) (v := .ref (a 8)) hx hb hts wX9_in hown hK hP 0 rfl rfl 1 (by decide) (hts _ mw_2_68) (fun _ h9 => h9) rfl dX9_rims_53 ?_
            refine lv_iload_n hx hb dX9_rims_56 rfl (lv_at hl 1 rfl) ?_
            refine lv_iload_n hx hb dX9_rims_57 rfl (lv_at hl 2 rfl) ?_
            obtain ⟨r_41, hk_42, hf⟩ := pe_1 hf
            refine xv_i (As := [.int x1, .int x2]) (rest := []) (q0 := 0) (ci := 6) Cx hP hD hS hl (pl_X9_X6 a cyI cyJ v9_refusals v7_rows v7_lengths v7_sizes v7_rests v7_orders v6_hooks v6_lefts v6_heights v1_table v5_known v8_sizes v8_coefficients v8_undoneSums v8_undos v8_nextUndo v8_imageTaken v0_totals v3_letters v3_count v3_next v3_size v4_values v4_lengths v6_hooks v6_lefts v6_heights v7_rows v7_lengths v7_sizes v7_rests v7_orders) (c_X6_howMany l D cyI cyJ G a H.size v6_hooks v6_lefts v6_heights v7_rows v7_lengths v7_sizes v7_rests v7_orders x1 x2 r_41 hk_42) pk_X6_howMany mw_2_191 ⟨rfl, rfl, Nat.le_of_ble_eq_true rfl, Nat.le_of_ble_eq_true rfl⟩ rfl rfl rfl rfl rfl (Nat.le_of_ble_eq_true rfl) ⟨Nat.le_of_ble_eq_true rfl, Nat.le_of_ble_eq_true rfl⟩ dX9_rims_58 (fun H locs hP hD hS => ?_)
            obtain ⟨rfl, rfl⟩ := po_2 hf
            rw [← hQ]; exact xe_iret Cx rfl hP hD hS dX9_rims_61
        · have hf := pe_f hf hc_34
          refine lv_aload_n hx hb dX9_rims_40 rfl (lv_at hl 0 rfl) ?_
          refine lv_bipush (v := (-6 : Int32)) hx hb dX9_rims_41 (by decide) ?_
          obtain ⟨r_43, v9_refusals_44, hk_45, hf⟩ := pe_2 hf
          refine xv_i (As := [.int (-6 : Int32)]) (rest := []) (q0 := 0) (ci := 9) Cx hP hD hS hl (pl_X9_X9 a cyI cyJ v9_refusals v7_rows v7_lengths v7_sizes v7_rests v7_orders v6_hooks v6_lefts v6_heights v1_table v5_known v8_sizes v8_coefficients v8_undoneSums v8_undos v8_nextUndo v8_imageTaken v0_totals v3_letters v3_count v3_next v3_size v4_values v4_lengths v9_refusals_44 v7_rows v7_lengths v7_sizes v7_rests v7_orders v6_hooks v6_lefts v6_heights v1_table v5_known v8_sizes v8_coefficients v8_undoneSums v8_undos v8_nextUndo v8_imageTaken v0_totals v3_letters v3_count v3_next v3_size v4_values v4_lengths) (c_X9_refuse l D cyI cyJ G a H.size v9_refusals v7_rows v7_lengths v7_sizes v7_rests v7_orders v6_hooks v6_lefts v6_heights v1_table v5_known v8_sizes v8_coefficients v8_undoneSums v8_undos v8_nextUndo v8_imageTaken v0_totals v3_letters v3_count v3_next v3_size v4_values v4_lengths (-6 : Int32) r_43 v9_refusals_44 hk_45) pk_X9_refuse mw_2_103 ⟨rfl, rfl, Nat.le_of_ble_eq_true rfl, Nat.le_of_ble_eq_true rfl⟩ rfl rfl rfl rfl rfl (Nat.le_of_ble_eq_true rfl) ⟨Nat.le_of_ble_eq_true rfl, Nat.le_of_ble_eq_true rfl⟩ dX9_rims_43 (fun H locs hP hD hS => ?_)
          obtain ⟨rfl, rfl⟩ := po_2 hf
          rw [← hQ]; exact xe_iret Cx rfl hP hD hS dX9_rims_46
      · have hf := pe_f hf hc_33
        exact w_27 v9_refusals H locs ls hf hP hD hS (lv_sub hl [0] rfl)
  · have hf := pe_t hf hc_31
    refine lv_aload_n hx hb dX9_rims_11 rfl (lv_at hl 0 rfl) ?_
    refine lv_iconst (v := (-1 : Int32)) hx hb dX9_rims_12 (by decide) ?_
    obtain ⟨r_46, v9_refusals_47, hk_48, hf⟩ := pe_2 hf
    refine xv_i (As := [.int (-1 : Int32)]) (rest := []) (q0 := 0) (ci := 9) Cx hP hD hS hl (pl_X9_X9 a cyI cyJ v9_refusals v7_rows v7_lengths v7_sizes v7_rests v7_orders v6_hooks v6_lefts v6_heights v1_table v5_known v8_sizes v8_coefficients v8_undoneSums v8_undos v8_nextUndo v8_imageTaken v0_totals v3_letters v3_count v3_next v3_size v4_values v4_lengths v9_refusals_47 v7_rows v7_lengths v7_sizes v7_rests v7_orders v6_hooks v6_lefts v6_heights v1_table v5_known v8_sizes v8_coefficients v8_undoneSums v8_undos v8_nextUndo v8_imageTaken v0_totals v3_letters v3_count v3_next v3_size v4_values v4_lengths) (c_X9_refuse l D cyI cyJ G a H.size v9_refusals v7_rows v7_lengths v7_sizes v7_rests v7_orders v6_hooks v6_lefts v6_heights v1_table v5_known v8_sizes v8_coefficients v8_undoneSums v8_undos v8_nextUndo v8_imageTaken v0_totals v3_letters v3_count v3_next v3_size v4_values v4_lengths (-1 : Int32) r_46 v9_refusals_47 hk_48) pk_X9_refuse mw_2_103 ⟨rfl, rfl, Nat.le_of_ble_eq_true rfl, Nat.le_of_ble_eq_true rfl⟩ rfl rfl rfl rfl rfl (Nat.le_of_ble_eq_true rfl) ⟨Nat.le_of_ble_eq_true rfl, Nat.le_of_ble_eq_true rfl⟩ dX9_rims_13 (fun H locs hP hD hS => ?_)
    obtain ⟨rfl, rfl⟩ := po_2 hf
    rw [← hQ]; exact xe_iret Cx rfl hP hD hS dX9_rims_16
def f_X9_height_26 (v7_sizes : Nat → Int32) (v6_hooks : Nat → Int32) (v6_heights : Nat → Int32) (v9_refusals : Nat → Int32) : Option (Int32 × (Nat → Int32)) := p_b2 (f_X9_refuse v9_refusals (-4 : Int32)) (fun r_1 v9_refusals_2 => some (r_1, v9_refusals_2))
def f_X9_height (v9_refusals : Nat → Int32) (v7_sizes : Nat → Int32) (v6_hooks : Nat → Int32) (v6_heights : Nat → Int32) (x1 : Int32) (x2 : Int32) (x3 : Int32) : Option (Int32 × (Nat → Int32)) := p_b1 (f_X7_has x1) (fun r_4 => if r_4 = 0 then (p_b2 (f_X9_refuse v9_refusals (-1 : Int32)) (fun r_19 v9_refusals_20 => some (r_19, v9_refusals_20))) else (if x2 < (1 : Int32) then ((f_X9_height_26 v7_sizes v6_hooks v6_heights) v9_refusals) else (if 0 ≤ x3 then (if x2 ≤ (8 : Int32) then (p_b1 (f_X6_cellOf v7_sizes v6_hooks x1 x2 x3) (fun r_11 => if 0 ≤ r_11 then (p_b1 (f_X6_heightBy v6_heights x1 r_11) (fun r_14 => some (r_14, v9_refusals))) else (some ((-9 : Int32), v9_refusals)))) else (p_b2 (f_X9_refuse v9_refusals (-6 : Int32)) (fun r_16 v9_refusals_17 => some (r_16, v9_refusals_17)))) else ((f_X9_height_26 v7_sizes v6_hooks v6_heights) v9_refusals))))
set_option maxHeartbeats 4000000 in
set_option maxRecDepth 20000 in
theorem c_X9_height (l : Launch) (D : va_G) (cyI cyJ : ClassId) (G a : Nat → Nat) (sz : Nat) (v9_refusals : Nat → Int32) (v7_rows : Nat → Int32) (v7_lengths : Nat → Int32) (v7_sizes : Nat → Int32) (v7_rests : Nat → Int32) (v7_orders : Nat → Int32) (v6_hooks : Nat → Int32) (v6_lefts : Nat → Int32) (v6_heights : Nat → Int32) (v1_table : Nat → Int32) (v5_known : Nat → Int32) (v8_sizes : Nat → Int32) (v8_coefficients : Nat → Int32) (v8_undoneSums : Nat → Int32) (v8_undos : Int32) (v8_nextUndo : Int32) (v8_imageTaken : Int32) (v0_totals : Nat → Int64) (v3_letters : Nat → Int32) (v3_count : Int32) (v3_next : Int32) (v3_size : Int32) (v4_values : Nat → Int32) (v4_lengths : Nat → Int32) (x1 : Int32) (x2 : Int32) (x3 : Int32) (ro : Int32) (ov9_refusals : Nat → Int32) (hf : f_X9_height v9_refusals v7_sizes v6_hooks v6_heights x1 x2 x3 = some (ro, ov9_refusals)) : xm_i l yX9_height (Cond.code yX9_height cX9_height 5 (some .int) :: xg_tbl) { frames := 4, cells := 0, slots := 0, locals := 90 } D xcl [(cyI, .int), (cyJ, .long)] G sz [.ref (a 0), .int x1, .int x2, .int x3] (wd_X9 a cyI cyJ v9_refusals v7_rows v7_lengths v7_sizes v7_rests v7_orders v6_hooks v6_lefts v6_heights v1_table v5_known v8_sizes v8_coefficients v8_undoneSums v8_undos v8_nextUndo v8_imageTaken v0_totals v3_letters v3_count v3_next v3_size v4_values v4_lengths) (wd_X9 a cyI cyJ ov9_refusals v7_rows v7_lengths v7_sizes v7_rests v7_orders v6_hooks v6_lefts v6_heights v1_table v5_known v8_sizes v8_coefficients v8_undoneSums v8_undos v8_nextUndo v8_imageTaken v0_totals v3_letters v3_count v3_next v3_size v4_values v4_lengths) ro := by
  refine xm_of_i (own := RX9) (by decide) rfl rfl (Nat.le_of_ble_eq_true rfl) ?_
  intro p e s m args below meth c ls Q A hQ hAe hin Cx hsz hP hD hS hl
  have Cx1 := Cx
  obtain ⟨⟨hx, hb, hml, hown, hts⟩, hr, hlocks, hK, hA, hT⟩ := Cx1
  have hl : lv_has ls 5 [(0, .ref (a 0)), (1, .int x1), (2, .int x2), (3, .int x3)] := hl
  obtain ⟨H, eH⟩ : ∃ H, H = s.heap := ⟨_, rfl⟩
  obtain ⟨locs, eL⟩ : ∃ L : List Loc, L = [] := ⟨_, rfl⟩
  rw [← eH] at hP
  have hS : va_S A s.heap H locs := by rw [eH, eL]; exact hS
  suffices hgo : W p l e { frames := 4, cells := 0, slots := 0, locals := 90 } s m args below meth c H locs 0 0 Q (F0 m 0 ls []) by rw [eH, eL] at hgo; exact hgo
  clear eH eL
  unfold f_X9_height at hf
  have w_26 : ∀ (v9_refusals : Nat → Int32) (H : Heap) (locs : List Loc) (ls : Array Slot), (f_X9_height_26 v7_sizes v6_hooks v6_heights) v9_refusals = some (ro, ov9_refusals) → va_P D xcl (wd_X9 a cyI cyJ v9_refusals v7_rows v7_lengths v7_sizes v7_rests v7_orders v6_hooks v6_lefts v6_heights v1_table v5_known v8_sizes v8_coefficients v8_undoneSums v8_undos v8_nextUndo v8_imageTaken v0_totals v3_letters v3_count v3_next v3_size v4_values v4_lengths) H → va_D A (wd_X9 a cyI cyJ v9_refusals v7_rows v7_lengths v7_sizes v7_rests v7_orders v6_hooks v6_lefts v6_heights v1_table v5_known v8_sizes v8_coefficients v8_undoneSums v8_undos v8_nextUndo v8_imageTaken v0_totals v3_letters v3_count v3_next v3_size v4_values v4_lengths) → va_S A s.heap H locs → lv_has ls 5 [(0, .ref (a 0))] → W p l e { frames := 4, cells := 0, slots := 0, locals := 90 } s m args below meth c H locs 0 0 Q (F0 m 26 ls []) := by
    intro v9_refusals H locs ls hf hP hD hS hl
    unfold f_X9_height_26 at hf
    refine lv_aload_n hx hb dX9_height_26 rfl (lv_at hl 0 rfl) ?_
    refine lv_bipush (v := (-4 : Int32)) hx hb dX9_height_27 (by decide) ?_
    obtain ⟨r_22, v9_refusals_23, hk_24, hf⟩ := pe_2 hf
    refine xv_i (As := [.int (-4 : Int32)]) (rest := []) (q0 := 0) (ci := 9) Cx hP hD hS hl (pl_X9_X9 a cyI cyJ v9_refusals v7_rows v7_lengths v7_sizes v7_rests v7_orders v6_hooks v6_lefts v6_heights v1_table v5_known v8_sizes v8_coefficients v8_undoneSums v8_undos v8_nextUndo v8_imageTaken v0_totals v3_letters v3_count v3_next v3_size v4_values v4_lengths v9_refusals_23 v7_rows v7_lengths v7_sizes v7_rests v7_orders v6_hooks v6_lefts v6_heights v1_table v5_known v8_sizes v8_coefficients v8_undoneSums v8_undos v8_nextUndo v8_imageTaken v0_totals v3_letters v3_count v3_next v3_size v4_values v4_lengths) (c_X9_refuse l D cyI cyJ G a H.size v9_refusals v7_rows v7_lengths v7_sizes v7_rests v7_orders v6_hooks v6_lefts v6_heights v1_table v5_known v8_sizes v8_coefficients v8_undoneSums v8_undos v8_nextUndo v8_imageTaken v0_totals v3_letters v3_count v3_next v3_size v4_values v4_lengths (-4 : Int32) r_22 v9_refusals_23 hk_24) pk_X9_refuse mw_2_103 ⟨rfl, rfl, Nat.le_of_ble_eq_true rfl, Nat.le_of_ble_eq_true rfl⟩ rfl rfl rfl rfl rfl (Nat.le_of_ble_eq_true rfl) ⟨Nat.le_of_ble_eq_true rfl, Nat.le_of_ble_eq_true rfl⟩ dX9_height_29 (fun H locs hP hD hS => ?_)
    obtain ⟨rfl, rfl⟩ := po_2 hf
    rw [← hQ]; exact xe_iret Cx rfl hP hD hS dX9_height_32
  refine lv_aload_n hx hb dX9_height_0 rfl (lv_at hl 0 rfl) ?_
  refine va_get (ci := 9) (v := .ref (a 2)) hx hb hts wX9_in hown hK hP 0 rfl rfl 0 (by decide) (hts _ mw_2_67) (fun _ h9 => h9) rfl dX9_height_1 ?_
  refine lv_iload_n hx hb dX9_height_4 rfl (lv_at hl 1 rfl) ?_
  obtain ⟨r_25, hk_26, hf⟩ := pe_1 hf
  refine xv_z (As := [.int x1]) (rest := []) (q0 := 0) (ci := 7) Cx hP hD hS hl (pl_X9_X7 a cyI cyJ v9_refusals v7_rows v7_lengths v7_sizes v7_rests v7_orders v6_hooks v6_lefts v6_heights v1_table v5_known v8_sizes v8_coefficients v8_undoneSums v8_undos v8_nextUndo v8_imageTaken v0_totals v3_letters v3_count v3_next v3_size v4_values v4_lengths v7_rows v7_lengths v7_sizes v7_rests v7_orders) (c_X7_has l D cyI cyJ G a H.size v7_rows v7_lengths v7_sizes v7_rests v7_orders x1 r_25 hk_26) pk_X7_has mw_2_102 ⟨rfl, rfl, Nat.le_of_ble_eq_true rfl, Nat.le_of_ble_eq_true rfl⟩ rfl rfl rfl rfl rfl (Nat.le_of_ble_eq_true rfl) ⟨Nat.le_of_ble_eq_true rfl, Nat.le_of_ble_eq_true rfl⟩ dX9_height_5 (fun H locs hn_27 hP hD hS => ?_)
  refine lv_if_ne (tgt := 17) hx hb dX9_height_8 (by decide) (fun hc_28 => ?_) (fun hc_28 => ?_)
  · have hf := pe_f hf hc_28
    refine lv_iload_n hx hb dX9_height_17 rfl (lv_at hl 2 rfl) ?_
    refine lv_iconst (v := (1 : Int32)) hx hb dX9_height_18 (by decide) ?_
    refine lv_icmp_lt (tgt := 26) hx hb dX9_height_19 (by decide) (fun hc_29 => ?_) (fun hc_29 => ?_)
    · have hf := pe_t hf hc_29
      exact w_26 v9_refusals H locs ls hf hP hD hS (lv_sub hl [0] rfl)
    · have hf := pe_f hf hc_29
      refine lv_iload_n hx hb dX9_height_22 rfl (lv_at hl 3 rfl) ?_
      refine lv_if_ge (tgt := 33) hx hb dX9_height_23 (by decide) (fun hc_30 => ?_) (fun hc_30 => ?_)
      · have hf := pe_t hf hc_30
        refine lv_iload_n hx hb dX9_height_33 rfl (lv_at hl 2 rfl) ?_
        refine lv_bipush (v := (8 : Int32)) hx hb dX9_height_34 (by decide) ?_
        refine lv_icmp_le (tgt := 46) hx hb dX9_height_36 (by decide) (fun hc_31 => ?_) (fun hc_31 => ?_)
        · have hf := pe_t hf hc_31
          refine lv_aload_n hx hb dX9_height_46 rfl (lv_at hl 0 rfl) ?_
          refine va_get (ci := 9) (v := .ref (a 8)) hx hb hts wX9_in hown hK hP 0 rfl rfl 1 (by decide) (hts _ mw_2_68) (fun _ h9 => h9) rfl dX9_height_47 ?_
          refine lv_iload_n hx hb dX9_height_50 rfl (lv_at hl 1 rfl) ?_
          refine lv_iload_n hx hb dX9_height_51 rfl (lv_at hl 2 rfl) ?_
          refine lv_iload_n hx hb dX9_height_52 rfl (lv_at hl 3 rfl) ?_
          obtain ⟨r_32, hk_33, hf⟩ := pe_1 hf
          refine xv_i (As := [.int x1, .int x2, .int x3]) (rest := []) (q0 := 0) (ci := 6) Cx hP hD hS hl (pl_X9_X6 a cyI cyJ v9_refusals v7_rows v7_lengths v7_sizes v7_rests v7_orders v6_hooks v6_lefts v6_heights v1_table v5_known v8_sizes v8_coefficients v8_undoneSums v8_undos v8_nextUndo v8_imageTaken v0_totals v3_letters v3_count v3_next v3_size v4_values v4_lengths v6_hooks v6_lefts v6_heights v7_rows v7_lengths v7_sizes v7_rests v7_orders) (c_X6_cellOf l D cyI cyJ G a H.size v6_hooks v6_lefts v6_heights v7_rows v7_lengths v7_sizes v7_rests v7_orders x1 x2 x3 r_32 hk_33) pk_X6_cellOf mw_2_195 ⟨rfl, rfl, Nat.le_of_ble_eq_true rfl, Nat.le_of_ble_eq_true rfl⟩ rfl rfl rfl rfl rfl (Nat.le_of_ble_eq_true rfl) ⟨Nat.le_of_ble_eq_true rfl, Nat.le_of_ble_eq_true rfl⟩ dX9_height_53 (fun H locs hP hD hS => ?_)
          refine lv_istore (lv' := [(4, .int r_32), (0, .ref (a 0)), (1, .int x1), (2, .int x2), (3, .int x3)]) hx hb dX9_height_56 hl (by decide) rfl (fun ls hl => ?_)
          refine lv_iload hx hb dX9_height_58 (lv_at hl 0 rfl) ?_
          refine lv_if_ge (tgt := 68) hx hb dX9_height_60 (by decide) (fun hc_34 => ?_) (fun hc_34 => ?_)
          · have hf := pe_t hf hc_34
            refine lv_aload_n hx hb dX9_height_68 rfl (lv_at hl 1 rfl) ?_
            refine va_get (ci := 9) (v := .ref (a 8)) hx hb hts wX9_in hown hK hP 0 rfl rfl 1 (by decide) (hts _ mw_2_68) (fun _ h9 => h9) rfl dX9_height_69 ?_
            refine lv_iload_n hx hb dX9_height_72 rfl (lv_at hl 2 rfl) ?_
            refine lv_iload hx hb dX9_height_73 (lv_at hl 0 rfl) ?_
            obtain ⟨r_35, hk_36, hf⟩ := pe_1 hf
            refine xv_i (As := [.int x1, .int r_32]) (rest := []) (q0 := 0) (ci := 6) Cx hP hD hS hl (pl_X9_X6 a cyI cyJ v9_refusals v7_rows v7_lengths v7_sizes v7_rests v7_orders v6_hooks v6_lefts v6_heights v1_table v5_known v8_sizes v8_coefficients v8_undoneSums v8_undos v8_nextUndo v8_imageTaken v0_totals v3_letters v3_count v3_next v3_size v4_values v4_lengths v6_hooks v6_lefts v6_heights v7_rows v7_lengths v7_sizes v7_rests v7_orders) (c_X6_heightBy l D cyI cyJ G a H.size v6_hooks v6_lefts v6_heights v7_rows v7_lengths v7_sizes v7_rests v7_orders x1 r_32 r_35 hk_36) pk_X6_heightBy mw_2_204 ⟨rfl, rfl, Nat.le_of_ble_eq_true rfl, Nat.le_of_ble_eq_true rfl⟩ rfl rfl rfl rfl rfl (Nat.le_of_ble_eq_true rfl) ⟨Nat.le_of_ble_eq_true rfl, Nat.le_of_ble_eq_true rfl⟩ dX9_height_75 (fun H locs hP hD hS => ?_)
            obtain ⟨rfl, rfl⟩ := po_2 hf
            rw [← hQ]; exact xe_iret Cx rfl hP hD hS dX9_height_78
          · have hf := pe_f hf hc_34
            refine lv_bipush (v := (-9 : Int32)) hx hb dX9_height_63 (by decide) ?_
            refine lv_goto (tgt := 78) hx hb dX9_height_65 (by decide) ?_
            obtain ⟨rfl, rfl⟩ := po_2 hf
            rw [← hQ]; exact xe_iret Cx rfl hP hD hS dX9_height_78
        · have hf := pe_f hf hc_31
          refine lv_aload_n hx hb dX9_height_39 rfl (lv_at hl 0 rfl) ?_
          refine lv_bipush (v := (-6 : Int32)) hx hb dX9_height_40 (by decide) ?_
          obtain ⟨r_37, v9_refusals_38, hk_39, hf⟩ := pe_2 hf
          refine xv_i (As := [.int (-6 : Int32)]) (rest := []) (q0 := 0) (ci := 9) Cx hP hD hS hl (pl_X9_X9 a cyI cyJ v9_refusals v7_rows v7_lengths v7_sizes v7_rests v7_orders v6_hooks v6_lefts v6_heights v1_table v5_known v8_sizes v8_coefficients v8_undoneSums v8_undos v8_nextUndo v8_imageTaken v0_totals v3_letters v3_count v3_next v3_size v4_values v4_lengths v9_refusals_38 v7_rows v7_lengths v7_sizes v7_rests v7_orders v6_hooks v6_lefts v6_heights v1_table v5_known v8_sizes v8_coefficients v8_undoneSums v8_undos v8_nextUndo v8_imageTaken v0_totals v3_letters v3_count v3_next v3_size v4_values v4_lengths) (c_X9_refuse l D cyI cyJ G a H.size v9_refusals v7_rows v7_lengths v7_sizes v7_rests v7_orders v6_hooks v6_lefts v6_heights v1_table v5_known v8_sizes v8_coefficients v8_undoneSums v8_undos v8_nextUndo v8_imageTaken v0_totals v3_letters v3_count v3_next v3_size v4_values v4_lengths (-6 : Int32) r_37 v9_refusals_38 hk_39) pk_X9_refuse mw_2_103 ⟨rfl, rfl, Nat.le_of_ble_eq_true rfl, Nat.le_of_ble_eq_true rfl⟩ rfl rfl rfl rfl rfl (Nat.le_of_ble_eq_true rfl) ⟨Nat.le_of_ble_eq_true rfl, Nat.le_of_ble_eq_true rfl⟩ dX9_height_42 (fun H locs hP hD hS => ?_)
          obtain ⟨rfl, rfl⟩ := po_2 hf
          rw [← hQ]; exact xe_iret Cx rfl hP hD hS dX9_height_45
      · have hf := pe_f hf hc_30
        exact w_26 v9_refusals H locs ls hf hP hD hS (lv_sub hl [0] rfl)
  · have hf := pe_t hf hc_28
    refine lv_aload_n hx hb dX9_height_11 rfl (lv_at hl 0 rfl) ?_
    refine lv_iconst (v := (-1 : Int32)) hx hb dX9_height_12 (by decide) ?_
    obtain ⟨r_40, v9_refusals_41, hk_42, hf⟩ := pe_2 hf
    refine xv_i (As := [.int (-1 : Int32)]) (rest := []) (q0 := 0) (ci := 9) Cx hP hD hS hl (pl_X9_X9 a cyI cyJ v9_refusals v7_rows v7_lengths v7_sizes v7_rests v7_orders v6_hooks v6_lefts v6_heights v1_table v5_known v8_sizes v8_coefficients v8_undoneSums v8_undos v8_nextUndo v8_imageTaken v0_totals v3_letters v3_count v3_next v3_size v4_values v4_lengths v9_refusals_41 v7_rows v7_lengths v7_sizes v7_rests v7_orders v6_hooks v6_lefts v6_heights v1_table v5_known v8_sizes v8_coefficients v8_undoneSums v8_undos v8_nextUndo v8_imageTaken v0_totals v3_letters v3_count v3_next v3_size v4_values v4_lengths) (c_X9_refuse l D cyI cyJ G a H.size v9_refusals v7_rows v7_lengths v7_sizes v7_rests v7_orders v6_hooks v6_lefts v6_heights v1_table v5_known v8_sizes v8_coefficients v8_undoneSums v8_undos v8_nextUndo v8_imageTaken v0_totals v3_letters v3_count v3_next v3_size v4_values v4_lengths (-1 : Int32) r_40 v9_refusals_41 hk_42) pk_X9_refuse mw_2_103 ⟨rfl, rfl, Nat.le_of_ble_eq_true rfl, Nat.le_of_ble_eq_true rfl⟩ rfl rfl rfl rfl rfl (Nat.le_of_ble_eq_true rfl) ⟨Nat.le_of_ble_eq_true rfl, Nat.le_of_ble_eq_true rfl⟩ dX9_height_13 (fun H locs hP hD hS => ?_)
    obtain ⟨rfl, rfl⟩ := po_2 hf
    rw [← hQ]; exact xe_iret Cx rfl hP hD hS dX9_height_16
def f_X9_refuseFar (v9_refusals : Nat → Int32) (x1 : Int32) : Option (Int32 × (Nat → Int32)) := p_b2 (f_X9_refuse v9_refusals x1) (fun r_1 v9_refusals_2 => some (((1000000000 : Int32) - r_1), v9_refusals_2))
set_option maxHeartbeats 4000000 in
set_option maxRecDepth 20000 in
theorem c_X9_refuseFar (l : Launch) (D : va_G) (cyI cyJ : ClassId) (G a : Nat → Nat) (sz : Nat) (v9_refusals : Nat → Int32) (v7_rows : Nat → Int32) (v7_lengths : Nat → Int32) (v7_sizes : Nat → Int32) (v7_rests : Nat → Int32) (v7_orders : Nat → Int32) (v6_hooks : Nat → Int32) (v6_lefts : Nat → Int32) (v6_heights : Nat → Int32) (v1_table : Nat → Int32) (v5_known : Nat → Int32) (v8_sizes : Nat → Int32) (v8_coefficients : Nat → Int32) (v8_undoneSums : Nat → Int32) (v8_undos : Int32) (v8_nextUndo : Int32) (v8_imageTaken : Int32) (v0_totals : Nat → Int64) (v3_letters : Nat → Int32) (v3_count : Int32) (v3_next : Int32) (v3_size : Int32) (v4_values : Nat → Int32) (v4_lengths : Nat → Int32) (x1 : Int32) (ro : Int32) (ov9_refusals : Nat → Int32) (hf : f_X9_refuseFar v9_refusals x1 = some (ro, ov9_refusals)) : xm_i l yX9_refuseFar (Cond.code yX9_refuseFar cX9_refuseFar 2 (some .int) :: xg_tbl) { frames := 1, cells := 0, slots := 0, locals := 22 } D xcl [(cyI, .int), (cyJ, .long)] G sz [.ref (a 0), .int x1] (wd_X9 a cyI cyJ v9_refusals v7_rows v7_lengths v7_sizes v7_rests v7_orders v6_hooks v6_lefts v6_heights v1_table v5_known v8_sizes v8_coefficients v8_undoneSums v8_undos v8_nextUndo v8_imageTaken v0_totals v3_letters v3_count v3_next v3_size v4_values v4_lengths) (wd_X9 a cyI cyJ ov9_refusals v7_rows v7_lengths v7_sizes v7_rests v7_orders v6_hooks v6_lefts v6_heights v1_table v5_known v8_sizes v8_coefficients v8_undoneSums v8_undos v8_nextUndo v8_imageTaken v0_totals v3_letters v3_count v3_next v3_size v4_values v4_lengths) ro := by
  refine xm_of_i (own := RX9) (by decide) rfl rfl (Nat.le_of_ble_eq_true rfl) ?_
  intro p e s m args below meth c ls Q A hQ hAe hin Cx hsz hP hD hS hl
  have Cx1 := Cx
  obtain ⟨⟨hx, hb, hml, hown, hts⟩, hr, hlocks, hK, hA, hT⟩ := Cx1
  have hl : lv_has ls 2 [(0, .ref (a 0)), (1, .int x1)] := hl
  obtain ⟨H, eH⟩ : ∃ H, H = s.heap := ⟨_, rfl⟩
  obtain ⟨locs, eL⟩ : ∃ L : List Loc, L = [] := ⟨_, rfl⟩
  rw [← eH] at hP
  have hS : va_S A s.heap H locs := by rw [eH, eL]; exact hS
  suffices hgo : W p l e { frames := 1, cells := 0, slots := 0, locals := 22 } s m args below meth c H locs 0 0 Q (F0 m 0 ls []) by rw [eH, eL] at hgo; exact hgo
  clear eH eL
  unfold f_X9_refuseFar at hf
  refine lv_ldcw (v := (1000000000 : Int32)) hx hb hown (hts _ mw_2_213) dX9_refuseFar_0 ?_
  refine lv_aload_n hx hb dX9_refuseFar_3 rfl (lv_at hl 0 rfl) ?_
  refine lv_iload_n hx hb dX9_refuseFar_4 rfl (lv_at hl 1 rfl) ?_
  obtain ⟨r_4, v9_refusals_5, hk_6, hf⟩ := pe_2 hf
  refine xv_i (As := [.int x1]) (rest := [.int (1000000000 : Int32)]) (q0 := 0) (ci := 9) Cx hP hD hS hl (pl_X9_X9 a cyI cyJ v9_refusals v7_rows v7_lengths v7_sizes v7_rests v7_orders v6_hooks v6_lefts v6_heights v1_table v5_known v8_sizes v8_coefficients v8_undoneSums v8_undos v8_nextUndo v8_imageTaken v0_totals v3_letters v3_count v3_next v3_size v4_values v4_lengths v9_refusals_5 v7_rows v7_lengths v7_sizes v7_rests v7_orders v6_hooks v6_lefts v6_heights v1_table v5_known v8_sizes v8_coefficients v8_undoneSums v8_undos v8_nextUndo v8_imageTaken v0_totals v3_letters v3_count v3_next v3_size v4_values v4_lengths) (c_X9_refuse l D cyI cyJ G a H.size v9_refusals v7_rows v7_lengths v7_sizes v7_rests v7_orders v6_hooks v6_lefts v6_heights v1_table v5_known v8_sizes v8_coefficients v8_undoneSums v8_undos v8_nextUndo v8_imageTaken v0_totals v3_letters v3_count v3_next v3_size v4_values v4_lengths x1 r_4 v9_refusals_5 hk_6) pk_X9_refuse mw_2_103 ⟨rfl, rfl, Nat.le_of_ble_eq_true rfl, Nat.le_of_ble_eq_true rfl⟩ rfl rfl rfl rfl rfl (Nat.le_of_ble_eq_true rfl) ⟨Nat.le_of_ble_eq_true rfl, Nat.le_of_ble_eq_true rfl⟩ dX9_refuseFar_5 (fun H locs hP hD hS => ?_)
  refine lv_isub hx hb dX9_refuseFar_8 ?_
  obtain ⟨rfl, rfl⟩ := po_2 hf
  rw [← hQ]; exact xe_iret Cx rfl hP hD hS dX9_refuseFar_9
def f_X9_character_22 (v7_sizes : Nat → Int32) (v1_table : Nat → Int32) (v9_refusals : Nat → Int32) : Option (Int32 × (Nat → Int32)) := p_b2 (f_X9_refuseFar v9_refusals (-1 : Int32)) (fun r_1 v9_refusals_2 => some (r_1, v9_refusals_2))
def f_X9_character (v9_refusals : Nat → Int32) (v7_sizes : Nat → Int32) (v1_table : Nat → Int32) (x1 : Int32) (x2 : Int32) : Option (Int32 × (Nat → Int32)) := p_b1 (f_X7_has x1) (fun r_4 => if r_4 = 0 then ((f_X9_character_22 v7_sizes v1_table) v9_refusals) else (p_b1 (f_X7_has x2) (fun r_8 => if r_8 = 0 then ((f_X9_character_22 v7_sizes v1_table) v9_refusals) else (p_b1 (f_X7_alike v7_sizes x1 x2) (fun r_12 => if r_12 = 0 then (p_b2 (f_X9_refuseFar v9_refusals (-3 : Int32)) (fun r_18 v9_refusals_19 => some (r_18, v9_refusals_19))) else (p_b1 (f_X1_at v7_sizes v1_table x1 x2) (fun r_16 => some (r_16, v9_refusals))))))))
set_option maxHeartbeats 4000000 in
set_option maxRecDepth 20000 in
theorem c_X9_character (l : Launch) (D : va_G) (cyI cyJ : ClassId) (G a : Nat → Nat) (sz : Nat) (v9_refusals : Nat → Int32) (v7_rows : Nat → Int32) (v7_lengths : Nat → Int32) (v7_sizes : Nat → Int32) (v7_rests : Nat → Int32) (v7_orders : Nat → Int32) (v6_hooks : Nat → Int32) (v6_lefts : Nat → Int32) (v6_heights : Nat → Int32) (v1_table : Nat → Int32) (v5_known : Nat → Int32) (v8_sizes : Nat → Int32) (v8_coefficients : Nat → Int32) (v8_undoneSums : Nat → Int32) (v8_undos : Int32) (v8_nextUndo : Int32) (v8_imageTaken : Int32) (v0_totals : Nat → Int64) (v3_letters : Nat → Int32) (v3_count : Int32) (v3_next : Int32) (v3_size : Int32) (v4_values : Nat → Int32) (v4_lengths : Nat → Int32) (x1 : Int32) (x2 : Int32) (ro : Int32) (ov9_refusals : Nat → Int32) (hf : f_X9_character v9_refusals v7_sizes v1_table x1 x2 = some (ro, ov9_refusals)) : xm_i l yX9_character (Cond.code yX9_character cX9_character 3 (some .int) :: xg_tbl) { frames := 4, cells := 0, slots := 0, locals := 85 } D xcl [(cyI, .int), (cyJ, .long)] G sz [.ref (a 0), .int x1, .int x2] (wd_X9 a cyI cyJ v9_refusals v7_rows v7_lengths v7_sizes v7_rests v7_orders v6_hooks v6_lefts v6_heights v1_table v5_known v8_sizes v8_coefficients v8_undoneSums v8_undos v8_nextUndo v8_imageTaken v0_totals v3_letters v3_count v3_next v3_size v4_values v4_lengths) (wd_X9 a cyI cyJ ov9_refusals v7_rows v7_lengths v7_sizes v7_rests v7_orders v6_hooks v6_lefts v6_heights v1_table v5_known v8_sizes v8_coefficients v8_undoneSums v8_undos v8_nextUndo v8_imageTaken v0_totals v3_letters v3_count v3_next v3_size v4_values v4_lengths) ro := by
  refine xm_of_i (own := RX9) (by decide) rfl rfl (Nat.le_of_ble_eq_true rfl) ?_
  intro p e s m args below meth c ls Q A hQ hAe hin Cx hsz hP hD hS hl
  have Cx1 := Cx
  obtain ⟨⟨hx, hb, hml, hown, hts⟩, hr, hlocks, hK, hA, hT⟩ := Cx1
  have hl : lv_has ls 3 [(0, .ref (a 0)), (1, .int x1), (2, .int x2)] := hl
  obtain ⟨H, eH⟩ : ∃ H, H = s.heap := ⟨_, rfl⟩
  obtain ⟨locs, eL⟩ : ∃ L : List Loc, L = [] := ⟨_, rfl⟩
  rw [← eH] at hP
  have hS : va_S A s.heap H locs := by rw [eH, eL]; exact hS
  suffices hgo : W p l e { frames := 4, cells := 0, slots := 0, locals := 85 } s m args below meth c H locs 0 0 Q (F0 m 0 ls []) by rw [eH, eL] at hgo; exact hgo
  clear eH eL
  unfold f_X9_character at hf
  have w_22 : ∀ (v9_refusals : Nat → Int32) (H : Heap) (locs : List Loc) (ls : Array Slot), (f_X9_character_22 v7_sizes v1_table) v9_refusals = some (ro, ov9_refusals) → va_P D xcl (wd_X9 a cyI cyJ v9_refusals v7_rows v7_lengths v7_sizes v7_rests v7_orders v6_hooks v6_lefts v6_heights v1_table v5_known v8_sizes v8_coefficients v8_undoneSums v8_undos v8_nextUndo v8_imageTaken v0_totals v3_letters v3_count v3_next v3_size v4_values v4_lengths) H → va_D A (wd_X9 a cyI cyJ v9_refusals v7_rows v7_lengths v7_sizes v7_rests v7_orders v6_hooks v6_lefts v6_heights v1_table v5_known v8_sizes v8_coefficients v8_undoneSums v8_undos v8_nextUndo v8_imageTaken v0_totals v3_letters v3_count v3_next v3_size v4_values v4_lengths) → va_S A s.heap H locs → lv_has ls 3 [(0, .ref (a 0))] → W p l e { frames := 4, cells := 0, slots := 0, locals := 85 } s m args below meth c H locs 0 0 Q (F0 m 22 ls []) := by
    intro v9_refusals H locs ls hf hP hD hS hl
    unfold f_X9_character_22 at hf
    refine lv_aload_n hx hb dX9_character_22 rfl (lv_at hl 0 rfl) ?_
    refine lv_iconst (v := (-1 : Int32)) hx hb dX9_character_23 (by decide) ?_
    obtain ⟨r_21, v9_refusals_22, hk_23, hf⟩ := pe_2 hf
    refine xv_i (As := [.int (-1 : Int32)]) (rest := []) (q0 := 0) (ci := 9) Cx hP hD hS hl (pl_X9_X9 a cyI cyJ v9_refusals v7_rows v7_lengths v7_sizes v7_rests v7_orders v6_hooks v6_lefts v6_heights v1_table v5_known v8_sizes v8_coefficients v8_undoneSums v8_undos v8_nextUndo v8_imageTaken v0_totals v3_letters v3_count v3_next v3_size v4_values v4_lengths v9_refusals_22 v7_rows v7_lengths v7_sizes v7_rests v7_orders v6_hooks v6_lefts v6_heights v1_table v5_known v8_sizes v8_coefficients v8_undoneSums v8_undos v8_nextUndo v8_imageTaken v0_totals v3_letters v3_count v3_next v3_size v4_values v4_lengths) (c_X9_refuseFar l D cyI cyJ G a H.size v9_refusals v7_rows v7_lengths v7_sizes v7_rests v7_orders v6_hooks v6_lefts v6_heights v1_table v5_known v8_sizes v8_coefficients v8_undoneSums v8_undos v8_nextUndo v8_imageTaken v0_totals v3_letters v3_count v3_next v3_size v4_values v4_lengths (-1 : Int32) r_21 v9_refusals_22 hk_23) pk_X9_refuseFar mw_2_209 ⟨rfl, rfl, Nat.le_of_ble_eq_true rfl, Nat.le_of_ble_eq_true rfl⟩ rfl rfl rfl rfl rfl (Nat.le_of_ble_eq_true rfl) ⟨Nat.le_of_ble_eq_true rfl, Nat.le_of_ble_eq_true rfl⟩ dX9_character_24 (fun H locs hP hD hS => ?_)
    obtain ⟨rfl, rfl⟩ := po_2 hf
    rw [← hQ]; exact xe_iret Cx rfl hP hD hS dX9_character_27
  refine lv_aload_n hx hb dX9_character_0 rfl (lv_at hl 0 rfl) ?_
  refine va_get (ci := 9) (v := .ref (a 2)) hx hb hts wX9_in hown hK hP 0 rfl rfl 0 (by decide) (hts _ mw_2_67) (fun _ h9 => h9) rfl dX9_character_1 ?_
  refine lv_iload_n hx hb dX9_character_4 rfl (lv_at hl 1 rfl) ?_
  obtain ⟨r_24, hk_25, hf⟩ := pe_1 hf
  refine xv_z (As := [.int x1]) (rest := []) (q0 := 0) (ci := 7) Cx hP hD hS hl (pl_X9_X7 a cyI cyJ v9_refusals v7_rows v7_lengths v7_sizes v7_rests v7_orders v6_hooks v6_lefts v6_heights v1_table v5_known v8_sizes v8_coefficients v8_undoneSums v8_undos v8_nextUndo v8_imageTaken v0_totals v3_letters v3_count v3_next v3_size v4_values v4_lengths v7_rows v7_lengths v7_sizes v7_rests v7_orders) (c_X7_has l D cyI cyJ G a H.size v7_rows v7_lengths v7_sizes v7_rests v7_orders x1 r_24 hk_25) pk_X7_has mw_2_102 ⟨rfl, rfl, Nat.le_of_ble_eq_true rfl, Nat.le_of_ble_eq_true rfl⟩ rfl rfl rfl rfl rfl (Nat.le_of_ble_eq_true rfl) ⟨Nat.le_of_ble_eq_true rfl, Nat.le_of_ble_eq_true rfl⟩ dX9_character_5 (fun H locs hn_26 hP hD hS => ?_)
  refine lv_if_eq (tgt := 22) hx hb dX9_character_8 (by decide) (fun hc_27 => ?_) (fun hc_27 => ?_)
  · have hf := pe_t hf hc_27
    exact w_22 v9_refusals H locs ls hf hP hD hS (lv_sub hl [0] rfl)
  · have hf := pe_f hf hc_27
    refine lv_aload_n hx hb dX9_character_11 rfl (lv_at hl 0 rfl) ?_
    refine va_get (ci := 9) (v := .ref (a 2)) hx hb hts wX9_in hown hK hP 0 rfl rfl 0 (by decide) (hts _ mw_2_67) (fun _ h9 => h9) rfl dX9_character_12 ?_
    refine lv_iload_n hx hb dX9_character_15 rfl (lv_at hl 2 rfl) ?_
    obtain ⟨r_28, hk_29, hf⟩ := pe_1 hf
    refine xv_z (As := [.int x2]) (rest := []) (q0 := 0) (ci := 7) Cx hP hD hS hl (pl_X9_X7 a cyI cyJ v9_refusals v7_rows v7_lengths v7_sizes v7_rests v7_orders v6_hooks v6_lefts v6_heights v1_table v5_known v8_sizes v8_coefficients v8_undoneSums v8_undos v8_nextUndo v8_imageTaken v0_totals v3_letters v3_count v3_next v3_size v4_values v4_lengths v7_rows v7_lengths v7_sizes v7_rests v7_orders) (c_X7_has l D cyI cyJ G a H.size v7_rows v7_lengths v7_sizes v7_rests v7_orders x2 r_28 hk_29) pk_X7_has mw_2_102 ⟨rfl, rfl, Nat.le_of_ble_eq_true rfl, Nat.le_of_ble_eq_true rfl⟩ rfl rfl rfl rfl rfl (Nat.le_of_ble_eq_true rfl) ⟨Nat.le_of_ble_eq_true rfl, Nat.le_of_ble_eq_true rfl⟩ dX9_character_16 (fun H locs hn_30 hP hD hS => ?_)
    refine lv_if_ne (tgt := 28) hx hb dX9_character_19 (by decide) (fun hc_31 => ?_) (fun hc_31 => ?_)
    · have hf := pe_f hf hc_31
      refine lv_aload_n hx hb dX9_character_28 rfl (lv_at hl 0 rfl) ?_
      refine va_get (ci := 9) (v := .ref (a 2)) hx hb hts wX9_in hown hK hP 0 rfl rfl 0 (by decide) (hts _ mw_2_67) (fun _ h9 => h9) rfl dX9_character_29 ?_
      refine lv_iload_n hx hb dX9_character_32 rfl (lv_at hl 1 rfl) ?_
      refine lv_iload_n hx hb dX9_character_33 rfl (lv_at hl 2 rfl) ?_
      obtain ⟨r_32, hk_33, hf⟩ := pe_1 hf
      refine xv_z (As := [.int x1, .int x2]) (rest := []) (q0 := 0) (ci := 7) Cx hP hD hS hl (pl_X9_X7 a cyI cyJ v9_refusals v7_rows v7_lengths v7_sizes v7_rests v7_orders v6_hooks v6_lefts v6_heights v1_table v5_known v8_sizes v8_coefficients v8_undoneSums v8_undos v8_nextUndo v8_imageTaken v0_totals v3_letters v3_count v3_next v3_size v4_values v4_lengths v7_rows v7_lengths v7_sizes v7_rests v7_orders) (c_X7_alike l D cyI cyJ G a H.size v7_rows v7_lengths v7_sizes v7_rests v7_orders x1 x2 r_32 hk_33) pk_X7_alike mw_2_214 ⟨rfl, rfl, Nat.le_of_ble_eq_true rfl, Nat.le_of_ble_eq_true rfl⟩ rfl rfl rfl rfl rfl (Nat.le_of_ble_eq_true rfl) ⟨Nat.le_of_ble_eq_true rfl, Nat.le_of_ble_eq_true rfl⟩ dX9_character_34 (fun H locs hn_34 hP hD hS => ?_)
      refine lv_if_ne (tgt := 47) hx hb dX9_character_37 (by decide) (fun hc_35 => ?_) (fun hc_35 => ?_)
      · have hf := pe_f hf hc_35
        refine lv_aload_n hx hb dX9_character_47 rfl (lv_at hl 0 rfl) ?_
        refine va_get (ci := 9) (v := .ref (a 13)) hx hb hts wX9_in hown hK hP 0 rfl rfl 3 (by decide) (hts _ mw_2_70) (fun _ h9 => h9) rfl dX9_character_48 ?_
        refine lv_iload_n hx hb dX9_character_51 rfl (lv_at hl 1 rfl) ?_
        refine lv_iload_n hx hb dX9_character_52 rfl (lv_at hl 2 rfl) ?_
        obtain ⟨r_36, hk_37, hf⟩ := pe_1 hf
        refine xv_i (As := [.int x1, .int x2]) (rest := []) (q0 := 0) (ci := 1) Cx hP hD hS hl (pl_X9_X1 a cyI cyJ v9_refusals v7_rows v7_lengths v7_sizes v7_rests v7_orders v6_hooks v6_lefts v6_heights v1_table v5_known v8_sizes v8_coefficients v8_undoneSums v8_undos v8_nextUndo v8_imageTaken v0_totals v3_letters v3_count v3_next v3_size v4_values v4_lengths v1_table v7_rows v7_lengths v7_sizes v7_rests v7_orders) (c_X1_at l D cyI cyJ G a H.size v1_table v7_rows v7_lengths v7_sizes v7_rests v7_orders x1 x2 r_36 hk_37) pk_X1_at mw_2_218 ⟨rfl, rfl, Nat.le_of_ble_eq_true rfl, Nat.le_of_ble_eq_true rfl⟩ rfl rfl rfl rfl rfl (Nat.le_of_ble_eq_true rfl) ⟨Nat.le_of_ble_eq_true rfl, Nat.le_of_ble_eq_true rfl⟩ dX9_character_53 (fun H locs hP hD hS => ?_)
        obtain ⟨rfl, rfl⟩ := po_2 hf
        rw [← hQ]; exact xe_iret Cx rfl hP hD hS dX9_character_56
      · have hf := pe_t hf hc_35
        refine lv_aload_n hx hb dX9_character_40 rfl (lv_at hl 0 rfl) ?_
        refine lv_bipush (v := (-3 : Int32)) hx hb dX9_character_41 (by decide) ?_
        obtain ⟨r_38, v9_refusals_39, hk_40, hf⟩ := pe_2 hf
        refine xv_i (As := [.int (-3 : Int32)]) (rest := []) (q0 := 0) (ci := 9) Cx hP hD hS hl (pl_X9_X9 a cyI cyJ v9_refusals v7_rows v7_lengths v7_sizes v7_rests v7_orders v6_hooks v6_lefts v6_heights v1_table v5_known v8_sizes v8_coefficients v8_undoneSums v8_undos v8_nextUndo v8_imageTaken v0_totals v3_letters v3_count v3_next v3_size v4_values v4_lengths v9_refusals_39 v7_rows v7_lengths v7_sizes v7_rests v7_orders v6_hooks v6_lefts v6_heights v1_table v5_known v8_sizes v8_coefficients v8_undoneSums v8_undos v8_nextUndo v8_imageTaken v0_totals v3_letters v3_count v3_next v3_size v4_values v4_lengths) (c_X9_refuseFar l D cyI cyJ G a H.size v9_refusals v7_rows v7_lengths v7_sizes v7_rests v7_orders v6_hooks v6_lefts v6_heights v1_table v5_known v8_sizes v8_coefficients v8_undoneSums v8_undos v8_nextUndo v8_imageTaken v0_totals v3_letters v3_count v3_next v3_size v4_values v4_lengths (-3 : Int32) r_38 v9_refusals_39 hk_40) pk_X9_refuseFar mw_2_209 ⟨rfl, rfl, Nat.le_of_ble_eq_true rfl, Nat.le_of_ble_eq_true rfl⟩ rfl rfl rfl rfl rfl (Nat.le_of_ble_eq_true rfl) ⟨Nat.le_of_ble_eq_true rfl, Nat.le_of_ble_eq_true rfl⟩ dX9_character_43 (fun H locs hP hD hS => ?_)
        obtain ⟨rfl, rfl⟩ := po_2 hf
        rw [← hQ]; exact xe_iret Cx rfl hP hD hS dX9_character_46
    · have hf := pe_t hf hc_31
      exact w_22 v9_refusals H locs ls hf hP hD hS (lv_sub hl [0] rfl)
def f_X9_refuseFarLong (v9_refusals : Nat → Int32) (x1 : Int32) : Option (Int64 × (Nat → Int32)) := p_b2 (f_X9_refuse v9_refusals x1) (fun r_1 v9_refusals_2 => some (((4000000000000000000 : Int64) - (Int32.toInt64 r_1)), v9_refusals_2))
set_option maxHeartbeats 4000000 in
set_option maxRecDepth 20000 in
theorem c_X9_refuseFarLong (l : Launch) (D : va_G) (cyI cyJ : ClassId) (G a : Nat → Nat) (sz : Nat) (v9_refusals : Nat → Int32) (v7_rows : Nat → Int32) (v7_lengths : Nat → Int32) (v7_sizes : Nat → Int32) (v7_rests : Nat → Int32) (v7_orders : Nat → Int32) (v6_hooks : Nat → Int32) (v6_lefts : Nat → Int32) (v6_heights : Nat → Int32) (v1_table : Nat → Int32) (v5_known : Nat → Int32) (v8_sizes : Nat → Int32) (v8_coefficients : Nat → Int32) (v8_undoneSums : Nat → Int32) (v8_undos : Int32) (v8_nextUndo : Int32) (v8_imageTaken : Int32) (v0_totals : Nat → Int64) (v3_letters : Nat → Int32) (v3_count : Int32) (v3_next : Int32) (v3_size : Int32) (v4_values : Nat → Int32) (v4_lengths : Nat → Int32) (x1 : Int32) (ro : Int64) (ov9_refusals : Nat → Int32) (hf : f_X9_refuseFarLong v9_refusals x1 = some (ro, ov9_refusals)) : xm_l l yX9_refuseFarLong (Cond.code yX9_refuseFarLong cX9_refuseFarLong 2 (some .long) :: xg_tbl) { frames := 1, cells := 0, slots := 0, locals := 22 } D xcl [(cyI, .int), (cyJ, .long)] G sz [.ref (a 0), .int x1] (wd_X9 a cyI cyJ v9_refusals v7_rows v7_lengths v7_sizes v7_rests v7_orders v6_hooks v6_lefts v6_heights v1_table v5_known v8_sizes v8_coefficients v8_undoneSums v8_undos v8_nextUndo v8_imageTaken v0_totals v3_letters v3_count v3_next v3_size v4_values v4_lengths) (wd_X9 a cyI cyJ ov9_refusals v7_rows v7_lengths v7_sizes v7_rests v7_orders v6_hooks v6_lefts v6_heights v1_table v5_known v8_sizes v8_coefficients v8_undoneSums v8_undos v8_nextUndo v8_imageTaken v0_totals v3_letters v3_count v3_next v3_size v4_values v4_lengths) ro := by
  refine xm_of_l (own := RX9) (by decide) rfl rfl (Nat.le_of_ble_eq_true rfl) ?_
  intro p e s m args below meth c ls Q A hQ hAe hin Cx hsz hP hD hS hl
  have Cx1 := Cx
  obtain ⟨⟨hx, hb, hml, hown, hts⟩, hr, hlocks, hK, hA, hT⟩ := Cx1
  have hl : lv_has ls 2 [(0, .ref (a 0)), (1, .int x1)] := hl
  obtain ⟨H, eH⟩ : ∃ H, H = s.heap := ⟨_, rfl⟩
  obtain ⟨locs, eL⟩ : ∃ L : List Loc, L = [] := ⟨_, rfl⟩
  rw [← eH] at hP
  have hS : va_S A s.heap H locs := by rw [eH, eL]; exact hS
  suffices hgo : W p l e { frames := 1, cells := 0, slots := 0, locals := 22 } s m args below meth c H locs 0 0 Q (F0 m 0 ls []) by rw [eH, eL] at hgo; exact hgo
  clear eH eL
  unfold f_X9_refuseFarLong at hf
  refine lv_ldc2 (v := (4000000000000000000 : Int64)) hx hb hown (hts _ mw_2_227) dX9_refuseFarLong_0 ?_
  refine lv_aload_n hx hb dX9_refuseFarLong_3 rfl (lv_at hl 0 rfl) ?_
  refine lv_iload_n hx hb dX9_refuseFarLong_4 rfl (lv_at hl 1 rfl) ?_
  obtain ⟨r_4, v9_refusals_5, hk_6, hf⟩ := pe_2 hf
  refine xv_i (As := [.int x1]) (rest := [.long (4000000000000000000 : Int64)]) (q0 := 0) (ci := 9) Cx hP hD hS hl (pl_X9_X9 a cyI cyJ v9_refusals v7_rows v7_lengths v7_sizes v7_rests v7_orders v6_hooks v6_lefts v6_heights v1_table v5_known v8_sizes v8_coefficients v8_undoneSums v8_undos v8_nextUndo v8_imageTaken v0_totals v3_letters v3_count v3_next v3_size v4_values v4_lengths v9_refusals_5 v7_rows v7_lengths v7_sizes v7_rests v7_orders v6_hooks v6_lefts v6_heights v1_table v5_known v8_sizes v8_coefficients v8_undoneSums v8_undos v8_nextUndo v8_imageTaken v0_totals v3_letters v3_count v3_next v3_size v4_values v4_lengths) (c_X9_refuse l D cyI cyJ G a H.size v9_refusals v7_rows v7_lengths v7_sizes v7_rests v7_orders v6_hooks v6_lefts v6_heights v1_table v5_known v8_sizes v8_coefficients v8_undoneSums v8_undos v8_nextUndo v8_imageTaken v0_totals v3_letters v3_count v3_next v3_size v4_values v4_lengths x1 r_4 v9_refusals_5 hk_6) pk_X9_refuse mw_2_103 ⟨rfl, rfl, Nat.le_of_ble_eq_true rfl, Nat.le_of_ble_eq_true rfl⟩ rfl rfl rfl rfl rfl (Nat.le_of_ble_eq_true rfl) ⟨Nat.le_of_ble_eq_true rfl, Nat.le_of_ble_eq_true rfl⟩ dX9_refuseFarLong_5 (fun H locs hP hD hS => ?_)
  refine lv_i2l (v := Int32.toInt64 r_4) hx hb dX9_refuseFarLong_8 rfl ?_
  refine lv_lsub hx hb dX9_refuseFarLong_9 ?_
  obtain ⟨rfl, rfl⟩ := po_2 hf
  rw [← hQ]; exact xe_lret Cx rfl hP hD hS dX9_refuseFarLong_10
def gf_X9_inLeastTerms_2 (K_2 : Int32 → Int32 → Int32 → Int32 → Option (Int32)) (y0 : Int32) (y1 : Int32) (y2 : Int32) (y3 : Int32) : Option (Int32) := if y3 ≤ (1 : Int32) then (some (y0)) else (p_nz y3 (if (y1 - y1 / y3 * y3) = 0 then (p_nz y3 (if (y2 - y2 / y3 * y3) = 0 then (p_nz y3 (some ((y0 / y3)))) else (K_2 y0 y1 y2 (y3 + (-1 : Int32))))) else (K_2 y0 y1 y2 (y3 + (-1 : Int32)))))
def f_X9_inLeastTerms_2 : Nat → Int32 → Int32 → Int32 → Int32 → Option (Int32)
  | 0 => fun _ _ _ _ => none
  | n + 1 => gf_X9_inLeastTerms_2 (f_X9_inLeastTerms_2 n)
def f_X9_inLeastTerms (x0 : Int32) (x1 : Int32) (x2 : Int32) : Option (Int32) := (f_X9_inLeastTerms_2 1000) x0 x1 x2 x2
set_option maxHeartbeats 4000000 in
set_option maxRecDepth 20000 in
theorem c_X9_inLeastTerms (l : Launch) (D : va_G) (cyI cyJ : ClassId) (G : Nat → Nat) (sz : Nat) (x0 : Int32) (x1 : Int32) (x2 : Int32) (ro : Int32) (hf : f_X9_inLeastTerms x0 x1 x2 = some ro) : xm_i l yX9_inLeastTerms (Cond.code yX9_inLeastTerms cX9_inLeastTerms 4 (some .int) :: xg_tbl) { frames := 0, cells := 0, slots := 0, locals := 0 } D xcl [(cyI, .int), (cyJ, .long)] G sz [.int x0, .int x1, .int x2] [] [] ro := by
  refine xm_of_i (own := RX9) (by decide) rfl rfl (Nat.le_of_ble_eq_true rfl) ?_
  intro p e s m args below meth c ls Q A hQ hAe hin Cx hsz hP hD hS hl
  have Cx1 := Cx
  obtain ⟨⟨hx, hb, hml, hown, hts⟩, hr, hlocks, hK, hA, hT⟩ := Cx1
  have hl : lv_has ls 4 [(0, .int x0), (1, .int x1), (2, .int x2)] := hl
  obtain ⟨H, eH⟩ : ∃ H, H = s.heap := ⟨_, rfl⟩
  obtain ⟨locs, eL⟩ : ∃ L : List Loc, L = [] := ⟨_, rfl⟩
  rw [← eH] at hP
  have hS : va_S A s.heap H locs := by rw [eH, eL]; exact hS
  suffices hgo : W p l e { frames := 0, cells := 0, slots := 0, locals := 0 } s m args below meth c H locs 0 0 Q (F0 m 0 ls []) by rw [eH, eL] at hgo; exact hgo
  clear eH eL
  unfold f_X9_inLeastTerms at hf
  have w_2 : ∀ (n_2 : Nat) (y0 : Int32) (y1 : Int32) (y2 : Int32) (y3 : Int32) (H : Heap) (locs : List Loc) (ls : Array Slot), f_X9_inLeastTerms_2 n_2 y0 y1 y2 y3 = some ro → va_P D xcl [] H → va_D A [] → va_S A s.heap H locs → lv_has ls 4 [(0, .int y0), (1, .int y1), (2, .int y2), (3, .int y3)] → W p l e { frames := 0, cells := 0, slots := 0, locals := 0 } s m args below meth c H locs 0 0 Q (F0 m 2 ls []) := by
    intro n_2
    induction n_2 with
    | zero => intro y0 y1 y2 y3 H locs ls hf; exact absurd hf (by intro h9; cases h9)
    | succ n_2 w_2 =>
      intro y0 y1 y2 y3 H locs ls hf hP hD hS hl
      have hf : gf_X9_inLeastTerms_2 (f_X9_inLeastTerms_2 n_2) y0 y1 y2 y3 = some ro := hf
      unfold gf_X9_inLeastTerms_2 at hf
      refine lv_iload_n hx hb dX9_inLeastTerms_2 rfl (lv_at hl 3 rfl) ?_
      refine lv_iconst (v := (1 : Int32)) hx hb dX9_inLeastTerms_3 (by decide) ?_
      refine lv_icmp_le (tgt := 29) hx hb dX9_inLeastTerms_4 (by decide) (fun hc_7 => ?_) (fun hc_7 => ?_)
      · have hf := pe_t hf hc_7
        refine lv_iload_n hx hb dX9_inLeastTerms_29 rfl (lv_at hl 0 rfl) ?_
        obtain rfl := po_1 hf
        rw [← hQ]; exact xe_iret Cx rfl hP hD hS dX9_inLeastTerms_30
      · have hf := pe_f hf hc_7
        refine lv_iload_n hx hb dX9_inLeastTerms_7 rfl (lv_at hl 1 rfl) ?_
        refine lv_iload_n hx hb dX9_inLeastTerms_8 rfl (lv_at hl 3 rfl) ?_
        obtain ⟨hz_8, hf⟩ := pe_nz hf
        refine lv_irem hx hb dX9_inLeastTerms_9 hz_8 ?_
        refine lv_if_ne (tgt := 23) hx hb dX9_inLeastTerms_10 (by decide) (fun hc_9 => ?_) (fun hc_9 => ?_)
        · have hf := pe_f hf hc_9
          refine lv_iinc (v := (y3 + (-1 : Int32))) (lv' := [(3, .int (y3 + (-1 : Int32))), (0, .int y0), (1, .int y1), (2, .int y2)]) hx hb dX9_inLeastTerms_23 hl (k := 3) rfl rfl (by decide) rfl (fun ls hl => ?_)
          refine lv_goto (tgt := 2) hx hb dX9_inLeastTerms_26 (by decide) ?_
          exact w_2 y0 y1 y2 (y3 + (-1 : Int32)) H locs ls hf hP hD hS (lv_sub hl [1, 2, 3, 0] rfl)
        · have hf := pe_t hf hc_9
          refine lv_iload_n hx hb dX9_inLeastTerms_13 rfl (lv_at hl 2 rfl) ?_
          refine lv_iload_n hx hb dX9_inLeastTerms_14 rfl (lv_at hl 3 rfl) ?_
          obtain ⟨hz_10, hf⟩ := pe_nz hf
          refine lv_irem hx hb dX9_inLeastTerms_15 hz_10 ?_
          refine lv_if_ne (tgt := 23) hx hb dX9_inLeastTerms_16 (by decide) (fun hc_11 => ?_) (fun hc_11 => ?_)
          · have hf := pe_f hf hc_11
            refine lv_iinc (v := (y3 + (-1 : Int32))) (lv' := [(3, .int (y3 + (-1 : Int32))), (0, .int y0), (1, .int y1), (2, .int y2)]) hx hb dX9_inLeastTerms_23 hl (k := 3) rfl rfl (by decide) rfl (fun ls hl => ?_)
            refine lv_goto (tgt := 2) hx hb dX9_inLeastTerms_26 (by decide) ?_
            exact w_2 y0 y1 y2 (y3 + (-1 : Int32)) H locs ls hf hP hD hS (lv_sub hl [1, 2, 3, 0] rfl)
          · have hf := pe_t hf hc_11
            refine lv_iload_n hx hb dX9_inLeastTerms_19 rfl (lv_at hl 0 rfl) ?_
            refine lv_iload_n hx hb dX9_inLeastTerms_20 rfl (lv_at hl 3 rfl) ?_
            obtain ⟨hz_12, hf⟩ := pe_nz hf
            refine lv_idiv hx hb dX9_inLeastTerms_21 hz_12 ?_
            obtain rfl := po_1 hf
            rw [← hQ]; exact xe_iret Cx rfl hP hD hS dX9_inLeastTerms_22
  refine lv_iload_n hx hb dX9_inLeastTerms_0 rfl (lv_at hl 2 rfl) ?_
  refine lv_istore_n (lv' := [(3, .int x2), (0, .int x0), (1, .int x1), (2, .int x2)]) hx hb dX9_inLeastTerms_1 rfl hl (by decide) rfl (fun ls hl => ?_)
  exact w_2 1000 x0 x1 x2 x2 H locs ls hf hP hD hS (lv_sub hl [1, 2, 3, 0] rfl)
def f_X9_odds_82 (v7_rows : Nat → Int32) (v7_lengths : Nat → Int32) (v7_sizes : Nat → Int32) (v9_refusals : Nat → Int32) (y4 : Int32) (y5 : Int32) (z0 : Int32) : Option (Int64 × (Nat → Int32)) := p_b1 (f_X9_inLeastTerms z0 y4 y5) (fun r_1 => some ((Int32.toInt64 r_1), v9_refusals))
def f_X9_odds_43 (v7_rows : Nat → Int32) (v7_lengths : Nat → Int32) (v7_sizes : Nat → Int32) (v9_refusals : Nat → Int32) : Option (Int64 × (Nat → Int32)) := p_b2 (f_X9_refuseFarLong v9_refusals (-2 : Int32)) (fun r_3 v9_refusals_4 => some (r_3, v9_refusals_4))
def f_X9_odds (v9_refusals : Nat → Int32) (v7_rows : Nat → Int32) (v7_lengths : Nat → Int32) (v7_sizes : Nat → Int32) (x1 : Int32) (x2 : Int32) (x3 : Int32) : Option (Int64 × (Nat → Int32)) := if 0 ≤ x1 then (if x1 ≤ (8 : Int32) then (if x2 < 0 then ((f_X9_odds_43 v7_rows v7_lengths v7_sizes) v9_refusals) else (if (7 : Int32) ≤ x2 then ((f_X9_odds_43 v7_rows v7_lengths v7_sizes) v9_refusals) else (if x3 < 0 then ((f_X9_odds_43 v7_rows v7_lengths v7_sizes) v9_refusals) else (if x3 ≤ (1 : Int32) then (p_b1 (f_X2_howMany v7_rows v7_lengths v7_sizes x1 x2) (fun r_12 => p_b1 (f_X7_countOf x1) (fun r_14 => if x3 = 0 then ((f_X9_odds_82 v7_rows v7_lengths v7_sizes) v9_refusals r_12 r_14 r_12) else ((f_X9_odds_82 v7_rows v7_lengths v7_sizes) v9_refusals r_12 r_14 r_14)))) else ((f_X9_odds_43 v7_rows v7_lengths v7_sizes) v9_refusals))))) else (p_b2 (f_X9_refuseFarLong v9_refusals (-6 : Int32)) (fun r_17 v9_refusals_18 => some (r_17, v9_refusals_18)))) else (p_b2 (f_X9_refuseFarLong v9_refusals (-4 : Int32)) (fun r_20 v9_refusals_21 => some (r_20, v9_refusals_21)))
set_option maxHeartbeats 4000000 in
set_option maxRecDepth 20000 in
theorem c_X9_odds (l : Launch) (D : va_G) (cyI cyJ : ClassId) (G a : Nat → Nat) (sz : Nat) (v9_refusals : Nat → Int32) (v7_rows : Nat → Int32) (v7_lengths : Nat → Int32) (v7_sizes : Nat → Int32) (v7_rests : Nat → Int32) (v7_orders : Nat → Int32) (v6_hooks : Nat → Int32) (v6_lefts : Nat → Int32) (v6_heights : Nat → Int32) (v1_table : Nat → Int32) (v5_known : Nat → Int32) (v8_sizes : Nat → Int32) (v8_coefficients : Nat → Int32) (v8_undoneSums : Nat → Int32) (v8_undos : Int32) (v8_nextUndo : Int32) (v8_imageTaken : Int32) (v0_totals : Nat → Int64) (v3_letters : Nat → Int32) (v3_count : Int32) (v3_next : Int32) (v3_size : Int32) (v4_values : Nat → Int32) (v4_lengths : Nat → Int32) (x1 : Int32) (x2 : Int32) (x3 : Int32) (ro : Int64) (ov9_refusals : Nat → Int32) (hf : f_X9_odds v9_refusals v7_rows v7_lengths v7_sizes x1 x2 x3 = some (ro, ov9_refusals)) : xm_l l yX9_odds (Cond.code yX9_odds cX9_odds 6 (some .long) :: xg_tbl) { frames := 6, cells := 0, slots := 0, locals := 138 } D xcl [(cyI, .int), (cyJ, .long)] G sz [.ref (a 0), .int x1, .int x2, .int x3] (wd_X9 a cyI cyJ v9_refusals v7_rows v7_lengths v7_sizes v7_rests v7_orders v6_hooks v6_lefts v6_heights v1_table v5_known v8_sizes v8_coefficients v8_undoneSums v8_undos v8_nextUndo v8_imageTaken v0_totals v3_letters v3_count v3_next v3_size v4_values v4_lengths) (wd_X9 a cyI cyJ ov9_refusals v7_rows v7_lengths v7_sizes v7_rests v7_orders v6_hooks v6_lefts v6_heights v1_table v5_known v8_sizes v8_coefficients v8_undoneSums v8_undos v8_nextUndo v8_imageTaken v0_totals v3_letters v3_count v3_next v3_size v4_values v4_lengths) ro := by
  refine xm_of_l (own := RX9) (by decide) rfl rfl (Nat.le_of_ble_eq_true rfl) ?_
  intro p e s m args below meth c ls Q A hQ hAe hin Cx hsz hP hD hS hl
  have Cx1 := Cx
  obtain ⟨⟨hx, hb, hml, hown, hts⟩, hr, hlocks, hK, hA, hT⟩ := Cx1
  have hl : lv_has ls 6 [(0, .ref (a 0)), (1, .int x1), (2, .int x2), (3, .int x3)] := hl
  obtain ⟨H, eH⟩ : ∃ H, H = s.heap := ⟨_, rfl⟩
  obtain ⟨locs, eL⟩ : ∃ L : List Loc, L = [] := ⟨_, rfl⟩
  rw [← eH] at hP
  have hS : va_S A s.heap H locs := by rw [eH, eL]; exact hS
  suffices hgo : W p l e { frames := 6, cells := 0, slots := 0, locals := 138 } s m args below meth c H locs 0 0 Q (F0 m 0 ls []) by rw [eH, eL] at hgo; exact hgo
  clear eH eL
  unfold f_X9_odds at hf
  have w_82 : ∀ (v9_refusals : Nat → Int32) (y4 : Int32) (y5 : Int32) (z0 : Int32) (H : Heap) (locs : List Loc) (ls : Array Slot), (f_X9_odds_82 v7_rows v7_lengths v7_sizes) v9_refusals y4 y5 z0 = some (ro, ov9_refusals) → va_P D xcl (wd_X9 a cyI cyJ v9_refusals v7_rows v7_lengths v7_sizes v7_rests v7_orders v6_hooks v6_lefts v6_heights v1_table v5_known v8_sizes v8_coefficients v8_undoneSums v8_undos v8_nextUndo v8_imageTaken v0_totals v3_letters v3_count v3_next v3_size v4_values v4_lengths) H → va_D A (wd_X9 a cyI cyJ v9_refusals v7_rows v7_lengths v7_sizes v7_rests v7_orders v6_hooks v6_lefts v6_heights v1_table v5_known v8_sizes v8_coefficients v8_undoneSums v8_undos v8_nextUndo v8_imageTaken v0_totals v3_letters v3_count v3_next v3_size v4_values v4_lengths) → va_S A s.heap H locs → lv_has ls 6 [(4, .int y4), (5, .int y5)] → W p l e { frames := 6, cells := 0, slots := 0, locals := 138 } s m args below meth c H locs 0 0 Q (F0 m 82 ls [.int z0]) := by
    intro v9_refusals y4 y5 z0 H locs ls hf hP hD hS hl
    unfold f_X9_odds_82 at hf
    refine lv_iload hx hb dX9_odds_82 (lv_at hl 0 rfl) ?_
    refine lv_iload hx hb dX9_odds_84 (lv_at hl 1 rfl) ?_
    obtain ⟨r_23, hk_24, hf⟩ := pe_1 hf
    refine xw_i (As := [.int z0, .int y4, .int y5]) (rest := []) Cx hP hD hS hl (xq_none _) (c_X9_inLeastTerms l D cyI cyJ G H.size z0 y4 y5 r_23 hk_24) pk_X9_inLeastTerms mw_2_234 ⟨rfl, rfl, Nat.le_of_ble_eq_true rfl, Nat.le_of_ble_eq_true rfl⟩ rfl rfl (Nat.le_of_ble_eq_true rfl) ⟨Nat.le_of_ble_eq_true rfl, Nat.le_of_ble_eq_true rfl⟩ dX9_odds_86 (fun H locs hP hD hS => ?_)
    refine lv_i2l (v := Int32.toInt64 r_23) hx hb dX9_odds_89 rfl ?_
    obtain ⟨rfl, rfl⟩ := po_2 hf
    rw [← hQ]; exact xe_lret Cx rfl hP hD hS dX9_odds_90
  have w_43 : ∀ (v9_refusals : Nat → Int32) (H : Heap) (locs : List Loc) (ls : Array Slot), (f_X9_odds_43 v7_rows v7_lengths v7_sizes) v9_refusals = some (ro, ov9_refusals) → va_P D xcl (wd_X9 a cyI cyJ v9_refusals v7_rows v7_lengths v7_sizes v7_rests v7_orders v6_hooks v6_lefts v6_heights v1_table v5_known v8_sizes v8_coefficients v8_undoneSums v8_undos v8_nextUndo v8_imageTaken v0_totals v3_letters v3_count v3_next v3_size v4_values v4_lengths) H → va_D A (wd_X9 a cyI cyJ v9_refusals v7_rows v7_lengths v7_sizes v7_rests v7_orders v6_hooks v6_lefts v6_heights v1_table v5_known v8_sizes v8_coefficients v8_undoneSums v8_undos v8_nextUndo v8_imageTaken v0_totals v3_letters v3_count v3_next v3_size v4_values v4_lengths) → va_S A s.heap H locs → lv_has ls 6 [(0, .ref (a 0))] → W p l e { frames := 6, cells := 0, slots := 0, locals := 138 } s m args below meth c H locs 0 0 Q (F0 m 43 ls []) := by
    intro v9_refusals H locs ls hf hP hD hS hl
    unfold f_X9_odds_43 at hf
    refine lv_aload_n hx hb dX9_odds_43 rfl (lv_at hl 0 rfl) ?_
    refine lv_bipush (v := (-2 : Int32)) hx hb dX9_odds_44 (by decide) ?_
    obtain ⟨r_25, v9_refusals_26, hk_27, hf⟩ := pe_2 hf
    refine xv_l (As := [.int (-2 : Int32)]) (rest := []) (q0 := 0) (ci := 9) Cx hP hD hS hl (pl_X9_X9 a cyI cyJ v9_refusals v7_rows v7_lengths v7_sizes v7_rests v7_orders v6_hooks v6_lefts v6_heights v1_table v5_known v8_sizes v8_coefficients v8_undoneSums v8_undos v8_nextUndo v8_imageTaken v0_totals v3_letters v3_count v3_next v3_size v4_values v4_lengths v9_refusals_26 v7_rows v7_lengths v7_sizes v7_rests v7_orders v6_hooks v6_lefts v6_heights v1_table v5_known v8_sizes v8_coefficients v8_undoneSums v8_undos v8_nextUndo v8_imageTaken v0_totals v3_letters v3_count v3_next v3_size v4_values v4_lengths) (c_X9_refuseFarLong l D cyI cyJ G a H.size v9_refusals v7_rows v7_lengths v7_sizes v7_rests v7_orders v6_hooks v6_lefts v6_heights v1_table v5_known v8_sizes v8_coefficients v8_undoneSums v8_undos v8_nextUndo v8_imageTaken v0_totals v3_letters v3_count v3_next v3_size v4_values v4_lengths (-2 : Int32) r_25 v9_refusals_26 hk_27) pk_X9_refuseFarLong mw_2_223 ⟨rfl, rfl, Nat.le_of_ble_eq_true rfl, Nat.le_of_ble_eq_true rfl⟩ rfl rfl rfl rfl rfl (Nat.le_of_ble_eq_true rfl) ⟨Nat.le_of_ble_eq_true rfl, Nat.le_of_ble_eq_true rfl⟩ dX9_odds_46 (fun H locs hP hD hS => ?_)
    obtain ⟨rfl, rfl⟩ := po_2 hf
    rw [← hQ]; exact xe_lret Cx rfl hP hD hS dX9_odds_49
  refine lv_iload_n hx hb dX9_odds_0 rfl (lv_at hl 1 rfl) ?_
  refine lv_if_ge (tgt := 11) hx hb dX9_odds_1 (by decide) (fun hc_28 => ?_) (fun hc_28 => ?_)
  · have hf := pe_t hf hc_28
    refine lv_iload_n hx hb dX9_odds_11 rfl (lv_at hl 1 rfl) ?_
    refine lv_bipush (v := (8 : Int32)) hx hb dX9_odds_12 (by decide) ?_
    refine lv_icmp_le (tgt := 24) hx hb dX9_odds_14 (by decide) (fun hc_29 => ?_) (fun hc_29 => ?_)
    · have hf := pe_t hf hc_29
      refine lv_iload_n hx hb dX9_odds_24 rfl (lv_at hl 2 rfl) ?_
      refine lv_if_lt (tgt := 43) hx hb dX9_odds_25 (by decide) (fun hc_30 => ?_) (fun hc_30 => ?_)
      · have hf := pe_t hf hc_30
        exact w_43 v9_refusals H locs ls hf hP hD hS (lv_sub hl [0] rfl)
      · have hf := pe_f hf hc_30
        refine lv_iload_n hx hb dX9_odds_28 rfl (lv_at hl 2 rfl) ?_
        refine lv_bipush (v := (7 : Int32)) hx hb dX9_odds_29 (by decide) ?_
        refine lv_icmp_ge (tgt := 43) hx hb dX9_odds_31 (by decide) (fun hc_31 => ?_) (fun hc_31 => ?_)
        · have hf := pe_t hf hc_31
          exact w_43 v9_refusals H locs ls hf hP hD hS (lv_sub hl [0] rfl)
        · have hf := pe_f hf hc_31
          refine lv_iload_n hx hb dX9_odds_34 rfl (lv_at hl 3 rfl) ?_
          refine lv_if_lt (tgt := 43) hx hb dX9_odds_35 (by decide) (fun hc_32 => ?_) (fun hc_32 => ?_)
          · have hf := pe_t hf hc_32
            exact w_43 v9_refusals H locs ls hf hP hD hS (lv_sub hl [0] rfl)
          · have hf := pe_f hf hc_32
            refine lv_iload_n hx hb dX9_odds_38 rfl (lv_at hl 3 rfl) ?_
            refine lv_iconst (v := (1 : Int32)) hx hb dX9_odds_39 (by decide) ?_
            refine lv_icmp_le (tgt := 50) hx hb dX9_odds_40 (by decide) (fun hc_33 => ?_) (fun hc_33 => ?_)
            · have hf := pe_t hf hc_33
              refine lv_aload_n hx hb dX9_odds_50 rfl (lv_at hl 0 rfl) ?_
              refine va_get (ci := 9) (v := .ref (a 12)) hx hb hts wX9_in hown hK hP 0 rfl rfl 2 (by decide) (hts _ mw_2_69) (fun _ h9 => h9) rfl dX9_odds_51 ?_
              refine lv_iload_n hx hb dX9_odds_54 rfl (lv_at hl 1 rfl) ?_
              refine lv_iload_n hx hb dX9_odds_55 rfl (lv_at hl 2 rfl) ?_
              obtain ⟨r_34, hk_35, hf⟩ := pe_1 hf
              refine xv_i (As := [.int x1, .int x2]) (rest := []) (q0 := 0) (ci := 2) Cx hP hD hS hl (pl_X9_X2 a cyI cyJ v9_refusals v7_rows v7_lengths v7_sizes v7_rests v7_orders v6_hooks v6_lefts v6_heights v1_table v5_known v8_sizes v8_coefficients v8_undoneSums v8_undos v8_nextUndo v8_imageTaken v0_totals v3_letters v3_count v3_next v3_size v4_values v4_lengths v7_rows v7_lengths v7_sizes v7_rests v7_orders) (c_X2_howMany l D cyI cyJ G a H.size v7_rows v7_lengths v7_sizes v7_rests v7_orders x1 x2 r_34 hk_35) pk_X2_howMany mw_2_228 ⟨rfl, rfl, Nat.le_of_ble_eq_true rfl, Nat.le_of_ble_eq_true rfl⟩ rfl rfl rfl rfl rfl (Nat.le_of_ble_eq_true rfl) ⟨Nat.le_of_ble_eq_true rfl, Nat.le_of_ble_eq_true rfl⟩ dX9_odds_56 (fun H locs hP hD hS => ?_)
              refine lv_istore (lv' := [(4, .int r_34), (0, .ref (a 0)), (1, .int x1), (2, .int x2), (3, .int x3)]) hx hb dX9_odds_59 hl (by decide) rfl (fun ls hl => ?_)
              refine lv_aload_n hx hb dX9_odds_61 rfl (lv_at hl 1 rfl) ?_
              refine va_get (ci := 9) (v := .ref (a 2)) hx hb hts wX9_in hown hK hP 0 rfl rfl 0 (by decide) (hts _ mw_2_67) (fun _ h9 => h9) rfl dX9_odds_62 ?_
              refine lv_iload_n hx hb dX9_odds_65 rfl (lv_at hl 2 rfl) ?_
              obtain ⟨r_36, hk_37, hf⟩ := pe_1 hf
              refine xv_i (As := [.int x1]) (rest := []) (q0 := 0) (ci := 7) Cx hP hD hS hl (pl_X9_X7 a cyI cyJ v9_refusals v7_rows v7_lengths v7_sizes v7_rests v7_orders v6_hooks v6_lefts v6_heights v1_table v5_known v8_sizes v8_coefficients v8_undoneSums v8_undos v8_nextUndo v8_imageTaken v0_totals v3_letters v3_count v3_next v3_size v4_values v4_lengths v7_rows v7_lengths v7_sizes v7_rests v7_orders) (c_X7_countOf l D cyI cyJ G a H.size v7_rows v7_lengths v7_sizes v7_rests v7_orders x1 r_36 hk_37) pk_X7_countOf mw_2_177 ⟨rfl, rfl, Nat.le_of_ble_eq_true rfl, Nat.le_of_ble_eq_true rfl⟩ rfl rfl rfl rfl rfl (Nat.le_of_ble_eq_true rfl) ⟨Nat.le_of_ble_eq_true rfl, Nat.le_of_ble_eq_true rfl⟩ dX9_odds_66 (fun H locs hP hD hS => ?_)
              refine lv_istore (lv' := [(5, .int r_36), (4, .int r_34), (0, .ref (a 0)), (1, .int x1), (2, .int x2), (3, .int x3)]) hx hb dX9_odds_69 hl (by decide) rfl (fun ls hl => ?_)
              refine lv_iload_n hx hb dX9_odds_71 rfl (lv_at hl 5 rfl) ?_
              refine lv_if_ne (tgt := 80) hx hb dX9_odds_72 (by decide) (fun hc_38 => ?_) (fun hc_38 => ?_)
              · have hf := pe_f hf hc_38
                refine lv_iload hx hb dX9_odds_80 (lv_at hl 0 rfl) ?_
                exact w_82 v9_refusals r_34 r_36 r_36 H locs ls hf hP hD hS (lv_sub hl [1, 0] rfl)
              · have hf := pe_t hf hc_38
                refine lv_iload hx hb dX9_odds_75 (lv_at hl 1 rfl) ?_
                refine lv_goto (tgt := 82) hx hb dX9_odds_77 (by decide) ?_
                exact w_82 v9_refusals r_34 r_36 r_34 H locs ls hf hP hD hS (lv_sub hl [1, 0] rfl)
            · have hf := pe_f hf hc_33
              exact w_43 v9_refusals H locs ls hf hP hD hS (lv_sub hl [0] rfl)
    · have hf := pe_f hf hc_29
      refine lv_aload_n hx hb dX9_odds_17 rfl (lv_at hl 0 rfl) ?_
      refine lv_bipush (v := (-6 : Int32)) hx hb dX9_odds_18 (by decide) ?_
      obtain ⟨r_39, v9_refusals_40, hk_41, hf⟩ := pe_2 hf
      refine xv_l (As := [.int (-6 : Int32)]) (rest := []) (q0 := 0) (ci := 9) Cx hP hD hS hl (pl_X9_X9 a cyI cyJ v9_refusals v7_rows v7_lengths v7_sizes v7_rests v7_orders v6_hooks v6_lefts v6_heights v1_table v5_known v8_sizes v8_coefficients v8_undoneSums v8_undos v8_nextUndo v8_imageTaken v0_totals v3_letters v3_count v3_next v3_size v4_values v4_lengths v9_refusals_40 v7_rows v7_lengths v7_sizes v7_rests v7_orders v6_hooks v6_lefts v6_heights v1_table v5_known v8_sizes v8_coefficients v8_undoneSums v8_undos v8_nextUndo v8_imageTaken v0_totals v3_letters v3_count v3_next v3_size v4_values v4_lengths) (c_X9_refuseFarLong l D cyI cyJ G a H.size v9_refusals v7_rows v7_lengths v7_sizes v7_rests v7_orders v6_hooks v6_lefts v6_heights v1_table v5_known v8_sizes v8_coefficients v8_undoneSums v8_undos v8_nextUndo v8_imageTaken v0_totals v3_letters v3_count v3_next v3_size v4_values v4_lengths (-6 : Int32) r_39 v9_refusals_40 hk_41) pk_X9_refuseFarLong mw_2_223 ⟨rfl, rfl, Nat.le_of_ble_eq_true rfl, Nat.le_of_ble_eq_true rfl⟩ rfl rfl rfl rfl rfl (Nat.le_of_ble_eq_true rfl) ⟨Nat.le_of_ble_eq_true rfl, Nat.le_of_ble_eq_true rfl⟩ dX9_odds_20 (fun H locs hP hD hS => ?_)
      obtain ⟨rfl, rfl⟩ := po_2 hf
      rw [← hQ]; exact xe_lret Cx rfl hP hD hS dX9_odds_23
  · have hf := pe_f hf hc_28
    refine lv_aload_n hx hb dX9_odds_4 rfl (lv_at hl 0 rfl) ?_
    refine lv_bipush (v := (-4 : Int32)) hx hb dX9_odds_5 (by decide) ?_
    obtain ⟨r_42, v9_refusals_43, hk_44, hf⟩ := pe_2 hf
    refine xv_l (As := [.int (-4 : Int32)]) (rest := []) (q0 := 0) (ci := 9) Cx hP hD hS hl (pl_X9_X9 a cyI cyJ v9_refusals v7_rows v7_lengths v7_sizes v7_rests v7_orders v6_hooks v6_lefts v6_heights v1_table v5_known v8_sizes v8_coefficients v8_undoneSums v8_undos v8_nextUndo v8_imageTaken v0_totals v3_letters v3_count v3_next v3_size v4_values v4_lengths v9_refusals_43 v7_rows v7_lengths v7_sizes v7_rests v7_orders v6_hooks v6_lefts v6_heights v1_table v5_known v8_sizes v8_coefficients v8_undoneSums v8_undos v8_nextUndo v8_imageTaken v0_totals v3_letters v3_count v3_next v3_size v4_values v4_lengths) (c_X9_refuseFarLong l D cyI cyJ G a H.size v9_refusals v7_rows v7_lengths v7_sizes v7_rests v7_orders v6_hooks v6_lefts v6_heights v1_table v5_known v8_sizes v8_coefficients v8_undoneSums v8_undos v8_nextUndo v8_imageTaken v0_totals v3_letters v3_count v3_next v3_size v4_values v4_lengths (-4 : Int32) r_42 v9_refusals_43 hk_44) pk_X9_refuseFarLong mw_2_223 ⟨rfl, rfl, Nat.le_of_ble_eq_true rfl, Nat.le_of_ble_eq_true rfl⟩ rfl rfl rfl rfl rfl (Nat.le_of_ble_eq_true rfl) ⟨Nat.le_of_ble_eq_true rfl, Nat.le_of_ble_eq_true rfl⟩ dX9_odds_7 (fun H locs hP hD hS => ?_)
    obtain ⟨rfl, rfl⟩ := po_2 hf
    rw [← hQ]; exact xe_lret Cx rfl hP hD hS dX9_odds_10
def f_X9_number_63 (v7_sizes : Nat → Int32) (v7_orders : Nat → Int32) (v1_table : Nat → Int32) (v9_refusals : Nat → Int32) (v5_known : Nat → Int32) : Option (Int32 × (Nat → Int32) × (Nat → Int32)) := p_b2 (f_X9_refuse v9_refusals (-3 : Int32)) (fun r_1 v9_refusals_2 => some (r_1, v9_refusals_2, v5_known))
def f_X9_number_33 (v7_sizes : Nat → Int32) (v7_orders : Nat → Int32) (v1_table : Nat → Int32) (v9_refusals : Nat → Int32) (v5_known : Nat → Int32) : Option (Int32 × (Nat → Int32) × (Nat → Int32)) := p_b2 (f_X9_refuse v9_refusals (-1 : Int32)) (fun r_4 v9_refusals_5 => some (r_4, v9_refusals_5, v5_known))
def f_X9_number (v9_refusals : Nat → Int32) (v7_sizes : Nat → Int32) (v7_orders : Nat → Int32) (v1_table : Nat → Int32) (v5_known : Nat → Int32) (x1 : Int32) (x2 : Int32) (x3 : Int32) : Option (Int32 × (Nat → Int32) × (Nat → Int32)) := p_b1 (f_X7_has x1) (fun r_7 => if r_7 = 0 then ((f_X9_number_33 v7_sizes v7_orders v1_table) v9_refusals v5_known) else (p_b1 (f_X7_has x2) (fun r_11 => if r_11 = 0 then ((f_X9_number_33 v7_sizes v7_orders v1_table) v9_refusals v5_known) else (p_b1 (f_X7_has x3) (fun r_15 => if r_15 = 0 then ((f_X9_number_33 v7_sizes v7_orders v1_table) v9_refusals v5_known) else (p_b1 (f_X7_alike v7_sizes x1 x2) (fun r_19 => if r_19 = 0 then ((f_X9_number_63 v7_sizes v7_orders v1_table) v9_refusals v5_known) else (p_b1 (f_X7_alike v7_sizes x1 x3) (fun r_23 => if r_23 = 0 then ((f_X9_number_63 v7_sizes v7_orders v1_table) v9_refusals v5_known) else (p_b2 (f_X5_at v7_sizes v7_orders v1_table v5_known x1 x2 x3) (fun r_27 v5_known_28 => some (r_27, v9_refusals, v5_known_28))))))))))))
set_option maxHeartbeats 4000000 in
set_option maxRecDepth 20000 in
theorem c_X9_number (l : Launch) (D : va_G) (cyI cyJ : ClassId) (G a : Nat → Nat) (sz : Nat) (v9_refusals : Nat → Int32) (v7_rows : Nat → Int32) (v7_lengths : Nat → Int32) (v7_sizes : Nat → Int32) (v7_rests : Nat → Int32) (v7_orders : Nat → Int32) (v6_hooks : Nat → Int32) (v6_lefts : Nat → Int32) (v6_heights : Nat → Int32) (v1_table : Nat → Int32) (v5_known : Nat → Int32) (v8_sizes : Nat → Int32) (v8_coefficients : Nat → Int32) (v8_undoneSums : Nat → Int32) (v8_undos : Int32) (v8_nextUndo : Int32) (v8_imageTaken : Int32) (v0_totals : Nat → Int64) (v3_letters : Nat → Int32) (v3_count : Int32) (v3_next : Int32) (v3_size : Int32) (v4_values : Nat → Int32) (v4_lengths : Nat → Int32) (x1 : Int32) (x2 : Int32) (x3 : Int32) (ro : Int32) (ov9_refusals : Nat → Int32) (ov5_known : Nat → Int32) (hf : f_X9_number v9_refusals v7_sizes v7_orders v1_table v5_known x1 x2 x3 = some (ro, ov9_refusals, ov5_known)) : xm_i l yX9_number (Cond.code yX9_number cX9_number 4 (some .int) :: xg_tbl) { frames := 5, cells := 0, slots := 0, locals := 123 } D xcl [(cyI, .int), (cyJ, .long)] G sz [.ref (a 0), .int x1, .int x2, .int x3] (wd_X9 a cyI cyJ v9_refusals v7_rows v7_lengths v7_sizes v7_rests v7_orders v6_hooks v6_lefts v6_heights v1_table v5_known v8_sizes v8_coefficients v8_undoneSums v8_undos v8_nextUndo v8_imageTaken v0_totals v3_letters v3_count v3_next v3_size v4_values v4_lengths) (wd_X9 a cyI cyJ ov9_refusals v7_rows v7_lengths v7_sizes v7_rests v7_orders v6_hooks v6_lefts v6_heights v1_table ov5_known v8_sizes v8_coefficients v8_undoneSums v8_undos v8_nextUndo v8_imageTaken v0_totals v3_letters v3_count v3_next v3_size v4_values v4_lengths) ro := by
  refine xm_of_i (own := RX9) (by decide) rfl rfl (Nat.le_of_ble_eq_true rfl) ?_
  intro p e s m args below meth c ls Q A hQ hAe hin Cx hsz hP hD hS hl
  have Cx1 := Cx
  obtain ⟨⟨hx, hb, hml, hown, hts⟩, hr, hlocks, hK, hA, hT⟩ := Cx1
  have hl : lv_has ls 4 [(0, .ref (a 0)), (1, .int x1), (2, .int x2), (3, .int x3)] := hl
  obtain ⟨H, eH⟩ : ∃ H, H = s.heap := ⟨_, rfl⟩
  obtain ⟨locs, eL⟩ : ∃ L : List Loc, L = [] := ⟨_, rfl⟩
  rw [← eH] at hP
  have hS : va_S A s.heap H locs := by rw [eH, eL]; exact hS
  suffices hgo : W p l e { frames := 5, cells := 0, slots := 0, locals := 123 } s m args below meth c H locs 0 0 Q (F0 m 0 ls []) by rw [eH, eL] at hgo; exact hgo
  clear eH eL
  unfold f_X9_number at hf
  have w_63 : ∀ (v9_refusals : Nat → Int32) (v5_known : Nat → Int32) (H : Heap) (locs : List Loc) (ls : Array Slot), (f_X9_number_63 v7_sizes v7_orders v1_table) v9_refusals v5_known = some (ro, ov9_refusals, ov5_known) → va_P D xcl (wd_X9 a cyI cyJ v9_refusals v7_rows v7_lengths v7_sizes v7_rests v7_orders v6_hooks v6_lefts v6_heights v1_table v5_known v8_sizes v8_coefficients v8_undoneSums v8_undos v8_nextUndo v8_imageTaken v0_totals v3_letters v3_count v3_next v3_size v4_values v4_lengths) H → va_D A (wd_X9 a cyI cyJ v9_refusals v7_rows v7_lengths v7_sizes v7_rests v7_orders v6_hooks v6_lefts v6_heights v1_table v5_known v8_sizes v8_coefficients v8_undoneSums v8_undos v8_nextUndo v8_imageTaken v0_totals v3_letters v3_count v3_next v3_size v4_values v4_lengths) → va_S A s.heap H locs → lv_has ls 4 [(0, .ref (a 0))] → W p l e { frames := 5, cells := 0, slots := 0, locals := 123 } s m args below meth c H locs 0 0 Q (F0 m 63 ls []) := by
    intro v9_refusals v5_known H locs ls hf hP hD hS hl
    unfold f_X9_number_63 at hf
    refine lv_aload_n hx hb dX9_number_63 rfl (lv_at hl 0 rfl) ?_
    refine lv_bipush (v := (-3 : Int32)) hx hb dX9_number_64 (by decide) ?_
    obtain ⟨r_30, v9_refusals_31, hk_32, hf⟩ := pe_2 hf
    refine xv_i (As := [.int (-3 : Int32)]) (rest := []) (q0 := 0) (ci := 9) Cx hP hD hS hl (pl_X9_X9 a cyI cyJ v9_refusals v7_rows v7_lengths v7_sizes v7_rests v7_orders v6_hooks v6_lefts v6_heights v1_table v5_known v8_sizes v8_coefficients v8_undoneSums v8_undos v8_nextUndo v8_imageTaken v0_totals v3_letters v3_count v3_next v3_size v4_values v4_lengths v9_refusals_31 v7_rows v7_lengths v7_sizes v7_rests v7_orders v6_hooks v6_lefts v6_heights v1_table v5_known v8_sizes v8_coefficients v8_undoneSums v8_undos v8_nextUndo v8_imageTaken v0_totals v3_letters v3_count v3_next v3_size v4_values v4_lengths) (c_X9_refuse l D cyI cyJ G a H.size v9_refusals v7_rows v7_lengths v7_sizes v7_rests v7_orders v6_hooks v6_lefts v6_heights v1_table v5_known v8_sizes v8_coefficients v8_undoneSums v8_undos v8_nextUndo v8_imageTaken v0_totals v3_letters v3_count v3_next v3_size v4_values v4_lengths (-3 : Int32) r_30 v9_refusals_31 hk_32) pk_X9_refuse mw_2_103 ⟨rfl, rfl, Nat.le_of_ble_eq_true rfl, Nat.le_of_ble_eq_true rfl⟩ rfl rfl rfl rfl rfl (Nat.le_of_ble_eq_true rfl) ⟨Nat.le_of_ble_eq_true rfl, Nat.le_of_ble_eq_true rfl⟩ dX9_number_66 (fun H locs hP hD hS => ?_)
    obtain ⟨rfl, rfl, rfl⟩ := po_3 hf
    rw [← hQ]; exact xe_iret Cx rfl hP hD hS dX9_number_69
  have w_33 : ∀ (v9_refusals : Nat → Int32) (v5_known : Nat → Int32) (H : Heap) (locs : List Loc) (ls : Array Slot), (f_X9_number_33 v7_sizes v7_orders v1_table) v9_refusals v5_known = some (ro, ov9_refusals, ov5_known) → va_P D xcl (wd_X9 a cyI cyJ v9_refusals v7_rows v7_lengths v7_sizes v7_rests v7_orders v6_hooks v6_lefts v6_heights v1_table v5_known v8_sizes v8_coefficients v8_undoneSums v8_undos v8_nextUndo v8_imageTaken v0_totals v3_letters v3_count v3_next v3_size v4_values v4_lengths) H → va_D A (wd_X9 a cyI cyJ v9_refusals v7_rows v7_lengths v7_sizes v7_rests v7_orders v6_hooks v6_lefts v6_heights v1_table v5_known v8_sizes v8_coefficients v8_undoneSums v8_undos v8_nextUndo v8_imageTaken v0_totals v3_letters v3_count v3_next v3_size v4_values v4_lengths) → va_S A s.heap H locs → lv_has ls 4 [(0, .ref (a 0))] → W p l e { frames := 5, cells := 0, slots := 0, locals := 123 } s m args below meth c H locs 0 0 Q (F0 m 33 ls []) := by
    intro v9_refusals v5_known H locs ls hf hP hD hS hl
    unfold f_X9_number_33 at hf
    refine lv_aload_n hx hb dX9_number_33 rfl (lv_at hl 0 rfl) ?_
    refine lv_iconst (v := (-1 : Int32)) hx hb dX9_number_34 (by decide) ?_
    obtain ⟨r_33, v9_refusals_34, hk_35, hf⟩ := pe_2 hf
    refine xv_i (As := [.int (-1 : Int32)]) (rest := []) (q0 := 0) (ci := 9) Cx hP hD hS hl (pl_X9_X9 a cyI cyJ v9_refusals v7_rows v7_lengths v7_sizes v7_rests v7_orders v6_hooks v6_lefts v6_heights v1_table v5_known v8_sizes v8_coefficients v8_undoneSums v8_undos v8_nextUndo v8_imageTaken v0_totals v3_letters v3_count v3_next v3_size v4_values v4_lengths v9_refusals_34 v7_rows v7_lengths v7_sizes v7_rests v7_orders v6_hooks v6_lefts v6_heights v1_table v5_known v8_sizes v8_coefficients v8_undoneSums v8_undos v8_nextUndo v8_imageTaken v0_totals v3_letters v3_count v3_next v3_size v4_values v4_lengths) (c_X9_refuse l D cyI cyJ G a H.size v9_refusals v7_rows v7_lengths v7_sizes v7_rests v7_orders v6_hooks v6_lefts v6_heights v1_table v5_known v8_sizes v8_coefficients v8_undoneSums v8_undos v8_nextUndo v8_imageTaken v0_totals v3_letters v3_count v3_next v3_size v4_values v4_lengths (-1 : Int32) r_33 v9_refusals_34 hk_35) pk_X9_refuse mw_2_103 ⟨rfl, rfl, Nat.le_of_ble_eq_true rfl, Nat.le_of_ble_eq_true rfl⟩ rfl rfl rfl rfl rfl (Nat.le_of_ble_eq_true rfl) ⟨Nat.le_of_ble_eq_true rfl, Nat.le_of_ble_eq_true rfl⟩ dX9_number_35 (fun H locs hP hD hS => ?_)
    obtain ⟨rfl, rfl, rfl⟩ := po_3 hf
    rw [← hQ]; exact xe_iret Cx rfl hP hD hS dX9_number_38
  refine lv_aload_n hx hb dX9_number_0 rfl (lv_at hl 0 rfl) ?_
  refine va_get (ci := 9) (v := .ref (a 2)) hx hb hts wX9_in hown hK hP 0 rfl rfl 0 (by decide) (hts _ mw_2_67) (fun _ h9 => h9) rfl dX9_number_1 ?_
  refine lv_iload_n hx hb dX9_number_4 rfl (lv_at hl 1 rfl) ?_
  obtain ⟨r_36, hk_37, hf⟩ := pe_1 hf
  refine xv_z (As := [.int x1]) (rest := []) (q0 := 0) (ci := 7) Cx hP hD hS hl (pl_X9_X7 a cyI cyJ v9_refusals v7_rows v7_lengths v7_sizes v7_rests v7_orders v6_hooks v6_lefts v6_heights v1_table v5_known v8_sizes v8_coefficients v8_undoneSums v8_undos v8_nextUndo v8_imageTaken v0_totals v3_letters v3_count v3_next v3_size v4_values v4_lengths v7_rows v7_lengths v7_sizes v7_rests v7_orders) (c_X7_has l D cyI cyJ G a H.size v7_rows v7_lengths v7_sizes v7_rests v7_orders x1 r_36 hk_37) pk_X7_has mw_2_102 ⟨rfl, rfl, Nat.le_of_ble_eq_true rfl, Nat.le_of_ble_eq_true rfl⟩ rfl rfl rfl rfl rfl (Nat.le_of_ble_eq_true rfl) ⟨Nat.le_of_ble_eq_true rfl, Nat.le_of_ble_eq_true rfl⟩ dX9_number_5 (fun H locs hn_38 hP hD hS => ?_)
  refine lv_if_eq (tgt := 33) hx hb dX9_number_8 (by decide) (fun hc_39 => ?_) (fun hc_39 => ?_)
  · have hf := pe_t hf hc_39
    exact w_33 v9_refusals v5_known H locs ls hf hP hD hS (lv_sub hl [0] rfl)
  · have hf := pe_f hf hc_39
    refine lv_aload_n hx hb dX9_number_11 rfl (lv_at hl 0 rfl) ?_
    refine va_get (ci := 9) (v := .ref (a 2)) hx hb hts wX9_in hown hK hP 0 rfl rfl 0 (by decide) (hts _ mw_2_67) (fun _ h9 => h9) rfl dX9_number_12 ?_
    refine lv_iload_n hx hb dX9_number_15 rfl (lv_at hl 2 rfl) ?_
    obtain ⟨r_40, hk_41, hf⟩ := pe_1 hf
    refine xv_z (As := [.int x2]) (rest := []) (q0 := 0) (ci := 7) Cx hP hD hS hl (pl_X9_X7 a cyI cyJ v9_refusals v7_rows v7_lengths v7_sizes v7_rests v7_orders v6_hooks v6_lefts v6_heights v1_table v5_known v8_sizes v8_coefficients v8_undoneSums v8_undos v8_nextUndo v8_imageTaken v0_totals v3_letters v3_count v3_next v3_size v4_values v4_lengths v7_rows v7_lengths v7_sizes v7_rests v7_orders) (c_X7_has l D cyI cyJ G a H.size v7_rows v7_lengths v7_sizes v7_rests v7_orders x2 r_40 hk_41) pk_X7_has mw_2_102 ⟨rfl, rfl, Nat.le_of_ble_eq_true rfl, Nat.le_of_ble_eq_true rfl⟩ rfl rfl rfl rfl rfl (Nat.le_of_ble_eq_true rfl) ⟨Nat.le_of_ble_eq_true rfl, Nat.le_of_ble_eq_true rfl⟩ dX9_number_16 (fun H locs hn_42 hP hD hS => ?_)
    refine lv_if_eq (tgt := 33) hx hb dX9_number_19 (by decide) (fun hc_43 => ?_) (fun hc_43 => ?_)
    · have hf := pe_t hf hc_43
      exact w_33 v9_refusals v5_known H locs ls hf hP hD hS (lv_sub hl [0] rfl)
    · have hf := pe_f hf hc_43
      refine lv_aload_n hx hb dX9_number_22 rfl (lv_at hl 0 rfl) ?_
      refine va_get (ci := 9) (v := .ref (a 2)) hx hb hts wX9_in hown hK hP 0 rfl rfl 0 (by decide) (hts _ mw_2_67) (fun _ h9 => h9) rfl dX9_number_23 ?_
      refine lv_iload_n hx hb dX9_number_26 rfl (lv_at hl 3 rfl) ?_
      obtain ⟨r_44, hk_45, hf⟩ := pe_1 hf
      refine xv_z (As := [.int x3]) (rest := []) (q0 := 0) (ci := 7) Cx hP hD hS hl (pl_X9_X7 a cyI cyJ v9_refusals v7_rows v7_lengths v7_sizes v7_rests v7_orders v6_hooks v6_lefts v6_heights v1_table v5_known v8_sizes v8_coefficients v8_undoneSums v8_undos v8_nextUndo v8_imageTaken v0_totals v3_letters v3_count v3_next v3_size v4_values v4_lengths v7_rows v7_lengths v7_sizes v7_rests v7_orders) (c_X7_has l D cyI cyJ G a H.size v7_rows v7_lengths v7_sizes v7_rests v7_orders x3 r_44 hk_45) pk_X7_has mw_2_102 ⟨rfl, rfl, Nat.le_of_ble_eq_true rfl, Nat.le_of_ble_eq_true rfl⟩ rfl rfl rfl rfl rfl (Nat.le_of_ble_eq_true rfl) ⟨Nat.le_of_ble_eq_true rfl, Nat.le_of_ble_eq_true rfl⟩ dX9_number_27 (fun H locs hn_46 hP hD hS => ?_)
      refine lv_if_ne (tgt := 39) hx hb dX9_number_30 (by decide) (fun hc_47 => ?_) (fun hc_47 => ?_)
      · have hf := pe_f hf hc_47
        refine lv_aload_n hx hb dX9_number_39 rfl (lv_at hl 0 rfl) ?_
        refine va_get (ci := 9) (v := .ref (a 2)) hx hb hts wX9_in hown hK hP 0 rfl rfl 0 (by decide) (hts _ mw_2_67) (fun _ h9 => h9) rfl dX9_number_40 ?_
        refine lv_iload_n hx hb dX9_number_43 rfl (lv_at hl 1 rfl) ?_
        refine lv_iload_n hx hb dX9_number_44 rfl (lv_at hl 2 rfl) ?_
        obtain ⟨r_48, hk_49, hf⟩ := pe_1 hf
        refine xv_z (As := [.int x1, .int x2]) (rest := []) (q0 := 0) (ci := 7) Cx hP hD hS hl (pl_X9_X7 a cyI cyJ v9_refusals v7_rows v7_lengths v7_sizes v7_rests v7_orders v6_hooks v6_lefts v6_heights v1_table v5_known v8_sizes v8_coefficients v8_undoneSums v8_undos v8_nextUndo v8_imageTaken v0_totals v3_letters v3_count v3_next v3_size v4_values v4_lengths v7_rows v7_lengths v7_sizes v7_rests v7_orders) (c_X7_alike l D cyI cyJ G a H.size v7_rows v7_lengths v7_sizes v7_rests v7_orders x1 x2 r_48 hk_49) pk_X7_alike mw_2_214 ⟨rfl, rfl, Nat.le_of_ble_eq_true rfl, Nat.le_of_ble_eq_true rfl⟩ rfl rfl rfl rfl rfl (Nat.le_of_ble_eq_true rfl) ⟨Nat.le_of_ble_eq_true rfl, Nat.le_of_ble_eq_true rfl⟩ dX9_number_45 (fun H locs hn_50 hP hD hS => ?_)
        refine lv_if_eq (tgt := 63) hx hb dX9_number_48 (by decide) (fun hc_51 => ?_) (fun hc_51 => ?_)
        · have hf := pe_t hf hc_51
          exact w_63 v9_refusals v5_known H locs ls hf hP hD hS (lv_sub hl [0] rfl)
        · have hf := pe_f hf hc_51
          refine lv_aload_n hx hb dX9_number_51 rfl (lv_at hl 0 rfl) ?_
          refine va_get (ci := 9) (v := .ref (a 2)) hx hb hts wX9_in hown hK hP 0 rfl rfl 0 (by decide) (hts _ mw_2_67) (fun _ h9 => h9) rfl dX9_number_52 ?_
          refine lv_iload_n hx hb dX9_number_55 rfl (lv_at hl 1 rfl) ?_
          refine lv_iload_n hx hb dX9_number_56 rfl (lv_at hl 3 rfl) ?_
          obtain ⟨r_52, hk_53, hf⟩ := pe_1 hf
          refine xv_z (As := [.int x1, .int x3]) (rest := []) (q0 := 0) (ci := 7) Cx hP hD hS hl (pl_X9_X7 a cyI cyJ v9_refusals v7_rows v7_lengths v7_sizes v7_rests v7_orders v6_hooks v6_lefts v6_heights v1_table v5_known v8_sizes v8_coefficients v8_undoneSums v8_undos v8_nextUndo v8_imageTaken v0_totals v3_letters v3_count v3_next v3_size v4_values v4_lengths v7_rows v7_lengths v7_sizes v7_rests v7_orders) (c_X7_alike l D cyI cyJ G a H.size v7_rows v7_lengths v7_sizes v7_rests v7_orders x1 x3 r_52 hk_53) pk_X7_alike mw_2_214 ⟨rfl, rfl, Nat.le_of_ble_eq_true rfl, Nat.le_of_ble_eq_true rfl⟩ rfl rfl rfl rfl rfl (Nat.le_of_ble_eq_true rfl) ⟨Nat.le_of_ble_eq_true rfl, Nat.le_of_ble_eq_true rfl⟩ dX9_number_57 (fun H locs hn_54 hP hD hS => ?_)
          refine lv_if_ne (tgt := 70) hx hb dX9_number_60 (by decide) (fun hc_55 => ?_) (fun hc_55 => ?_)
          · have hf := pe_f hf hc_55
            refine lv_aload_n hx hb dX9_number_70 rfl (lv_at hl 0 rfl) ?_
            refine va_get (ci := 9) (v := .ref (a 15)) hx hb hts wX9_in hown hK hP 0 rfl rfl 4 (by decide) (hts _ mw_2_71) (fun _ h9 => h9) rfl dX9_number_71 ?_
            refine lv_iload_n hx hb dX9_number_74 rfl (lv_at hl 1 rfl) ?_
            refine lv_iload_n hx hb dX9_number_75 rfl (lv_at hl 2 rfl) ?_
            refine lv_iload_n hx hb dX9_number_76 rfl (lv_at hl 3 rfl) ?_
            obtain ⟨r_56, v5_known_57, hk_58, hf⟩ := pe_2 hf
            refine xv_i (As := [.int x1, .int x2, .int x3]) (rest := []) (q0 := 0) (ci := 5) Cx hP hD hS hl (pl_X9_X5 a cyI cyJ v9_refusals v7_rows v7_lengths v7_sizes v7_rests v7_orders v6_hooks v6_lefts v6_heights v1_table v5_known v8_sizes v8_coefficients v8_undoneSums v8_undos v8_nextUndo v8_imageTaken v0_totals v3_letters v3_count v3_next v3_size v4_values v4_lengths v5_known_57 v1_table v7_rows v7_lengths v7_sizes v7_rests v7_orders) (c_X5_at l D cyI cyJ G a H.size v5_known v1_table v7_rows v7_lengths v7_sizes v7_rests v7_orders x1 x2 x3 r_56 v5_known_57 hk_58) pk_X5_at mw_3_1 ⟨rfl, rfl, Nat.le_of_ble_eq_true rfl, Nat.le_of_ble_eq_true rfl⟩ rfl rfl rfl rfl rfl (Nat.le_of_ble_eq_true rfl) ⟨Nat.le_of_ble_eq_true rfl, Nat.le_of_ble_eq_true rfl⟩ dX9_number_77 (fun H locs hP hD hS => ?_)
            obtain ⟨rfl, rfl, rfl⟩ := po_3 hf
            rw [← hQ]; exact xe_iret Cx rfl hP hD hS dX9_number_80
          · have hf := pe_t hf hc_55
            exact w_63 v9_refusals v5_known H locs ls hf hP hD hS (lv_sub hl [0] rfl)
      · have hf := pe_t hf hc_47
        exact w_33 v9_refusals v5_known H locs ls hf hP hD hS (lv_sub hl [0] rfl)
def f_X9_product_22 (v7_sizes : Nat → Int32) (v7_orders : Nat → Int32) (v1_table : Nat → Int32) (v9_refusals : Nat → Int32) (v5_known : Nat → Int32) : Option (Int32 × (Nat → Int32) × (Nat → Int32)) := p_b2 (f_X9_refuse v9_refusals (-1 : Int32)) (fun r_1 v9_refusals_2 => some (r_1, v9_refusals_2, v5_known))
def f_X9_product (v9_refusals : Nat → Int32) (v7_sizes : Nat → Int32) (v7_orders : Nat → Int32) (v1_table : Nat → Int32) (v5_known : Nat → Int32) (x1 : Int32) (x2 : Int32) (x3 : Int32) : Option (Int32 × (Nat → Int32) × (Nat → Int32)) := p_b1 (f_X7_has x1) (fun r_4 => if r_4 = 0 then ((f_X9_product_22 v7_sizes v7_orders v1_table) v9_refusals v5_known) else (p_b1 (f_X7_has x2) (fun r_8 => if r_8 = 0 then ((f_X9_product_22 v7_sizes v7_orders v1_table) v9_refusals v5_known) else (p_b1 (f_X7_alike v7_sizes x1 x2) (fun r_12 => if r_12 = 0 then (p_b2 (f_X9_refuse v9_refusals (-3 : Int32)) (fun r_27 v9_refusals_28 => some (r_27, v9_refusals_28, v5_known))) else (if (-1 : Int32) ≤ x3 then (if x3 = (-1 : Int32) then (p_b2 (f_X5_lengthOfProduct v7_sizes v7_orders v1_table v5_known x1 x2) (fun r_21 v5_known_22 => some (r_21, v9_refusals, v5_known_22))) else (p_b2 (f_X5_partOfProduct v7_sizes v7_orders v1_table v5_known x1 x2 x3) (fun r_18 v5_known_19 => some (r_18, v9_refusals, v5_known_19)))) else (p_b2 (f_X9_refuse v9_refusals (-4 : Int32)) (fun r_24 v9_refusals_25 => some (r_24, v9_refusals_25, v5_known)))))))))
set_option maxHeartbeats 4000000 in
set_option maxRecDepth 20000 in
theorem c_X9_product (l : Launch) (D : va_G) (cyI cyJ : ClassId) (G a : Nat → Nat) (sz : Nat) (v9_refusals : Nat → Int32) (v7_rows : Nat → Int32) (v7_lengths : Nat → Int32) (v7_sizes : Nat → Int32) (v7_rests : Nat → Int32) (v7_orders : Nat → Int32) (v6_hooks : Nat → Int32) (v6_lefts : Nat → Int32) (v6_heights : Nat → Int32) (v1_table : Nat → Int32) (v5_known : Nat → Int32) (v8_sizes : Nat → Int32) (v8_coefficients : Nat → Int32) (v8_undoneSums : Nat → Int32) (v8_undos : Int32) (v8_nextUndo : Int32) (v8_imageTaken : Int32) (v0_totals : Nat → Int64) (v3_letters : Nat → Int32) (v3_count : Int32) (v3_next : Int32) (v3_size : Int32) (v4_values : Nat → Int32) (v4_lengths : Nat → Int32) (x1 : Int32) (x2 : Int32) (x3 : Int32) (ro : Int32) (ov9_refusals : Nat → Int32) (ov5_known : Nat → Int32) (hf : f_X9_product v9_refusals v7_sizes v7_orders v1_table v5_known x1 x2 x3 = some (ro, ov9_refusals, ov5_known)) : xm_i l yX9_product (Cond.code yX9_product cX9_product 4 (some .int) :: xg_tbl) { frames := 6, cells := 0, slots := 0, locals := 148 } D xcl [(cyI, .int), (cyJ, .long)] G sz [.ref (a 0), .int x1, .int x2, .int x3] (wd_X9 a cyI cyJ v9_refusals v7_rows v7_lengths v7_sizes v7_rests v7_orders v6_hooks v6_lefts v6_heights v1_table v5_known v8_sizes v8_coefficients v8_undoneSums v8_undos v8_nextUndo v8_imageTaken v0_totals v3_letters v3_count v3_next v3_size v4_values v4_lengths) (wd_X9 a cyI cyJ ov9_refusals v7_rows v7_lengths v7_sizes v7_rests v7_orders v6_hooks v6_lefts v6_heights v1_table ov5_known v8_sizes v8_coefficients v8_undoneSums v8_undos v8_nextUndo v8_imageTaken v0_totals v3_letters v3_count v3_next v3_size v4_values v4_lengths) ro := by
  refine xm_of_i (own := RX9) (by decide) rfl rfl (Nat.le_of_ble_eq_true rfl) ?_
  intro p e s m args below meth c ls Q A hQ hAe hin Cx hsz hP hD hS hl
  have Cx1 := Cx
  obtain ⟨⟨hx, hb, hml, hown, hts⟩, hr, hlocks, hK, hA, hT⟩ := Cx1
  have hl : lv_has ls 4 [(0, .ref (a 0)), (1, .int x1), (2, .int x2), (3, .int x3)] := hl
  obtain ⟨H, eH⟩ : ∃ H, H = s.heap := ⟨_, rfl⟩
  obtain ⟨locs, eL⟩ : ∃ L : List Loc, L = [] := ⟨_, rfl⟩
  rw [← eH] at hP
  have hS : va_S A s.heap H locs := by rw [eH, eL]; exact hS
  suffices hgo : W p l e { frames := 6, cells := 0, slots := 0, locals := 148 } s m args below meth c H locs 0 0 Q (F0 m 0 ls []) by rw [eH, eL] at hgo; exact hgo
  clear eH eL
  unfold f_X9_product at hf
  have w_22 : ∀ (v9_refusals : Nat → Int32) (v5_known : Nat → Int32) (H : Heap) (locs : List Loc) (ls : Array Slot), (f_X9_product_22 v7_sizes v7_orders v1_table) v9_refusals v5_known = some (ro, ov9_refusals, ov5_known) → va_P D xcl (wd_X9 a cyI cyJ v9_refusals v7_rows v7_lengths v7_sizes v7_rests v7_orders v6_hooks v6_lefts v6_heights v1_table v5_known v8_sizes v8_coefficients v8_undoneSums v8_undos v8_nextUndo v8_imageTaken v0_totals v3_letters v3_count v3_next v3_size v4_values v4_lengths) H → va_D A (wd_X9 a cyI cyJ v9_refusals v7_rows v7_lengths v7_sizes v7_rests v7_orders v6_hooks v6_lefts v6_heights v1_table v5_known v8_sizes v8_coefficients v8_undoneSums v8_undos v8_nextUndo v8_imageTaken v0_totals v3_letters v3_count v3_next v3_size v4_values v4_lengths) → va_S A s.heap H locs → lv_has ls 4 [(0, .ref (a 0))] → W p l e { frames := 6, cells := 0, slots := 0, locals := 148 } s m args below meth c H locs 0 0 Q (F0 m 22 ls []) := by
    intro v9_refusals v5_known H locs ls hf hP hD hS hl
    unfold f_X9_product_22 at hf
    refine lv_aload_n hx hb dX9_product_22 rfl (lv_at hl 0 rfl) ?_
    refine lv_iconst (v := (-1 : Int32)) hx hb dX9_product_23 (by decide) ?_
    obtain ⟨r_30, v9_refusals_31, hk_32, hf⟩ := pe_2 hf
    refine xv_i (As := [.int (-1 : Int32)]) (rest := []) (q0 := 0) (ci := 9) Cx hP hD hS hl (pl_X9_X9 a cyI cyJ v9_refusals v7_rows v7_lengths v7_sizes v7_rests v7_orders v6_hooks v6_lefts v6_heights v1_table v5_known v8_sizes v8_coefficients v8_undoneSums v8_undos v8_nextUndo v8_imageTaken v0_totals v3_letters v3_count v3_next v3_size v4_values v4_lengths v9_refusals_31 v7_rows v7_lengths v7_sizes v7_rests v7_orders v6_hooks v6_lefts v6_heights v1_table v5_known v8_sizes v8_coefficients v8_undoneSums v8_undos v8_nextUndo v8_imageTaken v0_totals v3_letters v3_count v3_next v3_size v4_values v4_lengths) (c_X9_refuse l D cyI cyJ G a H.size v9_refusals v7_rows v7_lengths v7_sizes v7_rests v7_orders v6_hooks v6_lefts v6_heights v1_table v5_known v8_sizes v8_coefficients v8_undoneSums v8_undos v8_nextUndo v8_imageTaken v0_totals v3_letters v3_count v3_next v3_size v4_values v4_lengths (-1 : Int32) r_30 v9_refusals_31 hk_32) pk_X9_refuse mw_2_103 ⟨rfl, rfl, Nat.le_of_ble_eq_true rfl, Nat.le_of_ble_eq_true rfl⟩ rfl rfl rfl rfl rfl (Nat.le_of_ble_eq_true rfl) ⟨Nat.le_of_ble_eq_true rfl, Nat.le_of_ble_eq_true rfl⟩ dX9_product_24 (fun H locs hP hD hS => ?_)
    obtain ⟨rfl, rfl, rfl⟩ := po_3 hf
    rw [← hQ]; exact xe_iret Cx rfl hP hD hS dX9_product_27
  refine lv_aload_n hx hb dX9_product_0 rfl (lv_at hl 0 rfl) ?_
  refine va_get (ci := 9) (v := .ref (a 2)) hx hb hts wX9_in hown hK hP 0 rfl rfl 0 (by decide) (hts _ mw_2_67) (fun _ h9 => h9) rfl dX9_product_1 ?_
  refine lv_iload_n hx hb dX9_product_4 rfl (lv_at hl 1 rfl) ?_
  obtain ⟨r_33, hk_34, hf⟩ := pe_1 hf
  refine xv_z (As := [.int x1]) (rest := []) (q0 := 0) (ci := 7) Cx hP hD hS hl (pl_X9_X7 a cyI cyJ v9_refusals v7_rows v7_lengths v7_sizes v7_rests v7_orders v6_hooks v6_lefts v6_heights v1_table v5_known v8_sizes v8_coefficients v8_undoneSums v8_undos v8_nextUndo v8_imageTaken v0_totals v3_letters v3_count v3_next v3_size v4_values v4_lengths v7_rows v7_lengths v7_sizes v7_rests v7_orders) (c_X7_has l D cyI cyJ G a H.size v7_rows v7_lengths v7_sizes v7_rests v7_orders x1 r_33 hk_34) pk_X7_has mw_2_102 ⟨rfl, rfl, Nat.le_of_ble_eq_true rfl, Nat.le_of_ble_eq_true rfl⟩ rfl rfl rfl rfl rfl (Nat.le_of_ble_eq_true rfl) ⟨Nat.le_of_ble_eq_true rfl, Nat.le_of_ble_eq_true rfl⟩ dX9_product_5 (fun H locs hn_35 hP hD hS => ?_)
  refine lv_if_eq (tgt := 22) hx hb dX9_product_8 (by decide) (fun hc_36 => ?_) (fun hc_36 => ?_)
  · have hf := pe_t hf hc_36
    exact w_22 v9_refusals v5_known H locs ls hf hP hD hS (lv_sub hl [0] rfl)
  · have hf := pe_f hf hc_36
    refine lv_aload_n hx hb dX9_product_11 rfl (lv_at hl 0 rfl) ?_
    refine va_get (ci := 9) (v := .ref (a 2)) hx hb hts wX9_in hown hK hP 0 rfl rfl 0 (by decide) (hts _ mw_2_67) (fun _ h9 => h9) rfl dX9_product_12 ?_
    refine lv_iload_n hx hb dX9_product_15 rfl (lv_at hl 2 rfl) ?_
    obtain ⟨r_37, hk_38, hf⟩ := pe_1 hf
    refine xv_z (As := [.int x2]) (rest := []) (q0 := 0) (ci := 7) Cx hP hD hS hl (pl_X9_X7 a cyI cyJ v9_refusals v7_rows v7_lengths v7_sizes v7_rests v7_orders v6_hooks v6_lefts v6_heights v1_table v5_known v8_sizes v8_coefficients v8_undoneSums v8_undos v8_nextUndo v8_imageTaken v0_totals v3_letters v3_count v3_next v3_size v4_values v4_lengths v7_rows v7_lengths v7_sizes v7_rests v7_orders) (c_X7_has l D cyI cyJ G a H.size v7_rows v7_lengths v7_sizes v7_rests v7_orders x2 r_37 hk_38) pk_X7_has mw_2_102 ⟨rfl, rfl, Nat.le_of_ble_eq_true rfl, Nat.le_of_ble_eq_true rfl⟩ rfl rfl rfl rfl rfl (Nat.le_of_ble_eq_true rfl) ⟨Nat.le_of_ble_eq_true rfl, Nat.le_of_ble_eq_true rfl⟩ dX9_product_16 (fun H locs hn_39 hP hD hS => ?_)
    refine lv_if_ne (tgt := 28) hx hb dX9_product_19 (by decide) (fun hc_40 => ?_) (fun hc_40 => ?_)
    · have hf := pe_f hf hc_40
      refine lv_aload_n hx hb dX9_product_28 rfl (lv_at hl 0 rfl) ?_
      refine va_get (ci := 9) (v := .ref (a 2)) hx hb hts wX9_in hown hK hP 0 rfl rfl 0 (by decide) (hts _ mw_2_67) (fun _ h9 => h9) rfl dX9_product_29 ?_
      refine lv_iload_n hx hb dX9_product_32 rfl (lv_at hl 1 rfl) ?_
      refine lv_iload_n hx hb dX9_product_33 rfl (lv_at hl 2 rfl) ?_
      obtain ⟨r_41, hk_42, hf⟩ := pe_1 hf
      refine xv_z (As := [.int x1, .int x2]) (rest := []) (q0 := 0) (ci := 7) Cx hP hD hS hl (pl_X9_X7 a cyI cyJ v9_refusals v7_rows v7_lengths v7_sizes v7_rests v7_orders v6_hooks v6_lefts v6_heights v1_table v5_known v8_sizes v8_coefficients v8_undoneSums v8_undos v8_nextUndo v8_imageTaken v0_totals v3_letters v3_count v3_next v3_size v4_values v4_lengths v7_rows v7_lengths v7_sizes v7_rests v7_orders) (c_X7_alike l D cyI cyJ G a H.size v7_rows v7_lengths v7_sizes v7_rests v7_orders x1 x2 r_41 hk_42) pk_X7_alike mw_2_214 ⟨rfl, rfl, Nat.le_of_ble_eq_true rfl, Nat.le_of_ble_eq_true rfl⟩ rfl rfl rfl rfl rfl (Nat.le_of_ble_eq_true rfl) ⟨Nat.le_of_ble_eq_true rfl, Nat.le_of_ble_eq_true rfl⟩ dX9_product_34 (fun H locs hn_43 hP hD hS => ?_)
      refine lv_if_ne (tgt := 47) hx hb dX9_product_37 (by decide) (fun hc_44 => ?_) (fun hc_44 => ?_)
      · have hf := pe_f hf hc_44
        refine lv_iload_n hx hb dX9_product_47 rfl (lv_at hl 3 rfl) ?_
        refine lv_iconst (v := (-1 : Int32)) hx hb dX9_product_48 (by decide) ?_
        refine lv_icmp_ge (tgt := 59) hx hb dX9_product_49 (by decide) (fun hc_45 => ?_) (fun hc_45 => ?_)
        · have hf := pe_t hf hc_45
          refine lv_iload_n hx hb dX9_product_59 rfl (lv_at hl 3 rfl) ?_
          refine lv_iconst (v := (-1 : Int32)) hx hb dX9_product_60 (by decide) ?_
          refine lv_icmp_ne (tgt := 76) hx hb dX9_product_61 (by decide) (fun hc_46 => ?_) (fun hc_46 => ?_)
          · have hf := pe_f hf hc_46
            refine lv_aload_n hx hb dX9_product_76 rfl (lv_at hl 0 rfl) ?_
            refine va_get (ci := 9) (v := .ref (a 15)) hx hb hts wX9_in hown hK hP 0 rfl rfl 4 (by decide) (hts _ mw_2_71) (fun _ h9 => h9) rfl dX9_product_77 ?_
            refine lv_iload_n hx hb dX9_product_80 rfl (lv_at hl 1 rfl) ?_
            refine lv_iload_n hx hb dX9_product_81 rfl (lv_at hl 2 rfl) ?_
            refine lv_iload_n hx hb dX9_product_82 rfl (lv_at hl 3 rfl) ?_
            obtain ⟨r_47, v5_known_48, hk_49, hf⟩ := pe_2 hf
            refine xv_i (As := [.int x1, .int x2, .int x3]) (rest := []) (q0 := 0) (ci := 5) Cx hP hD hS hl (pl_X9_X5 a cyI cyJ v9_refusals v7_rows v7_lengths v7_sizes v7_rests v7_orders v6_hooks v6_lefts v6_heights v1_table v5_known v8_sizes v8_coefficients v8_undoneSums v8_undos v8_nextUndo v8_imageTaken v0_totals v3_letters v3_count v3_next v3_size v4_values v4_lengths v5_known_48 v1_table v7_rows v7_lengths v7_sizes v7_rests v7_orders) (c_X5_partOfProduct l D cyI cyJ G a H.size v5_known v1_table v7_rows v7_lengths v7_sizes v7_rests v7_orders x1 x2 x3 r_47 v5_known_48 hk_49) pk_X5_partOfProduct mw_3_49 ⟨rfl, rfl, Nat.le_of_ble_eq_true rfl, Nat.le_of_ble_eq_true rfl⟩ rfl rfl rfl rfl rfl (Nat.le_of_ble_eq_true rfl) ⟨Nat.le_of_ble_eq_true rfl, Nat.le_of_ble_eq_true rfl⟩ dX9_product_83 (fun H locs hP hD hS => ?_)
            obtain ⟨rfl, rfl, rfl⟩ := po_3 hf
            rw [← hQ]; exact xe_iret Cx rfl hP hD hS dX9_product_86
          · have hf := pe_t hf hc_46
            refine lv_aload_n hx hb dX9_product_64 rfl (lv_at hl 0 rfl) ?_
            refine va_get (ci := 9) (v := .ref (a 15)) hx hb hts wX9_in hown hK hP 0 rfl rfl 4 (by decide) (hts _ mw_2_71) (fun _ h9 => h9) rfl dX9_product_65 ?_
            refine lv_iload_n hx hb dX9_product_68 rfl (lv_at hl 1 rfl) ?_
            refine lv_iload_n hx hb dX9_product_69 rfl (lv_at hl 2 rfl) ?_
            obtain ⟨r_50, v5_known_51, hk_52, hf⟩ := pe_2 hf
            refine xv_i (As := [.int x1, .int x2]) (rest := []) (q0 := 0) (ci := 5) Cx hP hD hS hl (pl_X9_X5 a cyI cyJ v9_refusals v7_rows v7_lengths v7_sizes v7_rests v7_orders v6_hooks v6_lefts v6_heights v1_table v5_known v8_sizes v8_coefficients v8_undoneSums v8_undos v8_nextUndo v8_imageTaken v0_totals v3_letters v3_count v3_next v3_size v4_values v4_lengths v5_known_51 v1_table v7_rows v7_lengths v7_sizes v7_rests v7_orders) (c_X5_lengthOfProduct l D cyI cyJ G a H.size v5_known v1_table v7_rows v7_lengths v7_sizes v7_rests v7_orders x1 x2 r_50 v5_known_51 hk_52) pk_X5_lengthOfProduct mw_3_36 ⟨rfl, rfl, Nat.le_of_ble_eq_true rfl, Nat.le_of_ble_eq_true rfl⟩ rfl rfl rfl rfl rfl (Nat.le_of_ble_eq_true rfl) ⟨Nat.le_of_ble_eq_true rfl, Nat.le_of_ble_eq_true rfl⟩ dX9_product_70 (fun H locs hP hD hS => ?_)
            refine lv_goto (tgt := 86) hx hb dX9_product_73 (by decide) ?_
            obtain ⟨rfl, rfl, rfl⟩ := po_3 hf
            rw [← hQ]; exact xe_iret Cx rfl hP hD hS dX9_product_86
        · have hf := pe_f hf hc_45
          refine lv_aload_n hx hb dX9_product_52 rfl (lv_at hl 0 rfl) ?_
          refine lv_bipush (v := (-4 : Int32)) hx hb dX9_product_53 (by decide) ?_
          obtain ⟨r_53, v9_refusals_54, hk_55, hf⟩ := pe_2 hf
          refine xv_i (As := [.int (-4 : Int32)]) (rest := []) (q0 := 0) (ci := 9) Cx hP hD hS hl (pl_X9_X9 a cyI cyJ v9_refusals v7_rows v7_lengths v7_sizes v7_rests v7_orders v6_hooks v6_lefts v6_heights v1_table v5_known v8_sizes v8_coefficients v8_undoneSums v8_undos v8_nextUndo v8_imageTaken v0_totals v3_letters v3_count v3_next v3_size v4_values v4_lengths v9_refusals_54 v7_rows v7_lengths v7_sizes v7_rests v7_orders v6_hooks v6_lefts v6_heights v1_table v5_known v8_sizes v8_coefficients v8_undoneSums v8_undos v8_nextUndo v8_imageTaken v0_totals v3_letters v3_count v3_next v3_size v4_values v4_lengths) (c_X9_refuse l D cyI cyJ G a H.size v9_refusals v7_rows v7_lengths v7_sizes v7_rests v7_orders v6_hooks v6_lefts v6_heights v1_table v5_known v8_sizes v8_coefficients v8_undoneSums v8_undos v8_nextUndo v8_imageTaken v0_totals v3_letters v3_count v3_next v3_size v4_values v4_lengths (-4 : Int32) r_53 v9_refusals_54 hk_55) pk_X9_refuse mw_2_103 ⟨rfl, rfl, Nat.le_of_ble_eq_true rfl, Nat.le_of_ble_eq_true rfl⟩ rfl rfl rfl rfl rfl (Nat.le_of_ble_eq_true rfl) ⟨Nat.le_of_ble_eq_true rfl, Nat.le_of_ble_eq_true rfl⟩ dX9_product_55 (fun H locs hP hD hS => ?_)
          obtain ⟨rfl, rfl, rfl⟩ := po_3 hf
          rw [← hQ]; exact xe_iret Cx rfl hP hD hS dX9_product_58
      · have hf := pe_t hf hc_44
        refine lv_aload_n hx hb dX9_product_40 rfl (lv_at hl 0 rfl) ?_
        refine lv_bipush (v := (-3 : Int32)) hx hb dX9_product_41 (by decide) ?_
        obtain ⟨r_56, v9_refusals_57, hk_58, hf⟩ := pe_2 hf
        refine xv_i (As := [.int (-3 : Int32)]) (rest := []) (q0 := 0) (ci := 9) Cx hP hD hS hl (pl_X9_X9 a cyI cyJ v9_refusals v7_rows v7_lengths v7_sizes v7_rests v7_orders v6_hooks v6_lefts v6_heights v1_table v5_known v8_sizes v8_coefficients v8_undoneSums v8_undos v8_nextUndo v8_imageTaken v0_totals v3_letters v3_count v3_next v3_size v4_values v4_lengths v9_refusals_57 v7_rows v7_lengths v7_sizes v7_rests v7_orders v6_hooks v6_lefts v6_heights v1_table v5_known v8_sizes v8_coefficients v8_undoneSums v8_undos v8_nextUndo v8_imageTaken v0_totals v3_letters v3_count v3_next v3_size v4_values v4_lengths) (c_X9_refuse l D cyI cyJ G a H.size v9_refusals v7_rows v7_lengths v7_sizes v7_rests v7_orders v6_hooks v6_lefts v6_heights v1_table v5_known v8_sizes v8_coefficients v8_undoneSums v8_undos v8_nextUndo v8_imageTaken v0_totals v3_letters v3_count v3_next v3_size v4_values v4_lengths (-3 : Int32) r_56 v9_refusals_57 hk_58) pk_X9_refuse mw_2_103 ⟨rfl, rfl, Nat.le_of_ble_eq_true rfl, Nat.le_of_ble_eq_true rfl⟩ rfl rfl rfl rfl rfl (Nat.le_of_ble_eq_true rfl) ⟨Nat.le_of_ble_eq_true rfl, Nat.le_of_ble_eq_true rfl⟩ dX9_product_43 (fun H locs hP hD hS => ?_)
        obtain ⟨rfl, rfl, rfl⟩ := po_3 hf
        rw [← hQ]; exact xe_iret Cx rfl hP hD hS dX9_product_46
    · have hf := pe_t hf hc_40
      exact w_22 v9_refusals v5_known H locs ls hf hP hD hS (lv_sub hl [0] rfl)
def f_X9_greatest_22 (v7_sizes : Nat → Int32) (v7_orders : Nat → Int32) (v1_table : Nat → Int32) (v9_refusals : Nat → Int32) (v5_known : Nat → Int32) : Option (Int32 × (Nat → Int32) × (Nat → Int32)) := p_b2 (f_X9_refuse v9_refusals (-1 : Int32)) (fun r_1 v9_refusals_2 => some (r_1, v9_refusals_2, v5_known))
def f_X9_greatest (v9_refusals : Nat → Int32) (v7_sizes : Nat → Int32) (v7_orders : Nat → Int32) (v1_table : Nat → Int32) (v5_known : Nat → Int32) (x1 : Int32) (x2 : Int32) : Option (Int32 × (Nat → Int32) × (Nat → Int32)) := p_b1 (f_X7_has x1) (fun r_4 => if r_4 = 0 then ((f_X9_greatest_22 v7_sizes v7_orders v1_table) v9_refusals v5_known) else (p_b1 (f_X7_has x2) (fun r_8 => if r_8 = 0 then ((f_X9_greatest_22 v7_sizes v7_orders v1_table) v9_refusals v5_known) else (p_b1 (f_X7_alike v7_sizes x1 x2) (fun r_12 => if r_12 = 0 then (p_b2 (f_X9_refuse v9_refusals (-3 : Int32)) (fun r_19 v9_refusals_20 => some (r_19, v9_refusals_20, v5_known))) else (p_b2 (f_X5_greatestInProduct v7_sizes v7_orders v1_table v5_known x1 x2) (fun r_16 v5_known_17 => some (r_16, v9_refusals, v5_known_17))))))))
set_option maxHeartbeats 4000000 in
set_option maxRecDepth 20000 in
theorem c_X9_greatest (l : Launch) (D : va_G) (cyI cyJ : ClassId) (G a : Nat → Nat) (sz : Nat) (v9_refusals : Nat → Int32) (v7_rows : Nat → Int32) (v7_lengths : Nat → Int32) (v7_sizes : Nat → Int32) (v7_rests : Nat → Int32) (v7_orders : Nat → Int32) (v6_hooks : Nat → Int32) (v6_lefts : Nat → Int32) (v6_heights : Nat → Int32) (v1_table : Nat → Int32) (v5_known : Nat → Int32) (v8_sizes : Nat → Int32) (v8_coefficients : Nat → Int32) (v8_undoneSums : Nat → Int32) (v8_undos : Int32) (v8_nextUndo : Int32) (v8_imageTaken : Int32) (v0_totals : Nat → Int64) (v3_letters : Nat → Int32) (v3_count : Int32) (v3_next : Int32) (v3_size : Int32) (v4_values : Nat → Int32) (v4_lengths : Nat → Int32) (x1 : Int32) (x2 : Int32) (ro : Int32) (ov9_refusals : Nat → Int32) (ov5_known : Nat → Int32) (hf : f_X9_greatest v9_refusals v7_sizes v7_orders v1_table v5_known x1 x2 = some (ro, ov9_refusals, ov5_known)) : xm_i l yX9_greatest (Cond.code yX9_greatest cX9_greatest 3 (some .int) :: xg_tbl) { frames := 6, cells := 0, slots := 0, locals := 147 } D xcl [(cyI, .int), (cyJ, .long)] G sz [.ref (a 0), .int x1, .int x2] (wd_X9 a cyI cyJ v9_refusals v7_rows v7_lengths v7_sizes v7_rests v7_orders v6_hooks v6_lefts v6_heights v1_table v5_known v8_sizes v8_coefficients v8_undoneSums v8_undos v8_nextUndo v8_imageTaken v0_totals v3_letters v3_count v3_next v3_size v4_values v4_lengths) (wd_X9 a cyI cyJ ov9_refusals v7_rows v7_lengths v7_sizes v7_rests v7_orders v6_hooks v6_lefts v6_heights v1_table ov5_known v8_sizes v8_coefficients v8_undoneSums v8_undos v8_nextUndo v8_imageTaken v0_totals v3_letters v3_count v3_next v3_size v4_values v4_lengths) ro := by
  refine xm_of_i (own := RX9) (by decide) rfl rfl (Nat.le_of_ble_eq_true rfl) ?_
  intro p e s m args below meth c ls Q A hQ hAe hin Cx hsz hP hD hS hl
  have Cx1 := Cx
  obtain ⟨⟨hx, hb, hml, hown, hts⟩, hr, hlocks, hK, hA, hT⟩ := Cx1
  have hl : lv_has ls 3 [(0, .ref (a 0)), (1, .int x1), (2, .int x2)] := hl
  obtain ⟨H, eH⟩ : ∃ H, H = s.heap := ⟨_, rfl⟩
  obtain ⟨locs, eL⟩ : ∃ L : List Loc, L = [] := ⟨_, rfl⟩
  rw [← eH] at hP
  have hS : va_S A s.heap H locs := by rw [eH, eL]; exact hS
  suffices hgo : W p l e { frames := 6, cells := 0, slots := 0, locals := 147 } s m args below meth c H locs 0 0 Q (F0 m 0 ls []) by rw [eH, eL] at hgo; exact hgo
  clear eH eL
  unfold f_X9_greatest at hf
  have w_22 : ∀ (v9_refusals : Nat → Int32) (v5_known : Nat → Int32) (H : Heap) (locs : List Loc) (ls : Array Slot), (f_X9_greatest_22 v7_sizes v7_orders v1_table) v9_refusals v5_known = some (ro, ov9_refusals, ov5_known) → va_P D xcl (wd_X9 a cyI cyJ v9_refusals v7_rows v7_lengths v7_sizes v7_rests v7_orders v6_hooks v6_lefts v6_heights v1_table v5_known v8_sizes v8_coefficients v8_undoneSums v8_undos v8_nextUndo v8_imageTaken v0_totals v3_letters v3_count v3_next v3_size v4_values v4_lengths) H → va_D A (wd_X9 a cyI cyJ v9_refusals v7_rows v7_lengths v7_sizes v7_rests v7_orders v6_hooks v6_lefts v6_heights v1_table v5_known v8_sizes v8_coefficients v8_undoneSums v8_undos v8_nextUndo v8_imageTaken v0_totals v3_letters v3_count v3_next v3_size v4_values v4_lengths) → va_S A s.heap H locs → lv_has ls 3 [(0, .ref (a 0))] → W p l e { frames := 6, cells := 0, slots := 0, locals := 147 } s m args below meth c H locs 0 0 Q (F0 m 22 ls []) := by
    intro v9_refusals v5_known H locs ls hf hP hD hS hl
    unfold f_X9_greatest_22 at hf
    refine lv_aload_n hx hb dX9_greatest_22 rfl (lv_at hl 0 rfl) ?_
    refine lv_iconst (v := (-1 : Int32)) hx hb dX9_greatest_23 (by decide) ?_
    obtain ⟨r_22, v9_refusals_23, hk_24, hf⟩ := pe_2 hf
    refine xv_i (As := [.int (-1 : Int32)]) (rest := []) (q0 := 0) (ci := 9) Cx hP hD hS hl (pl_X9_X9 a cyI cyJ v9_refusals v7_rows v7_lengths v7_sizes v7_rests v7_orders v6_hooks v6_lefts v6_heights v1_table v5_known v8_sizes v8_coefficients v8_undoneSums v8_undos v8_nextUndo v8_imageTaken v0_totals v3_letters v3_count v3_next v3_size v4_values v4_lengths v9_refusals_23 v7_rows v7_lengths v7_sizes v7_rests v7_orders v6_hooks v6_lefts v6_heights v1_table v5_known v8_sizes v8_coefficients v8_undoneSums v8_undos v8_nextUndo v8_imageTaken v0_totals v3_letters v3_count v3_next v3_size v4_values v4_lengths) (c_X9_refuse l D cyI cyJ G a H.size v9_refusals v7_rows v7_lengths v7_sizes v7_rests v7_orders v6_hooks v6_lefts v6_heights v1_table v5_known v8_sizes v8_coefficients v8_undoneSums v8_undos v8_nextUndo v8_imageTaken v0_totals v3_letters v3_count v3_next v3_size v4_values v4_lengths (-1 : Int32) r_22 v9_refusals_23 hk_24) pk_X9_refuse mw_2_103 ⟨rfl, rfl, Nat.le_of_ble_eq_true rfl, Nat.le_of_ble_eq_true rfl⟩ rfl rfl rfl rfl rfl (Nat.le_of_ble_eq_true rfl) ⟨Nat.le_of_ble_eq_true rfl, Nat.le_of_ble_eq_true rfl⟩ dX9_greatest_24 (fun H locs hP hD hS => ?_)
    obtain ⟨rfl, rfl, rfl⟩ := po_3 hf
    rw [← hQ]; exact xe_iret Cx rfl hP hD hS dX9_greatest_27
  refine lv_aload_n hx hb dX9_greatest_0 rfl (lv_at hl 0 rfl) ?_
  refine va_get (ci := 9) (v := .ref (a 2)) hx hb hts wX9_in hown hK hP 0 rfl rfl 0 (by decide) (hts _ mw_2_67) (fun _ h9 => h9) rfl dX9_greatest_1 ?_
  refine lv_iload_n hx hb dX9_greatest_4 rfl (lv_at hl 1 rfl) ?_
  obtain ⟨r_25, hk_26, hf⟩ := pe_1 hf
  refine xv_z (As := [.int x1]) (rest := []) (q0 := 0) (ci := 7) Cx hP hD hS hl (pl_X9_X7 a cyI cyJ v9_refusals v7_rows v7_lengths v7_sizes v7_rests v7_orders v6_hooks v6_lefts v6_heights v1_table v5_known v8_sizes v8_coefficients v8_undoneSums v8_undos v8_nextUndo v8_imageTaken v0_totals v3_letters v3_count v3_next v3_size v4_values v4_lengths v7_rows v7_lengths v7_sizes v7_rests v7_orders) (c_X7_has l D cyI cyJ G a H.size v7_rows v7_lengths v7_sizes v7_rests v7_orders x1 r_25 hk_26) pk_X7_has mw_2_102 ⟨rfl, rfl, Nat.le_of_ble_eq_true rfl, Nat.le_of_ble_eq_true rfl⟩ rfl rfl rfl rfl rfl (Nat.le_of_ble_eq_true rfl) ⟨Nat.le_of_ble_eq_true rfl, Nat.le_of_ble_eq_true rfl⟩ dX9_greatest_5 (fun H locs hn_27 hP hD hS => ?_)
  refine lv_if_eq (tgt := 22) hx hb dX9_greatest_8 (by decide) (fun hc_28 => ?_) (fun hc_28 => ?_)
  · have hf := pe_t hf hc_28
    exact w_22 v9_refusals v5_known H locs ls hf hP hD hS (lv_sub hl [0] rfl)
  · have hf := pe_f hf hc_28
    refine lv_aload_n hx hb dX9_greatest_11 rfl (lv_at hl 0 rfl) ?_
    refine va_get (ci := 9) (v := .ref (a 2)) hx hb hts wX9_in hown hK hP 0 rfl rfl 0 (by decide) (hts _ mw_2_67) (fun _ h9 => h9) rfl dX9_greatest_12 ?_
    refine lv_iload_n hx hb dX9_greatest_15 rfl (lv_at hl 2 rfl) ?_
    obtain ⟨r_29, hk_30, hf⟩ := pe_1 hf
    refine xv_z (As := [.int x2]) (rest := []) (q0 := 0) (ci := 7) Cx hP hD hS hl (pl_X9_X7 a cyI cyJ v9_refusals v7_rows v7_lengths v7_sizes v7_rests v7_orders v6_hooks v6_lefts v6_heights v1_table v5_known v8_sizes v8_coefficients v8_undoneSums v8_undos v8_nextUndo v8_imageTaken v0_totals v3_letters v3_count v3_next v3_size v4_values v4_lengths v7_rows v7_lengths v7_sizes v7_rests v7_orders) (c_X7_has l D cyI cyJ G a H.size v7_rows v7_lengths v7_sizes v7_rests v7_orders x2 r_29 hk_30) pk_X7_has mw_2_102 ⟨rfl, rfl, Nat.le_of_ble_eq_true rfl, Nat.le_of_ble_eq_true rfl⟩ rfl rfl rfl rfl rfl (Nat.le_of_ble_eq_true rfl) ⟨Nat.le_of_ble_eq_true rfl, Nat.le_of_ble_eq_true rfl⟩ dX9_greatest_16 (fun H locs hn_31 hP hD hS => ?_)
    refine lv_if_ne (tgt := 28) hx hb dX9_greatest_19 (by decide) (fun hc_32 => ?_) (fun hc_32 => ?_)
    · have hf := pe_f hf hc_32
      refine lv_aload_n hx hb dX9_greatest_28 rfl (lv_at hl 0 rfl) ?_
      refine va_get (ci := 9) (v := .ref (a 2)) hx hb hts wX9_in hown hK hP 0 rfl rfl 0 (by decide) (hts _ mw_2_67) (fun _ h9 => h9) rfl dX9_greatest_29 ?_
      refine lv_iload_n hx hb dX9_greatest_32 rfl (lv_at hl 1 rfl) ?_
      refine lv_iload_n hx hb dX9_greatest_33 rfl (lv_at hl 2 rfl) ?_
      obtain ⟨r_33, hk_34, hf⟩ := pe_1 hf
      refine xv_z (As := [.int x1, .int x2]) (rest := []) (q0 := 0) (ci := 7) Cx hP hD hS hl (pl_X9_X7 a cyI cyJ v9_refusals v7_rows v7_lengths v7_sizes v7_rests v7_orders v6_hooks v6_lefts v6_heights v1_table v5_known v8_sizes v8_coefficients v8_undoneSums v8_undos v8_nextUndo v8_imageTaken v0_totals v3_letters v3_count v3_next v3_size v4_values v4_lengths v7_rows v7_lengths v7_sizes v7_rests v7_orders) (c_X7_alike l D cyI cyJ G a H.size v7_rows v7_lengths v7_sizes v7_rests v7_orders x1 x2 r_33 hk_34) pk_X7_alike mw_2_214 ⟨rfl, rfl, Nat.le_of_ble_eq_true rfl, Nat.le_of_ble_eq_true rfl⟩ rfl rfl rfl rfl rfl (Nat.le_of_ble_eq_true rfl) ⟨Nat.le_of_ble_eq_true rfl, Nat.le_of_ble_eq_true rfl⟩ dX9_greatest_34 (fun H locs hn_35 hP hD hS => ?_)
      refine lv_if_ne (tgt := 47) hx hb dX9_greatest_37 (by decide) (fun hc_36 => ?_) (fun hc_36 => ?_)
      · have hf := pe_f hf hc_36
        refine lv_aload_n hx hb dX9_greatest_47 rfl (lv_at hl 0 rfl) ?_
        refine va_get (ci := 9) (v := .ref (a 15)) hx hb hts wX9_in hown hK hP 0 rfl rfl 4 (by decide) (hts _ mw_2_71) (fun _ h9 => h9) rfl dX9_greatest_48 ?_
        refine lv_iload_n hx hb dX9_greatest_51 rfl (lv_at hl 1 rfl) ?_
        refine lv_iload_n hx hb dX9_greatest_52 rfl (lv_at hl 2 rfl) ?_
        obtain ⟨r_37, v5_known_38, hk_39, hf⟩ := pe_2 hf
        refine xv_i (As := [.int x1, .int x2]) (rest := []) (q0 := 0) (ci := 5) Cx hP hD hS hl (pl_X9_X5 a cyI cyJ v9_refusals v7_rows v7_lengths v7_sizes v7_rests v7_orders v6_hooks v6_lefts v6_heights v1_table v5_known v8_sizes v8_coefficients v8_undoneSums v8_undos v8_nextUndo v8_imageTaken v0_totals v3_letters v3_count v3_next v3_size v4_values v4_lengths v5_known_38 v1_table v7_rows v7_lengths v7_sizes v7_rests v7_orders) (c_X5_greatestInProduct l D cyI cyJ G a H.size v5_known v1_table v7_rows v7_lengths v7_sizes v7_rests v7_orders x1 x2 r_37 v5_known_38 hk_39) pk_X5_greatestInProduct mw_3_57 ⟨rfl, rfl, Nat.le_of_ble_eq_true rfl, Nat.le_of_ble_eq_true rfl⟩ rfl rfl rfl rfl rfl (Nat.le_of_ble_eq_true rfl) ⟨Nat.le_of_ble_eq_true rfl, Nat.le_of_ble_eq_true rfl⟩ dX9_greatest_53 (fun H locs hP hD hS => ?_)
        obtain ⟨rfl, rfl, rfl⟩ := po_3 hf
        rw [← hQ]; exact xe_iret Cx rfl hP hD hS dX9_greatest_56
      · have hf := pe_t hf hc_36
        refine lv_aload_n hx hb dX9_greatest_40 rfl (lv_at hl 0 rfl) ?_
        refine lv_bipush (v := (-3 : Int32)) hx hb dX9_greatest_41 (by decide) ?_
        obtain ⟨r_40, v9_refusals_41, hk_42, hf⟩ := pe_2 hf
        refine xv_i (As := [.int (-3 : Int32)]) (rest := []) (q0 := 0) (ci := 9) Cx hP hD hS hl (pl_X9_X9 a cyI cyJ v9_refusals v7_rows v7_lengths v7_sizes v7_rests v7_orders v6_hooks v6_lefts v6_heights v1_table v5_known v8_sizes v8_coefficients v8_undoneSums v8_undos v8_nextUndo v8_imageTaken v0_totals v3_letters v3_count v3_next v3_size v4_values v4_lengths v9_refusals_41 v7_rows v7_lengths v7_sizes v7_rests v7_orders v6_hooks v6_lefts v6_heights v1_table v5_known v8_sizes v8_coefficients v8_undoneSums v8_undos v8_nextUndo v8_imageTaken v0_totals v3_letters v3_count v3_next v3_size v4_values v4_lengths) (c_X9_refuse l D cyI cyJ G a H.size v9_refusals v7_rows v7_lengths v7_sizes v7_rests v7_orders v6_hooks v6_lefts v6_heights v1_table v5_known v8_sizes v8_coefficients v8_undoneSums v8_undos v8_nextUndo v8_imageTaken v0_totals v3_letters v3_count v3_next v3_size v4_values v4_lengths (-3 : Int32) r_40 v9_refusals_41 hk_42) pk_X9_refuse mw_2_103 ⟨rfl, rfl, Nat.le_of_ble_eq_true rfl, Nat.le_of_ble_eq_true rfl⟩ rfl rfl rfl rfl rfl (Nat.le_of_ble_eq_true rfl) ⟨Nat.le_of_ble_eq_true rfl, Nat.le_of_ble_eq_true rfl⟩ dX9_greatest_43 (fun H locs hP hD hS => ?_)
        obtain ⟨rfl, rfl, rfl⟩ := po_3 hf
        rw [← hQ]; exact xe_iret Cx rfl hP hD hS dX9_greatest_46
    · have hf := pe_t hf hc_32
      exact w_22 v9_refusals v5_known H locs ls hf hP hD hS (lv_sub hl [0] rfl)
