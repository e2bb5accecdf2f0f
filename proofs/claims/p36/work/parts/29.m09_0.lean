def f_X9_refuse (v9_refusals : Nat → Int32) (x1 : Int32) : Option (Int32 × (Nat → Int32)) := if (-x1) < (1 : Int32) then (some (x1, v9_refusals)) else (if (6 : Int32) < (-x1) then (some (x1, v9_refusals)) else (p_in (-x1) 7 (p_in (-x1) 7 (some (x1, (upd v9_refusals (Int32.toNatClampNeg (-x1)) ((v9_refusals (Int32.toNatClampNeg (-x1))) + (1 : Int32))))))))
set_option maxHeartbeats 4000000 in
set_option maxRecDepth 20000 in
theorem c_X9_refuse (l : Launch) (D : va_G) (cyI cyJ : ClassId) (G a : Nat → Nat) (sz : Nat) (v9_refusals : Nat → Int32) (v7_rows : Nat → Int32) (v7_lengths : Nat → Int32) (v7_sizes : Nat → Int32) (v7_rests : Nat → Int32) (v7_orders : Nat → Int32) (v6_hooks : Nat → Int32) (v6_lefts : Nat → Int32) (v6_heights : Nat → Int32) (v1_table : Nat → Int32) (v5_known : Nat → Int32) (v8_sizes : Nat → Int32) (v8_coefficients : Nat → Int32) (v8_undoneSums : Nat → Int32) (v8_undos : Int32) (v8_nextUndo : Int32) (v8_imageTaken : Int32) (v0_totals : Nat → Int64) (v3_letters : Nat → Int32) (v3_count : Int32) (v3_next : Int32) (v3_size : Int32) (v4_values : Nat → Int32) (v4_lengths : Nat → Int32) (x1 : Int32) (ro : Int32) (ov9_refusals : Nat → Int32) (hf : f_X9_refuse v9_refusals x1 = some (ro, ov9_refusals)) : xm_i l yX9_refuse (Cond.code yX9_refuse cX9_refuse 3 (some .int) :: xg_tbl) { frames := 0, cells := 0, slots := 0, locals := 0 } D xcl [(cyI, .int), (cyJ, .long)] G sz [.ref (a 0), .int x1] (wd_X9 a cyI cyJ v9_refusals v7_rows v7_lengths v7_sizes v7_rests v7_orders v6_hooks v6_lefts v6_heights v1_table v5_known v8_sizes v8_coefficients v8_undoneSums v8_undos v8_nextUndo v8_imageTaken v0_totals v3_letters v3_count v3_next v3_size v4_values v4_lengths) (wd_X9 a cyI cyJ ov9_refusals v7_rows v7_lengths v7_sizes v7_rests v7_orders v6_hooks v6_lefts v6_heights v1_table v5_known v8_sizes v8_coefficients v8_undoneSums v8_undos v8_nextUndo v8_imageTaken v0_totals v3_letters v3_count v3_next v3_size v4_values v4_lengths) ro := by
  refine xm_of_i (own := RX9) (by decide) rfl rfl (Nat.le_of_ble_eq_true rfl) ?_
  intro p e s m args below meth c ls Q A hQ hAe hin Cx hsz hP hD hS hl
  have Cx1 := Cx
  obtain ⟨⟨hx, hb, hml, hown, hts⟩, hr, hlocks, hK, hA, hT⟩ := Cx1
  have hl : lv_has ls 3 [(0, .ref (a 0)), (1, .int x1)] := hl
  obtain ⟨H, eH⟩ : ∃ H, H = s.heap := ⟨_, rfl⟩
  obtain ⟨locs, eL⟩ : ∃ L : List Loc, L = [] := ⟨_, rfl⟩
  rw [← eH] at hP
  have hS : va_S A s.heap H locs := by rw [eH, eL]; exact hS
  suffices hgo : W p l e { frames := 0, cells := 0, slots := 0, locals := 0 } s m args below meth c H locs 0 0 Q (F0 m 0 ls []) by rw [eH, eL] at hgo; exact hgo
  clear eH eL
  unfold f_X9_refuse at hf
  refine lv_iload_n hx hb dX9_refuse_0 rfl (lv_at hl 1 rfl) ?_
  refine lv_ineg hx hb dX9_refuse_1 ?_
  refine lv_istore_n (lv' := [(2, .int (-x1)), (0, .ref (a 0)), (1, .int x1)]) hx hb dX9_refuse_2 rfl hl (by decide) rfl (fun ls hl => ?_)
  refine lv_iload_n hx hb dX9_refuse_3 rfl (lv_at hl 0 rfl) ?_
  refine lv_iconst (v := (1 : Int32)) hx hb dX9_refuse_4 (by decide) ?_
  refine lv_icmp_lt (tgt := 24) hx hb dX9_refuse_5 (by decide) (fun hc_5 => ?_) (fun hc_5 => ?_)
  · have hf := pe_t hf hc_5
    refine lv_iload_n hx hb dX9_refuse_24 rfl (lv_at hl 2 rfl) ?_
    obtain ⟨rfl, rfl⟩ := po_2 hf
    rw [← hQ]; exact xe_iret Cx rfl hP hD hS dX9_refuse_25
  · have hf := pe_f hf hc_5
    refine lv_iload_n hx hb dX9_refuse_8 rfl (lv_at hl 0 rfl) ?_
    refine lv_bipush (v := (6 : Int32)) hx hb dX9_refuse_9 (by decide) ?_
    refine lv_icmp_gt (tgt := 24) hx hb dX9_refuse_11 (by decide) (fun hc_6 => ?_) (fun hc_6 => ?_)
    · have hf := pe_t hf hc_6
      refine lv_iload_n hx hb dX9_refuse_24 rfl (lv_at hl 2 rfl) ?_
      obtain ⟨rfl, rfl⟩ := po_2 hf
      rw [← hQ]; exact xe_iret Cx rfl hP hD hS dX9_refuse_25
    · have hf := pe_f hf hc_6
      refine lv_aload_n hx hb dX9_refuse_14 rfl (lv_at hl 1 rfl) ?_
      refine va_get (ci := 9) (v := .ref (a 1)) hx hb hts wX9_in hown hK hP 0 rfl rfl 9 (by decide) (hts _ mw_2_83) (fun _ h9 => h9) rfl dX9_refuse_15 ?_
      refine lv_iload_n hx hb dX9_refuse_18 rfl (lv_at hl 0 rfl) ?_
      refine lv_dup2_11 hx hb dX9_refuse_19 rfl rfl ?_
      obtain ⟨hi_7, hf⟩ := pe_in hf
      refine va_iald hx hb hK hP 1 0 rfl rfl hi_7 dX9_refuse_20 ?_
      refine lv_iconst (v := (1 : Int32)) hx hb dX9_refuse_21 (by decide) ?_
      refine lv_iadd hx hb dX9_refuse_22 ?_
      obtain ⟨hi_8, hf⟩ := pe_in hf
      refine va_iast hx hb hK hP hD hS 1 0 rfl rfl hi_8 dX9_refuse_23 (fun H locs hP hD hS => ?_)
      have hP : va_P D xcl (wd_X9 a cyI cyJ (upd v9_refusals (Int32.toNatClampNeg (-x1)) ((v9_refusals (Int32.toNatClampNeg (-x1))) + (1 : Int32))) v7_rows v7_lengths v7_sizes v7_rests v7_orders v6_hooks v6_lefts v6_heights v1_table v5_known v8_sizes v8_coefficients v8_undoneSums v8_undos v8_nextUndo v8_imageTaken v0_totals v3_letters v3_count v3_next v3_size v4_values v4_lengths) H := hP
      have hD : va_D A (wd_X9 a cyI cyJ (upd v9_refusals (Int32.toNatClampNeg (-x1)) ((v9_refusals (Int32.toNatClampNeg (-x1))) + (1 : Int32))) v7_rows v7_lengths v7_sizes v7_rests v7_orders v6_hooks v6_lefts v6_heights v1_table v5_known v8_sizes v8_coefficients v8_undoneSums v8_undos v8_nextUndo v8_imageTaken v0_totals v3_letters v3_count v3_next v3_size v4_values v4_lengths) := hD
      refine lv_iload_n hx hb dX9_refuse_24 rfl (lv_at hl 2 rfl) ?_
      obtain ⟨rfl, rfl⟩ := po_2 hf
      rw [← hQ]; exact xe_iret Cx rfl hP hD hS dX9_refuse_25
def f_X9_of_42 (v7_rows : Nat → Int32) (v7_lengths : Nat → Int32) (v7_sizes : Nat → Int32) (v7_orders : Nat → Int32) (v6_hooks : Nat → Int32) (v9_refusals : Nat → Int32) (y1 : Int32) (y2 : Int32) : Option (Int32 × (Nat → Int32)) := if y2 = (0 : Int32) then (p_b1 (f_X7_sizeOf v7_sizes y1) (fun r_2 => some (r_2, v9_refusals))) else (if y2 = (1 : Int32) then (p_b1 (f_X7_lengthOf v7_lengths y1) (fun r_5 => some (r_5, v9_refusals))) else (if y2 = (2 : Int32) then (p_b1 (f_X7_turnedOf v7_rows v7_sizes y1) (fun r_8 => some (r_8, v9_refusals))) else (if y2 = (3 : Int32) then (p_b1 (f_X6_dimensionOf v7_sizes v6_hooks y1) (fun r_11 => some (r_11, v9_refusals))) else (if y2 = (4 : Int32) then (p_b1 (f_X7_ordersOf v7_orders y1) (fun r_14 => some (r_14, v9_refusals))) else (if y2 = (5 : Int32) then (p_b1 (f_X2_bitsOf v7_rows v7_lengths v7_sizes y1) (fun r_17 => some (r_17, v9_refusals))) else (p_b2 (f_X9_refuse v9_refusals (-2 : Int32)) (fun r_19 v9_refusals_20 => some (r_19, v9_refusals_20))))))))
def f_X9_of (v9_refusals : Nat → Int32) (v7_rows : Nat → Int32) (v7_lengths : Nat → Int32) (v7_sizes : Nat → Int32) (v7_orders : Nat → Int32) (v6_hooks : Nat → Int32) (x1 : Int32) (x2 : Int32) : Option (Int32 × (Nat → Int32)) := p_b1 (f_X7_has x1) (fun r_22 => if r_22 = 0 then (p_b2 (f_X9_refuse v9_refusals (-1 : Int32)) (fun r_30 v9_refusals_31 => some (r_30, v9_refusals_31))) else (if x2 < (10 : Int32) then ((f_X9_of_42 v7_rows v7_lengths v7_sizes v7_orders v6_hooks) v9_refusals x1 x2) else (if (18 : Int32) ≤ x2 then ((f_X9_of_42 v7_rows v7_lengths v7_sizes v7_orders v6_hooks) v9_refusals x1 x2) else (p_b1 (f_X7_row v7_rows x1 (x2 - (10 : Int32))) (fun r_28 => some (r_28, v9_refusals))))))
set_option maxHeartbeats 4000000 in
set_option maxRecDepth 20000 in
theorem c_X9_of (l : Launch) (D : va_G) (cyI cyJ : ClassId) (G a : Nat → Nat) (sz : Nat) (v9_refusals : Nat → Int32) (v7_rows : Nat → Int32) (v7_lengths : Nat → Int32) (v7_sizes : Nat → Int32) (v7_rests : Nat → Int32) (v7_orders : Nat → Int32) (v6_hooks : Nat → Int32) (v6_lefts : Nat → Int32) (v6_heights : Nat → Int32) (v1_table : Nat → Int32) (v5_known : Nat → Int32) (v8_sizes : Nat → Int32) (v8_coefficients : Nat → Int32) (v8_undoneSums : Nat → Int32) (v8_undos : Int32) (v8_nextUndo : Int32) (v8_imageTaken : Int32) (v0_totals : Nat → Int64) (v3_letters : Nat → Int32) (v3_count : Int32) (v3_next : Int32) (v3_size : Int32) (v4_values : Nat → Int32) (v4_lengths : Nat → Int32) (x1 : Int32) (x2 : Int32) (ro : Int32) (ov9_refusals : Nat → Int32) (hf : f_X9_of v9_refusals v7_rows v7_lengths v7_sizes v7_orders v6_hooks x1 x2 = some (ro, ov9_refusals)) : xm_i l yX9_of (Cond.code yX9_of cX9_of 3 (some .int) :: xg_tbl) { frames := 6, cells := 0, slots := 0, locals := 136 } D xcl [(cyI, .int), (cyJ, .long)] G sz [.ref (a 0), .int x1, .int x2] (wd_X9 a cyI cyJ v9_refusals v7_rows v7_lengths v7_sizes v7_rests v7_orders v6_hooks v6_lefts v6_heights v1_table v5_known v8_sizes v8_coefficients v8_undoneSums v8_undos v8_nextUndo v8_imageTaken v0_totals v3_letters v3_count v3_next v3_size v4_values v4_lengths) (wd_X9 a cyI cyJ ov9_refusals v7_rows v7_lengths v7_sizes v7_rests v7_orders v6_hooks v6_lefts v6_heights v1_table v5_known v8_sizes v8_coefficients v8_undoneSums v8_undos v8_nextUndo v8_imageTaken v0_totals v3_letters v3_count v3_next v3_size v4_values v4_lengths) ro := by
  refine xm_of_i (own := RX9) (by decide) rfl rfl (Nat.le_of_ble_eq_true rfl) ?_
  intro p e s m args below meth c ls Q A hQ hAe hin Cx hsz hP hD hS hl
  have Cx1 := Cx
  obtain ⟨⟨hx, hb, hml, hown, hts⟩, hr, hlocks, hK, hA, hT⟩ := Cx1
  have hl : lv_has ls 3 [(0, .ref (a 0)), (1, .int x1), (2, .int x2)] := hl
  obtain ⟨H, eH⟩ : ∃ H, H = s.heap := ⟨_, rfl⟩
  obtain ⟨locs, eL⟩ : ∃ L : List Loc, L = [] := ⟨_, rfl⟩
  rw [← eH] at hP
  have hS : va_S A s.heap H locs := by rw [eH, eL]; exact hS
  suffices hgo : W p l e { frames := 6, cells := 0, slots := 0, locals := 136 } s m args below meth c H locs 0 0 Q (F0 m 0 ls []) by rw [eH, eL] at hgo; exact hgo
  clear eH eL
  unfold f_X9_of at hf
  have w_42 : ∀ (v9_refusals : Nat → Int32) (y1 : Int32) (y2 : Int32) (H : Heap) (locs : List Loc) (ls : Array Slot), (f_X9_of_42 v7_rows v7_lengths v7_sizes v7_orders v6_hooks) v9_refusals y1 y2 = some (ro, ov9_refusals) → va_P D xcl (wd_X9 a cyI cyJ v9_refusals v7_rows v7_lengths v7_sizes v7_rests v7_orders v6_hooks v6_lefts v6_heights v1_table v5_known v8_sizes v8_coefficients v8_undoneSums v8_undos v8_nextUndo v8_imageTaken v0_totals v3_letters v3_count v3_next v3_size v4_values v4_lengths) H → va_D A (wd_X9 a cyI cyJ v9_refusals v7_rows v7_lengths v7_sizes v7_rests v7_orders v6_hooks v6_lefts v6_heights v1_table v5_known v8_sizes v8_coefficients v8_undoneSums v8_undos v8_nextUndo v8_imageTaken v0_totals v3_letters v3_count v3_next v3_size v4_values v4_lengths) → va_S A s.heap H locs → lv_has ls 3 [(0, .ref (a 0)), (1, .int y1), (2, .int y2)] → W p l e { frames := 6, cells := 0, slots := 0, locals := 136 } s m args below meth c H locs 0 0 Q (F0 m 42 ls []) := by
    intro v9_refusals y1 y2 H locs ls hf hP hD hS hl
    unfold f_X9_of_42 at hf
    refine lv_iload_n hx hb dX9_of_42 rfl (lv_at hl 2 rfl) ?_
    by_cases hc_33 : y2 = (0 : Int32)
    · have hf := pe_t hf hc_33
      refine lv_tableIn (tgt := 80) hx hb dX9_of_43 (by rw [hc_33]; decide) (by rw [hc_33]; decide) (by rw [hc_33]; rfl) (by decide) ?_
      refine lv_aload_n hx hb dX9_of_80 rfl (lv_at hl 0 rfl) ?_
      refine va_get (ci := 9) (v := .ref (a 2)) hx hb hts wX9_in hown hK hP 0 rfl rfl 0 (by decide) (hts _ mw_2_74) (fun _ h9 => h9) rfl dX9_of_81 ?_
      refine lv_iload_n hx hb dX9_of_84 rfl (lv_at hl 1 rfl) ?_
      obtain ⟨r_34, hk_35, hf⟩ := pe_1 hf
      refine xv_i (As := [.int y1]) (rest := []) (q0 := 0) (ci := 7) Cx hP hD hS hl (pl_X9_X7 a cyI cyJ v9_refusals v7_rows v7_lengths v7_sizes v7_rests v7_orders v6_hooks v6_lefts v6_heights v1_table v5_known v8_sizes v8_coefficients v8_undoneSums v8_undos v8_nextUndo v8_imageTaken v0_totals v3_letters v3_count v3_next v3_size v4_values v4_lengths v7_rows v7_lengths v7_sizes v7_rests v7_orders) (c_X7_sizeOf l D cyI cyJ G a H.size v7_rows v7_lengths v7_sizes v7_rests v7_orders y1 r_34 hk_35) pk_X7_sizeOf mw_2_115 ⟨rfl, rfl, Nat.le_of_ble_eq_true rfl, Nat.le_of_ble_eq_true rfl⟩ rfl rfl rfl rfl rfl (Nat.le_of_ble_eq_true rfl) ⟨Nat.le_of_ble_eq_true rfl, Nat.le_of_ble_eq_true rfl⟩ dX9_of_85 (fun H locs hP hD hS => ?_)
      obtain ⟨rfl, rfl⟩ := po_2 hf
      rw [← hQ]; exact xe_iret Cx rfl hP hD hS dX9_of_88
    · have hf := pe_f hf hc_33
      by_cases hc_36 : y2 = (1 : Int32)
      · have hf := pe_t hf hc_36
        refine lv_tableIn (tgt := 89) hx hb dX9_of_43 (by rw [hc_36]; decide) (by rw [hc_36]; decide) (by rw [hc_36]; rfl) (by decide) ?_
        refine lv_aload_n hx hb dX9_of_89 rfl (lv_at hl 0 rfl) ?_
        refine va_get (ci := 9) (v := .ref (a 2)) hx hb hts wX9_in hown hK hP 0 rfl rfl 0 (by decide) (hts _ mw_2_74) (fun _ h9 => h9) rfl dX9_of_90 ?_
        refine lv_iload_n hx hb dX9_of_93 rfl (lv_at hl 1 rfl) ?_
        obtain ⟨r_37, hk_38, hf⟩ := pe_1 hf
        refine xv_i (As := [.int y1]) (rest := []) (q0 := 0) (ci := 7) Cx hP hD hS hl (pl_X9_X7 a cyI cyJ v9_refusals v7_rows v7_lengths v7_sizes v7_rests v7_orders v6_hooks v6_lefts v6_heights v1_table v5_known v8_sizes v8_coefficients v8_undoneSums v8_undos v8_nextUndo v8_imageTaken v0_totals v3_letters v3_count v3_next v3_size v4_values v4_lengths v7_rows v7_lengths v7_sizes v7_rests v7_orders) (c_X7_lengthOf l D cyI cyJ G a H.size v7_rows v7_lengths v7_sizes v7_rests v7_orders y1 r_37 hk_38) pk_X7_lengthOf mw_2_116 ⟨rfl, rfl, Nat.le_of_ble_eq_true rfl, Nat.le_of_ble_eq_true rfl⟩ rfl rfl rfl rfl rfl (Nat.le_of_ble_eq_true rfl) ⟨Nat.le_of_ble_eq_true rfl, Nat.le_of_ble_eq_true rfl⟩ dX9_of_94 (fun H locs hP hD hS => ?_)
        obtain ⟨rfl, rfl⟩ := po_2 hf
        rw [← hQ]; exact xe_iret Cx rfl hP hD hS dX9_of_97
      · have hf := pe_f hf hc_36
        by_cases hc_39 : y2 = (2 : Int32)
        · have hf := pe_t hf hc_39
          refine lv_tableIn (tgt := 98) hx hb dX9_of_43 (by rw [hc_39]; decide) (by rw [hc_39]; decide) (by rw [hc_39]; rfl) (by decide) ?_
          refine lv_aload_n hx hb dX9_of_98 rfl (lv_at hl 0 rfl) ?_
          refine va_get (ci := 9) (v := .ref (a 2)) hx hb hts wX9_in hown hK hP 0 rfl rfl 0 (by decide) (hts _ mw_2_74) (fun _ h9 => h9) rfl dX9_of_99 ?_
          refine lv_iload_n hx hb dX9_of_102 rfl (lv_at hl 1 rfl) ?_
          obtain ⟨r_40, hk_41, hf⟩ := pe_1 hf
          refine xv_i (As := [.int y1]) (rest := []) (q0 := 0) (ci := 7) Cx hP hD hS hl (pl_X9_X7 a cyI cyJ v9_refusals v7_rows v7_lengths v7_sizes v7_rests v7_orders v6_hooks v6_lefts v6_heights v1_table v5_known v8_sizes v8_coefficients v8_undoneSums v8_undos v8_nextUndo v8_imageTaken v0_totals v3_letters v3_count v3_next v3_size v4_values v4_lengths v7_rows v7_lengths v7_sizes v7_rests v7_orders) (c_X7_turnedOf l D cyI cyJ G a H.size v7_rows v7_lengths v7_sizes v7_rests v7_orders y1 r_40 hk_41) pk_X7_turnedOf mw_2_117 ⟨rfl, rfl, Nat.le_of_ble_eq_true rfl, Nat.le_of_ble_eq_true rfl⟩ rfl rfl rfl rfl rfl (Nat.le_of_ble_eq_true rfl) ⟨Nat.le_of_ble_eq_true rfl, Nat.le_of_ble_eq_true rfl⟩ dX9_of_103 (fun H locs hP hD hS => ?_)
          obtain ⟨rfl, rfl⟩ := po_2 hf
          rw [← hQ]; exact xe_iret Cx rfl hP hD hS dX9_of_106
        · have hf := pe_f hf hc_39
          by_cases hc_42 : y2 = (3 : Int32)
          · have hf := pe_t hf hc_42
            refine lv_tableIn (tgt := 107) hx hb dX9_of_43 (by rw [hc_42]; decide) (by rw [hc_42]; decide) (by rw [hc_42]; rfl) (by decide) ?_
            refine lv_aload_n hx hb dX9_of_107 rfl (lv_at hl 0 rfl) ?_
            refine va_get (ci := 9) (v := .ref (a 8)) hx hb hts wX9_in hown hK hP 0 rfl rfl 1 (by decide) (hts _ mw_2_75) (fun _ h9 => h9) rfl dX9_of_108 ?_
            refine lv_iload_n hx hb dX9_of_111 rfl (lv_at hl 1 rfl) ?_
            obtain ⟨r_43, hk_44, hf⟩ := pe_1 hf
            refine xv_i (As := [.int y1]) (rest := []) (q0 := 0) (ci := 6) Cx hP hD hS hl (pl_X9_X6 a cyI cyJ v9_refusals v7_rows v7_lengths v7_sizes v7_rests v7_orders v6_hooks v6_lefts v6_heights v1_table v5_known v8_sizes v8_coefficients v8_undoneSums v8_undos v8_nextUndo v8_imageTaken v0_totals v3_letters v3_count v3_next v3_size v4_values v4_lengths v6_hooks v6_lefts v6_heights v7_rows v7_lengths v7_sizes v7_rests v7_orders) (c_X6_dimensionOf l D cyI cyJ G a H.size v6_hooks v6_lefts v6_heights v7_rows v7_lengths v7_sizes v7_rests v7_orders y1 r_43 hk_44) pk_X6_dimensionOf mw_2_121 ⟨rfl, rfl, Nat.le_of_ble_eq_true rfl, Nat.le_of_ble_eq_true rfl⟩ rfl rfl rfl rfl rfl (Nat.le_of_ble_eq_true rfl) ⟨Nat.le_of_ble_eq_true rfl, Nat.le_of_ble_eq_true rfl⟩ dX9_of_112 (fun H locs hP hD hS => ?_)
            obtain ⟨rfl, rfl⟩ := po_2 hf
            rw [← hQ]; exact xe_iret Cx rfl hP hD hS dX9_of_115
          · have hf := pe_f hf hc_42
            by_cases hc_45 : y2 = (4 : Int32)
            · have hf := pe_t hf hc_45
              refine lv_tableIn (tgt := 116) hx hb dX9_of_43 (by rw [hc_45]; decide) (by rw [hc_45]; decide) (by rw [hc_45]; rfl) (by decide) ?_
              refine lv_aload_n hx hb dX9_of_116 rfl (lv_at hl 0 rfl) ?_
              refine va_get (ci := 9) (v := .ref (a 2)) hx hb hts wX9_in hown hK hP 0 rfl rfl 0 (by decide) (hts _ mw_2_74) (fun _ h9 => h9) rfl dX9_of_117 ?_
              refine lv_iload_n hx hb dX9_of_120 rfl (lv_at hl 1 rfl) ?_
              obtain ⟨r_46, hk_47, hf⟩ := pe_1 hf
              refine xv_i (As := [.int y1]) (rest := []) (q0 := 0) (ci := 7) Cx hP hD hS hl (pl_X9_X7 a cyI cyJ v9_refusals v7_rows v7_lengths v7_sizes v7_rests v7_orders v6_hooks v6_lefts v6_heights v1_table v5_known v8_sizes v8_coefficients v8_undoneSums v8_undos v8_nextUndo v8_imageTaken v0_totals v3_letters v3_count v3_next v3_size v4_values v4_lengths v7_rows v7_lengths v7_sizes v7_rests v7_orders) (c_X7_ordersOf l D cyI cyJ G a H.size v7_rows v7_lengths v7_sizes v7_rests v7_orders y1 r_46 hk_47) pk_X7_ordersOf mw_2_128 ⟨rfl, rfl, Nat.le_of_ble_eq_true rfl, Nat.le_of_ble_eq_true rfl⟩ rfl rfl rfl rfl rfl (Nat.le_of_ble_eq_true rfl) ⟨Nat.le_of_ble_eq_true rfl, Nat.le_of_ble_eq_true rfl⟩ dX9_of_121 (fun H locs hP hD hS => ?_)
              obtain ⟨rfl, rfl⟩ := po_2 hf
              rw [← hQ]; exact xe_iret Cx rfl hP hD hS dX9_of_124
            · have hf := pe_f hf hc_45
              by_cases hc_48 : y2 = (5 : Int32)
              · have hf := pe_t hf hc_48
                refine lv_tableIn (tgt := 125) hx hb dX9_of_43 (by rw [hc_48]; decide) (by rw [hc_48]; decide) (by rw [hc_48]; rfl) (by decide) ?_
                refine lv_aload_n hx hb dX9_of_125 rfl (lv_at hl 0 rfl) ?_
                refine va_get (ci := 9) (v := .ref (a 12)) hx hb hts wX9_in hown hK hP 0 rfl rfl 2 (by decide) (hts _ mw_2_76) (fun _ h9 => h9) rfl dX9_of_126 ?_
                refine lv_iload_n hx hb dX9_of_129 rfl (lv_at hl 1 rfl) ?_
                obtain ⟨r_49, hk_50, hf⟩ := pe_1 hf
                refine xv_i (As := [.int y1]) (rest := []) (q0 := 0) (ci := 2) Cx hP hD hS hl (pl_X9_X2 a cyI cyJ v9_refusals v7_rows v7_lengths v7_sizes v7_rests v7_orders v6_hooks v6_lefts v6_heights v1_table v5_known v8_sizes v8_coefficients v8_undoneSums v8_undos v8_nextUndo v8_imageTaken v0_totals v3_letters v3_count v3_next v3_size v4_values v4_lengths v7_rows v7_lengths v7_sizes v7_rests v7_orders) (c_X2_bitsOf l D cyI cyJ G a H.size v7_rows v7_lengths v7_sizes v7_rests v7_orders y1 r_49 hk_50) pk_X2_bitsOf mw_2_132 ⟨rfl, rfl, Nat.le_of_ble_eq_true rfl, Nat.le_of_ble_eq_true rfl⟩ rfl rfl rfl rfl rfl (Nat.le_of_ble_eq_true rfl) ⟨Nat.le_of_ble_eq_true rfl, Nat.le_of_ble_eq_true rfl⟩ dX9_of_130 (fun H locs hP hD hS => ?_)
                obtain ⟨rfl, rfl⟩ := po_2 hf
                rw [← hQ]; exact xe_iret Cx rfl hP hD hS dX9_of_133
              · have hf := pe_f hf hc_48
                have hc_33 : (y2).toInt ≠ 0 := xh_ne (by decide) hc_33
                have hc_36 : (y2).toInt ≠ 1 := xh_ne (by decide) hc_36
                have hc_39 : (y2).toInt ≠ 2 := xh_ne (by decide) hc_39
                have hc_42 : (y2).toInt ≠ 3 := xh_ne (by decide) hc_42
                have hc_45 : (y2).toInt ≠ 4 := xh_ne (by decide) hc_45
                have hc_48 : (y2).toInt ≠ 5 := xh_ne (by decide) hc_48
                refine lv_tableOut (tgt := 134) hx hb dX9_of_43 (by omega) (by decide) ?_
                refine lv_aload_n hx hb dX9_of_134 rfl (lv_at hl 0 rfl) ?_
                refine lv_bipush (v := (-2 : Int32)) hx hb dX9_of_135 (by decide) ?_
                obtain ⟨r_51, v9_refusals_52, hk_53, hf⟩ := pe_2 hf
                refine xv_i (As := [.int (-2 : Int32)]) (rest := []) (q0 := 0) (ci := 9) Cx hP hD hS hl (pl_X9_X9 a cyI cyJ v9_refusals v7_rows v7_lengths v7_sizes v7_rests v7_orders v6_hooks v6_lefts v6_heights v1_table v5_known v8_sizes v8_coefficients v8_undoneSums v8_undos v8_nextUndo v8_imageTaken v0_totals v3_letters v3_count v3_next v3_size v4_values v4_lengths v9_refusals_52 v7_rows v7_lengths v7_sizes v7_rests v7_orders v6_hooks v6_lefts v6_heights v1_table v5_known v8_sizes v8_coefficients v8_undoneSums v8_undos v8_nextUndo v8_imageTaken v0_totals v3_letters v3_count v3_next v3_size v4_values v4_lengths) (c_X9_refuse l D cyI cyJ G a H.size v9_refusals v7_rows v7_lengths v7_sizes v7_rests v7_orders v6_hooks v6_lefts v6_heights v1_table v5_known v8_sizes v8_coefficients v8_undoneSums v8_undos v8_nextUndo v8_imageTaken v0_totals v3_letters v3_count v3_next v3_size v4_values v4_lengths (-2 : Int32) r_51 v9_refusals_52 hk_53) pk_X9_refuse mw_2_110 ⟨rfl, rfl, Nat.le_of_ble_eq_true rfl, Nat.le_of_ble_eq_true rfl⟩ rfl rfl rfl rfl rfl (Nat.le_of_ble_eq_true rfl) ⟨Nat.le_of_ble_eq_true rfl, Nat.le_of_ble_eq_true rfl⟩ dX9_of_137 (fun H locs hP hD hS => ?_)
                obtain ⟨rfl, rfl⟩ := po_2 hf
                rw [← hQ]; exact xe_iret Cx rfl hP hD hS dX9_of_140
  refine lv_aload_n hx hb dX9_of_0 rfl (lv_at hl 0 rfl) ?_
  refine va_get (ci := 9) (v := .ref (a 2)) hx hb hts wX9_in hown hK hP 0 rfl rfl 0 (by decide) (hts _ mw_2_74) (fun _ h9 => h9) rfl dX9_of_1 ?_
  refine lv_iload_n hx hb dX9_of_4 rfl (lv_at hl 1 rfl) ?_
  obtain ⟨r_54, hk_55, hf⟩ := pe_1 hf
  refine xv_z (As := [.int x1]) (rest := []) (q0 := 0) (ci := 7) Cx hP hD hS hl (pl_X9_X7 a cyI cyJ v9_refusals v7_rows v7_lengths v7_sizes v7_rests v7_orders v6_hooks v6_lefts v6_heights v1_table v5_known v8_sizes v8_coefficients v8_undoneSums v8_undos v8_nextUndo v8_imageTaken v0_totals v3_letters v3_count v3_next v3_size v4_values v4_lengths v7_rows v7_lengths v7_sizes v7_rests v7_orders) (c_X7_has l D cyI cyJ G a H.size v7_rows v7_lengths v7_sizes v7_rests v7_orders x1 r_54 hk_55) pk_X7_has mw_2_109 ⟨rfl, rfl, Nat.le_of_ble_eq_true rfl, Nat.le_of_ble_eq_true rfl⟩ rfl rfl rfl rfl rfl (Nat.le_of_ble_eq_true rfl) ⟨Nat.le_of_ble_eq_true rfl, Nat.le_of_ble_eq_true rfl⟩ dX9_of_5 (fun H locs hn_56 hP hD hS => ?_)
  refine lv_if_ne (tgt := 17) hx hb dX9_of_8 (by decide) (fun hc_57 => ?_) (fun hc_57 => ?_)
  · have hf := pe_f hf hc_57
    refine lv_iload_n hx hb dX9_of_17 rfl (lv_at hl 2 rfl) ?_
    refine lv_bipush (v := (10 : Int32)) hx hb dX9_of_18 (by decide) ?_
    refine lv_icmp_lt (tgt := 42) hx hb dX9_of_20 (by decide) (fun hc_58 => ?_) (fun hc_58 => ?_)
    · have hf := pe_t hf hc_58
      exact w_42 v9_refusals x1 x2 H locs ls hf hP hD hS (lv_sub hl [0, 1, 2] rfl)
    · have hf := pe_f hf hc_58
      refine lv_iload_n hx hb dX9_of_23 rfl (lv_at hl 2 rfl) ?_
      refine lv_bipush (v := (18 : Int32)) hx hb dX9_of_24 (by decide) ?_
      refine lv_icmp_ge (tgt := 42) hx hb dX9_of_26 (by decide) (fun hc_59 => ?_) (fun hc_59 => ?_)
      · have hf := pe_t hf hc_59
        exact w_42 v9_refusals x1 x2 H locs ls hf hP hD hS (lv_sub hl [0, 1, 2] rfl)
      · have hf := pe_f hf hc_59
        refine lv_aload_n hx hb dX9_of_29 rfl (lv_at hl 0 rfl) ?_
        refine va_get (ci := 9) (v := .ref (a 2)) hx hb hts wX9_in hown hK hP 0 rfl rfl 0 (by decide) (hts _ mw_2_74) (fun _ h9 => h9) rfl dX9_of_30 ?_
        refine lv_iload_n hx hb dX9_of_33 rfl (lv_at hl 1 rfl) ?_
        refine lv_iload_n hx hb dX9_of_34 rfl (lv_at hl 2 rfl) ?_
        refine lv_bipush (v := (10 : Int32)) hx hb dX9_of_35 (by decide) ?_
        refine lv_isub hx hb dX9_of_37 ?_
        obtain ⟨r_60, hk_61, hf⟩ := pe_1 hf
        refine xv_i (As := [.int x1, .int (x2 - (10 : Int32))]) (rest := []) (q0 := 0) (ci := 7) Cx hP hD hS hl (pl_X9_X7 a cyI cyJ v9_refusals v7_rows v7_lengths v7_sizes v7_rests v7_orders v6_hooks v6_lefts v6_heights v1_table v5_known v8_sizes v8_coefficients v8_undoneSums v8_undos v8_nextUndo v8_imageTaken v0_totals v3_letters v3_count v3_next v3_size v4_values v4_lengths v7_rows v7_lengths v7_sizes v7_rests v7_orders) (c_X7_row l D cyI cyJ G a H.size v7_rows v7_lengths v7_sizes v7_rests v7_orders x1 (x2 - (10 : Int32)) r_60 hk_61) pk_X7_row mw_2_114 ⟨rfl, rfl, Nat.le_of_ble_eq_true rfl, Nat.le_of_ble_eq_true rfl⟩ rfl rfl rfl rfl rfl (Nat.le_of_ble_eq_true rfl) ⟨Nat.le_of_ble_eq_true rfl, Nat.le_of_ble_eq_true rfl⟩ dX9_of_38 (fun H locs hP hD hS => ?_)
        obtain ⟨rfl, rfl⟩ := po_2 hf
        rw [← hQ]; exact xe_iret Cx rfl hP hD hS dX9_of_41
  · have hf := pe_t hf hc_57
    refine lv_aload_n hx hb dX9_of_11 rfl (lv_at hl 0 rfl) ?_
    refine lv_iconst (v := (-1 : Int32)) hx hb dX9_of_12 (by decide) ?_
    obtain ⟨r_62, v9_refusals_63, hk_64, hf⟩ := pe_2 hf
    refine xv_i (As := [.int (-1 : Int32)]) (rest := []) (q0 := 0) (ci := 9) Cx hP hD hS hl (pl_X9_X9 a cyI cyJ v9_refusals v7_rows v7_lengths v7_sizes v7_rests v7_orders v6_hooks v6_lefts v6_heights v1_table v5_known v8_sizes v8_coefficients v8_undoneSums v8_undos v8_nextUndo v8_imageTaken v0_totals v3_letters v3_count v3_next v3_size v4_values v4_lengths v9_refusals_63 v7_rows v7_lengths v7_sizes v7_rests v7_orders v6_hooks v6_lefts v6_heights v1_table v5_known v8_sizes v8_coefficients v8_undoneSums v8_undos v8_nextUndo v8_imageTaken v0_totals v3_letters v3_count v3_next v3_size v4_values v4_lengths) (c_X9_refuse l D cyI cyJ G a H.size v9_refusals v7_rows v7_lengths v7_sizes v7_rests v7_orders v6_hooks v6_lefts v6_heights v1_table v5_known v8_sizes v8_coefficients v8_undoneSums v8_undos v8_nextUndo v8_imageTaken v0_totals v3_letters v3_count v3_next v3_size v4_values v4_lengths (-1 : Int32) r_62 v9_refusals_63 hk_64) pk_X9_refuse mw_2_110 ⟨rfl, rfl, Nat.le_of_ble_eq_true rfl, Nat.le_of_ble_eq_true rfl⟩ rfl rfl rfl rfl rfl (Nat.le_of_ble_eq_true rfl) ⟨Nat.le_of_ble_eq_true rfl, Nat.le_of_ble_eq_true rfl⟩ dX9_of_13 (fun H locs hP hD hS => ?_)
    obtain ⟨rfl, rfl⟩ := po_2 hf
    rw [← hQ]; exact xe_iret Cx rfl hP hD hS dX9_of_16
def f_X9_refuseFar (v9_refusals : Nat → Int32) (x1 : Int32) : Option (Int32 × (Nat → Int32)) := p_b2 (f_X9_refuse v9_refusals x1) (fun r_1 v9_refusals_2 => some (((1000000000 : Int32) - r_1), v9_refusals_2))
set_option maxHeartbeats 4000000 in
set_option maxRecDepth 20000 in
theorem c_X9_refuseFar (l : Launch) (D : va_G) (cyI cyJ : ClassId) (G a : Nat → Nat) (sz : Nat) (v9_refusals : Nat → Int32) (v7_rows : Nat → Int32) (v7_lengths : Nat → Int32) (v7_sizes : Nat → Int32) (v7_rests : Nat → Int32) (v7_orders : Nat → Int32) (v6_hooks : Nat → Int32) (v6_lefts : Nat → Int32) (v6_heights : Nat → Int32) (v1_table : Nat → Int32) (v5_known : Nat → Int32) (v8_sizes : Nat → Int32) (v8_coefficients : Nat → Int32) (v8_undoneSums : Nat → Int32) (v8_undos : Int32) (v8_nextUndo : Int32) (v8_imageTaken : Int32) (v0_totals : Nat → Int64) (v3_letters : Nat → Int32) (v3_count : Int32) (v3_next : Int32) (v3_size : Int32) (v4_values : Nat → Int32) (v4_lengths : Nat → Int32) (x1 : Int32) (ro : Int32) (ov9_refusals : Nat → Int32) (hf : f_X9_refuseFar v9_refusals x1 = some (ro, ov9_refusals)) : xm_i l yX9_refuseFar (Cond.code yX9_refuseFar cX9_refuseFar 2 (some .int) :: xg_tbl) { frames := 1, cells := 0, slots := 0, locals := 22 } D xcl [(cyI, .int), (cyJ, .long)] G sz [.ref (a 0), .int x1] (wd_X9 a cyI cyJ v9_refusals v7_rows v7_lengths v7_sizes v7_rests v7_orders v6_hooks v6_lefts v6_heights v1_table v5_known v8_sizes v8_coefficients v8_undoneSums v8_undos v8_nextUndo v8_imageTaken v0_totals v3_letters v3_count v3_next v3_size v4_values v4_lengths) (wd_X9 a cyI cyJ ov9_refusals v7_rows v7_lengths v7_sizes v7_rests v7_orders v6_hooks v6_lefts v6_heights v1_table v5_known v8_sizes v8_coefficients v8_undoneSums v8_undos v8_nextUndo v8_imageTaken v0_totals v3_letters v3_count v3_next v3_size v4_values v4_lengths) ro := by
  refine xm_of_i (own := RX9) (by decide) rfl rfl (Nat.le_of_ble_eq_true rfl) ?_
  intro p e s m args below meth c ls Q A hQ hAe hin Cx hsz hP hD hS hl
  have Cx1 := Cx
  obtain ⟨⟨hx, hb, hml, hown, hts⟩, hr, hlocks, hK, hA, hT⟩ := Cx1
  have hl : lv_has ls 2 [(0, .ref (a 0)), (1, .int x1)] := hl
  obtain ⟨H, eH⟩ : ∃ H, H = s.heap := ⟨_, rfl⟩
  obtain ⟨locs, eL⟩ : ∃ L : List Loc, L = [] := ⟨_, rfl⟩
  rw [← eH] at hP
  have hS : va_S A s.heap H locs := by rw [eH, eL]; exact hS
  suffices hgo : W p l e { frames := 1, cells := 0, slots := 0, locals := 22 } s m args below meth c H locs 0 0 Q (F0 m 0 ls []) by rw [eH, eL] at hgo; exact hgo
  clear eH eL
  unfold f_X9_refuseFar at hf
  refine lv_ldcw (v := (1000000000 : Int32)) hx hb hown (hts _ mw_2_155) dX9_refuseFar_0 ?_
  refine lv_aload_n hx hb dX9_refuseFar_3 rfl (lv_at hl 0 rfl) ?_
  refine lv_iload_n hx hb dX9_refuseFar_4 rfl (lv_at hl 1 rfl) ?_
  obtain ⟨r_4, v9_refusals_5, hk_6, hf⟩ := pe_2 hf
  refine xv_i (As := [.int x1]) (rest := [.int (1000000000 : Int32)]) (q0 := 0) (ci := 9) Cx hP hD hS hl (pl_X9_X9 a cyI cyJ v9_refusals v7_rows v7_lengths v7_sizes v7_rests v7_orders v6_hooks v6_lefts v6_heights v1_table v5_known v8_sizes v8_coefficients v8_undoneSums v8_undos v8_nextUndo v8_imageTaken v0_totals v3_letters v3_count v3_next v3_size v4_values v4_lengths v9_refusals_5 v7_rows v7_lengths v7_sizes v7_rests v7_orders v6_hooks v6_lefts v6_heights v1_table v5_known v8_sizes v8_coefficients v8_undoneSums v8_undos v8_nextUndo v8_imageTaken v0_totals v3_letters v3_count v3_next v3_size v4_values v4_lengths) (c_X9_refuse l D cyI cyJ G a H.size v9_refusals v7_rows v7_lengths v7_sizes v7_rests v7_orders v6_hooks v6_lefts v6_heights v1_table v5_known v8_sizes v8_coefficients v8_undoneSums v8_undos v8_nextUndo v8_imageTaken v0_totals v3_letters v3_count v3_next v3_size v4_values v4_lengths x1 r_4 v9_refusals_5 hk_6) pk_X9_refuse mw_2_110 ⟨rfl, rfl, Nat.le_of_ble_eq_true rfl, Nat.le_of_ble_eq_true rfl⟩ rfl rfl rfl rfl rfl (Nat.le_of_ble_eq_true rfl) ⟨Nat.le_of_ble_eq_true rfl, Nat.le_of_ble_eq_true rfl⟩ dX9_refuseFar_5 (fun H locs hP hD hS => ?_)
  refine lv_isub hx hb dX9_refuseFar_8 ?_
  obtain ⟨rfl, rfl⟩ := po_2 hf
  rw [← hQ]; exact xe_iret Cx rfl hP hD hS dX9_refuseFar_9
def f_X9_character_22 (v7_sizes : Nat → Int32) (v1_table : Nat → Int32) (v9_refusals : Nat → Int32) : Option (Int32 × (Nat → Int32)) := p_b2 (f_X9_refuseFar v9_refusals (-1 : Int32)) (fun r_1 v9_refusals_2 => some (r_1, v9_refusals_2))
def f_X9_character (v9_refusals : Nat → Int32) (v7_sizes : Nat → Int32) (v1_table : Nat → Int32) (x1 : Int32) (x2 : Int32) : Option (Int32 × (Nat → Int32)) := p_b1 (f_X7_has x1) (fun r_4 => if r_4 = 0 then ((f_X9_character_22 v7_sizes v1_table) v9_refusals) else (p_b1 (f_X7_has x2) (fun r_8 => if r_8 = 0 then ((f_X9_character_22 v7_sizes v1_table) v9_refusals) else (p_b1 (f_X7_alike v7_sizes x1 x2) (fun r_12 => if r_12 = 0 then (p_b2 (f_X9_refuseFar v9_refusals (-3 : Int32)) (fun r_18 v9_refusals_19 => some (r_18, v9_refusals_19))) else (p_b1 (f_X1_at v7_sizes v1_table x1 x2) (fun r_16 => some (r_16, v9_refusals))))))))
set_option maxHeartbeats 4000000 in
set_option maxRecDepth 20000 in
theorem c_X9_character (l : Launch) (D : va_G) (cyI cyJ : ClassId) (G a : Nat → Nat) (sz : Nat) (v9_refusals : Nat → Int32) (v7_rows : Nat → Int32) (v7_lengths : Nat → Int32) (v7_sizes : Nat → Int32) (v7_rests : Nat → Int32) (v7_orders : Nat → Int32) (v6_hooks : Nat → Int32) (v6_lefts : Nat → Int32) (v6_heights : Nat → Int32) (v1_table : Nat → Int32) (v5_known : Nat → Int32) (v8_sizes : Nat → Int32) (v8_coefficients : Nat → Int32) (v8_undoneSums : Nat → Int32) (v8_undos : Int32) (v8_nextUndo : Int32) (v8_imageTaken : Int32) (v0_totals : Nat → Int64) (v3_letters : Nat → Int32) (v3_count : Int32) (v3_next : Int32) (v3_size : Int32) (v4_values : Nat → Int32) (v4_lengths : Nat → Int32) (x1 : Int32) (x2 : Int32) (ro : Int32) (ov9_refusals : Nat → Int32) (hf : f_X9_character v9_refusals v7_sizes v1_table x1 x2 = some (ro, ov9_refusals)) : xm_i l yX9_character (Cond.code yX9_character cX9_character 3 (some .int) :: xg_tbl) { frames := 4, cells := 0, slots := 0, locals := 85 } D xcl [(cyI, .int), (cyJ, .long)] G sz [.ref (a 0), .int x1, .int x2] (wd_X9 a cyI cyJ v9_refusals v7_rows v7_lengths v7_sizes v7_rests v7_orders v6_hooks v6_lefts v6_heights v1_table v5_known v8_sizes v8_coefficients v8_undoneSums v8_undos v8_nextUndo v8_imageTaken v0_totals v3_letters v3_count v3_next v3_size v4_values v4_lengths) (wd_X9 a cyI cyJ ov9_refusals v7_rows v7_lengths v7_sizes v7_rests v7_orders v6_hooks v6_lefts v6_heights v1_table v5_known v8_sizes v8_coefficients v8_undoneSums v8_undos v8_nextUndo v8_imageTaken v0_totals v3_letters v3_count v3_next v3_size v4_values v4_lengths) ro := by
  refine xm_of_i (own := RX9) (by decide) rfl rfl (Nat.le_of_ble_eq_true rfl) ?_
  intro p e s m args below meth c ls Q A hQ hAe hin Cx hsz hP hD hS hl
  have Cx1 := Cx
  obtain ⟨⟨hx, hb, hml, hown, hts⟩, hr, hlocks, hK, hA, hT⟩ := Cx1
  have hl : lv_has ls 3 [(0, .ref (a 0)), (1, .int x1), (2, .int x2)] := hl
  obtain ⟨H, eH⟩ : ∃ H, H = s.heap := ⟨_, rfl⟩
  obtain ⟨locs, eL⟩ : ∃ L : List Loc, L = [] := ⟨_, rfl⟩
  rw [← eH] at hP
  have hS : va_S A s.heap H locs := by rw [eH, eL]; exact hS
  suffices hgo : W p l e { frames := 4, cells := 0, slots := 0, locals := 85 } s m args below meth c H locs 0 0 Q (F0 m 0 ls []) by rw [eH, eL] at hgo; exact hgo
  clear eH eL
  unfold f_X9_character at hf
  have w_22 : ∀ (v9_refusals : Nat → Int32) (H : Heap) (locs : List Loc) (ls : Array Slot), (f_X9_character_22 v7_sizes v1_table) v9_refusals = some (ro, ov9_refusals) → va_P D xcl (wd_X9 a cyI cyJ v9_refusals v7_rows v7_lengths v7_sizes v7_rests v7_orders v6_hooks v6_lefts v6_heights v1_table v5_known v8_sizes v8_coefficients v8_undoneSums v8_undos v8_nextUndo v8_imageTaken v0_totals v3_letters v3_count v3_next v3_size v4_values v4_lengths) H → va_D A (wd_X9 a cyI cyJ v9_refusals v7_rows v7_lengths v7_sizes v7_rests v7_orders v6_hooks v6_lefts v6_heights v1_table v5_known v8_sizes v8_coefficients v8_undoneSums v8_undos v8_nextUndo v8_imageTaken v0_totals v3_letters v3_count v3_next v3_size v4_values v4_lengths) → va_S A s.heap H locs → lv_has ls 3 [(0, .ref (a 0))] → W p l e { frames := 4, cells := 0, slots := 0, locals := 85 } s m args below meth c H locs 0 0 Q (F0 m 22 ls []) := by
    intro v9_refusals H locs ls hf hP hD hS hl
    unfold f_X9_character_22 at hf
    refine lv_aload_n hx hb dX9_character_22 rfl (lv_at hl 0 rfl) ?_
    refine lv_iconst (v := (-1 : Int32)) hx hb dX9_character_23 (by decide) ?_
    obtain ⟨r_21, v9_refusals_22, hk_23, hf⟩ := pe_2 hf
    refine xv_i (As := [.int (-1 : Int32)]) (rest := []) (q0 := 0) (ci := 9) Cx hP hD hS hl (pl_X9_X9 a cyI cyJ v9_refusals v7_rows v7_lengths v7_sizes v7_rests v7_orders v6_hooks v6_lefts v6_heights v1_table v5_known v8_sizes v8_coefficients v8_undoneSums v8_undos v8_nextUndo v8_imageTaken v0_totals v3_letters v3_count v3_next v3_size v4_values v4_lengths v9_refusals_22 v7_rows v7_lengths v7_sizes v7_rests v7_orders v6_hooks v6_lefts v6_heights v1_table v5_known v8_sizes v8_coefficients v8_undoneSums v8_undos v8_nextUndo v8_imageTaken v0_totals v3_letters v3_count v3_next v3_size v4_values v4_lengths) (c_X9_refuseFar l D cyI cyJ G a H.size v9_refusals v7_rows v7_lengths v7_sizes v7_rests v7_orders v6_hooks v6_lefts v6_heights v1_table v5_known v8_sizes v8_coefficients v8_undoneSums v8_undos v8_nextUndo v8_imageTaken v0_totals v3_letters v3_count v3_next v3_size v4_values v4_lengths (-1 : Int32) r_21 v9_refusals_22 hk_23) pk_X9_refuseFar mw_2_151 ⟨rfl, rfl, Nat.le_of_ble_eq_true rfl, Nat.le_of_ble_eq_true rfl⟩ rfl rfl rfl rfl rfl (Nat.le_of_ble_eq_true rfl) ⟨Nat.le_of_ble_eq_true rfl, Nat.le_of_ble_eq_true rfl⟩ dX9_character_24 (fun H locs hP hD hS => ?_)
    obtain ⟨rfl, rfl⟩ := po_2 hf
    rw [← hQ]; exact xe_iret Cx rfl hP hD hS dX9_character_27
  refine lv_aload_n hx hb dX9_character_0 rfl (lv_at hl 0 rfl) ?_
  refine va_get (ci := 9) (v := .ref (a 2)) hx hb hts wX9_in hown hK hP 0 rfl rfl 0 (by decide) (hts _ mw_2_74) (fun _ h9 => h9) rfl dX9_character_1 ?_
  refine lv_iload_n hx hb dX9_character_4 rfl (lv_at hl 1 rfl) ?_
  obtain ⟨r_24, hk_25, hf⟩ := pe_1 hf
  refine xv_z (As := [.int x1]) (rest := []) (q0 := 0) (ci := 7) Cx hP hD hS hl (pl_X9_X7 a cyI cyJ v9_refusals v7_rows v7_lengths v7_sizes v7_rests v7_orders v6_hooks v6_lefts v6_heights v1_table v5_known v8_sizes v8_coefficients v8_undoneSums v8_undos v8_nextUndo v8_imageTaken v0_totals v3_letters v3_count v3_next v3_size v4_values v4_lengths v7_rows v7_lengths v7_sizes v7_rests v7_orders) (c_X7_has l D cyI cyJ G a H.size v7_rows v7_lengths v7_sizes v7_rests v7_orders x1 r_24 hk_25) pk_X7_has mw_2_109 ⟨rfl, rfl, Nat.le_of_ble_eq_true rfl, Nat.le_of_ble_eq_true rfl⟩ rfl rfl rfl rfl rfl (Nat.le_of_ble_eq_true rfl) ⟨Nat.le_of_ble_eq_true rfl, Nat.le_of_ble_eq_true rfl⟩ dX9_character_5 (fun H locs hn_26 hP hD hS => ?_)
  refine lv_if_eq (tgt := 22) hx hb dX9_character_8 (by decide) (fun hc_27 => ?_) (fun hc_27 => ?_)
  · have hf := pe_t hf hc_27
    exact w_22 v9_refusals H locs ls hf hP hD hS (lv_sub hl [0] rfl)
  · have hf := pe_f hf hc_27
    refine lv_aload_n hx hb dX9_character_11 rfl (lv_at hl 0 rfl) ?_
    refine va_get (ci := 9) (v := .ref (a 2)) hx hb hts wX9_in hown hK hP 0 rfl rfl 0 (by decide) (hts _ mw_2_74) (fun _ h9 => h9) rfl dX9_character_12 ?_
    refine lv_iload_n hx hb dX9_character_15 rfl (lv_at hl 2 rfl) ?_
    obtain ⟨r_28, hk_29, hf⟩ := pe_1 hf
    refine xv_z (As := [.int x2]) (rest := []) (q0 := 0) (ci := 7) Cx hP hD hS hl (pl_X9_X7 a cyI cyJ v9_refusals v7_rows v7_lengths v7_sizes v7_rests v7_orders v6_hooks v6_lefts v6_heights v1_table v5_known v8_sizes v8_coefficients v8_undoneSums v8_undos v8_nextUndo v8_imageTaken v0_totals v3_letters v3_count v3_next v3_size v4_values v4_lengths v7_rows v7_lengths v7_sizes v7_rests v7_orders) (c_X7_has l D cyI cyJ G a H.size v7_rows v7_lengths v7_sizes v7_rests v7_orders x2 r_28 hk_29) pk_X7_has mw_2_109 ⟨rfl, rfl, Nat.le_of_ble_eq_true rfl, Nat.le_of_ble_eq_true rfl⟩ rfl rfl rfl rfl rfl (Nat.le_of_ble_eq_true rfl) ⟨Nat.le_of_ble_eq_true rfl, Nat.le_of_ble_eq_true rfl⟩ dX9_character_16 (fun H locs hn_30 hP hD hS => ?_)
    refine lv_if_ne (tgt := 28) hx hb dX9_character_19 (by decide) (fun hc_31 => ?_) (fun hc_31 => ?_)
    · have hf := pe_f hf hc_31
      refine lv_aload_n hx hb dX9_character_28 rfl (lv_at hl 0 rfl) ?_
      refine va_get (ci := 9) (v := .ref (a 2)) hx hb hts wX9_in hown hK hP 0 rfl rfl 0 (by decide) (hts _ mw_2_74) (fun _ h9 => h9) rfl dX9_character_29 ?_
      refine lv_iload_n hx hb dX9_character_32 rfl (lv_at hl 1 rfl) ?_
      refine lv_iload_n hx hb dX9_character_33 rfl (lv_at hl 2 rfl) ?_
      obtain ⟨r_32, hk_33, hf⟩ := pe_1 hf
      refine xv_z (As := [.int x1, .int x2]) (rest := []) (q0 := 0) (ci := 7) Cx hP hD hS hl (pl_X9_X7 a cyI cyJ v9_refusals v7_rows v7_lengths v7_sizes v7_rests v7_orders v6_hooks v6_lefts v6_heights v1_table v5_known v8_sizes v8_coefficients v8_undoneSums v8_undos v8_nextUndo v8_imageTaken v0_totals v3_letters v3_count v3_next v3_size v4_values v4_lengths v7_rows v7_lengths v7_sizes v7_rests v7_orders) (c_X7_alike l D cyI cyJ G a H.size v7_rows v7_lengths v7_sizes v7_rests v7_orders x1 x2 r_32 hk_33) pk_X7_alike mw_2_156 ⟨rfl, rfl, Nat.le_of_ble_eq_true rfl, Nat.le_of_ble_eq_true rfl⟩ rfl rfl rfl rfl rfl (Nat.le_of_ble_eq_true rfl) ⟨Nat.le_of_ble_eq_true rfl, Nat.le_of_ble_eq_true rfl⟩ dX9_character_34 (fun H locs hn_34 hP hD hS => ?_)
      refine lv_if_ne (tgt := 47) hx hb dX9_character_37 (by decide) (fun hc_35 => ?_) (fun hc_35 => ?_)
      · have hf := pe_f hf hc_35
        refine lv_aload_n hx hb dX9_character_47 rfl (lv_at hl 0 rfl) ?_
        refine va_get (ci := 9) (v := .ref (a 13)) hx hb hts wX9_in hown hK hP 0 rfl rfl 3 (by decide) (hts _ mw_2_77) (fun _ h9 => h9) rfl dX9_character_48 ?_
        refine lv_iload_n hx hb dX9_character_51 rfl (lv_at hl 1 rfl) ?_
        refine lv_iload_n hx hb dX9_character_52 rfl (lv_at hl 2 rfl) ?_
        obtain ⟨r_36, hk_37, hf⟩ := pe_1 hf
        refine xv_i (As := [.int x1, .int x2]) (rest := []) (q0 := 0) (ci := 1) Cx hP hD hS hl (pl_X9_X1 a cyI cyJ v9_refusals v7_rows v7_lengths v7_sizes v7_rests v7_orders v6_hooks v6_lefts v6_heights v1_table v5_known v8_sizes v8_coefficients v8_undoneSums v8_undos v8_nextUndo v8_imageTaken v0_totals v3_letters v3_count v3_next v3_size v4_values v4_lengths v1_table v7_rows v7_lengths v7_sizes v7_rests v7_orders) (c_X1_at l D cyI cyJ G a H.size v1_table v7_rows v7_lengths v7_sizes v7_rests v7_orders x1 x2 r_36 hk_37) pk_X1_at mw_2_160 ⟨rfl, rfl, Nat.le_of_ble_eq_true rfl, Nat.le_of_ble_eq_true rfl⟩ rfl rfl rfl rfl rfl (Nat.le_of_ble_eq_true rfl) ⟨Nat.le_of_ble_eq_true rfl, Nat.le_of_ble_eq_true rfl⟩ dX9_character_53 (fun H locs hP hD hS => ?_)
        obtain ⟨rfl, rfl⟩ := po_2 hf
        rw [← hQ]; exact xe_iret Cx rfl hP hD hS dX9_character_56
      · have hf := pe_t hf hc_35
        refine lv_aload_n hx hb dX9_character_40 rfl (lv_at hl 0 rfl) ?_
        refine lv_bipush (v := (-3 : Int32)) hx hb dX9_character_41 (by decide) ?_
        obtain ⟨r_38, v9_refusals_39, hk_40, hf⟩ := pe_2 hf
        refine xv_i (As := [.int (-3 : Int32)]) (rest := []) (q0 := 0) (ci := 9) Cx hP hD hS hl (pl_X9_X9 a cyI cyJ v9_refusals v7_rows v7_lengths v7_sizes v7_rests v7_orders v6_hooks v6_lefts v6_heights v1_table v5_known v8_sizes v8_coefficients v8_undoneSums v8_undos v8_nextUndo v8_imageTaken v0_totals v3_letters v3_count v3_next v3_size v4_values v4_lengths v9_refusals_39 v7_rows v7_lengths v7_sizes v7_rests v7_orders v6_hooks v6_lefts v6_heights v1_table v5_known v8_sizes v8_coefficients v8_undoneSums v8_undos v8_nextUndo v8_imageTaken v0_totals v3_letters v3_count v3_next v3_size v4_values v4_lengths) (c_X9_refuseFar l D cyI cyJ G a H.size v9_refusals v7_rows v7_lengths v7_sizes v7_rests v7_orders v6_hooks v6_lefts v6_heights v1_table v5_known v8_sizes v8_coefficients v8_undoneSums v8_undos v8_nextUndo v8_imageTaken v0_totals v3_letters v3_count v3_next v3_size v4_values v4_lengths (-3 : Int32) r_38 v9_refusals_39 hk_40) pk_X9_refuseFar mw_2_151 ⟨rfl, rfl, Nat.le_of_ble_eq_true rfl, Nat.le_of_ble_eq_true rfl⟩ rfl rfl rfl rfl rfl (Nat.le_of_ble_eq_true rfl) ⟨Nat.le_of_ble_eq_true rfl, Nat.le_of_ble_eq_true rfl⟩ dX9_character_43 (fun H locs hP hD hS => ?_)
        obtain ⟨rfl, rfl⟩ := po_2 hf
        rw [← hQ]; exact xe_iret Cx rfl hP hD hS dX9_character_46
    · have hf := pe_t hf hc_31
      exact w_22 v9_refusals H locs ls hf hP hD hS (lv_sub hl [0] rfl)
def f_X9_number_63 (v7_sizes : Nat → Int32) (v7_orders : Nat → Int32) (v1_table : Nat → Int32) (v9_refusals : Nat → Int32) (v5_known : Nat → Int32) : Option (Int32 × (Nat → Int32) × (Nat → Int32)) := p_b2 (f_X9_refuse v9_refusals (-3 : Int32)) (fun r_1 v9_refusals_2 => some (r_1, v9_refusals_2, v5_known))
def f_X9_number_33 (v7_sizes : Nat → Int32) (v7_orders : Nat → Int32) (v1_table : Nat → Int32) (v9_refusals : Nat → Int32) (v5_known : Nat → Int32) : Option (Int32 × (Nat → Int32) × (Nat → Int32)) := p_b2 (f_X9_refuse v9_refusals (-1 : Int32)) (fun r_4 v9_refusals_5 => some (r_4, v9_refusals_5, v5_known))
def f_X9_number (v9_refusals : Nat → Int32) (v7_sizes : Nat → Int32) (v7_orders : Nat → Int32) (v1_table : Nat → Int32) (v5_known : Nat → Int32) (x1 : Int32) (x2 : Int32) (x3 : Int32) : Option (Int32 × (Nat → Int32) × (Nat → Int32)) := p_b1 (f_X7_has x1) (fun r_7 => if r_7 = 0 then ((f_X9_number_33 v7_sizes v7_orders v1_table) v9_refusals v5_known) else (p_b1 (f_X7_has x2) (fun r_11 => if r_11 = 0 then ((f_X9_number_33 v7_sizes v7_orders v1_table) v9_refusals v5_known) else (p_b1 (f_X7_has x3) (fun r_15 => if r_15 = 0 then ((f_X9_number_33 v7_sizes v7_orders v1_table) v9_refusals v5_known) else (p_b1 (f_X7_alike v7_sizes x1 x2) (fun r_19 => if r_19 = 0 then ((f_X9_number_63 v7_sizes v7_orders v1_table) v9_refusals v5_known) else (p_b1 (f_X7_alike v7_sizes x1 x3) (fun r_23 => if r_23 = 0 then ((f_X9_number_63 v7_sizes v7_orders v1_table) v9_refusals v5_known) else (p_b2 (f_X5_at v7_sizes v7_orders v1_table v5_known x1 x2 x3) (fun r_27 v5_known_28 => some (r_27, v9_refusals, v5_known_28))))))))))))
set_option maxHeartbeats 4000000 in
set_option maxRecDepth 20000 in
theorem c_X9_number (l : Launch) (D : va_G) (cyI cyJ : ClassId) (G a : Nat → Nat) (sz : Nat) (v9_refusals : Nat → Int32) (v7_rows : Nat → Int32) (v7_lengths : Nat → Int32) (v7_sizes : Nat → Int32) (v7_rests : Nat → Int32) (v7_orders : Nat → Int32) (v6_hooks : Nat → Int32) (v6_lefts : Nat → Int32) (v6_heights : Nat → Int32) (v1_table : Nat → Int32) (v5_known : Nat → Int32) (v8_sizes : Nat → Int32) (v8_coefficients : Nat → Int32) (v8_undoneSums : Nat → Int32) (v8_undos : Int32) (v8_nextUndo : Int32) (v8_imageTaken : Int32) (v0_totals : Nat → Int64) (v3_letters : Nat → Int32) (v3_count : Int32) (v3_next : Int32) (v3_size : Int32) (v4_values : Nat → Int32) (v4_lengths : Nat → Int32) (x1 : Int32) (x2 : Int32) (x3 : Int32) (ro : Int32) (ov9_refusals : Nat → Int32) (ov5_known : Nat → Int32) (hf : f_X9_number v9_refusals v7_sizes v7_orders v1_table v5_known x1 x2 x3 = some (ro, ov9_refusals, ov5_known)) : xm_i l yX9_number (Cond.code yX9_number cX9_number 4 (some .int) :: xg_tbl) { frames := 5, cells := 0, slots := 0, locals := 123 } D xcl [(cyI, .int), (cyJ, .long)] G sz [.ref (a 0), .int x1, .int x2, .int x3] (wd_X9 a cyI cyJ v9_refusals v7_rows v7_lengths v7_sizes v7_rests v7_orders v6_hooks v6_lefts v6_heights v1_table v5_known v8_sizes v8_coefficients v8_undoneSums v8_undos v8_nextUndo v8_imageTaken v0_totals v3_letters v3_count v3_next v3_size v4_values v4_lengths) (wd_X9 a cyI cyJ ov9_refusals v7_rows v7_lengths v7_sizes v7_rests v7_orders v6_hooks v6_lefts v6_heights v1_table ov5_known v8_sizes v8_coefficients v8_undoneSums v8_undos v8_nextUndo v8_imageTaken v0_totals v3_letters v3_count v3_next v3_size v4_values v4_lengths) ro := by
  refine xm_of_i (own := RX9) (by decide) rfl rfl (Nat.le_of_ble_eq_true rfl) ?_
  intro p e s m args below meth c ls Q A hQ hAe hin Cx hsz hP hD hS hl
  have Cx1 := Cx
  obtain ⟨⟨hx, hb, hml, hown, hts⟩, hr, hlocks, hK, hA, hT⟩ := Cx1
  have hl : lv_has ls 4 [(0, .ref (a 0)), (1, .int x1), (2, .int x2), (3, .int x3)] := hl
  obtain ⟨H, eH⟩ : ∃ H, H = s.heap := ⟨_, rfl⟩
  obtain ⟨locs, eL⟩ : ∃ L : List Loc, L = [] := ⟨_, rfl⟩
  rw [← eH] at hP
  have hS : va_S A s.heap H locs := by rw [eH, eL]; exact hS
  suffices hgo : W p l e { frames := 5, cells := 0, slots := 0, locals := 123 } s m args below meth c H locs 0 0 Q (F0 m 0 ls []) by rw [eH, eL] at hgo; exact hgo
  clear eH eL
  unfold f_X9_number at hf
  have w_63 : ∀ (v9_refusals : Nat → Int32) (v5_known : Nat → Int32) (H : Heap) (locs : List Loc) (ls : Array Slot), (f_X9_number_63 v7_sizes v7_orders v1_table) v9_refusals v5_known = some (ro, ov9_refusals, ov5_known) → va_P D xcl (wd_X9 a cyI cyJ v9_refusals v7_rows v7_lengths v7_sizes v7_rests v7_orders v6_hooks v6_lefts v6_heights v1_table v5_known v8_sizes v8_coefficients v8_undoneSums v8_undos v8_nextUndo v8_imageTaken v0_totals v3_letters v3_count v3_next v3_size v4_values v4_lengths) H → va_D A (wd_X9 a cyI cyJ v9_refusals v7_rows v7_lengths v7_sizes v7_rests v7_orders v6_hooks v6_lefts v6_heights v1_table v5_known v8_sizes v8_coefficients v8_undoneSums v8_undos v8_nextUndo v8_imageTaken v0_totals v3_letters v3_count v3_next v3_size v4_values v4_lengths) → va_S A s.heap H locs → lv_has ls 4 [(0, .ref (a 0))] → W p l e { frames := 5, cells := 0, slots := 0, locals := 123 } s m args below meth c H locs 0 0 Q (F0 m 63 ls []) := by
    intro v9_refusals v5_known H locs ls hf hP hD hS hl
    unfold f_X9_number_63 at hf
    refine lv_aload_n hx hb dX9_number_63 rfl (lv_at hl 0 rfl) ?_
    refine lv_bipush (v := (-3 : Int32)) hx hb dX9_number_64 (by decide) ?_
    obtain ⟨r_30, v9_refusals_31, hk_32, hf⟩ := pe_2 hf
    refine xv_i (As := [.int (-3 : Int32)]) (rest := []) (q0 := 0) (ci := 9) Cx hP hD hS hl (pl_X9_X9 a cyI cyJ v9_refusals v7_rows v7_lengths v7_sizes v7_rests v7_orders v6_hooks v6_lefts v6_heights v1_table v5_known v8_sizes v8_coefficients v8_undoneSums v8_undos v8_nextUndo v8_imageTaken v0_totals v3_letters v3_count v3_next v3_size v4_values v4_lengths v9_refusals_31 v7_rows v7_lengths v7_sizes v7_rests v7_orders v6_hooks v6_lefts v6_heights v1_table v5_known v8_sizes v8_coefficients v8_undoneSums v8_undos v8_nextUndo v8_imageTaken v0_totals v3_letters v3_count v3_next v3_size v4_values v4_lengths) (c_X9_refuse l D cyI cyJ G a H.size v9_refusals v7_rows v7_lengths v7_sizes v7_rests v7_orders v6_hooks v6_lefts v6_heights v1_table v5_known v8_sizes v8_coefficients v8_undoneSums v8_undos v8_nextUndo v8_imageTaken v0_totals v3_letters v3_count v3_next v3_size v4_values v4_lengths (-3 : Int32) r_30 v9_refusals_31 hk_32) pk_X9_refuse mw_2_110 ⟨rfl, rfl, Nat.le_of_ble_eq_true rfl, Nat.le_of_ble_eq_true rfl⟩ rfl rfl rfl rfl rfl (Nat.le_of_ble_eq_true rfl) ⟨Nat.le_of_ble_eq_true rfl, Nat.le_of_ble_eq_true rfl⟩ dX9_number_66 (fun H locs hP hD hS => ?_)
    obtain ⟨rfl, rfl, rfl⟩ := po_3 hf
    rw [← hQ]; exact xe_iret Cx rfl hP hD hS dX9_number_69
  have w_33 : ∀ (v9_refusals : Nat → Int32) (v5_known : Nat → Int32) (H : Heap) (locs : List Loc) (ls : Array Slot), (f_X9_number_33 v7_sizes v7_orders v1_table) v9_refusals v5_known = some (ro, ov9_refusals, ov5_known) → va_P D xcl (wd_X9 a cyI cyJ v9_refusals v7_rows v7_lengths v7_sizes v7_rests v7_orders v6_hooks v6_lefts v6_heights v1_table v5_known v8_sizes v8_coefficients v8_undoneSums v8_undos v8_nextUndo v8_imageTaken v0_totals v3_letters v3_count v3_next v3_size v4_values v4_lengths) H → va_D A (wd_X9 a cyI cyJ v9_refusals v7_rows v7_lengths v7_sizes v7_rests v7_orders v6_hooks v6_lefts v6_heights v1_table v5_known v8_sizes v8_coefficients v8_undoneSums v8_undos v8_nextUndo v8_imageTaken v0_totals v3_letters v3_count v3_next v3_size v4_values v4_lengths) → va_S A s.heap H locs → lv_has ls 4 [(0, .ref (a 0))] → W p l e { frames := 5, cells := 0, slots := 0, locals := 123 } s m args below meth c H locs 0 0 Q (F0 m 33 ls []) := by
    intro v9_refusals v5_known H locs ls hf hP hD hS hl
    unfold f_X9_number_33 at hf
    refine lv_aload_n hx hb dX9_number_33 rfl (lv_at hl 0 rfl) ?_
    refine lv_iconst (v := (-1 : Int32)) hx hb dX9_number_34 (by decide) ?_
    obtain ⟨r_33, v9_refusals_34, hk_35, hf⟩ := pe_2 hf
    refine xv_i (As := [.int (-1 : Int32)]) (rest := []) (q0 := 0) (ci := 9) Cx hP hD hS hl (pl_X9_X9 a cyI cyJ v9_refusals v7_rows v7_lengths v7_sizes v7_rests v7_orders v6_hooks v6_lefts v6_heights v1_table v5_known v8_sizes v8_coefficients v8_undoneSums v8_undos v8_nextUndo v8_imageTaken v0_totals v3_letters v3_count v3_next v3_size v4_values v4_lengths v9_refusals_34 v7_rows v7_lengths v7_sizes v7_rests v7_orders v6_hooks v6_lefts v6_heights v1_table v5_known v8_sizes v8_coefficients v8_undoneSums v8_undos v8_nextUndo v8_imageTaken v0_totals v3_letters v3_count v3_next v3_size v4_values v4_lengths) (c_X9_refuse l D cyI cyJ G a H.size v9_refusals v7_rows v7_lengths v7_sizes v7_rests v7_orders v6_hooks v6_lefts v6_heights v1_table v5_known v8_sizes v8_coefficients v8_undoneSums v8_undos v8_nextUndo v8_imageTaken v0_totals v3_letters v3_count v3_next v3_size v4_values v4_lengths (-1 : Int32) r_33 v9_refusals_34 hk_35) pk_X9_refuse mw_2_110 ⟨rfl, rfl, Nat.le_of_ble_eq_true rfl, Nat.le_of_ble_eq_true rfl⟩ rfl rfl rfl rfl rfl (Nat.le_of_ble_eq_true rfl) ⟨Nat.le_of_ble_eq_true rfl, Nat.le_of_ble_eq_true rfl⟩ dX9_number_35 (fun H locs hP hD hS => ?_)
    obtain ⟨rfl, rfl, rfl⟩ := po_3 hf
    rw [← hQ]; exact xe_iret Cx rfl hP hD hS dX9_number_38
  refine lv_aload_n hx hb dX9_number_0 rfl (lv_at hl 0 rfl) ?_
  refine va_get (ci := 9) (v := .ref (a 2)) hx hb hts wX9_in hown hK hP 0 rfl rfl 0 (by decide) (hts _ mw_2_74) (fun _ h9 => h9) rfl dX9_number_1 ?_
  refine lv_iload_n hx hb dX9_number_4 rfl (lv_at hl 1 rfl) ?_
  obtain ⟨r_36, hk_37, hf⟩ := pe_1 hf
  refine xv_z (As := [.int x1]) (rest := []) (q0 := 0) (ci := 7) Cx hP hD hS hl (pl_X9_X7 a cyI cyJ v9_refusals v7_rows v7_lengths v7_sizes v7_rests v7_orders v6_hooks v6_lefts v6_heights v1_table v5_known v8_sizes v8_coefficients v8_undoneSums v8_undos v8_nextUndo v8_imageTaken v0_totals v3_letters v3_count v3_next v3_size v4_values v4_lengths v7_rows v7_lengths v7_sizes v7_rests v7_orders) (c_X7_has l D cyI cyJ G a H.size v7_rows v7_lengths v7_sizes v7_rests v7_orders x1 r_36 hk_37) pk_X7_has mw_2_109 ⟨rfl, rfl, Nat.le_of_ble_eq_true rfl, Nat.le_of_ble_eq_true rfl⟩ rfl rfl rfl rfl rfl (Nat.le_of_ble_eq_true rfl) ⟨Nat.le_of_ble_eq_true rfl, Nat.le_of_ble_eq_true rfl⟩ dX9_number_5 (fun H locs hn_38 hP hD hS => ?_)
  refine lv_if_eq (tgt := 33) hx hb dX9_number_8 (by decide) (fun hc_39 => ?_) (fun hc_39 => ?_)
  · have hf := pe_t hf hc_39
    exact w_33 v9_refusals v5_known H locs ls hf hP hD hS (lv_sub hl [0] rfl)
  · have hf := pe_f hf hc_39
    refine lv_aload_n hx hb dX9_number_11 rfl (lv_at hl 0 rfl) ?_
    refine va_get (ci := 9) (v := .ref (a 2)) hx hb hts wX9_in hown hK hP 0 rfl rfl 0 (by decide) (hts _ mw_2_74) (fun _ h9 => h9) rfl dX9_number_12 ?_
    refine lv_iload_n hx hb dX9_number_15 rfl (lv_at hl 2 rfl) ?_
    obtain ⟨r_40, hk_41, hf⟩ := pe_1 hf
    refine xv_z (As := [.int x2]) (rest := []) (q0 := 0) (ci := 7) Cx hP hD hS hl (pl_X9_X7 a cyI cyJ v9_refusals v7_rows v7_lengths v7_sizes v7_rests v7_orders v6_hooks v6_lefts v6_heights v1_table v5_known v8_sizes v8_coefficients v8_undoneSums v8_undos v8_nextUndo v8_imageTaken v0_totals v3_letters v3_count v3_next v3_size v4_values v4_lengths v7_rows v7_lengths v7_sizes v7_rests v7_orders) (c_X7_has l D cyI cyJ G a H.size v7_rows v7_lengths v7_sizes v7_rests v7_orders x2 r_40 hk_41) pk_X7_has mw_2_109 ⟨rfl, rfl, Nat.le_of_ble_eq_true rfl, Nat.le_of_ble_eq_true rfl⟩ rfl rfl rfl rfl rfl (Nat.le_of_ble_eq_true rfl) ⟨Nat.le_of_ble_eq_true rfl, Nat.le_of_ble_eq_true rfl⟩ dX9_number_16 (fun H locs hn_42 hP hD hS => ?_)
    refine lv_if_eq (tgt := 33) hx hb dX9_number_19 (by decide) (fun hc_43 => ?_) (fun hc_43 => ?_)
    · have hf := pe_t hf hc_43
      exact w_33 v9_refusals v5_known H locs ls hf hP hD hS (lv_sub hl [0] rfl)
    · have hf := pe_f hf hc_43
      refine lv_aload_n hx hb dX9_number_22 rfl (lv_at hl 0 rfl) ?_
      refine va_get (ci := 9) (v := .ref (a 2)) hx hb hts wX9_in hown hK hP 0 rfl rfl 0 (by decide) (hts _ mw_2_74) (fun _ h9 => h9) rfl dX9_number_23 ?_
      refine lv_iload_n hx hb dX9_number_26 rfl (lv_at hl 3 rfl) ?_
      obtain ⟨r_44, hk_45, hf⟩ := pe_1 hf
      refine xv_z (As := [.int x3]) (rest := []) (q0 := 0) (ci := 7) Cx hP hD hS hl (pl_X9_X7 a cyI cyJ v9_refusals v7_rows v7_lengths v7_sizes v7_rests v7_orders v6_hooks v6_lefts v6_heights v1_table v5_known v8_sizes v8_coefficients v8_undoneSums v8_undos v8_nextUndo v8_imageTaken v0_totals v3_letters v3_count v3_next v3_size v4_values v4_lengths v7_rows v7_lengths v7_sizes v7_rests v7_orders) (c_X7_has l D cyI cyJ G a H.size v7_rows v7_lengths v7_sizes v7_rests v7_orders x3 r_44 hk_45) pk_X7_has mw_2_109 ⟨rfl, rfl, Nat.le_of_ble_eq_true rfl, Nat.le_of_ble_eq_true rfl⟩ rfl rfl rfl rfl rfl (Nat.le_of_ble_eq_true rfl) ⟨Nat.le_of_ble_eq_true rfl, Nat.le_of_ble_eq_true rfl⟩ dX9_number_27 (fun H locs hn_46 hP hD hS => ?_)
      refine lv_if_ne (tgt := 39) hx hb dX9_number_30 (by decide) (fun hc_47 => ?_) (fun hc_47 => ?_)
      · have hf := pe_f hf hc_47
        refine lv_aload_n hx hb dX9_number_39 rfl (lv_at hl 0 rfl) ?_
        refine va_get (ci := 9) (v := .ref (a 2)) hx hb hts wX9_in hown hK hP 0 rfl rfl 0 (by decide) (hts _ mw_2_74) (fun _ h9 => h9) rfl dX9_number_40 ?_
        refine lv_iload_n hx hb dX9_number_43 rfl (lv_at hl 1 rfl) ?_
        refine lv_iload_n hx hb dX9_number_44 rfl (lv_at hl 2 rfl) ?_
        obtain ⟨r_48, hk_49, hf⟩ := pe_1 hf
        refine xv_z (As := [.int x1, .int x2]) (rest := []) (q0 := 0) (ci := 7) Cx hP hD hS hl (pl_X9_X7 a cyI cyJ v9_refusals v7_rows v7_lengths v7_sizes v7_rests v7_orders v6_hooks v6_lefts v6_heights v1_table v5_known v8_sizes v8_coefficients v8_undoneSums v8_undos v8_nextUndo v8_imageTaken v0_totals v3_letters v3_count v3_next v3_size v4_values v4_lengths v7_rows v7_lengths v7_sizes v7_rests v7_orders) (c_X7_alike l D cyI cyJ G a H.size v7_rows v7_lengths v7_sizes v7_rests v7_orders x1 x2 r_48 hk_49) pk_X7_alike mw_2_156 ⟨rfl, rfl, Nat.le_of_ble_eq_true rfl, Nat.le_of_ble_eq_true rfl⟩ rfl rfl rfl rfl rfl (Nat.le_of_ble_eq_true rfl) ⟨Nat.le_of_ble_eq_true rfl, Nat.le_of_ble_eq_true rfl⟩ dX9_number_45 (fun H locs hn_50 hP hD hS => ?_)
        refine lv_if_eq (tgt := 63) hx hb dX9_number_48 (by decide) (fun hc_51 => ?_) (fun hc_51 => ?_)
        · have hf := pe_t hf hc_51
          exact w_63 v9_refusals v5_known H locs ls hf hP hD hS (lv_sub hl [0] rfl)
        · have hf := pe_f hf hc_51
          refine lv_aload_n hx hb dX9_number_51 rfl (lv_at hl 0 rfl) ?_
          refine va_get (ci := 9) (v := .ref (a 2)) hx hb hts wX9_in hown hK hP 0 rfl rfl 0 (by decide) (hts _ mw_2_74) (fun _ h9 => h9) rfl dX9_number_52 ?_
          refine lv_iload_n hx hb dX9_number_55 rfl (lv_at hl 1 rfl) ?_
          refine lv_iload_n hx hb dX9_number_56 rfl (lv_at hl 3 rfl) ?_
          obtain ⟨r_52, hk_53, hf⟩ := pe_1 hf
          refine xv_z (As := [.int x1, .int x3]) (rest := []) (q0 := 0) (ci := 7) Cx hP hD hS hl (pl_X9_X7 a cyI cyJ v9_refusals v7_rows v7_lengths v7_sizes v7_rests v7_orders v6_hooks v6_lefts v6_heights v1_table v5_known v8_sizes v8_coefficients v8_undoneSums v8_undos v8_nextUndo v8_imageTaken v0_totals v3_letters v3_count v3_next v3_size v4_values v4_lengths v7_rows v7_lengths v7_sizes v7_rests v7_orders) (c_X7_alike l D cyI cyJ G a H.size v7_rows v7_lengths v7_sizes v7_rests v7_orders x1 x3 r_52 hk_53) pk_X7_alike mw_2_156 ⟨rfl, rfl, Nat.le_of_ble_eq_true rfl, Nat.le_of_ble_eq_true rfl⟩ rfl rfl rfl rfl rfl (Nat.le_of_ble_eq_true rfl) ⟨Nat.le_of_ble_eq_true rfl, Nat.le_of_ble_eq_true rfl⟩ dX9_number_57 (fun H locs hn_54 hP hD hS => ?_)
          refine lv_if_ne (tgt := 70) hx hb dX9_number_60 (by decide) (fun hc_55 => ?_) (fun hc_55 => ?_)
          · have hf := pe_f hf hc_55
            refine lv_aload_n hx hb dX9_number_70 rfl (lv_at hl 0 rfl) ?_
            refine va_get (ci := 9) (v := .ref (a 15)) hx hb hts wX9_in hown hK hP 0 rfl rfl 4 (by decide) (hts _ mw_2_78) (fun _ h9 => h9) rfl dX9_number_71 ?_
            refine lv_iload_n hx hb dX9_number_74 rfl (lv_at hl 1 rfl) ?_
            refine lv_iload_n hx hb dX9_number_75 rfl (lv_at hl 2 rfl) ?_
            refine lv_iload_n hx hb dX9_number_76 rfl (lv_at hl 3 rfl) ?_
            obtain ⟨r_56, v5_known_57, hk_58, hf⟩ := pe_2 hf
            refine xv_i (As := [.int x1, .int x2, .int x3]) (rest := []) (q0 := 0) (ci := 5) Cx hP hD hS hl (pl_X9_X5 a cyI cyJ v9_refusals v7_rows v7_lengths v7_sizes v7_rests v7_orders v6_hooks v6_lefts v6_heights v1_table v5_known v8_sizes v8_coefficients v8_undoneSums v8_undos v8_nextUndo v8_imageTaken v0_totals v3_letters v3_count v3_next v3_size v4_values v4_lengths v5_known_57 v1_table v7_rows v7_lengths v7_sizes v7_rests v7_orders) (c_X5_at l D cyI cyJ G a H.size v5_known v1_table v7_rows v7_lengths v7_sizes v7_rests v7_orders x1 x2 x3 r_56 v5_known_57 hk_58) pk_X5_at mw_2_165 ⟨rfl, rfl, Nat.le_of_ble_eq_true rfl, Nat.le_of_ble_eq_true rfl⟩ rfl rfl rfl rfl rfl (Nat.le_of_ble_eq_true rfl) ⟨Nat.le_of_ble_eq_true rfl, Nat.le_of_ble_eq_true rfl⟩ dX9_number_77 (fun H locs hP hD hS => ?_)
            obtain ⟨rfl, rfl, rfl⟩ := po_3 hf
            rw [← hQ]; exact xe_iret Cx rfl hP hD hS dX9_number_80
          · have hf := pe_t hf hc_55
            exact w_63 v9_refusals v5_known H locs ls hf hP hD hS (lv_sub hl [0] rfl)
      · have hf := pe_t hf hc_47
        exact w_33 v9_refusals v5_known H locs ls hf hP hD hS (lv_sub hl [0] rfl)
def f_X9_product_22 (v7_sizes : Nat → Int32) (v7_orders : Nat → Int32) (v1_table : Nat → Int32) (v9_refusals : Nat → Int32) (v5_known : Nat → Int32) : Option (Int32 × (Nat → Int32) × (Nat → Int32)) := p_b2 (f_X9_refuse v9_refusals (-1 : Int32)) (fun r_1 v9_refusals_2 => some (r_1, v9_refusals_2, v5_known))
def f_X9_product (v9_refusals : Nat → Int32) (v7_sizes : Nat → Int32) (v7_orders : Nat → Int32) (v1_table : Nat → Int32) (v5_known : Nat → Int32) (x1 : Int32) (x2 : Int32) (x3 : Int32) : Option (Int32 × (Nat → Int32) × (Nat → Int32)) := p_b1 (f_X7_has x1) (fun r_4 => if r_4 = 0 then ((f_X9_product_22 v7_sizes v7_orders v1_table) v9_refusals v5_known) else (p_b1 (f_X7_has x2) (fun r_8 => if r_8 = 0 then ((f_X9_product_22 v7_sizes v7_orders v1_table) v9_refusals v5_known) else (p_b1 (f_X7_alike v7_sizes x1 x2) (fun r_12 => if r_12 = 0 then (p_b2 (f_X9_refuse v9_refusals (-3 : Int32)) (fun r_27 v9_refusals_28 => some (r_27, v9_refusals_28, v5_known))) else (if (-1 : Int32) ≤ x3 then (if x3 = (-1 : Int32) then (p_b2 (f_X5_lengthOfProduct v7_sizes v7_orders v1_table v5_known x1 x2) (fun r_21 v5_known_22 => some (r_21, v9_refusals, v5_known_22))) else (p_b2 (f_X5_partOfProduct v7_sizes v7_orders v1_table v5_known x1 x2 x3) (fun r_18 v5_known_19 => some (r_18, v9_refusals, v5_known_19)))) else (p_b2 (f_X9_refuse v9_refusals (-4 : Int32)) (fun r_24 v9_refusals_25 => some (r_24, v9_refusals_25, v5_known)))))))))
set_option maxHeartbeats 4000000 in
set_option maxRecDepth 20000 in
theorem c_X9_product (l : Launch) (D : va_G) (cyI cyJ : ClassId) (G a : Nat → Nat) (sz : Nat) (v9_refusals : Nat → Int32) (v7_rows : Nat → Int32) (v7_lengths : Nat → Int32) (v7_sizes : Nat → Int32) (v7_rests : Nat → Int32) (v7_orders : Nat → Int32) (v6_hooks : Nat → Int32) (v6_lefts : Nat → Int32) (v6_heights : Nat → Int32) (v1_table : Nat → Int32) (v5_known : Nat → Int32) (v8_sizes : Nat → Int32) (v8_coefficients : Nat → Int32) (v8_undoneSums : Nat → Int32) (v8_undos : Int32) (v8_nextUndo : Int32) (v8_imageTaken : Int32) (v0_totals : Nat → Int64) (v3_letters : Nat → Int32) (v3_count : Int32) (v3_next : Int32) (v3_size : Int32) (v4_values : Nat → Int32) (v4_lengths : Nat → Int32) (x1 : Int32) (x2 : Int32) (x3 : Int32) (ro : Int32) (ov9_refusals : Nat → Int32) (ov5_known : Nat → Int32) (hf : f_X9_product v9_refusals v7_sizes v7_orders v1_table v5_known x1 x2 x3 = some (ro, ov9_refusals, ov5_known)) : xm_i l yX9_product (Cond.code yX9_product cX9_product 4 (some .int) :: xg_tbl) { frames := 6, cells := 0, slots := 0, locals := 148 } D xcl [(cyI, .int), (cyJ, .long)] G sz [.ref (a 0), .int x1, .int x2, .int x3] (wd_X9 a cyI cyJ v9_refusals v7_rows v7_lengths v7_sizes v7_rests v7_orders v6_hooks v6_lefts v6_heights v1_table v5_known v8_sizes v8_coefficients v8_undoneSums v8_undos v8_nextUndo v8_imageTaken v0_totals v3_letters v3_count v3_next v3_size v4_values v4_lengths) (wd_X9 a cyI cyJ ov9_refusals v7_rows v7_lengths v7_sizes v7_rests v7_orders v6_hooks v6_lefts v6_heights v1_table ov5_known v8_sizes v8_coefficients v8_undoneSums v8_undos v8_nextUndo v8_imageTaken v0_totals v3_letters v3_count v3_next v3_size v4_values v4_lengths) ro := by
  refine xm_of_i (own := RX9) (by decide) rfl rfl (Nat.le_of_ble_eq_true rfl) ?_
  intro p e s m args below meth c ls Q A hQ hAe hin Cx hsz hP hD hS hl
  have Cx1 := Cx
  obtain ⟨⟨hx, hb, hml, hown, hts⟩, hr, hlocks, hK, hA, hT⟩ := Cx1
  have hl : lv_has ls 4 [(0, .ref (a 0)), (1, .int x1), (2, .int x2), (3, .int x3)] := hl
  obtain ⟨H, eH⟩ : ∃ H, H = s.heap := ⟨_, rfl⟩
  obtain ⟨locs, eL⟩ : ∃ L : List Loc, L = [] := ⟨_, rfl⟩
  rw [← eH] at hP
  have hS : va_S A s.heap H locs := by rw [eH, eL]; exact hS
  suffices hgo : W p l e { frames := 6, cells := 0, slots := 0, locals := 148 } s m args below meth c H locs 0 0 Q (F0 m 0 ls []) by rw [eH, eL] at hgo; exact hgo
  clear eH eL
  unfold f_X9_product at hf
  have w_22 : ∀ (v9_refusals : Nat → Int32) (v5_known : Nat → Int32) (H : Heap) (locs : List Loc) (ls : Array Slot), (f_X9_product_22 v7_sizes v7_orders v1_table) v9_refusals v5_known = some (ro, ov9_refusals, ov5_known) → va_P D xcl (wd_X9 a cyI cyJ v9_refusals v7_rows v7_lengths v7_sizes v7_rests v7_orders v6_hooks v6_lefts v6_heights v1_table v5_known v8_sizes v8_coefficients v8_undoneSums v8_undos v8_nextUndo v8_imageTaken v0_totals v3_letters v3_count v3_next v3_size v4_values v4_lengths) H → va_D A (wd_X9 a cyI cyJ v9_refusals v7_rows v7_lengths v7_sizes v7_rests v7_orders v6_hooks v6_lefts v6_heights v1_table v5_known v8_sizes v8_coefficients v8_undoneSums v8_undos v8_nextUndo v8_imageTaken v0_totals v3_letters v3_count v3_next v3_size v4_values v4_lengths) → va_S A s.heap H locs → lv_has ls 4 [(0, .ref (a 0))] → W p l e { frames := 6, cells := 0, slots := 0, locals := 148 } s m args below meth c H locs 0 0 Q (F0 m 22 ls []) := by
    intro v9_refusals v5_known H locs ls hf hP hD hS hl
    unfold f_X9_product_22 at hf
    refine lv_aload_n hx hb dX9_product_22 rfl (lv_at hl 0 rfl) ?_
    refine lv_iconst (v := (-1 : Int32)) hx hb dX9_product_23 (by decide) ?_
    obtain ⟨r_30, v9_refusals_31, hk_32, hf⟩ := pe_2 hf
    refine xv_i (As := [.int (-1 : Int32)]) (rest := []) (q0 := 0) (ci := 9) Cx hP hD hS hl (pl_X9_X9 a cyI cyJ v9_refusals v7_rows v7_lengths v7_sizes v7_rests v7_orders v6_hooks v6_lefts v6_heights v1_table v5_known v8_sizes v8_coefficients v8_undoneSums v8_undos v8_nextUndo v8_imageTaken v0_totals v3_letters v3_count v3_next v3_size v4_values v4_lengths v9_refusals_31 v7_rows v7_lengths v7_sizes v7_rests v7_orders v6_hooks v6_lefts v6_heights v1_table v5_known v8_sizes v8_coefficients v8_undoneSums v8_undos v8_nextUndo v8_imageTaken v0_totals v3_letters v3_count v3_next v3_size v4_values v4_lengths) (c_X9_refuse l D cyI cyJ G a H.size v9_refusals v7_rows v7_lengths v7_sizes v7_rests v7_orders v6_hooks v6_lefts v6_heights v1_table v5_known v8_sizes v8_coefficients v8_undoneSums v8_undos v8_nextUndo v8_imageTaken v0_totals v3_letters v3_count v3_next v3_size v4_values v4_lengths (-1 : Int32) r_30 v9_refusals_31 hk_32) pk_X9_refuse mw_2_110 ⟨rfl, rfl, Nat.le_of_ble_eq_true rfl, Nat.le_of_ble_eq_true rfl⟩ rfl rfl rfl rfl rfl (Nat.le_of_ble_eq_true rfl) ⟨Nat.le_of_ble_eq_true rfl, Nat.le_of_ble_eq_true rfl⟩ dX9_product_24 (fun H locs hP hD hS => ?_)
    obtain ⟨rfl, rfl, rfl⟩ := po_3 hf
    rw [← hQ]; exact xe_iret Cx rfl hP hD hS dX9_product_27
  refine lv_aload_n hx hb dX9_product_0 rfl (lv_at hl 0 rfl) ?_
  refine va_get (ci := 9) (v := .ref (a 2)) hx hb hts wX9_in hown hK hP 0 rfl rfl 0 (by decide) (hts _ mw_2_74) (fun _ h9 => h9) rfl dX9_product_1 ?_
  refine lv_iload_n hx hb dX9_product_4 rfl (lv_at hl 1 rfl) ?_
  obtain ⟨r_33, hk_34, hf⟩ := pe_1 hf
  refine xv_z (As := [.int x1]) (rest := []) (q0 := 0) (ci := 7) Cx hP hD hS hl (pl_X9_X7 a cyI cyJ v9_refusals v7_rows v7_lengths v7_sizes v7_rests v7_orders v6_hooks v6_lefts v6_heights v1_table v5_known v8_sizes v8_coefficients v8_undoneSums v8_undos v8_nextUndo v8_imageTaken v0_totals v3_letters v3_count v3_next v3_size v4_values v4_lengths v7_rows v7_lengths v7_sizes v7_rests v7_orders) (c_X7_has l D cyI cyJ G a H.size v7_rows v7_lengths v7_sizes v7_rests v7_orders x1 r_33 hk_34) pk_X7_has mw_2_109 ⟨rfl, rfl, Nat.le_of_ble_eq_true rfl, Nat.le_of_ble_eq_true rfl⟩ rfl rfl rfl rfl rfl (Nat.le_of_ble_eq_true rfl) ⟨Nat.le_of_ble_eq_true rfl, Nat.le_of_ble_eq_true rfl⟩ dX9_product_5 (fun H locs hn_35 hP hD hS => ?_)
  refine lv_if_eq (tgt := 22) hx hb dX9_product_8 (by decide) (fun hc_36 => ?_) (fun hc_36 => ?_)
  · have hf := pe_t hf hc_36
    exact w_22 v9_refusals v5_known H locs ls hf hP hD hS (lv_sub hl [0] rfl)
  · have hf := pe_f hf hc_36
    refine lv_aload_n hx hb dX9_product_11 rfl (lv_at hl 0 rfl) ?_
    refine va_get (ci := 9) (v := .ref (a 2)) hx hb hts wX9_in hown hK hP 0 rfl rfl 0 (by decide) (hts _ mw_2_74) (fun _ h9 => h9) rfl dX9_product_12 ?_
    refine lv_iload_n hx hb dX9_product_15 rfl (lv_at hl 2 rfl) ?_
    obtain ⟨r_37, hk_38, hf⟩ := pe_1 hf
    refine xv_z (As := [.int x2]) (rest := []) (q0 := 0) (ci := 7) Cx hP hD hS hl (pl_X9_X7 a cyI cyJ v9_refusals v7_rows v7_lengths v7_sizes v7_rests v7_orders v6_hooks v6_lefts v6_heights v1_table v5_known v8_sizes v8_coefficients v8_undoneSums v8_undos v8_nextUndo v8_imageTaken v0_totals v3_letters v3_count v3_next v3_size v4_values v4_lengths v7_rows v7_lengths v7_sizes v7_rests v7_orders) (c_X7_has l D cyI cyJ G a H.size v7_rows v7_lengths v7_sizes v7_rests v7_orders x2 r_37 hk_38) pk_X7_has mw_2_109 ⟨rfl, rfl, Nat.le_of_ble_eq_true rfl, Nat.le_of_ble_eq_true rfl⟩ rfl rfl rfl rfl rfl (Nat.le_of_ble_eq_true rfl) ⟨Nat.le_of_ble_eq_true rfl, Nat.le_of_ble_eq_true rfl⟩ dX9_product_16 (fun H locs hn_39 hP hD hS => ?_)
    refine lv_if_ne (tgt := 28) hx hb dX9_product_19 (by decide) (fun hc_40 => ?_) (fun hc_40 => ?_)
    · have hf := pe_f hf hc_40
      refine lv_aload_n hx hb dX9_product_28 rfl (lv_at hl 0 rfl) ?_
      refine va_get (ci := 9) (v := .ref (a 2)) hx hb hts wX9_in hown hK hP 0 rfl rfl 0 (by decide) (hts _ mw_2_74) (fun _ h9 => h9) rfl dX9_product_29 ?_
      refine lv_iload_n hx hb dX9_product_32 rfl (lv_at hl 1 rfl) ?_
      refine lv_iload_n hx hb dX9_product_33 rfl (lv_at hl 2 rfl) ?_
      obtain ⟨r_41, hk_42, hf⟩ := pe_1 hf
      refine xv_z (As := [.int x1, .int x2]) (rest := []) (q0 := 0) (ci := 7) Cx hP hD hS hl (pl_X9_X7 a cyI cyJ v9_refusals v7_rows v7_lengths v7_sizes v7_rests v7_orders v6_hooks v6_lefts v6_heights v1_table v5_known v8_sizes v8_coefficients v8_undoneSums v8_undos v8_nextUndo v8_imageTaken v0_totals v3_letters v3_count v3_next v3_size v4_values v4_lengths v7_rows v7_lengths v7_sizes v7_rests v7_orders) (c_X7_alike l D cyI cyJ G a H.size v7_rows v7_lengths v7_sizes v7_rests v7_orders x1 x2 r_41 hk_42) pk_X7_alike mw_2_156 ⟨rfl, rfl, Nat.le_of_ble_eq_true rfl, Nat.le_of_ble_eq_true rfl⟩ rfl rfl rfl rfl rfl (Nat.le_of_ble_eq_true rfl) ⟨Nat.le_of_ble_eq_true rfl, Nat.le_of_ble_eq_true rfl⟩ dX9_product_34 (fun H locs hn_43 hP hD hS => ?_)
      refine lv_if_ne (tgt := 47) hx hb dX9_product_37 (by decide) (fun hc_44 => ?_) (fun hc_44 => ?_)
      · have hf := pe_f hf hc_44
        refine lv_iload_n hx hb dX9_product_47 rfl (lv_at hl 3 rfl) ?_
        refine lv_iconst (v := (-1 : Int32)) hx hb dX9_product_48 (by decide) ?_
        refine lv_icmp_ge (tgt := 59) hx hb dX9_product_49 (by decide) (fun hc_45 => ?_) (fun hc_45 => ?_)
        · have hf := pe_t hf hc_45
          refine lv_iload_n hx hb dX9_product_59 rfl (lv_at hl 3 rfl) ?_
          refine lv_iconst (v := (-1 : Int32)) hx hb dX9_product_60 (by decide) ?_
          refine lv_icmp_ne (tgt := 76) hx hb dX9_product_61 (by decide) (fun hc_46 => ?_) (fun hc_46 => ?_)
          · have hf := pe_f hf hc_46
            refine lv_aload_n hx hb dX9_product_76 rfl (lv_at hl 0 rfl) ?_
            refine va_get (ci := 9) (v := .ref (a 15)) hx hb hts wX9_in hown hK hP 0 rfl rfl 4 (by decide) (hts _ mw_2_78) (fun _ h9 => h9) rfl dX9_product_77 ?_
            refine lv_iload_n hx hb dX9_product_80 rfl (lv_at hl 1 rfl) ?_
            refine lv_iload_n hx hb dX9_product_81 rfl (lv_at hl 2 rfl) ?_
            refine lv_iload_n hx hb dX9_product_82 rfl (lv_at hl 3 rfl) ?_
            obtain ⟨r_47, v5_known_48, hk_49, hf⟩ := pe_2 hf
            refine xv_i (As := [.int x1, .int x2, .int x3]) (rest := []) (q0 := 0) (ci := 5) Cx hP hD hS hl (pl_X9_X5 a cyI cyJ v9_refusals v7_rows v7_lengths v7_sizes v7_rests v7_orders v6_hooks v6_lefts v6_heights v1_table v5_known v8_sizes v8_coefficients v8_undoneSums v8_undos v8_nextUndo v8_imageTaken v0_totals v3_letters v3_count v3_next v3_size v4_values v4_lengths v5_known_48 v1_table v7_rows v7_lengths v7_sizes v7_rests v7_orders) (c_X5_partOfProduct l D cyI cyJ G a H.size v5_known v1_table v7_rows v7_lengths v7_sizes v7_rests v7_orders x1 x2 x3 r_47 v5_known_48 hk_49) pk_X5_partOfProduct mw_2_213 ⟨rfl, rfl, Nat.le_of_ble_eq_true rfl, Nat.le_of_ble_eq_true rfl⟩ rfl rfl rfl rfl rfl (Nat.le_of_ble_eq_true rfl) ⟨Nat.le_of_ble_eq_true rfl, Nat.le_of_ble_eq_true rfl⟩ dX9_product_83 (fun H locs hP hD hS => ?_)
            obtain ⟨rfl, rfl, rfl⟩ := po_3 hf
            rw [← hQ]; exact xe_iret Cx rfl hP hD hS dX9_product_86
          · have hf := pe_t hf hc_46
            refine lv_aload_n hx hb dX9_product_64 rfl (lv_at hl 0 rfl) ?_
            refine va_get (ci := 9) (v := .ref (a 15)) hx hb hts wX9_in hown hK hP 0 rfl rfl 4 (by decide) (hts _ mw_2_78) (fun _ h9 => h9) rfl dX9_product_65 ?_
            refine lv_iload_n hx hb dX9_product_68 rfl (lv_at hl 1 rfl) ?_
            refine lv_iload_n hx hb dX9_product_69 rfl (lv_at hl 2 rfl) ?_
            obtain ⟨r_50, v5_known_51, hk_52, hf⟩ := pe_2 hf
            refine xv_i (As := [.int x1, .int x2]) (rest := []) (q0 := 0) (ci := 5) Cx hP hD hS hl (pl_X9_X5 a cyI cyJ v9_refusals v7_rows v7_lengths v7_sizes v7_rests v7_orders v6_hooks v6_lefts v6_heights v1_table v5_known v8_sizes v8_coefficients v8_undoneSums v8_undos v8_nextUndo v8_imageTaken v0_totals v3_letters v3_count v3_next v3_size v4_values v4_lengths v5_known_51 v1_table v7_rows v7_lengths v7_sizes v7_rests v7_orders) (c_X5_lengthOfProduct l D cyI cyJ G a H.size v5_known v1_table v7_rows v7_lengths v7_sizes v7_rests v7_orders x1 x2 r_50 v5_known_51 hk_52) pk_X5_lengthOfProduct mw_2_200 ⟨rfl, rfl, Nat.le_of_ble_eq_true rfl, Nat.le_of_ble_eq_true rfl⟩ rfl rfl rfl rfl rfl (Nat.le_of_ble_eq_true rfl) ⟨Nat.le_of_ble_eq_true rfl, Nat.le_of_ble_eq_true rfl⟩ dX9_product_70 (fun H locs hP hD hS => ?_)
            refine lv_goto (tgt := 86) hx hb dX9_product_73 (by decide) ?_
            obtain ⟨rfl, rfl, rfl⟩ := po_3 hf
            rw [← hQ]; exact xe_iret Cx rfl hP hD hS dX9_product_86
        · have hf := pe_f hf hc_45
          refine lv_aload_n hx hb dX9_product_52 rfl (lv_at hl 0 rfl) ?_
          refine lv_bipush (v := (-4 : Int32)) hx hb dX9_product_53 (by decide) ?_
          obtain ⟨r_53, v9_refusals_54, hk_55, hf⟩ := pe_2 hf
          refine xv_i (As := [.int (-4 : Int32)]) (rest := []) (q0 := 0) (ci := 9) Cx hP hD hS hl (pl_X9_X9 a cyI cyJ v9_refusals v7_rows v7_lengths v7_sizes v7_rests v7_orders v6_hooks v6_lefts v6_heights v1_table v5_known v8_sizes v8_coefficients v8_undoneSums v8_undos v8_nextUndo v8_imageTaken v0_totals v3_letters v3_count v3_next v3_size v4_values v4_lengths v9_refusals_54 v7_rows v7_lengths v7_sizes v7_rests v7_orders v6_hooks v6_lefts v6_heights v1_table v5_known v8_sizes v8_coefficients v8_undoneSums v8_undos v8_nextUndo v8_imageTaken v0_totals v3_letters v3_count v3_next v3_size v4_values v4_lengths) (c_X9_refuse l D cyI cyJ G a H.size v9_refusals v7_rows v7_lengths v7_sizes v7_rests v7_orders v6_hooks v6_lefts v6_heights v1_table v5_known v8_sizes v8_coefficients v8_undoneSums v8_undos v8_nextUndo v8_imageTaken v0_totals v3_letters v3_count v3_next v3_size v4_values v4_lengths (-4 : Int32) r_53 v9_refusals_54 hk_55) pk_X9_refuse mw_2_110 ⟨rfl, rfl, Nat.le_of_ble_eq_true rfl, Nat.le_of_ble_eq_true rfl⟩ rfl rfl rfl rfl rfl (Nat.le_of_ble_eq_true rfl) ⟨Nat.le_of_ble_eq_true rfl, Nat.le_of_ble_eq_true rfl⟩ dX9_product_55 (fun H locs hP hD hS => ?_)
          obtain ⟨rfl, rfl, rfl⟩ := po_3 hf
          rw [← hQ]; exact xe_iret Cx rfl hP hD hS dX9_product_58
      · have hf := pe_t hf hc_44
        refine lv_aload_n hx hb dX9_product_40 rfl (lv_at hl 0 rfl) ?_
        refine lv_bipush (v := (-3 : Int32)) hx hb dX9_product_41 (by decide) ?_
        obtain ⟨r_56, v9_refusals_57, hk_58, hf⟩ := pe_2 hf
        refine xv_i (As := [.int (-3 : Int32)]) (rest := []) (q0 := 0) (ci := 9) Cx hP hD hS hl (pl_X9_X9 a cyI cyJ v9_refusals v7_rows v7_lengths v7_sizes v7_rests v7_orders v6_hooks v6_lefts v6_heights v1_table v5_known v8_sizes v8_coefficients v8_undoneSums v8_undos v8_nextUndo v8_imageTaken v0_totals v3_letters v3_count v3_next v3_size v4_values v4_lengths v9_refusals_57 v7_rows v7_lengths v7_sizes v7_rests v7_orders v6_hooks v6_lefts v6_heights v1_table v5_known v8_sizes v8_coefficients v8_undoneSums v8_undos v8_nextUndo v8_imageTaken v0_totals v3_letters v3_count v3_next v3_size v4_values v4_lengths) (c_X9_refuse l D cyI cyJ G a H.size v9_refusals v7_rows v7_lengths v7_sizes v7_rests v7_orders v6_hooks v6_lefts v6_heights v1_table v5_known v8_sizes v8_coefficients v8_undoneSums v8_undos v8_nextUndo v8_imageTaken v0_totals v3_letters v3_count v3_next v3_size v4_values v4_lengths (-3 : Int32) r_56 v9_refusals_57 hk_58) pk_X9_refuse mw_2_110 ⟨rfl, rfl, Nat.le_of_ble_eq_true rfl, Nat.le_of_ble_eq_true rfl⟩ rfl rfl rfl rfl rfl (Nat.le_of_ble_eq_true rfl) ⟨Nat.le_of_ble_eq_true rfl, Nat.le_of_ble_eq_true rfl⟩ dX9_product_43 (fun H locs hP hD hS => ?_)
        obtain ⟨rfl, rfl, rfl⟩ := po_3 hf
        rw [← hQ]; exact xe_iret Cx rfl hP hD hS dX9_product_46
    · have hf := pe_t hf hc_40
      exact w_22 v9_refusals v5_known H locs ls hf hP hD hS (lv_sub hl [0] rfl)
def f_X9_greatest_22 (v7_sizes : Nat → Int32) (v7_orders : Nat → Int32) (v1_table : Nat → Int32) (v9_refusals : Nat → Int32) (v5_known : Nat → Int32) : Option (Int32 × (Nat → Int32) × (Nat → Int32)) := p_b2 (f_X9_refuse v9_refusals (-1 : Int32)) (fun r_1 v9_refusals_2 => some (r_1, v9_refusals_2, v5_known))
def f_X9_greatest (v9_refusals : Nat → Int32) (v7_sizes : Nat → Int32) (v7_orders : Nat → Int32) (v1_table : Nat → Int32) (v5_known : Nat → Int32) (x1 : Int32) (x2 : Int32) : Option (Int32 × (Nat → Int32) × (Nat → Int32)) := p_b1 (f_X7_has x1) (fun r_4 => if r_4 = 0 then ((f_X9_greatest_22 v7_sizes v7_orders v1_table) v9_refusals v5_known) else (p_b1 (f_X7_has x2) (fun r_8 => if r_8 = 0 then ((f_X9_greatest_22 v7_sizes v7_orders v1_table) v9_refusals v5_known) else (p_b1 (f_X7_alike v7_sizes x1 x2) (fun r_12 => if r_12 = 0 then (p_b2 (f_X9_refuse v9_refusals (-3 : Int32)) (fun r_19 v9_refusals_20 => some (r_19, v9_refusals_20, v5_known))) else (p_b2 (f_X5_greatestInProduct v7_sizes v7_orders v1_table v5_known x1 x2) (fun r_16 v5_known_17 => some (r_16, v9_refusals, v5_known_17))))))))
set_option maxHeartbeats 4000000 in
set_option maxRecDepth 20000 in
theorem c_X9_greatest (l : Launch) (D : va_G) (cyI cyJ : ClassId) (G a : Nat → Nat) (sz : Nat) (v9_refusals : Nat → Int32) (v7_rows : Nat → Int32) (v7_lengths : Nat → Int32) (v7_sizes : Nat → Int32) (v7_rests : Nat → Int32) (v7_orders : Nat → Int32) (v6_hooks : Nat → Int32) (v6_lefts : Nat → Int32) (v6_heights : Nat → Int32) (v1_table : Nat → Int32) (v5_known : Nat → Int32) (v8_sizes : Nat → Int32) (v8_coefficients : Nat → Int32) (v8_undoneSums : Nat → Int32) (v8_undos : Int32) (v8_nextUndo : Int32) (v8_imageTaken : Int32) (v0_totals : Nat → Int64) (v3_letters : Nat → Int32) (v3_count : Int32) (v3_next : Int32) (v3_size : Int32) (v4_values : Nat → Int32) (v4_lengths : Nat → Int32) (x1 : Int32) (x2 : Int32) (ro : Int32) (ov9_refusals : Nat → Int32) (ov5_known : Nat → Int32) (hf : f_X9_greatest v9_refusals v7_sizes v7_orders v1_table v5_known x1 x2 = some (ro, ov9_refusals, ov5_known)) : xm_i l yX9_greatest (Cond.code yX9_greatest cX9_greatest 3 (some .int) :: xg_tbl) { frames := 6, cells := 0, slots := 0, locals := 147 } D xcl [(cyI, .int), (cyJ, .long)] G sz [.ref (a 0), .int x1, .int x2] (wd_X9 a cyI cyJ v9_refusals v7_rows v7_lengths v7_sizes v7_rests v7_orders v6_hooks v6_lefts v6_heights v1_table v5_known v8_sizes v8_coefficients v8_undoneSums v8_undos v8_nextUndo v8_imageTaken v0_totals v3_letters v3_count v3_next v3_size v4_values v4_lengths) (wd_X9 a cyI cyJ ov9_refusals v7_rows v7_lengths v7_sizes v7_rests v7_orders v6_hooks v6_lefts v6_heights v1_table ov5_known v8_sizes v8_coefficients v8_undoneSums v8_undos v8_nextUndo v8_imageTaken v0_totals v3_letters v3_count v3_next v3_size v4_values v4_lengths) ro := by
  refine xm_of_i (own := RX9) (by decide) rfl rfl (Nat.le_of_ble_eq_true rfl) ?_
  intro p e s m args below meth c ls Q A hQ hAe hin Cx hsz hP hD hS hl
  have Cx1 := Cx
  obtain ⟨⟨hx, hb, hml, hown, hts⟩, hr, hlocks, hK, hA, hT⟩ := Cx1
  have hl : lv_has ls 3 [(0, .ref (a 0)), (1, .int x1), (2, .int x2)] := hl
  obtain ⟨H, eH⟩ : ∃ H, H = s.heap := ⟨_, rfl⟩
  obtain ⟨locs, eL⟩ : ∃ L : List Loc, L = [] := ⟨_, rfl⟩
  rw [← eH] at hP
  have hS : va_S A s.heap H locs := by rw [eH, eL]; exact hS
  suffices hgo : W p l e { frames := 6, cells := 0, slots := 0, locals := 147 } s m args below meth c H locs 0 0 Q (F0 m 0 ls []) by rw [eH, eL] at hgo; exact hgo
  clear eH eL
  unfold f_X9_greatest at hf
  have w_22 : ∀ (v9_refusals : Nat → Int32) (v5_known : Nat → Int32) (H : Heap) (locs : List Loc) (ls : Array Slot), (f_X9_greatest_22 v7_sizes v7_orders v1_table) v9_refusals v5_known = some (ro, ov9_refusals, ov5_known) → va_P D xcl (wd_X9 a cyI cyJ v9_refusals v7_rows v7_lengths v7_sizes v7_rests v7_orders v6_hooks v6_lefts v6_heights v1_table v5_known v8_sizes v8_coefficients v8_undoneSums v8_undos v8_nextUndo v8_imageTaken v0_totals v3_letters v3_count v3_next v3_size v4_values v4_lengths) H → va_D A (wd_X9 a cyI cyJ v9_refusals v7_rows v7_lengths v7_sizes v7_rests v7_orders v6_hooks v6_lefts v6_heights v1_table v5_known v8_sizes v8_coefficients v8_undoneSums v8_undos v8_nextUndo v8_imageTaken v0_totals v3_letters v3_count v3_next v3_size v4_values v4_lengths) → va_S A s.heap H locs → lv_has ls 3 [(0, .ref (a 0))] → W p l e { frames := 6, cells := 0, slots := 0, locals := 147 } s m args below meth c H locs 0 0 Q (F0 m 22 ls []) := by
    intro v9_refusals v5_known H locs ls hf hP hD hS hl
    unfold f_X9_greatest_22 at hf
    refine lv_aload_n hx hb dX9_greatest_22 rfl (lv_at hl 0 rfl) ?_
    refine lv_iconst (v := (-1 : Int32)) hx hb dX9_greatest_23 (by decide) ?_
    obtain ⟨r_22, v9_refusals_23, hk_24, hf⟩ := pe_2 hf
    refine xv_i (As := [.int (-1 : Int32)]) (rest := []) (q0 := 0) (ci := 9) Cx hP hD hS hl (pl_X9_X9 a cyI cyJ v9_refusals v7_rows v7_lengths v7_sizes v7_rests v7_orders v6_hooks v6_lefts v6_heights v1_table v5_known v8_sizes v8_coefficients v8_undoneSums v8_undos v8_nextUndo v8_imageTaken v0_totals v3_letters v3_count v3_next v3_size v4_values v4_lengths v9_refusals_23 v7_rows v7_lengths v7_sizes v7_rests v7_orders v6_hooks v6_lefts v6_heights v1_table v5_known v8_sizes v8_coefficients v8_undoneSums v8_undos v8_nextUndo v8_imageTaken v0_totals v3_letters v3_count v3_next v3_size v4_values v4_lengths) (c_X9_refuse l D cyI cyJ G a H.size v9_refusals v7_rows v7_lengths v7_sizes v7_rests v7_orders v6_hooks v6_lefts v6_heights v1_table v5_known v8_sizes v8_coefficients v8_undoneSums v8_undos v8_nextUndo v8_imageTaken v0_totals v3_letters v3_count v3_next v3_size v4_values v4_lengths (-1 : Int32) r_22 v9_refusals_23 hk_24) pk_X9_refuse mw_2_110 ⟨rfl, rfl, Nat.le_of_ble_eq_true rfl, Nat.le_of_ble_eq_true rfl⟩ rfl rfl rfl rfl rfl (Nat.le_of_ble_eq_true rfl) ⟨Nat.le_of_ble_eq_true rfl, Nat.le_of_ble_eq_true rfl⟩ dX9_greatest_24 (fun H locs hP hD hS => ?_)
    obtain ⟨rfl, rfl, rfl⟩ := po_3 hf
    rw [← hQ]; exact xe_iret Cx rfl hP hD hS dX9_greatest_27
  refine lv_aload_n hx hb dX9_greatest_0 rfl (lv_at hl 0 rfl) ?_
  refine va_get (ci := 9) (v := .ref (a 2)) hx hb hts wX9_in hown hK hP 0 rfl rfl 0 (by decide) (hts _ mw_2_74) (fun _ h9 => h9) rfl dX9_greatest_1 ?_
  refine lv_iload_n hx hb dX9_greatest_4 rfl (lv_at hl 1 rfl) ?_
  obtain ⟨r_25, hk_26, hf⟩ := pe_1 hf
  refine xv_z (As := [.int x1]) (rest := []) (q0 := 0) (ci := 7) Cx hP hD hS hl (pl_X9_X7 a cyI cyJ v9_refusals v7_rows v7_lengths v7_sizes v7_rests v7_orders v6_hooks v6_lefts v6_heights v1_table v5_known v8_sizes v8_coefficients v8_undoneSums v8_undos v8_nextUndo v8_imageTaken v0_totals v3_letters v3_count v3_next v3_size v4_values v4_lengths v7_rows v7_lengths v7_sizes v7_rests v7_orders) (c_X7_has l D cyI cyJ G a H.size v7_rows v7_lengths v7_sizes v7_rests v7_orders x1 r_25 hk_26) pk_X7_has mw_2_109 ⟨rfl, rfl, Nat.le_of_ble_eq_true rfl, Nat.le_of_ble_eq_true rfl⟩ rfl rfl rfl rfl rfl (Nat.le_of_ble_eq_true rfl) ⟨Nat.le_of_ble_eq_true rfl, Nat.le_of_ble_eq_true rfl⟩ dX9_greatest_5 (fun H locs hn_27 hP hD hS => ?_)
  refine lv_if_eq (tgt := 22) hx hb dX9_greatest_8 (by decide) (fun hc_28 => ?_) (fun hc_28 => ?_)
  · have hf := pe_t hf hc_28
    exact w_22 v9_refusals v5_known H locs ls hf hP hD hS (lv_sub hl [0] rfl)
  · have hf := pe_f hf hc_28
    refine lv_aload_n hx hb dX9_greatest_11 rfl (lv_at hl 0 rfl) ?_
    refine va_get (ci := 9) (v := .ref (a 2)) hx hb hts wX9_in hown hK hP 0 rfl rfl 0 (by decide) (hts _ mw_2_74) (fun _ h9 => h9) rfl dX9_greatest_12 ?_
    refine lv_iload_n hx hb dX9_greatest_15 rfl (lv_at hl 2 rfl) ?_
    obtain ⟨r_29, hk_30, hf⟩ := pe_1 hf
    refine xv_z (As := [.int x2]) (rest := []) (q0 := 0) (ci := 7) Cx hP hD hS hl (pl_X9_X7 a cyI cyJ v9_refusals v7_rows v7_lengths v7_sizes v7_rests v7_orders v6_hooks v6_lefts v6_heights v1_table v5_known v8_sizes v8_coefficients v8_undoneSums v8_undos v8_nextUndo v8_imageTaken v0_totals v3_letters v3_count v3_next v3_size v4_values v4_lengths v7_rows v7_lengths v7_sizes v7_rests v7_orders) (c_X7_has l D cyI cyJ G a H.size v7_rows v7_lengths v7_sizes v7_rests v7_orders x2 r_29 hk_30) pk_X7_has mw_2_109 ⟨rfl, rfl, Nat.le_of_ble_eq_true rfl, Nat.le_of_ble_eq_true rfl⟩ rfl rfl rfl rfl rfl (Nat.le_of_ble_eq_true rfl) ⟨Nat.le_of_ble_eq_true rfl, Nat.le_of_ble_eq_true rfl⟩ dX9_greatest_16 (fun H locs hn_31 hP hD hS => ?_)
    refine lv_if_ne (tgt := 28) hx hb dX9_greatest_19 (by decide) (fun hc_32 => ?_) (fun hc_32 => ?_)
    · have hf := pe_f hf hc_32
      refine lv_aload_n hx hb dX9_greatest_28 rfl (lv_at hl 0 rfl) ?_
      refine va_get (ci := 9) (v := .ref (a 2)) hx hb hts wX9_in hown hK hP 0 rfl rfl 0 (by decide) (hts _ mw_2_74) (fun _ h9 => h9) rfl dX9_greatest_29 ?_
      refine lv_iload_n hx hb dX9_greatest_32 rfl (lv_at hl 1 rfl) ?_
      refine lv_iload_n hx hb dX9_greatest_33 rfl (lv_at hl 2 rfl) ?_
      obtain ⟨r_33, hk_34, hf⟩ := pe_1 hf
      refine xv_z (As := [.int x1, .int x2]) (rest := []) (q0 := 0) (ci := 7) Cx hP hD hS hl (pl_X9_X7 a cyI cyJ v9_refusals v7_rows v7_lengths v7_sizes v7_rests v7_orders v6_hooks v6_lefts v6_heights v1_table v5_known v8_sizes v8_coefficients v8_undoneSums v8_undos v8_nextUndo v8_imageTaken v0_totals v3_letters v3_count v3_next v3_size v4_values v4_lengths v7_rows v7_lengths v7_sizes v7_rests v7_orders) (c_X7_alike l D cyI cyJ G a H.size v7_rows v7_lengths v7_sizes v7_rests v7_orders x1 x2 r_33 hk_34) pk_X7_alike mw_2_156 ⟨rfl, rfl, Nat.le_of_ble_eq_true rfl, Nat.le_of_ble_eq_true rfl⟩ rfl rfl rfl rfl rfl (Nat.le_of_ble_eq_true rfl) ⟨Nat.le_of_ble_eq_true rfl, Nat.le_of_ble_eq_true rfl⟩ dX9_greatest_34 (fun H locs hn_35 hP hD hS => ?_)
      refine lv_if_ne (tgt := 47) hx hb dX9_greatest_37 (by decide) (fun hc_36 => ?_) (fun hc_36 => ?_)
      · have hf := pe_f hf hc_36
        refine lv_aload_n hx hb dX9_greatest_47 rfl (lv_at hl 0 rfl) ?_
        refine va_get (ci := 9) (v := .ref (a 15)) hx hb hts wX9_in hown hK hP 0 rfl rfl 4 (by decide) (hts _ mw_2_78) (fun _ h9 => h9) rfl dX9_greatest_48 ?_
        refine lv_iload_n hx hb dX9_greatest_51 rfl (lv_at hl 1 rfl) ?_
        refine lv_iload_n hx hb dX9_greatest_52 rfl (lv_at hl 2 rfl) ?_
        obtain ⟨r_37, v5_known_38, hk_39, hf⟩ := pe_2 hf
        refine xv_i (As := [.int x1, .int x2]) (rest := []) (q0 := 0) (ci := 5) Cx hP hD hS hl (pl_X9_X5 a cyI cyJ v9_refusals v7_rows v7_lengths v7_sizes v7_rests v7_orders v6_hooks v6_lefts v6_heights v1_table v5_known v8_sizes v8_coefficients v8_undoneSums v8_undos v8_nextUndo v8_imageTaken v0_totals v3_letters v3_count v3_next v3_size v4_values v4_lengths v5_known_38 v1_table v7_rows v7_lengths v7_sizes v7_rests v7_orders) (c_X5_greatestInProduct l D cyI cyJ G a H.size v5_known v1_table v7_rows v7_lengths v7_sizes v7_rests v7_orders x1 x2 r_37 v5_known_38 hk_39) pk_X5_greatestInProduct mw_2_221 ⟨rfl, rfl, Nat.le_of_ble_eq_true rfl, Nat.le_of_ble_eq_true rfl⟩ rfl rfl rfl rfl rfl (Nat.le_of_ble_eq_true rfl) ⟨Nat.le_of_ble_eq_true rfl, Nat.le_of_ble_eq_true rfl⟩ dX9_greatest_53 (fun H locs hP hD hS => ?_)
        obtain ⟨rfl, rfl, rfl⟩ := po_3 hf
        rw [← hQ]; exact xe_iret Cx rfl hP hD hS dX9_greatest_56
      · have hf := pe_t hf hc_36
        refine lv_aload_n hx hb dX9_greatest_40 rfl (lv_at hl 0 rfl) ?_
        refine lv_bipush (v := (-3 : Int32)) hx hb dX9_greatest_41 (by decide) ?_
        obtain ⟨r_40, v9_refusals_41, hk_42, hf⟩ := pe_2 hf
        refine xv_i (As := [.int (-3 : Int32)]) (rest := []) (q0 := 0) (ci := 9) Cx hP hD hS hl (pl_X9_X9 a cyI cyJ v9_refusals v7_rows v7_lengths v7_sizes v7_rests v7_orders v6_hooks v6_lefts v6_heights v1_table v5_known v8_sizes v8_coefficients v8_undoneSums v8_undos v8_nextUndo v8_imageTaken v0_totals v3_letters v3_count v3_next v3_size v4_values v4_lengths v9_refusals_41 v7_rows v7_lengths v7_sizes v7_rests v7_orders v6_hooks v6_lefts v6_heights v1_table v5_known v8_sizes v8_coefficients v8_undoneSums v8_undos v8_nextUndo v8_imageTaken v0_totals v3_letters v3_count v3_next v3_size v4_values v4_lengths) (c_X9_refuse l D cyI cyJ G a H.size v9_refusals v7_rows v7_lengths v7_sizes v7_rests v7_orders v6_hooks v6_lefts v6_heights v1_table v5_known v8_sizes v8_coefficients v8_undoneSums v8_undos v8_nextUndo v8_imageTaken v0_totals v3_letters v3_count v3_next v3_size v4_values v4_lengths (-3 : Int32) r_40 v9_refusals_41 hk_42) pk_X9_refuse mw_2_110 ⟨rfl, rfl, Nat.le_of_ble_eq_true rfl, Nat.le_of_ble_eq_true rfl⟩ rfl rfl rfl rfl rfl (Nat.le_of_ble_eq_true rfl) ⟨Nat.le_of_ble_eq_true rfl, Nat.le_of_ble_eq_true rfl⟩ dX9_greatest_43 (fun H locs hP hD hS => ?_)
        obtain ⟨rfl, rfl, rfl⟩ := po_3 hf
        rw [← hQ]; exact xe_iret Cx rfl hP hD hS dX9_greatest_46
    · have hf := pe_t hf hc_32
      exact w_22 v9_refusals v5_known H locs ls hf hP hD hS (lv_sub hl [0] rfl)
def f_X9_canGrow (v7_sizes : Nat → Int32) (x1 : Int32) : Option (Int32) := p_b1 (f_X7_sizeOf v7_sizes x1) (fun r_1 => if (4 : Int32) < r_1 then (some ((0 : Int32))) else (some ((1 : Int32))))
set_option maxHeartbeats 4000000 in
set_option maxRecDepth 20000 in
theorem c_X9_canGrow (l : Launch) (D : va_G) (cyI cyJ : ClassId) (G a : Nat → Nat) (sz : Nat) (v9_refusals : Nat → Int32) (v7_rows : Nat → Int32) (v7_lengths : Nat → Int32) (v7_sizes : Nat → Int32) (v7_rests : Nat → Int32) (v7_orders : Nat → Int32) (v6_hooks : Nat → Int32) (v6_lefts : Nat → Int32) (v6_heights : Nat → Int32) (v1_table : Nat → Int32) (v5_known : Nat → Int32) (v8_sizes : Nat → Int32) (v8_coefficients : Nat → Int32) (v8_undoneSums : Nat → Int32) (v8_undos : Int32) (v8_nextUndo : Int32) (v8_imageTaken : Int32) (v0_totals : Nat → Int64) (v3_letters : Nat → Int32) (v3_count : Int32) (v3_next : Int32) (v3_size : Int32) (v4_values : Nat → Int32) (v4_lengths : Nat → Int32) (x1 : Int32) (ro : Int32) (hf : f_X9_canGrow v7_sizes x1 = some ro) : xm_z l yX9_canGrow (Cond.code yX9_canGrow cX9_canGrow 2 (some .boolean) :: xg_tbl) { frames := 2, cells := 0, slots := 0, locals := 42 } D xcl [(cyI, .int), (cyJ, .long)] G sz [.ref (a 0), .int x1] (wd_X9 a cyI cyJ v9_refusals v7_rows v7_lengths v7_sizes v7_rests v7_orders v6_hooks v6_lefts v6_heights v1_table v5_known v8_sizes v8_coefficients v8_undoneSums v8_undos v8_nextUndo v8_imageTaken v0_totals v3_letters v3_count v3_next v3_size v4_values v4_lengths) (wd_X9 a cyI cyJ v9_refusals v7_rows v7_lengths v7_sizes v7_rests v7_orders v6_hooks v6_lefts v6_heights v1_table v5_known v8_sizes v8_coefficients v8_undoneSums v8_undos v8_nextUndo v8_imageTaken v0_totals v3_letters v3_count v3_next v3_size v4_values v4_lengths) ro := by
  refine xm_of_z (own := RX9) (by decide) rfl rfl (Nat.le_of_ble_eq_true rfl) ?_
  intro p e s m args below meth c ls Q A hQ hAe hin Cx hsz hP hD hS hl
  have Cx1 := Cx
  obtain ⟨⟨hx, hb, hml, hown, hts⟩, hr, hlocks, hK, hA, hT⟩ := Cx1
  have hl : lv_has ls 2 [(0, .ref (a 0)), (1, .int x1)] := hl
  obtain ⟨H, eH⟩ : ∃ H, H = s.heap := ⟨_, rfl⟩
  obtain ⟨locs, eL⟩ : ∃ L : List Loc, L = [] := ⟨_, rfl⟩
  rw [← eH] at hP
  have hS : va_S A s.heap H locs := by rw [eH, eL]; exact hS
  suffices hgo : W p l e { frames := 2, cells := 0, slots := 0, locals := 42 } s m args below meth c H locs 0 0 Q (F0 m 0 ls []) by rw [eH, eL] at hgo; exact hgo
  clear eH eL
  unfold f_X9_canGrow at hf
  refine lv_aload_n hx hb dX9_canGrow_0 rfl (lv_at hl 0 rfl) ?_
  refine va_get (ci := 9) (v := .ref (a 2)) hx hb hts wX9_in hown hK hP 0 rfl rfl 0 (by decide) (hts _ mw_2_74) (fun _ h9 => h9) rfl dX9_canGrow_1 ?_
  refine lv_iload_n hx hb dX9_canGrow_4 rfl (lv_at hl 1 rfl) ?_
  obtain ⟨r_4, hk_5, hf⟩ := pe_1 hf
  refine xv_i (As := [.int x1]) (rest := []) (q0 := 0) (ci := 7) Cx hP hD hS hl (pl_X9_X7 a cyI cyJ v9_refusals v7_rows v7_lengths v7_sizes v7_rests v7_orders v6_hooks v6_lefts v6_heights v1_table v5_known v8_sizes v8_coefficients v8_undoneSums v8_undos v8_nextUndo v8_imageTaken v0_totals v3_letters v3_count v3_next v3_size v4_values v4_lengths v7_rows v7_lengths v7_sizes v7_rests v7_orders) (c_X7_sizeOf l D cyI cyJ G a H.size v7_rows v7_lengths v7_sizes v7_rests v7_orders x1 r_4 hk_5) pk_X7_sizeOf mw_2_115 ⟨rfl, rfl, Nat.le_of_ble_eq_true rfl, Nat.le_of_ble_eq_true rfl⟩ rfl rfl rfl rfl rfl (Nat.le_of_ble_eq_true rfl) ⟨Nat.le_of_ble_eq_true rfl, Nat.le_of_ble_eq_true rfl⟩ dX9_canGrow_5 (fun H locs hP hD hS => ?_)
  refine lv_iconst (v := (4 : Int32)) hx hb dX9_canGrow_8 (by decide) ?_
  refine lv_icmp_gt (tgt := 16) hx hb dX9_canGrow_9 (by decide) (fun hc_6 => ?_) (fun hc_6 => ?_)
  · have hf := pe_t hf hc_6
    refine lv_iconst (v := (0 : Int32)) hx hb dX9_canGrow_16 (by decide) ?_
    obtain rfl := po_1 hf
    rw [← hQ]; exact xe_zret Cx rfl rfl hP hD hS dX9_canGrow_17
  · have hf := pe_f hf hc_6
    refine lv_iconst (v := (1 : Int32)) hx hb dX9_canGrow_12 (by decide) ?_
    refine lv_goto (tgt := 17) hx hb dX9_canGrow_13 (by decide) ?_
    obtain rfl := po_1 hf
    rw [← hQ]; exact xe_zret Cx rfl rfl hP hD hS dX9_canGrow_17
def f_X9_grown (v9_refusals : Nat → Int32) (v7_rows : Nat → Int32) (v7_lengths : Nat → Int32) (v7_sizes : Nat → Int32) (x1 : Int32) (x2 : Int32) : Option (Int32 × (Nat → Int32)) := p_b1 (f_X7_has x1) (fun r_1 => if r_1 = 0 then (p_b2 (f_X9_refuse v9_refusals (-1 : Int32)) (fun r_22 v9_refusals_23 => some (r_22, v9_refusals_23))) else (if 0 ≤ x2 then (if x2 ≤ (8 : Int32) then (p_b1 (f_X9_canGrow v7_sizes x1) (fun r_7 => if r_7 = 0 then (p_b2 (f_X9_refuse v9_refusals (-3 : Int32)) (fun r_11 v9_refusals_12 => some (r_11, v9_refusals_12))) else (p_b1 (f_X7_grownTo v7_rows v7_lengths v7_sizes x1 x2) (fun r_14 => some (r_14, v9_refusals))))) else (p_b2 (f_X9_refuse v9_refusals (-6 : Int32)) (fun r_16 v9_refusals_17 => some (r_16, v9_refusals_17)))) else (p_b2 (f_X9_refuse v9_refusals (-4 : Int32)) (fun r_19 v9_refusals_20 => some (r_19, v9_refusals_20)))))
set_option maxHeartbeats 4000000 in
set_option maxRecDepth 20000 in
theorem c_X9_grown (l : Launch) (D : va_G) (cyI cyJ : ClassId) (G a : Nat → Nat) (sz : Nat) (v9_refusals : Nat → Int32) (v7_rows : Nat → Int32) (v7_lengths : Nat → Int32) (v7_sizes : Nat → Int32) (v7_rests : Nat → Int32) (v7_orders : Nat → Int32) (v6_hooks : Nat → Int32) (v6_lefts : Nat → Int32) (v6_heights : Nat → Int32) (v1_table : Nat → Int32) (v5_known : Nat → Int32) (v8_sizes : Nat → Int32) (v8_coefficients : Nat → Int32) (v8_undoneSums : Nat → Int32) (v8_undos : Int32) (v8_nextUndo : Int32) (v8_imageTaken : Int32) (v0_totals : Nat → Int64) (v3_letters : Nat → Int32) (v3_count : Int32) (v3_next : Int32) (v3_size : Int32) (v4_values : Nat → Int32) (v4_lengths : Nat → Int32) (x1 : Int32) (x2 : Int32) (ro : Int32) (ov9_refusals : Nat → Int32) (hf : f_X9_grown v9_refusals v7_rows v7_lengths v7_sizes x1 x2 = some (ro, ov9_refusals)) : xm_i l yX9_grown (Cond.code yX9_grown cX9_grown 3 (some .int) :: xg_tbl) { frames := 4, cells := 0, slots := 0, locals := 92 } D xcl [(cyI, .int), (cyJ, .long)] G sz [.ref (a 0), .int x1, .int x2] (wd_X9 a cyI cyJ v9_refusals v7_rows v7_lengths v7_sizes v7_rests v7_orders v6_hooks v6_lefts v6_heights v1_table v5_known v8_sizes v8_coefficients v8_undoneSums v8_undos v8_nextUndo v8_imageTaken v0_totals v3_letters v3_count v3_next v3_size v4_values v4_lengths) (wd_X9 a cyI cyJ ov9_refusals v7_rows v7_lengths v7_sizes v7_rests v7_orders v6_hooks v6_lefts v6_heights v1_table v5_known v8_sizes v8_coefficients v8_undoneSums v8_undos v8_nextUndo v8_imageTaken v0_totals v3_letters v3_count v3_next v3_size v4_values v4_lengths) ro := by
  refine xm_of_i (own := RX9) (by decide) rfl rfl (Nat.le_of_ble_eq_true rfl) ?_
  intro p e s m args below meth c ls Q A hQ hAe hin Cx hsz hP hD hS hl
  have Cx1 := Cx
  obtain ⟨⟨hx, hb, hml, hown, hts⟩, hr, hlocks, hK, hA, hT⟩ := Cx1
  have hl : lv_has ls 3 [(0, .ref (a 0)), (1, .int x1), (2, .int x2)] := hl
  obtain ⟨H, eH⟩ : ∃ H, H = s.heap := ⟨_, rfl⟩
  obtain ⟨locs, eL⟩ : ∃ L : List Loc, L = [] := ⟨_, rfl⟩
  rw [← eH] at hP
  have hS : va_S A s.heap H locs := by rw [eH, eL]; exact hS
  suffices hgo : W p l e { frames := 4, cells := 0, slots := 0, locals := 92 } s m args below meth c H locs 0 0 Q (F0 m 0 ls []) by rw [eH, eL] at hgo; exact hgo
  clear eH eL
  unfold f_X9_grown at hf
  refine lv_aload_n hx hb dX9_grown_0 rfl (lv_at hl 0 rfl) ?_
  refine va_get (ci := 9) (v := .ref (a 2)) hx hb hts wX9_in hown hK hP 0 rfl rfl 0 (by decide) (hts _ mw_2_74) (fun _ h9 => h9) rfl dX9_grown_1 ?_
  refine lv_iload_n hx hb dX9_grown_4 rfl (lv_at hl 1 rfl) ?_
  obtain ⟨r_25, hk_26, hf⟩ := pe_1 hf
  refine xv_z (As := [.int x1]) (rest := []) (q0 := 0) (ci := 7) Cx hP hD hS hl (pl_X9_X7 a cyI cyJ v9_refusals v7_rows v7_lengths v7_sizes v7_rests v7_orders v6_hooks v6_lefts v6_heights v1_table v5_known v8_sizes v8_coefficients v8_undoneSums v8_undos v8_nextUndo v8_imageTaken v0_totals v3_letters v3_count v3_next v3_size v4_values v4_lengths v7_rows v7_lengths v7_sizes v7_rests v7_orders) (c_X7_has l D cyI cyJ G a H.size v7_rows v7_lengths v7_sizes v7_rests v7_orders x1 r_25 hk_26) pk_X7_has mw_2_109 ⟨rfl, rfl, Nat.le_of_ble_eq_true rfl, Nat.le_of_ble_eq_true rfl⟩ rfl rfl rfl rfl rfl (Nat.le_of_ble_eq_true rfl) ⟨Nat.le_of_ble_eq_true rfl, Nat.le_of_ble_eq_true rfl⟩ dX9_grown_5 (fun H locs hn_27 hP hD hS => ?_)
  refine lv_if_ne (tgt := 17) hx hb dX9_grown_8 (by decide) (fun hc_28 => ?_) (fun hc_28 => ?_)
  · have hf := pe_f hf hc_28
    refine lv_iload_n hx hb dX9_grown_17 rfl (lv_at hl 2 rfl) ?_
    refine lv_if_ge (tgt := 28) hx hb dX9_grown_18 (by decide) (fun hc_29 => ?_) (fun hc_29 => ?_)
    · have hf := pe_t hf hc_29
      refine lv_iload_n hx hb dX9_grown_28 rfl (lv_at hl 2 rfl) ?_
      refine lv_bipush (v := (8 : Int32)) hx hb dX9_grown_29 (by decide) ?_
      refine lv_icmp_le (tgt := 41) hx hb dX9_grown_31 (by decide) (fun hc_30 => ?_) (fun hc_30 => ?_)
      · have hf := pe_t hf hc_30
        refine lv_aload_n hx hb dX9_grown_41 rfl (lv_at hl 0 rfl) ?_
        refine lv_iload_n hx hb dX9_grown_42 rfl (lv_at hl 1 rfl) ?_
        obtain ⟨r_31, hk_32, hf⟩ := pe_1 hf
        refine xv_z (As := [.int x1]) (rest := []) (q0 := 0) (ci := 9) Cx hP hD hS hl (pl_X9_X9 a cyI cyJ v9_refusals v7_rows v7_lengths v7_sizes v7_rests v7_orders v6_hooks v6_lefts v6_heights v1_table v5_known v8_sizes v8_coefficients v8_undoneSums v8_undos v8_nextUndo v8_imageTaken v0_totals v3_letters v3_count v3_next v3_size v4_values v4_lengths v9_refusals v7_rows v7_lengths v7_sizes v7_rests v7_orders v6_hooks v6_lefts v6_heights v1_table v5_known v8_sizes v8_coefficients v8_undoneSums v8_undos v8_nextUndo v8_imageTaken v0_totals v3_letters v3_count v3_next v3_size v4_values v4_lengths) (c_X9_canGrow l D cyI cyJ G a H.size v9_refusals v7_rows v7_lengths v7_sizes v7_rests v7_orders v6_hooks v6_lefts v6_heights v1_table v5_known v8_sizes v8_coefficients v8_undoneSums v8_undos v8_nextUndo v8_imageTaken v0_totals v3_letters v3_count v3_next v3_size v4_values v4_lengths x1 r_31 hk_32) pk_X9_canGrow mw_2_229 ⟨rfl, rfl, Nat.le_of_ble_eq_true rfl, Nat.le_of_ble_eq_true rfl⟩ rfl rfl rfl rfl rfl (Nat.le_of_ble_eq_true rfl) ⟨Nat.le_of_ble_eq_true rfl, Nat.le_of_ble_eq_true rfl⟩ dX9_grown_43 (fun H locs hn_33 hP hD hS => ?_)
        refine lv_if_eq (tgt := 61) hx hb dX9_grown_46 (by decide) (fun hc_34 => ?_) (fun hc_34 => ?_)
        · have hf := pe_t hf hc_34
          refine lv_aload_n hx hb dX9_grown_61 rfl (lv_at hl 0 rfl) ?_
          refine lv_bipush (v := (-3 : Int32)) hx hb dX9_grown_62 (by decide) ?_
          obtain ⟨r_35, v9_refusals_36, hk_37, hf⟩ := pe_2 hf
          refine xv_i (As := [.int (-3 : Int32)]) (rest := []) (q0 := 0) (ci := 9) Cx hP hD hS hl (pl_X9_X9 a cyI cyJ v9_refusals v7_rows v7_lengths v7_sizes v7_rests v7_orders v6_hooks v6_lefts v6_heights v1_table v5_known v8_sizes v8_coefficients v8_undoneSums v8_undos v8_nextUndo v8_imageTaken v0_totals v3_letters v3_count v3_next v3_size v4_values v4_lengths v9_refusals_36 v7_rows v7_lengths v7_sizes v7_rests v7_orders v6_hooks v6_lefts v6_heights v1_table v5_known v8_sizes v8_coefficients v8_undoneSums v8_undos v8_nextUndo v8_imageTaken v0_totals v3_letters v3_count v3_next v3_size v4_values v4_lengths) (c_X9_refuse l D cyI cyJ G a H.size v9_refusals v7_rows v7_lengths v7_sizes v7_rests v7_orders v6_hooks v6_lefts v6_heights v1_table v5_known v8_sizes v8_coefficients v8_undoneSums v8_undos v8_nextUndo v8_imageTaken v0_totals v3_letters v3_count v3_next v3_size v4_values v4_lengths (-3 : Int32) r_35 v9_refusals_36 hk_37) pk_X9_refuse mw_2_110 ⟨rfl, rfl, Nat.le_of_ble_eq_true rfl, Nat.le_of_ble_eq_true rfl⟩ rfl rfl rfl rfl rfl (Nat.le_of_ble_eq_true rfl) ⟨Nat.le_of_ble_eq_true rfl, Nat.le_of_ble_eq_true rfl⟩ dX9_grown_64 (fun H locs hP hD hS => ?_)
          obtain ⟨rfl, rfl⟩ := po_2 hf
          rw [← hQ]; exact xe_iret Cx rfl hP hD hS dX9_grown_67
        · have hf := pe_f hf hc_34
          refine lv_aload_n hx hb dX9_grown_49 rfl (lv_at hl 0 rfl) ?_
          refine va_get (ci := 9) (v := .ref (a 2)) hx hb hts wX9_in hown hK hP 0 rfl rfl 0 (by decide) (hts _ mw_2_74) (fun _ h9 => h9) rfl dX9_grown_50 ?_
          refine lv_iload_n hx hb dX9_grown_53 rfl (lv_at hl 1 rfl) ?_
          refine lv_iload_n hx hb dX9_grown_54 rfl (lv_at hl 2 rfl) ?_
          obtain ⟨r_38, hk_39, hf⟩ := pe_1 hf
          refine xv_i (As := [.int x1, .int x2]) (rest := []) (q0 := 0) (ci := 7) Cx hP hD hS hl (pl_X9_X7 a cyI cyJ v9_refusals v7_rows v7_lengths v7_sizes v7_rests v7_orders v6_hooks v6_lefts v6_heights v1_table v5_known v8_sizes v8_coefficients v8_undoneSums v8_undos v8_nextUndo v8_imageTaken v0_totals v3_letters v3_count v3_next v3_size v4_values v4_lengths v7_rows v7_lengths v7_sizes v7_rests v7_orders) (c_X7_grownTo l D cyI cyJ G a H.size v7_rows v7_lengths v7_sizes v7_rests v7_orders x1 x2 r_38 hk_39) pk_X7_grownTo mw_2_233 ⟨rfl, rfl, Nat.le_of_ble_eq_true rfl, Nat.le_of_ble_eq_true rfl⟩ rfl rfl rfl rfl rfl (Nat.le_of_ble_eq_true rfl) ⟨Nat.le_of_ble_eq_true rfl, Nat.le_of_ble_eq_true rfl⟩ dX9_grown_55 (fun H locs hP hD hS => ?_)
          refine lv_goto (tgt := 67) hx hb dX9_grown_58 (by decide) ?_
          obtain ⟨rfl, rfl⟩ := po_2 hf
          rw [← hQ]; exact xe_iret Cx rfl hP hD hS dX9_grown_67
      · have hf := pe_f hf hc_30
        refine lv_aload_n hx hb dX9_grown_34 rfl (lv_at hl 0 rfl) ?_
        refine lv_bipush (v := (-6 : Int32)) hx hb dX9_grown_35 (by decide) ?_
        obtain ⟨r_40, v9_refusals_41, hk_42, hf⟩ := pe_2 hf
        refine xv_i (As := [.int (-6 : Int32)]) (rest := []) (q0 := 0) (ci := 9) Cx hP hD hS hl (pl_X9_X9 a cyI cyJ v9_refusals v7_rows v7_lengths v7_sizes v7_rests v7_orders v6_hooks v6_lefts v6_heights v1_table v5_known v8_sizes v8_coefficients v8_undoneSums v8_undos v8_nextUndo v8_imageTaken v0_totals v3_letters v3_count v3_next v3_size v4_values v4_lengths v9_refusals_41 v7_rows v7_lengths v7_sizes v7_rests v7_orders v6_hooks v6_lefts v6_heights v1_table v5_known v8_sizes v8_coefficients v8_undoneSums v8_undos v8_nextUndo v8_imageTaken v0_totals v3_letters v3_count v3_next v3_size v4_values v4_lengths) (c_X9_refuse l D cyI cyJ G a H.size v9_refusals v7_rows v7_lengths v7_sizes v7_rests v7_orders v6_hooks v6_lefts v6_heights v1_table v5_known v8_sizes v8_coefficients v8_undoneSums v8_undos v8_nextUndo v8_imageTaken v0_totals v3_letters v3_count v3_next v3_size v4_values v4_lengths (-6 : Int32) r_40 v9_refusals_41 hk_42) pk_X9_refuse mw_2_110 ⟨rfl, rfl, Nat.le_of_ble_eq_true rfl, Nat.le_of_ble_eq_true rfl⟩ rfl rfl rfl rfl rfl (Nat.le_of_ble_eq_true rfl) ⟨Nat.le_of_ble_eq_true rfl, Nat.le_of_ble_eq_true rfl⟩ dX9_grown_37 (fun H locs hP hD hS => ?_)
        obtain ⟨rfl, rfl⟩ := po_2 hf
        rw [← hQ]; exact xe_iret Cx rfl hP hD hS dX9_grown_40
    · have hf := pe_f hf hc_29
      refine lv_aload_n hx hb dX9_grown_21 rfl (lv_at hl 0 rfl) ?_
      refine lv_bipush (v := (-4 : Int32)) hx hb dX9_grown_22 (by decide) ?_
      obtain ⟨r_43, v9_refusals_44, hk_45, hf⟩ := pe_2 hf
      refine xv_i (As := [.int (-4 : Int32)]) (rest := []) (q0 := 0) (ci := 9) Cx hP hD hS hl (pl_X9_X9 a cyI cyJ v9_refusals v7_rows v7_lengths v7_sizes v7_rests v7_orders v6_hooks v6_lefts v6_heights v1_table v5_known v8_sizes v8_coefficients v8_undoneSums v8_undos v8_nextUndo v8_imageTaken v0_totals v3_letters v3_count v3_next v3_size v4_values v4_lengths v9_refusals_44 v7_rows v7_lengths v7_sizes v7_rests v7_orders v6_hooks v6_lefts v6_heights v1_table v5_known v8_sizes v8_coefficients v8_undoneSums v8_undos v8_nextUndo v8_imageTaken v0_totals v3_letters v3_count v3_next v3_size v4_values v4_lengths) (c_X9_refuse l D cyI cyJ G a H.size v9_refusals v7_rows v7_lengths v7_sizes v7_rests v7_orders v6_hooks v6_lefts v6_heights v1_table v5_known v8_sizes v8_coefficients v8_undoneSums v8_undos v8_nextUndo v8_imageTaken v0_totals v3_letters v3_count v3_next v3_size v4_values v4_lengths (-4 : Int32) r_43 v9_refusals_44 hk_45) pk_X9_refuse mw_2_110 ⟨rfl, rfl, Nat.le_of_ble_eq_true rfl, Nat.le_of_ble_eq_true rfl⟩ rfl rfl rfl rfl rfl (Nat.le_of_ble_eq_true rfl) ⟨Nat.le_of_ble_eq_true rfl, Nat.le_of_ble_eq_true rfl⟩ dX9_grown_24 (fun H locs hP hD hS => ?_)
      obtain ⟨rfl, rfl⟩ := po_2 hf
      rw [← hQ]; exact xe_iret Cx rfl hP hD hS dX9_grown_27
  · have hf := pe_t hf hc_28
    refine lv_aload_n hx hb dX9_grown_11 rfl (lv_at hl 0 rfl) ?_
    refine lv_iconst (v := (-1 : Int32)) hx hb dX9_grown_12 (by decide) ?_
    obtain ⟨r_46, v9_refusals_47, hk_48, hf⟩ := pe_2 hf
    refine xv_i (As := [.int (-1 : Int32)]) (rest := []) (q0 := 0) (ci := 9) Cx hP hD hS hl (pl_X9_X9 a cyI cyJ v9_refusals v7_rows v7_lengths v7_sizes v7_rests v7_orders v6_hooks v6_lefts v6_heights v1_table v5_known v8_sizes v8_coefficients v8_undoneSums v8_undos v8_nextUndo v8_imageTaken v0_totals v3_letters v3_count v3_next v3_size v4_values v4_lengths v9_refusals_47 v7_rows v7_lengths v7_sizes v7_rests v7_orders v6_hooks v6_lefts v6_heights v1_table v5_known v8_sizes v8_coefficients v8_undoneSums v8_undos v8_nextUndo v8_imageTaken v0_totals v3_letters v3_count v3_next v3_size v4_values v4_lengths) (c_X9_refuse l D cyI cyJ G a H.size v9_refusals v7_rows v7_lengths v7_sizes v7_rests v7_orders v6_hooks v6_lefts v6_heights v1_table v5_known v8_sizes v8_coefficients v8_undoneSums v8_undos v8_nextUndo v8_imageTaken v0_totals v3_letters v3_count v3_next v3_size v4_values v4_lengths (-1 : Int32) r_46 v9_refusals_47 hk_48) pk_X9_refuse mw_2_110 ⟨rfl, rfl, Nat.le_of_ble_eq_true rfl, Nat.le_of_ble_eq_true rfl⟩ rfl rfl rfl rfl rfl (Nat.le_of_ble_eq_true rfl) ⟨Nat.le_of_ble_eq_true rfl, Nat.le_of_ble_eq_true rfl⟩ dX9_grown_13 (fun H locs hP hD hS => ?_)
    obtain ⟨rfl, rfl⟩ := po_2 hf
    rw [← hQ]; exact xe_iret Cx rfl hP hD hS dX9_grown_16
def gf_X9_settled_120 (K_120 : (Nat → Int32) → (Nat → Int32) → Int32 → Int32 → Int32 → Int32 → Int32 → Option (Int32 × (Nat → Int32) × (Nat → Int32))) (v7_rows : Nat → Int32) (v7_lengths : Nat → Int32) (v7_sizes : Nat → Int32) (v7_orders : Nat → Int32) (v1_table : Nat → Int32) (v9_refusals : Nat → Int32) (v5_known : Nat → Int32) (y1 : Int32) (y2 : Int32) (y3 : Int32) (y5 : Int32) (y6 : Int32) : Option (Int32 × (Nat → Int32) × (Nat → Int32)) := if y6 ≤ 0 then (some (y6, v9_refusals, v5_known)) else (p_b2 (f_X5_grownTo v7_rows v7_lengths v7_sizes v7_orders v1_table v5_known y1 y2 y3 (y6 - (1 : Int32))) (fun r_2 v5_known_3 => if r_2 = y5 then (K_120 v9_refusals v5_known_3 y1 y2 y3 y5 (y6 + (-1 : Int32))) else (some (y6, v9_refusals, v5_known_3))))
def f_X9_settled_120 (v7_rows : Nat → Int32) (v7_lengths : Nat → Int32) (v7_sizes : Nat → Int32) (v7_orders : Nat → Int32) (v1_table : Nat → Int32) : Nat → (Nat → Int32) → (Nat → Int32) → Int32 → Int32 → Int32 → Int32 → Int32 → Option (Int32 × (Nat → Int32) × (Nat → Int32))
  | 0 => fun _ _ _ _ _ _ _ => none
  | n + 1 => gf_X9_settled_120 (f_X9_settled_120 v7_rows v7_lengths v7_sizes v7_orders v1_table n) v7_rows v7_lengths v7_sizes v7_orders v1_table
def f_X9_settled_81 (v7_rows : Nat → Int32) (v7_lengths : Nat → Int32) (v7_sizes : Nat → Int32) (v7_orders : Nat → Int32) (v1_table : Nat → Int32) (v9_refusals : Nat → Int32) (v5_known : Nat → Int32) : Option (Int32 × (Nat → Int32) × (Nat → Int32)) := p_b2 (f_X9_refuse v9_refusals (-3 : Int32)) (fun r_6 v9_refusals_7 => some (r_6, v9_refusals_7, v5_known))
def f_X9_settled_57 (v7_rows : Nat → Int32) (v7_lengths : Nat → Int32) (v7_sizes : Nat → Int32) (v7_orders : Nat → Int32) (v1_table : Nat → Int32) (v9_refusals : Nat → Int32) (v5_known : Nat → Int32) (y1 : Int32) (y2 : Int32) (y3 : Int32) (y4 : Int32) : Option (Int32 × (Nat → Int32) × (Nat → Int32)) := p_b1 (f_X9_canGrow v7_sizes y1) (fun r_9 => if r_9 = 0 then ((f_X9_settled_81 v7_rows v7_lengths v7_sizes v7_orders v1_table) v9_refusals v5_known) else (p_b1 (f_X9_canGrow v7_sizes y2) (fun r_13 => if r_13 = 0 then ((f_X9_settled_81 v7_rows v7_lengths v7_sizes v7_orders v1_table) v9_refusals v5_known) else (p_b1 (f_X9_canGrow v7_sizes y3) (fun r_17 => if r_17 = 0 then ((f_X9_settled_81 v7_rows v7_lengths v7_sizes v7_orders v1_table) v9_refusals v5_known) else (p_b2 (f_X5_grownTo v7_rows v7_lengths v7_sizes v7_orders v1_table v5_known y1 y2 y3 (8 : Int32)) (fun r_21 v5_known_22 => if r_21 < 0 then (some (r_21, v9_refusals, v5_known_22)) else (if y4 = (1 : Int32) then (some (r_21, v9_refusals, v5_known_22)) else ((f_X9_settled_120 v7_rows v7_lengths v7_sizes v7_orders v1_table 1000) v9_refusals v5_known_22 y1 y2 y3 r_21 (8 : Int32))))))))))
def f_X9_settled_33 (v7_rows : Nat → Int32) (v7_lengths : Nat → Int32) (v7_sizes : Nat → Int32) (v7_orders : Nat → Int32) (v1_table : Nat → Int32) (v9_refusals : Nat → Int32) (v5_known : Nat → Int32) : Option (Int32 × (Nat → Int32) × (Nat → Int32)) := p_b2 (f_X9_refuse v9_refusals (-1 : Int32)) (fun r_26 v9_refusals_27 => some (r_26, v9_refusals_27, v5_known))
def f_X9_settled (v9_refusals : Nat → Int32) (v7_rows : Nat → Int32) (v7_lengths : Nat → Int32) (v7_sizes : Nat → Int32) (v7_orders : Nat → Int32) (v1_table : Nat → Int32) (v5_known : Nat → Int32) (x1 : Int32) (x2 : Int32) (x3 : Int32) (x4 : Int32) : Option (Int32 × (Nat → Int32) × (Nat → Int32)) := p_b1 (f_X7_has x1) (fun r_29 => if r_29 = 0 then ((f_X9_settled_33 v7_rows v7_lengths v7_sizes v7_orders v1_table) v9_refusals v5_known) else (p_b1 (f_X7_has x2) (fun r_33 => if r_33 = 0 then ((f_X9_settled_33 v7_rows v7_lengths v7_sizes v7_orders v1_table) v9_refusals v5_known) else (p_b1 (f_X7_has x3) (fun r_37 => if r_37 = 0 then ((f_X9_settled_33 v7_rows v7_lengths v7_sizes v7_orders v1_table) v9_refusals v5_known) else (if x4 = 0 then ((f_X9_settled_57 v7_rows v7_lengths v7_sizes v7_orders v1_table) v9_refusals v5_known x1 x2 x3 x4) else (if x4 = (1 : Int32) then ((f_X9_settled_57 v7_rows v7_lengths v7_sizes v7_orders v1_table) v9_refusals v5_known x1 x2 x3 x4) else (p_b2 (f_X9_refuse v9_refusals (-2 : Int32)) (fun r_43 v9_refusals_44 => some (r_43, v9_refusals_44, v5_known))))))))))
set_option maxHeartbeats 4000000 in
set_option maxRecDepth 20000 in
theorem c_X9_settled (l : Launch) (D : va_G) (cyI cyJ : ClassId) (G a : Nat → Nat) (sz : Nat) (v9_refusals : Nat → Int32) (v7_rows : Nat → Int32) (v7_lengths : Nat → Int32) (v7_sizes : Nat → Int32) (v7_rests : Nat → Int32) (v7_orders : Nat → Int32) (v6_hooks : Nat → Int32) (v6_lefts : Nat → Int32) (v6_heights : Nat → Int32) (v1_table : Nat → Int32) (v5_known : Nat → Int32) (v8_sizes : Nat → Int32) (v8_coefficients : Nat → Int32) (v8_undoneSums : Nat → Int32) (v8_undos : Int32) (v8_nextUndo : Int32) (v8_imageTaken : Int32) (v0_totals : Nat → Int64) (v3_letters : Nat → Int32) (v3_count : Int32) (v3_next : Int32) (v3_size : Int32) (v4_values : Nat → Int32) (v4_lengths : Nat → Int32) (x1 : Int32) (x2 : Int32) (x3 : Int32) (x4 : Int32) (ro : Int32) (ov9_refusals : Nat → Int32) (ov5_known : Nat → Int32) (hf : f_X9_settled v9_refusals v7_rows v7_lengths v7_sizes v7_orders v1_table v5_known x1 x2 x3 x4 = some (ro, ov9_refusals, ov5_known)) : xm_i l yX9_settled (Cond.code yX9_settled cX9_settled 7 (some .int) :: xg_tbl) { frames := 6, cells := 0, slots := 0, locals := 150 } D xcl [(cyI, .int), (cyJ, .long)] G sz [.ref (a 0), .int x1, .int x2, .int x3, .int x4] (wd_X9 a cyI cyJ v9_refusals v7_rows v7_lengths v7_sizes v7_rests v7_orders v6_hooks v6_lefts v6_heights v1_table v5_known v8_sizes v8_coefficients v8_undoneSums v8_undos v8_nextUndo v8_imageTaken v0_totals v3_letters v3_count v3_next v3_size v4_values v4_lengths) (wd_X9 a cyI cyJ ov9_refusals v7_rows v7_lengths v7_sizes v7_rests v7_orders v6_hooks v6_lefts v6_heights v1_table ov5_known v8_sizes v8_coefficients v8_undoneSums v8_undos v8_nextUndo v8_imageTaken v0_totals v3_letters v3_count v3_next v3_size v4_values v4_lengths) ro := by
  refine xm_of_i (own := RX9) (by decide) rfl rfl (Nat.le_of_ble_eq_true rfl) ?_
  intro p e s m args below meth c ls Q A hQ hAe hin Cx hsz hP hD hS hl
  have Cx1 := Cx
  obtain ⟨⟨hx, hb, hml, hown, hts⟩, hr, hlocks, hK, hA, hT⟩ := Cx1
  have hl : lv_has ls 7 [(0, .ref (a 0)), (1, .int x1), (2, .int x2), (3, .int x3), (4, .int x4)] := hl
  obtain ⟨H, eH⟩ : ∃ H, H = s.heap := ⟨_, rfl⟩
  obtain ⟨locs, eL⟩ : ∃ L : List Loc, L = [] := ⟨_, rfl⟩
  rw [← eH] at hP
  have hS : va_S A s.heap H locs := by rw [eH, eL]; exact hS
  suffices hgo : W p l e { frames := 6, cells := 0, slots := 0, locals := 150 } s m args below meth c H locs 0 0 Q (F0 m 0 ls []) by rw [eH, eL] at hgo; exact hgo
  clear eH eL
  unfold f_X9_settled at hf
  have w_57 : ∀ (v9_refusals : Nat → Int32) (v5_known : Nat → Int32) (y1 : Int32) (y2 : Int32) (y3 : Int32) (y4 : Int32) (H : Heap) (locs : List Loc) (ls : Array Slot), (f_X9_settled_57 v7_rows v7_lengths v7_sizes v7_orders v1_table) v9_refusals v5_known y1 y2 y3 y4 = some (ro, ov9_refusals, ov5_known) → va_P D xcl (wd_X9 a cyI cyJ v9_refusals v7_rows v7_lengths v7_sizes v7_rests v7_orders v6_hooks v6_lefts v6_heights v1_table v5_known v8_sizes v8_coefficients v8_undoneSums v8_undos v8_nextUndo v8_imageTaken v0_totals v3_letters v3_count v3_next v3_size v4_values v4_lengths) H → va_D A (wd_X9 a cyI cyJ v9_refusals v7_rows v7_lengths v7_sizes v7_rests v7_orders v6_hooks v6_lefts v6_heights v1_table v5_known v8_sizes v8_coefficients v8_undoneSums v8_undos v8_nextUndo v8_imageTaken v0_totals v3_letters v3_count v3_next v3_size v4_values v4_lengths) → va_S A s.heap H locs → lv_has ls 7 [(0, .ref (a 0)), (1, .int y1), (2, .int y2), (3, .int y3), (4, .int y4)] → W p l e { frames := 6, cells := 0, slots := 0, locals := 150 } s m args below meth c H locs 0 0 Q (F0 m 57 ls []) := by
    intro v9_refusals v5_known y1 y2 y3 y4 H locs ls hf hP hD hS hl
    unfold f_X9_settled_57 at hf
    have w_120 : ∀ (n_120 : Nat) (v9_refusals : Nat → Int32) (v5_known : Nat → Int32) (y1 : Int32) (y2 : Int32) (y3 : Int32) (y5 : Int32) (y6 : Int32) (H : Heap) (locs : List Loc) (ls : Array Slot), (f_X9_settled_120 v7_rows v7_lengths v7_sizes v7_orders v1_table) n_120 v9_refusals v5_known y1 y2 y3 y5 y6 = some (ro, ov9_refusals, ov5_known) → va_P D xcl (wd_X9 a cyI cyJ v9_refusals v7_rows v7_lengths v7_sizes v7_rests v7_orders v6_hooks v6_lefts v6_heights v1_table v5_known v8_sizes v8_coefficients v8_undoneSums v8_undos v8_nextUndo v8_imageTaken v0_totals v3_letters v3_count v3_next v3_size v4_values v4_lengths) H → va_D A (wd_X9 a cyI cyJ v9_refusals v7_rows v7_lengths v7_sizes v7_rests v7_orders v6_hooks v6_lefts v6_heights v1_table v5_known v8_sizes v8_coefficients v8_undoneSums v8_undos v8_nextUndo v8_imageTaken v0_totals v3_letters v3_count v3_next v3_size v4_values v4_lengths) → va_S A s.heap H locs → lv_has ls 7 [(0, .ref (a 0)), (1, .int y1), (2, .int y2), (3, .int y3), (5, .int y5), (6, .int y6)] → W p l e { frames := 6, cells := 0, slots := 0, locals := 150 } s m args below meth c H locs 0 0 Q (F0 m 120 ls []) := by
      intro n_120
      induction n_120 with
      | zero => intro v9_refusals v5_known y1 y2 y3 y5 y6 H locs ls hf; exact absurd hf (by intro h9; cases h9)
      | succ n_120 w_120 =>
        intro v9_refusals v5_known y1 y2 y3 y5 y6 H locs ls hf hP hD hS hl
        have hf : gf_X9_settled_120 ((f_X9_settled_120 v7_rows v7_lengths v7_sizes v7_orders v1_table) n_120) v7_rows v7_lengths v7_sizes v7_orders v1_table v9_refusals v5_known y1 y2 y3 y5 y6 = some (ro, ov9_refusals, ov5_known) := hf
        unfold gf_X9_settled_120 at hf
        refine lv_iload hx hb dX9_settled_120 (lv_at hl 5 rfl) ?_
        refine lv_if_le (tgt := 150) hx hb dX9_settled_122 (by decide) (fun hc_46 => ?_) (fun hc_46 => ?_)
        · have hf := pe_t hf hc_46
          refine lv_iload hx hb dX9_settled_150 (lv_at hl 5 rfl) ?_
          obtain ⟨rfl, rfl, rfl⟩ := po_3 hf
          rw [← hQ]; exact xe_iret Cx rfl hP hD hS dX9_settled_152
        · have hf := pe_f hf hc_46
          refine lv_aload_n hx hb dX9_settled_125 rfl (lv_at hl 0 rfl) ?_
          refine va_get (ci := 9) (v := .ref (a 15)) hx hb hts wX9_in hown hK hP 0 rfl rfl 4 (by decide) (hts _ mw_2_78) (fun _ h9 => h9) rfl dX9_settled_126 ?_
          refine lv_iload_n hx hb dX9_settled_129 rfl (lv_at hl 1 rfl) ?_
          refine lv_iload_n hx hb dX9_settled_130 rfl (lv_at hl 2 rfl) ?_
          refine lv_iload_n hx hb dX9_settled_131 rfl (lv_at hl 3 rfl) ?_
          refine lv_iload hx hb dX9_settled_132 (lv_at hl 5 rfl) ?_
          refine lv_iconst (v := (1 : Int32)) hx hb dX9_settled_134 (by decide) ?_
          refine lv_isub hx hb dX9_settled_135 ?_
          obtain ⟨r_47, v5_known_48, hk_49, hf⟩ := pe_2 hf
          refine xv_i (As := [.int y1, .int y2, .int y3, .int (y6 - (1 : Int32))]) (rest := []) (q0 := 0) (ci := 5) Cx hP hD hS hl (pl_X9_X5 a cyI cyJ v9_refusals v7_rows v7_lengths v7_sizes v7_rests v7_orders v6_hooks v6_lefts v6_heights v1_table v5_known v8_sizes v8_coefficients v8_undoneSums v8_undos v8_nextUndo v8_imageTaken v0_totals v3_letters v3_count v3_next v3_size v4_values v4_lengths v5_known_48 v1_table v7_rows v7_lengths v7_sizes v7_rests v7_orders) (c_X5_grownTo l D cyI cyJ G a H.size v5_known v1_table v7_rows v7_lengths v7_sizes v7_rests v7_orders y1 y2 y3 (y6 - (1 : Int32)) r_47 v5_known_48 hk_49) pk_X5_grownTo mw_3_1 ⟨rfl, rfl, Nat.le_of_ble_eq_true rfl, Nat.le_of_ble_eq_true rfl⟩ rfl rfl rfl rfl rfl (Nat.le_of_ble_eq_true rfl) ⟨Nat.le_of_ble_eq_true rfl, Nat.le_of_ble_eq_true rfl⟩ dX9_settled_136 (fun H locs hP hD hS => ?_)
          refine lv_iload hx hb dX9_settled_139 (lv_at hl 4 rfl) ?_
          refine lv_icmp_ne (tgt := 150) hx hb dX9_settled_141 (by decide) (fun hc_50 => ?_) (fun hc_50 => ?_)
          · have hf := pe_f hf hc_50
            refine lv_iload hx hb dX9_settled_150 (lv_at hl 5 rfl) ?_
            obtain ⟨rfl, rfl, rfl⟩ := po_3 hf
            rw [← hQ]; exact xe_iret Cx rfl hP hD hS dX9_settled_152
          · have hf := pe_t hf hc_50
            refine lv_iinc (v := (y6 + (-1 : Int32))) (lv' := [(6, .int (y6 + (-1 : Int32))), (0, .ref (a 0)), (1, .int y1), (2, .int y2), (3, .int y3), (5, .int y5)]) hx hb dX9_settled_144 hl (k := 5) rfl rfl (by decide) rfl (fun ls hl => ?_)
            refine lv_goto (tgt := 120) hx hb dX9_settled_147 (by decide) ?_
            exact w_120 v9_refusals v5_known_48 y1 y2 y3 y5 (y6 + (-1 : Int32)) H locs ls hf hP hD hS (lv_sub hl [1, 2, 3, 4, 5, 0] rfl)
    have w_81 : ∀ (v9_refusals : Nat → Int32) (v5_known : Nat → Int32) (H : Heap) (locs : List Loc) (ls : Array Slot), (f_X9_settled_81 v7_rows v7_lengths v7_sizes v7_orders v1_table) v9_refusals v5_known = some (ro, ov9_refusals, ov5_known) → va_P D xcl (wd_X9 a cyI cyJ v9_refusals v7_rows v7_lengths v7_sizes v7_rests v7_orders v6_hooks v6_lefts v6_heights v1_table v5_known v8_sizes v8_coefficients v8_undoneSums v8_undos v8_nextUndo v8_imageTaken v0_totals v3_letters v3_count v3_next v3_size v4_values v4_lengths) H → va_D A (wd_X9 a cyI cyJ v9_refusals v7_rows v7_lengths v7_sizes v7_rests v7_orders v6_hooks v6_lefts v6_heights v1_table v5_known v8_sizes v8_coefficients v8_undoneSums v8_undos v8_nextUndo v8_imageTaken v0_totals v3_letters v3_count v3_next v3_size v4_values v4_lengths) → va_S A s.heap H locs → lv_has ls 7 [(0, .ref (a 0))] → W p l e { frames := 6, cells := 0, slots := 0, locals := 150 } s m args below meth c H locs 0 0 Q (F0 m 81 ls []) := by
      intro v9_refusals v5_known H locs ls hf hP hD hS hl
      unfold f_X9_settled_81 at hf
      refine lv_aload_n hx hb dX9_settled_81 rfl (lv_at hl 0 rfl) ?_
      refine lv_bipush (v := (-3 : Int32)) hx hb dX9_settled_82 (by decide) ?_
      obtain ⟨r_51, v9_refusals_52, hk_53, hf⟩ := pe_2 hf
      refine xv_i (As := [.int (-3 : Int32)]) (rest := []) (q0 := 0) (ci := 9) Cx hP hD hS hl (pl_X9_X9 a cyI cyJ v9_refusals v7_rows v7_lengths v7_sizes v7_rests v7_orders v6_hooks v6_lefts v6_heights v1_table v5_known v8_sizes v8_coefficients v8_undoneSums v8_undos v8_nextUndo v8_imageTaken v0_totals v3_letters v3_count v3_next v3_size v4_values v4_lengths v9_refusals_52 v7_rows v7_lengths v7_sizes v7_rests v7_orders v6_hooks v6_lefts v6_heights v1_table v5_known v8_sizes v8_coefficients v8_undoneSums v8_undos v8_nextUndo v8_imageTaken v0_totals v3_letters v3_count v3_next v3_size v4_values v4_lengths) (c_X9_refuse l D cyI cyJ G a H.size v9_refusals v7_rows v7_lengths v7_sizes v7_rests v7_orders v6_hooks v6_lefts v6_heights v1_table v5_known v8_sizes v8_coefficients v8_undoneSums v8_undos v8_nextUndo v8_imageTaken v0_totals v3_letters v3_count v3_next v3_size v4_values v4_lengths (-3 : Int32) r_51 v9_refusals_52 hk_53) pk_X9_refuse mw_2_110 ⟨rfl, rfl, Nat.le_of_ble_eq_true rfl, Nat.le_of_ble_eq_true rfl⟩ rfl rfl rfl rfl rfl (Nat.le_of_ble_eq_true rfl) ⟨Nat.le_of_ble_eq_true rfl, Nat.le_of_ble_eq_true rfl⟩ dX9_settled_84 (fun H locs hP hD hS => ?_)
      obtain ⟨rfl, rfl, rfl⟩ := po_3 hf
      rw [← hQ]; exact xe_iret Cx rfl hP hD hS dX9_settled_87
    refine lv_aload_n hx hb dX9_settled_57 rfl (lv_at hl 0 rfl) ?_
    refine lv_iload_n hx hb dX9_settled_58 rfl (lv_at hl 1 rfl) ?_
    obtain ⟨r_54, hk_55, hf⟩ := pe_1 hf
    refine xv_z (As := [.int y1]) (rest := []) (q0 := 0) (ci := 9) Cx hP hD hS hl (pl_X9_X9 a cyI cyJ v9_refusals v7_rows v7_lengths v7_sizes v7_rests v7_orders v6_hooks v6_lefts v6_heights v1_table v5_known v8_sizes v8_coefficients v8_undoneSums v8_undos v8_nextUndo v8_imageTaken v0_totals v3_letters v3_count v3_next v3_size v4_values v4_lengths v9_refusals v7_rows v7_lengths v7_sizes v7_rests v7_orders v6_hooks v6_lefts v6_heights v1_table v5_known v8_sizes v8_coefficients v8_undoneSums v8_undos v8_nextUndo v8_imageTaken v0_totals v3_letters v3_count v3_next v3_size v4_values v4_lengths) (c_X9_canGrow l D cyI cyJ G a H.size v9_refusals v7_rows v7_lengths v7_sizes v7_rests v7_orders v6_hooks v6_lefts v6_heights v1_table v5_known v8_sizes v8_coefficients v8_undoneSums v8_undos v8_nextUndo v8_imageTaken v0_totals v3_letters v3_count v3_next v3_size v4_values v4_lengths y1 r_54 hk_55) pk_X9_canGrow mw_2_229 ⟨rfl, rfl, Nat.le_of_ble_eq_true rfl, Nat.le_of_ble_eq_true rfl⟩ rfl rfl rfl rfl rfl (Nat.le_of_ble_eq_true rfl) ⟨Nat.le_of_ble_eq_true rfl, Nat.le_of_ble_eq_true rfl⟩ dX9_settled_59 (fun H locs hn_56 hP hD hS => ?_)
    refine lv_if_eq (tgt := 81) hx hb dX9_settled_62 (by decide) (fun hc_57 => ?_) (fun hc_57 => ?_)
    · have hf := pe_t hf hc_57
      exact w_81 v9_refusals v5_known H locs ls hf hP hD hS (lv_sub hl [0] rfl)
    · have hf := pe_f hf hc_57
      refine lv_aload_n hx hb dX9_settled_65 rfl (lv_at hl 0 rfl) ?_
      refine lv_iload_n hx hb dX9_settled_66 rfl (lv_at hl 2 rfl) ?_
      obtain ⟨r_58, hk_59, hf⟩ := pe_1 hf
      refine xv_z (As := [.int y2]) (rest := []) (q0 := 0) (ci := 9) Cx hP hD hS hl (pl_X9_X9 a cyI cyJ v9_refusals v7_rows v7_lengths v7_sizes v7_rests v7_orders v6_hooks v6_lefts v6_heights v1_table v5_known v8_sizes v8_coefficients v8_undoneSums v8_undos v8_nextUndo v8_imageTaken v0_totals v3_letters v3_count v3_next v3_size v4_values v4_lengths v9_refusals v7_rows v7_lengths v7_sizes v7_rests v7_orders v6_hooks v6_lefts v6_heights v1_table v5_known v8_sizes v8_coefficients v8_undoneSums v8_undos v8_nextUndo v8_imageTaken v0_totals v3_letters v3_count v3_next v3_size v4_values v4_lengths) (c_X9_canGrow l D cyI cyJ G a H.size v9_refusals v7_rows v7_lengths v7_sizes v7_rests v7_orders v6_hooks v6_lefts v6_heights v1_table v5_known v8_sizes v8_coefficients v8_undoneSums v8_undos v8_nextUndo v8_imageTaken v0_totals v3_letters v3_count v3_next v3_size v4_values v4_lengths y2 r_58 hk_59) pk_X9_canGrow mw_2_229 ⟨rfl, rfl, Nat.le_of_ble_eq_true rfl, Nat.le_of_ble_eq_true rfl⟩ rfl rfl rfl rfl rfl (Nat.le_of_ble_eq_true rfl) ⟨Nat.le_of_ble_eq_true rfl, Nat.le_of_ble_eq_true rfl⟩ dX9_settled_67 (fun H locs hn_60 hP hD hS => ?_)
      refine lv_if_eq (tgt := 81) hx hb dX9_settled_70 (by decide) (fun hc_61 => ?_) (fun hc_61 => ?_)
      · have hf := pe_t hf hc_61
        exact w_81 v9_refusals v5_known H locs ls hf hP hD hS (lv_sub hl [0] rfl)
      · have hf := pe_f hf hc_61
        refine lv_aload_n hx hb dX9_settled_73 rfl (lv_at hl 0 rfl) ?_
        refine lv_iload_n hx hb dX9_settled_74 rfl (lv_at hl 3 rfl) ?_
        obtain ⟨r_62, hk_63, hf⟩ := pe_1 hf
        refine xv_z (As := [.int y3]) (rest := []) (q0 := 0) (ci := 9) Cx hP hD hS hl (pl_X9_X9 a cyI cyJ v9_refusals v7_rows v7_lengths v7_sizes v7_rests v7_orders v6_hooks v6_lefts v6_heights v1_table v5_known v8_sizes v8_coefficients v8_undoneSums v8_undos v8_nextUndo v8_imageTaken v0_totals v3_letters v3_count v3_next v3_size v4_values v4_lengths v9_refusals v7_rows v7_lengths v7_sizes v7_rests v7_orders v6_hooks v6_lefts v6_heights v1_table v5_known v8_sizes v8_coefficients v8_undoneSums v8_undos v8_nextUndo v8_imageTaken v0_totals v3_letters v3_count v3_next v3_size v4_values v4_lengths) (c_X9_canGrow l D cyI cyJ G a H.size v9_refusals v7_rows v7_lengths v7_sizes v7_rests v7_orders v6_hooks v6_lefts v6_heights v1_table v5_known v8_sizes v8_coefficients v8_undoneSums v8_undos v8_nextUndo v8_imageTaken v0_totals v3_letters v3_count v3_next v3_size v4_values v4_lengths y3 r_62 hk_63) pk_X9_canGrow mw_2_229 ⟨rfl, rfl, Nat.le_of_ble_eq_true rfl, Nat.le_of_ble_eq_true rfl⟩ rfl rfl rfl rfl rfl (Nat.le_of_ble_eq_true rfl) ⟨Nat.le_of_ble_eq_true rfl, Nat.le_of_ble_eq_true rfl⟩ dX9_settled_75 (fun H locs hn_64 hP hD hS => ?_)
        refine lv_if_ne (tgt := 88) hx hb dX9_settled_78 (by decide) (fun hc_65 => ?_) (fun hc_65 => ?_)
        · have hf := pe_f hf hc_65
          refine lv_aload_n hx hb dX9_settled_88 rfl (lv_at hl 0 rfl) ?_
          refine va_get (ci := 9) (v := .ref (a 15)) hx hb hts wX9_in hown hK hP 0 rfl rfl 4 (by decide) (hts _ mw_2_78) (fun _ h9 => h9) rfl dX9_settled_89 ?_
          refine lv_iload_n hx hb dX9_settled_92 rfl (lv_at hl 1 rfl) ?_
          refine lv_iload_n hx hb dX9_settled_93 rfl (lv_at hl 2 rfl) ?_
          refine lv_iload_n hx hb dX9_settled_94 rfl (lv_at hl 3 rfl) ?_
          refine lv_bipush (v := (8 : Int32)) hx hb dX9_settled_95 (by decide) ?_
          obtain ⟨r_66, v5_known_67, hk_68, hf⟩ := pe_2 hf
          refine xv_i (As := [.int y1, .int y2, .int y3, .int (8 : Int32)]) (rest := []) (q0 := 0) (ci := 5) Cx hP hD hS hl (pl_X9_X5 a cyI cyJ v9_refusals v7_rows v7_lengths v7_sizes v7_rests v7_orders v6_hooks v6_lefts v6_heights v1_table v5_known v8_sizes v8_coefficients v8_undoneSums v8_undos v8_nextUndo v8_imageTaken v0_totals v3_letters v3_count v3_next v3_size v4_values v4_lengths v5_known_67 v1_table v7_rows v7_lengths v7_sizes v7_rests v7_orders) (c_X5_grownTo l D cyI cyJ G a H.size v5_known v1_table v7_rows v7_lengths v7_sizes v7_rests v7_orders y1 y2 y3 (8 : Int32) r_66 v5_known_67 hk_68) pk_X5_grownTo mw_3_1 ⟨rfl, rfl, Nat.le_of_ble_eq_true rfl, Nat.le_of_ble_eq_true rfl⟩ rfl rfl rfl rfl rfl (Nat.le_of_ble_eq_true rfl) ⟨Nat.le_of_ble_eq_true rfl, Nat.le_of_ble_eq_true rfl⟩ dX9_settled_97 (fun H locs hP hD hS => ?_)
          refine lv_istore (lv' := [(5, .int r_66), (0, .ref (a 0)), (1, .int y1), (2, .int y2), (3, .int y3), (4, .int y4)]) hx hb dX9_settled_100 hl (by decide) rfl (fun ls hl => ?_)
          refine lv_iload hx hb dX9_settled_102 (lv_at hl 0 rfl) ?_
          refine lv_if_lt (tgt := 113) hx hb dX9_settled_104 (by decide) (fun hc_69 => ?_) (fun hc_69 => ?_)
          · have hf := pe_t hf hc_69
            refine lv_iload hx hb dX9_settled_113 (lv_at hl 0 rfl) ?_
            obtain ⟨rfl, rfl, rfl⟩ := po_3 hf
            rw [← hQ]; exact xe_iret Cx rfl hP hD hS dX9_settled_115
          · have hf := pe_f hf hc_69
            refine lv_iload hx hb dX9_settled_107 (lv_at hl 5 rfl) ?_
            refine lv_iconst (v := (1 : Int32)) hx hb dX9_settled_109 (by decide) ?_
            refine lv_icmp_ne (tgt := 116) hx hb dX9_settled_110 (by decide) (fun hc_70 => ?_) (fun hc_70 => ?_)
            · have hf := pe_f hf hc_70
              refine lv_bipush (v := (8 : Int32)) hx hb dX9_settled_116 (by decide) ?_
              refine lv_istore (lv' := [(6, .int (8 : Int32)), (5, .int r_66), (0, .ref (a 0)), (1, .int y1), (2, .int y2), (3, .int y3), (4, .int y4)]) hx hb dX9_settled_118 hl (by decide) rfl (fun ls hl => ?_)
              exact w_120 1000 v9_refusals v5_known_67 y1 y2 y3 r_66 (8 : Int32) H locs ls hf hP hD hS (lv_sub hl [2, 3, 4, 5, 1, 0] rfl)
            · have hf := pe_t hf hc_70
              refine lv_iload hx hb dX9_settled_113 (lv_at hl 0 rfl) ?_
              obtain ⟨rfl, rfl, rfl⟩ := po_3 hf
              rw [← hQ]; exact xe_iret Cx rfl hP hD hS dX9_settled_115
        · have hf := pe_t hf hc_65
          exact w_81 v9_refusals v5_known H locs ls hf hP hD hS (lv_sub hl [0] rfl)
  have w_33 : ∀ (v9_refusals : Nat → Int32) (v5_known : Nat → Int32) (H : Heap) (locs : List Loc) (ls : Array Slot), (f_X9_settled_33 v7_rows v7_lengths v7_sizes v7_orders v1_table) v9_refusals v5_known = some (ro, ov9_refusals, ov5_known) → va_P D xcl (wd_X9 a cyI cyJ v9_refusals v7_rows v7_lengths v7_sizes v7_rests v7_orders v6_hooks v6_lefts v6_heights v1_table v5_known v8_sizes v8_coefficients v8_undoneSums v8_undos v8_nextUndo v8_imageTaken v0_totals v3_letters v3_count v3_next v3_size v4_values v4_lengths) H → va_D A (wd_X9 a cyI cyJ v9_refusals v7_rows v7_lengths v7_sizes v7_rests v7_orders v6_hooks v6_lefts v6_heights v1_table v5_known v8_sizes v8_coefficients v8_undoneSums v8_undos v8_nextUndo v8_imageTaken v0_totals v3_letters v3_count v3_next v3_size v4_values v4_lengths) → va_S A s.heap H locs → lv_has ls 7 [(0, .ref (a 0))] → W p l e { frames := 6, cells := 0, slots := 0, locals := 150 } s m args below meth c H locs 0 0 Q (F0 m 33 ls []) := by
    intro v9_refusals v5_known H locs ls hf hP hD hS hl
    unfold f_X9_settled_33 at hf
    refine lv_aload_n hx hb dX9_settled_33 rfl (lv_at hl 0 rfl) ?_
    refine lv_iconst (v := (-1 : Int32)) hx hb dX9_settled_34 (by decide) ?_
    obtain ⟨r_71, v9_refusals_72, hk_73, hf⟩ := pe_2 hf
    refine xv_i (As := [.int (-1 : Int32)]) (rest := []) (q0 := 0) (ci := 9) Cx hP hD hS hl (pl_X9_X9 a cyI cyJ v9_refusals v7_rows v7_lengths v7_sizes v7_rests v7_orders v6_hooks v6_lefts v6_heights v1_table v5_known v8_sizes v8_coefficients v8_undoneSums v8_undos v8_nextUndo v8_imageTaken v0_totals v3_letters v3_count v3_next v3_size v4_values v4_lengths v9_refusals_72 v7_rows v7_lengths v7_sizes v7_rests v7_orders v6_hooks v6_lefts v6_heights v1_table v5_known v8_sizes v8_coefficients v8_undoneSums v8_undos v8_nextUndo v8_imageTaken v0_totals v3_letters v3_count v3_next v3_size v4_values v4_lengths) (c_X9_refuse l D cyI cyJ G a H.size v9_refusals v7_rows v7_lengths v7_sizes v7_rests v7_orders v6_hooks v6_lefts v6_heights v1_table v5_known v8_sizes v8_coefficients v8_undoneSums v8_undos v8_nextUndo v8_imageTaken v0_totals v3_letters v3_count v3_next v3_size v4_values v4_lengths (-1 : Int32) r_71 v9_refusals_72 hk_73) pk_X9_refuse mw_2_110 ⟨rfl, rfl, Nat.le_of_ble_eq_true rfl, Nat.le_of_ble_eq_true rfl⟩ rfl rfl rfl rfl rfl (Nat.le_of_ble_eq_true rfl) ⟨Nat.le_of_ble_eq_true rfl, Nat.le_of_ble_eq_true rfl⟩ dX9_settled_35 (fun H locs hP hD hS => ?_)
    obtain ⟨rfl, rfl, rfl⟩ := po_3 hf
    rw [← hQ]; exact xe_iret Cx rfl hP hD hS dX9_settled_38
  refine lv_aload_n hx hb dX9_settled_0 rfl (lv_at hl 0 rfl) ?_
  refine va_get (ci := 9) (v := .ref (a 2)) hx hb hts wX9_in hown hK hP 0 rfl rfl 0 (by decide) (hts _ mw_2_74) (fun _ h9 => h9) rfl dX9_settled_1 ?_
  refine lv_iload_n hx hb dX9_settled_4 rfl (lv_at hl 1 rfl) ?_
  obtain ⟨r_74, hk_75, hf⟩ := pe_1 hf
  refine xv_z (As := [.int x1]) (rest := []) (q0 := 0) (ci := 7) Cx hP hD hS hl (pl_X9_X7 a cyI cyJ v9_refusals v7_rows v7_lengths v7_sizes v7_rests v7_orders v6_hooks v6_lefts v6_heights v1_table v5_known v8_sizes v8_coefficients v8_undoneSums v8_undos v8_nextUndo v8_imageTaken v0_totals v3_letters v3_count v3_next v3_size v4_values v4_lengths v7_rows v7_lengths v7_sizes v7_rests v7_orders) (c_X7_has l D cyI cyJ G a H.size v7_rows v7_lengths v7_sizes v7_rests v7_orders x1 r_74 hk_75) pk_X7_has mw_2_109 ⟨rfl, rfl, Nat.le_of_ble_eq_true rfl, Nat.le_of_ble_eq_true rfl⟩ rfl rfl rfl rfl rfl (Nat.le_of_ble_eq_true rfl) ⟨Nat.le_of_ble_eq_true rfl, Nat.le_of_ble_eq_true rfl⟩ dX9_settled_5 (fun H locs hn_76 hP hD hS => ?_)
  refine lv_if_eq (tgt := 33) hx hb dX9_settled_8 (by decide) (fun hc_77 => ?_) (fun hc_77 => ?_)
  · have hf := pe_t hf hc_77
    exact w_33 v9_refusals v5_known H locs ls hf hP hD hS (lv_sub hl [0] rfl)
  · have hf := pe_f hf hc_77
    refine lv_aload_n hx hb dX9_settled_11 rfl (lv_at hl 0 rfl) ?_
    refine va_get (ci := 9) (v := .ref (a 2)) hx hb hts wX9_in hown hK hP 0 rfl rfl 0 (by decide) (hts _ mw_2_74) (fun _ h9 => h9) rfl dX9_settled_12 ?_
    refine lv_iload_n hx hb dX9_settled_15 rfl (lv_at hl 2 rfl) ?_
    obtain ⟨r_78, hk_79, hf⟩ := pe_1 hf
    refine xv_z (As := [.int x2]) (rest := []) (q0 := 0) (ci := 7) Cx hP hD hS hl (pl_X9_X7 a cyI cyJ v9_refusals v7_rows v7_lengths v7_sizes v7_rests v7_orders v6_hooks v6_lefts v6_heights v1_table v5_known v8_sizes v8_coefficients v8_undoneSums v8_undos v8_nextUndo v8_imageTaken v0_totals v3_letters v3_count v3_next v3_size v4_values v4_lengths v7_rows v7_lengths v7_sizes v7_rests v7_orders) (c_X7_has l D cyI cyJ G a H.size v7_rows v7_lengths v7_sizes v7_rests v7_orders x2 r_78 hk_79) pk_X7_has mw_2_109 ⟨rfl, rfl, Nat.le_of_ble_eq_true rfl, Nat.le_of_ble_eq_true rfl⟩ rfl rfl rfl rfl rfl (Nat.le_of_ble_eq_true rfl) ⟨Nat.le_of_ble_eq_true rfl, Nat.le_of_ble_eq_true rfl⟩ dX9_settled_16 (fun H locs hn_80 hP hD hS => ?_)
    refine lv_if_eq (tgt := 33) hx hb dX9_settled_19 (by decide) (fun hc_81 => ?_) (fun hc_81 => ?_)
    · have hf := pe_t hf hc_81
      exact w_33 v9_refusals v5_known H locs ls hf hP hD hS (lv_sub hl [0] rfl)
    · have hf := pe_f hf hc_81
      refine lv_aload_n hx hb dX9_settled_22 rfl (lv_at hl 0 rfl) ?_
      refine va_get (ci := 9) (v := .ref (a 2)) hx hb hts wX9_in hown hK hP 0 rfl rfl 0 (by decide) (hts _ mw_2_74) (fun _ h9 => h9) rfl dX9_settled_23 ?_
      refine lv_iload_n hx hb dX9_settled_26 rfl (lv_at hl 3 rfl) ?_
      obtain ⟨r_82, hk_83, hf⟩ := pe_1 hf
      refine xv_z (As := [.int x3]) (rest := []) (q0 := 0) (ci := 7) Cx hP hD hS hl (pl_X9_X7 a cyI cyJ v9_refusals v7_rows v7_lengths v7_sizes v7_rests v7_orders v6_hooks v6_lefts v6_heights v1_table v5_known v8_sizes v8_coefficients v8_undoneSums v8_undos v8_nextUndo v8_imageTaken v0_totals v3_letters v3_count v3_next v3_size v4_values v4_lengths v7_rows v7_lengths v7_sizes v7_rests v7_orders) (c_X7_has l D cyI cyJ G a H.size v7_rows v7_lengths v7_sizes v7_rests v7_orders x3 r_82 hk_83) pk_X7_has mw_2_109 ⟨rfl, rfl, Nat.le_of_ble_eq_true rfl, Nat.le_of_ble_eq_true rfl⟩ rfl rfl rfl rfl rfl (Nat.le_of_ble_eq_true rfl) ⟨Nat.le_of_ble_eq_true rfl, Nat.le_of_ble_eq_true rfl⟩ dX9_settled_27 (fun H locs hn_84 hP hD hS => ?_)
      refine lv_if_ne (tgt := 39) hx hb dX9_settled_30 (by decide) (fun hc_85 => ?_) (fun hc_85 => ?_)
      · have hf := pe_f hf hc_85
        refine lv_iload hx hb dX9_settled_39 (lv_at hl 4 rfl) ?_
        refine lv_if_eq (tgt := 57) hx hb dX9_settled_41 (by decide) (fun hc_86 => ?_) (fun hc_86 => ?_)
        · have hf := pe_t hf hc_86
          exact w_57 v9_refusals v5_known x1 x2 x3 x4 H locs ls hf hP hD hS (lv_sub hl [0, 1, 2, 3, 4] rfl)
        · have hf := pe_f hf hc_86
          refine lv_iload hx hb dX9_settled_44 (lv_at hl 4 rfl) ?_
          refine lv_iconst (v := (1 : Int32)) hx hb dX9_settled_46 (by decide) ?_
          refine lv_icmp_eq (tgt := 57) hx hb dX9_settled_47 (by decide) (fun hc_87 => ?_) (fun hc_87 => ?_)
          · have hf := pe_t hf hc_87
            exact w_57 v9_refusals v5_known x1 x2 x3 x4 H locs ls hf hP hD hS (lv_sub hl [0, 1, 2, 3, 4] rfl)
          · have hf := pe_f hf hc_87
            refine lv_aload_n hx hb dX9_settled_50 rfl (lv_at hl 0 rfl) ?_
            refine lv_bipush (v := (-2 : Int32)) hx hb dX9_settled_51 (by decide) ?_
            obtain ⟨r_88, v9_refusals_89, hk_90, hf⟩ := pe_2 hf
            refine xv_i (As := [.int (-2 : Int32)]) (rest := []) (q0 := 0) (ci := 9) Cx hP hD hS hl (pl_X9_X9 a cyI cyJ v9_refusals v7_rows v7_lengths v7_sizes v7_rests v7_orders v6_hooks v6_lefts v6_heights v1_table v5_known v8_sizes v8_coefficients v8_undoneSums v8_undos v8_nextUndo v8_imageTaken v0_totals v3_letters v3_count v3_next v3_size v4_values v4_lengths v9_refusals_89 v7_rows v7_lengths v7_sizes v7_rests v7_orders v6_hooks v6_lefts v6_heights v1_table v5_known v8_sizes v8_coefficients v8_undoneSums v8_undos v8_nextUndo v8_imageTaken v0_totals v3_letters v3_count v3_next v3_size v4_values v4_lengths) (c_X9_refuse l D cyI cyJ G a H.size v9_refusals v7_rows v7_lengths v7_sizes v7_rests v7_orders v6_hooks v6_lefts v6_heights v1_table v5_known v8_sizes v8_coefficients v8_undoneSums v8_undos v8_nextUndo v8_imageTaken v0_totals v3_letters v3_count v3_next v3_size v4_values v4_lengths (-2 : Int32) r_88 v9_refusals_89 hk_90) pk_X9_refuse mw_2_110 ⟨rfl, rfl, Nat.le_of_ble_eq_true rfl, Nat.le_of_ble_eq_true rfl⟩ rfl rfl rfl rfl rfl (Nat.le_of_ble_eq_true rfl) ⟨Nat.le_of_ble_eq_true rfl, Nat.le_of_ble_eq_true rfl⟩ dX9_settled_53 (fun H locs hP hD hS => ?_)
            obtain ⟨rfl, rfl, rfl⟩ := po_3 hf
            rw [← hQ]; exact xe_iret Cx rfl hP hD hS dX9_settled_56
      · have hf := pe_t hf hc_85
        exact w_33 v9_refusals v5_known H locs ls hf hP hD hS (lv_sub hl [0] rfl)
def f_X9_letter_28 (v9_refusals : Nat → Int32) (v3_letters : Nat → Int32) (v3_count : Int32) : Option (Int32 × (Nat → Int32) × (Nat → Int32) × Int32) := p_b2 (f_X9_refuse v9_refusals (-6 : Int32)) (fun r_1 v9_refusals_2 => some (r_1, v9_refusals_2, v3_letters, v3_count))
def f_X9_letter (v9_refusals : Nat → Int32) (v3_letters : Nat → Int32) (v3_count : Int32) (x1 : Int32) : Option (Int32 × (Nat → Int32) × (Nat → Int32) × Int32) := if 0 ≤ x1 then (if (255 : Int32) < x1 then ((f_X9_letter_28) v9_refusals v3_letters v3_count) else (p_b1 (f_X3_areFull v3_count) (fun r_6 => if r_6 = 0 then (p_b2 (f_X3_add v3_letters v3_count x1) (fun v3_letters_10 v3_count_11 => p_b1 (f_X3_howMany v3_count_11) (fun r_13 => some (r_13, v9_refusals, v3_letters_10, v3_count_11)))) else ((f_X9_letter_28) v9_refusals v3_letters v3_count)))) else (p_b2 (f_X9_refuse v9_refusals (-4 : Int32)) (fun r_15 v9_refusals_16 => some (r_15, v9_refusals_16, v3_letters, v3_count)))
set_option maxHeartbeats 4000000 in
set_option maxRecDepth 20000 in
theorem c_X9_letter (l : Launch) (D : va_G) (cyI cyJ : ClassId) (G a : Nat → Nat) (sz : Nat) (v9_refusals : Nat → Int32) (v7_rows : Nat → Int32) (v7_lengths : Nat → Int32) (v7_sizes : Nat → Int32) (v7_rests : Nat → Int32) (v7_orders : Nat → Int32) (v6_hooks : Nat → Int32) (v6_lefts : Nat → Int32) (v6_heights : Nat → Int32) (v1_table : Nat → Int32) (v5_known : Nat → Int32) (v8_sizes : Nat → Int32) (v8_coefficients : Nat → Int32) (v8_undoneSums : Nat → Int32) (v8_undos : Int32) (v8_nextUndo : Int32) (v8_imageTaken : Int32) (v0_totals : Nat → Int64) (v3_letters : Nat → Int32) (v3_count : Int32) (v3_next : Int32) (v3_size : Int32) (v4_values : Nat → Int32) (v4_lengths : Nat → Int32) (x1 : Int32) (ro : Int32) (ov9_refusals : Nat → Int32) (ov3_letters : Nat → Int32) (ov3_count : Int32) (hf : f_X9_letter v9_refusals v3_letters v3_count x1 = some (ro, ov9_refusals, ov3_letters, ov3_count)) : xm_i l yX9_letter (Cond.code yX9_letter cX9_letter 2 (some .int) :: xg_tbl) { frames := 1, cells := 0, slots := 0, locals := 22 } D xcl [(cyI, .int), (cyJ, .long)] G sz [.ref (a 0), .int x1] (wd_X9 a cyI cyJ v9_refusals v7_rows v7_lengths v7_sizes v7_rests v7_orders v6_hooks v6_lefts v6_heights v1_table v5_known v8_sizes v8_coefficients v8_undoneSums v8_undos v8_nextUndo v8_imageTaken v0_totals v3_letters v3_count v3_next v3_size v4_values v4_lengths) (wd_X9 a cyI cyJ ov9_refusals v7_rows v7_lengths v7_sizes v7_rests v7_orders v6_hooks v6_lefts v6_heights v1_table v5_known v8_sizes v8_coefficients v8_undoneSums v8_undos v8_nextUndo v8_imageTaken v0_totals ov3_letters ov3_count v3_next v3_size v4_values v4_lengths) ro := by
  refine xm_of_i (own := RX9) (by decide) rfl rfl (Nat.le_of_ble_eq_true rfl) ?_
  intro p e s m args below meth c ls Q A hQ hAe hin Cx hsz hP hD hS hl
  have Cx1 := Cx
  obtain ⟨⟨hx, hb, hml, hown, hts⟩, hr, hlocks, hK, hA, hT⟩ := Cx1
  have hl : lv_has ls 2 [(0, .ref (a 0)), (1, .int x1)] := hl
  obtain ⟨H, eH⟩ : ∃ H, H = s.heap := ⟨_, rfl⟩
  obtain ⟨locs, eL⟩ : ∃ L : List Loc, L = [] := ⟨_, rfl⟩
  rw [← eH] at hP
  have hS : va_S A s.heap H locs := by rw [eH, eL]; exact hS
  suffices hgo : W p l e { frames := 1, cells := 0, slots := 0, locals := 22 } s m args below meth c H locs 0 0 Q (F0 m 0 ls []) by rw [eH, eL] at hgo; exact hgo
  clear eH eL
  unfold f_X9_letter at hf
  have w_28 : ∀ (v9_refusals : Nat → Int32) (v3_letters : Nat → Int32) (v3_count : Int32) (H : Heap) (locs : List Loc) (ls : Array Slot), f_X9_letter_28 v9_refusals v3_letters v3_count = some (ro, ov9_refusals, ov3_letters, ov3_count) → va_P D xcl (wd_X9 a cyI cyJ v9_refusals v7_rows v7_lengths v7_sizes v7_rests v7_orders v6_hooks v6_lefts v6_heights v1_table v5_known v8_sizes v8_coefficients v8_undoneSums v8_undos v8_nextUndo v8_imageTaken v0_totals v3_letters v3_count v3_next v3_size v4_values v4_lengths) H → va_D A (wd_X9 a cyI cyJ v9_refusals v7_rows v7_lengths v7_sizes v7_rests v7_orders v6_hooks v6_lefts v6_heights v1_table v5_known v8_sizes v8_coefficients v8_undoneSums v8_undos v8_nextUndo v8_imageTaken v0_totals v3_letters v3_count v3_next v3_size v4_values v4_lengths) → va_S A s.heap H locs → lv_has ls 2 [(0, .ref (a 0))] → W p l e { frames := 1, cells := 0, slots := 0, locals := 22 } s m args below meth c H locs 0 0 Q (F0 m 28 ls []) := by
    intro v9_refusals v3_letters v3_count H locs ls hf hP hD hS hl
    unfold f_X9_letter_28 at hf
    refine lv_aload_n hx hb dX9_letter_28 rfl (lv_at hl 0 rfl) ?_
    refine lv_bipush (v := (-6 : Int32)) hx hb dX9_letter_29 (by decide) ?_
    obtain ⟨r_18, v9_refusals_19, hk_20, hf⟩ := pe_2 hf
    refine xv_i (As := [.int (-6 : Int32)]) (rest := []) (q0 := 0) (ci := 9) Cx hP hD hS hl (pl_X9_X9 a cyI cyJ v9_refusals v7_rows v7_lengths v7_sizes v7_rests v7_orders v6_hooks v6_lefts v6_heights v1_table v5_known v8_sizes v8_coefficients v8_undoneSums v8_undos v8_nextUndo v8_imageTaken v0_totals v3_letters v3_count v3_next v3_size v4_values v4_lengths v9_refusals_19 v7_rows v7_lengths v7_sizes v7_rests v7_orders v6_hooks v6_lefts v6_heights v1_table v5_known v8_sizes v8_coefficients v8_undoneSums v8_undos v8_nextUndo v8_imageTaken v0_totals v3_letters v3_count v3_next v3_size v4_values v4_lengths) (c_X9_refuse l D cyI cyJ G a H.size v9_refusals v7_rows v7_lengths v7_sizes v7_rests v7_orders v6_hooks v6_lefts v6_heights v1_table v5_known v8_sizes v8_coefficients v8_undoneSums v8_undos v8_nextUndo v8_imageTaken v0_totals v3_letters v3_count v3_next v3_size v4_values v4_lengths (-6 : Int32) r_18 v9_refusals_19 hk_20) pk_X9_refuse mw_2_110 ⟨rfl, rfl, Nat.le_of_ble_eq_true rfl, Nat.le_of_ble_eq_true rfl⟩ rfl rfl rfl rfl rfl (Nat.le_of_ble_eq_true rfl) ⟨Nat.le_of_ble_eq_true rfl, Nat.le_of_ble_eq_true rfl⟩ dX9_letter_31 (fun H locs hP hD hS => ?_)
    obtain ⟨rfl, rfl, rfl, rfl⟩ := po_4 hf
    rw [← hQ]; exact xe_iret Cx rfl hP hD hS dX9_letter_34
  refine lv_iload_n hx hb dX9_letter_0 rfl (lv_at hl 1 rfl) ?_
  refine lv_if_ge (tgt := 11) hx hb dX9_letter_1 (by decide) (fun hc_21 => ?_) (fun hc_21 => ?_)
  · have hf := pe_t hf hc_21
    refine lv_iload_n hx hb dX9_letter_11 rfl (lv_at hl 1 rfl) ?_
    refine lv_sipush (v := (255 : Int32)) hx hb dX9_letter_12 (by decide) ?_
    refine lv_icmp_gt (tgt := 28) hx hb dX9_letter_15 (by decide) (fun hc_22 => ?_) (fun hc_22 => ?_)
    · have hf := pe_t hf hc_22
      exact w_28 v9_refusals v3_letters v3_count H locs ls hf hP hD hS (lv_sub hl [0] rfl)
    · have hf := pe_f hf hc_22
      refine lv_aload_n hx hb dX9_letter_18 rfl (lv_at hl 0 rfl) ?_
      refine va_get (ci := 9) (v := .ref (a 23)) hx hb hts wX9_in hown hK hP 0 rfl rfl 7 (by decide) (hts _ mw_2_81) (fun _ h9 => h9) rfl dX9_letter_19 ?_
      obtain ⟨r_23, hk_24, hf⟩ := pe_1 hf
      refine xv_z (As := []) (rest := []) (q0 := 0) (ci := 3) Cx hP hD hS hl (pl_X9_X3 a cyI cyJ v9_refusals v7_rows v7_lengths v7_sizes v7_rests v7_orders v6_hooks v6_lefts v6_heights v1_table v5_known v8_sizes v8_coefficients v8_undoneSums v8_undos v8_nextUndo v8_imageTaken v0_totals v3_letters v3_count v3_next v3_size v4_values v4_lengths v3_letters v3_count v3_next v3_size v7_rows v7_lengths v7_sizes v7_rests v7_orders v8_sizes v8_coefficients v8_undoneSums v8_undos v8_nextUndo v8_imageTaken) (c_X3_areFull l D cyI cyJ G a H.size v3_letters v3_count v3_next v3_size v7_rows v7_lengths v7_sizes v7_rests v7_orders v8_sizes v8_coefficients v8_undoneSums v8_undos v8_nextUndo v8_imageTaken r_23 hk_24) pk_X3_areFull mw_4_239 ⟨rfl, rfl, Nat.le_of_ble_eq_true rfl, Nat.le_of_ble_eq_true rfl⟩ rfl rfl rfl rfl rfl (Nat.le_of_ble_eq_true rfl) ⟨Nat.le_of_ble_eq_true rfl, Nat.le_of_ble_eq_true rfl⟩ dX9_letter_22 (fun H locs hn_25 hP hD hS => ?_)
      refine lv_if_eq (tgt := 35) hx hb dX9_letter_25 (by decide) (fun hc_26 => ?_) (fun hc_26 => ?_)
      · have hf := pe_t hf hc_26
        refine lv_aload_n hx hb dX9_letter_35 rfl (lv_at hl 0 rfl) ?_
        refine va_get (ci := 9) (v := .ref (a 23)) hx hb hts wX9_in hown hK hP 0 rfl rfl 7 (by decide) (hts _ mw_2_81) (fun _ h9 => h9) rfl dX9_letter_36 ?_
        refine lv_iload_n hx hb dX9_letter_39 rfl (lv_at hl 1 rfl) ?_
        obtain ⟨v3_letters_27, v3_count_28, hk_29, hf⟩ := pe_2 hf
        refine xv_v (As := [.int x1]) (rest := []) (q0 := 0) (ci := 3) Cx hP hD hS hl (pl_X9_X3 a cyI cyJ v9_refusals v7_rows v7_lengths v7_sizes v7_rests v7_orders v6_hooks v6_lefts v6_heights v1_table v5_known v8_sizes v8_coefficients v8_undoneSums v8_undos v8_nextUndo v8_imageTaken v0_totals v3_letters v3_count v3_next v3_size v4_values v4_lengths v3_letters_27 v3_count_28 v3_next v3_size v7_rows v7_lengths v7_sizes v7_rests v7_orders v8_sizes v8_coefficients v8_undoneSums v8_undos v8_nextUndo v8_imageTaken) (c_X3_add l D cyI cyJ G a H.size v3_letters v3_count v3_next v3_size v7_rows v7_lengths v7_sizes v7_rests v7_orders v8_sizes v8_coefficients v8_undoneSums v8_undos v8_nextUndo v8_imageTaken x1 v3_letters_27 v3_count_28 hk_29) pk_X3_add mw_5_3 ⟨rfl, rfl, Nat.le_of_ble_eq_true rfl, Nat.le_of_ble_eq_true rfl⟩ rfl rfl rfl rfl rfl (Nat.le_of_ble_eq_true rfl) ⟨Nat.le_of_ble_eq_true rfl, Nat.le_of_ble_eq_true rfl⟩ dX9_letter_40 (fun H locs hP hD hS => ?_)
        refine lv_aload_n hx hb dX9_letter_43 rfl (lv_at hl 0 rfl) ?_
        refine va_get (ci := 9) (v := .ref (a 23)) hx hb hts wX9_in hown hK hP 0 rfl rfl 7 (by decide) (hts _ mw_2_81) (fun _ h9 => h9) rfl dX9_letter_44 ?_
        obtain ⟨r_30, hk_31, hf⟩ := pe_1 hf
        refine xv_i (As := []) (rest := []) (q0 := 0) (ci := 3) Cx hP hD hS hl (pl_X9_X3 a cyI cyJ v9_refusals v7_rows v7_lengths v7_sizes v7_rests v7_orders v6_hooks v6_lefts v6_heights v1_table v5_known v8_sizes v8_coefficients v8_undoneSums v8_undos v8_nextUndo v8_imageTaken v0_totals v3_letters_27 v3_count_28 v3_next v3_size v4_values v4_lengths v3_letters_27 v3_count_28 v3_next v3_size v7_rows v7_lengths v7_sizes v7_rests v7_orders v8_sizes v8_coefficients v8_undoneSums v8_undos v8_nextUndo v8_imageTaken) (c_X3_howMany l D cyI cyJ G a H.size v3_letters_27 v3_count_28 v3_next v3_size v7_rows v7_lengths v7_sizes v7_rests v7_orders v8_sizes v8_coefficients v8_undoneSums v8_undos v8_nextUndo v8_imageTaken r_30 hk_31) pk_X3_howMany mw_5_7 ⟨rfl, rfl, Nat.le_of_ble_eq_true rfl, Nat.le_of_ble_eq_true rfl⟩ rfl rfl rfl rfl rfl (Nat.le_of_ble_eq_true rfl) ⟨Nat.le_of_ble_eq_true rfl, Nat.le_of_ble_eq_true rfl⟩ dX9_letter_47 (fun H locs hP hD hS => ?_)
        obtain ⟨rfl, rfl, rfl, rfl⟩ := po_4 hf
        rw [← hQ]; exact xe_iret Cx rfl hP hD hS dX9_letter_50
      · have hf := pe_f hf hc_26
        exact w_28 v9_refusals v3_letters v3_count H locs ls hf hP hD hS (lv_sub hl [0] rfl)
  · have hf := pe_f hf hc_21
    refine lv_aload_n hx hb dX9_letter_4 rfl (lv_at hl 0 rfl) ?_
    refine lv_bipush (v := (-4 : Int32)) hx hb dX9_letter_5 (by decide) ?_
    obtain ⟨r_32, v9_refusals_33, hk_34, hf⟩ := pe_2 hf
    refine xv_i (As := [.int (-4 : Int32)]) (rest := []) (q0 := 0) (ci := 9) Cx hP hD hS hl (pl_X9_X9 a cyI cyJ v9_refusals v7_rows v7_lengths v7_sizes v7_rests v7_orders v6_hooks v6_lefts v6_heights v1_table v5_known v8_sizes v8_coefficients v8_undoneSums v8_undos v8_nextUndo v8_imageTaken v0_totals v3_letters v3_count v3_next v3_size v4_values v4_lengths v9_refusals_33 v7_rows v7_lengths v7_sizes v7_rests v7_orders v6_hooks v6_lefts v6_heights v1_table v5_known v8_sizes v8_coefficients v8_undoneSums v8_undos v8_nextUndo v8_imageTaken v0_totals v3_letters v3_count v3_next v3_size v4_values v4_lengths) (c_X9_refuse l D cyI cyJ G a H.size v9_refusals v7_rows v7_lengths v7_sizes v7_rests v7_orders v6_hooks v6_lefts v6_heights v1_table v5_known v8_sizes v8_coefficients v8_undoneSums v8_undos v8_nextUndo v8_imageTaken v0_totals v3_letters v3_count v3_next v3_size v4_values v4_lengths (-4 : Int32) r_32 v9_refusals_33 hk_34) pk_X9_refuse mw_2_110 ⟨rfl, rfl, Nat.le_of_ble_eq_true rfl, Nat.le_of_ble_eq_true rfl⟩ rfl rfl rfl rfl rfl (Nat.le_of_ble_eq_true rfl) ⟨Nat.le_of_ble_eq_true rfl, Nat.le_of_ble_eq_true rfl⟩ dX9_letter_7 (fun H locs hP hD hS => ?_)
    obtain ⟨rfl, rfl, rfl, rfl⟩ := po_4 hf
    rw [← hQ]; exact xe_iret Cx rfl hP hD hS dX9_letter_10
def f_X9_keepDraft (v8_sizes : Nat → Int32) (v8_coefficients : Nat → Int32) (v8_undoneSums : Nat → Int32) (v8_undos : Int32) (v8_nextUndo : Int32) (x1 : Int32) : Option (Int32 × (Nat → Int32) × (Nat → Int32) × (Nat → Int32) × Int32 × Int32) := p_b5 (f_X8_keepDraft v8_sizes v8_coefficients v8_undoneSums v8_undos v8_nextUndo x1) (fun v8_sizes_1 v8_coefficients_2 v8_undoneSums_3 v8_undos_4 v8_nextUndo_5 => p_b1 (f_X8_termsOf v8_coefficients_2 x1) (fun r_7 => some (r_7, v8_sizes_1, v8_coefficients_2, v8_undoneSums_3, v8_undos_4, v8_nextUndo_5)))
set_option maxHeartbeats 4000000 in
set_option maxRecDepth 20000 in
theorem c_X9_keepDraft (l : Launch) (D : va_G) (cyI cyJ : ClassId) (G a : Nat → Nat) (sz : Nat) (v9_refusals : Nat → Int32) (v7_rows : Nat → Int32) (v7_lengths : Nat → Int32) (v7_sizes : Nat → Int32) (v7_rests : Nat → Int32) (v7_orders : Nat → Int32) (v6_hooks : Nat → Int32) (v6_lefts : Nat → Int32) (v6_heights : Nat → Int32) (v1_table : Nat → Int32) (v5_known : Nat → Int32) (v8_sizes : Nat → Int32) (v8_coefficients : Nat → Int32) (v8_undoneSums : Nat → Int32) (v8_undos : Int32) (v8_nextUndo : Int32) (v8_imageTaken : Int32) (v0_totals : Nat → Int64) (v3_letters : Nat → Int32) (v3_count : Int32) (v3_next : Int32) (v3_size : Int32) (v4_values : Nat → Int32) (v4_lengths : Nat → Int32) (x1 : Int32) (ro : Int32) (ov8_sizes : Nat → Int32) (ov8_coefficients : Nat → Int32) (ov8_undoneSums : Nat → Int32) (ov8_undos : Int32) (ov8_nextUndo : Int32) (hf : f_X9_keepDraft v8_sizes v8_coefficients v8_undoneSums v8_undos v8_nextUndo x1 = some (ro, ov8_sizes, ov8_coefficients, ov8_undoneSums, ov8_undos, ov8_nextUndo)) : xm_i l yX9_keepDraft (Cond.code yX9_keepDraft cX9_keepDraft 2 (some .int) :: xg_tbl) { frames := 3, cells := 0, slots := 0, locals := 111 } D xcl [(cyI, .int), (cyJ, .long)] G sz [.ref (a 0), .int x1] (wd_X9 a cyI cyJ v9_refusals v7_rows v7_lengths v7_sizes v7_rests v7_orders v6_hooks v6_lefts v6_heights v1_table v5_known v8_sizes v8_coefficients v8_undoneSums v8_undos v8_nextUndo v8_imageTaken v0_totals v3_letters v3_count v3_next v3_size v4_values v4_lengths) (wd_X9 a cyI cyJ v9_refusals v7_rows v7_lengths v7_sizes v7_rests v7_orders v6_hooks v6_lefts v6_heights v1_table v5_known ov8_sizes ov8_coefficients ov8_undoneSums ov8_undos ov8_nextUndo v8_imageTaken v0_totals v3_letters v3_count v3_next v3_size v4_values v4_lengths) ro := by
  refine xm_of_i (own := RX9) (by decide) rfl rfl (Nat.le_of_ble_eq_true rfl) ?_
  intro p e s m args below meth c ls Q A hQ hAe hin Cx hsz hP hD hS hl
  have Cx1 := Cx
  obtain ⟨⟨hx, hb, hml, hown, hts⟩, hr, hlocks, hK, hA, hT⟩ := Cx1
  have hl : lv_has ls 2 [(0, .ref (a 0)), (1, .int x1)] := hl
  obtain ⟨H, eH⟩ : ∃ H, H = s.heap := ⟨_, rfl⟩
  obtain ⟨locs, eL⟩ : ∃ L : List Loc, L = [] := ⟨_, rfl⟩
  rw [← eH] at hP
  have hS : va_S A s.heap H locs := by rw [eH, eL]; exact hS
  suffices hgo : W p l e { frames := 3, cells := 0, slots := 0, locals := 111 } s m args below meth c H locs 0 0 Q (F0 m 0 ls []) by rw [eH, eL] at hgo; exact hgo
  clear eH eL
  unfold f_X9_keepDraft at hf
  refine lv_aload_n hx hb dX9_keepDraft_0 rfl (lv_at hl 0 rfl) ?_
  refine va_get (ci := 9) (v := .ref (a 17)) hx hb hts wX9_in hown hK hP 0 rfl rfl 5 (by decide) (hts _ mw_2_79) (fun _ h9 => h9) rfl dX9_keepDraft_1 ?_
  refine lv_iload_n hx hb dX9_keepDraft_4 rfl (lv_at hl 1 rfl) ?_
  obtain ⟨v8_sizes_9, v8_coefficients_10, v8_undoneSums_11, v8_undos_12, v8_nextUndo_13, hk_14, hf⟩ := pe_5 hf
  refine xv_v (As := [.int x1]) (rest := []) (q0 := 0) (ci := 8) Cx hP hD hS hl (pl_X9_X8 a cyI cyJ v9_refusals v7_rows v7_lengths v7_sizes v7_rests v7_orders v6_hooks v6_lefts v6_heights v1_table v5_known v8_sizes v8_coefficients v8_undoneSums v8_undos v8_nextUndo v8_imageTaken v0_totals v3_letters v3_count v3_next v3_size v4_values v4_lengths v8_sizes_9 v8_coefficients_10 v8_undoneSums_11 v8_undos_12 v8_nextUndo_13 v8_imageTaken) (c_X8_keepDraft l D cyI cyJ G a H.size v8_sizes v8_coefficients v8_undoneSums v8_undos v8_nextUndo v8_imageTaken x1 v8_sizes_9 v8_coefficients_10 v8_undoneSums_11 v8_undos_12 v8_nextUndo_13 hk_14) pk_X8_keepDraft mw_3_31 ⟨rfl, rfl, Nat.le_of_ble_eq_true rfl, Nat.le_of_ble_eq_true rfl⟩ rfl rfl rfl rfl rfl (Nat.le_of_ble_eq_true rfl) ⟨Nat.le_of_ble_eq_true rfl, Nat.le_of_ble_eq_true rfl⟩ dX9_keepDraft_5 (fun H locs hP hD hS => ?_)
  refine lv_aload_n hx hb dX9_keepDraft_8 rfl (lv_at hl 0 rfl) ?_
  refine va_get (ci := 9) (v := .ref (a 17)) hx hb hts wX9_in hown hK hP 0 rfl rfl 5 (by decide) (hts _ mw_2_79) (fun _ h9 => h9) rfl dX9_keepDraft_9 ?_
  refine lv_iload_n hx hb dX9_keepDraft_12 rfl (lv_at hl 1 rfl) ?_
  obtain ⟨r_15, hk_16, hf⟩ := pe_1 hf
  refine xv_i (As := [.int x1]) (rest := []) (q0 := 0) (ci := 8) Cx hP hD hS hl (pl_X9_X8 a cyI cyJ v9_refusals v7_rows v7_lengths v7_sizes v7_rests v7_orders v6_hooks v6_lefts v6_heights v1_table v5_known v8_sizes_9 v8_coefficients_10 v8_undoneSums_11 v8_undos_12 v8_nextUndo_13 v8_imageTaken v0_totals v3_letters v3_count v3_next v3_size v4_values v4_lengths v8_sizes_9 v8_coefficients_10 v8_undoneSums_11 v8_undos_12 v8_nextUndo_13 v8_imageTaken) (c_X8_termsOf l D cyI cyJ G a H.size v8_sizes_9 v8_coefficients_10 v8_undoneSums_11 v8_undos_12 v8_nextUndo_13 v8_imageTaken x1 r_15 hk_16) pk_X8_termsOf mw_3_48 ⟨rfl, rfl, Nat.le_of_ble_eq_true rfl, Nat.le_of_ble_eq_true rfl⟩ rfl rfl rfl rfl rfl (Nat.le_of_ble_eq_true rfl) ⟨Nat.le_of_ble_eq_true rfl, Nat.le_of_ble_eq_true rfl⟩ dX9_keepDraft_13 (fun H locs hP hD hS => ?_)
  obtain ⟨rfl, rfl, rfl, rfl, rfl, rfl⟩ := po_6 hf
  rw [← hQ]; exact xe_iret Cx rfl hP hD hS dX9_keepDraft_16
def f_X9_reads (v9_refusals : Nat → Int32) (v7_sizes : Nat → Int32) (v8_sizes : Nat → Int32) (v8_coefficients : Nat → Int32) (v8_undoneSums : Nat → Int32) (v8_undos : Int32) (v8_nextUndo : Int32) (v3_letters : Nat → Int32) (v3_count : Int32) (v3_next : Int32) (v3_size : Int32) (x1 : Int32) : Option (Int32 × (Nat → Int32) × (Nat → Int32) × (Nat → Int32) × (Nat → Int32) × Int32 × Int32 × Int32 × Int32 × Int32) := p_b1 (f_X8_has x1) (fun r_1 => if r_1 = 0 then (p_b2 (f_X9_refuse v9_refusals (-1 : Int32)) (fun r_21 v9_refusals_22 => some (r_21, v9_refusals_22, v8_sizes, v8_coefficients, v8_undoneSums, v8_undos, v8_nextUndo, v3_count, v3_next, v3_size))) else (p_b5 (f_X3_readToDraft v7_sizes v8_sizes v8_coefficients v3_letters v3_count v3_next v3_size) (fun r_5 v8_sizes_6 v8_coefficients_7 v3_next_8 v3_size_9 => p_b1 (f_X3_forget v3_count) (fun v3_count_11 => if r_5 = (-1 : Int32) then (p_b6 (f_X9_keepDraft v8_sizes_6 v8_coefficients_7 v8_undoneSums v8_undos v8_nextUndo x1) (fun r_14 v8_sizes_15 v8_coefficients_16 v8_undoneSums_17 v8_undos_18 v8_nextUndo_19 => some (r_14, v9_refusals, v8_sizes_15, v8_coefficients_16, v8_undoneSums_17, v8_undos_18, v8_nextUndo_19, v3_count_11, v3_next_8, v3_size_9))) else (some (((-1000 : Int32) - r_5), v9_refusals, v8_sizes_6, v8_coefficients_7, v8_undoneSums, v8_undos, v8_nextUndo, v3_count_11, v3_next_8, v3_size_9))))))
set_option maxHeartbeats 4000000 in
set_option maxRecDepth 20000 in
theorem c_X9_reads (l : Launch) (D : va_G) (cyI cyJ : ClassId) (G a : Nat → Nat) (sz : Nat) (v9_refusals : Nat → Int32) (v7_rows : Nat → Int32) (v7_lengths : Nat → Int32) (v7_sizes : Nat → Int32) (v7_rests : Nat → Int32) (v7_orders : Nat → Int32) (v6_hooks : Nat → Int32) (v6_lefts : Nat → Int32) (v6_heights : Nat → Int32) (v1_table : Nat → Int32) (v5_known : Nat → Int32) (v8_sizes : Nat → Int32) (v8_coefficients : Nat → Int32) (v8_undoneSums : Nat → Int32) (v8_undos : Int32) (v8_nextUndo : Int32) (v8_imageTaken : Int32) (v0_totals : Nat → Int64) (v3_letters : Nat → Int32) (v3_count : Int32) (v3_next : Int32) (v3_size : Int32) (v4_values : Nat → Int32) (v4_lengths : Nat → Int32) (x1 : Int32) (ro : Int32) (ov9_refusals : Nat → Int32) (ov8_sizes : Nat → Int32) (ov8_coefficients : Nat → Int32) (ov8_undoneSums : Nat → Int32) (ov8_undos : Int32) (ov8_nextUndo : Int32) (ov3_count : Int32) (ov3_next : Int32) (ov3_size : Int32) (hf : f_X9_reads v9_refusals v7_sizes v8_sizes v8_coefficients v8_undoneSums v8_undos v8_nextUndo v3_letters v3_count v3_next v3_size x1 = some (ro, ov9_refusals, ov8_sizes, ov8_coefficients, ov8_undoneSums, ov8_undos, ov8_nextUndo, ov3_count, ov3_next, ov3_size)) : xm_i l yX9_reads (Cond.code yX9_reads cX9_reads 3 (some .int) :: xg_tbl) { frames := 5, cells := 0, slots := 0, locals := 132 } D xcl [(cyI, .int), (cyJ, .long)] G sz [.ref (a 0), .int x1] (wd_X9 a cyI cyJ v9_refusals v7_rows v7_lengths v7_sizes v7_rests v7_orders v6_hooks v6_lefts v6_heights v1_table v5_known v8_sizes v8_coefficients v8_undoneSums v8_undos v8_nextUndo v8_imageTaken v0_totals v3_letters v3_count v3_next v3_size v4_values v4_lengths) (wd_X9 a cyI cyJ ov9_refusals v7_rows v7_lengths v7_sizes v7_rests v7_orders v6_hooks v6_lefts v6_heights v1_table v5_known ov8_sizes ov8_coefficients ov8_undoneSums ov8_undos ov8_nextUndo v8_imageTaken v0_totals v3_letters ov3_count ov3_next ov3_size v4_values v4_lengths) ro := by
  refine xm_of_i (own := RX9) (by decide) rfl rfl (Nat.le_of_ble_eq_true rfl) ?_
  intro p e s m args below meth c ls Q A hQ hAe hin Cx hsz hP hD hS hl
  have Cx1 := Cx
  obtain ⟨⟨hx, hb, hml, hown, hts⟩, hr, hlocks, hK, hA, hT⟩ := Cx1
  have hl : lv_has ls 3 [(0, .ref (a 0)), (1, .int x1)] := hl
  obtain ⟨H, eH⟩ : ∃ H, H = s.heap := ⟨_, rfl⟩
  obtain ⟨locs, eL⟩ : ∃ L : List Loc, L = [] := ⟨_, rfl⟩
  rw [← eH] at hP
  have hS : va_S A s.heap H locs := by rw [eH, eL]; exact hS
  suffices hgo : W p l e { frames := 5, cells := 0, slots := 0, locals := 132 } s m args below meth c H locs 0 0 Q (F0 m 0 ls []) by rw [eH, eL] at hgo; exact hgo
  clear eH eL
  unfold f_X9_reads at hf
  refine lv_aload_n hx hb dX9_reads_0 rfl (lv_at hl 0 rfl) ?_
  refine va_get (ci := 9) (v := .ref (a 17)) hx hb hts wX9_in hown hK hP 0 rfl rfl 5 (by decide) (hts _ mw_2_79) (fun _ h9 => h9) rfl dX9_reads_1 ?_
  refine lv_iload_n hx hb dX9_reads_4 rfl (lv_at hl 1 rfl) ?_
  obtain ⟨r_24, hk_25, hf⟩ := pe_1 hf
  refine xv_z (As := [.int x1]) (rest := []) (q0 := 0) (ci := 8) Cx hP hD hS hl (pl_X9_X8 a cyI cyJ v9_refusals v7_rows v7_lengths v7_sizes v7_rests v7_orders v6_hooks v6_lefts v6_heights v1_table v5_known v8_sizes v8_coefficients v8_undoneSums v8_undos v8_nextUndo v8_imageTaken v0_totals v3_letters v3_count v3_next v3_size v4_values v4_lengths v8_sizes v8_coefficients v8_undoneSums v8_undos v8_nextUndo v8_imageTaken) (c_X8_has l D cyI cyJ G a H.size v8_sizes v8_coefficients v8_undoneSums v8_undos v8_nextUndo v8_imageTaken x1 r_24 hk_25) pk_X8_has mw_3_10 ⟨rfl, rfl, Nat.le_of_ble_eq_true rfl, Nat.le_of_ble_eq_true rfl⟩ rfl rfl rfl rfl rfl (Nat.le_of_ble_eq_true rfl) ⟨Nat.le_of_ble_eq_true rfl, Nat.le_of_ble_eq_true rfl⟩ dX9_reads_5 (fun H locs hn_26 hP hD hS => ?_)
  refine lv_if_ne (tgt := 17) hx hb dX9_reads_8 (by decide) (fun hc_27 => ?_) (fun hc_27 => ?_)
  · have hf := pe_f hf hc_27
    refine lv_aload_n hx hb dX9_reads_17 rfl (lv_at hl 0 rfl) ?_
    refine va_get (ci := 9) (v := .ref (a 23)) hx hb hts wX9_in hown hK hP 0 rfl rfl 7 (by decide) (hts _ mw_2_81) (fun _ h9 => h9) rfl dX9_reads_18 ?_
    obtain ⟨r_28, v8_sizes_29, v8_coefficients_30, v3_next_31, v3_size_32, hk_33, hf⟩ := pe_5 hf
    refine xv_i (As := []) (rest := []) (q0 := 0) (ci := 3) Cx hP hD hS hl (pl_X9_X3 a cyI cyJ v9_refusals v7_rows v7_lengths v7_sizes v7_rests v7_orders v6_hooks v6_lefts v6_heights v1_table v5_known v8_sizes v8_coefficients v8_undoneSums v8_undos v8_nextUndo v8_imageTaken v0_totals v3_letters v3_count v3_next v3_size v4_values v4_lengths v3_letters v3_count v3_next_31 v3_size_32 v7_rows v7_lengths v7_sizes v7_rests v7_orders v8_sizes_29 v8_coefficients_30 v8_undoneSums v8_undos v8_nextUndo v8_imageTaken) (c_X3_readToDraft l D cyI cyJ G a H.size v3_letters v3_count v3_next v3_size v7_rows v7_lengths v7_sizes v7_rests v7_orders v8_sizes v8_coefficients v8_undoneSums v8_undos v8_nextUndo v8_imageTaken r_28 v8_sizes_29 v8_coefficients_30 v3_next_31 v3_size_32 hk_33) pk_X3_readToDraft mw_5_15 ⟨rfl, rfl, Nat.le_of_ble_eq_true rfl, Nat.le_of_ble_eq_true rfl⟩ rfl rfl rfl rfl rfl (Nat.le_of_ble_eq_true rfl) ⟨Nat.le_of_ble_eq_true rfl, Nat.le_of_ble_eq_true rfl⟩ dX9_reads_21 (fun H locs hP hD hS => ?_)
    refine lv_istore_n (lv' := [(2, .int r_28), (0, .ref (a 0)), (1, .int x1)]) hx hb dX9_reads_24 rfl hl (by decide) rfl (fun ls hl => ?_)
    refine lv_aload_n hx hb dX9_reads_25 rfl (lv_at hl 1 rfl) ?_
    refine va_get (ci := 9) (v := .ref (a 23)) hx hb hts wX9_in hown hK hP 0 rfl rfl 7 (by decide) (hts _ mw_2_81) (fun _ h9 => h9) rfl dX9_reads_26 ?_
    obtain ⟨v3_count_34, hk_35, hf⟩ := pe_1 hf
    refine xv_v (As := []) (rest := []) (q0 := 0) (ci := 3) Cx hP hD hS hl (pl_X9_X3 a cyI cyJ v9_refusals v7_rows v7_lengths v7_sizes v7_rests v7_orders v6_hooks v6_lefts v6_heights v1_table v5_known v8_sizes_29 v8_coefficients_30 v8_undoneSums v8_undos v8_nextUndo v8_imageTaken v0_totals v3_letters v3_count v3_next_31 v3_size_32 v4_values v4_lengths v3_letters v3_count_34 v3_next_31 v3_size_32 v7_rows v7_lengths v7_sizes v7_rests v7_orders v8_sizes_29 v8_coefficients_30 v8_undoneSums v8_undos v8_nextUndo v8_imageTaken) (c_X3_forget l D cyI cyJ G a H.size v3_letters v3_count v3_next_31 v3_size_32 v7_rows v7_lengths v7_sizes v7_rests v7_orders v8_sizes_29 v8_coefficients_30 v8_undoneSums v8_undos v8_nextUndo v8_imageTaken v3_count_34 hk_35) pk_X3_forget mw_5_48 ⟨rfl, rfl, Nat.le_of_ble_eq_true rfl, Nat.le_of_ble_eq_true rfl⟩ rfl rfl rfl rfl rfl (Nat.le_of_ble_eq_true rfl) ⟨Nat.le_of_ble_eq_true rfl, Nat.le_of_ble_eq_true rfl⟩ dX9_reads_29 (fun H locs hP hD hS => ?_)
    refine lv_iload_n hx hb dX9_reads_32 rfl (lv_at hl 0 rfl) ?_
    refine lv_iconst (v := (-1 : Int32)) hx hb dX9_reads_33 (by decide) ?_
    refine lv_icmp_ne (tgt := 45) hx hb dX9_reads_34 (by decide) (fun hc_36 => ?_) (fun hc_36 => ?_)
    · have hf := pe_f hf hc_36
      refine lv_sipush (v := (-1000 : Int32)) hx hb dX9_reads_45 (by decide) ?_
      refine lv_iload_n hx hb dX9_reads_48 rfl (lv_at hl 0 rfl) ?_
      refine lv_isub hx hb dX9_reads_49 ?_
      simp only [Option.some.injEq, Prod.mk.injEq] at hf
      obtain ⟨rfl, rfl, rfl, rfl, rfl, rfl, rfl, rfl, rfl, rfl⟩ := hf
      rw [← hQ]; exact xe_iret Cx rfl hP hD hS dX9_reads_50
    · have hf := pe_t hf hc_36
      refine lv_aload_n hx hb dX9_reads_37 rfl (lv_at hl 1 rfl) ?_
      refine lv_iload_n hx hb dX9_reads_38 rfl (lv_at hl 2 rfl) ?_
      obtain ⟨r_37, v8_sizes_38, v8_coefficients_39, v8_undoneSums_40, v8_undos_41, v8_nextUndo_42, hk_43, hf⟩ := pe_6 hf
      refine xv_i (As := [.int x1]) (rest := []) (q0 := 0) (ci := 9) Cx hP hD hS hl (pl_X9_X9 a cyI cyJ v9_refusals v7_rows v7_lengths v7_sizes v7_rests v7_orders v6_hooks v6_lefts v6_heights v1_table v5_known v8_sizes_29 v8_coefficients_30 v8_undoneSums v8_undos v8_nextUndo v8_imageTaken v0_totals v3_letters v3_count_34 v3_next_31 v3_size_32 v4_values v4_lengths v9_refusals v7_rows v7_lengths v7_sizes v7_rests v7_orders v6_hooks v6_lefts v6_heights v1_table v5_known v8_sizes_38 v8_coefficients_39 v8_undoneSums_40 v8_undos_41 v8_nextUndo_42 v8_imageTaken v0_totals v3_letters v3_count_34 v3_next_31 v3_size_32 v4_values v4_lengths) (c_X9_keepDraft l D cyI cyJ G a H.size v9_refusals v7_rows v7_lengths v7_sizes v7_rests v7_orders v6_hooks v6_lefts v6_heights v1_table v5_known v8_sizes_29 v8_coefficients_30 v8_undoneSums v8_undos v8_nextUndo v8_imageTaken v0_totals v3_letters v3_count_34 v3_next_31 v3_size_32 v4_values v4_lengths x1 r_37 v8_sizes_38 v8_coefficients_39 v8_undoneSums_40 v8_undos_41 v8_nextUndo_42 hk_43) pk_X9_keepDraft mw_3_111 ⟨rfl, rfl, Nat.le_of_ble_eq_true rfl, Nat.le_of_ble_eq_true rfl⟩ rfl rfl rfl rfl rfl (Nat.le_of_ble_eq_true rfl) ⟨Nat.le_of_ble_eq_true rfl, Nat.le_of_ble_eq_true rfl⟩ dX9_reads_39 (fun H locs hP hD hS => ?_)
      refine lv_goto (tgt := 50) hx hb dX9_reads_42 (by decide) ?_
      simp only [Option.some.injEq, Prod.mk.injEq] at hf
      obtain ⟨rfl, rfl, rfl, rfl, rfl, rfl, rfl, rfl, rfl, rfl⟩ := hf
      rw [← hQ]; exact xe_iret Cx rfl hP hD hS dX9_reads_50
  · have hf := pe_t hf hc_27
    refine lv_aload_n hx hb dX9_reads_11 rfl (lv_at hl 0 rfl) ?_
    refine lv_iconst (v := (-1 : Int32)) hx hb dX9_reads_12 (by decide) ?_
    obtain ⟨r_44, v9_refusals_45, hk_46, hf⟩ := pe_2 hf
    refine xv_i (As := [.int (-1 : Int32)]) (rest := []) (q0 := 0) (ci := 9) Cx hP hD hS hl (pl_X9_X9 a cyI cyJ v9_refusals v7_rows v7_lengths v7_sizes v7_rests v7_orders v6_hooks v6_lefts v6_heights v1_table v5_known v8_sizes v8_coefficients v8_undoneSums v8_undos v8_nextUndo v8_imageTaken v0_totals v3_letters v3_count v3_next v3_size v4_values v4_lengths v9_refusals_45 v7_rows v7_lengths v7_sizes v7_rests v7_orders v6_hooks v6_lefts v6_heights v1_table v5_known v8_sizes v8_coefficients v8_undoneSums v8_undos v8_nextUndo v8_imageTaken v0_totals v3_letters v3_count v3_next v3_size v4_values v4_lengths) (c_X9_refuse l D cyI cyJ G a H.size v9_refusals v7_rows v7_lengths v7_sizes v7_rests v7_orders v6_hooks v6_lefts v6_heights v1_table v5_known v8_sizes v8_coefficients v8_undoneSums v8_undos v8_nextUndo v8_imageTaken v0_totals v3_letters v3_count v3_next v3_size v4_values v4_lengths (-1 : Int32) r_44 v9_refusals_45 hk_46) pk_X9_refuse mw_2_110 ⟨rfl, rfl, Nat.le_of_ble_eq_true rfl, Nat.le_of_ble_eq_true rfl⟩ rfl rfl rfl rfl rfl (Nat.le_of_ble_eq_true rfl) ⟨Nat.le_of_ble_eq_true rfl, Nat.le_of_ble_eq_true rfl⟩ dX9_reads_13 (fun H locs hP hD hS => ?_)
    simp only [Option.some.injEq, Prod.mk.injEq] at hf
    obtain ⟨rfl, rfl, rfl, rfl, rfl, rfl, rfl, rfl, rfl, rfl⟩ := hf
    rw [← hQ]; exact xe_iret Cx rfl hP hD hS dX9_reads_16
def f_X9_clear_33 (v9_refusals : Nat → Int32) (v8_sizes : Nat → Int32) (v8_coefficients : Nat → Int32) (v8_undoneSums : Nat → Int32) (v8_undos : Int32) (v8_nextUndo : Int32) (y1 : Int32) (z0 : Int32) : Option (Int32 × (Nat → Int32) × (Nat → Int32) × (Nat → Int32) × (Nat → Int32) × Int32 × Int32) := p_b2 (f_X8_draftMissing v8_sizes v8_coefficients) (fun v8_sizes_1 v8_coefficients_2 => p_b5 (f_X8_keepDraft v8_sizes_1 v8_coefficients_2 v8_undoneSums v8_undos v8_nextUndo y1) (fun v8_sizes_4 v8_coefficients_5 v8_undoneSums_6 v8_undos_7 v8_nextUndo_8 => some (z0, v9_refusals, v8_sizes_4, v8_coefficients_5, v8_undoneSums_6, v8_undos_7, v8_nextUndo_8)))
def f_X9_clear (v9_refusals : Nat → Int32) (v8_sizes : Nat → Int32) (v8_coefficients : Nat → Int32) (v8_undoneSums : Nat → Int32) (v8_undos : Int32) (v8_nextUndo : Int32) (x1 : Int32) : Option (Int32 × (Nat → Int32) × (Nat → Int32) × (Nat → Int32) × (Nat → Int32) × Int32 × Int32) := p_b1 (f_X8_has x1) (fun r_10 => if r_10 = 0 then (p_b2 (f_X9_refuse v9_refusals (-1 : Int32)) (fun r_18 v9_refusals_19 => some (r_18, v9_refusals_19, v8_sizes, v8_coefficients, v8_undoneSums, v8_undos, v8_nextUndo))) else (p_b1 (f_X8_isMissing v8_sizes x1) (fun r_14 => if r_14 = 0 then ((f_X9_clear_33) v9_refusals v8_sizes v8_coefficients v8_undoneSums v8_undos v8_nextUndo x1 (1 : Int32)) else ((f_X9_clear_33) v9_refusals v8_sizes v8_coefficients v8_undoneSums v8_undos v8_nextUndo x1 (0 : Int32)))))
set_option maxHeartbeats 4000000 in
set_option maxRecDepth 20000 in
theorem c_X9_clear (l : Launch) (D : va_G) (cyI cyJ : ClassId) (G a : Nat → Nat) (sz : Nat) (v9_refusals : Nat → Int32) (v7_rows : Nat → Int32) (v7_lengths : Nat → Int32) (v7_sizes : Nat → Int32) (v7_rests : Nat → Int32) (v7_orders : Nat → Int32) (v6_hooks : Nat → Int32) (v6_lefts : Nat → Int32) (v6_heights : Nat → Int32) (v1_table : Nat → Int32) (v5_known : Nat → Int32) (v8_sizes : Nat → Int32) (v8_coefficients : Nat → Int32) (v8_undoneSums : Nat → Int32) (v8_undos : Int32) (v8_nextUndo : Int32) (v8_imageTaken : Int32) (v0_totals : Nat → Int64) (v3_letters : Nat → Int32) (v3_count : Int32) (v3_next : Int32) (v3_size : Int32) (v4_values : Nat → Int32) (v4_lengths : Nat → Int32) (x1 : Int32) (ro : Int32) (ov9_refusals : Nat → Int32) (ov8_sizes : Nat → Int32) (ov8_coefficients : Nat → Int32) (ov8_undoneSums : Nat → Int32) (ov8_undos : Int32) (ov8_nextUndo : Int32) (hf : f_X9_clear v9_refusals v8_sizes v8_coefficients v8_undoneSums v8_undos v8_nextUndo x1 = some (ro, ov9_refusals, ov8_sizes, ov8_coefficients, ov8_undoneSums, ov8_undos, ov8_nextUndo)) : xm_i l yX9_clear (Cond.code yX9_clear cX9_clear 3 (some .int) :: xg_tbl) { frames := 3, cells := 0, slots := 0, locals := 111 } D xcl [(cyI, .int), (cyJ, .long)] G sz [.ref (a 0), .int x1] (wd_X9 a cyI cyJ v9_refusals v7_rows v7_lengths v7_sizes v7_rests v7_orders v6_hooks v6_lefts v6_heights v1_table v5_known v8_sizes v8_coefficients v8_undoneSums v8_undos v8_nextUndo v8_imageTaken v0_totals v3_letters v3_count v3_next v3_size v4_values v4_lengths) (wd_X9 a cyI cyJ ov9_refusals v7_rows v7_lengths v7_sizes v7_rests v7_orders v6_hooks v6_lefts v6_heights v1_table v5_known ov8_sizes ov8_coefficients ov8_undoneSums ov8_undos ov8_nextUndo v8_imageTaken v0_totals v3_letters v3_count v3_next v3_size v4_values v4_lengths) ro := by
  refine xm_of_i (own := RX9) (by decide) rfl rfl (Nat.le_of_ble_eq_true rfl) ?_
  intro p e s m args below meth c ls Q A hQ hAe hin Cx hsz hP hD hS hl
  have Cx1 := Cx
  obtain ⟨⟨hx, hb, hml, hown, hts⟩, hr, hlocks, hK, hA, hT⟩ := Cx1
  have hl : lv_has ls 3 [(0, .ref (a 0)), (1, .int x1)] := hl
  obtain ⟨H, eH⟩ : ∃ H, H = s.heap := ⟨_, rfl⟩
  obtain ⟨locs, eL⟩ : ∃ L : List Loc, L = [] := ⟨_, rfl⟩
  rw [← eH] at hP
  have hS : va_S A s.heap H locs := by rw [eH, eL]; exact hS
  suffices hgo : W p l e { frames := 3, cells := 0, slots := 0, locals := 111 } s m args below meth c H locs 0 0 Q (F0 m 0 ls []) by rw [eH, eL] at hgo; exact hgo
  clear eH eL
  unfold f_X9_clear at hf
  have w_33 : ∀ (v9_refusals : Nat → Int32) (v8_sizes : Nat → Int32) (v8_coefficients : Nat → Int32) (v8_undoneSums : Nat → Int32) (v8_undos : Int32) (v8_nextUndo : Int32) (y1 : Int32) (z0 : Int32) (H : Heap) (locs : List Loc) (ls : Array Slot), f_X9_clear_33 v9_refusals v8_sizes v8_coefficients v8_undoneSums v8_undos v8_nextUndo y1 z0 = some (ro, ov9_refusals, ov8_sizes, ov8_coefficients, ov8_undoneSums, ov8_undos, ov8_nextUndo) → va_P D xcl (wd_X9 a cyI cyJ v9_refusals v7_rows v7_lengths v7_sizes v7_rests v7_orders v6_hooks v6_lefts v6_heights v1_table v5_known v8_sizes v8_coefficients v8_undoneSums v8_undos v8_nextUndo v8_imageTaken v0_totals v3_letters v3_count v3_next v3_size v4_values v4_lengths) H → va_D A (wd_X9 a cyI cyJ v9_refusals v7_rows v7_lengths v7_sizes v7_rests v7_orders v6_hooks v6_lefts v6_heights v1_table v5_known v8_sizes v8_coefficients v8_undoneSums v8_undos v8_nextUndo v8_imageTaken v0_totals v3_letters v3_count v3_next v3_size v4_values v4_lengths) → va_S A s.heap H locs → lv_has ls 3 [(0, .ref (a 0)), (1, .int y1)] → W p l e { frames := 3, cells := 0, slots := 0, locals := 111 } s m args below meth c H locs 0 0 Q (F0 m 33 ls [.int z0]) := by
    intro v9_refusals v8_sizes v8_coefficients v8_undoneSums v8_undos v8_nextUndo y1 z0 H locs ls hf hP hD hS hl
    unfold f_X9_clear_33 at hf
    refine lv_istore_n (lv' := [(2, .int z0), (0, .ref (a 0)), (1, .int y1)]) hx hb dX9_clear_33 rfl hl (by decide) rfl (fun ls hl => ?_)
    refine lv_aload_n hx hb dX9_clear_34 rfl (lv_at hl 1 rfl) ?_
    refine va_get (ci := 9) (v := .ref (a 17)) hx hb hts wX9_in hown hK hP 0 rfl rfl 5 (by decide) (hts _ mw_2_79) (fun _ h9 => h9) rfl dX9_clear_35 ?_
    obtain ⟨v8_sizes_21, v8_coefficients_22, hk_23, hf⟩ := pe_2 hf
    refine xv_v (As := []) (rest := []) (q0 := 0) (ci := 8) Cx hP hD hS hl (pl_X9_X8 a cyI cyJ v9_refusals v7_rows v7_lengths v7_sizes v7_rests v7_orders v6_hooks v6_lefts v6_heights v1_table v5_known v8_sizes v8_coefficients v8_undoneSums v8_undos v8_nextUndo v8_imageTaken v0_totals v3_letters v3_count v3_next v3_size v4_values v4_lengths v8_sizes_21 v8_coefficients_22 v8_undoneSums v8_undos v8_nextUndo v8_imageTaken) (c_X8_draftMissing l D cyI cyJ G a H.size v8_sizes v8_coefficients v8_undoneSums v8_undos v8_nextUndo v8_imageTaken v8_sizes_21 v8_coefficients_22 hk_23) pk_X8_draftMissing mw_3_23 ⟨rfl, rfl, Nat.le_of_ble_eq_true rfl, Nat.le_of_ble_eq_true rfl⟩ rfl rfl rfl rfl rfl (Nat.le_of_ble_eq_true rfl) ⟨Nat.le_of_ble_eq_true rfl, Nat.le_of_ble_eq_true rfl⟩ dX9_clear_38 (fun H locs hP hD hS => ?_)
    refine lv_aload_n hx hb dX9_clear_41 rfl (lv_at hl 1 rfl) ?_
    refine va_get (ci := 9) (v := .ref (a 17)) hx hb hts wX9_in hown hK hP 0 rfl rfl 5 (by decide) (hts _ mw_2_79) (fun _ h9 => h9) rfl dX9_clear_42 ?_
    refine lv_iload_n hx hb dX9_clear_45 rfl (lv_at hl 2 rfl) ?_
    obtain ⟨v8_sizes_24, v8_coefficients_25, v8_undoneSums_26, v8_undos_27, v8_nextUndo_28, hk_29, hf⟩ := pe_5 hf
    refine xv_v (As := [.int y1]) (rest := []) (q0 := 0) (ci := 8) Cx hP hD hS hl (pl_X9_X8 a cyI cyJ v9_refusals v7_rows v7_lengths v7_sizes v7_rests v7_orders v6_hooks v6_lefts v6_heights v1_table v5_known v8_sizes_21 v8_coefficients_22 v8_undoneSums v8_undos v8_nextUndo v8_imageTaken v0_totals v3_letters v3_count v3_next v3_size v4_values v4_lengths v8_sizes_24 v8_coefficients_25 v8_undoneSums_26 v8_undos_27 v8_nextUndo_28 v8_imageTaken) (c_X8_keepDraft l D cyI cyJ G a H.size v8_sizes_21 v8_coefficients_22 v8_undoneSums v8_undos v8_nextUndo v8_imageTaken y1 v8_sizes_24 v8_coefficients_25 v8_undoneSums_26 v8_undos_27 v8_nextUndo_28 hk_29) pk_X8_keepDraft mw_3_31 ⟨rfl, rfl, Nat.le_of_ble_eq_true rfl, Nat.le_of_ble_eq_true rfl⟩ rfl rfl rfl rfl rfl (Nat.le_of_ble_eq_true rfl) ⟨Nat.le_of_ble_eq_true rfl, Nat.le_of_ble_eq_true rfl⟩ dX9_clear_46 (fun H locs hP hD hS => ?_)
    refine lv_iload_n hx hb dX9_clear_49 rfl (lv_at hl 0 rfl) ?_
    obtain ⟨rfl, rfl, rfl, rfl, rfl, rfl, rfl⟩ := po_7 hf
    rw [← hQ]; exact xe_iret Cx rfl hP hD hS dX9_clear_50
  refine lv_aload_n hx hb dX9_clear_0 rfl (lv_at hl 0 rfl) ?_
  refine va_get (ci := 9) (v := .ref (a 17)) hx hb hts wX9_in hown hK hP 0 rfl rfl 5 (by decide) (hts _ mw_2_79) (fun _ h9 => h9) rfl dX9_clear_1 ?_
  refine lv_iload_n hx hb dX9_clear_4 rfl (lv_at hl 1 rfl) ?_
  obtain ⟨r_30, hk_31, hf⟩ := pe_1 hf
  refine xv_z (As := [.int x1]) (rest := []) (q0 := 0) (ci := 8) Cx hP hD hS hl (pl_X9_X8 a cyI cyJ v9_refusals v7_rows v7_lengths v7_sizes v7_rests v7_orders v6_hooks v6_lefts v6_heights v1_table v5_known v8_sizes v8_coefficients v8_undoneSums v8_undos v8_nextUndo v8_imageTaken v0_totals v3_letters v3_count v3_next v3_size v4_values v4_lengths v8_sizes v8_coefficients v8_undoneSums v8_undos v8_nextUndo v8_imageTaken) (c_X8_has l D cyI cyJ G a H.size v8_sizes v8_coefficients v8_undoneSums v8_undos v8_nextUndo v8_imageTaken x1 r_30 hk_31) pk_X8_has mw_3_10 ⟨rfl, rfl, Nat.le_of_ble_eq_true rfl, Nat.le_of_ble_eq_true rfl⟩ rfl rfl rfl rfl rfl (Nat.le_of_ble_eq_true rfl) ⟨Nat.le_of_ble_eq_true rfl, Nat.le_of_ble_eq_true rfl⟩ dX9_clear_5 (fun H locs hn_32 hP hD hS => ?_)
  refine lv_if_ne (tgt := 17) hx hb dX9_clear_8 (by decide) (fun hc_33 => ?_) (fun hc_33 => ?_)
  · have hf := pe_f hf hc_33
    refine lv_aload_n hx hb dX9_clear_17 rfl (lv_at hl 0 rfl) ?_
    refine va_get (ci := 9) (v := .ref (a 17)) hx hb hts wX9_in hown hK hP 0 rfl rfl 5 (by decide) (hts _ mw_2_79) (fun _ h9 => h9) rfl dX9_clear_18 ?_
    refine lv_iload_n hx hb dX9_clear_21 rfl (lv_at hl 1 rfl) ?_
    obtain ⟨r_34, hk_35, hf⟩ := pe_1 hf
    refine xv_z (As := [.int x1]) (rest := []) (q0 := 0) (ci := 8) Cx hP hD hS hl (pl_X9_X8 a cyI cyJ v9_refusals v7_rows v7_lengths v7_sizes v7_rests v7_orders v6_hooks v6_lefts v6_heights v1_table v5_known v8_sizes v8_coefficients v8_undoneSums v8_undos v8_nextUndo v8_imageTaken v0_totals v3_letters v3_count v3_next v3_size v4_values v4_lengths v8_sizes v8_coefficients v8_undoneSums v8_undos v8_nextUndo v8_imageTaken) (c_X8_isMissing l D cyI cyJ G a H.size v8_sizes v8_coefficients v8_undoneSums v8_undos v8_nextUndo v8_imageTaken x1 r_34 hk_35) pk_X8_isMissing mw_3_14 ⟨rfl, rfl, Nat.le_of_ble_eq_true rfl, Nat.le_of_ble_eq_true rfl⟩ rfl rfl rfl rfl rfl (Nat.le_of_ble_eq_true rfl) ⟨Nat.le_of_ble_eq_true rfl, Nat.le_of_ble_eq_true rfl⟩ dX9_clear_22 (fun H locs hn_36 hP hD hS => ?_)
    refine lv_if_eq (tgt := 32) hx hb dX9_clear_25 (by decide) (fun hc_37 => ?_) (fun hc_37 => ?_)
    · have hf := pe_t hf hc_37
      refine lv_iconst (v := (1 : Int32)) hx hb dX9_clear_32 (by decide) ?_
      exact w_33 v9_refusals v8_sizes v8_coefficients v8_undoneSums v8_undos v8_nextUndo x1 (1 : Int32) H locs ls hf hP hD hS (lv_sub hl [0, 1] rfl)
    · have hf := pe_f hf hc_37
      refine lv_iconst (v := (0 : Int32)) hx hb dX9_clear_28 (by decide) ?_
      refine lv_goto (tgt := 33) hx hb dX9_clear_29 (by decide) ?_
      exact w_33 v9_refusals v8_sizes v8_coefficients v8_undoneSums v8_undos v8_nextUndo x1 (0 : Int32) H locs ls hf hP hD hS (lv_sub hl [0, 1] rfl)
  · have hf := pe_t hf hc_33
    refine lv_aload_n hx hb dX9_clear_11 rfl (lv_at hl 0 rfl) ?_
    refine lv_iconst (v := (-1 : Int32)) hx hb dX9_clear_12 (by decide) ?_
    obtain ⟨r_38, v9_refusals_39, hk_40, hf⟩ := pe_2 hf
    refine xv_i (As := [.int (-1 : Int32)]) (rest := []) (q0 := 0) (ci := 9) Cx hP hD hS hl (pl_X9_X9 a cyI cyJ v9_refusals v7_rows v7_lengths v7_sizes v7_rests v7_orders v6_hooks v6_lefts v6_heights v1_table v5_known v8_sizes v8_coefficients v8_undoneSums v8_undos v8_nextUndo v8_imageTaken v0_totals v3_letters v3_count v3_next v3_size v4_values v4_lengths v9_refusals_39 v7_rows v7_lengths v7_sizes v7_rests v7_orders v6_hooks v6_lefts v6_heights v1_table v5_known v8_sizes v8_coefficients v8_undoneSums v8_undos v8_nextUndo v8_imageTaken v0_totals v3_letters v3_count v3_next v3_size v4_values v4_lengths) (c_X9_refuse l D cyI cyJ G a H.size v9_refusals v7_rows v7_lengths v7_sizes v7_rests v7_orders v6_hooks v6_lefts v6_heights v1_table v5_known v8_sizes v8_coefficients v8_undoneSums v8_undos v8_nextUndo v8_imageTaken v0_totals v3_letters v3_count v3_next v3_size v4_values v4_lengths (-1 : Int32) r_38 v9_refusals_39 hk_40) pk_X9_refuse mw_2_110 ⟨rfl, rfl, Nat.le_of_ble_eq_true rfl, Nat.le_of_ble_eq_true rfl⟩ rfl rfl rfl rfl rfl (Nat.le_of_ble_eq_true rfl) ⟨Nat.le_of_ble_eq_true rfl, Nat.le_of_ble_eq_true rfl⟩ dX9_clear_13 (fun H locs hP hD hS => ?_)
    obtain ⟨rfl, rfl, rfl, rfl, rfl, rfl, rfl⟩ := po_7 hf
    rw [← hQ]; exact xe_iret Cx rfl hP hD hS dX9_clear_16
def f_X9_firstTerm (v8_sizes : Nat → Int32) (v8_coefficients : Nat → Int32) (x1 : Int32) : Option (Int32) := p_b1 (f_X8_firstTermOf v8_coefficients x1) (fun r_1 => if 0 ≤ r_1 then (p_b1 (f_X8_sizeOf v8_sizes x1) (fun r_4 => p_b1 (f_X7_firstOf r_4) (fun r_6 => some ((r_6 + r_1))))) else (some ((-9 : Int32))))
set_option maxHeartbeats 4000000 in
set_option maxRecDepth 20000 in
theorem c_X9_firstTerm (l : Launch) (D : va_G) (cyI cyJ : ClassId) (G a : Nat → Nat) (sz : Nat) (v9_refusals : Nat → Int32) (v7_rows : Nat → Int32) (v7_lengths : Nat → Int32) (v7_sizes : Nat → Int32) (v7_rests : Nat → Int32) (v7_orders : Nat → Int32) (v6_hooks : Nat → Int32) (v6_lefts : Nat → Int32) (v6_heights : Nat → Int32) (v1_table : Nat → Int32) (v5_known : Nat → Int32) (v8_sizes : Nat → Int32) (v8_coefficients : Nat → Int32) (v8_undoneSums : Nat → Int32) (v8_undos : Int32) (v8_nextUndo : Int32) (v8_imageTaken : Int32) (v0_totals : Nat → Int64) (v3_letters : Nat → Int32) (v3_count : Int32) (v3_next : Int32) (v3_size : Int32) (v4_values : Nat → Int32) (v4_lengths : Nat → Int32) (x1 : Int32) (ro : Int32) (hf : f_X9_firstTerm v8_sizes v8_coefficients x1 = some ro) : xm_i l yX9_firstTerm (Cond.code yX9_firstTerm cX9_firstTerm 3 (some .int) :: xg_tbl) { frames := 3, cells := 0, slots := 0, locals := 66 } D xcl [(cyI, .int), (cyJ, .long)] G sz [.ref (a 0), .int x1] (wd_X9 a cyI cyJ v9_refusals v7_rows v7_lengths v7_sizes v7_rests v7_orders v6_hooks v6_lefts v6_heights v1_table v5_known v8_sizes v8_coefficients v8_undoneSums v8_undos v8_nextUndo v8_imageTaken v0_totals v3_letters v3_count v3_next v3_size v4_values v4_lengths) (wd_X9 a cyI cyJ v9_refusals v7_rows v7_lengths v7_sizes v7_rests v7_orders v6_hooks v6_lefts v6_heights v1_table v5_known v8_sizes v8_coefficients v8_undoneSums v8_undos v8_nextUndo v8_imageTaken v0_totals v3_letters v3_count v3_next v3_size v4_values v4_lengths) ro := by
  refine xm_of_i (own := RX9) (by decide) rfl rfl (Nat.le_of_ble_eq_true rfl) ?_
  intro p e s m args below meth c ls Q A hQ hAe hin Cx hsz hP hD hS hl
  have Cx1 := Cx
  obtain ⟨⟨hx, hb, hml, hown, hts⟩, hr, hlocks, hK, hA, hT⟩ := Cx1
  have hl : lv_has ls 3 [(0, .ref (a 0)), (1, .int x1)] := hl
  obtain ⟨H, eH⟩ : ∃ H, H = s.heap := ⟨_, rfl⟩
  obtain ⟨locs, eL⟩ : ∃ L : List Loc, L = [] := ⟨_, rfl⟩
  rw [← eH] at hP
  have hS : va_S A s.heap H locs := by rw [eH, eL]; exact hS
  suffices hgo : W p l e { frames := 3, cells := 0, slots := 0, locals := 66 } s m args below meth c H locs 0 0 Q (F0 m 0 ls []) by rw [eH, eL] at hgo; exact hgo
  clear eH eL
  unfold f_X9_firstTerm at hf
  refine lv_aload_n hx hb dX9_firstTerm_0 rfl (lv_at hl 0 rfl) ?_
  refine va_get (ci := 9) (v := .ref (a 17)) hx hb hts wX9_in hown hK hP 0 rfl rfl 5 (by decide) (hts _ mw_2_79) (fun _ h9 => h9) rfl dX9_firstTerm_1 ?_
  refine lv_iload_n hx hb dX9_firstTerm_4 rfl (lv_at hl 1 rfl) ?_
  obtain ⟨r_8, hk_9, hf⟩ := pe_1 hf
  refine xv_i (As := [.int x1]) (rest := []) (q0 := 0) (ci := 8) Cx hP hD hS hl (pl_X9_X8 a cyI cyJ v9_refusals v7_rows v7_lengths v7_sizes v7_rests v7_orders v6_hooks v6_lefts v6_heights v1_table v5_known v8_sizes v8_coefficients v8_undoneSums v8_undos v8_nextUndo v8_imageTaken v0_totals v3_letters v3_count v3_next v3_size v4_values v4_lengths v8_sizes v8_coefficients v8_undoneSums v8_undos v8_nextUndo v8_imageTaken) (c_X8_firstTermOf l D cyI cyJ G a H.size v8_sizes v8_coefficients v8_undoneSums v8_undos v8_nextUndo v8_imageTaken x1 r_8 hk_9) pk_X8_firstTermOf mw_3_60 ⟨rfl, rfl, Nat.le_of_ble_eq_true rfl, Nat.le_of_ble_eq_true rfl⟩ rfl rfl rfl rfl rfl (Nat.le_of_ble_eq_true rfl) ⟨Nat.le_of_ble_eq_true rfl, Nat.le_of_ble_eq_true rfl⟩ dX9_firstTerm_5 (fun H locs hP hD hS => ?_)
  refine lv_istore_n (lv' := [(2, .int r_8), (0, .ref (a 0)), (1, .int x1)]) hx hb dX9_firstTerm_8 rfl hl (by decide) rfl (fun ls hl => ?_)
  refine lv_iload_n hx hb dX9_firstTerm_9 rfl (lv_at hl 0 rfl) ?_
  refine lv_if_ge (tgt := 18) hx hb dX9_firstTerm_10 (by decide) (fun hc_10 => ?_) (fun hc_10 => ?_)
  · have hf := pe_t hf hc_10
    refine lv_aload_n hx hb dX9_firstTerm_18 rfl (lv_at hl 1 rfl) ?_
    refine va_get (ci := 9) (v := .ref (a 2)) hx hb hts wX9_in hown hK hP 0 rfl rfl 0 (by decide) (hts _ mw_2_74) (fun _ h9 => h9) rfl dX9_firstTerm_19 ?_
    refine lv_aload_n hx hb dX9_firstTerm_22 rfl (lv_at hl 1 rfl) ?_
    refine va_get (ci := 9) (v := .ref (a 17)) hx hb hts wX9_in hown hK hP 0 rfl rfl 5 (by decide) (hts _ mw_2_79) (fun _ h9 => h9) rfl dX9_firstTerm_23 ?_
    refine lv_iload_n hx hb dX9_firstTerm_26 rfl (lv_at hl 2 rfl) ?_
    obtain ⟨r_11, hk_12, hf⟩ := pe_1 hf
    refine xv_i (As := [.int x1]) (rest := [.ref (a 2)]) (q0 := 0) (ci := 8) Cx hP hD hS hl (pl_X9_X8 a cyI cyJ v9_refusals v7_rows v7_lengths v7_sizes v7_rests v7_orders v6_hooks v6_lefts v6_heights v1_table v5_known v8_sizes v8_coefficients v8_undoneSums v8_undos v8_nextUndo v8_imageTaken v0_totals v3_letters v3_count v3_next v3_size v4_values v4_lengths v8_sizes v8_coefficients v8_undoneSums v8_undos v8_nextUndo v8_imageTaken) (c_X8_sizeOf l D cyI cyJ G a H.size v8_sizes v8_coefficients v8_undoneSums v8_undos v8_nextUndo v8_imageTaken x1 r_11 hk_12) pk_X8_sizeOf mw_3_47 ⟨rfl, rfl, Nat.le_of_ble_eq_true rfl, Nat.le_of_ble_eq_true rfl⟩ rfl rfl rfl rfl rfl (Nat.le_of_ble_eq_true rfl) ⟨Nat.le_of_ble_eq_true rfl, Nat.le_of_ble_eq_true rfl⟩ dX9_firstTerm_27 (fun H locs hP hD hS => ?_)
    obtain ⟨r_13, hk_14, hf⟩ := pe_1 hf
    refine xv_i (As := [.int r_11]) (rest := []) (q0 := 0) (ci := 7) Cx hP hD hS hl (pl_X9_X7 a cyI cyJ v9_refusals v7_rows v7_lengths v7_sizes v7_rests v7_orders v6_hooks v6_lefts v6_heights v1_table v5_known v8_sizes v8_coefficients v8_undoneSums v8_undos v8_nextUndo v8_imageTaken v0_totals v3_letters v3_count v3_next v3_size v4_values v4_lengths v7_rows v7_lengths v7_sizes v7_rests v7_orders) (c_X7_firstOf l D cyI cyJ G a H.size v7_rows v7_lengths v7_sizes v7_rests v7_orders r_11 r_13 hk_14) pk_X7_firstOf mw_3_64 ⟨rfl, rfl, Nat.le_of_ble_eq_true rfl, Nat.le_of_ble_eq_true rfl⟩ rfl rfl rfl rfl rfl (Nat.le_of_ble_eq_true rfl) ⟨Nat.le_of_ble_eq_true rfl, Nat.le_of_ble_eq_true rfl⟩ dX9_firstTerm_30 (fun H locs hP hD hS => ?_)
    refine lv_iload_n hx hb dX9_firstTerm_33 rfl (lv_at hl 0 rfl) ?_
    refine lv_iadd hx hb dX9_firstTerm_34 ?_
    obtain rfl := po_1 hf
    rw [← hQ]; exact xe_iret Cx rfl hP hD hS dX9_firstTerm_35
  · have hf := pe_f hf hc_10
    refine lv_bipush (v := (-9 : Int32)) hx hb dX9_firstTerm_13 (by decide) ?_
    refine lv_goto (tgt := 35) hx hb dX9_firstTerm_15 (by decide) ?_
    obtain rfl := po_1 hf
    rw [← hQ]; exact xe_iret Cx rfl hP hD hS dX9_firstTerm_35
def f_X9_sum_26 (v8_sizes : Nat → Int32) (v8_coefficients : Nat → Int32) (v9_refusals : Nat → Int32) : Option (Int32 × (Nat → Int32)) := p_b2 (f_X9_refuse v9_refusals (-2 : Int32)) (fun r_1 v9_refusals_2 => some (r_1, v9_refusals_2))
def f_X9_sum (v9_refusals : Nat → Int32) (v8_sizes : Nat → Int32) (v8_coefficients : Nat → Int32) (x1 : Int32) (x2 : Int32) : Option (Int32 × (Nat → Int32)) := p_b1 (f_X8_has x1) (fun r_4 => if r_4 = 0 then (p_b2 (f_X9_refuse v9_refusals (-1 : Int32)) (fun r_22 v9_refusals_23 => some (r_22, v9_refusals_23))) else (if x2 < 0 then ((f_X9_sum_26 v8_sizes v8_coefficients) v9_refusals) else (if x2 ≤ (2 : Int32) then (p_b1 (f_X8_isMissing v8_sizes x1) (fun r_10 => if r_10 = 0 then (if x2 = (0 : Int32) then (p_b1 (f_X8_sizeOf v8_sizes x1) (fun r_15 => some (r_15, v9_refusals))) else (if x2 = (1 : Int32) then (p_b1 (f_X8_termsOf v8_coefficients x1) (fun r_18 => some (r_18, v9_refusals))) else (p_b1 (f_X9_firstTerm v8_sizes v8_coefficients x1) (fun r_20 => some (r_20, v9_refusals))))) else (some ((-11 : Int32), v9_refusals)))) else ((f_X9_sum_26 v8_sizes v8_coefficients) v9_refusals))))
set_option maxHeartbeats 4000000 in
set_option maxRecDepth 20000 in
theorem c_X9_sum (l : Launch) (D : va_G) (cyI cyJ : ClassId) (G a : Nat → Nat) (sz : Nat) (v9_refusals : Nat → Int32) (v7_rows : Nat → Int32) (v7_lengths : Nat → Int32) (v7_sizes : Nat → Int32) (v7_rests : Nat → Int32) (v7_orders : Nat → Int32) (v6_hooks : Nat → Int32) (v6_lefts : Nat → Int32) (v6_heights : Nat → Int32) (v1_table : Nat → Int32) (v5_known : Nat → Int32) (v8_sizes : Nat → Int32) (v8_coefficients : Nat → Int32) (v8_undoneSums : Nat → Int32) (v8_undos : Int32) (v8_nextUndo : Int32) (v8_imageTaken : Int32) (v0_totals : Nat → Int64) (v3_letters : Nat → Int32) (v3_count : Int32) (v3_next : Int32) (v3_size : Int32) (v4_values : Nat → Int32) (v4_lengths : Nat → Int32) (x1 : Int32) (x2 : Int32) (ro : Int32) (ov9_refusals : Nat → Int32) (hf : f_X9_sum v9_refusals v8_sizes v8_coefficients x1 x2 = some (ro, ov9_refusals)) : xm_i l yX9_sum (Cond.code yX9_sum cX9_sum 3 (some .int) :: xg_tbl) { frames := 4, cells := 0, slots := 0, locals := 88 } D xcl [(cyI, .int), (cyJ, .long)] G sz [.ref (a 0), .int x1, .int x2] (wd_X9 a cyI cyJ v9_refusals v7_rows v7_lengths v7_sizes v7_rests v7_orders v6_hooks v6_lefts v6_heights v1_table v5_known v8_sizes v8_coefficients v8_undoneSums v8_undos v8_nextUndo v8_imageTaken v0_totals v3_letters v3_count v3_next v3_size v4_values v4_lengths) (wd_X9 a cyI cyJ ov9_refusals v7_rows v7_lengths v7_sizes v7_rests v7_orders v6_hooks v6_lefts v6_heights v1_table v5_known v8_sizes v8_coefficients v8_undoneSums v8_undos v8_nextUndo v8_imageTaken v0_totals v3_letters v3_count v3_next v3_size v4_values v4_lengths) ro := by
  refine xm_of_i (own := RX9) (by decide) rfl rfl (Nat.le_of_ble_eq_true rfl) ?_
  intro p e s m args below meth c ls Q A hQ hAe hin Cx hsz hP hD hS hl
  have Cx1 := Cx
  obtain ⟨⟨hx, hb, hml, hown, hts⟩, hr, hlocks, hK, hA, hT⟩ := Cx1
  have hl : lv_has ls 3 [(0, .ref (a 0)), (1, .int x1), (2, .int x2)] := hl
  obtain ⟨H, eH⟩ : ∃ H, H = s.heap := ⟨_, rfl⟩
  obtain ⟨locs, eL⟩ : ∃ L : List Loc, L = [] := ⟨_, rfl⟩
  rw [← eH] at hP
  have hS : va_S A s.heap H locs := by rw [eH, eL]; exact hS
  suffices hgo : W p l e { frames := 4, cells := 0, slots := 0, locals := 88 } s m args below meth c H locs 0 0 Q (F0 m 0 ls []) by rw [eH, eL] at hgo; exact hgo
  clear eH eL
  unfold f_X9_sum at hf
  have w_26 : ∀ (v9_refusals : Nat → Int32) (H : Heap) (locs : List Loc) (ls : Array Slot), (f_X9_sum_26 v8_sizes v8_coefficients) v9_refusals = some (ro, ov9_refusals) → va_P D xcl (wd_X9 a cyI cyJ v9_refusals v7_rows v7_lengths v7_sizes v7_rests v7_orders v6_hooks v6_lefts v6_heights v1_table v5_known v8_sizes v8_coefficients v8_undoneSums v8_undos v8_nextUndo v8_imageTaken v0_totals v3_letters v3_count v3_next v3_size v4_values v4_lengths) H → va_D A (wd_X9 a cyI cyJ v9_refusals v7_rows v7_lengths v7_sizes v7_rests v7_orders v6_hooks v6_lefts v6_heights v1_table v5_known v8_sizes v8_coefficients v8_undoneSums v8_undos v8_nextUndo v8_imageTaken v0_totals v3_letters v3_count v3_next v3_size v4_values v4_lengths) → va_S A s.heap H locs → lv_has ls 3 [(0, .ref (a 0))] → W p l e { frames := 4, cells := 0, slots := 0, locals := 88 } s m args below meth c H locs 0 0 Q (F0 m 26 ls []) := by
    intro v9_refusals H locs ls hf hP hD hS hl
    unfold f_X9_sum_26 at hf
    refine lv_aload_n hx hb dX9_sum_26 rfl (lv_at hl 0 rfl) ?_
    refine lv_bipush (v := (-2 : Int32)) hx hb dX9_sum_27 (by decide) ?_
    obtain ⟨r_25, v9_refusals_26, hk_27, hf⟩ := pe_2 hf
    refine xv_i (As := [.int (-2 : Int32)]) (rest := []) (q0 := 0) (ci := 9) Cx hP hD hS hl (pl_X9_X9 a cyI cyJ v9_refusals v7_rows v7_lengths v7_sizes v7_rests v7_orders v6_hooks v6_lefts v6_heights v1_table v5_known v8_sizes v8_coefficients v8_undoneSums v8_undos v8_nextUndo v8_imageTaken v0_totals v3_letters v3_count v3_next v3_size v4_values v4_lengths v9_refusals_26 v7_rows v7_lengths v7_sizes v7_rests v7_orders v6_hooks v6_lefts v6_heights v1_table v5_known v8_sizes v8_coefficients v8_undoneSums v8_undos v8_nextUndo v8_imageTaken v0_totals v3_letters v3_count v3_next v3_size v4_values v4_lengths) (c_X9_refuse l D cyI cyJ G a H.size v9_refusals v7_rows v7_lengths v7_sizes v7_rests v7_orders v6_hooks v6_lefts v6_heights v1_table v5_known v8_sizes v8_coefficients v8_undoneSums v8_undos v8_nextUndo v8_imageTaken v0_totals v3_letters v3_count v3_next v3_size v4_values v4_lengths (-2 : Int32) r_25 v9_refusals_26 hk_27) pk_X9_refuse mw_2_110 ⟨rfl, rfl, Nat.le_of_ble_eq_true rfl, Nat.le_of_ble_eq_true rfl⟩ rfl rfl rfl rfl rfl (Nat.le_of_ble_eq_true rfl) ⟨Nat.le_of_ble_eq_true rfl, Nat.le_of_ble_eq_true rfl⟩ dX9_sum_29 (fun H locs hP hD hS => ?_)
    obtain ⟨rfl, rfl⟩ := po_2 hf
    rw [← hQ]; exact xe_iret Cx rfl hP hD hS dX9_sum_32
  refine lv_aload_n hx hb dX9_sum_0 rfl (lv_at hl 0 rfl) ?_
  refine va_get (ci := 9) (v := .ref (a 17)) hx hb hts wX9_in hown hK hP 0 rfl rfl 5 (by decide) (hts _ mw_2_79) (fun _ h9 => h9) rfl dX9_sum_1 ?_
  refine lv_iload_n hx hb dX9_sum_4 rfl (lv_at hl 1 rfl) ?_
  obtain ⟨r_28, hk_29, hf⟩ := pe_1 hf
  refine xv_z (As := [.int x1]) (rest := []) (q0 := 0) (ci := 8) Cx hP hD hS hl (pl_X9_X8 a cyI cyJ v9_refusals v7_rows v7_lengths v7_sizes v7_rests v7_orders v6_hooks v6_lefts v6_heights v1_table v5_known v8_sizes v8_coefficients v8_undoneSums v8_undos v8_nextUndo v8_imageTaken v0_totals v3_letters v3_count v3_next v3_size v4_values v4_lengths v8_sizes v8_coefficients v8_undoneSums v8_undos v8_nextUndo v8_imageTaken) (c_X8_has l D cyI cyJ G a H.size v8_sizes v8_coefficients v8_undoneSums v8_undos v8_nextUndo v8_imageTaken x1 r_28 hk_29) pk_X8_has mw_3_10 ⟨rfl, rfl, Nat.le_of_ble_eq_true rfl, Nat.le_of_ble_eq_true rfl⟩ rfl rfl rfl rfl rfl (Nat.le_of_ble_eq_true rfl) ⟨Nat.le_of_ble_eq_true rfl, Nat.le_of_ble_eq_true rfl⟩ dX9_sum_5 (fun H locs hn_30 hP hD hS => ?_)
  refine lv_if_ne (tgt := 17) hx hb dX9_sum_8 (by decide) (fun hc_31 => ?_) (fun hc_31 => ?_)
  · have hf := pe_f hf hc_31
    refine lv_iload_n hx hb dX9_sum_17 rfl (lv_at hl 2 rfl) ?_
    refine lv_if_lt (tgt := 26) hx hb dX9_sum_18 (by decide) (fun hc_32 => ?_) (fun hc_32 => ?_)
    · have hf := pe_t hf hc_32
      exact w_26 v9_refusals H locs ls hf hP hD hS (lv_sub hl [0] rfl)
    · have hf := pe_f hf hc_32
      refine lv_iload_n hx hb dX9_sum_21 rfl (lv_at hl 2 rfl) ?_
      refine lv_iconst (v := (2 : Int32)) hx hb dX9_sum_22 (by decide) ?_
      refine lv_icmp_le (tgt := 33) hx hb dX9_sum_23 (by decide) (fun hc_33 => ?_) (fun hc_33 => ?_)
      · have hf := pe_t hf hc_33
        refine lv_aload_n hx hb dX9_sum_33 rfl (lv_at hl 0 rfl) ?_
        refine va_get (ci := 9) (v := .ref (a 17)) hx hb hts wX9_in hown hK hP 0 rfl rfl 5 (by decide) (hts _ mw_2_79) (fun _ h9 => h9) rfl dX9_sum_34 ?_
        refine lv_iload_n hx hb dX9_sum_37 rfl (lv_at hl 1 rfl) ?_
        obtain ⟨r_34, hk_35, hf⟩ := pe_1 hf
        refine xv_z (As := [.int x1]) (rest := []) (q0 := 0) (ci := 8) Cx hP hD hS hl (pl_X9_X8 a cyI cyJ v9_refusals v7_rows v7_lengths v7_sizes v7_rests v7_orders v6_hooks v6_lefts v6_heights v1_table v5_known v8_sizes v8_coefficients v8_undoneSums v8_undos v8_nextUndo v8_imageTaken v0_totals v3_letters v3_count v3_next v3_size v4_values v4_lengths v8_sizes v8_coefficients v8_undoneSums v8_undos v8_nextUndo v8_imageTaken) (c_X8_isMissing l D cyI cyJ G a H.size v8_sizes v8_coefficients v8_undoneSums v8_undos v8_nextUndo v8_imageTaken x1 r_34 hk_35) pk_X8_isMissing mw_3_14 ⟨rfl, rfl, Nat.le_of_ble_eq_true rfl, Nat.le_of_ble_eq_true rfl⟩ rfl rfl rfl rfl rfl (Nat.le_of_ble_eq_true rfl) ⟨Nat.le_of_ble_eq_true rfl, Nat.le_of_ble_eq_true rfl⟩ dX9_sum_38 (fun H locs hn_36 hP hD hS => ?_)
        refine lv_if_eq (tgt := 47) hx hb dX9_sum_41 (by decide) (fun hc_37 => ?_) (fun hc_37 => ?_)
        · have hf := pe_t hf hc_37
          refine lv_iload_n hx hb dX9_sum_47 rfl (lv_at hl 2 rfl) ?_
          by_cases hc_38 : x2 = (0 : Int32)
          · have hf := pe_t hf hc_38
            refine lv_lookup (tgt := 76) hx hb dX9_sum_48 (by decide) (by rw [hc_38]; first | done | rfl) (by decide) ?_
            refine lv_aload_n hx hb dX9_sum_76 rfl (lv_at hl 0 rfl) ?_
            refine va_get (ci := 9) (v := .ref (a 17)) hx hb hts wX9_in hown hK hP 0 rfl rfl 5 (by decide) (hts _ mw_2_79) (fun _ h9 => h9) rfl dX9_sum_77 ?_
            refine lv_iload_n hx hb dX9_sum_80 rfl (lv_at hl 1 rfl) ?_
            obtain ⟨r_39, hk_40, hf⟩ := pe_1 hf
            refine xv_i (As := [.int x1]) (rest := []) (q0 := 0) (ci := 8) Cx hP hD hS hl (pl_X9_X8 a cyI cyJ v9_refusals v7_rows v7_lengths v7_sizes v7_rests v7_orders v6_hooks v6_lefts v6_heights v1_table v5_known v8_sizes v8_coefficients v8_undoneSums v8_undos v8_nextUndo v8_imageTaken v0_totals v3_letters v3_count v3_next v3_size v4_values v4_lengths v8_sizes v8_coefficients v8_undoneSums v8_undos v8_nextUndo v8_imageTaken) (c_X8_sizeOf l D cyI cyJ G a H.size v8_sizes v8_coefficients v8_undoneSums v8_undos v8_nextUndo v8_imageTaken x1 r_39 hk_40) pk_X8_sizeOf mw_3_47 ⟨rfl, rfl, Nat.le_of_ble_eq_true rfl, Nat.le_of_ble_eq_true rfl⟩ rfl rfl rfl rfl rfl (Nat.le_of_ble_eq_true rfl) ⟨Nat.le_of_ble_eq_true rfl, Nat.le_of_ble_eq_true rfl⟩ dX9_sum_81 (fun H locs hP hD hS => ?_)
            obtain ⟨rfl, rfl⟩ := po_2 hf
            rw [← hQ]; exact xe_iret Cx rfl hP hD hS dX9_sum_84
          · have hf := pe_f hf hc_38
            by_cases hc_41 : x2 = (1 : Int32)
            · have hf := pe_t hf hc_41
              refine lv_lookup (tgt := 85) hx hb dX9_sum_48 (by decide) (by rw [hc_41]; first | done | rfl) (by decide) ?_
              refine lv_aload_n hx hb dX9_sum_85 rfl (lv_at hl 0 rfl) ?_
              refine va_get (ci := 9) (v := .ref (a 17)) hx hb hts wX9_in hown hK hP 0 rfl rfl 5 (by decide) (hts _ mw_2_79) (fun _ h9 => h9) rfl dX9_sum_86 ?_
              refine lv_iload_n hx hb dX9_sum_89 rfl (lv_at hl 1 rfl) ?_
              obtain ⟨r_42, hk_43, hf⟩ := pe_1 hf
              refine xv_i (As := [.int x1]) (rest := []) (q0 := 0) (ci := 8) Cx hP hD hS hl (pl_X9_X8 a cyI cyJ v9_refusals v7_rows v7_lengths v7_sizes v7_rests v7_orders v6_hooks v6_lefts v6_heights v1_table v5_known v8_sizes v8_coefficients v8_undoneSums v8_undos v8_nextUndo v8_imageTaken v0_totals v3_letters v3_count v3_next v3_size v4_values v4_lengths v8_sizes v8_coefficients v8_undoneSums v8_undos v8_nextUndo v8_imageTaken) (c_X8_termsOf l D cyI cyJ G a H.size v8_sizes v8_coefficients v8_undoneSums v8_undos v8_nextUndo v8_imageTaken x1 r_42 hk_43) pk_X8_termsOf mw_3_48 ⟨rfl, rfl, Nat.le_of_ble_eq_true rfl, Nat.le_of_ble_eq_true rfl⟩ rfl rfl rfl rfl rfl (Nat.le_of_ble_eq_true rfl) ⟨Nat.le_of_ble_eq_true rfl, Nat.le_of_ble_eq_true rfl⟩ dX9_sum_90 (fun H locs hP hD hS => ?_)
              obtain ⟨rfl, rfl⟩ := po_2 hf
              rw [← hQ]; exact xe_iret Cx rfl hP hD hS dX9_sum_93
            · have hf := pe_f hf hc_41
              have hc_38 : (x2).toInt ≠ 0 := xh_ne (by decide) hc_38
              have hc_41 : (x2).toInt ≠ 1 := xh_ne (by decide) hc_41
              refine lv_lookup (tgt := 94) hx hb dX9_sum_48 (by decide) (by rw [Op.lookupswitch.offset_cons, if_neg (Ne.symm hc_38), Op.lookupswitch.offset_cons, if_neg (Ne.symm hc_41), Op.lookupswitch.offset_nil]) (by decide) ?_
              refine lv_aload_n hx hb dX9_sum_94 rfl (lv_at hl 0 rfl) ?_
              refine lv_iload_n hx hb dX9_sum_95 rfl (lv_at hl 1 rfl) ?_
              obtain ⟨r_44, hk_45, hf⟩ := pe_1 hf
              refine xv_i (As := [.int x1]) (rest := []) (q0 := 0) (ci := 9) Cx hP hD hS hl (pl_X9_X9 a cyI cyJ v9_refusals v7_rows v7_lengths v7_sizes v7_rests v7_orders v6_hooks v6_lefts v6_heights v1_table v5_known v8_sizes v8_coefficients v8_undoneSums v8_undos v8_nextUndo v8_imageTaken v0_totals v3_letters v3_count v3_next v3_size v4_values v4_lengths v9_refusals v7_rows v7_lengths v7_sizes v7_rests v7_orders v6_hooks v6_lefts v6_heights v1_table v5_known v8_sizes v8_coefficients v8_undoneSums v8_undos v8_nextUndo v8_imageTaken v0_totals v3_letters v3_count v3_next v3_size v4_values v4_lengths) (c_X9_firstTerm l D cyI cyJ G a H.size v9_refusals v7_rows v7_lengths v7_sizes v7_rests v7_orders v6_hooks v6_lefts v6_heights v1_table v5_known v8_sizes v8_coefficients v8_undoneSums v8_undos v8_nextUndo v8_imageTaken v0_totals v3_letters v3_count v3_next v3_size v4_values v4_lengths x1 r_44 hk_45) pk_X9_firstTerm mw_3_56 ⟨rfl, rfl, Nat.le_of_ble_eq_true rfl, Nat.le_of_ble_eq_true rfl⟩ rfl rfl rfl rfl rfl (Nat.le_of_ble_eq_true rfl) ⟨Nat.le_of_ble_eq_true rfl, Nat.le_of_ble_eq_true rfl⟩ dX9_sum_96 (fun H locs hP hD hS => ?_)
              obtain ⟨rfl, rfl⟩ := po_2 hf
              rw [← hQ]; exact xe_iret Cx rfl hP hD hS dX9_sum_99
        · have hf := pe_f hf hc_37
          refine lv_bipush (v := (-11 : Int32)) hx hb dX9_sum_44 (by decide) ?_
          obtain ⟨rfl, rfl⟩ := po_2 hf
          rw [← hQ]; exact xe_iret Cx rfl hP hD hS dX9_sum_46
      · have hf := pe_f hf hc_33
        exact w_26 v9_refusals H locs ls hf hP hD hS (lv_sub hl [0] rfl)
  · have hf := pe_t hf hc_31
    refine lv_aload_n hx hb dX9_sum_11 rfl (lv_at hl 0 rfl) ?_
    refine lv_iconst (v := (-1 : Int32)) hx hb dX9_sum_12 (by decide) ?_
    obtain ⟨r_46, v9_refusals_47, hk_48, hf⟩ := pe_2 hf
    refine xv_i (As := [.int (-1 : Int32)]) (rest := []) (q0 := 0) (ci := 9) Cx hP hD hS hl (pl_X9_X9 a cyI cyJ v9_refusals v7_rows v7_lengths v7_sizes v7_rests v7_orders v6_hooks v6_lefts v6_heights v1_table v5_known v8_sizes v8_coefficients v8_undoneSums v8_undos v8_nextUndo v8_imageTaken v0_totals v3_letters v3_count v3_next v3_size v4_values v4_lengths v9_refusals_47 v7_rows v7_lengths v7_sizes v7_rests v7_orders v6_hooks v6_lefts v6_heights v1_table v5_known v8_sizes v8_coefficients v8_undoneSums v8_undos v8_nextUndo v8_imageTaken v0_totals v3_letters v3_count v3_next v3_size v4_values v4_lengths) (c_X9_refuse l D cyI cyJ G a H.size v9_refusals v7_rows v7_lengths v7_sizes v7_rests v7_orders v6_hooks v6_lefts v6_heights v1_table v5_known v8_sizes v8_coefficients v8_undoneSums v8_undos v8_nextUndo v8_imageTaken v0_totals v3_letters v3_count v3_next v3_size v4_values v4_lengths (-1 : Int32) r_46 v9_refusals_47 hk_48) pk_X9_refuse mw_2_110 ⟨rfl, rfl, Nat.le_of_ble_eq_true rfl, Nat.le_of_ble_eq_true rfl⟩ rfl rfl rfl rfl rfl (Nat.le_of_ble_eq_true rfl) ⟨Nat.le_of_ble_eq_true rfl, Nat.le_of_ble_eq_true rfl⟩ dX9_sum_13 (fun H locs hP hD hS => ?_)
    obtain ⟨rfl, rfl⟩ := po_2 hf
    rw [← hQ]; exact xe_iret Cx rfl hP hD hS dX9_sum_16
