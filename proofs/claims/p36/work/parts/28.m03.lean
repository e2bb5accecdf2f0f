def f_X3_areFull (v3_count : Int32) : Option (Int32) := if v3_count < (72 : Int32) then (some ((0 : Int32))) else (some ((1 : Int32)))
set_option maxHeartbeats 4000000 in
set_option maxRecDepth 20000 in
theorem c_X3_areFull (l : Launch) (D : va_G) (cyI cyJ : ClassId) (G a : Nat → Nat) (sz : Nat) (v3_letters : Nat → Int32) (v3_count : Int32) (v3_next : Int32) (v3_size : Int32) (v7_rows : Nat → Int32) (v7_lengths : Nat → Int32) (v7_sizes : Nat → Int32) (v7_rests : Nat → Int32) (v7_orders : Nat → Int32) (v8_sizes : Nat → Int32) (v8_coefficients : Nat → Int32) (v8_undoneSums : Nat → Int32) (v8_undos : Int32) (v8_nextUndo : Int32) (v8_imageTaken : Int32) (ro : Int32) (hf : f_X3_areFull v3_count = some ro) : xm_z l yX3_areFull (Cond.code yX3_areFull cX3_areFull 1 (some .boolean) :: xg_tbl) { frames := 0, cells := 0, slots := 0, locals := 0 } D xcl [(cyI, .int), (cyJ, .long)] G sz [.ref (a 23)] (wd_X3 a cyI cyJ v3_letters v3_count v3_next v3_size v7_rows v7_lengths v7_sizes v7_rests v7_orders v8_sizes v8_coefficients v8_undoneSums v8_undos v8_nextUndo v8_imageTaken) (wd_X3 a cyI cyJ v3_letters v3_count v3_next v3_size v7_rows v7_lengths v7_sizes v7_rests v7_orders v8_sizes v8_coefficients v8_undoneSums v8_undos v8_nextUndo v8_imageTaken) ro := by
  refine xm_of_z (own := RX3) (by decide) rfl rfl (Nat.le_of_ble_eq_true rfl) ?_
  intro p e s m args below meth c ls Q A hQ hAe hin Cx hsz hP hD hS hl
  have Cx1 := Cx
  obtain ⟨⟨hx, hb, hml, hown, hts⟩, hr, hlocks, hK, hA, hT⟩ := Cx1
  have hl : lv_has ls 1 [(0, .ref (a 23))] := hl
  obtain ⟨H, eH⟩ : ∃ H, H = s.heap := ⟨_, rfl⟩
  obtain ⟨locs, eL⟩ : ∃ L : List Loc, L = [] := ⟨_, rfl⟩
  rw [← eH] at hP
  have hS : va_S A s.heap H locs := by rw [eH, eL]; exact hS
  suffices hgo : W p l e { frames := 0, cells := 0, slots := 0, locals := 0 } s m args below meth c H locs 0 0 Q (F0 m 0 ls []) by rw [eH, eL] at hgo; exact hgo
  clear eH eL
  unfold f_X3_areFull at hf
  refine lv_aload_n hx hb dX3_areFull_0 rfl (lv_at hl 0 rfl) ?_
  refine va_get (ci := 3) (v := .int v3_count) hx hb hts wX3_in hown hK hP 0 rfl rfl 3 (by decide) (hts _ mw_2_45) (fun _ h9 => h9) rfl dX3_areFull_1 ?_
  refine lv_bipush (v := (72 : Int32)) hx hb dX3_areFull_4 (by decide) ?_
  refine lv_icmp_lt (tgt := 13) hx hb dX3_areFull_6 (by decide) (fun hc_2 => ?_) (fun hc_2 => ?_)
  · have hf := pe_t hf hc_2
    refine lv_iconst (v := (0 : Int32)) hx hb dX3_areFull_13 (by decide) ?_
    obtain rfl := po_1 hf
    rw [← hQ]; exact xe_zret Cx rfl rfl hP hD hS dX3_areFull_14
  · have hf := pe_f hf hc_2
    refine lv_iconst (v := (1 : Int32)) hx hb dX3_areFull_9 (by decide) ?_
    refine lv_goto (tgt := 14) hx hb dX3_areFull_10 (by decide) ?_
    obtain rfl := po_1 hf
    rw [← hQ]; exact xe_zret Cx rfl rfl hP hD hS dX3_areFull_14
def f_X3_howMany (v3_count : Int32) : Option (Int32) := some (v3_count)
set_option maxHeartbeats 4000000 in
set_option maxRecDepth 20000 in
theorem c_X3_howMany (l : Launch) (D : va_G) (cyI cyJ : ClassId) (G a : Nat → Nat) (sz : Nat) (v3_letters : Nat → Int32) (v3_count : Int32) (v3_next : Int32) (v3_size : Int32) (v7_rows : Nat → Int32) (v7_lengths : Nat → Int32) (v7_sizes : Nat → Int32) (v7_rests : Nat → Int32) (v7_orders : Nat → Int32) (v8_sizes : Nat → Int32) (v8_coefficients : Nat → Int32) (v8_undoneSums : Nat → Int32) (v8_undos : Int32) (v8_nextUndo : Int32) (v8_imageTaken : Int32) (ro : Int32) (hf : f_X3_howMany v3_count = some ro) : xm_i l yX3_howMany (Cond.code yX3_howMany cX3_howMany 1 (some .int) :: xg_tbl) { frames := 0, cells := 0, slots := 0, locals := 0 } D xcl [(cyI, .int), (cyJ, .long)] G sz [.ref (a 23)] (wd_X3 a cyI cyJ v3_letters v3_count v3_next v3_size v7_rows v7_lengths v7_sizes v7_rests v7_orders v8_sizes v8_coefficients v8_undoneSums v8_undos v8_nextUndo v8_imageTaken) (wd_X3 a cyI cyJ v3_letters v3_count v3_next v3_size v7_rows v7_lengths v7_sizes v7_rests v7_orders v8_sizes v8_coefficients v8_undoneSums v8_undos v8_nextUndo v8_imageTaken) ro := by
  refine xm_of_i (own := RX3) (by decide) rfl rfl (Nat.le_of_ble_eq_true rfl) ?_
  intro p e s m args below meth c ls Q A hQ hAe hin Cx hsz hP hD hS hl
  have Cx1 := Cx
  obtain ⟨⟨hx, hb, hml, hown, hts⟩, hr, hlocks, hK, hA, hT⟩ := Cx1
  have hl : lv_has ls 1 [(0, .ref (a 23))] := hl
  obtain ⟨H, eH⟩ : ∃ H, H = s.heap := ⟨_, rfl⟩
  obtain ⟨locs, eL⟩ : ∃ L : List Loc, L = [] := ⟨_, rfl⟩
  rw [← eH] at hP
  have hS : va_S A s.heap H locs := by rw [eH, eL]; exact hS
  suffices hgo : W p l e { frames := 0, cells := 0, slots := 0, locals := 0 } s m args below meth c H locs 0 0 Q (F0 m 0 ls []) by rw [eH, eL] at hgo; exact hgo
  clear eH eL
  unfold f_X3_howMany at hf
  refine lv_aload_n hx hb dX3_howMany_0 rfl (lv_at hl 0 rfl) ?_
  refine va_get (ci := 3) (v := .int v3_count) hx hb hts wX3_in hown hK hP 0 rfl rfl 3 (by decide) (hts _ mw_2_45) (fun _ h9 => h9) rfl dX3_howMany_1 ?_
  obtain rfl := po_1 hf
  rw [← hQ]; exact xe_iret Cx rfl hP hD hS dX3_howMany_4
def f_X3_add (v3_letters : Nat → Int32) (v3_count : Int32) (x1 : Int32) : Option ((Nat → Int32) × Int32) := if v3_count < 0 then (some (v3_letters, v3_count)) else (if (72 : Int32) ≤ v3_count then (some (v3_letters, v3_count)) else (p_in v3_count 72 (some ((upd v3_letters (Int32.toNatClampNeg v3_count) x1), (v3_count + (1 : Int32))))))
set_option maxHeartbeats 4000000 in
set_option maxRecDepth 20000 in
theorem c_X3_add (l : Launch) (D : va_G) (cyI cyJ : ClassId) (G a : Nat → Nat) (sz : Nat) (v3_letters : Nat → Int32) (v3_count : Int32) (v3_next : Int32) (v3_size : Int32) (v7_rows : Nat → Int32) (v7_lengths : Nat → Int32) (v7_sizes : Nat → Int32) (v7_rests : Nat → Int32) (v7_orders : Nat → Int32) (v8_sizes : Nat → Int32) (v8_coefficients : Nat → Int32) (v8_undoneSums : Nat → Int32) (v8_undos : Int32) (v8_nextUndo : Int32) (v8_imageTaken : Int32) (x1 : Int32) (ov3_letters : Nat → Int32) (ov3_count : Int32) (hf : f_X3_add v3_letters v3_count x1 = some (ov3_letters, ov3_count)) : xm_v l yX3_add (Cond.code yX3_add cX3_add 2 none :: xg_tbl) { frames := 0, cells := 0, slots := 0, locals := 0 } D xcl [(cyI, .int), (cyJ, .long)] G sz [.ref (a 23), .int x1] (wd_X3 a cyI cyJ v3_letters v3_count v3_next v3_size v7_rows v7_lengths v7_sizes v7_rests v7_orders v8_sizes v8_coefficients v8_undoneSums v8_undos v8_nextUndo v8_imageTaken) (wd_X3 a cyI cyJ ov3_letters ov3_count v3_next v3_size v7_rows v7_lengths v7_sizes v7_rests v7_orders v8_sizes v8_coefficients v8_undoneSums v8_undos v8_nextUndo v8_imageTaken) := by
  refine xm_of_v (own := RX3) (by decide) rfl rfl (Nat.le_of_ble_eq_true rfl) ?_
  intro p e s m args below meth c ls Q A hQ hAe hin Cx hsz hP hD hS hl
  have Cx1 := Cx
  obtain ⟨⟨hx, hb, hml, hown, hts⟩, hr, hlocks, hK, hA, hT⟩ := Cx1
  have hl : lv_has ls 2 [(0, .ref (a 23)), (1, .int x1)] := hl
  obtain ⟨H, eH⟩ : ∃ H, H = s.heap := ⟨_, rfl⟩
  obtain ⟨locs, eL⟩ : ∃ L : List Loc, L = [] := ⟨_, rfl⟩
  rw [← eH] at hP
  have hS : va_S A s.heap H locs := by rw [eH, eL]; exact hS
  suffices hgo : W p l e { frames := 0, cells := 0, slots := 0, locals := 0 } s m args below meth c H locs 0 0 Q (F0 m 0 ls []) by rw [eH, eL] at hgo; exact hgo
  clear eH eL
  unfold f_X3_add at hf
  refine lv_aload_n hx hb dX3_add_0 rfl (lv_at hl 0 rfl) ?_
  refine va_get (ci := 3) (v := .int v3_count) hx hb hts wX3_in hown hK hP 0 rfl rfl 3 (by decide) (hts _ mw_2_45) (fun _ h9 => h9) rfl dX3_add_1 ?_
  refine lv_if_lt (tgt := 36) hx hb dX3_add_4 (by decide) (fun hc_4 => ?_) (fun hc_4 => ?_)
  · have hf := pe_t hf hc_4
    obtain ⟨rfl, rfl⟩ := po_2 hf
    rw [← hQ]; exact xe_vret Cx hP hD hS dX3_add_36
  · have hf := pe_f hf hc_4
    refine lv_aload_n hx hb dX3_add_7 rfl (lv_at hl 0 rfl) ?_
    refine va_get (ci := 3) (v := .int v3_count) hx hb hts wX3_in hown hK hP 0 rfl rfl 3 (by decide) (hts _ mw_2_45) (fun _ h9 => h9) rfl dX3_add_8 ?_
    refine lv_bipush (v := (72 : Int32)) hx hb dX3_add_11 (by decide) ?_
    refine lv_icmp_ge (tgt := 36) hx hb dX3_add_13 (by decide) (fun hc_5 => ?_) (fun hc_5 => ?_)
    · have hf := pe_t hf hc_5
      obtain ⟨rfl, rfl⟩ := po_2 hf
      rw [← hQ]; exact xe_vret Cx hP hD hS dX3_add_36
    · have hf := pe_f hf hc_5
      refine lv_aload_n hx hb dX3_add_16 rfl (lv_at hl 0 rfl) ?_
      refine va_get (ci := 3) (v := .ref (a 24)) hx hb hts wX3_in hown hK hP 0 rfl rfl 2 (by decide) (hts _ mw_2_44) (fun _ h9 => h9) rfl dX3_add_17 ?_
      refine lv_aload_n hx hb dX3_add_20 rfl (lv_at hl 0 rfl) ?_
      refine va_get (ci := 3) (v := .int v3_count) hx hb hts wX3_in hown hK hP 0 rfl rfl 3 (by decide) (hts _ mw_2_45) (fun _ h9 => h9) rfl dX3_add_21 ?_
      refine lv_iload_n hx hb dX3_add_24 rfl (lv_at hl 1 rfl) ?_
      obtain ⟨hi_6, hf⟩ := pe_in hf
      refine va_iast hx hb hK hP hD hS 1 0 rfl rfl hi_6 dX3_add_25 (fun H locs hP hD hS => ?_)
      have hP : va_P D xcl (wd_X3 a cyI cyJ (upd v3_letters (Int32.toNatClampNeg v3_count) x1) v3_count v3_next v3_size v7_rows v7_lengths v7_sizes v7_rests v7_orders v8_sizes v8_coefficients v8_undoneSums v8_undos v8_nextUndo v8_imageTaken) H := hP
      have hD : va_D A (wd_X3 a cyI cyJ (upd v3_letters (Int32.toNatClampNeg v3_count) x1) v3_count v3_next v3_size v7_rows v7_lengths v7_sizes v7_rests v7_orders v8_sizes v8_coefficients v8_undoneSums v8_undos v8_nextUndo v8_imageTaken) := hD
      refine lv_aload_n hx hb dX3_add_26 rfl (lv_at hl 0 rfl) ?_
      refine lv_dup hx hb dX3_add_27 rfl ?_
      refine va_get (ci := 3) (v := .int v3_count) hx hb hts wX3_in hown hK hP 0 rfl rfl 3 (by decide) (hts _ mw_2_45) (fun _ h9 => h9) rfl dX3_add_28 ?_
      refine lv_iconst (v := (1 : Int32)) hx hb dX3_add_31 (by decide) ?_
      refine lv_iadd hx hb dX3_add_32 ?_
      refine va_put (ci := 3) (v := .int (v3_count + (1 : Int32))) (ty := .int) hx hb hts wX3_in tyX3 tyX3_ok nmX3 hown hK hP hD hS 0 rfl rfl 3 (by decide) (hts _ mw_2_45) (fun _ h9 => h9) rfl (by decide +kernel) rfl rfl (Nat.le_of_ble_eq_true rfl) dX3_add_33 (fun H locs hP hD hS => ?_)
      have hP : va_P D xcl (wd_X3 a cyI cyJ (upd v3_letters (Int32.toNatClampNeg v3_count) x1) (v3_count + (1 : Int32)) v3_next v3_size v7_rows v7_lengths v7_sizes v7_rests v7_orders v8_sizes v8_coefficients v8_undoneSums v8_undos v8_nextUndo v8_imageTaken) H := hP
      have hD : va_D A (wd_X3 a cyI cyJ (upd v3_letters (Int32.toNatClampNeg v3_count) x1) (v3_count + (1 : Int32)) v3_next v3_size v7_rows v7_lengths v7_sizes v7_rests v7_orders v8_sizes v8_coefficients v8_undoneSums v8_undos v8_nextUndo v8_imageTaken) := hD
      obtain ⟨rfl, rfl⟩ := po_2 hf
      rw [← hQ]; exact xe_vret Cx hP hD hS dX3_add_36
def f_X3_forget (v3_count : Int32) : Option (Int32) := some ((0 : Int32))
set_option maxHeartbeats 4000000 in
set_option maxRecDepth 20000 in
theorem c_X3_forget (l : Launch) (D : va_G) (cyI cyJ : ClassId) (G a : Nat → Nat) (sz : Nat) (v3_letters : Nat → Int32) (v3_count : Int32) (v3_next : Int32) (v3_size : Int32) (v7_rows : Nat → Int32) (v7_lengths : Nat → Int32) (v7_sizes : Nat → Int32) (v7_rests : Nat → Int32) (v7_orders : Nat → Int32) (v8_sizes : Nat → Int32) (v8_coefficients : Nat → Int32) (v8_undoneSums : Nat → Int32) (v8_undos : Int32) (v8_nextUndo : Int32) (v8_imageTaken : Int32) (ov3_count : Int32) (hf : f_X3_forget v3_count = some ov3_count) : xm_v l yX3_forget (Cond.code yX3_forget cX3_forget 1 none :: xg_tbl) { frames := 0, cells := 0, slots := 0, locals := 0 } D xcl [(cyI, .int), (cyJ, .long)] G sz [.ref (a 23)] (wd_X3 a cyI cyJ v3_letters v3_count v3_next v3_size v7_rows v7_lengths v7_sizes v7_rests v7_orders v8_sizes v8_coefficients v8_undoneSums v8_undos v8_nextUndo v8_imageTaken) (wd_X3 a cyI cyJ v3_letters ov3_count v3_next v3_size v7_rows v7_lengths v7_sizes v7_rests v7_orders v8_sizes v8_coefficients v8_undoneSums v8_undos v8_nextUndo v8_imageTaken) := by
  refine xm_of_v (own := RX3) (by decide) rfl rfl (Nat.le_of_ble_eq_true rfl) ?_
  intro p e s m args below meth c ls Q A hQ hAe hin Cx hsz hP hD hS hl
  have Cx1 := Cx
  obtain ⟨⟨hx, hb, hml, hown, hts⟩, hr, hlocks, hK, hA, hT⟩ := Cx1
  have hl : lv_has ls 1 [(0, .ref (a 23))] := hl
  obtain ⟨H, eH⟩ : ∃ H, H = s.heap := ⟨_, rfl⟩
  obtain ⟨locs, eL⟩ : ∃ L : List Loc, L = [] := ⟨_, rfl⟩
  rw [← eH] at hP
  have hS : va_S A s.heap H locs := by rw [eH, eL]; exact hS
  suffices hgo : W p l e { frames := 0, cells := 0, slots := 0, locals := 0 } s m args below meth c H locs 0 0 Q (F0 m 0 ls []) by rw [eH, eL] at hgo; exact hgo
  clear eH eL
  unfold f_X3_forget at hf
  refine lv_aload_n hx hb dX3_forget_0 rfl (lv_at hl 0 rfl) ?_
  refine lv_iconst (v := (0 : Int32)) hx hb dX3_forget_1 (by decide) ?_
  refine va_put (ci := 3) (v := .int (0 : Int32)) (ty := .int) hx hb hts wX3_in tyX3 tyX3_ok nmX3 hown hK hP hD hS 0 rfl rfl 3 (by decide) (hts _ mw_2_45) (fun _ h9 => h9) rfl (by decide +kernel) rfl rfl (Nat.le_of_ble_eq_true rfl) dX3_forget_2 (fun H locs hP hD hS => ?_)
  have hP : va_P D xcl (wd_X3 a cyI cyJ v3_letters (0 : Int32) v3_next v3_size v7_rows v7_lengths v7_sizes v7_rests v7_orders v8_sizes v8_coefficients v8_undoneSums v8_undos v8_nextUndo v8_imageTaken) H := hP
  have hD : va_D A (wd_X3 a cyI cyJ v3_letters (0 : Int32) v3_next v3_size v7_rows v7_lengths v7_sizes v7_rests v7_orders v8_sizes v8_coefficients v8_undoneSums v8_undos v8_nextUndo v8_imageTaken) := hD
  obtain rfl := po_1 hf
  rw [← hQ]; exact xe_vret Cx hP hD hS dX3_forget_5
def f_X3_nextLetter (v3_letters : Nat → Int32) (v3_count : Int32) (v3_next : Int32) : Option (Int32) := if v3_next < 0 then (some ((-1 : Int32))) else (if v3_count ≤ v3_next then (some ((-1 : Int32))) else (if (72 : Int32) ≤ v3_next then (some ((-1 : Int32))) else (p_in v3_next 72 (some ((v3_letters (Int32.toNatClampNeg v3_next)))))))
set_option maxHeartbeats 4000000 in
set_option maxRecDepth 20000 in
theorem c_X3_nextLetter (l : Launch) (D : va_G) (cyI cyJ : ClassId) (G a : Nat → Nat) (sz : Nat) (v3_letters : Nat → Int32) (v3_count : Int32) (v3_next : Int32) (v3_size : Int32) (v7_rows : Nat → Int32) (v7_lengths : Nat → Int32) (v7_sizes : Nat → Int32) (v7_rests : Nat → Int32) (v7_orders : Nat → Int32) (v8_sizes : Nat → Int32) (v8_coefficients : Nat → Int32) (v8_undoneSums : Nat → Int32) (v8_undos : Int32) (v8_nextUndo : Int32) (v8_imageTaken : Int32) (ro : Int32) (hf : f_X3_nextLetter v3_letters v3_count v3_next = some ro) : xm_i l yX3_nextLetter (Cond.code yX3_nextLetter cX3_nextLetter 1 (some .int) :: xg_tbl) { frames := 0, cells := 0, slots := 0, locals := 0 } D xcl [(cyI, .int), (cyJ, .long)] G sz [.ref (a 23)] (wd_X3 a cyI cyJ v3_letters v3_count v3_next v3_size v7_rows v7_lengths v7_sizes v7_rests v7_orders v8_sizes v8_coefficients v8_undoneSums v8_undos v8_nextUndo v8_imageTaken) (wd_X3 a cyI cyJ v3_letters v3_count v3_next v3_size v7_rows v7_lengths v7_sizes v7_rests v7_orders v8_sizes v8_coefficients v8_undoneSums v8_undos v8_nextUndo v8_imageTaken) ro := by
  refine xm_of_i (own := RX3) (by decide) rfl rfl (Nat.le_of_ble_eq_true rfl) ?_
  intro p e s m args below meth c ls Q A hQ hAe hin Cx hsz hP hD hS hl
  have Cx1 := Cx
  obtain ⟨⟨hx, hb, hml, hown, hts⟩, hr, hlocks, hK, hA, hT⟩ := Cx1
  have hl : lv_has ls 1 [(0, .ref (a 23))] := hl
  obtain ⟨H, eH⟩ : ∃ H, H = s.heap := ⟨_, rfl⟩
  obtain ⟨locs, eL⟩ : ∃ L : List Loc, L = [] := ⟨_, rfl⟩
  rw [← eH] at hP
  have hS : va_S A s.heap H locs := by rw [eH, eL]; exact hS
  suffices hgo : W p l e { frames := 0, cells := 0, slots := 0, locals := 0 } s m args below meth c H locs 0 0 Q (F0 m 0 ls []) by rw [eH, eL] at hgo; exact hgo
  clear eH eL
  unfold f_X3_nextLetter at hf
  refine lv_aload_n hx hb dX3_nextLetter_0 rfl (lv_at hl 0 rfl) ?_
  refine va_get (ci := 3) (v := .int v3_next) hx hb hts wX3_in hown hK hP 0 rfl rfl 4 (by decide) (hts _ mw_2_46) (fun _ h9 => h9) rfl dX3_nextLetter_1 ?_
  refine lv_if_lt (tgt := 39) hx hb dX3_nextLetter_4 (by decide) (fun hc_5 => ?_) (fun hc_5 => ?_)
  · have hf := pe_t hf hc_5
    refine lv_iconst (v := (-1 : Int32)) hx hb dX3_nextLetter_39 (by decide) ?_
    obtain rfl := po_1 hf
    rw [← hQ]; exact xe_iret Cx rfl hP hD hS dX3_nextLetter_40
  · have hf := pe_f hf hc_5
    refine lv_aload_n hx hb dX3_nextLetter_7 rfl (lv_at hl 0 rfl) ?_
    refine va_get (ci := 3) (v := .int v3_next) hx hb hts wX3_in hown hK hP 0 rfl rfl 4 (by decide) (hts _ mw_2_46) (fun _ h9 => h9) rfl dX3_nextLetter_8 ?_
    refine lv_aload_n hx hb dX3_nextLetter_11 rfl (lv_at hl 0 rfl) ?_
    refine va_get (ci := 3) (v := .int v3_count) hx hb hts wX3_in hown hK hP 0 rfl rfl 3 (by decide) (hts _ mw_2_45) (fun _ h9 => h9) rfl dX3_nextLetter_12 ?_
    refine lv_icmp_ge (tgt := 39) hx hb dX3_nextLetter_15 (by decide) (fun hc_6 => ?_) (fun hc_6 => ?_)
    · have hf := pe_t hf hc_6
      refine lv_iconst (v := (-1 : Int32)) hx hb dX3_nextLetter_39 (by decide) ?_
      obtain rfl := po_1 hf
      rw [← hQ]; exact xe_iret Cx rfl hP hD hS dX3_nextLetter_40
    · have hf := pe_f hf hc_6
      refine lv_aload_n hx hb dX3_nextLetter_18 rfl (lv_at hl 0 rfl) ?_
      refine va_get (ci := 3) (v := .int v3_next) hx hb hts wX3_in hown hK hP 0 rfl rfl 4 (by decide) (hts _ mw_2_46) (fun _ h9 => h9) rfl dX3_nextLetter_19 ?_
      refine lv_bipush (v := (72 : Int32)) hx hb dX3_nextLetter_22 (by decide) ?_
      refine lv_icmp_ge (tgt := 39) hx hb dX3_nextLetter_24 (by decide) (fun hc_7 => ?_) (fun hc_7 => ?_)
      · have hf := pe_t hf hc_7
        refine lv_iconst (v := (-1 : Int32)) hx hb dX3_nextLetter_39 (by decide) ?_
        obtain rfl := po_1 hf
        rw [← hQ]; exact xe_iret Cx rfl hP hD hS dX3_nextLetter_40
      · have hf := pe_f hf hc_7
        refine lv_aload_n hx hb dX3_nextLetter_27 rfl (lv_at hl 0 rfl) ?_
        refine va_get (ci := 3) (v := .ref (a 24)) hx hb hts wX3_in hown hK hP 0 rfl rfl 2 (by decide) (hts _ mw_2_44) (fun _ h9 => h9) rfl dX3_nextLetter_28 ?_
        refine lv_aload_n hx hb dX3_nextLetter_31 rfl (lv_at hl 0 rfl) ?_
        refine va_get (ci := 3) (v := .int v3_next) hx hb hts wX3_in hown hK hP 0 rfl rfl 4 (by decide) (hts _ mw_2_46) (fun _ h9 => h9) rfl dX3_nextLetter_32 ?_
        obtain ⟨hi_8, hf⟩ := pe_in hf
        refine va_iald hx hb hK hP 1 0 rfl rfl hi_8 dX3_nextLetter_35 ?_
        refine lv_goto (tgt := 40) hx hb dX3_nextLetter_36 (by decide) ?_
        obtain rfl := po_1 hf
        rw [← hQ]; exact xe_iret Cx rfl hP hD hS dX3_nextLetter_40
def f_X3_passes (v3_letters : Nat → Int32) (v3_count : Int32) (v3_next : Int32) (x1 : Int32) : Option (Int32 × Int32) := p_b1 (f_X3_nextLetter v3_letters v3_count v3_next) (fun r_1 => if r_1 = x1 then (if (1 : Int32) = 0 then (some ((1 : Int32), v3_next)) else (some ((1 : Int32), (v3_next + (1 : Int32))))) else (if (0 : Int32) = 0 then (some ((0 : Int32), v3_next)) else (some ((0 : Int32), (v3_next + (1 : Int32))))))
set_option maxHeartbeats 4000000 in
set_option maxRecDepth 20000 in
theorem c_X3_passes (l : Launch) (D : va_G) (cyI cyJ : ClassId) (G a : Nat → Nat) (sz : Nat) (v3_letters : Nat → Int32) (v3_count : Int32) (v3_next : Int32) (v3_size : Int32) (v7_rows : Nat → Int32) (v7_lengths : Nat → Int32) (v7_sizes : Nat → Int32) (v7_rests : Nat → Int32) (v7_orders : Nat → Int32) (v8_sizes : Nat → Int32) (v8_coefficients : Nat → Int32) (v8_undoneSums : Nat → Int32) (v8_undos : Int32) (v8_nextUndo : Int32) (v8_imageTaken : Int32) (x1 : Int32) (ro : Int32) (ov3_next : Int32) (hf : f_X3_passes v3_letters v3_count v3_next x1 = some (ro, ov3_next)) : xm_z l yX3_passes (Cond.code yX3_passes cX3_passes 3 (some .boolean) :: xg_tbl) { frames := 1, cells := 0, slots := 0, locals := 20 } D xcl [(cyI, .int), (cyJ, .long)] G sz [.ref (a 23), .int x1] (wd_X3 a cyI cyJ v3_letters v3_count v3_next v3_size v7_rows v7_lengths v7_sizes v7_rests v7_orders v8_sizes v8_coefficients v8_undoneSums v8_undos v8_nextUndo v8_imageTaken) (wd_X3 a cyI cyJ v3_letters v3_count ov3_next v3_size v7_rows v7_lengths v7_sizes v7_rests v7_orders v8_sizes v8_coefficients v8_undoneSums v8_undos v8_nextUndo v8_imageTaken) ro := by
  refine xm_of_z (own := RX3) (by decide) rfl rfl (Nat.le_of_ble_eq_true rfl) ?_
  intro p e s m args below meth c ls Q A hQ hAe hin Cx hsz hP hD hS hl
  have Cx1 := Cx
  obtain ⟨⟨hx, hb, hml, hown, hts⟩, hr, hlocks, hK, hA, hT⟩ := Cx1
  have hl : lv_has ls 3 [(0, .ref (a 23)), (1, .int x1)] := hl
  obtain ⟨H, eH⟩ : ∃ H, H = s.heap := ⟨_, rfl⟩
  obtain ⟨locs, eL⟩ : ∃ L : List Loc, L = [] := ⟨_, rfl⟩
  rw [← eH] at hP
  have hS : va_S A s.heap H locs := by rw [eH, eL]; exact hS
  suffices hgo : W p l e { frames := 1, cells := 0, slots := 0, locals := 20 } s m args below meth c H locs 0 0 Q (F0 m 0 ls []) by rw [eH, eL] at hgo; exact hgo
  clear eH eL
  unfold f_X3_passes at hf
  refine lv_aload_n hx hb dX3_passes_0 rfl (lv_at hl 0 rfl) ?_
  obtain ⟨r_6, hk_7, hf⟩ := pe_1 hf
  refine xv_i (As := []) (rest := []) (q0 := 0) (ci := 3) Cx hP hD hS hl (pl_X3_X3 a cyI cyJ v3_letters v3_count v3_next v3_size v7_rows v7_lengths v7_sizes v7_rests v7_orders v8_sizes v8_coefficients v8_undoneSums v8_undos v8_nextUndo v8_imageTaken v3_letters v3_count v3_next v3_size v7_rows v7_lengths v7_sizes v7_rests v7_orders v8_sizes v8_coefficients v8_undoneSums v8_undos v8_nextUndo v8_imageTaken) (c_X3_nextLetter l D cyI cyJ G a H.size v3_letters v3_count v3_next v3_size v7_rows v7_lengths v7_sizes v7_rests v7_orders v8_sizes v8_coefficients v8_undoneSums v8_undos v8_nextUndo v8_imageTaken r_6 hk_7) pk_X3_nextLetter mw_5_23 ⟨rfl, rfl, Nat.le_of_ble_eq_true rfl, Nat.le_of_ble_eq_true rfl⟩ rfl rfl rfl rfl rfl (Nat.le_of_ble_eq_true rfl) ⟨Nat.le_of_ble_eq_true rfl, Nat.le_of_ble_eq_true rfl⟩ dX3_passes_1 (fun H locs hP hD hS => ?_)
  refine lv_iload_n hx hb dX3_passes_4 rfl (lv_at hl 1 rfl) ?_
  refine lv_icmp_ne (tgt := 12) hx hb dX3_passes_5 (by decide) (fun hc_8 => ?_) (fun hc_8 => ?_)
  · have hf := pe_f hf hc_8
    refine lv_iconst (v := (0 : Int32)) hx hb dX3_passes_12 (by decide) ?_
    refine lv_istore_n (lv' := [(2, .int (0 : Int32)), (0, .ref (a 23)), (1, .int x1)]) hx hb dX3_passes_13 rfl hl (by decide) rfl (fun ls hl => ?_)
    refine lv_iload_n hx hb dX3_passes_14 rfl (lv_at hl 0 rfl) ?_
    refine lv_if_eq (tgt := 28) hx hb dX3_passes_15 (by decide) (fun hc_9 => ?_) (fun hc_9 => ?_)
    · have hf := pe_t hf hc_9
      refine lv_iload_n hx hb dX3_passes_28 rfl (lv_at hl 0 rfl) ?_
      obtain ⟨rfl, rfl⟩ := po_2 hf
      rw [← hQ]; exact xe_zret Cx rfl rfl hP hD hS dX3_passes_29
    · have hf := pe_f hf hc_9
      refine lv_aload_n hx hb dX3_passes_18 rfl (lv_at hl 1 rfl) ?_
      refine lv_dup hx hb dX3_passes_19 rfl ?_
      refine va_get (ci := 3) (v := .int v3_next) hx hb hts wX3_in hown hK hP 0 rfl rfl 4 (by decide) (hts _ mw_2_46) (fun _ h9 => h9) rfl dX3_passes_20 ?_
      refine lv_iconst (v := (1 : Int32)) hx hb dX3_passes_23 (by decide) ?_
      refine lv_iadd hx hb dX3_passes_24 ?_
      refine va_put (ci := 3) (v := .int (v3_next + (1 : Int32))) (ty := .int) hx hb hts wX3_in tyX3 tyX3_ok nmX3 hown hK hP hD hS 0 rfl rfl 4 (by decide) (hts _ mw_2_46) (fun _ h9 => h9) rfl (by decide +kernel) rfl rfl (Nat.le_of_ble_eq_true rfl) dX3_passes_25 (fun H locs hP hD hS => ?_)
      have hP : va_P D xcl (wd_X3 a cyI cyJ v3_letters v3_count (v3_next + (1 : Int32)) v3_size v7_rows v7_lengths v7_sizes v7_rests v7_orders v8_sizes v8_coefficients v8_undoneSums v8_undos v8_nextUndo v8_imageTaken) H := hP
      have hD : va_D A (wd_X3 a cyI cyJ v3_letters v3_count (v3_next + (1 : Int32)) v3_size v7_rows v7_lengths v7_sizes v7_rests v7_orders v8_sizes v8_coefficients v8_undoneSums v8_undos v8_nextUndo v8_imageTaken) := hD
      refine lv_iload_n hx hb dX3_passes_28 rfl (lv_at hl 0 rfl) ?_
      obtain ⟨rfl, rfl⟩ := po_2 hf
      rw [← hQ]; exact xe_zret Cx rfl rfl hP hD hS dX3_passes_29
  · have hf := pe_t hf hc_8
    refine lv_iconst (v := (1 : Int32)) hx hb dX3_passes_8 (by decide) ?_
    refine lv_goto (tgt := 13) hx hb dX3_passes_9 (by decide) ?_
    refine lv_istore_n (lv' := [(2, .int (1 : Int32)), (0, .ref (a 23)), (1, .int x1)]) hx hb dX3_passes_13 rfl hl (by decide) rfl (fun ls hl => ?_)
    refine lv_iload_n hx hb dX3_passes_14 rfl (lv_at hl 0 rfl) ?_
    refine lv_if_eq (tgt := 28) hx hb dX3_passes_15 (by decide) (fun hc_10 => ?_) (fun hc_10 => ?_)
    · have hf := pe_t hf hc_10
      refine lv_iload_n hx hb dX3_passes_28 rfl (lv_at hl 0 rfl) ?_
      obtain ⟨rfl, rfl⟩ := po_2 hf
      rw [← hQ]; exact xe_zret Cx rfl rfl hP hD hS dX3_passes_29
    · have hf := pe_f hf hc_10
      refine lv_aload_n hx hb dX3_passes_18 rfl (lv_at hl 1 rfl) ?_
      refine lv_dup hx hb dX3_passes_19 rfl ?_
      refine va_get (ci := 3) (v := .int v3_next) hx hb hts wX3_in hown hK hP 0 rfl rfl 4 (by decide) (hts _ mw_2_46) (fun _ h9 => h9) rfl dX3_passes_20 ?_
      refine lv_iconst (v := (1 : Int32)) hx hb dX3_passes_23 (by decide) ?_
      refine lv_iadd hx hb dX3_passes_24 ?_
      refine va_put (ci := 3) (v := .int (v3_next + (1 : Int32))) (ty := .int) hx hb hts wX3_in tyX3 tyX3_ok nmX3 hown hK hP hD hS 0 rfl rfl 4 (by decide) (hts _ mw_2_46) (fun _ h9 => h9) rfl (by decide +kernel) rfl rfl (Nat.le_of_ble_eq_true rfl) dX3_passes_25 (fun H locs hP hD hS => ?_)
      have hP : va_P D xcl (wd_X3 a cyI cyJ v3_letters v3_count (v3_next + (1 : Int32)) v3_size v7_rows v7_lengths v7_sizes v7_rests v7_orders v8_sizes v8_coefficients v8_undoneSums v8_undos v8_nextUndo v8_imageTaken) H := hP
      have hD : va_D A (wd_X3 a cyI cyJ v3_letters v3_count (v3_next + (1 : Int32)) v3_size v7_rows v7_lengths v7_sizes v7_rests v7_orders v8_sizes v8_coefficients v8_undoneSums v8_undos v8_nextUndo v8_imageTaken) := hD
      refine lv_iload_n hx hb dX3_passes_28 rfl (lv_at hl 0 rfl) ?_
      obtain ⟨rfl, rfl⟩ := po_2 hf
      rw [← hQ]; exact xe_zret Cx rfl rfl hP hD hS dX3_passes_29
def f_X3_passNumber_56 (v3_letters : Nat → Int32) (v3_count : Int32) (v3_next : Int32) (y1 : Int32) (y2 : Int32) : Option (Int32 × Int32) := if y2 = 0 then (some ((1 : Int32), v3_next)) else (some (y1, v3_next))
def gf_X3_passNumber_4 (K_4 : Int32 → Int32 → Int32 → Option (Int32 × Int32)) (v3_letters : Nat → Int32) (v3_count : Int32) (v3_next : Int32) (y1 : Int32) (y2 : Int32) : Option (Int32 × Int32) := if (3 : Int32) ≤ y2 then ((f_X3_passNumber_56 v3_letters v3_count) v3_next y1 y2) else (p_b1 (f_X3_nextLetter v3_letters v3_count v3_next) (fun r_3 => if r_3 < (48 : Int32) then ((f_X3_passNumber_56 v3_letters v3_count) v3_next y1 y2) else (p_b1 (f_X3_nextLetter v3_letters v3_count v3_next) (fun r_6 => if (57 : Int32) < r_6 then ((f_X3_passNumber_56 v3_letters v3_count) v3_next y1 y2) else (p_b1 (f_X3_nextLetter v3_letters v3_count v3_next) (fun r_9 => K_4 (v3_next + (1 : Int32)) (((y1 * (10 : Int32)) + r_9) - (48 : Int32)) (y2 + (1 : Int32))))))))
def f_X3_passNumber_4 (v3_letters : Nat → Int32) (v3_count : Int32) : Nat → Int32 → Int32 → Int32 → Option (Int32 × Int32)
  | 0 => fun _ _ _ => none
  | n + 1 => gf_X3_passNumber_4 (f_X3_passNumber_4 v3_letters v3_count n) v3_letters v3_count
def f_X3_passNumber (v3_letters : Nat → Int32) (v3_count : Int32) (v3_next : Int32) : Option (Int32 × Int32) := (f_X3_passNumber_4 v3_letters v3_count 1000) v3_next (0 : Int32) (0 : Int32)
set_option maxHeartbeats 4000000 in
set_option maxRecDepth 20000 in
theorem c_X3_passNumber (l : Launch) (D : va_G) (cyI cyJ : ClassId) (G a : Nat → Nat) (sz : Nat) (v3_letters : Nat → Int32) (v3_count : Int32) (v3_next : Int32) (v3_size : Int32) (v7_rows : Nat → Int32) (v7_lengths : Nat → Int32) (v7_sizes : Nat → Int32) (v7_rests : Nat → Int32) (v7_orders : Nat → Int32) (v8_sizes : Nat → Int32) (v8_coefficients : Nat → Int32) (v8_undoneSums : Nat → Int32) (v8_undos : Int32) (v8_nextUndo : Int32) (v8_imageTaken : Int32) (ro : Int32) (ov3_next : Int32) (hf : f_X3_passNumber v3_letters v3_count v3_next = some (ro, ov3_next)) : xm_i l yX3_passNumber (Cond.code yX3_passNumber cX3_passNumber 3 (some .int) :: xg_tbl) { frames := 1, cells := 0, slots := 0, locals := 20 } D xcl [(cyI, .int), (cyJ, .long)] G sz [.ref (a 23)] (wd_X3 a cyI cyJ v3_letters v3_count v3_next v3_size v7_rows v7_lengths v7_sizes v7_rests v7_orders v8_sizes v8_coefficients v8_undoneSums v8_undos v8_nextUndo v8_imageTaken) (wd_X3 a cyI cyJ v3_letters v3_count ov3_next v3_size v7_rows v7_lengths v7_sizes v7_rests v7_orders v8_sizes v8_coefficients v8_undoneSums v8_undos v8_nextUndo v8_imageTaken) ro := by
  refine xm_of_i (own := RX3) (by decide) rfl rfl (Nat.le_of_ble_eq_true rfl) ?_
  intro p e s m args below meth c ls Q A hQ hAe hin Cx hsz hP hD hS hl
  have Cx1 := Cx
  obtain ⟨⟨hx, hb, hml, hown, hts⟩, hr, hlocks, hK, hA, hT⟩ := Cx1
  have hl : lv_has ls 3 [(0, .ref (a 23))] := hl
  obtain ⟨H, eH⟩ : ∃ H, H = s.heap := ⟨_, rfl⟩
  obtain ⟨locs, eL⟩ : ∃ L : List Loc, L = [] := ⟨_, rfl⟩
  rw [← eH] at hP
  have hS : va_S A s.heap H locs := by rw [eH, eL]; exact hS
  suffices hgo : W p l e { frames := 1, cells := 0, slots := 0, locals := 20 } s m args below meth c H locs 0 0 Q (F0 m 0 ls []) by rw [eH, eL] at hgo; exact hgo
  clear eH eL
  unfold f_X3_passNumber at hf
  have w_4 : ∀ (n_4 : Nat) (v3_next : Int32) (y1 : Int32) (y2 : Int32) (H : Heap) (locs : List Loc) (ls : Array Slot), (f_X3_passNumber_4 v3_letters v3_count) n_4 v3_next y1 y2 = some (ro, ov3_next) → va_P D xcl (wd_X3 a cyI cyJ v3_letters v3_count v3_next v3_size v7_rows v7_lengths v7_sizes v7_rests v7_orders v8_sizes v8_coefficients v8_undoneSums v8_undos v8_nextUndo v8_imageTaken) H → va_D A (wd_X3 a cyI cyJ v3_letters v3_count v3_next v3_size v7_rows v7_lengths v7_sizes v7_rests v7_orders v8_sizes v8_coefficients v8_undoneSums v8_undos v8_nextUndo v8_imageTaken) → va_S A s.heap H locs → lv_has ls 3 [(0, .ref (a 23)), (1, .int y1), (2, .int y2)] → W p l e { frames := 1, cells := 0, slots := 0, locals := 20 } s m args below meth c H locs 0 0 Q (F0 m 4 ls []) := by
    intro n_4
    induction n_4 with
    | zero => intro v3_next y1 y2 H locs ls hf; exact absurd hf (by intro h9; cases h9)
    | succ n_4 w_4 =>
      intro v3_next y1 y2 H locs ls hf hP hD hS hl
      have hf : gf_X3_passNumber_4 ((f_X3_passNumber_4 v3_letters v3_count) n_4) v3_letters v3_count v3_next y1 y2 = some (ro, ov3_next) := hf
      unfold gf_X3_passNumber_4 at hf
      have w_56 : ∀ (v3_next : Int32) (y1 : Int32) (y2 : Int32) (H : Heap) (locs : List Loc) (ls : Array Slot), (f_X3_passNumber_56 v3_letters v3_count) v3_next y1 y2 = some (ro, ov3_next) → va_P D xcl (wd_X3 a cyI cyJ v3_letters v3_count v3_next v3_size v7_rows v7_lengths v7_sizes v7_rests v7_orders v8_sizes v8_coefficients v8_undoneSums v8_undos v8_nextUndo v8_imageTaken) H → va_D A (wd_X3 a cyI cyJ v3_letters v3_count v3_next v3_size v7_rows v7_lengths v7_sizes v7_rests v7_orders v8_sizes v8_coefficients v8_undoneSums v8_undos v8_nextUndo v8_imageTaken) → va_S A s.heap H locs → lv_has ls 3 [(1, .int y1), (2, .int y2)] → W p l e { frames := 1, cells := 0, slots := 0, locals := 20 } s m args below meth c H locs 0 0 Q (F0 m 56 ls []) := by
        intro v3_next y1 y2 H locs ls hf hP hD hS hl
        unfold f_X3_passNumber_56 at hf
        refine lv_iload_n hx hb dX3_passNumber_56 rfl (lv_at hl 1 rfl) ?_
        refine lv_if_ne (tgt := 64) hx hb dX3_passNumber_57 (by decide) (fun hc_11 => ?_) (fun hc_11 => ?_)
        · have hf := pe_f hf hc_11
          refine lv_iload_n hx hb dX3_passNumber_64 rfl (lv_at hl 0 rfl) ?_
          obtain ⟨rfl, rfl⟩ := po_2 hf
          rw [← hQ]; exact xe_iret Cx rfl hP hD hS dX3_passNumber_65
        · have hf := pe_t hf hc_11
          refine lv_iconst (v := (1 : Int32)) hx hb dX3_passNumber_60 (by decide) ?_
          refine lv_goto (tgt := 65) hx hb dX3_passNumber_61 (by decide) ?_
          obtain ⟨rfl, rfl⟩ := po_2 hf
          rw [← hQ]; exact xe_iret Cx rfl hP hD hS dX3_passNumber_65
      refine lv_iload_n hx hb dX3_passNumber_4 rfl (lv_at hl 2 rfl) ?_
      refine lv_iconst (v := (3 : Int32)) hx hb dX3_passNumber_5 (by decide) ?_
      refine lv_icmp_ge (tgt := 56) hx hb dX3_passNumber_6 (by decide) (fun hc_12 => ?_) (fun hc_12 => ?_)
      · have hf := pe_t hf hc_12
        exact w_56 v3_next y1 y2 H locs ls hf hP hD hS (lv_sub hl [1, 2] rfl)
      · have hf := pe_f hf hc_12
        refine lv_aload_n hx hb dX3_passNumber_9 rfl (lv_at hl 0 rfl) ?_
        obtain ⟨r_13, hk_14, hf⟩ := pe_1 hf
        refine xv_i (As := []) (rest := []) (q0 := 0) (ci := 3) Cx hP hD hS hl (pl_X3_X3 a cyI cyJ v3_letters v3_count v3_next v3_size v7_rows v7_lengths v7_sizes v7_rests v7_orders v8_sizes v8_coefficients v8_undoneSums v8_undos v8_nextUndo v8_imageTaken v3_letters v3_count v3_next v3_size v7_rows v7_lengths v7_sizes v7_rests v7_orders v8_sizes v8_coefficients v8_undoneSums v8_undos v8_nextUndo v8_imageTaken) (c_X3_nextLetter l D cyI cyJ G a H.size v3_letters v3_count v3_next v3_size v7_rows v7_lengths v7_sizes v7_rests v7_orders v8_sizes v8_coefficients v8_undoneSums v8_undos v8_nextUndo v8_imageTaken r_13 hk_14) pk_X3_nextLetter mw_5_23 ⟨rfl, rfl, Nat.le_of_ble_eq_true rfl, Nat.le_of_ble_eq_true rfl⟩ rfl rfl rfl rfl rfl (Nat.le_of_ble_eq_true rfl) ⟨Nat.le_of_ble_eq_true rfl, Nat.le_of_ble_eq_true rfl⟩ dX3_passNumber_10 (fun H locs hP hD hS => ?_)
        refine lv_bipush (v := (48 : Int32)) hx hb dX3_passNumber_13 (by decide) ?_
        refine lv_icmp_lt (tgt := 56) hx hb dX3_passNumber_15 (by decide) (fun hc_15 => ?_) (fun hc_15 => ?_)
        · have hf := pe_t hf hc_15
          exact w_56 v3_next y1 y2 H locs ls hf hP hD hS (lv_sub hl [1, 2] rfl)
        · have hf := pe_f hf hc_15
          refine lv_aload_n hx hb dX3_passNumber_18 rfl (lv_at hl 0 rfl) ?_
          obtain ⟨r_16, hk_17, hf⟩ := pe_1 hf
          refine xv_i (As := []) (rest := []) (q0 := 0) (ci := 3) Cx hP hD hS hl (pl_X3_X3 a cyI cyJ v3_letters v3_count v3_next v3_size v7_rows v7_lengths v7_sizes v7_rests v7_orders v8_sizes v8_coefficients v8_undoneSums v8_undos v8_nextUndo v8_imageTaken v3_letters v3_count v3_next v3_size v7_rows v7_lengths v7_sizes v7_rests v7_orders v8_sizes v8_coefficients v8_undoneSums v8_undos v8_nextUndo v8_imageTaken) (c_X3_nextLetter l D cyI cyJ G a H.size v3_letters v3_count v3_next v3_size v7_rows v7_lengths v7_sizes v7_rests v7_orders v8_sizes v8_coefficients v8_undoneSums v8_undos v8_nextUndo v8_imageTaken r_16 hk_17) pk_X3_nextLetter mw_5_23 ⟨rfl, rfl, Nat.le_of_ble_eq_true rfl, Nat.le_of_ble_eq_true rfl⟩ rfl rfl rfl rfl rfl (Nat.le_of_ble_eq_true rfl) ⟨Nat.le_of_ble_eq_true rfl, Nat.le_of_ble_eq_true rfl⟩ dX3_passNumber_19 (fun H locs hP hD hS => ?_)
          refine lv_bipush (v := (57 : Int32)) hx hb dX3_passNumber_22 (by decide) ?_
          refine lv_icmp_gt (tgt := 56) hx hb dX3_passNumber_24 (by decide) (fun hc_18 => ?_) (fun hc_18 => ?_)
          · have hf := pe_t hf hc_18
            exact w_56 v3_next y1 y2 H locs ls hf hP hD hS (lv_sub hl [1, 2] rfl)
          · have hf := pe_f hf hc_18
            refine lv_iload_n hx hb dX3_passNumber_27 rfl (lv_at hl 1 rfl) ?_
            refine lv_bipush (v := (10 : Int32)) hx hb dX3_passNumber_28 (by decide) ?_
            refine lv_imul hx hb dX3_passNumber_30 ?_
            refine lv_aload_n hx hb dX3_passNumber_31 rfl (lv_at hl 0 rfl) ?_
            obtain ⟨r_19, hk_20, hf⟩ := pe_1 hf
            refine xv_i (As := []) (rest := [.int (y1 * (10 : Int32))]) (q0 := 0) (ci := 3) Cx hP hD hS hl (pl_X3_X3 a cyI cyJ v3_letters v3_count v3_next v3_size v7_rows v7_lengths v7_sizes v7_rests v7_orders v8_sizes v8_coefficients v8_undoneSums v8_undos v8_nextUndo v8_imageTaken v3_letters v3_count v3_next v3_size v7_rows v7_lengths v7_sizes v7_rests v7_orders v8_sizes v8_coefficients v8_undoneSums v8_undos v8_nextUndo v8_imageTaken) (c_X3_nextLetter l D cyI cyJ G a H.size v3_letters v3_count v3_next v3_size v7_rows v7_lengths v7_sizes v7_rests v7_orders v8_sizes v8_coefficients v8_undoneSums v8_undos v8_nextUndo v8_imageTaken r_19 hk_20) pk_X3_nextLetter mw_5_23 ⟨rfl, rfl, Nat.le_of_ble_eq_true rfl, Nat.le_of_ble_eq_true rfl⟩ rfl rfl rfl rfl rfl (Nat.le_of_ble_eq_true rfl) ⟨Nat.le_of_ble_eq_true rfl, Nat.le_of_ble_eq_true rfl⟩ dX3_passNumber_32 (fun H locs hP hD hS => ?_)
            refine lv_iadd hx hb dX3_passNumber_35 ?_
            refine lv_bipush (v := (48 : Int32)) hx hb dX3_passNumber_36 (by decide) ?_
            refine lv_isub hx hb dX3_passNumber_38 ?_
            refine lv_istore_n (lv' := [(1, .int (((y1 * (10 : Int32)) + r_19) - (48 : Int32))), (0, .ref (a 23)), (2, .int y2)]) hx hb dX3_passNumber_39 rfl hl (by decide) rfl (fun ls hl => ?_)
            refine lv_iinc (v := (y2 + (1 : Int32))) (lv' := [(2, .int (y2 + (1 : Int32))), (1, .int (((y1 * (10 : Int32)) + r_19) - (48 : Int32))), (0, .ref (a 23))]) hx hb dX3_passNumber_40 hl (k := 2) rfl rfl (by decide) rfl (fun ls hl => ?_)
            refine lv_aload_n hx hb dX3_passNumber_43 rfl (lv_at hl 2 rfl) ?_
            refine lv_dup hx hb dX3_passNumber_44 rfl ?_
            refine va_get (ci := 3) (v := .int v3_next) hx hb hts wX3_in hown hK hP 0 rfl rfl 4 (by decide) (hts _ mw_2_46) (fun _ h9 => h9) rfl dX3_passNumber_45 ?_
            refine lv_iconst (v := (1 : Int32)) hx hb dX3_passNumber_48 (by decide) ?_
            refine lv_iadd hx hb dX3_passNumber_49 ?_
            refine va_put (ci := 3) (v := .int (v3_next + (1 : Int32))) (ty := .int) hx hb hts wX3_in tyX3 tyX3_ok nmX3 hown hK hP hD hS 0 rfl rfl 4 (by decide) (hts _ mw_2_46) (fun _ h9 => h9) rfl (by decide +kernel) rfl rfl (Nat.le_of_ble_eq_true rfl) dX3_passNumber_50 (fun H locs hP hD hS => ?_)
            have hP : va_P D xcl (wd_X3 a cyI cyJ v3_letters v3_count (v3_next + (1 : Int32)) v3_size v7_rows v7_lengths v7_sizes v7_rests v7_orders v8_sizes v8_coefficients v8_undoneSums v8_undos v8_nextUndo v8_imageTaken) H := hP
            have hD : va_D A (wd_X3 a cyI cyJ v3_letters v3_count (v3_next + (1 : Int32)) v3_size v7_rows v7_lengths v7_sizes v7_rests v7_orders v8_sizes v8_coefficients v8_undoneSums v8_undos v8_nextUndo v8_imageTaken) := hD
            refine lv_goto (tgt := 4) hx hb dX3_passNumber_53 (by decide) ?_
            exact w_4 (v3_next + (1 : Int32)) (((y1 * (10 : Int32)) + r_19) - (48 : Int32)) (y2 + (1 : Int32)) H locs ls hf hP hD hS (lv_sub hl [2, 1, 0] rfl)
  refine lv_iconst (v := (0 : Int32)) hx hb dX3_passNumber_0 (by decide) ?_
  refine lv_istore_n (lv' := [(1, .int (0 : Int32)), (0, .ref (a 23))]) hx hb dX3_passNumber_1 rfl hl (by decide) rfl (fun ls hl => ?_)
  refine lv_iconst (v := (0 : Int32)) hx hb dX3_passNumber_2 (by decide) ?_
  refine lv_istore_n (lv' := [(2, .int (0 : Int32)), (1, .int (0 : Int32)), (0, .ref (a 23))]) hx hb dX3_passNumber_3 rfl hl (by decide) rfl (fun ls hl => ?_)
  exact w_4 1000 v3_next (0 : Int32) (0 : Int32) H locs ls hf hP hD hS (lv_sub hl [2, 1, 0] rfl)
def f_X3_passRows_100 (v3_letters : Nat → Int32) (v3_count : Int32) (v3_size : Int32) (v3_next : Int32) (y3 : Int32) (y4 : Int32) : Option (Int32 × Int32) := p_b1 (f_X7_find y3 y4) (fun r_1 => some (r_1, v3_next))
def gf_X3_passRows_28 (K_28 : Int32 → Int32 → Int32 → Int32 → Int32 → Int32 → Option (Int32 × Int32)) (v3_letters : Nat → Int32) (v3_count : Int32) (v3_size : Int32) (v3_next : Int32) (y1 : Int32) (y2 : Int32) (y3 : Int32) (y4 : Int32) (y5 : Int32) : Option (Int32 × Int32) := if (8 : Int32) ≤ y5 then ((f_X3_passRows_100 v3_letters v3_count v3_size) v3_next y3 y4) else (p_b1 (f_X3_nextLetter v3_letters v3_count v3_next) (fun r_4 => if (r_4 - (48 : Int32)) < (1 : Int32) then ((f_X3_passRows_100 v3_letters v3_count v3_size) v3_next y3 y4) else (if y2 < (r_4 - (48 : Int32)) then ((f_X3_passRows_100 v3_letters v3_count v3_size) v3_next y3 y4) else (if (y3 + (r_4 - (48 : Int32))) ≤ y1 then (p_b1 (f_X7_keyWith y4 (r_4 - (48 : Int32))) (fun r_9 => K_28 (v3_next + (1 : Int32)) y1 (r_4 - (48 : Int32)) (y3 + (r_4 - (48 : Int32))) r_9 (y5 + (1 : Int32)))) else ((f_X3_passRows_100 v3_letters v3_count v3_size) v3_next y3 y4)))))
def f_X3_passRows_28 (v3_letters : Nat → Int32) (v3_count : Int32) (v3_size : Int32) : Nat → Int32 → Int32 → Int32 → Int32 → Int32 → Int32 → Option (Int32 × Int32)
  | 0 => fun _ _ _ _ _ _ => none
  | n + 1 => gf_X3_passRows_28 (f_X3_passRows_28 v3_letters v3_count v3_size n) v3_letters v3_count v3_size
def f_X3_passRows_17 (v3_letters : Nat → Int32) (v3_count : Int32) (v3_size : Int32) (v3_next : Int32) (z0 : Int32) : Option (Int32 × Int32) := (f_X3_passRows_28 v3_letters v3_count v3_size 1000) v3_next z0 z0 (0 : Int32) (0 : Int32) (0 : Int32)
def f_X3_passRows (v3_letters : Nat → Int32) (v3_count : Int32) (v3_next : Int32) (v3_size : Int32) : Option (Int32 × Int32) := if v3_size = (-1 : Int32) then ((f_X3_passRows_17 v3_letters v3_count v3_size) v3_next (8 : Int32)) else ((f_X3_passRows_17 v3_letters v3_count v3_size) v3_next v3_size)
set_option maxHeartbeats 4000000 in
set_option maxRecDepth 20000 in
theorem c_X3_passRows (l : Launch) (D : va_G) (cyI cyJ : ClassId) (G a : Nat → Nat) (sz : Nat) (v3_letters : Nat → Int32) (v3_count : Int32) (v3_next : Int32) (v3_size : Int32) (v7_rows : Nat → Int32) (v7_lengths : Nat → Int32) (v7_sizes : Nat → Int32) (v7_rests : Nat → Int32) (v7_orders : Nat → Int32) (v8_sizes : Nat → Int32) (v8_coefficients : Nat → Int32) (v8_undoneSums : Nat → Int32) (v8_undos : Int32) (v8_nextUndo : Int32) (v8_imageTaken : Int32) (ro : Int32) (ov3_next : Int32) (hf : f_X3_passRows v3_letters v3_count v3_next v3_size = some (ro, ov3_next)) : xm_i l yX3_passRows (Cond.code yX3_passRows cX3_passRows 7 (some .int) :: xg_tbl) { frames := 2, cells := 0, slots := 0, locals := 45 } D xcl [(cyI, .int), (cyJ, .long)] G sz [.ref (a 23)] (wd_X3 a cyI cyJ v3_letters v3_count v3_next v3_size v7_rows v7_lengths v7_sizes v7_rests v7_orders v8_sizes v8_coefficients v8_undoneSums v8_undos v8_nextUndo v8_imageTaken) (wd_X3 a cyI cyJ v3_letters v3_count ov3_next v3_size v7_rows v7_lengths v7_sizes v7_rests v7_orders v8_sizes v8_coefficients v8_undoneSums v8_undos v8_nextUndo v8_imageTaken) ro := by
  refine xm_of_i (own := RX3) (by decide) rfl rfl (Nat.le_of_ble_eq_true rfl) ?_
  intro p e s m args below meth c ls Q A hQ hAe hin Cx hsz hP hD hS hl
  have Cx1 := Cx
  obtain ⟨⟨hx, hb, hml, hown, hts⟩, hr, hlocks, hK, hA, hT⟩ := Cx1
  have hl : lv_has ls 7 [(0, .ref (a 23))] := hl
  obtain ⟨H, eH⟩ : ∃ H, H = s.heap := ⟨_, rfl⟩
  obtain ⟨locs, eL⟩ : ∃ L : List Loc, L = [] := ⟨_, rfl⟩
  rw [← eH] at hP
  have hS : va_S A s.heap H locs := by rw [eH, eL]; exact hS
  suffices hgo : W p l e { frames := 2, cells := 0, slots := 0, locals := 45 } s m args below meth c H locs 0 0 Q (F0 m 0 ls []) by rw [eH, eL] at hgo; exact hgo
  clear eH eL
  unfold f_X3_passRows at hf
  have w_17 : ∀ (v3_next : Int32) (z0 : Int32) (H : Heap) (locs : List Loc) (ls : Array Slot), (f_X3_passRows_17 v3_letters v3_count v3_size) v3_next z0 = some (ro, ov3_next) → va_P D xcl (wd_X3 a cyI cyJ v3_letters v3_count v3_next v3_size v7_rows v7_lengths v7_sizes v7_rests v7_orders v8_sizes v8_coefficients v8_undoneSums v8_undos v8_nextUndo v8_imageTaken) H → va_D A (wd_X3 a cyI cyJ v3_letters v3_count v3_next v3_size v7_rows v7_lengths v7_sizes v7_rests v7_orders v8_sizes v8_coefficients v8_undoneSums v8_undos v8_nextUndo v8_imageTaken) → va_S A s.heap H locs → lv_has ls 7 [(0, .ref (a 23))] → W p l e { frames := 2, cells := 0, slots := 0, locals := 45 } s m args below meth c H locs 0 0 Q (F0 m 17 ls [.int z0]) := by
    intro v3_next z0 H locs ls hf hP hD hS hl
    unfold f_X3_passRows_17 at hf
    have w_28 : ∀ (n_28 : Nat) (v3_next : Int32) (y1 : Int32) (y2 : Int32) (y3 : Int32) (y4 : Int32) (y5 : Int32) (H : Heap) (locs : List Loc) (ls : Array Slot), (f_X3_passRows_28 v3_letters v3_count v3_size) n_28 v3_next y1 y2 y3 y4 y5 = some (ro, ov3_next) → va_P D xcl (wd_X3 a cyI cyJ v3_letters v3_count v3_next v3_size v7_rows v7_lengths v7_sizes v7_rests v7_orders v8_sizes v8_coefficients v8_undoneSums v8_undos v8_nextUndo v8_imageTaken) H → va_D A (wd_X3 a cyI cyJ v3_letters v3_count v3_next v3_size v7_rows v7_lengths v7_sizes v7_rests v7_orders v8_sizes v8_coefficients v8_undoneSums v8_undos v8_nextUndo v8_imageTaken) → va_S A s.heap H locs → lv_has ls 7 [(0, .ref (a 23)), (1, .int y1), (2, .int y2), (3, .int y3), (4, .int y4), (5, .int y5)] → W p l e { frames := 2, cells := 0, slots := 0, locals := 45 } s m args below meth c H locs 0 0 Q (F0 m 28 ls []) := by
      intro n_28
      induction n_28 with
      | zero => intro v3_next y1 y2 y3 y4 y5 H locs ls hf; exact absurd hf (by intro h9; cases h9)
      | succ n_28 w_28 =>
        intro v3_next y1 y2 y3 y4 y5 H locs ls hf hP hD hS hl
        have hf : gf_X3_passRows_28 ((f_X3_passRows_28 v3_letters v3_count v3_size) n_28) v3_letters v3_count v3_size v3_next y1 y2 y3 y4 y5 = some (ro, ov3_next) := hf
        unfold gf_X3_passRows_28 at hf
        have w_100 : ∀ (v3_next : Int32) (y3 : Int32) (y4 : Int32) (H : Heap) (locs : List Loc) (ls : Array Slot), (f_X3_passRows_100 v3_letters v3_count v3_size) v3_next y3 y4 = some (ro, ov3_next) → va_P D xcl (wd_X3 a cyI cyJ v3_letters v3_count v3_next v3_size v7_rows v7_lengths v7_sizes v7_rests v7_orders v8_sizes v8_coefficients v8_undoneSums v8_undos v8_nextUndo v8_imageTaken) H → va_D A (wd_X3 a cyI cyJ v3_letters v3_count v3_next v3_size v7_rows v7_lengths v7_sizes v7_rests v7_orders v8_sizes v8_coefficients v8_undoneSums v8_undos v8_nextUndo v8_imageTaken) → va_S A s.heap H locs → lv_has ls 7 [(0, .ref (a 23)), (3, .int y3), (4, .int y4)] → W p l e { frames := 2, cells := 0, slots := 0, locals := 45 } s m args below meth c H locs 0 0 Q (F0 m 100 ls []) := by
          intro v3_next y3 y4 H locs ls hf hP hD hS hl
          unfold f_X3_passRows_100 at hf
          refine lv_aload_n hx hb dX3_passRows_100 rfl (lv_at hl 0 rfl) ?_
          refine va_get (ci := 3) (v := .ref (a 2)) hx hb hts wX3_in hown hK hP 0 rfl rfl 0 (by decide) (hts _ mw_2_42) (fun _ h9 => h9) rfl dX3_passRows_101 ?_
          refine lv_iload_n hx hb dX3_passRows_104 rfl (lv_at hl 1 rfl) ?_
          refine lv_iload hx hb dX3_passRows_105 (lv_at hl 2 rfl) ?_
          obtain ⟨r_12, hk_13, hf⟩ := pe_1 hf
          refine xv_i (As := [.int y3, .int y4]) (rest := []) (q0 := 0) (ci := 7) Cx hP hD hS hl (pl_X3_X7 a cyI cyJ v3_letters v3_count v3_next v3_size v7_rows v7_lengths v7_sizes v7_rests v7_orders v8_sizes v8_coefficients v8_undoneSums v8_undos v8_nextUndo v8_imageTaken v7_rows v7_lengths v7_sizes v7_rests v7_orders) (c_X7_find l D cyI cyJ G a H.size v7_rows v7_lengths v7_sizes v7_rests v7_orders y3 y4 r_12 hk_13) pk_X7_find mw_5_40 ⟨rfl, rfl, Nat.le_of_ble_eq_true rfl, Nat.le_of_ble_eq_true rfl⟩ rfl rfl rfl rfl rfl (Nat.le_of_ble_eq_true rfl) ⟨Nat.le_of_ble_eq_true rfl, Nat.le_of_ble_eq_true rfl⟩ dX3_passRows_107 (fun H locs hP hD hS => ?_)
          obtain ⟨rfl, rfl⟩ := po_2 hf
          rw [← hQ]; exact xe_iret Cx rfl hP hD hS dX3_passRows_110
        refine lv_iload hx hb dX3_passRows_28 (lv_at hl 5 rfl) ?_
        refine lv_bipush (v := (8 : Int32)) hx hb dX3_passRows_30 (by decide) ?_
        refine lv_icmp_ge (tgt := 100) hx hb dX3_passRows_32 (by decide) (fun hc_14 => ?_) (fun hc_14 => ?_)
        · have hf := pe_t hf hc_14
          exact w_100 v3_next y3 y4 H locs ls hf hP hD hS (lv_sub hl [0, 3, 4] rfl)
        · have hf := pe_f hf hc_14
          refine lv_aload_n hx hb dX3_passRows_35 rfl (lv_at hl 0 rfl) ?_
          obtain ⟨r_15, hk_16, hf⟩ := pe_1 hf
          refine xv_i (As := []) (rest := []) (q0 := 0) (ci := 3) Cx hP hD hS hl (pl_X3_X3 a cyI cyJ v3_letters v3_count v3_next v3_size v7_rows v7_lengths v7_sizes v7_rests v7_orders v8_sizes v8_coefficients v8_undoneSums v8_undos v8_nextUndo v8_imageTaken v3_letters v3_count v3_next v3_size v7_rows v7_lengths v7_sizes v7_rests v7_orders v8_sizes v8_coefficients v8_undoneSums v8_undos v8_nextUndo v8_imageTaken) (c_X3_nextLetter l D cyI cyJ G a H.size v3_letters v3_count v3_next v3_size v7_rows v7_lengths v7_sizes v7_rests v7_orders v8_sizes v8_coefficients v8_undoneSums v8_undos v8_nextUndo v8_imageTaken r_15 hk_16) pk_X3_nextLetter mw_5_23 ⟨rfl, rfl, Nat.le_of_ble_eq_true rfl, Nat.le_of_ble_eq_true rfl⟩ rfl rfl rfl rfl rfl (Nat.le_of_ble_eq_true rfl) ⟨Nat.le_of_ble_eq_true rfl, Nat.le_of_ble_eq_true rfl⟩ dX3_passRows_36 (fun H locs hP hD hS => ?_)
          refine lv_bipush (v := (48 : Int32)) hx hb dX3_passRows_39 (by decide) ?_
          refine lv_isub hx hb dX3_passRows_41 ?_
          refine lv_istore (lv' := [(6, .int (r_15 - (48 : Int32))), (0, .ref (a 23)), (1, .int y1), (2, .int y2), (3, .int y3), (4, .int y4), (5, .int y5)]) hx hb dX3_passRows_42 hl (by decide) rfl (fun ls hl => ?_)
          refine lv_iload hx hb dX3_passRows_44 (lv_at hl 0 rfl) ?_
          refine lv_iconst (v := (1 : Int32)) hx hb dX3_passRows_46 (by decide) ?_
          refine lv_icmp_lt (tgt := 100) hx hb dX3_passRows_47 (by decide) (fun hc_17 => ?_) (fun hc_17 => ?_)
          · have hf := pe_t hf hc_17
            exact w_100 v3_next y3 y4 H locs ls hf hP hD hS (lv_sub hl [1, 4, 5] rfl)
          · have hf := pe_f hf hc_17
            refine lv_iload hx hb dX3_passRows_50 (lv_at hl 0 rfl) ?_
            refine lv_iload_n hx hb dX3_passRows_52 rfl (lv_at hl 3 rfl) ?_
            refine lv_icmp_gt (tgt := 100) hx hb dX3_passRows_53 (by decide) (fun hc_18 => ?_) (fun hc_18 => ?_)
            · have hf := pe_t hf hc_18
              exact w_100 v3_next y3 y4 H locs ls hf hP hD hS (lv_sub hl [1, 4, 5] rfl)
            · have hf := pe_f hf hc_18
              refine lv_iload_n hx hb dX3_passRows_56 rfl (lv_at hl 4 rfl) ?_
              refine lv_iload hx hb dX3_passRows_57 (lv_at hl 0 rfl) ?_
              refine lv_iadd hx hb dX3_passRows_59 ?_
              refine lv_iload_n hx hb dX3_passRows_60 rfl (lv_at hl 2 rfl) ?_
              refine lv_icmp_le (tgt := 67) hx hb dX3_passRows_61 (by decide) (fun hc_19 => ?_) (fun hc_19 => ?_)
              · have hf := pe_t hf hc_19
                refine lv_iload hx hb dX3_passRows_67 (lv_at hl 5 rfl) ?_
                refine lv_iload hx hb dX3_passRows_69 (lv_at hl 0 rfl) ?_
                obtain ⟨r_20, hk_21, hf⟩ := pe_1 hf
                refine xw_i (As := [.int y4, .int (r_15 - (48 : Int32))]) (rest := []) Cx hP hD hS hl (xq_none _) (c_X7_keyWith l D cyI cyJ G H.size y4 (r_15 - (48 : Int32)) r_20 hk_21) pk_X7_keyWith mw_5_39 ⟨rfl, rfl, Nat.le_of_ble_eq_true rfl, Nat.le_of_ble_eq_true rfl⟩ rfl rfl (Nat.le_of_ble_eq_true rfl) ⟨Nat.le_of_ble_eq_true rfl, Nat.le_of_ble_eq_true rfl⟩ dX3_passRows_71 (fun H locs hP hD hS => ?_)
                refine lv_istore (lv' := [(4, .int r_20), (6, .int (r_15 - (48 : Int32))), (0, .ref (a 23)), (1, .int y1), (2, .int y2), (3, .int y3), (5, .int y5)]) hx hb dX3_passRows_74 hl (by decide) rfl (fun ls hl => ?_)
                refine lv_iload_n hx hb dX3_passRows_76 rfl (lv_at hl 5 rfl) ?_
                refine lv_iload hx hb dX3_passRows_77 (lv_at hl 1 rfl) ?_
                refine lv_iadd hx hb dX3_passRows_79 ?_
                refine lv_istore_n (lv' := [(3, .int (y3 + (r_15 - (48 : Int32)))), (4, .int r_20), (6, .int (r_15 - (48 : Int32))), (0, .ref (a 23)), (1, .int y1), (2, .int y2), (5, .int y5)]) hx hb dX3_passRows_80 rfl hl (by decide) rfl (fun ls hl => ?_)
                refine lv_iload hx hb dX3_passRows_81 (lv_at hl 2 rfl) ?_
                refine lv_istore_n (lv' := [(2, .int (r_15 - (48 : Int32))), (3, .int (y3 + (r_15 - (48 : Int32)))), (4, .int r_20), (6, .int (r_15 - (48 : Int32))), (0, .ref (a 23)), (1, .int y1), (5, .int y5)]) hx hb dX3_passRows_83 rfl hl (by decide) rfl (fun ls hl => ?_)
                refine lv_aload_n hx hb dX3_passRows_84 rfl (lv_at hl 4 rfl) ?_
                refine lv_dup hx hb dX3_passRows_85 rfl ?_
                refine va_get (ci := 3) (v := .int v3_next) hx hb hts wX3_in hown hK hP 0 rfl rfl 4 (by decide) (hts _ mw_2_46) (fun _ h9 => h9) rfl dX3_passRows_86 ?_
                refine lv_iconst (v := (1 : Int32)) hx hb dX3_passRows_89 (by decide) ?_
                refine lv_iadd hx hb dX3_passRows_90 ?_
                refine va_put (ci := 3) (v := .int (v3_next + (1 : Int32))) (ty := .int) hx hb hts wX3_in tyX3 tyX3_ok nmX3 hown hK hP hD hS 0 rfl rfl 4 (by decide) (hts _ mw_2_46) (fun _ h9 => h9) rfl (by decide +kernel) rfl rfl (Nat.le_of_ble_eq_true rfl) dX3_passRows_91 (fun H locs hP hD hS => ?_)
                have hP : va_P D xcl (wd_X3 a cyI cyJ v3_letters v3_count (v3_next + (1 : Int32)) v3_size v7_rows v7_lengths v7_sizes v7_rests v7_orders v8_sizes v8_coefficients v8_undoneSums v8_undos v8_nextUndo v8_imageTaken) H := hP
                have hD : va_D A (wd_X3 a cyI cyJ v3_letters v3_count (v3_next + (1 : Int32)) v3_size v7_rows v7_lengths v7_sizes v7_rests v7_orders v8_sizes v8_coefficients v8_undoneSums v8_undos v8_nextUndo v8_imageTaken) := hD
                refine lv_iinc (v := (y5 + (1 : Int32))) (lv' := [(5, .int (y5 + (1 : Int32))), (2, .int (r_15 - (48 : Int32))), (3, .int (y3 + (r_15 - (48 : Int32)))), (4, .int r_20), (6, .int (r_15 - (48 : Int32))), (0, .ref (a 23)), (1, .int y1)]) hx hb dX3_passRows_94 hl (k := 6) rfl rfl (by decide) rfl (fun ls hl => ?_)
                refine lv_goto (tgt := 28) hx hb dX3_passRows_97 (by decide) ?_
                exact w_28 (v3_next + (1 : Int32)) y1 (r_15 - (48 : Int32)) (y3 + (r_15 - (48 : Int32))) r_20 (y5 + (1 : Int32)) H locs ls hf hP hD hS (lv_sub hl [5, 6, 1, 2, 3, 0] rfl)
              · have hf := pe_f hf hc_19
                refine lv_goto (tgt := 100) hx hb dX3_passRows_64 (by decide) ?_
                exact w_100 v3_next y3 y4 H locs ls hf hP hD hS (lv_sub hl [1, 4, 5] rfl)
    refine lv_istore_n (lv' := [(1, .int z0), (0, .ref (a 23))]) hx hb dX3_passRows_17 rfl hl (by decide) rfl (fun ls hl => ?_)
    refine lv_iload_n hx hb dX3_passRows_18 rfl (lv_at hl 0 rfl) ?_
    refine lv_istore_n (lv' := [(2, .int z0), (1, .int z0), (0, .ref (a 23))]) hx hb dX3_passRows_19 rfl hl (by decide) rfl (fun ls hl => ?_)
    refine lv_iconst (v := (0 : Int32)) hx hb dX3_passRows_20 (by decide) ?_
    refine lv_istore_n (lv' := [(3, .int (0 : Int32)), (2, .int z0), (1, .int z0), (0, .ref (a 23))]) hx hb dX3_passRows_21 rfl hl (by decide) rfl (fun ls hl => ?_)
    refine lv_iconst (v := (0 : Int32)) hx hb dX3_passRows_22 (by decide) ?_
    refine lv_istore (lv' := [(4, .int (0 : Int32)), (3, .int (0 : Int32)), (2, .int z0), (1, .int z0), (0, .ref (a 23))]) hx hb dX3_passRows_23 hl (by decide) rfl (fun ls hl => ?_)
    refine lv_iconst (v := (0 : Int32)) hx hb dX3_passRows_25 (by decide) ?_
    refine lv_istore (lv' := [(5, .int (0 : Int32)), (4, .int (0 : Int32)), (3, .int (0 : Int32)), (2, .int z0), (1, .int z0), (0, .ref (a 23))]) hx hb dX3_passRows_26 hl (by decide) rfl (fun ls hl => ?_)
    exact w_28 1000 v3_next z0 z0 (0 : Int32) (0 : Int32) (0 : Int32) H locs ls hf hP hD hS (lv_sub hl [5, 4, 3, 2, 1, 0] rfl)
  refine lv_aload_n hx hb dX3_passRows_0 rfl (lv_at hl 0 rfl) ?_
  refine va_get (ci := 3) (v := .int v3_size) hx hb hts wX3_in hown hK hP 0 rfl rfl 5 (by decide) (hts _ mw_2_47) (fun _ h9 => h9) rfl dX3_passRows_1 ?_
  refine lv_iconst (v := (-1 : Int32)) hx hb dX3_passRows_4 (by decide) ?_
  refine lv_icmp_ne (tgt := 13) hx hb dX3_passRows_5 (by decide) (fun hc_22 => ?_) (fun hc_22 => ?_)
  · have hf := pe_f hf hc_22
    refine lv_aload_n hx hb dX3_passRows_13 rfl (lv_at hl 0 rfl) ?_
    refine va_get (ci := 3) (v := .int v3_size) hx hb hts wX3_in hown hK hP 0 rfl rfl 5 (by decide) (hts _ mw_2_47) (fun _ h9 => h9) rfl dX3_passRows_14 ?_
    exact w_17 v3_next v3_size H locs ls hf hP hD hS (lv_sub hl [0] rfl)
  · have hf := pe_t hf hc_22
    refine lv_bipush (v := (8 : Int32)) hx hb dX3_passRows_8 (by decide) ?_
    refine lv_goto (tgt := 17) hx hb dX3_passRows_10 (by decide) ?_
    exact w_17 v3_next (8 : Int32) H locs ls hf hP hD hS (lv_sub hl [0] rfl)
def f_X3_passesTerm_109 (v7_sizes : Nat → Int32) (v3_letters : Nat → Int32) (v3_count : Int32) (v8_sizes : Nat → Int32) (v8_coefficients : Nat → Int32) (v3_next : Int32) (v3_size : Int32) (z0 : Int32) (z1 : Int32) : Option (Int32 × (Nat → Int32) × (Nat → Int32) × Int32 × Int32) := p_b1 (f_X8_addToDraft v8_coefficients z1 z0) (fun v8_coefficients_1 => some ((1 : Int32), v8_sizes, v8_coefficients_1, v3_next, v3_size))
def f_X3_passesTerm_61 (v7_sizes : Nat → Int32) (v3_letters : Nat → Int32) (v3_count : Int32) (v8_sizes : Nat → Int32) (v8_coefficients : Nat → Int32) (v3_next : Int32) (v3_size : Int32) (y1 : Int32) (y2 : Int32) (y3 : Int32) : Option (Int32 × (Nat → Int32) × (Nat → Int32) × Int32 × Int32) := p_b1 (f_X7_sizeOf v7_sizes y3) (fun r_3 => if r_3 = v3_size then (p_b2 (f_X3_passes v3_letters v3_count v3_next (93 : Int32)) (fun r_6 v3_next_7 => if r_6 = 0 then (some ((0 : Int32), v8_sizes, v8_coefficients, v3_next_7, v3_size)) else (p_b1 (f_X7_placeOf v7_sizes y3) (fun r_11 => if y1 = 0 then ((f_X3_passesTerm_109 v7_sizes v3_letters v3_count) v8_sizes v8_coefficients v3_next_7 v3_size y2 r_11) else ((f_X3_passesTerm_109 v7_sizes v3_letters v3_count) v8_sizes v8_coefficients v3_next_7 v3_size (-y2) r_11))))) else (some ((0 : Int32), v8_sizes, v8_coefficients, v3_next, v3_size)))
def f_X3_passesTerm (v7_sizes : Nat → Int32) (v8_sizes : Nat → Int32) (v8_coefficients : Nat → Int32) (v3_letters : Nat → Int32) (v3_count : Int32) (v3_next : Int32) (v3_size : Int32) (x1 : Int32) : Option (Int32 × (Nat → Int32) × (Nat → Int32) × Int32 × Int32) := p_b2 (f_X3_passNumber v3_letters v3_count v3_next) (fun r_14 v3_next_15 => p_b2 (f_X3_passes v3_letters v3_count v3_next_15 (91 : Int32)) (fun r_17 v3_next_18 => if r_17 = 0 then (some ((0 : Int32), v8_sizes, v8_coefficients, v3_next_18, v3_size)) else (p_b2 (f_X3_passRows v3_letters v3_count v3_next_18 v3_size) (fun r_22 v3_next_23 => p_b1 (f_X3_nextLetter v3_letters v3_count v3_next_23) (fun r_25 => if r_25 = (93 : Int32) then (if v3_size = (-1 : Int32) then (p_b1 (f_X7_sizeOf v7_sizes r_22) (fun r_29 => p_b2 (f_X8_beginDraft v8_sizes v8_coefficients r_29) (fun v8_sizes_31 v8_coefficients_32 => (f_X3_passesTerm_61 v7_sizes v3_letters v3_count) v8_sizes_31 v8_coefficients_32 v3_next_23 r_29 x1 r_14 r_22))) else ((f_X3_passesTerm_61 v7_sizes v3_letters v3_count) v8_sizes v8_coefficients v3_next_23 v3_size x1 r_14 r_22)) else ((f_X3_passesTerm_61 v7_sizes v3_letters v3_count) v8_sizes v8_coefficients v3_next_23 v3_size x1 r_14 r_22))))))
set_option maxHeartbeats 4000000 in
set_option maxRecDepth 20000 in
theorem c_X3_passesTerm (l : Launch) (D : va_G) (cyI cyJ : ClassId) (G a : Nat → Nat) (sz : Nat) (v3_letters : Nat → Int32) (v3_count : Int32) (v3_next : Int32) (v3_size : Int32) (v7_rows : Nat → Int32) (v7_lengths : Nat → Int32) (v7_sizes : Nat → Int32) (v7_rests : Nat → Int32) (v7_orders : Nat → Int32) (v8_sizes : Nat → Int32) (v8_coefficients : Nat → Int32) (v8_undoneSums : Nat → Int32) (v8_undos : Int32) (v8_nextUndo : Int32) (v8_imageTaken : Int32) (x1 : Int32) (ro : Int32) (ov8_sizes : Nat → Int32) (ov8_coefficients : Nat → Int32) (ov3_next : Int32) (ov3_size : Int32) (hf : f_X3_passesTerm v7_sizes v8_sizes v8_coefficients v3_letters v3_count v3_next v3_size x1 = some (ro, ov8_sizes, ov8_coefficients, ov3_next, ov3_size)) : xm_z l yX3_passesTerm (Cond.code yX3_passesTerm cX3_passesTerm 4 (some .boolean) :: xg_tbl) { frames := 3, cells := 0, slots := 0, locals := 71 } D xcl [(cyI, .int), (cyJ, .long)] G sz [.ref (a 23), .int x1] (wd_X3 a cyI cyJ v3_letters v3_count v3_next v3_size v7_rows v7_lengths v7_sizes v7_rests v7_orders v8_sizes v8_coefficients v8_undoneSums v8_undos v8_nextUndo v8_imageTaken) (wd_X3 a cyI cyJ v3_letters v3_count ov3_next ov3_size v7_rows v7_lengths v7_sizes v7_rests v7_orders ov8_sizes ov8_coefficients v8_undoneSums v8_undos v8_nextUndo v8_imageTaken) ro := by
  refine xm_of_z (own := RX3) (by decide) rfl rfl (Nat.le_of_ble_eq_true rfl) ?_
  intro p e s m args below meth c ls Q A hQ hAe hin Cx hsz hP hD hS hl
  have Cx1 := Cx
  obtain ⟨⟨hx, hb, hml, hown, hts⟩, hr, hlocks, hK, hA, hT⟩ := Cx1
  have hl : lv_has ls 4 [(0, .ref (a 23)), (1, .int x1)] := hl
  obtain ⟨H, eH⟩ : ∃ H, H = s.heap := ⟨_, rfl⟩
  obtain ⟨locs, eL⟩ : ∃ L : List Loc, L = [] := ⟨_, rfl⟩
  rw [← eH] at hP
  have hS : va_S A s.heap H locs := by rw [eH, eL]; exact hS
  suffices hgo : W p l e { frames := 3, cells := 0, slots := 0, locals := 71 } s m args below meth c H locs 0 0 Q (F0 m 0 ls []) by rw [eH, eL] at hgo; exact hgo
  clear eH eL
  unfold f_X3_passesTerm at hf
  have w_61 : ∀ (v8_sizes : Nat → Int32) (v8_coefficients : Nat → Int32) (v3_next : Int32) (v3_size : Int32) (y1 : Int32) (y2 : Int32) (y3 : Int32) (H : Heap) (locs : List Loc) (ls : Array Slot), (f_X3_passesTerm_61 v7_sizes v3_letters v3_count) v8_sizes v8_coefficients v3_next v3_size y1 y2 y3 = some (ro, ov8_sizes, ov8_coefficients, ov3_next, ov3_size) → va_P D xcl (wd_X3 a cyI cyJ v3_letters v3_count v3_next v3_size v7_rows v7_lengths v7_sizes v7_rests v7_orders v8_sizes v8_coefficients v8_undoneSums v8_undos v8_nextUndo v8_imageTaken) H → va_D A (wd_X3 a cyI cyJ v3_letters v3_count v3_next v3_size v7_rows v7_lengths v7_sizes v7_rests v7_orders v8_sizes v8_coefficients v8_undoneSums v8_undos v8_nextUndo v8_imageTaken) → va_S A s.heap H locs → lv_has ls 4 [(0, .ref (a 23)), (1, .int y1), (2, .int y2), (3, .int y3)] → W p l e { frames := 3, cells := 0, slots := 0, locals := 71 } s m args below meth c H locs 0 0 Q (F0 m 61 ls []) := by
    intro v8_sizes v8_coefficients v3_next v3_size y1 y2 y3 H locs ls hf hP hD hS hl
    unfold f_X3_passesTerm_61 at hf
    have w_109 : ∀ (v8_sizes : Nat → Int32) (v8_coefficients : Nat → Int32) (v3_next : Int32) (v3_size : Int32) (z0 : Int32) (z1 : Int32) (H : Heap) (locs : List Loc) (ls : Array Slot), (f_X3_passesTerm_109 v7_sizes v3_letters v3_count) v8_sizes v8_coefficients v3_next v3_size z0 z1 = some (ro, ov8_sizes, ov8_coefficients, ov3_next, ov3_size) → va_P D xcl (wd_X3 a cyI cyJ v3_letters v3_count v3_next v3_size v7_rows v7_lengths v7_sizes v7_rests v7_orders v8_sizes v8_coefficients v8_undoneSums v8_undos v8_nextUndo v8_imageTaken) H → va_D A (wd_X3 a cyI cyJ v3_letters v3_count v3_next v3_size v7_rows v7_lengths v7_sizes v7_rests v7_orders v8_sizes v8_coefficients v8_undoneSums v8_undos v8_nextUndo v8_imageTaken) → va_S A s.heap H locs → lv_has ls 4 [] → W p l e { frames := 3, cells := 0, slots := 0, locals := 71 } s m args below meth c H locs 0 0 Q (F0 m 109 ls [.int z0, .int z1, .ref (a 17)]) := by
      intro v8_sizes v8_coefficients v3_next v3_size z0 z1 H locs ls hf hP hD hS hl
      unfold f_X3_passesTerm_109 at hf
      obtain ⟨v8_coefficients_34, hk_35, hf⟩ := pe_1 hf
      refine xv_v (As := [.int z1, .int z0]) (rest := []) (q0 := 0) (ci := 8) Cx hP hD hS hl (pl_X3_X8 a cyI cyJ v3_letters v3_count v3_next v3_size v7_rows v7_lengths v7_sizes v7_rests v7_orders v8_sizes v8_coefficients v8_undoneSums v8_undos v8_nextUndo v8_imageTaken v8_sizes v8_coefficients_34 v8_undoneSums v8_undos v8_nextUndo v8_imageTaken) (c_X8_addToDraft l D cyI cyJ G a H.size v8_sizes v8_coefficients v8_undoneSums v8_undos v8_nextUndo v8_imageTaken z1 z0 v8_coefficients_34 hk_35) pk_X8_addToDraft mw_5_44 ⟨rfl, rfl, Nat.le_of_ble_eq_true rfl, Nat.le_of_ble_eq_true rfl⟩ rfl rfl rfl rfl rfl (Nat.le_of_ble_eq_true rfl) ⟨Nat.le_of_ble_eq_true rfl, Nat.le_of_ble_eq_true rfl⟩ dX3_passesTerm_109 (fun H locs hP hD hS => ?_)
      refine lv_iconst (v := (1 : Int32)) hx hb dX3_passesTerm_112 (by decide) ?_
      obtain ⟨rfl, rfl, rfl, rfl, rfl⟩ := po_5 hf
      rw [← hQ]; exact xe_zret Cx rfl rfl hP hD hS dX3_passesTerm_113
    refine lv_aload_n hx hb dX3_passesTerm_61 rfl (lv_at hl 0 rfl) ?_
    refine va_get (ci := 3) (v := .ref (a 2)) hx hb hts wX3_in hown hK hP 0 rfl rfl 0 (by decide) (hts _ mw_2_42) (fun _ h9 => h9) rfl dX3_passesTerm_62 ?_
    refine lv_iload_n hx hb dX3_passesTerm_65 rfl (lv_at hl 3 rfl) ?_
    obtain ⟨r_36, hk_37, hf⟩ := pe_1 hf
    refine xv_i (As := [.int y3]) (rest := []) (q0 := 0) (ci := 7) Cx hP hD hS hl (pl_X3_X7 a cyI cyJ v3_letters v3_count v3_next v3_size v7_rows v7_lengths v7_sizes v7_rests v7_orders v8_sizes v8_coefficients v8_undoneSums v8_undos v8_nextUndo v8_imageTaken v7_rows v7_lengths v7_sizes v7_rests v7_orders) (c_X7_sizeOf l D cyI cyJ G a H.size v7_rows v7_lengths v7_sizes v7_rests v7_orders y3 r_36 hk_37) pk_X7_sizeOf mw_5_41 ⟨rfl, rfl, Nat.le_of_ble_eq_true rfl, Nat.le_of_ble_eq_true rfl⟩ rfl rfl rfl rfl rfl (Nat.le_of_ble_eq_true rfl) ⟨Nat.le_of_ble_eq_true rfl, Nat.le_of_ble_eq_true rfl⟩ dX3_passesTerm_66 (fun H locs hP hD hS => ?_)
    refine lv_aload_n hx hb dX3_passesTerm_69 rfl (lv_at hl 0 rfl) ?_
    refine va_get (ci := 3) (v := .int v3_size) hx hb hts wX3_in hown hK hP 0 rfl rfl 5 (by decide) (hts _ mw_2_47) (fun _ h9 => h9) rfl dX3_passesTerm_70 ?_
    refine lv_icmp_ne (tgt := 85) hx hb dX3_passesTerm_73 (by decide) (fun hc_38 => ?_) (fun hc_38 => ?_)
    · have hf := pe_f hf hc_38
      refine lv_iconst (v := (0 : Int32)) hx hb dX3_passesTerm_85 (by decide) ?_
      obtain ⟨rfl, rfl, rfl, rfl, rfl⟩ := po_5 hf
      rw [← hQ]; exact xe_zret Cx rfl rfl hP hD hS dX3_passesTerm_86
    · have hf := pe_t hf hc_38
      refine lv_aload_n hx hb dX3_passesTerm_76 rfl (lv_at hl 0 rfl) ?_
      refine lv_bipush (v := (93 : Int32)) hx hb dX3_passesTerm_77 (by decide) ?_
      obtain ⟨r_39, v3_next_40, hk_41, hf⟩ := pe_2 hf
      refine xv_z (As := [.int (93 : Int32)]) (rest := []) (q0 := 0) (ci := 3) Cx hP hD hS hl (pl_X3_X3 a cyI cyJ v3_letters v3_count v3_next v3_size v7_rows v7_lengths v7_sizes v7_rests v7_orders v8_sizes v8_coefficients v8_undoneSums v8_undos v8_nextUndo v8_imageTaken v3_letters v3_count v3_next_40 v3_size v7_rows v7_lengths v7_sizes v7_rests v7_orders v8_sizes v8_coefficients v8_undoneSums v8_undos v8_nextUndo v8_imageTaken) (c_X3_passes l D cyI cyJ G a H.size v3_letters v3_count v3_next v3_size v7_rows v7_lengths v7_sizes v7_rests v7_orders v8_sizes v8_coefficients v8_undoneSums v8_undos v8_nextUndo v8_imageTaken (93 : Int32) r_39 v3_next_40 hk_41) pk_X3_passes mw_5_19 ⟨rfl, rfl, Nat.le_of_ble_eq_true rfl, Nat.le_of_ble_eq_true rfl⟩ rfl rfl rfl rfl rfl (Nat.le_of_ble_eq_true rfl) ⟨Nat.le_of_ble_eq_true rfl, Nat.le_of_ble_eq_true rfl⟩ dX3_passesTerm_79 (fun H locs hn_42 hP hD hS => ?_)
      refine lv_if_ne (tgt := 87) hx hb dX3_passesTerm_82 (by decide) (fun hc_43 => ?_) (fun hc_43 => ?_)
      · have hf := pe_f hf hc_43
        refine lv_aload_n hx hb dX3_passesTerm_87 rfl (lv_at hl 0 rfl) ?_
        refine va_get (ci := 3) (v := .ref (a 17)) hx hb hts wX3_in hown hK hP 0 rfl rfl 1 (by decide) (hts _ mw_2_43) (fun _ h9 => h9) rfl dX3_passesTerm_88 ?_
        refine lv_aload_n hx hb dX3_passesTerm_91 rfl (lv_at hl 0 rfl) ?_
        refine va_get (ci := 3) (v := .ref (a 2)) hx hb hts wX3_in hown hK hP 0 rfl rfl 0 (by decide) (hts _ mw_2_42) (fun _ h9 => h9) rfl dX3_passesTerm_92 ?_
        refine lv_iload_n hx hb dX3_passesTerm_95 rfl (lv_at hl 3 rfl) ?_
        obtain ⟨r_44, hk_45, hf⟩ := pe_1 hf
        refine xv_i (As := [.int y3]) (rest := [.ref (a 17)]) (q0 := 0) (ci := 7) Cx hP hD hS hl (pl_X3_X7 a cyI cyJ v3_letters v3_count v3_next_40 v3_size v7_rows v7_lengths v7_sizes v7_rests v7_orders v8_sizes v8_coefficients v8_undoneSums v8_undos v8_nextUndo v8_imageTaken v7_rows v7_lengths v7_sizes v7_rests v7_orders) (c_X7_placeOf l D cyI cyJ G a H.size v7_rows v7_lengths v7_sizes v7_rests v7_orders y3 r_44 hk_45) pk_X7_placeOf mw_5_43 ⟨rfl, rfl, Nat.le_of_ble_eq_true rfl, Nat.le_of_ble_eq_true rfl⟩ rfl rfl rfl rfl rfl (Nat.le_of_ble_eq_true rfl) ⟨Nat.le_of_ble_eq_true rfl, Nat.le_of_ble_eq_true rfl⟩ dX3_passesTerm_96 (fun H locs hP hD hS => ?_)
        refine lv_iload_n hx hb dX3_passesTerm_99 rfl (lv_at hl 1 rfl) ?_
        refine lv_if_eq (tgt := 108) hx hb dX3_passesTerm_100 (by decide) (fun hc_46 => ?_) (fun hc_46 => ?_)
        · have hf := pe_t hf hc_46
          refine lv_iload_n hx hb dX3_passesTerm_108 rfl (lv_at hl 2 rfl) ?_
          exact w_109 v8_sizes v8_coefficients v3_next_40 v3_size y2 r_44 H locs ls hf hP hD hS (lv_sub hl [] rfl)
        · have hf := pe_f hf hc_46
          refine lv_iload_n hx hb dX3_passesTerm_103 rfl (lv_at hl 2 rfl) ?_
          refine lv_ineg hx hb dX3_passesTerm_104 ?_
          refine lv_goto (tgt := 109) hx hb dX3_passesTerm_105 (by decide) ?_
          exact w_109 v8_sizes v8_coefficients v3_next_40 v3_size (-y2) r_44 H locs ls hf hP hD hS (lv_sub hl [] rfl)
      · have hf := pe_t hf hc_43
        refine lv_iconst (v := (0 : Int32)) hx hb dX3_passesTerm_85 (by decide) ?_
        obtain ⟨rfl, rfl, rfl, rfl, rfl⟩ := po_5 hf
        rw [← hQ]; exact xe_zret Cx rfl rfl hP hD hS dX3_passesTerm_86
  refine lv_aload_n hx hb dX3_passesTerm_0 rfl (lv_at hl 0 rfl) ?_
  obtain ⟨r_47, v3_next_48, hk_49, hf⟩ := pe_2 hf
  refine xv_i (As := []) (rest := []) (q0 := 0) (ci := 3) Cx hP hD hS hl (pl_X3_X3 a cyI cyJ v3_letters v3_count v3_next v3_size v7_rows v7_lengths v7_sizes v7_rests v7_orders v8_sizes v8_coefficients v8_undoneSums v8_undos v8_nextUndo v8_imageTaken v3_letters v3_count v3_next_48 v3_size v7_rows v7_lengths v7_sizes v7_rests v7_orders v8_sizes v8_coefficients v8_undoneSums v8_undos v8_nextUndo v8_imageTaken) (c_X3_passNumber l D cyI cyJ G a H.size v3_letters v3_count v3_next v3_size v7_rows v7_lengths v7_sizes v7_rests v7_orders v8_sizes v8_coefficients v8_undoneSums v8_undos v8_nextUndo v8_imageTaken r_47 v3_next_48 hk_49) pk_X3_passNumber mw_5_31 ⟨rfl, rfl, Nat.le_of_ble_eq_true rfl, Nat.le_of_ble_eq_true rfl⟩ rfl rfl rfl rfl rfl (Nat.le_of_ble_eq_true rfl) ⟨Nat.le_of_ble_eq_true rfl, Nat.le_of_ble_eq_true rfl⟩ dX3_passesTerm_1 (fun H locs hP hD hS => ?_)
  refine lv_istore_n (lv' := [(2, .int r_47), (0, .ref (a 23)), (1, .int x1)]) hx hb dX3_passesTerm_4 rfl hl (by decide) rfl (fun ls hl => ?_)
  refine lv_aload_n hx hb dX3_passesTerm_5 rfl (lv_at hl 1 rfl) ?_
  refine lv_bipush (v := (91 : Int32)) hx hb dX3_passesTerm_6 (by decide) ?_
  obtain ⟨r_50, v3_next_51, hk_52, hf⟩ := pe_2 hf
  refine xv_z (As := [.int (91 : Int32)]) (rest := []) (q0 := 0) (ci := 3) Cx hP hD hS hl (pl_X3_X3 a cyI cyJ v3_letters v3_count v3_next_48 v3_size v7_rows v7_lengths v7_sizes v7_rests v7_orders v8_sizes v8_coefficients v8_undoneSums v8_undos v8_nextUndo v8_imageTaken v3_letters v3_count v3_next_51 v3_size v7_rows v7_lengths v7_sizes v7_rests v7_orders v8_sizes v8_coefficients v8_undoneSums v8_undos v8_nextUndo v8_imageTaken) (c_X3_passes l D cyI cyJ G a H.size v3_letters v3_count v3_next_48 v3_size v7_rows v7_lengths v7_sizes v7_rests v7_orders v8_sizes v8_coefficients v8_undoneSums v8_undos v8_nextUndo v8_imageTaken (91 : Int32) r_50 v3_next_51 hk_52) pk_X3_passes mw_5_19 ⟨rfl, rfl, Nat.le_of_ble_eq_true rfl, Nat.le_of_ble_eq_true rfl⟩ rfl rfl rfl rfl rfl (Nat.le_of_ble_eq_true rfl) ⟨Nat.le_of_ble_eq_true rfl, Nat.le_of_ble_eq_true rfl⟩ dX3_passesTerm_8 (fun H locs hn_53 hP hD hS => ?_)
  refine lv_if_ne (tgt := 16) hx hb dX3_passesTerm_11 (by decide) (fun hc_54 => ?_) (fun hc_54 => ?_)
  · have hf := pe_f hf hc_54
    refine lv_aload_n hx hb dX3_passesTerm_16 rfl (lv_at hl 1 rfl) ?_
    obtain ⟨r_55, v3_next_56, hk_57, hf⟩ := pe_2 hf
    refine xv_i (As := []) (rest := []) (q0 := 0) (ci := 3) Cx hP hD hS hl (pl_X3_X3 a cyI cyJ v3_letters v3_count v3_next_51 v3_size v7_rows v7_lengths v7_sizes v7_rests v7_orders v8_sizes v8_coefficients v8_undoneSums v8_undos v8_nextUndo v8_imageTaken v3_letters v3_count v3_next_56 v3_size v7_rows v7_lengths v7_sizes v7_rests v7_orders v8_sizes v8_coefficients v8_undoneSums v8_undos v8_nextUndo v8_imageTaken) (c_X3_passRows l D cyI cyJ G a H.size v3_letters v3_count v3_next_51 v3_size v7_rows v7_lengths v7_sizes v7_rests v7_orders v8_sizes v8_coefficients v8_undoneSums v8_undos v8_nextUndo v8_imageTaken r_55 v3_next_56 hk_57) pk_X3_passRows mw_5_35 ⟨rfl, rfl, Nat.le_of_ble_eq_true rfl, Nat.le_of_ble_eq_true rfl⟩ rfl rfl rfl rfl rfl (Nat.le_of_ble_eq_true rfl) ⟨Nat.le_of_ble_eq_true rfl, Nat.le_of_ble_eq_true rfl⟩ dX3_passesTerm_17 (fun H locs hP hD hS => ?_)
    refine lv_istore_n (lv' := [(3, .int r_55), (2, .int r_47), (0, .ref (a 23)), (1, .int x1)]) hx hb dX3_passesTerm_20 rfl hl (by decide) rfl (fun ls hl => ?_)
    refine lv_aload_n hx hb dX3_passesTerm_21 rfl (lv_at hl 2 rfl) ?_
    obtain ⟨r_58, hk_59, hf⟩ := pe_1 hf
    refine xv_i (As := []) (rest := []) (q0 := 0) (ci := 3) Cx hP hD hS hl (pl_X3_X3 a cyI cyJ v3_letters v3_count v3_next_56 v3_size v7_rows v7_lengths v7_sizes v7_rests v7_orders v8_sizes v8_coefficients v8_undoneSums v8_undos v8_nextUndo v8_imageTaken v3_letters v3_count v3_next_56 v3_size v7_rows v7_lengths v7_sizes v7_rests v7_orders v8_sizes v8_coefficients v8_undoneSums v8_undos v8_nextUndo v8_imageTaken) (c_X3_nextLetter l D cyI cyJ G a H.size v3_letters v3_count v3_next_56 v3_size v7_rows v7_lengths v7_sizes v7_rests v7_orders v8_sizes v8_coefficients v8_undoneSums v8_undos v8_nextUndo v8_imageTaken r_58 hk_59) pk_X3_nextLetter mw_5_23 ⟨rfl, rfl, Nat.le_of_ble_eq_true rfl, Nat.le_of_ble_eq_true rfl⟩ rfl rfl rfl rfl rfl (Nat.le_of_ble_eq_true rfl) ⟨Nat.le_of_ble_eq_true rfl, Nat.le_of_ble_eq_true rfl⟩ dX3_passesTerm_22 (fun H locs hP hD hS => ?_)
    refine lv_bipush (v := (93 : Int32)) hx hb dX3_passesTerm_25 (by decide) ?_
    refine lv_icmp_ne (tgt := 61) hx hb dX3_passesTerm_27 (by decide) (fun hc_60 => ?_) (fun hc_60 => ?_)
    · have hf := pe_f hf hc_60
      exact w_61 v8_sizes v8_coefficients v3_next_56 v3_size x1 r_47 r_55 H locs ls hf hP hD hS (lv_sub hl [2, 3, 1, 0] rfl)
    · have hf := pe_t hf hc_60
      refine lv_aload_n hx hb dX3_passesTerm_30 rfl (lv_at hl 2 rfl) ?_
      refine va_get (ci := 3) (v := .int v3_size) hx hb hts wX3_in hown hK hP 0 rfl rfl 5 (by decide) (hts _ mw_2_47) (fun _ h9 => h9) rfl dX3_passesTerm_31 ?_
      refine lv_iconst (v := (-1 : Int32)) hx hb dX3_passesTerm_34 (by decide) ?_
      refine lv_icmp_ne (tgt := 61) hx hb dX3_passesTerm_35 (by decide) (fun hc_61 => ?_) (fun hc_61 => ?_)
      · have hf := pe_f hf hc_61
        exact w_61 v8_sizes v8_coefficients v3_next_56 v3_size x1 r_47 r_55 H locs ls hf hP hD hS (lv_sub hl [2, 3, 1, 0] rfl)
      · have hf := pe_t hf hc_61
        refine lv_aload_n hx hb dX3_passesTerm_38 rfl (lv_at hl 2 rfl) ?_
        refine lv_aload_n hx hb dX3_passesTerm_39 rfl (lv_at hl 2 rfl) ?_
        refine va_get (ci := 3) (v := .ref (a 2)) hx hb hts wX3_in hown hK hP 0 rfl rfl 0 (by decide) (hts _ mw_2_42) (fun _ h9 => h9) rfl dX3_passesTerm_40 ?_
        refine lv_iload_n hx hb dX3_passesTerm_43 rfl (lv_at hl 0 rfl) ?_
        obtain ⟨r_62, hk_63, hf⟩ := pe_1 hf
        refine xv_i (As := [.int r_55]) (rest := [.ref (a 23)]) (q0 := 0) (ci := 7) Cx hP hD hS hl (pl_X3_X7 a cyI cyJ v3_letters v3_count v3_next_56 v3_size v7_rows v7_lengths v7_sizes v7_rests v7_orders v8_sizes v8_coefficients v8_undoneSums v8_undos v8_nextUndo v8_imageTaken v7_rows v7_lengths v7_sizes v7_rests v7_orders) (c_X7_sizeOf l D cyI cyJ G a H.size v7_rows v7_lengths v7_sizes v7_rests v7_orders r_55 r_62 hk_63) pk_X7_sizeOf mw_5_41 ⟨rfl, rfl, Nat.le_of_ble_eq_true rfl, Nat.le_of_ble_eq_true rfl⟩ rfl rfl rfl rfl rfl (Nat.le_of_ble_eq_true rfl) ⟨Nat.le_of_ble_eq_true rfl, Nat.le_of_ble_eq_true rfl⟩ dX3_passesTerm_44 (fun H locs hP hD hS => ?_)
        refine va_put (ci := 3) (v := .int r_62) (ty := .int) hx hb hts wX3_in tyX3 tyX3_ok nmX3 hown hK hP hD hS 0 rfl rfl 5 (by decide) (hts _ mw_2_47) (fun _ h9 => h9) rfl (by decide +kernel) rfl rfl (Nat.le_of_ble_eq_true rfl) dX3_passesTerm_47 (fun H locs hP hD hS => ?_)
        have hP : va_P D xcl (wd_X3 a cyI cyJ v3_letters v3_count v3_next_56 r_62 v7_rows v7_lengths v7_sizes v7_rests v7_orders v8_sizes v8_coefficients v8_undoneSums v8_undos v8_nextUndo v8_imageTaken) H := hP
        have hD : va_D A (wd_X3 a cyI cyJ v3_letters v3_count v3_next_56 r_62 v7_rows v7_lengths v7_sizes v7_rests v7_orders v8_sizes v8_coefficients v8_undoneSums v8_undos v8_nextUndo v8_imageTaken) := hD
        refine lv_aload_n hx hb dX3_passesTerm_50 rfl (lv_at hl 2 rfl) ?_
        refine va_get (ci := 3) (v := .ref (a 17)) hx hb hts wX3_in hown hK hP 0 rfl rfl 1 (by decide) (hts _ mw_2_43) (fun _ h9 => h9) rfl dX3_passesTerm_51 ?_
        refine lv_aload_n hx hb dX3_passesTerm_54 rfl (lv_at hl 2 rfl) ?_
        refine va_get (ci := 3) (v := .int r_62) hx hb hts wX3_in hown hK hP 0 rfl rfl 5 (by decide) (hts _ mw_2_47) (fun _ h9 => h9) rfl dX3_passesTerm_55 ?_
        obtain ⟨v8_sizes_64, v8_coefficients_65, hk_66, hf⟩ := pe_2 hf
        refine xv_v (As := [.int r_62]) (rest := []) (q0 := 0) (ci := 8) Cx hP hD hS hl (pl_X3_X8 a cyI cyJ v3_letters v3_count v3_next_56 r_62 v7_rows v7_lengths v7_sizes v7_rests v7_orders v8_sizes v8_coefficients v8_undoneSums v8_undos v8_nextUndo v8_imageTaken v8_sizes_64 v8_coefficients_65 v8_undoneSums v8_undos v8_nextUndo v8_imageTaken) (c_X8_beginDraft l D cyI cyJ G a H.size v8_sizes v8_coefficients v8_undoneSums v8_undos v8_nextUndo v8_imageTaken r_62 v8_sizes_64 v8_coefficients_65 hk_66) pk_X8_beginDraft mw_5_42 ⟨rfl, rfl, Nat.le_of_ble_eq_true rfl, Nat.le_of_ble_eq_true rfl⟩ rfl rfl rfl rfl rfl (Nat.le_of_ble_eq_true rfl) ⟨Nat.le_of_ble_eq_true rfl, Nat.le_of_ble_eq_true rfl⟩ dX3_passesTerm_58 (fun H locs hP hD hS => ?_)
        exact w_61 v8_sizes_64 v8_coefficients_65 v3_next_56 r_62 x1 r_47 r_55 H locs ls hf hP hD hS (lv_sub hl [2, 3, 1, 0] rfl)
  · have hf := pe_t hf hc_54
    refine lv_iconst (v := (0 : Int32)) hx hb dX3_passesTerm_14 (by decide) ?_
    obtain ⟨rfl, rfl, rfl, rfl, rfl⟩ := po_5 hf
    rw [← hQ]; exact xe_zret Cx rfl rfl hP hD hS dX3_passesTerm_15
def gf_X3_readToDraft_19 (K_19 : (Nat → Int32) → (Nat → Int32) → Int32 → Int32 → Int32 → Int32 → Option (Int32 × (Nat → Int32) × (Nat → Int32) × Int32 × Int32)) (v7_sizes : Nat → Int32) (v3_letters : Nat → Int32) (v3_count : Int32) (v8_sizes : Nat → Int32) (v8_coefficients : Nat → Int32) (v3_next : Int32) (v3_size : Int32) (y1 : Int32) (y2 : Int32) : Option (Int32 × (Nat → Int32) × (Nat → Int32) × Int32 × Int32) := if (72 : Int32) ≤ y2 then (some (v3_next, v8_sizes, v8_coefficients, v3_next, v3_size)) else (p_b5 (f_X3_passesTerm v7_sizes v8_sizes v8_coefficients v3_letters v3_count v3_next v3_size y1) (fun r_2 v8_sizes_3 v8_coefficients_4 v3_next_5 v3_size_6 => if r_2 = 0 then (some (v3_next_5, v8_sizes_3, v8_coefficients_4, v3_next_5, v3_size_6)) else (if v3_next_5 = v3_count then (some ((-1 : Int32), v8_sizes_3, v8_coefficients_4, v3_next_5, v3_size_6)) else (p_b2 (f_X3_passes v3_letters v3_count v3_next_5 (45 : Int32)) (fun r_11 v3_next_12 => if r_11 = 0 then (p_b2 (f_X3_passes v3_letters v3_count v3_next_12 (43 : Int32)) (fun r_16 v3_next_17 => if r_16 = 0 then (some (v3_next_17, v8_sizes_3, v8_coefficients_4, v3_next_17, v3_size_6)) else (K_19 v8_sizes_3 v8_coefficients_4 v3_next_17 v3_size_6 r_11 (y2 + (1 : Int32))))) else (K_19 v8_sizes_3 v8_coefficients_4 v3_next_12 v3_size_6 r_11 (y2 + (1 : Int32))))))))
def f_X3_readToDraft_19 (v7_sizes : Nat → Int32) (v3_letters : Nat → Int32) (v3_count : Int32) : Nat → (Nat → Int32) → (Nat → Int32) → Int32 → Int32 → Int32 → Int32 → Option (Int32 × (Nat → Int32) × (Nat → Int32) × Int32 × Int32)
  | 0 => fun _ _ _ _ _ _ => none
  | n + 1 => gf_X3_readToDraft_19 (f_X3_readToDraft_19 v7_sizes v3_letters v3_count n) v7_sizes v3_letters v3_count
def f_X3_readToDraft (v7_sizes : Nat → Int32) (v8_sizes : Nat → Int32) (v8_coefficients : Nat → Int32) (v3_letters : Nat → Int32) (v3_count : Int32) (v3_next : Int32) (v3_size : Int32) : Option (Int32 × (Nat → Int32) × (Nat → Int32) × Int32 × Int32) := p_b2 (f_X3_passes v3_letters v3_count (0 : Int32) (45 : Int32)) (fun r_21 v3_next_22 => (f_X3_readToDraft_19 v7_sizes v3_letters v3_count 1000) v8_sizes v8_coefficients v3_next_22 (-1 : Int32) r_21 (0 : Int32))
set_option maxHeartbeats 4000000 in
set_option maxRecDepth 20000 in
theorem c_X3_readToDraft (l : Launch) (D : va_G) (cyI cyJ : ClassId) (G a : Nat → Nat) (sz : Nat) (v3_letters : Nat → Int32) (v3_count : Int32) (v3_next : Int32) (v3_size : Int32) (v7_rows : Nat → Int32) (v7_lengths : Nat → Int32) (v7_sizes : Nat → Int32) (v7_rests : Nat → Int32) (v7_orders : Nat → Int32) (v8_sizes : Nat → Int32) (v8_coefficients : Nat → Int32) (v8_undoneSums : Nat → Int32) (v8_undos : Int32) (v8_nextUndo : Int32) (v8_imageTaken : Int32) (ro : Int32) (ov8_sizes : Nat → Int32) (ov8_coefficients : Nat → Int32) (ov3_next : Int32) (ov3_size : Int32) (hf : f_X3_readToDraft v7_sizes v8_sizes v8_coefficients v3_letters v3_count v3_next v3_size = some (ro, ov8_sizes, ov8_coefficients, ov3_next, ov3_size)) : xm_i l yX3_readToDraft (Cond.code yX3_readToDraft cX3_readToDraft 3 (some .int) :: xg_tbl) { frames := 4, cells := 0, slots := 0, locals := 94 } D xcl [(cyI, .int), (cyJ, .long)] G sz [.ref (a 23)] (wd_X3 a cyI cyJ v3_letters v3_count v3_next v3_size v7_rows v7_lengths v7_sizes v7_rests v7_orders v8_sizes v8_coefficients v8_undoneSums v8_undos v8_nextUndo v8_imageTaken) (wd_X3 a cyI cyJ v3_letters v3_count ov3_next ov3_size v7_rows v7_lengths v7_sizes v7_rests v7_orders ov8_sizes ov8_coefficients v8_undoneSums v8_undos v8_nextUndo v8_imageTaken) ro := by
  refine xm_of_i (own := RX3) (by decide) rfl rfl (Nat.le_of_ble_eq_true rfl) ?_
  intro p e s m args below meth c ls Q A hQ hAe hin Cx hsz hP hD hS hl
  have Cx1 := Cx
  obtain ⟨⟨hx, hb, hml, hown, hts⟩, hr, hlocks, hK, hA, hT⟩ := Cx1
  have hl : lv_has ls 3 [(0, .ref (a 23))] := hl
  obtain ⟨H, eH⟩ : ∃ H, H = s.heap := ⟨_, rfl⟩
  obtain ⟨locs, eL⟩ : ∃ L : List Loc, L = [] := ⟨_, rfl⟩
  rw [← eH] at hP
  have hS : va_S A s.heap H locs := by rw [eH, eL]; exact hS
  suffices hgo : W p l e { frames := 4, cells := 0, slots := 0, locals := 94 } s m args below meth c H locs 0 0 Q (F0 m 0 ls []) by rw [eH, eL] at hgo; exact hgo
  clear eH eL
  unfold f_X3_readToDraft at hf
  have w_19 : ∀ (n_19 : Nat) (v8_sizes : Nat → Int32) (v8_coefficients : Nat → Int32) (v3_next : Int32) (v3_size : Int32) (y1 : Int32) (y2 : Int32) (H : Heap) (locs : List Loc) (ls : Array Slot), (f_X3_readToDraft_19 v7_sizes v3_letters v3_count) n_19 v8_sizes v8_coefficients v3_next v3_size y1 y2 = some (ro, ov8_sizes, ov8_coefficients, ov3_next, ov3_size) → va_P D xcl (wd_X3 a cyI cyJ v3_letters v3_count v3_next v3_size v7_rows v7_lengths v7_sizes v7_rests v7_orders v8_sizes v8_coefficients v8_undoneSums v8_undos v8_nextUndo v8_imageTaken) H → va_D A (wd_X3 a cyI cyJ v3_letters v3_count v3_next v3_size v7_rows v7_lengths v7_sizes v7_rests v7_orders v8_sizes v8_coefficients v8_undoneSums v8_undos v8_nextUndo v8_imageTaken) → va_S A s.heap H locs → lv_has ls 3 [(0, .ref (a 23)), (1, .int y1), (2, .int y2)] → W p l e { frames := 4, cells := 0, slots := 0, locals := 94 } s m args below meth c H locs 0 0 Q (F0 m 19 ls []) := by
    intro n_19
    induction n_19 with
    | zero => intro v8_sizes v8_coefficients v3_next v3_size y1 y2 H locs ls hf; exact absurd hf (by intro h9; cases h9)
    | succ n_19 w_19 =>
      intro v8_sizes v8_coefficients v3_next v3_size y1 y2 H locs ls hf hP hD hS hl
      have hf : gf_X3_readToDraft_19 ((f_X3_readToDraft_19 v7_sizes v3_letters v3_count) n_19) v7_sizes v3_letters v3_count v8_sizes v8_coefficients v3_next v3_size y1 y2 = some (ro, ov8_sizes, ov8_coefficients, ov3_next, ov3_size) := hf
      unfold gf_X3_readToDraft_19 at hf
      refine lv_iload_n hx hb dX3_readToDraft_19 rfl (lv_at hl 2 rfl) ?_
      refine lv_bipush (v := (72 : Int32)) hx hb dX3_readToDraft_20 (by decide) ?_
      refine lv_icmp_ge (tgt := 82) hx hb dX3_readToDraft_22 (by decide) (fun hc_25 => ?_) (fun hc_25 => ?_)
      · have hf := pe_t hf hc_25
        refine lv_aload_n hx hb dX3_readToDraft_82 rfl (lv_at hl 0 rfl) ?_
        refine va_get (ci := 3) (v := .int v3_next) hx hb hts wX3_in hown hK hP 0 rfl rfl 4 (by decide) (hts _ mw_2_46) (fun _ h9 => h9) rfl dX3_readToDraft_83 ?_
        obtain ⟨rfl, rfl, rfl, rfl, rfl⟩ := po_5 hf
        rw [← hQ]; exact xe_iret Cx rfl hP hD hS dX3_readToDraft_86
      · have hf := pe_f hf hc_25
        refine lv_aload_n hx hb dX3_readToDraft_25 rfl (lv_at hl 0 rfl) ?_
        refine lv_iload_n hx hb dX3_readToDraft_26 rfl (lv_at hl 1 rfl) ?_
        obtain ⟨r_26, v8_sizes_27, v8_coefficients_28, v3_next_29, v3_size_30, hk_31, hf⟩ := pe_5 hf
        refine xv_z (As := [.int y1]) (rest := []) (q0 := 0) (ci := 3) Cx hP hD hS hl (pl_X3_X3 a cyI cyJ v3_letters v3_count v3_next v3_size v7_rows v7_lengths v7_sizes v7_rests v7_orders v8_sizes v8_coefficients v8_undoneSums v8_undos v8_nextUndo v8_imageTaken v3_letters v3_count v3_next_29 v3_size_30 v7_rows v7_lengths v7_sizes v7_rests v7_orders v8_sizes_27 v8_coefficients_28 v8_undoneSums v8_undos v8_nextUndo v8_imageTaken) (c_X3_passesTerm l D cyI cyJ G a H.size v3_letters v3_count v3_next v3_size v7_rows v7_lengths v7_sizes v7_rests v7_orders v8_sizes v8_coefficients v8_undoneSums v8_undos v8_nextUndo v8_imageTaken y1 r_26 v8_sizes_27 v8_coefficients_28 v3_next_29 v3_size_30 hk_31) pk_X3_passesTerm mw_5_27 ⟨rfl, rfl, Nat.le_of_ble_eq_true rfl, Nat.le_of_ble_eq_true rfl⟩ rfl rfl rfl rfl rfl (Nat.le_of_ble_eq_true rfl) ⟨Nat.le_of_ble_eq_true rfl, Nat.le_of_ble_eq_true rfl⟩ dX3_readToDraft_27 (fun H locs hn_32 hP hD hS => ?_)
        refine lv_if_ne (tgt := 38) hx hb dX3_readToDraft_30 (by decide) (fun hc_33 => ?_) (fun hc_33 => ?_)
        · have hf := pe_f hf hc_33
          refine lv_aload_n hx hb dX3_readToDraft_38 rfl (lv_at hl 0 rfl) ?_
          refine va_get (ci := 3) (v := .int v3_next_29) hx hb hts wX3_in hown hK hP 0 rfl rfl 4 (by decide) (hts _ mw_2_46) (fun _ h9 => h9) rfl dX3_readToDraft_39 ?_
          refine lv_aload_n hx hb dX3_readToDraft_42 rfl (lv_at hl 0 rfl) ?_
          refine va_get (ci := 3) (v := .int v3_count) hx hb hts wX3_in hown hK hP 0 rfl rfl 3 (by decide) (hts _ mw_2_45) (fun _ h9 => h9) rfl dX3_readToDraft_43 ?_
          refine lv_icmp_ne (tgt := 51) hx hb dX3_readToDraft_46 (by decide) (fun hc_34 => ?_) (fun hc_34 => ?_)
          · have hf := pe_f hf hc_34
            refine lv_aload_n hx hb dX3_readToDraft_51 rfl (lv_at hl 0 rfl) ?_
            refine lv_bipush (v := (45 : Int32)) hx hb dX3_readToDraft_52 (by decide) ?_
            obtain ⟨r_35, v3_next_36, hk_37, hf⟩ := pe_2 hf
            refine xv_z (As := [.int (45 : Int32)]) (rest := []) (q0 := 0) (ci := 3) Cx hP hD hS hl (pl_X3_X3 a cyI cyJ v3_letters v3_count v3_next_29 v3_size_30 v7_rows v7_lengths v7_sizes v7_rests v7_orders v8_sizes_27 v8_coefficients_28 v8_undoneSums v8_undos v8_nextUndo v8_imageTaken v3_letters v3_count v3_next_36 v3_size_30 v7_rows v7_lengths v7_sizes v7_rests v7_orders v8_sizes_27 v8_coefficients_28 v8_undoneSums v8_undos v8_nextUndo v8_imageTaken) (c_X3_passes l D cyI cyJ G a H.size v3_letters v3_count v3_next_29 v3_size_30 v7_rows v7_lengths v7_sizes v7_rests v7_orders v8_sizes_27 v8_coefficients_28 v8_undoneSums v8_undos v8_nextUndo v8_imageTaken (45 : Int32) r_35 v3_next_36 hk_37) pk_X3_passes mw_5_19 ⟨rfl, rfl, Nat.le_of_ble_eq_true rfl, Nat.le_of_ble_eq_true rfl⟩ rfl rfl rfl rfl rfl (Nat.le_of_ble_eq_true rfl) ⟨Nat.le_of_ble_eq_true rfl, Nat.le_of_ble_eq_true rfl⟩ dX3_readToDraft_54 (fun H locs hn_38 hP hD hS => ?_)
            refine lv_istore_n (lv' := [(1, .int r_35), (0, .ref (a 23)), (2, .int y2)]) hx hb dX3_readToDraft_57 rfl hl (by decide) rfl (fun ls hl => ?_)
            refine lv_iload_n hx hb dX3_readToDraft_58 rfl (lv_at hl 0 rfl) ?_
            refine lv_if_ne (tgt := 76) hx hb dX3_readToDraft_59 (by decide) (fun hc_39 => ?_) (fun hc_39 => ?_)
            · have hf := pe_f hf hc_39
              refine lv_iinc (v := (y2 + (1 : Int32))) (lv' := [(2, .int (y2 + (1 : Int32))), (1, .int r_35), (0, .ref (a 23))]) hx hb dX3_readToDraft_76 hl (k := 2) rfl rfl (by decide) rfl (fun ls hl => ?_)
              refine lv_goto (tgt := 19) hx hb dX3_readToDraft_79 (by decide) ?_
              exact w_19 v8_sizes_27 v8_coefficients_28 v3_next_36 v3_size_30 r_35 (y2 + (1 : Int32)) H locs ls hf hP hD hS (lv_sub hl [2, 1, 0] rfl)
            · have hf := pe_t hf hc_39
              refine lv_aload_n hx hb dX3_readToDraft_62 rfl (lv_at hl 1 rfl) ?_
              refine lv_bipush (v := (43 : Int32)) hx hb dX3_readToDraft_63 (by decide) ?_
              obtain ⟨r_40, v3_next_41, hk_42, hf⟩ := pe_2 hf
              refine xv_z (As := [.int (43 : Int32)]) (rest := []) (q0 := 0) (ci := 3) Cx hP hD hS hl (pl_X3_X3 a cyI cyJ v3_letters v3_count v3_next_36 v3_size_30 v7_rows v7_lengths v7_sizes v7_rests v7_orders v8_sizes_27 v8_coefficients_28 v8_undoneSums v8_undos v8_nextUndo v8_imageTaken v3_letters v3_count v3_next_41 v3_size_30 v7_rows v7_lengths v7_sizes v7_rests v7_orders v8_sizes_27 v8_coefficients_28 v8_undoneSums v8_undos v8_nextUndo v8_imageTaken) (c_X3_passes l D cyI cyJ G a H.size v3_letters v3_count v3_next_36 v3_size_30 v7_rows v7_lengths v7_sizes v7_rests v7_orders v8_sizes_27 v8_coefficients_28 v8_undoneSums v8_undos v8_nextUndo v8_imageTaken (43 : Int32) r_40 v3_next_41 hk_42) pk_X3_passes mw_5_19 ⟨rfl, rfl, Nat.le_of_ble_eq_true rfl, Nat.le_of_ble_eq_true rfl⟩ rfl rfl rfl rfl rfl (Nat.le_of_ble_eq_true rfl) ⟨Nat.le_of_ble_eq_true rfl, Nat.le_of_ble_eq_true rfl⟩ dX3_readToDraft_65 (fun H locs hn_43 hP hD hS => ?_)
              refine lv_if_ne (tgt := 76) hx hb dX3_readToDraft_68 (by decide) (fun hc_44 => ?_) (fun hc_44 => ?_)
              · have hf := pe_f hf hc_44
                refine lv_iinc (v := (y2 + (1 : Int32))) (lv' := [(2, .int (y2 + (1 : Int32))), (1, .int r_35), (0, .ref (a 23))]) hx hb dX3_readToDraft_76 hl (k := 2) rfl rfl (by decide) rfl (fun ls hl => ?_)
                refine lv_goto (tgt := 19) hx hb dX3_readToDraft_79 (by decide) ?_
                exact w_19 v8_sizes_27 v8_coefficients_28 v3_next_41 v3_size_30 r_35 (y2 + (1 : Int32)) H locs ls hf hP hD hS (lv_sub hl [2, 1, 0] rfl)
              · have hf := pe_t hf hc_44
                refine lv_aload_n hx hb dX3_readToDraft_71 rfl (lv_at hl 1 rfl) ?_
                refine va_get (ci := 3) (v := .int v3_next_41) hx hb hts wX3_in hown hK hP 0 rfl rfl 4 (by decide) (hts _ mw_2_46) (fun _ h9 => h9) rfl dX3_readToDraft_72 ?_
                obtain ⟨rfl, rfl, rfl, rfl, rfl⟩ := po_5 hf
                rw [← hQ]; exact xe_iret Cx rfl hP hD hS dX3_readToDraft_75
          · have hf := pe_t hf hc_34
            refine lv_iconst (v := (-1 : Int32)) hx hb dX3_readToDraft_49 (by decide) ?_
            obtain ⟨rfl, rfl, rfl, rfl, rfl⟩ := po_5 hf
            rw [← hQ]; exact xe_iret Cx rfl hP hD hS dX3_readToDraft_50
        · have hf := pe_t hf hc_33
          refine lv_aload_n hx hb dX3_readToDraft_33 rfl (lv_at hl 0 rfl) ?_
          refine va_get (ci := 3) (v := .int v3_next_29) hx hb hts wX3_in hown hK hP 0 rfl rfl 4 (by decide) (hts _ mw_2_46) (fun _ h9 => h9) rfl dX3_readToDraft_34 ?_
          obtain ⟨rfl, rfl, rfl, rfl, rfl⟩ := po_5 hf
          rw [← hQ]; exact xe_iret Cx rfl hP hD hS dX3_readToDraft_37
  refine lv_aload_n hx hb dX3_readToDraft_0 rfl (lv_at hl 0 rfl) ?_
  refine lv_iconst (v := (0 : Int32)) hx hb dX3_readToDraft_1 (by decide) ?_
  refine va_put (ci := 3) (v := .int (0 : Int32)) (ty := .int) hx hb hts wX3_in tyX3 tyX3_ok nmX3 hown hK hP hD hS 0 rfl rfl 4 (by decide) (hts _ mw_2_46) (fun _ h9 => h9) rfl (by decide +kernel) rfl rfl (Nat.le_of_ble_eq_true rfl) dX3_readToDraft_2 (fun H locs hP hD hS => ?_)
  have hP : va_P D xcl (wd_X3 a cyI cyJ v3_letters v3_count (0 : Int32) v3_size v7_rows v7_lengths v7_sizes v7_rests v7_orders v8_sizes v8_coefficients v8_undoneSums v8_undos v8_nextUndo v8_imageTaken) H := hP
  have hD : va_D A (wd_X3 a cyI cyJ v3_letters v3_count (0 : Int32) v3_size v7_rows v7_lengths v7_sizes v7_rests v7_orders v8_sizes v8_coefficients v8_undoneSums v8_undos v8_nextUndo v8_imageTaken) := hD
  refine lv_aload_n hx hb dX3_readToDraft_5 rfl (lv_at hl 0 rfl) ?_
  refine lv_iconst (v := (-1 : Int32)) hx hb dX3_readToDraft_6 (by decide) ?_
  refine va_put (ci := 3) (v := .int (-1 : Int32)) (ty := .int) hx hb hts wX3_in tyX3 tyX3_ok nmX3 hown hK hP hD hS 0 rfl rfl 5 (by decide) (hts _ mw_2_47) (fun _ h9 => h9) rfl (by decide +kernel) rfl rfl (Nat.le_of_ble_eq_true rfl) dX3_readToDraft_7 (fun H locs hP hD hS => ?_)
  have hP : va_P D xcl (wd_X3 a cyI cyJ v3_letters v3_count (0 : Int32) (-1 : Int32) v7_rows v7_lengths v7_sizes v7_rests v7_orders v8_sizes v8_coefficients v8_undoneSums v8_undos v8_nextUndo v8_imageTaken) H := hP
  have hD : va_D A (wd_X3 a cyI cyJ v3_letters v3_count (0 : Int32) (-1 : Int32) v7_rows v7_lengths v7_sizes v7_rests v7_orders v8_sizes v8_coefficients v8_undoneSums v8_undos v8_nextUndo v8_imageTaken) := hD
  refine lv_aload_n hx hb dX3_readToDraft_10 rfl (lv_at hl 0 rfl) ?_
  refine lv_bipush (v := (45 : Int32)) hx hb dX3_readToDraft_11 (by decide) ?_
  obtain ⟨r_45, v3_next_46, hk_47, hf⟩ := pe_2 hf
  refine xv_z (As := [.int (45 : Int32)]) (rest := []) (q0 := 0) (ci := 3) Cx hP hD hS hl (pl_X3_X3 a cyI cyJ v3_letters v3_count (0 : Int32) (-1 : Int32) v7_rows v7_lengths v7_sizes v7_rests v7_orders v8_sizes v8_coefficients v8_undoneSums v8_undos v8_nextUndo v8_imageTaken v3_letters v3_count v3_next_46 (-1 : Int32) v7_rows v7_lengths v7_sizes v7_rests v7_orders v8_sizes v8_coefficients v8_undoneSums v8_undos v8_nextUndo v8_imageTaken) (c_X3_passes l D cyI cyJ G a H.size v3_letters v3_count (0 : Int32) (-1 : Int32) v7_rows v7_lengths v7_sizes v7_rests v7_orders v8_sizes v8_coefficients v8_undoneSums v8_undos v8_nextUndo v8_imageTaken (45 : Int32) r_45 v3_next_46 hk_47) pk_X3_passes mw_5_19 ⟨rfl, rfl, Nat.le_of_ble_eq_true rfl, Nat.le_of_ble_eq_true rfl⟩ rfl rfl rfl rfl rfl (Nat.le_of_ble_eq_true rfl) ⟨Nat.le_of_ble_eq_true rfl, Nat.le_of_ble_eq_true rfl⟩ dX3_readToDraft_13 (fun H locs hn_48 hP hD hS => ?_)
  refine lv_istore_n (lv' := [(1, .int r_45), (0, .ref (a 23))]) hx hb dX3_readToDraft_16 rfl hl (by decide) rfl (fun ls hl => ?_)
  refine lv_iconst (v := (0 : Int32)) hx hb dX3_readToDraft_17 (by decide) ?_
  refine lv_istore_n (lv' := [(2, .int (0 : Int32)), (1, .int r_45), (0, .ref (a 23))]) hx hb dX3_readToDraft_18 rfl hl (by decide) rfl (fun ls hl => ?_)
  exact w_19 1000 v8_sizes v8_coefficients v3_next_46 (-1 : Int32) r_45 (0 : Int32) H locs ls hf hP hD hS (lv_sub hl [2, 1, 0] rfl)
