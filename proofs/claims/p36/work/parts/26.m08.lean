def f_X8_has (x1 : Int32) : Option (Int32) := if x1 < 0 then (some ((0 : Int32))) else (if (4 : Int32) ≤ x1 then (some ((0 : Int32))) else (some ((1 : Int32))))
set_option maxHeartbeats 4000000 in
set_option maxRecDepth 20000 in
theorem c_X8_has (l : Launch) (D : va_G) (cyI cyJ : ClassId) (G a : Nat → Nat) (sz : Nat) (v8_sizes : Nat → Int32) (v8_coefficients : Nat → Int32) (v8_undoneSums : Nat → Int32) (v8_undos : Int32) (v8_nextUndo : Int32) (v8_imageTaken : Int32) (x1 : Int32) (ro : Int32) (hf : f_X8_has x1 = some ro) : xm_z l yX8_has (Cond.code yX8_has cX8_has 2 (some .boolean) :: xg_tbl) { frames := 0, cells := 0, slots := 0, locals := 0 } D xcl [(cyI, .int), (cyJ, .long)] G sz [.ref (a 17), .int x1] (wd_X8 a cyI cyJ v8_sizes v8_coefficients v8_undoneSums v8_undos v8_nextUndo v8_imageTaken) (wd_X8 a cyI cyJ v8_sizes v8_coefficients v8_undoneSums v8_undos v8_nextUndo v8_imageTaken) ro := by
  refine xm_of_z (own := RX8) (by decide) rfl rfl (Nat.le_of_ble_eq_true rfl) ?_
  intro p e s m args below meth c ls Q A hQ hAe hin Cx hsz hP hD hS hl
  have Cx1 := Cx
  obtain ⟨⟨hx, hb, hml, hown, hts⟩, hr, hlocks, hK, hA, hT⟩ := Cx1
  have hl : lv_has ls 2 [(0, .ref (a 17)), (1, .int x1)] := hl
  obtain ⟨H, eH⟩ : ∃ H, H = s.heap := ⟨_, rfl⟩
  obtain ⟨locs, eL⟩ : ∃ L : List Loc, L = [] := ⟨_, rfl⟩
  rw [← eH] at hP
  have hS : va_S A s.heap H locs := by rw [eH, eL]; exact hS
  suffices hgo : W p l e { frames := 0, cells := 0, slots := 0, locals := 0 } s m args below meth c H locs 0 0 Q (F0 m 0 ls []) by rw [eH, eL] at hgo; exact hgo
  clear eH eL
  unfold f_X8_has at hf
  refine lv_iload_n hx hb dX8_has_0 rfl (lv_at hl 1 rfl) ?_
  refine lv_if_lt (tgt := 13) hx hb dX8_has_1 (by decide) (fun hc_3 => ?_) (fun hc_3 => ?_)
  · have hf := pe_t hf hc_3
    refine lv_iconst (v := (0 : Int32)) hx hb dX8_has_13 (by decide) ?_
    obtain rfl := po_1 hf
    rw [← hQ]; exact xe_zret Cx rfl rfl hP hD hS dX8_has_14
  · have hf := pe_f hf hc_3
    refine lv_iload_n hx hb dX8_has_4 rfl (lv_at hl 1 rfl) ?_
    refine lv_iconst (v := (4 : Int32)) hx hb dX8_has_5 (by decide) ?_
    refine lv_icmp_ge (tgt := 13) hx hb dX8_has_6 (by decide) (fun hc_4 => ?_) (fun hc_4 => ?_)
    · have hf := pe_t hf hc_4
      refine lv_iconst (v := (0 : Int32)) hx hb dX8_has_13 (by decide) ?_
      obtain rfl := po_1 hf
      rw [← hQ]; exact xe_zret Cx rfl rfl hP hD hS dX8_has_14
    · have hf := pe_f hf hc_4
      refine lv_iconst (v := (1 : Int32)) hx hb dX8_has_9 (by decide) ?_
      refine lv_goto (tgt := 14) hx hb dX8_has_10 (by decide) ?_
      obtain rfl := po_1 hf
      rw [← hQ]; exact xe_zret Cx rfl rfl hP hD hS dX8_has_14
def f_X8_sizeOf (v8_sizes : Nat → Int32) (x1 : Int32) : Option (Int32) := p_b1 (f_X8_has x1) (fun r_1 => if r_1 = 0 then (some ((-1 : Int32))) else (p_in x1 17 (some ((v8_sizes (Int32.toNatClampNeg x1))))))
set_option maxHeartbeats 4000000 in
set_option maxRecDepth 20000 in
theorem c_X8_sizeOf (l : Launch) (D : va_G) (cyI cyJ : ClassId) (G a : Nat → Nat) (sz : Nat) (v8_sizes : Nat → Int32) (v8_coefficients : Nat → Int32) (v8_undoneSums : Nat → Int32) (v8_undos : Int32) (v8_nextUndo : Int32) (v8_imageTaken : Int32) (x1 : Int32) (ro : Int32) (hf : f_X8_sizeOf v8_sizes x1 = some ro) : xm_i l yX8_sizeOf (Cond.code yX8_sizeOf cX8_sizeOf 2 (some .int) :: xg_tbl) { frames := 1, cells := 0, slots := 0, locals := 21 } D xcl [(cyI, .int), (cyJ, .long)] G sz [.ref (a 17), .int x1] (wd_X8 a cyI cyJ v8_sizes v8_coefficients v8_undoneSums v8_undos v8_nextUndo v8_imageTaken) (wd_X8 a cyI cyJ v8_sizes v8_coefficients v8_undoneSums v8_undos v8_nextUndo v8_imageTaken) ro := by
  refine xm_of_i (own := RX8) (by decide) rfl rfl (Nat.le_of_ble_eq_true rfl) ?_
  intro p e s m args below meth c ls Q A hQ hAe hin Cx hsz hP hD hS hl
  have Cx1 := Cx
  obtain ⟨⟨hx, hb, hml, hown, hts⟩, hr, hlocks, hK, hA, hT⟩ := Cx1
  have hl : lv_has ls 2 [(0, .ref (a 17)), (1, .int x1)] := hl
  obtain ⟨H, eH⟩ : ∃ H, H = s.heap := ⟨_, rfl⟩
  obtain ⟨locs, eL⟩ : ∃ L : List Loc, L = [] := ⟨_, rfl⟩
  rw [← eH] at hP
  have hS : va_S A s.heap H locs := by rw [eH, eL]; exact hS
  suffices hgo : W p l e { frames := 1, cells := 0, slots := 0, locals := 21 } s m args below meth c H locs 0 0 Q (F0 m 0 ls []) by rw [eH, eL] at hgo; exact hgo
  clear eH eL
  unfold f_X8_sizeOf at hf
  refine lv_aload_n hx hb dX8_sizeOf_0 rfl (lv_at hl 0 rfl) ?_
  refine lv_iload_n hx hb dX8_sizeOf_1 rfl (lv_at hl 1 rfl) ?_
  obtain ⟨r_6, hk_7, hf⟩ := pe_1 hf
  refine xv_z (As := [.int x1]) (rest := []) (q0 := 0) (ci := 8) Cx hP hD hS hl (pl_X8_X8 a cyI cyJ v8_sizes v8_coefficients v8_undoneSums v8_undos v8_nextUndo v8_imageTaken v8_sizes v8_coefficients v8_undoneSums v8_undos v8_nextUndo v8_imageTaken) (c_X8_has l D cyI cyJ G a H.size v8_sizes v8_coefficients v8_undoneSums v8_undos v8_nextUndo v8_imageTaken x1 r_6 hk_7) pk_X8_has mw_3_22 ⟨rfl, rfl, Nat.le_of_ble_eq_true rfl, Nat.le_of_ble_eq_true rfl⟩ rfl rfl rfl rfl rfl (Nat.le_of_ble_eq_true rfl) ⟨Nat.le_of_ble_eq_true rfl, Nat.le_of_ble_eq_true rfl⟩ dX8_sizeOf_2 (fun H locs hn_8 hP hD hS => ?_)
  refine lv_if_eq (tgt := 17) hx hb dX8_sizeOf_5 (by decide) (fun hc_9 => ?_) (fun hc_9 => ?_)
  · have hf := pe_t hf hc_9
    refine lv_iconst (v := (-1 : Int32)) hx hb dX8_sizeOf_17 (by decide) ?_
    obtain rfl := po_1 hf
    rw [← hQ]; exact xe_iret Cx rfl hP hD hS dX8_sizeOf_18
  · have hf := pe_f hf hc_9
    refine lv_aload_n hx hb dX8_sizeOf_8 rfl (lv_at hl 0 rfl) ?_
    refine va_get (ci := 8) (v := .ref (a 18)) hx hb hts wX8_in hown hK hP 0 rfl rfl 0 (by decide) (hts _ mw_1_222) (fun _ h9 => h9) rfl dX8_sizeOf_9 ?_
    refine lv_iload_n hx hb dX8_sizeOf_12 rfl (lv_at hl 1 rfl) ?_
    obtain ⟨hi_10, hf⟩ := pe_in hf
    refine va_iald hx hb hK hP 1 0 rfl rfl hi_10 dX8_sizeOf_13 ?_
    refine lv_goto (tgt := 18) hx hb dX8_sizeOf_14 (by decide) ?_
    obtain rfl := po_1 hf
    rw [← hQ]; exact xe_iret Cx rfl hP hD hS dX8_sizeOf_18
def f_X8_isMissing (v8_sizes : Nat → Int32) (x1 : Int32) : Option (Int32) := p_b1 (f_X8_sizeOf v8_sizes x1) (fun r_1 => if r_1 = (-1 : Int32) then (some ((1 : Int32))) else (some ((0 : Int32))))
set_option maxHeartbeats 4000000 in
set_option maxRecDepth 20000 in
theorem c_X8_isMissing (l : Launch) (D : va_G) (cyI cyJ : ClassId) (G a : Nat → Nat) (sz : Nat) (v8_sizes : Nat → Int32) (v8_coefficients : Nat → Int32) (v8_undoneSums : Nat → Int32) (v8_undos : Int32) (v8_nextUndo : Int32) (v8_imageTaken : Int32) (x1 : Int32) (ro : Int32) (hf : f_X8_isMissing v8_sizes x1 = some ro) : xm_z l yX8_isMissing (Cond.code yX8_isMissing cX8_isMissing 2 (some .boolean) :: xg_tbl) { frames := 2, cells := 0, slots := 0, locals := 42 } D xcl [(cyI, .int), (cyJ, .long)] G sz [.ref (a 17), .int x1] (wd_X8 a cyI cyJ v8_sizes v8_coefficients v8_undoneSums v8_undos v8_nextUndo v8_imageTaken) (wd_X8 a cyI cyJ v8_sizes v8_coefficients v8_undoneSums v8_undos v8_nextUndo v8_imageTaken) ro := by
  refine xm_of_z (own := RX8) (by decide) rfl rfl (Nat.le_of_ble_eq_true rfl) ?_
  intro p e s m args below meth c ls Q A hQ hAe hin Cx hsz hP hD hS hl
  have Cx1 := Cx
  obtain ⟨⟨hx, hb, hml, hown, hts⟩, hr, hlocks, hK, hA, hT⟩ := Cx1
  have hl : lv_has ls 2 [(0, .ref (a 17)), (1, .int x1)] := hl
  obtain ⟨H, eH⟩ : ∃ H, H = s.heap := ⟨_, rfl⟩
  obtain ⟨locs, eL⟩ : ∃ L : List Loc, L = [] := ⟨_, rfl⟩
  rw [← eH] at hP
  have hS : va_S A s.heap H locs := by rw [eH, eL]; exact hS
  suffices hgo : W p l e { frames := 2, cells := 0, slots := 0, locals := 42 } s m args below meth c H locs 0 0 Q (F0 m 0 ls []) by rw [eH, eL] at hgo; exact hgo
  clear eH eL
  unfold f_X8_isMissing at hf
  refine lv_aload_n hx hb dX8_isMissing_0 rfl (lv_at hl 0 rfl) ?_
  refine lv_iload_n hx hb dX8_isMissing_1 rfl (lv_at hl 1 rfl) ?_
  obtain ⟨r_4, hk_5, hf⟩ := pe_1 hf
  refine xv_i (As := [.int x1]) (rest := []) (q0 := 0) (ci := 8) Cx hP hD hS hl (pl_X8_X8 a cyI cyJ v8_sizes v8_coefficients v8_undoneSums v8_undos v8_nextUndo v8_imageTaken v8_sizes v8_coefficients v8_undoneSums v8_undos v8_nextUndo v8_imageTaken) (c_X8_sizeOf l D cyI cyJ G a H.size v8_sizes v8_coefficients v8_undoneSums v8_undos v8_nextUndo v8_imageTaken x1 r_4 hk_5) pk_X8_sizeOf mw_3_18 ⟨rfl, rfl, Nat.le_of_ble_eq_true rfl, Nat.le_of_ble_eq_true rfl⟩ rfl rfl rfl rfl rfl (Nat.le_of_ble_eq_true rfl) ⟨Nat.le_of_ble_eq_true rfl, Nat.le_of_ble_eq_true rfl⟩ dX8_isMissing_2 (fun H locs hP hD hS => ?_)
  refine lv_iconst (v := (-1 : Int32)) hx hb dX8_isMissing_5 (by decide) ?_
  refine lv_icmp_ne (tgt := 13) hx hb dX8_isMissing_6 (by decide) (fun hc_6 => ?_) (fun hc_6 => ?_)
  · have hf := pe_f hf hc_6
    refine lv_iconst (v := (0 : Int32)) hx hb dX8_isMissing_13 (by decide) ?_
    obtain rfl := po_1 hf
    rw [← hQ]; exact xe_zret Cx rfl rfl hP hD hS dX8_isMissing_14
  · have hf := pe_t hf hc_6
    refine lv_iconst (v := (1 : Int32)) hx hb dX8_isMissing_9 (by decide) ?_
    refine lv_goto (tgt := 14) hx hb dX8_isMissing_10 (by decide) ?_
    obtain rfl := po_1 hf
    rw [← hQ]; exact xe_zret Cx rfl rfl hP hD hS dX8_isMissing_14
def f_X8_at_23 (v8_coefficients : Nat → Int32) (y1 : Int32) (y2 : Int32) (z0 : Int32) : Option (Int32) := if z0 = 0 then (some ((0 : Int32))) else (p_in ((y1 * (22 : Int32)) + y2) 374 (some ((v8_coefficients (Int32.toNatClampNeg ((y1 * (22 : Int32)) + y2))))))
def f_X8_at_22 (K_23 : Int32 → Int32 → Int32 → Option (Int32)) (v8_coefficients : Nat → Int32) (y1 : Int32) (y2 : Int32) : Option (Int32) := K_23 y1 y2 (0 : Int32)
def f_X8_at (v8_coefficients : Nat → Int32) (x1 : Int32) (x2 : Int32) : Option (Int32) := p_b1 (f_X8_has x1) (fun r_3 => if r_3 = 0 then ((f_X8_at_22 (f_X8_at_23 v8_coefficients) v8_coefficients) x1 x2) else (if x2 < 0 then ((f_X8_at_22 (f_X8_at_23 v8_coefficients) v8_coefficients) x1 x2) else (if (22 : Int32) ≤ x2 then ((f_X8_at_22 (f_X8_at_23 v8_coefficients) v8_coefficients) x1 x2) else ((f_X8_at_23 v8_coefficients) x1 x2 (1 : Int32)))))
set_option maxHeartbeats 4000000 in
set_option maxRecDepth 20000 in
theorem c_X8_at (l : Launch) (D : va_G) (cyI cyJ : ClassId) (G a : Nat → Nat) (sz : Nat) (v8_sizes : Nat → Int32) (v8_coefficients : Nat → Int32) (v8_undoneSums : Nat → Int32) (v8_undos : Int32) (v8_nextUndo : Int32) (v8_imageTaken : Int32) (x1 : Int32) (x2 : Int32) (ro : Int32) (hf : f_X8_at v8_coefficients x1 x2 = some ro) : xm_i l yX8_at (Cond.code yX8_at cX8_at 4 (some .int) :: xg_tbl) { frames := 1, cells := 0, slots := 0, locals := 21 } D xcl [(cyI, .int), (cyJ, .long)] G sz [.ref (a 17), .int x1, .int x2] (wd_X8 a cyI cyJ v8_sizes v8_coefficients v8_undoneSums v8_undos v8_nextUndo v8_imageTaken) (wd_X8 a cyI cyJ v8_sizes v8_coefficients v8_undoneSums v8_undos v8_nextUndo v8_imageTaken) ro := by
  refine xm_of_i (own := RX8) (by decide) rfl rfl (Nat.le_of_ble_eq_true rfl) ?_
  intro p e s m args below meth c ls Q A hQ hAe hin Cx hsz hP hD hS hl
  have Cx1 := Cx
  obtain ⟨⟨hx, hb, hml, hown, hts⟩, hr, hlocks, hK, hA, hT⟩ := Cx1
  have hl : lv_has ls 4 [(0, .ref (a 17)), (1, .int x1), (2, .int x2)] := hl
  obtain ⟨H, eH⟩ : ∃ H, H = s.heap := ⟨_, rfl⟩
  obtain ⟨locs, eL⟩ : ∃ L : List Loc, L = [] := ⟨_, rfl⟩
  rw [← eH] at hP
  have hS : va_S A s.heap H locs := by rw [eH, eL]; exact hS
  suffices hgo : W p l e { frames := 1, cells := 0, slots := 0, locals := 21 } s m args below meth c H locs 0 0 Q (F0 m 0 ls []) by rw [eH, eL] at hgo; exact hgo
  clear eH eL
  unfold f_X8_at at hf
  have w_23 : ∀ (y1 : Int32) (y2 : Int32) (z0 : Int32) (H : Heap) (locs : List Loc) (ls : Array Slot), (f_X8_at_23 v8_coefficients) y1 y2 z0 = some ro → va_P D xcl (wd_X8 a cyI cyJ v8_sizes v8_coefficients v8_undoneSums v8_undos v8_nextUndo v8_imageTaken) H → va_D A (wd_X8 a cyI cyJ v8_sizes v8_coefficients v8_undoneSums v8_undos v8_nextUndo v8_imageTaken) → va_S A s.heap H locs → lv_has ls 4 [(0, .ref (a 17)), (1, .int y1), (2, .int y2)] → W p l e { frames := 1, cells := 0, slots := 0, locals := 21 } s m args below meth c H locs 0 0 Q (F0 m 23 ls [.int z0]) := by
    intro y1 y2 z0 H locs ls hf hP hD hS hl
    unfold f_X8_at_23 at hf
    refine lv_istore_n (lv' := [(3, .int z0), (0, .ref (a 17)), (1, .int y1), (2, .int y2)]) hx hb dX8_at_23 rfl hl (by decide) rfl (fun ls hl => ?_)
    refine lv_iload_n hx hb dX8_at_24 rfl (lv_at hl 0 rfl) ?_
    refine lv_if_eq (tgt := 42) hx hb dX8_at_25 (by decide) (fun hc_9 => ?_) (fun hc_9 => ?_)
    · have hf := pe_t hf hc_9
      refine lv_iconst (v := (0 : Int32)) hx hb dX8_at_42 (by decide) ?_
      obtain rfl := po_1 hf
      rw [← hQ]; exact xe_iret Cx rfl hP hD hS dX8_at_43
    · have hf := pe_f hf hc_9
      refine lv_aload_n hx hb dX8_at_28 rfl (lv_at hl 1 rfl) ?_
      refine va_get (ci := 8) (v := .ref (a 19)) hx hb hts wX8_in hown hK hP 0 rfl rfl 1 (by decide) (hts _ mw_1_223) (fun _ h9 => h9) rfl dX8_at_29 ?_
      refine lv_iload_n hx hb dX8_at_32 rfl (lv_at hl 2 rfl) ?_
      refine lv_bipush (v := (22 : Int32)) hx hb dX8_at_33 (by decide) ?_
      refine lv_imul hx hb dX8_at_35 ?_
      refine lv_iload_n hx hb dX8_at_36 rfl (lv_at hl 3 rfl) ?_
      refine lv_iadd hx hb dX8_at_37 ?_
      obtain ⟨hi_10, hf⟩ := pe_in hf
      refine va_iald hx hb hK hP 2 0 rfl rfl hi_10 dX8_at_38 ?_
      refine lv_goto (tgt := 43) hx hb dX8_at_39 (by decide) ?_
      obtain rfl := po_1 hf
      rw [← hQ]; exact xe_iret Cx rfl hP hD hS dX8_at_43
  have w_22 : ∀ (y1 : Int32) (y2 : Int32) (H : Heap) (locs : List Loc) (ls : Array Slot), (f_X8_at_22 (f_X8_at_23 v8_coefficients) v8_coefficients) y1 y2 = some ro → va_P D xcl (wd_X8 a cyI cyJ v8_sizes v8_coefficients v8_undoneSums v8_undos v8_nextUndo v8_imageTaken) H → va_D A (wd_X8 a cyI cyJ v8_sizes v8_coefficients v8_undoneSums v8_undos v8_nextUndo v8_imageTaken) → va_S A s.heap H locs → lv_has ls 4 [(0, .ref (a 17)), (1, .int y1), (2, .int y2)] → W p l e { frames := 1, cells := 0, slots := 0, locals := 21 } s m args below meth c H locs 0 0 Q (F0 m 22 ls []) := by
    intro y1 y2 H locs ls hf hP hD hS hl
    unfold f_X8_at_22 at hf
    refine lv_iconst (v := (0 : Int32)) hx hb dX8_at_22 (by decide) ?_
    exact w_23 y1 y2 (0 : Int32) H locs ls hf hP hD hS (lv_sub hl [0, 1, 2] rfl)
  refine lv_aload_n hx hb dX8_at_0 rfl (lv_at hl 0 rfl) ?_
  refine lv_iload_n hx hb dX8_at_1 rfl (lv_at hl 1 rfl) ?_
  obtain ⟨r_11, hk_12, hf⟩ := pe_1 hf
  refine xv_z (As := [.int x1]) (rest := []) (q0 := 0) (ci := 8) Cx hP hD hS hl (pl_X8_X8 a cyI cyJ v8_sizes v8_coefficients v8_undoneSums v8_undos v8_nextUndo v8_imageTaken v8_sizes v8_coefficients v8_undoneSums v8_undos v8_nextUndo v8_imageTaken) (c_X8_has l D cyI cyJ G a H.size v8_sizes v8_coefficients v8_undoneSums v8_undos v8_nextUndo v8_imageTaken x1 r_11 hk_12) pk_X8_has mw_3_22 ⟨rfl, rfl, Nat.le_of_ble_eq_true rfl, Nat.le_of_ble_eq_true rfl⟩ rfl rfl rfl rfl rfl (Nat.le_of_ble_eq_true rfl) ⟨Nat.le_of_ble_eq_true rfl, Nat.le_of_ble_eq_true rfl⟩ dX8_at_2 (fun H locs hn_13 hP hD hS => ?_)
  refine lv_if_eq (tgt := 22) hx hb dX8_at_5 (by decide) (fun hc_14 => ?_) (fun hc_14 => ?_)
  · have hf := pe_t hf hc_14
    exact w_22 x1 x2 H locs ls hf hP hD hS (lv_sub hl [0, 1, 2] rfl)
  · have hf := pe_f hf hc_14
    refine lv_iload_n hx hb dX8_at_8 rfl (lv_at hl 2 rfl) ?_
    refine lv_if_lt (tgt := 22) hx hb dX8_at_9 (by decide) (fun hc_15 => ?_) (fun hc_15 => ?_)
    · have hf := pe_t hf hc_15
      exact w_22 x1 x2 H locs ls hf hP hD hS (lv_sub hl [0, 1, 2] rfl)
    · have hf := pe_f hf hc_15
      refine lv_iload_n hx hb dX8_at_12 rfl (lv_at hl 2 rfl) ?_
      refine lv_bipush (v := (22 : Int32)) hx hb dX8_at_13 (by decide) ?_
      refine lv_icmp_ge (tgt := 22) hx hb dX8_at_15 (by decide) (fun hc_16 => ?_) (fun hc_16 => ?_)
      · have hf := pe_t hf hc_16
        exact w_22 x1 x2 H locs ls hf hP hD hS (lv_sub hl [0, 1, 2] rfl)
      · have hf := pe_f hf hc_16
        refine lv_iconst (v := (1 : Int32)) hx hb dX8_at_18 (by decide) ?_
        refine lv_goto (tgt := 23) hx hb dX8_at_19 (by decide) ?_
        exact w_23 x1 x2 (1 : Int32) H locs ls hf hP hD hS (lv_sub hl [0, 1, 2] rfl)
def gf_X8_termsOf_4 (K_4 : Int32 → Int32 → Int32 → Option (Int32)) (v8_coefficients : Nat → Int32) (y1 : Int32) (y2 : Int32) (y3 : Int32) : Option (Int32) := if (22 : Int32) ≤ y3 then (some (y2)) else (p_b1 (f_X8_at v8_coefficients y1 y3) (fun r_2 => if r_2 = 0 then (K_4 y1 y2 (y3 + (1 : Int32))) else (K_4 y1 (y2 + (1 : Int32)) (y3 + (1 : Int32)))))
def f_X8_termsOf_4 (v8_coefficients : Nat → Int32) : Nat → Int32 → Int32 → Int32 → Option (Int32)
  | 0 => fun _ _ _ => none
  | n + 1 => gf_X8_termsOf_4 (f_X8_termsOf_4 v8_coefficients n) v8_coefficients
def f_X8_termsOf (v8_coefficients : Nat → Int32) (x1 : Int32) : Option (Int32) := (f_X8_termsOf_4 v8_coefficients 1000) x1 (0 : Int32) (0 : Int32)
set_option maxHeartbeats 4000000 in
set_option maxRecDepth 20000 in
theorem c_X8_termsOf (l : Launch) (D : va_G) (cyI cyJ : ClassId) (G a : Nat → Nat) (sz : Nat) (v8_sizes : Nat → Int32) (v8_coefficients : Nat → Int32) (v8_undoneSums : Nat → Int32) (v8_undos : Int32) (v8_nextUndo : Int32) (v8_imageTaken : Int32) (x1 : Int32) (ro : Int32) (hf : f_X8_termsOf v8_coefficients x1 = some ro) : xm_i l yX8_termsOf (Cond.code yX8_termsOf cX8_termsOf 4 (some .int) :: xg_tbl) { frames := 2, cells := 0, slots := 0, locals := 44 } D xcl [(cyI, .int), (cyJ, .long)] G sz [.ref (a 17), .int x1] (wd_X8 a cyI cyJ v8_sizes v8_coefficients v8_undoneSums v8_undos v8_nextUndo v8_imageTaken) (wd_X8 a cyI cyJ v8_sizes v8_coefficients v8_undoneSums v8_undos v8_nextUndo v8_imageTaken) ro := by
  refine xm_of_i (own := RX8) (by decide) rfl rfl (Nat.le_of_ble_eq_true rfl) ?_
  intro p e s m args below meth c ls Q A hQ hAe hin Cx hsz hP hD hS hl
  have Cx1 := Cx
  obtain ⟨⟨hx, hb, hml, hown, hts⟩, hr, hlocks, hK, hA, hT⟩ := Cx1
  have hl : lv_has ls 4 [(0, .ref (a 17)), (1, .int x1)] := hl
  obtain ⟨H, eH⟩ : ∃ H, H = s.heap := ⟨_, rfl⟩
  obtain ⟨locs, eL⟩ : ∃ L : List Loc, L = [] := ⟨_, rfl⟩
  rw [← eH] at hP
  have hS : va_S A s.heap H locs := by rw [eH, eL]; exact hS
  suffices hgo : W p l e { frames := 2, cells := 0, slots := 0, locals := 44 } s m args below meth c H locs 0 0 Q (F0 m 0 ls []) by rw [eH, eL] at hgo; exact hgo
  clear eH eL
  unfold f_X8_termsOf at hf
  have w_4 : ∀ (n_4 : Nat) (y1 : Int32) (y2 : Int32) (y3 : Int32) (H : Heap) (locs : List Loc) (ls : Array Slot), (f_X8_termsOf_4 v8_coefficients) n_4 y1 y2 y3 = some ro → va_P D xcl (wd_X8 a cyI cyJ v8_sizes v8_coefficients v8_undoneSums v8_undos v8_nextUndo v8_imageTaken) H → va_D A (wd_X8 a cyI cyJ v8_sizes v8_coefficients v8_undoneSums v8_undos v8_nextUndo v8_imageTaken) → va_S A s.heap H locs → lv_has ls 4 [(0, .ref (a 17)), (1, .int y1), (2, .int y2), (3, .int y3)] → W p l e { frames := 2, cells := 0, slots := 0, locals := 44 } s m args below meth c H locs 0 0 Q (F0 m 4 ls []) := by
    intro n_4
    induction n_4 with
    | zero => intro y1 y2 y3 H locs ls hf; exact absurd hf (by intro h9; cases h9)
    | succ n_4 w_4 =>
      intro y1 y2 y3 H locs ls hf hP hD hS hl
      have hf : gf_X8_termsOf_4 ((f_X8_termsOf_4 v8_coefficients) n_4) v8_coefficients y1 y2 y3 = some ro := hf
      unfold gf_X8_termsOf_4 at hf
      refine lv_iload_n hx hb dX8_termsOf_4 rfl (lv_at hl 3 rfl) ?_
      refine lv_bipush (v := (22 : Int32)) hx hb dX8_termsOf_5 (by decide) ?_
      refine lv_icmp_ge (tgt := 28) hx hb dX8_termsOf_7 (by decide) (fun hc_5 => ?_) (fun hc_5 => ?_)
      · have hf := pe_t hf hc_5
        refine lv_iload_n hx hb dX8_termsOf_28 rfl (lv_at hl 2 rfl) ?_
        obtain rfl := po_1 hf
        rw [← hQ]; exact xe_iret Cx rfl hP hD hS dX8_termsOf_29
      · have hf := pe_f hf hc_5
        refine lv_aload_n hx hb dX8_termsOf_10 rfl (lv_at hl 0 rfl) ?_
        refine lv_iload_n hx hb dX8_termsOf_11 rfl (lv_at hl 1 rfl) ?_
        refine lv_iload_n hx hb dX8_termsOf_12 rfl (lv_at hl 3 rfl) ?_
        obtain ⟨r_6, hk_7, hf⟩ := pe_1 hf
        refine xv_i (As := [.int y1, .int y3]) (rest := []) (q0 := 0) (ci := 8) Cx hP hD hS hl (pl_X8_X8 a cyI cyJ v8_sizes v8_coefficients v8_undoneSums v8_undos v8_nextUndo v8_imageTaken v8_sizes v8_coefficients v8_undoneSums v8_undos v8_nextUndo v8_imageTaken) (c_X8_at l D cyI cyJ G a H.size v8_sizes v8_coefficients v8_undoneSums v8_undos v8_nextUndo v8_imageTaken y1 y3 r_6 hk_7) pk_X8_at mw_3_52 ⟨rfl, rfl, Nat.le_of_ble_eq_true rfl, Nat.le_of_ble_eq_true rfl⟩ rfl rfl rfl rfl rfl (Nat.le_of_ble_eq_true rfl) ⟨Nat.le_of_ble_eq_true rfl, Nat.le_of_ble_eq_true rfl⟩ dX8_termsOf_13 (fun H locs hP hD hS => ?_)
        refine lv_if_eq (tgt := 22) hx hb dX8_termsOf_16 (by decide) (fun hc_8 => ?_) (fun hc_8 => ?_)
        · have hf := pe_t hf hc_8
          refine lv_iinc (v := (y3 + (1 : Int32))) (lv' := [(3, .int (y3 + (1 : Int32))), (0, .ref (a 17)), (1, .int y1), (2, .int y2)]) hx hb dX8_termsOf_22 hl (k := 3) rfl rfl (by decide) rfl (fun ls hl => ?_)
          refine lv_goto (tgt := 4) hx hb dX8_termsOf_25 (by decide) ?_
          exact w_4 y1 y2 (y3 + (1 : Int32)) H locs ls hf hP hD hS (lv_sub hl [1, 2, 3, 0] rfl)
        · have hf := pe_f hf hc_8
          refine lv_iinc (v := (y2 + (1 : Int32))) (lv' := [(2, .int (y2 + (1 : Int32))), (0, .ref (a 17)), (1, .int y1), (3, .int y3)]) hx hb dX8_termsOf_19 hl (k := 2) rfl rfl (by decide) rfl (fun ls hl => ?_)
          refine lv_iinc (v := (y3 + (1 : Int32))) (lv' := [(3, .int (y3 + (1 : Int32))), (2, .int (y2 + (1 : Int32))), (0, .ref (a 17)), (1, .int y1)]) hx hb dX8_termsOf_22 hl (k := 3) rfl rfl (by decide) rfl (fun ls hl => ?_)
          refine lv_goto (tgt := 4) hx hb dX8_termsOf_25 (by decide) ?_
          exact w_4 y1 (y2 + (1 : Int32)) (y3 + (1 : Int32)) H locs ls hf hP hD hS (lv_sub hl [2, 3, 1, 0] rfl)
  refine lv_iconst (v := (0 : Int32)) hx hb dX8_termsOf_0 (by decide) ?_
  refine lv_istore_n (lv' := [(2, .int (0 : Int32)), (0, .ref (a 17)), (1, .int x1)]) hx hb dX8_termsOf_1 rfl hl (by decide) rfl (fun ls hl => ?_)
  refine lv_iconst (v := (0 : Int32)) hx hb dX8_termsOf_2 (by decide) ?_
  refine lv_istore_n (lv' := [(3, .int (0 : Int32)), (2, .int (0 : Int32)), (0, .ref (a 17)), (1, .int x1)]) hx hb dX8_termsOf_3 rfl hl (by decide) rfl (fun ls hl => ?_)
  exact w_4 1000 x1 (0 : Int32) (0 : Int32) H locs ls hf hP hD hS (lv_sub hl [2, 3, 1, 0] rfl)
def gf_X8_firstTermOf_2 (K_2 : Int32 → Int32 → Option (Int32)) (v8_coefficients : Nat → Int32) (y1 : Int32) (y2 : Int32) : Option (Int32) := if (22 : Int32) ≤ y2 then (some ((-1 : Int32))) else (p_b1 (f_X8_at v8_coefficients y1 y2) (fun r_2 => if r_2 = 0 then (K_2 y1 (y2 + (1 : Int32))) else (some (y2))))
def f_X8_firstTermOf_2 (v8_coefficients : Nat → Int32) : Nat → Int32 → Int32 → Option (Int32)
  | 0 => fun _ _ => none
  | n + 1 => gf_X8_firstTermOf_2 (f_X8_firstTermOf_2 v8_coefficients n) v8_coefficients
def f_X8_firstTermOf (v8_coefficients : Nat → Int32) (x1 : Int32) : Option (Int32) := (f_X8_firstTermOf_2 v8_coefficients 1000) x1 (0 : Int32)
set_option maxHeartbeats 4000000 in
set_option maxRecDepth 20000 in
theorem c_X8_firstTermOf (l : Launch) (D : va_G) (cyI cyJ : ClassId) (G a : Nat → Nat) (sz : Nat) (v8_sizes : Nat → Int32) (v8_coefficients : Nat → Int32) (v8_undoneSums : Nat → Int32) (v8_undos : Int32) (v8_nextUndo : Int32) (v8_imageTaken : Int32) (x1 : Int32) (ro : Int32) (hf : f_X8_firstTermOf v8_coefficients x1 = some ro) : xm_i l yX8_firstTermOf (Cond.code yX8_firstTermOf cX8_firstTermOf 3 (some .int) :: xg_tbl) { frames := 2, cells := 0, slots := 0, locals := 44 } D xcl [(cyI, .int), (cyJ, .long)] G sz [.ref (a 17), .int x1] (wd_X8 a cyI cyJ v8_sizes v8_coefficients v8_undoneSums v8_undos v8_nextUndo v8_imageTaken) (wd_X8 a cyI cyJ v8_sizes v8_coefficients v8_undoneSums v8_undos v8_nextUndo v8_imageTaken) ro := by
  refine xm_of_i (own := RX8) (by decide) rfl rfl (Nat.le_of_ble_eq_true rfl) ?_
  intro p e s m args below meth c ls Q A hQ hAe hin Cx hsz hP hD hS hl
  have Cx1 := Cx
  obtain ⟨⟨hx, hb, hml, hown, hts⟩, hr, hlocks, hK, hA, hT⟩ := Cx1
  have hl : lv_has ls 3 [(0, .ref (a 17)), (1, .int x1)] := hl
  obtain ⟨H, eH⟩ : ∃ H, H = s.heap := ⟨_, rfl⟩
  obtain ⟨locs, eL⟩ : ∃ L : List Loc, L = [] := ⟨_, rfl⟩
  rw [← eH] at hP
  have hS : va_S A s.heap H locs := by rw [eH, eL]; exact hS
  suffices hgo : W p l e { frames := 2, cells := 0, slots := 0, locals := 44 } s m args below meth c H locs 0 0 Q (F0 m 0 ls []) by rw [eH, eL] at hgo; exact hgo
  clear eH eL
  unfold f_X8_firstTermOf at hf
  have w_2 : ∀ (n_2 : Nat) (y1 : Int32) (y2 : Int32) (H : Heap) (locs : List Loc) (ls : Array Slot), (f_X8_firstTermOf_2 v8_coefficients) n_2 y1 y2 = some ro → va_P D xcl (wd_X8 a cyI cyJ v8_sizes v8_coefficients v8_undoneSums v8_undos v8_nextUndo v8_imageTaken) H → va_D A (wd_X8 a cyI cyJ v8_sizes v8_coefficients v8_undoneSums v8_undos v8_nextUndo v8_imageTaken) → va_S A s.heap H locs → lv_has ls 3 [(0, .ref (a 17)), (1, .int y1), (2, .int y2)] → W p l e { frames := 2, cells := 0, slots := 0, locals := 44 } s m args below meth c H locs 0 0 Q (F0 m 2 ls []) := by
    intro n_2
    induction n_2 with
    | zero => intro y1 y2 H locs ls hf; exact absurd hf (by intro h9; cases h9)
    | succ n_2 w_2 =>
      intro y1 y2 H locs ls hf hP hD hS hl
      have hf : gf_X8_firstTermOf_2 ((f_X8_firstTermOf_2 v8_coefficients) n_2) v8_coefficients y1 y2 = some ro := hf
      unfold gf_X8_firstTermOf_2 at hf
      refine lv_iload_n hx hb dX8_firstTermOf_2 rfl (lv_at hl 2 rfl) ?_
      refine lv_bipush (v := (22 : Int32)) hx hb dX8_firstTermOf_3 (by decide) ?_
      refine lv_icmp_ge (tgt := 25) hx hb dX8_firstTermOf_5 (by decide) (fun hc_5 => ?_) (fun hc_5 => ?_)
      · have hf := pe_t hf hc_5
        refine lv_iconst (v := (-1 : Int32)) hx hb dX8_firstTermOf_25 (by decide) ?_
        obtain rfl := po_1 hf
        rw [← hQ]; exact xe_iret Cx rfl hP hD hS dX8_firstTermOf_26
      · have hf := pe_f hf hc_5
        refine lv_aload_n hx hb dX8_firstTermOf_8 rfl (lv_at hl 0 rfl) ?_
        refine lv_iload_n hx hb dX8_firstTermOf_9 rfl (lv_at hl 1 rfl) ?_
        refine lv_iload_n hx hb dX8_firstTermOf_10 rfl (lv_at hl 2 rfl) ?_
        obtain ⟨r_6, hk_7, hf⟩ := pe_1 hf
        refine xv_i (As := [.int y1, .int y2]) (rest := []) (q0 := 0) (ci := 8) Cx hP hD hS hl (pl_X8_X8 a cyI cyJ v8_sizes v8_coefficients v8_undoneSums v8_undos v8_nextUndo v8_imageTaken v8_sizes v8_coefficients v8_undoneSums v8_undos v8_nextUndo v8_imageTaken) (c_X8_at l D cyI cyJ G a H.size v8_sizes v8_coefficients v8_undoneSums v8_undos v8_nextUndo v8_imageTaken y1 y2 r_6 hk_7) pk_X8_at mw_3_52 ⟨rfl, rfl, Nat.le_of_ble_eq_true rfl, Nat.le_of_ble_eq_true rfl⟩ rfl rfl rfl rfl rfl (Nat.le_of_ble_eq_true rfl) ⟨Nat.le_of_ble_eq_true rfl, Nat.le_of_ble_eq_true rfl⟩ dX8_firstTermOf_11 (fun H locs hP hD hS => ?_)
        refine lv_if_eq (tgt := 19) hx hb dX8_firstTermOf_14 (by decide) (fun hc_8 => ?_) (fun hc_8 => ?_)
        · have hf := pe_t hf hc_8
          refine lv_iinc (v := (y2 + (1 : Int32))) (lv' := [(2, .int (y2 + (1 : Int32))), (0, .ref (a 17)), (1, .int y1)]) hx hb dX8_firstTermOf_19 hl (k := 2) rfl rfl (by decide) rfl (fun ls hl => ?_)
          refine lv_goto (tgt := 2) hx hb dX8_firstTermOf_22 (by decide) ?_
          exact w_2 y1 (y2 + (1 : Int32)) H locs ls hf hP hD hS (lv_sub hl [1, 2, 0] rfl)
        · have hf := pe_f hf hc_8
          refine lv_iload_n hx hb dX8_firstTermOf_17 rfl (lv_at hl 2 rfl) ?_
          obtain rfl := po_1 hf
          rw [← hQ]; exact xe_iret Cx rfl hP hD hS dX8_firstTermOf_18
  refine lv_iconst (v := (0 : Int32)) hx hb dX8_firstTermOf_0 (by decide) ?_
  refine lv_istore_n (lv' := [(2, .int (0 : Int32)), (0, .ref (a 17)), (1, .int x1)]) hx hb dX8_firstTermOf_1 rfl hl (by decide) rfl (fun ls hl => ?_)
  exact w_2 1000 x1 (0 : Int32) H locs ls hf hP hD hS (lv_sub hl [1, 2, 0] rfl)
def gf_X8_beginDraft_10 (K_10 : (Nat → Int32) → (Nat → Int32) → Int32 → Option ((Nat → Int32) × (Nat → Int32))) (v8_sizes : Nat → Int32) (v8_coefficients : Nat → Int32) (y2 : Int32) : Option ((Nat → Int32) × (Nat → Int32)) := if (22 : Int32) ≤ y2 then (some (v8_sizes, v8_coefficients)) else (p_in ((352 : Int32) + y2) 374 (K_10 v8_sizes (upd v8_coefficients (Int32.toNatClampNeg ((352 : Int32) + y2)) (0 : Int32)) (y2 + (1 : Int32))))
def f_X8_beginDraft_10 : Nat → (Nat → Int32) → (Nat → Int32) → Int32 → Option ((Nat → Int32) × (Nat → Int32))
  | 0 => fun _ _ _ => none
  | n + 1 => gf_X8_beginDraft_10 (f_X8_beginDraft_10 n)
def f_X8_beginDraft (v8_sizes : Nat → Int32) (v8_coefficients : Nat → Int32) (x1 : Int32) : Option ((Nat → Int32) × (Nat → Int32)) := p_in (16 : Int32) 17 ((f_X8_beginDraft_10 1000) (upd v8_sizes (Int32.toNatClampNeg (16 : Int32)) x1) v8_coefficients (0 : Int32))
set_option maxHeartbeats 4000000 in
set_option maxRecDepth 20000 in
theorem c_X8_beginDraft (l : Launch) (D : va_G) (cyI cyJ : ClassId) (G a : Nat → Nat) (sz : Nat) (v8_sizes : Nat → Int32) (v8_coefficients : Nat → Int32) (v8_undoneSums : Nat → Int32) (v8_undos : Int32) (v8_nextUndo : Int32) (v8_imageTaken : Int32) (x1 : Int32) (ov8_sizes : Nat → Int32) (ov8_coefficients : Nat → Int32) (hf : f_X8_beginDraft v8_sizes v8_coefficients x1 = some (ov8_sizes, ov8_coefficients)) : xm_v l yX8_beginDraft (Cond.code yX8_beginDraft cX8_beginDraft 3 none :: xg_tbl) { frames := 0, cells := 0, slots := 0, locals := 0 } D xcl [(cyI, .int), (cyJ, .long)] G sz [.ref (a 17), .int x1] (wd_X8 a cyI cyJ v8_sizes v8_coefficients v8_undoneSums v8_undos v8_nextUndo v8_imageTaken) (wd_X8 a cyI cyJ ov8_sizes ov8_coefficients v8_undoneSums v8_undos v8_nextUndo v8_imageTaken) := by
  refine xm_of_v (own := RX8) (by decide) rfl rfl (Nat.le_of_ble_eq_true rfl) ?_
  intro p e s m args below meth c ls Q A hQ hAe hin Cx hsz hP hD hS hl
  have Cx1 := Cx
  obtain ⟨⟨hx, hb, hml, hown, hts⟩, hr, hlocks, hK, hA, hT⟩ := Cx1
  have hl : lv_has ls 3 [(0, .ref (a 17)), (1, .int x1)] := hl
  obtain ⟨H, eH⟩ : ∃ H, H = s.heap := ⟨_, rfl⟩
  obtain ⟨locs, eL⟩ : ∃ L : List Loc, L = [] := ⟨_, rfl⟩
  rw [← eH] at hP
  have hS : va_S A s.heap H locs := by rw [eH, eL]; exact hS
  suffices hgo : W p l e { frames := 0, cells := 0, slots := 0, locals := 0 } s m args below meth c H locs 0 0 Q (F0 m 0 ls []) by rw [eH, eL] at hgo; exact hgo
  clear eH eL
  unfold f_X8_beginDraft at hf
  have w_10 : ∀ (n_10 : Nat) (v8_sizes : Nat → Int32) (v8_coefficients : Nat → Int32) (y2 : Int32) (H : Heap) (locs : List Loc) (ls : Array Slot), f_X8_beginDraft_10 n_10 v8_sizes v8_coefficients y2 = some (ov8_sizes, ov8_coefficients) → va_P D xcl (wd_X8 a cyI cyJ v8_sizes v8_coefficients v8_undoneSums v8_undos v8_nextUndo v8_imageTaken) H → va_D A (wd_X8 a cyI cyJ v8_sizes v8_coefficients v8_undoneSums v8_undos v8_nextUndo v8_imageTaken) → va_S A s.heap H locs → lv_has ls 3 [(0, .ref (a 17)), (2, .int y2)] → W p l e { frames := 0, cells := 0, slots := 0, locals := 0 } s m args below meth c H locs 0 0 Q (F0 m 10 ls []) := by
    intro n_10
    induction n_10 with
    | zero => intro v8_sizes v8_coefficients y2 H locs ls hf; exact absurd hf (by intro h9; cases h9)
    | succ n_10 w_10 =>
      intro v8_sizes v8_coefficients y2 H locs ls hf hP hD hS hl
      have hf : gf_X8_beginDraft_10 (f_X8_beginDraft_10 n_10) v8_sizes v8_coefficients y2 = some (ov8_sizes, ov8_coefficients) := hf
      unfold gf_X8_beginDraft_10 at hf
      refine lv_iload_n hx hb dX8_beginDraft_10 rfl (lv_at hl 1 rfl) ?_
      refine lv_bipush (v := (22 : Int32)) hx hb dX8_beginDraft_11 (by decide) ?_
      refine lv_icmp_ge (tgt := 33) hx hb dX8_beginDraft_13 (by decide) (fun hc_4 => ?_) (fun hc_4 => ?_)
      · have hf := pe_t hf hc_4
        obtain ⟨rfl, rfl⟩ := po_2 hf
        rw [← hQ]; exact xe_vret Cx hP hD hS dX8_beginDraft_33
      · have hf := pe_f hf hc_4
        refine lv_aload_n hx hb dX8_beginDraft_16 rfl (lv_at hl 0 rfl) ?_
        refine va_get (ci := 8) (v := .ref (a 19)) hx hb hts wX8_in hown hK hP 0 rfl rfl 1 (by decide) (hts _ mw_1_223) (fun _ h9 => h9) rfl dX8_beginDraft_17 ?_
        refine lv_sipush (v := (352 : Int32)) hx hb dX8_beginDraft_20 (by decide) ?_
        refine lv_iload_n hx hb dX8_beginDraft_23 rfl (lv_at hl 1 rfl) ?_
        refine lv_iadd hx hb dX8_beginDraft_24 ?_
        refine lv_iconst (v := (0 : Int32)) hx hb dX8_beginDraft_25 (by decide) ?_
        obtain ⟨hi_5, hf⟩ := pe_in hf
        refine va_iast hx hb hK hP hD hS 2 0 rfl rfl hi_5 dX8_beginDraft_26 (fun H locs hP hD hS => ?_)
        have hP : va_P D xcl (wd_X8 a cyI cyJ v8_sizes (upd v8_coefficients (Int32.toNatClampNeg ((352 : Int32) + y2)) (0 : Int32)) v8_undoneSums v8_undos v8_nextUndo v8_imageTaken) H := hP
        have hD : va_D A (wd_X8 a cyI cyJ v8_sizes (upd v8_coefficients (Int32.toNatClampNeg ((352 : Int32) + y2)) (0 : Int32)) v8_undoneSums v8_undos v8_nextUndo v8_imageTaken) := hD
        refine lv_iinc (v := (y2 + (1 : Int32))) (lv' := [(2, .int (y2 + (1 : Int32))), (0, .ref (a 17))]) hx hb dX8_beginDraft_27 hl (k := 1) rfl rfl (by decide) rfl (fun ls hl => ?_)
        refine lv_goto (tgt := 10) hx hb dX8_beginDraft_30 (by decide) ?_
        exact w_10 v8_sizes (upd v8_coefficients (Int32.toNatClampNeg ((352 : Int32) + y2)) (0 : Int32)) (y2 + (1 : Int32)) H locs ls hf hP hD hS (lv_sub hl [1, 0] rfl)
  refine lv_aload_n hx hb dX8_beginDraft_0 rfl (lv_at hl 0 rfl) ?_
  refine va_get (ci := 8) (v := .ref (a 18)) hx hb hts wX8_in hown hK hP 0 rfl rfl 0 (by decide) (hts _ mw_1_222) (fun _ h9 => h9) rfl dX8_beginDraft_1 ?_
  refine lv_bipush (v := (16 : Int32)) hx hb dX8_beginDraft_4 (by decide) ?_
  refine lv_iload_n hx hb dX8_beginDraft_6 rfl (lv_at hl 1 rfl) ?_
  obtain ⟨hi_6, hf⟩ := pe_in hf
  refine va_iast hx hb hK hP hD hS 1 0 rfl rfl hi_6 dX8_beginDraft_7 (fun H locs hP hD hS => ?_)
  have hP : va_P D xcl (wd_X8 a cyI cyJ (upd v8_sizes (Int32.toNatClampNeg (16 : Int32)) x1) v8_coefficients v8_undoneSums v8_undos v8_nextUndo v8_imageTaken) H := hP
  have hD : va_D A (wd_X8 a cyI cyJ (upd v8_sizes (Int32.toNatClampNeg (16 : Int32)) x1) v8_coefficients v8_undoneSums v8_undos v8_nextUndo v8_imageTaken) := hD
  refine lv_iconst (v := (0 : Int32)) hx hb dX8_beginDraft_8 (by decide) ?_
  refine lv_istore_n (lv' := [(2, .int (0 : Int32)), (0, .ref (a 17)), (1, .int x1)]) hx hb dX8_beginDraft_9 rfl hl (by decide) rfl (fun ls hl => ?_)
  exact w_10 1000 (upd v8_sizes (Int32.toNatClampNeg (16 : Int32)) x1) v8_coefficients (0 : Int32) H locs ls hf hP hD hS (lv_sub hl [1, 0] rfl)
def f_X8_draftMissing (v8_sizes : Nat → Int32) (v8_coefficients : Nat → Int32) : Option ((Nat → Int32) × (Nat → Int32)) := p_b2 (f_X8_beginDraft v8_sizes v8_coefficients (-1 : Int32)) (fun v8_sizes_1 v8_coefficients_2 => some (v8_sizes_1, v8_coefficients_2))
set_option maxHeartbeats 4000000 in
set_option maxRecDepth 20000 in
theorem c_X8_draftMissing (l : Launch) (D : va_G) (cyI cyJ : ClassId) (G a : Nat → Nat) (sz : Nat) (v8_sizes : Nat → Int32) (v8_coefficients : Nat → Int32) (v8_undoneSums : Nat → Int32) (v8_undos : Int32) (v8_nextUndo : Int32) (v8_imageTaken : Int32) (ov8_sizes : Nat → Int32) (ov8_coefficients : Nat → Int32) (hf : f_X8_draftMissing v8_sizes v8_coefficients = some (ov8_sizes, ov8_coefficients)) : xm_v l yX8_draftMissing (Cond.code yX8_draftMissing cX8_draftMissing 1 none :: xg_tbl) { frames := 1, cells := 0, slots := 0, locals := 22 } D xcl [(cyI, .int), (cyJ, .long)] G sz [.ref (a 17)] (wd_X8 a cyI cyJ v8_sizes v8_coefficients v8_undoneSums v8_undos v8_nextUndo v8_imageTaken) (wd_X8 a cyI cyJ ov8_sizes ov8_coefficients v8_undoneSums v8_undos v8_nextUndo v8_imageTaken) := by
  refine xm_of_v (own := RX8) (by decide) rfl rfl (Nat.le_of_ble_eq_true rfl) ?_
  intro p e s m args below meth c ls Q A hQ hAe hin Cx hsz hP hD hS hl
  have Cx1 := Cx
  obtain ⟨⟨hx, hb, hml, hown, hts⟩, hr, hlocks, hK, hA, hT⟩ := Cx1
  have hl : lv_has ls 1 [(0, .ref (a 17))] := hl
  obtain ⟨H, eH⟩ : ∃ H, H = s.heap := ⟨_, rfl⟩
  obtain ⟨locs, eL⟩ : ∃ L : List Loc, L = [] := ⟨_, rfl⟩
  rw [← eH] at hP
  have hS : va_S A s.heap H locs := by rw [eH, eL]; exact hS
  suffices hgo : W p l e { frames := 1, cells := 0, slots := 0, locals := 22 } s m args below meth c H locs 0 0 Q (F0 m 0 ls []) by rw [eH, eL] at hgo; exact hgo
  clear eH eL
  unfold f_X8_draftMissing at hf
  refine lv_aload_n hx hb dX8_draftMissing_0 rfl (lv_at hl 0 rfl) ?_
  refine lv_iconst (v := (-1 : Int32)) hx hb dX8_draftMissing_1 (by decide) ?_
  obtain ⟨v8_sizes_4, v8_coefficients_5, hk_6, hf⟩ := pe_2 hf
  refine xv_v (As := [.int (-1 : Int32)]) (rest := []) (q0 := 0) (ci := 8) Cx hP hD hS hl (pl_X8_X8 a cyI cyJ v8_sizes v8_coefficients v8_undoneSums v8_undos v8_nextUndo v8_imageTaken v8_sizes_4 v8_coefficients_5 v8_undoneSums v8_undos v8_nextUndo v8_imageTaken) (c_X8_beginDraft l D cyI cyJ G a H.size v8_sizes v8_coefficients v8_undoneSums v8_undos v8_nextUndo v8_imageTaken (-1 : Int32) v8_sizes_4 v8_coefficients_5 hk_6) pk_X8_beginDraft mw_3_27 ⟨rfl, rfl, Nat.le_of_ble_eq_true rfl, Nat.le_of_ble_eq_true rfl⟩ rfl rfl rfl rfl rfl (Nat.le_of_ble_eq_true rfl) ⟨Nat.le_of_ble_eq_true rfl, Nat.le_of_ble_eq_true rfl⟩ dX8_draftMissing_2 (fun H locs hP hD hS => ?_)
  obtain ⟨rfl, rfl⟩ := po_2 hf
  rw [← hQ]; exact xe_vret Cx hP hD hS dX8_draftMissing_5
def f_X8_addToDraft (v8_coefficients : Nat → Int32) (x1 : Int32) (x2 : Int32) : Option ((Nat → Int32)) := if x1 < 0 then (some (v8_coefficients)) else (if (22 : Int32) ≤ x1 then (some (v8_coefficients)) else (p_in ((352 : Int32) + x1) 374 (p_in ((352 : Int32) + x1) 374 (some ((upd v8_coefficients (Int32.toNatClampNeg ((352 : Int32) + x1)) ((v8_coefficients (Int32.toNatClampNeg ((352 : Int32) + x1))) + x2)))))))
set_option maxHeartbeats 4000000 in
set_option maxRecDepth 20000 in
theorem c_X8_addToDraft (l : Launch) (D : va_G) (cyI cyJ : ClassId) (G a : Nat → Nat) (sz : Nat) (v8_sizes : Nat → Int32) (v8_coefficients : Nat → Int32) (v8_undoneSums : Nat → Int32) (v8_undos : Int32) (v8_nextUndo : Int32) (v8_imageTaken : Int32) (x1 : Int32) (x2 : Int32) (ov8_coefficients : Nat → Int32) (hf : f_X8_addToDraft v8_coefficients x1 x2 = some ov8_coefficients) : xm_v l yX8_addToDraft (Cond.code yX8_addToDraft cX8_addToDraft 3 none :: xg_tbl) { frames := 0, cells := 0, slots := 0, locals := 0 } D xcl [(cyI, .int), (cyJ, .long)] G sz [.ref (a 17), .int x1, .int x2] (wd_X8 a cyI cyJ v8_sizes v8_coefficients v8_undoneSums v8_undos v8_nextUndo v8_imageTaken) (wd_X8 a cyI cyJ v8_sizes ov8_coefficients v8_undoneSums v8_undos v8_nextUndo v8_imageTaken) := by
  refine xm_of_v (own := RX8) (by decide) rfl rfl (Nat.le_of_ble_eq_true rfl) ?_
  intro p e s m args below meth c ls Q A hQ hAe hin Cx hsz hP hD hS hl
  have Cx1 := Cx
  obtain ⟨⟨hx, hb, hml, hown, hts⟩, hr, hlocks, hK, hA, hT⟩ := Cx1
  have hl : lv_has ls 3 [(0, .ref (a 17)), (1, .int x1), (2, .int x2)] := hl
  obtain ⟨H, eH⟩ : ∃ H, H = s.heap := ⟨_, rfl⟩
  obtain ⟨locs, eL⟩ : ∃ L : List Loc, L = [] := ⟨_, rfl⟩
  rw [← eH] at hP
  have hS : va_S A s.heap H locs := by rw [eH, eL]; exact hS
  suffices hgo : W p l e { frames := 0, cells := 0, slots := 0, locals := 0 } s m args below meth c H locs 0 0 Q (F0 m 0 ls []) by rw [eH, eL] at hgo; exact hgo
  clear eH eL
  unfold f_X8_addToDraft at hf
  refine lv_iload_n hx hb dX8_addToDraft_0 rfl (lv_at hl 1 rfl) ?_
  refine lv_if_lt (tgt := 24) hx hb dX8_addToDraft_1 (by decide) (fun hc_5 => ?_) (fun hc_5 => ?_)
  · have hf := pe_t hf hc_5
    obtain rfl := po_1 hf
    rw [← hQ]; exact xe_vret Cx hP hD hS dX8_addToDraft_24
  · have hf := pe_f hf hc_5
    refine lv_iload_n hx hb dX8_addToDraft_4 rfl (lv_at hl 1 rfl) ?_
    refine lv_bipush (v := (22 : Int32)) hx hb dX8_addToDraft_5 (by decide) ?_
    refine lv_icmp_ge (tgt := 24) hx hb dX8_addToDraft_7 (by decide) (fun hc_6 => ?_) (fun hc_6 => ?_)
    · have hf := pe_t hf hc_6
      obtain rfl := po_1 hf
      rw [← hQ]; exact xe_vret Cx hP hD hS dX8_addToDraft_24
    · have hf := pe_f hf hc_6
      refine lv_aload_n hx hb dX8_addToDraft_10 rfl (lv_at hl 0 rfl) ?_
      refine va_get (ci := 8) (v := .ref (a 19)) hx hb hts wX8_in hown hK hP 0 rfl rfl 1 (by decide) (hts _ mw_1_223) (fun _ h9 => h9) rfl dX8_addToDraft_11 ?_
      refine lv_sipush (v := (352 : Int32)) hx hb dX8_addToDraft_14 (by decide) ?_
      refine lv_iload_n hx hb dX8_addToDraft_17 rfl (lv_at hl 1 rfl) ?_
      refine lv_iadd hx hb dX8_addToDraft_18 ?_
      refine lv_dup2_11 hx hb dX8_addToDraft_19 rfl rfl ?_
      obtain ⟨hi_7, hf⟩ := pe_in hf
      refine va_iald hx hb hK hP 2 0 rfl rfl hi_7 dX8_addToDraft_20 ?_
      refine lv_iload_n hx hb dX8_addToDraft_21 rfl (lv_at hl 2 rfl) ?_
      refine lv_iadd hx hb dX8_addToDraft_22 ?_
      obtain ⟨hi_8, hf⟩ := pe_in hf
      refine va_iast hx hb hK hP hD hS 2 0 rfl rfl hi_8 dX8_addToDraft_23 (fun H locs hP hD hS => ?_)
      have hP : va_P D xcl (wd_X8 a cyI cyJ v8_sizes (upd v8_coefficients (Int32.toNatClampNeg ((352 : Int32) + x1)) ((v8_coefficients (Int32.toNatClampNeg ((352 : Int32) + x1))) + x2)) v8_undoneSums v8_undos v8_nextUndo v8_imageTaken) H := hP
      have hD : va_D A (wd_X8 a cyI cyJ v8_sizes (upd v8_coefficients (Int32.toNatClampNeg ((352 : Int32) + x1)) ((v8_coefficients (Int32.toNatClampNeg ((352 : Int32) + x1))) + x2)) v8_undoneSums v8_undos v8_nextUndo v8_imageTaken) := hD
      obtain rfl := po_1 hf
      rw [← hQ]; exact xe_vret Cx hP hD hS dX8_addToDraft_24
def f_X8_setInDraft (v8_coefficients : Nat → Int32) (x1 : Int32) (x2 : Int64) : Option (Int32 × (Nat → Int32)) := if (lg_cmp x2 (-1000000 : Int64)) < 0 then (if (0 : Int32) = 0 then (some ((0 : Int32), v8_coefficients)) else (if x1 < 0 then (some ((0 : Int32), v8_coefficients)) else (if (22 : Int32) ≤ x1 then (some ((0 : Int32), v8_coefficients)) else (p_in ((352 : Int32) + x1) 374 (some ((0 : Int32), (upd v8_coefficients (Int32.toNatClampNeg ((352 : Int32) + x1)) (Int64.toInt32 x2)))))))) else (if 0 < (lg_cmp x2 (1000000 : Int64)) then (if (0 : Int32) = 0 then (some ((0 : Int32), v8_coefficients)) else (if x1 < 0 then (some ((0 : Int32), v8_coefficients)) else (if (22 : Int32) ≤ x1 then (some ((0 : Int32), v8_coefficients)) else (p_in ((352 : Int32) + x1) 374 (some ((0 : Int32), (upd v8_coefficients (Int32.toNatClampNeg ((352 : Int32) + x1)) (Int64.toInt32 x2)))))))) else (if (1 : Int32) = 0 then (some ((1 : Int32), v8_coefficients)) else (if x1 < 0 then (some ((1 : Int32), v8_coefficients)) else (if (22 : Int32) ≤ x1 then (some ((1 : Int32), v8_coefficients)) else (p_in ((352 : Int32) + x1) 374 (some ((1 : Int32), (upd v8_coefficients (Int32.toNatClampNeg ((352 : Int32) + x1)) (Int64.toInt32 x2)))))))))
set_option maxHeartbeats 4000000 in
set_option maxRecDepth 20000 in
theorem c_X8_setInDraft (l : Launch) (D : va_G) (cyI cyJ : ClassId) (G a : Nat → Nat) (sz : Nat) (v8_sizes : Nat → Int32) (v8_coefficients : Nat → Int32) (v8_undoneSums : Nat → Int32) (v8_undos : Int32) (v8_nextUndo : Int32) (v8_imageTaken : Int32) (x1 : Int32) (x2 : Int64) (ro : Int32) (ov8_coefficients : Nat → Int32) (hf : f_X8_setInDraft v8_coefficients x1 x2 = some (ro, ov8_coefficients)) : xm_z l yX8_setInDraft (Cond.code yX8_setInDraft cX8_setInDraft 5 (some .boolean) :: xg_tbl) { frames := 0, cells := 0, slots := 0, locals := 0 } D xcl [(cyI, .int), (cyJ, .long)] G sz [.ref (a 17), .int x1, .long x2] (wd_X8 a cyI cyJ v8_sizes v8_coefficients v8_undoneSums v8_undos v8_nextUndo v8_imageTaken) (wd_X8 a cyI cyJ v8_sizes ov8_coefficients v8_undoneSums v8_undos v8_nextUndo v8_imageTaken) ro := by
  refine xm_of_z (own := RX8) (by decide) rfl rfl (Nat.le_of_ble_eq_true rfl) ?_
  intro p e s m args below meth c ls Q A hQ hAe hin Cx hsz hP hD hS hl
  have Cx1 := Cx
  obtain ⟨⟨hx, hb, hml, hown, hts⟩, hr, hlocks, hK, hA, hT⟩ := Cx1
  have hl : lv_has ls 5 [(0, .ref (a 17)), (1, .int x1), (2, .long x2)] := hl
  obtain ⟨H, eH⟩ : ∃ H, H = s.heap := ⟨_, rfl⟩
  obtain ⟨locs, eL⟩ : ∃ L : List Loc, L = [] := ⟨_, rfl⟩
  rw [← eH] at hP
  have hS : va_S A s.heap H locs := by rw [eH, eL]; exact hS
  suffices hgo : W p l e { frames := 0, cells := 0, slots := 0, locals := 0 } s m args below meth c H locs 0 0 Q (F0 m 0 ls []) by rw [eH, eL] at hgo; exact hgo
  clear eH eL
  unfold f_X8_setInDraft at hf
  refine lv_lload_n hx hb dX8_setInDraft_0 rfl (lv_at hl 2 rfl) ?_
  refine lv_ldc2 (v := (-1000000 : Int64)) hx hb hown (hts _ mw_3_99) dX8_setInDraft_1 ?_
  refine W.lcmp hx hb dX8_setInDraft_4 ?_
  refine lv_if_lt (tgt := 20) hx hb dX8_setInDraft_5 (by decide) (fun hc_15 => ?_) (fun hc_15 => ?_)
  · have hf := pe_t hf hc_15
    refine lv_iconst (v := (0 : Int32)) hx hb dX8_setInDraft_20 (by decide) ?_
    refine lv_istore (lv' := [(4, .int (0 : Int32)), (0, .ref (a 17)), (1, .int x1), (2, .long x2)]) hx hb dX8_setInDraft_21 hl (by decide) rfl (fun ls hl => ?_)
    refine lv_iload hx hb dX8_setInDraft_23 (lv_at hl 0 rfl) ?_
    refine lv_if_eq (tgt := 50) hx hb dX8_setInDraft_25 (by decide) (fun hc_16 => ?_) (fun hc_16 => ?_)
    · have hf := pe_t hf hc_16
      refine lv_iload hx hb dX8_setInDraft_50 (lv_at hl 0 rfl) ?_
      obtain ⟨rfl, rfl⟩ := po_2 hf
      rw [← hQ]; exact xe_zret Cx rfl rfl hP hD hS dX8_setInDraft_52
    · have hf := pe_f hf hc_16
      refine lv_iload_n hx hb dX8_setInDraft_28 rfl (lv_at hl 2 rfl) ?_
      refine lv_if_lt (tgt := 50) hx hb dX8_setInDraft_29 (by decide) (fun hc_17 => ?_) (fun hc_17 => ?_)
      · have hf := pe_t hf hc_17
        refine lv_iload hx hb dX8_setInDraft_50 (lv_at hl 0 rfl) ?_
        obtain ⟨rfl, rfl⟩ := po_2 hf
        rw [← hQ]; exact xe_zret Cx rfl rfl hP hD hS dX8_setInDraft_52
      · have hf := pe_f hf hc_17
        refine lv_iload_n hx hb dX8_setInDraft_32 rfl (lv_at hl 2 rfl) ?_
        refine lv_bipush (v := (22 : Int32)) hx hb dX8_setInDraft_33 (by decide) ?_
        refine lv_icmp_ge (tgt := 50) hx hb dX8_setInDraft_35 (by decide) (fun hc_18 => ?_) (fun hc_18 => ?_)
        · have hf := pe_t hf hc_18
          refine lv_iload hx hb dX8_setInDraft_50 (lv_at hl 0 rfl) ?_
          obtain ⟨rfl, rfl⟩ := po_2 hf
          rw [← hQ]; exact xe_zret Cx rfl rfl hP hD hS dX8_setInDraft_52
        · have hf := pe_f hf hc_18
          refine lv_aload_n hx hb dX8_setInDraft_38 rfl (lv_at hl 1 rfl) ?_
          refine va_get (ci := 8) (v := .ref (a 19)) hx hb hts wX8_in hown hK hP 0 rfl rfl 1 (by decide) (hts _ mw_1_223) (fun _ h9 => h9) rfl dX8_setInDraft_39 ?_
          refine lv_sipush (v := (352 : Int32)) hx hb dX8_setInDraft_42 (by decide) ?_
          refine lv_iload_n hx hb dX8_setInDraft_45 rfl (lv_at hl 2 rfl) ?_
          refine lv_iadd hx hb dX8_setInDraft_46 ?_
          refine lv_lload_n hx hb dX8_setInDraft_47 rfl (lv_at hl 3 rfl) ?_
          refine lv_l2i (v := Int64.toInt32 x2) hx hb dX8_setInDraft_48 rfl ?_
          obtain ⟨hi_19, hf⟩ := pe_in hf
          refine va_iast hx hb hK hP hD hS 2 0 rfl rfl hi_19 dX8_setInDraft_49 (fun H locs hP hD hS => ?_)
          have hP : va_P D xcl (wd_X8 a cyI cyJ v8_sizes (upd v8_coefficients (Int32.toNatClampNeg ((352 : Int32) + x1)) (Int64.toInt32 x2)) v8_undoneSums v8_undos v8_nextUndo v8_imageTaken) H := hP
          have hD : va_D A (wd_X8 a cyI cyJ v8_sizes (upd v8_coefficients (Int32.toNatClampNeg ((352 : Int32) + x1)) (Int64.toInt32 x2)) v8_undoneSums v8_undos v8_nextUndo v8_imageTaken) := hD
          refine lv_iload hx hb dX8_setInDraft_50 (lv_at hl 0 rfl) ?_
          obtain ⟨rfl, rfl⟩ := po_2 hf
          rw [← hQ]; exact xe_zret Cx rfl rfl hP hD hS dX8_setInDraft_52
  · have hf := pe_f hf hc_15
    refine lv_lload_n hx hb dX8_setInDraft_8 rfl (lv_at hl 2 rfl) ?_
    refine lv_ldc2 (v := (1000000 : Int64)) hx hb hown (hts _ mw_3_100) dX8_setInDraft_9 ?_
    refine W.lcmp hx hb dX8_setInDraft_12 ?_
    refine lv_if_gt (tgt := 20) hx hb dX8_setInDraft_13 (by decide) (fun hc_20 => ?_) (fun hc_20 => ?_)
    · have hf := pe_t hf hc_20
      refine lv_iconst (v := (0 : Int32)) hx hb dX8_setInDraft_20 (by decide) ?_
      refine lv_istore (lv' := [(4, .int (0 : Int32)), (0, .ref (a 17)), (1, .int x1), (2, .long x2)]) hx hb dX8_setInDraft_21 hl (by decide) rfl (fun ls hl => ?_)
      refine lv_iload hx hb dX8_setInDraft_23 (lv_at hl 0 rfl) ?_
      refine lv_if_eq (tgt := 50) hx hb dX8_setInDraft_25 (by decide) (fun hc_21 => ?_) (fun hc_21 => ?_)
      · have hf := pe_t hf hc_21
        refine lv_iload hx hb dX8_setInDraft_50 (lv_at hl 0 rfl) ?_
        obtain ⟨rfl, rfl⟩ := po_2 hf
        rw [← hQ]; exact xe_zret Cx rfl rfl hP hD hS dX8_setInDraft_52
      · have hf := pe_f hf hc_21
        refine lv_iload_n hx hb dX8_setInDraft_28 rfl (lv_at hl 2 rfl) ?_
        refine lv_if_lt (tgt := 50) hx hb dX8_setInDraft_29 (by decide) (fun hc_22 => ?_) (fun hc_22 => ?_)
        · have hf := pe_t hf hc_22
          refine lv_iload hx hb dX8_setInDraft_50 (lv_at hl 0 rfl) ?_
          obtain ⟨rfl, rfl⟩ := po_2 hf
          rw [← hQ]; exact xe_zret Cx rfl rfl hP hD hS dX8_setInDraft_52
        · have hf := pe_f hf hc_22
          refine lv_iload_n hx hb dX8_setInDraft_32 rfl (lv_at hl 2 rfl) ?_
          refine lv_bipush (v := (22 : Int32)) hx hb dX8_setInDraft_33 (by decide) ?_
          refine lv_icmp_ge (tgt := 50) hx hb dX8_setInDraft_35 (by decide) (fun hc_23 => ?_) (fun hc_23 => ?_)
          · have hf := pe_t hf hc_23
            refine lv_iload hx hb dX8_setInDraft_50 (lv_at hl 0 rfl) ?_
            obtain ⟨rfl, rfl⟩ := po_2 hf
            rw [← hQ]; exact xe_zret Cx rfl rfl hP hD hS dX8_setInDraft_52
          · have hf := pe_f hf hc_23
            refine lv_aload_n hx hb dX8_setInDraft_38 rfl (lv_at hl 1 rfl) ?_
            refine va_get (ci := 8) (v := .ref (a 19)) hx hb hts wX8_in hown hK hP 0 rfl rfl 1 (by decide) (hts _ mw_1_223) (fun _ h9 => h9) rfl dX8_setInDraft_39 ?_
            refine lv_sipush (v := (352 : Int32)) hx hb dX8_setInDraft_42 (by decide) ?_
            refine lv_iload_n hx hb dX8_setInDraft_45 rfl (lv_at hl 2 rfl) ?_
            refine lv_iadd hx hb dX8_setInDraft_46 ?_
            refine lv_lload_n hx hb dX8_setInDraft_47 rfl (lv_at hl 3 rfl) ?_
            refine lv_l2i (v := Int64.toInt32 x2) hx hb dX8_setInDraft_48 rfl ?_
            obtain ⟨hi_24, hf⟩ := pe_in hf
            refine va_iast hx hb hK hP hD hS 2 0 rfl rfl hi_24 dX8_setInDraft_49 (fun H locs hP hD hS => ?_)
            have hP : va_P D xcl (wd_X8 a cyI cyJ v8_sizes (upd v8_coefficients (Int32.toNatClampNeg ((352 : Int32) + x1)) (Int64.toInt32 x2)) v8_undoneSums v8_undos v8_nextUndo v8_imageTaken) H := hP
            have hD : va_D A (wd_X8 a cyI cyJ v8_sizes (upd v8_coefficients (Int32.toNatClampNeg ((352 : Int32) + x1)) (Int64.toInt32 x2)) v8_undoneSums v8_undos v8_nextUndo v8_imageTaken) := hD
            refine lv_iload hx hb dX8_setInDraft_50 (lv_at hl 0 rfl) ?_
            obtain ⟨rfl, rfl⟩ := po_2 hf
            rw [← hQ]; exact xe_zret Cx rfl rfl hP hD hS dX8_setInDraft_52
    · have hf := pe_f hf hc_20
      refine lv_iconst (v := (1 : Int32)) hx hb dX8_setInDraft_16 (by decide) ?_
      refine lv_goto (tgt := 21) hx hb dX8_setInDraft_17 (by decide) ?_
      refine lv_istore (lv' := [(4, .int (1 : Int32)), (0, .ref (a 17)), (1, .int x1), (2, .long x2)]) hx hb dX8_setInDraft_21 hl (by decide) rfl (fun ls hl => ?_)
      refine lv_iload hx hb dX8_setInDraft_23 (lv_at hl 0 rfl) ?_
      refine lv_if_eq (tgt := 50) hx hb dX8_setInDraft_25 (by decide) (fun hc_25 => ?_) (fun hc_25 => ?_)
      · have hf := pe_t hf hc_25
        refine lv_iload hx hb dX8_setInDraft_50 (lv_at hl 0 rfl) ?_
        obtain ⟨rfl, rfl⟩ := po_2 hf
        rw [← hQ]; exact xe_zret Cx rfl rfl hP hD hS dX8_setInDraft_52
      · have hf := pe_f hf hc_25
        refine lv_iload_n hx hb dX8_setInDraft_28 rfl (lv_at hl 2 rfl) ?_
        refine lv_if_lt (tgt := 50) hx hb dX8_setInDraft_29 (by decide) (fun hc_26 => ?_) (fun hc_26 => ?_)
        · have hf := pe_t hf hc_26
          refine lv_iload hx hb dX8_setInDraft_50 (lv_at hl 0 rfl) ?_
          obtain ⟨rfl, rfl⟩ := po_2 hf
          rw [← hQ]; exact xe_zret Cx rfl rfl hP hD hS dX8_setInDraft_52
        · have hf := pe_f hf hc_26
          refine lv_iload_n hx hb dX8_setInDraft_32 rfl (lv_at hl 2 rfl) ?_
          refine lv_bipush (v := (22 : Int32)) hx hb dX8_setInDraft_33 (by decide) ?_
          refine lv_icmp_ge (tgt := 50) hx hb dX8_setInDraft_35 (by decide) (fun hc_27 => ?_) (fun hc_27 => ?_)
          · have hf := pe_t hf hc_27
            refine lv_iload hx hb dX8_setInDraft_50 (lv_at hl 0 rfl) ?_
            obtain ⟨rfl, rfl⟩ := po_2 hf
            rw [← hQ]; exact xe_zret Cx rfl rfl hP hD hS dX8_setInDraft_52
          · have hf := pe_f hf hc_27
            refine lv_aload_n hx hb dX8_setInDraft_38 rfl (lv_at hl 1 rfl) ?_
            refine va_get (ci := 8) (v := .ref (a 19)) hx hb hts wX8_in hown hK hP 0 rfl rfl 1 (by decide) (hts _ mw_1_223) (fun _ h9 => h9) rfl dX8_setInDraft_39 ?_
            refine lv_sipush (v := (352 : Int32)) hx hb dX8_setInDraft_42 (by decide) ?_
            refine lv_iload_n hx hb dX8_setInDraft_45 rfl (lv_at hl 2 rfl) ?_
            refine lv_iadd hx hb dX8_setInDraft_46 ?_
            refine lv_lload_n hx hb dX8_setInDraft_47 rfl (lv_at hl 3 rfl) ?_
            refine lv_l2i (v := Int64.toInt32 x2) hx hb dX8_setInDraft_48 rfl ?_
            obtain ⟨hi_28, hf⟩ := pe_in hf
            refine va_iast hx hb hK hP hD hS 2 0 rfl rfl hi_28 dX8_setInDraft_49 (fun H locs hP hD hS => ?_)
            have hP : va_P D xcl (wd_X8 a cyI cyJ v8_sizes (upd v8_coefficients (Int32.toNatClampNeg ((352 : Int32) + x1)) (Int64.toInt32 x2)) v8_undoneSums v8_undos v8_nextUndo v8_imageTaken) H := hP
            have hD : va_D A (wd_X8 a cyI cyJ v8_sizes (upd v8_coefficients (Int32.toNatClampNeg ((352 : Int32) + x1)) (Int64.toInt32 x2)) v8_undoneSums v8_undos v8_nextUndo v8_imageTaken) := hD
            refine lv_iload hx hb dX8_setInDraft_50 (lv_at hl 0 rfl) ?_
            obtain ⟨rfl, rfl⟩ := po_2 hf
            rw [← hQ]; exact xe_zret Cx rfl rfl hP hD hS dX8_setInDraft_52
def f_X8_copy (v8_sizes : Nat → Int32) (v8_coefficients : Nat → Int32) (x1 : Int32) (x2 : Int32) : Option ((Nat → Int32) × (Nat → Int32)) := if x1 < 0 then (some (v8_sizes, v8_coefficients)) else (if (17 : Int32) ≤ x1 then (some (v8_sizes, v8_coefficients)) else (if x2 < 0 then (some (v8_sizes, v8_coefficients)) else (if (17 : Int32) ≤ x2 then (some (v8_sizes, v8_coefficients)) else (p_in x1 17 (p_in x2 17 (p_cp (x1 * (22 : Int32)) (x2 * (22 : Int32)) (22 : Int32) 374 (some ((upd v8_sizes (Int32.toNatClampNeg x2) (v8_sizes (Int32.toNatClampNeg x1))), (va_cpy v8_coefficients v8_coefficients (Int32.toNatClampNeg (x1 * (22 : Int32))) (Int32.toNatClampNeg (x2 * (22 : Int32))) (Int32.toNatClampNeg (22 : Int32)))))))))))
set_option maxHeartbeats 4000000 in
set_option maxRecDepth 20000 in
theorem c_X8_copy (l : Launch) (D : va_G) (cyI cyJ : ClassId) (G a : Nat → Nat) (sz : Nat) (v8_sizes : Nat → Int32) (v8_coefficients : Nat → Int32) (v8_undoneSums : Nat → Int32) (v8_undos : Int32) (v8_nextUndo : Int32) (v8_imageTaken : Int32) (x1 : Int32) (x2 : Int32) (ov8_sizes : Nat → Int32) (ov8_coefficients : Nat → Int32) (hf : f_X8_copy v8_sizes v8_coefficients x1 x2 = some (ov8_sizes, ov8_coefficients)) : xm_v l yX8_copy (Cond.code yX8_copy cX8_copy 3 none :: xg_tbl) { frames := 1, cells := 0, slots := 0, locals := 68 } D xcl [(cyI, .int), (cyJ, .long)] G sz [.ref (a 17), .int x1, .int x2] (wd_X8 a cyI cyJ v8_sizes v8_coefficients v8_undoneSums v8_undos v8_nextUndo v8_imageTaken) (wd_X8 a cyI cyJ ov8_sizes ov8_coefficients v8_undoneSums v8_undos v8_nextUndo v8_imageTaken) := by
  refine xm_of_v (own := RX8) (by decide) rfl rfl (Nat.le_of_ble_eq_true rfl) ?_
  intro p e s m args below meth c ls Q A hQ hAe hin Cx hsz hP hD hS hl
  have Cx1 := Cx
  obtain ⟨⟨hx, hb, hml, hown, hts⟩, hr, hlocks, hK, hA, hT⟩ := Cx1
  have hl : lv_has ls 3 [(0, .ref (a 17)), (1, .int x1), (2, .int x2)] := hl
  obtain ⟨H, eH⟩ : ∃ H, H = s.heap := ⟨_, rfl⟩
  obtain ⟨locs, eL⟩ : ∃ L : List Loc, L = [] := ⟨_, rfl⟩
  rw [← eH] at hP
  have hS : va_S A s.heap H locs := by rw [eH, eL]; exact hS
  suffices hgo : W p l e { frames := 1, cells := 0, slots := 0, locals := 68 } s m args below meth c H locs 0 0 Q (F0 m 0 ls []) by rw [eH, eL] at hgo; exact hgo
  clear eH eL
  unfold f_X8_copy at hf
  refine lv_iload_n hx hb dX8_copy_0 rfl (lv_at hl 1 rfl) ?_
  refine lv_if_lt (tgt := 53) hx hb dX8_copy_1 (by decide) (fun hc_12 => ?_) (fun hc_12 => ?_)
  · have hf := pe_t hf hc_12
    obtain ⟨rfl, rfl⟩ := po_2 hf
    rw [← hQ]; exact xe_vret Cx hP hD hS dX8_copy_53
  · have hf := pe_f hf hc_12
    refine lv_iload_n hx hb dX8_copy_4 rfl (lv_at hl 1 rfl) ?_
    refine lv_bipush (v := (17 : Int32)) hx hb dX8_copy_5 (by decide) ?_
    refine lv_icmp_ge (tgt := 53) hx hb dX8_copy_7 (by decide) (fun hc_13 => ?_) (fun hc_13 => ?_)
    · have hf := pe_t hf hc_13
      obtain ⟨rfl, rfl⟩ := po_2 hf
      rw [← hQ]; exact xe_vret Cx hP hD hS dX8_copy_53
    · have hf := pe_f hf hc_13
      refine lv_iload_n hx hb dX8_copy_10 rfl (lv_at hl 2 rfl) ?_
      refine lv_if_lt (tgt := 53) hx hb dX8_copy_11 (by decide) (fun hc_14 => ?_) (fun hc_14 => ?_)
      · have hf := pe_t hf hc_14
        obtain ⟨rfl, rfl⟩ := po_2 hf
        rw [← hQ]; exact xe_vret Cx hP hD hS dX8_copy_53
      · have hf := pe_f hf hc_14
        refine lv_iload_n hx hb dX8_copy_14 rfl (lv_at hl 2 rfl) ?_
        refine lv_bipush (v := (17 : Int32)) hx hb dX8_copy_15 (by decide) ?_
        refine lv_icmp_ge (tgt := 53) hx hb dX8_copy_17 (by decide) (fun hc_15 => ?_) (fun hc_15 => ?_)
        · have hf := pe_t hf hc_15
          obtain ⟨rfl, rfl⟩ := po_2 hf
          rw [← hQ]; exact xe_vret Cx hP hD hS dX8_copy_53
        · have hf := pe_f hf hc_15
          refine lv_aload_n hx hb dX8_copy_20 rfl (lv_at hl 0 rfl) ?_
          refine va_get (ci := 8) (v := .ref (a 18)) hx hb hts wX8_in hown hK hP 0 rfl rfl 0 (by decide) (hts _ mw_1_222) (fun _ h9 => h9) rfl dX8_copy_21 ?_
          refine lv_iload_n hx hb dX8_copy_24 rfl (lv_at hl 2 rfl) ?_
          refine lv_aload_n hx hb dX8_copy_25 rfl (lv_at hl 0 rfl) ?_
          refine va_get (ci := 8) (v := .ref (a 18)) hx hb hts wX8_in hown hK hP 0 rfl rfl 0 (by decide) (hts _ mw_1_222) (fun _ h9 => h9) rfl dX8_copy_26 ?_
          refine lv_iload_n hx hb dX8_copy_29 rfl (lv_at hl 1 rfl) ?_
          obtain ⟨hi_16, hf⟩ := pe_in hf
          refine va_iald hx hb hK hP 1 0 rfl rfl hi_16 dX8_copy_30 ?_
          obtain ⟨hi_17, hf⟩ := pe_in hf
          refine va_iast hx hb hK hP hD hS 1 0 rfl rfl hi_17 dX8_copy_31 (fun H locs hP hD hS => ?_)
          have hP : va_P D xcl (wd_X8 a cyI cyJ (upd v8_sizes (Int32.toNatClampNeg x2) (v8_sizes (Int32.toNatClampNeg x1))) v8_coefficients v8_undoneSums v8_undos v8_nextUndo v8_imageTaken) H := hP
          have hD : va_D A (wd_X8 a cyI cyJ (upd v8_sizes (Int32.toNatClampNeg x2) (v8_sizes (Int32.toNatClampNeg x1))) v8_coefficients v8_undoneSums v8_undos v8_nextUndo v8_imageTaken) := hD
          refine lv_aload_n hx hb dX8_copy_32 rfl (lv_at hl 0 rfl) ?_
          refine va_get (ci := 8) (v := .ref (a 19)) hx hb hts wX8_in hown hK hP 0 rfl rfl 1 (by decide) (hts _ mw_1_223) (fun _ h9 => h9) rfl dX8_copy_33 ?_
          refine lv_iload_n hx hb dX8_copy_36 rfl (lv_at hl 1 rfl) ?_
          refine lv_bipush (v := (22 : Int32)) hx hb dX8_copy_37 (by decide) ?_
          refine lv_imul hx hb dX8_copy_39 ?_
          refine lv_aload_n hx hb dX8_copy_40 rfl (lv_at hl 0 rfl) ?_
          refine va_get (ci := 8) (v := .ref (a 19)) hx hb hts wX8_in hown hK hP 0 rfl rfl 1 (by decide) (hts _ mw_1_223) (fun _ h9 => h9) rfl dX8_copy_41 ?_
          refine lv_iload_n hx hb dX8_copy_44 rfl (lv_at hl 2 rfl) ?_
          refine lv_bipush (v := (22 : Int32)) hx hb dX8_copy_45 (by decide) ?_
          refine lv_imul hx hb dX8_copy_47 ?_
          refine lv_bipush (v := (22 : Int32)) hx hb dX8_copy_48 (by decide) ?_
          obtain ⟨hq_18, hq_19, hq_20, hq_21, hq_22, hf⟩ := pe_cp hf
          refine va_copyi hx hb (hml.trans hl.1.symm) hown (hts _ mw_3_39) (hts _ mw_3_41) (hts _ mw_3_40) (hts _ mw_1_11) hK hP hD hS 2 2 0 0 rfl rfl rfl rfl rfl hq_18 hq_19 hq_20 hq_21 hq_22 (fun _ _ => rfl) (Nat.le_of_ble_eq_true rfl) (Nat.le_of_ble_eq_true rfl) dX8_copy_50 (fun H locs hP hD hS => ?_)
          have hP : va_P D xcl (wd_X8 a cyI cyJ (upd v8_sizes (Int32.toNatClampNeg x2) (v8_sizes (Int32.toNatClampNeg x1))) (va_cpy v8_coefficients v8_coefficients (Int32.toNatClampNeg (x1 * (22 : Int32))) (Int32.toNatClampNeg (x2 * (22 : Int32))) (Int32.toNatClampNeg (22 : Int32))) v8_undoneSums v8_undos v8_nextUndo v8_imageTaken) H := hP
          have hD : va_D A (wd_X8 a cyI cyJ (upd v8_sizes (Int32.toNatClampNeg x2) (v8_sizes (Int32.toNatClampNeg x1))) (va_cpy v8_coefficients v8_coefficients (Int32.toNatClampNeg (x1 * (22 : Int32))) (Int32.toNatClampNeg (x2 * (22 : Int32))) (Int32.toNatClampNeg (22 : Int32))) v8_undoneSums v8_undos v8_nextUndo v8_imageTaken) := hD
          obtain ⟨rfl, rfl⟩ := po_2 hf
          rw [← hQ]; exact xe_vret Cx hP hD hS dX8_copy_53
def f_X8_keepDraft (v8_sizes : Nat → Int32) (v8_coefficients : Nat → Int32) (v8_undoneSums : Nat → Int32) (v8_undos : Int32) (v8_nextUndo : Int32) (x1 : Int32) : Option ((Nat → Int32) × (Nat → Int32) × (Nat → Int32) × Int32 × Int32) := p_b1 (f_X8_has x1) (fun r_1 => if r_1 = 0 then (some (v8_sizes, v8_coefficients, v8_undoneSums, v8_undos, v8_nextUndo)) else (if v8_nextUndo < 0 then (some (v8_sizes, v8_coefficients, v8_undoneSums, v8_undos, v8_nextUndo)) else (if (8 : Int32) ≤ v8_nextUndo then (some (v8_sizes, v8_coefficients, v8_undoneSums, v8_undos, v8_nextUndo)) else (p_b2 (f_X8_copy v8_sizes v8_coefficients x1 ((8 : Int32) + v8_nextUndo)) (fun v8_sizes_7 v8_coefficients_8 => p_in v8_nextUndo 8 (p_nz (8 : Int32) (p_b2 (f_X8_copy v8_sizes_7 v8_coefficients_8 (16 : Int32) x1) (fun v8_sizes_12 v8_coefficients_13 => some (v8_sizes_12, v8_coefficients_13, (upd v8_undoneSums (Int32.toNatClampNeg v8_nextUndo) x1), (if (8 : Int32) < (v8_undos + (1 : Int32)) then (8 : Int32) else (v8_undos + (1 : Int32))), ((v8_nextUndo + (1 : Int32)) - (v8_nextUndo + (1 : Int32)) / (8 : Int32) * (8 : Int32)))))))))))
set_option maxHeartbeats 4000000 in
set_option maxRecDepth 20000 in
theorem c_X8_keepDraft (l : Launch) (D : va_G) (cyI cyJ : ClassId) (G a : Nat → Nat) (sz : Nat) (v8_sizes : Nat → Int32) (v8_coefficients : Nat → Int32) (v8_undoneSums : Nat → Int32) (v8_undos : Int32) (v8_nextUndo : Int32) (v8_imageTaken : Int32) (x1 : Int32) (ov8_sizes : Nat → Int32) (ov8_coefficients : Nat → Int32) (ov8_undoneSums : Nat → Int32) (ov8_undos : Int32) (ov8_nextUndo : Int32) (hf : f_X8_keepDraft v8_sizes v8_coefficients v8_undoneSums v8_undos v8_nextUndo x1 = some (ov8_sizes, ov8_coefficients, ov8_undoneSums, ov8_undos, ov8_nextUndo)) : xm_v l yX8_keepDraft (Cond.code yX8_keepDraft cX8_keepDraft 2 none :: xg_tbl) { frames := 2, cells := 0, slots := 0, locals := 90 } D xcl [(cyI, .int), (cyJ, .long)] G sz [.ref (a 17), .int x1] (wd_X8 a cyI cyJ v8_sizes v8_coefficients v8_undoneSums v8_undos v8_nextUndo v8_imageTaken) (wd_X8 a cyI cyJ ov8_sizes ov8_coefficients ov8_undoneSums ov8_undos ov8_nextUndo v8_imageTaken) := by
  refine xm_of_v (own := RX8) (by decide) rfl rfl (Nat.le_of_ble_eq_true rfl) ?_
  intro p e s m args below meth c ls Q A hQ hAe hin Cx hsz hP hD hS hl
  have Cx1 := Cx
  obtain ⟨⟨hx, hb, hml, hown, hts⟩, hr, hlocks, hK, hA, hT⟩ := Cx1
  have hl : lv_has ls 2 [(0, .ref (a 17)), (1, .int x1)] := hl
  obtain ⟨H, eH⟩ : ∃ H, H = s.heap := ⟨_, rfl⟩
  obtain ⟨locs, eL⟩ : ∃ L : List Loc, L = [] := ⟨_, rfl⟩
  rw [← eH] at hP
  have hS : va_S A s.heap H locs := by rw [eH, eL]; exact hS
  suffices hgo : W p l e { frames := 2, cells := 0, slots := 0, locals := 90 } s m args below meth c H locs 0 0 Q (F0 m 0 ls []) by rw [eH, eL] at hgo; exact hgo
  clear eH eL
  unfold f_X8_keepDraft at hf
  refine lv_aload_n hx hb dX8_keepDraft_0 rfl (lv_at hl 0 rfl) ?_
  refine lv_iload_n hx hb dX8_keepDraft_1 rfl (lv_at hl 1 rfl) ?_
  obtain ⟨r_15, hk_16, hf⟩ := pe_1 hf
  refine xv_z (As := [.int x1]) (rest := []) (q0 := 0) (ci := 8) Cx hP hD hS hl (pl_X8_X8 a cyI cyJ v8_sizes v8_coefficients v8_undoneSums v8_undos v8_nextUndo v8_imageTaken v8_sizes v8_coefficients v8_undoneSums v8_undos v8_nextUndo v8_imageTaken) (c_X8_has l D cyI cyJ G a H.size v8_sizes v8_coefficients v8_undoneSums v8_undos v8_nextUndo v8_imageTaken x1 r_15 hk_16) pk_X8_has mw_3_22 ⟨rfl, rfl, Nat.le_of_ble_eq_true rfl, Nat.le_of_ble_eq_true rfl⟩ rfl rfl rfl rfl rfl (Nat.le_of_ble_eq_true rfl) ⟨Nat.le_of_ble_eq_true rfl, Nat.le_of_ble_eq_true rfl⟩ dX8_keepDraft_2 (fun H locs hn_17 hP hD hS => ?_)
  refine lv_if_eq (tgt := 81) hx hb dX8_keepDraft_5 (by decide) (fun hc_18 => ?_) (fun hc_18 => ?_)
  · have hf := pe_t hf hc_18
    obtain ⟨rfl, rfl, rfl, rfl, rfl⟩ := po_5 hf
    rw [← hQ]; exact xe_vret Cx hP hD hS dX8_keepDraft_81
  · have hf := pe_f hf hc_18
    refine lv_aload_n hx hb dX8_keepDraft_8 rfl (lv_at hl 0 rfl) ?_
    refine va_get (ci := 8) (v := .int v8_nextUndo) hx hb hts wX8_in hown hK hP 0 rfl rfl 4 (by decide) (hts _ mw_1_226) (fun _ h9 => h9) rfl dX8_keepDraft_9 ?_
    refine lv_if_lt (tgt := 81) hx hb dX8_keepDraft_12 (by decide) (fun hc_19 => ?_) (fun hc_19 => ?_)
    · have hf := pe_t hf hc_19
      obtain ⟨rfl, rfl, rfl, rfl, rfl⟩ := po_5 hf
      rw [← hQ]; exact xe_vret Cx hP hD hS dX8_keepDraft_81
    · have hf := pe_f hf hc_19
      refine lv_aload_n hx hb dX8_keepDraft_15 rfl (lv_at hl 0 rfl) ?_
      refine va_get (ci := 8) (v := .int v8_nextUndo) hx hb hts wX8_in hown hK hP 0 rfl rfl 4 (by decide) (hts _ mw_1_226) (fun _ h9 => h9) rfl dX8_keepDraft_16 ?_
      refine lv_bipush (v := (8 : Int32)) hx hb dX8_keepDraft_19 (by decide) ?_
      refine lv_icmp_ge (tgt := 81) hx hb dX8_keepDraft_21 (by decide) (fun hc_20 => ?_) (fun hc_20 => ?_)
      · have hf := pe_t hf hc_20
        obtain ⟨rfl, rfl, rfl, rfl, rfl⟩ := po_5 hf
        rw [← hQ]; exact xe_vret Cx hP hD hS dX8_keepDraft_81
      · have hf := pe_f hf hc_20
        refine lv_aload_n hx hb dX8_keepDraft_24 rfl (lv_at hl 0 rfl) ?_
        refine lv_iload_n hx hb dX8_keepDraft_25 rfl (lv_at hl 1 rfl) ?_
        refine lv_bipush (v := (8 : Int32)) hx hb dX8_keepDraft_26 (by decide) ?_
        refine lv_aload_n hx hb dX8_keepDraft_28 rfl (lv_at hl 0 rfl) ?_
        refine va_get (ci := 8) (v := .int v8_nextUndo) hx hb hts wX8_in hown hK hP 0 rfl rfl 4 (by decide) (hts _ mw_1_226) (fun _ h9 => h9) rfl dX8_keepDraft_29 ?_
        refine lv_iadd hx hb dX8_keepDraft_32 ?_
        obtain ⟨v8_sizes_21, v8_coefficients_22, hk_23, hf⟩ := pe_2 hf
        refine xv_v (As := [.int x1, .int ((8 : Int32) + v8_nextUndo)]) (rest := []) (q0 := 0) (ci := 8) Cx hP hD hS hl (pl_X8_X8 a cyI cyJ v8_sizes v8_coefficients v8_undoneSums v8_undos v8_nextUndo v8_imageTaken v8_sizes_21 v8_coefficients_22 v8_undoneSums v8_undos v8_nextUndo v8_imageTaken) (c_X8_copy l D cyI cyJ G a H.size v8_sizes v8_coefficients v8_undoneSums v8_undos v8_nextUndo v8_imageTaken x1 ((8 : Int32) + v8_nextUndo) v8_sizes_21 v8_coefficients_22 hk_23) pk_X8_copy mw_3_35 ⟨rfl, rfl, Nat.le_of_ble_eq_true rfl, Nat.le_of_ble_eq_true rfl⟩ rfl rfl rfl rfl rfl (Nat.le_of_ble_eq_true rfl) ⟨Nat.le_of_ble_eq_true rfl, Nat.le_of_ble_eq_true rfl⟩ dX8_keepDraft_33 (fun H locs hP hD hS => ?_)
        refine lv_aload_n hx hb dX8_keepDraft_36 rfl (lv_at hl 0 rfl) ?_
        refine va_get (ci := 8) (v := .ref (a 20)) hx hb hts wX8_in hown hK hP 0 rfl rfl 2 (by decide) (hts _ mw_1_224) (fun _ h9 => h9) rfl dX8_keepDraft_37 ?_
        refine lv_aload_n hx hb dX8_keepDraft_40 rfl (lv_at hl 0 rfl) ?_
        refine va_get (ci := 8) (v := .int v8_nextUndo) hx hb hts wX8_in hown hK hP 0 rfl rfl 4 (by decide) (hts _ mw_1_226) (fun _ h9 => h9) rfl dX8_keepDraft_41 ?_
        refine lv_iload_n hx hb dX8_keepDraft_44 rfl (lv_at hl 1 rfl) ?_
        obtain ⟨hi_24, hf⟩ := pe_in hf
        refine va_iast hx hb hK hP hD hS 3 0 rfl rfl hi_24 dX8_keepDraft_45 (fun H locs hP hD hS => ?_)
        have hP : va_P D xcl (wd_X8 a cyI cyJ v8_sizes_21 v8_coefficients_22 (upd v8_undoneSums (Int32.toNatClampNeg v8_nextUndo) x1) v8_undos v8_nextUndo v8_imageTaken) H := hP
        have hD : va_D A (wd_X8 a cyI cyJ v8_sizes_21 v8_coefficients_22 (upd v8_undoneSums (Int32.toNatClampNeg v8_nextUndo) x1) v8_undos v8_nextUndo v8_imageTaken) := hD
        refine lv_aload_n hx hb dX8_keepDraft_46 rfl (lv_at hl 0 rfl) ?_
        refine lv_aload_n hx hb dX8_keepDraft_47 rfl (lv_at hl 0 rfl) ?_
        refine va_get (ci := 8) (v := .int v8_nextUndo) hx hb hts wX8_in hown hK hP 0 rfl rfl 4 (by decide) (hts _ mw_1_226) (fun _ h9 => h9) rfl dX8_keepDraft_48 ?_
        refine lv_iconst (v := (1 : Int32)) hx hb dX8_keepDraft_51 (by decide) ?_
        refine lv_iadd hx hb dX8_keepDraft_52 ?_
        refine lv_bipush (v := (8 : Int32)) hx hb dX8_keepDraft_53 (by decide) ?_
        obtain ⟨hz_25, hf⟩ := pe_nz hf
        refine lv_irem hx hb dX8_keepDraft_55 hz_25 ?_
        refine va_put (ci := 8) (v := .int ((v8_nextUndo + (1 : Int32)) - (v8_nextUndo + (1 : Int32)) / (8 : Int32) * (8 : Int32))) (ty := .int) hx hb hts wX8_in tyX8 tyX8_ok nmX8 hown hK hP hD hS 0 rfl rfl 4 (by decide) (hts _ mw_1_226) (fun _ h9 => h9) rfl (by decide +kernel) rfl rfl (Nat.le_of_ble_eq_true rfl) dX8_keepDraft_56 (fun H locs hP hD hS => ?_)
        have hP : va_P D xcl (wd_X8 a cyI cyJ v8_sizes_21 v8_coefficients_22 (upd v8_undoneSums (Int32.toNatClampNeg v8_nextUndo) x1) v8_undos ((v8_nextUndo + (1 : Int32)) - (v8_nextUndo + (1 : Int32)) / (8 : Int32) * (8 : Int32)) v8_imageTaken) H := hP
        have hD : va_D A (wd_X8 a cyI cyJ v8_sizes_21 v8_coefficients_22 (upd v8_undoneSums (Int32.toNatClampNeg v8_nextUndo) x1) v8_undos ((v8_nextUndo + (1 : Int32)) - (v8_nextUndo + (1 : Int32)) / (8 : Int32) * (8 : Int32)) v8_imageTaken) := hD
        refine lv_aload_n hx hb dX8_keepDraft_59 rfl (lv_at hl 0 rfl) ?_
        refine lv_aload_n hx hb dX8_keepDraft_60 rfl (lv_at hl 0 rfl) ?_
        refine va_get (ci := 8) (v := .int v8_undos) hx hb hts wX8_in hown hK hP 0 rfl rfl 3 (by decide) (hts _ mw_1_225) (fun _ h9 => h9) rfl dX8_keepDraft_61 ?_
        refine lv_iconst (v := (1 : Int32)) hx hb dX8_keepDraft_64 (by decide) ?_
        refine lv_iadd hx hb dX8_keepDraft_65 ?_
        refine lv_bipush (v := (8 : Int32)) hx hb dX8_keepDraft_66 (by decide) ?_
        refine va_mmin hx hb (hml.trans hl.1.symm) hown (hts _ mw_3_42) (hts _ mw_2_183) (hts _ mw_1_12) (hts _ mw_2_184) (Nat.le_of_ble_eq_true rfl) (Nat.le_of_ble_eq_true rfl) (Nat.zero_le _) (Nat.zero_le _) dX8_keepDraft_68 ?_
        refine va_put (ci := 8) (v := .int (if (8 : Int32) < (v8_undos + (1 : Int32)) then (8 : Int32) else (v8_undos + (1 : Int32)))) (ty := .int) hx hb hts wX8_in tyX8 tyX8_ok nmX8 hown hK hP hD hS 0 rfl rfl 3 (by decide) (hts _ mw_1_225) (fun _ h9 => h9) rfl (by decide +kernel) rfl rfl (Nat.le_of_ble_eq_true rfl) dX8_keepDraft_71 (fun H locs hP hD hS => ?_)
        have hP : va_P D xcl (wd_X8 a cyI cyJ v8_sizes_21 v8_coefficients_22 (upd v8_undoneSums (Int32.toNatClampNeg v8_nextUndo) x1) (if (8 : Int32) < (v8_undos + (1 : Int32)) then (8 : Int32) else (v8_undos + (1 : Int32))) ((v8_nextUndo + (1 : Int32)) - (v8_nextUndo + (1 : Int32)) / (8 : Int32) * (8 : Int32)) v8_imageTaken) H := hP
        have hD : va_D A (wd_X8 a cyI cyJ v8_sizes_21 v8_coefficients_22 (upd v8_undoneSums (Int32.toNatClampNeg v8_nextUndo) x1) (if (8 : Int32) < (v8_undos + (1 : Int32)) then (8 : Int32) else (v8_undos + (1 : Int32))) ((v8_nextUndo + (1 : Int32)) - (v8_nextUndo + (1 : Int32)) / (8 : Int32) * (8 : Int32)) v8_imageTaken) := hD
        refine lv_aload_n hx hb dX8_keepDraft_74 rfl (lv_at hl 0 rfl) ?_
        refine lv_bipush (v := (16 : Int32)) hx hb dX8_keepDraft_75 (by decide) ?_
        refine lv_iload_n hx hb dX8_keepDraft_77 rfl (lv_at hl 1 rfl) ?_
        obtain ⟨v8_sizes_26, v8_coefficients_27, hk_28, hf⟩ := pe_2 hf
        refine xv_v (As := [.int (16 : Int32), .int x1]) (rest := []) (q0 := 0) (ci := 8) Cx hP hD hS hl (pl_X8_X8 a cyI cyJ v8_sizes_21 v8_coefficients_22 (upd v8_undoneSums (Int32.toNatClampNeg v8_nextUndo) x1) (if (8 : Int32) < (v8_undos + (1 : Int32)) then (8 : Int32) else (v8_undos + (1 : Int32))) ((v8_nextUndo + (1 : Int32)) - (v8_nextUndo + (1 : Int32)) / (8 : Int32) * (8 : Int32)) v8_imageTaken v8_sizes_26 v8_coefficients_27 (upd v8_undoneSums (Int32.toNatClampNeg v8_nextUndo) x1) (if (8 : Int32) < (v8_undos + (1 : Int32)) then (8 : Int32) else (v8_undos + (1 : Int32))) ((v8_nextUndo + (1 : Int32)) - (v8_nextUndo + (1 : Int32)) / (8 : Int32) * (8 : Int32)) v8_imageTaken) (c_X8_copy l D cyI cyJ G a H.size v8_sizes_21 v8_coefficients_22 (upd v8_undoneSums (Int32.toNatClampNeg v8_nextUndo) x1) (if (8 : Int32) < (v8_undos + (1 : Int32)) then (8 : Int32) else (v8_undos + (1 : Int32))) ((v8_nextUndo + (1 : Int32)) - (v8_nextUndo + (1 : Int32)) / (8 : Int32) * (8 : Int32)) v8_imageTaken (16 : Int32) x1 v8_sizes_26 v8_coefficients_27 hk_28) pk_X8_copy mw_3_35 ⟨rfl, rfl, Nat.le_of_ble_eq_true rfl, Nat.le_of_ble_eq_true rfl⟩ rfl rfl rfl rfl rfl (Nat.le_of_ble_eq_true rfl) ⟨Nat.le_of_ble_eq_true rfl, Nat.le_of_ble_eq_true rfl⟩ dX8_keepDraft_78 (fun H locs hP hD hS => ?_)
        obtain ⟨rfl, rfl, rfl, rfl, rfl⟩ := po_5 hf
        rw [← hQ]; exact xe_vret Cx hP hD hS dX8_keepDraft_81
