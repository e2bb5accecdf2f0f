def f_X10_character_14 (v10_sizeOf : Nat → Int32) (v10_character : Nat → Int32) (v10_refusals : Nat → Int32) : Option (Int32 × (Nat → Int32)) := p_b2 (f_X10_far v10_refusals (-1 : Int32)) (fun r_1 v10_refusals_2 => some (r_1, v10_refusals_2))
def f_X10_character (v10_sizeOf : Nat → Int32) (v10_character : Nat → Int32) (v10_refusals : Nat → Int32) (x1 : Int32) (x2 : Int32) : Option (Int32 × (Nat → Int32)) := p_b1 (f_X10_isShape x1) (fun r_4 => if r_4 = 0 then ((f_X10_character_14 v10_sizeOf v10_character) v10_refusals) else (p_b1 (f_X10_isShape x2) (fun r_8 => if r_8 = 0 then ((f_X10_character_14 v10_sizeOf v10_character) v10_refusals) else (p_in x1 67 (p_in x2 67 (if (v10_sizeOf (Int32.toNatClampNeg x1)) = (v10_sizeOf (Int32.toNatClampNeg x2)) then (p_in (((67 : Int32) * x1) + x2) 4489 (some ((v10_character (Int32.toNatClampNeg (((67 : Int32) * x1) + x2))), v10_refusals))) else (p_b2 (f_X10_far v10_refusals (-3 : Int32)) (fun r_15 v10_refusals_16 => some (r_15, v10_refusals_16)))))))))
set_option maxHeartbeats 4000000 in
set_option maxRecDepth 20000 in
theorem c_X10_character (l : Launch) (D : va_G) (cyI cyJ : ClassId) (G a : Nat → Nat) (sz : Nat) (v10_firstOf : Nat → Int32) (v10_sizeOf : Nat → Int32) (v10_longOf : Nat → Int32) (v10_row : Nat → Int32) (v10_character : Nat → Int32) (v10_sum : Nat → Int32) (v10_coefficient : Nat → Int32) (v10_undone : Int32) (v10_wasSum : Nat → Int32) (v10_wasCoefficient : Nat → Int32) (v10_hasImage : Int32) (v10_letter : Nat → Int32) (v10_letters : Int32) (v10_list : Nat → Int32) (v10_cell : Nat → Int32) (v10_refusals : Nat → Int32) (v10_tried : Nat → Int32) (v10_left : Int32) (v10_high : Int32) (v10_then : Nat → Int64) (v10_at : Int32) (v10_readSize : Int32) (x1 : Int32) (x2 : Int32) (ro : Int32) (ov10_refusals : Nat → Int32) (hf : f_X10_character v10_sizeOf v10_character v10_refusals x1 x2 = some (ro, ov10_refusals)) : xm_i l yX10_character (Cond.code yX10_character cX10_character 3 (some .int) :: xg_tbl) { frames := 2, cells := 0, slots := 0, locals := 42 } D xcl [(cyI, .int), (cyJ, .long)] G sz [.ref (a 28), .int x1, .int x2] (wd_X10 a cyI cyJ v10_firstOf v10_sizeOf v10_longOf v10_row v10_character v10_sum v10_coefficient v10_undone v10_wasSum v10_wasCoefficient v10_hasImage v10_letter v10_letters v10_list v10_cell v10_refusals v10_tried v10_left v10_high v10_then v10_at v10_readSize) (wd_X10 a cyI cyJ v10_firstOf v10_sizeOf v10_longOf v10_row v10_character v10_sum v10_coefficient v10_undone v10_wasSum v10_wasCoefficient v10_hasImage v10_letter v10_letters v10_list v10_cell ov10_refusals v10_tried v10_left v10_high v10_then v10_at v10_readSize) ro := by
  refine xm_of_i (own := RX10) (by decide) rfl rfl (Nat.le_of_ble_eq_true rfl) ?_
  intro p e s m args below meth c ls Q A hQ hAe hin Cx hsz hP hD hS hl
  have Cx1 := Cx
  obtain ⟨⟨hx, hb, hml, hown, hts⟩, hr, hlocks, hK, hA, hT⟩ := Cx1
  have hl : lv_has ls 3 [(0, .ref (a 28)), (1, .int x1), (2, .int x2)] := hl
  obtain ⟨H, eH⟩ : ∃ H, H = s.heap := ⟨_, rfl⟩
  obtain ⟨locs, eL⟩ : ∃ L : List Loc, L = [] := ⟨_, rfl⟩
  rw [← eH] at hP
  have hS : va_S A s.heap H locs := by rw [eH, eL]; exact hS
  suffices hgo : W p l e { frames := 2, cells := 0, slots := 0, locals := 42 } s m args below meth c H locs 0 0 Q (F0 m 0 ls []) by rw [eH, eL] at hgo; exact hgo
  clear eH eL
  unfold f_X10_character at hf
  have w_14 : ∀ (v10_refusals : Nat → Int32) (H : Heap) (locs : List Loc) (ls : Array Slot), (f_X10_character_14 v10_sizeOf v10_character) v10_refusals = some (ro, ov10_refusals) → va_P D xcl (wd_X10 a cyI cyJ v10_firstOf v10_sizeOf v10_longOf v10_row v10_character v10_sum v10_coefficient v10_undone v10_wasSum v10_wasCoefficient v10_hasImage v10_letter v10_letters v10_list v10_cell v10_refusals v10_tried v10_left v10_high v10_then v10_at v10_readSize) H → va_D A (wd_X10 a cyI cyJ v10_firstOf v10_sizeOf v10_longOf v10_row v10_character v10_sum v10_coefficient v10_undone v10_wasSum v10_wasCoefficient v10_hasImage v10_letter v10_letters v10_list v10_cell v10_refusals v10_tried v10_left v10_high v10_then v10_at v10_readSize) → va_S A s.heap H locs → lv_has ls 3 [(0, .ref (a 28))] → W p l e { frames := 2, cells := 0, slots := 0, locals := 42 } s m args below meth c H locs 0 0 Q (F0 m 14 ls []) := by
    intro v10_refusals H locs ls hf hP hD hS hl
    unfold f_X10_character_14 at hf
    refine lv_aload_n hx hb dX10_character_14 rfl (lv_at hl 0 rfl) ?_
    refine lv_iconst (v := (-1 : Int32)) hx hb dX10_character_15 (by decide) ?_
    obtain ⟨r_19, v10_refusals_20, hk_21, hf⟩ := pe_2 hf
    refine xv_i (As := [.int (-1 : Int32)]) (rest := []) (q0 := 0) (ci := 10) Cx hP hD hS hl (pl_X10_X10 a cyI cyJ v10_firstOf v10_sizeOf v10_longOf v10_row v10_character v10_sum v10_coefficient v10_undone v10_wasSum v10_wasCoefficient v10_hasImage v10_letter v10_letters v10_list v10_cell v10_refusals v10_tried v10_left v10_high v10_then v10_at v10_readSize v10_firstOf v10_sizeOf v10_longOf v10_row v10_character v10_sum v10_coefficient v10_undone v10_wasSum v10_wasCoefficient v10_hasImage v10_letter v10_letters v10_list v10_cell v10_refusals_20 v10_tried v10_left v10_high v10_then v10_at v10_readSize) (c_X10_far l D cyI cyJ G a H.size v10_firstOf v10_sizeOf v10_longOf v10_row v10_character v10_sum v10_coefficient v10_undone v10_wasSum v10_wasCoefficient v10_hasImage v10_letter v10_letters v10_list v10_cell v10_refusals v10_tried v10_left v10_high v10_then v10_at v10_readSize (-1 : Int32) r_19 v10_refusals_20 hk_21) pk_X10_far mw_5_87 ⟨rfl, rfl, Nat.le_of_ble_eq_true rfl, Nat.le_of_ble_eq_true rfl⟩ rfl rfl rfl rfl rfl (Nat.le_of_ble_eq_true rfl) ⟨Nat.le_of_ble_eq_true rfl, Nat.le_of_ble_eq_true rfl⟩ dX10_character_16 (fun H locs hP hD hS => ?_)
    obtain ⟨rfl, rfl⟩ := po_2 hf
    rw [← hQ]; exact xe_iret Cx rfl hP hD hS dX10_character_19
  refine lv_iload_n hx hb dX10_character_0 rfl (lv_at hl 1 rfl) ?_
  obtain ⟨r_22, hk_23, hf⟩ := pe_1 hf
  refine xw_z (As := [.int x1]) (rest := []) Cx hP hD hS hl (xq_none _) (c_X10_isShape l D cyI cyJ G H.size x1 r_22 hk_23) pk_X10_isShape mw_5_23 ⟨rfl, rfl, Nat.le_of_ble_eq_true rfl, Nat.le_of_ble_eq_true rfl⟩ rfl rfl (Nat.le_of_ble_eq_true rfl) ⟨Nat.le_of_ble_eq_true rfl, Nat.le_of_ble_eq_true rfl⟩ dX10_character_1 (fun H locs hn_24 hP hD hS => ?_)
  refine lv_if_eq (tgt := 14) hx hb dX10_character_4 (by decide) (fun hc_25 => ?_) (fun hc_25 => ?_)
  · have hf := pe_t hf hc_25
    exact w_14 v10_refusals H locs ls hf hP hD hS (lv_sub hl [0] rfl)
  · have hf := pe_f hf hc_25
    refine lv_iload_n hx hb dX10_character_7 rfl (lv_at hl 2 rfl) ?_
    obtain ⟨r_26, hk_27, hf⟩ := pe_1 hf
    refine xw_z (As := [.int x2]) (rest := []) Cx hP hD hS hl (xq_none _) (c_X10_isShape l D cyI cyJ G H.size x2 r_26 hk_27) pk_X10_isShape mw_5_23 ⟨rfl, rfl, Nat.le_of_ble_eq_true rfl, Nat.le_of_ble_eq_true rfl⟩ rfl rfl (Nat.le_of_ble_eq_true rfl) ⟨Nat.le_of_ble_eq_true rfl, Nat.le_of_ble_eq_true rfl⟩ dX10_character_8 (fun H locs hn_28 hP hD hS => ?_)
    refine lv_if_ne (tgt := 20) hx hb dX10_character_11 (by decide) (fun hc_29 => ?_) (fun hc_29 => ?_)
    · have hf := pe_f hf hc_29
      refine lv_aload_n hx hb dX10_character_20 rfl (lv_at hl 0 rfl) ?_
      refine va_get (ci := 10) (v := .ref (a 30)) hx hb hts wX10_in hown hK hP 0 rfl rfl 1 (by decide) (hts _ mw_4_193) (fun _ h9 => h9) rfl dX10_character_21 ?_
      refine lv_iload_n hx hb dX10_character_24 rfl (lv_at hl 1 rfl) ?_
      obtain ⟨hi_30, hf⟩ := pe_in hf
      refine va_iald hx hb hK hP 2 0 rfl rfl hi_30 dX10_character_25 ?_
      refine lv_aload_n hx hb dX10_character_26 rfl (lv_at hl 0 rfl) ?_
      refine va_get (ci := 10) (v := .ref (a 30)) hx hb hts wX10_in hown hK hP 0 rfl rfl 1 (by decide) (hts _ mw_4_193) (fun _ h9 => h9) rfl dX10_character_27 ?_
      refine lv_iload_n hx hb dX10_character_30 rfl (lv_at hl 2 rfl) ?_
      obtain ⟨hi_31, hf⟩ := pe_in hf
      refine va_iald hx hb hK hP 2 0 rfl rfl hi_31 dX10_character_31 ?_
      refine lv_icmp_ne (tgt := 49) hx hb dX10_character_32 (by decide) (fun hc_32 => ?_) (fun hc_32 => ?_)
      · have hf := pe_f hf hc_32
        refine lv_aload_n hx hb dX10_character_49 rfl (lv_at hl 0 rfl) ?_
        refine lv_bipush (v := (-3 : Int32)) hx hb dX10_character_50 (by decide) ?_
        obtain ⟨r_33, v10_refusals_34, hk_35, hf⟩ := pe_2 hf
        refine xv_i (As := [.int (-3 : Int32)]) (rest := []) (q0 := 0) (ci := 10) Cx hP hD hS hl (pl_X10_X10 a cyI cyJ v10_firstOf v10_sizeOf v10_longOf v10_row v10_character v10_sum v10_coefficient v10_undone v10_wasSum v10_wasCoefficient v10_hasImage v10_letter v10_letters v10_list v10_cell v10_refusals v10_tried v10_left v10_high v10_then v10_at v10_readSize v10_firstOf v10_sizeOf v10_longOf v10_row v10_character v10_sum v10_coefficient v10_undone v10_wasSum v10_wasCoefficient v10_hasImage v10_letter v10_letters v10_list v10_cell v10_refusals_34 v10_tried v10_left v10_high v10_then v10_at v10_readSize) (c_X10_far l D cyI cyJ G a H.size v10_firstOf v10_sizeOf v10_longOf v10_row v10_character v10_sum v10_coefficient v10_undone v10_wasSum v10_wasCoefficient v10_hasImage v10_letter v10_letters v10_list v10_cell v10_refusals v10_tried v10_left v10_high v10_then v10_at v10_readSize (-3 : Int32) r_33 v10_refusals_34 hk_35) pk_X10_far mw_5_87 ⟨rfl, rfl, Nat.le_of_ble_eq_true rfl, Nat.le_of_ble_eq_true rfl⟩ rfl rfl rfl rfl rfl (Nat.le_of_ble_eq_true rfl) ⟨Nat.le_of_ble_eq_true rfl, Nat.le_of_ble_eq_true rfl⟩ dX10_character_52 (fun H locs hP hD hS => ?_)
        obtain ⟨rfl, rfl⟩ := po_2 hf
        rw [← hQ]; exact xe_iret Cx rfl hP hD hS dX10_character_55
      · have hf := pe_t hf hc_32
        refine lv_aload_n hx hb dX10_character_35 rfl (lv_at hl 0 rfl) ?_
        refine va_get (ci := 10) (v := .ref (a 33)) hx hb hts wX10_in hown hK hP 0 rfl rfl 4 (by decide) (hts _ mw_4_196) (fun _ h9 => h9) rfl dX10_character_36 ?_
        refine lv_bipush (v := (67 : Int32)) hx hb dX10_character_39 (by decide) ?_
        refine lv_iload_n hx hb dX10_character_41 rfl (lv_at hl 1 rfl) ?_
        refine lv_imul hx hb dX10_character_42 ?_
        refine lv_iload_n hx hb dX10_character_43 rfl (lv_at hl 2 rfl) ?_
        refine lv_iadd hx hb dX10_character_44 ?_
        obtain ⟨hi_36, hf⟩ := pe_in hf
        refine va_iald hx hb hK hP 5 0 rfl rfl hi_36 dX10_character_45 ?_
        refine lv_goto (tgt := 55) hx hb dX10_character_46 (by decide) ?_
        obtain ⟨rfl, rfl⟩ := po_2 hf
        rw [← hQ]; exact xe_iret Cx rfl hP hD hS dX10_character_55
    · have hf := pe_t hf hc_29
      exact w_14 v10_refusals H locs ls hf hP hD hS (lv_sub hl [0] rfl)
def gf_X10_asPart_5 (K_5 : Int32 → Int32 → Int32 → Int32 → Int32 → Option (Int64)) (y0 : Int32) (y1 : Int32) (y2 : Int32) (y3 : Int32) (y4 : Int32) : Option (Int64) := if y4 = 0 then (if y2 = 0 then (p_nz y3 (some ((Int32.toInt64 (y0 / y3))))) else (p_nz y3 (some ((Int32.toInt64 (y1 / y3)))))) else (p_nz y4 (K_5 y0 y1 y2 y4 (y3 - y3 / y4 * y4)))
def f_X10_asPart_5 : Nat → Int32 → Int32 → Int32 → Int32 → Int32 → Option (Int64)
  | 0 => fun _ _ _ _ _ => none
  | n + 1 => gf_X10_asPart_5 (f_X10_asPart_5 n)
def f_X10_asPart (x0 : Int32) (x1 : Int32) (x2 : Int32) : Option (Int64) := (f_X10_asPart_5 1000) x0 x1 x2 x0 x1
set_option maxHeartbeats 4000000 in
set_option maxRecDepth 20000 in
theorem c_X10_asPart (l : Launch) (D : va_G) (cyI cyJ : ClassId) (G : Nat → Nat) (sz : Nat) (x0 : Int32) (x1 : Int32) (x2 : Int32) (ro : Int64) (hf : f_X10_asPart x0 x1 x2 = some ro) : xm_l l yX10_asPart (Cond.code yX10_asPart cX10_asPart 6 (some .long) :: xg_tbl) { frames := 0, cells := 0, slots := 0, locals := 0 } D xcl [(cyI, .int), (cyJ, .long)] G sz [.int x0, .int x1, .int x2] [] [] ro := by
  refine xm_of_l (own := RX10) (by decide) rfl rfl (Nat.le_of_ble_eq_true rfl) ?_
  intro p e s m args below meth c ls Q A hQ hAe hin Cx hsz hP hD hS hl
  have Cx1 := Cx
  obtain ⟨⟨hx, hb, hml, hown, hts⟩, hr, hlocks, hK, hA, hT⟩ := Cx1
  have hl : lv_has ls 6 [(0, .int x0), (1, .int x1), (2, .int x2)] := hl
  obtain ⟨H, eH⟩ : ∃ H, H = s.heap := ⟨_, rfl⟩
  obtain ⟨locs, eL⟩ : ∃ L : List Loc, L = [] := ⟨_, rfl⟩
  rw [← eH] at hP
  have hS : va_S A s.heap H locs := by rw [eH, eL]; exact hS
  suffices hgo : W p l e { frames := 0, cells := 0, slots := 0, locals := 0 } s m args below meth c H locs 0 0 Q (F0 m 0 ls []) by rw [eH, eL] at hgo; exact hgo
  clear eH eL
  unfold f_X10_asPart at hf
  have w_5 : ∀ (n_5 : Nat) (y0 : Int32) (y1 : Int32) (y2 : Int32) (y3 : Int32) (y4 : Int32) (H : Heap) (locs : List Loc) (ls : Array Slot), f_X10_asPart_5 n_5 y0 y1 y2 y3 y4 = some ro → va_P D xcl [] H → va_D A [] → va_S A s.heap H locs → lv_has ls 6 [(0, .int y0), (1, .int y1), (2, .int y2), (3, .int y3), (4, .int y4)] → W p l e { frames := 0, cells := 0, slots := 0, locals := 0 } s m args below meth c H locs 0 0 Q (F0 m 5 ls []) := by
    intro n_5
    induction n_5 with
    | zero => intro y0 y1 y2 y3 y4 H locs ls hf; exact absurd hf (by intro h9; cases h9)
    | succ n_5 w_5 =>
      intro y0 y1 y2 y3 y4 H locs ls hf hP hD hS hl
      have hf : gf_X10_asPart_5 (f_X10_asPart_5 n_5) y0 y1 y2 y3 y4 = some ro := hf
      unfold gf_X10_asPart_5 at hf
      refine lv_iload hx hb dX10_asPart_5 (lv_at hl 4 rfl) ?_
      refine lv_if_eq (tgt := 26) hx hb dX10_asPart_7 (by decide) (fun hc_6 => ?_) (fun hc_6 => ?_)
      · have hf := pe_t hf hc_6
        refine lv_iload_n hx hb dX10_asPart_26 rfl (lv_at hl 2 rfl) ?_
        refine lv_if_ne (tgt := 37) hx hb dX10_asPart_27 (by decide) (fun hc_7 => ?_) (fun hc_7 => ?_)
        · have hf := pe_f hf hc_7
          refine lv_iload_n hx hb dX10_asPart_37 rfl (lv_at hl 1 rfl) ?_
          refine lv_iload_n hx hb dX10_asPart_38 rfl (lv_at hl 3 rfl) ?_
          obtain ⟨hz_8, hf⟩ := pe_nz hf
          refine lv_idiv hx hb dX10_asPart_39 hz_8 ?_
          refine lv_i2l (v := Int32.toInt64 (y1 / y3)) hx hb dX10_asPart_40 rfl ?_
          obtain rfl := po_1 hf
          rw [← hQ]; exact xe_lret Cx rfl hP hD hS dX10_asPart_41
        · have hf := pe_t hf hc_7
          refine lv_iload_n hx hb dX10_asPart_30 rfl (lv_at hl 0 rfl) ?_
          refine lv_iload_n hx hb dX10_asPart_31 rfl (lv_at hl 3 rfl) ?_
          obtain ⟨hz_9, hf⟩ := pe_nz hf
          refine lv_idiv hx hb dX10_asPart_32 hz_9 ?_
          refine lv_i2l (v := Int32.toInt64 (y0 / y3)) hx hb dX10_asPart_33 rfl ?_
          refine lv_goto (tgt := 41) hx hb dX10_asPart_34 (by decide) ?_
          obtain rfl := po_1 hf
          rw [← hQ]; exact xe_lret Cx rfl hP hD hS dX10_asPart_41
      · have hf := pe_f hf hc_6
        refine lv_iload_n hx hb dX10_asPart_10 rfl (lv_at hl 3 rfl) ?_
        refine lv_iload hx hb dX10_asPart_11 (lv_at hl 4 rfl) ?_
        obtain ⟨hz_10, hf⟩ := pe_nz hf
        refine lv_irem hx hb dX10_asPart_13 hz_10 ?_
        refine lv_istore (lv' := [(5, .int (y3 - y3 / y4 * y4)), (0, .int y0), (1, .int y1), (2, .int y2), (3, .int y3), (4, .int y4)]) hx hb dX10_asPart_14 hl (by decide) rfl (fun ls hl => ?_)
        refine lv_iload hx hb dX10_asPart_16 (lv_at hl 5 rfl) ?_
        refine lv_istore_n (lv' := [(3, .int y4), (5, .int (y3 - y3 / y4 * y4)), (0, .int y0), (1, .int y1), (2, .int y2), (4, .int y4)]) hx hb dX10_asPart_18 rfl hl (by decide) rfl (fun ls hl => ?_)
        refine lv_iload hx hb dX10_asPart_19 (lv_at hl 1 rfl) ?_
        refine lv_istore (lv' := [(4, .int (y3 - y3 / y4 * y4)), (3, .int y4), (5, .int (y3 - y3 / y4 * y4)), (0, .int y0), (1, .int y1), (2, .int y2)]) hx hb dX10_asPart_21 hl (by decide) rfl (fun ls hl => ?_)
        refine lv_goto (tgt := 5) hx hb dX10_asPart_23 (by decide) ?_
        exact w_5 y0 y1 y2 y4 (y3 - y3 / y4 * y4) H locs ls hf hP hD hS (lv_sub hl [3, 4, 5, 1, 0] rfl)
  refine lv_iload_n hx hb dX10_asPart_0 rfl (lv_at hl 0 rfl) ?_
  refine lv_istore_n (lv' := [(3, .int x0), (0, .int x0), (1, .int x1), (2, .int x2)]) hx hb dX10_asPart_1 rfl hl (by decide) rfl (fun ls hl => ?_)
  refine lv_iload_n hx hb dX10_asPart_2 rfl (lv_at hl 2 rfl) ?_
  refine lv_istore (lv' := [(4, .int x1), (3, .int x0), (0, .int x0), (1, .int x1), (2, .int x2)]) hx hb dX10_asPart_3 hl (by decide) rfl (fun ls hl => ?_)
  exact w_5 1000 x0 x1 x2 x0 x1 H locs ls hf hP hD hS (lv_sub hl [2, 3, 4, 1, 0] rfl)
def f_X10_odds_91 (K_61 : (Nat → Int32) → (Nat → Int32) → Int32 → Int32 → Int32 → Int32 → Int32 → Option (Int64 × (Nat → Int32) × (Nat → Int32))) (v10_firstOf : Nat → Int32) (v10_longOf : Nat → Int32) (v10_row : Nat → Int32) (v10_refusals : Nat → Int32) (v10_tried : Nat → Int32) (y1 : Int32) (y2 : Int32) (y3 : Int32) (y5 : Int32) (z0 : Int32) (z1 : Int32) : Option (Int64 × (Nat → Int32) × (Nat → Int32)) := K_61 v10_refusals v10_tried y1 y2 y3 (z1 + z0) (y5 + (1 : Int32))
def gf_X10_odds_61 (K_61 : (Nat → Int32) → (Nat → Int32) → Int32 → Int32 → Int32 → Int32 → Int32 → Option (Int64 × (Nat → Int32) × (Nat → Int32))) (v10_firstOf : Nat → Int32) (v10_longOf : Nat → Int32) (v10_row : Nat → Int32) (v10_refusals : Nat → Int32) (v10_tried : Nat → Int32) (y1 : Int32) (y2 : Int32) (y3 : Int32) (y4 : Int32) (y5 : Int32) : Option (Int64 × (Nat → Int32) × (Nat → Int32)) := p_in (y1 + (1 : Int32)) 10 (if (v10_firstOf (Int32.toNatClampNeg (y1 + (1 : Int32)))) ≤ y5 then (p_b1 (f_X10_manyOf v10_firstOf y1) (fun r_3 => p_b1 (f_X10_asPart y4 r_3 y3) (fun r_5 => some (r_5, v10_refusals, v10_tried)))) else (p_b2 (f_X10_isKind v10_longOf v10_row v10_tried y5 y2) (fun r_7 v10_tried_8 => if r_7 = 0 then ((f_X10_odds_91 K_61 v10_firstOf v10_longOf v10_row) v10_refusals v10_tried_8 y1 y2 y3 y5 (0 : Int32) y4) else ((f_X10_odds_91 K_61 v10_firstOf v10_longOf v10_row) v10_refusals v10_tried_8 y1 y2 y3 y5 (1 : Int32) y4))))
def f_X10_odds_61 (v10_firstOf : Nat → Int32) (v10_longOf : Nat → Int32) (v10_row : Nat → Int32) : Nat → (Nat → Int32) → (Nat → Int32) → Int32 → Int32 → Int32 → Int32 → Int32 → Option (Int64 × (Nat → Int32) × (Nat → Int32))
  | 0 => fun _ _ _ _ _ _ _ => none
  | n + 1 => gf_X10_odds_61 (f_X10_odds_61 v10_firstOf v10_longOf v10_row n) v10_firstOf v10_longOf v10_row
def f_X10_odds_43 (v10_firstOf : Nat → Int32) (v10_longOf : Nat → Int32) (v10_row : Nat → Int32) (v10_refusals : Nat → Int32) (v10_tried : Nat → Int32) : Option (Int64 × (Nat → Int32) × (Nat → Int32)) := p_b2 (f_X10_farther v10_refusals (-2 : Int32)) (fun r_12 v10_refusals_13 => some (r_12, v10_refusals_13, v10_tried))
def f_X10_odds (v10_firstOf : Nat → Int32) (v10_longOf : Nat → Int32) (v10_row : Nat → Int32) (v10_refusals : Nat → Int32) (v10_tried : Nat → Int32) (x1 : Int32) (x2 : Int32) (x3 : Int32) : Option (Int64 × (Nat → Int32) × (Nat → Int32)) := if 0 ≤ x1 then (if x1 ≤ (8 : Int32) then (p_b1 (f_X10_in x2 (0 : Int32) (6 : Int32)) (fun r_17 => if r_17 = 0 then ((f_X10_odds_43 v10_firstOf v10_longOf v10_row) v10_refusals v10_tried) else (p_b1 (f_X10_in x3 (0 : Int32) (1 : Int32)) (fun r_21 => if r_21 = 0 then ((f_X10_odds_43 v10_firstOf v10_longOf v10_row) v10_refusals v10_tried) else (p_in x1 10 ((f_X10_odds_61 v10_firstOf v10_longOf v10_row 1000) v10_refusals v10_tried x1 x2 x3 (0 : Int32) (v10_firstOf (Int32.toNatClampNeg x1)))))))) else (p_b2 (f_X10_farther v10_refusals (-6 : Int32)) (fun r_26 v10_refusals_27 => some (r_26, v10_refusals_27, v10_tried)))) else (p_b2 (f_X10_farther v10_refusals (-4 : Int32)) (fun r_29 v10_refusals_30 => some (r_29, v10_refusals_30, v10_tried)))
set_option maxHeartbeats 4000000 in
set_option maxRecDepth 20000 in
theorem c_X10_odds (l : Launch) (D : va_G) (cyI cyJ : ClassId) (G a : Nat → Nat) (sz : Nat) (v10_firstOf : Nat → Int32) (v10_sizeOf : Nat → Int32) (v10_longOf : Nat → Int32) (v10_row : Nat → Int32) (v10_character : Nat → Int32) (v10_sum : Nat → Int32) (v10_coefficient : Nat → Int32) (v10_undone : Int32) (v10_wasSum : Nat → Int32) (v10_wasCoefficient : Nat → Int32) (v10_hasImage : Int32) (v10_letter : Nat → Int32) (v10_letters : Int32) (v10_list : Nat → Int32) (v10_cell : Nat → Int32) (v10_refusals : Nat → Int32) (v10_tried : Nat → Int32) (v10_left : Int32) (v10_high : Int32) (v10_then : Nat → Int64) (v10_at : Int32) (v10_readSize : Int32) (x1 : Int32) (x2 : Int32) (x3 : Int32) (ro : Int64) (ov10_refusals : Nat → Int32) (ov10_tried : Nat → Int32) (hf : f_X10_odds v10_firstOf v10_longOf v10_row v10_refusals v10_tried x1 x2 x3 = some (ro, ov10_refusals, ov10_tried)) : xm_l l yX10_odds (Cond.code yX10_odds cX10_odds 6 (some .long) :: xg_tbl) { frames := 4, cells := 0, slots := 0, locals := 92 } D xcl [(cyI, .int), (cyJ, .long)] G sz [.ref (a 28), .int x1, .int x2, .int x3] (wd_X10 a cyI cyJ v10_firstOf v10_sizeOf v10_longOf v10_row v10_character v10_sum v10_coefficient v10_undone v10_wasSum v10_wasCoefficient v10_hasImage v10_letter v10_letters v10_list v10_cell v10_refusals v10_tried v10_left v10_high v10_then v10_at v10_readSize) (wd_X10 a cyI cyJ v10_firstOf v10_sizeOf v10_longOf v10_row v10_character v10_sum v10_coefficient v10_undone v10_wasSum v10_wasCoefficient v10_hasImage v10_letter v10_letters v10_list v10_cell ov10_refusals ov10_tried v10_left v10_high v10_then v10_at v10_readSize) ro := by
  refine xm_of_l (own := RX10) (by decide) rfl rfl (Nat.le_of_ble_eq_true rfl) ?_
  intro p e s m args below meth c ls Q A hQ hAe hin Cx hsz hP hD hS hl
  have Cx1 := Cx
  obtain ⟨⟨hx, hb, hml, hown, hts⟩, hr, hlocks, hK, hA, hT⟩ := Cx1
  have hl : lv_has ls 6 [(0, .ref (a 28)), (1, .int x1), (2, .int x2), (3, .int x3)] := hl
  obtain ⟨H, eH⟩ : ∃ H, H = s.heap := ⟨_, rfl⟩
  obtain ⟨locs, eL⟩ : ∃ L : List Loc, L = [] := ⟨_, rfl⟩
  rw [← eH] at hP
  have hS : va_S A s.heap H locs := by rw [eH, eL]; exact hS
  suffices hgo : W p l e { frames := 4, cells := 0, slots := 0, locals := 92 } s m args below meth c H locs 0 0 Q (F0 m 0 ls []) by rw [eH, eL] at hgo; exact hgo
  clear eH eL
  unfold f_X10_odds at hf
  have w_61 : ∀ (n_61 : Nat) (v10_refusals : Nat → Int32) (v10_tried : Nat → Int32) (y1 : Int32) (y2 : Int32) (y3 : Int32) (y4 : Int32) (y5 : Int32) (H : Heap) (locs : List Loc) (ls : Array Slot), (f_X10_odds_61 v10_firstOf v10_longOf v10_row) n_61 v10_refusals v10_tried y1 y2 y3 y4 y5 = some (ro, ov10_refusals, ov10_tried) → va_P D xcl (wd_X10 a cyI cyJ v10_firstOf v10_sizeOf v10_longOf v10_row v10_character v10_sum v10_coefficient v10_undone v10_wasSum v10_wasCoefficient v10_hasImage v10_letter v10_letters v10_list v10_cell v10_refusals v10_tried v10_left v10_high v10_then v10_at v10_readSize) H → va_D A (wd_X10 a cyI cyJ v10_firstOf v10_sizeOf v10_longOf v10_row v10_character v10_sum v10_coefficient v10_undone v10_wasSum v10_wasCoefficient v10_hasImage v10_letter v10_letters v10_list v10_cell v10_refusals v10_tried v10_left v10_high v10_then v10_at v10_readSize) → va_S A s.heap H locs → lv_has ls 6 [(0, .ref (a 28)), (1, .int y1), (2, .int y2), (3, .int y3), (4, .int y4), (5, .int y5)] → W p l e { frames := 4, cells := 0, slots := 0, locals := 92 } s m args below meth c H locs 0 0 Q (F0 m 61 ls []) := by
    intro n_61
    induction n_61 with
    | zero => intro v10_refusals v10_tried y1 y2 y3 y4 y5 H locs ls hf; exact absurd hf (by intro h9; cases h9)
    | succ n_61 w_61 =>
      intro v10_refusals v10_tried y1 y2 y3 y4 y5 H locs ls hf hP hD hS hl
      have hf : gf_X10_odds_61 ((f_X10_odds_61 v10_firstOf v10_longOf v10_row) n_61) v10_firstOf v10_longOf v10_row v10_refusals v10_tried y1 y2 y3 y4 y5 = some (ro, ov10_refusals, ov10_tried) := hf
      unfold gf_X10_odds_61 at hf
      have w_91 : ∀ (v10_refusals : Nat → Int32) (v10_tried : Nat → Int32) (y1 : Int32) (y2 : Int32) (y3 : Int32) (y5 : Int32) (z0 : Int32) (z1 : Int32) (H : Heap) (locs : List Loc) (ls : Array Slot), (f_X10_odds_91 ((f_X10_odds_61 v10_firstOf v10_longOf v10_row) n_61) v10_firstOf v10_longOf v10_row) v10_refusals v10_tried y1 y2 y3 y5 z0 z1 = some (ro, ov10_refusals, ov10_tried) → va_P D xcl (wd_X10 a cyI cyJ v10_firstOf v10_sizeOf v10_longOf v10_row v10_character v10_sum v10_coefficient v10_undone v10_wasSum v10_wasCoefficient v10_hasImage v10_letter v10_letters v10_list v10_cell v10_refusals v10_tried v10_left v10_high v10_then v10_at v10_readSize) H → va_D A (wd_X10 a cyI cyJ v10_firstOf v10_sizeOf v10_longOf v10_row v10_character v10_sum v10_coefficient v10_undone v10_wasSum v10_wasCoefficient v10_hasImage v10_letter v10_letters v10_list v10_cell v10_refusals v10_tried v10_left v10_high v10_then v10_at v10_readSize) → va_S A s.heap H locs → lv_has ls 6 [(0, .ref (a 28)), (1, .int y1), (2, .int y2), (3, .int y3), (5, .int y5)] → W p l e { frames := 4, cells := 0, slots := 0, locals := 92 } s m args below meth c H locs 0 0 Q (F0 m 91 ls [.int z0, .int z1]) := by
        intro v10_refusals v10_tried y1 y2 y3 y5 z0 z1 H locs ls hf hP hD hS hl
        unfold f_X10_odds_91 at hf
        refine lv_iadd hx hb dX10_odds_91 ?_
        refine lv_istore (lv' := [(4, .int (z1 + z0)), (0, .ref (a 28)), (1, .int y1), (2, .int y2), (3, .int y3), (5, .int y5)]) hx hb dX10_odds_92 hl (by decide) rfl (fun ls hl => ?_)
        refine lv_iinc (v := (y5 + (1 : Int32))) (lv' := [(5, .int (y5 + (1 : Int32))), (4, .int (z1 + z0)), (0, .ref (a 28)), (1, .int y1), (2, .int y2), (3, .int y3)]) hx hb dX10_odds_94 hl (k := 5) rfl rfl (by decide) rfl (fun ls hl => ?_)
        refine lv_goto (tgt := 61) hx hb dX10_odds_97 (by decide) ?_
        exact w_61 v10_refusals v10_tried y1 y2 y3 (z1 + z0) (y5 + (1 : Int32)) H locs ls hf hP hD hS (lv_sub hl [2, 3, 4, 5, 1, 0] rfl)
      refine lv_iload hx hb dX10_odds_61 (lv_at hl 5 rfl) ?_
      refine lv_aload_n hx hb dX10_odds_63 rfl (lv_at hl 0 rfl) ?_
      refine va_get (ci := 10) (v := .ref (a 29)) hx hb hts wX10_in hown hK hP 0 rfl rfl 0 (by decide) (hts _ mw_4_192) (fun _ h9 => h9) rfl dX10_odds_64 ?_
      refine lv_iload_n hx hb dX10_odds_67 rfl (lv_at hl 1 rfl) ?_
      refine lv_iconst (v := (1 : Int32)) hx hb dX10_odds_68 (by decide) ?_
      refine lv_iadd hx hb dX10_odds_69 ?_
      obtain ⟨hi_32, hf⟩ := pe_in hf
      refine va_iald hx hb hK hP 1 0 rfl rfl hi_32 dX10_odds_70 ?_
      refine lv_icmp_ge (tgt := 100) hx hb dX10_odds_71 (by decide) (fun hc_33 => ?_) (fun hc_33 => ?_)
      · have hf := pe_t hf hc_33
        refine lv_iload hx hb dX10_odds_100 (lv_at hl 4 rfl) ?_
        refine lv_aload_n hx hb dX10_odds_102 rfl (lv_at hl 0 rfl) ?_
        refine lv_iload_n hx hb dX10_odds_103 rfl (lv_at hl 1 rfl) ?_
        obtain ⟨r_34, hk_35, hf⟩ := pe_1 hf
        refine xv_i (As := [.int y1]) (rest := [.int y4]) (q0 := 0) (ci := 10) Cx hP hD hS hl (pl_X10_X10 a cyI cyJ v10_firstOf v10_sizeOf v10_longOf v10_row v10_character v10_sum v10_coefficient v10_undone v10_wasSum v10_wasCoefficient v10_hasImage v10_letter v10_letters v10_list v10_cell v10_refusals v10_tried v10_left v10_high v10_then v10_at v10_readSize v10_firstOf v10_sizeOf v10_longOf v10_row v10_character v10_sum v10_coefficient v10_undone v10_wasSum v10_wasCoefficient v10_hasImage v10_letter v10_letters v10_list v10_cell v10_refusals v10_tried v10_left v10_high v10_then v10_at v10_readSize) (c_X10_manyOf l D cyI cyJ G a H.size v10_firstOf v10_sizeOf v10_longOf v10_row v10_character v10_sum v10_coefficient v10_undone v10_wasSum v10_wasCoefficient v10_hasImage v10_letter v10_letters v10_list v10_cell v10_refusals v10_tried v10_left v10_high v10_then v10_at v10_readSize y1 r_34 hk_35) pk_X10_manyOf mw_5_63 ⟨rfl, rfl, Nat.le_of_ble_eq_true rfl, Nat.le_of_ble_eq_true rfl⟩ rfl rfl rfl rfl rfl (Nat.le_of_ble_eq_true rfl) ⟨Nat.le_of_ble_eq_true rfl, Nat.le_of_ble_eq_true rfl⟩ dX10_odds_104 (fun H locs hP hD hS => ?_)
        refine lv_iload_n hx hb dX10_odds_107 rfl (lv_at hl 3 rfl) ?_
        obtain ⟨r_36, hk_37, hf⟩ := pe_1 hf
        refine xw_l (As := [.int y4, .int r_34, .int y3]) (rest := []) Cx hP hD hS hl (xq_none _) (c_X10_asPart l D cyI cyJ G H.size y4 r_34 y3 r_36 hk_37) pk_X10_asPart mw_5_101 ⟨rfl, rfl, Nat.le_of_ble_eq_true rfl, Nat.le_of_ble_eq_true rfl⟩ rfl rfl (Nat.le_of_ble_eq_true rfl) ⟨Nat.le_of_ble_eq_true rfl, Nat.le_of_ble_eq_true rfl⟩ dX10_odds_108 (fun H locs hP hD hS => ?_)
        obtain ⟨rfl, rfl, rfl⟩ := po_3 hf
        rw [← hQ]; exact xe_lret Cx rfl hP hD hS dX10_odds_111
      · have hf := pe_f hf hc_33
        refine lv_iload hx hb dX10_odds_74 (lv_at hl 4 rfl) ?_
        refine lv_aload_n hx hb dX10_odds_76 rfl (lv_at hl 0 rfl) ?_
        refine lv_iload hx hb dX10_odds_77 (lv_at hl 5 rfl) ?_
        refine lv_iload_n hx hb dX10_odds_79 rfl (lv_at hl 2 rfl) ?_
        obtain ⟨r_38, v10_tried_39, hk_40, hf⟩ := pe_2 hf
        refine xv_z (As := [.int y5, .int y2]) (rest := [.int y4]) (q0 := 0) (ci := 10) Cx hP hD hS hl (pl_X10_X10 a cyI cyJ v10_firstOf v10_sizeOf v10_longOf v10_row v10_character v10_sum v10_coefficient v10_undone v10_wasSum v10_wasCoefficient v10_hasImage v10_letter v10_letters v10_list v10_cell v10_refusals v10_tried v10_left v10_high v10_then v10_at v10_readSize v10_firstOf v10_sizeOf v10_longOf v10_row v10_character v10_sum v10_coefficient v10_undone v10_wasSum v10_wasCoefficient v10_hasImage v10_letter v10_letters v10_list v10_cell v10_refusals v10_tried_39 v10_left v10_high v10_then v10_at v10_readSize) (c_X10_isKind l D cyI cyJ G a H.size v10_firstOf v10_sizeOf v10_longOf v10_row v10_character v10_sum v10_coefficient v10_undone v10_wasSum v10_wasCoefficient v10_hasImage v10_letter v10_letters v10_list v10_cell v10_refusals v10_tried v10_left v10_high v10_then v10_at v10_readSize y5 y2 r_38 v10_tried_39 hk_40) pk_X10_isKind mw_5_48 ⟨rfl, rfl, Nat.le_of_ble_eq_true rfl, Nat.le_of_ble_eq_true rfl⟩ rfl rfl rfl rfl rfl (Nat.le_of_ble_eq_true rfl) ⟨Nat.le_of_ble_eq_true rfl, Nat.le_of_ble_eq_true rfl⟩ dX10_odds_80 (fun H locs hn_41 hP hD hS => ?_)
        refine lv_if_eq (tgt := 90) hx hb dX10_odds_83 (by decide) (fun hc_42 => ?_) (fun hc_42 => ?_)
        · have hf := pe_t hf hc_42
          refine lv_iconst (v := (0 : Int32)) hx hb dX10_odds_90 (by decide) ?_
          exact w_91 v10_refusals v10_tried_39 y1 y2 y3 y5 (0 : Int32) y4 H locs ls hf hP hD hS (lv_sub hl [0, 1, 2, 3, 5] rfl)
        · have hf := pe_f hf hc_42
          refine lv_iconst (v := (1 : Int32)) hx hb dX10_odds_86 (by decide) ?_
          refine lv_goto (tgt := 91) hx hb dX10_odds_87 (by decide) ?_
          exact w_91 v10_refusals v10_tried_39 y1 y2 y3 y5 (1 : Int32) y4 H locs ls hf hP hD hS (lv_sub hl [0, 1, 2, 3, 5] rfl)
  have w_43 : ∀ (v10_refusals : Nat → Int32) (v10_tried : Nat → Int32) (H : Heap) (locs : List Loc) (ls : Array Slot), (f_X10_odds_43 v10_firstOf v10_longOf v10_row) v10_refusals v10_tried = some (ro, ov10_refusals, ov10_tried) → va_P D xcl (wd_X10 a cyI cyJ v10_firstOf v10_sizeOf v10_longOf v10_row v10_character v10_sum v10_coefficient v10_undone v10_wasSum v10_wasCoefficient v10_hasImage v10_letter v10_letters v10_list v10_cell v10_refusals v10_tried v10_left v10_high v10_then v10_at v10_readSize) H → va_D A (wd_X10 a cyI cyJ v10_firstOf v10_sizeOf v10_longOf v10_row v10_character v10_sum v10_coefficient v10_undone v10_wasSum v10_wasCoefficient v10_hasImage v10_letter v10_letters v10_list v10_cell v10_refusals v10_tried v10_left v10_high v10_then v10_at v10_readSize) → va_S A s.heap H locs → lv_has ls 6 [(0, .ref (a 28))] → W p l e { frames := 4, cells := 0, slots := 0, locals := 92 } s m args below meth c H locs 0 0 Q (F0 m 43 ls []) := by
    intro v10_refusals v10_tried H locs ls hf hP hD hS hl
    unfold f_X10_odds_43 at hf
    refine lv_aload_n hx hb dX10_odds_43 rfl (lv_at hl 0 rfl) ?_
    refine lv_bipush (v := (-2 : Int32)) hx hb dX10_odds_44 (by decide) ?_
    obtain ⟨r_43, v10_refusals_44, hk_45, hf⟩ := pe_2 hf
    refine xv_l (As := [.int (-2 : Int32)]) (rest := []) (q0 := 0) (ci := 10) Cx hP hD hS hl (pl_X10_X10 a cyI cyJ v10_firstOf v10_sizeOf v10_longOf v10_row v10_character v10_sum v10_coefficient v10_undone v10_wasSum v10_wasCoefficient v10_hasImage v10_letter v10_letters v10_list v10_cell v10_refusals v10_tried v10_left v10_high v10_then v10_at v10_readSize v10_firstOf v10_sizeOf v10_longOf v10_row v10_character v10_sum v10_coefficient v10_undone v10_wasSum v10_wasCoefficient v10_hasImage v10_letter v10_letters v10_list v10_cell v10_refusals_44 v10_tried v10_left v10_high v10_then v10_at v10_readSize) (c_X10_farther l D cyI cyJ G a H.size v10_firstOf v10_sizeOf v10_longOf v10_row v10_character v10_sum v10_coefficient v10_undone v10_wasSum v10_wasCoefficient v10_hasImage v10_letter v10_letters v10_list v10_cell v10_refusals v10_tried v10_left v10_high v10_then v10_at v10_readSize (-2 : Int32) r_43 v10_refusals_44 hk_45) pk_X10_farther mw_5_96 ⟨rfl, rfl, Nat.le_of_ble_eq_true rfl, Nat.le_of_ble_eq_true rfl⟩ rfl rfl rfl rfl rfl (Nat.le_of_ble_eq_true rfl) ⟨Nat.le_of_ble_eq_true rfl, Nat.le_of_ble_eq_true rfl⟩ dX10_odds_46 (fun H locs hP hD hS => ?_)
    obtain ⟨rfl, rfl, rfl⟩ := po_3 hf
    rw [← hQ]; exact xe_lret Cx rfl hP hD hS dX10_odds_49
  refine lv_iload_n hx hb dX10_odds_0 rfl (lv_at hl 1 rfl) ?_
  refine lv_if_ge (tgt := 11) hx hb dX10_odds_1 (by decide) (fun hc_46 => ?_) (fun hc_46 => ?_)
  · have hf := pe_t hf hc_46
    refine lv_iload_n hx hb dX10_odds_11 rfl (lv_at hl 1 rfl) ?_
    refine lv_bipush (v := (8 : Int32)) hx hb dX10_odds_12 (by decide) ?_
    refine lv_icmp_le (tgt := 24) hx hb dX10_odds_14 (by decide) (fun hc_47 => ?_) (fun hc_47 => ?_)
    · have hf := pe_t hf hc_47
      refine lv_iload_n hx hb dX10_odds_24 rfl (lv_at hl 2 rfl) ?_
      refine lv_iconst (v := (0 : Int32)) hx hb dX10_odds_25 (by decide) ?_
      refine lv_bipush (v := (6 : Int32)) hx hb dX10_odds_26 (by decide) ?_
      obtain ⟨r_48, hk_49, hf⟩ := pe_1 hf
      refine xw_z (As := [.int x2, .int (0 : Int32), .int (6 : Int32)]) (rest := []) Cx hP hD hS hl (xq_none _) (c_X10_in l D cyI cyJ G H.size x2 (0 : Int32) (6 : Int32) r_48 hk_49) pk_X10_in mw_5_26 ⟨rfl, rfl, Nat.le_of_ble_eq_true rfl, Nat.le_of_ble_eq_true rfl⟩ rfl rfl (Nat.le_of_ble_eq_true rfl) ⟨Nat.le_of_ble_eq_true rfl, Nat.le_of_ble_eq_true rfl⟩ dX10_odds_28 (fun H locs hn_50 hP hD hS => ?_)
      refine lv_if_eq (tgt := 43) hx hb dX10_odds_31 (by decide) (fun hc_51 => ?_) (fun hc_51 => ?_)
      · have hf := pe_t hf hc_51
        exact w_43 v10_refusals v10_tried H locs ls hf hP hD hS (lv_sub hl [0] rfl)
      · have hf := pe_f hf hc_51
        refine lv_iload_n hx hb dX10_odds_34 rfl (lv_at hl 3 rfl) ?_
        refine lv_iconst (v := (0 : Int32)) hx hb dX10_odds_35 (by decide) ?_
        refine lv_iconst (v := (1 : Int32)) hx hb dX10_odds_36 (by decide) ?_
        obtain ⟨r_52, hk_53, hf⟩ := pe_1 hf
        refine xw_z (As := [.int x3, .int (0 : Int32), .int (1 : Int32)]) (rest := []) Cx hP hD hS hl (xq_none _) (c_X10_in l D cyI cyJ G H.size x3 (0 : Int32) (1 : Int32) r_52 hk_53) pk_X10_in mw_5_26 ⟨rfl, rfl, Nat.le_of_ble_eq_true rfl, Nat.le_of_ble_eq_true rfl⟩ rfl rfl (Nat.le_of_ble_eq_true rfl) ⟨Nat.le_of_ble_eq_true rfl, Nat.le_of_ble_eq_true rfl⟩ dX10_odds_37 (fun H locs hn_54 hP hD hS => ?_)
        refine lv_if_ne (tgt := 50) hx hb dX10_odds_40 (by decide) (fun hc_55 => ?_) (fun hc_55 => ?_)
        · have hf := pe_f hf hc_55
          refine lv_iconst (v := (0 : Int32)) hx hb dX10_odds_50 (by decide) ?_
          refine lv_istore (lv' := [(4, .int (0 : Int32)), (0, .ref (a 28)), (1, .int x1), (2, .int x2), (3, .int x3)]) hx hb dX10_odds_51 hl (by decide) rfl (fun ls hl => ?_)
          refine lv_aload_n hx hb dX10_odds_53 rfl (lv_at hl 1 rfl) ?_
          refine va_get (ci := 10) (v := .ref (a 29)) hx hb hts wX10_in hown hK hP 0 rfl rfl 0 (by decide) (hts _ mw_4_192) (fun _ h9 => h9) rfl dX10_odds_54 ?_
          refine lv_iload_n hx hb dX10_odds_57 rfl (lv_at hl 2 rfl) ?_
          obtain ⟨hi_56, hf⟩ := pe_in hf
          refine va_iald hx hb hK hP 1 0 rfl rfl hi_56 dX10_odds_58 ?_
          refine lv_istore (lv' := [(5, .int (v10_firstOf (Int32.toNatClampNeg x1))), (4, .int (0 : Int32)), (0, .ref (a 28)), (1, .int x1), (2, .int x2), (3, .int x3)]) hx hb dX10_odds_59 hl (by decide) rfl (fun ls hl => ?_)
          exact w_61 1000 v10_refusals v10_tried x1 x2 x3 (0 : Int32) (v10_firstOf (Int32.toNatClampNeg x1)) H locs ls hf hP hD hS (lv_sub hl [2, 3, 4, 5, 1, 0] rfl)
        · have hf := pe_t hf hc_55
          exact w_43 v10_refusals v10_tried H locs ls hf hP hD hS (lv_sub hl [0] rfl)
    · have hf := pe_f hf hc_47
      refine lv_aload_n hx hb dX10_odds_17 rfl (lv_at hl 0 rfl) ?_
      refine lv_bipush (v := (-6 : Int32)) hx hb dX10_odds_18 (by decide) ?_
      obtain ⟨r_57, v10_refusals_58, hk_59, hf⟩ := pe_2 hf
      refine xv_l (As := [.int (-6 : Int32)]) (rest := []) (q0 := 0) (ci := 10) Cx hP hD hS hl (pl_X10_X10 a cyI cyJ v10_firstOf v10_sizeOf v10_longOf v10_row v10_character v10_sum v10_coefficient v10_undone v10_wasSum v10_wasCoefficient v10_hasImage v10_letter v10_letters v10_list v10_cell v10_refusals v10_tried v10_left v10_high v10_then v10_at v10_readSize v10_firstOf v10_sizeOf v10_longOf v10_row v10_character v10_sum v10_coefficient v10_undone v10_wasSum v10_wasCoefficient v10_hasImage v10_letter v10_letters v10_list v10_cell v10_refusals_58 v10_tried v10_left v10_high v10_then v10_at v10_readSize) (c_X10_farther l D cyI cyJ G a H.size v10_firstOf v10_sizeOf v10_longOf v10_row v10_character v10_sum v10_coefficient v10_undone v10_wasSum v10_wasCoefficient v10_hasImage v10_letter v10_letters v10_list v10_cell v10_refusals v10_tried v10_left v10_high v10_then v10_at v10_readSize (-6 : Int32) r_57 v10_refusals_58 hk_59) pk_X10_farther mw_5_96 ⟨rfl, rfl, Nat.le_of_ble_eq_true rfl, Nat.le_of_ble_eq_true rfl⟩ rfl rfl rfl rfl rfl (Nat.le_of_ble_eq_true rfl) ⟨Nat.le_of_ble_eq_true rfl, Nat.le_of_ble_eq_true rfl⟩ dX10_odds_20 (fun H locs hP hD hS => ?_)
      obtain ⟨rfl, rfl, rfl⟩ := po_3 hf
      rw [← hQ]; exact xe_lret Cx rfl hP hD hS dX10_odds_23
  · have hf := pe_f hf hc_46
    refine lv_aload_n hx hb dX10_odds_4 rfl (lv_at hl 0 rfl) ?_
    refine lv_bipush (v := (-4 : Int32)) hx hb dX10_odds_5 (by decide) ?_
    obtain ⟨r_60, v10_refusals_61, hk_62, hf⟩ := pe_2 hf
    refine xv_l (As := [.int (-4 : Int32)]) (rest := []) (q0 := 0) (ci := 10) Cx hP hD hS hl (pl_X10_X10 a cyI cyJ v10_firstOf v10_sizeOf v10_longOf v10_row v10_character v10_sum v10_coefficient v10_undone v10_wasSum v10_wasCoefficient v10_hasImage v10_letter v10_letters v10_list v10_cell v10_refusals v10_tried v10_left v10_high v10_then v10_at v10_readSize v10_firstOf v10_sizeOf v10_longOf v10_row v10_character v10_sum v10_coefficient v10_undone v10_wasSum v10_wasCoefficient v10_hasImage v10_letter v10_letters v10_list v10_cell v10_refusals_61 v10_tried v10_left v10_high v10_then v10_at v10_readSize) (c_X10_farther l D cyI cyJ G a H.size v10_firstOf v10_sizeOf v10_longOf v10_row v10_character v10_sum v10_coefficient v10_undone v10_wasSum v10_wasCoefficient v10_hasImage v10_letter v10_letters v10_list v10_cell v10_refusals v10_tried v10_left v10_high v10_then v10_at v10_readSize (-4 : Int32) r_60 v10_refusals_61 hk_62) pk_X10_farther mw_5_96 ⟨rfl, rfl, Nat.le_of_ble_eq_true rfl, Nat.le_of_ble_eq_true rfl⟩ rfl rfl rfl rfl rfl (Nat.le_of_ble_eq_true rfl) ⟨Nat.le_of_ble_eq_true rfl, Nat.le_of_ble_eq_true rfl⟩ dX10_odds_7 (fun H locs hP hD hS => ?_)
    obtain ⟨rfl, rfl, rfl⟩ := po_3 hf
    rw [← hQ]; exact xe_lret Cx rfl hP hD hS dX10_odds_10
def gf_X10_numberOf_20 (K_20 : Int32 → Int32 → Int32 → Int32 → Int64 → Int32 → Option (Int32)) (v10_firstOf : Nat → Int32) (v10_sizeOf : Nat → Int32) (v10_longOf : Nat → Int32) (v10_row : Nat → Int32) (v10_character : Nat → Int32) (y1 : Int32) (y2 : Int32) (y3 : Int32) (y4 : Int32) (y5 : Int64) (y7 : Int32) : Option (Int32) := p_in (y4 + (1 : Int32)) 10 (if (v10_firstOf (Int32.toNatClampNeg (y4 + (1 : Int32)))) ≤ y7 then (p_b1 (f_X10_times y4) (fun r_3 => p_nzl (Int32.toInt64 r_3) (some ((Int64.toInt32 (y5 / (Int32.toInt64 r_3))))))) else (p_b1 (f_X10_ordersOf v10_sizeOf v10_longOf v10_row y7) (fun r_6 => p_in (((67 : Int32) * y1) + y7) 4489 (p_in (((67 : Int32) * y2) + y7) 4489 (p_in (((67 : Int32) * y3) + y7) 4489 (K_20 y1 y2 y3 y4 (y5 + ((((Int32.toInt64 r_6) * (Int32.toInt64 (v10_character (Int32.toNatClampNeg (((67 : Int32) * y1) + y7))))) * (Int32.toInt64 (v10_character (Int32.toNatClampNeg (((67 : Int32) * y2) + y7))))) * (Int32.toInt64 (v10_character (Int32.toNatClampNeg (((67 : Int32) * y3) + y7)))))) (y7 + (1 : Int32))))))))
def f_X10_numberOf_20 (v10_firstOf : Nat → Int32) (v10_sizeOf : Nat → Int32) (v10_longOf : Nat → Int32) (v10_row : Nat → Int32) (v10_character : Nat → Int32) : Nat → Int32 → Int32 → Int32 → Int32 → Int64 → Int32 → Option (Int32)
  | 0 => fun _ _ _ _ _ _ => none
  | n + 1 => gf_X10_numberOf_20 (f_X10_numberOf_20 v10_firstOf v10_sizeOf v10_longOf v10_row v10_character n) v10_firstOf v10_sizeOf v10_longOf v10_row v10_character
def f_X10_numberOf (v10_firstOf : Nat → Int32) (v10_sizeOf : Nat → Int32) (v10_longOf : Nat → Int32) (v10_row : Nat → Int32) (v10_character : Nat → Int32) (x1 : Int32) (x2 : Int32) (x3 : Int32) : Option (Int32) := p_in x1 67 (p_in (v10_sizeOf (Int32.toNatClampNeg x1)) 10 ((f_X10_numberOf_20 v10_firstOf v10_sizeOf v10_longOf v10_row v10_character 1000) x1 x2 x3 (v10_sizeOf (Int32.toNatClampNeg x1)) (0 : Int64) (v10_firstOf (Int32.toNatClampNeg (v10_sizeOf (Int32.toNatClampNeg x1))))))
set_option maxHeartbeats 4000000 in
set_option maxRecDepth 20000 in
theorem c_X10_numberOf (l : Launch) (D : va_G) (cyI cyJ : ClassId) (G a : Nat → Nat) (sz : Nat) (v10_firstOf : Nat → Int32) (v10_sizeOf : Nat → Int32) (v10_longOf : Nat → Int32) (v10_row : Nat → Int32) (v10_character : Nat → Int32) (v10_sum : Nat → Int32) (v10_coefficient : Nat → Int32) (v10_undone : Int32) (v10_wasSum : Nat → Int32) (v10_wasCoefficient : Nat → Int32) (v10_hasImage : Int32) (v10_letter : Nat → Int32) (v10_letters : Int32) (v10_list : Nat → Int32) (v10_cell : Nat → Int32) (v10_refusals : Nat → Int32) (v10_tried : Nat → Int32) (v10_left : Int32) (v10_high : Int32) (v10_then : Nat → Int64) (v10_at : Int32) (v10_readSize : Int32) (x1 : Int32) (x2 : Int32) (x3 : Int32) (ro : Int32) (hf : f_X10_numberOf v10_firstOf v10_sizeOf v10_longOf v10_row v10_character x1 x2 x3 = some ro) : xm_i l yX10_numberOf (Cond.code yX10_numberOf cX10_numberOf 8 (some .int) :: xg_tbl) { frames := 2, cells := 0, slots := 0, locals := 46 } D xcl [(cyI, .int), (cyJ, .long)] G sz [.ref (a 28), .int x1, .int x2, .int x3] (wd_X10 a cyI cyJ v10_firstOf v10_sizeOf v10_longOf v10_row v10_character v10_sum v10_coefficient v10_undone v10_wasSum v10_wasCoefficient v10_hasImage v10_letter v10_letters v10_list v10_cell v10_refusals v10_tried v10_left v10_high v10_then v10_at v10_readSize) (wd_X10 a cyI cyJ v10_firstOf v10_sizeOf v10_longOf v10_row v10_character v10_sum v10_coefficient v10_undone v10_wasSum v10_wasCoefficient v10_hasImage v10_letter v10_letters v10_list v10_cell v10_refusals v10_tried v10_left v10_high v10_then v10_at v10_readSize) ro := by
  refine xm_of_i (own := RX10) (by decide) rfl rfl (Nat.le_of_ble_eq_true rfl) ?_
  intro p e s m args below meth c ls Q A hQ hAe hin Cx hsz hP hD hS hl
  have Cx1 := Cx
  obtain ⟨⟨hx, hb, hml, hown, hts⟩, hr, hlocks, hK, hA, hT⟩ := Cx1
  have hl : lv_has ls 8 [(0, .ref (a 28)), (1, .int x1), (2, .int x2), (3, .int x3)] := hl
  obtain ⟨H, eH⟩ : ∃ H, H = s.heap := ⟨_, rfl⟩
  obtain ⟨locs, eL⟩ : ∃ L : List Loc, L = [] := ⟨_, rfl⟩
  rw [← eH] at hP
  have hS : va_S A s.heap H locs := by rw [eH, eL]; exact hS
  suffices hgo : W p l e { frames := 2, cells := 0, slots := 0, locals := 46 } s m args below meth c H locs 0 0 Q (F0 m 0 ls []) by rw [eH, eL] at hgo; exact hgo
  clear eH eL
  unfold f_X10_numberOf at hf
  have w_20 : ∀ (n_20 : Nat) (y1 : Int32) (y2 : Int32) (y3 : Int32) (y4 : Int32) (y5 : Int64) (y7 : Int32) (H : Heap) (locs : List Loc) (ls : Array Slot), (f_X10_numberOf_20 v10_firstOf v10_sizeOf v10_longOf v10_row v10_character) n_20 y1 y2 y3 y4 y5 y7 = some ro → va_P D xcl (wd_X10 a cyI cyJ v10_firstOf v10_sizeOf v10_longOf v10_row v10_character v10_sum v10_coefficient v10_undone v10_wasSum v10_wasCoefficient v10_hasImage v10_letter v10_letters v10_list v10_cell v10_refusals v10_tried v10_left v10_high v10_then v10_at v10_readSize) H → va_D A (wd_X10 a cyI cyJ v10_firstOf v10_sizeOf v10_longOf v10_row v10_character v10_sum v10_coefficient v10_undone v10_wasSum v10_wasCoefficient v10_hasImage v10_letter v10_letters v10_list v10_cell v10_refusals v10_tried v10_left v10_high v10_then v10_at v10_readSize) → va_S A s.heap H locs → lv_has ls 8 [(0, .ref (a 28)), (1, .int y1), (2, .int y2), (3, .int y3), (4, .int y4), (5, .long y5), (7, .int y7)] → W p l e { frames := 2, cells := 0, slots := 0, locals := 46 } s m args below meth c H locs 0 0 Q (F0 m 20 ls []) := by
    intro n_20
    induction n_20 with
    | zero => intro y1 y2 y3 y4 y5 y7 H locs ls hf; exact absurd hf (by intro h9; cases h9)
    | succ n_20 w_20 =>
      intro y1 y2 y3 y4 y5 y7 H locs ls hf hP hD hS hl
      have hf : gf_X10_numberOf_20 ((f_X10_numberOf_20 v10_firstOf v10_sizeOf v10_longOf v10_row v10_character) n_20) v10_firstOf v10_sizeOf v10_longOf v10_row v10_character y1 y2 y3 y4 y5 y7 = some ro := hf
      unfold gf_X10_numberOf_20 at hf
      refine lv_iload hx hb dX10_numberOf_20 (lv_at hl 6 rfl) ?_
      refine lv_aload_n hx hb dX10_numberOf_22 rfl (lv_at hl 0 rfl) ?_
      refine va_get (ci := 10) (v := .ref (a 29)) hx hb hts wX10_in hown hK hP 0 rfl rfl 0 (by decide) (hts _ mw_4_192) (fun _ h9 => h9) rfl dX10_numberOf_23 ?_
      refine lv_iload hx hb dX10_numberOf_26 (lv_at hl 4 rfl) ?_
      refine lv_iconst (v := (1 : Int32)) hx hb dX10_numberOf_28 (by decide) ?_
      refine lv_iadd hx hb dX10_numberOf_29 ?_
      obtain ⟨hi_13, hf⟩ := pe_in hf
      refine va_iald hx hb hK hP 1 0 rfl rfl hi_13 dX10_numberOf_30 ?_
      refine lv_icmp_ge (tgt := 94) hx hb dX10_numberOf_31 (by decide) (fun hc_14 => ?_) (fun hc_14 => ?_)
      · have hf := pe_t hf hc_14
        refine lv_lload hx hb dX10_numberOf_94 (lv_at hl 5 rfl) ?_
        refine lv_iload hx hb dX10_numberOf_96 (lv_at hl 4 rfl) ?_
        obtain ⟨r_15, hk_16, hf⟩ := pe_1 hf
        refine xw_i (As := [.int y4]) (rest := [.long y5]) Cx hP hD hS hl (xq_none _) (c_X10_times l D cyI cyJ G H.size y4 r_15 hk_16) pk_X10_times mw_5_41 ⟨rfl, rfl, Nat.le_of_ble_eq_true rfl, Nat.le_of_ble_eq_true rfl⟩ rfl rfl (Nat.le_of_ble_eq_true rfl) ⟨Nat.le_of_ble_eq_true rfl, Nat.le_of_ble_eq_true rfl⟩ dX10_numberOf_98 (fun H locs hP hD hS => ?_)
        refine lv_i2l (v := Int32.toInt64 r_15) hx hb dX10_numberOf_101 rfl ?_
        obtain ⟨hz_17, hf⟩ := pe_nzl hf
        refine lv_ldiv hx hb dX10_numberOf_102 hz_17 ?_
        refine lv_l2i (v := Int64.toInt32 (y5 / (Int32.toInt64 r_15))) hx hb dX10_numberOf_103 rfl ?_
        obtain rfl := po_1 hf
        rw [← hQ]; exact xe_iret Cx rfl hP hD hS dX10_numberOf_104
      · have hf := pe_f hf hc_14
        refine lv_lload hx hb dX10_numberOf_34 (lv_at hl 5 rfl) ?_
        refine lv_aload_n hx hb dX10_numberOf_36 rfl (lv_at hl 0 rfl) ?_
        refine lv_iload hx hb dX10_numberOf_37 (lv_at hl 6 rfl) ?_
        obtain ⟨r_18, hk_19, hf⟩ := pe_1 hf
        refine xv_i (As := [.int y7]) (rest := [.long y5]) (q0 := 0) (ci := 10) Cx hP hD hS hl (pl_X10_X10 a cyI cyJ v10_firstOf v10_sizeOf v10_longOf v10_row v10_character v10_sum v10_coefficient v10_undone v10_wasSum v10_wasCoefficient v10_hasImage v10_letter v10_letters v10_list v10_cell v10_refusals v10_tried v10_left v10_high v10_then v10_at v10_readSize v10_firstOf v10_sizeOf v10_longOf v10_row v10_character v10_sum v10_coefficient v10_undone v10_wasSum v10_wasCoefficient v10_hasImage v10_letter v10_letters v10_list v10_cell v10_refusals v10_tried v10_left v10_high v10_then v10_at v10_readSize) (c_X10_ordersOf l D cyI cyJ G a H.size v10_firstOf v10_sizeOf v10_longOf v10_row v10_character v10_sum v10_coefficient v10_undone v10_wasSum v10_wasCoefficient v10_hasImage v10_letter v10_letters v10_list v10_cell v10_refusals v10_tried v10_left v10_high v10_then v10_at v10_readSize y7 r_18 hk_19) pk_X10_ordersOf mw_5_44 ⟨rfl, rfl, Nat.le_of_ble_eq_true rfl, Nat.le_of_ble_eq_true rfl⟩ rfl rfl rfl rfl rfl (Nat.le_of_ble_eq_true rfl) ⟨Nat.le_of_ble_eq_true rfl, Nat.le_of_ble_eq_true rfl⟩ dX10_numberOf_39 (fun H locs hP hD hS => ?_)
        refine lv_i2l (v := Int32.toInt64 r_18) hx hb dX10_numberOf_42 rfl ?_
        refine lv_aload_n hx hb dX10_numberOf_43 rfl (lv_at hl 0 rfl) ?_
        refine va_get (ci := 10) (v := .ref (a 33)) hx hb hts wX10_in hown hK hP 0 rfl rfl 4 (by decide) (hts _ mw_4_196) (fun _ h9 => h9) rfl dX10_numberOf_44 ?_
        refine lv_bipush (v := (67 : Int32)) hx hb dX10_numberOf_47 (by decide) ?_
        refine lv_iload_n hx hb dX10_numberOf_49 rfl (lv_at hl 1 rfl) ?_
        refine lv_imul hx hb dX10_numberOf_50 ?_
        refine lv_iload hx hb dX10_numberOf_51 (lv_at hl 6 rfl) ?_
        refine lv_iadd hx hb dX10_numberOf_53 ?_
        obtain ⟨hi_20, hf⟩ := pe_in hf
        refine va_iald hx hb hK hP 5 0 rfl rfl hi_20 dX10_numberOf_54 ?_
        refine lv_i2l (v := Int32.toInt64 (v10_character (Int32.toNatClampNeg (((67 : Int32) * y1) + y7)))) hx hb dX10_numberOf_55 rfl ?_
        refine lv_lmul hx hb dX10_numberOf_56 ?_
        refine lv_aload_n hx hb dX10_numberOf_57 rfl (lv_at hl 0 rfl) ?_
        refine va_get (ci := 10) (v := .ref (a 33)) hx hb hts wX10_in hown hK hP 0 rfl rfl 4 (by decide) (hts _ mw_4_196) (fun _ h9 => h9) rfl dX10_numberOf_58 ?_
        refine lv_bipush (v := (67 : Int32)) hx hb dX10_numberOf_61 (by decide) ?_
        refine lv_iload_n hx hb dX10_numberOf_63 rfl (lv_at hl 2 rfl) ?_
        refine lv_imul hx hb dX10_numberOf_64 ?_
        refine lv_iload hx hb dX10_numberOf_65 (lv_at hl 6 rfl) ?_
        refine lv_iadd hx hb dX10_numberOf_67 ?_
        obtain ⟨hi_21, hf⟩ := pe_in hf
        refine va_iald hx hb hK hP 5 0 rfl rfl hi_21 dX10_numberOf_68 ?_
        refine lv_i2l (v := Int32.toInt64 (v10_character (Int32.toNatClampNeg (((67 : Int32) * y2) + y7)))) hx hb dX10_numberOf_69 rfl ?_
        refine lv_lmul hx hb dX10_numberOf_70 ?_
        refine lv_aload_n hx hb dX10_numberOf_71 rfl (lv_at hl 0 rfl) ?_
        refine va_get (ci := 10) (v := .ref (a 33)) hx hb hts wX10_in hown hK hP 0 rfl rfl 4 (by decide) (hts _ mw_4_196) (fun _ h9 => h9) rfl dX10_numberOf_72 ?_
        refine lv_bipush (v := (67 : Int32)) hx hb dX10_numberOf_75 (by decide) ?_
        refine lv_iload_n hx hb dX10_numberOf_77 rfl (lv_at hl 3 rfl) ?_
        refine lv_imul hx hb dX10_numberOf_78 ?_
        refine lv_iload hx hb dX10_numberOf_79 (lv_at hl 6 rfl) ?_
        refine lv_iadd hx hb dX10_numberOf_81 ?_
        obtain ⟨hi_22, hf⟩ := pe_in hf
        refine va_iald hx hb hK hP 5 0 rfl rfl hi_22 dX10_numberOf_82 ?_
        refine lv_i2l (v := Int32.toInt64 (v10_character (Int32.toNatClampNeg (((67 : Int32) * y3) + y7)))) hx hb dX10_numberOf_83 rfl ?_
        refine lv_lmul hx hb dX10_numberOf_84 ?_
        refine lv_ladd hx hb dX10_numberOf_85 ?_
        refine lv_lstore (lv' := [(5, .long (y5 + ((((Int32.toInt64 r_18) * (Int32.toInt64 (v10_character (Int32.toNatClampNeg (((67 : Int32) * y1) + y7))))) * (Int32.toInt64 (v10_character (Int32.toNatClampNeg (((67 : Int32) * y2) + y7))))) * (Int32.toInt64 (v10_character (Int32.toNatClampNeg (((67 : Int32) * y3) + y7))))))), (0, .ref (a 28)), (1, .int y1), (2, .int y2), (3, .int y3), (4, .int y4), (7, .int y7)]) hx hb dX10_numberOf_86 hl (by decide) rfl (fun ls hl => ?_)
        refine lv_iinc (v := (y7 + (1 : Int32))) (lv' := [(7, .int (y7 + (1 : Int32))), (5, .long (y5 + ((((Int32.toInt64 r_18) * (Int32.toInt64 (v10_character (Int32.toNatClampNeg (((67 : Int32) * y1) + y7))))) * (Int32.toInt64 (v10_character (Int32.toNatClampNeg (((67 : Int32) * y2) + y7))))) * (Int32.toInt64 (v10_character (Int32.toNatClampNeg (((67 : Int32) * y3) + y7))))))), (0, .ref (a 28)), (1, .int y1), (2, .int y2), (3, .int y3), (4, .int y4)]) hx hb dX10_numberOf_88 hl (k := 6) rfl rfl (by decide) rfl (fun ls hl => ?_)
        refine lv_goto (tgt := 20) hx hb dX10_numberOf_91 (by decide) ?_
        exact w_20 y1 y2 y3 y4 (y5 + ((((Int32.toInt64 r_18) * (Int32.toInt64 (v10_character (Int32.toNatClampNeg (((67 : Int32) * y1) + y7))))) * (Int32.toInt64 (v10_character (Int32.toNatClampNeg (((67 : Int32) * y2) + y7))))) * (Int32.toInt64 (v10_character (Int32.toNatClampNeg (((67 : Int32) * y3) + y7)))))) (y7 + (1 : Int32)) H locs ls hf hP hD hS (lv_sub hl [2, 3, 4, 5, 6, 1, 0] rfl)
  refine lv_aload_n hx hb dX10_numberOf_0 rfl (lv_at hl 0 rfl) ?_
  refine va_get (ci := 10) (v := .ref (a 30)) hx hb hts wX10_in hown hK hP 0 rfl rfl 1 (by decide) (hts _ mw_4_193) (fun _ h9 => h9) rfl dX10_numberOf_1 ?_
  refine lv_iload_n hx hb dX10_numberOf_4 rfl (lv_at hl 1 rfl) ?_
  obtain ⟨hi_23, hf⟩ := pe_in hf
  refine va_iald hx hb hK hP 2 0 rfl rfl hi_23 dX10_numberOf_5 ?_
  refine lv_istore (lv' := [(4, .int (v10_sizeOf (Int32.toNatClampNeg x1))), (0, .ref (a 28)), (1, .int x1), (2, .int x2), (3, .int x3)]) hx hb dX10_numberOf_6 hl (by decide) rfl (fun ls hl => ?_)
  refine lv_lconst (v := (0 : Int64)) hx hb dX10_numberOf_8 (by decide) ?_
  refine lv_lstore (lv' := [(5, .long (0 : Int64)), (4, .int (v10_sizeOf (Int32.toNatClampNeg x1))), (0, .ref (a 28)), (1, .int x1), (2, .int x2), (3, .int x3)]) hx hb dX10_numberOf_9 hl (by decide) rfl (fun ls hl => ?_)
  refine lv_aload_n hx hb dX10_numberOf_11 rfl (lv_at hl 2 rfl) ?_
  refine va_get (ci := 10) (v := .ref (a 29)) hx hb hts wX10_in hown hK hP 0 rfl rfl 0 (by decide) (hts _ mw_4_192) (fun _ h9 => h9) rfl dX10_numberOf_12 ?_
  refine lv_iload hx hb dX10_numberOf_15 (lv_at hl 1 rfl) ?_
  obtain ⟨hi_24, hf⟩ := pe_in hf
  refine va_iald hx hb hK hP 1 0 rfl rfl hi_24 dX10_numberOf_17 ?_
  refine lv_istore (lv' := [(7, .int (v10_firstOf (Int32.toNatClampNeg (v10_sizeOf (Int32.toNatClampNeg x1))))), (5, .long (0 : Int64)), (4, .int (v10_sizeOf (Int32.toNatClampNeg x1))), (0, .ref (a 28)), (1, .int x1), (2, .int x2), (3, .int x3)]) hx hb dX10_numberOf_18 hl (by decide) rfl (fun ls hl => ?_)
  exact w_20 1000 x1 x2 x3 (v10_sizeOf (Int32.toNatClampNeg x1)) (0 : Int64) (v10_firstOf (Int32.toNatClampNeg (v10_sizeOf (Int32.toNatClampNeg x1)))) H locs ls hf hP hD hS (lv_sub hl [3, 4, 5, 6, 2, 1, 0] rfl)
def f_X10_hinders (v10_sizeOf : Nat → Int32) (x1 : Int32) (x2 : Int32) : Option (Int32) := p_b1 (f_X10_isShape x1) (fun r_1 => if r_1 = 0 then (some ((-1 : Int32))) else (p_b1 (f_X10_isShape x2) (fun r_5 => if r_5 = 0 then (some ((-1 : Int32))) else (p_in x1 67 (p_in x2 67 (if (v10_sizeOf (Int32.toNatClampNeg x1)) = (v10_sizeOf (Int32.toNatClampNeg x2)) then (some ((0 : Int32))) else (some ((-3 : Int32)))))))))
set_option maxHeartbeats 4000000 in
set_option maxRecDepth 20000 in
theorem c_X10_hinders (l : Launch) (D : va_G) (cyI cyJ : ClassId) (G a : Nat → Nat) (sz : Nat) (v10_firstOf : Nat → Int32) (v10_sizeOf : Nat → Int32) (v10_longOf : Nat → Int32) (v10_row : Nat → Int32) (v10_character : Nat → Int32) (v10_sum : Nat → Int32) (v10_coefficient : Nat → Int32) (v10_undone : Int32) (v10_wasSum : Nat → Int32) (v10_wasCoefficient : Nat → Int32) (v10_hasImage : Int32) (v10_letter : Nat → Int32) (v10_letters : Int32) (v10_list : Nat → Int32) (v10_cell : Nat → Int32) (v10_refusals : Nat → Int32) (v10_tried : Nat → Int32) (v10_left : Int32) (v10_high : Int32) (v10_then : Nat → Int64) (v10_at : Int32) (v10_readSize : Int32) (x1 : Int32) (x2 : Int32) (ro : Int32) (hf : f_X10_hinders v10_sizeOf x1 x2 = some ro) : xm_i l yX10_hinders (Cond.code yX10_hinders cX10_hinders 3 (some .int) :: xg_tbl) { frames := 2, cells := 0, slots := 0, locals := 42 } D xcl [(cyI, .int), (cyJ, .long)] G sz [.ref (a 28), .int x1, .int x2] (wd_X10 a cyI cyJ v10_firstOf v10_sizeOf v10_longOf v10_row v10_character v10_sum v10_coefficient v10_undone v10_wasSum v10_wasCoefficient v10_hasImage v10_letter v10_letters v10_list v10_cell v10_refusals v10_tried v10_left v10_high v10_then v10_at v10_readSize) (wd_X10 a cyI cyJ v10_firstOf v10_sizeOf v10_longOf v10_row v10_character v10_sum v10_coefficient v10_undone v10_wasSum v10_wasCoefficient v10_hasImage v10_letter v10_letters v10_list v10_cell v10_refusals v10_tried v10_left v10_high v10_then v10_at v10_readSize) ro := by
  refine xm_of_i (own := RX10) (by decide) rfl rfl (Nat.le_of_ble_eq_true rfl) ?_
  intro p e s m args below meth c ls Q A hQ hAe hin Cx hsz hP hD hS hl
  have Cx1 := Cx
  obtain ⟨⟨hx, hb, hml, hown, hts⟩, hr, hlocks, hK, hA, hT⟩ := Cx1
  have hl : lv_has ls 3 [(0, .ref (a 28)), (1, .int x1), (2, .int x2)] := hl
  obtain ⟨H, eH⟩ : ∃ H, H = s.heap := ⟨_, rfl⟩
  obtain ⟨locs, eL⟩ : ∃ L : List Loc, L = [] := ⟨_, rfl⟩
  rw [← eH] at hP
  have hS : va_S A s.heap H locs := by rw [eH, eL]; exact hS
  suffices hgo : W p l e { frames := 2, cells := 0, slots := 0, locals := 42 } s m args below meth c H locs 0 0 Q (F0 m 0 ls []) by rw [eH, eL] at hgo; exact hgo
  clear eH eL
  unfold f_X10_hinders at hf
  refine lv_iload_n hx hb dX10_hinders_0 rfl (lv_at hl 1 rfl) ?_
  obtain ⟨r_12, hk_13, hf⟩ := pe_1 hf
  refine xw_z (As := [.int x1]) (rest := []) Cx hP hD hS hl (xq_none _) (c_X10_isShape l D cyI cyJ G H.size x1 r_12 hk_13) pk_X10_isShape mw_5_23 ⟨rfl, rfl, Nat.le_of_ble_eq_true rfl, Nat.le_of_ble_eq_true rfl⟩ rfl rfl (Nat.le_of_ble_eq_true rfl) ⟨Nat.le_of_ble_eq_true rfl, Nat.le_of_ble_eq_true rfl⟩ dX10_hinders_1 (fun H locs hn_14 hP hD hS => ?_)
  refine lv_if_eq (tgt := 14) hx hb dX10_hinders_4 (by decide) (fun hc_15 => ?_) (fun hc_15 => ?_)
  · have hf := pe_t hf hc_15
    refine lv_iconst (v := (-1 : Int32)) hx hb dX10_hinders_14 (by decide) ?_
    refine lv_goto (tgt := 39) hx hb dX10_hinders_15 (by decide) ?_
    obtain rfl := po_1 hf
    rw [← hQ]; exact xe_iret Cx rfl hP hD hS dX10_hinders_39
  · have hf := pe_f hf hc_15
    refine lv_iload_n hx hb dX10_hinders_7 rfl (lv_at hl 2 rfl) ?_
    obtain ⟨r_16, hk_17, hf⟩ := pe_1 hf
    refine xw_z (As := [.int x2]) (rest := []) Cx hP hD hS hl (xq_none _) (c_X10_isShape l D cyI cyJ G H.size x2 r_16 hk_17) pk_X10_isShape mw_5_23 ⟨rfl, rfl, Nat.le_of_ble_eq_true rfl, Nat.le_of_ble_eq_true rfl⟩ rfl rfl (Nat.le_of_ble_eq_true rfl) ⟨Nat.le_of_ble_eq_true rfl, Nat.le_of_ble_eq_true rfl⟩ dX10_hinders_8 (fun H locs hn_18 hP hD hS => ?_)
    refine lv_if_ne (tgt := 18) hx hb dX10_hinders_11 (by decide) (fun hc_19 => ?_) (fun hc_19 => ?_)
    · have hf := pe_f hf hc_19
      refine lv_aload_n hx hb dX10_hinders_18 rfl (lv_at hl 0 rfl) ?_
      refine va_get (ci := 10) (v := .ref (a 30)) hx hb hts wX10_in hown hK hP 0 rfl rfl 1 (by decide) (hts _ mw_4_193) (fun _ h9 => h9) rfl dX10_hinders_19 ?_
      refine lv_iload_n hx hb dX10_hinders_22 rfl (lv_at hl 1 rfl) ?_
      obtain ⟨hi_20, hf⟩ := pe_in hf
      refine va_iald hx hb hK hP 2 0 rfl rfl hi_20 dX10_hinders_23 ?_
      refine lv_aload_n hx hb dX10_hinders_24 rfl (lv_at hl 0 rfl) ?_
      refine va_get (ci := 10) (v := .ref (a 30)) hx hb hts wX10_in hown hK hP 0 rfl rfl 1 (by decide) (hts _ mw_4_193) (fun _ h9 => h9) rfl dX10_hinders_25 ?_
      refine lv_iload_n hx hb dX10_hinders_28 rfl (lv_at hl 2 rfl) ?_
      obtain ⟨hi_21, hf⟩ := pe_in hf
      refine va_iald hx hb hK hP 2 0 rfl rfl hi_21 dX10_hinders_29 ?_
      refine lv_icmp_eq (tgt := 38) hx hb dX10_hinders_30 (by decide) (fun hc_22 => ?_) (fun hc_22 => ?_)
      · have hf := pe_t hf hc_22
        refine lv_iconst (v := (0 : Int32)) hx hb dX10_hinders_38 (by decide) ?_
        obtain rfl := po_1 hf
        rw [← hQ]; exact xe_iret Cx rfl hP hD hS dX10_hinders_39
      · have hf := pe_f hf hc_22
        refine lv_bipush (v := (-3 : Int32)) hx hb dX10_hinders_33 (by decide) ?_
        refine lv_goto (tgt := 39) hx hb dX10_hinders_35 (by decide) ?_
        obtain rfl := po_1 hf
        rw [← hQ]; exact xe_iret Cx rfl hP hD hS dX10_hinders_39
    · have hf := pe_t hf hc_19
      refine lv_iconst (v := (-1 : Int32)) hx hb dX10_hinders_14 (by decide) ?_
      refine lv_goto (tgt := 39) hx hb dX10_hinders_15 (by decide) ?_
      obtain rfl := po_1 hf
      rw [← hQ]; exact xe_iret Cx rfl hP hD hS dX10_hinders_39
def f_X10_number_45 (v10_firstOf : Nat → Int32) (v10_sizeOf : Nat → Int32) (v10_longOf : Nat → Int32) (v10_row : Nat → Int32) (v10_character : Nat → Int32) (v10_refusals : Nat → Int32) : Option (Int32 × (Nat → Int32)) := p_b2 (f_X10_refused v10_refusals (-3 : Int32)) (fun r_1 v10_refusals_2 => some (r_1, v10_refusals_2))
def f_X10_number_21 (v10_firstOf : Nat → Int32) (v10_sizeOf : Nat → Int32) (v10_longOf : Nat → Int32) (v10_row : Nat → Int32) (v10_character : Nat → Int32) (v10_refusals : Nat → Int32) : Option (Int32 × (Nat → Int32)) := p_b2 (f_X10_refused v10_refusals (-1 : Int32)) (fun r_4 v10_refusals_5 => some (r_4, v10_refusals_5))
def f_X10_number (v10_firstOf : Nat → Int32) (v10_sizeOf : Nat → Int32) (v10_longOf : Nat → Int32) (v10_row : Nat → Int32) (v10_character : Nat → Int32) (v10_refusals : Nat → Int32) (x1 : Int32) (x2 : Int32) (x3 : Int32) : Option (Int32 × (Nat → Int32)) := p_b1 (f_X10_isShape x1) (fun r_7 => if r_7 = 0 then ((f_X10_number_21 v10_firstOf v10_sizeOf v10_longOf v10_row v10_character) v10_refusals) else (p_b1 (f_X10_isShape x2) (fun r_11 => if r_11 = 0 then ((f_X10_number_21 v10_firstOf v10_sizeOf v10_longOf v10_row v10_character) v10_refusals) else (p_b1 (f_X10_isShape x3) (fun r_15 => if r_15 = 0 then ((f_X10_number_21 v10_firstOf v10_sizeOf v10_longOf v10_row v10_character) v10_refusals) else (p_b1 (f_X10_hinders v10_sizeOf x1 x2) (fun r_19 => if r_19 < 0 then ((f_X10_number_45 v10_firstOf v10_sizeOf v10_longOf v10_row v10_character) v10_refusals) else (p_b1 (f_X10_hinders v10_sizeOf x1 x3) (fun r_22 => if 0 ≤ r_22 then (p_b1 (f_X10_numberOf v10_firstOf v10_sizeOf v10_longOf v10_row v10_character x1 x2 x3) (fun r_25 => some (r_25, v10_refusals))) else ((f_X10_number_45 v10_firstOf v10_sizeOf v10_longOf v10_row v10_character) v10_refusals))))))))))
set_option maxHeartbeats 4000000 in
set_option maxRecDepth 20000 in
theorem c_X10_number (l : Launch) (D : va_G) (cyI cyJ : ClassId) (G a : Nat → Nat) (sz : Nat) (v10_firstOf : Nat → Int32) (v10_sizeOf : Nat → Int32) (v10_longOf : Nat → Int32) (v10_row : Nat → Int32) (v10_character : Nat → Int32) (v10_sum : Nat → Int32) (v10_coefficient : Nat → Int32) (v10_undone : Int32) (v10_wasSum : Nat → Int32) (v10_wasCoefficient : Nat → Int32) (v10_hasImage : Int32) (v10_letter : Nat → Int32) (v10_letters : Int32) (v10_list : Nat → Int32) (v10_cell : Nat → Int32) (v10_refusals : Nat → Int32) (v10_tried : Nat → Int32) (v10_left : Int32) (v10_high : Int32) (v10_then : Nat → Int64) (v10_at : Int32) (v10_readSize : Int32) (x1 : Int32) (x2 : Int32) (x3 : Int32) (ro : Int32) (ov10_refusals : Nat → Int32) (hf : f_X10_number v10_firstOf v10_sizeOf v10_longOf v10_row v10_character v10_refusals x1 x2 x3 = some (ro, ov10_refusals)) : xm_i l yX10_number (Cond.code yX10_number cX10_number 4 (some .int) :: xg_tbl) { frames := 3, cells := 0, slots := 0, locals := 73 } D xcl [(cyI, .int), (cyJ, .long)] G sz [.ref (a 28), .int x1, .int x2, .int x3] (wd_X10 a cyI cyJ v10_firstOf v10_sizeOf v10_longOf v10_row v10_character v10_sum v10_coefficient v10_undone v10_wasSum v10_wasCoefficient v10_hasImage v10_letter v10_letters v10_list v10_cell v10_refusals v10_tried v10_left v10_high v10_then v10_at v10_readSize) (wd_X10 a cyI cyJ v10_firstOf v10_sizeOf v10_longOf v10_row v10_character v10_sum v10_coefficient v10_undone v10_wasSum v10_wasCoefficient v10_hasImage v10_letter v10_letters v10_list v10_cell ov10_refusals v10_tried v10_left v10_high v10_then v10_at v10_readSize) ro := by
  refine xm_of_i (own := RX10) (by decide) rfl rfl (Nat.le_of_ble_eq_true rfl) ?_
  intro p e s m args below meth c ls Q A hQ hAe hin Cx hsz hP hD hS hl
  have Cx1 := Cx
  obtain ⟨⟨hx, hb, hml, hown, hts⟩, hr, hlocks, hK, hA, hT⟩ := Cx1
  have hl : lv_has ls 4 [(0, .ref (a 28)), (1, .int x1), (2, .int x2), (3, .int x3)] := hl
  obtain ⟨H, eH⟩ : ∃ H, H = s.heap := ⟨_, rfl⟩
  obtain ⟨locs, eL⟩ : ∃ L : List Loc, L = [] := ⟨_, rfl⟩
  rw [← eH] at hP
  have hS : va_S A s.heap H locs := by rw [eH, eL]; exact hS
  suffices hgo : W p l e { frames := 3, cells := 0, slots := 0, locals := 73 } s m args below meth c H locs 0 0 Q (F0 m 0 ls []) by rw [eH, eL] at hgo; exact hgo
  clear eH eL
  unfold f_X10_number at hf
  have w_45 : ∀ (v10_refusals : Nat → Int32) (H : Heap) (locs : List Loc) (ls : Array Slot), (f_X10_number_45 v10_firstOf v10_sizeOf v10_longOf v10_row v10_character) v10_refusals = some (ro, ov10_refusals) → va_P D xcl (wd_X10 a cyI cyJ v10_firstOf v10_sizeOf v10_longOf v10_row v10_character v10_sum v10_coefficient v10_undone v10_wasSum v10_wasCoefficient v10_hasImage v10_letter v10_letters v10_list v10_cell v10_refusals v10_tried v10_left v10_high v10_then v10_at v10_readSize) H → va_D A (wd_X10 a cyI cyJ v10_firstOf v10_sizeOf v10_longOf v10_row v10_character v10_sum v10_coefficient v10_undone v10_wasSum v10_wasCoefficient v10_hasImage v10_letter v10_letters v10_list v10_cell v10_refusals v10_tried v10_left v10_high v10_then v10_at v10_readSize) → va_S A s.heap H locs → lv_has ls 4 [(0, .ref (a 28))] → W p l e { frames := 3, cells := 0, slots := 0, locals := 73 } s m args below meth c H locs 0 0 Q (F0 m 45 ls []) := by
    intro v10_refusals H locs ls hf hP hD hS hl
    unfold f_X10_number_45 at hf
    refine lv_aload_n hx hb dX10_number_45 rfl (lv_at hl 0 rfl) ?_
    refine lv_bipush (v := (-3 : Int32)) hx hb dX10_number_46 (by decide) ?_
    obtain ⟨r_27, v10_refusals_28, hk_29, hf⟩ := pe_2 hf
    refine xv_i (As := [.int (-3 : Int32)]) (rest := []) (q0 := 0) (ci := 10) Cx hP hD hS hl (pl_X10_X10 a cyI cyJ v10_firstOf v10_sizeOf v10_longOf v10_row v10_character v10_sum v10_coefficient v10_undone v10_wasSum v10_wasCoefficient v10_hasImage v10_letter v10_letters v10_list v10_cell v10_refusals v10_tried v10_left v10_high v10_then v10_at v10_readSize v10_firstOf v10_sizeOf v10_longOf v10_row v10_character v10_sum v10_coefficient v10_undone v10_wasSum v10_wasCoefficient v10_hasImage v10_letter v10_letters v10_list v10_cell v10_refusals_28 v10_tried v10_left v10_high v10_then v10_at v10_readSize) (c_X10_refused l D cyI cyJ G a H.size v10_firstOf v10_sizeOf v10_longOf v10_row v10_character v10_sum v10_coefficient v10_undone v10_wasSum v10_wasCoefficient v10_hasImage v10_letter v10_letters v10_list v10_cell v10_refusals v10_tried v10_left v10_high v10_then v10_at v10_readSize (-3 : Int32) r_27 v10_refusals_28 hk_29) pk_X10_refused mw_5_29 ⟨rfl, rfl, Nat.le_of_ble_eq_true rfl, Nat.le_of_ble_eq_true rfl⟩ rfl rfl rfl rfl rfl (Nat.le_of_ble_eq_true rfl) ⟨Nat.le_of_ble_eq_true rfl, Nat.le_of_ble_eq_true rfl⟩ dX10_number_48 (fun H locs hP hD hS => ?_)
    refine lv_goto (tgt := 61) hx hb dX10_number_51 (by decide) ?_
    obtain ⟨rfl, rfl⟩ := po_2 hf
    rw [← hQ]; exact xe_iret Cx rfl hP hD hS dX10_number_61
  have w_21 : ∀ (v10_refusals : Nat → Int32) (H : Heap) (locs : List Loc) (ls : Array Slot), (f_X10_number_21 v10_firstOf v10_sizeOf v10_longOf v10_row v10_character) v10_refusals = some (ro, ov10_refusals) → va_P D xcl (wd_X10 a cyI cyJ v10_firstOf v10_sizeOf v10_longOf v10_row v10_character v10_sum v10_coefficient v10_undone v10_wasSum v10_wasCoefficient v10_hasImage v10_letter v10_letters v10_list v10_cell v10_refusals v10_tried v10_left v10_high v10_then v10_at v10_readSize) H → va_D A (wd_X10 a cyI cyJ v10_firstOf v10_sizeOf v10_longOf v10_row v10_character v10_sum v10_coefficient v10_undone v10_wasSum v10_wasCoefficient v10_hasImage v10_letter v10_letters v10_list v10_cell v10_refusals v10_tried v10_left v10_high v10_then v10_at v10_readSize) → va_S A s.heap H locs → lv_has ls 4 [(0, .ref (a 28))] → W p l e { frames := 3, cells := 0, slots := 0, locals := 73 } s m args below meth c H locs 0 0 Q (F0 m 21 ls []) := by
    intro v10_refusals H locs ls hf hP hD hS hl
    unfold f_X10_number_21 at hf
    refine lv_aload_n hx hb dX10_number_21 rfl (lv_at hl 0 rfl) ?_
    refine lv_iconst (v := (-1 : Int32)) hx hb dX10_number_22 (by decide) ?_
    obtain ⟨r_30, v10_refusals_31, hk_32, hf⟩ := pe_2 hf
    refine xv_i (As := [.int (-1 : Int32)]) (rest := []) (q0 := 0) (ci := 10) Cx hP hD hS hl (pl_X10_X10 a cyI cyJ v10_firstOf v10_sizeOf v10_longOf v10_row v10_character v10_sum v10_coefficient v10_undone v10_wasSum v10_wasCoefficient v10_hasImage v10_letter v10_letters v10_list v10_cell v10_refusals v10_tried v10_left v10_high v10_then v10_at v10_readSize v10_firstOf v10_sizeOf v10_longOf v10_row v10_character v10_sum v10_coefficient v10_undone v10_wasSum v10_wasCoefficient v10_hasImage v10_letter v10_letters v10_list v10_cell v10_refusals_31 v10_tried v10_left v10_high v10_then v10_at v10_readSize) (c_X10_refused l D cyI cyJ G a H.size v10_firstOf v10_sizeOf v10_longOf v10_row v10_character v10_sum v10_coefficient v10_undone v10_wasSum v10_wasCoefficient v10_hasImage v10_letter v10_letters v10_list v10_cell v10_refusals v10_tried v10_left v10_high v10_then v10_at v10_readSize (-1 : Int32) r_30 v10_refusals_31 hk_32) pk_X10_refused mw_5_29 ⟨rfl, rfl, Nat.le_of_ble_eq_true rfl, Nat.le_of_ble_eq_true rfl⟩ rfl rfl rfl rfl rfl (Nat.le_of_ble_eq_true rfl) ⟨Nat.le_of_ble_eq_true rfl, Nat.le_of_ble_eq_true rfl⟩ dX10_number_23 (fun H locs hP hD hS => ?_)
    obtain ⟨rfl, rfl⟩ := po_2 hf
    rw [← hQ]; exact xe_iret Cx rfl hP hD hS dX10_number_26
  refine lv_iload_n hx hb dX10_number_0 rfl (lv_at hl 1 rfl) ?_
  obtain ⟨r_33, hk_34, hf⟩ := pe_1 hf
  refine xw_z (As := [.int x1]) (rest := []) Cx hP hD hS hl (xq_none _) (c_X10_isShape l D cyI cyJ G H.size x1 r_33 hk_34) pk_X10_isShape mw_5_23 ⟨rfl, rfl, Nat.le_of_ble_eq_true rfl, Nat.le_of_ble_eq_true rfl⟩ rfl rfl (Nat.le_of_ble_eq_true rfl) ⟨Nat.le_of_ble_eq_true rfl, Nat.le_of_ble_eq_true rfl⟩ dX10_number_1 (fun H locs hn_35 hP hD hS => ?_)
  refine lv_if_eq (tgt := 21) hx hb dX10_number_4 (by decide) (fun hc_36 => ?_) (fun hc_36 => ?_)
  · have hf := pe_t hf hc_36
    exact w_21 v10_refusals H locs ls hf hP hD hS (lv_sub hl [0] rfl)
  · have hf := pe_f hf hc_36
    refine lv_iload_n hx hb dX10_number_7 rfl (lv_at hl 2 rfl) ?_
    obtain ⟨r_37, hk_38, hf⟩ := pe_1 hf
    refine xw_z (As := [.int x2]) (rest := []) Cx hP hD hS hl (xq_none _) (c_X10_isShape l D cyI cyJ G H.size x2 r_37 hk_38) pk_X10_isShape mw_5_23 ⟨rfl, rfl, Nat.le_of_ble_eq_true rfl, Nat.le_of_ble_eq_true rfl⟩ rfl rfl (Nat.le_of_ble_eq_true rfl) ⟨Nat.le_of_ble_eq_true rfl, Nat.le_of_ble_eq_true rfl⟩ dX10_number_8 (fun H locs hn_39 hP hD hS => ?_)
    refine lv_if_eq (tgt := 21) hx hb dX10_number_11 (by decide) (fun hc_40 => ?_) (fun hc_40 => ?_)
    · have hf := pe_t hf hc_40
      exact w_21 v10_refusals H locs ls hf hP hD hS (lv_sub hl [0] rfl)
    · have hf := pe_f hf hc_40
      refine lv_iload_n hx hb dX10_number_14 rfl (lv_at hl 3 rfl) ?_
      obtain ⟨r_41, hk_42, hf⟩ := pe_1 hf
      refine xw_z (As := [.int x3]) (rest := []) Cx hP hD hS hl (xq_none _) (c_X10_isShape l D cyI cyJ G H.size x3 r_41 hk_42) pk_X10_isShape mw_5_23 ⟨rfl, rfl, Nat.le_of_ble_eq_true rfl, Nat.le_of_ble_eq_true rfl⟩ rfl rfl (Nat.le_of_ble_eq_true rfl) ⟨Nat.le_of_ble_eq_true rfl, Nat.le_of_ble_eq_true rfl⟩ dX10_number_15 (fun H locs hn_43 hP hD hS => ?_)
      refine lv_if_ne (tgt := 27) hx hb dX10_number_18 (by decide) (fun hc_44 => ?_) (fun hc_44 => ?_)
      · have hf := pe_f hf hc_44
        refine lv_aload_n hx hb dX10_number_27 rfl (lv_at hl 0 rfl) ?_
        refine lv_iload_n hx hb dX10_number_28 rfl (lv_at hl 1 rfl) ?_
        refine lv_iload_n hx hb dX10_number_29 rfl (lv_at hl 2 rfl) ?_
        obtain ⟨r_45, hk_46, hf⟩ := pe_1 hf
        refine xv_i (As := [.int x1, .int x2]) (rest := []) (q0 := 0) (ci := 10) Cx hP hD hS hl (pl_X10_X10 a cyI cyJ v10_firstOf v10_sizeOf v10_longOf v10_row v10_character v10_sum v10_coefficient v10_undone v10_wasSum v10_wasCoefficient v10_hasImage v10_letter v10_letters v10_list v10_cell v10_refusals v10_tried v10_left v10_high v10_then v10_at v10_readSize v10_firstOf v10_sizeOf v10_longOf v10_row v10_character v10_sum v10_coefficient v10_undone v10_wasSum v10_wasCoefficient v10_hasImage v10_letter v10_letters v10_list v10_cell v10_refusals v10_tried v10_left v10_high v10_then v10_at v10_readSize) (c_X10_hinders l D cyI cyJ G a H.size v10_firstOf v10_sizeOf v10_longOf v10_row v10_character v10_sum v10_coefficient v10_undone v10_wasSum v10_wasCoefficient v10_hasImage v10_letter v10_letters v10_list v10_cell v10_refusals v10_tried v10_left v10_high v10_then v10_at v10_readSize x1 x2 r_45 hk_46) pk_X10_hinders mw_5_108 ⟨rfl, rfl, Nat.le_of_ble_eq_true rfl, Nat.le_of_ble_eq_true rfl⟩ rfl rfl rfl rfl rfl (Nat.le_of_ble_eq_true rfl) ⟨Nat.le_of_ble_eq_true rfl, Nat.le_of_ble_eq_true rfl⟩ dX10_number_30 (fun H locs hP hD hS => ?_)
        refine lv_if_lt (tgt := 45) hx hb dX10_number_33 (by decide) (fun hc_47 => ?_) (fun hc_47 => ?_)
        · have hf := pe_t hf hc_47
          exact w_45 v10_refusals H locs ls hf hP hD hS (lv_sub hl [0] rfl)
        · have hf := pe_f hf hc_47
          refine lv_aload_n hx hb dX10_number_36 rfl (lv_at hl 0 rfl) ?_
          refine lv_iload_n hx hb dX10_number_37 rfl (lv_at hl 1 rfl) ?_
          refine lv_iload_n hx hb dX10_number_38 rfl (lv_at hl 3 rfl) ?_
          obtain ⟨r_48, hk_49, hf⟩ := pe_1 hf
          refine xv_i (As := [.int x1, .int x3]) (rest := []) (q0 := 0) (ci := 10) Cx hP hD hS hl (pl_X10_X10 a cyI cyJ v10_firstOf v10_sizeOf v10_longOf v10_row v10_character v10_sum v10_coefficient v10_undone v10_wasSum v10_wasCoefficient v10_hasImage v10_letter v10_letters v10_list v10_cell v10_refusals v10_tried v10_left v10_high v10_then v10_at v10_readSize v10_firstOf v10_sizeOf v10_longOf v10_row v10_character v10_sum v10_coefficient v10_undone v10_wasSum v10_wasCoefficient v10_hasImage v10_letter v10_letters v10_list v10_cell v10_refusals v10_tried v10_left v10_high v10_then v10_at v10_readSize) (c_X10_hinders l D cyI cyJ G a H.size v10_firstOf v10_sizeOf v10_longOf v10_row v10_character v10_sum v10_coefficient v10_undone v10_wasSum v10_wasCoefficient v10_hasImage v10_letter v10_letters v10_list v10_cell v10_refusals v10_tried v10_left v10_high v10_then v10_at v10_readSize x1 x3 r_48 hk_49) pk_X10_hinders mw_5_108 ⟨rfl, rfl, Nat.le_of_ble_eq_true rfl, Nat.le_of_ble_eq_true rfl⟩ rfl rfl rfl rfl rfl (Nat.le_of_ble_eq_true rfl) ⟨Nat.le_of_ble_eq_true rfl, Nat.le_of_ble_eq_true rfl⟩ dX10_number_39 (fun H locs hP hD hS => ?_)
          refine lv_if_ge (tgt := 54) hx hb dX10_number_42 (by decide) (fun hc_50 => ?_) (fun hc_50 => ?_)
          · have hf := pe_t hf hc_50
            refine lv_aload_n hx hb dX10_number_54 rfl (lv_at hl 0 rfl) ?_
            refine lv_iload_n hx hb dX10_number_55 rfl (lv_at hl 1 rfl) ?_
            refine lv_iload_n hx hb dX10_number_56 rfl (lv_at hl 2 rfl) ?_
            refine lv_iload_n hx hb dX10_number_57 rfl (lv_at hl 3 rfl) ?_
            obtain ⟨r_51, hk_52, hf⟩ := pe_1 hf
            refine xv_i (As := [.int x1, .int x2, .int x3]) (rest := []) (q0 := 0) (ci := 10) Cx hP hD hS hl (pl_X10_X10 a cyI cyJ v10_firstOf v10_sizeOf v10_longOf v10_row v10_character v10_sum v10_coefficient v10_undone v10_wasSum v10_wasCoefficient v10_hasImage v10_letter v10_letters v10_list v10_cell v10_refusals v10_tried v10_left v10_high v10_then v10_at v10_readSize v10_firstOf v10_sizeOf v10_longOf v10_row v10_character v10_sum v10_coefficient v10_undone v10_wasSum v10_wasCoefficient v10_hasImage v10_letter v10_letters v10_list v10_cell v10_refusals v10_tried v10_left v10_high v10_then v10_at v10_readSize) (c_X10_numberOf l D cyI cyJ G a H.size v10_firstOf v10_sizeOf v10_longOf v10_row v10_character v10_sum v10_coefficient v10_undone v10_wasSum v10_wasCoefficient v10_hasImage v10_letter v10_letters v10_list v10_cell v10_refusals v10_tried v10_left v10_high v10_then v10_at v10_readSize x1 x2 x3 r_51 hk_52) pk_X10_numberOf mw_5_112 ⟨rfl, rfl, Nat.le_of_ble_eq_true rfl, Nat.le_of_ble_eq_true rfl⟩ rfl rfl rfl rfl rfl (Nat.le_of_ble_eq_true rfl) ⟨Nat.le_of_ble_eq_true rfl, Nat.le_of_ble_eq_true rfl⟩ dX10_number_58 (fun H locs hP hD hS => ?_)
            obtain ⟨rfl, rfl⟩ := po_2 hf
            rw [← hQ]; exact xe_iret Cx rfl hP hD hS dX10_number_61
          · have hf := pe_f hf hc_50
            exact w_45 v10_refusals H locs ls hf hP hD hS (lv_sub hl [0] rfl)
      · have hf := pe_t hf hc_44
        exact w_21 v10_refusals H locs ls hf hP hD hS (lv_sub hl [0] rfl)
def f_X10_product_110 (K_48 : (Nat → Int32) → Int32 → Int32 → Int32 → Int32 → Int32 → Option (Int32 × (Nat → Int32))) (v10_firstOf : Nat → Int32) (v10_sizeOf : Nat → Int32) (v10_longOf : Nat → Int32) (v10_row : Nat → Int32) (v10_character : Nat → Int32) (v10_refusals : Nat → Int32) (y1 : Int32) (y2 : Int32) (y3 : Int32) (y5 : Int32) (z0 : Int32) (z1 : Int32) : Option (Int32 × (Nat → Int32)) := K_48 v10_refusals y1 y2 y3 (z1 + z0) (y5 + (1 : Int32))
def f_X10_product_98 (K_48 : (Nat → Int32) → Int32 → Int32 → Int32 → Int32 → Int32 → Option (Int32 × (Nat → Int32))) (v10_firstOf : Nat → Int32) (v10_sizeOf : Nat → Int32) (v10_longOf : Nat → Int32) (v10_row : Nat → Int32) (v10_character : Nat → Int32) (v10_refusals : Nat → Int32) (y1 : Int32) (y2 : Int32) (y3 : Int32) (y4 : Int32) (y5 : Int32) (y6 : Int32) : Option (Int32 × (Nat → Int32)) := if y6 = 0 then ((f_X10_product_110 K_48 v10_firstOf v10_sizeOf v10_longOf v10_row v10_character) v10_refusals y1 y2 y3 y5 (0 : Int32) y4) else ((f_X10_product_110 K_48 v10_firstOf v10_sizeOf v10_longOf v10_row v10_character) v10_refusals y1 y2 y3 y5 (1 : Int32) y4)
def f_X10_product_82 (K_48 : (Nat → Int32) → Int32 → Int32 → Int32 → Int32 → Int32 → Option (Int32 × (Nat → Int32))) (v10_firstOf : Nat → Int32) (v10_sizeOf : Nat → Int32) (v10_longOf : Nat → Int32) (v10_row : Nat → Int32) (v10_character : Nat → Int32) (v10_refusals : Nat → Int32) (y1 : Int32) (y2 : Int32) (y3 : Int32) (y4 : Int32) (y5 : Int32) (z0 : Int32) : Option (Int32 × (Nat → Int32)) := if z0 = 0 then ((f_X10_product_98 K_48 v10_firstOf v10_sizeOf v10_longOf v10_row v10_character) v10_refusals y1 y2 y3 y4 y5 z0) else (if y4 = y3 then (some (y5, v10_refusals)) else ((f_X10_product_98 K_48 v10_firstOf v10_sizeOf v10_longOf v10_row v10_character) v10_refusals y1 y2 y3 y4 y5 z0))
def gf_X10_product_48 (K_48 : (Nat → Int32) → Int32 → Int32 → Int32 → Int32 → Int32 → Option (Int32 × (Nat → Int32))) (v10_firstOf : Nat → Int32) (v10_sizeOf : Nat → Int32) (v10_longOf : Nat → Int32) (v10_row : Nat → Int32) (v10_character : Nat → Int32) (v10_refusals : Nat → Int32) (y1 : Int32) (y2 : Int32) (y3 : Int32) (y4 : Int32) (y5 : Int32) : Option (Int32 × (Nat → Int32)) := p_in y1 67 (p_in ((v10_sizeOf (Int32.toNatClampNeg y1)) + (1 : Int32)) 10 (if (v10_firstOf (Int32.toNatClampNeg ((v10_sizeOf (Int32.toNatClampNeg y1)) + (1 : Int32)))) ≤ y5 then (if y3 = (-1 : Int32) then (some (y4, v10_refusals)) else (some ((-9 : Int32), v10_refusals))) else (p_b1 (f_X10_numberOf v10_firstOf v10_sizeOf v10_longOf v10_row v10_character y1 y2 y5) (fun r_8 => if r_8 ≤ 0 then ((f_X10_product_82 K_48 v10_firstOf v10_sizeOf v10_longOf v10_row v10_character) v10_refusals y1 y2 y3 y4 y5 (0 : Int32)) else ((f_X10_product_82 K_48 v10_firstOf v10_sizeOf v10_longOf v10_row v10_character) v10_refusals y1 y2 y3 y4 y5 (1 : Int32))))))
def f_X10_product_48 (v10_firstOf : Nat → Int32) (v10_sizeOf : Nat → Int32) (v10_longOf : Nat → Int32) (v10_row : Nat → Int32) (v10_character : Nat → Int32) : Nat → (Nat → Int32) → Int32 → Int32 → Int32 → Int32 → Int32 → Option (Int32 × (Nat → Int32))
  | 0 => fun _ _ _ _ _ _ => none
  | n + 1 => gf_X10_product_48 (f_X10_product_48 v10_firstOf v10_sizeOf v10_longOf v10_row v10_character n) v10_firstOf v10_sizeOf v10_longOf v10_row v10_character
def f_X10_product (v10_firstOf : Nat → Int32) (v10_sizeOf : Nat → Int32) (v10_longOf : Nat → Int32) (v10_row : Nat → Int32) (v10_character : Nat → Int32) (v10_refusals : Nat → Int32) (x1 : Int32) (x2 : Int32) (x3 : Int32) : Option (Int32 × (Nat → Int32)) := p_b1 (f_X10_hinders v10_sizeOf x1 x2) (fun r_11 => if 0 ≤ r_11 then (if (-1 : Int32) ≤ x3 then (p_in x1 67 (p_in (v10_sizeOf (Int32.toNatClampNeg x1)) 10 ((f_X10_product_48 v10_firstOf v10_sizeOf v10_longOf v10_row v10_character 1000) v10_refusals x1 x2 x3 (0 : Int32) (v10_firstOf (Int32.toNatClampNeg (v10_sizeOf (Int32.toNatClampNeg x1))))))) else (p_b2 (f_X10_refused v10_refusals (-4 : Int32)) (fun r_17 v10_refusals_18 => some (r_17, v10_refusals_18)))) else (p_b1 (f_X10_hinders v10_sizeOf x1 x2) (fun r_20 => p_b2 (f_X10_refused v10_refusals r_20) (fun r_22 v10_refusals_23 => some (r_22, v10_refusals_23)))))
set_option maxHeartbeats 4000000 in
set_option maxRecDepth 20000 in
theorem c_X10_product (l : Launch) (D : va_G) (cyI cyJ : ClassId) (G a : Nat → Nat) (sz : Nat) (v10_firstOf : Nat → Int32) (v10_sizeOf : Nat → Int32) (v10_longOf : Nat → Int32) (v10_row : Nat → Int32) (v10_character : Nat → Int32) (v10_sum : Nat → Int32) (v10_coefficient : Nat → Int32) (v10_undone : Int32) (v10_wasSum : Nat → Int32) (v10_wasCoefficient : Nat → Int32) (v10_hasImage : Int32) (v10_letter : Nat → Int32) (v10_letters : Int32) (v10_list : Nat → Int32) (v10_cell : Nat → Int32) (v10_refusals : Nat → Int32) (v10_tried : Nat → Int32) (v10_left : Int32) (v10_high : Int32) (v10_then : Nat → Int64) (v10_at : Int32) (v10_readSize : Int32) (x1 : Int32) (x2 : Int32) (x3 : Int32) (ro : Int32) (ov10_refusals : Nat → Int32) (hf : f_X10_product v10_firstOf v10_sizeOf v10_longOf v10_row v10_character v10_refusals x1 x2 x3 = some (ro, ov10_refusals)) : xm_i l yX10_product (Cond.code yX10_product cX10_product 7 (some .int) :: xg_tbl) { frames := 3, cells := 0, slots := 0, locals := 73 } D xcl [(cyI, .int), (cyJ, .long)] G sz [.ref (a 28), .int x1, .int x2, .int x3] (wd_X10 a cyI cyJ v10_firstOf v10_sizeOf v10_longOf v10_row v10_character v10_sum v10_coefficient v10_undone v10_wasSum v10_wasCoefficient v10_hasImage v10_letter v10_letters v10_list v10_cell v10_refusals v10_tried v10_left v10_high v10_then v10_at v10_readSize) (wd_X10 a cyI cyJ v10_firstOf v10_sizeOf v10_longOf v10_row v10_character v10_sum v10_coefficient v10_undone v10_wasSum v10_wasCoefficient v10_hasImage v10_letter v10_letters v10_list v10_cell ov10_refusals v10_tried v10_left v10_high v10_then v10_at v10_readSize) ro := by
  refine xm_of_i (own := RX10) (by decide) rfl rfl (Nat.le_of_ble_eq_true rfl) ?_
  intro p e s m args below meth c ls Q A hQ hAe hin Cx hsz hP hD hS hl
  have Cx1 := Cx
  obtain ⟨⟨hx, hb, hml, hown, hts⟩, hr, hlocks, hK, hA, hT⟩ := Cx1
  have hl : lv_has ls 7 [(0, .ref (a 28)), (1, .int x1), (2, .int x2), (3, .int x3)] := hl
  obtain ⟨H, eH⟩ : ∃ H, H = s.heap := ⟨_, rfl⟩
  obtain ⟨locs, eL⟩ : ∃ L : List Loc, L = [] := ⟨_, rfl⟩
  rw [← eH] at hP
  have hS : va_S A s.heap H locs := by rw [eH, eL]; exact hS
  suffices hgo : W p l e { frames := 3, cells := 0, slots := 0, locals := 73 } s m args below meth c H locs 0 0 Q (F0 m 0 ls []) by rw [eH, eL] at hgo; exact hgo
  clear eH eL
  unfold f_X10_product at hf
  have w_48 : ∀ (n_48 : Nat) (v10_refusals : Nat → Int32) (y1 : Int32) (y2 : Int32) (y3 : Int32) (y4 : Int32) (y5 : Int32) (H : Heap) (locs : List Loc) (ls : Array Slot), (f_X10_product_48 v10_firstOf v10_sizeOf v10_longOf v10_row v10_character) n_48 v10_refusals y1 y2 y3 y4 y5 = some (ro, ov10_refusals) → va_P D xcl (wd_X10 a cyI cyJ v10_firstOf v10_sizeOf v10_longOf v10_row v10_character v10_sum v10_coefficient v10_undone v10_wasSum v10_wasCoefficient v10_hasImage v10_letter v10_letters v10_list v10_cell v10_refusals v10_tried v10_left v10_high v10_then v10_at v10_readSize) H → va_D A (wd_X10 a cyI cyJ v10_firstOf v10_sizeOf v10_longOf v10_row v10_character v10_sum v10_coefficient v10_undone v10_wasSum v10_wasCoefficient v10_hasImage v10_letter v10_letters v10_list v10_cell v10_refusals v10_tried v10_left v10_high v10_then v10_at v10_readSize) → va_S A s.heap H locs → lv_has ls 7 [(0, .ref (a 28)), (1, .int y1), (2, .int y2), (3, .int y3), (4, .int y4), (5, .int y5)] → W p l e { frames := 3, cells := 0, slots := 0, locals := 73 } s m args below meth c H locs 0 0 Q (F0 m 48 ls []) := by
    intro n_48
    induction n_48 with
    | zero => intro v10_refusals y1 y2 y3 y4 y5 H locs ls hf; exact absurd hf (by intro h9; cases h9)
    | succ n_48 w_48 =>
      intro v10_refusals y1 y2 y3 y4 y5 H locs ls hf hP hD hS hl
      have hf : gf_X10_product_48 ((f_X10_product_48 v10_firstOf v10_sizeOf v10_longOf v10_row v10_character) n_48) v10_firstOf v10_sizeOf v10_longOf v10_row v10_character v10_refusals y1 y2 y3 y4 y5 = some (ro, ov10_refusals) := hf
      unfold gf_X10_product_48 at hf
      have w_82 : ∀ (v10_refusals : Nat → Int32) (y1 : Int32) (y2 : Int32) (y3 : Int32) (y4 : Int32) (y5 : Int32) (z0 : Int32) (H : Heap) (locs : List Loc) (ls : Array Slot), (f_X10_product_82 ((f_X10_product_48 v10_firstOf v10_sizeOf v10_longOf v10_row v10_character) n_48) v10_firstOf v10_sizeOf v10_longOf v10_row v10_character) v10_refusals y1 y2 y3 y4 y5 z0 = some (ro, ov10_refusals) → va_P D xcl (wd_X10 a cyI cyJ v10_firstOf v10_sizeOf v10_longOf v10_row v10_character v10_sum v10_coefficient v10_undone v10_wasSum v10_wasCoefficient v10_hasImage v10_letter v10_letters v10_list v10_cell v10_refusals v10_tried v10_left v10_high v10_then v10_at v10_readSize) H → va_D A (wd_X10 a cyI cyJ v10_firstOf v10_sizeOf v10_longOf v10_row v10_character v10_sum v10_coefficient v10_undone v10_wasSum v10_wasCoefficient v10_hasImage v10_letter v10_letters v10_list v10_cell v10_refusals v10_tried v10_left v10_high v10_then v10_at v10_readSize) → va_S A s.heap H locs → lv_has ls 7 [(0, .ref (a 28)), (1, .int y1), (2, .int y2), (3, .int y3), (4, .int y4), (5, .int y5)] → W p l e { frames := 3, cells := 0, slots := 0, locals := 73 } s m args below meth c H locs 0 0 Q (F0 m 82 ls [.int z0]) := by
        intro v10_refusals y1 y2 y3 y4 y5 z0 H locs ls hf hP hD hS hl
        unfold f_X10_product_82 at hf
        have w_98 : ∀ (v10_refusals : Nat → Int32) (y1 : Int32) (y2 : Int32) (y3 : Int32) (y4 : Int32) (y5 : Int32) (y6 : Int32) (H : Heap) (locs : List Loc) (ls : Array Slot), (f_X10_product_98 ((f_X10_product_48 v10_firstOf v10_sizeOf v10_longOf v10_row v10_character) n_48) v10_firstOf v10_sizeOf v10_longOf v10_row v10_character) v10_refusals y1 y2 y3 y4 y5 y6 = some (ro, ov10_refusals) → va_P D xcl (wd_X10 a cyI cyJ v10_firstOf v10_sizeOf v10_longOf v10_row v10_character v10_sum v10_coefficient v10_undone v10_wasSum v10_wasCoefficient v10_hasImage v10_letter v10_letters v10_list v10_cell v10_refusals v10_tried v10_left v10_high v10_then v10_at v10_readSize) H → va_D A (wd_X10 a cyI cyJ v10_firstOf v10_sizeOf v10_longOf v10_row v10_character v10_sum v10_coefficient v10_undone v10_wasSum v10_wasCoefficient v10_hasImage v10_letter v10_letters v10_list v10_cell v10_refusals v10_tried v10_left v10_high v10_then v10_at v10_readSize) → va_S A s.heap H locs → lv_has ls 7 [(0, .ref (a 28)), (1, .int y1), (2, .int y2), (3, .int y3), (4, .int y4), (5, .int y5), (6, .int y6)] → W p l e { frames := 3, cells := 0, slots := 0, locals := 73 } s m args below meth c H locs 0 0 Q (F0 m 98 ls []) := by
          intro v10_refusals y1 y2 y3 y4 y5 y6 H locs ls hf hP hD hS hl
          unfold f_X10_product_98 at hf
          have w_110 : ∀ (v10_refusals : Nat → Int32) (y1 : Int32) (y2 : Int32) (y3 : Int32) (y5 : Int32) (z0 : Int32) (z1 : Int32) (H : Heap) (locs : List Loc) (ls : Array Slot), (f_X10_product_110 ((f_X10_product_48 v10_firstOf v10_sizeOf v10_longOf v10_row v10_character) n_48) v10_firstOf v10_sizeOf v10_longOf v10_row v10_character) v10_refusals y1 y2 y3 y5 z0 z1 = some (ro, ov10_refusals) → va_P D xcl (wd_X10 a cyI cyJ v10_firstOf v10_sizeOf v10_longOf v10_row v10_character v10_sum v10_coefficient v10_undone v10_wasSum v10_wasCoefficient v10_hasImage v10_letter v10_letters v10_list v10_cell v10_refusals v10_tried v10_left v10_high v10_then v10_at v10_readSize) H → va_D A (wd_X10 a cyI cyJ v10_firstOf v10_sizeOf v10_longOf v10_row v10_character v10_sum v10_coefficient v10_undone v10_wasSum v10_wasCoefficient v10_hasImage v10_letter v10_letters v10_list v10_cell v10_refusals v10_tried v10_left v10_high v10_then v10_at v10_readSize) → va_S A s.heap H locs → lv_has ls 7 [(0, .ref (a 28)), (1, .int y1), (2, .int y2), (3, .int y3), (5, .int y5)] → W p l e { frames := 3, cells := 0, slots := 0, locals := 73 } s m args below meth c H locs 0 0 Q (F0 m 110 ls [.int z0, .int z1]) := by
            intro v10_refusals y1 y2 y3 y5 z0 z1 H locs ls hf hP hD hS hl
            unfold f_X10_product_110 at hf
            refine lv_iadd hx hb dX10_product_110 ?_
            refine lv_istore (lv' := [(4, .int (z1 + z0)), (0, .ref (a 28)), (1, .int y1), (2, .int y2), (3, .int y3), (5, .int y5)]) hx hb dX10_product_111 hl (by decide) rfl (fun ls hl => ?_)
            refine lv_iinc (v := (y5 + (1 : Int32))) (lv' := [(5, .int (y5 + (1 : Int32))), (4, .int (z1 + z0)), (0, .ref (a 28)), (1, .int y1), (2, .int y2), (3, .int y3)]) hx hb dX10_product_113 hl (k := 5) rfl rfl (by decide) rfl (fun ls hl => ?_)
            refine lv_goto (tgt := 48) hx hb dX10_product_116 (by decide) ?_
            exact w_48 v10_refusals y1 y2 y3 (z1 + z0) (y5 + (1 : Int32)) H locs ls hf hP hD hS (lv_sub hl [2, 3, 4, 5, 1, 0] rfl)
          refine lv_iload hx hb dX10_product_98 (lv_at hl 4 rfl) ?_
          refine lv_iload hx hb dX10_product_100 (lv_at hl 6 rfl) ?_
          refine lv_if_eq (tgt := 109) hx hb dX10_product_102 (by decide) (fun hc_25 => ?_) (fun hc_25 => ?_)
          · have hf := pe_t hf hc_25
            refine lv_iconst (v := (0 : Int32)) hx hb dX10_product_109 (by decide) ?_
            exact w_110 v10_refusals y1 y2 y3 y5 (0 : Int32) y4 H locs ls hf hP hD hS (lv_sub hl [0, 1, 2, 3, 5] rfl)
          · have hf := pe_f hf hc_25
            refine lv_iconst (v := (1 : Int32)) hx hb dX10_product_105 (by decide) ?_
            refine lv_goto (tgt := 110) hx hb dX10_product_106 (by decide) ?_
            exact w_110 v10_refusals y1 y2 y3 y5 (1 : Int32) y4 H locs ls hf hP hD hS (lv_sub hl [0, 1, 2, 3, 5] rfl)
        refine lv_istore (lv' := [(6, .int z0), (0, .ref (a 28)), (1, .int y1), (2, .int y2), (3, .int y3), (4, .int y4), (5, .int y5)]) hx hb dX10_product_82 hl (by decide) rfl (fun ls hl => ?_)
        refine lv_iload hx hb dX10_product_84 (lv_at hl 0 rfl) ?_
        refine lv_if_eq (tgt := 98) hx hb dX10_product_86 (by decide) (fun hc_26 => ?_) (fun hc_26 => ?_)
        · have hf := pe_t hf hc_26
          exact w_98 v10_refusals y1 y2 y3 y4 y5 z0 H locs ls hf hP hD hS (lv_sub hl [1, 2, 3, 4, 5, 6, 0] rfl)
        · have hf := pe_f hf hc_26
          refine lv_iload hx hb dX10_product_89 (lv_at hl 5 rfl) ?_
          refine lv_iload_n hx hb dX10_product_91 rfl (lv_at hl 4 rfl) ?_
          refine lv_icmp_ne (tgt := 98) hx hb dX10_product_92 (by decide) (fun hc_27 => ?_) (fun hc_27 => ?_)
          · have hf := pe_f hf hc_27
            exact w_98 v10_refusals y1 y2 y3 y4 y5 z0 H locs ls hf hP hD hS (lv_sub hl [1, 2, 3, 4, 5, 6, 0] rfl)
          · have hf := pe_t hf hc_27
            refine lv_iload hx hb dX10_product_95 (lv_at hl 6 rfl) ?_
            obtain ⟨rfl, rfl⟩ := po_2 hf
            rw [← hQ]; exact xe_iret Cx rfl hP hD hS dX10_product_97
      refine lv_iload hx hb dX10_product_48 (lv_at hl 5 rfl) ?_
      refine lv_aload_n hx hb dX10_product_50 rfl (lv_at hl 0 rfl) ?_
      refine va_get (ci := 10) (v := .ref (a 29)) hx hb hts wX10_in hown hK hP 0 rfl rfl 0 (by decide) (hts _ mw_4_192) (fun _ h9 => h9) rfl dX10_product_51 ?_
      refine lv_aload_n hx hb dX10_product_54 rfl (lv_at hl 0 rfl) ?_
      refine va_get (ci := 10) (v := .ref (a 30)) hx hb hts wX10_in hown hK hP 0 rfl rfl 1 (by decide) (hts _ mw_4_193) (fun _ h9 => h9) rfl dX10_product_55 ?_
      refine lv_iload_n hx hb dX10_product_58 rfl (lv_at hl 1 rfl) ?_
      obtain ⟨hi_28, hf⟩ := pe_in hf
      refine va_iald hx hb hK hP 2 0 rfl rfl hi_28 dX10_product_59 ?_
      refine lv_iconst (v := (1 : Int32)) hx hb dX10_product_60 (by decide) ?_
      refine lv_iadd hx hb dX10_product_61 ?_
      obtain ⟨hi_29, hf⟩ := pe_in hf
      refine va_iald hx hb hK hP 1 0 rfl rfl hi_29 dX10_product_62 ?_
      refine lv_icmp_ge (tgt := 119) hx hb dX10_product_63 (by decide) (fun hc_30 => ?_) (fun hc_30 => ?_)
      · have hf := pe_t hf hc_30
        refine lv_iload_n hx hb dX10_product_119 rfl (lv_at hl 3 rfl) ?_
        refine lv_iconst (v := (-1 : Int32)) hx hb dX10_product_120 (by decide) ?_
        refine lv_icmp_ne (tgt := 129) hx hb dX10_product_121 (by decide) (fun hc_31 => ?_) (fun hc_31 => ?_)
        · have hf := pe_f hf hc_31
          refine lv_bipush (v := (-9 : Int32)) hx hb dX10_product_129 (by decide) ?_
          obtain ⟨rfl, rfl⟩ := po_2 hf
          rw [← hQ]; exact xe_iret Cx rfl hP hD hS dX10_product_131
        · have hf := pe_t hf hc_31
          refine lv_iload hx hb dX10_product_124 (lv_at hl 4 rfl) ?_
          refine lv_goto (tgt := 131) hx hb dX10_product_126 (by decide) ?_
          obtain ⟨rfl, rfl⟩ := po_2 hf
          rw [← hQ]; exact xe_iret Cx rfl hP hD hS dX10_product_131
      · have hf := pe_f hf hc_30
        refine lv_aload_n hx hb dX10_product_66 rfl (lv_at hl 0 rfl) ?_
        refine lv_iload_n hx hb dX10_product_67 rfl (lv_at hl 1 rfl) ?_
        refine lv_iload_n hx hb dX10_product_68 rfl (lv_at hl 2 rfl) ?_
        refine lv_iload hx hb dX10_product_69 (lv_at hl 5 rfl) ?_
        obtain ⟨r_32, hk_33, hf⟩ := pe_1 hf
        refine xv_i (As := [.int y1, .int y2, .int y5]) (rest := []) (q0 := 0) (ci := 10) Cx hP hD hS hl (pl_X10_X10 a cyI cyJ v10_firstOf v10_sizeOf v10_longOf v10_row v10_character v10_sum v10_coefficient v10_undone v10_wasSum v10_wasCoefficient v10_hasImage v10_letter v10_letters v10_list v10_cell v10_refusals v10_tried v10_left v10_high v10_then v10_at v10_readSize v10_firstOf v10_sizeOf v10_longOf v10_row v10_character v10_sum v10_coefficient v10_undone v10_wasSum v10_wasCoefficient v10_hasImage v10_letter v10_letters v10_list v10_cell v10_refusals v10_tried v10_left v10_high v10_then v10_at v10_readSize) (c_X10_numberOf l D cyI cyJ G a H.size v10_firstOf v10_sizeOf v10_longOf v10_row v10_character v10_sum v10_coefficient v10_undone v10_wasSum v10_wasCoefficient v10_hasImage v10_letter v10_letters v10_list v10_cell v10_refusals v10_tried v10_left v10_high v10_then v10_at v10_readSize y1 y2 y5 r_32 hk_33) pk_X10_numberOf mw_5_112 ⟨rfl, rfl, Nat.le_of_ble_eq_true rfl, Nat.le_of_ble_eq_true rfl⟩ rfl rfl rfl rfl rfl (Nat.le_of_ble_eq_true rfl) ⟨Nat.le_of_ble_eq_true rfl, Nat.le_of_ble_eq_true rfl⟩ dX10_product_71 (fun H locs hP hD hS => ?_)
        refine lv_if_le (tgt := 81) hx hb dX10_product_74 (by decide) (fun hc_34 => ?_) (fun hc_34 => ?_)
        · have hf := pe_t hf hc_34
          refine lv_iconst (v := (0 : Int32)) hx hb dX10_product_81 (by decide) ?_
          exact w_82 v10_refusals y1 y2 y3 y4 y5 (0 : Int32) H locs ls hf hP hD hS (lv_sub hl [0, 1, 2, 3, 4, 5] rfl)
        · have hf := pe_f hf hc_34
          refine lv_iconst (v := (1 : Int32)) hx hb dX10_product_77 (by decide) ?_
          refine lv_goto (tgt := 82) hx hb dX10_product_78 (by decide) ?_
          exact w_82 v10_refusals y1 y2 y3 y4 y5 (1 : Int32) H locs ls hf hP hD hS (lv_sub hl [0, 1, 2, 3, 4, 5] rfl)
  refine lv_aload_n hx hb dX10_product_0 rfl (lv_at hl 0 rfl) ?_
  refine lv_iload_n hx hb dX10_product_1 rfl (lv_at hl 1 rfl) ?_
  refine lv_iload_n hx hb dX10_product_2 rfl (lv_at hl 2 rfl) ?_
  obtain ⟨r_35, hk_36, hf⟩ := pe_1 hf
  refine xv_i (As := [.int x1, .int x2]) (rest := []) (q0 := 0) (ci := 10) Cx hP hD hS hl (pl_X10_X10 a cyI cyJ v10_firstOf v10_sizeOf v10_longOf v10_row v10_character v10_sum v10_coefficient v10_undone v10_wasSum v10_wasCoefficient v10_hasImage v10_letter v10_letters v10_list v10_cell v10_refusals v10_tried v10_left v10_high v10_then v10_at v10_readSize v10_firstOf v10_sizeOf v10_longOf v10_row v10_character v10_sum v10_coefficient v10_undone v10_wasSum v10_wasCoefficient v10_hasImage v10_letter v10_letters v10_list v10_cell v10_refusals v10_tried v10_left v10_high v10_then v10_at v10_readSize) (c_X10_hinders l D cyI cyJ G a H.size v10_firstOf v10_sizeOf v10_longOf v10_row v10_character v10_sum v10_coefficient v10_undone v10_wasSum v10_wasCoefficient v10_hasImage v10_letter v10_letters v10_list v10_cell v10_refusals v10_tried v10_left v10_high v10_then v10_at v10_readSize x1 x2 r_35 hk_36) pk_X10_hinders mw_5_108 ⟨rfl, rfl, Nat.le_of_ble_eq_true rfl, Nat.le_of_ble_eq_true rfl⟩ rfl rfl rfl rfl rfl (Nat.le_of_ble_eq_true rfl) ⟨Nat.le_of_ble_eq_true rfl, Nat.le_of_ble_eq_true rfl⟩ dX10_product_3 (fun H locs hP hD hS => ?_)
  refine lv_if_ge (tgt := 20) hx hb dX10_product_6 (by decide) (fun hc_37 => ?_) (fun hc_37 => ?_)
  · have hf := pe_t hf hc_37
    refine lv_iload_n hx hb dX10_product_20 rfl (lv_at hl 3 rfl) ?_
    refine lv_iconst (v := (-1 : Int32)) hx hb dX10_product_21 (by decide) ?_
    refine lv_icmp_ge (tgt := 32) hx hb dX10_product_22 (by decide) (fun hc_38 => ?_) (fun hc_38 => ?_)
    · have hf := pe_t hf hc_38
      refine lv_iconst (v := (0 : Int32)) hx hb dX10_product_32 (by decide) ?_
      refine lv_istore (lv' := [(4, .int (0 : Int32)), (0, .ref (a 28)), (1, .int x1), (2, .int x2), (3, .int x3)]) hx hb dX10_product_33 hl (by decide) rfl (fun ls hl => ?_)
      refine lv_aload_n hx hb dX10_product_35 rfl (lv_at hl 1 rfl) ?_
      refine va_get (ci := 10) (v := .ref (a 29)) hx hb hts wX10_in hown hK hP 0 rfl rfl 0 (by decide) (hts _ mw_4_192) (fun _ h9 => h9) rfl dX10_product_36 ?_
      refine lv_aload_n hx hb dX10_product_39 rfl (lv_at hl 1 rfl) ?_
      refine va_get (ci := 10) (v := .ref (a 30)) hx hb hts wX10_in hown hK hP 0 rfl rfl 1 (by decide) (hts _ mw_4_193) (fun _ h9 => h9) rfl dX10_product_40 ?_
      refine lv_iload_n hx hb dX10_product_43 rfl (lv_at hl 2 rfl) ?_
      obtain ⟨hi_39, hf⟩ := pe_in hf
      refine va_iald hx hb hK hP 2 0 rfl rfl hi_39 dX10_product_44 ?_
      obtain ⟨hi_40, hf⟩ := pe_in hf
      refine va_iald hx hb hK hP 1 0 rfl rfl hi_40 dX10_product_45 ?_
      refine lv_istore (lv' := [(5, .int (v10_firstOf (Int32.toNatClampNeg (v10_sizeOf (Int32.toNatClampNeg x1))))), (4, .int (0 : Int32)), (0, .ref (a 28)), (1, .int x1), (2, .int x2), (3, .int x3)]) hx hb dX10_product_46 hl (by decide) rfl (fun ls hl => ?_)
      exact w_48 1000 v10_refusals x1 x2 x3 (0 : Int32) (v10_firstOf (Int32.toNatClampNeg (v10_sizeOf (Int32.toNatClampNeg x1)))) H locs ls hf hP hD hS (lv_sub hl [2, 3, 4, 5, 1, 0] rfl)
    · have hf := pe_f hf hc_38
      refine lv_aload_n hx hb dX10_product_25 rfl (lv_at hl 0 rfl) ?_
      refine lv_bipush (v := (-4 : Int32)) hx hb dX10_product_26 (by decide) ?_
      obtain ⟨r_41, v10_refusals_42, hk_43, hf⟩ := pe_2 hf
      refine xv_i (As := [.int (-4 : Int32)]) (rest := []) (q0 := 0) (ci := 10) Cx hP hD hS hl (pl_X10_X10 a cyI cyJ v10_firstOf v10_sizeOf v10_longOf v10_row v10_character v10_sum v10_coefficient v10_undone v10_wasSum v10_wasCoefficient v10_hasImage v10_letter v10_letters v10_list v10_cell v10_refusals v10_tried v10_left v10_high v10_then v10_at v10_readSize v10_firstOf v10_sizeOf v10_longOf v10_row v10_character v10_sum v10_coefficient v10_undone v10_wasSum v10_wasCoefficient v10_hasImage v10_letter v10_letters v10_list v10_cell v10_refusals_42 v10_tried v10_left v10_high v10_then v10_at v10_readSize) (c_X10_refused l D cyI cyJ G a H.size v10_firstOf v10_sizeOf v10_longOf v10_row v10_character v10_sum v10_coefficient v10_undone v10_wasSum v10_wasCoefficient v10_hasImage v10_letter v10_letters v10_list v10_cell v10_refusals v10_tried v10_left v10_high v10_then v10_at v10_readSize (-4 : Int32) r_41 v10_refusals_42 hk_43) pk_X10_refused mw_5_29 ⟨rfl, rfl, Nat.le_of_ble_eq_true rfl, Nat.le_of_ble_eq_true rfl⟩ rfl rfl rfl rfl rfl (Nat.le_of_ble_eq_true rfl) ⟨Nat.le_of_ble_eq_true rfl, Nat.le_of_ble_eq_true rfl⟩ dX10_product_28 (fun H locs hP hD hS => ?_)
      obtain ⟨rfl, rfl⟩ := po_2 hf
      rw [← hQ]; exact xe_iret Cx rfl hP hD hS dX10_product_31
  · have hf := pe_f hf hc_37
    refine lv_aload_n hx hb dX10_product_9 rfl (lv_at hl 0 rfl) ?_
    refine lv_aload_n hx hb dX10_product_10 rfl (lv_at hl 0 rfl) ?_
    refine lv_iload_n hx hb dX10_product_11 rfl (lv_at hl 1 rfl) ?_
    refine lv_iload_n hx hb dX10_product_12 rfl (lv_at hl 2 rfl) ?_
    obtain ⟨r_44, hk_45, hf⟩ := pe_1 hf
    refine xv_i (As := [.int x1, .int x2]) (rest := [.ref (a 28)]) (q0 := 0) (ci := 10) Cx hP hD hS hl (pl_X10_X10 a cyI cyJ v10_firstOf v10_sizeOf v10_longOf v10_row v10_character v10_sum v10_coefficient v10_undone v10_wasSum v10_wasCoefficient v10_hasImage v10_letter v10_letters v10_list v10_cell v10_refusals v10_tried v10_left v10_high v10_then v10_at v10_readSize v10_firstOf v10_sizeOf v10_longOf v10_row v10_character v10_sum v10_coefficient v10_undone v10_wasSum v10_wasCoefficient v10_hasImage v10_letter v10_letters v10_list v10_cell v10_refusals v10_tried v10_left v10_high v10_then v10_at v10_readSize) (c_X10_hinders l D cyI cyJ G a H.size v10_firstOf v10_sizeOf v10_longOf v10_row v10_character v10_sum v10_coefficient v10_undone v10_wasSum v10_wasCoefficient v10_hasImage v10_letter v10_letters v10_list v10_cell v10_refusals v10_tried v10_left v10_high v10_then v10_at v10_readSize x1 x2 r_44 hk_45) pk_X10_hinders mw_5_108 ⟨rfl, rfl, Nat.le_of_ble_eq_true rfl, Nat.le_of_ble_eq_true rfl⟩ rfl rfl rfl rfl rfl (Nat.le_of_ble_eq_true rfl) ⟨Nat.le_of_ble_eq_true rfl, Nat.le_of_ble_eq_true rfl⟩ dX10_product_13 (fun H locs hP hD hS => ?_)
    obtain ⟨r_46, v10_refusals_47, hk_48, hf⟩ := pe_2 hf
    refine xv_i (As := [.int r_44]) (rest := []) (q0 := 0) (ci := 10) Cx hP hD hS hl (pl_X10_X10 a cyI cyJ v10_firstOf v10_sizeOf v10_longOf v10_row v10_character v10_sum v10_coefficient v10_undone v10_wasSum v10_wasCoefficient v10_hasImage v10_letter v10_letters v10_list v10_cell v10_refusals v10_tried v10_left v10_high v10_then v10_at v10_readSize v10_firstOf v10_sizeOf v10_longOf v10_row v10_character v10_sum v10_coefficient v10_undone v10_wasSum v10_wasCoefficient v10_hasImage v10_letter v10_letters v10_list v10_cell v10_refusals_47 v10_tried v10_left v10_high v10_then v10_at v10_readSize) (c_X10_refused l D cyI cyJ G a H.size v10_firstOf v10_sizeOf v10_longOf v10_row v10_character v10_sum v10_coefficient v10_undone v10_wasSum v10_wasCoefficient v10_hasImage v10_letter v10_letters v10_list v10_cell v10_refusals v10_tried v10_left v10_high v10_then v10_at v10_readSize r_44 r_46 v10_refusals_47 hk_48) pk_X10_refused mw_5_29 ⟨rfl, rfl, Nat.le_of_ble_eq_true rfl, Nat.le_of_ble_eq_true rfl⟩ rfl rfl rfl rfl rfl (Nat.le_of_ble_eq_true rfl) ⟨Nat.le_of_ble_eq_true rfl, Nat.le_of_ble_eq_true rfl⟩ dX10_product_16 (fun H locs hP hD hS => ?_)
    obtain ⟨rfl, rfl⟩ := po_2 hf
    rw [← hQ]; exact xe_iret Cx rfl hP hD hS dX10_product_19
def gf_X10_greatest_35 (K_35 : (Nat → Int32) → Int32 → Int32 → Int32 → Int32 → Option (Int32 × (Nat → Int32))) (v10_firstOf : Nat → Int32) (v10_sizeOf : Nat → Int32) (v10_longOf : Nat → Int32) (v10_row : Nat → Int32) (v10_character : Nat → Int32) (v10_refusals : Nat → Int32) (y1 : Int32) (y2 : Int32) (y3 : Int32) (y4 : Int32) : Option (Int32 × (Nat → Int32)) := p_in y1 67 (p_in ((v10_sizeOf (Int32.toNatClampNeg y1)) + (1 : Int32)) 10 (if (v10_firstOf (Int32.toNatClampNeg ((v10_sizeOf (Int32.toNatClampNeg y1)) + (1 : Int32)))) ≤ y4 then (some (y3, v10_refusals)) else (p_b1 (f_X10_numberOf v10_firstOf v10_sizeOf v10_longOf v10_row v10_character y1 y2 y4) (fun r_4 => K_35 v10_refusals y1 y2 (if y3 < r_4 then r_4 else y3) (y4 + (1 : Int32))))))
def f_X10_greatest_35 (v10_firstOf : Nat → Int32) (v10_sizeOf : Nat → Int32) (v10_longOf : Nat → Int32) (v10_row : Nat → Int32) (v10_character : Nat → Int32) : Nat → (Nat → Int32) → Int32 → Int32 → Int32 → Int32 → Option (Int32 × (Nat → Int32))
  | 0 => fun _ _ _ _ _ => none
  | n + 1 => gf_X10_greatest_35 (f_X10_greatest_35 v10_firstOf v10_sizeOf v10_longOf v10_row v10_character n) v10_firstOf v10_sizeOf v10_longOf v10_row v10_character
def f_X10_greatest (v10_firstOf : Nat → Int32) (v10_sizeOf : Nat → Int32) (v10_longOf : Nat → Int32) (v10_row : Nat → Int32) (v10_character : Nat → Int32) (v10_refusals : Nat → Int32) (x1 : Int32) (x2 : Int32) : Option (Int32 × (Nat → Int32)) := p_b1 (f_X10_hinders v10_sizeOf x1 x2) (fun r_6 => if 0 ≤ r_6 then (p_in x1 67 (p_in (v10_sizeOf (Int32.toNatClampNeg x1)) 10 ((f_X10_greatest_35 v10_firstOf v10_sizeOf v10_longOf v10_row v10_character 1000) v10_refusals x1 x2 (0 : Int32) (v10_firstOf (Int32.toNatClampNeg (v10_sizeOf (Int32.toNatClampNeg x1))))))) else (p_b1 (f_X10_hinders v10_sizeOf x1 x2) (fun r_11 => p_b2 (f_X10_refused v10_refusals r_11) (fun r_13 v10_refusals_14 => some (r_13, v10_refusals_14)))))
set_option maxHeartbeats 4000000 in
set_option maxRecDepth 20000 in
theorem c_X10_greatest (l : Launch) (D : va_G) (cyI cyJ : ClassId) (G a : Nat → Nat) (sz : Nat) (v10_firstOf : Nat → Int32) (v10_sizeOf : Nat → Int32) (v10_longOf : Nat → Int32) (v10_row : Nat → Int32) (v10_character : Nat → Int32) (v10_sum : Nat → Int32) (v10_coefficient : Nat → Int32) (v10_undone : Int32) (v10_wasSum : Nat → Int32) (v10_wasCoefficient : Nat → Int32) (v10_hasImage : Int32) (v10_letter : Nat → Int32) (v10_letters : Int32) (v10_list : Nat → Int32) (v10_cell : Nat → Int32) (v10_refusals : Nat → Int32) (v10_tried : Nat → Int32) (v10_left : Int32) (v10_high : Int32) (v10_then : Nat → Int64) (v10_at : Int32) (v10_readSize : Int32) (x1 : Int32) (x2 : Int32) (ro : Int32) (ov10_refusals : Nat → Int32) (hf : f_X10_greatest v10_firstOf v10_sizeOf v10_longOf v10_row v10_character v10_refusals x1 x2 = some (ro, ov10_refusals)) : xm_i l yX10_greatest (Cond.code yX10_greatest cX10_greatest 5 (some .int) :: xg_tbl) { frames := 3, cells := 0, slots := 0, locals := 73 } D xcl [(cyI, .int), (cyJ, .long)] G sz [.ref (a 28), .int x1, .int x2] (wd_X10 a cyI cyJ v10_firstOf v10_sizeOf v10_longOf v10_row v10_character v10_sum v10_coefficient v10_undone v10_wasSum v10_wasCoefficient v10_hasImage v10_letter v10_letters v10_list v10_cell v10_refusals v10_tried v10_left v10_high v10_then v10_at v10_readSize) (wd_X10 a cyI cyJ v10_firstOf v10_sizeOf v10_longOf v10_row v10_character v10_sum v10_coefficient v10_undone v10_wasSum v10_wasCoefficient v10_hasImage v10_letter v10_letters v10_list v10_cell ov10_refusals v10_tried v10_left v10_high v10_then v10_at v10_readSize) ro := by
  refine xm_of_i (own := RX10) (by decide) rfl rfl (Nat.le_of_ble_eq_true rfl) ?_
  intro p e s m args below meth c ls Q A hQ hAe hin Cx hsz hP hD hS hl
  have Cx1 := Cx
  obtain ⟨⟨hx, hb, hml, hown, hts⟩, hr, hlocks, hK, hA, hT⟩ := Cx1
  have hl : lv_has ls 5 [(0, .ref (a 28)), (1, .int x1), (2, .int x2)] := hl
  obtain ⟨H, eH⟩ : ∃ H, H = s.heap := ⟨_, rfl⟩
  obtain ⟨locs, eL⟩ : ∃ L : List Loc, L = [] := ⟨_, rfl⟩
  rw [← eH] at hP
  have hS : va_S A s.heap H locs := by rw [eH, eL]; exact hS
  suffices hgo : W p l e { frames := 3, cells := 0, slots := 0, locals := 73 } s m args below meth c H locs 0 0 Q (F0 m 0 ls []) by rw [eH, eL] at hgo; exact hgo
  clear eH eL
  unfold f_X10_greatest at hf
  have w_35 : ∀ (n_35 : Nat) (v10_refusals : Nat → Int32) (y1 : Int32) (y2 : Int32) (y3 : Int32) (y4 : Int32) (H : Heap) (locs : List Loc) (ls : Array Slot), (f_X10_greatest_35 v10_firstOf v10_sizeOf v10_longOf v10_row v10_character) n_35 v10_refusals y1 y2 y3 y4 = some (ro, ov10_refusals) → va_P D xcl (wd_X10 a cyI cyJ v10_firstOf v10_sizeOf v10_longOf v10_row v10_character v10_sum v10_coefficient v10_undone v10_wasSum v10_wasCoefficient v10_hasImage v10_letter v10_letters v10_list v10_cell v10_refusals v10_tried v10_left v10_high v10_then v10_at v10_readSize) H → va_D A (wd_X10 a cyI cyJ v10_firstOf v10_sizeOf v10_longOf v10_row v10_character v10_sum v10_coefficient v10_undone v10_wasSum v10_wasCoefficient v10_hasImage v10_letter v10_letters v10_list v10_cell v10_refusals v10_tried v10_left v10_high v10_then v10_at v10_readSize) → va_S A s.heap H locs → lv_has ls 5 [(0, .ref (a 28)), (1, .int y1), (2, .int y2), (3, .int y3), (4, .int y4)] → W p l e { frames := 3, cells := 0, slots := 0, locals := 73 } s m args below meth c H locs 0 0 Q (F0 m 35 ls []) := by
    intro n_35
    induction n_35 with
    | zero => intro v10_refusals y1 y2 y3 y4 H locs ls hf; exact absurd hf (by intro h9; cases h9)
    | succ n_35 w_35 =>
      intro v10_refusals y1 y2 y3 y4 H locs ls hf hP hD hS hl
      have hf : gf_X10_greatest_35 ((f_X10_greatest_35 v10_firstOf v10_sizeOf v10_longOf v10_row v10_character) n_35) v10_firstOf v10_sizeOf v10_longOf v10_row v10_character v10_refusals y1 y2 y3 y4 = some (ro, ov10_refusals) := hf
      unfold gf_X10_greatest_35 at hf
      refine lv_iload hx hb dX10_greatest_35 (lv_at hl 4 rfl) ?_
      refine lv_aload_n hx hb dX10_greatest_37 rfl (lv_at hl 0 rfl) ?_
      refine va_get (ci := 10) (v := .ref (a 29)) hx hb hts wX10_in hown hK hP 0 rfl rfl 0 (by decide) (hts _ mw_4_192) (fun _ h9 => h9) rfl dX10_greatest_38 ?_
      refine lv_aload_n hx hb dX10_greatest_41 rfl (lv_at hl 0 rfl) ?_
      refine va_get (ci := 10) (v := .ref (a 30)) hx hb hts wX10_in hown hK hP 0 rfl rfl 1 (by decide) (hts _ mw_4_193) (fun _ h9 => h9) rfl dX10_greatest_42 ?_
      refine lv_iload_n hx hb dX10_greatest_45 rfl (lv_at hl 1 rfl) ?_
      obtain ⟨hi_16, hf⟩ := pe_in hf
      refine va_iald hx hb hK hP 2 0 rfl rfl hi_16 dX10_greatest_46 ?_
      refine lv_iconst (v := (1 : Int32)) hx hb dX10_greatest_47 (by decide) ?_
      refine lv_iadd hx hb dX10_greatest_48 ?_
      obtain ⟨hi_17, hf⟩ := pe_in hf
      refine va_iald hx hb hK hP 1 0 rfl rfl hi_17 dX10_greatest_49 ?_
      refine lv_icmp_ge (tgt := 72) hx hb dX10_greatest_50 (by decide) (fun hc_18 => ?_) (fun hc_18 => ?_)
      · have hf := pe_t hf hc_18
        refine lv_iload_n hx hb dX10_greatest_72 rfl (lv_at hl 3 rfl) ?_
        obtain ⟨rfl, rfl⟩ := po_2 hf
        rw [← hQ]; exact xe_iret Cx rfl hP hD hS dX10_greatest_73
      · have hf := pe_f hf hc_18
        refine lv_iload_n hx hb dX10_greatest_53 rfl (lv_at hl 3 rfl) ?_
        refine lv_aload_n hx hb dX10_greatest_54 rfl (lv_at hl 0 rfl) ?_
        refine lv_iload_n hx hb dX10_greatest_55 rfl (lv_at hl 1 rfl) ?_
        refine lv_iload_n hx hb dX10_greatest_56 rfl (lv_at hl 2 rfl) ?_
        refine lv_iload hx hb dX10_greatest_57 (lv_at hl 4 rfl) ?_
        obtain ⟨r_19, hk_20, hf⟩ := pe_1 hf
        refine xv_i (As := [.int y1, .int y2, .int y4]) (rest := [.int y3]) (q0 := 0) (ci := 10) Cx hP hD hS hl (pl_X10_X10 a cyI cyJ v10_firstOf v10_sizeOf v10_longOf v10_row v10_character v10_sum v10_coefficient v10_undone v10_wasSum v10_wasCoefficient v10_hasImage v10_letter v10_letters v10_list v10_cell v10_refusals v10_tried v10_left v10_high v10_then v10_at v10_readSize v10_firstOf v10_sizeOf v10_longOf v10_row v10_character v10_sum v10_coefficient v10_undone v10_wasSum v10_wasCoefficient v10_hasImage v10_letter v10_letters v10_list v10_cell v10_refusals v10_tried v10_left v10_high v10_then v10_at v10_readSize) (c_X10_numberOf l D cyI cyJ G a H.size v10_firstOf v10_sizeOf v10_longOf v10_row v10_character v10_sum v10_coefficient v10_undone v10_wasSum v10_wasCoefficient v10_hasImage v10_letter v10_letters v10_list v10_cell v10_refusals v10_tried v10_left v10_high v10_then v10_at v10_readSize y1 y2 y4 r_19 hk_20) pk_X10_numberOf mw_5_112 ⟨rfl, rfl, Nat.le_of_ble_eq_true rfl, Nat.le_of_ble_eq_true rfl⟩ rfl rfl rfl rfl rfl (Nat.le_of_ble_eq_true rfl) ⟨Nat.le_of_ble_eq_true rfl, Nat.le_of_ble_eq_true rfl⟩ dX10_greatest_59 (fun H locs hP hD hS => ?_)
        refine va_mmax hx hb (hml.trans hl.1.symm) hown (hts _ mw_5_124) (hts _ mw_3_16) (hts _ mw_1_12) (hts _ mw_3_17) (Nat.le_of_ble_eq_true rfl) (Nat.le_of_ble_eq_true rfl) (Nat.zero_le _) (Nat.zero_le _) dX10_greatest_62 ?_
        refine lv_istore_n (lv' := [(3, .int (if y3 < r_19 then r_19 else y3)), (0, .ref (a 28)), (1, .int y1), (2, .int y2), (4, .int y4)]) hx hb dX10_greatest_65 rfl hl (by decide) rfl (fun ls hl => ?_)
        refine lv_iinc (v := (y4 + (1 : Int32))) (lv' := [(4, .int (y4 + (1 : Int32))), (3, .int (if y3 < r_19 then r_19 else y3)), (0, .ref (a 28)), (1, .int y1), (2, .int y2)]) hx hb dX10_greatest_66 hl (k := 4) rfl rfl (by decide) rfl (fun ls hl => ?_)
        refine lv_goto (tgt := 35) hx hb dX10_greatest_69 (by decide) ?_
        exact w_35 v10_refusals y1 y2 (if y3 < r_19 then r_19 else y3) (y4 + (1 : Int32)) H locs ls hf hP hD hS (lv_sub hl [2, 3, 4, 1, 0] rfl)
  refine lv_aload_n hx hb dX10_greatest_0 rfl (lv_at hl 0 rfl) ?_
  refine lv_iload_n hx hb dX10_greatest_1 rfl (lv_at hl 1 rfl) ?_
  refine lv_iload_n hx hb dX10_greatest_2 rfl (lv_at hl 2 rfl) ?_
  obtain ⟨r_21, hk_22, hf⟩ := pe_1 hf
  refine xv_i (As := [.int x1, .int x2]) (rest := []) (q0 := 0) (ci := 10) Cx hP hD hS hl (pl_X10_X10 a cyI cyJ v10_firstOf v10_sizeOf v10_longOf v10_row v10_character v10_sum v10_coefficient v10_undone v10_wasSum v10_wasCoefficient v10_hasImage v10_letter v10_letters v10_list v10_cell v10_refusals v10_tried v10_left v10_high v10_then v10_at v10_readSize v10_firstOf v10_sizeOf v10_longOf v10_row v10_character v10_sum v10_coefficient v10_undone v10_wasSum v10_wasCoefficient v10_hasImage v10_letter v10_letters v10_list v10_cell v10_refusals v10_tried v10_left v10_high v10_then v10_at v10_readSize) (c_X10_hinders l D cyI cyJ G a H.size v10_firstOf v10_sizeOf v10_longOf v10_row v10_character v10_sum v10_coefficient v10_undone v10_wasSum v10_wasCoefficient v10_hasImage v10_letter v10_letters v10_list v10_cell v10_refusals v10_tried v10_left v10_high v10_then v10_at v10_readSize x1 x2 r_21 hk_22) pk_X10_hinders mw_5_108 ⟨rfl, rfl, Nat.le_of_ble_eq_true rfl, Nat.le_of_ble_eq_true rfl⟩ rfl rfl rfl rfl rfl (Nat.le_of_ble_eq_true rfl) ⟨Nat.le_of_ble_eq_true rfl, Nat.le_of_ble_eq_true rfl⟩ dX10_greatest_3 (fun H locs hP hD hS => ?_)
  refine lv_if_ge (tgt := 20) hx hb dX10_greatest_6 (by decide) (fun hc_23 => ?_) (fun hc_23 => ?_)
  · have hf := pe_t hf hc_23
    refine lv_iconst (v := (0 : Int32)) hx hb dX10_greatest_20 (by decide) ?_
    refine lv_istore_n (lv' := [(3, .int (0 : Int32)), (0, .ref (a 28)), (1, .int x1), (2, .int x2)]) hx hb dX10_greatest_21 rfl hl (by decide) rfl (fun ls hl => ?_)
    refine lv_aload_n hx hb dX10_greatest_22 rfl (lv_at hl 1 rfl) ?_
    refine va_get (ci := 10) (v := .ref (a 29)) hx hb hts wX10_in hown hK hP 0 rfl rfl 0 (by decide) (hts _ mw_4_192) (fun _ h9 => h9) rfl dX10_greatest_23 ?_
    refine lv_aload_n hx hb dX10_greatest_26 rfl (lv_at hl 1 rfl) ?_
    refine va_get (ci := 10) (v := .ref (a 30)) hx hb hts wX10_in hown hK hP 0 rfl rfl 1 (by decide) (hts _ mw_4_193) (fun _ h9 => h9) rfl dX10_greatest_27 ?_
    refine lv_iload_n hx hb dX10_greatest_30 rfl (lv_at hl 2 rfl) ?_
    obtain ⟨hi_24, hf⟩ := pe_in hf
    refine va_iald hx hb hK hP 2 0 rfl rfl hi_24 dX10_greatest_31 ?_
    obtain ⟨hi_25, hf⟩ := pe_in hf
    refine va_iald hx hb hK hP 1 0 rfl rfl hi_25 dX10_greatest_32 ?_
    refine lv_istore (lv' := [(4, .int (v10_firstOf (Int32.toNatClampNeg (v10_sizeOf (Int32.toNatClampNeg x1))))), (3, .int (0 : Int32)), (0, .ref (a 28)), (1, .int x1), (2, .int x2)]) hx hb dX10_greatest_33 hl (by decide) rfl (fun ls hl => ?_)
    exact w_35 1000 v10_refusals x1 x2 (0 : Int32) (v10_firstOf (Int32.toNatClampNeg (v10_sizeOf (Int32.toNatClampNeg x1)))) H locs ls hf hP hD hS (lv_sub hl [2, 3, 4, 1, 0] rfl)
  · have hf := pe_f hf hc_23
    refine lv_aload_n hx hb dX10_greatest_9 rfl (lv_at hl 0 rfl) ?_
    refine lv_aload_n hx hb dX10_greatest_10 rfl (lv_at hl 0 rfl) ?_
    refine lv_iload_n hx hb dX10_greatest_11 rfl (lv_at hl 1 rfl) ?_
    refine lv_iload_n hx hb dX10_greatest_12 rfl (lv_at hl 2 rfl) ?_
    obtain ⟨r_26, hk_27, hf⟩ := pe_1 hf
    refine xv_i (As := [.int x1, .int x2]) (rest := [.ref (a 28)]) (q0 := 0) (ci := 10) Cx hP hD hS hl (pl_X10_X10 a cyI cyJ v10_firstOf v10_sizeOf v10_longOf v10_row v10_character v10_sum v10_coefficient v10_undone v10_wasSum v10_wasCoefficient v10_hasImage v10_letter v10_letters v10_list v10_cell v10_refusals v10_tried v10_left v10_high v10_then v10_at v10_readSize v10_firstOf v10_sizeOf v10_longOf v10_row v10_character v10_sum v10_coefficient v10_undone v10_wasSum v10_wasCoefficient v10_hasImage v10_letter v10_letters v10_list v10_cell v10_refusals v10_tried v10_left v10_high v10_then v10_at v10_readSize) (c_X10_hinders l D cyI cyJ G a H.size v10_firstOf v10_sizeOf v10_longOf v10_row v10_character v10_sum v10_coefficient v10_undone v10_wasSum v10_wasCoefficient v10_hasImage v10_letter v10_letters v10_list v10_cell v10_refusals v10_tried v10_left v10_high v10_then v10_at v10_readSize x1 x2 r_26 hk_27) pk_X10_hinders mw_5_108 ⟨rfl, rfl, Nat.le_of_ble_eq_true rfl, Nat.le_of_ble_eq_true rfl⟩ rfl rfl rfl rfl rfl (Nat.le_of_ble_eq_true rfl) ⟨Nat.le_of_ble_eq_true rfl, Nat.le_of_ble_eq_true rfl⟩ dX10_greatest_13 (fun H locs hP hD hS => ?_)
    obtain ⟨r_28, v10_refusals_29, hk_30, hf⟩ := pe_2 hf
    refine xv_i (As := [.int r_26]) (rest := []) (q0 := 0) (ci := 10) Cx hP hD hS hl (pl_X10_X10 a cyI cyJ v10_firstOf v10_sizeOf v10_longOf v10_row v10_character v10_sum v10_coefficient v10_undone v10_wasSum v10_wasCoefficient v10_hasImage v10_letter v10_letters v10_list v10_cell v10_refusals v10_tried v10_left v10_high v10_then v10_at v10_readSize v10_firstOf v10_sizeOf v10_longOf v10_row v10_character v10_sum v10_coefficient v10_undone v10_wasSum v10_wasCoefficient v10_hasImage v10_letter v10_letters v10_list v10_cell v10_refusals_29 v10_tried v10_left v10_high v10_then v10_at v10_readSize) (c_X10_refused l D cyI cyJ G a H.size v10_firstOf v10_sizeOf v10_longOf v10_row v10_character v10_sum v10_coefficient v10_undone v10_wasSum v10_wasCoefficient v10_hasImage v10_letter v10_letters v10_list v10_cell v10_refusals v10_tried v10_left v10_high v10_then v10_at v10_readSize r_26 r_28 v10_refusals_29 hk_30) pk_X10_refused mw_5_29 ⟨rfl, rfl, Nat.le_of_ble_eq_true rfl, Nat.le_of_ble_eq_true rfl⟩ rfl rfl rfl rfl rfl (Nat.le_of_ble_eq_true rfl) ⟨Nat.le_of_ble_eq_true rfl, Nat.le_of_ble_eq_true rfl⟩ dX10_greatest_16 (fun H locs hP hD hS => ?_)
    obtain ⟨rfl, rfl⟩ := po_2 hf
    rw [← hQ]; exact xe_iret Cx rfl hP hD hS dX10_greatest_19
def gf_X10_grownTo_36 (K_36 : (Nat → Int32) → Int32 → Int32 → Option (Int32 × (Nat → Int32))) (v10_sizeOf : Nat → Int32) (v10_longOf : Nat → Int32) (v10_row : Nat → Int32) (v10_tried : Nat → Int32) (y1 : Int32) (y4 : Int32) : Option (Int32 × (Nat → Int32)) := p_in y1 67 (if (v10_longOf (Int32.toNatClampNeg y1)) ≤ y4 then (p_b1 (f_X10_shapeTried v10_row v10_tried) (fun r_3 => some (r_3, v10_tried))) else (p_b1 (f_X10_rowOf v10_row y1 y4) (fun r_5 => p_in (y4 + (1 : Int32)) 9 (K_36 (upd v10_tried (Int32.toNatClampNeg (y4 + (1 : Int32))) r_5) y1 (y4 + (1 : Int32))))))
def f_X10_grownTo_36 (v10_sizeOf : Nat → Int32) (v10_longOf : Nat → Int32) (v10_row : Nat → Int32) : Nat → (Nat → Int32) → Int32 → Int32 → Option (Int32 × (Nat → Int32))
  | 0 => fun _ _ _ => none
  | n + 1 => gf_X10_grownTo_36 (f_X10_grownTo_36 v10_sizeOf v10_longOf v10_row n) v10_sizeOf v10_longOf v10_row
def f_X10_grownTo (v10_sizeOf : Nat → Int32) (v10_longOf : Nat → Int32) (v10_row : Nat → Int32) (v10_tried : Nat → Int32) (x1 : Int32) (x2 : Int32) : Option (Int32 × (Nat → Int32)) := p_in x1 67 (p_b1 (f_X10_rowOf v10_row x1 (0 : Int32)) (fun r_9 => if r_9 ≤ (x2 - (v10_sizeOf (Int32.toNatClampNeg x1))) then (p_b1 (f_X10_triesNone v10_tried) (fun v10_tried_12 => p_in (0 : Int32) 9 ((f_X10_grownTo_36 v10_sizeOf v10_longOf v10_row 1000) (upd v10_tried_12 (Int32.toNatClampNeg (0 : Int32)) (x2 - (v10_sizeOf (Int32.toNatClampNeg x1)))) x1 (0 : Int32)))) else (some ((-9 : Int32), v10_tried))))
set_option maxHeartbeats 4000000 in
set_option maxRecDepth 20000 in
theorem c_X10_grownTo (l : Launch) (D : va_G) (cyI cyJ : ClassId) (G a : Nat → Nat) (sz : Nat) (v10_firstOf : Nat → Int32) (v10_sizeOf : Nat → Int32) (v10_longOf : Nat → Int32) (v10_row : Nat → Int32) (v10_character : Nat → Int32) (v10_sum : Nat → Int32) (v10_coefficient : Nat → Int32) (v10_undone : Int32) (v10_wasSum : Nat → Int32) (v10_wasCoefficient : Nat → Int32) (v10_hasImage : Int32) (v10_letter : Nat → Int32) (v10_letters : Int32) (v10_list : Nat → Int32) (v10_cell : Nat → Int32) (v10_refusals : Nat → Int32) (v10_tried : Nat → Int32) (v10_left : Int32) (v10_high : Int32) (v10_then : Nat → Int64) (v10_at : Int32) (v10_readSize : Int32) (x1 : Int32) (x2 : Int32) (ro : Int32) (ov10_tried : Nat → Int32) (hf : f_X10_grownTo v10_sizeOf v10_longOf v10_row v10_tried x1 x2 = some (ro, ov10_tried)) : xm_i l yX10_grownTo (Cond.code yX10_grownTo cX10_grownTo 5 (some .int) :: xg_tbl) { frames := 2, cells := 0, slots := 0, locals := 45 } D xcl [(cyI, .int), (cyJ, .long)] G sz [.ref (a 28), .int x1, .int x2] (wd_X10 a cyI cyJ v10_firstOf v10_sizeOf v10_longOf v10_row v10_character v10_sum v10_coefficient v10_undone v10_wasSum v10_wasCoefficient v10_hasImage v10_letter v10_letters v10_list v10_cell v10_refusals v10_tried v10_left v10_high v10_then v10_at v10_readSize) (wd_X10 a cyI cyJ v10_firstOf v10_sizeOf v10_longOf v10_row v10_character v10_sum v10_coefficient v10_undone v10_wasSum v10_wasCoefficient v10_hasImage v10_letter v10_letters v10_list v10_cell v10_refusals ov10_tried v10_left v10_high v10_then v10_at v10_readSize) ro := by
  refine xm_of_i (own := RX10) (by decide) rfl rfl (Nat.le_of_ble_eq_true rfl) ?_
  intro p e s m args below meth c ls Q A hQ hAe hin Cx hsz hP hD hS hl
  have Cx1 := Cx
  obtain ⟨⟨hx, hb, hml, hown, hts⟩, hr, hlocks, hK, hA, hT⟩ := Cx1
  have hl : lv_has ls 5 [(0, .ref (a 28)), (1, .int x1), (2, .int x2)] := hl
  obtain ⟨H, eH⟩ : ∃ H, H = s.heap := ⟨_, rfl⟩
  obtain ⟨locs, eL⟩ : ∃ L : List Loc, L = [] := ⟨_, rfl⟩
  rw [← eH] at hP
  have hS : va_S A s.heap H locs := by rw [eH, eL]; exact hS
  suffices hgo : W p l e { frames := 2, cells := 0, slots := 0, locals := 45 } s m args below meth c H locs 0 0 Q (F0 m 0 ls []) by rw [eH, eL] at hgo; exact hgo
  clear eH eL
  unfold f_X10_grownTo at hf
  have w_36 : ∀ (n_36 : Nat) (v10_tried : Nat → Int32) (y1 : Int32) (y4 : Int32) (H : Heap) (locs : List Loc) (ls : Array Slot), (f_X10_grownTo_36 v10_sizeOf v10_longOf v10_row) n_36 v10_tried y1 y4 = some (ro, ov10_tried) → va_P D xcl (wd_X10 a cyI cyJ v10_firstOf v10_sizeOf v10_longOf v10_row v10_character v10_sum v10_coefficient v10_undone v10_wasSum v10_wasCoefficient v10_hasImage v10_letter v10_letters v10_list v10_cell v10_refusals v10_tried v10_left v10_high v10_then v10_at v10_readSize) H → va_D A (wd_X10 a cyI cyJ v10_firstOf v10_sizeOf v10_longOf v10_row v10_character v10_sum v10_coefficient v10_undone v10_wasSum v10_wasCoefficient v10_hasImage v10_letter v10_letters v10_list v10_cell v10_refusals v10_tried v10_left v10_high v10_then v10_at v10_readSize) → va_S A s.heap H locs → lv_has ls 5 [(0, .ref (a 28)), (1, .int y1), (4, .int y4)] → W p l e { frames := 2, cells := 0, slots := 0, locals := 45 } s m args below meth c H locs 0 0 Q (F0 m 36 ls []) := by
    intro n_36
    induction n_36 with
    | zero => intro v10_tried y1 y4 H locs ls hf; exact absurd hf (by intro h9; cases h9)
    | succ n_36 w_36 =>
      intro v10_tried y1 y4 H locs ls hf hP hD hS hl
      have hf : gf_X10_grownTo_36 ((f_X10_grownTo_36 v10_sizeOf v10_longOf v10_row) n_36) v10_sizeOf v10_longOf v10_row v10_tried y1 y4 = some (ro, ov10_tried) := hf
      unfold gf_X10_grownTo_36 at hf
      refine lv_iload hx hb dX10_grownTo_36 (lv_at hl 2 rfl) ?_
      refine lv_aload_n hx hb dX10_grownTo_38 rfl (lv_at hl 0 rfl) ?_
      refine va_get (ci := 10) (v := .ref (a 31)) hx hb hts wX10_in hown hK hP 0 rfl rfl 2 (by decide) (hts _ mw_4_194) (fun _ h9 => h9) rfl dX10_grownTo_39 ?_
      refine lv_iload_n hx hb dX10_grownTo_42 rfl (lv_at hl 1 rfl) ?_
      obtain ⟨hi_15, hf⟩ := pe_in hf
      refine va_iald hx hb hK hP 3 0 rfl rfl hi_15 dX10_grownTo_43 ?_
      refine lv_icmp_ge (tgt := 69) hx hb dX10_grownTo_44 (by decide) (fun hc_16 => ?_) (fun hc_16 => ?_)
      · have hf := pe_t hf hc_16
        refine lv_aload_n hx hb dX10_grownTo_69 rfl (lv_at hl 0 rfl) ?_
        obtain ⟨r_17, hk_18, hf⟩ := pe_1 hf
        refine xv_i (As := []) (rest := []) (q0 := 0) (ci := 10) Cx hP hD hS hl (pl_X10_X10 a cyI cyJ v10_firstOf v10_sizeOf v10_longOf v10_row v10_character v10_sum v10_coefficient v10_undone v10_wasSum v10_wasCoefficient v10_hasImage v10_letter v10_letters v10_list v10_cell v10_refusals v10_tried v10_left v10_high v10_then v10_at v10_readSize v10_firstOf v10_sizeOf v10_longOf v10_row v10_character v10_sum v10_coefficient v10_undone v10_wasSum v10_wasCoefficient v10_hasImage v10_letter v10_letters v10_list v10_cell v10_refusals v10_tried v10_left v10_high v10_then v10_at v10_readSize) (c_X10_shapeTried l D cyI cyJ G a H.size v10_firstOf v10_sizeOf v10_longOf v10_row v10_character v10_sum v10_coefficient v10_undone v10_wasSum v10_wasCoefficient v10_hasImage v10_letter v10_letters v10_list v10_cell v10_refusals v10_tried v10_left v10_high v10_then v10_at v10_readSize r_17 hk_18) pk_X10_shapeTried mw_4_172 ⟨rfl, rfl, Nat.le_of_ble_eq_true rfl, Nat.le_of_ble_eq_true rfl⟩ rfl rfl rfl rfl rfl (Nat.le_of_ble_eq_true rfl) ⟨Nat.le_of_ble_eq_true rfl, Nat.le_of_ble_eq_true rfl⟩ dX10_grownTo_70 (fun H locs hP hD hS => ?_)
        obtain ⟨rfl, rfl⟩ := po_2 hf
        rw [← hQ]; exact xe_iret Cx rfl hP hD hS dX10_grownTo_73
      · have hf := pe_f hf hc_16
        refine lv_aload_n hx hb dX10_grownTo_47 rfl (lv_at hl 0 rfl) ?_
        refine va_get (ci := 10) (v := .ref (a 42)) hx hb hts wX10_in hown hK hP 0 rfl rfl 16 (by decide) (hts _ mw_4_208) (fun _ h9 => h9) rfl dX10_grownTo_48 ?_
        refine lv_iload hx hb dX10_grownTo_51 (lv_at hl 2 rfl) ?_
        refine lv_iconst (v := (1 : Int32)) hx hb dX10_grownTo_53 (by decide) ?_
        refine lv_iadd hx hb dX10_grownTo_54 ?_
        refine lv_aload_n hx hb dX10_grownTo_55 rfl (lv_at hl 0 rfl) ?_
        refine lv_iload_n hx hb dX10_grownTo_56 rfl (lv_at hl 1 rfl) ?_
        refine lv_iload hx hb dX10_grownTo_57 (lv_at hl 2 rfl) ?_
        obtain ⟨r_19, hk_20, hf⟩ := pe_1 hf
        refine xv_i (As := [.int y1, .int y4]) (rest := [.int (y4 + (1 : Int32)), .ref (a 42)]) (q0 := 0) (ci := 10) Cx hP hD hS hl (pl_X10_X10 a cyI cyJ v10_firstOf v10_sizeOf v10_longOf v10_row v10_character v10_sum v10_coefficient v10_undone v10_wasSum v10_wasCoefficient v10_hasImage v10_letter v10_letters v10_list v10_cell v10_refusals v10_tried v10_left v10_high v10_then v10_at v10_readSize v10_firstOf v10_sizeOf v10_longOf v10_row v10_character v10_sum v10_coefficient v10_undone v10_wasSum v10_wasCoefficient v10_hasImage v10_letter v10_letters v10_list v10_cell v10_refusals v10_tried v10_left v10_high v10_then v10_at v10_readSize) (c_X10_rowOf l D cyI cyJ G a H.size v10_firstOf v10_sizeOf v10_longOf v10_row v10_character v10_sum v10_coefficient v10_undone v10_wasSum v10_wasCoefficient v10_hasImage v10_letter v10_letters v10_list v10_cell v10_refusals v10_tried v10_left v10_high v10_then v10_at v10_readSize y1 y4 r_19 hk_20) pk_X10_rowOf mw_4_159 ⟨rfl, rfl, Nat.le_of_ble_eq_true rfl, Nat.le_of_ble_eq_true rfl⟩ rfl rfl rfl rfl rfl (Nat.le_of_ble_eq_true rfl) ⟨Nat.le_of_ble_eq_true rfl, Nat.le_of_ble_eq_true rfl⟩ dX10_grownTo_59 (fun H locs hP hD hS => ?_)
        obtain ⟨hi_21, hf⟩ := pe_in hf
        refine va_iast hx hb hK hP hD hS 14 0 rfl rfl hi_21 dX10_grownTo_62 (fun H locs hP hD hS => ?_)
        have hP : va_P D xcl (wd_X10 a cyI cyJ v10_firstOf v10_sizeOf v10_longOf v10_row v10_character v10_sum v10_coefficient v10_undone v10_wasSum v10_wasCoefficient v10_hasImage v10_letter v10_letters v10_list v10_cell v10_refusals (upd v10_tried (Int32.toNatClampNeg (y4 + (1 : Int32))) r_19) v10_left v10_high v10_then v10_at v10_readSize) H := hP
        have hD : va_D A (wd_X10 a cyI cyJ v10_firstOf v10_sizeOf v10_longOf v10_row v10_character v10_sum v10_coefficient v10_undone v10_wasSum v10_wasCoefficient v10_hasImage v10_letter v10_letters v10_list v10_cell v10_refusals (upd v10_tried (Int32.toNatClampNeg (y4 + (1 : Int32))) r_19) v10_left v10_high v10_then v10_at v10_readSize) := hD
        refine lv_iinc (v := (y4 + (1 : Int32))) (lv' := [(4, .int (y4 + (1 : Int32))), (0, .ref (a 28)), (1, .int y1)]) hx hb dX10_grownTo_63 hl (k := 2) rfl rfl (by decide) rfl (fun ls hl => ?_)
        refine lv_goto (tgt := 36) hx hb dX10_grownTo_66 (by decide) ?_
        exact w_36 (upd v10_tried (Int32.toNatClampNeg (y4 + (1 : Int32))) r_19) y1 (y4 + (1 : Int32)) H locs ls hf hP hD hS (lv_sub hl [1, 2, 0] rfl)
  refine lv_iload_n hx hb dX10_grownTo_0 rfl (lv_at hl 2 rfl) ?_
  refine lv_aload_n hx hb dX10_grownTo_1 rfl (lv_at hl 0 rfl) ?_
  refine va_get (ci := 10) (v := .ref (a 30)) hx hb hts wX10_in hown hK hP 0 rfl rfl 1 (by decide) (hts _ mw_4_193) (fun _ h9 => h9) rfl dX10_grownTo_2 ?_
  refine lv_iload_n hx hb dX10_grownTo_5 rfl (lv_at hl 1 rfl) ?_
  obtain ⟨hi_22, hf⟩ := pe_in hf
  refine va_iald hx hb hK hP 2 0 rfl rfl hi_22 dX10_grownTo_6 ?_
  refine lv_isub hx hb dX10_grownTo_7 ?_
  refine lv_istore_n (lv' := [(3, .int (x2 - (v10_sizeOf (Int32.toNatClampNeg x1)))), (0, .ref (a 28)), (1, .int x1), (2, .int x2)]) hx hb dX10_grownTo_8 rfl hl (by decide) rfl (fun ls hl => ?_)
  refine lv_iload_n hx hb dX10_grownTo_9 rfl (lv_at hl 0 rfl) ?_
  refine lv_aload_n hx hb dX10_grownTo_10 rfl (lv_at hl 1 rfl) ?_
  refine lv_iload_n hx hb dX10_grownTo_11 rfl (lv_at hl 2 rfl) ?_
  refine lv_iconst (v := (0 : Int32)) hx hb dX10_grownTo_12 (by decide) ?_
  obtain ⟨r_23, hk_24, hf⟩ := pe_1 hf
  refine xv_i (As := [.int x1, .int (0 : Int32)]) (rest := [.int (x2 - (v10_sizeOf (Int32.toNatClampNeg x1)))]) (q0 := 0) (ci := 10) Cx hP hD hS hl (pl_X10_X10 a cyI cyJ v10_firstOf v10_sizeOf v10_longOf v10_row v10_character v10_sum v10_coefficient v10_undone v10_wasSum v10_wasCoefficient v10_hasImage v10_letter v10_letters v10_list v10_cell v10_refusals v10_tried v10_left v10_high v10_then v10_at v10_readSize v10_firstOf v10_sizeOf v10_longOf v10_row v10_character v10_sum v10_coefficient v10_undone v10_wasSum v10_wasCoefficient v10_hasImage v10_letter v10_letters v10_list v10_cell v10_refusals v10_tried v10_left v10_high v10_then v10_at v10_readSize) (c_X10_rowOf l D cyI cyJ G a H.size v10_firstOf v10_sizeOf v10_longOf v10_row v10_character v10_sum v10_coefficient v10_undone v10_wasSum v10_wasCoefficient v10_hasImage v10_letter v10_letters v10_list v10_cell v10_refusals v10_tried v10_left v10_high v10_then v10_at v10_readSize x1 (0 : Int32) r_23 hk_24) pk_X10_rowOf mw_4_159 ⟨rfl, rfl, Nat.le_of_ble_eq_true rfl, Nat.le_of_ble_eq_true rfl⟩ rfl rfl rfl rfl rfl (Nat.le_of_ble_eq_true rfl) ⟨Nat.le_of_ble_eq_true rfl, Nat.le_of_ble_eq_true rfl⟩ dX10_grownTo_13 (fun H locs hP hD hS => ?_)
  refine lv_icmp_ge (tgt := 22) hx hb dX10_grownTo_16 (by decide) (fun hc_25 => ?_) (fun hc_25 => ?_)
  · have hf := pe_t hf hc_25
    refine lv_aload_n hx hb dX10_grownTo_22 rfl (lv_at hl 1 rfl) ?_
    obtain ⟨v10_tried_26, hk_27, hf⟩ := pe_1 hf
    refine xv_v (As := []) (rest := []) (q0 := 0) (ci := 10) Cx hP hD hS hl (pl_X10_X10 a cyI cyJ v10_firstOf v10_sizeOf v10_longOf v10_row v10_character v10_sum v10_coefficient v10_undone v10_wasSum v10_wasCoefficient v10_hasImage v10_letter v10_letters v10_list v10_cell v10_refusals v10_tried v10_left v10_high v10_then v10_at v10_readSize v10_firstOf v10_sizeOf v10_longOf v10_row v10_character v10_sum v10_coefficient v10_undone v10_wasSum v10_wasCoefficient v10_hasImage v10_letter v10_letters v10_list v10_cell v10_refusals v10_tried_26 v10_left v10_high v10_then v10_at v10_readSize) (c_X10_triesNone l D cyI cyJ G a H.size v10_firstOf v10_sizeOf v10_longOf v10_row v10_character v10_sum v10_coefficient v10_undone v10_wasSum v10_wasCoefficient v10_hasImage v10_letter v10_letters v10_list v10_cell v10_refusals v10_tried v10_left v10_high v10_then v10_at v10_readSize v10_tried_26 hk_27) pk_X10_triesNone mw_4_168 ⟨rfl, rfl, Nat.le_of_ble_eq_true rfl, Nat.le_of_ble_eq_true rfl⟩ rfl rfl rfl rfl rfl (Nat.le_of_ble_eq_true rfl) ⟨Nat.le_of_ble_eq_true rfl, Nat.le_of_ble_eq_true rfl⟩ dX10_grownTo_23 (fun H locs hP hD hS => ?_)
    refine lv_aload_n hx hb dX10_grownTo_26 rfl (lv_at hl 1 rfl) ?_
    refine va_get (ci := 10) (v := .ref (a 42)) hx hb hts wX10_in hown hK hP 0 rfl rfl 16 (by decide) (hts _ mw_4_208) (fun _ h9 => h9) rfl dX10_grownTo_27 ?_
    refine lv_iconst (v := (0 : Int32)) hx hb dX10_grownTo_30 (by decide) ?_
    refine lv_iload_n hx hb dX10_grownTo_31 rfl (lv_at hl 0 rfl) ?_
    obtain ⟨hi_28, hf⟩ := pe_in hf
    refine va_iast hx hb hK hP hD hS 14 0 rfl rfl hi_28 dX10_grownTo_32 (fun H locs hP hD hS => ?_)
    have hP : va_P D xcl (wd_X10 a cyI cyJ v10_firstOf v10_sizeOf v10_longOf v10_row v10_character v10_sum v10_coefficient v10_undone v10_wasSum v10_wasCoefficient v10_hasImage v10_letter v10_letters v10_list v10_cell v10_refusals (upd v10_tried_26 (Int32.toNatClampNeg (0 : Int32)) (x2 - (v10_sizeOf (Int32.toNatClampNeg x1)))) v10_left v10_high v10_then v10_at v10_readSize) H := hP
    have hD : va_D A (wd_X10 a cyI cyJ v10_firstOf v10_sizeOf v10_longOf v10_row v10_character v10_sum v10_coefficient v10_undone v10_wasSum v10_wasCoefficient v10_hasImage v10_letter v10_letters v10_list v10_cell v10_refusals (upd v10_tried_26 (Int32.toNatClampNeg (0 : Int32)) (x2 - (v10_sizeOf (Int32.toNatClampNeg x1)))) v10_left v10_high v10_then v10_at v10_readSize) := hD
    refine lv_iconst (v := (0 : Int32)) hx hb dX10_grownTo_33 (by decide) ?_
    refine lv_istore (lv' := [(4, .int (0 : Int32)), (3, .int (x2 - (v10_sizeOf (Int32.toNatClampNeg x1)))), (0, .ref (a 28)), (1, .int x1), (2, .int x2)]) hx hb dX10_grownTo_34 hl (by decide) rfl (fun ls hl => ?_)
    exact w_36 1000 (upd v10_tried_26 (Int32.toNatClampNeg (0 : Int32)) (x2 - (v10_sizeOf (Int32.toNatClampNeg x1)))) x1 (0 : Int32) H locs ls hf hP hD hS (lv_sub hl [2, 3, 0] rfl)
  · have hf := pe_f hf hc_25
    refine lv_bipush (v := (-9 : Int32)) hx hb dX10_grownTo_19 (by decide) ?_
    obtain ⟨rfl, rfl⟩ := po_2 hf
    rw [← hQ]; exact xe_iret Cx rfl hP hD hS dX10_grownTo_21
def f_X10_grown (v10_sizeOf : Nat → Int32) (v10_longOf : Nat → Int32) (v10_row : Nat → Int32) (v10_refusals : Nat → Int32) (v10_tried : Nat → Int32) (x1 : Int32) (x2 : Int32) : Option (Int32 × (Nat → Int32) × (Nat → Int32)) := p_b1 (f_X10_isShape x1) (fun r_1 => if r_1 = 0 then (p_b2 (f_X10_refused v10_refusals (-1 : Int32)) (fun r_21 v10_refusals_22 => some (r_21, v10_refusals_22, v10_tried))) else (if 0 ≤ x2 then (if x2 ≤ (8 : Int32) then (p_in x1 67 (if (v10_sizeOf (Int32.toNatClampNeg x1)) ≤ (4 : Int32) then (p_b2 (f_X10_grownTo v10_sizeOf v10_longOf v10_row v10_tried x1 x2) (fun r_9 v10_tried_10 => some (r_9, v10_refusals, v10_tried_10))) else (p_b2 (f_X10_refused v10_refusals (-3 : Int32)) (fun r_12 v10_refusals_13 => some (r_12, v10_refusals_13, v10_tried))))) else (p_b2 (f_X10_refused v10_refusals (-6 : Int32)) (fun r_15 v10_refusals_16 => some (r_15, v10_refusals_16, v10_tried)))) else (p_b2 (f_X10_refused v10_refusals (-4 : Int32)) (fun r_18 v10_refusals_19 => some (r_18, v10_refusals_19, v10_tried)))))
set_option maxHeartbeats 4000000 in
set_option maxRecDepth 20000 in
theorem c_X10_grown (l : Launch) (D : va_G) (cyI cyJ : ClassId) (G a : Nat → Nat) (sz : Nat) (v10_firstOf : Nat → Int32) (v10_sizeOf : Nat → Int32) (v10_longOf : Nat → Int32) (v10_row : Nat → Int32) (v10_character : Nat → Int32) (v10_sum : Nat → Int32) (v10_coefficient : Nat → Int32) (v10_undone : Int32) (v10_wasSum : Nat → Int32) (v10_wasCoefficient : Nat → Int32) (v10_hasImage : Int32) (v10_letter : Nat → Int32) (v10_letters : Int32) (v10_list : Nat → Int32) (v10_cell : Nat → Int32) (v10_refusals : Nat → Int32) (v10_tried : Nat → Int32) (v10_left : Int32) (v10_high : Int32) (v10_then : Nat → Int64) (v10_at : Int32) (v10_readSize : Int32) (x1 : Int32) (x2 : Int32) (ro : Int32) (ov10_refusals : Nat → Int32) (ov10_tried : Nat → Int32) (hf : f_X10_grown v10_sizeOf v10_longOf v10_row v10_refusals v10_tried x1 x2 = some (ro, ov10_refusals, ov10_tried)) : xm_i l yX10_grown (Cond.code yX10_grown cX10_grown 3 (some .int) :: xg_tbl) { frames := 3, cells := 0, slots := 0, locals := 69 } D xcl [(cyI, .int), (cyJ, .long)] G sz [.ref (a 28), .int x1, .int x2] (wd_X10 a cyI cyJ v10_firstOf v10_sizeOf v10_longOf v10_row v10_character v10_sum v10_coefficient v10_undone v10_wasSum v10_wasCoefficient v10_hasImage v10_letter v10_letters v10_list v10_cell v10_refusals v10_tried v10_left v10_high v10_then v10_at v10_readSize) (wd_X10 a cyI cyJ v10_firstOf v10_sizeOf v10_longOf v10_row v10_character v10_sum v10_coefficient v10_undone v10_wasSum v10_wasCoefficient v10_hasImage v10_letter v10_letters v10_list v10_cell ov10_refusals ov10_tried v10_left v10_high v10_then v10_at v10_readSize) ro := by
  refine xm_of_i (own := RX10) (by decide) rfl rfl (Nat.le_of_ble_eq_true rfl) ?_
  intro p e s m args below meth c ls Q A hQ hAe hin Cx hsz hP hD hS hl
  have Cx1 := Cx
  obtain ⟨⟨hx, hb, hml, hown, hts⟩, hr, hlocks, hK, hA, hT⟩ := Cx1
  have hl : lv_has ls 3 [(0, .ref (a 28)), (1, .int x1), (2, .int x2)] := hl
  obtain ⟨H, eH⟩ : ∃ H, H = s.heap := ⟨_, rfl⟩
  obtain ⟨locs, eL⟩ : ∃ L : List Loc, L = [] := ⟨_, rfl⟩
  rw [← eH] at hP
  have hS : va_S A s.heap H locs := by rw [eH, eL]; exact hS
  suffices hgo : W p l e { frames := 3, cells := 0, slots := 0, locals := 69 } s m args below meth c H locs 0 0 Q (F0 m 0 ls []) by rw [eH, eL] at hgo; exact hgo
  clear eH eL
  unfold f_X10_grown at hf
  refine lv_iload_n hx hb dX10_grown_0 rfl (lv_at hl 1 rfl) ?_
  obtain ⟨r_24, hk_25, hf⟩ := pe_1 hf
  refine xw_z (As := [.int x1]) (rest := []) Cx hP hD hS hl (xq_none _) (c_X10_isShape l D cyI cyJ G H.size x1 r_24 hk_25) pk_X10_isShape mw_5_23 ⟨rfl, rfl, Nat.le_of_ble_eq_true rfl, Nat.le_of_ble_eq_true rfl⟩ rfl rfl (Nat.le_of_ble_eq_true rfl) ⟨Nat.le_of_ble_eq_true rfl, Nat.le_of_ble_eq_true rfl⟩ dX10_grown_1 (fun H locs hn_26 hP hD hS => ?_)
  refine lv_if_ne (tgt := 13) hx hb dX10_grown_4 (by decide) (fun hc_27 => ?_) (fun hc_27 => ?_)
  · have hf := pe_f hf hc_27
    refine lv_iload_n hx hb dX10_grown_13 rfl (lv_at hl 2 rfl) ?_
    refine lv_if_ge (tgt := 24) hx hb dX10_grown_14 (by decide) (fun hc_28 => ?_) (fun hc_28 => ?_)
    · have hf := pe_t hf hc_28
      refine lv_iload_n hx hb dX10_grown_24 rfl (lv_at hl 2 rfl) ?_
      refine lv_bipush (v := (8 : Int32)) hx hb dX10_grown_25 (by decide) ?_
      refine lv_icmp_le (tgt := 37) hx hb dX10_grown_27 (by decide) (fun hc_29 => ?_) (fun hc_29 => ?_)
      · have hf := pe_t hf hc_29
        refine lv_aload_n hx hb dX10_grown_37 rfl (lv_at hl 0 rfl) ?_
        refine va_get (ci := 10) (v := .ref (a 30)) hx hb hts wX10_in hown hK hP 0 rfl rfl 1 (by decide) (hts _ mw_4_193) (fun _ h9 => h9) rfl dX10_grown_38 ?_
        refine lv_iload_n hx hb dX10_grown_41 rfl (lv_at hl 1 rfl) ?_
        obtain ⟨hi_30, hf⟩ := pe_in hf
        refine va_iald hx hb hK hP 2 0 rfl rfl hi_30 dX10_grown_42 ?_
        refine lv_iconst (v := (4 : Int32)) hx hb dX10_grown_43 (by decide) ?_
        refine lv_icmp_le (tgt := 56) hx hb dX10_grown_44 (by decide) (fun hc_31 => ?_) (fun hc_31 => ?_)
        · have hf := pe_t hf hc_31
          refine lv_aload_n hx hb dX10_grown_56 rfl (lv_at hl 0 rfl) ?_
          refine lv_iload_n hx hb dX10_grown_57 rfl (lv_at hl 1 rfl) ?_
          refine lv_iload_n hx hb dX10_grown_58 rfl (lv_at hl 2 rfl) ?_
          obtain ⟨r_32, v10_tried_33, hk_34, hf⟩ := pe_2 hf
          refine xv_i (As := [.int x1, .int x2]) (rest := []) (q0 := 0) (ci := 10) Cx hP hD hS hl (pl_X10_X10 a cyI cyJ v10_firstOf v10_sizeOf v10_longOf v10_row v10_character v10_sum v10_coefficient v10_undone v10_wasSum v10_wasCoefficient v10_hasImage v10_letter v10_letters v10_list v10_cell v10_refusals v10_tried v10_left v10_high v10_then v10_at v10_readSize v10_firstOf v10_sizeOf v10_longOf v10_row v10_character v10_sum v10_coefficient v10_undone v10_wasSum v10_wasCoefficient v10_hasImage v10_letter v10_letters v10_list v10_cell v10_refusals v10_tried_33 v10_left v10_high v10_then v10_at v10_readSize) (c_X10_grownTo l D cyI cyJ G a H.size v10_firstOf v10_sizeOf v10_longOf v10_row v10_character v10_sum v10_coefficient v10_undone v10_wasSum v10_wasCoefficient v10_hasImage v10_letter v10_letters v10_list v10_cell v10_refusals v10_tried v10_left v10_high v10_then v10_at v10_readSize x1 x2 r_32 v10_tried_33 hk_34) pk_X10_grownTo mw_5_129 ⟨rfl, rfl, Nat.le_of_ble_eq_true rfl, Nat.le_of_ble_eq_true rfl⟩ rfl rfl rfl rfl rfl (Nat.le_of_ble_eq_true rfl) ⟨Nat.le_of_ble_eq_true rfl, Nat.le_of_ble_eq_true rfl⟩ dX10_grown_59 (fun H locs hP hD hS => ?_)
          obtain ⟨rfl, rfl, rfl⟩ := po_3 hf
          rw [← hQ]; exact xe_iret Cx rfl hP hD hS dX10_grown_62
        · have hf := pe_f hf hc_31
          refine lv_aload_n hx hb dX10_grown_47 rfl (lv_at hl 0 rfl) ?_
          refine lv_bipush (v := (-3 : Int32)) hx hb dX10_grown_48 (by decide) ?_
          obtain ⟨r_35, v10_refusals_36, hk_37, hf⟩ := pe_2 hf
          refine xv_i (As := [.int (-3 : Int32)]) (rest := []) (q0 := 0) (ci := 10) Cx hP hD hS hl (pl_X10_X10 a cyI cyJ v10_firstOf v10_sizeOf v10_longOf v10_row v10_character v10_sum v10_coefficient v10_undone v10_wasSum v10_wasCoefficient v10_hasImage v10_letter v10_letters v10_list v10_cell v10_refusals v10_tried v10_left v10_high v10_then v10_at v10_readSize v10_firstOf v10_sizeOf v10_longOf v10_row v10_character v10_sum v10_coefficient v10_undone v10_wasSum v10_wasCoefficient v10_hasImage v10_letter v10_letters v10_list v10_cell v10_refusals_36 v10_tried v10_left v10_high v10_then v10_at v10_readSize) (c_X10_refused l D cyI cyJ G a H.size v10_firstOf v10_sizeOf v10_longOf v10_row v10_character v10_sum v10_coefficient v10_undone v10_wasSum v10_wasCoefficient v10_hasImage v10_letter v10_letters v10_list v10_cell v10_refusals v10_tried v10_left v10_high v10_then v10_at v10_readSize (-3 : Int32) r_35 v10_refusals_36 hk_37) pk_X10_refused mw_5_29 ⟨rfl, rfl, Nat.le_of_ble_eq_true rfl, Nat.le_of_ble_eq_true rfl⟩ rfl rfl rfl rfl rfl (Nat.le_of_ble_eq_true rfl) ⟨Nat.le_of_ble_eq_true rfl, Nat.le_of_ble_eq_true rfl⟩ dX10_grown_50 (fun H locs hP hD hS => ?_)
          refine lv_goto (tgt := 62) hx hb dX10_grown_53 (by decide) ?_
          obtain ⟨rfl, rfl, rfl⟩ := po_3 hf
          rw [← hQ]; exact xe_iret Cx rfl hP hD hS dX10_grown_62
      · have hf := pe_f hf hc_29
        refine lv_aload_n hx hb dX10_grown_30 rfl (lv_at hl 0 rfl) ?_
        refine lv_bipush (v := (-6 : Int32)) hx hb dX10_grown_31 (by decide) ?_
        obtain ⟨r_38, v10_refusals_39, hk_40, hf⟩ := pe_2 hf
        refine xv_i (As := [.int (-6 : Int32)]) (rest := []) (q0 := 0) (ci := 10) Cx hP hD hS hl (pl_X10_X10 a cyI cyJ v10_firstOf v10_sizeOf v10_longOf v10_row v10_character v10_sum v10_coefficient v10_undone v10_wasSum v10_wasCoefficient v10_hasImage v10_letter v10_letters v10_list v10_cell v10_refusals v10_tried v10_left v10_high v10_then v10_at v10_readSize v10_firstOf v10_sizeOf v10_longOf v10_row v10_character v10_sum v10_coefficient v10_undone v10_wasSum v10_wasCoefficient v10_hasImage v10_letter v10_letters v10_list v10_cell v10_refusals_39 v10_tried v10_left v10_high v10_then v10_at v10_readSize) (c_X10_refused l D cyI cyJ G a H.size v10_firstOf v10_sizeOf v10_longOf v10_row v10_character v10_sum v10_coefficient v10_undone v10_wasSum v10_wasCoefficient v10_hasImage v10_letter v10_letters v10_list v10_cell v10_refusals v10_tried v10_left v10_high v10_then v10_at v10_readSize (-6 : Int32) r_38 v10_refusals_39 hk_40) pk_X10_refused mw_5_29 ⟨rfl, rfl, Nat.le_of_ble_eq_true rfl, Nat.le_of_ble_eq_true rfl⟩ rfl rfl rfl rfl rfl (Nat.le_of_ble_eq_true rfl) ⟨Nat.le_of_ble_eq_true rfl, Nat.le_of_ble_eq_true rfl⟩ dX10_grown_33 (fun H locs hP hD hS => ?_)
        obtain ⟨rfl, rfl, rfl⟩ := po_3 hf
        rw [← hQ]; exact xe_iret Cx rfl hP hD hS dX10_grown_36
    · have hf := pe_f hf hc_28
      refine lv_aload_n hx hb dX10_grown_17 rfl (lv_at hl 0 rfl) ?_
      refine lv_bipush (v := (-4 : Int32)) hx hb dX10_grown_18 (by decide) ?_
      obtain ⟨r_41, v10_refusals_42, hk_43, hf⟩ := pe_2 hf
      refine xv_i (As := [.int (-4 : Int32)]) (rest := []) (q0 := 0) (ci := 10) Cx hP hD hS hl (pl_X10_X10 a cyI cyJ v10_firstOf v10_sizeOf v10_longOf v10_row v10_character v10_sum v10_coefficient v10_undone v10_wasSum v10_wasCoefficient v10_hasImage v10_letter v10_letters v10_list v10_cell v10_refusals v10_tried v10_left v10_high v10_then v10_at v10_readSize v10_firstOf v10_sizeOf v10_longOf v10_row v10_character v10_sum v10_coefficient v10_undone v10_wasSum v10_wasCoefficient v10_hasImage v10_letter v10_letters v10_list v10_cell v10_refusals_42 v10_tried v10_left v10_high v10_then v10_at v10_readSize) (c_X10_refused l D cyI cyJ G a H.size v10_firstOf v10_sizeOf v10_longOf v10_row v10_character v10_sum v10_coefficient v10_undone v10_wasSum v10_wasCoefficient v10_hasImage v10_letter v10_letters v10_list v10_cell v10_refusals v10_tried v10_left v10_high v10_then v10_at v10_readSize (-4 : Int32) r_41 v10_refusals_42 hk_43) pk_X10_refused mw_5_29 ⟨rfl, rfl, Nat.le_of_ble_eq_true rfl, Nat.le_of_ble_eq_true rfl⟩ rfl rfl rfl rfl rfl (Nat.le_of_ble_eq_true rfl) ⟨Nat.le_of_ble_eq_true rfl, Nat.le_of_ble_eq_true rfl⟩ dX10_grown_20 (fun H locs hP hD hS => ?_)
      obtain ⟨rfl, rfl, rfl⟩ := po_3 hf
      rw [← hQ]; exact xe_iret Cx rfl hP hD hS dX10_grown_23
  · have hf := pe_t hf hc_27
    refine lv_aload_n hx hb dX10_grown_7 rfl (lv_at hl 0 rfl) ?_
    refine lv_iconst (v := (-1 : Int32)) hx hb dX10_grown_8 (by decide) ?_
    obtain ⟨r_44, v10_refusals_45, hk_46, hf⟩ := pe_2 hf
    refine xv_i (As := [.int (-1 : Int32)]) (rest := []) (q0 := 0) (ci := 10) Cx hP hD hS hl (pl_X10_X10 a cyI cyJ v10_firstOf v10_sizeOf v10_longOf v10_row v10_character v10_sum v10_coefficient v10_undone v10_wasSum v10_wasCoefficient v10_hasImage v10_letter v10_letters v10_list v10_cell v10_refusals v10_tried v10_left v10_high v10_then v10_at v10_readSize v10_firstOf v10_sizeOf v10_longOf v10_row v10_character v10_sum v10_coefficient v10_undone v10_wasSum v10_wasCoefficient v10_hasImage v10_letter v10_letters v10_list v10_cell v10_refusals_45 v10_tried v10_left v10_high v10_then v10_at v10_readSize) (c_X10_refused l D cyI cyJ G a H.size v10_firstOf v10_sizeOf v10_longOf v10_row v10_character v10_sum v10_coefficient v10_undone v10_wasSum v10_wasCoefficient v10_hasImage v10_letter v10_letters v10_list v10_cell v10_refusals v10_tried v10_left v10_high v10_then v10_at v10_readSize (-1 : Int32) r_44 v10_refusals_45 hk_46) pk_X10_refused mw_5_29 ⟨rfl, rfl, Nat.le_of_ble_eq_true rfl, Nat.le_of_ble_eq_true rfl⟩ rfl rfl rfl rfl rfl (Nat.le_of_ble_eq_true rfl) ⟨Nat.le_of_ble_eq_true rfl, Nat.le_of_ble_eq_true rfl⟩ dX10_grown_9 (fun H locs hP hD hS => ?_)
    obtain ⟨rfl, rfl, rfl⟩ := po_3 hf
    rw [← hQ]; exact xe_iret Cx rfl hP hD hS dX10_grown_12
def f_X10_settled_222 (v10_firstOf : Nat → Int32) (v10_sizeOf : Nat → Int32) (v10_longOf : Nat → Int32) (v10_row : Nat → Int32) (v10_character : Nat → Int32) (v10_refusals : Nat → Int32) (v10_tried : Nat → Int32) (y4 : Int32) (y5 : Int32) (y6 : Int32) : Option (Int32 × (Nat → Int32) × (Nat → Int32)) := if y4 = 0 then (some (y6, v10_refusals, v10_tried)) else (some (y5, v10_refusals, v10_tried))
def f_X10_settled_202 (K_124 : (Nat → Int32) → (Nat → Int32) → Int32 → Int32 → Int32 → Int32 → Int32 → Int32 → Int32 → Option (Int32 × (Nat → Int32) × (Nat → Int32))) (v10_firstOf : Nat → Int32) (v10_sizeOf : Nat → Int32) (v10_longOf : Nat → Int32) (v10_row : Nat → Int32) (v10_character : Nat → Int32) (v10_refusals : Nat → Int32) (v10_tried : Nat → Int32) (y1 : Int32) (y2 : Int32) (y3 : Int32) (y4 : Int32) (y5 : Int32) (y6 : Int32) (z0 : Int32) : Option (Int32 × (Nat → Int32) × (Nat → Int32)) := if z0 = 0 then (K_124 v10_refusals v10_tried y1 y2 y3 y4 y5 (y6 - (0 : Int32)) z0) else (K_124 v10_refusals v10_tried y1 y2 y3 y4 y5 (y6 - (1 : Int32)) z0)
def f_X10_settled_201 (K_202 : (Nat → Int32) → (Nat → Int32) → Int32 → Int32 → Int32 → Int32 → Int32 → Int32 → Int32 → Option (Int32 × (Nat → Int32) × (Nat → Int32))) (v10_firstOf : Nat → Int32) (v10_sizeOf : Nat → Int32) (v10_longOf : Nat → Int32) (v10_row : Nat → Int32) (v10_character : Nat → Int32) (v10_refusals : Nat → Int32) (v10_tried : Nat → Int32) (y1 : Int32) (y2 : Int32) (y3 : Int32) (y4 : Int32) (y5 : Int32) (y6 : Int32) : Option (Int32 × (Nat → Int32) × (Nat → Int32)) := K_202 v10_refusals v10_tried y1 y2 y3 y4 y5 y6 (0 : Int32)
def gf_X10_settled_124 (K_124 : (Nat → Int32) → (Nat → Int32) → Int32 → Int32 → Int32 → Int32 → Int32 → Int32 → Int32 → Option (Int32 × (Nat → Int32) × (Nat → Int32))) (v10_firstOf : Nat → Int32) (v10_sizeOf : Nat → Int32) (v10_longOf : Nat → Int32) (v10_row : Nat → Int32) (v10_character : Nat → Int32) (v10_refusals : Nat → Int32) (v10_tried : Nat → Int32) (y1 : Int32) (y2 : Int32) (y3 : Int32) (y4 : Int32) (y5 : Int32) (y6 : Int32) (y7 : Int32) : Option (Int32 × (Nat → Int32) × (Nat → Int32)) := if y7 = 0 then ((f_X10_settled_222 v10_firstOf v10_sizeOf v10_longOf v10_row v10_character) v10_refusals v10_tried y4 y5 y6) else (if y6 ≤ 0 then ((f_X10_settled_222 v10_firstOf v10_sizeOf v10_longOf v10_row v10_character) v10_refusals v10_tried y4 y5 y6) else (p_b2 (f_X10_grownTo v10_sizeOf v10_longOf v10_row v10_tried y1 (y6 - (1 : Int32))) (fun r_5 v10_tried_6 => p_b2 (f_X10_grownTo v10_sizeOf v10_longOf v10_row v10_tried_6 y2 (y6 - (1 : Int32))) (fun r_8 v10_tried_9 => p_b2 (f_X10_grownTo v10_sizeOf v10_longOf v10_row v10_tried_9 y3 (y6 - (1 : Int32))) (fun r_11 v10_tried_12 => if r_5 < 0 then ((f_X10_settled_201 (f_X10_settled_202 K_124 v10_firstOf v10_sizeOf v10_longOf v10_row v10_character) v10_firstOf v10_sizeOf v10_longOf v10_row v10_character) v10_refusals v10_tried_12 y1 y2 y3 y4 y5 y6) else (if r_8 < 0 then ((f_X10_settled_201 (f_X10_settled_202 K_124 v10_firstOf v10_sizeOf v10_longOf v10_row v10_character) v10_firstOf v10_sizeOf v10_longOf v10_row v10_character) v10_refusals v10_tried_12 y1 y2 y3 y4 y5 y6) else (if r_11 < 0 then ((f_X10_settled_201 (f_X10_settled_202 K_124 v10_firstOf v10_sizeOf v10_longOf v10_row v10_character) v10_firstOf v10_sizeOf v10_longOf v10_row v10_character) v10_refusals v10_tried_12 y1 y2 y3 y4 y5 y6) else (p_b1 (f_X10_numberOf v10_firstOf v10_sizeOf v10_longOf v10_row v10_character r_5 r_8 r_11) (fun r_17 => if r_17 = y5 then ((f_X10_settled_202 K_124 v10_firstOf v10_sizeOf v10_longOf v10_row v10_character) v10_refusals v10_tried_12 y1 y2 y3 y4 y5 y6 (1 : Int32)) else ((f_X10_settled_201 (f_X10_settled_202 K_124 v10_firstOf v10_sizeOf v10_longOf v10_row v10_character) v10_firstOf v10_sizeOf v10_longOf v10_row v10_character) v10_refusals v10_tried_12 y1 y2 y3 y4 y5 y6))))))))))
def f_X10_settled_124 (v10_firstOf : Nat → Int32) (v10_sizeOf : Nat → Int32) (v10_longOf : Nat → Int32) (v10_row : Nat → Int32) (v10_character : Nat → Int32) : Nat → (Nat → Int32) → (Nat → Int32) → Int32 → Int32 → Int32 → Int32 → Int32 → Int32 → Int32 → Option (Int32 × (Nat → Int32) × (Nat → Int32))
  | 0 => fun _ _ _ _ _ _ _ _ _ => none
  | n + 1 => gf_X10_settled_124 (f_X10_settled_124 v10_firstOf v10_sizeOf v10_longOf v10_row v10_character n) v10_firstOf v10_sizeOf v10_longOf v10_row v10_character
def f_X10_settled_122 (v10_firstOf : Nat → Int32) (v10_sizeOf : Nat → Int32) (v10_longOf : Nat → Int32) (v10_row : Nat → Int32) (v10_character : Nat → Int32) (v10_refusals : Nat → Int32) (v10_tried : Nat → Int32) (y1 : Int32) (y2 : Int32) (y3 : Int32) (y4 : Int32) (y5 : Int32) (y6 : Int32) (z0 : Int32) : Option (Int32 × (Nat → Int32) × (Nat → Int32)) := (f_X10_settled_124 v10_firstOf v10_sizeOf v10_longOf v10_row v10_character 1000) v10_refusals v10_tried y1 y2 y3 y4 y5 y6 z0
def f_X10_settled_74 (v10_firstOf : Nat → Int32) (v10_sizeOf : Nat → Int32) (v10_longOf : Nat → Int32) (v10_row : Nat → Int32) (v10_character : Nat → Int32) (v10_refusals : Nat → Int32) (v10_tried : Nat → Int32) : Option (Int32 × (Nat → Int32) × (Nat → Int32)) := p_b2 (f_X10_refused v10_refusals (-3 : Int32)) (fun r_20 v10_refusals_21 => some (r_20, v10_refusals_21, v10_tried))
def f_X10_settled_21 (v10_firstOf : Nat → Int32) (v10_sizeOf : Nat → Int32) (v10_longOf : Nat → Int32) (v10_row : Nat → Int32) (v10_character : Nat → Int32) (v10_refusals : Nat → Int32) (v10_tried : Nat → Int32) : Option (Int32 × (Nat → Int32) × (Nat → Int32)) := p_b2 (f_X10_refused v10_refusals (-1 : Int32)) (fun r_23 v10_refusals_24 => some (r_23, v10_refusals_24, v10_tried))
def f_X10_settled (v10_firstOf : Nat → Int32) (v10_sizeOf : Nat → Int32) (v10_longOf : Nat → Int32) (v10_row : Nat → Int32) (v10_character : Nat → Int32) (v10_refusals : Nat → Int32) (v10_tried : Nat → Int32) (x1 : Int32) (x2 : Int32) (x3 : Int32) (x4 : Int32) : Option (Int32 × (Nat → Int32) × (Nat → Int32)) := p_b1 (f_X10_isShape x1) (fun r_26 => if r_26 = 0 then ((f_X10_settled_21 v10_firstOf v10_sizeOf v10_longOf v10_row v10_character) v10_refusals v10_tried) else (p_b1 (f_X10_isShape x2) (fun r_30 => if r_30 = 0 then ((f_X10_settled_21 v10_firstOf v10_sizeOf v10_longOf v10_row v10_character) v10_refusals v10_tried) else (p_b1 (f_X10_isShape x3) (fun r_34 => if r_34 = 0 then ((f_X10_settled_21 v10_firstOf v10_sizeOf v10_longOf v10_row v10_character) v10_refusals v10_tried) else (p_b1 (f_X10_in x4 (0 : Int32) (1 : Int32)) (fun r_38 => if r_38 = 0 then (p_b2 (f_X10_refused v10_refusals (-2 : Int32)) (fun r_60 v10_refusals_61 => some (r_60, v10_refusals_61, v10_tried))) else (p_in x1 67 (if (4 : Int32) < (v10_sizeOf (Int32.toNatClampNeg x1)) then ((f_X10_settled_74 v10_firstOf v10_sizeOf v10_longOf v10_row v10_character) v10_refusals v10_tried) else (p_in x2 67 (if (4 : Int32) < (v10_sizeOf (Int32.toNatClampNeg x2)) then ((f_X10_settled_74 v10_firstOf v10_sizeOf v10_longOf v10_row v10_character) v10_refusals v10_tried) else (p_in x3 67 (if (v10_sizeOf (Int32.toNatClampNeg x3)) ≤ (4 : Int32) then (p_b2 (f_X10_grownTo v10_sizeOf v10_longOf v10_row v10_tried x1 (8 : Int32)) (fun r_48 v10_tried_49 => p_b2 (f_X10_grownTo v10_sizeOf v10_longOf v10_row v10_tried_49 x2 (8 : Int32)) (fun r_51 v10_tried_52 => p_b2 (f_X10_grownTo v10_sizeOf v10_longOf v10_row v10_tried_52 x3 (8 : Int32)) (fun r_54 v10_tried_55 => p_b1 (f_X10_numberOf v10_firstOf v10_sizeOf v10_longOf v10_row v10_character r_48 r_51 r_54) (fun r_57 => if x4 = 0 then ((f_X10_settled_122 v10_firstOf v10_sizeOf v10_longOf v10_row v10_character) v10_refusals v10_tried_55 x1 x2 x3 x4 r_57 (8 : Int32) (1 : Int32)) else ((f_X10_settled_122 v10_firstOf v10_sizeOf v10_longOf v10_row v10_character) v10_refusals v10_tried_55 x1 x2 x3 x4 r_57 (8 : Int32) (0 : Int32))))))) else ((f_X10_settled_74 v10_firstOf v10_sizeOf v10_longOf v10_row v10_character) v10_refusals v10_tried))))))))))))))
set_option maxHeartbeats 4000000 in
set_option maxRecDepth 20000 in
theorem c_X10_settled (l : Launch) (D : va_G) (cyI cyJ : ClassId) (G a : Nat → Nat) (sz : Nat) (v10_firstOf : Nat → Int32) (v10_sizeOf : Nat → Int32) (v10_longOf : Nat → Int32) (v10_row : Nat → Int32) (v10_character : Nat → Int32) (v10_sum : Nat → Int32) (v10_coefficient : Nat → Int32) (v10_undone : Int32) (v10_wasSum : Nat → Int32) (v10_wasCoefficient : Nat → Int32) (v10_hasImage : Int32) (v10_letter : Nat → Int32) (v10_letters : Int32) (v10_list : Nat → Int32) (v10_cell : Nat → Int32) (v10_refusals : Nat → Int32) (v10_tried : Nat → Int32) (v10_left : Int32) (v10_high : Int32) (v10_then : Nat → Int64) (v10_at : Int32) (v10_readSize : Int32) (x1 : Int32) (x2 : Int32) (x3 : Int32) (x4 : Int32) (ro : Int32) (ov10_refusals : Nat → Int32) (ov10_tried : Nat → Int32) (hf : f_X10_settled v10_firstOf v10_sizeOf v10_longOf v10_row v10_character v10_refusals v10_tried x1 x2 x3 x4 = some (ro, ov10_refusals, ov10_tried)) : xm_i l yX10_settled (Cond.code yX10_settled cX10_settled 11 (some .int) :: xg_tbl) { frames := 3, cells := 0, slots := 0, locals := 73 } D xcl [(cyI, .int), (cyJ, .long)] G sz [.ref (a 28), .int x1, .int x2, .int x3, .int x4] (wd_X10 a cyI cyJ v10_firstOf v10_sizeOf v10_longOf v10_row v10_character v10_sum v10_coefficient v10_undone v10_wasSum v10_wasCoefficient v10_hasImage v10_letter v10_letters v10_list v10_cell v10_refusals v10_tried v10_left v10_high v10_then v10_at v10_readSize) (wd_X10 a cyI cyJ v10_firstOf v10_sizeOf v10_longOf v10_row v10_character v10_sum v10_coefficient v10_undone v10_wasSum v10_wasCoefficient v10_hasImage v10_letter v10_letters v10_list v10_cell ov10_refusals ov10_tried v10_left v10_high v10_then v10_at v10_readSize) ro := by
  refine xm_of_i (own := RX10) (by decide) rfl rfl (Nat.le_of_ble_eq_true rfl) ?_
  intro p e s m args below meth c ls Q A hQ hAe hin Cx hsz hP hD hS hl
  have Cx1 := Cx
  obtain ⟨⟨hx, hb, hml, hown, hts⟩, hr, hlocks, hK, hA, hT⟩ := Cx1
  have hl : lv_has ls 11 [(0, .ref (a 28)), (1, .int x1), (2, .int x2), (3, .int x3), (4, .int x4)] := hl
  obtain ⟨H, eH⟩ : ∃ H, H = s.heap := ⟨_, rfl⟩
  obtain ⟨locs, eL⟩ : ∃ L : List Loc, L = [] := ⟨_, rfl⟩
  rw [← eH] at hP
  have hS : va_S A s.heap H locs := by rw [eH, eL]; exact hS
  suffices hgo : W p l e { frames := 3, cells := 0, slots := 0, locals := 73 } s m args below meth c H locs 0 0 Q (F0 m 0 ls []) by rw [eH, eL] at hgo; exact hgo
  clear eH eL
  unfold f_X10_settled at hf
  have w_122 : ∀ (v10_refusals : Nat → Int32) (v10_tried : Nat → Int32) (y1 : Int32) (y2 : Int32) (y3 : Int32) (y4 : Int32) (y5 : Int32) (y6 : Int32) (z0 : Int32) (H : Heap) (locs : List Loc) (ls : Array Slot), (f_X10_settled_122 v10_firstOf v10_sizeOf v10_longOf v10_row v10_character) v10_refusals v10_tried y1 y2 y3 y4 y5 y6 z0 = some (ro, ov10_refusals, ov10_tried) → va_P D xcl (wd_X10 a cyI cyJ v10_firstOf v10_sizeOf v10_longOf v10_row v10_character v10_sum v10_coefficient v10_undone v10_wasSum v10_wasCoefficient v10_hasImage v10_letter v10_letters v10_list v10_cell v10_refusals v10_tried v10_left v10_high v10_then v10_at v10_readSize) H → va_D A (wd_X10 a cyI cyJ v10_firstOf v10_sizeOf v10_longOf v10_row v10_character v10_sum v10_coefficient v10_undone v10_wasSum v10_wasCoefficient v10_hasImage v10_letter v10_letters v10_list v10_cell v10_refusals v10_tried v10_left v10_high v10_then v10_at v10_readSize) → va_S A s.heap H locs → lv_has ls 11 [(0, .ref (a 28)), (1, .int y1), (2, .int y2), (3, .int y3), (4, .int y4), (5, .int y5), (6, .int y6)] → W p l e { frames := 3, cells := 0, slots := 0, locals := 73 } s m args below meth c H locs 0 0 Q (F0 m 122 ls [.int z0]) := by
    intro v10_refusals v10_tried y1 y2 y3 y4 y5 y6 z0 H locs ls hf hP hD hS hl
    unfold f_X10_settled_122 at hf
    have w_124 : ∀ (n_124 : Nat) (v10_refusals : Nat → Int32) (v10_tried : Nat → Int32) (y1 : Int32) (y2 : Int32) (y3 : Int32) (y4 : Int32) (y5 : Int32) (y6 : Int32) (y7 : Int32) (H : Heap) (locs : List Loc) (ls : Array Slot), (f_X10_settled_124 v10_firstOf v10_sizeOf v10_longOf v10_row v10_character) n_124 v10_refusals v10_tried y1 y2 y3 y4 y5 y6 y7 = some (ro, ov10_refusals, ov10_tried) → va_P D xcl (wd_X10 a cyI cyJ v10_firstOf v10_sizeOf v10_longOf v10_row v10_character v10_sum v10_coefficient v10_undone v10_wasSum v10_wasCoefficient v10_hasImage v10_letter v10_letters v10_list v10_cell v10_refusals v10_tried v10_left v10_high v10_then v10_at v10_readSize) H → va_D A (wd_X10 a cyI cyJ v10_firstOf v10_sizeOf v10_longOf v10_row v10_character v10_sum v10_coefficient v10_undone v10_wasSum v10_wasCoefficient v10_hasImage v10_letter v10_letters v10_list v10_cell v10_refusals v10_tried v10_left v10_high v10_then v10_at v10_readSize) → va_S A s.heap H locs → lv_has ls 11 [(0, .ref (a 28)), (1, .int y1), (2, .int y2), (3, .int y3), (4, .int y4), (5, .int y5), (6, .int y6), (7, .int y7)] → W p l e { frames := 3, cells := 0, slots := 0, locals := 73 } s m args below meth c H locs 0 0 Q (F0 m 124 ls []) := by
      intro n_124
      induction n_124 with
      | zero => intro v10_refusals v10_tried y1 y2 y3 y4 y5 y6 y7 H locs ls hf; exact absurd hf (by intro h9; cases h9)
      | succ n_124 w_124 =>
        intro v10_refusals v10_tried y1 y2 y3 y4 y5 y6 y7 H locs ls hf hP hD hS hl
        have hf : gf_X10_settled_124 ((f_X10_settled_124 v10_firstOf v10_sizeOf v10_longOf v10_row v10_character) n_124) v10_firstOf v10_sizeOf v10_longOf v10_row v10_character v10_refusals v10_tried y1 y2 y3 y4 y5 y6 y7 = some (ro, ov10_refusals, ov10_tried) := hf
        unfold gf_X10_settled_124 at hf
        have w_222 : ∀ (v10_refusals : Nat → Int32) (v10_tried : Nat → Int32) (y4 : Int32) (y5 : Int32) (y6 : Int32) (H : Heap) (locs : List Loc) (ls : Array Slot), (f_X10_settled_222 v10_firstOf v10_sizeOf v10_longOf v10_row v10_character) v10_refusals v10_tried y4 y5 y6 = some (ro, ov10_refusals, ov10_tried) → va_P D xcl (wd_X10 a cyI cyJ v10_firstOf v10_sizeOf v10_longOf v10_row v10_character v10_sum v10_coefficient v10_undone v10_wasSum v10_wasCoefficient v10_hasImage v10_letter v10_letters v10_list v10_cell v10_refusals v10_tried v10_left v10_high v10_then v10_at v10_readSize) H → va_D A (wd_X10 a cyI cyJ v10_firstOf v10_sizeOf v10_longOf v10_row v10_character v10_sum v10_coefficient v10_undone v10_wasSum v10_wasCoefficient v10_hasImage v10_letter v10_letters v10_list v10_cell v10_refusals v10_tried v10_left v10_high v10_then v10_at v10_readSize) → va_S A s.heap H locs → lv_has ls 11 [(4, .int y4), (5, .int y5), (6, .int y6)] → W p l e { frames := 3, cells := 0, slots := 0, locals := 73 } s m args below meth c H locs 0 0 Q (F0 m 222 ls []) := by
          intro v10_refusals v10_tried y4 y5 y6 H locs ls hf hP hD hS hl
          unfold f_X10_settled_222 at hf
          refine lv_iload hx hb dX10_settled_222 (lv_at hl 0 rfl) ?_
          refine lv_if_ne (tgt := 232) hx hb dX10_settled_224 (by decide) (fun hc_63 => ?_) (fun hc_63 => ?_)
          · have hf := pe_f hf hc_63
            refine lv_iload hx hb dX10_settled_232 (lv_at hl 1 rfl) ?_
            obtain ⟨rfl, rfl, rfl⟩ := po_3 hf
            rw [← hQ]; exact xe_iret Cx rfl hP hD hS dX10_settled_234
          · have hf := pe_t hf hc_63
            refine lv_iload hx hb dX10_settled_227 (lv_at hl 2 rfl) ?_
            refine lv_goto (tgt := 234) hx hb dX10_settled_229 (by decide) ?_
            obtain ⟨rfl, rfl, rfl⟩ := po_3 hf
            rw [← hQ]; exact xe_iret Cx rfl hP hD hS dX10_settled_234
        have w_202 : ∀ (v10_refusals : Nat → Int32) (v10_tried : Nat → Int32) (y1 : Int32) (y2 : Int32) (y3 : Int32) (y4 : Int32) (y5 : Int32) (y6 : Int32) (z0 : Int32) (H : Heap) (locs : List Loc) (ls : Array Slot), (f_X10_settled_202 ((f_X10_settled_124 v10_firstOf v10_sizeOf v10_longOf v10_row v10_character) n_124) v10_firstOf v10_sizeOf v10_longOf v10_row v10_character) v10_refusals v10_tried y1 y2 y3 y4 y5 y6 z0 = some (ro, ov10_refusals, ov10_tried) → va_P D xcl (wd_X10 a cyI cyJ v10_firstOf v10_sizeOf v10_longOf v10_row v10_character v10_sum v10_coefficient v10_undone v10_wasSum v10_wasCoefficient v10_hasImage v10_letter v10_letters v10_list v10_cell v10_refusals v10_tried v10_left v10_high v10_then v10_at v10_readSize) H → va_D A (wd_X10 a cyI cyJ v10_firstOf v10_sizeOf v10_longOf v10_row v10_character v10_sum v10_coefficient v10_undone v10_wasSum v10_wasCoefficient v10_hasImage v10_letter v10_letters v10_list v10_cell v10_refusals v10_tried v10_left v10_high v10_then v10_at v10_readSize) → va_S A s.heap H locs → lv_has ls 11 [(0, .ref (a 28)), (1, .int y1), (2, .int y2), (3, .int y3), (4, .int y4), (5, .int y5), (6, .int y6)] → W p l e { frames := 3, cells := 0, slots := 0, locals := 73 } s m args below meth c H locs 0 0 Q (F0 m 202 ls [.int z0]) := by
          intro v10_refusals v10_tried y1 y2 y3 y4 y5 y6 z0 H locs ls hf hP hD hS hl
          unfold f_X10_settled_202 at hf
          refine lv_istore (lv' := [(7, .int z0), (0, .ref (a 28)), (1, .int y1), (2, .int y2), (3, .int y3), (4, .int y4), (5, .int y5), (6, .int y6)]) hx hb dX10_settled_202 hl (by decide) rfl (fun ls hl => ?_)
          refine lv_iload hx hb dX10_settled_204 (lv_at hl 7 rfl) ?_
          refine lv_iload hx hb dX10_settled_206 (lv_at hl 0 rfl) ?_
          refine lv_if_eq (tgt := 215) hx hb dX10_settled_208 (by decide) (fun hc_64 => ?_) (fun hc_64 => ?_)
          · have hf := pe_t hf hc_64
            refine lv_iconst (v := (0 : Int32)) hx hb dX10_settled_215 (by decide) ?_
            refine lv_isub hx hb dX10_settled_216 ?_
            refine lv_istore (lv' := [(6, .int (y6 - (0 : Int32))), (7, .int z0), (0, .ref (a 28)), (1, .int y1), (2, .int y2), (3, .int y3), (4, .int y4), (5, .int y5)]) hx hb dX10_settled_217 hl (by decide) rfl (fun ls hl => ?_)
            refine lv_goto (tgt := 124) hx hb dX10_settled_219 (by decide) ?_
            exact w_124 v10_refusals v10_tried y1 y2 y3 y4 y5 (y6 - (0 : Int32)) z0 H locs ls hf hP hD hS (lv_sub hl [2, 3, 4, 5, 6, 7, 0, 1] rfl)
          · have hf := pe_f hf hc_64
            refine lv_iconst (v := (1 : Int32)) hx hb dX10_settled_211 (by decide) ?_
            refine lv_goto (tgt := 216) hx hb dX10_settled_212 (by decide) ?_
            refine lv_isub hx hb dX10_settled_216 ?_
            refine lv_istore (lv' := [(6, .int (y6 - (1 : Int32))), (7, .int z0), (0, .ref (a 28)), (1, .int y1), (2, .int y2), (3, .int y3), (4, .int y4), (5, .int y5)]) hx hb dX10_settled_217 hl (by decide) rfl (fun ls hl => ?_)
            refine lv_goto (tgt := 124) hx hb dX10_settled_219 (by decide) ?_
            exact w_124 v10_refusals v10_tried y1 y2 y3 y4 y5 (y6 - (1 : Int32)) z0 H locs ls hf hP hD hS (lv_sub hl [2, 3, 4, 5, 6, 7, 0, 1] rfl)
        have w_201 : ∀ (v10_refusals : Nat → Int32) (v10_tried : Nat → Int32) (y1 : Int32) (y2 : Int32) (y3 : Int32) (y4 : Int32) (y5 : Int32) (y6 : Int32) (H : Heap) (locs : List Loc) (ls : Array Slot), (f_X10_settled_201 (f_X10_settled_202 ((f_X10_settled_124 v10_firstOf v10_sizeOf v10_longOf v10_row v10_character) n_124) v10_firstOf v10_sizeOf v10_longOf v10_row v10_character) v10_firstOf v10_sizeOf v10_longOf v10_row v10_character) v10_refusals v10_tried y1 y2 y3 y4 y5 y6 = some (ro, ov10_refusals, ov10_tried) → va_P D xcl (wd_X10 a cyI cyJ v10_firstOf v10_sizeOf v10_longOf v10_row v10_character v10_sum v10_coefficient v10_undone v10_wasSum v10_wasCoefficient v10_hasImage v10_letter v10_letters v10_list v10_cell v10_refusals v10_tried v10_left v10_high v10_then v10_at v10_readSize) H → va_D A (wd_X10 a cyI cyJ v10_firstOf v10_sizeOf v10_longOf v10_row v10_character v10_sum v10_coefficient v10_undone v10_wasSum v10_wasCoefficient v10_hasImage v10_letter v10_letters v10_list v10_cell v10_refusals v10_tried v10_left v10_high v10_then v10_at v10_readSize) → va_S A s.heap H locs → lv_has ls 11 [(0, .ref (a 28)), (1, .int y1), (2, .int y2), (3, .int y3), (4, .int y4), (5, .int y5), (6, .int y6)] → W p l e { frames := 3, cells := 0, slots := 0, locals := 73 } s m args below meth c H locs 0 0 Q (F0 m 201 ls []) := by
          intro v10_refusals v10_tried y1 y2 y3 y4 y5 y6 H locs ls hf hP hD hS hl
          unfold f_X10_settled_201 at hf
          refine lv_iconst (v := (0 : Int32)) hx hb dX10_settled_201 (by decide) ?_
          exact w_202 v10_refusals v10_tried y1 y2 y3 y4 y5 y6 (0 : Int32) H locs ls hf hP hD hS (lv_sub hl [0, 1, 2, 3, 4, 5, 6] rfl)
        refine lv_iload hx hb dX10_settled_124 (lv_at hl 7 rfl) ?_
        refine lv_if_eq (tgt := 222) hx hb dX10_settled_126 (by decide) (fun hc_65 => ?_) (fun hc_65 => ?_)
        · have hf := pe_t hf hc_65
          exact w_222 v10_refusals v10_tried y4 y5 y6 H locs ls hf hP hD hS (lv_sub hl [4, 5, 6] rfl)
        · have hf := pe_f hf hc_65
          refine lv_iload hx hb dX10_settled_129 (lv_at hl 6 rfl) ?_
          refine lv_if_le (tgt := 222) hx hb dX10_settled_131 (by decide) (fun hc_66 => ?_) (fun hc_66 => ?_)
          · have hf := pe_t hf hc_66
            exact w_222 v10_refusals v10_tried y4 y5 y6 H locs ls hf hP hD hS (lv_sub hl [4, 5, 6] rfl)
          · have hf := pe_f hf hc_66
            refine lv_aload_n hx hb dX10_settled_134 rfl (lv_at hl 0 rfl) ?_
            refine lv_iload_n hx hb dX10_settled_135 rfl (lv_at hl 1 rfl) ?_
            refine lv_iload hx hb dX10_settled_136 (lv_at hl 6 rfl) ?_
            refine lv_iconst (v := (1 : Int32)) hx hb dX10_settled_138 (by decide) ?_
            refine lv_isub hx hb dX10_settled_139 ?_
            obtain ⟨r_67, v10_tried_68, hk_69, hf⟩ := pe_2 hf
            refine xv_i (As := [.int y1, .int (y6 - (1 : Int32))]) (rest := []) (q0 := 0) (ci := 10) Cx hP hD hS hl (pl_X10_X10 a cyI cyJ v10_firstOf v10_sizeOf v10_longOf v10_row v10_character v10_sum v10_coefficient v10_undone v10_wasSum v10_wasCoefficient v10_hasImage v10_letter v10_letters v10_list v10_cell v10_refusals v10_tried v10_left v10_high v10_then v10_at v10_readSize v10_firstOf v10_sizeOf v10_longOf v10_row v10_character v10_sum v10_coefficient v10_undone v10_wasSum v10_wasCoefficient v10_hasImage v10_letter v10_letters v10_list v10_cell v10_refusals v10_tried_68 v10_left v10_high v10_then v10_at v10_readSize) (c_X10_grownTo l D cyI cyJ G a H.size v10_firstOf v10_sizeOf v10_longOf v10_row v10_character v10_sum v10_coefficient v10_undone v10_wasSum v10_wasCoefficient v10_hasImage v10_letter v10_letters v10_list v10_cell v10_refusals v10_tried v10_left v10_high v10_then v10_at v10_readSize y1 (y6 - (1 : Int32)) r_67 v10_tried_68 hk_69) pk_X10_grownTo mw_5_129 ⟨rfl, rfl, Nat.le_of_ble_eq_true rfl, Nat.le_of_ble_eq_true rfl⟩ rfl rfl rfl rfl rfl (Nat.le_of_ble_eq_true rfl) ⟨Nat.le_of_ble_eq_true rfl, Nat.le_of_ble_eq_true rfl⟩ dX10_settled_140 (fun H locs hP hD hS => ?_)
            refine lv_istore (lv' := [(8, .int r_67), (0, .ref (a 28)), (1, .int y1), (2, .int y2), (3, .int y3), (4, .int y4), (5, .int y5), (6, .int y6), (7, .int y7)]) hx hb dX10_settled_143 hl (by decide) rfl (fun ls hl => ?_)
            refine lv_aload_n hx hb dX10_settled_145 rfl (lv_at hl 1 rfl) ?_
            refine lv_iload_n hx hb dX10_settled_146 rfl (lv_at hl 3 rfl) ?_
            refine lv_iload hx hb dX10_settled_147 (lv_at hl 7 rfl) ?_
            refine lv_iconst (v := (1 : Int32)) hx hb dX10_settled_149 (by decide) ?_
            refine lv_isub hx hb dX10_settled_150 ?_
            obtain ⟨r_70, v10_tried_71, hk_72, hf⟩ := pe_2 hf
            refine xv_i (As := [.int y2, .int (y6 - (1 : Int32))]) (rest := []) (q0 := 0) (ci := 10) Cx hP hD hS hl (pl_X10_X10 a cyI cyJ v10_firstOf v10_sizeOf v10_longOf v10_row v10_character v10_sum v10_coefficient v10_undone v10_wasSum v10_wasCoefficient v10_hasImage v10_letter v10_letters v10_list v10_cell v10_refusals v10_tried_68 v10_left v10_high v10_then v10_at v10_readSize v10_firstOf v10_sizeOf v10_longOf v10_row v10_character v10_sum v10_coefficient v10_undone v10_wasSum v10_wasCoefficient v10_hasImage v10_letter v10_letters v10_list v10_cell v10_refusals v10_tried_71 v10_left v10_high v10_then v10_at v10_readSize) (c_X10_grownTo l D cyI cyJ G a H.size v10_firstOf v10_sizeOf v10_longOf v10_row v10_character v10_sum v10_coefficient v10_undone v10_wasSum v10_wasCoefficient v10_hasImage v10_letter v10_letters v10_list v10_cell v10_refusals v10_tried_68 v10_left v10_high v10_then v10_at v10_readSize y2 (y6 - (1 : Int32)) r_70 v10_tried_71 hk_72) pk_X10_grownTo mw_5_129 ⟨rfl, rfl, Nat.le_of_ble_eq_true rfl, Nat.le_of_ble_eq_true rfl⟩ rfl rfl rfl rfl rfl (Nat.le_of_ble_eq_true rfl) ⟨Nat.le_of_ble_eq_true rfl, Nat.le_of_ble_eq_true rfl⟩ dX10_settled_151 (fun H locs hP hD hS => ?_)
            refine lv_istore (lv' := [(9, .int r_70), (8, .int r_67), (0, .ref (a 28)), (1, .int y1), (2, .int y2), (3, .int y3), (4, .int y4), (5, .int y5), (6, .int y6), (7, .int y7)]) hx hb dX10_settled_154 hl (by decide) rfl (fun ls hl => ?_)
            refine lv_aload_n hx hb dX10_settled_156 rfl (lv_at hl 2 rfl) ?_
            refine lv_iload_n hx hb dX10_settled_157 rfl (lv_at hl 5 rfl) ?_
            refine lv_iload hx hb dX10_settled_158 (lv_at hl 8 rfl) ?_
            refine lv_iconst (v := (1 : Int32)) hx hb dX10_settled_160 (by decide) ?_
            refine lv_isub hx hb dX10_settled_161 ?_
            obtain ⟨r_73, v10_tried_74, hk_75, hf⟩ := pe_2 hf
            refine xv_i (As := [.int y3, .int (y6 - (1 : Int32))]) (rest := []) (q0 := 0) (ci := 10) Cx hP hD hS hl (pl_X10_X10 a cyI cyJ v10_firstOf v10_sizeOf v10_longOf v10_row v10_character v10_sum v10_coefficient v10_undone v10_wasSum v10_wasCoefficient v10_hasImage v10_letter v10_letters v10_list v10_cell v10_refusals v10_tried_71 v10_left v10_high v10_then v10_at v10_readSize v10_firstOf v10_sizeOf v10_longOf v10_row v10_character v10_sum v10_coefficient v10_undone v10_wasSum v10_wasCoefficient v10_hasImage v10_letter v10_letters v10_list v10_cell v10_refusals v10_tried_74 v10_left v10_high v10_then v10_at v10_readSize) (c_X10_grownTo l D cyI cyJ G a H.size v10_firstOf v10_sizeOf v10_longOf v10_row v10_character v10_sum v10_coefficient v10_undone v10_wasSum v10_wasCoefficient v10_hasImage v10_letter v10_letters v10_list v10_cell v10_refusals v10_tried_71 v10_left v10_high v10_then v10_at v10_readSize y3 (y6 - (1 : Int32)) r_73 v10_tried_74 hk_75) pk_X10_grownTo mw_5_129 ⟨rfl, rfl, Nat.le_of_ble_eq_true rfl, Nat.le_of_ble_eq_true rfl⟩ rfl rfl rfl rfl rfl (Nat.le_of_ble_eq_true rfl) ⟨Nat.le_of_ble_eq_true rfl, Nat.le_of_ble_eq_true rfl⟩ dX10_settled_162 (fun H locs hP hD hS => ?_)
            refine lv_istore (lv' := [(10, .int r_73), (9, .int r_70), (8, .int r_67), (0, .ref (a 28)), (1, .int y1), (2, .int y2), (3, .int y3), (4, .int y4), (5, .int y5), (6, .int y6), (7, .int y7)]) hx hb dX10_settled_165 hl (by decide) rfl (fun ls hl => ?_)
            refine lv_iload hx hb dX10_settled_167 (lv_at hl 2 rfl) ?_
            refine lv_if_lt (tgt := 201) hx hb dX10_settled_169 (by decide) (fun hc_76 => ?_) (fun hc_76 => ?_)
            · have hf := pe_t hf hc_76
              exact w_201 v10_refusals v10_tried_74 y1 y2 y3 y4 y5 y6 H locs ls hf hP hD hS (lv_sub hl [3, 4, 5, 6, 7, 8, 9] rfl)
            · have hf := pe_f hf hc_76
              refine lv_iload hx hb dX10_settled_172 (lv_at hl 1 rfl) ?_
              refine lv_if_lt (tgt := 201) hx hb dX10_settled_174 (by decide) (fun hc_77 => ?_) (fun hc_77 => ?_)
              · have hf := pe_t hf hc_77
                exact w_201 v10_refusals v10_tried_74 y1 y2 y3 y4 y5 y6 H locs ls hf hP hD hS (lv_sub hl [3, 4, 5, 6, 7, 8, 9] rfl)
              · have hf := pe_f hf hc_77
                refine lv_iload hx hb dX10_settled_177 (lv_at hl 0 rfl) ?_
                refine lv_if_lt (tgt := 201) hx hb dX10_settled_179 (by decide) (fun hc_78 => ?_) (fun hc_78 => ?_)
                · have hf := pe_t hf hc_78
                  exact w_201 v10_refusals v10_tried_74 y1 y2 y3 y4 y5 y6 H locs ls hf hP hD hS (lv_sub hl [3, 4, 5, 6, 7, 8, 9] rfl)
                · have hf := pe_f hf hc_78
                  refine lv_aload_n hx hb dX10_settled_182 rfl (lv_at hl 3 rfl) ?_
                  refine lv_iload hx hb dX10_settled_183 (lv_at hl 2 rfl) ?_
                  refine lv_iload hx hb dX10_settled_185 (lv_at hl 1 rfl) ?_
                  refine lv_iload hx hb dX10_settled_187 (lv_at hl 0 rfl) ?_
                  obtain ⟨r_79, hk_80, hf⟩ := pe_1 hf
                  refine xv_i (As := [.int r_67, .int r_70, .int r_73]) (rest := []) (q0 := 0) (ci := 10) Cx hP hD hS hl (pl_X10_X10 a cyI cyJ v10_firstOf v10_sizeOf v10_longOf v10_row v10_character v10_sum v10_coefficient v10_undone v10_wasSum v10_wasCoefficient v10_hasImage v10_letter v10_letters v10_list v10_cell v10_refusals v10_tried_74 v10_left v10_high v10_then v10_at v10_readSize v10_firstOf v10_sizeOf v10_longOf v10_row v10_character v10_sum v10_coefficient v10_undone v10_wasSum v10_wasCoefficient v10_hasImage v10_letter v10_letters v10_list v10_cell v10_refusals v10_tried_74 v10_left v10_high v10_then v10_at v10_readSize) (c_X10_numberOf l D cyI cyJ G a H.size v10_firstOf v10_sizeOf v10_longOf v10_row v10_character v10_sum v10_coefficient v10_undone v10_wasSum v10_wasCoefficient v10_hasImage v10_letter v10_letters v10_list v10_cell v10_refusals v10_tried_74 v10_left v10_high v10_then v10_at v10_readSize r_67 r_70 r_73 r_79 hk_80) pk_X10_numberOf mw_5_112 ⟨rfl, rfl, Nat.le_of_ble_eq_true rfl, Nat.le_of_ble_eq_true rfl⟩ rfl rfl rfl rfl rfl (Nat.le_of_ble_eq_true rfl) ⟨Nat.le_of_ble_eq_true rfl, Nat.le_of_ble_eq_true rfl⟩ dX10_settled_189 (fun H locs hP hD hS => ?_)
                  refine lv_iload hx hb dX10_settled_192 (lv_at hl 8 rfl) ?_
                  refine lv_icmp_ne (tgt := 201) hx hb dX10_settled_194 (by decide) (fun hc_81 => ?_) (fun hc_81 => ?_)
                  · have hf := pe_f hf hc_81
                    exact w_201 v10_refusals v10_tried_74 y1 y2 y3 y4 y5 y6 H locs ls hf hP hD hS (lv_sub hl [3, 4, 5, 6, 7, 8, 9] rfl)
                  · have hf := pe_t hf hc_81
                    refine lv_iconst (v := (1 : Int32)) hx hb dX10_settled_197 (by decide) ?_
                    refine lv_goto (tgt := 202) hx hb dX10_settled_198 (by decide) ?_
                    exact w_202 v10_refusals v10_tried_74 y1 y2 y3 y4 y5 y6 (1 : Int32) H locs ls hf hP hD hS (lv_sub hl [3, 4, 5, 6, 7, 8, 9] rfl)
    refine lv_istore (lv' := [(7, .int z0), (0, .ref (a 28)), (1, .int y1), (2, .int y2), (3, .int y3), (4, .int y4), (5, .int y5), (6, .int y6)]) hx hb dX10_settled_122 hl (by decide) rfl (fun ls hl => ?_)
    exact w_124 1000 v10_refusals v10_tried y1 y2 y3 y4 y5 y6 z0 H locs ls hf hP hD hS (lv_sub hl [1, 2, 3, 4, 5, 6, 7, 0] rfl)
  have w_74 : ∀ (v10_refusals : Nat → Int32) (v10_tried : Nat → Int32) (H : Heap) (locs : List Loc) (ls : Array Slot), (f_X10_settled_74 v10_firstOf v10_sizeOf v10_longOf v10_row v10_character) v10_refusals v10_tried = some (ro, ov10_refusals, ov10_tried) → va_P D xcl (wd_X10 a cyI cyJ v10_firstOf v10_sizeOf v10_longOf v10_row v10_character v10_sum v10_coefficient v10_undone v10_wasSum v10_wasCoefficient v10_hasImage v10_letter v10_letters v10_list v10_cell v10_refusals v10_tried v10_left v10_high v10_then v10_at v10_readSize) H → va_D A (wd_X10 a cyI cyJ v10_firstOf v10_sizeOf v10_longOf v10_row v10_character v10_sum v10_coefficient v10_undone v10_wasSum v10_wasCoefficient v10_hasImage v10_letter v10_letters v10_list v10_cell v10_refusals v10_tried v10_left v10_high v10_then v10_at v10_readSize) → va_S A s.heap H locs → lv_has ls 11 [(0, .ref (a 28))] → W p l e { frames := 3, cells := 0, slots := 0, locals := 73 } s m args below meth c H locs 0 0 Q (F0 m 74 ls []) := by
    intro v10_refusals v10_tried H locs ls hf hP hD hS hl
    unfold f_X10_settled_74 at hf
    refine lv_aload_n hx hb dX10_settled_74 rfl (lv_at hl 0 rfl) ?_
    refine lv_bipush (v := (-3 : Int32)) hx hb dX10_settled_75 (by decide) ?_
    obtain ⟨r_82, v10_refusals_83, hk_84, hf⟩ := pe_2 hf
    refine xv_i (As := [.int (-3 : Int32)]) (rest := []) (q0 := 0) (ci := 10) Cx hP hD hS hl (pl_X10_X10 a cyI cyJ v10_firstOf v10_sizeOf v10_longOf v10_row v10_character v10_sum v10_coefficient v10_undone v10_wasSum v10_wasCoefficient v10_hasImage v10_letter v10_letters v10_list v10_cell v10_refusals v10_tried v10_left v10_high v10_then v10_at v10_readSize v10_firstOf v10_sizeOf v10_longOf v10_row v10_character v10_sum v10_coefficient v10_undone v10_wasSum v10_wasCoefficient v10_hasImage v10_letter v10_letters v10_list v10_cell v10_refusals_83 v10_tried v10_left v10_high v10_then v10_at v10_readSize) (c_X10_refused l D cyI cyJ G a H.size v10_firstOf v10_sizeOf v10_longOf v10_row v10_character v10_sum v10_coefficient v10_undone v10_wasSum v10_wasCoefficient v10_hasImage v10_letter v10_letters v10_list v10_cell v10_refusals v10_tried v10_left v10_high v10_then v10_at v10_readSize (-3 : Int32) r_82 v10_refusals_83 hk_84) pk_X10_refused mw_5_29 ⟨rfl, rfl, Nat.le_of_ble_eq_true rfl, Nat.le_of_ble_eq_true rfl⟩ rfl rfl rfl rfl rfl (Nat.le_of_ble_eq_true rfl) ⟨Nat.le_of_ble_eq_true rfl, Nat.le_of_ble_eq_true rfl⟩ dX10_settled_77 (fun H locs hP hD hS => ?_)
    obtain ⟨rfl, rfl, rfl⟩ := po_3 hf
    rw [← hQ]; exact xe_iret Cx rfl hP hD hS dX10_settled_80
  have w_21 : ∀ (v10_refusals : Nat → Int32) (v10_tried : Nat → Int32) (H : Heap) (locs : List Loc) (ls : Array Slot), (f_X10_settled_21 v10_firstOf v10_sizeOf v10_longOf v10_row v10_character) v10_refusals v10_tried = some (ro, ov10_refusals, ov10_tried) → va_P D xcl (wd_X10 a cyI cyJ v10_firstOf v10_sizeOf v10_longOf v10_row v10_character v10_sum v10_coefficient v10_undone v10_wasSum v10_wasCoefficient v10_hasImage v10_letter v10_letters v10_list v10_cell v10_refusals v10_tried v10_left v10_high v10_then v10_at v10_readSize) H → va_D A (wd_X10 a cyI cyJ v10_firstOf v10_sizeOf v10_longOf v10_row v10_character v10_sum v10_coefficient v10_undone v10_wasSum v10_wasCoefficient v10_hasImage v10_letter v10_letters v10_list v10_cell v10_refusals v10_tried v10_left v10_high v10_then v10_at v10_readSize) → va_S A s.heap H locs → lv_has ls 11 [(0, .ref (a 28))] → W p l e { frames := 3, cells := 0, slots := 0, locals := 73 } s m args below meth c H locs 0 0 Q (F0 m 21 ls []) := by
    intro v10_refusals v10_tried H locs ls hf hP hD hS hl
    unfold f_X10_settled_21 at hf
    refine lv_aload_n hx hb dX10_settled_21 rfl (lv_at hl 0 rfl) ?_
    refine lv_iconst (v := (-1 : Int32)) hx hb dX10_settled_22 (by decide) ?_
    obtain ⟨r_85, v10_refusals_86, hk_87, hf⟩ := pe_2 hf
    refine xv_i (As := [.int (-1 : Int32)]) (rest := []) (q0 := 0) (ci := 10) Cx hP hD hS hl (pl_X10_X10 a cyI cyJ v10_firstOf v10_sizeOf v10_longOf v10_row v10_character v10_sum v10_coefficient v10_undone v10_wasSum v10_wasCoefficient v10_hasImage v10_letter v10_letters v10_list v10_cell v10_refusals v10_tried v10_left v10_high v10_then v10_at v10_readSize v10_firstOf v10_sizeOf v10_longOf v10_row v10_character v10_sum v10_coefficient v10_undone v10_wasSum v10_wasCoefficient v10_hasImage v10_letter v10_letters v10_list v10_cell v10_refusals_86 v10_tried v10_left v10_high v10_then v10_at v10_readSize) (c_X10_refused l D cyI cyJ G a H.size v10_firstOf v10_sizeOf v10_longOf v10_row v10_character v10_sum v10_coefficient v10_undone v10_wasSum v10_wasCoefficient v10_hasImage v10_letter v10_letters v10_list v10_cell v10_refusals v10_tried v10_left v10_high v10_then v10_at v10_readSize (-1 : Int32) r_85 v10_refusals_86 hk_87) pk_X10_refused mw_5_29 ⟨rfl, rfl, Nat.le_of_ble_eq_true rfl, Nat.le_of_ble_eq_true rfl⟩ rfl rfl rfl rfl rfl (Nat.le_of_ble_eq_true rfl) ⟨Nat.le_of_ble_eq_true rfl, Nat.le_of_ble_eq_true rfl⟩ dX10_settled_23 (fun H locs hP hD hS => ?_)
    obtain ⟨rfl, rfl, rfl⟩ := po_3 hf
    rw [← hQ]; exact xe_iret Cx rfl hP hD hS dX10_settled_26
  refine lv_iload_n hx hb dX10_settled_0 rfl (lv_at hl 1 rfl) ?_
  obtain ⟨r_88, hk_89, hf⟩ := pe_1 hf
  refine xw_z (As := [.int x1]) (rest := []) Cx hP hD hS hl (xq_none _) (c_X10_isShape l D cyI cyJ G H.size x1 r_88 hk_89) pk_X10_isShape mw_5_23 ⟨rfl, rfl, Nat.le_of_ble_eq_true rfl, Nat.le_of_ble_eq_true rfl⟩ rfl rfl (Nat.le_of_ble_eq_true rfl) ⟨Nat.le_of_ble_eq_true rfl, Nat.le_of_ble_eq_true rfl⟩ dX10_settled_1 (fun H locs hn_90 hP hD hS => ?_)
  refine lv_if_eq (tgt := 21) hx hb dX10_settled_4 (by decide) (fun hc_91 => ?_) (fun hc_91 => ?_)
  · have hf := pe_t hf hc_91
    exact w_21 v10_refusals v10_tried H locs ls hf hP hD hS (lv_sub hl [0] rfl)
  · have hf := pe_f hf hc_91
    refine lv_iload_n hx hb dX10_settled_7 rfl (lv_at hl 2 rfl) ?_
    obtain ⟨r_92, hk_93, hf⟩ := pe_1 hf
    refine xw_z (As := [.int x2]) (rest := []) Cx hP hD hS hl (xq_none _) (c_X10_isShape l D cyI cyJ G H.size x2 r_92 hk_93) pk_X10_isShape mw_5_23 ⟨rfl, rfl, Nat.le_of_ble_eq_true rfl, Nat.le_of_ble_eq_true rfl⟩ rfl rfl (Nat.le_of_ble_eq_true rfl) ⟨Nat.le_of_ble_eq_true rfl, Nat.le_of_ble_eq_true rfl⟩ dX10_settled_8 (fun H locs hn_94 hP hD hS => ?_)
    refine lv_if_eq (tgt := 21) hx hb dX10_settled_11 (by decide) (fun hc_95 => ?_) (fun hc_95 => ?_)
    · have hf := pe_t hf hc_95
      exact w_21 v10_refusals v10_tried H locs ls hf hP hD hS (lv_sub hl [0] rfl)
    · have hf := pe_f hf hc_95
      refine lv_iload_n hx hb dX10_settled_14 rfl (lv_at hl 3 rfl) ?_
      obtain ⟨r_96, hk_97, hf⟩ := pe_1 hf
      refine xw_z (As := [.int x3]) (rest := []) Cx hP hD hS hl (xq_none _) (c_X10_isShape l D cyI cyJ G H.size x3 r_96 hk_97) pk_X10_isShape mw_5_23 ⟨rfl, rfl, Nat.le_of_ble_eq_true rfl, Nat.le_of_ble_eq_true rfl⟩ rfl rfl (Nat.le_of_ble_eq_true rfl) ⟨Nat.le_of_ble_eq_true rfl, Nat.le_of_ble_eq_true rfl⟩ dX10_settled_15 (fun H locs hn_98 hP hD hS => ?_)
      refine lv_if_ne (tgt := 27) hx hb dX10_settled_18 (by decide) (fun hc_99 => ?_) (fun hc_99 => ?_)
      · have hf := pe_f hf hc_99
        refine lv_iload hx hb dX10_settled_27 (lv_at hl 4 rfl) ?_
        refine lv_iconst (v := (0 : Int32)) hx hb dX10_settled_29 (by decide) ?_
        refine lv_iconst (v := (1 : Int32)) hx hb dX10_settled_30 (by decide) ?_
        obtain ⟨r_100, hk_101, hf⟩ := pe_1 hf
        refine xw_z (As := [.int x4, .int (0 : Int32), .int (1 : Int32)]) (rest := []) Cx hP hD hS hl (xq_none _) (c_X10_in l D cyI cyJ G H.size x4 (0 : Int32) (1 : Int32) r_100 hk_101) pk_X10_in mw_5_26 ⟨rfl, rfl, Nat.le_of_ble_eq_true rfl, Nat.le_of_ble_eq_true rfl⟩ rfl rfl (Nat.le_of_ble_eq_true rfl) ⟨Nat.le_of_ble_eq_true rfl, Nat.le_of_ble_eq_true rfl⟩ dX10_settled_31 (fun H locs hn_102 hP hD hS => ?_)
        refine lv_if_ne (tgt := 44) hx hb dX10_settled_34 (by decide) (fun hc_103 => ?_) (fun hc_103 => ?_)
        · have hf := pe_f hf hc_103
          refine lv_aload_n hx hb dX10_settled_44 rfl (lv_at hl 0 rfl) ?_
          refine va_get (ci := 10) (v := .ref (a 30)) hx hb hts wX10_in hown hK hP 0 rfl rfl 1 (by decide) (hts _ mw_4_193) (fun _ h9 => h9) rfl dX10_settled_45 ?_
          refine lv_iload_n hx hb dX10_settled_48 rfl (lv_at hl 1 rfl) ?_
          obtain ⟨hi_104, hf⟩ := pe_in hf
          refine va_iald hx hb hK hP 2 0 rfl rfl hi_104 dX10_settled_49 ?_
          refine lv_iconst (v := (4 : Int32)) hx hb dX10_settled_50 (by decide) ?_
          refine lv_icmp_gt (tgt := 74) hx hb dX10_settled_51 (by decide) (fun hc_105 => ?_) (fun hc_105 => ?_)
          · have hf := pe_t hf hc_105
            exact w_74 v10_refusals v10_tried H locs ls hf hP hD hS (lv_sub hl [0] rfl)
          · have hf := pe_f hf hc_105
            refine lv_aload_n hx hb dX10_settled_54 rfl (lv_at hl 0 rfl) ?_
            refine va_get (ci := 10) (v := .ref (a 30)) hx hb hts wX10_in hown hK hP 0 rfl rfl 1 (by decide) (hts _ mw_4_193) (fun _ h9 => h9) rfl dX10_settled_55 ?_
            refine lv_iload_n hx hb dX10_settled_58 rfl (lv_at hl 2 rfl) ?_
            obtain ⟨hi_106, hf⟩ := pe_in hf
            refine va_iald hx hb hK hP 2 0 rfl rfl hi_106 dX10_settled_59 ?_
            refine lv_iconst (v := (4 : Int32)) hx hb dX10_settled_60 (by decide) ?_
            refine lv_icmp_gt (tgt := 74) hx hb dX10_settled_61 (by decide) (fun hc_107 => ?_) (fun hc_107 => ?_)
            · have hf := pe_t hf hc_107
              exact w_74 v10_refusals v10_tried H locs ls hf hP hD hS (lv_sub hl [0] rfl)
            · have hf := pe_f hf hc_107
              refine lv_aload_n hx hb dX10_settled_64 rfl (lv_at hl 0 rfl) ?_
              refine va_get (ci := 10) (v := .ref (a 30)) hx hb hts wX10_in hown hK hP 0 rfl rfl 1 (by decide) (hts _ mw_4_193) (fun _ h9 => h9) rfl dX10_settled_65 ?_
              refine lv_iload_n hx hb dX10_settled_68 rfl (lv_at hl 3 rfl) ?_
              obtain ⟨hi_108, hf⟩ := pe_in hf
              refine va_iald hx hb hK hP 2 0 rfl rfl hi_108 dX10_settled_69 ?_
              refine lv_iconst (v := (4 : Int32)) hx hb dX10_settled_70 (by decide) ?_
              refine lv_icmp_le (tgt := 81) hx hb dX10_settled_71 (by decide) (fun hc_109 => ?_) (fun hc_109 => ?_)
              · have hf := pe_t hf hc_109
                refine lv_aload_n hx hb dX10_settled_81 rfl (lv_at hl 0 rfl) ?_
                refine lv_aload_n hx hb dX10_settled_82 rfl (lv_at hl 0 rfl) ?_
                refine lv_iload_n hx hb dX10_settled_83 rfl (lv_at hl 1 rfl) ?_
                refine lv_bipush (v := (8 : Int32)) hx hb dX10_settled_84 (by decide) ?_
                obtain ⟨r_110, v10_tried_111, hk_112, hf⟩ := pe_2 hf
                refine xv_i (As := [.int x1, .int (8 : Int32)]) (rest := [.ref (a 28)]) (q0 := 0) (ci := 10) Cx hP hD hS hl (pl_X10_X10 a cyI cyJ v10_firstOf v10_sizeOf v10_longOf v10_row v10_character v10_sum v10_coefficient v10_undone v10_wasSum v10_wasCoefficient v10_hasImage v10_letter v10_letters v10_list v10_cell v10_refusals v10_tried v10_left v10_high v10_then v10_at v10_readSize v10_firstOf v10_sizeOf v10_longOf v10_row v10_character v10_sum v10_coefficient v10_undone v10_wasSum v10_wasCoefficient v10_hasImage v10_letter v10_letters v10_list v10_cell v10_refusals v10_tried_111 v10_left v10_high v10_then v10_at v10_readSize) (c_X10_grownTo l D cyI cyJ G a H.size v10_firstOf v10_sizeOf v10_longOf v10_row v10_character v10_sum v10_coefficient v10_undone v10_wasSum v10_wasCoefficient v10_hasImage v10_letter v10_letters v10_list v10_cell v10_refusals v10_tried v10_left v10_high v10_then v10_at v10_readSize x1 (8 : Int32) r_110 v10_tried_111 hk_112) pk_X10_grownTo mw_5_129 ⟨rfl, rfl, Nat.le_of_ble_eq_true rfl, Nat.le_of_ble_eq_true rfl⟩ rfl rfl rfl rfl rfl (Nat.le_of_ble_eq_true rfl) ⟨Nat.le_of_ble_eq_true rfl, Nat.le_of_ble_eq_true rfl⟩ dX10_settled_86 (fun H locs hP hD hS => ?_)
                refine lv_aload_n hx hb dX10_settled_89 rfl (lv_at hl 0 rfl) ?_
                refine lv_iload_n hx hb dX10_settled_90 rfl (lv_at hl 2 rfl) ?_
                refine lv_bipush (v := (8 : Int32)) hx hb dX10_settled_91 (by decide) ?_
                obtain ⟨r_113, v10_tried_114, hk_115, hf⟩ := pe_2 hf
                refine xv_i (As := [.int x2, .int (8 : Int32)]) (rest := [.int r_110, .ref (a 28)]) (q0 := 0) (ci := 10) Cx hP hD hS hl (pl_X10_X10 a cyI cyJ v10_firstOf v10_sizeOf v10_longOf v10_row v10_character v10_sum v10_coefficient v10_undone v10_wasSum v10_wasCoefficient v10_hasImage v10_letter v10_letters v10_list v10_cell v10_refusals v10_tried_111 v10_left v10_high v10_then v10_at v10_readSize v10_firstOf v10_sizeOf v10_longOf v10_row v10_character v10_sum v10_coefficient v10_undone v10_wasSum v10_wasCoefficient v10_hasImage v10_letter v10_letters v10_list v10_cell v10_refusals v10_tried_114 v10_left v10_high v10_then v10_at v10_readSize) (c_X10_grownTo l D cyI cyJ G a H.size v10_firstOf v10_sizeOf v10_longOf v10_row v10_character v10_sum v10_coefficient v10_undone v10_wasSum v10_wasCoefficient v10_hasImage v10_letter v10_letters v10_list v10_cell v10_refusals v10_tried_111 v10_left v10_high v10_then v10_at v10_readSize x2 (8 : Int32) r_113 v10_tried_114 hk_115) pk_X10_grownTo mw_5_129 ⟨rfl, rfl, Nat.le_of_ble_eq_true rfl, Nat.le_of_ble_eq_true rfl⟩ rfl rfl rfl rfl rfl (Nat.le_of_ble_eq_true rfl) ⟨Nat.le_of_ble_eq_true rfl, Nat.le_of_ble_eq_true rfl⟩ dX10_settled_93 (fun H locs hP hD hS => ?_)
                refine lv_aload_n hx hb dX10_settled_96 rfl (lv_at hl 0 rfl) ?_
                refine lv_iload_n hx hb dX10_settled_97 rfl (lv_at hl 3 rfl) ?_
                refine lv_bipush (v := (8 : Int32)) hx hb dX10_settled_98 (by decide) ?_
                obtain ⟨r_116, v10_tried_117, hk_118, hf⟩ := pe_2 hf
                refine xv_i (As := [.int x3, .int (8 : Int32)]) (rest := [.int r_113, .int r_110, .ref (a 28)]) (q0 := 0) (ci := 10) Cx hP hD hS hl (pl_X10_X10 a cyI cyJ v10_firstOf v10_sizeOf v10_longOf v10_row v10_character v10_sum v10_coefficient v10_undone v10_wasSum v10_wasCoefficient v10_hasImage v10_letter v10_letters v10_list v10_cell v10_refusals v10_tried_114 v10_left v10_high v10_then v10_at v10_readSize v10_firstOf v10_sizeOf v10_longOf v10_row v10_character v10_sum v10_coefficient v10_undone v10_wasSum v10_wasCoefficient v10_hasImage v10_letter v10_letters v10_list v10_cell v10_refusals v10_tried_117 v10_left v10_high v10_then v10_at v10_readSize) (c_X10_grownTo l D cyI cyJ G a H.size v10_firstOf v10_sizeOf v10_longOf v10_row v10_character v10_sum v10_coefficient v10_undone v10_wasSum v10_wasCoefficient v10_hasImage v10_letter v10_letters v10_list v10_cell v10_refusals v10_tried_114 v10_left v10_high v10_then v10_at v10_readSize x3 (8 : Int32) r_116 v10_tried_117 hk_118) pk_X10_grownTo mw_5_129 ⟨rfl, rfl, Nat.le_of_ble_eq_true rfl, Nat.le_of_ble_eq_true rfl⟩ rfl rfl rfl rfl rfl (Nat.le_of_ble_eq_true rfl) ⟨Nat.le_of_ble_eq_true rfl, Nat.le_of_ble_eq_true rfl⟩ dX10_settled_100 (fun H locs hP hD hS => ?_)
                obtain ⟨r_119, hk_120, hf⟩ := pe_1 hf
                refine xv_i (As := [.int r_110, .int r_113, .int r_116]) (rest := []) (q0 := 0) (ci := 10) Cx hP hD hS hl (pl_X10_X10 a cyI cyJ v10_firstOf v10_sizeOf v10_longOf v10_row v10_character v10_sum v10_coefficient v10_undone v10_wasSum v10_wasCoefficient v10_hasImage v10_letter v10_letters v10_list v10_cell v10_refusals v10_tried_117 v10_left v10_high v10_then v10_at v10_readSize v10_firstOf v10_sizeOf v10_longOf v10_row v10_character v10_sum v10_coefficient v10_undone v10_wasSum v10_wasCoefficient v10_hasImage v10_letter v10_letters v10_list v10_cell v10_refusals v10_tried_117 v10_left v10_high v10_then v10_at v10_readSize) (c_X10_numberOf l D cyI cyJ G a H.size v10_firstOf v10_sizeOf v10_longOf v10_row v10_character v10_sum v10_coefficient v10_undone v10_wasSum v10_wasCoefficient v10_hasImage v10_letter v10_letters v10_list v10_cell v10_refusals v10_tried_117 v10_left v10_high v10_then v10_at v10_readSize r_110 r_113 r_116 r_119 hk_120) pk_X10_numberOf mw_5_112 ⟨rfl, rfl, Nat.le_of_ble_eq_true rfl, Nat.le_of_ble_eq_true rfl⟩ rfl rfl rfl rfl rfl (Nat.le_of_ble_eq_true rfl) ⟨Nat.le_of_ble_eq_true rfl, Nat.le_of_ble_eq_true rfl⟩ dX10_settled_103 (fun H locs hP hD hS => ?_)
                refine lv_istore (lv' := [(5, .int r_119), (0, .ref (a 28)), (1, .int x1), (2, .int x2), (3, .int x3), (4, .int x4)]) hx hb dX10_settled_106 hl (by decide) rfl (fun ls hl => ?_)
                refine lv_bipush (v := (8 : Int32)) hx hb dX10_settled_108 (by decide) ?_
                refine lv_istore (lv' := [(6, .int (8 : Int32)), (5, .int r_119), (0, .ref (a 28)), (1, .int x1), (2, .int x2), (3, .int x3), (4, .int x4)]) hx hb dX10_settled_110 hl (by decide) rfl (fun ls hl => ?_)
                refine lv_iload hx hb dX10_settled_112 (lv_at hl 6 rfl) ?_
                refine lv_if_ne (tgt := 121) hx hb dX10_settled_114 (by decide) (fun hc_121 => ?_) (fun hc_121 => ?_)
                · have hf := pe_f hf hc_121
                  refine lv_iconst (v := (0 : Int32)) hx hb dX10_settled_121 (by decide) ?_
                  exact w_122 v10_refusals v10_tried_117 x1 x2 x3 x4 r_119 (8 : Int32) (0 : Int32) H locs ls hf hP hD hS (lv_sub hl [2, 3, 4, 5, 6, 1, 0] rfl)
                · have hf := pe_t hf hc_121
                  refine lv_iconst (v := (1 : Int32)) hx hb dX10_settled_117 (by decide) ?_
                  refine lv_goto (tgt := 122) hx hb dX10_settled_118 (by decide) ?_
                  exact w_122 v10_refusals v10_tried_117 x1 x2 x3 x4 r_119 (8 : Int32) (1 : Int32) H locs ls hf hP hD hS (lv_sub hl [2, 3, 4, 5, 6, 1, 0] rfl)
              · have hf := pe_f hf hc_109
                exact w_74 v10_refusals v10_tried H locs ls hf hP hD hS (lv_sub hl [0] rfl)
        · have hf := pe_t hf hc_103
          refine lv_aload_n hx hb dX10_settled_37 rfl (lv_at hl 0 rfl) ?_
          refine lv_bipush (v := (-2 : Int32)) hx hb dX10_settled_38 (by decide) ?_
          obtain ⟨r_122, v10_refusals_123, hk_124, hf⟩ := pe_2 hf
          refine xv_i (As := [.int (-2 : Int32)]) (rest := []) (q0 := 0) (ci := 10) Cx hP hD hS hl (pl_X10_X10 a cyI cyJ v10_firstOf v10_sizeOf v10_longOf v10_row v10_character v10_sum v10_coefficient v10_undone v10_wasSum v10_wasCoefficient v10_hasImage v10_letter v10_letters v10_list v10_cell v10_refusals v10_tried v10_left v10_high v10_then v10_at v10_readSize v10_firstOf v10_sizeOf v10_longOf v10_row v10_character v10_sum v10_coefficient v10_undone v10_wasSum v10_wasCoefficient v10_hasImage v10_letter v10_letters v10_list v10_cell v10_refusals_123 v10_tried v10_left v10_high v10_then v10_at v10_readSize) (c_X10_refused l D cyI cyJ G a H.size v10_firstOf v10_sizeOf v10_longOf v10_row v10_character v10_sum v10_coefficient v10_undone v10_wasSum v10_wasCoefficient v10_hasImage v10_letter v10_letters v10_list v10_cell v10_refusals v10_tried v10_left v10_high v10_then v10_at v10_readSize (-2 : Int32) r_122 v10_refusals_123 hk_124) pk_X10_refused mw_5_29 ⟨rfl, rfl, Nat.le_of_ble_eq_true rfl, Nat.le_of_ble_eq_true rfl⟩ rfl rfl rfl rfl rfl (Nat.le_of_ble_eq_true rfl) ⟨Nat.le_of_ble_eq_true rfl, Nat.le_of_ble_eq_true rfl⟩ dX10_settled_40 (fun H locs hP hD hS => ?_)
          obtain ⟨rfl, rfl, rfl⟩ := po_3 hf
          rw [← hQ]; exact xe_iret Cx rfl hP hD hS dX10_settled_43
      · have hf := pe_t hf hc_99
        exact w_21 v10_refusals v10_tried H locs ls hf hP hD hS (lv_sub hl [0] rfl)
def f_X10_lots_163 (K_65 : (Nat → Int32) → Int32 → Int32 → Int32 → Int32 → Int32 → Int32 → Int32 → Option (Int32 × (Nat → Int32))) (v10_firstOf : Nat → Int32) (v10_sizeOf : Nat → Int32) (v10_longOf : Nat → Int32) (v10_row : Nat → Int32) (v10_character : Nat → Int32) (v10_refusals : Nat → Int32) (y1 : Int32) (y2 : Int32) (y4 : Int32) (y5 : Int32) (y7 : Int32) (y8 : Int32) (y11 : Int32) (z0 : Int32) (z1 : Int32) : Option (Int32 × (Nat → Int32)) := K_65 v10_refusals y1 y2 y4 y5 (z1 + z0) (y7 + y11) (y8 + (1 : Int32))
def gf_X10_lots_65 (K_65 : (Nat → Int32) → Int32 → Int32 → Int32 → Int32 → Int32 → Int32 → Int32 → Option (Int32 × (Nat → Int32))) (v10_firstOf : Nat → Int32) (v10_sizeOf : Nat → Int32) (v10_longOf : Nat → Int32) (v10_row : Nat → Int32) (v10_character : Nat → Int32) (v10_refusals : Nat → Int32) (y1 : Int32) (y2 : Int32) (y4 : Int32) (y5 : Int32) (y6 : Int32) (y7 : Int32) (y8 : Int32) : Option (Int32 × (Nat → Int32)) := if y2 ≤ y8 then (if y4 = 0 then (some (y6, v10_refusals)) else (some (y7, v10_refusals))) else (p_in y1 10 (p_nz (256 : Int32) (p_b1 (f_X10_manyOf v10_firstOf y1) (fun r_5 => p_nz r_5 (p_in y1 10 (p_nz (256 : Int32) (p_b1 (f_X10_manyOf v10_firstOf y1) (fun r_10 => p_nz r_10 (p_b1 (f_X10_numberOf v10_firstOf v10_sizeOf v10_longOf v10_row v10_character ((v10_firstOf (Int32.toNatClampNeg y1)) + (((((y5 * (1664525 : Int32)) + (1013904223 : Int32)) &&& (2147483647 : Int32)) / (256 : Int32)) - ((((y5 * (1664525 : Int32)) + (1013904223 : Int32)) &&& (2147483647 : Int32)) / (256 : Int32)) / r_5 * r_5)) ((v10_firstOf (Int32.toNatClampNeg y1)) + (((((y5 * (1664525 : Int32)) + (1013904223 : Int32)) &&& (2147483647 : Int32)) / (256 : Int32)) - ((((y5 * (1664525 : Int32)) + (1013904223 : Int32)) &&& (2147483647 : Int32)) / (256 : Int32)) / r_5 * r_5)) ((v10_firstOf (Int32.toNatClampNeg y1)) + (((((((y5 * (1664525 : Int32)) + (1013904223 : Int32)) * (1664525 : Int32)) + (1013904223 : Int32)) &&& (2147483647 : Int32)) / (256 : Int32)) - ((((((y5 * (1664525 : Int32)) + (1013904223 : Int32)) * (1664525 : Int32)) + (1013904223 : Int32)) &&& (2147483647 : Int32)) / (256 : Int32)) / r_10 * r_10))) (fun r_13 => if r_13 ≤ 0 then ((f_X10_lots_163 K_65 v10_firstOf v10_sizeOf v10_longOf v10_row v10_character) v10_refusals y1 y2 y4 ((((y5 * (1664525 : Int32)) + (1013904223 : Int32)) * (1664525 : Int32)) + (1013904223 : Int32)) y7 y8 r_13 (0 : Int32) y6) else ((f_X10_lots_163 K_65 v10_firstOf v10_sizeOf v10_longOf v10_row v10_character) v10_refusals y1 y2 y4 ((((y5 * (1664525 : Int32)) + (1013904223 : Int32)) * (1664525 : Int32)) + (1013904223 : Int32)) y7 y8 r_13 (1 : Int32) y6)))))))))))
def f_X10_lots_65 (v10_firstOf : Nat → Int32) (v10_sizeOf : Nat → Int32) (v10_longOf : Nat → Int32) (v10_row : Nat → Int32) (v10_character : Nat → Int32) : Nat → (Nat → Int32) → Int32 → Int32 → Int32 → Int32 → Int32 → Int32 → Int32 → Option (Int32 × (Nat → Int32))
  | 0 => fun _ _ _ _ _ _ _ _ => none
  | n + 1 => gf_X10_lots_65 (f_X10_lots_65 v10_firstOf v10_sizeOf v10_longOf v10_row v10_character n) v10_firstOf v10_sizeOf v10_longOf v10_row v10_character
def f_X10_lots_29 (v10_firstOf : Nat → Int32) (v10_sizeOf : Nat → Int32) (v10_longOf : Nat → Int32) (v10_row : Nat → Int32) (v10_character : Nat → Int32) (v10_refusals : Nat → Int32) : Option (Int32 × (Nat → Int32)) := p_b2 (f_X10_refused v10_refusals (-6 : Int32)) (fun r_16 v10_refusals_17 => some (r_16, v10_refusals_17))
def f_X10_lots_10 (v10_firstOf : Nat → Int32) (v10_sizeOf : Nat → Int32) (v10_longOf : Nat → Int32) (v10_row : Nat → Int32) (v10_character : Nat → Int32) (v10_refusals : Nat → Int32) : Option (Int32 × (Nat → Int32)) := p_b2 (f_X10_refused v10_refusals (-4 : Int32)) (fun r_19 v10_refusals_20 => some (r_19, v10_refusals_20))
def f_X10_lots (v10_firstOf : Nat → Int32) (v10_sizeOf : Nat → Int32) (v10_longOf : Nat → Int32) (v10_row : Nat → Int32) (v10_character : Nat → Int32) (v10_refusals : Nat → Int32) (x1 : Int32) (x2 : Int32) (x3 : Int32) (x4 : Int32) : Option (Int32 × (Nat → Int32)) := if x1 < (1 : Int32) then ((f_X10_lots_10 v10_firstOf v10_sizeOf v10_longOf v10_row v10_character) v10_refusals) else (if (1 : Int32) ≤ x2 then (if (8 : Int32) < x1 then ((f_X10_lots_29 v10_firstOf v10_sizeOf v10_longOf v10_row v10_character) v10_refusals) else (if x2 ≤ (50 : Int32) then (p_b1 (f_X10_in x4 (0 : Int32) (1 : Int32)) (fun r_26 => if r_26 = 0 then (p_b2 (f_X10_refused v10_refusals (-2 : Int32)) (fun r_30 v10_refusals_31 => some (r_30, v10_refusals_31))) else ((f_X10_lots_65 v10_firstOf v10_sizeOf v10_longOf v10_row v10_character 1000) v10_refusals x1 x2 x4 x3 (0 : Int32) (0 : Int32) (0 : Int32)))) else ((f_X10_lots_29 v10_firstOf v10_sizeOf v10_longOf v10_row v10_character) v10_refusals))) else ((f_X10_lots_10 v10_firstOf v10_sizeOf v10_longOf v10_row v10_character) v10_refusals))
set_option maxHeartbeats 4000000 in
set_option maxRecDepth 20000 in
theorem c_X10_lots (l : Launch) (D : va_G) (cyI cyJ : ClassId) (G a : Nat → Nat) (sz : Nat) (v10_firstOf : Nat → Int32) (v10_sizeOf : Nat → Int32) (v10_longOf : Nat → Int32) (v10_row : Nat → Int32) (v10_character : Nat → Int32) (v10_sum : Nat → Int32) (v10_coefficient : Nat → Int32) (v10_undone : Int32) (v10_wasSum : Nat → Int32) (v10_wasCoefficient : Nat → Int32) (v10_hasImage : Int32) (v10_letter : Nat → Int32) (v10_letters : Int32) (v10_list : Nat → Int32) (v10_cell : Nat → Int32) (v10_refusals : Nat → Int32) (v10_tried : Nat → Int32) (v10_left : Int32) (v10_high : Int32) (v10_then : Nat → Int64) (v10_at : Int32) (v10_readSize : Int32) (x1 : Int32) (x2 : Int32) (x3 : Int32) (x4 : Int32) (ro : Int32) (ov10_refusals : Nat → Int32) (hf : f_X10_lots v10_firstOf v10_sizeOf v10_longOf v10_row v10_character v10_refusals x1 x2 x3 x4 = some (ro, ov10_refusals)) : xm_i l yX10_lots (Cond.code yX10_lots cX10_lots 12 (some .int) :: xg_tbl) { frames := 3, cells := 0, slots := 0, locals := 73 } D xcl [(cyI, .int), (cyJ, .long)] G sz [.ref (a 28), .int x1, .int x2, .int x3, .int x4] (wd_X10 a cyI cyJ v10_firstOf v10_sizeOf v10_longOf v10_row v10_character v10_sum v10_coefficient v10_undone v10_wasSum v10_wasCoefficient v10_hasImage v10_letter v10_letters v10_list v10_cell v10_refusals v10_tried v10_left v10_high v10_then v10_at v10_readSize) (wd_X10 a cyI cyJ v10_firstOf v10_sizeOf v10_longOf v10_row v10_character v10_sum v10_coefficient v10_undone v10_wasSum v10_wasCoefficient v10_hasImage v10_letter v10_letters v10_list v10_cell ov10_refusals v10_tried v10_left v10_high v10_then v10_at v10_readSize) ro := by
  refine xm_of_i (own := RX10) (by decide) rfl rfl (Nat.le_of_ble_eq_true rfl) ?_
  intro p e s m args below meth c ls Q A hQ hAe hin Cx hsz hP hD hS hl
  have Cx1 := Cx
  obtain ⟨⟨hx, hb, hml, hown, hts⟩, hr, hlocks, hK, hA, hT⟩ := Cx1
  have hl : lv_has ls 12 [(0, .ref (a 28)), (1, .int x1), (2, .int x2), (3, .int x3), (4, .int x4)] := hl
  obtain ⟨H, eH⟩ : ∃ H, H = s.heap := ⟨_, rfl⟩
  obtain ⟨locs, eL⟩ : ∃ L : List Loc, L = [] := ⟨_, rfl⟩
  rw [← eH] at hP
  have hS : va_S A s.heap H locs := by rw [eH, eL]; exact hS
  suffices hgo : W p l e { frames := 3, cells := 0, slots := 0, locals := 73 } s m args below meth c H locs 0 0 Q (F0 m 0 ls []) by rw [eH, eL] at hgo; exact hgo
  clear eH eL
  unfold f_X10_lots at hf
  have w_65 : ∀ (n_65 : Nat) (v10_refusals : Nat → Int32) (y1 : Int32) (y2 : Int32) (y4 : Int32) (y5 : Int32) (y6 : Int32) (y7 : Int32) (y8 : Int32) (H : Heap) (locs : List Loc) (ls : Array Slot), (f_X10_lots_65 v10_firstOf v10_sizeOf v10_longOf v10_row v10_character) n_65 v10_refusals y1 y2 y4 y5 y6 y7 y8 = some (ro, ov10_refusals) → va_P D xcl (wd_X10 a cyI cyJ v10_firstOf v10_sizeOf v10_longOf v10_row v10_character v10_sum v10_coefficient v10_undone v10_wasSum v10_wasCoefficient v10_hasImage v10_letter v10_letters v10_list v10_cell v10_refusals v10_tried v10_left v10_high v10_then v10_at v10_readSize) H → va_D A (wd_X10 a cyI cyJ v10_firstOf v10_sizeOf v10_longOf v10_row v10_character v10_sum v10_coefficient v10_undone v10_wasSum v10_wasCoefficient v10_hasImage v10_letter v10_letters v10_list v10_cell v10_refusals v10_tried v10_left v10_high v10_then v10_at v10_readSize) → va_S A s.heap H locs → lv_has ls 12 [(0, .ref (a 28)), (1, .int y1), (2, .int y2), (4, .int y4), (5, .int y5), (6, .int y6), (7, .int y7), (8, .int y8)] → W p l e { frames := 3, cells := 0, slots := 0, locals := 73 } s m args below meth c H locs 0 0 Q (F0 m 65 ls []) := by
    intro n_65
    induction n_65 with
    | zero => intro v10_refusals y1 y2 y4 y5 y6 y7 y8 H locs ls hf; exact absurd hf (by intro h9; cases h9)
    | succ n_65 w_65 =>
      intro v10_refusals y1 y2 y4 y5 y6 y7 y8 H locs ls hf hP hD hS hl
      have hf : gf_X10_lots_65 ((f_X10_lots_65 v10_firstOf v10_sizeOf v10_longOf v10_row v10_character) n_65) v10_firstOf v10_sizeOf v10_longOf v10_row v10_character v10_refusals y1 y2 y4 y5 y6 y7 y8 = some (ro, ov10_refusals) := hf
      unfold gf_X10_lots_65 at hf
      have w_163 : ∀ (v10_refusals : Nat → Int32) (y1 : Int32) (y2 : Int32) (y4 : Int32) (y5 : Int32) (y7 : Int32) (y8 : Int32) (y11 : Int32) (z0 : Int32) (z1 : Int32) (H : Heap) (locs : List Loc) (ls : Array Slot), (f_X10_lots_163 ((f_X10_lots_65 v10_firstOf v10_sizeOf v10_longOf v10_row v10_character) n_65) v10_firstOf v10_sizeOf v10_longOf v10_row v10_character) v10_refusals y1 y2 y4 y5 y7 y8 y11 z0 z1 = some (ro, ov10_refusals) → va_P D xcl (wd_X10 a cyI cyJ v10_firstOf v10_sizeOf v10_longOf v10_row v10_character v10_sum v10_coefficient v10_undone v10_wasSum v10_wasCoefficient v10_hasImage v10_letter v10_letters v10_list v10_cell v10_refusals v10_tried v10_left v10_high v10_then v10_at v10_readSize) H → va_D A (wd_X10 a cyI cyJ v10_firstOf v10_sizeOf v10_longOf v10_row v10_character v10_sum v10_coefficient v10_undone v10_wasSum v10_wasCoefficient v10_hasImage v10_letter v10_letters v10_list v10_cell v10_refusals v10_tried v10_left v10_high v10_then v10_at v10_readSize) → va_S A s.heap H locs → lv_has ls 12 [(0, .ref (a 28)), (1, .int y1), (2, .int y2), (4, .int y4), (5, .int y5), (7, .int y7), (8, .int y8), (11, .int y11)] → W p l e { frames := 3, cells := 0, slots := 0, locals := 73 } s m args below meth c H locs 0 0 Q (F0 m 163 ls [.int z0, .int z1]) := by
        intro v10_refusals y1 y2 y4 y5 y7 y8 y11 z0 z1 H locs ls hf hP hD hS hl
        unfold f_X10_lots_163 at hf
        refine lv_iadd hx hb dX10_lots_163 ?_
        refine lv_istore (lv' := [(6, .int (z1 + z0)), (0, .ref (a 28)), (1, .int y1), (2, .int y2), (4, .int y4), (5, .int y5), (7, .int y7), (8, .int y8), (11, .int y11)]) hx hb dX10_lots_164 hl (by decide) rfl (fun ls hl => ?_)
        refine lv_iload hx hb dX10_lots_166 (lv_at hl 6 rfl) ?_
        refine lv_iload hx hb dX10_lots_168 (lv_at hl 8 rfl) ?_
        refine lv_iadd hx hb dX10_lots_170 ?_
        refine lv_istore (lv' := [(7, .int (y7 + y11)), (6, .int (z1 + z0)), (0, .ref (a 28)), (1, .int y1), (2, .int y2), (4, .int y4), (5, .int y5), (8, .int y8), (11, .int y11)]) hx hb dX10_lots_171 hl (by decide) rfl (fun ls hl => ?_)
        refine lv_iinc (v := (y8 + (1 : Int32))) (lv' := [(8, .int (y8 + (1 : Int32))), (7, .int (y7 + y11)), (6, .int (z1 + z0)), (0, .ref (a 28)), (1, .int y1), (2, .int y2), (4, .int y4), (5, .int y5), (11, .int y11)]) hx hb dX10_lots_173 hl (k := 7) rfl rfl (by decide) rfl (fun ls hl => ?_)
        refine lv_goto (tgt := 65) hx hb dX10_lots_176 (by decide) ?_
        exact w_65 v10_refusals y1 y2 y4 y5 (z1 + z0) (y7 + y11) (y8 + (1 : Int32)) H locs ls hf hP hD hS (lv_sub hl [3, 4, 5, 6, 7, 2, 1, 0] rfl)
      refine lv_iload hx hb dX10_lots_65 (lv_at hl 7 rfl) ?_
      refine lv_iload_n hx hb dX10_lots_67 rfl (lv_at hl 2 rfl) ?_
      refine lv_icmp_ge (tgt := 179) hx hb dX10_lots_68 (by decide) (fun hc_33 => ?_) (fun hc_33 => ?_)
      · have hf := pe_t hf hc_33
        refine lv_iload hx hb dX10_lots_179 (lv_at hl 3 rfl) ?_
        refine lv_if_ne (tgt := 189) hx hb dX10_lots_181 (by decide) (fun hc_34 => ?_) (fun hc_34 => ?_)
        · have hf := pe_f hf hc_34
          refine lv_iload hx hb dX10_lots_189 (lv_at hl 6 rfl) ?_
          obtain ⟨rfl, rfl⟩ := po_2 hf
          rw [← hQ]; exact xe_iret Cx rfl hP hD hS dX10_lots_191
        · have hf := pe_t hf hc_34
          refine lv_iload hx hb dX10_lots_184 (lv_at hl 5 rfl) ?_
          refine lv_goto (tgt := 191) hx hb dX10_lots_186 (by decide) ?_
          obtain ⟨rfl, rfl⟩ := po_2 hf
          rw [← hQ]; exact xe_iret Cx rfl hP hD hS dX10_lots_191
      · have hf := pe_f hf hc_33
        refine lv_iload hx hb dX10_lots_71 (lv_at hl 4 rfl) ?_
        refine lv_ldc (v := (1664525 : Int32)) hx hb hown (hts _ mw_5_141) dX10_lots_73 ?_
        refine lv_imul hx hb dX10_lots_75 ?_
        refine lv_ldc (v := (1013904223 : Int32)) hx hb hown (hts _ mw_5_142) dX10_lots_76 ?_
        refine lv_iadd hx hb dX10_lots_78 ?_
        refine lv_istore (lv' := [(5, .int ((y5 * (1664525 : Int32)) + (1013904223 : Int32))), (0, .ref (a 28)), (1, .int y1), (2, .int y2), (4, .int y4), (6, .int y6), (7, .int y7), (8, .int y8)]) hx hb dX10_lots_79 hl (by decide) rfl (fun ls hl => ?_)
        refine lv_aload_n hx hb dX10_lots_81 rfl (lv_at hl 1 rfl) ?_
        refine va_get (ci := 10) (v := .ref (a 29)) hx hb hts wX10_in hown hK hP 0 rfl rfl 0 (by decide) (hts _ mw_4_192) (fun _ h9 => h9) rfl dX10_lots_82 ?_
        refine lv_iload_n hx hb dX10_lots_85 rfl (lv_at hl 2 rfl) ?_
        obtain ⟨hi_35, hf⟩ := pe_in hf
        refine va_iald hx hb hK hP 1 0 rfl rfl hi_35 dX10_lots_86 ?_
        refine lv_iload hx hb dX10_lots_87 (lv_at hl 0 rfl) ?_
        refine lv_ldc (v := (2147483647 : Int32)) hx hb hown (hts _ mw_5_143) dX10_lots_89 ?_
        refine lv_iand hx hb dX10_lots_91 ?_
        refine lv_sipush (v := (256 : Int32)) hx hb dX10_lots_92 (by decide) ?_
        obtain ⟨hz_36, hf⟩ := pe_nz hf
        refine lv_idiv hx hb dX10_lots_95 hz_36 ?_
        refine lv_aload_n hx hb dX10_lots_96 rfl (lv_at hl 1 rfl) ?_
        refine lv_iload_n hx hb dX10_lots_97 rfl (lv_at hl 2 rfl) ?_
        obtain ⟨r_37, hk_38, hf⟩ := pe_1 hf
        refine xv_i (As := [.int y1]) (rest := [.int ((((y5 * (1664525 : Int32)) + (1013904223 : Int32)) &&& (2147483647 : Int32)) / (256 : Int32)), .int (v10_firstOf (Int32.toNatClampNeg y1))]) (q0 := 0) (ci := 10) Cx hP hD hS hl (pl_X10_X10 a cyI cyJ v10_firstOf v10_sizeOf v10_longOf v10_row v10_character v10_sum v10_coefficient v10_undone v10_wasSum v10_wasCoefficient v10_hasImage v10_letter v10_letters v10_list v10_cell v10_refusals v10_tried v10_left v10_high v10_then v10_at v10_readSize v10_firstOf v10_sizeOf v10_longOf v10_row v10_character v10_sum v10_coefficient v10_undone v10_wasSum v10_wasCoefficient v10_hasImage v10_letter v10_letters v10_list v10_cell v10_refusals v10_tried v10_left v10_high v10_then v10_at v10_readSize) (c_X10_manyOf l D cyI cyJ G a H.size v10_firstOf v10_sizeOf v10_longOf v10_row v10_character v10_sum v10_coefficient v10_undone v10_wasSum v10_wasCoefficient v10_hasImage v10_letter v10_letters v10_list v10_cell v10_refusals v10_tried v10_left v10_high v10_then v10_at v10_readSize y1 r_37 hk_38) pk_X10_manyOf mw_5_63 ⟨rfl, rfl, Nat.le_of_ble_eq_true rfl, Nat.le_of_ble_eq_true rfl⟩ rfl rfl rfl rfl rfl (Nat.le_of_ble_eq_true rfl) ⟨Nat.le_of_ble_eq_true rfl, Nat.le_of_ble_eq_true rfl⟩ dX10_lots_98 (fun H locs hP hD hS => ?_)
        obtain ⟨hz_39, hf⟩ := pe_nz hf
        refine lv_irem hx hb dX10_lots_101 hz_39 ?_
        refine lv_iadd hx hb dX10_lots_102 ?_
        refine lv_istore (lv' := [(9, .int ((v10_firstOf (Int32.toNatClampNeg y1)) + (((((y5 * (1664525 : Int32)) + (1013904223 : Int32)) &&& (2147483647 : Int32)) / (256 : Int32)) - ((((y5 * (1664525 : Int32)) + (1013904223 : Int32)) &&& (2147483647 : Int32)) / (256 : Int32)) / r_37 * r_37))), (5, .int ((y5 * (1664525 : Int32)) + (1013904223 : Int32))), (0, .ref (a 28)), (1, .int y1), (2, .int y2), (4, .int y4), (6, .int y6), (7, .int y7), (8, .int y8)]) hx hb dX10_lots_103 hl (by decide) rfl (fun ls hl => ?_)
        refine lv_iload hx hb dX10_lots_105 (lv_at hl 1 rfl) ?_
        refine lv_ldc (v := (1664525 : Int32)) hx hb hown (hts _ mw_5_141) dX10_lots_107 ?_
        refine lv_imul hx hb dX10_lots_109 ?_
        refine lv_ldc (v := (1013904223 : Int32)) hx hb hown (hts _ mw_5_142) dX10_lots_110 ?_
        refine lv_iadd hx hb dX10_lots_112 ?_
        refine lv_istore (lv' := [(5, .int ((((y5 * (1664525 : Int32)) + (1013904223 : Int32)) * (1664525 : Int32)) + (1013904223 : Int32))), (9, .int ((v10_firstOf (Int32.toNatClampNeg y1)) + (((((y5 * (1664525 : Int32)) + (1013904223 : Int32)) &&& (2147483647 : Int32)) / (256 : Int32)) - ((((y5 * (1664525 : Int32)) + (1013904223 : Int32)) &&& (2147483647 : Int32)) / (256 : Int32)) / r_37 * r_37))), (0, .ref (a 28)), (1, .int y1), (2, .int y2), (4, .int y4), (6, .int y6), (7, .int y7), (8, .int y8)]) hx hb dX10_lots_113 hl (by decide) rfl (fun ls hl => ?_)
        refine lv_aload_n hx hb dX10_lots_115 rfl (lv_at hl 2 rfl) ?_
        refine va_get (ci := 10) (v := .ref (a 29)) hx hb hts wX10_in hown hK hP 0 rfl rfl 0 (by decide) (hts _ mw_4_192) (fun _ h9 => h9) rfl dX10_lots_116 ?_
        refine lv_iload_n hx hb dX10_lots_119 rfl (lv_at hl 3 rfl) ?_
        obtain ⟨hi_40, hf⟩ := pe_in hf
        refine va_iald hx hb hK hP 1 0 rfl rfl hi_40 dX10_lots_120 ?_
        refine lv_iload hx hb dX10_lots_121 (lv_at hl 0 rfl) ?_
        refine lv_ldc (v := (2147483647 : Int32)) hx hb hown (hts _ mw_5_143) dX10_lots_123 ?_
        refine lv_iand hx hb dX10_lots_125 ?_
        refine lv_sipush (v := (256 : Int32)) hx hb dX10_lots_126 (by decide) ?_
        obtain ⟨hz_41, hf⟩ := pe_nz hf
        refine lv_idiv hx hb dX10_lots_129 hz_41 ?_
        refine lv_aload_n hx hb dX10_lots_130 rfl (lv_at hl 2 rfl) ?_
        refine lv_iload_n hx hb dX10_lots_131 rfl (lv_at hl 3 rfl) ?_
        obtain ⟨r_42, hk_43, hf⟩ := pe_1 hf
        refine xv_i (As := [.int y1]) (rest := [.int ((((((y5 * (1664525 : Int32)) + (1013904223 : Int32)) * (1664525 : Int32)) + (1013904223 : Int32)) &&& (2147483647 : Int32)) / (256 : Int32)), .int (v10_firstOf (Int32.toNatClampNeg y1))]) (q0 := 0) (ci := 10) Cx hP hD hS hl (pl_X10_X10 a cyI cyJ v10_firstOf v10_sizeOf v10_longOf v10_row v10_character v10_sum v10_coefficient v10_undone v10_wasSum v10_wasCoefficient v10_hasImage v10_letter v10_letters v10_list v10_cell v10_refusals v10_tried v10_left v10_high v10_then v10_at v10_readSize v10_firstOf v10_sizeOf v10_longOf v10_row v10_character v10_sum v10_coefficient v10_undone v10_wasSum v10_wasCoefficient v10_hasImage v10_letter v10_letters v10_list v10_cell v10_refusals v10_tried v10_left v10_high v10_then v10_at v10_readSize) (c_X10_manyOf l D cyI cyJ G a H.size v10_firstOf v10_sizeOf v10_longOf v10_row v10_character v10_sum v10_coefficient v10_undone v10_wasSum v10_wasCoefficient v10_hasImage v10_letter v10_letters v10_list v10_cell v10_refusals v10_tried v10_left v10_high v10_then v10_at v10_readSize y1 r_42 hk_43) pk_X10_manyOf mw_5_63 ⟨rfl, rfl, Nat.le_of_ble_eq_true rfl, Nat.le_of_ble_eq_true rfl⟩ rfl rfl rfl rfl rfl (Nat.le_of_ble_eq_true rfl) ⟨Nat.le_of_ble_eq_true rfl, Nat.le_of_ble_eq_true rfl⟩ dX10_lots_132 (fun H locs hP hD hS => ?_)
        obtain ⟨hz_44, hf⟩ := pe_nz hf
        refine lv_irem hx hb dX10_lots_135 hz_44 ?_
        refine lv_iadd hx hb dX10_lots_136 ?_
        refine lv_istore (lv' := [(10, .int ((v10_firstOf (Int32.toNatClampNeg y1)) + (((((((y5 * (1664525 : Int32)) + (1013904223 : Int32)) * (1664525 : Int32)) + (1013904223 : Int32)) &&& (2147483647 : Int32)) / (256 : Int32)) - ((((((y5 * (1664525 : Int32)) + (1013904223 : Int32)) * (1664525 : Int32)) + (1013904223 : Int32)) &&& (2147483647 : Int32)) / (256 : Int32)) / r_42 * r_42))), (5, .int ((((y5 * (1664525 : Int32)) + (1013904223 : Int32)) * (1664525 : Int32)) + (1013904223 : Int32))), (9, .int ((v10_firstOf (Int32.toNatClampNeg y1)) + (((((y5 * (1664525 : Int32)) + (1013904223 : Int32)) &&& (2147483647 : Int32)) / (256 : Int32)) - ((((y5 * (1664525 : Int32)) + (1013904223 : Int32)) &&& (2147483647 : Int32)) / (256 : Int32)) / r_37 * r_37))), (0, .ref (a 28)), (1, .int y1), (2, .int y2), (4, .int y4), (6, .int y6), (7, .int y7), (8, .int y8)]) hx hb dX10_lots_137 hl (by decide) rfl (fun ls hl => ?_)
        refine lv_aload_n hx hb dX10_lots_139 rfl (lv_at hl 3 rfl) ?_
        refine lv_iload hx hb dX10_lots_140 (lv_at hl 2 rfl) ?_
        refine lv_iload hx hb dX10_lots_142 (lv_at hl 2 rfl) ?_
        refine lv_iload hx hb dX10_lots_144 (lv_at hl 0 rfl) ?_
        obtain ⟨r_45, hk_46, hf⟩ := pe_1 hf
        refine xv_i (As := [.int ((v10_firstOf (Int32.toNatClampNeg y1)) + (((((y5 * (1664525 : Int32)) + (1013904223 : Int32)) &&& (2147483647 : Int32)) / (256 : Int32)) - ((((y5 * (1664525 : Int32)) + (1013904223 : Int32)) &&& (2147483647 : Int32)) / (256 : Int32)) / r_37 * r_37)), .int ((v10_firstOf (Int32.toNatClampNeg y1)) + (((((y5 * (1664525 : Int32)) + (1013904223 : Int32)) &&& (2147483647 : Int32)) / (256 : Int32)) - ((((y5 * (1664525 : Int32)) + (1013904223 : Int32)) &&& (2147483647 : Int32)) / (256 : Int32)) / r_37 * r_37)), .int ((v10_firstOf (Int32.toNatClampNeg y1)) + (((((((y5 * (1664525 : Int32)) + (1013904223 : Int32)) * (1664525 : Int32)) + (1013904223 : Int32)) &&& (2147483647 : Int32)) / (256 : Int32)) - ((((((y5 * (1664525 : Int32)) + (1013904223 : Int32)) * (1664525 : Int32)) + (1013904223 : Int32)) &&& (2147483647 : Int32)) / (256 : Int32)) / r_42 * r_42))]) (rest := []) (q0 := 0) (ci := 10) Cx hP hD hS hl (pl_X10_X10 a cyI cyJ v10_firstOf v10_sizeOf v10_longOf v10_row v10_character v10_sum v10_coefficient v10_undone v10_wasSum v10_wasCoefficient v10_hasImage v10_letter v10_letters v10_list v10_cell v10_refusals v10_tried v10_left v10_high v10_then v10_at v10_readSize v10_firstOf v10_sizeOf v10_longOf v10_row v10_character v10_sum v10_coefficient v10_undone v10_wasSum v10_wasCoefficient v10_hasImage v10_letter v10_letters v10_list v10_cell v10_refusals v10_tried v10_left v10_high v10_then v10_at v10_readSize) (c_X10_numberOf l D cyI cyJ G a H.size v10_firstOf v10_sizeOf v10_longOf v10_row v10_character v10_sum v10_coefficient v10_undone v10_wasSum v10_wasCoefficient v10_hasImage v10_letter v10_letters v10_list v10_cell v10_refusals v10_tried v10_left v10_high v10_then v10_at v10_readSize ((v10_firstOf (Int32.toNatClampNeg y1)) + (((((y5 * (1664525 : Int32)) + (1013904223 : Int32)) &&& (2147483647 : Int32)) / (256 : Int32)) - ((((y5 * (1664525 : Int32)) + (1013904223 : Int32)) &&& (2147483647 : Int32)) / (256 : Int32)) / r_37 * r_37)) ((v10_firstOf (Int32.toNatClampNeg y1)) + (((((y5 * (1664525 : Int32)) + (1013904223 : Int32)) &&& (2147483647 : Int32)) / (256 : Int32)) - ((((y5 * (1664525 : Int32)) + (1013904223 : Int32)) &&& (2147483647 : Int32)) / (256 : Int32)) / r_37 * r_37)) ((v10_firstOf (Int32.toNatClampNeg y1)) + (((((((y5 * (1664525 : Int32)) + (1013904223 : Int32)) * (1664525 : Int32)) + (1013904223 : Int32)) &&& (2147483647 : Int32)) / (256 : Int32)) - ((((((y5 * (1664525 : Int32)) + (1013904223 : Int32)) * (1664525 : Int32)) + (1013904223 : Int32)) &&& (2147483647 : Int32)) / (256 : Int32)) / r_42 * r_42)) r_45 hk_46) pk_X10_numberOf mw_5_112 ⟨rfl, rfl, Nat.le_of_ble_eq_true rfl, Nat.le_of_ble_eq_true rfl⟩ rfl rfl rfl rfl rfl (Nat.le_of_ble_eq_true rfl) ⟨Nat.le_of_ble_eq_true rfl, Nat.le_of_ble_eq_true rfl⟩ dX10_lots_146 (fun H locs hP hD hS => ?_)
        refine lv_istore (lv' := [(11, .int r_45), (10, .int ((v10_firstOf (Int32.toNatClampNeg y1)) + (((((((y5 * (1664525 : Int32)) + (1013904223 : Int32)) * (1664525 : Int32)) + (1013904223 : Int32)) &&& (2147483647 : Int32)) / (256 : Int32)) - ((((((y5 * (1664525 : Int32)) + (1013904223 : Int32)) * (1664525 : Int32)) + (1013904223 : Int32)) &&& (2147483647 : Int32)) / (256 : Int32)) / r_42 * r_42))), (5, .int ((((y5 * (1664525 : Int32)) + (1013904223 : Int32)) * (1664525 : Int32)) + (1013904223 : Int32))), (9, .int ((v10_firstOf (Int32.toNatClampNeg y1)) + (((((y5 * (1664525 : Int32)) + (1013904223 : Int32)) &&& (2147483647 : Int32)) / (256 : Int32)) - ((((y5 * (1664525 : Int32)) + (1013904223 : Int32)) &&& (2147483647 : Int32)) / (256 : Int32)) / r_37 * r_37))), (0, .ref (a 28)), (1, .int y1), (2, .int y2), (4, .int y4), (6, .int y6), (7, .int y7), (8, .int y8)]) hx hb dX10_lots_149 hl (by decide) rfl (fun ls hl => ?_)
        refine lv_iload hx hb dX10_lots_151 (lv_at hl 8 rfl) ?_
        refine lv_iload hx hb dX10_lots_153 (lv_at hl 0 rfl) ?_
        refine lv_if_le (tgt := 162) hx hb dX10_lots_155 (by decide) (fun hc_47 => ?_) (fun hc_47 => ?_)
        · have hf := pe_t hf hc_47
          refine lv_iconst (v := (0 : Int32)) hx hb dX10_lots_162 (by decide) ?_
          exact w_163 v10_refusals y1 y2 y4 ((((y5 * (1664525 : Int32)) + (1013904223 : Int32)) * (1664525 : Int32)) + (1013904223 : Int32)) y7 y8 r_45 (0 : Int32) y6 H locs ls hf hP hD hS (lv_sub hl [4, 5, 6, 7, 2, 9, 10, 0] rfl)
        · have hf := pe_f hf hc_47
          refine lv_iconst (v := (1 : Int32)) hx hb dX10_lots_158 (by decide) ?_
          refine lv_goto (tgt := 163) hx hb dX10_lots_159 (by decide) ?_
          exact w_163 v10_refusals y1 y2 y4 ((((y5 * (1664525 : Int32)) + (1013904223 : Int32)) * (1664525 : Int32)) + (1013904223 : Int32)) y7 y8 r_45 (1 : Int32) y6 H locs ls hf hP hD hS (lv_sub hl [4, 5, 6, 7, 2, 9, 10, 0] rfl)
  have w_29 : ∀ (v10_refusals : Nat → Int32) (H : Heap) (locs : List Loc) (ls : Array Slot), (f_X10_lots_29 v10_firstOf v10_sizeOf v10_longOf v10_row v10_character) v10_refusals = some (ro, ov10_refusals) → va_P D xcl (wd_X10 a cyI cyJ v10_firstOf v10_sizeOf v10_longOf v10_row v10_character v10_sum v10_coefficient v10_undone v10_wasSum v10_wasCoefficient v10_hasImage v10_letter v10_letters v10_list v10_cell v10_refusals v10_tried v10_left v10_high v10_then v10_at v10_readSize) H → va_D A (wd_X10 a cyI cyJ v10_firstOf v10_sizeOf v10_longOf v10_row v10_character v10_sum v10_coefficient v10_undone v10_wasSum v10_wasCoefficient v10_hasImage v10_letter v10_letters v10_list v10_cell v10_refusals v10_tried v10_left v10_high v10_then v10_at v10_readSize) → va_S A s.heap H locs → lv_has ls 12 [(0, .ref (a 28))] → W p l e { frames := 3, cells := 0, slots := 0, locals := 73 } s m args below meth c H locs 0 0 Q (F0 m 29 ls []) := by
    intro v10_refusals H locs ls hf hP hD hS hl
    unfold f_X10_lots_29 at hf
    refine lv_aload_n hx hb dX10_lots_29 rfl (lv_at hl 0 rfl) ?_
    refine lv_bipush (v := (-6 : Int32)) hx hb dX10_lots_30 (by decide) ?_
    obtain ⟨r_48, v10_refusals_49, hk_50, hf⟩ := pe_2 hf
    refine xv_i (As := [.int (-6 : Int32)]) (rest := []) (q0 := 0) (ci := 10) Cx hP hD hS hl (pl_X10_X10 a cyI cyJ v10_firstOf v10_sizeOf v10_longOf v10_row v10_character v10_sum v10_coefficient v10_undone v10_wasSum v10_wasCoefficient v10_hasImage v10_letter v10_letters v10_list v10_cell v10_refusals v10_tried v10_left v10_high v10_then v10_at v10_readSize v10_firstOf v10_sizeOf v10_longOf v10_row v10_character v10_sum v10_coefficient v10_undone v10_wasSum v10_wasCoefficient v10_hasImage v10_letter v10_letters v10_list v10_cell v10_refusals_49 v10_tried v10_left v10_high v10_then v10_at v10_readSize) (c_X10_refused l D cyI cyJ G a H.size v10_firstOf v10_sizeOf v10_longOf v10_row v10_character v10_sum v10_coefficient v10_undone v10_wasSum v10_wasCoefficient v10_hasImage v10_letter v10_letters v10_list v10_cell v10_refusals v10_tried v10_left v10_high v10_then v10_at v10_readSize (-6 : Int32) r_48 v10_refusals_49 hk_50) pk_X10_refused mw_5_29 ⟨rfl, rfl, Nat.le_of_ble_eq_true rfl, Nat.le_of_ble_eq_true rfl⟩ rfl rfl rfl rfl rfl (Nat.le_of_ble_eq_true rfl) ⟨Nat.le_of_ble_eq_true rfl, Nat.le_of_ble_eq_true rfl⟩ dX10_lots_32 (fun H locs hP hD hS => ?_)
    obtain ⟨rfl, rfl⟩ := po_2 hf
    rw [← hQ]; exact xe_iret Cx rfl hP hD hS dX10_lots_35
  have w_10 : ∀ (v10_refusals : Nat → Int32) (H : Heap) (locs : List Loc) (ls : Array Slot), (f_X10_lots_10 v10_firstOf v10_sizeOf v10_longOf v10_row v10_character) v10_refusals = some (ro, ov10_refusals) → va_P D xcl (wd_X10 a cyI cyJ v10_firstOf v10_sizeOf v10_longOf v10_row v10_character v10_sum v10_coefficient v10_undone v10_wasSum v10_wasCoefficient v10_hasImage v10_letter v10_letters v10_list v10_cell v10_refusals v10_tried v10_left v10_high v10_then v10_at v10_readSize) H → va_D A (wd_X10 a cyI cyJ v10_firstOf v10_sizeOf v10_longOf v10_row v10_character v10_sum v10_coefficient v10_undone v10_wasSum v10_wasCoefficient v10_hasImage v10_letter v10_letters v10_list v10_cell v10_refusals v10_tried v10_left v10_high v10_then v10_at v10_readSize) → va_S A s.heap H locs → lv_has ls 12 [(0, .ref (a 28))] → W p l e { frames := 3, cells := 0, slots := 0, locals := 73 } s m args below meth c H locs 0 0 Q (F0 m 10 ls []) := by
    intro v10_refusals H locs ls hf hP hD hS hl
    unfold f_X10_lots_10 at hf
    refine lv_aload_n hx hb dX10_lots_10 rfl (lv_at hl 0 rfl) ?_
    refine lv_bipush (v := (-4 : Int32)) hx hb dX10_lots_11 (by decide) ?_
    obtain ⟨r_51, v10_refusals_52, hk_53, hf⟩ := pe_2 hf
    refine xv_i (As := [.int (-4 : Int32)]) (rest := []) (q0 := 0) (ci := 10) Cx hP hD hS hl (pl_X10_X10 a cyI cyJ v10_firstOf v10_sizeOf v10_longOf v10_row v10_character v10_sum v10_coefficient v10_undone v10_wasSum v10_wasCoefficient v10_hasImage v10_letter v10_letters v10_list v10_cell v10_refusals v10_tried v10_left v10_high v10_then v10_at v10_readSize v10_firstOf v10_sizeOf v10_longOf v10_row v10_character v10_sum v10_coefficient v10_undone v10_wasSum v10_wasCoefficient v10_hasImage v10_letter v10_letters v10_list v10_cell v10_refusals_52 v10_tried v10_left v10_high v10_then v10_at v10_readSize) (c_X10_refused l D cyI cyJ G a H.size v10_firstOf v10_sizeOf v10_longOf v10_row v10_character v10_sum v10_coefficient v10_undone v10_wasSum v10_wasCoefficient v10_hasImage v10_letter v10_letters v10_list v10_cell v10_refusals v10_tried v10_left v10_high v10_then v10_at v10_readSize (-4 : Int32) r_51 v10_refusals_52 hk_53) pk_X10_refused mw_5_29 ⟨rfl, rfl, Nat.le_of_ble_eq_true rfl, Nat.le_of_ble_eq_true rfl⟩ rfl rfl rfl rfl rfl (Nat.le_of_ble_eq_true rfl) ⟨Nat.le_of_ble_eq_true rfl, Nat.le_of_ble_eq_true rfl⟩ dX10_lots_13 (fun H locs hP hD hS => ?_)
    obtain ⟨rfl, rfl⟩ := po_2 hf
    rw [← hQ]; exact xe_iret Cx rfl hP hD hS dX10_lots_16
  refine lv_iload_n hx hb dX10_lots_0 rfl (lv_at hl 1 rfl) ?_
  refine lv_iconst (v := (1 : Int32)) hx hb dX10_lots_1 (by decide) ?_
  refine lv_icmp_lt (tgt := 10) hx hb dX10_lots_2 (by decide) (fun hc_54 => ?_) (fun hc_54 => ?_)
  · have hf := pe_t hf hc_54
    exact w_10 v10_refusals H locs ls hf hP hD hS (lv_sub hl [0] rfl)
  · have hf := pe_f hf hc_54
    refine lv_iload_n hx hb dX10_lots_5 rfl (lv_at hl 2 rfl) ?_
    refine lv_iconst (v := (1 : Int32)) hx hb dX10_lots_6 (by decide) ?_
    refine lv_icmp_ge (tgt := 17) hx hb dX10_lots_7 (by decide) (fun hc_55 => ?_) (fun hc_55 => ?_)
    · have hf := pe_t hf hc_55
      refine lv_iload_n hx hb dX10_lots_17 rfl (lv_at hl 1 rfl) ?_
      refine lv_bipush (v := (8 : Int32)) hx hb dX10_lots_18 (by decide) ?_
      refine lv_icmp_gt (tgt := 29) hx hb dX10_lots_20 (by decide) (fun hc_56 => ?_) (fun hc_56 => ?_)
      · have hf := pe_t hf hc_56
        exact w_29 v10_refusals H locs ls hf hP hD hS (lv_sub hl [0] rfl)
      · have hf := pe_f hf hc_56
        refine lv_iload_n hx hb dX10_lots_23 rfl (lv_at hl 2 rfl) ?_
        refine lv_bipush (v := (50 : Int32)) hx hb dX10_lots_24 (by decide) ?_
        refine lv_icmp_le (tgt := 36) hx hb dX10_lots_26 (by decide) (fun hc_57 => ?_) (fun hc_57 => ?_)
        · have hf := pe_t hf hc_57
          refine lv_iload hx hb dX10_lots_36 (lv_at hl 4 rfl) ?_
          refine lv_iconst (v := (0 : Int32)) hx hb dX10_lots_38 (by decide) ?_
          refine lv_iconst (v := (1 : Int32)) hx hb dX10_lots_39 (by decide) ?_
          obtain ⟨r_58, hk_59, hf⟩ := pe_1 hf
          refine xw_z (As := [.int x4, .int (0 : Int32), .int (1 : Int32)]) (rest := []) Cx hP hD hS hl (xq_none _) (c_X10_in l D cyI cyJ G H.size x4 (0 : Int32) (1 : Int32) r_58 hk_59) pk_X10_in mw_5_26 ⟨rfl, rfl, Nat.le_of_ble_eq_true rfl, Nat.le_of_ble_eq_true rfl⟩ rfl rfl (Nat.le_of_ble_eq_true rfl) ⟨Nat.le_of_ble_eq_true rfl, Nat.le_of_ble_eq_true rfl⟩ dX10_lots_40 (fun H locs hn_60 hP hD hS => ?_)
          refine lv_if_ne (tgt := 53) hx hb dX10_lots_43 (by decide) (fun hc_61 => ?_) (fun hc_61 => ?_)
          · have hf := pe_f hf hc_61
            refine lv_iload_n hx hb dX10_lots_53 rfl (lv_at hl 3 rfl) ?_
            refine lv_istore (lv' := [(5, .int x3), (0, .ref (a 28)), (1, .int x1), (2, .int x2), (3, .int x3), (4, .int x4)]) hx hb dX10_lots_54 hl (by decide) rfl (fun ls hl => ?_)
            refine lv_iconst (v := (0 : Int32)) hx hb dX10_lots_56 (by decide) ?_
            refine lv_istore (lv' := [(6, .int (0 : Int32)), (5, .int x3), (0, .ref (a 28)), (1, .int x1), (2, .int x2), (3, .int x3), (4, .int x4)]) hx hb dX10_lots_57 hl (by decide) rfl (fun ls hl => ?_)
            refine lv_iconst (v := (0 : Int32)) hx hb dX10_lots_59 (by decide) ?_
            refine lv_istore (lv' := [(7, .int (0 : Int32)), (6, .int (0 : Int32)), (5, .int x3), (0, .ref (a 28)), (1, .int x1), (2, .int x2), (3, .int x3), (4, .int x4)]) hx hb dX10_lots_60 hl (by decide) rfl (fun ls hl => ?_)
            refine lv_iconst (v := (0 : Int32)) hx hb dX10_lots_62 (by decide) ?_
            refine lv_istore (lv' := [(8, .int (0 : Int32)), (7, .int (0 : Int32)), (6, .int (0 : Int32)), (5, .int x3), (0, .ref (a 28)), (1, .int x1), (2, .int x2), (3, .int x3), (4, .int x4)]) hx hb dX10_lots_63 hl (by decide) rfl (fun ls hl => ?_)
            exact w_65 1000 v10_refusals x1 x2 x4 x3 (0 : Int32) (0 : Int32) (0 : Int32) H locs ls hf hP hD hS (lv_sub hl [4, 5, 6, 8, 3, 2, 1, 0] rfl)
          · have hf := pe_t hf hc_61
            refine lv_aload_n hx hb dX10_lots_46 rfl (lv_at hl 0 rfl) ?_
            refine lv_bipush (v := (-2 : Int32)) hx hb dX10_lots_47 (by decide) ?_
            obtain ⟨r_62, v10_refusals_63, hk_64, hf⟩ := pe_2 hf
            refine xv_i (As := [.int (-2 : Int32)]) (rest := []) (q0 := 0) (ci := 10) Cx hP hD hS hl (pl_X10_X10 a cyI cyJ v10_firstOf v10_sizeOf v10_longOf v10_row v10_character v10_sum v10_coefficient v10_undone v10_wasSum v10_wasCoefficient v10_hasImage v10_letter v10_letters v10_list v10_cell v10_refusals v10_tried v10_left v10_high v10_then v10_at v10_readSize v10_firstOf v10_sizeOf v10_longOf v10_row v10_character v10_sum v10_coefficient v10_undone v10_wasSum v10_wasCoefficient v10_hasImage v10_letter v10_letters v10_list v10_cell v10_refusals_63 v10_tried v10_left v10_high v10_then v10_at v10_readSize) (c_X10_refused l D cyI cyJ G a H.size v10_firstOf v10_sizeOf v10_longOf v10_row v10_character v10_sum v10_coefficient v10_undone v10_wasSum v10_wasCoefficient v10_hasImage v10_letter v10_letters v10_list v10_cell v10_refusals v10_tried v10_left v10_high v10_then v10_at v10_readSize (-2 : Int32) r_62 v10_refusals_63 hk_64) pk_X10_refused mw_5_29 ⟨rfl, rfl, Nat.le_of_ble_eq_true rfl, Nat.le_of_ble_eq_true rfl⟩ rfl rfl rfl rfl rfl (Nat.le_of_ble_eq_true rfl) ⟨Nat.le_of_ble_eq_true rfl, Nat.le_of_ble_eq_true rfl⟩ dX10_lots_49 (fun H locs hP hD hS => ?_)
            obtain ⟨rfl, rfl⟩ := po_2 hf
            rw [← hQ]; exact xe_iret Cx rfl hP hD hS dX10_lots_52
        · have hf := pe_f hf hc_57
          exact w_29 v10_refusals H locs ls hf hP hD hS (lv_sub hl [0] rfl)
    · have hf := pe_f hf hc_55
      exact w_10 v10_refusals H locs ls hf hP hD hS (lv_sub hl [0] rfl)
def f_X10_isSum (x0 : Int32) : Option (Int32) := p_b1 (f_X10_in x0 (0 : Int32) (3 : Int32)) (fun r_1 => some (r_1))
set_option maxHeartbeats 4000000 in
set_option maxRecDepth 20000 in
theorem c_X10_isSum (l : Launch) (D : va_G) (cyI cyJ : ClassId) (G : Nat → Nat) (sz : Nat) (x0 : Int32) (ro : Int32) (hf : f_X10_isSum x0 = some ro) : xm_z l yX10_isSum (Cond.code yX10_isSum cX10_isSum 1 (some .boolean) :: xg_tbl) { frames := 1, cells := 0, slots := 0, locals := 22 } D xcl [(cyI, .int), (cyJ, .long)] G sz [.int x0] [] [] ro := by
  refine xm_of_z (own := RX10) (by decide) rfl rfl (Nat.le_of_ble_eq_true rfl) ?_
  intro p e s m args below meth c ls Q A hQ hAe hin Cx hsz hP hD hS hl
  have Cx1 := Cx
  obtain ⟨⟨hx, hb, hml, hown, hts⟩, hr, hlocks, hK, hA, hT⟩ := Cx1
  have hl : lv_has ls 1 [(0, .int x0)] := hl
  obtain ⟨H, eH⟩ : ∃ H, H = s.heap := ⟨_, rfl⟩
  obtain ⟨locs, eL⟩ : ∃ L : List Loc, L = [] := ⟨_, rfl⟩
  rw [← eH] at hP
  have hS : va_S A s.heap H locs := by rw [eH, eL]; exact hS
  suffices hgo : W p l e { frames := 1, cells := 0, slots := 0, locals := 22 } s m args below meth c H locs 0 0 Q (F0 m 0 ls []) by rw [eH, eL] at hgo; exact hgo
  clear eH eL
  unfold f_X10_isSum at hf
  refine lv_iload_n hx hb dX10_isSum_0 rfl (lv_at hl 0 rfl) ?_
  refine lv_iconst (v := (0 : Int32)) hx hb dX10_isSum_1 (by decide) ?_
  refine lv_iconst (v := (3 : Int32)) hx hb dX10_isSum_2 (by decide) ?_
  obtain ⟨r_4, hk_5, hf⟩ := pe_1 hf
  refine xw_z (As := [.int x0, .int (0 : Int32), .int (3 : Int32)]) (rest := []) Cx hP hD hS hl (xq_none _) (c_X10_in l D cyI cyJ G H.size x0 (0 : Int32) (3 : Int32) r_4 hk_5) pk_X10_in mw_5_26 ⟨rfl, rfl, Nat.le_of_ble_eq_true rfl, Nat.le_of_ble_eq_true rfl⟩ rfl rfl (Nat.le_of_ble_eq_true rfl) ⟨Nat.le_of_ble_eq_true rfl, Nat.le_of_ble_eq_true rfl⟩ dX10_isSum_3 (fun H locs hn_6 hP hD hS => ?_)
  obtain rfl := po_1 hf
  rw [← hQ]; exact xe_zret Cx rfl hn_6 hP hD hS dX10_isSum_6
def f_X10_terms_47 (K_4 : Int32 → Int32 → Int32 → Option (Int32)) (v10_firstOf : Nat → Int32) (v10_sum : Nat → Int32) (v10_coefficient : Nat → Int32) (y1 : Int32) (y3 : Int32) (z0 : Int32) (z1 : Int32) : Option (Int32) := K_4 y1 (z1 + z0) (y3 + (1 : Int32))
def gf_X10_terms_4 (K_4 : Int32 → Int32 → Int32 → Option (Int32)) (v10_firstOf : Nat → Int32) (v10_sum : Nat → Int32) (v10_coefficient : Nat → Int32) (y1 : Int32) (y2 : Int32) (y3 : Int32) : Option (Int32) := p_in y1 4 (if (v10_sum (Int32.toNatClampNeg y1)) < 0 then (some (y2)) else (p_in y1 4 (p_b1 (f_X10_manyOf v10_firstOf (v10_sum (Int32.toNatClampNeg y1))) (fun r_4 => if r_4 ≤ y3 then (some (y2)) else (p_in (((22 : Int32) * y1) + y3) 88 (if (v10_coefficient (Int32.toNatClampNeg (((22 : Int32) * y1) + y3))) = 0 then ((f_X10_terms_47 K_4 v10_firstOf v10_sum v10_coefficient) y1 y3 (0 : Int32) y2) else ((f_X10_terms_47 K_4 v10_firstOf v10_sum v10_coefficient) y1 y3 (1 : Int32) y2)))))))
def f_X10_terms_4 (v10_firstOf : Nat → Int32) (v10_sum : Nat → Int32) (v10_coefficient : Nat → Int32) : Nat → Int32 → Int32 → Int32 → Option (Int32)
  | 0 => fun _ _ _ => none
  | n + 1 => gf_X10_terms_4 (f_X10_terms_4 v10_firstOf v10_sum v10_coefficient n) v10_firstOf v10_sum v10_coefficient
def f_X10_terms (v10_firstOf : Nat → Int32) (v10_sum : Nat → Int32) (v10_coefficient : Nat → Int32) (x1 : Int32) : Option (Int32) := (f_X10_terms_4 v10_firstOf v10_sum v10_coefficient 1000) x1 (0 : Int32) (0 : Int32)
set_option maxHeartbeats 4000000 in
set_option maxRecDepth 20000 in
theorem c_X10_terms (l : Launch) (D : va_G) (cyI cyJ : ClassId) (G a : Nat → Nat) (sz : Nat) (v10_firstOf : Nat → Int32) (v10_sizeOf : Nat → Int32) (v10_longOf : Nat → Int32) (v10_row : Nat → Int32) (v10_character : Nat → Int32) (v10_sum : Nat → Int32) (v10_coefficient : Nat → Int32) (v10_undone : Int32) (v10_wasSum : Nat → Int32) (v10_wasCoefficient : Nat → Int32) (v10_hasImage : Int32) (v10_letter : Nat → Int32) (v10_letters : Int32) (v10_list : Nat → Int32) (v10_cell : Nat → Int32) (v10_refusals : Nat → Int32) (v10_tried : Nat → Int32) (v10_left : Int32) (v10_high : Int32) (v10_then : Nat → Int64) (v10_at : Int32) (v10_readSize : Int32) (x1 : Int32) (ro : Int32) (hf : f_X10_terms v10_firstOf v10_sum v10_coefficient x1 = some ro) : xm_i l yX10_terms (Cond.code yX10_terms cX10_terms 4 (some .int) :: xg_tbl) { frames := 1, cells := 0, slots := 0, locals := 21 } D xcl [(cyI, .int), (cyJ, .long)] G sz [.ref (a 28), .int x1] (wd_X10 a cyI cyJ v10_firstOf v10_sizeOf v10_longOf v10_row v10_character v10_sum v10_coefficient v10_undone v10_wasSum v10_wasCoefficient v10_hasImage v10_letter v10_letters v10_list v10_cell v10_refusals v10_tried v10_left v10_high v10_then v10_at v10_readSize) (wd_X10 a cyI cyJ v10_firstOf v10_sizeOf v10_longOf v10_row v10_character v10_sum v10_coefficient v10_undone v10_wasSum v10_wasCoefficient v10_hasImage v10_letter v10_letters v10_list v10_cell v10_refusals v10_tried v10_left v10_high v10_then v10_at v10_readSize) ro := by
  refine xm_of_i (own := RX10) (by decide) rfl rfl (Nat.le_of_ble_eq_true rfl) ?_
  intro p e s m args below meth c ls Q A hQ hAe hin Cx hsz hP hD hS hl
  have Cx1 := Cx
  obtain ⟨⟨hx, hb, hml, hown, hts⟩, hr, hlocks, hK, hA, hT⟩ := Cx1
  have hl : lv_has ls 4 [(0, .ref (a 28)), (1, .int x1)] := hl
  obtain ⟨H, eH⟩ : ∃ H, H = s.heap := ⟨_, rfl⟩
  obtain ⟨locs, eL⟩ : ∃ L : List Loc, L = [] := ⟨_, rfl⟩
  rw [← eH] at hP
  have hS : va_S A s.heap H locs := by rw [eH, eL]; exact hS
  suffices hgo : W p l e { frames := 1, cells := 0, slots := 0, locals := 21 } s m args below meth c H locs 0 0 Q (F0 m 0 ls []) by rw [eH, eL] at hgo; exact hgo
  clear eH eL
  unfold f_X10_terms at hf
  have w_4 : ∀ (n_4 : Nat) (y1 : Int32) (y2 : Int32) (y3 : Int32) (H : Heap) (locs : List Loc) (ls : Array Slot), (f_X10_terms_4 v10_firstOf v10_sum v10_coefficient) n_4 y1 y2 y3 = some ro → va_P D xcl (wd_X10 a cyI cyJ v10_firstOf v10_sizeOf v10_longOf v10_row v10_character v10_sum v10_coefficient v10_undone v10_wasSum v10_wasCoefficient v10_hasImage v10_letter v10_letters v10_list v10_cell v10_refusals v10_tried v10_left v10_high v10_then v10_at v10_readSize) H → va_D A (wd_X10 a cyI cyJ v10_firstOf v10_sizeOf v10_longOf v10_row v10_character v10_sum v10_coefficient v10_undone v10_wasSum v10_wasCoefficient v10_hasImage v10_letter v10_letters v10_list v10_cell v10_refusals v10_tried v10_left v10_high v10_then v10_at v10_readSize) → va_S A s.heap H locs → lv_has ls 4 [(0, .ref (a 28)), (1, .int y1), (2, .int y2), (3, .int y3)] → W p l e { frames := 1, cells := 0, slots := 0, locals := 21 } s m args below meth c H locs 0 0 Q (F0 m 4 ls []) := by
    intro n_4
    induction n_4 with
    | zero => intro y1 y2 y3 H locs ls hf; exact absurd hf (by intro h9; cases h9)
    | succ n_4 w_4 =>
      intro y1 y2 y3 H locs ls hf hP hD hS hl
      have hf : gf_X10_terms_4 ((f_X10_terms_4 v10_firstOf v10_sum v10_coefficient) n_4) v10_firstOf v10_sum v10_coefficient y1 y2 y3 = some ro := hf
      unfold gf_X10_terms_4 at hf
      have w_47 : ∀ (y1 : Int32) (y3 : Int32) (z0 : Int32) (z1 : Int32) (H : Heap) (locs : List Loc) (ls : Array Slot), (f_X10_terms_47 ((f_X10_terms_4 v10_firstOf v10_sum v10_coefficient) n_4) v10_firstOf v10_sum v10_coefficient) y1 y3 z0 z1 = some ro → va_P D xcl (wd_X10 a cyI cyJ v10_firstOf v10_sizeOf v10_longOf v10_row v10_character v10_sum v10_coefficient v10_undone v10_wasSum v10_wasCoefficient v10_hasImage v10_letter v10_letters v10_list v10_cell v10_refusals v10_tried v10_left v10_high v10_then v10_at v10_readSize) H → va_D A (wd_X10 a cyI cyJ v10_firstOf v10_sizeOf v10_longOf v10_row v10_character v10_sum v10_coefficient v10_undone v10_wasSum v10_wasCoefficient v10_hasImage v10_letter v10_letters v10_list v10_cell v10_refusals v10_tried v10_left v10_high v10_then v10_at v10_readSize) → va_S A s.heap H locs → lv_has ls 4 [(0, .ref (a 28)), (1, .int y1), (3, .int y3)] → W p l e { frames := 1, cells := 0, slots := 0, locals := 21 } s m args below meth c H locs 0 0 Q (F0 m 47 ls [.int z0, .int z1]) := by
        intro y1 y3 z0 z1 H locs ls hf hP hD hS hl
        unfold f_X10_terms_47 at hf
        refine lv_iadd hx hb dX10_terms_47 ?_
        refine lv_istore_n (lv' := [(2, .int (z1 + z0)), (0, .ref (a 28)), (1, .int y1), (3, .int y3)]) hx hb dX10_terms_48 rfl hl (by decide) rfl (fun ls hl => ?_)
        refine lv_iinc (v := (y3 + (1 : Int32))) (lv' := [(3, .int (y3 + (1 : Int32))), (2, .int (z1 + z0)), (0, .ref (a 28)), (1, .int y1)]) hx hb dX10_terms_49 hl (k := 3) rfl rfl (by decide) rfl (fun ls hl => ?_)
        refine lv_goto (tgt := 4) hx hb dX10_terms_52 (by decide) ?_
        exact w_4 y1 (z1 + z0) (y3 + (1 : Int32)) H locs ls hf hP hD hS (lv_sub hl [2, 3, 1, 0] rfl)
      refine lv_aload_n hx hb dX10_terms_4 rfl (lv_at hl 0 rfl) ?_
      refine va_get (ci := 10) (v := .ref (a 34)) hx hb hts wX10_in hown hK hP 0 rfl rfl 5 (by decide) (hts _ mw_4_197) (fun _ h9 => h9) rfl dX10_terms_5 ?_
      refine lv_iload_n hx hb dX10_terms_8 rfl (lv_at hl 1 rfl) ?_
      obtain ⟨hi_9, hf⟩ := pe_in hf
      refine va_iald hx hb hK hP 6 0 rfl rfl hi_9 dX10_terms_9 ?_
      refine lv_if_lt (tgt := 55) hx hb dX10_terms_10 (by decide) (fun hc_10 => ?_) (fun hc_10 => ?_)
      · have hf := pe_t hf hc_10
        refine lv_iload_n hx hb dX10_terms_55 rfl (lv_at hl 2 rfl) ?_
        obtain rfl := po_1 hf
        rw [← hQ]; exact xe_iret Cx rfl hP hD hS dX10_terms_56
      · have hf := pe_f hf hc_10
        refine lv_iload_n hx hb dX10_terms_13 rfl (lv_at hl 3 rfl) ?_
        refine lv_aload_n hx hb dX10_terms_14 rfl (lv_at hl 0 rfl) ?_
        refine lv_aload_n hx hb dX10_terms_15 rfl (lv_at hl 0 rfl) ?_
        refine va_get (ci := 10) (v := .ref (a 34)) hx hb hts wX10_in hown hK hP 0 rfl rfl 5 (by decide) (hts _ mw_4_197) (fun _ h9 => h9) rfl dX10_terms_16 ?_
        refine lv_iload_n hx hb dX10_terms_19 rfl (lv_at hl 1 rfl) ?_
        obtain ⟨hi_11, hf⟩ := pe_in hf
        refine va_iald hx hb hK hP 6 0 rfl rfl hi_11 dX10_terms_20 ?_
        obtain ⟨r_12, hk_13, hf⟩ := pe_1 hf
        refine xv_i (As := [.int (v10_sum (Int32.toNatClampNeg y1))]) (rest := [.int y3]) (q0 := 0) (ci := 10) Cx hP hD hS hl (pl_X10_X10 a cyI cyJ v10_firstOf v10_sizeOf v10_longOf v10_row v10_character v10_sum v10_coefficient v10_undone v10_wasSum v10_wasCoefficient v10_hasImage v10_letter v10_letters v10_list v10_cell v10_refusals v10_tried v10_left v10_high v10_then v10_at v10_readSize v10_firstOf v10_sizeOf v10_longOf v10_row v10_character v10_sum v10_coefficient v10_undone v10_wasSum v10_wasCoefficient v10_hasImage v10_letter v10_letters v10_list v10_cell v10_refusals v10_tried v10_left v10_high v10_then v10_at v10_readSize) (c_X10_manyOf l D cyI cyJ G a H.size v10_firstOf v10_sizeOf v10_longOf v10_row v10_character v10_sum v10_coefficient v10_undone v10_wasSum v10_wasCoefficient v10_hasImage v10_letter v10_letters v10_list v10_cell v10_refusals v10_tried v10_left v10_high v10_then v10_at v10_readSize (v10_sum (Int32.toNatClampNeg y1)) r_12 hk_13) pk_X10_manyOf mw_5_63 ⟨rfl, rfl, Nat.le_of_ble_eq_true rfl, Nat.le_of_ble_eq_true rfl⟩ rfl rfl rfl rfl rfl (Nat.le_of_ble_eq_true rfl) ⟨Nat.le_of_ble_eq_true rfl, Nat.le_of_ble_eq_true rfl⟩ dX10_terms_21 (fun H locs hP hD hS => ?_)
        refine lv_icmp_ge (tgt := 55) hx hb dX10_terms_24 (by decide) (fun hc_14 => ?_) (fun hc_14 => ?_)
        · have hf := pe_t hf hc_14
          refine lv_iload_n hx hb dX10_terms_55 rfl (lv_at hl 2 rfl) ?_
          obtain rfl := po_1 hf
          rw [← hQ]; exact xe_iret Cx rfl hP hD hS dX10_terms_56
        · have hf := pe_f hf hc_14
          refine lv_iload_n hx hb dX10_terms_27 rfl (lv_at hl 2 rfl) ?_
          refine lv_aload_n hx hb dX10_terms_28 rfl (lv_at hl 0 rfl) ?_
          refine va_get (ci := 10) (v := .ref (a 35)) hx hb hts wX10_in hown hK hP 0 rfl rfl 6 (by decide) (hts _ mw_4_198) (fun _ h9 => h9) rfl dX10_terms_29 ?_
          refine lv_bipush (v := (22 : Int32)) hx hb dX10_terms_32 (by decide) ?_
          refine lv_iload_n hx hb dX10_terms_34 rfl (lv_at hl 1 rfl) ?_
          refine lv_imul hx hb dX10_terms_35 ?_
          refine lv_iload_n hx hb dX10_terms_36 rfl (lv_at hl 3 rfl) ?_
          refine lv_iadd hx hb dX10_terms_37 ?_
          obtain ⟨hi_15, hf⟩ := pe_in hf
          refine va_iald hx hb hK hP 7 0 rfl rfl hi_15 dX10_terms_38 ?_
          refine lv_if_eq (tgt := 46) hx hb dX10_terms_39 (by decide) (fun hc_16 => ?_) (fun hc_16 => ?_)
          · have hf := pe_t hf hc_16
            refine lv_iconst (v := (0 : Int32)) hx hb dX10_terms_46 (by decide) ?_
            exact w_47 y1 y3 (0 : Int32) y2 H locs ls hf hP hD hS (lv_sub hl [0, 1, 3] rfl)
          · have hf := pe_f hf hc_16
            refine lv_iconst (v := (1 : Int32)) hx hb dX10_terms_42 (by decide) ?_
            refine lv_goto (tgt := 47) hx hb dX10_terms_43 (by decide) ?_
            exact w_47 y1 y3 (1 : Int32) y2 H locs ls hf hP hD hS (lv_sub hl [0, 1, 3] rfl)
  refine lv_iconst (v := (0 : Int32)) hx hb dX10_terms_0 (by decide) ?_
  refine lv_istore_n (lv' := [(2, .int (0 : Int32)), (0, .ref (a 28)), (1, .int x1)]) hx hb dX10_terms_1 rfl hl (by decide) rfl (fun ls hl => ?_)
  refine lv_iconst (v := (0 : Int32)) hx hb dX10_terms_2 (by decide) ?_
  refine lv_istore_n (lv' := [(3, .int (0 : Int32)), (2, .int (0 : Int32)), (0, .ref (a 28)), (1, .int x1)]) hx hb dX10_terms_3 rfl hl (by decide) rfl (fun ls hl => ?_)
  exact w_4 1000 x1 (0 : Int32) (0 : Int32) H locs ls hf hP hD hS (lv_sub hl [2, 3, 1, 0] rfl)
