def gf_X10_dimension_29 (K_29 : Int32 → Int32 → Int32 → Int32 → Int32 → Option (Int32)) (K_15 : Int32 → Int32 → Int32 → Int32 → Option (Int32)) (v10_sizeOf : Nat → Int32) (v10_longOf : Nat → Int32) (v10_row : Nat → Int32) (y1 : Int32) (y2 : Int32) (y3 : Int32) (y4 : Int32) (y5 : Int32) : Option (Int32) := p_b1 (f_X10_rowOf v10_row y1 y4) (fun r_1 => if r_1 ≤ y5 then (K_15 y1 y2 y3 (y4 + (1 : Int32))) else (p_b1 (f_X10_hookOf v10_longOf v10_row y1 y4 y5) (fun r_4 => K_29 y1 y2 (y3 * r_4) y4 (y5 + (1 : Int32)))))
def f_X10_dimension_29 (K_15 : Int32 → Int32 → Int32 → Int32 → Option (Int32)) (v10_sizeOf : Nat → Int32) (v10_longOf : Nat → Int32) (v10_row : Nat → Int32) : Nat → Int32 → Int32 → Int32 → Int32 → Int32 → Option (Int32)
  | 0 => fun _ _ _ _ _ => none
  | n + 1 => gf_X10_dimension_29 (f_X10_dimension_29 K_15 v10_sizeOf v10_longOf v10_row n) K_15 v10_sizeOf v10_longOf v10_row
def gf_X10_dimension_15 (K_15 : Int32 → Int32 → Int32 → Int32 → Option (Int32)) (v10_sizeOf : Nat → Int32) (v10_longOf : Nat → Int32) (v10_row : Nat → Int32) (y1 : Int32) (y2 : Int32) (y3 : Int32) (y4 : Int32) : Option (Int32) := p_in y1 67 (if (v10_longOf (Int32.toNatClampNeg y1)) ≤ y4 then (p_nz y3 (some ((y2 / y3)))) else ((f_X10_dimension_29 K_15 v10_sizeOf v10_longOf v10_row 1000) y1 y2 y3 y4 (0 : Int32)))
def f_X10_dimension_15 (v10_sizeOf : Nat → Int32) (v10_longOf : Nat → Int32) (v10_row : Nat → Int32) : Nat → Int32 → Int32 → Int32 → Int32 → Option (Int32)
  | 0 => fun _ _ _ _ => none
  | n + 1 => gf_X10_dimension_15 (f_X10_dimension_15 v10_sizeOf v10_longOf v10_row n) v10_sizeOf v10_longOf v10_row
def f_X10_dimension (v10_sizeOf : Nat → Int32) (v10_longOf : Nat → Int32) (v10_row : Nat → Int32) (x1 : Int32) : Option (Int32) := p_in x1 67 (p_b1 (f_X10_times (v10_sizeOf (Int32.toNatClampNeg x1))) (fun r_10 => (f_X10_dimension_15 v10_sizeOf v10_longOf v10_row 1000) x1 r_10 (1 : Int32) (0 : Int32)))
set_option maxHeartbeats 4000000 in
set_option maxRecDepth 20000 in
theorem c_X10_dimension (l : Launch) (D : va_G) (cyI cyJ : ClassId) (G a : Nat → Nat) (sz : Nat) (v10_firstOf : Nat → Int32) (v10_sizeOf : Nat → Int32) (v10_longOf : Nat → Int32) (v10_row : Nat → Int32) (v10_character : Nat → Int32) (v10_sum : Nat → Int32) (v10_coefficient : Nat → Int32) (v10_undone : Int32) (v10_wasSum : Nat → Int32) (v10_wasCoefficient : Nat → Int32) (v10_hasImage : Int32) (v10_letter : Nat → Int32) (v10_letters : Int32) (v10_list : Nat → Int32) (v10_cell : Nat → Int32) (v10_refusals : Nat → Int32) (v10_tried : Nat → Int32) (v10_left : Int32) (v10_high : Int32) (v10_then : Nat → Int64) (v10_at : Int32) (v10_readSize : Int32) (x1 : Int32) (ro : Int32) (hf : f_X10_dimension v10_sizeOf v10_longOf v10_row x1 = some ro) : xm_i l yX10_dimension (Cond.code yX10_dimension cX10_dimension 6 (some .int) :: xg_tbl) { frames := 3, cells := 0, slots := 0, locals := 69 } D xcl [(cyI, .int), (cyJ, .long)] G sz [.ref (a 28), .int x1] (wd_X10 a cyI cyJ v10_firstOf v10_sizeOf v10_longOf v10_row v10_character v10_sum v10_coefficient v10_undone v10_wasSum v10_wasCoefficient v10_hasImage v10_letter v10_letters v10_list v10_cell v10_refusals v10_tried v10_left v10_high v10_then v10_at v10_readSize) (wd_X10 a cyI cyJ v10_firstOf v10_sizeOf v10_longOf v10_row v10_character v10_sum v10_coefficient v10_undone v10_wasSum v10_wasCoefficient v10_hasImage v10_letter v10_letters v10_list v10_cell v10_refusals v10_tried v10_left v10_high v10_then v10_at v10_readSize) ro := by
  refine xm_of_i (own := RX10) (by decide) rfl rfl (Nat.le_of_ble_eq_true rfl) ?_
  intro p e s m args below meth c ls Q A hQ hAe hin Cx hsz hP hD hS hl
  have Cx1 := Cx
  obtain ⟨⟨hx, hb, hml, hown, hts⟩, hr, hlocks, hK, hA, hT⟩ := Cx1
  have hl : lv_has ls 6 [(0, .ref (a 28)), (1, .int x1)] := hl
  obtain ⟨H, eH⟩ : ∃ H, H = s.heap := ⟨_, rfl⟩
  obtain ⟨locs, eL⟩ : ∃ L : List Loc, L = [] := ⟨_, rfl⟩
  rw [← eH] at hP
  have hS : va_S A s.heap H locs := by rw [eH, eL]; exact hS
  suffices hgo : W p l e { frames := 3, cells := 0, slots := 0, locals := 69 } s m args below meth c H locs 0 0 Q (F0 m 0 ls []) by rw [eH, eL] at hgo; exact hgo
  clear eH eL
  unfold f_X10_dimension at hf
  have w_15 : ∀ (n_15 : Nat) (y1 : Int32) (y2 : Int32) (y3 : Int32) (y4 : Int32) (H : Heap) (locs : List Loc) (ls : Array Slot), (f_X10_dimension_15 v10_sizeOf v10_longOf v10_row) n_15 y1 y2 y3 y4 = some ro → va_P D xcl (wd_X10 a cyI cyJ v10_firstOf v10_sizeOf v10_longOf v10_row v10_character v10_sum v10_coefficient v10_undone v10_wasSum v10_wasCoefficient v10_hasImage v10_letter v10_letters v10_list v10_cell v10_refusals v10_tried v10_left v10_high v10_then v10_at v10_readSize) H → va_D A (wd_X10 a cyI cyJ v10_firstOf v10_sizeOf v10_longOf v10_row v10_character v10_sum v10_coefficient v10_undone v10_wasSum v10_wasCoefficient v10_hasImage v10_letter v10_letters v10_list v10_cell v10_refusals v10_tried v10_left v10_high v10_then v10_at v10_readSize) → va_S A s.heap H locs → lv_has ls 6 [(0, .ref (a 28)), (1, .int y1), (2, .int y2), (3, .int y3), (4, .int y4)] → W p l e { frames := 3, cells := 0, slots := 0, locals := 69 } s m args below meth c H locs 0 0 Q (F0 m 15 ls []) := by
    intro n_15
    induction n_15 with
    | zero => intro y1 y2 y3 y4 H locs ls hf; exact absurd hf (by intro h9; cases h9)
    | succ n_15 w_15 =>
      intro y1 y2 y3 y4 H locs ls hf hP hD hS hl
      have hf : gf_X10_dimension_15 ((f_X10_dimension_15 v10_sizeOf v10_longOf v10_row) n_15) v10_sizeOf v10_longOf v10_row y1 y2 y3 y4 = some ro := hf
      unfold gf_X10_dimension_15 at hf
      have w_29 : ∀ (n_29 : Nat) (y1 : Int32) (y2 : Int32) (y3 : Int32) (y4 : Int32) (y5 : Int32) (H : Heap) (locs : List Loc) (ls : Array Slot), (f_X10_dimension_29 ((f_X10_dimension_15 v10_sizeOf v10_longOf v10_row) n_15) v10_sizeOf v10_longOf v10_row) n_29 y1 y2 y3 y4 y5 = some ro → va_P D xcl (wd_X10 a cyI cyJ v10_firstOf v10_sizeOf v10_longOf v10_row v10_character v10_sum v10_coefficient v10_undone v10_wasSum v10_wasCoefficient v10_hasImage v10_letter v10_letters v10_list v10_cell v10_refusals v10_tried v10_left v10_high v10_then v10_at v10_readSize) H → va_D A (wd_X10 a cyI cyJ v10_firstOf v10_sizeOf v10_longOf v10_row v10_character v10_sum v10_coefficient v10_undone v10_wasSum v10_wasCoefficient v10_hasImage v10_letter v10_letters v10_list v10_cell v10_refusals v10_tried v10_left v10_high v10_then v10_at v10_readSize) → va_S A s.heap H locs → lv_has ls 6 [(0, .ref (a 28)), (1, .int y1), (2, .int y2), (3, .int y3), (4, .int y4), (5, .int y5)] → W p l e { frames := 3, cells := 0, slots := 0, locals := 69 } s m args below meth c H locs 0 0 Q (F0 m 29 ls []) := by
        intro n_29
        induction n_29 with
        | zero => intro y1 y2 y3 y4 y5 H locs ls hf; exact absurd hf (by intro h9; cases h9)
        | succ n_29 w_29 =>
          intro y1 y2 y3 y4 y5 H locs ls hf hP hD hS hl
          have hf : gf_X10_dimension_29 ((f_X10_dimension_29 ((f_X10_dimension_15 v10_sizeOf v10_longOf v10_row) n_15) v10_sizeOf v10_longOf v10_row) n_29) ((f_X10_dimension_15 v10_sizeOf v10_longOf v10_row) n_15) v10_sizeOf v10_longOf v10_row y1 y2 y3 y4 y5 = some ro := hf
          unfold gf_X10_dimension_29 at hf
          refine lv_iload hx hb dX10_dimension_29 (lv_at hl 5 rfl) ?_
          refine lv_aload_n hx hb dX10_dimension_31 rfl (lv_at hl 0 rfl) ?_
          refine lv_iload_n hx hb dX10_dimension_32 rfl (lv_at hl 1 rfl) ?_
          refine lv_iload hx hb dX10_dimension_33 (lv_at hl 4 rfl) ?_
          obtain ⟨r_12, hk_13, hf⟩ := pe_1 hf
          refine xv_i (As := [.int y1, .int y4]) (rest := [.int y5]) (q0 := 0) (ci := 10) Cx hP hD hS hl (pl_X10_X10 a cyI cyJ v10_firstOf v10_sizeOf v10_longOf v10_row v10_character v10_sum v10_coefficient v10_undone v10_wasSum v10_wasCoefficient v10_hasImage v10_letter v10_letters v10_list v10_cell v10_refusals v10_tried v10_left v10_high v10_then v10_at v10_readSize v10_firstOf v10_sizeOf v10_longOf v10_row v10_character v10_sum v10_coefficient v10_undone v10_wasSum v10_wasCoefficient v10_hasImage v10_letter v10_letters v10_list v10_cell v10_refusals v10_tried v10_left v10_high v10_then v10_at v10_readSize) (c_X10_rowOf l D cyI cyJ G a H.size v10_firstOf v10_sizeOf v10_longOf v10_row v10_character v10_sum v10_coefficient v10_undone v10_wasSum v10_wasCoefficient v10_hasImage v10_letter v10_letters v10_list v10_cell v10_refusals v10_tried v10_left v10_high v10_then v10_at v10_readSize y1 y4 r_12 hk_13) pk_X10_rowOf mw_4_159 ⟨rfl, rfl, Nat.le_of_ble_eq_true rfl, Nat.le_of_ble_eq_true rfl⟩ rfl rfl rfl rfl rfl (Nat.le_of_ble_eq_true rfl) ⟨Nat.le_of_ble_eq_true rfl, Nat.le_of_ble_eq_true rfl⟩ dX10_dimension_35 (fun H locs hP hD hS => ?_)
          refine lv_icmp_ge (tgt := 59) hx hb dX10_dimension_38 (by decide) (fun hc_14 => ?_) (fun hc_14 => ?_)
          · have hf := pe_t hf hc_14
            refine lv_iinc (v := (y4 + (1 : Int32))) (lv' := [(4, .int (y4 + (1 : Int32))), (0, .ref (a 28)), (1, .int y1), (2, .int y2), (3, .int y3), (5, .int y5)]) hx hb dX10_dimension_59 hl (k := 4) rfl rfl (by decide) rfl (fun ls hl => ?_)
            refine lv_goto (tgt := 15) hx hb dX10_dimension_62 (by decide) ?_
            exact w_15 y1 y2 y3 (y4 + (1 : Int32)) H locs ls hf hP hD hS (lv_sub hl [1, 2, 3, 4, 0] rfl)
          · have hf := pe_f hf hc_14
            refine lv_iload_n hx hb dX10_dimension_41 rfl (lv_at hl 3 rfl) ?_
            refine lv_aload_n hx hb dX10_dimension_42 rfl (lv_at hl 0 rfl) ?_
            refine lv_iload_n hx hb dX10_dimension_43 rfl (lv_at hl 1 rfl) ?_
            refine lv_iload hx hb dX10_dimension_44 (lv_at hl 4 rfl) ?_
            refine lv_iload hx hb dX10_dimension_46 (lv_at hl 5 rfl) ?_
            obtain ⟨r_15, hk_16, hf⟩ := pe_1 hf
            refine xv_i (As := [.int y1, .int y4, .int y5]) (rest := [.int y3]) (q0 := 0) (ci := 10) Cx hP hD hS hl (pl_X10_X10 a cyI cyJ v10_firstOf v10_sizeOf v10_longOf v10_row v10_character v10_sum v10_coefficient v10_undone v10_wasSum v10_wasCoefficient v10_hasImage v10_letter v10_letters v10_list v10_cell v10_refusals v10_tried v10_left v10_high v10_then v10_at v10_readSize v10_firstOf v10_sizeOf v10_longOf v10_row v10_character v10_sum v10_coefficient v10_undone v10_wasSum v10_wasCoefficient v10_hasImage v10_letter v10_letters v10_list v10_cell v10_refusals v10_tried v10_left v10_high v10_then v10_at v10_readSize) (c_X10_hookOf l D cyI cyJ G a H.size v10_firstOf v10_sizeOf v10_longOf v10_row v10_character v10_sum v10_coefficient v10_undone v10_wasSum v10_wasCoefficient v10_hasImage v10_letter v10_letters v10_list v10_cell v10_refusals v10_tried v10_left v10_high v10_then v10_at v10_readSize y1 y4 y5 r_15 hk_16) pk_X10_hookOf mw_4_180 ⟨rfl, rfl, Nat.le_of_ble_eq_true rfl, Nat.le_of_ble_eq_true rfl⟩ rfl rfl rfl rfl rfl (Nat.le_of_ble_eq_true rfl) ⟨Nat.le_of_ble_eq_true rfl, Nat.le_of_ble_eq_true rfl⟩ dX10_dimension_48 (fun H locs hP hD hS => ?_)
            refine lv_imul hx hb dX10_dimension_51 ?_
            refine lv_istore_n (lv' := [(3, .int (y3 * r_15)), (0, .ref (a 28)), (1, .int y1), (2, .int y2), (4, .int y4), (5, .int y5)]) hx hb dX10_dimension_52 rfl hl (by decide) rfl (fun ls hl => ?_)
            refine lv_iinc (v := (y5 + (1 : Int32))) (lv' := [(5, .int (y5 + (1 : Int32))), (3, .int (y3 * r_15)), (0, .ref (a 28)), (1, .int y1), (2, .int y2), (4, .int y4)]) hx hb dX10_dimension_53 hl (k := 5) rfl rfl (by decide) rfl (fun ls hl => ?_)
            refine lv_goto (tgt := 29) hx hb dX10_dimension_56 (by decide) ?_
            exact w_29 y1 y2 (y3 * r_15) y4 (y5 + (1 : Int32)) H locs ls hf hP hD hS (lv_sub hl [2, 3, 4, 1, 5, 0] rfl)
      refine lv_iload hx hb dX10_dimension_15 (lv_at hl 4 rfl) ?_
      refine lv_aload_n hx hb dX10_dimension_17 rfl (lv_at hl 0 rfl) ?_
      refine va_get (ci := 10) (v := .ref (a 31)) hx hb hts wX10_in hown hK hP 0 rfl rfl 2 (by decide) (hts _ mw_4_194) (fun _ h9 => h9) rfl dX10_dimension_18 ?_
      refine lv_iload_n hx hb dX10_dimension_21 rfl (lv_at hl 1 rfl) ?_
      obtain ⟨hi_17, hf⟩ := pe_in hf
      refine va_iald hx hb hK hP 3 0 rfl rfl hi_17 dX10_dimension_22 ?_
      refine lv_icmp_ge (tgt := 65) hx hb dX10_dimension_23 (by decide) (fun hc_18 => ?_) (fun hc_18 => ?_)
      · have hf := pe_t hf hc_18
        refine lv_iload_n hx hb dX10_dimension_65 rfl (lv_at hl 2 rfl) ?_
        refine lv_iload_n hx hb dX10_dimension_66 rfl (lv_at hl 3 rfl) ?_
        obtain ⟨hz_19, hf⟩ := pe_nz hf
        refine lv_idiv hx hb dX10_dimension_67 hz_19 ?_
        obtain rfl := po_1 hf
        rw [← hQ]; exact xe_iret Cx rfl hP hD hS dX10_dimension_68
      · have hf := pe_f hf hc_18
        refine lv_iconst (v := (0 : Int32)) hx hb dX10_dimension_26 (by decide) ?_
        refine lv_istore (lv' := [(5, .int (0 : Int32)), (0, .ref (a 28)), (1, .int y1), (2, .int y2), (3, .int y3), (4, .int y4)]) hx hb dX10_dimension_27 hl (by decide) rfl (fun ls hl => ?_)
        exact w_29 1000 y1 y2 y3 y4 (0 : Int32) H locs ls hf hP hD hS (lv_sub hl [1, 2, 3, 4, 5, 0] rfl)
  refine lv_aload_n hx hb dX10_dimension_0 rfl (lv_at hl 0 rfl) ?_
  refine va_get (ci := 10) (v := .ref (a 30)) hx hb hts wX10_in hown hK hP 0 rfl rfl 1 (by decide) (hts _ mw_4_193) (fun _ h9 => h9) rfl dX10_dimension_1 ?_
  refine lv_iload_n hx hb dX10_dimension_4 rfl (lv_at hl 1 rfl) ?_
  obtain ⟨hi_20, hf⟩ := pe_in hf
  refine va_iald hx hb hK hP 2 0 rfl rfl hi_20 dX10_dimension_5 ?_
  obtain ⟨r_21, hk_22, hf⟩ := pe_1 hf
  refine xw_i (As := [.int (v10_sizeOf (Int32.toNatClampNeg x1))]) (rest := []) Cx hP hD hS hl (xq_none _) (c_X10_times l D cyI cyJ G H.size (v10_sizeOf (Int32.toNatClampNeg x1)) r_21 hk_22) pk_X10_times mw_5_41 ⟨rfl, rfl, Nat.le_of_ble_eq_true rfl, Nat.le_of_ble_eq_true rfl⟩ rfl rfl (Nat.le_of_ble_eq_true rfl) ⟨Nat.le_of_ble_eq_true rfl, Nat.le_of_ble_eq_true rfl⟩ dX10_dimension_6 (fun H locs hP hD hS => ?_)
  refine lv_istore_n (lv' := [(2, .int r_21), (0, .ref (a 28)), (1, .int x1)]) hx hb dX10_dimension_9 rfl hl (by decide) rfl (fun ls hl => ?_)
  refine lv_iconst (v := (1 : Int32)) hx hb dX10_dimension_10 (by decide) ?_
  refine lv_istore_n (lv' := [(3, .int (1 : Int32)), (2, .int r_21), (0, .ref (a 28)), (1, .int x1)]) hx hb dX10_dimension_11 rfl hl (by decide) rfl (fun ls hl => ?_)
  refine lv_iconst (v := (0 : Int32)) hx hb dX10_dimension_12 (by decide) ?_
  refine lv_istore (lv' := [(4, .int (0 : Int32)), (3, .int (1 : Int32)), (2, .int r_21), (0, .ref (a 28)), (1, .int x1)]) hx hb dX10_dimension_13 hl (by decide) rfl (fun ls hl => ?_)
  exact w_15 1000 x1 r_21 (1 : Int32) (0 : Int32) H locs ls hf hP hD hS (lv_sub hl [3, 4, 2, 1, 0] rfl)
def f_X10_ordersOf_49 (K_7 : Int32 → Int32 → Int32 → Int32 → Option (Int32)) (v10_sizeOf : Nat → Int32) (v10_longOf : Nat → Int32) (v10_row : Nat → Int32) (y1 : Int32) (y2 : Int32) (y4 : Int32) (z0 : Int32) : Option (Int32) := p_b1 (f_X10_rowOf v10_row y1 y4) (fun r_1 => K_7 y1 (y2 * (r_1 * z0)) z0 (y4 + (1 : Int32)))
def f_X10_ordersOf_48 (K_49 : Int32 → Int32 → Int32 → Int32 → Option (Int32)) (v10_sizeOf : Nat → Int32) (v10_longOf : Nat → Int32) (v10_row : Nat → Int32) (y1 : Int32) (y2 : Int32) (y4 : Int32) : Option (Int32) := K_49 y1 y2 y4 (1 : Int32)
def gf_X10_ordersOf_7 (K_7 : Int32 → Int32 → Int32 → Int32 → Option (Int32)) (v10_sizeOf : Nat → Int32) (v10_longOf : Nat → Int32) (v10_row : Nat → Int32) (y1 : Int32) (y2 : Int32) (y3 : Int32) (y4 : Int32) : Option (Int32) := p_in y1 67 (if (v10_longOf (Int32.toNatClampNeg y1)) ≤ y4 then (p_in y1 67 (p_b1 (f_X10_times (v10_sizeOf (Int32.toNatClampNeg y1))) (fun r_6 => p_nz y2 (some ((r_6 / y2)))))) else (if y4 ≤ 0 then ((f_X10_ordersOf_48 (f_X10_ordersOf_49 K_7 v10_sizeOf v10_longOf v10_row) v10_sizeOf v10_longOf v10_row) y1 y2 y4) else (p_b1 (f_X10_rowOf v10_row y1 y4) (fun r_10 => p_b1 (f_X10_rowOf v10_row y1 (y4 - (1 : Int32))) (fun r_12 => if r_10 = r_12 then ((f_X10_ordersOf_49 K_7 v10_sizeOf v10_longOf v10_row) y1 y2 y4 (y3 + (1 : Int32))) else ((f_X10_ordersOf_48 (f_X10_ordersOf_49 K_7 v10_sizeOf v10_longOf v10_row) v10_sizeOf v10_longOf v10_row) y1 y2 y4))))))
def f_X10_ordersOf_7 (v10_sizeOf : Nat → Int32) (v10_longOf : Nat → Int32) (v10_row : Nat → Int32) : Nat → Int32 → Int32 → Int32 → Int32 → Option (Int32)
  | 0 => fun _ _ _ _ => none
  | n + 1 => gf_X10_ordersOf_7 (f_X10_ordersOf_7 v10_sizeOf v10_longOf v10_row n) v10_sizeOf v10_longOf v10_row
def f_X10_ordersOf (v10_sizeOf : Nat → Int32) (v10_longOf : Nat → Int32) (v10_row : Nat → Int32) (x1 : Int32) : Option (Int32) := (f_X10_ordersOf_7 v10_sizeOf v10_longOf v10_row 1000) x1 (1 : Int32) (0 : Int32) (0 : Int32)
set_option maxHeartbeats 4000000 in
set_option maxRecDepth 20000 in
theorem c_X10_ordersOf (l : Launch) (D : va_G) (cyI cyJ : ClassId) (G a : Nat → Nat) (sz : Nat) (v10_firstOf : Nat → Int32) (v10_sizeOf : Nat → Int32) (v10_longOf : Nat → Int32) (v10_row : Nat → Int32) (v10_character : Nat → Int32) (v10_sum : Nat → Int32) (v10_coefficient : Nat → Int32) (v10_undone : Int32) (v10_wasSum : Nat → Int32) (v10_wasCoefficient : Nat → Int32) (v10_hasImage : Int32) (v10_letter : Nat → Int32) (v10_letters : Int32) (v10_list : Nat → Int32) (v10_cell : Nat → Int32) (v10_refusals : Nat → Int32) (v10_tried : Nat → Int32) (v10_left : Int32) (v10_high : Int32) (v10_then : Nat → Int64) (v10_at : Int32) (v10_readSize : Int32) (x1 : Int32) (ro : Int32) (hf : f_X10_ordersOf v10_sizeOf v10_longOf v10_row x1 = some ro) : xm_i l yX10_ordersOf (Cond.code yX10_ordersOf cX10_ordersOf 5 (some .int) :: xg_tbl) { frames := 1, cells := 0, slots := 0, locals := 22 } D xcl [(cyI, .int), (cyJ, .long)] G sz [.ref (a 28), .int x1] (wd_X10 a cyI cyJ v10_firstOf v10_sizeOf v10_longOf v10_row v10_character v10_sum v10_coefficient v10_undone v10_wasSum v10_wasCoefficient v10_hasImage v10_letter v10_letters v10_list v10_cell v10_refusals v10_tried v10_left v10_high v10_then v10_at v10_readSize) (wd_X10 a cyI cyJ v10_firstOf v10_sizeOf v10_longOf v10_row v10_character v10_sum v10_coefficient v10_undone v10_wasSum v10_wasCoefficient v10_hasImage v10_letter v10_letters v10_list v10_cell v10_refusals v10_tried v10_left v10_high v10_then v10_at v10_readSize) ro := by
  refine xm_of_i (own := RX10) (by decide) rfl rfl (Nat.le_of_ble_eq_true rfl) ?_
  intro p e s m args below meth c ls Q A hQ hAe hin Cx hsz hP hD hS hl
  have Cx1 := Cx
  obtain ⟨⟨hx, hb, hml, hown, hts⟩, hr, hlocks, hK, hA, hT⟩ := Cx1
  have hl : lv_has ls 5 [(0, .ref (a 28)), (1, .int x1)] := hl
  obtain ⟨H, eH⟩ : ∃ H, H = s.heap := ⟨_, rfl⟩
  obtain ⟨locs, eL⟩ : ∃ L : List Loc, L = [] := ⟨_, rfl⟩
  rw [← eH] at hP
  have hS : va_S A s.heap H locs := by rw [eH, eL]; exact hS
  suffices hgo : W p l e { frames := 1, cells := 0, slots := 0, locals := 22 } s m args below meth c H locs 0 0 Q (F0 m 0 ls []) by rw [eH, eL] at hgo; exact hgo
  clear eH eL
  unfold f_X10_ordersOf at hf
  have w_7 : ∀ (n_7 : Nat) (y1 : Int32) (y2 : Int32) (y3 : Int32) (y4 : Int32) (H : Heap) (locs : List Loc) (ls : Array Slot), (f_X10_ordersOf_7 v10_sizeOf v10_longOf v10_row) n_7 y1 y2 y3 y4 = some ro → va_P D xcl (wd_X10 a cyI cyJ v10_firstOf v10_sizeOf v10_longOf v10_row v10_character v10_sum v10_coefficient v10_undone v10_wasSum v10_wasCoefficient v10_hasImage v10_letter v10_letters v10_list v10_cell v10_refusals v10_tried v10_left v10_high v10_then v10_at v10_readSize) H → va_D A (wd_X10 a cyI cyJ v10_firstOf v10_sizeOf v10_longOf v10_row v10_character v10_sum v10_coefficient v10_undone v10_wasSum v10_wasCoefficient v10_hasImage v10_letter v10_letters v10_list v10_cell v10_refusals v10_tried v10_left v10_high v10_then v10_at v10_readSize) → va_S A s.heap H locs → lv_has ls 5 [(0, .ref (a 28)), (1, .int y1), (2, .int y2), (3, .int y3), (4, .int y4)] → W p l e { frames := 1, cells := 0, slots := 0, locals := 22 } s m args below meth c H locs 0 0 Q (F0 m 7 ls []) := by
    intro n_7
    induction n_7 with
    | zero => intro y1 y2 y3 y4 H locs ls hf; exact absurd hf (by intro h9; cases h9)
    | succ n_7 w_7 =>
      intro y1 y2 y3 y4 H locs ls hf hP hD hS hl
      have hf : gf_X10_ordersOf_7 ((f_X10_ordersOf_7 v10_sizeOf v10_longOf v10_row) n_7) v10_sizeOf v10_longOf v10_row y1 y2 y3 y4 = some ro := hf
      unfold gf_X10_ordersOf_7 at hf
      have w_49 : ∀ (y1 : Int32) (y2 : Int32) (y4 : Int32) (z0 : Int32) (H : Heap) (locs : List Loc) (ls : Array Slot), (f_X10_ordersOf_49 ((f_X10_ordersOf_7 v10_sizeOf v10_longOf v10_row) n_7) v10_sizeOf v10_longOf v10_row) y1 y2 y4 z0 = some ro → va_P D xcl (wd_X10 a cyI cyJ v10_firstOf v10_sizeOf v10_longOf v10_row v10_character v10_sum v10_coefficient v10_undone v10_wasSum v10_wasCoefficient v10_hasImage v10_letter v10_letters v10_list v10_cell v10_refusals v10_tried v10_left v10_high v10_then v10_at v10_readSize) H → va_D A (wd_X10 a cyI cyJ v10_firstOf v10_sizeOf v10_longOf v10_row v10_character v10_sum v10_coefficient v10_undone v10_wasSum v10_wasCoefficient v10_hasImage v10_letter v10_letters v10_list v10_cell v10_refusals v10_tried v10_left v10_high v10_then v10_at v10_readSize) → va_S A s.heap H locs → lv_has ls 5 [(0, .ref (a 28)), (1, .int y1), (2, .int y2), (4, .int y4)] → W p l e { frames := 1, cells := 0, slots := 0, locals := 22 } s m args below meth c H locs 0 0 Q (F0 m 49 ls [.int z0]) := by
        intro y1 y2 y4 z0 H locs ls hf hP hD hS hl
        unfold f_X10_ordersOf_49 at hf
        refine lv_istore_n (lv' := [(3, .int z0), (0, .ref (a 28)), (1, .int y1), (2, .int y2), (4, .int y4)]) hx hb dX10_ordersOf_49 rfl hl (by decide) rfl (fun ls hl => ?_)
        refine lv_iload_n hx hb dX10_ordersOf_50 rfl (lv_at hl 3 rfl) ?_
        refine lv_aload_n hx hb dX10_ordersOf_51 rfl (lv_at hl 1 rfl) ?_
        refine lv_iload_n hx hb dX10_ordersOf_52 rfl (lv_at hl 2 rfl) ?_
        refine lv_iload hx hb dX10_ordersOf_53 (lv_at hl 4 rfl) ?_
        obtain ⟨r_15, hk_16, hf⟩ := pe_1 hf
        refine xv_i (As := [.int y1, .int y4]) (rest := [.int y2]) (q0 := 0) (ci := 10) Cx hP hD hS hl (pl_X10_X10 a cyI cyJ v10_firstOf v10_sizeOf v10_longOf v10_row v10_character v10_sum v10_coefficient v10_undone v10_wasSum v10_wasCoefficient v10_hasImage v10_letter v10_letters v10_list v10_cell v10_refusals v10_tried v10_left v10_high v10_then v10_at v10_readSize v10_firstOf v10_sizeOf v10_longOf v10_row v10_character v10_sum v10_coefficient v10_undone v10_wasSum v10_wasCoefficient v10_hasImage v10_letter v10_letters v10_list v10_cell v10_refusals v10_tried v10_left v10_high v10_then v10_at v10_readSize) (c_X10_rowOf l D cyI cyJ G a H.size v10_firstOf v10_sizeOf v10_longOf v10_row v10_character v10_sum v10_coefficient v10_undone v10_wasSum v10_wasCoefficient v10_hasImage v10_letter v10_letters v10_list v10_cell v10_refusals v10_tried v10_left v10_high v10_then v10_at v10_readSize y1 y4 r_15 hk_16) pk_X10_rowOf mw_4_159 ⟨rfl, rfl, Nat.le_of_ble_eq_true rfl, Nat.le_of_ble_eq_true rfl⟩ rfl rfl rfl rfl rfl (Nat.le_of_ble_eq_true rfl) ⟨Nat.le_of_ble_eq_true rfl, Nat.le_of_ble_eq_true rfl⟩ dX10_ordersOf_55 (fun H locs hP hD hS => ?_)
        refine lv_iload_n hx hb dX10_ordersOf_58 rfl (lv_at hl 0 rfl) ?_
        refine lv_imul hx hb dX10_ordersOf_59 ?_
        refine lv_imul hx hb dX10_ordersOf_60 ?_
        refine lv_istore_n (lv' := [(2, .int (y2 * (r_15 * z0))), (3, .int z0), (0, .ref (a 28)), (1, .int y1), (4, .int y4)]) hx hb dX10_ordersOf_61 rfl hl (by decide) rfl (fun ls hl => ?_)
        refine lv_iinc (v := (y4 + (1 : Int32))) (lv' := [(4, .int (y4 + (1 : Int32))), (2, .int (y2 * (r_15 * z0))), (3, .int z0), (0, .ref (a 28)), (1, .int y1)]) hx hb dX10_ordersOf_62 hl (k := 4) rfl rfl (by decide) rfl (fun ls hl => ?_)
        refine lv_goto (tgt := 7) hx hb dX10_ordersOf_65 (by decide) ?_
        exact w_7 y1 (y2 * (r_15 * z0)) z0 (y4 + (1 : Int32)) H locs ls hf hP hD hS (lv_sub hl [3, 4, 1, 2, 0] rfl)
      have w_48 : ∀ (y1 : Int32) (y2 : Int32) (y4 : Int32) (H : Heap) (locs : List Loc) (ls : Array Slot), (f_X10_ordersOf_48 (f_X10_ordersOf_49 ((f_X10_ordersOf_7 v10_sizeOf v10_longOf v10_row) n_7) v10_sizeOf v10_longOf v10_row) v10_sizeOf v10_longOf v10_row) y1 y2 y4 = some ro → va_P D xcl (wd_X10 a cyI cyJ v10_firstOf v10_sizeOf v10_longOf v10_row v10_character v10_sum v10_coefficient v10_undone v10_wasSum v10_wasCoefficient v10_hasImage v10_letter v10_letters v10_list v10_cell v10_refusals v10_tried v10_left v10_high v10_then v10_at v10_readSize) H → va_D A (wd_X10 a cyI cyJ v10_firstOf v10_sizeOf v10_longOf v10_row v10_character v10_sum v10_coefficient v10_undone v10_wasSum v10_wasCoefficient v10_hasImage v10_letter v10_letters v10_list v10_cell v10_refusals v10_tried v10_left v10_high v10_then v10_at v10_readSize) → va_S A s.heap H locs → lv_has ls 5 [(0, .ref (a 28)), (1, .int y1), (2, .int y2), (4, .int y4)] → W p l e { frames := 1, cells := 0, slots := 0, locals := 22 } s m args below meth c H locs 0 0 Q (F0 m 48 ls []) := by
        intro y1 y2 y4 H locs ls hf hP hD hS hl
        unfold f_X10_ordersOf_48 at hf
        refine lv_iconst (v := (1 : Int32)) hx hb dX10_ordersOf_48 (by decide) ?_
        exact w_49 y1 y2 y4 (1 : Int32) H locs ls hf hP hD hS (lv_sub hl [0, 1, 2, 3] rfl)
      refine lv_iload hx hb dX10_ordersOf_7 (lv_at hl 4 rfl) ?_
      refine lv_aload_n hx hb dX10_ordersOf_9 rfl (lv_at hl 0 rfl) ?_
      refine va_get (ci := 10) (v := .ref (a 31)) hx hb hts wX10_in hown hK hP 0 rfl rfl 2 (by decide) (hts _ mw_4_194) (fun _ h9 => h9) rfl dX10_ordersOf_10 ?_
      refine lv_iload_n hx hb dX10_ordersOf_13 rfl (lv_at hl 1 rfl) ?_
      obtain ⟨hi_17, hf⟩ := pe_in hf
      refine va_iald hx hb hK hP 3 0 rfl rfl hi_17 dX10_ordersOf_14 ?_
      refine lv_icmp_ge (tgt := 68) hx hb dX10_ordersOf_15 (by decide) (fun hc_18 => ?_) (fun hc_18 => ?_)
      · have hf := pe_t hf hc_18
        refine lv_aload_n hx hb dX10_ordersOf_68 rfl (lv_at hl 0 rfl) ?_
        refine va_get (ci := 10) (v := .ref (a 30)) hx hb hts wX10_in hown hK hP 0 rfl rfl 1 (by decide) (hts _ mw_4_193) (fun _ h9 => h9) rfl dX10_ordersOf_69 ?_
        refine lv_iload_n hx hb dX10_ordersOf_72 rfl (lv_at hl 1 rfl) ?_
        obtain ⟨hi_19, hf⟩ := pe_in hf
        refine va_iald hx hb hK hP 2 0 rfl rfl hi_19 dX10_ordersOf_73 ?_
        obtain ⟨r_20, hk_21, hf⟩ := pe_1 hf
        refine xw_i (As := [.int (v10_sizeOf (Int32.toNatClampNeg y1))]) (rest := []) Cx hP hD hS hl (xq_none _) (c_X10_times l D cyI cyJ G H.size (v10_sizeOf (Int32.toNatClampNeg y1)) r_20 hk_21) pk_X10_times mw_5_41 ⟨rfl, rfl, Nat.le_of_ble_eq_true rfl, Nat.le_of_ble_eq_true rfl⟩ rfl rfl (Nat.le_of_ble_eq_true rfl) ⟨Nat.le_of_ble_eq_true rfl, Nat.le_of_ble_eq_true rfl⟩ dX10_ordersOf_74 (fun H locs hP hD hS => ?_)
        refine lv_iload_n hx hb dX10_ordersOf_77 rfl (lv_at hl 2 rfl) ?_
        obtain ⟨hz_22, hf⟩ := pe_nz hf
        refine lv_idiv hx hb dX10_ordersOf_78 hz_22 ?_
        obtain rfl := po_1 hf
        rw [← hQ]; exact xe_iret Cx rfl hP hD hS dX10_ordersOf_79
      · have hf := pe_f hf hc_18
        refine lv_iload hx hb dX10_ordersOf_18 (lv_at hl 4 rfl) ?_
        refine lv_if_le (tgt := 48) hx hb dX10_ordersOf_20 (by decide) (fun hc_23 => ?_) (fun hc_23 => ?_)
        · have hf := pe_t hf hc_23
          exact w_48 y1 y2 y4 H locs ls hf hP hD hS (lv_sub hl [0, 1, 2, 4] rfl)
        · have hf := pe_f hf hc_23
          refine lv_aload_n hx hb dX10_ordersOf_23 rfl (lv_at hl 0 rfl) ?_
          refine lv_iload_n hx hb dX10_ordersOf_24 rfl (lv_at hl 1 rfl) ?_
          refine lv_iload hx hb dX10_ordersOf_25 (lv_at hl 4 rfl) ?_
          obtain ⟨r_24, hk_25, hf⟩ := pe_1 hf
          refine xv_i (As := [.int y1, .int y4]) (rest := []) (q0 := 0) (ci := 10) Cx hP hD hS hl (pl_X10_X10 a cyI cyJ v10_firstOf v10_sizeOf v10_longOf v10_row v10_character v10_sum v10_coefficient v10_undone v10_wasSum v10_wasCoefficient v10_hasImage v10_letter v10_letters v10_list v10_cell v10_refusals v10_tried v10_left v10_high v10_then v10_at v10_readSize v10_firstOf v10_sizeOf v10_longOf v10_row v10_character v10_sum v10_coefficient v10_undone v10_wasSum v10_wasCoefficient v10_hasImage v10_letter v10_letters v10_list v10_cell v10_refusals v10_tried v10_left v10_high v10_then v10_at v10_readSize) (c_X10_rowOf l D cyI cyJ G a H.size v10_firstOf v10_sizeOf v10_longOf v10_row v10_character v10_sum v10_coefficient v10_undone v10_wasSum v10_wasCoefficient v10_hasImage v10_letter v10_letters v10_list v10_cell v10_refusals v10_tried v10_left v10_high v10_then v10_at v10_readSize y1 y4 r_24 hk_25) pk_X10_rowOf mw_4_159 ⟨rfl, rfl, Nat.le_of_ble_eq_true rfl, Nat.le_of_ble_eq_true rfl⟩ rfl rfl rfl rfl rfl (Nat.le_of_ble_eq_true rfl) ⟨Nat.le_of_ble_eq_true rfl, Nat.le_of_ble_eq_true rfl⟩ dX10_ordersOf_27 (fun H locs hP hD hS => ?_)
          refine lv_aload_n hx hb dX10_ordersOf_30 rfl (lv_at hl 0 rfl) ?_
          refine lv_iload_n hx hb dX10_ordersOf_31 rfl (lv_at hl 1 rfl) ?_
          refine lv_iload hx hb dX10_ordersOf_32 (lv_at hl 4 rfl) ?_
          refine lv_iconst (v := (1 : Int32)) hx hb dX10_ordersOf_34 (by decide) ?_
          refine lv_isub hx hb dX10_ordersOf_35 ?_
          obtain ⟨r_26, hk_27, hf⟩ := pe_1 hf
          refine xv_i (As := [.int y1, .int (y4 - (1 : Int32))]) (rest := [.int r_24]) (q0 := 0) (ci := 10) Cx hP hD hS hl (pl_X10_X10 a cyI cyJ v10_firstOf v10_sizeOf v10_longOf v10_row v10_character v10_sum v10_coefficient v10_undone v10_wasSum v10_wasCoefficient v10_hasImage v10_letter v10_letters v10_list v10_cell v10_refusals v10_tried v10_left v10_high v10_then v10_at v10_readSize v10_firstOf v10_sizeOf v10_longOf v10_row v10_character v10_sum v10_coefficient v10_undone v10_wasSum v10_wasCoefficient v10_hasImage v10_letter v10_letters v10_list v10_cell v10_refusals v10_tried v10_left v10_high v10_then v10_at v10_readSize) (c_X10_rowOf l D cyI cyJ G a H.size v10_firstOf v10_sizeOf v10_longOf v10_row v10_character v10_sum v10_coefficient v10_undone v10_wasSum v10_wasCoefficient v10_hasImage v10_letter v10_letters v10_list v10_cell v10_refusals v10_tried v10_left v10_high v10_then v10_at v10_readSize y1 (y4 - (1 : Int32)) r_26 hk_27) pk_X10_rowOf mw_4_159 ⟨rfl, rfl, Nat.le_of_ble_eq_true rfl, Nat.le_of_ble_eq_true rfl⟩ rfl rfl rfl rfl rfl (Nat.le_of_ble_eq_true rfl) ⟨Nat.le_of_ble_eq_true rfl, Nat.le_of_ble_eq_true rfl⟩ dX10_ordersOf_36 (fun H locs hP hD hS => ?_)
          refine lv_icmp_ne (tgt := 48) hx hb dX10_ordersOf_39 (by decide) (fun hc_28 => ?_) (fun hc_28 => ?_)
          · have hf := pe_f hf hc_28
            exact w_48 y1 y2 y4 H locs ls hf hP hD hS (lv_sub hl [0, 1, 2, 4] rfl)
          · have hf := pe_t hf hc_28
            refine lv_iload_n hx hb dX10_ordersOf_42 rfl (lv_at hl 3 rfl) ?_
            refine lv_iconst (v := (1 : Int32)) hx hb dX10_ordersOf_43 (by decide) ?_
            refine lv_iadd hx hb dX10_ordersOf_44 ?_
            refine lv_goto (tgt := 49) hx hb dX10_ordersOf_45 (by decide) ?_
            exact w_49 y1 y2 y4 (y3 + (1 : Int32)) H locs ls hf hP hD hS (lv_sub hl [0, 1, 2, 4] rfl)
  refine lv_iconst (v := (1 : Int32)) hx hb dX10_ordersOf_0 (by decide) ?_
  refine lv_istore_n (lv' := [(2, .int (1 : Int32)), (0, .ref (a 28)), (1, .int x1)]) hx hb dX10_ordersOf_1 rfl hl (by decide) rfl (fun ls hl => ?_)
  refine lv_iconst (v := (0 : Int32)) hx hb dX10_ordersOf_2 (by decide) ?_
  refine lv_istore_n (lv' := [(3, .int (0 : Int32)), (2, .int (1 : Int32)), (0, .ref (a 28)), (1, .int x1)]) hx hb dX10_ordersOf_3 rfl hl (by decide) rfl (fun ls hl => ?_)
  refine lv_iconst (v := (0 : Int32)) hx hb dX10_ordersOf_4 (by decide) ?_
  refine lv_istore (lv' := [(4, .int (0 : Int32)), (3, .int (0 : Int32)), (2, .int (1 : Int32)), (0, .ref (a 28)), (1, .int x1)]) hx hb dX10_ordersOf_5 hl (by decide) rfl (fun ls hl => ?_)
  exact w_7 1000 x1 (1 : Int32) (0 : Int32) (0 : Int32) H locs ls hf hP hD hS (lv_sub hl [3, 4, 2, 1, 0] rfl)
def f_X10_takesOff_47 (K_17 : (Nat → Int32) → Int32 → Int32 → Int32 → Int32 → Int32 → Int32 → Int32 → Option ((Nat → Int32) × Int32 × Int32)) (v10_longOf : Nat → Int32) (v10_row : Nat → Int32) (v10_tried : Nat → Int32) (v10_left : Int32) (v10_high : Int32) (y1 : Int32) (y2 : Int32) (y3 : Int32) (y4 : Int32) (y5 : Int32) (z0 : Int32) : Option ((Nat → Int32) × Int32 × Int32) := p_b1 (f_X10_rowOf v10_row y1 y5) (fun r_1 => p_in z0 9 (K_17 (upd v10_tried (Int32.toNatClampNeg z0) r_1) v10_left v10_high y1 y2 y3 y4 (y5 + (1 : Int32))))
def gf_X10_takesOff_17 (K_17 : (Nat → Int32) → Int32 → Int32 → Int32 → Int32 → Int32 → Int32 → Int32 → Option ((Nat → Int32) × Int32 × Int32)) (v10_longOf : Nat → Int32) (v10_row : Nat → Int32) (v10_tried : Nat → Int32) (v10_left : Int32) (v10_high : Int32) (y1 : Int32) (y2 : Int32) (y3 : Int32) (y4 : Int32) (y5 : Int32) : Option ((Nat → Int32) × Int32 × Int32) := p_in y1 67 (if (v10_longOf (Int32.toNatClampNeg y1)) ≤ y5 then (p_b1 (f_X10_shapeTried v10_row v10_tried) (fun r_6 => some (v10_tried, r_6, (y4 - y2)))) else (if y5 < y2 then ((f_X10_takesOff_47 K_17 v10_longOf v10_row) v10_tried v10_left v10_high y1 y2 y3 y4 y5 y5) else (if y5 ≤ y4 then (if y5 = y4 then (p_in y5 9 (K_17 (upd v10_tried (Int32.toNatClampNeg y5) y3) v10_left v10_high y1 y2 y3 y4 (y5 + (1 : Int32)))) else (p_b1 (f_X10_rowOf v10_row y1 (y5 + (1 : Int32))) (fun r_11 => p_in y5 9 (K_17 (upd v10_tried (Int32.toNatClampNeg y5) (r_11 - (1 : Int32))) v10_left v10_high y1 y2 y3 y4 (y5 + (1 : Int32)))))) else ((f_X10_takesOff_47 K_17 v10_longOf v10_row) v10_tried v10_left v10_high y1 y2 y3 y4 y5 y5))))
def f_X10_takesOff_17 (v10_longOf : Nat → Int32) (v10_row : Nat → Int32) : Nat → (Nat → Int32) → Int32 → Int32 → Int32 → Int32 → Int32 → Int32 → Int32 → Option ((Nat → Int32) × Int32 × Int32)
  | 0 => fun _ _ _ _ _ _ _ _ => none
  | n + 1 => gf_X10_takesOff_17 (f_X10_takesOff_17 v10_longOf v10_row n) v10_longOf v10_row
def f_X10_takesOff (v10_longOf : Nat → Int32) (v10_row : Nat → Int32) (v10_tried : Nat → Int32) (v10_left : Int32) (v10_high : Int32) (x1 : Int32) (x2 : Int32) (x3 : Int32) : Option ((Nat → Int32) × Int32 × Int32) := p_b1 (f_X10_column v10_longOf v10_row x1 x3) (fun r_15 => p_b1 (f_X10_triesNone v10_tried) (fun v10_tried_17 => (f_X10_takesOff_17 v10_longOf v10_row 1000) v10_tried_17 v10_left v10_high x1 x2 x3 (r_15 - (1 : Int32)) (0 : Int32)))
set_option maxHeartbeats 4000000 in
set_option maxRecDepth 20000 in
theorem c_X10_takesOff (l : Launch) (D : va_G) (cyI cyJ : ClassId) (G a : Nat → Nat) (sz : Nat) (v10_firstOf : Nat → Int32) (v10_sizeOf : Nat → Int32) (v10_longOf : Nat → Int32) (v10_row : Nat → Int32) (v10_character : Nat → Int32) (v10_sum : Nat → Int32) (v10_coefficient : Nat → Int32) (v10_undone : Int32) (v10_wasSum : Nat → Int32) (v10_wasCoefficient : Nat → Int32) (v10_hasImage : Int32) (v10_letter : Nat → Int32) (v10_letters : Int32) (v10_list : Nat → Int32) (v10_cell : Nat → Int32) (v10_refusals : Nat → Int32) (v10_tried : Nat → Int32) (v10_left : Int32) (v10_high : Int32) (v10_then : Nat → Int64) (v10_at : Int32) (v10_readSize : Int32) (x1 : Int32) (x2 : Int32) (x3 : Int32) (ov10_tried : Nat → Int32) (ov10_left : Int32) (ov10_high : Int32) (hf : f_X10_takesOff v10_longOf v10_row v10_tried v10_left v10_high x1 x2 x3 = some (ov10_tried, ov10_left, ov10_high)) : xm_v l yX10_takesOff (Cond.code yX10_takesOff cX10_takesOff 6 none :: xg_tbl) { frames := 2, cells := 0, slots := 0, locals := 46 } D xcl [(cyI, .int), (cyJ, .long)] G sz [.ref (a 28), .int x1, .int x2, .int x3] (wd_X10 a cyI cyJ v10_firstOf v10_sizeOf v10_longOf v10_row v10_character v10_sum v10_coefficient v10_undone v10_wasSum v10_wasCoefficient v10_hasImage v10_letter v10_letters v10_list v10_cell v10_refusals v10_tried v10_left v10_high v10_then v10_at v10_readSize) (wd_X10 a cyI cyJ v10_firstOf v10_sizeOf v10_longOf v10_row v10_character v10_sum v10_coefficient v10_undone v10_wasSum v10_wasCoefficient v10_hasImage v10_letter v10_letters v10_list v10_cell v10_refusals ov10_tried ov10_left ov10_high v10_then v10_at v10_readSize) := by
  refine xm_of_v (own := RX10) (by decide) rfl rfl (Nat.le_of_ble_eq_true rfl) ?_
  intro p e s m args below meth c ls Q A hQ hAe hin Cx hsz hP hD hS hl
  have Cx1 := Cx
  obtain ⟨⟨hx, hb, hml, hown, hts⟩, hr, hlocks, hK, hA, hT⟩ := Cx1
  have hl : lv_has ls 6 [(0, .ref (a 28)), (1, .int x1), (2, .int x2), (3, .int x3)] := hl
  obtain ⟨H, eH⟩ : ∃ H, H = s.heap := ⟨_, rfl⟩
  obtain ⟨locs, eL⟩ : ∃ L : List Loc, L = [] := ⟨_, rfl⟩
  rw [← eH] at hP
  have hS : va_S A s.heap H locs := by rw [eH, eL]; exact hS
  suffices hgo : W p l e { frames := 2, cells := 0, slots := 0, locals := 46 } s m args below meth c H locs 0 0 Q (F0 m 0 ls []) by rw [eH, eL] at hgo; exact hgo
  clear eH eL
  unfold f_X10_takesOff at hf
  have w_17 : ∀ (n_17 : Nat) (v10_tried : Nat → Int32) (v10_left : Int32) (v10_high : Int32) (y1 : Int32) (y2 : Int32) (y3 : Int32) (y4 : Int32) (y5 : Int32) (H : Heap) (locs : List Loc) (ls : Array Slot), (f_X10_takesOff_17 v10_longOf v10_row) n_17 v10_tried v10_left v10_high y1 y2 y3 y4 y5 = some (ov10_tried, ov10_left, ov10_high) → va_P D xcl (wd_X10 a cyI cyJ v10_firstOf v10_sizeOf v10_longOf v10_row v10_character v10_sum v10_coefficient v10_undone v10_wasSum v10_wasCoefficient v10_hasImage v10_letter v10_letters v10_list v10_cell v10_refusals v10_tried v10_left v10_high v10_then v10_at v10_readSize) H → va_D A (wd_X10 a cyI cyJ v10_firstOf v10_sizeOf v10_longOf v10_row v10_character v10_sum v10_coefficient v10_undone v10_wasSum v10_wasCoefficient v10_hasImage v10_letter v10_letters v10_list v10_cell v10_refusals v10_tried v10_left v10_high v10_then v10_at v10_readSize) → va_S A s.heap H locs → lv_has ls 6 [(0, .ref (a 28)), (1, .int y1), (2, .int y2), (3, .int y3), (4, .int y4), (5, .int y5)] → W p l e { frames := 2, cells := 0, slots := 0, locals := 46 } s m args below meth c H locs 0 0 Q (F0 m 17 ls []) := by
    intro n_17
    induction n_17 with
    | zero => intro v10_tried v10_left v10_high y1 y2 y3 y4 y5 H locs ls hf; exact absurd hf (by intro h9; cases h9)
    | succ n_17 w_17 =>
      intro v10_tried v10_left v10_high y1 y2 y3 y4 y5 H locs ls hf hP hD hS hl
      have hf : gf_X10_takesOff_17 ((f_X10_takesOff_17 v10_longOf v10_row) n_17) v10_longOf v10_row v10_tried v10_left v10_high y1 y2 y3 y4 y5 = some (ov10_tried, ov10_left, ov10_high) := hf
      unfold gf_X10_takesOff_17 at hf
      have w_47 : ∀ (v10_tried : Nat → Int32) (v10_left : Int32) (v10_high : Int32) (y1 : Int32) (y2 : Int32) (y3 : Int32) (y4 : Int32) (y5 : Int32) (z0 : Int32) (H : Heap) (locs : List Loc) (ls : Array Slot), (f_X10_takesOff_47 ((f_X10_takesOff_17 v10_longOf v10_row) n_17) v10_longOf v10_row) v10_tried v10_left v10_high y1 y2 y3 y4 y5 z0 = some (ov10_tried, ov10_left, ov10_high) → va_P D xcl (wd_X10 a cyI cyJ v10_firstOf v10_sizeOf v10_longOf v10_row v10_character v10_sum v10_coefficient v10_undone v10_wasSum v10_wasCoefficient v10_hasImage v10_letter v10_letters v10_list v10_cell v10_refusals v10_tried v10_left v10_high v10_then v10_at v10_readSize) H → va_D A (wd_X10 a cyI cyJ v10_firstOf v10_sizeOf v10_longOf v10_row v10_character v10_sum v10_coefficient v10_undone v10_wasSum v10_wasCoefficient v10_hasImage v10_letter v10_letters v10_list v10_cell v10_refusals v10_tried v10_left v10_high v10_then v10_at v10_readSize) → va_S A s.heap H locs → lv_has ls 6 [(0, .ref (a 28)), (1, .int y1), (2, .int y2), (3, .int y3), (4, .int y4), (5, .int y5)] → W p l e { frames := 2, cells := 0, slots := 0, locals := 46 } s m args below meth c H locs 0 0 Q (F0 m 47 ls [.int z0, .ref (a 42)]) := by
        intro v10_tried v10_left v10_high y1 y2 y3 y4 y5 z0 H locs ls hf hP hD hS hl
        unfold f_X10_takesOff_47 at hf
        refine lv_aload_n hx hb dX10_takesOff_47 rfl (lv_at hl 0 rfl) ?_
        refine lv_iload_n hx hb dX10_takesOff_48 rfl (lv_at hl 1 rfl) ?_
        refine lv_iload hx hb dX10_takesOff_49 (lv_at hl 5 rfl) ?_
        obtain ⟨r_19, hk_20, hf⟩ := pe_1 hf
        refine xv_i (As := [.int y1, .int y5]) (rest := [.int z0, .ref (a 42)]) (q0 := 0) (ci := 10) Cx hP hD hS hl (pl_X10_X10 a cyI cyJ v10_firstOf v10_sizeOf v10_longOf v10_row v10_character v10_sum v10_coefficient v10_undone v10_wasSum v10_wasCoefficient v10_hasImage v10_letter v10_letters v10_list v10_cell v10_refusals v10_tried v10_left v10_high v10_then v10_at v10_readSize v10_firstOf v10_sizeOf v10_longOf v10_row v10_character v10_sum v10_coefficient v10_undone v10_wasSum v10_wasCoefficient v10_hasImage v10_letter v10_letters v10_list v10_cell v10_refusals v10_tried v10_left v10_high v10_then v10_at v10_readSize) (c_X10_rowOf l D cyI cyJ G a H.size v10_firstOf v10_sizeOf v10_longOf v10_row v10_character v10_sum v10_coefficient v10_undone v10_wasSum v10_wasCoefficient v10_hasImage v10_letter v10_letters v10_list v10_cell v10_refusals v10_tried v10_left v10_high v10_then v10_at v10_readSize y1 y5 r_19 hk_20) pk_X10_rowOf mw_4_159 ⟨rfl, rfl, Nat.le_of_ble_eq_true rfl, Nat.le_of_ble_eq_true rfl⟩ rfl rfl rfl rfl rfl (Nat.le_of_ble_eq_true rfl) ⟨Nat.le_of_ble_eq_true rfl, Nat.le_of_ble_eq_true rfl⟩ dX10_takesOff_51 (fun H locs hP hD hS => ?_)
        refine lv_goto (tgt := 79) hx hb dX10_takesOff_54 (by decide) ?_
        obtain ⟨hi_21, hf⟩ := pe_in hf
        refine va_iast hx hb hK hP hD hS 14 0 rfl rfl hi_21 dX10_takesOff_79 (fun H locs hP hD hS => ?_)
        have hP : va_P D xcl (wd_X10 a cyI cyJ v10_firstOf v10_sizeOf v10_longOf v10_row v10_character v10_sum v10_coefficient v10_undone v10_wasSum v10_wasCoefficient v10_hasImage v10_letter v10_letters v10_list v10_cell v10_refusals (upd v10_tried (Int32.toNatClampNeg z0) r_19) v10_left v10_high v10_then v10_at v10_readSize) H := hP
        have hD : va_D A (wd_X10 a cyI cyJ v10_firstOf v10_sizeOf v10_longOf v10_row v10_character v10_sum v10_coefficient v10_undone v10_wasSum v10_wasCoefficient v10_hasImage v10_letter v10_letters v10_list v10_cell v10_refusals (upd v10_tried (Int32.toNatClampNeg z0) r_19) v10_left v10_high v10_then v10_at v10_readSize) := hD
        refine lv_iinc (v := (y5 + (1 : Int32))) (lv' := [(5, .int (y5 + (1 : Int32))), (0, .ref (a 28)), (1, .int y1), (2, .int y2), (3, .int y3), (4, .int y4)]) hx hb dX10_takesOff_80 hl (k := 5) rfl rfl (by decide) rfl (fun ls hl => ?_)
        refine lv_goto (tgt := 17) hx hb dX10_takesOff_83 (by decide) ?_
        exact w_17 (upd v10_tried (Int32.toNatClampNeg z0) r_19) v10_left v10_high y1 y2 y3 y4 (y5 + (1 : Int32)) H locs ls hf hP hD hS (lv_sub hl [1, 2, 3, 4, 5, 0] rfl)
      refine lv_iload hx hb dX10_takesOff_17 (lv_at hl 5 rfl) ?_
      refine lv_aload_n hx hb dX10_takesOff_19 rfl (lv_at hl 0 rfl) ?_
      refine va_get (ci := 10) (v := .ref (a 31)) hx hb hts wX10_in hown hK hP 0 rfl rfl 2 (by decide) (hts _ mw_4_194) (fun _ h9 => h9) rfl dX10_takesOff_20 ?_
      refine lv_iload_n hx hb dX10_takesOff_23 rfl (lv_at hl 1 rfl) ?_
      obtain ⟨hi_22, hf⟩ := pe_in hf
      refine va_iald hx hb hK hP 3 0 rfl rfl hi_22 dX10_takesOff_24 ?_
      refine lv_icmp_ge (tgt := 86) hx hb dX10_takesOff_25 (by decide) (fun hc_23 => ?_) (fun hc_23 => ?_)
      · have hf := pe_t hf hc_23
        refine lv_aload_n hx hb dX10_takesOff_86 rfl (lv_at hl 0 rfl) ?_
        refine lv_aload_n hx hb dX10_takesOff_87 rfl (lv_at hl 0 rfl) ?_
        obtain ⟨r_24, hk_25, hf⟩ := pe_1 hf
        refine xv_i (As := []) (rest := [.ref (a 28)]) (q0 := 0) (ci := 10) Cx hP hD hS hl (pl_X10_X10 a cyI cyJ v10_firstOf v10_sizeOf v10_longOf v10_row v10_character v10_sum v10_coefficient v10_undone v10_wasSum v10_wasCoefficient v10_hasImage v10_letter v10_letters v10_list v10_cell v10_refusals v10_tried v10_left v10_high v10_then v10_at v10_readSize v10_firstOf v10_sizeOf v10_longOf v10_row v10_character v10_sum v10_coefficient v10_undone v10_wasSum v10_wasCoefficient v10_hasImage v10_letter v10_letters v10_list v10_cell v10_refusals v10_tried v10_left v10_high v10_then v10_at v10_readSize) (c_X10_shapeTried l D cyI cyJ G a H.size v10_firstOf v10_sizeOf v10_longOf v10_row v10_character v10_sum v10_coefficient v10_undone v10_wasSum v10_wasCoefficient v10_hasImage v10_letter v10_letters v10_list v10_cell v10_refusals v10_tried v10_left v10_high v10_then v10_at v10_readSize r_24 hk_25) pk_X10_shapeTried mw_4_172 ⟨rfl, rfl, Nat.le_of_ble_eq_true rfl, Nat.le_of_ble_eq_true rfl⟩ rfl rfl rfl rfl rfl (Nat.le_of_ble_eq_true rfl) ⟨Nat.le_of_ble_eq_true rfl, Nat.le_of_ble_eq_true rfl⟩ dX10_takesOff_88 (fun H locs hP hD hS => ?_)
        refine va_put (ci := 10) (v := .int r_24) (ty := .int) hx hb hts wX10_in tyX10 tyX10_ok nmX10 hown hK hP hD hS 0 rfl rfl 17 (by decide) (hts _ mw_4_209) (fun _ h9 => h9) rfl (by decide +kernel) rfl rfl (Nat.le_of_ble_eq_true rfl) dX10_takesOff_91 (fun H locs hP hD hS => ?_)
        have hP : va_P D xcl (wd_X10 a cyI cyJ v10_firstOf v10_sizeOf v10_longOf v10_row v10_character v10_sum v10_coefficient v10_undone v10_wasSum v10_wasCoefficient v10_hasImage v10_letter v10_letters v10_list v10_cell v10_refusals v10_tried r_24 v10_high v10_then v10_at v10_readSize) H := hP
        have hD : va_D A (wd_X10 a cyI cyJ v10_firstOf v10_sizeOf v10_longOf v10_row v10_character v10_sum v10_coefficient v10_undone v10_wasSum v10_wasCoefficient v10_hasImage v10_letter v10_letters v10_list v10_cell v10_refusals v10_tried r_24 v10_high v10_then v10_at v10_readSize) := hD
        refine lv_aload_n hx hb dX10_takesOff_94 rfl (lv_at hl 0 rfl) ?_
        refine lv_iload hx hb dX10_takesOff_95 (lv_at hl 4 rfl) ?_
        refine lv_iload_n hx hb dX10_takesOff_97 rfl (lv_at hl 2 rfl) ?_
        refine lv_isub hx hb dX10_takesOff_98 ?_
        refine va_put (ci := 10) (v := .int (y4 - y2)) (ty := .int) hx hb hts wX10_in tyX10 tyX10_ok nmX10 hown hK hP hD hS 0 rfl rfl 18 (by decide) (hts _ mw_4_210) (fun _ h9 => h9) rfl (by decide +kernel) rfl rfl (Nat.le_of_ble_eq_true rfl) dX10_takesOff_99 (fun H locs hP hD hS => ?_)
        have hP : va_P D xcl (wd_X10 a cyI cyJ v10_firstOf v10_sizeOf v10_longOf v10_row v10_character v10_sum v10_coefficient v10_undone v10_wasSum v10_wasCoefficient v10_hasImage v10_letter v10_letters v10_list v10_cell v10_refusals v10_tried r_24 (y4 - y2) v10_then v10_at v10_readSize) H := hP
        have hD : va_D A (wd_X10 a cyI cyJ v10_firstOf v10_sizeOf v10_longOf v10_row v10_character v10_sum v10_coefficient v10_undone v10_wasSum v10_wasCoefficient v10_hasImage v10_letter v10_letters v10_list v10_cell v10_refusals v10_tried r_24 (y4 - y2) v10_then v10_at v10_readSize) := hD
        obtain ⟨rfl, rfl, rfl⟩ := po_3 hf
        rw [← hQ]; exact xe_vret Cx hP hD hS dX10_takesOff_102
      · have hf := pe_f hf hc_23
        refine lv_aload_n hx hb dX10_takesOff_28 rfl (lv_at hl 0 rfl) ?_
        refine va_get (ci := 10) (v := .ref (a 42)) hx hb hts wX10_in hown hK hP 0 rfl rfl 16 (by decide) (hts _ mw_4_208) (fun _ h9 => h9) rfl dX10_takesOff_29 ?_
        refine lv_iload hx hb dX10_takesOff_32 (lv_at hl 5 rfl) ?_
        refine lv_iload hx hb dX10_takesOff_34 (lv_at hl 5 rfl) ?_
        refine lv_iload_n hx hb dX10_takesOff_36 rfl (lv_at hl 2 rfl) ?_
        refine lv_icmp_lt (tgt := 47) hx hb dX10_takesOff_37 (by decide) (fun hc_26 => ?_) (fun hc_26 => ?_)
        · have hf := pe_t hf hc_26
          exact w_47 v10_tried v10_left v10_high y1 y2 y3 y4 y5 y5 H locs ls hf hP hD hS (lv_sub hl [0, 1, 2, 3, 4, 5] rfl)
        · have hf := pe_f hf hc_26
          refine lv_iload hx hb dX10_takesOff_40 (lv_at hl 5 rfl) ?_
          refine lv_iload hx hb dX10_takesOff_42 (lv_at hl 4 rfl) ?_
          refine lv_icmp_le (tgt := 57) hx hb dX10_takesOff_44 (by decide) (fun hc_27 => ?_) (fun hc_27 => ?_)
          · have hf := pe_t hf hc_27
            refine lv_iload hx hb dX10_takesOff_57 (lv_at hl 5 rfl) ?_
            refine lv_iload hx hb dX10_takesOff_59 (lv_at hl 4 rfl) ?_
            refine lv_icmp_ne (tgt := 68) hx hb dX10_takesOff_61 (by decide) (fun hc_28 => ?_) (fun hc_28 => ?_)
            · have hf := pe_f hf hc_28
              refine lv_aload_n hx hb dX10_takesOff_68 rfl (lv_at hl 0 rfl) ?_
              refine lv_iload_n hx hb dX10_takesOff_69 rfl (lv_at hl 1 rfl) ?_
              refine lv_iload hx hb dX10_takesOff_70 (lv_at hl 5 rfl) ?_
              refine lv_iconst (v := (1 : Int32)) hx hb dX10_takesOff_72 (by decide) ?_
              refine lv_iadd hx hb dX10_takesOff_73 ?_
              obtain ⟨r_29, hk_30, hf⟩ := pe_1 hf
              refine xv_i (As := [.int y1, .int (y5 + (1 : Int32))]) (rest := [.int y5, .ref (a 42)]) (q0 := 0) (ci := 10) Cx hP hD hS hl (pl_X10_X10 a cyI cyJ v10_firstOf v10_sizeOf v10_longOf v10_row v10_character v10_sum v10_coefficient v10_undone v10_wasSum v10_wasCoefficient v10_hasImage v10_letter v10_letters v10_list v10_cell v10_refusals v10_tried v10_left v10_high v10_then v10_at v10_readSize v10_firstOf v10_sizeOf v10_longOf v10_row v10_character v10_sum v10_coefficient v10_undone v10_wasSum v10_wasCoefficient v10_hasImage v10_letter v10_letters v10_list v10_cell v10_refusals v10_tried v10_left v10_high v10_then v10_at v10_readSize) (c_X10_rowOf l D cyI cyJ G a H.size v10_firstOf v10_sizeOf v10_longOf v10_row v10_character v10_sum v10_coefficient v10_undone v10_wasSum v10_wasCoefficient v10_hasImage v10_letter v10_letters v10_list v10_cell v10_refusals v10_tried v10_left v10_high v10_then v10_at v10_readSize y1 (y5 + (1 : Int32)) r_29 hk_30) pk_X10_rowOf mw_4_159 ⟨rfl, rfl, Nat.le_of_ble_eq_true rfl, Nat.le_of_ble_eq_true rfl⟩ rfl rfl rfl rfl rfl (Nat.le_of_ble_eq_true rfl) ⟨Nat.le_of_ble_eq_true rfl, Nat.le_of_ble_eq_true rfl⟩ dX10_takesOff_74 (fun H locs hP hD hS => ?_)
              refine lv_iconst (v := (1 : Int32)) hx hb dX10_takesOff_77 (by decide) ?_
              refine lv_isub hx hb dX10_takesOff_78 ?_
              obtain ⟨hi_31, hf⟩ := pe_in hf
              refine va_iast hx hb hK hP hD hS 14 0 rfl rfl hi_31 dX10_takesOff_79 (fun H locs hP hD hS => ?_)
              have hP : va_P D xcl (wd_X10 a cyI cyJ v10_firstOf v10_sizeOf v10_longOf v10_row v10_character v10_sum v10_coefficient v10_undone v10_wasSum v10_wasCoefficient v10_hasImage v10_letter v10_letters v10_list v10_cell v10_refusals (upd v10_tried (Int32.toNatClampNeg y5) (r_29 - (1 : Int32))) v10_left v10_high v10_then v10_at v10_readSize) H := hP
              have hD : va_D A (wd_X10 a cyI cyJ v10_firstOf v10_sizeOf v10_longOf v10_row v10_character v10_sum v10_coefficient v10_undone v10_wasSum v10_wasCoefficient v10_hasImage v10_letter v10_letters v10_list v10_cell v10_refusals (upd v10_tried (Int32.toNatClampNeg y5) (r_29 - (1 : Int32))) v10_left v10_high v10_then v10_at v10_readSize) := hD
              refine lv_iinc (v := (y5 + (1 : Int32))) (lv' := [(5, .int (y5 + (1 : Int32))), (0, .ref (a 28)), (1, .int y1), (2, .int y2), (3, .int y3), (4, .int y4)]) hx hb dX10_takesOff_80 hl (k := 5) rfl rfl (by decide) rfl (fun ls hl => ?_)
              refine lv_goto (tgt := 17) hx hb dX10_takesOff_83 (by decide) ?_
              exact w_17 (upd v10_tried (Int32.toNatClampNeg y5) (r_29 - (1 : Int32))) v10_left v10_high y1 y2 y3 y4 (y5 + (1 : Int32)) H locs ls hf hP hD hS (lv_sub hl [1, 2, 3, 4, 5, 0] rfl)
            · have hf := pe_t hf hc_28
              refine lv_iload_n hx hb dX10_takesOff_64 rfl (lv_at hl 3 rfl) ?_
              refine lv_goto (tgt := 79) hx hb dX10_takesOff_65 (by decide) ?_
              obtain ⟨hi_32, hf⟩ := pe_in hf
              refine va_iast hx hb hK hP hD hS 14 0 rfl rfl hi_32 dX10_takesOff_79 (fun H locs hP hD hS => ?_)
              have hP : va_P D xcl (wd_X10 a cyI cyJ v10_firstOf v10_sizeOf v10_longOf v10_row v10_character v10_sum v10_coefficient v10_undone v10_wasSum v10_wasCoefficient v10_hasImage v10_letter v10_letters v10_list v10_cell v10_refusals (upd v10_tried (Int32.toNatClampNeg y5) y3) v10_left v10_high v10_then v10_at v10_readSize) H := hP
              have hD : va_D A (wd_X10 a cyI cyJ v10_firstOf v10_sizeOf v10_longOf v10_row v10_character v10_sum v10_coefficient v10_undone v10_wasSum v10_wasCoefficient v10_hasImage v10_letter v10_letters v10_list v10_cell v10_refusals (upd v10_tried (Int32.toNatClampNeg y5) y3) v10_left v10_high v10_then v10_at v10_readSize) := hD
              refine lv_iinc (v := (y5 + (1 : Int32))) (lv' := [(5, .int (y5 + (1 : Int32))), (0, .ref (a 28)), (1, .int y1), (2, .int y2), (3, .int y3), (4, .int y4)]) hx hb dX10_takesOff_80 hl (k := 5) rfl rfl (by decide) rfl (fun ls hl => ?_)
              refine lv_goto (tgt := 17) hx hb dX10_takesOff_83 (by decide) ?_
              exact w_17 (upd v10_tried (Int32.toNatClampNeg y5) y3) v10_left v10_high y1 y2 y3 y4 (y5 + (1 : Int32)) H locs ls hf hP hD hS (lv_sub hl [1, 2, 3, 4, 5, 0] rfl)
          · have hf := pe_f hf hc_27
            exact w_47 v10_tried v10_left v10_high y1 y2 y3 y4 y5 y5 H locs ls hf hP hD hS (lv_sub hl [0, 1, 2, 3, 4, 5] rfl)
  refine lv_aload_n hx hb dX10_takesOff_0 rfl (lv_at hl 0 rfl) ?_
  refine lv_iload_n hx hb dX10_takesOff_1 rfl (lv_at hl 1 rfl) ?_
  refine lv_iload_n hx hb dX10_takesOff_2 rfl (lv_at hl 3 rfl) ?_
  obtain ⟨r_33, hk_34, hf⟩ := pe_1 hf
  refine xv_i (As := [.int x1, .int x3]) (rest := []) (q0 := 0) (ci := 10) Cx hP hD hS hl (pl_X10_X10 a cyI cyJ v10_firstOf v10_sizeOf v10_longOf v10_row v10_character v10_sum v10_coefficient v10_undone v10_wasSum v10_wasCoefficient v10_hasImage v10_letter v10_letters v10_list v10_cell v10_refusals v10_tried v10_left v10_high v10_then v10_at v10_readSize v10_firstOf v10_sizeOf v10_longOf v10_row v10_character v10_sum v10_coefficient v10_undone v10_wasSum v10_wasCoefficient v10_hasImage v10_letter v10_letters v10_list v10_cell v10_refusals v10_tried v10_left v10_high v10_then v10_at v10_readSize) (c_X10_column l D cyI cyJ G a H.size v10_firstOf v10_sizeOf v10_longOf v10_row v10_character v10_sum v10_coefficient v10_undone v10_wasSum v10_wasCoefficient v10_hasImage v10_letter v10_letters v10_list v10_cell v10_refusals v10_tried v10_left v10_high v10_then v10_at v10_readSize x1 x3 r_33 hk_34) pk_X10_column mw_4_184 ⟨rfl, rfl, Nat.le_of_ble_eq_true rfl, Nat.le_of_ble_eq_true rfl⟩ rfl rfl rfl rfl rfl (Nat.le_of_ble_eq_true rfl) ⟨Nat.le_of_ble_eq_true rfl, Nat.le_of_ble_eq_true rfl⟩ dX10_takesOff_3 (fun H locs hP hD hS => ?_)
  refine lv_iconst (v := (1 : Int32)) hx hb dX10_takesOff_6 (by decide) ?_
  refine lv_isub hx hb dX10_takesOff_7 ?_
  refine lv_istore (lv' := [(4, .int (r_33 - (1 : Int32))), (0, .ref (a 28)), (1, .int x1), (2, .int x2), (3, .int x3)]) hx hb dX10_takesOff_8 hl (by decide) rfl (fun ls hl => ?_)
  refine lv_aload_n hx hb dX10_takesOff_10 rfl (lv_at hl 1 rfl) ?_
  obtain ⟨v10_tried_35, hk_36, hf⟩ := pe_1 hf
  refine xv_v (As := []) (rest := []) (q0 := 0) (ci := 10) Cx hP hD hS hl (pl_X10_X10 a cyI cyJ v10_firstOf v10_sizeOf v10_longOf v10_row v10_character v10_sum v10_coefficient v10_undone v10_wasSum v10_wasCoefficient v10_hasImage v10_letter v10_letters v10_list v10_cell v10_refusals v10_tried v10_left v10_high v10_then v10_at v10_readSize v10_firstOf v10_sizeOf v10_longOf v10_row v10_character v10_sum v10_coefficient v10_undone v10_wasSum v10_wasCoefficient v10_hasImage v10_letter v10_letters v10_list v10_cell v10_refusals v10_tried_35 v10_left v10_high v10_then v10_at v10_readSize) (c_X10_triesNone l D cyI cyJ G a H.size v10_firstOf v10_sizeOf v10_longOf v10_row v10_character v10_sum v10_coefficient v10_undone v10_wasSum v10_wasCoefficient v10_hasImage v10_letter v10_letters v10_list v10_cell v10_refusals v10_tried v10_left v10_high v10_then v10_at v10_readSize v10_tried_35 hk_36) pk_X10_triesNone mw_4_168 ⟨rfl, rfl, Nat.le_of_ble_eq_true rfl, Nat.le_of_ble_eq_true rfl⟩ rfl rfl rfl rfl rfl (Nat.le_of_ble_eq_true rfl) ⟨Nat.le_of_ble_eq_true rfl, Nat.le_of_ble_eq_true rfl⟩ dX10_takesOff_11 (fun H locs hP hD hS => ?_)
  refine lv_iconst (v := (0 : Int32)) hx hb dX10_takesOff_14 (by decide) ?_
  refine lv_istore (lv' := [(5, .int (0 : Int32)), (4, .int (r_33 - (1 : Int32))), (0, .ref (a 28)), (1, .int x1), (2, .int x2), (3, .int x3)]) hx hb dX10_takesOff_15 hl (by decide) rfl (fun ls hl => ?_)
  exact w_17 1000 v10_tried_35 v10_left v10_high x1 x2 x3 (r_33 - (1 : Int32)) (0 : Int32) H locs ls hf hP hD hS (lv_sub hl [2, 3, 4, 5, 1, 0] rfl)
def gf_X10_rimOf_20 (K_20 : (Nat → Int32) → Int32 → Int32 → Int32 → Int32 → Int32 → Int32 → Int32 → Int32 → Option (Int32 × (Nat → Int32) × Int32 × Int32)) (K_6 : (Nat → Int32) → Int32 → Int32 → Int32 → Int32 → Int32 → Int32 → Int32 → Option (Int32 × (Nat → Int32) × Int32 × Int32)) (v10_longOf : Nat → Int32) (v10_row : Nat → Int32) (v10_tried : Nat → Int32) (v10_left : Int32) (v10_high : Int32) (y1 : Int32) (y2 : Int32) (y3 : Int32) (y4 : Int32) (y5 : Int32) (y6 : Int32) : Option (Int32 × (Nat → Int32) × Int32 × Int32) := p_b1 (f_X10_rowOf v10_row y1 y5) (fun r_1 => if r_1 ≤ y6 then (K_6 v10_tried v10_left v10_high y1 y2 y3 y4 (y5 + (1 : Int32))) else (p_b1 (f_X10_hookOf v10_longOf v10_row y1 y5 y6) (fun r_4 => if r_4 = y2 then (if y4 = y3 then (p_b3 (f_X10_takesOff v10_longOf v10_row v10_tried v10_left v10_high y1 y5 y6) (fun v10_tried_8 v10_left_9 v10_high_10 => some (y4, v10_tried_8, v10_left_9, v10_high_10))) else (K_20 v10_tried v10_left v10_high y1 y2 y3 (y4 + (1 : Int32)) y5 (y6 + (1 : Int32)))) else (K_20 v10_tried v10_left v10_high y1 y2 y3 y4 y5 (y6 + (1 : Int32))))))
def f_X10_rimOf_20 (K_6 : (Nat → Int32) → Int32 → Int32 → Int32 → Int32 → Int32 → Int32 → Int32 → Option (Int32 × (Nat → Int32) × Int32 × Int32)) (v10_longOf : Nat → Int32) (v10_row : Nat → Int32) : Nat → (Nat → Int32) → Int32 → Int32 → Int32 → Int32 → Int32 → Int32 → Int32 → Int32 → Option (Int32 × (Nat → Int32) × Int32 × Int32)
  | 0 => fun _ _ _ _ _ _ _ _ _ => none
  | n + 1 => gf_X10_rimOf_20 (f_X10_rimOf_20 K_6 v10_longOf v10_row n) K_6 v10_longOf v10_row
def gf_X10_rimOf_6 (K_6 : (Nat → Int32) → Int32 → Int32 → Int32 → Int32 → Int32 → Int32 → Int32 → Option (Int32 × (Nat → Int32) × Int32 × Int32)) (v10_longOf : Nat → Int32) (v10_row : Nat → Int32) (v10_tried : Nat → Int32) (v10_left : Int32) (v10_high : Int32) (y1 : Int32) (y2 : Int32) (y3 : Int32) (y4 : Int32) (y5 : Int32) : Option (Int32 × (Nat → Int32) × Int32 × Int32) := p_in y1 67 (if (v10_longOf (Int32.toNatClampNeg y1)) ≤ y5 then (some (y4, v10_tried, v10_left, v10_high)) else ((f_X10_rimOf_20 K_6 v10_longOf v10_row 1000) v10_tried v10_left v10_high y1 y2 y3 y4 y5 (0 : Int32)))
def f_X10_rimOf_6 (v10_longOf : Nat → Int32) (v10_row : Nat → Int32) : Nat → (Nat → Int32) → Int32 → Int32 → Int32 → Int32 → Int32 → Int32 → Int32 → Option (Int32 × (Nat → Int32) × Int32 × Int32)
  | 0 => fun _ _ _ _ _ _ _ _ => none
  | n + 1 => gf_X10_rimOf_6 (f_X10_rimOf_6 v10_longOf v10_row n) v10_longOf v10_row
def f_X10_rimOf (v10_longOf : Nat → Int32) (v10_row : Nat → Int32) (v10_tried : Nat → Int32) (v10_left : Int32) (v10_high : Int32) (x1 : Int32) (x2 : Int32) (x3 : Int32) : Option (Int32 × (Nat → Int32) × Int32 × Int32) := (f_X10_rimOf_6 v10_longOf v10_row 1000) v10_tried v10_left v10_high x1 x2 x3 (0 : Int32) (0 : Int32)
set_option maxHeartbeats 4000000 in
set_option maxRecDepth 20000 in
theorem c_X10_rimOf (l : Launch) (D : va_G) (cyI cyJ : ClassId) (G a : Nat → Nat) (sz : Nat) (v10_firstOf : Nat → Int32) (v10_sizeOf : Nat → Int32) (v10_longOf : Nat → Int32) (v10_row : Nat → Int32) (v10_character : Nat → Int32) (v10_sum : Nat → Int32) (v10_coefficient : Nat → Int32) (v10_undone : Int32) (v10_wasSum : Nat → Int32) (v10_wasCoefficient : Nat → Int32) (v10_hasImage : Int32) (v10_letter : Nat → Int32) (v10_letters : Int32) (v10_list : Nat → Int32) (v10_cell : Nat → Int32) (v10_refusals : Nat → Int32) (v10_tried : Nat → Int32) (v10_left : Int32) (v10_high : Int32) (v10_then : Nat → Int64) (v10_at : Int32) (v10_readSize : Int32) (x1 : Int32) (x2 : Int32) (x3 : Int32) (ro : Int32) (ov10_tried : Nat → Int32) (ov10_left : Int32) (ov10_high : Int32) (hf : f_X10_rimOf v10_longOf v10_row v10_tried v10_left v10_high x1 x2 x3 = some (ro, ov10_tried, ov10_left, ov10_high)) : xm_i l yX10_rimOf (Cond.code yX10_rimOf cX10_rimOf 7 (some .int) :: xg_tbl) { frames := 3, cells := 0, slots := 0, locals := 71 } D xcl [(cyI, .int), (cyJ, .long)] G sz [.ref (a 28), .int x1, .int x2, .int x3] (wd_X10 a cyI cyJ v10_firstOf v10_sizeOf v10_longOf v10_row v10_character v10_sum v10_coefficient v10_undone v10_wasSum v10_wasCoefficient v10_hasImage v10_letter v10_letters v10_list v10_cell v10_refusals v10_tried v10_left v10_high v10_then v10_at v10_readSize) (wd_X10 a cyI cyJ v10_firstOf v10_sizeOf v10_longOf v10_row v10_character v10_sum v10_coefficient v10_undone v10_wasSum v10_wasCoefficient v10_hasImage v10_letter v10_letters v10_list v10_cell v10_refusals ov10_tried ov10_left ov10_high v10_then v10_at v10_readSize) ro := by
  refine xm_of_i (own := RX10) (by decide) rfl rfl (Nat.le_of_ble_eq_true rfl) ?_
  intro p e s m args below meth c ls Q A hQ hAe hin Cx hsz hP hD hS hl
  have Cx1 := Cx
  obtain ⟨⟨hx, hb, hml, hown, hts⟩, hr, hlocks, hK, hA, hT⟩ := Cx1
  have hl : lv_has ls 7 [(0, .ref (a 28)), (1, .int x1), (2, .int x2), (3, .int x3)] := hl
  obtain ⟨H, eH⟩ : ∃ H, H = s.heap := ⟨_, rfl⟩
  obtain ⟨locs, eL⟩ : ∃ L : List Loc, L = [] := ⟨_, rfl⟩
  rw [← eH] at hP
  have hS : va_S A s.heap H locs := by rw [eH, eL]; exact hS
  suffices hgo : W p l e { frames := 3, cells := 0, slots := 0, locals := 71 } s m args below meth c H locs 0 0 Q (F0 m 0 ls []) by rw [eH, eL] at hgo; exact hgo
  clear eH eL
  unfold f_X10_rimOf at hf
  have w_6 : ∀ (n_6 : Nat) (v10_tried : Nat → Int32) (v10_left : Int32) (v10_high : Int32) (y1 : Int32) (y2 : Int32) (y3 : Int32) (y4 : Int32) (y5 : Int32) (H : Heap) (locs : List Loc) (ls : Array Slot), (f_X10_rimOf_6 v10_longOf v10_row) n_6 v10_tried v10_left v10_high y1 y2 y3 y4 y5 = some (ro, ov10_tried, ov10_left, ov10_high) → va_P D xcl (wd_X10 a cyI cyJ v10_firstOf v10_sizeOf v10_longOf v10_row v10_character v10_sum v10_coefficient v10_undone v10_wasSum v10_wasCoefficient v10_hasImage v10_letter v10_letters v10_list v10_cell v10_refusals v10_tried v10_left v10_high v10_then v10_at v10_readSize) H → va_D A (wd_X10 a cyI cyJ v10_firstOf v10_sizeOf v10_longOf v10_row v10_character v10_sum v10_coefficient v10_undone v10_wasSum v10_wasCoefficient v10_hasImage v10_letter v10_letters v10_list v10_cell v10_refusals v10_tried v10_left v10_high v10_then v10_at v10_readSize) → va_S A s.heap H locs → lv_has ls 7 [(0, .ref (a 28)), (1, .int y1), (2, .int y2), (3, .int y3), (4, .int y4), (5, .int y5)] → W p l e { frames := 3, cells := 0, slots := 0, locals := 71 } s m args below meth c H locs 0 0 Q (F0 m 6 ls []) := by
    intro n_6
    induction n_6 with
    | zero => intro v10_tried v10_left v10_high y1 y2 y3 y4 y5 H locs ls hf; exact absurd hf (by intro h9; cases h9)
    | succ n_6 w_6 =>
      intro v10_tried v10_left v10_high y1 y2 y3 y4 y5 H locs ls hf hP hD hS hl
      have hf : gf_X10_rimOf_6 ((f_X10_rimOf_6 v10_longOf v10_row) n_6) v10_longOf v10_row v10_tried v10_left v10_high y1 y2 y3 y4 y5 = some (ro, ov10_tried, ov10_left, ov10_high) := hf
      unfold gf_X10_rimOf_6 at hf
      have w_20 : ∀ (n_20 : Nat) (v10_tried : Nat → Int32) (v10_left : Int32) (v10_high : Int32) (y1 : Int32) (y2 : Int32) (y3 : Int32) (y4 : Int32) (y5 : Int32) (y6 : Int32) (H : Heap) (locs : List Loc) (ls : Array Slot), (f_X10_rimOf_20 ((f_X10_rimOf_6 v10_longOf v10_row) n_6) v10_longOf v10_row) n_20 v10_tried v10_left v10_high y1 y2 y3 y4 y5 y6 = some (ro, ov10_tried, ov10_left, ov10_high) → va_P D xcl (wd_X10 a cyI cyJ v10_firstOf v10_sizeOf v10_longOf v10_row v10_character v10_sum v10_coefficient v10_undone v10_wasSum v10_wasCoefficient v10_hasImage v10_letter v10_letters v10_list v10_cell v10_refusals v10_tried v10_left v10_high v10_then v10_at v10_readSize) H → va_D A (wd_X10 a cyI cyJ v10_firstOf v10_sizeOf v10_longOf v10_row v10_character v10_sum v10_coefficient v10_undone v10_wasSum v10_wasCoefficient v10_hasImage v10_letter v10_letters v10_list v10_cell v10_refusals v10_tried v10_left v10_high v10_then v10_at v10_readSize) → va_S A s.heap H locs → lv_has ls 7 [(0, .ref (a 28)), (1, .int y1), (2, .int y2), (3, .int y3), (4, .int y4), (5, .int y5), (6, .int y6)] → W p l e { frames := 3, cells := 0, slots := 0, locals := 71 } s m args below meth c H locs 0 0 Q (F0 m 20 ls []) := by
        intro n_20
        induction n_20 with
        | zero => intro v10_tried v10_left v10_high y1 y2 y3 y4 y5 y6 H locs ls hf; exact absurd hf (by intro h9; cases h9)
        | succ n_20 w_20 =>
          intro v10_tried v10_left v10_high y1 y2 y3 y4 y5 y6 H locs ls hf hP hD hS hl
          have hf : gf_X10_rimOf_20 ((f_X10_rimOf_20 ((f_X10_rimOf_6 v10_longOf v10_row) n_6) v10_longOf v10_row) n_20) ((f_X10_rimOf_6 v10_longOf v10_row) n_6) v10_longOf v10_row v10_tried v10_left v10_high y1 y2 y3 y4 y5 y6 = some (ro, ov10_tried, ov10_left, ov10_high) := hf
          unfold gf_X10_rimOf_20 at hf
          refine lv_iload hx hb dX10_rimOf_20 (lv_at hl 6 rfl) ?_
          refine lv_aload_n hx hb dX10_rimOf_22 rfl (lv_at hl 0 rfl) ?_
          refine lv_iload_n hx hb dX10_rimOf_23 rfl (lv_at hl 1 rfl) ?_
          refine lv_iload hx hb dX10_rimOf_24 (lv_at hl 5 rfl) ?_
          obtain ⟨r_14, hk_15, hf⟩ := pe_1 hf
          refine xv_i (As := [.int y1, .int y5]) (rest := [.int y6]) (q0 := 0) (ci := 10) Cx hP hD hS hl (pl_X10_X10 a cyI cyJ v10_firstOf v10_sizeOf v10_longOf v10_row v10_character v10_sum v10_coefficient v10_undone v10_wasSum v10_wasCoefficient v10_hasImage v10_letter v10_letters v10_list v10_cell v10_refusals v10_tried v10_left v10_high v10_then v10_at v10_readSize v10_firstOf v10_sizeOf v10_longOf v10_row v10_character v10_sum v10_coefficient v10_undone v10_wasSum v10_wasCoefficient v10_hasImage v10_letter v10_letters v10_list v10_cell v10_refusals v10_tried v10_left v10_high v10_then v10_at v10_readSize) (c_X10_rowOf l D cyI cyJ G a H.size v10_firstOf v10_sizeOf v10_longOf v10_row v10_character v10_sum v10_coefficient v10_undone v10_wasSum v10_wasCoefficient v10_hasImage v10_letter v10_letters v10_list v10_cell v10_refusals v10_tried v10_left v10_high v10_then v10_at v10_readSize y1 y5 r_14 hk_15) pk_X10_rowOf mw_4_159 ⟨rfl, rfl, Nat.le_of_ble_eq_true rfl, Nat.le_of_ble_eq_true rfl⟩ rfl rfl rfl rfl rfl (Nat.le_of_ble_eq_true rfl) ⟨Nat.le_of_ble_eq_true rfl, Nat.le_of_ble_eq_true rfl⟩ dX10_rimOf_26 (fun H locs hP hD hS => ?_)
          refine lv_icmp_ge (tgt := 75) hx hb dX10_rimOf_29 (by decide) (fun hc_16 => ?_) (fun hc_16 => ?_)
          · have hf := pe_t hf hc_16
            refine lv_iinc (v := (y5 + (1 : Int32))) (lv' := [(5, .int (y5 + (1 : Int32))), (0, .ref (a 28)), (1, .int y1), (2, .int y2), (3, .int y3), (4, .int y4), (6, .int y6)]) hx hb dX10_rimOf_75 hl (k := 5) rfl rfl (by decide) rfl (fun ls hl => ?_)
            refine lv_goto (tgt := 6) hx hb dX10_rimOf_78 (by decide) ?_
            exact w_6 v10_tried v10_left v10_high y1 y2 y3 y4 (y5 + (1 : Int32)) H locs ls hf hP hD hS (lv_sub hl [1, 2, 3, 4, 5, 0] rfl)
          · have hf := pe_f hf hc_16
            refine lv_aload_n hx hb dX10_rimOf_32 rfl (lv_at hl 0 rfl) ?_
            refine lv_iload_n hx hb dX10_rimOf_33 rfl (lv_at hl 1 rfl) ?_
            refine lv_iload hx hb dX10_rimOf_34 (lv_at hl 5 rfl) ?_
            refine lv_iload hx hb dX10_rimOf_36 (lv_at hl 6 rfl) ?_
            obtain ⟨r_17, hk_18, hf⟩ := pe_1 hf
            refine xv_i (As := [.int y1, .int y5, .int y6]) (rest := []) (q0 := 0) (ci := 10) Cx hP hD hS hl (pl_X10_X10 a cyI cyJ v10_firstOf v10_sizeOf v10_longOf v10_row v10_character v10_sum v10_coefficient v10_undone v10_wasSum v10_wasCoefficient v10_hasImage v10_letter v10_letters v10_list v10_cell v10_refusals v10_tried v10_left v10_high v10_then v10_at v10_readSize v10_firstOf v10_sizeOf v10_longOf v10_row v10_character v10_sum v10_coefficient v10_undone v10_wasSum v10_wasCoefficient v10_hasImage v10_letter v10_letters v10_list v10_cell v10_refusals v10_tried v10_left v10_high v10_then v10_at v10_readSize) (c_X10_hookOf l D cyI cyJ G a H.size v10_firstOf v10_sizeOf v10_longOf v10_row v10_character v10_sum v10_coefficient v10_undone v10_wasSum v10_wasCoefficient v10_hasImage v10_letter v10_letters v10_list v10_cell v10_refusals v10_tried v10_left v10_high v10_then v10_at v10_readSize y1 y5 y6 r_17 hk_18) pk_X10_hookOf mw_4_180 ⟨rfl, rfl, Nat.le_of_ble_eq_true rfl, Nat.le_of_ble_eq_true rfl⟩ rfl rfl rfl rfl rfl (Nat.le_of_ble_eq_true rfl) ⟨Nat.le_of_ble_eq_true rfl, Nat.le_of_ble_eq_true rfl⟩ dX10_rimOf_38 (fun H locs hP hD hS => ?_)
            refine lv_iload_n hx hb dX10_rimOf_41 rfl (lv_at hl 2 rfl) ?_
            refine lv_icmp_eq (tgt := 48) hx hb dX10_rimOf_42 (by decide) (fun hc_19 => ?_) (fun hc_19 => ?_)
            · have hf := pe_t hf hc_19
              refine lv_iload hx hb dX10_rimOf_48 (lv_at hl 4 rfl) ?_
              refine lv_iload_n hx hb dX10_rimOf_50 rfl (lv_at hl 3 rfl) ?_
              refine lv_icmp_ne (tgt := 66) hx hb dX10_rimOf_51 (by decide) (fun hc_20 => ?_) (fun hc_20 => ?_)
              · have hf := pe_f hf hc_20
                refine lv_iinc (v := (y4 + (1 : Int32))) (lv' := [(4, .int (y4 + (1 : Int32))), (0, .ref (a 28)), (1, .int y1), (2, .int y2), (3, .int y3), (5, .int y5), (6, .int y6)]) hx hb dX10_rimOf_66 hl (k := 4) rfl rfl (by decide) rfl (fun ls hl => ?_)
                refine lv_iinc (v := (y6 + (1 : Int32))) (lv' := [(6, .int (y6 + (1 : Int32))), (4, .int (y4 + (1 : Int32))), (0, .ref (a 28)), (1, .int y1), (2, .int y2), (3, .int y3), (5, .int y5)]) hx hb dX10_rimOf_69 hl (k := 6) rfl rfl (by decide) rfl (fun ls hl => ?_)
                refine lv_goto (tgt := 20) hx hb dX10_rimOf_72 (by decide) ?_
                exact w_20 v10_tried v10_left v10_high y1 y2 y3 (y4 + (1 : Int32)) y5 (y6 + (1 : Int32)) H locs ls hf hP hD hS (lv_sub hl [2, 3, 4, 5, 1, 6, 0] rfl)
              · have hf := pe_t hf hc_20
                refine lv_aload_n hx hb dX10_rimOf_54 rfl (lv_at hl 0 rfl) ?_
                refine lv_iload_n hx hb dX10_rimOf_55 rfl (lv_at hl 1 rfl) ?_
                refine lv_iload hx hb dX10_rimOf_56 (lv_at hl 5 rfl) ?_
                refine lv_iload hx hb dX10_rimOf_58 (lv_at hl 6 rfl) ?_
                obtain ⟨v10_tried_21, v10_left_22, v10_high_23, hk_24, hf⟩ := pe_3 hf
                refine xv_v (As := [.int y1, .int y5, .int y6]) (rest := []) (q0 := 0) (ci := 10) Cx hP hD hS hl (pl_X10_X10 a cyI cyJ v10_firstOf v10_sizeOf v10_longOf v10_row v10_character v10_sum v10_coefficient v10_undone v10_wasSum v10_wasCoefficient v10_hasImage v10_letter v10_letters v10_list v10_cell v10_refusals v10_tried v10_left v10_high v10_then v10_at v10_readSize v10_firstOf v10_sizeOf v10_longOf v10_row v10_character v10_sum v10_coefficient v10_undone v10_wasSum v10_wasCoefficient v10_hasImage v10_letter v10_letters v10_list v10_cell v10_refusals v10_tried_21 v10_left_22 v10_high_23 v10_then v10_at v10_readSize) (c_X10_takesOff l D cyI cyJ G a H.size v10_firstOf v10_sizeOf v10_longOf v10_row v10_character v10_sum v10_coefficient v10_undone v10_wasSum v10_wasCoefficient v10_hasImage v10_letter v10_letters v10_list v10_cell v10_refusals v10_tried v10_left v10_high v10_then v10_at v10_readSize y1 y5 y6 v10_tried_21 v10_left_22 v10_high_23 hk_24) pk_X10_takesOff mw_4_188 ⟨rfl, rfl, Nat.le_of_ble_eq_true rfl, Nat.le_of_ble_eq_true rfl⟩ rfl rfl rfl rfl rfl (Nat.le_of_ble_eq_true rfl) ⟨Nat.le_of_ble_eq_true rfl, Nat.le_of_ble_eq_true rfl⟩ dX10_rimOf_60 (fun H locs hP hD hS => ?_)
                refine lv_iload hx hb dX10_rimOf_63 (lv_at hl 4 rfl) ?_
                obtain ⟨rfl, rfl, rfl, rfl⟩ := po_4 hf
                rw [← hQ]; exact xe_iret Cx rfl hP hD hS dX10_rimOf_65
            · have hf := pe_f hf hc_19
              refine lv_goto (tgt := 69) hx hb dX10_rimOf_45 (by decide) ?_
              refine lv_iinc (v := (y6 + (1 : Int32))) (lv' := [(6, .int (y6 + (1 : Int32))), (0, .ref (a 28)), (1, .int y1), (2, .int y2), (3, .int y3), (4, .int y4), (5, .int y5)]) hx hb dX10_rimOf_69 hl (k := 6) rfl rfl (by decide) rfl (fun ls hl => ?_)
              refine lv_goto (tgt := 20) hx hb dX10_rimOf_72 (by decide) ?_
              exact w_20 v10_tried v10_left v10_high y1 y2 y3 y4 y5 (y6 + (1 : Int32)) H locs ls hf hP hD hS (lv_sub hl [1, 2, 3, 4, 5, 6, 0] rfl)
      refine lv_iload hx hb dX10_rimOf_6 (lv_at hl 5 rfl) ?_
      refine lv_aload_n hx hb dX10_rimOf_8 rfl (lv_at hl 0 rfl) ?_
      refine va_get (ci := 10) (v := .ref (a 31)) hx hb hts wX10_in hown hK hP 0 rfl rfl 2 (by decide) (hts _ mw_4_194) (fun _ h9 => h9) rfl dX10_rimOf_9 ?_
      refine lv_iload_n hx hb dX10_rimOf_12 rfl (lv_at hl 1 rfl) ?_
      obtain ⟨hi_25, hf⟩ := pe_in hf
      refine va_iald hx hb hK hP 3 0 rfl rfl hi_25 dX10_rimOf_13 ?_
      refine lv_icmp_ge (tgt := 81) hx hb dX10_rimOf_14 (by decide) (fun hc_26 => ?_) (fun hc_26 => ?_)
      · have hf := pe_t hf hc_26
        refine lv_iload hx hb dX10_rimOf_81 (lv_at hl 4 rfl) ?_
        obtain ⟨rfl, rfl, rfl, rfl⟩ := po_4 hf
        rw [← hQ]; exact xe_iret Cx rfl hP hD hS dX10_rimOf_83
      · have hf := pe_f hf hc_26
        refine lv_iconst (v := (0 : Int32)) hx hb dX10_rimOf_17 (by decide) ?_
        refine lv_istore (lv' := [(6, .int (0 : Int32)), (0, .ref (a 28)), (1, .int y1), (2, .int y2), (3, .int y3), (4, .int y4), (5, .int y5)]) hx hb dX10_rimOf_18 hl (by decide) rfl (fun ls hl => ?_)
        exact w_20 1000 v10_tried v10_left v10_high y1 y2 y3 y4 y5 (0 : Int32) H locs ls hf hP hD hS (lv_sub hl [1, 2, 3, 4, 5, 6, 0] rfl)
  refine lv_iconst (v := (0 : Int32)) hx hb dX10_rimOf_0 (by decide) ?_
  refine lv_istore (lv' := [(4, .int (0 : Int32)), (0, .ref (a 28)), (1, .int x1), (2, .int x2), (3, .int x3)]) hx hb dX10_rimOf_1 hl (by decide) rfl (fun ls hl => ?_)
  refine lv_iconst (v := (0 : Int32)) hx hb dX10_rimOf_3 (by decide) ?_
  refine lv_istore (lv' := [(5, .int (0 : Int32)), (4, .int (0 : Int32)), (0, .ref (a 28)), (1, .int x1), (2, .int x2), (3, .int x3)]) hx hb dX10_rimOf_4 hl (by decide) rfl (fun ls hl => ?_)
  exact w_6 1000 v10_tried v10_left v10_high x1 x2 x3 (0 : Int32) (0 : Int32) H locs ls hf hP hD hS (lv_sub hl [2, 3, 4, 5, 1, 0] rfl)
def f_X10_isRim (v10_longOf : Nat → Int32) (v10_row : Nat → Int32) (v10_tried : Nat → Int32) (v10_left : Int32) (v10_high : Int32) (x1 : Int32) (x2 : Int32) (x3 : Int32) : Option (Int32 × (Nat → Int32) × Int32 × Int32) := if x3 < 0 then (some ((0 : Int32), v10_tried, v10_left, v10_high)) else (p_b4 (f_X10_rimOf v10_longOf v10_row v10_tried v10_left v10_high x1 x2 (-1 : Int32)) (fun r_2 v10_tried_3 v10_left_4 v10_high_5 => if r_2 ≤ x3 then (some ((0 : Int32), v10_tried_3, v10_left_4, v10_high_5)) else (some ((1 : Int32), v10_tried_3, v10_left_4, v10_high_5))))
set_option maxHeartbeats 4000000 in
set_option maxRecDepth 20000 in
theorem c_X10_isRim (l : Launch) (D : va_G) (cyI cyJ : ClassId) (G a : Nat → Nat) (sz : Nat) (v10_firstOf : Nat → Int32) (v10_sizeOf : Nat → Int32) (v10_longOf : Nat → Int32) (v10_row : Nat → Int32) (v10_character : Nat → Int32) (v10_sum : Nat → Int32) (v10_coefficient : Nat → Int32) (v10_undone : Int32) (v10_wasSum : Nat → Int32) (v10_wasCoefficient : Nat → Int32) (v10_hasImage : Int32) (v10_letter : Nat → Int32) (v10_letters : Int32) (v10_list : Nat → Int32) (v10_cell : Nat → Int32) (v10_refusals : Nat → Int32) (v10_tried : Nat → Int32) (v10_left : Int32) (v10_high : Int32) (v10_then : Nat → Int64) (v10_at : Int32) (v10_readSize : Int32) (x1 : Int32) (x2 : Int32) (x3 : Int32) (ro : Int32) (ov10_tried : Nat → Int32) (ov10_left : Int32) (ov10_high : Int32) (hf : f_X10_isRim v10_longOf v10_row v10_tried v10_left v10_high x1 x2 x3 = some (ro, ov10_tried, ov10_left, ov10_high)) : xm_z l yX10_isRim (Cond.code yX10_isRim cX10_isRim 4 (some .boolean) :: xg_tbl) { frames := 4, cells := 0, slots := 0, locals := 97 } D xcl [(cyI, .int), (cyJ, .long)] G sz [.ref (a 28), .int x1, .int x2, .int x3] (wd_X10 a cyI cyJ v10_firstOf v10_sizeOf v10_longOf v10_row v10_character v10_sum v10_coefficient v10_undone v10_wasSum v10_wasCoefficient v10_hasImage v10_letter v10_letters v10_list v10_cell v10_refusals v10_tried v10_left v10_high v10_then v10_at v10_readSize) (wd_X10 a cyI cyJ v10_firstOf v10_sizeOf v10_longOf v10_row v10_character v10_sum v10_coefficient v10_undone v10_wasSum v10_wasCoefficient v10_hasImage v10_letter v10_letters v10_list v10_cell v10_refusals ov10_tried ov10_left ov10_high v10_then v10_at v10_readSize) ro := by
  refine xm_of_z (own := RX10) (by decide) rfl rfl (Nat.le_of_ble_eq_true rfl) ?_
  intro p e s m args below meth c ls Q A hQ hAe hin Cx hsz hP hD hS hl
  have Cx1 := Cx
  obtain ⟨⟨hx, hb, hml, hown, hts⟩, hr, hlocks, hK, hA, hT⟩ := Cx1
  have hl : lv_has ls 4 [(0, .ref (a 28)), (1, .int x1), (2, .int x2), (3, .int x3)] := hl
  obtain ⟨H, eH⟩ : ∃ H, H = s.heap := ⟨_, rfl⟩
  obtain ⟨locs, eL⟩ : ∃ L : List Loc, L = [] := ⟨_, rfl⟩
  rw [← eH] at hP
  have hS : va_S A s.heap H locs := by rw [eH, eL]; exact hS
  suffices hgo : W p l e { frames := 4, cells := 0, slots := 0, locals := 97 } s m args below meth c H locs 0 0 Q (F0 m 0 ls []) by rw [eH, eL] at hgo; exact hgo
  clear eH eL
  unfold f_X10_isRim at hf
  refine lv_iload_n hx hb dX10_isRim_0 rfl (lv_at hl 3 rfl) ?_
  refine lv_if_lt (tgt := 19) hx hb dX10_isRim_1 (by decide) (fun hc_8 => ?_) (fun hc_8 => ?_)
  · have hf := pe_t hf hc_8
    refine lv_iconst (v := (0 : Int32)) hx hb dX10_isRim_19 (by decide) ?_
    obtain ⟨rfl, rfl, rfl, rfl⟩ := po_4 hf
    rw [← hQ]; exact xe_zret Cx rfl rfl hP hD hS dX10_isRim_20
  · have hf := pe_f hf hc_8
    refine lv_iload_n hx hb dX10_isRim_4 rfl (lv_at hl 3 rfl) ?_
    refine lv_aload_n hx hb dX10_isRim_5 rfl (lv_at hl 0 rfl) ?_
    refine lv_iload_n hx hb dX10_isRim_6 rfl (lv_at hl 1 rfl) ?_
    refine lv_iload_n hx hb dX10_isRim_7 rfl (lv_at hl 2 rfl) ?_
    refine lv_iconst (v := (-1 : Int32)) hx hb dX10_isRim_8 (by decide) ?_
    obtain ⟨r_9, v10_tried_10, v10_left_11, v10_high_12, hk_13, hf⟩ := pe_4 hf
    refine xv_i (As := [.int x1, .int x2, .int (-1 : Int32)]) (rest := [.int x3]) (q0 := 0) (ci := 10) Cx hP hD hS hl (pl_X10_X10 a cyI cyJ v10_firstOf v10_sizeOf v10_longOf v10_row v10_character v10_sum v10_coefficient v10_undone v10_wasSum v10_wasCoefficient v10_hasImage v10_letter v10_letters v10_list v10_cell v10_refusals v10_tried v10_left v10_high v10_then v10_at v10_readSize v10_firstOf v10_sizeOf v10_longOf v10_row v10_character v10_sum v10_coefficient v10_undone v10_wasSum v10_wasCoefficient v10_hasImage v10_letter v10_letters v10_list v10_cell v10_refusals v10_tried_10 v10_left_11 v10_high_12 v10_then v10_at v10_readSize) (c_X10_rimOf l D cyI cyJ G a H.size v10_firstOf v10_sizeOf v10_longOf v10_row v10_character v10_sum v10_coefficient v10_undone v10_wasSum v10_wasCoefficient v10_hasImage v10_letter v10_letters v10_list v10_cell v10_refusals v10_tried v10_left v10_high v10_then v10_at v10_readSize x1 x2 (-1 : Int32) r_9 v10_tried_10 v10_left_11 v10_high_12 hk_13) pk_X10_rimOf mw_4_176 ⟨rfl, rfl, Nat.le_of_ble_eq_true rfl, Nat.le_of_ble_eq_true rfl⟩ rfl rfl rfl rfl rfl (Nat.le_of_ble_eq_true rfl) ⟨Nat.le_of_ble_eq_true rfl, Nat.le_of_ble_eq_true rfl⟩ dX10_isRim_9 (fun H locs hP hD hS => ?_)
    refine lv_icmp_ge (tgt := 19) hx hb dX10_isRim_12 (by decide) (fun hc_14 => ?_) (fun hc_14 => ?_)
    · have hf := pe_t hf hc_14
      refine lv_iconst (v := (0 : Int32)) hx hb dX10_isRim_19 (by decide) ?_
      obtain ⟨rfl, rfl, rfl, rfl⟩ := po_4 hf
      rw [← hQ]; exact xe_zret Cx rfl rfl hP hD hS dX10_isRim_20
    · have hf := pe_f hf hc_14
      refine lv_iconst (v := (1 : Int32)) hx hb dX10_isRim_15 (by decide) ?_
      refine lv_goto (tgt := 20) hx hb dX10_isRim_16 (by decide) ?_
      obtain ⟨rfl, rfl, rfl, rfl⟩ := po_4 hf
      rw [← hQ]; exact xe_zret Cx rfl rfl hP hD hS dX10_isRim_20
def f_X10_characterOf_113 (K_79 : (Nat → Int32) → Int32 → Int32 → Int32 → Int32 → Int32 → Int32 → Int32 → Int32 → Option (Int32 × (Nat → Int32) × Int32 × Int32)) (v10_longOf : Nat → Int32) (v10_row : Nat → Int32) (v10_character : Nat → Int32) (v10_tried : Nat → Int32) (v10_left : Int32) (v10_high : Int32) (y1 : Int32) (y3 : Int32) (y4 : Int32) (y6 : Int32) (y7 : Int32) (z0 : Int32) (z1 : Int32) : Option (Int32 × (Nat → Int32) × Int32 × Int32) := p_in (((67 : Int32) * v10_left) + y4) 4489 (K_79 v10_tried v10_left v10_high y1 y3 y4 (z1 + (z0 * (v10_character (Int32.toNatClampNeg (((67 : Int32) * v10_left) + y4))))) y6 (y7 + (1 : Int32)))
def gf_X10_characterOf_79 (K_79 : (Nat → Int32) → Int32 → Int32 → Int32 → Int32 → Int32 → Int32 → Int32 → Int32 → Option (Int32 × (Nat → Int32) × Int32 × Int32)) (v10_longOf : Nat → Int32) (v10_row : Nat → Int32) (v10_character : Nat → Int32) (v10_tried : Nat → Int32) (v10_left : Int32) (v10_high : Int32) (y1 : Int32) (y3 : Int32) (y4 : Int32) (y5 : Int32) (y6 : Int32) (y7 : Int32) : Option (Int32 × (Nat → Int32) × Int32 × Int32) := if y6 ≤ y7 then (some (y5, v10_tried, v10_left, v10_high)) else (p_b4 (f_X10_rimOf v10_longOf v10_row v10_tried v10_left v10_high y1 y3 y7) (fun r_3 v10_tried_4 v10_left_5 v10_high_6 => p_nz (2 : Int32) (if (v10_high_6 - v10_high_6 / (2 : Int32) * (2 : Int32)) = (1 : Int32) then ((f_X10_characterOf_113 K_79 v10_longOf v10_row v10_character) v10_tried_4 v10_left_5 v10_high_6 y1 y3 y4 y6 y7 (-1 : Int32) y5) else ((f_X10_characterOf_113 K_79 v10_longOf v10_row v10_character) v10_tried_4 v10_left_5 v10_high_6 y1 y3 y4 y6 y7 (1 : Int32) y5))))
def f_X10_characterOf_79 (v10_longOf : Nat → Int32) (v10_row : Nat → Int32) (v10_character : Nat → Int32) : Nat → (Nat → Int32) → Int32 → Int32 → Int32 → Int32 → Int32 → Int32 → Int32 → Int32 → Option (Int32 × (Nat → Int32) × Int32 × Int32)
  | 0 => fun _ _ _ _ _ _ _ _ _ => none
  | n + 1 => gf_X10_characterOf_79 (f_X10_characterOf_79 v10_longOf v10_row v10_character n) v10_longOf v10_row v10_character
def gf_X10_characterOf_25 (K_25 : (Nat → Int32) → Int32 → Int32 → Int32 → Int32 → Int32 → Int32 → Option (Int32 × (Nat → Int32) × Int32 × Int32)) (v10_longOf : Nat → Int32) (v10_row : Nat → Int32) (v10_character : Nat → Int32) (v10_tried : Nat → Int32) (v10_left : Int32) (v10_high : Int32) (y1 : Int32) (y2 : Int32) (y3 : Int32) (y4 : Int32) : Option (Int32 × (Nat → Int32) × Int32 × Int32) := p_in y2 67 (if (v10_longOf (Int32.toNatClampNeg y2)) ≤ y4 then (p_b1 (f_X10_shapeTried v10_row v10_tried) (fun r_12 => p_b4 (f_X10_rimOf v10_longOf v10_row v10_tried v10_left v10_high y1 y3 (-1 : Int32)) (fun r_14 v10_tried_15 v10_left_16 v10_high_17 => (f_X10_characterOf_79 v10_longOf v10_row v10_character 1000) v10_tried_15 v10_left_16 v10_high_17 y1 y3 r_12 (0 : Int32) r_14 (0 : Int32)))) else (p_b1 (f_X10_rowOf v10_row y2 y4) (fun r_19 => p_in (y4 - (1 : Int32)) 9 (K_25 (upd v10_tried (Int32.toNatClampNeg (y4 - (1 : Int32))) r_19) v10_left v10_high y1 y2 y3 (y4 + (1 : Int32))))))
def f_X10_characterOf_25 (v10_longOf : Nat → Int32) (v10_row : Nat → Int32) (v10_character : Nat → Int32) : Nat → (Nat → Int32) → Int32 → Int32 → Int32 → Int32 → Int32 → Int32 → Option (Int32 × (Nat → Int32) × Int32 × Int32)
  | 0 => fun _ _ _ _ _ _ _ => none
  | n + 1 => gf_X10_characterOf_25 (f_X10_characterOf_25 v10_longOf v10_row v10_character n) v10_longOf v10_row v10_character
def f_X10_characterOf (v10_longOf : Nat → Int32) (v10_row : Nat → Int32) (v10_character : Nat → Int32) (v10_tried : Nat → Int32) (v10_left : Int32) (v10_high : Int32) (x1 : Int32) (x2 : Int32) : Option (Int32 × (Nat → Int32) × Int32 × Int32) := p_in x2 67 (if (v10_longOf (Int32.toNatClampNeg x2)) = 0 then (some ((1 : Int32), v10_tried, v10_left, v10_high)) else (p_b1 (f_X10_rowOf v10_row x2 (0 : Int32)) (fun r_24 => p_b1 (f_X10_triesNone v10_tried) (fun v10_tried_26 => (f_X10_characterOf_25 v10_longOf v10_row v10_character 1000) v10_tried_26 v10_left v10_high x1 x2 r_24 (1 : Int32)))))
set_option maxHeartbeats 4000000 in
set_option maxRecDepth 20000 in
theorem c_X10_characterOf (l : Launch) (D : va_G) (cyI cyJ : ClassId) (G a : Nat → Nat) (sz : Nat) (v10_firstOf : Nat → Int32) (v10_sizeOf : Nat → Int32) (v10_longOf : Nat → Int32) (v10_row : Nat → Int32) (v10_character : Nat → Int32) (v10_sum : Nat → Int32) (v10_coefficient : Nat → Int32) (v10_undone : Int32) (v10_wasSum : Nat → Int32) (v10_wasCoefficient : Nat → Int32) (v10_hasImage : Int32) (v10_letter : Nat → Int32) (v10_letters : Int32) (v10_list : Nat → Int32) (v10_cell : Nat → Int32) (v10_refusals : Nat → Int32) (v10_tried : Nat → Int32) (v10_left : Int32) (v10_high : Int32) (v10_then : Nat → Int64) (v10_at : Int32) (v10_readSize : Int32) (x1 : Int32) (x2 : Int32) (ro : Int32) (ov10_tried : Nat → Int32) (ov10_left : Int32) (ov10_high : Int32) (hf : f_X10_characterOf v10_longOf v10_row v10_character v10_tried v10_left v10_high x1 x2 = some (ro, ov10_tried, ov10_left, ov10_high)) : xm_i l yX10_characterOf (Cond.code yX10_characterOf cX10_characterOf 9 (some .int) :: xg_tbl) { frames := 4, cells := 0, slots := 0, locals := 97 } D xcl [(cyI, .int), (cyJ, .long)] G sz [.ref (a 28), .int x1, .int x2] (wd_X10 a cyI cyJ v10_firstOf v10_sizeOf v10_longOf v10_row v10_character v10_sum v10_coefficient v10_undone v10_wasSum v10_wasCoefficient v10_hasImage v10_letter v10_letters v10_list v10_cell v10_refusals v10_tried v10_left v10_high v10_then v10_at v10_readSize) (wd_X10 a cyI cyJ v10_firstOf v10_sizeOf v10_longOf v10_row v10_character v10_sum v10_coefficient v10_undone v10_wasSum v10_wasCoefficient v10_hasImage v10_letter v10_letters v10_list v10_cell v10_refusals ov10_tried ov10_left ov10_high v10_then v10_at v10_readSize) ro := by
  refine xm_of_i (own := RX10) (by decide) rfl rfl (Nat.le_of_ble_eq_true rfl) ?_
  intro p e s m args below meth c ls Q A hQ hAe hin Cx hsz hP hD hS hl
  have Cx1 := Cx
  obtain ⟨⟨hx, hb, hml, hown, hts⟩, hr, hlocks, hK, hA, hT⟩ := Cx1
  have hl : lv_has ls 9 [(0, .ref (a 28)), (1, .int x1), (2, .int x2)] := hl
  obtain ⟨H, eH⟩ : ∃ H, H = s.heap := ⟨_, rfl⟩
  obtain ⟨locs, eL⟩ : ∃ L : List Loc, L = [] := ⟨_, rfl⟩
  rw [← eH] at hP
  have hS : va_S A s.heap H locs := by rw [eH, eL]; exact hS
  suffices hgo : W p l e { frames := 4, cells := 0, slots := 0, locals := 97 } s m args below meth c H locs 0 0 Q (F0 m 0 ls []) by rw [eH, eL] at hgo; exact hgo
  clear eH eL
  unfold f_X10_characterOf at hf
  have w_25 : ∀ (n_25 : Nat) (v10_tried : Nat → Int32) (v10_left : Int32) (v10_high : Int32) (y1 : Int32) (y2 : Int32) (y3 : Int32) (y4 : Int32) (H : Heap) (locs : List Loc) (ls : Array Slot), (f_X10_characterOf_25 v10_longOf v10_row v10_character) n_25 v10_tried v10_left v10_high y1 y2 y3 y4 = some (ro, ov10_tried, ov10_left, ov10_high) → va_P D xcl (wd_X10 a cyI cyJ v10_firstOf v10_sizeOf v10_longOf v10_row v10_character v10_sum v10_coefficient v10_undone v10_wasSum v10_wasCoefficient v10_hasImage v10_letter v10_letters v10_list v10_cell v10_refusals v10_tried v10_left v10_high v10_then v10_at v10_readSize) H → va_D A (wd_X10 a cyI cyJ v10_firstOf v10_sizeOf v10_longOf v10_row v10_character v10_sum v10_coefficient v10_undone v10_wasSum v10_wasCoefficient v10_hasImage v10_letter v10_letters v10_list v10_cell v10_refusals v10_tried v10_left v10_high v10_then v10_at v10_readSize) → va_S A s.heap H locs → lv_has ls 9 [(0, .ref (a 28)), (1, .int y1), (2, .int y2), (3, .int y3), (4, .int y4)] → W p l e { frames := 4, cells := 0, slots := 0, locals := 97 } s m args below meth c H locs 0 0 Q (F0 m 25 ls []) := by
    intro n_25
    induction n_25 with
    | zero => intro v10_tried v10_left v10_high y1 y2 y3 y4 H locs ls hf; exact absurd hf (by intro h9; cases h9)
    | succ n_25 w_25 =>
      intro v10_tried v10_left v10_high y1 y2 y3 y4 H locs ls hf hP hD hS hl
      have hf : gf_X10_characterOf_25 ((f_X10_characterOf_25 v10_longOf v10_row v10_character) n_25) v10_longOf v10_row v10_character v10_tried v10_left v10_high y1 y2 y3 y4 = some (ro, ov10_tried, ov10_left, ov10_high) := hf
      unfold gf_X10_characterOf_25 at hf
      have w_79 : ∀ (n_79 : Nat) (v10_tried : Nat → Int32) (v10_left : Int32) (v10_high : Int32) (y1 : Int32) (y3 : Int32) (y4 : Int32) (y5 : Int32) (y6 : Int32) (y7 : Int32) (H : Heap) (locs : List Loc) (ls : Array Slot), (f_X10_characterOf_79 v10_longOf v10_row v10_character) n_79 v10_tried v10_left v10_high y1 y3 y4 y5 y6 y7 = some (ro, ov10_tried, ov10_left, ov10_high) → va_P D xcl (wd_X10 a cyI cyJ v10_firstOf v10_sizeOf v10_longOf v10_row v10_character v10_sum v10_coefficient v10_undone v10_wasSum v10_wasCoefficient v10_hasImage v10_letter v10_letters v10_list v10_cell v10_refusals v10_tried v10_left v10_high v10_then v10_at v10_readSize) H → va_D A (wd_X10 a cyI cyJ v10_firstOf v10_sizeOf v10_longOf v10_row v10_character v10_sum v10_coefficient v10_undone v10_wasSum v10_wasCoefficient v10_hasImage v10_letter v10_letters v10_list v10_cell v10_refusals v10_tried v10_left v10_high v10_then v10_at v10_readSize) → va_S A s.heap H locs → lv_has ls 9 [(0, .ref (a 28)), (1, .int y1), (3, .int y3), (4, .int y4), (5, .int y5), (6, .int y6), (7, .int y7)] → W p l e { frames := 4, cells := 0, slots := 0, locals := 97 } s m args below meth c H locs 0 0 Q (F0 m 79 ls []) := by
        intro n_79
        induction n_79 with
        | zero => intro v10_tried v10_left v10_high y1 y3 y4 y5 y6 y7 H locs ls hf; exact absurd hf (by intro h9; cases h9)
        | succ n_79 w_79 =>
          intro v10_tried v10_left v10_high y1 y3 y4 y5 y6 y7 H locs ls hf hP hD hS hl
          have hf : gf_X10_characterOf_79 ((f_X10_characterOf_79 v10_longOf v10_row v10_character) n_79) v10_longOf v10_row v10_character v10_tried v10_left v10_high y1 y3 y4 y5 y6 y7 = some (ro, ov10_tried, ov10_left, ov10_high) := hf
          unfold gf_X10_characterOf_79 at hf
          have w_113 : ∀ (v10_tried : Nat → Int32) (v10_left : Int32) (v10_high : Int32) (y1 : Int32) (y3 : Int32) (y4 : Int32) (y6 : Int32) (y7 : Int32) (z0 : Int32) (z1 : Int32) (H : Heap) (locs : List Loc) (ls : Array Slot), (f_X10_characterOf_113 ((f_X10_characterOf_79 v10_longOf v10_row v10_character) n_79) v10_longOf v10_row v10_character) v10_tried v10_left v10_high y1 y3 y4 y6 y7 z0 z1 = some (ro, ov10_tried, ov10_left, ov10_high) → va_P D xcl (wd_X10 a cyI cyJ v10_firstOf v10_sizeOf v10_longOf v10_row v10_character v10_sum v10_coefficient v10_undone v10_wasSum v10_wasCoefficient v10_hasImage v10_letter v10_letters v10_list v10_cell v10_refusals v10_tried v10_left v10_high v10_then v10_at v10_readSize) H → va_D A (wd_X10 a cyI cyJ v10_firstOf v10_sizeOf v10_longOf v10_row v10_character v10_sum v10_coefficient v10_undone v10_wasSum v10_wasCoefficient v10_hasImage v10_letter v10_letters v10_list v10_cell v10_refusals v10_tried v10_left v10_high v10_then v10_at v10_readSize) → va_S A s.heap H locs → lv_has ls 9 [(0, .ref (a 28)), (1, .int y1), (3, .int y3), (4, .int y4), (6, .int y6), (7, .int y7)] → W p l e { frames := 4, cells := 0, slots := 0, locals := 97 } s m args below meth c H locs 0 0 Q (F0 m 113 ls [.int z0, .int z1]) := by
            intro v10_tried v10_left v10_high y1 y3 y4 y6 y7 z0 z1 H locs ls hf hP hD hS hl
            unfold f_X10_characterOf_113 at hf
            refine lv_aload_n hx hb dX10_characterOf_113 rfl (lv_at hl 0 rfl) ?_
            refine va_get (ci := 10) (v := .ref (a 33)) hx hb hts wX10_in hown hK hP 0 rfl rfl 4 (by decide) (hts _ mw_4_196) (fun _ h9 => h9) rfl dX10_characterOf_114 ?_
            refine lv_bipush (v := (67 : Int32)) hx hb dX10_characterOf_117 (by decide) ?_
            refine lv_aload_n hx hb dX10_characterOf_119 rfl (lv_at hl 0 rfl) ?_
            refine va_get (ci := 10) (v := .int v10_left) hx hb hts wX10_in hown hK hP 0 rfl rfl 17 (by decide) (hts _ mw_4_209) (fun _ h9 => h9) rfl dX10_characterOf_120 ?_
            refine lv_imul hx hb dX10_characterOf_123 ?_
            refine lv_iload hx hb dX10_characterOf_124 (lv_at hl 3 rfl) ?_
            refine lv_iadd hx hb dX10_characterOf_126 ?_
            obtain ⟨hi_28, hf⟩ := pe_in hf
            refine va_iald hx hb hK hP 5 0 rfl rfl hi_28 dX10_characterOf_127 ?_
            refine lv_imul hx hb dX10_characterOf_128 ?_
            refine lv_iadd hx hb dX10_characterOf_129 ?_
            refine lv_istore (lv' := [(5, .int (z1 + (z0 * (v10_character (Int32.toNatClampNeg (((67 : Int32) * v10_left) + y4)))))), (0, .ref (a 28)), (1, .int y1), (3, .int y3), (4, .int y4), (6, .int y6), (7, .int y7)]) hx hb dX10_characterOf_130 hl (by decide) rfl (fun ls hl => ?_)
            refine lv_iinc (v := (y7 + (1 : Int32))) (lv' := [(7, .int (y7 + (1 : Int32))), (5, .int (z1 + (z0 * (v10_character (Int32.toNatClampNeg (((67 : Int32) * v10_left) + y4)))))), (0, .ref (a 28)), (1, .int y1), (3, .int y3), (4, .int y4), (6, .int y6)]) hx hb dX10_characterOf_132 hl (k := 6) rfl rfl (by decide) rfl (fun ls hl => ?_)
            refine lv_goto (tgt := 79) hx hb dX10_characterOf_135 (by decide) ?_
            exact w_79 v10_tried v10_left v10_high y1 y3 y4 (z1 + (z0 * (v10_character (Int32.toNatClampNeg (((67 : Int32) * v10_left) + y4))))) y6 (y7 + (1 : Int32)) H locs ls hf hP hD hS (lv_sub hl [2, 3, 4, 5, 1, 6, 0] rfl)
          refine lv_iload hx hb dX10_characterOf_79 (lv_at hl 6 rfl) ?_
          refine lv_iload hx hb dX10_characterOf_81 (lv_at hl 5 rfl) ?_
          refine lv_icmp_ge (tgt := 138) hx hb dX10_characterOf_83 (by decide) (fun hc_29 => ?_) (fun hc_29 => ?_)
          · have hf := pe_t hf hc_29
            refine lv_iload hx hb dX10_characterOf_138 (lv_at hl 4 rfl) ?_
            obtain ⟨rfl, rfl, rfl, rfl⟩ := po_4 hf
            rw [← hQ]; exact xe_iret Cx rfl hP hD hS dX10_characterOf_140
          · have hf := pe_f hf hc_29
            refine lv_aload_n hx hb dX10_characterOf_86 rfl (lv_at hl 0 rfl) ?_
            refine lv_iload_n hx hb dX10_characterOf_87 rfl (lv_at hl 1 rfl) ?_
            refine lv_iload_n hx hb dX10_characterOf_88 rfl (lv_at hl 2 rfl) ?_
            refine lv_iload hx hb dX10_characterOf_89 (lv_at hl 6 rfl) ?_
            obtain ⟨r_30, v10_tried_31, v10_left_32, v10_high_33, hk_34, hf⟩ := pe_4 hf
            refine xv_i (As := [.int y1, .int y3, .int y7]) (rest := []) (q0 := 0) (ci := 10) Cx hP hD hS hl (pl_X10_X10 a cyI cyJ v10_firstOf v10_sizeOf v10_longOf v10_row v10_character v10_sum v10_coefficient v10_undone v10_wasSum v10_wasCoefficient v10_hasImage v10_letter v10_letters v10_list v10_cell v10_refusals v10_tried v10_left v10_high v10_then v10_at v10_readSize v10_firstOf v10_sizeOf v10_longOf v10_row v10_character v10_sum v10_coefficient v10_undone v10_wasSum v10_wasCoefficient v10_hasImage v10_letter v10_letters v10_list v10_cell v10_refusals v10_tried_31 v10_left_32 v10_high_33 v10_then v10_at v10_readSize) (c_X10_rimOf l D cyI cyJ G a H.size v10_firstOf v10_sizeOf v10_longOf v10_row v10_character v10_sum v10_coefficient v10_undone v10_wasSum v10_wasCoefficient v10_hasImage v10_letter v10_letters v10_list v10_cell v10_refusals v10_tried v10_left v10_high v10_then v10_at v10_readSize y1 y3 y7 r_30 v10_tried_31 v10_left_32 v10_high_33 hk_34) pk_X10_rimOf mw_4_176 ⟨rfl, rfl, Nat.le_of_ble_eq_true rfl, Nat.le_of_ble_eq_true rfl⟩ rfl rfl rfl rfl rfl (Nat.le_of_ble_eq_true rfl) ⟨Nat.le_of_ble_eq_true rfl, Nat.le_of_ble_eq_true rfl⟩ dX10_characterOf_91 (fun H locs hP hD hS => ?_)
            refine lv_istore (lv' := [(8, .int r_30), (0, .ref (a 28)), (1, .int y1), (3, .int y3), (4, .int y4), (5, .int y5), (6, .int y6), (7, .int y7)]) hx hb dX10_characterOf_94 hl (by decide) rfl (fun ls hl => ?_)
            refine lv_iload hx hb dX10_characterOf_96 (lv_at hl 5 rfl) ?_
            refine lv_aload_n hx hb dX10_characterOf_98 rfl (lv_at hl 1 rfl) ?_
            refine va_get (ci := 10) (v := .int v10_high_33) hx hb hts wX10_in hown hK hP 0 rfl rfl 18 (by decide) (hts _ mw_4_210) (fun _ h9 => h9) rfl dX10_characterOf_99 ?_
            refine lv_iconst (v := (2 : Int32)) hx hb dX10_characterOf_102 (by decide) ?_
            obtain ⟨hz_35, hf⟩ := pe_nz hf
            refine lv_irem hx hb dX10_characterOf_103 hz_35 ?_
            refine lv_iconst (v := (1 : Int32)) hx hb dX10_characterOf_104 (by decide) ?_
            refine lv_icmp_ne (tgt := 112) hx hb dX10_characterOf_105 (by decide) (fun hc_36 => ?_) (fun hc_36 => ?_)
            · have hf := pe_f hf hc_36
              refine lv_iconst (v := (1 : Int32)) hx hb dX10_characterOf_112 (by decide) ?_
              exact w_113 v10_tried_31 v10_left_32 v10_high_33 y1 y3 y4 y6 y7 (1 : Int32) y5 H locs ls hf hP hD hS (lv_sub hl [1, 2, 3, 4, 6, 7] rfl)
            · have hf := pe_t hf hc_36
              refine lv_iconst (v := (-1 : Int32)) hx hb dX10_characterOf_108 (by decide) ?_
              refine lv_goto (tgt := 113) hx hb dX10_characterOf_109 (by decide) ?_
              exact w_113 v10_tried_31 v10_left_32 v10_high_33 y1 y3 y4 y6 y7 (-1 : Int32) y5 H locs ls hf hP hD hS (lv_sub hl [1, 2, 3, 4, 6, 7] rfl)
      refine lv_iload hx hb dX10_characterOf_25 (lv_at hl 4 rfl) ?_
      refine lv_aload_n hx hb dX10_characterOf_27 rfl (lv_at hl 0 rfl) ?_
      refine va_get (ci := 10) (v := .ref (a 31)) hx hb hts wX10_in hown hK hP 0 rfl rfl 2 (by decide) (hts _ mw_4_194) (fun _ h9 => h9) rfl dX10_characterOf_28 ?_
      refine lv_iload_n hx hb dX10_characterOf_31 rfl (lv_at hl 2 rfl) ?_
      obtain ⟨hi_37, hf⟩ := pe_in hf
      refine va_iald hx hb hK hP 3 0 rfl rfl hi_37 dX10_characterOf_32 ?_
      refine lv_icmp_ge (tgt := 58) hx hb dX10_characterOf_33 (by decide) (fun hc_38 => ?_) (fun hc_38 => ?_)
      · have hf := pe_t hf hc_38
        refine lv_aload_n hx hb dX10_characterOf_58 rfl (lv_at hl 0 rfl) ?_
        obtain ⟨r_39, hk_40, hf⟩ := pe_1 hf
        refine xv_i (As := []) (rest := []) (q0 := 0) (ci := 10) Cx hP hD hS hl (pl_X10_X10 a cyI cyJ v10_firstOf v10_sizeOf v10_longOf v10_row v10_character v10_sum v10_coefficient v10_undone v10_wasSum v10_wasCoefficient v10_hasImage v10_letter v10_letters v10_list v10_cell v10_refusals v10_tried v10_left v10_high v10_then v10_at v10_readSize v10_firstOf v10_sizeOf v10_longOf v10_row v10_character v10_sum v10_coefficient v10_undone v10_wasSum v10_wasCoefficient v10_hasImage v10_letter v10_letters v10_list v10_cell v10_refusals v10_tried v10_left v10_high v10_then v10_at v10_readSize) (c_X10_shapeTried l D cyI cyJ G a H.size v10_firstOf v10_sizeOf v10_longOf v10_row v10_character v10_sum v10_coefficient v10_undone v10_wasSum v10_wasCoefficient v10_hasImage v10_letter v10_letters v10_list v10_cell v10_refusals v10_tried v10_left v10_high v10_then v10_at v10_readSize r_39 hk_40) pk_X10_shapeTried mw_4_172 ⟨rfl, rfl, Nat.le_of_ble_eq_true rfl, Nat.le_of_ble_eq_true rfl⟩ rfl rfl rfl rfl rfl (Nat.le_of_ble_eq_true rfl) ⟨Nat.le_of_ble_eq_true rfl, Nat.le_of_ble_eq_true rfl⟩ dX10_characterOf_59 (fun H locs hP hD hS => ?_)
        refine lv_istore (lv' := [(4, .int r_39), (0, .ref (a 28)), (1, .int y1), (2, .int y2), (3, .int y3)]) hx hb dX10_characterOf_62 hl (by decide) rfl (fun ls hl => ?_)
        refine lv_iconst (v := (0 : Int32)) hx hb dX10_characterOf_64 (by decide) ?_
        refine lv_istore (lv' := [(5, .int (0 : Int32)), (4, .int r_39), (0, .ref (a 28)), (1, .int y1), (2, .int y2), (3, .int y3)]) hx hb dX10_characterOf_65 hl (by decide) rfl (fun ls hl => ?_)
        refine lv_aload_n hx hb dX10_characterOf_67 rfl (lv_at hl 2 rfl) ?_
        refine lv_iload_n hx hb dX10_characterOf_68 rfl (lv_at hl 3 rfl) ?_
        refine lv_iload_n hx hb dX10_characterOf_69 rfl (lv_at hl 5 rfl) ?_
        refine lv_iconst (v := (-1 : Int32)) hx hb dX10_characterOf_70 (by decide) ?_
        obtain ⟨r_41, v10_tried_42, v10_left_43, v10_high_44, hk_45, hf⟩ := pe_4 hf
        refine xv_i (As := [.int y1, .int y3, .int (-1 : Int32)]) (rest := []) (q0 := 0) (ci := 10) Cx hP hD hS hl (pl_X10_X10 a cyI cyJ v10_firstOf v10_sizeOf v10_longOf v10_row v10_character v10_sum v10_coefficient v10_undone v10_wasSum v10_wasCoefficient v10_hasImage v10_letter v10_letters v10_list v10_cell v10_refusals v10_tried v10_left v10_high v10_then v10_at v10_readSize v10_firstOf v10_sizeOf v10_longOf v10_row v10_character v10_sum v10_coefficient v10_undone v10_wasSum v10_wasCoefficient v10_hasImage v10_letter v10_letters v10_list v10_cell v10_refusals v10_tried_42 v10_left_43 v10_high_44 v10_then v10_at v10_readSize) (c_X10_rimOf l D cyI cyJ G a H.size v10_firstOf v10_sizeOf v10_longOf v10_row v10_character v10_sum v10_coefficient v10_undone v10_wasSum v10_wasCoefficient v10_hasImage v10_letter v10_letters v10_list v10_cell v10_refusals v10_tried v10_left v10_high v10_then v10_at v10_readSize y1 y3 (-1 : Int32) r_41 v10_tried_42 v10_left_43 v10_high_44 hk_45) pk_X10_rimOf mw_4_176 ⟨rfl, rfl, Nat.le_of_ble_eq_true rfl, Nat.le_of_ble_eq_true rfl⟩ rfl rfl rfl rfl rfl (Nat.le_of_ble_eq_true rfl) ⟨Nat.le_of_ble_eq_true rfl, Nat.le_of_ble_eq_true rfl⟩ dX10_characterOf_71 (fun H locs hP hD hS => ?_)
        refine lv_istore (lv' := [(6, .int r_41), (5, .int (0 : Int32)), (4, .int r_39), (0, .ref (a 28)), (1, .int y1), (2, .int y2), (3, .int y3)]) hx hb dX10_characterOf_74 hl (by decide) rfl (fun ls hl => ?_)
        refine lv_iconst (v := (0 : Int32)) hx hb dX10_characterOf_76 (by decide) ?_
        refine lv_istore (lv' := [(7, .int (0 : Int32)), (6, .int r_41), (5, .int (0 : Int32)), (4, .int r_39), (0, .ref (a 28)), (1, .int y1), (2, .int y2), (3, .int y3)]) hx hb dX10_characterOf_77 hl (by decide) rfl (fun ls hl => ?_)
        exact w_79 1000 v10_tried_42 v10_left_43 v10_high_44 y1 y3 r_39 (0 : Int32) r_41 (0 : Int32) H locs ls hf hP hD hS (lv_sub hl [4, 5, 7, 3, 2, 1, 0] rfl)
      · have hf := pe_f hf hc_38
        refine lv_aload_n hx hb dX10_characterOf_36 rfl (lv_at hl 0 rfl) ?_
        refine va_get (ci := 10) (v := .ref (a 42)) hx hb hts wX10_in hown hK hP 0 rfl rfl 16 (by decide) (hts _ mw_4_208) (fun _ h9 => h9) rfl dX10_characterOf_37 ?_
        refine lv_iload hx hb dX10_characterOf_40 (lv_at hl 4 rfl) ?_
        refine lv_iconst (v := (1 : Int32)) hx hb dX10_characterOf_42 (by decide) ?_
        refine lv_isub hx hb dX10_characterOf_43 ?_
        refine lv_aload_n hx hb dX10_characterOf_44 rfl (lv_at hl 0 rfl) ?_
        refine lv_iload_n hx hb dX10_characterOf_45 rfl (lv_at hl 2 rfl) ?_
        refine lv_iload hx hb dX10_characterOf_46 (lv_at hl 4 rfl) ?_
        obtain ⟨r_46, hk_47, hf⟩ := pe_1 hf
        refine xv_i (As := [.int y2, .int y4]) (rest := [.int (y4 - (1 : Int32)), .ref (a 42)]) (q0 := 0) (ci := 10) Cx hP hD hS hl (pl_X10_X10 a cyI cyJ v10_firstOf v10_sizeOf v10_longOf v10_row v10_character v10_sum v10_coefficient v10_undone v10_wasSum v10_wasCoefficient v10_hasImage v10_letter v10_letters v10_list v10_cell v10_refusals v10_tried v10_left v10_high v10_then v10_at v10_readSize v10_firstOf v10_sizeOf v10_longOf v10_row v10_character v10_sum v10_coefficient v10_undone v10_wasSum v10_wasCoefficient v10_hasImage v10_letter v10_letters v10_list v10_cell v10_refusals v10_tried v10_left v10_high v10_then v10_at v10_readSize) (c_X10_rowOf l D cyI cyJ G a H.size v10_firstOf v10_sizeOf v10_longOf v10_row v10_character v10_sum v10_coefficient v10_undone v10_wasSum v10_wasCoefficient v10_hasImage v10_letter v10_letters v10_list v10_cell v10_refusals v10_tried v10_left v10_high v10_then v10_at v10_readSize y2 y4 r_46 hk_47) pk_X10_rowOf mw_4_159 ⟨rfl, rfl, Nat.le_of_ble_eq_true rfl, Nat.le_of_ble_eq_true rfl⟩ rfl rfl rfl rfl rfl (Nat.le_of_ble_eq_true rfl) ⟨Nat.le_of_ble_eq_true rfl, Nat.le_of_ble_eq_true rfl⟩ dX10_characterOf_48 (fun H locs hP hD hS => ?_)
        obtain ⟨hi_48, hf⟩ := pe_in hf
        refine va_iast hx hb hK hP hD hS 14 0 rfl rfl hi_48 dX10_characterOf_51 (fun H locs hP hD hS => ?_)
        have hP : va_P D xcl (wd_X10 a cyI cyJ v10_firstOf v10_sizeOf v10_longOf v10_row v10_character v10_sum v10_coefficient v10_undone v10_wasSum v10_wasCoefficient v10_hasImage v10_letter v10_letters v10_list v10_cell v10_refusals (upd v10_tried (Int32.toNatClampNeg (y4 - (1 : Int32))) r_46) v10_left v10_high v10_then v10_at v10_readSize) H := hP
        have hD : va_D A (wd_X10 a cyI cyJ v10_firstOf v10_sizeOf v10_longOf v10_row v10_character v10_sum v10_coefficient v10_undone v10_wasSum v10_wasCoefficient v10_hasImage v10_letter v10_letters v10_list v10_cell v10_refusals (upd v10_tried (Int32.toNatClampNeg (y4 - (1 : Int32))) r_46) v10_left v10_high v10_then v10_at v10_readSize) := hD
        refine lv_iinc (v := (y4 + (1 : Int32))) (lv' := [(4, .int (y4 + (1 : Int32))), (0, .ref (a 28)), (1, .int y1), (2, .int y2), (3, .int y3)]) hx hb dX10_characterOf_52 hl (k := 4) rfl rfl (by decide) rfl (fun ls hl => ?_)
        refine lv_goto (tgt := 25) hx hb dX10_characterOf_55 (by decide) ?_
        exact w_25 (upd v10_tried (Int32.toNatClampNeg (y4 - (1 : Int32))) r_46) v10_left v10_high y1 y2 y3 (y4 + (1 : Int32)) H locs ls hf hP hD hS (lv_sub hl [1, 2, 3, 4, 0] rfl)
  refine lv_aload_n hx hb dX10_characterOf_0 rfl (lv_at hl 0 rfl) ?_
  refine va_get (ci := 10) (v := .ref (a 31)) hx hb hts wX10_in hown hK hP 0 rfl rfl 2 (by decide) (hts _ mw_4_194) (fun _ h9 => h9) rfl dX10_characterOf_1 ?_
  refine lv_iload_n hx hb dX10_characterOf_4 rfl (lv_at hl 2 rfl) ?_
  obtain ⟨hi_49, hf⟩ := pe_in hf
  refine va_iald hx hb hK hP 3 0 rfl rfl hi_49 dX10_characterOf_5 ?_
  refine lv_if_ne (tgt := 11) hx hb dX10_characterOf_6 (by decide) (fun hc_50 => ?_) (fun hc_50 => ?_)
  · have hf := pe_f hf hc_50
    refine lv_aload_n hx hb dX10_characterOf_11 rfl (lv_at hl 0 rfl) ?_
    refine lv_iload_n hx hb dX10_characterOf_12 rfl (lv_at hl 2 rfl) ?_
    refine lv_iconst (v := (0 : Int32)) hx hb dX10_characterOf_13 (by decide) ?_
    obtain ⟨r_51, hk_52, hf⟩ := pe_1 hf
    refine xv_i (As := [.int x2, .int (0 : Int32)]) (rest := []) (q0 := 0) (ci := 10) Cx hP hD hS hl (pl_X10_X10 a cyI cyJ v10_firstOf v10_sizeOf v10_longOf v10_row v10_character v10_sum v10_coefficient v10_undone v10_wasSum v10_wasCoefficient v10_hasImage v10_letter v10_letters v10_list v10_cell v10_refusals v10_tried v10_left v10_high v10_then v10_at v10_readSize v10_firstOf v10_sizeOf v10_longOf v10_row v10_character v10_sum v10_coefficient v10_undone v10_wasSum v10_wasCoefficient v10_hasImage v10_letter v10_letters v10_list v10_cell v10_refusals v10_tried v10_left v10_high v10_then v10_at v10_readSize) (c_X10_rowOf l D cyI cyJ G a H.size v10_firstOf v10_sizeOf v10_longOf v10_row v10_character v10_sum v10_coefficient v10_undone v10_wasSum v10_wasCoefficient v10_hasImage v10_letter v10_letters v10_list v10_cell v10_refusals v10_tried v10_left v10_high v10_then v10_at v10_readSize x2 (0 : Int32) r_51 hk_52) pk_X10_rowOf mw_4_159 ⟨rfl, rfl, Nat.le_of_ble_eq_true rfl, Nat.le_of_ble_eq_true rfl⟩ rfl rfl rfl rfl rfl (Nat.le_of_ble_eq_true rfl) ⟨Nat.le_of_ble_eq_true rfl, Nat.le_of_ble_eq_true rfl⟩ dX10_characterOf_14 (fun H locs hP hD hS => ?_)
    refine lv_istore_n (lv' := [(3, .int r_51), (0, .ref (a 28)), (1, .int x1), (2, .int x2)]) hx hb dX10_characterOf_17 rfl hl (by decide) rfl (fun ls hl => ?_)
    refine lv_aload_n hx hb dX10_characterOf_18 rfl (lv_at hl 1 rfl) ?_
    obtain ⟨v10_tried_53, hk_54, hf⟩ := pe_1 hf
    refine xv_v (As := []) (rest := []) (q0 := 0) (ci := 10) Cx hP hD hS hl (pl_X10_X10 a cyI cyJ v10_firstOf v10_sizeOf v10_longOf v10_row v10_character v10_sum v10_coefficient v10_undone v10_wasSum v10_wasCoefficient v10_hasImage v10_letter v10_letters v10_list v10_cell v10_refusals v10_tried v10_left v10_high v10_then v10_at v10_readSize v10_firstOf v10_sizeOf v10_longOf v10_row v10_character v10_sum v10_coefficient v10_undone v10_wasSum v10_wasCoefficient v10_hasImage v10_letter v10_letters v10_list v10_cell v10_refusals v10_tried_53 v10_left v10_high v10_then v10_at v10_readSize) (c_X10_triesNone l D cyI cyJ G a H.size v10_firstOf v10_sizeOf v10_longOf v10_row v10_character v10_sum v10_coefficient v10_undone v10_wasSum v10_wasCoefficient v10_hasImage v10_letter v10_letters v10_list v10_cell v10_refusals v10_tried v10_left v10_high v10_then v10_at v10_readSize v10_tried_53 hk_54) pk_X10_triesNone mw_4_168 ⟨rfl, rfl, Nat.le_of_ble_eq_true rfl, Nat.le_of_ble_eq_true rfl⟩ rfl rfl rfl rfl rfl (Nat.le_of_ble_eq_true rfl) ⟨Nat.le_of_ble_eq_true rfl, Nat.le_of_ble_eq_true rfl⟩ dX10_characterOf_19 (fun H locs hP hD hS => ?_)
    refine lv_iconst (v := (1 : Int32)) hx hb dX10_characterOf_22 (by decide) ?_
    refine lv_istore (lv' := [(4, .int (1 : Int32)), (3, .int r_51), (0, .ref (a 28)), (1, .int x1), (2, .int x2)]) hx hb dX10_characterOf_23 hl (by decide) rfl (fun ls hl => ?_)
    exact w_25 1000 v10_tried_53 v10_left v10_high x1 x2 r_51 (1 : Int32) H locs ls hf hP hD hS (lv_sub hl [2, 3, 4, 1, 0] rfl)
  · have hf := pe_t hf hc_50
    refine lv_iconst (v := (1 : Int32)) hx hb dX10_characterOf_9 (by decide) ?_
    obtain ⟨rfl, rfl, rfl, rfl⟩ := po_4 hf
    rw [← hQ]; exact xe_iret Cx rfl hP hD hS dX10_characterOf_10
def gf_X10_isKind_161 (K_161 : (Nat → Int32) → Int32 → Int32 → Int32 → Option (Int32 × (Nat → Int32))) (v10_longOf : Nat → Int32) (v10_row : Nat → Int32) (v10_tried : Nat → Int32) (y1 : Int32) (y3 : Int32) (y4 : Int32) : Option (Int32 × (Nat → Int32)) := if y3 ≤ y4 then (some ((1 : Int32), v10_tried)) else (p_b1 (f_X10_rowOf v10_row y1 y4) (fun r_2 => if r_2 = (y3 - y4) then (K_161 v10_tried y1 y3 (y4 + (1 : Int32))) else (some ((0 : Int32), v10_tried))))
def f_X10_isKind_161 (v10_longOf : Nat → Int32) (v10_row : Nat → Int32) : Nat → (Nat → Int32) → Int32 → Int32 → Int32 → Option (Int32 × (Nat → Int32))
  | 0 => fun _ _ _ _ => none
  | n + 1 => gf_X10_isKind_161 (f_X10_isKind_161 v10_longOf v10_row n) v10_longOf v10_row
def f_X10_isKind (v10_longOf : Nat → Int32) (v10_row : Nat → Int32) (v10_tried : Nat → Int32) (x1 : Int32) (x2 : Int32) : Option (Int32 × (Nat → Int32)) := p_in x1 67 (if x2 = (0 : Int32) then (if (2 : Int32) ≤ (v10_longOf (Int32.toNatClampNeg x1)) then (some ((0 : Int32), v10_tried)) else (some ((1 : Int32), v10_tried))) else (if x2 = (1 : Int32) then (if (v10_longOf (Int32.toNatClampNeg x1)) = 0 then (some ((1 : Int32), v10_tried)) else (p_b1 (f_X10_rowOf v10_row x1 (0 : Int32)) (fun r_10 => if r_10 = (1 : Int32) then (some ((1 : Int32), v10_tried)) else (some ((0 : Int32), v10_tried))))) else (if x2 = (2 : Int32) then (if (3 : Int32) ≤ (v10_longOf (Int32.toNatClampNeg x1)) then (some ((0 : Int32), v10_tried)) else (some ((1 : Int32), v10_tried))) else (if x2 = (3 : Int32) then (if (v10_longOf (Int32.toNatClampNeg x1)) = (1 : Int32) then (some ((1 : Int32), v10_tried)) else (if (v10_longOf (Int32.toNatClampNeg x1)) ≤ (1 : Int32) then (some ((0 : Int32), v10_tried)) else (p_b1 (f_X10_rowOf v10_row x1 (1 : Int32)) (fun r_18 => if r_18 = (1 : Int32) then (some ((1 : Int32), v10_tried)) else (some ((0 : Int32), v10_tried)))))) else (if x2 = (4 : Int32) then (p_b2 (f_X10_turnedOf v10_longOf v10_row v10_tried x1) (fun r_22 v10_tried_23 => if r_22 = x1 then (some ((1 : Int32), v10_tried_23)) else (some ((0 : Int32), v10_tried_23)))) else (if x2 = (5 : Int32) then (if (v10_longOf (Int32.toNatClampNeg x1)) = 0 then (some ((1 : Int32), v10_tried)) else (p_b1 (f_X10_rowOf v10_row x1 (0 : Int32)) (fun r_28 => p_b1 (f_X10_rowOf v10_row x1 ((v10_longOf (Int32.toNatClampNeg x1)) - (1 : Int32))) (fun r_30 => if r_28 = r_30 then (some ((1 : Int32), v10_tried)) else (some ((0 : Int32), v10_tried)))))) else ((f_X10_isKind_161 v10_longOf v10_row 1000) v10_tried x1 (v10_longOf (Int32.toNatClampNeg x1)) (0 : Int32))))))))
set_option maxHeartbeats 4000000 in
set_option maxRecDepth 20000 in
theorem c_X10_isKind (l : Launch) (D : va_G) (cyI cyJ : ClassId) (G a : Nat → Nat) (sz : Nat) (v10_firstOf : Nat → Int32) (v10_sizeOf : Nat → Int32) (v10_longOf : Nat → Int32) (v10_row : Nat → Int32) (v10_character : Nat → Int32) (v10_sum : Nat → Int32) (v10_coefficient : Nat → Int32) (v10_undone : Int32) (v10_wasSum : Nat → Int32) (v10_wasCoefficient : Nat → Int32) (v10_hasImage : Int32) (v10_letter : Nat → Int32) (v10_letters : Int32) (v10_list : Nat → Int32) (v10_cell : Nat → Int32) (v10_refusals : Nat → Int32) (v10_tried : Nat → Int32) (v10_left : Int32) (v10_high : Int32) (v10_then : Nat → Int64) (v10_at : Int32) (v10_readSize : Int32) (x1 : Int32) (x2 : Int32) (ro : Int32) (ov10_tried : Nat → Int32) (hf : f_X10_isKind v10_longOf v10_row v10_tried x1 x2 = some (ro, ov10_tried)) : xm_z l yX10_isKind (Cond.code yX10_isKind cX10_isKind 5 (some .boolean) :: xg_tbl) { frames := 3, cells := 0, slots := 0, locals := 68 } D xcl [(cyI, .int), (cyJ, .long)] G sz [.ref (a 28), .int x1, .int x2] (wd_X10 a cyI cyJ v10_firstOf v10_sizeOf v10_longOf v10_row v10_character v10_sum v10_coefficient v10_undone v10_wasSum v10_wasCoefficient v10_hasImage v10_letter v10_letters v10_list v10_cell v10_refusals v10_tried v10_left v10_high v10_then v10_at v10_readSize) (wd_X10 a cyI cyJ v10_firstOf v10_sizeOf v10_longOf v10_row v10_character v10_sum v10_coefficient v10_undone v10_wasSum v10_wasCoefficient v10_hasImage v10_letter v10_letters v10_list v10_cell v10_refusals ov10_tried v10_left v10_high v10_then v10_at v10_readSize) ro := by
  refine xm_of_z (own := RX10) (by decide) rfl rfl (Nat.le_of_ble_eq_true rfl) ?_
  intro p e s m args below meth c ls Q A hQ hAe hin Cx hsz hP hD hS hl
  have Cx1 := Cx
  obtain ⟨⟨hx, hb, hml, hown, hts⟩, hr, hlocks, hK, hA, hT⟩ := Cx1
  have hl : lv_has ls 5 [(0, .ref (a 28)), (1, .int x1), (2, .int x2)] := hl
  obtain ⟨H, eH⟩ : ∃ H, H = s.heap := ⟨_, rfl⟩
  obtain ⟨locs, eL⟩ : ∃ L : List Loc, L = [] := ⟨_, rfl⟩
  rw [← eH] at hP
  have hS : va_S A s.heap H locs := by rw [eH, eL]; exact hS
  suffices hgo : W p l e { frames := 3, cells := 0, slots := 0, locals := 68 } s m args below meth c H locs 0 0 Q (F0 m 0 ls []) by rw [eH, eL] at hgo; exact hgo
  clear eH eL
  unfold f_X10_isKind at hf
  have w_161 : ∀ (n_161 : Nat) (v10_tried : Nat → Int32) (y1 : Int32) (y3 : Int32) (y4 : Int32) (H : Heap) (locs : List Loc) (ls : Array Slot), (f_X10_isKind_161 v10_longOf v10_row) n_161 v10_tried y1 y3 y4 = some (ro, ov10_tried) → va_P D xcl (wd_X10 a cyI cyJ v10_firstOf v10_sizeOf v10_longOf v10_row v10_character v10_sum v10_coefficient v10_undone v10_wasSum v10_wasCoefficient v10_hasImage v10_letter v10_letters v10_list v10_cell v10_refusals v10_tried v10_left v10_high v10_then v10_at v10_readSize) H → va_D A (wd_X10 a cyI cyJ v10_firstOf v10_sizeOf v10_longOf v10_row v10_character v10_sum v10_coefficient v10_undone v10_wasSum v10_wasCoefficient v10_hasImage v10_letter v10_letters v10_list v10_cell v10_refusals v10_tried v10_left v10_high v10_then v10_at v10_readSize) → va_S A s.heap H locs → lv_has ls 5 [(0, .ref (a 28)), (1, .int y1), (3, .int y3), (4, .int y4)] → W p l e { frames := 3, cells := 0, slots := 0, locals := 68 } s m args below meth c H locs 0 0 Q (F0 m 161 ls []) := by
    intro n_161
    induction n_161 with
    | zero => intro v10_tried y1 y3 y4 H locs ls hf; exact absurd hf (by intro h9; cases h9)
    | succ n_161 w_161 =>
      intro v10_tried y1 y3 y4 H locs ls hf hP hD hS hl
      have hf : gf_X10_isKind_161 ((f_X10_isKind_161 v10_longOf v10_row) n_161) v10_longOf v10_row v10_tried y1 y3 y4 = some (ro, ov10_tried) := hf
      unfold gf_X10_isKind_161 at hf
      refine lv_iload hx hb dX10_isKind_161 (lv_at hl 3 rfl) ?_
      refine lv_iload_n hx hb dX10_isKind_163 rfl (lv_at hl 2 rfl) ?_
      refine lv_icmp_ge (tgt := 189) hx hb dX10_isKind_164 (by decide) (fun hc_33 => ?_) (fun hc_33 => ?_)
      · have hf := pe_t hf hc_33
        refine lv_iconst (v := (1 : Int32)) hx hb dX10_isKind_189 (by decide) ?_
        obtain ⟨rfl, rfl⟩ := po_2 hf
        rw [← hQ]; exact xe_zret Cx rfl rfl hP hD hS dX10_isKind_190
      · have hf := pe_f hf hc_33
        refine lv_aload_n hx hb dX10_isKind_167 rfl (lv_at hl 0 rfl) ?_
        refine lv_iload_n hx hb dX10_isKind_168 rfl (lv_at hl 1 rfl) ?_
        refine lv_iload hx hb dX10_isKind_169 (lv_at hl 3 rfl) ?_
        obtain ⟨r_34, hk_35, hf⟩ := pe_1 hf
        refine xv_i (As := [.int y1, .int y4]) (rest := []) (q0 := 0) (ci := 10) Cx hP hD hS hl (pl_X10_X10 a cyI cyJ v10_firstOf v10_sizeOf v10_longOf v10_row v10_character v10_sum v10_coefficient v10_undone v10_wasSum v10_wasCoefficient v10_hasImage v10_letter v10_letters v10_list v10_cell v10_refusals v10_tried v10_left v10_high v10_then v10_at v10_readSize v10_firstOf v10_sizeOf v10_longOf v10_row v10_character v10_sum v10_coefficient v10_undone v10_wasSum v10_wasCoefficient v10_hasImage v10_letter v10_letters v10_list v10_cell v10_refusals v10_tried v10_left v10_high v10_then v10_at v10_readSize) (c_X10_rowOf l D cyI cyJ G a H.size v10_firstOf v10_sizeOf v10_longOf v10_row v10_character v10_sum v10_coefficient v10_undone v10_wasSum v10_wasCoefficient v10_hasImage v10_letter v10_letters v10_list v10_cell v10_refusals v10_tried v10_left v10_high v10_then v10_at v10_readSize y1 y4 r_34 hk_35) pk_X10_rowOf mw_4_159 ⟨rfl, rfl, Nat.le_of_ble_eq_true rfl, Nat.le_of_ble_eq_true rfl⟩ rfl rfl rfl rfl rfl (Nat.le_of_ble_eq_true rfl) ⟨Nat.le_of_ble_eq_true rfl, Nat.le_of_ble_eq_true rfl⟩ dX10_isKind_171 (fun H locs hP hD hS => ?_)
        refine lv_iload_n hx hb dX10_isKind_174 rfl (lv_at hl 2 rfl) ?_
        refine lv_iload hx hb dX10_isKind_175 (lv_at hl 3 rfl) ?_
        refine lv_isub hx hb dX10_isKind_177 ?_
        refine lv_icmp_eq (tgt := 183) hx hb dX10_isKind_178 (by decide) (fun hc_36 => ?_) (fun hc_36 => ?_)
        · have hf := pe_t hf hc_36
          refine lv_iinc (v := (y4 + (1 : Int32))) (lv' := [(4, .int (y4 + (1 : Int32))), (0, .ref (a 28)), (1, .int y1), (3, .int y3)]) hx hb dX10_isKind_183 hl (k := 3) rfl rfl (by decide) rfl (fun ls hl => ?_)
          refine lv_goto (tgt := 161) hx hb dX10_isKind_186 (by decide) ?_
          exact w_161 v10_tried y1 y3 (y4 + (1 : Int32)) H locs ls hf hP hD hS (lv_sub hl [1, 2, 3, 0] rfl)
        · have hf := pe_f hf hc_36
          refine lv_iconst (v := (0 : Int32)) hx hb dX10_isKind_181 (by decide) ?_
          obtain ⟨rfl, rfl⟩ := po_2 hf
          rw [← hQ]; exact xe_zret Cx rfl rfl hP hD hS dX10_isKind_182
  refine lv_aload_n hx hb dX10_isKind_0 rfl (lv_at hl 0 rfl) ?_
  refine va_get (ci := 10) (v := .ref (a 31)) hx hb hts wX10_in hown hK hP 0 rfl rfl 2 (by decide) (hts _ mw_4_194) (fun _ h9 => h9) rfl dX10_isKind_1 ?_
  refine lv_iload_n hx hb dX10_isKind_4 rfl (lv_at hl 1 rfl) ?_
  obtain ⟨hi_37, hf⟩ := pe_in hf
  refine va_iald hx hb hK hP 3 0 rfl rfl hi_37 dX10_isKind_5 ?_
  refine lv_istore_n (lv' := [(3, .int (v10_longOf (Int32.toNatClampNeg x1))), (0, .ref (a 28)), (1, .int x1), (2, .int x2)]) hx hb dX10_isKind_6 rfl hl (by decide) rfl (fun ls hl => ?_)
  refine lv_iload_n hx hb dX10_isKind_7 rfl (lv_at hl 3 rfl) ?_
  by_cases hc_38 : x2 = (0 : Int32)
  · have hf := pe_t hf hc_38
    refine lv_tableIn (tgt := 48) hx hb dX10_isKind_8 (by rw [hc_38]; decide) (by rw [hc_38]; decide) (by rw [hc_38]; rfl) (by decide) ?_
    refine lv_iload_n hx hb dX10_isKind_48 rfl (lv_at hl 0 rfl) ?_
    refine lv_iconst (v := (2 : Int32)) hx hb dX10_isKind_49 (by decide) ?_
    refine lv_icmp_ge (tgt := 57) hx hb dX10_isKind_50 (by decide) (fun hc_39 => ?_) (fun hc_39 => ?_)
    · have hf := pe_t hf hc_39
      refine lv_iconst (v := (0 : Int32)) hx hb dX10_isKind_57 (by decide) ?_
      obtain ⟨rfl, rfl⟩ := po_2 hf
      rw [← hQ]; exact xe_zret Cx rfl rfl hP hD hS dX10_isKind_58
    · have hf := pe_f hf hc_39
      refine lv_iconst (v := (1 : Int32)) hx hb dX10_isKind_53 (by decide) ?_
      refine lv_goto (tgt := 58) hx hb dX10_isKind_54 (by decide) ?_
      obtain ⟨rfl, rfl⟩ := po_2 hf
      rw [← hQ]; exact xe_zret Cx rfl rfl hP hD hS dX10_isKind_58
  · have hf := pe_f hf hc_38
    by_cases hc_40 : x2 = (1 : Int32)
    · have hf := pe_t hf hc_40
      refine lv_tableIn (tgt := 59) hx hb dX10_isKind_8 (by rw [hc_40]; decide) (by rw [hc_40]; decide) (by rw [hc_40]; rfl) (by decide) ?_
      refine lv_iload_n hx hb dX10_isKind_59 rfl (lv_at hl 0 rfl) ?_
      refine lv_if_eq (tgt := 73) hx hb dX10_isKind_60 (by decide) (fun hc_41 => ?_) (fun hc_41 => ?_)
      · have hf := pe_t hf hc_41
        refine lv_iconst (v := (1 : Int32)) hx hb dX10_isKind_73 (by decide) ?_
        refine lv_goto (tgt := 78) hx hb dX10_isKind_74 (by decide) ?_
        obtain ⟨rfl, rfl⟩ := po_2 hf
        rw [← hQ]; exact xe_zret Cx rfl rfl hP hD hS dX10_isKind_78
      · have hf := pe_f hf hc_41
        refine lv_aload_n hx hb dX10_isKind_63 rfl (lv_at hl 1 rfl) ?_
        refine lv_iload_n hx hb dX10_isKind_64 rfl (lv_at hl 2 rfl) ?_
        refine lv_iconst (v := (0 : Int32)) hx hb dX10_isKind_65 (by decide) ?_
        obtain ⟨r_42, hk_43, hf⟩ := pe_1 hf
        refine xv_i (As := [.int x1, .int (0 : Int32)]) (rest := []) (q0 := 0) (ci := 10) Cx hP hD hS hl (pl_X10_X10 a cyI cyJ v10_firstOf v10_sizeOf v10_longOf v10_row v10_character v10_sum v10_coefficient v10_undone v10_wasSum v10_wasCoefficient v10_hasImage v10_letter v10_letters v10_list v10_cell v10_refusals v10_tried v10_left v10_high v10_then v10_at v10_readSize v10_firstOf v10_sizeOf v10_longOf v10_row v10_character v10_sum v10_coefficient v10_undone v10_wasSum v10_wasCoefficient v10_hasImage v10_letter v10_letters v10_list v10_cell v10_refusals v10_tried v10_left v10_high v10_then v10_at v10_readSize) (c_X10_rowOf l D cyI cyJ G a H.size v10_firstOf v10_sizeOf v10_longOf v10_row v10_character v10_sum v10_coefficient v10_undone v10_wasSum v10_wasCoefficient v10_hasImage v10_letter v10_letters v10_list v10_cell v10_refusals v10_tried v10_left v10_high v10_then v10_at v10_readSize x1 (0 : Int32) r_42 hk_43) pk_X10_rowOf mw_4_159 ⟨rfl, rfl, Nat.le_of_ble_eq_true rfl, Nat.le_of_ble_eq_true rfl⟩ rfl rfl rfl rfl rfl (Nat.le_of_ble_eq_true rfl) ⟨Nat.le_of_ble_eq_true rfl, Nat.le_of_ble_eq_true rfl⟩ dX10_isKind_66 (fun H locs hP hD hS => ?_)
        refine lv_iconst (v := (1 : Int32)) hx hb dX10_isKind_69 (by decide) ?_
        refine lv_icmp_ne (tgt := 77) hx hb dX10_isKind_70 (by decide) (fun hc_44 => ?_) (fun hc_44 => ?_)
        · have hf := pe_f hf hc_44
          refine lv_iconst (v := (0 : Int32)) hx hb dX10_isKind_77 (by decide) ?_
          obtain ⟨rfl, rfl⟩ := po_2 hf
          rw [← hQ]; exact xe_zret Cx rfl rfl hP hD hS dX10_isKind_78
        · have hf := pe_t hf hc_44
          refine lv_iconst (v := (1 : Int32)) hx hb dX10_isKind_73 (by decide) ?_
          refine lv_goto (tgt := 78) hx hb dX10_isKind_74 (by decide) ?_
          obtain ⟨rfl, rfl⟩ := po_2 hf
          rw [← hQ]; exact xe_zret Cx rfl rfl hP hD hS dX10_isKind_78
    · have hf := pe_f hf hc_40
      by_cases hc_45 : x2 = (2 : Int32)
      · have hf := pe_t hf hc_45
        refine lv_tableIn (tgt := 79) hx hb dX10_isKind_8 (by rw [hc_45]; decide) (by rw [hc_45]; decide) (by rw [hc_45]; rfl) (by decide) ?_
        refine lv_iload_n hx hb dX10_isKind_79 rfl (lv_at hl 0 rfl) ?_
        refine lv_iconst (v := (3 : Int32)) hx hb dX10_isKind_80 (by decide) ?_
        refine lv_icmp_ge (tgt := 88) hx hb dX10_isKind_81 (by decide) (fun hc_46 => ?_) (fun hc_46 => ?_)
        · have hf := pe_t hf hc_46
          refine lv_iconst (v := (0 : Int32)) hx hb dX10_isKind_88 (by decide) ?_
          obtain ⟨rfl, rfl⟩ := po_2 hf
          rw [← hQ]; exact xe_zret Cx rfl rfl hP hD hS dX10_isKind_89
        · have hf := pe_f hf hc_46
          refine lv_iconst (v := (1 : Int32)) hx hb dX10_isKind_84 (by decide) ?_
          refine lv_goto (tgt := 89) hx hb dX10_isKind_85 (by decide) ?_
          obtain ⟨rfl, rfl⟩ := po_2 hf
          rw [← hQ]; exact xe_zret Cx rfl rfl hP hD hS dX10_isKind_89
      · have hf := pe_f hf hc_45
        by_cases hc_47 : x2 = (3 : Int32)
        · have hf := pe_t hf hc_47
          refine lv_tableIn (tgt := 90) hx hb dX10_isKind_8 (by rw [hc_47]; decide) (by rw [hc_47]; decide) (by rw [hc_47]; rfl) (by decide) ?_
          refine lv_iload_n hx hb dX10_isKind_90 rfl (lv_at hl 0 rfl) ?_
          refine lv_iconst (v := (1 : Int32)) hx hb dX10_isKind_91 (by decide) ?_
          refine lv_icmp_eq (tgt := 110) hx hb dX10_isKind_92 (by decide) (fun hc_48 => ?_) (fun hc_48 => ?_)
          · have hf := pe_t hf hc_48
            refine lv_iconst (v := (1 : Int32)) hx hb dX10_isKind_110 (by decide) ?_
            refine lv_goto (tgt := 115) hx hb dX10_isKind_111 (by decide) ?_
            obtain ⟨rfl, rfl⟩ := po_2 hf
            rw [← hQ]; exact xe_zret Cx rfl rfl hP hD hS dX10_isKind_115
          · have hf := pe_f hf hc_48
            refine lv_iload_n hx hb dX10_isKind_95 rfl (lv_at hl 0 rfl) ?_
            refine lv_iconst (v := (1 : Int32)) hx hb dX10_isKind_96 (by decide) ?_
            refine lv_icmp_le (tgt := 114) hx hb dX10_isKind_97 (by decide) (fun hc_49 => ?_) (fun hc_49 => ?_)
            · have hf := pe_t hf hc_49
              refine lv_iconst (v := (0 : Int32)) hx hb dX10_isKind_114 (by decide) ?_
              obtain ⟨rfl, rfl⟩ := po_2 hf
              rw [← hQ]; exact xe_zret Cx rfl rfl hP hD hS dX10_isKind_115
            · have hf := pe_f hf hc_49
              refine lv_aload_n hx hb dX10_isKind_100 rfl (lv_at hl 1 rfl) ?_
              refine lv_iload_n hx hb dX10_isKind_101 rfl (lv_at hl 2 rfl) ?_
              refine lv_iconst (v := (1 : Int32)) hx hb dX10_isKind_102 (by decide) ?_
              obtain ⟨r_50, hk_51, hf⟩ := pe_1 hf
              refine xv_i (As := [.int x1, .int (1 : Int32)]) (rest := []) (q0 := 0) (ci := 10) Cx hP hD hS hl (pl_X10_X10 a cyI cyJ v10_firstOf v10_sizeOf v10_longOf v10_row v10_character v10_sum v10_coefficient v10_undone v10_wasSum v10_wasCoefficient v10_hasImage v10_letter v10_letters v10_list v10_cell v10_refusals v10_tried v10_left v10_high v10_then v10_at v10_readSize v10_firstOf v10_sizeOf v10_longOf v10_row v10_character v10_sum v10_coefficient v10_undone v10_wasSum v10_wasCoefficient v10_hasImage v10_letter v10_letters v10_list v10_cell v10_refusals v10_tried v10_left v10_high v10_then v10_at v10_readSize) (c_X10_rowOf l D cyI cyJ G a H.size v10_firstOf v10_sizeOf v10_longOf v10_row v10_character v10_sum v10_coefficient v10_undone v10_wasSum v10_wasCoefficient v10_hasImage v10_letter v10_letters v10_list v10_cell v10_refusals v10_tried v10_left v10_high v10_then v10_at v10_readSize x1 (1 : Int32) r_50 hk_51) pk_X10_rowOf mw_4_159 ⟨rfl, rfl, Nat.le_of_ble_eq_true rfl, Nat.le_of_ble_eq_true rfl⟩ rfl rfl rfl rfl rfl (Nat.le_of_ble_eq_true rfl) ⟨Nat.le_of_ble_eq_true rfl, Nat.le_of_ble_eq_true rfl⟩ dX10_isKind_103 (fun H locs hP hD hS => ?_)
              refine lv_iconst (v := (1 : Int32)) hx hb dX10_isKind_106 (by decide) ?_
              refine lv_icmp_ne (tgt := 114) hx hb dX10_isKind_107 (by decide) (fun hc_52 => ?_) (fun hc_52 => ?_)
              · have hf := pe_f hf hc_52
                refine lv_iconst (v := (0 : Int32)) hx hb dX10_isKind_114 (by decide) ?_
                obtain ⟨rfl, rfl⟩ := po_2 hf
                rw [← hQ]; exact xe_zret Cx rfl rfl hP hD hS dX10_isKind_115
              · have hf := pe_t hf hc_52
                refine lv_iconst (v := (1 : Int32)) hx hb dX10_isKind_110 (by decide) ?_
                refine lv_goto (tgt := 115) hx hb dX10_isKind_111 (by decide) ?_
                obtain ⟨rfl, rfl⟩ := po_2 hf
                rw [← hQ]; exact xe_zret Cx rfl rfl hP hD hS dX10_isKind_115
        · have hf := pe_f hf hc_47
          by_cases hc_53 : x2 = (4 : Int32)
          · have hf := pe_t hf hc_53
            refine lv_tableIn (tgt := 116) hx hb dX10_isKind_8 (by rw [hc_53]; decide) (by rw [hc_53]; decide) (by rw [hc_53]; rfl) (by decide) ?_
            refine lv_aload_n hx hb dX10_isKind_116 rfl (lv_at hl 1 rfl) ?_
            refine lv_iload_n hx hb dX10_isKind_117 rfl (lv_at hl 2 rfl) ?_
            obtain ⟨r_54, v10_tried_55, hk_56, hf⟩ := pe_2 hf
            refine xv_i (As := [.int x1]) (rest := []) (q0 := 0) (ci := 10) Cx hP hD hS hl (pl_X10_X10 a cyI cyJ v10_firstOf v10_sizeOf v10_longOf v10_row v10_character v10_sum v10_coefficient v10_undone v10_wasSum v10_wasCoefficient v10_hasImage v10_letter v10_letters v10_list v10_cell v10_refusals v10_tried v10_left v10_high v10_then v10_at v10_readSize v10_firstOf v10_sizeOf v10_longOf v10_row v10_character v10_sum v10_coefficient v10_undone v10_wasSum v10_wasCoefficient v10_hasImage v10_letter v10_letters v10_list v10_cell v10_refusals v10_tried_55 v10_left v10_high v10_then v10_at v10_readSize) (c_X10_turnedOf l D cyI cyJ G a H.size v10_firstOf v10_sizeOf v10_longOf v10_row v10_character v10_sum v10_coefficient v10_undone v10_wasSum v10_wasCoefficient v10_hasImage v10_letter v10_letters v10_list v10_cell v10_refusals v10_tried v10_left v10_high v10_then v10_at v10_readSize x1 r_54 v10_tried_55 hk_56) pk_X10_turnedOf mw_5_33 ⟨rfl, rfl, Nat.le_of_ble_eq_true rfl, Nat.le_of_ble_eq_true rfl⟩ rfl rfl rfl rfl rfl (Nat.le_of_ble_eq_true rfl) ⟨Nat.le_of_ble_eq_true rfl, Nat.le_of_ble_eq_true rfl⟩ dX10_isKind_118 (fun H locs hP hD hS => ?_)
            refine lv_iload_n hx hb dX10_isKind_121 rfl (lv_at hl 2 rfl) ?_
            refine lv_icmp_ne (tgt := 129) hx hb dX10_isKind_122 (by decide) (fun hc_57 => ?_) (fun hc_57 => ?_)
            · have hf := pe_f hf hc_57
              refine lv_iconst (v := (0 : Int32)) hx hb dX10_isKind_129 (by decide) ?_
              obtain ⟨rfl, rfl⟩ := po_2 hf
              rw [← hQ]; exact xe_zret Cx rfl rfl hP hD hS dX10_isKind_130
            · have hf := pe_t hf hc_57
              refine lv_iconst (v := (1 : Int32)) hx hb dX10_isKind_125 (by decide) ?_
              refine lv_goto (tgt := 130) hx hb dX10_isKind_126 (by decide) ?_
              obtain ⟨rfl, rfl⟩ := po_2 hf
              rw [← hQ]; exact xe_zret Cx rfl rfl hP hD hS dX10_isKind_130
          · have hf := pe_f hf hc_53
            by_cases hc_58 : x2 = (5 : Int32)
            · have hf := pe_t hf hc_58
              refine lv_tableIn (tgt := 131) hx hb dX10_isKind_8 (by rw [hc_58]; decide) (by rw [hc_58]; decide) (by rw [hc_58]; rfl) (by decide) ?_
              refine lv_iload_n hx hb dX10_isKind_131 rfl (lv_at hl 0 rfl) ?_
              refine lv_if_eq (tgt := 152) hx hb dX10_isKind_132 (by decide) (fun hc_59 => ?_) (fun hc_59 => ?_)
              · have hf := pe_t hf hc_59
                refine lv_iconst (v := (1 : Int32)) hx hb dX10_isKind_152 (by decide) ?_
                refine lv_goto (tgt := 157) hx hb dX10_isKind_153 (by decide) ?_
                obtain ⟨rfl, rfl⟩ := po_2 hf
                rw [← hQ]; exact xe_zret Cx rfl rfl hP hD hS dX10_isKind_157
              · have hf := pe_f hf hc_59
                refine lv_aload_n hx hb dX10_isKind_135 rfl (lv_at hl 1 rfl) ?_
                refine lv_iload_n hx hb dX10_isKind_136 rfl (lv_at hl 2 rfl) ?_
                refine lv_iconst (v := (0 : Int32)) hx hb dX10_isKind_137 (by decide) ?_
                obtain ⟨r_60, hk_61, hf⟩ := pe_1 hf
                refine xv_i (As := [.int x1, .int (0 : Int32)]) (rest := []) (q0 := 0) (ci := 10) Cx hP hD hS hl (pl_X10_X10 a cyI cyJ v10_firstOf v10_sizeOf v10_longOf v10_row v10_character v10_sum v10_coefficient v10_undone v10_wasSum v10_wasCoefficient v10_hasImage v10_letter v10_letters v10_list v10_cell v10_refusals v10_tried v10_left v10_high v10_then v10_at v10_readSize v10_firstOf v10_sizeOf v10_longOf v10_row v10_character v10_sum v10_coefficient v10_undone v10_wasSum v10_wasCoefficient v10_hasImage v10_letter v10_letters v10_list v10_cell v10_refusals v10_tried v10_left v10_high v10_then v10_at v10_readSize) (c_X10_rowOf l D cyI cyJ G a H.size v10_firstOf v10_sizeOf v10_longOf v10_row v10_character v10_sum v10_coefficient v10_undone v10_wasSum v10_wasCoefficient v10_hasImage v10_letter v10_letters v10_list v10_cell v10_refusals v10_tried v10_left v10_high v10_then v10_at v10_readSize x1 (0 : Int32) r_60 hk_61) pk_X10_rowOf mw_4_159 ⟨rfl, rfl, Nat.le_of_ble_eq_true rfl, Nat.le_of_ble_eq_true rfl⟩ rfl rfl rfl rfl rfl (Nat.le_of_ble_eq_true rfl) ⟨Nat.le_of_ble_eq_true rfl, Nat.le_of_ble_eq_true rfl⟩ dX10_isKind_138 (fun H locs hP hD hS => ?_)
                refine lv_aload_n hx hb dX10_isKind_141 rfl (lv_at hl 1 rfl) ?_
                refine lv_iload_n hx hb dX10_isKind_142 rfl (lv_at hl 2 rfl) ?_
                refine lv_iload_n hx hb dX10_isKind_143 rfl (lv_at hl 0 rfl) ?_
                refine lv_iconst (v := (1 : Int32)) hx hb dX10_isKind_144 (by decide) ?_
                refine lv_isub hx hb dX10_isKind_145 ?_
                obtain ⟨r_62, hk_63, hf⟩ := pe_1 hf
                refine xv_i (As := [.int x1, .int ((v10_longOf (Int32.toNatClampNeg x1)) - (1 : Int32))]) (rest := [.int r_60]) (q0 := 0) (ci := 10) Cx hP hD hS hl (pl_X10_X10 a cyI cyJ v10_firstOf v10_sizeOf v10_longOf v10_row v10_character v10_sum v10_coefficient v10_undone v10_wasSum v10_wasCoefficient v10_hasImage v10_letter v10_letters v10_list v10_cell v10_refusals v10_tried v10_left v10_high v10_then v10_at v10_readSize v10_firstOf v10_sizeOf v10_longOf v10_row v10_character v10_sum v10_coefficient v10_undone v10_wasSum v10_wasCoefficient v10_hasImage v10_letter v10_letters v10_list v10_cell v10_refusals v10_tried v10_left v10_high v10_then v10_at v10_readSize) (c_X10_rowOf l D cyI cyJ G a H.size v10_firstOf v10_sizeOf v10_longOf v10_row v10_character v10_sum v10_coefficient v10_undone v10_wasSum v10_wasCoefficient v10_hasImage v10_letter v10_letters v10_list v10_cell v10_refusals v10_tried v10_left v10_high v10_then v10_at v10_readSize x1 ((v10_longOf (Int32.toNatClampNeg x1)) - (1 : Int32)) r_62 hk_63) pk_X10_rowOf mw_4_159 ⟨rfl, rfl, Nat.le_of_ble_eq_true rfl, Nat.le_of_ble_eq_true rfl⟩ rfl rfl rfl rfl rfl (Nat.le_of_ble_eq_true rfl) ⟨Nat.le_of_ble_eq_true rfl, Nat.le_of_ble_eq_true rfl⟩ dX10_isKind_146 (fun H locs hP hD hS => ?_)
                refine lv_icmp_ne (tgt := 156) hx hb dX10_isKind_149 (by decide) (fun hc_64 => ?_) (fun hc_64 => ?_)
                · have hf := pe_f hf hc_64
                  refine lv_iconst (v := (0 : Int32)) hx hb dX10_isKind_156 (by decide) ?_
                  obtain ⟨rfl, rfl⟩ := po_2 hf
                  rw [← hQ]; exact xe_zret Cx rfl rfl hP hD hS dX10_isKind_157
                · have hf := pe_t hf hc_64
                  refine lv_iconst (v := (1 : Int32)) hx hb dX10_isKind_152 (by decide) ?_
                  refine lv_goto (tgt := 157) hx hb dX10_isKind_153 (by decide) ?_
                  obtain ⟨rfl, rfl⟩ := po_2 hf
                  rw [← hQ]; exact xe_zret Cx rfl rfl hP hD hS dX10_isKind_157
            · have hf := pe_f hf hc_58
              have hc_38 : (x2).toInt ≠ 0 := xh_ne (by decide) hc_38
              have hc_40 : (x2).toInt ≠ 1 := xh_ne (by decide) hc_40
              have hc_45 : (x2).toInt ≠ 2 := xh_ne (by decide) hc_45
              have hc_47 : (x2).toInt ≠ 3 := xh_ne (by decide) hc_47
              have hc_53 : (x2).toInt ≠ 4 := xh_ne (by decide) hc_53
              have hc_58 : (x2).toInt ≠ 5 := xh_ne (by decide) hc_58
              refine lv_tableOut (tgt := 158) hx hb dX10_isKind_8 (by omega) (by decide) ?_
              refine lv_iconst (v := (0 : Int32)) hx hb dX10_isKind_158 (by decide) ?_
              refine lv_istore (lv' := [(4, .int (0 : Int32)), (3, .int (v10_longOf (Int32.toNatClampNeg x1))), (0, .ref (a 28)), (1, .int x1), (2, .int x2)]) hx hb dX10_isKind_159 hl (by decide) rfl (fun ls hl => ?_)
              exact w_161 1000 v10_tried x1 (v10_longOf (Int32.toNatClampNeg x1)) (0 : Int32) H locs ls hf hP hD hS (lv_sub hl [2, 3, 1, 0] rfl)
def f_X10_of_137 (K_111 : (Nat → Int32) → (Nat → Int32) → Int32 → Int32 → Int32 → Option (Int32 × (Nat → Int32) × (Nat → Int32))) (v10_sizeOf : Nat → Int32) (v10_longOf : Nat → Int32) (v10_row : Nat → Int32) (v10_refusals : Nat → Int32) (v10_tried : Nat → Int32) (y1 : Int32) (y4 : Int32) (z0 : Int32) (z1 : Int32) : Option (Int32 × (Nat → Int32) × (Nat → Int32)) := K_111 v10_refusals v10_tried y1 (z1 ||| z0) (y4 + (1 : Int32))
def gf_X10_of_111 (K_111 : (Nat → Int32) → (Nat → Int32) → Int32 → Int32 → Int32 → Option (Int32 × (Nat → Int32) × (Nat → Int32))) (v10_sizeOf : Nat → Int32) (v10_longOf : Nat → Int32) (v10_row : Nat → Int32) (v10_refusals : Nat → Int32) (v10_tried : Nat → Int32) (y1 : Int32) (y3 : Int32) (y4 : Int32) : Option (Int32 × (Nat → Int32) × (Nat → Int32)) := if (7 : Int32) ≤ y4 then (some (y3, v10_refusals, v10_tried)) else (p_b2 (f_X10_isKind v10_longOf v10_row v10_tried y1 y4) (fun r_2 v10_tried_3 => if r_2 = 0 then ((f_X10_of_137 K_111 v10_sizeOf v10_longOf v10_row) v10_refusals v10_tried_3 y1 y4 (0 : Int32) y3) else ((f_X10_of_137 K_111 v10_sizeOf v10_longOf v10_row) v10_refusals v10_tried_3 y1 y4 ((1 : Int32) <<< (y4 &&& 31)) y3)))
def f_X10_of_111 (v10_sizeOf : Nat → Int32) (v10_longOf : Nat → Int32) (v10_row : Nat → Int32) : Nat → (Nat → Int32) → (Nat → Int32) → Int32 → Int32 → Int32 → Option (Int32 × (Nat → Int32) × (Nat → Int32))
  | 0 => fun _ _ _ _ _ => none
  | n + 1 => gf_X10_of_111 (f_X10_of_111 v10_sizeOf v10_longOf v10_row n) v10_sizeOf v10_longOf v10_row
def f_X10_of (v10_sizeOf : Nat → Int32) (v10_longOf : Nat → Int32) (v10_row : Nat → Int32) (v10_refusals : Nat → Int32) (v10_tried : Nat → Int32) (x1 : Int32) (x2 : Int32) : Option (Int32 × (Nat → Int32) × (Nat → Int32)) := p_b1 (f_X10_isShape x1) (fun r_7 => if r_7 = 0 then (p_b2 (f_X10_refused v10_refusals (-1 : Int32)) (fun r_35 v10_refusals_36 => some (r_35, v10_refusals_36, v10_tried))) else (p_b1 (f_X10_in x2 (10 : Int32) (17 : Int32)) (fun r_11 => if r_11 = 0 then (if x2 = (0 : Int32) then (p_in x1 67 (some ((v10_sizeOf (Int32.toNatClampNeg x1)), v10_refusals, v10_tried))) else (if x2 = (1 : Int32) then (p_in x1 67 (some ((v10_longOf (Int32.toNatClampNeg x1)), v10_refusals, v10_tried))) else (if x2 = (2 : Int32) then (p_b2 (f_X10_turnedOf v10_longOf v10_row v10_tried x1) (fun r_20 v10_tried_21 => some (r_20, v10_refusals, v10_tried_21))) else (if x2 = (3 : Int32) then (p_b1 (f_X10_dimension v10_sizeOf v10_longOf v10_row x1) (fun r_24 => some (r_24, v10_refusals, v10_tried))) else (if x2 = (4 : Int32) then (p_b1 (f_X10_ordersOf v10_sizeOf v10_longOf v10_row x1) (fun r_27 => some (r_27, v10_refusals, v10_tried))) else (if x2 = (5 : Int32) then ((f_X10_of_111 v10_sizeOf v10_longOf v10_row 1000) v10_refusals v10_tried x1 (0 : Int32) (0 : Int32)) else (p_b2 (f_X10_refused v10_refusals (-2 : Int32)) (fun r_30 v10_refusals_31 => some (r_30, v10_refusals_31, v10_tried))))))))) else (p_b1 (f_X10_rowOf v10_row x1 (x2 - (10 : Int32))) (fun r_33 => some (r_33, v10_refusals, v10_tried))))))
set_option maxHeartbeats 4000000 in
set_option maxRecDepth 20000 in
theorem c_X10_of (l : Launch) (D : va_G) (cyI cyJ : ClassId) (G a : Nat → Nat) (sz : Nat) (v10_firstOf : Nat → Int32) (v10_sizeOf : Nat → Int32) (v10_longOf : Nat → Int32) (v10_row : Nat → Int32) (v10_character : Nat → Int32) (v10_sum : Nat → Int32) (v10_coefficient : Nat → Int32) (v10_undone : Int32) (v10_wasSum : Nat → Int32) (v10_wasCoefficient : Nat → Int32) (v10_hasImage : Int32) (v10_letter : Nat → Int32) (v10_letters : Int32) (v10_list : Nat → Int32) (v10_cell : Nat → Int32) (v10_refusals : Nat → Int32) (v10_tried : Nat → Int32) (v10_left : Int32) (v10_high : Int32) (v10_then : Nat → Int64) (v10_at : Int32) (v10_readSize : Int32) (x1 : Int32) (x2 : Int32) (ro : Int32) (ov10_refusals : Nat → Int32) (ov10_tried : Nat → Int32) (hf : f_X10_of v10_sizeOf v10_longOf v10_row v10_refusals v10_tried x1 x2 = some (ro, ov10_refusals, ov10_tried)) : xm_i l yX10_of (Cond.code yX10_of cX10_of 5 (some .int) :: xg_tbl) { frames := 4, cells := 0, slots := 0, locals := 94 } D xcl [(cyI, .int), (cyJ, .long)] G sz [.ref (a 28), .int x1, .int x2] (wd_X10 a cyI cyJ v10_firstOf v10_sizeOf v10_longOf v10_row v10_character v10_sum v10_coefficient v10_undone v10_wasSum v10_wasCoefficient v10_hasImage v10_letter v10_letters v10_list v10_cell v10_refusals v10_tried v10_left v10_high v10_then v10_at v10_readSize) (wd_X10 a cyI cyJ v10_firstOf v10_sizeOf v10_longOf v10_row v10_character v10_sum v10_coefficient v10_undone v10_wasSum v10_wasCoefficient v10_hasImage v10_letter v10_letters v10_list v10_cell ov10_refusals ov10_tried v10_left v10_high v10_then v10_at v10_readSize) ro := by
  refine xm_of_i (own := RX10) (by decide) rfl rfl (Nat.le_of_ble_eq_true rfl) ?_
  intro p e s m args below meth c ls Q A hQ hAe hin Cx hsz hP hD hS hl
  have Cx1 := Cx
  obtain ⟨⟨hx, hb, hml, hown, hts⟩, hr, hlocks, hK, hA, hT⟩ := Cx1
  have hl : lv_has ls 5 [(0, .ref (a 28)), (1, .int x1), (2, .int x2)] := hl
  obtain ⟨H, eH⟩ : ∃ H, H = s.heap := ⟨_, rfl⟩
  obtain ⟨locs, eL⟩ : ∃ L : List Loc, L = [] := ⟨_, rfl⟩
  rw [← eH] at hP
  have hS : va_S A s.heap H locs := by rw [eH, eL]; exact hS
  suffices hgo : W p l e { frames := 4, cells := 0, slots := 0, locals := 94 } s m args below meth c H locs 0 0 Q (F0 m 0 ls []) by rw [eH, eL] at hgo; exact hgo
  clear eH eL
  unfold f_X10_of at hf
  have w_111 : ∀ (n_111 : Nat) (v10_refusals : Nat → Int32) (v10_tried : Nat → Int32) (y1 : Int32) (y3 : Int32) (y4 : Int32) (H : Heap) (locs : List Loc) (ls : Array Slot), (f_X10_of_111 v10_sizeOf v10_longOf v10_row) n_111 v10_refusals v10_tried y1 y3 y4 = some (ro, ov10_refusals, ov10_tried) → va_P D xcl (wd_X10 a cyI cyJ v10_firstOf v10_sizeOf v10_longOf v10_row v10_character v10_sum v10_coefficient v10_undone v10_wasSum v10_wasCoefficient v10_hasImage v10_letter v10_letters v10_list v10_cell v10_refusals v10_tried v10_left v10_high v10_then v10_at v10_readSize) H → va_D A (wd_X10 a cyI cyJ v10_firstOf v10_sizeOf v10_longOf v10_row v10_character v10_sum v10_coefficient v10_undone v10_wasSum v10_wasCoefficient v10_hasImage v10_letter v10_letters v10_list v10_cell v10_refusals v10_tried v10_left v10_high v10_then v10_at v10_readSize) → va_S A s.heap H locs → lv_has ls 5 [(0, .ref (a 28)), (1, .int y1), (3, .int y3), (4, .int y4)] → W p l e { frames := 4, cells := 0, slots := 0, locals := 94 } s m args below meth c H locs 0 0 Q (F0 m 111 ls []) := by
    intro n_111
    induction n_111 with
    | zero => intro v10_refusals v10_tried y1 y3 y4 H locs ls hf; exact absurd hf (by intro h9; cases h9)
    | succ n_111 w_111 =>
      intro v10_refusals v10_tried y1 y3 y4 H locs ls hf hP hD hS hl
      have hf : gf_X10_of_111 ((f_X10_of_111 v10_sizeOf v10_longOf v10_row) n_111) v10_sizeOf v10_longOf v10_row v10_refusals v10_tried y1 y3 y4 = some (ro, ov10_refusals, ov10_tried) := hf
      unfold gf_X10_of_111 at hf
      have w_137 : ∀ (v10_refusals : Nat → Int32) (v10_tried : Nat → Int32) (y1 : Int32) (y4 : Int32) (z0 : Int32) (z1 : Int32) (H : Heap) (locs : List Loc) (ls : Array Slot), (f_X10_of_137 ((f_X10_of_111 v10_sizeOf v10_longOf v10_row) n_111) v10_sizeOf v10_longOf v10_row) v10_refusals v10_tried y1 y4 z0 z1 = some (ro, ov10_refusals, ov10_tried) → va_P D xcl (wd_X10 a cyI cyJ v10_firstOf v10_sizeOf v10_longOf v10_row v10_character v10_sum v10_coefficient v10_undone v10_wasSum v10_wasCoefficient v10_hasImage v10_letter v10_letters v10_list v10_cell v10_refusals v10_tried v10_left v10_high v10_then v10_at v10_readSize) H → va_D A (wd_X10 a cyI cyJ v10_firstOf v10_sizeOf v10_longOf v10_row v10_character v10_sum v10_coefficient v10_undone v10_wasSum v10_wasCoefficient v10_hasImage v10_letter v10_letters v10_list v10_cell v10_refusals v10_tried v10_left v10_high v10_then v10_at v10_readSize) → va_S A s.heap H locs → lv_has ls 5 [(0, .ref (a 28)), (1, .int y1), (4, .int y4)] → W p l e { frames := 4, cells := 0, slots := 0, locals := 94 } s m args below meth c H locs 0 0 Q (F0 m 137 ls [.int z0, .int z1]) := by
        intro v10_refusals v10_tried y1 y4 z0 z1 H locs ls hf hP hD hS hl
        unfold f_X10_of_137 at hf
        refine lv_ior hx hb dX10_of_137 ?_
        refine lv_istore_n (lv' := [(3, .int (z1 ||| z0)), (0, .ref (a 28)), (1, .int y1), (4, .int y4)]) hx hb dX10_of_138 rfl hl (by decide) rfl (fun ls hl => ?_)
        refine lv_iinc (v := (y4 + (1 : Int32))) (lv' := [(4, .int (y4 + (1 : Int32))), (3, .int (z1 ||| z0)), (0, .ref (a 28)), (1, .int y1)]) hx hb dX10_of_139 hl (k := 3) rfl rfl (by decide) rfl (fun ls hl => ?_)
        refine lv_goto (tgt := 111) hx hb dX10_of_142 (by decide) ?_
        exact w_111 v10_refusals v10_tried y1 (z1 ||| z0) (y4 + (1 : Int32)) H locs ls hf hP hD hS (lv_sub hl [2, 3, 1, 0] rfl)
      refine lv_iload hx hb dX10_of_111 (lv_at hl 3 rfl) ?_
      refine lv_bipush (v := (7 : Int32)) hx hb dX10_of_113 (by decide) ?_
      refine lv_icmp_ge (tgt := 145) hx hb dX10_of_115 (by decide) (fun hc_38 => ?_) (fun hc_38 => ?_)
      · have hf := pe_t hf hc_38
        refine lv_iload_n hx hb dX10_of_145 rfl (lv_at hl 2 rfl) ?_
        obtain ⟨rfl, rfl, rfl⟩ := po_3 hf
        rw [← hQ]; exact xe_iret Cx rfl hP hD hS dX10_of_146
      · have hf := pe_f hf hc_38
        refine lv_iload_n hx hb dX10_of_118 rfl (lv_at hl 2 rfl) ?_
        refine lv_aload_n hx hb dX10_of_119 rfl (lv_at hl 0 rfl) ?_
        refine lv_iload_n hx hb dX10_of_120 rfl (lv_at hl 1 rfl) ?_
        refine lv_iload hx hb dX10_of_121 (lv_at hl 3 rfl) ?_
        obtain ⟨r_39, v10_tried_40, hk_41, hf⟩ := pe_2 hf
        refine xv_z (As := [.int y1, .int y4]) (rest := [.int y3]) (q0 := 0) (ci := 10) Cx hP hD hS hl (pl_X10_X10 a cyI cyJ v10_firstOf v10_sizeOf v10_longOf v10_row v10_character v10_sum v10_coefficient v10_undone v10_wasSum v10_wasCoefficient v10_hasImage v10_letter v10_letters v10_list v10_cell v10_refusals v10_tried v10_left v10_high v10_then v10_at v10_readSize v10_firstOf v10_sizeOf v10_longOf v10_row v10_character v10_sum v10_coefficient v10_undone v10_wasSum v10_wasCoefficient v10_hasImage v10_letter v10_letters v10_list v10_cell v10_refusals v10_tried_40 v10_left v10_high v10_then v10_at v10_readSize) (c_X10_isKind l D cyI cyJ G a H.size v10_firstOf v10_sizeOf v10_longOf v10_row v10_character v10_sum v10_coefficient v10_undone v10_wasSum v10_wasCoefficient v10_hasImage v10_letter v10_letters v10_list v10_cell v10_refusals v10_tried v10_left v10_high v10_then v10_at v10_readSize y1 y4 r_39 v10_tried_40 hk_41) pk_X10_isKind mw_5_48 ⟨rfl, rfl, Nat.le_of_ble_eq_true rfl, Nat.le_of_ble_eq_true rfl⟩ rfl rfl rfl rfl rfl (Nat.le_of_ble_eq_true rfl) ⟨Nat.le_of_ble_eq_true rfl, Nat.le_of_ble_eq_true rfl⟩ dX10_of_123 (fun H locs hn_42 hP hD hS => ?_)
        refine lv_if_eq (tgt := 136) hx hb dX10_of_126 (by decide) (fun hc_43 => ?_) (fun hc_43 => ?_)
        · have hf := pe_t hf hc_43
          refine lv_iconst (v := (0 : Int32)) hx hb dX10_of_136 (by decide) ?_
          exact w_137 v10_refusals v10_tried_40 y1 y4 (0 : Int32) y3 H locs ls hf hP hD hS (lv_sub hl [0, 1, 3] rfl)
        · have hf := pe_f hf hc_43
          refine lv_iconst (v := (1 : Int32)) hx hb dX10_of_129 (by decide) ?_
          refine lv_iload hx hb dX10_of_130 (lv_at hl 3 rfl) ?_
          refine lv_ishl hx hb dX10_of_132 ?_
          refine lv_goto (tgt := 137) hx hb dX10_of_133 (by decide) ?_
          exact w_137 v10_refusals v10_tried_40 y1 y4 ((1 : Int32) <<< (y4 &&& 31)) y3 H locs ls hf hP hD hS (lv_sub hl [0, 1, 3] rfl)
  refine lv_iload_n hx hb dX10_of_0 rfl (lv_at hl 1 rfl) ?_
  obtain ⟨r_44, hk_45, hf⟩ := pe_1 hf
  refine xw_z (As := [.int x1]) (rest := []) Cx hP hD hS hl (xq_none _) (c_X10_isShape l D cyI cyJ G H.size x1 r_44 hk_45) pk_X10_isShape mw_5_23 ⟨rfl, rfl, Nat.le_of_ble_eq_true rfl, Nat.le_of_ble_eq_true rfl⟩ rfl rfl (Nat.le_of_ble_eq_true rfl) ⟨Nat.le_of_ble_eq_true rfl, Nat.le_of_ble_eq_true rfl⟩ dX10_of_1 (fun H locs hn_46 hP hD hS => ?_)
  refine lv_if_ne (tgt := 13) hx hb dX10_of_4 (by decide) (fun hc_47 => ?_) (fun hc_47 => ?_)
  · have hf := pe_f hf hc_47
    refine lv_iload_n hx hb dX10_of_13 rfl (lv_at hl 2 rfl) ?_
    refine lv_bipush (v := (10 : Int32)) hx hb dX10_of_14 (by decide) ?_
    refine lv_bipush (v := (17 : Int32)) hx hb dX10_of_16 (by decide) ?_
    obtain ⟨r_48, hk_49, hf⟩ := pe_1 hf
    refine xw_z (As := [.int x2, .int (10 : Int32), .int (17 : Int32)]) (rest := []) Cx hP hD hS hl (xq_none _) (c_X10_in l D cyI cyJ G H.size x2 (10 : Int32) (17 : Int32) r_48 hk_49) pk_X10_in mw_5_26 ⟨rfl, rfl, Nat.le_of_ble_eq_true rfl, Nat.le_of_ble_eq_true rfl⟩ rfl rfl (Nat.le_of_ble_eq_true rfl) ⟨Nat.le_of_ble_eq_true rfl, Nat.le_of_ble_eq_true rfl⟩ dX10_of_18 (fun H locs hn_50 hP hD hS => ?_)
    refine lv_if_eq (tgt := 34) hx hb dX10_of_21 (by decide) (fun hc_51 => ?_) (fun hc_51 => ?_)
    · have hf := pe_t hf hc_51
      refine lv_iconst (v := (0 : Int32)) hx hb dX10_of_34 (by decide) ?_
      refine lv_istore_n (lv' := [(3, .int (0 : Int32)), (0, .ref (a 28)), (1, .int x1), (2, .int x2)]) hx hb dX10_of_35 rfl hl (by decide) rfl (fun ls hl => ?_)
      refine lv_iload_n hx hb dX10_of_36 rfl (lv_at hl 3 rfl) ?_
      by_cases hc_52 : x2 = (0 : Int32)
      · have hf := pe_t hf hc_52
        refine lv_tableIn (tgt := 76) hx hb dX10_of_37 (by rw [hc_52]; decide) (by rw [hc_52]; decide) (by rw [hc_52]; rfl) (by decide) ?_
        refine lv_aload_n hx hb dX10_of_76 rfl (lv_at hl 1 rfl) ?_
        refine va_get (ci := 10) (v := .ref (a 30)) hx hb hts wX10_in hown hK hP 0 rfl rfl 1 (by decide) (hts _ mw_4_193) (fun _ h9 => h9) rfl dX10_of_77 ?_
        refine lv_iload_n hx hb dX10_of_80 rfl (lv_at hl 2 rfl) ?_
        obtain ⟨hi_53, hf⟩ := pe_in hf
        refine va_iald hx hb hK hP 2 0 rfl rfl hi_53 dX10_of_81 ?_
        obtain ⟨rfl, rfl, rfl⟩ := po_3 hf
        rw [← hQ]; exact xe_iret Cx rfl hP hD hS dX10_of_82
      · have hf := pe_f hf hc_52
        by_cases hc_54 : x2 = (1 : Int32)
        · have hf := pe_t hf hc_54
          refine lv_tableIn (tgt := 83) hx hb dX10_of_37 (by rw [hc_54]; decide) (by rw [hc_54]; decide) (by rw [hc_54]; rfl) (by decide) ?_
          refine lv_aload_n hx hb dX10_of_83 rfl (lv_at hl 1 rfl) ?_
          refine va_get (ci := 10) (v := .ref (a 31)) hx hb hts wX10_in hown hK hP 0 rfl rfl 2 (by decide) (hts _ mw_4_194) (fun _ h9 => h9) rfl dX10_of_84 ?_
          refine lv_iload_n hx hb dX10_of_87 rfl (lv_at hl 2 rfl) ?_
          obtain ⟨hi_55, hf⟩ := pe_in hf
          refine va_iald hx hb hK hP 3 0 rfl rfl hi_55 dX10_of_88 ?_
          obtain ⟨rfl, rfl, rfl⟩ := po_3 hf
          rw [← hQ]; exact xe_iret Cx rfl hP hD hS dX10_of_89
        · have hf := pe_f hf hc_54
          by_cases hc_56 : x2 = (2 : Int32)
          · have hf := pe_t hf hc_56
            refine lv_tableIn (tgt := 90) hx hb dX10_of_37 (by rw [hc_56]; decide) (by rw [hc_56]; decide) (by rw [hc_56]; rfl) (by decide) ?_
            refine lv_aload_n hx hb dX10_of_90 rfl (lv_at hl 1 rfl) ?_
            refine lv_iload_n hx hb dX10_of_91 rfl (lv_at hl 2 rfl) ?_
            obtain ⟨r_57, v10_tried_58, hk_59, hf⟩ := pe_2 hf
            refine xv_i (As := [.int x1]) (rest := []) (q0 := 0) (ci := 10) Cx hP hD hS hl (pl_X10_X10 a cyI cyJ v10_firstOf v10_sizeOf v10_longOf v10_row v10_character v10_sum v10_coefficient v10_undone v10_wasSum v10_wasCoefficient v10_hasImage v10_letter v10_letters v10_list v10_cell v10_refusals v10_tried v10_left v10_high v10_then v10_at v10_readSize v10_firstOf v10_sizeOf v10_longOf v10_row v10_character v10_sum v10_coefficient v10_undone v10_wasSum v10_wasCoefficient v10_hasImage v10_letter v10_letters v10_list v10_cell v10_refusals v10_tried_58 v10_left v10_high v10_then v10_at v10_readSize) (c_X10_turnedOf l D cyI cyJ G a H.size v10_firstOf v10_sizeOf v10_longOf v10_row v10_character v10_sum v10_coefficient v10_undone v10_wasSum v10_wasCoefficient v10_hasImage v10_letter v10_letters v10_list v10_cell v10_refusals v10_tried v10_left v10_high v10_then v10_at v10_readSize x1 r_57 v10_tried_58 hk_59) pk_X10_turnedOf mw_5_33 ⟨rfl, rfl, Nat.le_of_ble_eq_true rfl, Nat.le_of_ble_eq_true rfl⟩ rfl rfl rfl rfl rfl (Nat.le_of_ble_eq_true rfl) ⟨Nat.le_of_ble_eq_true rfl, Nat.le_of_ble_eq_true rfl⟩ dX10_of_92 (fun H locs hP hD hS => ?_)
            obtain ⟨rfl, rfl, rfl⟩ := po_3 hf
            rw [← hQ]; exact xe_iret Cx rfl hP hD hS dX10_of_95
          · have hf := pe_f hf hc_56
            by_cases hc_60 : x2 = (3 : Int32)
            · have hf := pe_t hf hc_60
              refine lv_tableIn (tgt := 96) hx hb dX10_of_37 (by rw [hc_60]; decide) (by rw [hc_60]; decide) (by rw [hc_60]; rfl) (by decide) ?_
              refine lv_aload_n hx hb dX10_of_96 rfl (lv_at hl 1 rfl) ?_
              refine lv_iload_n hx hb dX10_of_97 rfl (lv_at hl 2 rfl) ?_
              obtain ⟨r_61, hk_62, hf⟩ := pe_1 hf
              refine xv_i (As := [.int x1]) (rest := []) (q0 := 0) (ci := 10) Cx hP hD hS hl (pl_X10_X10 a cyI cyJ v10_firstOf v10_sizeOf v10_longOf v10_row v10_character v10_sum v10_coefficient v10_undone v10_wasSum v10_wasCoefficient v10_hasImage v10_letter v10_letters v10_list v10_cell v10_refusals v10_tried v10_left v10_high v10_then v10_at v10_readSize v10_firstOf v10_sizeOf v10_longOf v10_row v10_character v10_sum v10_coefficient v10_undone v10_wasSum v10_wasCoefficient v10_hasImage v10_letter v10_letters v10_list v10_cell v10_refusals v10_tried v10_left v10_high v10_then v10_at v10_readSize) (c_X10_dimension l D cyI cyJ G a H.size v10_firstOf v10_sizeOf v10_longOf v10_row v10_character v10_sum v10_coefficient v10_undone v10_wasSum v10_wasCoefficient v10_hasImage v10_letter v10_letters v10_list v10_cell v10_refusals v10_tried v10_left v10_high v10_then v10_at v10_readSize x1 r_61 hk_62) pk_X10_dimension mw_5_37 ⟨rfl, rfl, Nat.le_of_ble_eq_true rfl, Nat.le_of_ble_eq_true rfl⟩ rfl rfl rfl rfl rfl (Nat.le_of_ble_eq_true rfl) ⟨Nat.le_of_ble_eq_true rfl, Nat.le_of_ble_eq_true rfl⟩ dX10_of_98 (fun H locs hP hD hS => ?_)
              obtain ⟨rfl, rfl, rfl⟩ := po_3 hf
              rw [← hQ]; exact xe_iret Cx rfl hP hD hS dX10_of_101
            · have hf := pe_f hf hc_60
              by_cases hc_63 : x2 = (4 : Int32)
              · have hf := pe_t hf hc_63
                refine lv_tableIn (tgt := 102) hx hb dX10_of_37 (by rw [hc_63]; decide) (by rw [hc_63]; decide) (by rw [hc_63]; rfl) (by decide) ?_
                refine lv_aload_n hx hb dX10_of_102 rfl (lv_at hl 1 rfl) ?_
                refine lv_iload_n hx hb dX10_of_103 rfl (lv_at hl 2 rfl) ?_
                obtain ⟨r_64, hk_65, hf⟩ := pe_1 hf
                refine xv_i (As := [.int x1]) (rest := []) (q0 := 0) (ci := 10) Cx hP hD hS hl (pl_X10_X10 a cyI cyJ v10_firstOf v10_sizeOf v10_longOf v10_row v10_character v10_sum v10_coefficient v10_undone v10_wasSum v10_wasCoefficient v10_hasImage v10_letter v10_letters v10_list v10_cell v10_refusals v10_tried v10_left v10_high v10_then v10_at v10_readSize v10_firstOf v10_sizeOf v10_longOf v10_row v10_character v10_sum v10_coefficient v10_undone v10_wasSum v10_wasCoefficient v10_hasImage v10_letter v10_letters v10_list v10_cell v10_refusals v10_tried v10_left v10_high v10_then v10_at v10_readSize) (c_X10_ordersOf l D cyI cyJ G a H.size v10_firstOf v10_sizeOf v10_longOf v10_row v10_character v10_sum v10_coefficient v10_undone v10_wasSum v10_wasCoefficient v10_hasImage v10_letter v10_letters v10_list v10_cell v10_refusals v10_tried v10_left v10_high v10_then v10_at v10_readSize x1 r_64 hk_65) pk_X10_ordersOf mw_5_44 ⟨rfl, rfl, Nat.le_of_ble_eq_true rfl, Nat.le_of_ble_eq_true rfl⟩ rfl rfl rfl rfl rfl (Nat.le_of_ble_eq_true rfl) ⟨Nat.le_of_ble_eq_true rfl, Nat.le_of_ble_eq_true rfl⟩ dX10_of_104 (fun H locs hP hD hS => ?_)
                obtain ⟨rfl, rfl, rfl⟩ := po_3 hf
                rw [← hQ]; exact xe_iret Cx rfl hP hD hS dX10_of_107
              · have hf := pe_f hf hc_63
                by_cases hc_66 : x2 = (5 : Int32)
                · have hf := pe_t hf hc_66
                  refine lv_tableIn (tgt := 108) hx hb dX10_of_37 (by rw [hc_66]; decide) (by rw [hc_66]; decide) (by rw [hc_66]; rfl) (by decide) ?_
                  refine lv_iconst (v := (0 : Int32)) hx hb dX10_of_108 (by decide) ?_
                  refine lv_istore (lv' := [(4, .int (0 : Int32)), (3, .int (0 : Int32)), (0, .ref (a 28)), (1, .int x1), (2, .int x2)]) hx hb dX10_of_109 hl (by decide) rfl (fun ls hl => ?_)
                  exact w_111 1000 v10_refusals v10_tried x1 (0 : Int32) (0 : Int32) H locs ls hf hP hD hS (lv_sub hl [2, 3, 1, 0] rfl)
                · have hf := pe_f hf hc_66
                  have hc_52 : (x2).toInt ≠ 0 := xh_ne (by decide) hc_52
                  have hc_54 : (x2).toInt ≠ 1 := xh_ne (by decide) hc_54
                  have hc_56 : (x2).toInt ≠ 2 := xh_ne (by decide) hc_56
                  have hc_60 : (x2).toInt ≠ 3 := xh_ne (by decide) hc_60
                  have hc_63 : (x2).toInt ≠ 4 := xh_ne (by decide) hc_63
                  have hc_66 : (x2).toInt ≠ 5 := xh_ne (by decide) hc_66
                  refine lv_tableOut (tgt := 147) hx hb dX10_of_37 (by omega) (by decide) ?_
                  refine lv_aload_n hx hb dX10_of_147 rfl (lv_at hl 1 rfl) ?_
                  refine lv_bipush (v := (-2 : Int32)) hx hb dX10_of_148 (by decide) ?_
                  obtain ⟨r_67, v10_refusals_68, hk_69, hf⟩ := pe_2 hf
                  refine xv_i (As := [.int (-2 : Int32)]) (rest := []) (q0 := 0) (ci := 10) Cx hP hD hS hl (pl_X10_X10 a cyI cyJ v10_firstOf v10_sizeOf v10_longOf v10_row v10_character v10_sum v10_coefficient v10_undone v10_wasSum v10_wasCoefficient v10_hasImage v10_letter v10_letters v10_list v10_cell v10_refusals v10_tried v10_left v10_high v10_then v10_at v10_readSize v10_firstOf v10_sizeOf v10_longOf v10_row v10_character v10_sum v10_coefficient v10_undone v10_wasSum v10_wasCoefficient v10_hasImage v10_letter v10_letters v10_list v10_cell v10_refusals_68 v10_tried v10_left v10_high v10_then v10_at v10_readSize) (c_X10_refused l D cyI cyJ G a H.size v10_firstOf v10_sizeOf v10_longOf v10_row v10_character v10_sum v10_coefficient v10_undone v10_wasSum v10_wasCoefficient v10_hasImage v10_letter v10_letters v10_list v10_cell v10_refusals v10_tried v10_left v10_high v10_then v10_at v10_readSize (-2 : Int32) r_67 v10_refusals_68 hk_69) pk_X10_refused mw_5_29 ⟨rfl, rfl, Nat.le_of_ble_eq_true rfl, Nat.le_of_ble_eq_true rfl⟩ rfl rfl rfl rfl rfl (Nat.le_of_ble_eq_true rfl) ⟨Nat.le_of_ble_eq_true rfl, Nat.le_of_ble_eq_true rfl⟩ dX10_of_150 (fun H locs hP hD hS => ?_)
                  obtain ⟨rfl, rfl, rfl⟩ := po_3 hf
                  rw [← hQ]; exact xe_iret Cx rfl hP hD hS dX10_of_153
    · have hf := pe_f hf hc_51
      refine lv_aload_n hx hb dX10_of_24 rfl (lv_at hl 0 rfl) ?_
      refine lv_iload_n hx hb dX10_of_25 rfl (lv_at hl 1 rfl) ?_
      refine lv_iload_n hx hb dX10_of_26 rfl (lv_at hl 2 rfl) ?_
      refine lv_bipush (v := (10 : Int32)) hx hb dX10_of_27 (by decide) ?_
      refine lv_isub hx hb dX10_of_29 ?_
      obtain ⟨r_70, hk_71, hf⟩ := pe_1 hf
      refine xv_i (As := [.int x1, .int (x2 - (10 : Int32))]) (rest := []) (q0 := 0) (ci := 10) Cx hP hD hS hl (pl_X10_X10 a cyI cyJ v10_firstOf v10_sizeOf v10_longOf v10_row v10_character v10_sum v10_coefficient v10_undone v10_wasSum v10_wasCoefficient v10_hasImage v10_letter v10_letters v10_list v10_cell v10_refusals v10_tried v10_left v10_high v10_then v10_at v10_readSize v10_firstOf v10_sizeOf v10_longOf v10_row v10_character v10_sum v10_coefficient v10_undone v10_wasSum v10_wasCoefficient v10_hasImage v10_letter v10_letters v10_list v10_cell v10_refusals v10_tried v10_left v10_high v10_then v10_at v10_readSize) (c_X10_rowOf l D cyI cyJ G a H.size v10_firstOf v10_sizeOf v10_longOf v10_row v10_character v10_sum v10_coefficient v10_undone v10_wasSum v10_wasCoefficient v10_hasImage v10_letter v10_letters v10_list v10_cell v10_refusals v10_tried v10_left v10_high v10_then v10_at v10_readSize x1 (x2 - (10 : Int32)) r_70 hk_71) pk_X10_rowOf mw_4_159 ⟨rfl, rfl, Nat.le_of_ble_eq_true rfl, Nat.le_of_ble_eq_true rfl⟩ rfl rfl rfl rfl rfl (Nat.le_of_ble_eq_true rfl) ⟨Nat.le_of_ble_eq_true rfl, Nat.le_of_ble_eq_true rfl⟩ dX10_of_30 (fun H locs hP hD hS => ?_)
      obtain ⟨rfl, rfl, rfl⟩ := po_3 hf
      rw [← hQ]; exact xe_iret Cx rfl hP hD hS dX10_of_33
  · have hf := pe_t hf hc_47
    refine lv_aload_n hx hb dX10_of_7 rfl (lv_at hl 0 rfl) ?_
    refine lv_iconst (v := (-1 : Int32)) hx hb dX10_of_8 (by decide) ?_
    obtain ⟨r_72, v10_refusals_73, hk_74, hf⟩ := pe_2 hf
    refine xv_i (As := [.int (-1 : Int32)]) (rest := []) (q0 := 0) (ci := 10) Cx hP hD hS hl (pl_X10_X10 a cyI cyJ v10_firstOf v10_sizeOf v10_longOf v10_row v10_character v10_sum v10_coefficient v10_undone v10_wasSum v10_wasCoefficient v10_hasImage v10_letter v10_letters v10_list v10_cell v10_refusals v10_tried v10_left v10_high v10_then v10_at v10_readSize v10_firstOf v10_sizeOf v10_longOf v10_row v10_character v10_sum v10_coefficient v10_undone v10_wasSum v10_wasCoefficient v10_hasImage v10_letter v10_letters v10_list v10_cell v10_refusals_73 v10_tried v10_left v10_high v10_then v10_at v10_readSize) (c_X10_refused l D cyI cyJ G a H.size v10_firstOf v10_sizeOf v10_longOf v10_row v10_character v10_sum v10_coefficient v10_undone v10_wasSum v10_wasCoefficient v10_hasImage v10_letter v10_letters v10_list v10_cell v10_refusals v10_tried v10_left v10_high v10_then v10_at v10_readSize (-1 : Int32) r_72 v10_refusals_73 hk_74) pk_X10_refused mw_5_29 ⟨rfl, rfl, Nat.le_of_ble_eq_true rfl, Nat.le_of_ble_eq_true rfl⟩ rfl rfl rfl rfl rfl (Nat.le_of_ble_eq_true rfl) ⟨Nat.le_of_ble_eq_true rfl, Nat.le_of_ble_eq_true rfl⟩ dX10_of_9 (fun H locs hP hD hS => ?_)
    obtain ⟨rfl, rfl, rfl⟩ := po_3 hf
    rw [← hQ]; exact xe_iret Cx rfl hP hD hS dX10_of_12
def f_X10_isList (x0 : Int32) : Option (Int32) := p_b1 (f_X10_in x0 (0 : Int32) (2 : Int32)) (fun r_1 => some (r_1))
set_option maxHeartbeats 4000000 in
set_option maxRecDepth 20000 in
theorem c_X10_isList (l : Launch) (D : va_G) (cyI cyJ : ClassId) (G : Nat → Nat) (sz : Nat) (x0 : Int32) (ro : Int32) (hf : f_X10_isList x0 = some ro) : xm_z l yX10_isList (Cond.code yX10_isList cX10_isList 1 (some .boolean) :: xg_tbl) { frames := 1, cells := 0, slots := 0, locals := 22 } D xcl [(cyI, .int), (cyJ, .long)] G sz [.int x0] [] [] ro := by
  refine xm_of_z (own := RX10) (by decide) rfl rfl (Nat.le_of_ble_eq_true rfl) ?_
  intro p e s m args below meth c ls Q A hQ hAe hin Cx hsz hP hD hS hl
  have Cx1 := Cx
  obtain ⟨⟨hx, hb, hml, hown, hts⟩, hr, hlocks, hK, hA, hT⟩ := Cx1
  have hl : lv_has ls 1 [(0, .int x0)] := hl
  obtain ⟨H, eH⟩ : ∃ H, H = s.heap := ⟨_, rfl⟩
  obtain ⟨locs, eL⟩ : ∃ L : List Loc, L = [] := ⟨_, rfl⟩
  rw [← eH] at hP
  have hS : va_S A s.heap H locs := by rw [eH, eL]; exact hS
  suffices hgo : W p l e { frames := 1, cells := 0, slots := 0, locals := 22 } s m args below meth c H locs 0 0 Q (F0 m 0 ls []) by rw [eH, eL] at hgo; exact hgo
  clear eH eL
  unfold f_X10_isList at hf
  refine lv_iload_n hx hb dX10_isList_0 rfl (lv_at hl 0 rfl) ?_
  refine lv_iconst (v := (0 : Int32)) hx hb dX10_isList_1 (by decide) ?_
  refine lv_iconst (v := (2 : Int32)) hx hb dX10_isList_2 (by decide) ?_
  obtain ⟨r_4, hk_5, hf⟩ := pe_1 hf
  refine xw_z (As := [.int x0, .int (0 : Int32), .int (2 : Int32)]) (rest := []) Cx hP hD hS hl (xq_none _) (c_X10_in l D cyI cyJ G H.size x0 (0 : Int32) (2 : Int32) r_4 hk_5) pk_X10_in mw_5_26 ⟨rfl, rfl, Nat.le_of_ble_eq_true rfl, Nat.le_of_ble_eq_true rfl⟩ rfl rfl (Nat.le_of_ble_eq_true rfl) ⟨Nat.le_of_ble_eq_true rfl, Nat.le_of_ble_eq_true rfl⟩ dX10_isList_3 (fun H locs hn_6 hP hD hS => ?_)
  obtain rfl := po_1 hf
  rw [← hQ]; exact xe_zret Cx rfl hn_6 hP hD hS dX10_isList_6
def gf_X10_shape_31 (K_31 : (Nat → Int32) → (Nat → Int32) → Int32 → Int32 → Option (Int32 × (Nat → Int32) × (Nat → Int32))) (v10_row : Nat → Int32) (v10_list : Nat → Int32) (v10_cell : Nat → Int32) (v10_refusals : Nat → Int32) (v10_tried : Nat → Int32) (y1 : Int32) (y2 : Int32) : Option (Int32 × (Nat → Int32) × (Nat → Int32)) := p_in y1 3 (if (v10_list (Int32.toNatClampNeg y1)) ≤ y2 then (p_b1 (f_X10_shapeTried v10_row v10_tried) (fun r_3 => some (r_3, v10_refusals, v10_tried))) else (if (8 : Int32) ≤ y2 then (some ((-9 : Int32), v10_refusals, v10_tried)) else (p_in (((40 : Int32) * y1) + y2) 120 (if (1 : Int32) ≤ (v10_cell (Int32.toNatClampNeg (((40 : Int32) * y1) + y2))) then (p_in (((40 : Int32) * y1) + y2) 120 (p_in y2 9 (K_31 v10_refusals (upd v10_tried (Int32.toNatClampNeg y2) (v10_cell (Int32.toNatClampNeg (((40 : Int32) * y1) + y2)))) y1 (y2 + (1 : Int32))))) else (some ((-9 : Int32), v10_refusals, v10_tried))))))
def f_X10_shape_31 (v10_row : Nat → Int32) (v10_list : Nat → Int32) (v10_cell : Nat → Int32) : Nat → (Nat → Int32) → (Nat → Int32) → Int32 → Int32 → Option (Int32 × (Nat → Int32) × (Nat → Int32))
  | 0 => fun _ _ _ _ => none
  | n + 1 => gf_X10_shape_31 (f_X10_shape_31 v10_row v10_list v10_cell n) v10_row v10_list v10_cell
def f_X10_shape (v10_row : Nat → Int32) (v10_list : Nat → Int32) (v10_cell : Nat → Int32) (v10_refusals : Nat → Int32) (v10_tried : Nat → Int32) (x1 : Int32) : Option (Int32 × (Nat → Int32) × (Nat → Int32)) := p_b1 (f_X10_isList x1) (fun r_10 => if r_10 = 0 then (p_b2 (f_X10_refused v10_refusals (-1 : Int32)) (fun r_18 v10_refusals_19 => some (r_18, v10_refusals_19, v10_tried))) else (p_in x1 3 (if 0 ≤ (v10_list (Int32.toNatClampNeg x1)) then (p_b1 (f_X10_triesNone v10_tried) (fun v10_tried_16 => (f_X10_shape_31 v10_row v10_list v10_cell 1000) v10_refusals v10_tried_16 x1 (0 : Int32))) else (some ((-11 : Int32), v10_refusals, v10_tried)))))
set_option maxHeartbeats 4000000 in
set_option maxRecDepth 20000 in
theorem c_X10_shape (l : Launch) (D : va_G) (cyI cyJ : ClassId) (G a : Nat → Nat) (sz : Nat) (v10_firstOf : Nat → Int32) (v10_sizeOf : Nat → Int32) (v10_longOf : Nat → Int32) (v10_row : Nat → Int32) (v10_character : Nat → Int32) (v10_sum : Nat → Int32) (v10_coefficient : Nat → Int32) (v10_undone : Int32) (v10_wasSum : Nat → Int32) (v10_wasCoefficient : Nat → Int32) (v10_hasImage : Int32) (v10_letter : Nat → Int32) (v10_letters : Int32) (v10_list : Nat → Int32) (v10_cell : Nat → Int32) (v10_refusals : Nat → Int32) (v10_tried : Nat → Int32) (v10_left : Int32) (v10_high : Int32) (v10_then : Nat → Int64) (v10_at : Int32) (v10_readSize : Int32) (x1 : Int32) (ro : Int32) (ov10_refusals : Nat → Int32) (ov10_tried : Nat → Int32) (hf : f_X10_shape v10_row v10_list v10_cell v10_refusals v10_tried x1 = some (ro, ov10_refusals, ov10_tried)) : xm_i l yX10_shape (Cond.code yX10_shape cX10_shape 3 (some .int) :: xg_tbl) { frames := 2, cells := 0, slots := 0, locals := 45 } D xcl [(cyI, .int), (cyJ, .long)] G sz [.ref (a 28), .int x1] (wd_X10 a cyI cyJ v10_firstOf v10_sizeOf v10_longOf v10_row v10_character v10_sum v10_coefficient v10_undone v10_wasSum v10_wasCoefficient v10_hasImage v10_letter v10_letters v10_list v10_cell v10_refusals v10_tried v10_left v10_high v10_then v10_at v10_readSize) (wd_X10 a cyI cyJ v10_firstOf v10_sizeOf v10_longOf v10_row v10_character v10_sum v10_coefficient v10_undone v10_wasSum v10_wasCoefficient v10_hasImage v10_letter v10_letters v10_list v10_cell ov10_refusals ov10_tried v10_left v10_high v10_then v10_at v10_readSize) ro := by
  refine xm_of_i (own := RX10) (by decide) rfl rfl (Nat.le_of_ble_eq_true rfl) ?_
  intro p e s m args below meth c ls Q A hQ hAe hin Cx hsz hP hD hS hl
  have Cx1 := Cx
  obtain ⟨⟨hx, hb, hml, hown, hts⟩, hr, hlocks, hK, hA, hT⟩ := Cx1
  have hl : lv_has ls 3 [(0, .ref (a 28)), (1, .int x1)] := hl
  obtain ⟨H, eH⟩ : ∃ H, H = s.heap := ⟨_, rfl⟩
  obtain ⟨locs, eL⟩ : ∃ L : List Loc, L = [] := ⟨_, rfl⟩
  rw [← eH] at hP
  have hS : va_S A s.heap H locs := by rw [eH, eL]; exact hS
  suffices hgo : W p l e { frames := 2, cells := 0, slots := 0, locals := 45 } s m args below meth c H locs 0 0 Q (F0 m 0 ls []) by rw [eH, eL] at hgo; exact hgo
  clear eH eL
  unfold f_X10_shape at hf
  have w_31 : ∀ (n_31 : Nat) (v10_refusals : Nat → Int32) (v10_tried : Nat → Int32) (y1 : Int32) (y2 : Int32) (H : Heap) (locs : List Loc) (ls : Array Slot), (f_X10_shape_31 v10_row v10_list v10_cell) n_31 v10_refusals v10_tried y1 y2 = some (ro, ov10_refusals, ov10_tried) → va_P D xcl (wd_X10 a cyI cyJ v10_firstOf v10_sizeOf v10_longOf v10_row v10_character v10_sum v10_coefficient v10_undone v10_wasSum v10_wasCoefficient v10_hasImage v10_letter v10_letters v10_list v10_cell v10_refusals v10_tried v10_left v10_high v10_then v10_at v10_readSize) H → va_D A (wd_X10 a cyI cyJ v10_firstOf v10_sizeOf v10_longOf v10_row v10_character v10_sum v10_coefficient v10_undone v10_wasSum v10_wasCoefficient v10_hasImage v10_letter v10_letters v10_list v10_cell v10_refusals v10_tried v10_left v10_high v10_then v10_at v10_readSize) → va_S A s.heap H locs → lv_has ls 3 [(0, .ref (a 28)), (1, .int y1), (2, .int y2)] → W p l e { frames := 2, cells := 0, slots := 0, locals := 45 } s m args below meth c H locs 0 0 Q (F0 m 31 ls []) := by
    intro n_31
    induction n_31 with
    | zero => intro v10_refusals v10_tried y1 y2 H locs ls hf; exact absurd hf (by intro h9; cases h9)
    | succ n_31 w_31 =>
      intro v10_refusals v10_tried y1 y2 H locs ls hf hP hD hS hl
      have hf : gf_X10_shape_31 ((f_X10_shape_31 v10_row v10_list v10_cell) n_31) v10_row v10_list v10_cell v10_refusals v10_tried y1 y2 = some (ro, ov10_refusals, ov10_tried) := hf
      unfold gf_X10_shape_31 at hf
      refine lv_iload_n hx hb dX10_shape_31 rfl (lv_at hl 2 rfl) ?_
      refine lv_aload_n hx hb dX10_shape_32 rfl (lv_at hl 0 rfl) ?_
      refine va_get (ci := 10) (v := .ref (a 39)) hx hb hts wX10_in hown hK hP 0 rfl rfl 13 (by decide) (hts _ mw_4_205) (fun _ h9 => h9) rfl dX10_shape_33 ?_
      refine lv_iload_n hx hb dX10_shape_36 rfl (lv_at hl 1 rfl) ?_
      obtain ⟨hi_21, hf⟩ := pe_in hf
      refine va_iald hx hb hK hP 11 0 rfl rfl hi_21 dX10_shape_37 ?_
      refine lv_icmp_ge (tgt := 88) hx hb dX10_shape_38 (by decide) (fun hc_22 => ?_) (fun hc_22 => ?_)
      · have hf := pe_t hf hc_22
        refine lv_aload_n hx hb dX10_shape_88 rfl (lv_at hl 0 rfl) ?_
        obtain ⟨r_23, hk_24, hf⟩ := pe_1 hf
        refine xv_i (As := []) (rest := []) (q0 := 0) (ci := 10) Cx hP hD hS hl (pl_X10_X10 a cyI cyJ v10_firstOf v10_sizeOf v10_longOf v10_row v10_character v10_sum v10_coefficient v10_undone v10_wasSum v10_wasCoefficient v10_hasImage v10_letter v10_letters v10_list v10_cell v10_refusals v10_tried v10_left v10_high v10_then v10_at v10_readSize v10_firstOf v10_sizeOf v10_longOf v10_row v10_character v10_sum v10_coefficient v10_undone v10_wasSum v10_wasCoefficient v10_hasImage v10_letter v10_letters v10_list v10_cell v10_refusals v10_tried v10_left v10_high v10_then v10_at v10_readSize) (c_X10_shapeTried l D cyI cyJ G a H.size v10_firstOf v10_sizeOf v10_longOf v10_row v10_character v10_sum v10_coefficient v10_undone v10_wasSum v10_wasCoefficient v10_hasImage v10_letter v10_letters v10_list v10_cell v10_refusals v10_tried v10_left v10_high v10_then v10_at v10_readSize r_23 hk_24) pk_X10_shapeTried mw_4_172 ⟨rfl, rfl, Nat.le_of_ble_eq_true rfl, Nat.le_of_ble_eq_true rfl⟩ rfl rfl rfl rfl rfl (Nat.le_of_ble_eq_true rfl) ⟨Nat.le_of_ble_eq_true rfl, Nat.le_of_ble_eq_true rfl⟩ dX10_shape_89 (fun H locs hP hD hS => ?_)
        obtain ⟨rfl, rfl, rfl⟩ := po_3 hf
        rw [← hQ]; exact xe_iret Cx rfl hP hD hS dX10_shape_92
      · have hf := pe_f hf hc_22
        refine lv_iload_n hx hb dX10_shape_41 rfl (lv_at hl 2 rfl) ?_
        refine lv_bipush (v := (8 : Int32)) hx hb dX10_shape_42 (by decide) ?_
        refine lv_icmp_ge (tgt := 62) hx hb dX10_shape_44 (by decide) (fun hc_25 => ?_) (fun hc_25 => ?_)
        · have hf := pe_t hf hc_25
          refine lv_bipush (v := (-9 : Int32)) hx hb dX10_shape_62 (by decide) ?_
          obtain ⟨rfl, rfl, rfl⟩ := po_3 hf
          rw [← hQ]; exact xe_iret Cx rfl hP hD hS dX10_shape_64
        · have hf := pe_f hf hc_25
          refine lv_aload_n hx hb dX10_shape_47 rfl (lv_at hl 0 rfl) ?_
          refine va_get (ci := 10) (v := .ref (a 40)) hx hb hts wX10_in hown hK hP 0 rfl rfl 14 (by decide) (hts _ mw_4_206) (fun _ h9 => h9) rfl dX10_shape_48 ?_
          refine lv_bipush (v := (40 : Int32)) hx hb dX10_shape_51 (by decide) ?_
          refine lv_iload_n hx hb dX10_shape_53 rfl (lv_at hl 1 rfl) ?_
          refine lv_imul hx hb dX10_shape_54 ?_
          refine lv_iload_n hx hb dX10_shape_55 rfl (lv_at hl 2 rfl) ?_
          refine lv_iadd hx hb dX10_shape_56 ?_
          obtain ⟨hi_26, hf⟩ := pe_in hf
          refine va_iald hx hb hK hP 12 0 rfl rfl hi_26 dX10_shape_57 ?_
          refine lv_iconst (v := (1 : Int32)) hx hb dX10_shape_58 (by decide) ?_
          refine lv_icmp_ge (tgt := 65) hx hb dX10_shape_59 (by decide) (fun hc_27 => ?_) (fun hc_27 => ?_)
          · have hf := pe_t hf hc_27
            refine lv_aload_n hx hb dX10_shape_65 rfl (lv_at hl 0 rfl) ?_
            refine va_get (ci := 10) (v := .ref (a 42)) hx hb hts wX10_in hown hK hP 0 rfl rfl 16 (by decide) (hts _ mw_4_208) (fun _ h9 => h9) rfl dX10_shape_66 ?_
            refine lv_iload_n hx hb dX10_shape_69 rfl (lv_at hl 2 rfl) ?_
            refine lv_aload_n hx hb dX10_shape_70 rfl (lv_at hl 0 rfl) ?_
            refine va_get (ci := 10) (v := .ref (a 40)) hx hb hts wX10_in hown hK hP 0 rfl rfl 14 (by decide) (hts _ mw_4_206) (fun _ h9 => h9) rfl dX10_shape_71 ?_
            refine lv_bipush (v := (40 : Int32)) hx hb dX10_shape_74 (by decide) ?_
            refine lv_iload_n hx hb dX10_shape_76 rfl (lv_at hl 1 rfl) ?_
            refine lv_imul hx hb dX10_shape_77 ?_
            refine lv_iload_n hx hb dX10_shape_78 rfl (lv_at hl 2 rfl) ?_
            refine lv_iadd hx hb dX10_shape_79 ?_
            obtain ⟨hi_28, hf⟩ := pe_in hf
            refine va_iald hx hb hK hP 12 0 rfl rfl hi_28 dX10_shape_80 ?_
            obtain ⟨hi_29, hf⟩ := pe_in hf
            refine va_iast hx hb hK hP hD hS 14 0 rfl rfl hi_29 dX10_shape_81 (fun H locs hP hD hS => ?_)
            have hP : va_P D xcl (wd_X10 a cyI cyJ v10_firstOf v10_sizeOf v10_longOf v10_row v10_character v10_sum v10_coefficient v10_undone v10_wasSum v10_wasCoefficient v10_hasImage v10_letter v10_letters v10_list v10_cell v10_refusals (upd v10_tried (Int32.toNatClampNeg y2) (v10_cell (Int32.toNatClampNeg (((40 : Int32) * y1) + y2)))) v10_left v10_high v10_then v10_at v10_readSize) H := hP
            have hD : va_D A (wd_X10 a cyI cyJ v10_firstOf v10_sizeOf v10_longOf v10_row v10_character v10_sum v10_coefficient v10_undone v10_wasSum v10_wasCoefficient v10_hasImage v10_letter v10_letters v10_list v10_cell v10_refusals (upd v10_tried (Int32.toNatClampNeg y2) (v10_cell (Int32.toNatClampNeg (((40 : Int32) * y1) + y2)))) v10_left v10_high v10_then v10_at v10_readSize) := hD
            refine lv_iinc (v := (y2 + (1 : Int32))) (lv' := [(2, .int (y2 + (1 : Int32))), (0, .ref (a 28)), (1, .int y1)]) hx hb dX10_shape_82 hl (k := 2) rfl rfl (by decide) rfl (fun ls hl => ?_)
            refine lv_goto (tgt := 31) hx hb dX10_shape_85 (by decide) ?_
            exact w_31 v10_refusals (upd v10_tried (Int32.toNatClampNeg y2) (v10_cell (Int32.toNatClampNeg (((40 : Int32) * y1) + y2)))) y1 (y2 + (1 : Int32)) H locs ls hf hP hD hS (lv_sub hl [1, 2, 0] rfl)
          · have hf := pe_f hf hc_27
            refine lv_bipush (v := (-9 : Int32)) hx hb dX10_shape_62 (by decide) ?_
            obtain ⟨rfl, rfl, rfl⟩ := po_3 hf
            rw [← hQ]; exact xe_iret Cx rfl hP hD hS dX10_shape_64
  refine lv_iload_n hx hb dX10_shape_0 rfl (lv_at hl 1 rfl) ?_
  obtain ⟨r_30, hk_31, hf⟩ := pe_1 hf
  refine xw_z (As := [.int x1]) (rest := []) Cx hP hD hS hl (xq_none _) (c_X10_isList l D cyI cyJ G H.size x1 r_30 hk_31) pk_X10_isList mw_5_56 ⟨rfl, rfl, Nat.le_of_ble_eq_true rfl, Nat.le_of_ble_eq_true rfl⟩ rfl rfl (Nat.le_of_ble_eq_true rfl) ⟨Nat.le_of_ble_eq_true rfl, Nat.le_of_ble_eq_true rfl⟩ dX10_shape_1 (fun H locs hn_32 hP hD hS => ?_)
  refine lv_if_ne (tgt := 13) hx hb dX10_shape_4 (by decide) (fun hc_33 => ?_) (fun hc_33 => ?_)
  · have hf := pe_f hf hc_33
    refine lv_aload_n hx hb dX10_shape_13 rfl (lv_at hl 0 rfl) ?_
    refine va_get (ci := 10) (v := .ref (a 39)) hx hb hts wX10_in hown hK hP 0 rfl rfl 13 (by decide) (hts _ mw_4_205) (fun _ h9 => h9) rfl dX10_shape_14 ?_
    refine lv_iload_n hx hb dX10_shape_17 rfl (lv_at hl 1 rfl) ?_
    obtain ⟨hi_34, hf⟩ := pe_in hf
    refine va_iald hx hb hK hP 11 0 rfl rfl hi_34 dX10_shape_18 ?_
    refine lv_if_ge (tgt := 25) hx hb dX10_shape_19 (by decide) (fun hc_35 => ?_) (fun hc_35 => ?_)
    · have hf := pe_t hf hc_35
      refine lv_aload_n hx hb dX10_shape_25 rfl (lv_at hl 0 rfl) ?_
      obtain ⟨v10_tried_36, hk_37, hf⟩ := pe_1 hf
      refine xv_v (As := []) (rest := []) (q0 := 0) (ci := 10) Cx hP hD hS hl (pl_X10_X10 a cyI cyJ v10_firstOf v10_sizeOf v10_longOf v10_row v10_character v10_sum v10_coefficient v10_undone v10_wasSum v10_wasCoefficient v10_hasImage v10_letter v10_letters v10_list v10_cell v10_refusals v10_tried v10_left v10_high v10_then v10_at v10_readSize v10_firstOf v10_sizeOf v10_longOf v10_row v10_character v10_sum v10_coefficient v10_undone v10_wasSum v10_wasCoefficient v10_hasImage v10_letter v10_letters v10_list v10_cell v10_refusals v10_tried_36 v10_left v10_high v10_then v10_at v10_readSize) (c_X10_triesNone l D cyI cyJ G a H.size v10_firstOf v10_sizeOf v10_longOf v10_row v10_character v10_sum v10_coefficient v10_undone v10_wasSum v10_wasCoefficient v10_hasImage v10_letter v10_letters v10_list v10_cell v10_refusals v10_tried v10_left v10_high v10_then v10_at v10_readSize v10_tried_36 hk_37) pk_X10_triesNone mw_4_168 ⟨rfl, rfl, Nat.le_of_ble_eq_true rfl, Nat.le_of_ble_eq_true rfl⟩ rfl rfl rfl rfl rfl (Nat.le_of_ble_eq_true rfl) ⟨Nat.le_of_ble_eq_true rfl, Nat.le_of_ble_eq_true rfl⟩ dX10_shape_26 (fun H locs hP hD hS => ?_)
      refine lv_iconst (v := (0 : Int32)) hx hb dX10_shape_29 (by decide) ?_
      refine lv_istore_n (lv' := [(2, .int (0 : Int32)), (0, .ref (a 28)), (1, .int x1)]) hx hb dX10_shape_30 rfl hl (by decide) rfl (fun ls hl => ?_)
      exact w_31 1000 v10_refusals v10_tried_36 x1 (0 : Int32) H locs ls hf hP hD hS (lv_sub hl [1, 2, 0] rfl)
    · have hf := pe_f hf hc_35
      refine lv_bipush (v := (-11 : Int32)) hx hb dX10_shape_22 (by decide) ?_
      obtain ⟨rfl, rfl, rfl⟩ := po_3 hf
      rw [← hQ]; exact xe_iret Cx rfl hP hD hS dX10_shape_24
  · have hf := pe_t hf hc_33
    refine lv_aload_n hx hb dX10_shape_7 rfl (lv_at hl 0 rfl) ?_
    refine lv_iconst (v := (-1 : Int32)) hx hb dX10_shape_8 (by decide) ?_
    obtain ⟨r_38, v10_refusals_39, hk_40, hf⟩ := pe_2 hf
    refine xv_i (As := [.int (-1 : Int32)]) (rest := []) (q0 := 0) (ci := 10) Cx hP hD hS hl (pl_X10_X10 a cyI cyJ v10_firstOf v10_sizeOf v10_longOf v10_row v10_character v10_sum v10_coefficient v10_undone v10_wasSum v10_wasCoefficient v10_hasImage v10_letter v10_letters v10_list v10_cell v10_refusals v10_tried v10_left v10_high v10_then v10_at v10_readSize v10_firstOf v10_sizeOf v10_longOf v10_row v10_character v10_sum v10_coefficient v10_undone v10_wasSum v10_wasCoefficient v10_hasImage v10_letter v10_letters v10_list v10_cell v10_refusals_39 v10_tried v10_left v10_high v10_then v10_at v10_readSize) (c_X10_refused l D cyI cyJ G a H.size v10_firstOf v10_sizeOf v10_longOf v10_row v10_character v10_sum v10_coefficient v10_undone v10_wasSum v10_wasCoefficient v10_hasImage v10_letter v10_letters v10_list v10_cell v10_refusals v10_tried v10_left v10_high v10_then v10_at v10_readSize (-1 : Int32) r_38 v10_refusals_39 hk_40) pk_X10_refused mw_5_29 ⟨rfl, rfl, Nat.le_of_ble_eq_true rfl, Nat.le_of_ble_eq_true rfl⟩ rfl rfl rfl rfl rfl (Nat.le_of_ble_eq_true rfl) ⟨Nat.le_of_ble_eq_true rfl, Nat.le_of_ble_eq_true rfl⟩ dX10_shape_9 (fun H locs hP hD hS => ?_)
    obtain ⟨rfl, rfl, rfl⟩ := po_3 hf
    rw [← hQ]; exact xe_iret Cx rfl hP hD hS dX10_shape_12
def f_X10_shapes (v10_firstOf : Nat → Int32) (v10_refusals : Nat → Int32) (x1 : Int32) (x2 : Int32) : Option (Int32 × (Nat → Int32)) := if 0 ≤ x1 then (if x1 ≤ (8 : Int32) then (p_b1 (f_X10_in x2 (0 : Int32) (1 : Int32)) (fun r_3 => if r_3 = 0 then (p_b2 (f_X10_refused v10_refusals (-2 : Int32)) (fun r_11 v10_refusals_12 => some (r_11, v10_refusals_12))) else (if x2 = 0 then (p_in x1 10 (some ((v10_firstOf (Int32.toNatClampNeg x1)), v10_refusals))) else (p_b1 (f_X10_manyOf v10_firstOf x1) (fun r_8 => some (r_8, v10_refusals)))))) else (p_b2 (f_X10_refused v10_refusals (-6 : Int32)) (fun r_14 v10_refusals_15 => some (r_14, v10_refusals_15)))) else (p_b2 (f_X10_refused v10_refusals (-4 : Int32)) (fun r_17 v10_refusals_18 => some (r_17, v10_refusals_18)))
set_option maxHeartbeats 4000000 in
set_option maxRecDepth 20000 in
theorem c_X10_shapes (l : Launch) (D : va_G) (cyI cyJ : ClassId) (G a : Nat → Nat) (sz : Nat) (v10_firstOf : Nat → Int32) (v10_sizeOf : Nat → Int32) (v10_longOf : Nat → Int32) (v10_row : Nat → Int32) (v10_character : Nat → Int32) (v10_sum : Nat → Int32) (v10_coefficient : Nat → Int32) (v10_undone : Int32) (v10_wasSum : Nat → Int32) (v10_wasCoefficient : Nat → Int32) (v10_hasImage : Int32) (v10_letter : Nat → Int32) (v10_letters : Int32) (v10_list : Nat → Int32) (v10_cell : Nat → Int32) (v10_refusals : Nat → Int32) (v10_tried : Nat → Int32) (v10_left : Int32) (v10_high : Int32) (v10_then : Nat → Int64) (v10_at : Int32) (v10_readSize : Int32) (x1 : Int32) (x2 : Int32) (ro : Int32) (ov10_refusals : Nat → Int32) (hf : f_X10_shapes v10_firstOf v10_refusals x1 x2 = some (ro, ov10_refusals)) : xm_i l yX10_shapes (Cond.code yX10_shapes cX10_shapes 3 (some .int) :: xg_tbl) { frames := 1, cells := 0, slots := 0, locals := 22 } D xcl [(cyI, .int), (cyJ, .long)] G sz [.ref (a 28), .int x1, .int x2] (wd_X10 a cyI cyJ v10_firstOf v10_sizeOf v10_longOf v10_row v10_character v10_sum v10_coefficient v10_undone v10_wasSum v10_wasCoefficient v10_hasImage v10_letter v10_letters v10_list v10_cell v10_refusals v10_tried v10_left v10_high v10_then v10_at v10_readSize) (wd_X10 a cyI cyJ v10_firstOf v10_sizeOf v10_longOf v10_row v10_character v10_sum v10_coefficient v10_undone v10_wasSum v10_wasCoefficient v10_hasImage v10_letter v10_letters v10_list v10_cell ov10_refusals v10_tried v10_left v10_high v10_then v10_at v10_readSize) ro := by
  refine xm_of_i (own := RX10) (by decide) rfl rfl (Nat.le_of_ble_eq_true rfl) ?_
  intro p e s m args below meth c ls Q A hQ hAe hin Cx hsz hP hD hS hl
  have Cx1 := Cx
  obtain ⟨⟨hx, hb, hml, hown, hts⟩, hr, hlocks, hK, hA, hT⟩ := Cx1
  have hl : lv_has ls 3 [(0, .ref (a 28)), (1, .int x1), (2, .int x2)] := hl
  obtain ⟨H, eH⟩ : ∃ H, H = s.heap := ⟨_, rfl⟩
  obtain ⟨locs, eL⟩ : ∃ L : List Loc, L = [] := ⟨_, rfl⟩
  rw [← eH] at hP
  have hS : va_S A s.heap H locs := by rw [eH, eL]; exact hS
  suffices hgo : W p l e { frames := 1, cells := 0, slots := 0, locals := 22 } s m args below meth c H locs 0 0 Q (F0 m 0 ls []) by rw [eH, eL] at hgo; exact hgo
  clear eH eL
  unfold f_X10_shapes at hf
  refine lv_iload_n hx hb dX10_shapes_0 rfl (lv_at hl 1 rfl) ?_
  refine lv_if_ge (tgt := 11) hx hb dX10_shapes_1 (by decide) (fun hc_20 => ?_) (fun hc_20 => ?_)
  · have hf := pe_t hf hc_20
    refine lv_iload_n hx hb dX10_shapes_11 rfl (lv_at hl 1 rfl) ?_
    refine lv_bipush (v := (8 : Int32)) hx hb dX10_shapes_12 (by decide) ?_
    refine lv_icmp_le (tgt := 24) hx hb dX10_shapes_14 (by decide) (fun hc_21 => ?_) (fun hc_21 => ?_)
    · have hf := pe_t hf hc_21
      refine lv_iload_n hx hb dX10_shapes_24 rfl (lv_at hl 2 rfl) ?_
      refine lv_iconst (v := (0 : Int32)) hx hb dX10_shapes_25 (by decide) ?_
      refine lv_iconst (v := (1 : Int32)) hx hb dX10_shapes_26 (by decide) ?_
      obtain ⟨r_22, hk_23, hf⟩ := pe_1 hf
      refine xw_z (As := [.int x2, .int (0 : Int32), .int (1 : Int32)]) (rest := []) Cx hP hD hS hl (xq_none _) (c_X10_in l D cyI cyJ G H.size x2 (0 : Int32) (1 : Int32) r_22 hk_23) pk_X10_in mw_5_26 ⟨rfl, rfl, Nat.le_of_ble_eq_true rfl, Nat.le_of_ble_eq_true rfl⟩ rfl rfl (Nat.le_of_ble_eq_true rfl) ⟨Nat.le_of_ble_eq_true rfl, Nat.le_of_ble_eq_true rfl⟩ dX10_shapes_27 (fun H locs hn_24 hP hD hS => ?_)
      refine lv_if_ne (tgt := 40) hx hb dX10_shapes_30 (by decide) (fun hc_25 => ?_) (fun hc_25 => ?_)
      · have hf := pe_f hf hc_25
        refine lv_iload_n hx hb dX10_shapes_40 rfl (lv_at hl 2 rfl) ?_
        refine lv_if_ne (tgt := 53) hx hb dX10_shapes_41 (by decide) (fun hc_26 => ?_) (fun hc_26 => ?_)
        · have hf := pe_f hf hc_26
          refine lv_aload_n hx hb dX10_shapes_53 rfl (lv_at hl 0 rfl) ?_
          refine lv_iload_n hx hb dX10_shapes_54 rfl (lv_at hl 1 rfl) ?_
          obtain ⟨r_27, hk_28, hf⟩ := pe_1 hf
          refine xv_i (As := [.int x1]) (rest := []) (q0 := 0) (ci := 10) Cx hP hD hS hl (pl_X10_X10 a cyI cyJ v10_firstOf v10_sizeOf v10_longOf v10_row v10_character v10_sum v10_coefficient v10_undone v10_wasSum v10_wasCoefficient v10_hasImage v10_letter v10_letters v10_list v10_cell v10_refusals v10_tried v10_left v10_high v10_then v10_at v10_readSize v10_firstOf v10_sizeOf v10_longOf v10_row v10_character v10_sum v10_coefficient v10_undone v10_wasSum v10_wasCoefficient v10_hasImage v10_letter v10_letters v10_list v10_cell v10_refusals v10_tried v10_left v10_high v10_then v10_at v10_readSize) (c_X10_manyOf l D cyI cyJ G a H.size v10_firstOf v10_sizeOf v10_longOf v10_row v10_character v10_sum v10_coefficient v10_undone v10_wasSum v10_wasCoefficient v10_hasImage v10_letter v10_letters v10_list v10_cell v10_refusals v10_tried v10_left v10_high v10_then v10_at v10_readSize x1 r_27 hk_28) pk_X10_manyOf mw_5_63 ⟨rfl, rfl, Nat.le_of_ble_eq_true rfl, Nat.le_of_ble_eq_true rfl⟩ rfl rfl rfl rfl rfl (Nat.le_of_ble_eq_true rfl) ⟨Nat.le_of_ble_eq_true rfl, Nat.le_of_ble_eq_true rfl⟩ dX10_shapes_55 (fun H locs hP hD hS => ?_)
          obtain ⟨rfl, rfl⟩ := po_2 hf
          rw [← hQ]; exact xe_iret Cx rfl hP hD hS dX10_shapes_58
        · have hf := pe_t hf hc_26
          refine lv_aload_n hx hb dX10_shapes_44 rfl (lv_at hl 0 rfl) ?_
          refine va_get (ci := 10) (v := .ref (a 29)) hx hb hts wX10_in hown hK hP 0 rfl rfl 0 (by decide) (hts _ mw_4_192) (fun _ h9 => h9) rfl dX10_shapes_45 ?_
          refine lv_iload_n hx hb dX10_shapes_48 rfl (lv_at hl 1 rfl) ?_
          obtain ⟨hi_29, hf⟩ := pe_in hf
          refine va_iald hx hb hK hP 1 0 rfl rfl hi_29 dX10_shapes_49 ?_
          refine lv_goto (tgt := 58) hx hb dX10_shapes_50 (by decide) ?_
          obtain ⟨rfl, rfl⟩ := po_2 hf
          rw [← hQ]; exact xe_iret Cx rfl hP hD hS dX10_shapes_58
      · have hf := pe_t hf hc_25
        refine lv_aload_n hx hb dX10_shapes_33 rfl (lv_at hl 0 rfl) ?_
        refine lv_bipush (v := (-2 : Int32)) hx hb dX10_shapes_34 (by decide) ?_
        obtain ⟨r_30, v10_refusals_31, hk_32, hf⟩ := pe_2 hf
        refine xv_i (As := [.int (-2 : Int32)]) (rest := []) (q0 := 0) (ci := 10) Cx hP hD hS hl (pl_X10_X10 a cyI cyJ v10_firstOf v10_sizeOf v10_longOf v10_row v10_character v10_sum v10_coefficient v10_undone v10_wasSum v10_wasCoefficient v10_hasImage v10_letter v10_letters v10_list v10_cell v10_refusals v10_tried v10_left v10_high v10_then v10_at v10_readSize v10_firstOf v10_sizeOf v10_longOf v10_row v10_character v10_sum v10_coefficient v10_undone v10_wasSum v10_wasCoefficient v10_hasImage v10_letter v10_letters v10_list v10_cell v10_refusals_31 v10_tried v10_left v10_high v10_then v10_at v10_readSize) (c_X10_refused l D cyI cyJ G a H.size v10_firstOf v10_sizeOf v10_longOf v10_row v10_character v10_sum v10_coefficient v10_undone v10_wasSum v10_wasCoefficient v10_hasImage v10_letter v10_letters v10_list v10_cell v10_refusals v10_tried v10_left v10_high v10_then v10_at v10_readSize (-2 : Int32) r_30 v10_refusals_31 hk_32) pk_X10_refused mw_5_29 ⟨rfl, rfl, Nat.le_of_ble_eq_true rfl, Nat.le_of_ble_eq_true rfl⟩ rfl rfl rfl rfl rfl (Nat.le_of_ble_eq_true rfl) ⟨Nat.le_of_ble_eq_true rfl, Nat.le_of_ble_eq_true rfl⟩ dX10_shapes_36 (fun H locs hP hD hS => ?_)
        obtain ⟨rfl, rfl⟩ := po_2 hf
        rw [← hQ]; exact xe_iret Cx rfl hP hD hS dX10_shapes_39
    · have hf := pe_f hf hc_21
      refine lv_aload_n hx hb dX10_shapes_17 rfl (lv_at hl 0 rfl) ?_
      refine lv_bipush (v := (-6 : Int32)) hx hb dX10_shapes_18 (by decide) ?_
      obtain ⟨r_33, v10_refusals_34, hk_35, hf⟩ := pe_2 hf
      refine xv_i (As := [.int (-6 : Int32)]) (rest := []) (q0 := 0) (ci := 10) Cx hP hD hS hl (pl_X10_X10 a cyI cyJ v10_firstOf v10_sizeOf v10_longOf v10_row v10_character v10_sum v10_coefficient v10_undone v10_wasSum v10_wasCoefficient v10_hasImage v10_letter v10_letters v10_list v10_cell v10_refusals v10_tried v10_left v10_high v10_then v10_at v10_readSize v10_firstOf v10_sizeOf v10_longOf v10_row v10_character v10_sum v10_coefficient v10_undone v10_wasSum v10_wasCoefficient v10_hasImage v10_letter v10_letters v10_list v10_cell v10_refusals_34 v10_tried v10_left v10_high v10_then v10_at v10_readSize) (c_X10_refused l D cyI cyJ G a H.size v10_firstOf v10_sizeOf v10_longOf v10_row v10_character v10_sum v10_coefficient v10_undone v10_wasSum v10_wasCoefficient v10_hasImage v10_letter v10_letters v10_list v10_cell v10_refusals v10_tried v10_left v10_high v10_then v10_at v10_readSize (-6 : Int32) r_33 v10_refusals_34 hk_35) pk_X10_refused mw_5_29 ⟨rfl, rfl, Nat.le_of_ble_eq_true rfl, Nat.le_of_ble_eq_true rfl⟩ rfl rfl rfl rfl rfl (Nat.le_of_ble_eq_true rfl) ⟨Nat.le_of_ble_eq_true rfl, Nat.le_of_ble_eq_true rfl⟩ dX10_shapes_20 (fun H locs hP hD hS => ?_)
      obtain ⟨rfl, rfl⟩ := po_2 hf
      rw [← hQ]; exact xe_iret Cx rfl hP hD hS dX10_shapes_23
  · have hf := pe_f hf hc_20
    refine lv_aload_n hx hb dX10_shapes_4 rfl (lv_at hl 0 rfl) ?_
    refine lv_bipush (v := (-4 : Int32)) hx hb dX10_shapes_5 (by decide) ?_
    obtain ⟨r_36, v10_refusals_37, hk_38, hf⟩ := pe_2 hf
    refine xv_i (As := [.int (-4 : Int32)]) (rest := []) (q0 := 0) (ci := 10) Cx hP hD hS hl (pl_X10_X10 a cyI cyJ v10_firstOf v10_sizeOf v10_longOf v10_row v10_character v10_sum v10_coefficient v10_undone v10_wasSum v10_wasCoefficient v10_hasImage v10_letter v10_letters v10_list v10_cell v10_refusals v10_tried v10_left v10_high v10_then v10_at v10_readSize v10_firstOf v10_sizeOf v10_longOf v10_row v10_character v10_sum v10_coefficient v10_undone v10_wasSum v10_wasCoefficient v10_hasImage v10_letter v10_letters v10_list v10_cell v10_refusals_37 v10_tried v10_left v10_high v10_then v10_at v10_readSize) (c_X10_refused l D cyI cyJ G a H.size v10_firstOf v10_sizeOf v10_longOf v10_row v10_character v10_sum v10_coefficient v10_undone v10_wasSum v10_wasCoefficient v10_hasImage v10_letter v10_letters v10_list v10_cell v10_refusals v10_tried v10_left v10_high v10_then v10_at v10_readSize (-4 : Int32) r_36 v10_refusals_37 hk_38) pk_X10_refused mw_5_29 ⟨rfl, rfl, Nat.le_of_ble_eq_true rfl, Nat.le_of_ble_eq_true rfl⟩ rfl rfl rfl rfl rfl (Nat.le_of_ble_eq_true rfl) ⟨Nat.le_of_ble_eq_true rfl, Nat.le_of_ble_eq_true rfl⟩ dX10_shapes_7 (fun H locs hP hD hS => ?_)
    obtain ⟨rfl, rfl⟩ := po_2 hf
    rw [← hQ]; exact xe_iret Cx rfl hP hD hS dX10_shapes_10
def f_X10_hook_39 (v10_longOf : Nat → Int32) (v10_row : Nat → Int32) (v10_refusals : Nat → Int32) : Option (Int32 × (Nat → Int32)) := p_b2 (f_X10_refused v10_refusals (-1 : Int32)) (fun r_1 v10_refusals_2 => some (r_1, v10_refusals_2))
def f_X10_hook (v10_longOf : Nat → Int32) (v10_row : Nat → Int32) (v10_refusals : Nat → Int32) (x1 : Int32) (x2 : Int32) (x3 : Int32) : Option (Int32 × (Nat → Int32)) := p_b1 (f_X10_isShape x1) (fun r_4 => if r_4 = 0 then ((f_X10_hook_39 v10_longOf v10_row) v10_refusals) else (p_in x1 67 (p_b1 (f_X10_in x2 (0 : Int32) ((v10_longOf (Int32.toNatClampNeg x1)) - (1 : Int32))) (fun r_9 => if r_9 = 0 then ((f_X10_hook_39 v10_longOf v10_row) v10_refusals) else (p_b1 (f_X10_rowOf v10_row x1 x2) (fun r_13 => p_b1 (f_X10_in x3 (0 : Int32) (r_13 - (1 : Int32))) (fun r_15 => if r_15 = 0 then ((f_X10_hook_39 v10_longOf v10_row) v10_refusals) else (p_b1 (f_X10_hookOf v10_longOf v10_row x1 x2 x3) (fun r_19 => some (r_19, v10_refusals))))))))))
set_option maxHeartbeats 4000000 in
set_option maxRecDepth 20000 in
theorem c_X10_hook (l : Launch) (D : va_G) (cyI cyJ : ClassId) (G a : Nat → Nat) (sz : Nat) (v10_firstOf : Nat → Int32) (v10_sizeOf : Nat → Int32) (v10_longOf : Nat → Int32) (v10_row : Nat → Int32) (v10_character : Nat → Int32) (v10_sum : Nat → Int32) (v10_coefficient : Nat → Int32) (v10_undone : Int32) (v10_wasSum : Nat → Int32) (v10_wasCoefficient : Nat → Int32) (v10_hasImage : Int32) (v10_letter : Nat → Int32) (v10_letters : Int32) (v10_list : Nat → Int32) (v10_cell : Nat → Int32) (v10_refusals : Nat → Int32) (v10_tried : Nat → Int32) (v10_left : Int32) (v10_high : Int32) (v10_then : Nat → Int64) (v10_at : Int32) (v10_readSize : Int32) (x1 : Int32) (x2 : Int32) (x3 : Int32) (ro : Int32) (ov10_refusals : Nat → Int32) (hf : f_X10_hook v10_longOf v10_row v10_refusals x1 x2 x3 = some (ro, ov10_refusals)) : xm_i l yX10_hook (Cond.code yX10_hook cX10_hook 4 (some .int) :: xg_tbl) { frames := 3, cells := 0, slots := 0, locals := 69 } D xcl [(cyI, .int), (cyJ, .long)] G sz [.ref (a 28), .int x1, .int x2, .int x3] (wd_X10 a cyI cyJ v10_firstOf v10_sizeOf v10_longOf v10_row v10_character v10_sum v10_coefficient v10_undone v10_wasSum v10_wasCoefficient v10_hasImage v10_letter v10_letters v10_list v10_cell v10_refusals v10_tried v10_left v10_high v10_then v10_at v10_readSize) (wd_X10 a cyI cyJ v10_firstOf v10_sizeOf v10_longOf v10_row v10_character v10_sum v10_coefficient v10_undone v10_wasSum v10_wasCoefficient v10_hasImage v10_letter v10_letters v10_list v10_cell ov10_refusals v10_tried v10_left v10_high v10_then v10_at v10_readSize) ro := by
  refine xm_of_i (own := RX10) (by decide) rfl rfl (Nat.le_of_ble_eq_true rfl) ?_
  intro p e s m args below meth c ls Q A hQ hAe hin Cx hsz hP hD hS hl
  have Cx1 := Cx
  obtain ⟨⟨hx, hb, hml, hown, hts⟩, hr, hlocks, hK, hA, hT⟩ := Cx1
  have hl : lv_has ls 4 [(0, .ref (a 28)), (1, .int x1), (2, .int x2), (3, .int x3)] := hl
  obtain ⟨H, eH⟩ : ∃ H, H = s.heap := ⟨_, rfl⟩
  obtain ⟨locs, eL⟩ : ∃ L : List Loc, L = [] := ⟨_, rfl⟩
  rw [← eH] at hP
  have hS : va_S A s.heap H locs := by rw [eH, eL]; exact hS
  suffices hgo : W p l e { frames := 3, cells := 0, slots := 0, locals := 69 } s m args below meth c H locs 0 0 Q (F0 m 0 ls []) by rw [eH, eL] at hgo; exact hgo
  clear eH eL
  unfold f_X10_hook at hf
  have w_39 : ∀ (v10_refusals : Nat → Int32) (H : Heap) (locs : List Loc) (ls : Array Slot), (f_X10_hook_39 v10_longOf v10_row) v10_refusals = some (ro, ov10_refusals) → va_P D xcl (wd_X10 a cyI cyJ v10_firstOf v10_sizeOf v10_longOf v10_row v10_character v10_sum v10_coefficient v10_undone v10_wasSum v10_wasCoefficient v10_hasImage v10_letter v10_letters v10_list v10_cell v10_refusals v10_tried v10_left v10_high v10_then v10_at v10_readSize) H → va_D A (wd_X10 a cyI cyJ v10_firstOf v10_sizeOf v10_longOf v10_row v10_character v10_sum v10_coefficient v10_undone v10_wasSum v10_wasCoefficient v10_hasImage v10_letter v10_letters v10_list v10_cell v10_refusals v10_tried v10_left v10_high v10_then v10_at v10_readSize) → va_S A s.heap H locs → lv_has ls 4 [(0, .ref (a 28))] → W p l e { frames := 3, cells := 0, slots := 0, locals := 69 } s m args below meth c H locs 0 0 Q (F0 m 39 ls []) := by
    intro v10_refusals H locs ls hf hP hD hS hl
    unfold f_X10_hook_39 at hf
    refine lv_aload_n hx hb dX10_hook_39 rfl (lv_at hl 0 rfl) ?_
    refine lv_iconst (v := (-1 : Int32)) hx hb dX10_hook_40 (by decide) ?_
    obtain ⟨r_21, v10_refusals_22, hk_23, hf⟩ := pe_2 hf
    refine xv_i (As := [.int (-1 : Int32)]) (rest := []) (q0 := 0) (ci := 10) Cx hP hD hS hl (pl_X10_X10 a cyI cyJ v10_firstOf v10_sizeOf v10_longOf v10_row v10_character v10_sum v10_coefficient v10_undone v10_wasSum v10_wasCoefficient v10_hasImage v10_letter v10_letters v10_list v10_cell v10_refusals v10_tried v10_left v10_high v10_then v10_at v10_readSize v10_firstOf v10_sizeOf v10_longOf v10_row v10_character v10_sum v10_coefficient v10_undone v10_wasSum v10_wasCoefficient v10_hasImage v10_letter v10_letters v10_list v10_cell v10_refusals_22 v10_tried v10_left v10_high v10_then v10_at v10_readSize) (c_X10_refused l D cyI cyJ G a H.size v10_firstOf v10_sizeOf v10_longOf v10_row v10_character v10_sum v10_coefficient v10_undone v10_wasSum v10_wasCoefficient v10_hasImage v10_letter v10_letters v10_list v10_cell v10_refusals v10_tried v10_left v10_high v10_then v10_at v10_readSize (-1 : Int32) r_21 v10_refusals_22 hk_23) pk_X10_refused mw_5_29 ⟨rfl, rfl, Nat.le_of_ble_eq_true rfl, Nat.le_of_ble_eq_true rfl⟩ rfl rfl rfl rfl rfl (Nat.le_of_ble_eq_true rfl) ⟨Nat.le_of_ble_eq_true rfl, Nat.le_of_ble_eq_true rfl⟩ dX10_hook_41 (fun H locs hP hD hS => ?_)
    obtain ⟨rfl, rfl⟩ := po_2 hf
    rw [← hQ]; exact xe_iret Cx rfl hP hD hS dX10_hook_44
  refine lv_iload_n hx hb dX10_hook_0 rfl (lv_at hl 1 rfl) ?_
  obtain ⟨r_24, hk_25, hf⟩ := pe_1 hf
  refine xw_z (As := [.int x1]) (rest := []) Cx hP hD hS hl (xq_none _) (c_X10_isShape l D cyI cyJ G H.size x1 r_24 hk_25) pk_X10_isShape mw_5_23 ⟨rfl, rfl, Nat.le_of_ble_eq_true rfl, Nat.le_of_ble_eq_true rfl⟩ rfl rfl (Nat.le_of_ble_eq_true rfl) ⟨Nat.le_of_ble_eq_true rfl, Nat.le_of_ble_eq_true rfl⟩ dX10_hook_1 (fun H locs hn_26 hP hD hS => ?_)
  refine lv_if_eq (tgt := 39) hx hb dX10_hook_4 (by decide) (fun hc_27 => ?_) (fun hc_27 => ?_)
  · have hf := pe_t hf hc_27
    exact w_39 v10_refusals H locs ls hf hP hD hS (lv_sub hl [0] rfl)
  · have hf := pe_f hf hc_27
    refine lv_iload_n hx hb dX10_hook_7 rfl (lv_at hl 2 rfl) ?_
    refine lv_iconst (v := (0 : Int32)) hx hb dX10_hook_8 (by decide) ?_
    refine lv_aload_n hx hb dX10_hook_9 rfl (lv_at hl 0 rfl) ?_
    refine va_get (ci := 10) (v := .ref (a 31)) hx hb hts wX10_in hown hK hP 0 rfl rfl 2 (by decide) (hts _ mw_4_194) (fun _ h9 => h9) rfl dX10_hook_10 ?_
    refine lv_iload_n hx hb dX10_hook_13 rfl (lv_at hl 1 rfl) ?_
    obtain ⟨hi_28, hf⟩ := pe_in hf
    refine va_iald hx hb hK hP 3 0 rfl rfl hi_28 dX10_hook_14 ?_
    refine lv_iconst (v := (1 : Int32)) hx hb dX10_hook_15 (by decide) ?_
    refine lv_isub hx hb dX10_hook_16 ?_
    obtain ⟨r_29, hk_30, hf⟩ := pe_1 hf
    refine xw_z (As := [.int x2, .int (0 : Int32), .int ((v10_longOf (Int32.toNatClampNeg x1)) - (1 : Int32))]) (rest := []) Cx hP hD hS hl (xq_none _) (c_X10_in l D cyI cyJ G H.size x2 (0 : Int32) ((v10_longOf (Int32.toNatClampNeg x1)) - (1 : Int32)) r_29 hk_30) pk_X10_in mw_5_26 ⟨rfl, rfl, Nat.le_of_ble_eq_true rfl, Nat.le_of_ble_eq_true rfl⟩ rfl rfl (Nat.le_of_ble_eq_true rfl) ⟨Nat.le_of_ble_eq_true rfl, Nat.le_of_ble_eq_true rfl⟩ dX10_hook_17 (fun H locs hn_31 hP hD hS => ?_)
    refine lv_if_eq (tgt := 39) hx hb dX10_hook_20 (by decide) (fun hc_32 => ?_) (fun hc_32 => ?_)
    · have hf := pe_t hf hc_32
      exact w_39 v10_refusals H locs ls hf hP hD hS (lv_sub hl [0] rfl)
    · have hf := pe_f hf hc_32
      refine lv_iload_n hx hb dX10_hook_23 rfl (lv_at hl 3 rfl) ?_
      refine lv_iconst (v := (0 : Int32)) hx hb dX10_hook_24 (by decide) ?_
      refine lv_aload_n hx hb dX10_hook_25 rfl (lv_at hl 0 rfl) ?_
      refine lv_iload_n hx hb dX10_hook_26 rfl (lv_at hl 1 rfl) ?_
      refine lv_iload_n hx hb dX10_hook_27 rfl (lv_at hl 2 rfl) ?_
      obtain ⟨r_33, hk_34, hf⟩ := pe_1 hf
      refine xv_i (As := [.int x1, .int x2]) (rest := [.int (0 : Int32), .int x3]) (q0 := 0) (ci := 10) Cx hP hD hS hl (pl_X10_X10 a cyI cyJ v10_firstOf v10_sizeOf v10_longOf v10_row v10_character v10_sum v10_coefficient v10_undone v10_wasSum v10_wasCoefficient v10_hasImage v10_letter v10_letters v10_list v10_cell v10_refusals v10_tried v10_left v10_high v10_then v10_at v10_readSize v10_firstOf v10_sizeOf v10_longOf v10_row v10_character v10_sum v10_coefficient v10_undone v10_wasSum v10_wasCoefficient v10_hasImage v10_letter v10_letters v10_list v10_cell v10_refusals v10_tried v10_left v10_high v10_then v10_at v10_readSize) (c_X10_rowOf l D cyI cyJ G a H.size v10_firstOf v10_sizeOf v10_longOf v10_row v10_character v10_sum v10_coefficient v10_undone v10_wasSum v10_wasCoefficient v10_hasImage v10_letter v10_letters v10_list v10_cell v10_refusals v10_tried v10_left v10_high v10_then v10_at v10_readSize x1 x2 r_33 hk_34) pk_X10_rowOf mw_4_159 ⟨rfl, rfl, Nat.le_of_ble_eq_true rfl, Nat.le_of_ble_eq_true rfl⟩ rfl rfl rfl rfl rfl (Nat.le_of_ble_eq_true rfl) ⟨Nat.le_of_ble_eq_true rfl, Nat.le_of_ble_eq_true rfl⟩ dX10_hook_28 (fun H locs hP hD hS => ?_)
      refine lv_iconst (v := (1 : Int32)) hx hb dX10_hook_31 (by decide) ?_
      refine lv_isub hx hb dX10_hook_32 ?_
      obtain ⟨r_35, hk_36, hf⟩ := pe_1 hf
      refine xw_z (As := [.int x3, .int (0 : Int32), .int (r_33 - (1 : Int32))]) (rest := []) Cx hP hD hS hl (xq_none _) (c_X10_in l D cyI cyJ G H.size x3 (0 : Int32) (r_33 - (1 : Int32)) r_35 hk_36) pk_X10_in mw_5_26 ⟨rfl, rfl, Nat.le_of_ble_eq_true rfl, Nat.le_of_ble_eq_true rfl⟩ rfl rfl (Nat.le_of_ble_eq_true rfl) ⟨Nat.le_of_ble_eq_true rfl, Nat.le_of_ble_eq_true rfl⟩ dX10_hook_33 (fun H locs hn_37 hP hD hS => ?_)
      refine lv_if_ne (tgt := 45) hx hb dX10_hook_36 (by decide) (fun hc_38 => ?_) (fun hc_38 => ?_)
      · have hf := pe_f hf hc_38
        refine lv_aload_n hx hb dX10_hook_45 rfl (lv_at hl 0 rfl) ?_
        refine lv_iload_n hx hb dX10_hook_46 rfl (lv_at hl 1 rfl) ?_
        refine lv_iload_n hx hb dX10_hook_47 rfl (lv_at hl 2 rfl) ?_
        refine lv_iload_n hx hb dX10_hook_48 rfl (lv_at hl 3 rfl) ?_
        obtain ⟨r_39, hk_40, hf⟩ := pe_1 hf
        refine xv_i (As := [.int x1, .int x2, .int x3]) (rest := []) (q0 := 0) (ci := 10) Cx hP hD hS hl (pl_X10_X10 a cyI cyJ v10_firstOf v10_sizeOf v10_longOf v10_row v10_character v10_sum v10_coefficient v10_undone v10_wasSum v10_wasCoefficient v10_hasImage v10_letter v10_letters v10_list v10_cell v10_refusals v10_tried v10_left v10_high v10_then v10_at v10_readSize v10_firstOf v10_sizeOf v10_longOf v10_row v10_character v10_sum v10_coefficient v10_undone v10_wasSum v10_wasCoefficient v10_hasImage v10_letter v10_letters v10_list v10_cell v10_refusals v10_tried v10_left v10_high v10_then v10_at v10_readSize) (c_X10_hookOf l D cyI cyJ G a H.size v10_firstOf v10_sizeOf v10_longOf v10_row v10_character v10_sum v10_coefficient v10_undone v10_wasSum v10_wasCoefficient v10_hasImage v10_letter v10_letters v10_list v10_cell v10_refusals v10_tried v10_left v10_high v10_then v10_at v10_readSize x1 x2 x3 r_39 hk_40) pk_X10_hookOf mw_4_180 ⟨rfl, rfl, Nat.le_of_ble_eq_true rfl, Nat.le_of_ble_eq_true rfl⟩ rfl rfl rfl rfl rfl (Nat.le_of_ble_eq_true rfl) ⟨Nat.le_of_ble_eq_true rfl, Nat.le_of_ble_eq_true rfl⟩ dX10_hook_49 (fun H locs hP hD hS => ?_)
        obtain ⟨rfl, rfl⟩ := po_2 hf
        rw [← hQ]; exact xe_iret Cx rfl hP hD hS dX10_hook_52
      · have hf := pe_t hf hc_38
        exact w_39 v10_refusals H locs ls hf hP hD hS (lv_sub hl [0] rfl)
def f_X10_rims_23 (v10_longOf : Nat → Int32) (v10_row : Nat → Int32) (v10_refusals : Nat → Int32) (v10_tried : Nat → Int32) (v10_left : Int32) (v10_high : Int32) : Option (Int32 × (Nat → Int32) × (Nat → Int32) × Int32 × Int32) := p_b2 (f_X10_refused v10_refusals (-4 : Int32)) (fun r_1 v10_refusals_2 => some (r_1, v10_refusals_2, v10_tried, v10_left, v10_high))
def f_X10_rims (v10_longOf : Nat → Int32) (v10_row : Nat → Int32) (v10_refusals : Nat → Int32) (v10_tried : Nat → Int32) (v10_left : Int32) (v10_high : Int32) (x1 : Int32) (x2 : Int32) (x3 : Int32) : Option (Int32 × (Nat → Int32) × (Nat → Int32) × Int32 × Int32) := p_b1 (f_X10_isShape x1) (fun r_4 => if r_4 = 0 then (p_b2 (f_X10_refused v10_refusals (-1 : Int32)) (fun r_32 v10_refusals_33 => some (r_32, v10_refusals_33, v10_tried, v10_left, v10_high))) else (if x2 < (1 : Int32) then ((f_X10_rims_23 v10_longOf v10_row) v10_refusals v10_tried v10_left v10_high) else (if (-1 : Int32) ≤ x3 then (if x2 ≤ (8 : Int32) then (if x3 = (-1 : Int32) then (p_b4 (f_X10_rimOf v10_longOf v10_row v10_tried v10_left v10_high x1 x2 (-1 : Int32)) (fun r_24 v10_tried_25 v10_left_26 v10_high_27 => some (r_24, v10_refusals, v10_tried_25, v10_left_26, v10_high_27))) else (p_b4 (f_X10_isRim v10_longOf v10_row v10_tried v10_left v10_high x1 x2 x3) (fun r_12 v10_tried_13 v10_left_14 v10_high_15 => if r_12 = 0 then (some ((-9 : Int32), v10_refusals, v10_tried_13, v10_left_14, v10_high_15)) else (p_b4 (f_X10_rimOf v10_longOf v10_row v10_tried_13 v10_left_14 v10_high_15 x1 x2 x3) (fun r_19 v10_tried_20 v10_left_21 v10_high_22 => some (v10_left_21, v10_refusals, v10_tried_20, v10_left_21, v10_high_22)))))) else (p_b2 (f_X10_refused v10_refusals (-6 : Int32)) (fun r_29 v10_refusals_30 => some (r_29, v10_refusals_30, v10_tried, v10_left, v10_high)))) else ((f_X10_rims_23 v10_longOf v10_row) v10_refusals v10_tried v10_left v10_high))))
set_option maxHeartbeats 4000000 in
set_option maxRecDepth 20000 in
theorem c_X10_rims (l : Launch) (D : va_G) (cyI cyJ : ClassId) (G a : Nat → Nat) (sz : Nat) (v10_firstOf : Nat → Int32) (v10_sizeOf : Nat → Int32) (v10_longOf : Nat → Int32) (v10_row : Nat → Int32) (v10_character : Nat → Int32) (v10_sum : Nat → Int32) (v10_coefficient : Nat → Int32) (v10_undone : Int32) (v10_wasSum : Nat → Int32) (v10_wasCoefficient : Nat → Int32) (v10_hasImage : Int32) (v10_letter : Nat → Int32) (v10_letters : Int32) (v10_list : Nat → Int32) (v10_cell : Nat → Int32) (v10_refusals : Nat → Int32) (v10_tried : Nat → Int32) (v10_left : Int32) (v10_high : Int32) (v10_then : Nat → Int64) (v10_at : Int32) (v10_readSize : Int32) (x1 : Int32) (x2 : Int32) (x3 : Int32) (ro : Int32) (ov10_refusals : Nat → Int32) (ov10_tried : Nat → Int32) (ov10_left : Int32) (ov10_high : Int32) (hf : f_X10_rims v10_longOf v10_row v10_refusals v10_tried v10_left v10_high x1 x2 x3 = some (ro, ov10_refusals, ov10_tried, ov10_left, ov10_high)) : xm_i l yX10_rims (Cond.code yX10_rims cX10_rims 5 (some .int) :: xg_tbl) { frames := 5, cells := 0, slots := 0, locals := 120 } D xcl [(cyI, .int), (cyJ, .long)] G sz [.ref (a 28), .int x1, .int x2, .int x3] (wd_X10 a cyI cyJ v10_firstOf v10_sizeOf v10_longOf v10_row v10_character v10_sum v10_coefficient v10_undone v10_wasSum v10_wasCoefficient v10_hasImage v10_letter v10_letters v10_list v10_cell v10_refusals v10_tried v10_left v10_high v10_then v10_at v10_readSize) (wd_X10 a cyI cyJ v10_firstOf v10_sizeOf v10_longOf v10_row v10_character v10_sum v10_coefficient v10_undone v10_wasSum v10_wasCoefficient v10_hasImage v10_letter v10_letters v10_list v10_cell ov10_refusals ov10_tried ov10_left ov10_high v10_then v10_at v10_readSize) ro := by
  refine xm_of_i (own := RX10) (by decide) rfl rfl (Nat.le_of_ble_eq_true rfl) ?_
  intro p e s m args below meth c ls Q A hQ hAe hin Cx hsz hP hD hS hl
  have Cx1 := Cx
  obtain ⟨⟨hx, hb, hml, hown, hts⟩, hr, hlocks, hK, hA, hT⟩ := Cx1
  have hl : lv_has ls 5 [(0, .ref (a 28)), (1, .int x1), (2, .int x2), (3, .int x3)] := hl
  obtain ⟨H, eH⟩ : ∃ H, H = s.heap := ⟨_, rfl⟩
  obtain ⟨locs, eL⟩ : ∃ L : List Loc, L = [] := ⟨_, rfl⟩
  rw [← eH] at hP
  have hS : va_S A s.heap H locs := by rw [eH, eL]; exact hS
  suffices hgo : W p l e { frames := 5, cells := 0, slots := 0, locals := 120 } s m args below meth c H locs 0 0 Q (F0 m 0 ls []) by rw [eH, eL] at hgo; exact hgo
  clear eH eL
  unfold f_X10_rims at hf
  have w_23 : ∀ (v10_refusals : Nat → Int32) (v10_tried : Nat → Int32) (v10_left : Int32) (v10_high : Int32) (H : Heap) (locs : List Loc) (ls : Array Slot), (f_X10_rims_23 v10_longOf v10_row) v10_refusals v10_tried v10_left v10_high = some (ro, ov10_refusals, ov10_tried, ov10_left, ov10_high) → va_P D xcl (wd_X10 a cyI cyJ v10_firstOf v10_sizeOf v10_longOf v10_row v10_character v10_sum v10_coefficient v10_undone v10_wasSum v10_wasCoefficient v10_hasImage v10_letter v10_letters v10_list v10_cell v10_refusals v10_tried v10_left v10_high v10_then v10_at v10_readSize) H → va_D A (wd_X10 a cyI cyJ v10_firstOf v10_sizeOf v10_longOf v10_row v10_character v10_sum v10_coefficient v10_undone v10_wasSum v10_wasCoefficient v10_hasImage v10_letter v10_letters v10_list v10_cell v10_refusals v10_tried v10_left v10_high v10_then v10_at v10_readSize) → va_S A s.heap H locs → lv_has ls 5 [(0, .ref (a 28))] → W p l e { frames := 5, cells := 0, slots := 0, locals := 120 } s m args below meth c H locs 0 0 Q (F0 m 23 ls []) := by
    intro v10_refusals v10_tried v10_left v10_high H locs ls hf hP hD hS hl
    unfold f_X10_rims_23 at hf
    refine lv_aload_n hx hb dX10_rims_23 rfl (lv_at hl 0 rfl) ?_
    refine lv_bipush (v := (-4 : Int32)) hx hb dX10_rims_24 (by decide) ?_
    obtain ⟨r_35, v10_refusals_36, hk_37, hf⟩ := pe_2 hf
    refine xv_i (As := [.int (-4 : Int32)]) (rest := []) (q0 := 0) (ci := 10) Cx hP hD hS hl (pl_X10_X10 a cyI cyJ v10_firstOf v10_sizeOf v10_longOf v10_row v10_character v10_sum v10_coefficient v10_undone v10_wasSum v10_wasCoefficient v10_hasImage v10_letter v10_letters v10_list v10_cell v10_refusals v10_tried v10_left v10_high v10_then v10_at v10_readSize v10_firstOf v10_sizeOf v10_longOf v10_row v10_character v10_sum v10_coefficient v10_undone v10_wasSum v10_wasCoefficient v10_hasImage v10_letter v10_letters v10_list v10_cell v10_refusals_36 v10_tried v10_left v10_high v10_then v10_at v10_readSize) (c_X10_refused l D cyI cyJ G a H.size v10_firstOf v10_sizeOf v10_longOf v10_row v10_character v10_sum v10_coefficient v10_undone v10_wasSum v10_wasCoefficient v10_hasImage v10_letter v10_letters v10_list v10_cell v10_refusals v10_tried v10_left v10_high v10_then v10_at v10_readSize (-4 : Int32) r_35 v10_refusals_36 hk_37) pk_X10_refused mw_5_29 ⟨rfl, rfl, Nat.le_of_ble_eq_true rfl, Nat.le_of_ble_eq_true rfl⟩ rfl rfl rfl rfl rfl (Nat.le_of_ble_eq_true rfl) ⟨Nat.le_of_ble_eq_true rfl, Nat.le_of_ble_eq_true rfl⟩ dX10_rims_26 (fun H locs hP hD hS => ?_)
    obtain ⟨rfl, rfl, rfl, rfl, rfl⟩ := po_5 hf
    rw [← hQ]; exact xe_iret Cx rfl hP hD hS dX10_rims_29
  refine lv_iload_n hx hb dX10_rims_0 rfl (lv_at hl 1 rfl) ?_
  obtain ⟨r_38, hk_39, hf⟩ := pe_1 hf
  refine xw_z (As := [.int x1]) (rest := []) Cx hP hD hS hl (xq_none _) (c_X10_isShape l D cyI cyJ G H.size x1 r_38 hk_39) pk_X10_isShape mw_5_23 ⟨rfl, rfl, Nat.le_of_ble_eq_true rfl, Nat.le_of_ble_eq_true rfl⟩ rfl rfl (Nat.le_of_ble_eq_true rfl) ⟨Nat.le_of_ble_eq_true rfl, Nat.le_of_ble_eq_true rfl⟩ dX10_rims_1 (fun H locs hn_40 hP hD hS => ?_)
  refine lv_if_ne (tgt := 13) hx hb dX10_rims_4 (by decide) (fun hc_41 => ?_) (fun hc_41 => ?_)
  · have hf := pe_f hf hc_41
    refine lv_iload_n hx hb dX10_rims_13 rfl (lv_at hl 2 rfl) ?_
    refine lv_iconst (v := (1 : Int32)) hx hb dX10_rims_14 (by decide) ?_
    refine lv_icmp_lt (tgt := 23) hx hb dX10_rims_15 (by decide) (fun hc_42 => ?_) (fun hc_42 => ?_)
    · have hf := pe_t hf hc_42
      exact w_23 v10_refusals v10_tried v10_left v10_high H locs ls hf hP hD hS (lv_sub hl [0] rfl)
    · have hf := pe_f hf hc_42
      refine lv_iload_n hx hb dX10_rims_18 rfl (lv_at hl 3 rfl) ?_
      refine lv_iconst (v := (-1 : Int32)) hx hb dX10_rims_19 (by decide) ?_
      refine lv_icmp_ge (tgt := 30) hx hb dX10_rims_20 (by decide) (fun hc_43 => ?_) (fun hc_43 => ?_)
      · have hf := pe_t hf hc_43
        refine lv_iload_n hx hb dX10_rims_30 rfl (lv_at hl 2 rfl) ?_
        refine lv_bipush (v := (8 : Int32)) hx hb dX10_rims_31 (by decide) ?_
        refine lv_icmp_le (tgt := 43) hx hb dX10_rims_33 (by decide) (fun hc_44 => ?_) (fun hc_44 => ?_)
        · have hf := pe_t hf hc_44
          refine lv_iload_n hx hb dX10_rims_43 rfl (lv_at hl 3 rfl) ?_
          refine lv_iconst (v := (-1 : Int32)) hx hb dX10_rims_44 (by decide) ?_
          refine lv_icmp_ne (tgt := 56) hx hb dX10_rims_45 (by decide) (fun hc_45 => ?_) (fun hc_45 => ?_)
          · have hf := pe_f hf hc_45
            refine lv_aload_n hx hb dX10_rims_56 rfl (lv_at hl 0 rfl) ?_
            refine lv_iload_n hx hb dX10_rims_57 rfl (lv_at hl 1 rfl) ?_
            refine lv_iload_n hx hb dX10_rims_58 rfl (lv_at hl 2 rfl) ?_
            refine lv_iload_n hx hb dX10_rims_59 rfl (lv_at hl 3 rfl) ?_
            obtain ⟨r_46, v10_tried_47, v10_left_48, v10_high_49, hk_50, hf⟩ := pe_4 hf
            refine xv_z (As := [.int x1, .int x2, .int x3]) (rest := []) (q0 := 0) (ci := 10) Cx hP hD hS hl (pl_X10_X10 a cyI cyJ v10_firstOf v10_sizeOf v10_longOf v10_row v10_character v10_sum v10_coefficient v10_undone v10_wasSum v10_wasCoefficient v10_hasImage v10_letter v10_letters v10_list v10_cell v10_refusals v10_tried v10_left v10_high v10_then v10_at v10_readSize v10_firstOf v10_sizeOf v10_longOf v10_row v10_character v10_sum v10_coefficient v10_undone v10_wasSum v10_wasCoefficient v10_hasImage v10_letter v10_letters v10_list v10_cell v10_refusals v10_tried_47 v10_left_48 v10_high_49 v10_then v10_at v10_readSize) (c_X10_isRim l D cyI cyJ G a H.size v10_firstOf v10_sizeOf v10_longOf v10_row v10_character v10_sum v10_coefficient v10_undone v10_wasSum v10_wasCoefficient v10_hasImage v10_letter v10_letters v10_list v10_cell v10_refusals v10_tried v10_left v10_high v10_then v10_at v10_readSize x1 x2 x3 r_46 v10_tried_47 v10_left_48 v10_high_49 hk_50) pk_X10_isRim mw_5_75 ⟨rfl, rfl, Nat.le_of_ble_eq_true rfl, Nat.le_of_ble_eq_true rfl⟩ rfl rfl rfl rfl rfl (Nat.le_of_ble_eq_true rfl) ⟨Nat.le_of_ble_eq_true rfl, Nat.le_of_ble_eq_true rfl⟩ dX10_rims_60 (fun H locs hn_51 hP hD hS => ?_)
            refine lv_if_ne (tgt := 69) hx hb dX10_rims_63 (by decide) (fun hc_52 => ?_) (fun hc_52 => ?_)
            · have hf := pe_f hf hc_52
              refine lv_aload_n hx hb dX10_rims_69 rfl (lv_at hl 0 rfl) ?_
              refine lv_iload_n hx hb dX10_rims_70 rfl (lv_at hl 1 rfl) ?_
              refine lv_iload_n hx hb dX10_rims_71 rfl (lv_at hl 2 rfl) ?_
              refine lv_iload_n hx hb dX10_rims_72 rfl (lv_at hl 3 rfl) ?_
              obtain ⟨r_53, v10_tried_54, v10_left_55, v10_high_56, hk_57, hf⟩ := pe_4 hf
              refine xv_i (As := [.int x1, .int x2, .int x3]) (rest := []) (q0 := 0) (ci := 10) Cx hP hD hS hl (pl_X10_X10 a cyI cyJ v10_firstOf v10_sizeOf v10_longOf v10_row v10_character v10_sum v10_coefficient v10_undone v10_wasSum v10_wasCoefficient v10_hasImage v10_letter v10_letters v10_list v10_cell v10_refusals v10_tried_47 v10_left_48 v10_high_49 v10_then v10_at v10_readSize v10_firstOf v10_sizeOf v10_longOf v10_row v10_character v10_sum v10_coefficient v10_undone v10_wasSum v10_wasCoefficient v10_hasImage v10_letter v10_letters v10_list v10_cell v10_refusals v10_tried_54 v10_left_55 v10_high_56 v10_then v10_at v10_readSize) (c_X10_rimOf l D cyI cyJ G a H.size v10_firstOf v10_sizeOf v10_longOf v10_row v10_character v10_sum v10_coefficient v10_undone v10_wasSum v10_wasCoefficient v10_hasImage v10_letter v10_letters v10_list v10_cell v10_refusals v10_tried_47 v10_left_48 v10_high_49 v10_then v10_at v10_readSize x1 x2 x3 r_53 v10_tried_54 v10_left_55 v10_high_56 hk_57) pk_X10_rimOf mw_4_176 ⟨rfl, rfl, Nat.le_of_ble_eq_true rfl, Nat.le_of_ble_eq_true rfl⟩ rfl rfl rfl rfl rfl (Nat.le_of_ble_eq_true rfl) ⟨Nat.le_of_ble_eq_true rfl, Nat.le_of_ble_eq_true rfl⟩ dX10_rims_73 (fun H locs hP hD hS => ?_)
              refine lv_istore (lv' := [(4, .int r_53), (0, .ref (a 28)), (1, .int x1), (2, .int x2), (3, .int x3)]) hx hb dX10_rims_76 hl (by decide) rfl (fun ls hl => ?_)
              refine lv_aload_n hx hb dX10_rims_78 rfl (lv_at hl 1 rfl) ?_
              refine va_get (ci := 10) (v := .int v10_left_55) hx hb hts wX10_in hown hK hP 0 rfl rfl 17 (by decide) (hts _ mw_4_209) (fun _ h9 => h9) rfl dX10_rims_79 ?_
              obtain ⟨rfl, rfl, rfl, rfl, rfl⟩ := po_5 hf
              rw [← hQ]; exact xe_iret Cx rfl hP hD hS dX10_rims_82
            · have hf := pe_t hf hc_52
              refine lv_bipush (v := (-9 : Int32)) hx hb dX10_rims_66 (by decide) ?_
              obtain ⟨rfl, rfl, rfl, rfl, rfl⟩ := po_5 hf
              rw [← hQ]; exact xe_iret Cx rfl hP hD hS dX10_rims_68
          · have hf := pe_t hf hc_45
            refine lv_aload_n hx hb dX10_rims_48 rfl (lv_at hl 0 rfl) ?_
            refine lv_iload_n hx hb dX10_rims_49 rfl (lv_at hl 1 rfl) ?_
            refine lv_iload_n hx hb dX10_rims_50 rfl (lv_at hl 2 rfl) ?_
            refine lv_iconst (v := (-1 : Int32)) hx hb dX10_rims_51 (by decide) ?_
            obtain ⟨r_58, v10_tried_59, v10_left_60, v10_high_61, hk_62, hf⟩ := pe_4 hf
            refine xv_i (As := [.int x1, .int x2, .int (-1 : Int32)]) (rest := []) (q0 := 0) (ci := 10) Cx hP hD hS hl (pl_X10_X10 a cyI cyJ v10_firstOf v10_sizeOf v10_longOf v10_row v10_character v10_sum v10_coefficient v10_undone v10_wasSum v10_wasCoefficient v10_hasImage v10_letter v10_letters v10_list v10_cell v10_refusals v10_tried v10_left v10_high v10_then v10_at v10_readSize v10_firstOf v10_sizeOf v10_longOf v10_row v10_character v10_sum v10_coefficient v10_undone v10_wasSum v10_wasCoefficient v10_hasImage v10_letter v10_letters v10_list v10_cell v10_refusals v10_tried_59 v10_left_60 v10_high_61 v10_then v10_at v10_readSize) (c_X10_rimOf l D cyI cyJ G a H.size v10_firstOf v10_sizeOf v10_longOf v10_row v10_character v10_sum v10_coefficient v10_undone v10_wasSum v10_wasCoefficient v10_hasImage v10_letter v10_letters v10_list v10_cell v10_refusals v10_tried v10_left v10_high v10_then v10_at v10_readSize x1 x2 (-1 : Int32) r_58 v10_tried_59 v10_left_60 v10_high_61 hk_62) pk_X10_rimOf mw_4_176 ⟨rfl, rfl, Nat.le_of_ble_eq_true rfl, Nat.le_of_ble_eq_true rfl⟩ rfl rfl rfl rfl rfl (Nat.le_of_ble_eq_true rfl) ⟨Nat.le_of_ble_eq_true rfl, Nat.le_of_ble_eq_true rfl⟩ dX10_rims_52 (fun H locs hP hD hS => ?_)
            obtain ⟨rfl, rfl, rfl, rfl, rfl⟩ := po_5 hf
            rw [← hQ]; exact xe_iret Cx rfl hP hD hS dX10_rims_55
        · have hf := pe_f hf hc_44
          refine lv_aload_n hx hb dX10_rims_36 rfl (lv_at hl 0 rfl) ?_
          refine lv_bipush (v := (-6 : Int32)) hx hb dX10_rims_37 (by decide) ?_
          obtain ⟨r_63, v10_refusals_64, hk_65, hf⟩ := pe_2 hf
          refine xv_i (As := [.int (-6 : Int32)]) (rest := []) (q0 := 0) (ci := 10) Cx hP hD hS hl (pl_X10_X10 a cyI cyJ v10_firstOf v10_sizeOf v10_longOf v10_row v10_character v10_sum v10_coefficient v10_undone v10_wasSum v10_wasCoefficient v10_hasImage v10_letter v10_letters v10_list v10_cell v10_refusals v10_tried v10_left v10_high v10_then v10_at v10_readSize v10_firstOf v10_sizeOf v10_longOf v10_row v10_character v10_sum v10_coefficient v10_undone v10_wasSum v10_wasCoefficient v10_hasImage v10_letter v10_letters v10_list v10_cell v10_refusals_64 v10_tried v10_left v10_high v10_then v10_at v10_readSize) (c_X10_refused l D cyI cyJ G a H.size v10_firstOf v10_sizeOf v10_longOf v10_row v10_character v10_sum v10_coefficient v10_undone v10_wasSum v10_wasCoefficient v10_hasImage v10_letter v10_letters v10_list v10_cell v10_refusals v10_tried v10_left v10_high v10_then v10_at v10_readSize (-6 : Int32) r_63 v10_refusals_64 hk_65) pk_X10_refused mw_5_29 ⟨rfl, rfl, Nat.le_of_ble_eq_true rfl, Nat.le_of_ble_eq_true rfl⟩ rfl rfl rfl rfl rfl (Nat.le_of_ble_eq_true rfl) ⟨Nat.le_of_ble_eq_true rfl, Nat.le_of_ble_eq_true rfl⟩ dX10_rims_39 (fun H locs hP hD hS => ?_)
          obtain ⟨rfl, rfl, rfl, rfl, rfl⟩ := po_5 hf
          rw [← hQ]; exact xe_iret Cx rfl hP hD hS dX10_rims_42
      · have hf := pe_f hf hc_43
        exact w_23 v10_refusals v10_tried v10_left v10_high H locs ls hf hP hD hS (lv_sub hl [0] rfl)
  · have hf := pe_t hf hc_41
    refine lv_aload_n hx hb dX10_rims_7 rfl (lv_at hl 0 rfl) ?_
    refine lv_iconst (v := (-1 : Int32)) hx hb dX10_rims_8 (by decide) ?_
    obtain ⟨r_66, v10_refusals_67, hk_68, hf⟩ := pe_2 hf
    refine xv_i (As := [.int (-1 : Int32)]) (rest := []) (q0 := 0) (ci := 10) Cx hP hD hS hl (pl_X10_X10 a cyI cyJ v10_firstOf v10_sizeOf v10_longOf v10_row v10_character v10_sum v10_coefficient v10_undone v10_wasSum v10_wasCoefficient v10_hasImage v10_letter v10_letters v10_list v10_cell v10_refusals v10_tried v10_left v10_high v10_then v10_at v10_readSize v10_firstOf v10_sizeOf v10_longOf v10_row v10_character v10_sum v10_coefficient v10_undone v10_wasSum v10_wasCoefficient v10_hasImage v10_letter v10_letters v10_list v10_cell v10_refusals_67 v10_tried v10_left v10_high v10_then v10_at v10_readSize) (c_X10_refused l D cyI cyJ G a H.size v10_firstOf v10_sizeOf v10_longOf v10_row v10_character v10_sum v10_coefficient v10_undone v10_wasSum v10_wasCoefficient v10_hasImage v10_letter v10_letters v10_list v10_cell v10_refusals v10_tried v10_left v10_high v10_then v10_at v10_readSize (-1 : Int32) r_66 v10_refusals_67 hk_68) pk_X10_refused mw_5_29 ⟨rfl, rfl, Nat.le_of_ble_eq_true rfl, Nat.le_of_ble_eq_true rfl⟩ rfl rfl rfl rfl rfl (Nat.le_of_ble_eq_true rfl) ⟨Nat.le_of_ble_eq_true rfl, Nat.le_of_ble_eq_true rfl⟩ dX10_rims_9 (fun H locs hP hD hS => ?_)
    obtain ⟨rfl, rfl, rfl, rfl, rfl⟩ := po_5 hf
    rw [← hQ]; exact xe_iret Cx rfl hP hD hS dX10_rims_12
def f_X10_height_22 (v10_longOf : Nat → Int32) (v10_row : Nat → Int32) (v10_refusals : Nat → Int32) (v10_tried : Nat → Int32) (v10_left : Int32) (v10_high : Int32) : Option (Int32 × (Nat → Int32) × (Nat → Int32) × Int32 × Int32) := p_b2 (f_X10_refused v10_refusals (-4 : Int32)) (fun r_1 v10_refusals_2 => some (r_1, v10_refusals_2, v10_tried, v10_left, v10_high))
def f_X10_height (v10_longOf : Nat → Int32) (v10_row : Nat → Int32) (v10_refusals : Nat → Int32) (v10_tried : Nat → Int32) (v10_left : Int32) (v10_high : Int32) (x1 : Int32) (x2 : Int32) (x3 : Int32) : Option (Int32 × (Nat → Int32) × (Nat → Int32) × Int32 × Int32) := p_b1 (f_X10_isShape x1) (fun r_4 => if r_4 = 0 then (p_b2 (f_X10_refused v10_refusals (-1 : Int32)) (fun r_26 v10_refusals_27 => some (r_26, v10_refusals_27, v10_tried, v10_left, v10_high))) else (if x2 < (1 : Int32) then ((f_X10_height_22 v10_longOf v10_row) v10_refusals v10_tried v10_left v10_high) else (if 0 ≤ x3 then (if x2 ≤ (8 : Int32) then (p_b4 (f_X10_isRim v10_longOf v10_row v10_tried v10_left v10_high x1 x2 x3) (fun r_11 v10_tried_12 v10_left_13 v10_high_14 => if r_11 = 0 then (some ((-9 : Int32), v10_refusals, v10_tried_12, v10_left_13, v10_high_14)) else (p_b4 (f_X10_rimOf v10_longOf v10_row v10_tried_12 v10_left_13 v10_high_14 x1 x2 x3) (fun r_18 v10_tried_19 v10_left_20 v10_high_21 => some (v10_high_21, v10_refusals, v10_tried_19, v10_left_20, v10_high_21))))) else (p_b2 (f_X10_refused v10_refusals (-6 : Int32)) (fun r_23 v10_refusals_24 => some (r_23, v10_refusals_24, v10_tried, v10_left, v10_high)))) else ((f_X10_height_22 v10_longOf v10_row) v10_refusals v10_tried v10_left v10_high))))
set_option maxHeartbeats 4000000 in
set_option maxRecDepth 20000 in
theorem c_X10_height (l : Launch) (D : va_G) (cyI cyJ : ClassId) (G a : Nat → Nat) (sz : Nat) (v10_firstOf : Nat → Int32) (v10_sizeOf : Nat → Int32) (v10_longOf : Nat → Int32) (v10_row : Nat → Int32) (v10_character : Nat → Int32) (v10_sum : Nat → Int32) (v10_coefficient : Nat → Int32) (v10_undone : Int32) (v10_wasSum : Nat → Int32) (v10_wasCoefficient : Nat → Int32) (v10_hasImage : Int32) (v10_letter : Nat → Int32) (v10_letters : Int32) (v10_list : Nat → Int32) (v10_cell : Nat → Int32) (v10_refusals : Nat → Int32) (v10_tried : Nat → Int32) (v10_left : Int32) (v10_high : Int32) (v10_then : Nat → Int64) (v10_at : Int32) (v10_readSize : Int32) (x1 : Int32) (x2 : Int32) (x3 : Int32) (ro : Int32) (ov10_refusals : Nat → Int32) (ov10_tried : Nat → Int32) (ov10_left : Int32) (ov10_high : Int32) (hf : f_X10_height v10_longOf v10_row v10_refusals v10_tried v10_left v10_high x1 x2 x3 = some (ro, ov10_refusals, ov10_tried, ov10_left, ov10_high)) : xm_i l yX10_height (Cond.code yX10_height cX10_height 5 (some .int) :: xg_tbl) { frames := 5, cells := 0, slots := 0, locals := 120 } D xcl [(cyI, .int), (cyJ, .long)] G sz [.ref (a 28), .int x1, .int x2, .int x3] (wd_X10 a cyI cyJ v10_firstOf v10_sizeOf v10_longOf v10_row v10_character v10_sum v10_coefficient v10_undone v10_wasSum v10_wasCoefficient v10_hasImage v10_letter v10_letters v10_list v10_cell v10_refusals v10_tried v10_left v10_high v10_then v10_at v10_readSize) (wd_X10 a cyI cyJ v10_firstOf v10_sizeOf v10_longOf v10_row v10_character v10_sum v10_coefficient v10_undone v10_wasSum v10_wasCoefficient v10_hasImage v10_letter v10_letters v10_list v10_cell ov10_refusals ov10_tried ov10_left ov10_high v10_then v10_at v10_readSize) ro := by
  refine xm_of_i (own := RX10) (by decide) rfl rfl (Nat.le_of_ble_eq_true rfl) ?_
  intro p e s m args below meth c ls Q A hQ hAe hin Cx hsz hP hD hS hl
  have Cx1 := Cx
  obtain ⟨⟨hx, hb, hml, hown, hts⟩, hr, hlocks, hK, hA, hT⟩ := Cx1
  have hl : lv_has ls 5 [(0, .ref (a 28)), (1, .int x1), (2, .int x2), (3, .int x3)] := hl
  obtain ⟨H, eH⟩ : ∃ H, H = s.heap := ⟨_, rfl⟩
  obtain ⟨locs, eL⟩ : ∃ L : List Loc, L = [] := ⟨_, rfl⟩
  rw [← eH] at hP
  have hS : va_S A s.heap H locs := by rw [eH, eL]; exact hS
  suffices hgo : W p l e { frames := 5, cells := 0, slots := 0, locals := 120 } s m args below meth c H locs 0 0 Q (F0 m 0 ls []) by rw [eH, eL] at hgo; exact hgo
  clear eH eL
  unfold f_X10_height at hf
  have w_22 : ∀ (v10_refusals : Nat → Int32) (v10_tried : Nat → Int32) (v10_left : Int32) (v10_high : Int32) (H : Heap) (locs : List Loc) (ls : Array Slot), (f_X10_height_22 v10_longOf v10_row) v10_refusals v10_tried v10_left v10_high = some (ro, ov10_refusals, ov10_tried, ov10_left, ov10_high) → va_P D xcl (wd_X10 a cyI cyJ v10_firstOf v10_sizeOf v10_longOf v10_row v10_character v10_sum v10_coefficient v10_undone v10_wasSum v10_wasCoefficient v10_hasImage v10_letter v10_letters v10_list v10_cell v10_refusals v10_tried v10_left v10_high v10_then v10_at v10_readSize) H → va_D A (wd_X10 a cyI cyJ v10_firstOf v10_sizeOf v10_longOf v10_row v10_character v10_sum v10_coefficient v10_undone v10_wasSum v10_wasCoefficient v10_hasImage v10_letter v10_letters v10_list v10_cell v10_refusals v10_tried v10_left v10_high v10_then v10_at v10_readSize) → va_S A s.heap H locs → lv_has ls 5 [(0, .ref (a 28))] → W p l e { frames := 5, cells := 0, slots := 0, locals := 120 } s m args below meth c H locs 0 0 Q (F0 m 22 ls []) := by
    intro v10_refusals v10_tried v10_left v10_high H locs ls hf hP hD hS hl
    unfold f_X10_height_22 at hf
    refine lv_aload_n hx hb dX10_height_22 rfl (lv_at hl 0 rfl) ?_
    refine lv_bipush (v := (-4 : Int32)) hx hb dX10_height_23 (by decide) ?_
    obtain ⟨r_29, v10_refusals_30, hk_31, hf⟩ := pe_2 hf
    refine xv_i (As := [.int (-4 : Int32)]) (rest := []) (q0 := 0) (ci := 10) Cx hP hD hS hl (pl_X10_X10 a cyI cyJ v10_firstOf v10_sizeOf v10_longOf v10_row v10_character v10_sum v10_coefficient v10_undone v10_wasSum v10_wasCoefficient v10_hasImage v10_letter v10_letters v10_list v10_cell v10_refusals v10_tried v10_left v10_high v10_then v10_at v10_readSize v10_firstOf v10_sizeOf v10_longOf v10_row v10_character v10_sum v10_coefficient v10_undone v10_wasSum v10_wasCoefficient v10_hasImage v10_letter v10_letters v10_list v10_cell v10_refusals_30 v10_tried v10_left v10_high v10_then v10_at v10_readSize) (c_X10_refused l D cyI cyJ G a H.size v10_firstOf v10_sizeOf v10_longOf v10_row v10_character v10_sum v10_coefficient v10_undone v10_wasSum v10_wasCoefficient v10_hasImage v10_letter v10_letters v10_list v10_cell v10_refusals v10_tried v10_left v10_high v10_then v10_at v10_readSize (-4 : Int32) r_29 v10_refusals_30 hk_31) pk_X10_refused mw_5_29 ⟨rfl, rfl, Nat.le_of_ble_eq_true rfl, Nat.le_of_ble_eq_true rfl⟩ rfl rfl rfl rfl rfl (Nat.le_of_ble_eq_true rfl) ⟨Nat.le_of_ble_eq_true rfl, Nat.le_of_ble_eq_true rfl⟩ dX10_height_25 (fun H locs hP hD hS => ?_)
    obtain ⟨rfl, rfl, rfl, rfl, rfl⟩ := po_5 hf
    rw [← hQ]; exact xe_iret Cx rfl hP hD hS dX10_height_28
  refine lv_iload_n hx hb dX10_height_0 rfl (lv_at hl 1 rfl) ?_
  obtain ⟨r_32, hk_33, hf⟩ := pe_1 hf
  refine xw_z (As := [.int x1]) (rest := []) Cx hP hD hS hl (xq_none _) (c_X10_isShape l D cyI cyJ G H.size x1 r_32 hk_33) pk_X10_isShape mw_5_23 ⟨rfl, rfl, Nat.le_of_ble_eq_true rfl, Nat.le_of_ble_eq_true rfl⟩ rfl rfl (Nat.le_of_ble_eq_true rfl) ⟨Nat.le_of_ble_eq_true rfl, Nat.le_of_ble_eq_true rfl⟩ dX10_height_1 (fun H locs hn_34 hP hD hS => ?_)
  refine lv_if_ne (tgt := 13) hx hb dX10_height_4 (by decide) (fun hc_35 => ?_) (fun hc_35 => ?_)
  · have hf := pe_f hf hc_35
    refine lv_iload_n hx hb dX10_height_13 rfl (lv_at hl 2 rfl) ?_
    refine lv_iconst (v := (1 : Int32)) hx hb dX10_height_14 (by decide) ?_
    refine lv_icmp_lt (tgt := 22) hx hb dX10_height_15 (by decide) (fun hc_36 => ?_) (fun hc_36 => ?_)
    · have hf := pe_t hf hc_36
      exact w_22 v10_refusals v10_tried v10_left v10_high H locs ls hf hP hD hS (lv_sub hl [0] rfl)
    · have hf := pe_f hf hc_36
      refine lv_iload_n hx hb dX10_height_18 rfl (lv_at hl 3 rfl) ?_
      refine lv_if_ge (tgt := 29) hx hb dX10_height_19 (by decide) (fun hc_37 => ?_) (fun hc_37 => ?_)
      · have hf := pe_t hf hc_37
        refine lv_iload_n hx hb dX10_height_29 rfl (lv_at hl 2 rfl) ?_
        refine lv_bipush (v := (8 : Int32)) hx hb dX10_height_30 (by decide) ?_
        refine lv_icmp_le (tgt := 42) hx hb dX10_height_32 (by decide) (fun hc_38 => ?_) (fun hc_38 => ?_)
        · have hf := pe_t hf hc_38
          refine lv_aload_n hx hb dX10_height_42 rfl (lv_at hl 0 rfl) ?_
          refine lv_iload_n hx hb dX10_height_43 rfl (lv_at hl 1 rfl) ?_
          refine lv_iload_n hx hb dX10_height_44 rfl (lv_at hl 2 rfl) ?_
          refine lv_iload_n hx hb dX10_height_45 rfl (lv_at hl 3 rfl) ?_
          obtain ⟨r_39, v10_tried_40, v10_left_41, v10_high_42, hk_43, hf⟩ := pe_4 hf
          refine xv_z (As := [.int x1, .int x2, .int x3]) (rest := []) (q0 := 0) (ci := 10) Cx hP hD hS hl (pl_X10_X10 a cyI cyJ v10_firstOf v10_sizeOf v10_longOf v10_row v10_character v10_sum v10_coefficient v10_undone v10_wasSum v10_wasCoefficient v10_hasImage v10_letter v10_letters v10_list v10_cell v10_refusals v10_tried v10_left v10_high v10_then v10_at v10_readSize v10_firstOf v10_sizeOf v10_longOf v10_row v10_character v10_sum v10_coefficient v10_undone v10_wasSum v10_wasCoefficient v10_hasImage v10_letter v10_letters v10_list v10_cell v10_refusals v10_tried_40 v10_left_41 v10_high_42 v10_then v10_at v10_readSize) (c_X10_isRim l D cyI cyJ G a H.size v10_firstOf v10_sizeOf v10_longOf v10_row v10_character v10_sum v10_coefficient v10_undone v10_wasSum v10_wasCoefficient v10_hasImage v10_letter v10_letters v10_list v10_cell v10_refusals v10_tried v10_left v10_high v10_then v10_at v10_readSize x1 x2 x3 r_39 v10_tried_40 v10_left_41 v10_high_42 hk_43) pk_X10_isRim mw_5_75 ⟨rfl, rfl, Nat.le_of_ble_eq_true rfl, Nat.le_of_ble_eq_true rfl⟩ rfl rfl rfl rfl rfl (Nat.le_of_ble_eq_true rfl) ⟨Nat.le_of_ble_eq_true rfl, Nat.le_of_ble_eq_true rfl⟩ dX10_height_46 (fun H locs hn_44 hP hD hS => ?_)
          refine lv_if_ne (tgt := 55) hx hb dX10_height_49 (by decide) (fun hc_45 => ?_) (fun hc_45 => ?_)
          · have hf := pe_f hf hc_45
            refine lv_aload_n hx hb dX10_height_55 rfl (lv_at hl 0 rfl) ?_
            refine lv_iload_n hx hb dX10_height_56 rfl (lv_at hl 1 rfl) ?_
            refine lv_iload_n hx hb dX10_height_57 rfl (lv_at hl 2 rfl) ?_
            refine lv_iload_n hx hb dX10_height_58 rfl (lv_at hl 3 rfl) ?_
            obtain ⟨r_46, v10_tried_47, v10_left_48, v10_high_49, hk_50, hf⟩ := pe_4 hf
            refine xv_i (As := [.int x1, .int x2, .int x3]) (rest := []) (q0 := 0) (ci := 10) Cx hP hD hS hl (pl_X10_X10 a cyI cyJ v10_firstOf v10_sizeOf v10_longOf v10_row v10_character v10_sum v10_coefficient v10_undone v10_wasSum v10_wasCoefficient v10_hasImage v10_letter v10_letters v10_list v10_cell v10_refusals v10_tried_40 v10_left_41 v10_high_42 v10_then v10_at v10_readSize v10_firstOf v10_sizeOf v10_longOf v10_row v10_character v10_sum v10_coefficient v10_undone v10_wasSum v10_wasCoefficient v10_hasImage v10_letter v10_letters v10_list v10_cell v10_refusals v10_tried_47 v10_left_48 v10_high_49 v10_then v10_at v10_readSize) (c_X10_rimOf l D cyI cyJ G a H.size v10_firstOf v10_sizeOf v10_longOf v10_row v10_character v10_sum v10_coefficient v10_undone v10_wasSum v10_wasCoefficient v10_hasImage v10_letter v10_letters v10_list v10_cell v10_refusals v10_tried_40 v10_left_41 v10_high_42 v10_then v10_at v10_readSize x1 x2 x3 r_46 v10_tried_47 v10_left_48 v10_high_49 hk_50) pk_X10_rimOf mw_4_176 ⟨rfl, rfl, Nat.le_of_ble_eq_true rfl, Nat.le_of_ble_eq_true rfl⟩ rfl rfl rfl rfl rfl (Nat.le_of_ble_eq_true rfl) ⟨Nat.le_of_ble_eq_true rfl, Nat.le_of_ble_eq_true rfl⟩ dX10_height_59 (fun H locs hP hD hS => ?_)
            refine lv_istore (lv' := [(4, .int r_46), (0, .ref (a 28)), (1, .int x1), (2, .int x2), (3, .int x3)]) hx hb dX10_height_62 hl (by decide) rfl (fun ls hl => ?_)
            refine lv_aload_n hx hb dX10_height_64 rfl (lv_at hl 1 rfl) ?_
            refine va_get (ci := 10) (v := .int v10_high_49) hx hb hts wX10_in hown hK hP 0 rfl rfl 18 (by decide) (hts _ mw_4_210) (fun _ h9 => h9) rfl dX10_height_65 ?_
            obtain ⟨rfl, rfl, rfl, rfl, rfl⟩ := po_5 hf
            rw [← hQ]; exact xe_iret Cx rfl hP hD hS dX10_height_68
          · have hf := pe_t hf hc_45
            refine lv_bipush (v := (-9 : Int32)) hx hb dX10_height_52 (by decide) ?_
            obtain ⟨rfl, rfl, rfl, rfl, rfl⟩ := po_5 hf
            rw [← hQ]; exact xe_iret Cx rfl hP hD hS dX10_height_54
        · have hf := pe_f hf hc_38
          refine lv_aload_n hx hb dX10_height_35 rfl (lv_at hl 0 rfl) ?_
          refine lv_bipush (v := (-6 : Int32)) hx hb dX10_height_36 (by decide) ?_
          obtain ⟨r_51, v10_refusals_52, hk_53, hf⟩ := pe_2 hf
          refine xv_i (As := [.int (-6 : Int32)]) (rest := []) (q0 := 0) (ci := 10) Cx hP hD hS hl (pl_X10_X10 a cyI cyJ v10_firstOf v10_sizeOf v10_longOf v10_row v10_character v10_sum v10_coefficient v10_undone v10_wasSum v10_wasCoefficient v10_hasImage v10_letter v10_letters v10_list v10_cell v10_refusals v10_tried v10_left v10_high v10_then v10_at v10_readSize v10_firstOf v10_sizeOf v10_longOf v10_row v10_character v10_sum v10_coefficient v10_undone v10_wasSum v10_wasCoefficient v10_hasImage v10_letter v10_letters v10_list v10_cell v10_refusals_52 v10_tried v10_left v10_high v10_then v10_at v10_readSize) (c_X10_refused l D cyI cyJ G a H.size v10_firstOf v10_sizeOf v10_longOf v10_row v10_character v10_sum v10_coefficient v10_undone v10_wasSum v10_wasCoefficient v10_hasImage v10_letter v10_letters v10_list v10_cell v10_refusals v10_tried v10_left v10_high v10_then v10_at v10_readSize (-6 : Int32) r_51 v10_refusals_52 hk_53) pk_X10_refused mw_5_29 ⟨rfl, rfl, Nat.le_of_ble_eq_true rfl, Nat.le_of_ble_eq_true rfl⟩ rfl rfl rfl rfl rfl (Nat.le_of_ble_eq_true rfl) ⟨Nat.le_of_ble_eq_true rfl, Nat.le_of_ble_eq_true rfl⟩ dX10_height_38 (fun H locs hP hD hS => ?_)
          obtain ⟨rfl, rfl, rfl, rfl, rfl⟩ := po_5 hf
          rw [← hQ]; exact xe_iret Cx rfl hP hD hS dX10_height_41
      · have hf := pe_f hf hc_37
        exact w_22 v10_refusals v10_tried v10_left v10_high H locs ls hf hP hD hS (lv_sub hl [0] rfl)
  · have hf := pe_t hf hc_35
    refine lv_aload_n hx hb dX10_height_7 rfl (lv_at hl 0 rfl) ?_
    refine lv_iconst (v := (-1 : Int32)) hx hb dX10_height_8 (by decide) ?_
    obtain ⟨r_54, v10_refusals_55, hk_56, hf⟩ := pe_2 hf
    refine xv_i (As := [.int (-1 : Int32)]) (rest := []) (q0 := 0) (ci := 10) Cx hP hD hS hl (pl_X10_X10 a cyI cyJ v10_firstOf v10_sizeOf v10_longOf v10_row v10_character v10_sum v10_coefficient v10_undone v10_wasSum v10_wasCoefficient v10_hasImage v10_letter v10_letters v10_list v10_cell v10_refusals v10_tried v10_left v10_high v10_then v10_at v10_readSize v10_firstOf v10_sizeOf v10_longOf v10_row v10_character v10_sum v10_coefficient v10_undone v10_wasSum v10_wasCoefficient v10_hasImage v10_letter v10_letters v10_list v10_cell v10_refusals_55 v10_tried v10_left v10_high v10_then v10_at v10_readSize) (c_X10_refused l D cyI cyJ G a H.size v10_firstOf v10_sizeOf v10_longOf v10_row v10_character v10_sum v10_coefficient v10_undone v10_wasSum v10_wasCoefficient v10_hasImage v10_letter v10_letters v10_list v10_cell v10_refusals v10_tried v10_left v10_high v10_then v10_at v10_readSize (-1 : Int32) r_54 v10_refusals_55 hk_56) pk_X10_refused mw_5_29 ⟨rfl, rfl, Nat.le_of_ble_eq_true rfl, Nat.le_of_ble_eq_true rfl⟩ rfl rfl rfl rfl rfl (Nat.le_of_ble_eq_true rfl) ⟨Nat.le_of_ble_eq_true rfl, Nat.le_of_ble_eq_true rfl⟩ dX10_height_9 (fun H locs hP hD hS => ?_)
    obtain ⟨rfl, rfl, rfl, rfl, rfl⟩ := po_5 hf
    rw [← hQ]; exact xe_iret Cx rfl hP hD hS dX10_height_12
