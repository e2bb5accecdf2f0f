def f_X10_rowOf (v10_row : Nat → Int32) (x1 : Int32) (x2 : Int32) : Option (Int32) := p_in (((8 : Int32) * x1) + x2) 536 (some ((v10_row (Int32.toNatClampNeg (((8 : Int32) * x1) + x2)))))
set_option maxHeartbeats 4000000 in
set_option maxRecDepth 20000 in
theorem c_X10_rowOf (l : Launch) (D : va_G) (cyI cyJ : ClassId) (G a : Nat → Nat) (sz : Nat) (v10_firstOf : Nat → Int32) (v10_sizeOf : Nat → Int32) (v10_longOf : Nat → Int32) (v10_row : Nat → Int32) (v10_character : Nat → Int32) (v10_sum : Nat → Int32) (v10_coefficient : Nat → Int32) (v10_undone : Int32) (v10_wasSum : Nat → Int32) (v10_wasCoefficient : Nat → Int32) (v10_hasImage : Int32) (v10_letter : Nat → Int32) (v10_letters : Int32) (v10_list : Nat → Int32) (v10_cell : Nat → Int32) (v10_refusals : Nat → Int32) (v10_tried : Nat → Int32) (v10_left : Int32) (v10_high : Int32) (v10_then : Nat → Int64) (v10_at : Int32) (v10_readSize : Int32) (x1 : Int32) (x2 : Int32) (ro : Int32) (hf : f_X10_rowOf v10_row x1 x2 = some ro) : xm_i l yX10_rowOf (Cond.code yX10_rowOf cX10_rowOf 3 (some .int) :: xg_tbl) { frames := 0, cells := 0, slots := 0, locals := 0 } D xcl [(cyI, .int), (cyJ, .long)] G sz [.ref (a 28), .int x1, .int x2] (wd_X10 a cyI cyJ v10_firstOf v10_sizeOf v10_longOf v10_row v10_character v10_sum v10_coefficient v10_undone v10_wasSum v10_wasCoefficient v10_hasImage v10_letter v10_letters v10_list v10_cell v10_refusals v10_tried v10_left v10_high v10_then v10_at v10_readSize) (wd_X10 a cyI cyJ v10_firstOf v10_sizeOf v10_longOf v10_row v10_character v10_sum v10_coefficient v10_undone v10_wasSum v10_wasCoefficient v10_hasImage v10_letter v10_letters v10_list v10_cell v10_refusals v10_tried v10_left v10_high v10_then v10_at v10_readSize) ro := by
  refine xm_of_i (own := RX10) (by decide) rfl rfl (Nat.le_of_ble_eq_true rfl) ?_
  intro p e s m args below meth c ls Q A hQ hAe hin Cx hsz hP hD hS hl
  have Cx1 := Cx
  obtain ⟨⟨hx, hb, hml, hown, hts⟩, hr, hlocks, hK, hA, hT⟩ := Cx1
  have hl : lv_has ls 3 [(0, .ref (a 28)), (1, .int x1), (2, .int x2)] := hl
  obtain ⟨H, eH⟩ : ∃ H, H = s.heap := ⟨_, rfl⟩
  obtain ⟨locs, eL⟩ : ∃ L : List Loc, L = [] := ⟨_, rfl⟩
  rw [← eH] at hP
  have hS : va_S A s.heap H locs := by rw [eH, eL]; exact hS
  suffices hgo : W p l e { frames := 0, cells := 0, slots := 0, locals := 0 } s m args below meth c H locs 0 0 Q (F0 m 0 ls []) by rw [eH, eL] at hgo; exact hgo
  clear eH eL
  unfold f_X10_rowOf at hf
  refine lv_aload_n hx hb dX10_rowOf_0 rfl (lv_at hl 0 rfl) ?_
  refine va_get (ci := 10) (v := .ref (a 32)) hx hb hts wX10_in hown hK hP 0 rfl rfl 3 (by decide) (hts _ mw_4_195) (fun _ h9 => h9) rfl dX10_rowOf_1 ?_
  refine lv_bipush (v := (8 : Int32)) hx hb dX10_rowOf_4 (by decide) ?_
  refine lv_iload_n hx hb dX10_rowOf_6 rfl (lv_at hl 1 rfl) ?_
  refine lv_imul hx hb dX10_rowOf_7 ?_
  refine lv_iload_n hx hb dX10_rowOf_8 rfl (lv_at hl 2 rfl) ?_
  refine lv_iadd hx hb dX10_rowOf_9 ?_
  obtain ⟨hi_2, hf⟩ := pe_in hf
  refine va_iald hx hb hK hP 4 0 rfl rfl hi_2 dX10_rowOf_10 ?_
  obtain rfl := po_1 hf
  rw [← hQ]; exact xe_iret Cx rfl hP hD hS dX10_rowOf_11
def gf_X10_follows_98 (K_98 : (Nat → Int32) → (Nat → Int32) → Int32 → Int32 → Int32 → Int32 → Option ((Nat → Int32) × (Nat → Int32))) (v10_longOf : Nat → Int32) (v10_row : Nat → Int32) (y1 : Int32) (y2 : Int32) (y3 : Int32) (y4 : Int32) : Option ((Nat → Int32) × (Nat → Int32)) := if y3 ≤ 0 then (p_in y1 67 (some ((upd v10_longOf (Int32.toNatClampNeg y1) y2), v10_row))) else (p_in (((8 : Int32) * y1) + y2) 536 (K_98 v10_longOf (upd v10_row (Int32.toNatClampNeg (((8 : Int32) * y1) + y2)) (if y3 < y4 then y3 else y4)) y1 (y2 + (1 : Int32)) (y3 - (if y3 < y4 then y3 else y4)) y4))
def f_X10_follows_98 : Nat → (Nat → Int32) → (Nat → Int32) → Int32 → Int32 → Int32 → Int32 → Option ((Nat → Int32) × (Nat → Int32))
  | 0 => fun _ _ _ _ _ _ => none
  | n + 1 => gf_X10_follows_98 (f_X10_follows_98 n)
def gf_X10_follows_37 (K_37 : (Nat → Int32) → (Nat → Int32) → Int32 → Int32 → Int32 → Int32 → Option ((Nat → Int32) × (Nat → Int32))) (v10_longOf : Nat → Int32) (v10_row : Nat → Int32) (y1 : Int32) (y2 : Int32) (y3 : Int32) (y4 : Int32) : Option ((Nat → Int32) × (Nat → Int32)) := if y2 ≤ y4 then (p_b1 (f_X10_rowOf v10_row (y1 - (1 : Int32)) y2) (fun r_5 => p_in (((8 : Int32) * y1) + y2) 536 ((f_X10_follows_98 1000) v10_longOf (upd v10_row (Int32.toNatClampNeg (((8 : Int32) * y1) + y2)) (r_5 - (1 : Int32))) y1 (y2 + (1 : Int32)) y3 (r_5 - (1 : Int32))))) else (p_b1 (f_X10_rowOf v10_row (y1 - (1 : Int32)) y4) (fun r_8 => p_in (((8 : Int32) * y1) + y4) 536 (K_37 v10_longOf (upd v10_row (Int32.toNatClampNeg (((8 : Int32) * y1) + y4)) r_8) y1 y2 y3 (y4 + (1 : Int32)))))
def f_X10_follows_37 : Nat → (Nat → Int32) → (Nat → Int32) → Int32 → Int32 → Int32 → Int32 → Option ((Nat → Int32) × (Nat → Int32))
  | 0 => fun _ _ _ _ _ _ => none
  | n + 1 => gf_X10_follows_37 (f_X10_follows_37 n)
def gf_X10_follows_13 (K_13 : (Nat → Int32) → (Nat → Int32) → Int32 → Int32 → Int32 → Option ((Nat → Int32) × (Nat → Int32))) (v10_longOf : Nat → Int32) (v10_row : Nat → Int32) (y1 : Int32) (y2 : Int32) (y3 : Int32) : Option ((Nat → Int32) × (Nat → Int32)) := p_b1 (f_X10_rowOf v10_row (y1 - (1 : Int32)) y2) (fun r_11 => if r_11 = (1 : Int32) then (K_13 v10_longOf v10_row y1 (y2 + (-1 : Int32)) (y3 + (1 : Int32))) else ((f_X10_follows_37 1000) v10_longOf v10_row y1 y2 y3 (0 : Int32)))
def f_X10_follows_13 : Nat → (Nat → Int32) → (Nat → Int32) → Int32 → Int32 → Int32 → Option ((Nat → Int32) × (Nat → Int32))
  | 0 => fun _ _ _ _ _ => none
  | n + 1 => gf_X10_follows_13 (f_X10_follows_13 n)
def f_X10_follows (v10_longOf : Nat → Int32) (v10_row : Nat → Int32) (x1 : Int32) : Option ((Nat → Int32) × (Nat → Int32)) := p_in (x1 - (1 : Int32)) 67 ((f_X10_follows_13 1000) v10_longOf v10_row x1 ((v10_longOf (Int32.toNatClampNeg (x1 - (1 : Int32)))) - (1 : Int32)) (1 : Int32))
set_option maxHeartbeats 4000000 in
set_option maxRecDepth 20000 in
theorem c_X10_follows (l : Launch) (D : va_G) (cyI cyJ : ClassId) (G a : Nat → Nat) (sz : Nat) (v10_firstOf : Nat → Int32) (v10_sizeOf : Nat → Int32) (v10_longOf : Nat → Int32) (v10_row : Nat → Int32) (v10_character : Nat → Int32) (v10_sum : Nat → Int32) (v10_coefficient : Nat → Int32) (v10_undone : Int32) (v10_wasSum : Nat → Int32) (v10_wasCoefficient : Nat → Int32) (v10_hasImage : Int32) (v10_letter : Nat → Int32) (v10_letters : Int32) (v10_list : Nat → Int32) (v10_cell : Nat → Int32) (v10_refusals : Nat → Int32) (v10_tried : Nat → Int32) (v10_left : Int32) (v10_high : Int32) (v10_then : Nat → Int64) (v10_at : Int32) (v10_readSize : Int32) (x1 : Int32) (ov10_longOf : Nat → Int32) (ov10_row : Nat → Int32) (hf : f_X10_follows v10_longOf v10_row x1 = some (ov10_longOf, ov10_row)) : xm_v l yX10_follows (Cond.code yX10_follows cX10_follows 5 none :: xg_tbl) { frames := 1, cells := 0, slots := 0, locals := 22 } D xcl [(cyI, .int), (cyJ, .long)] G sz [.ref (a 28), .int x1] (wd_X10 a cyI cyJ v10_firstOf v10_sizeOf v10_longOf v10_row v10_character v10_sum v10_coefficient v10_undone v10_wasSum v10_wasCoefficient v10_hasImage v10_letter v10_letters v10_list v10_cell v10_refusals v10_tried v10_left v10_high v10_then v10_at v10_readSize) (wd_X10 a cyI cyJ v10_firstOf v10_sizeOf ov10_longOf ov10_row v10_character v10_sum v10_coefficient v10_undone v10_wasSum v10_wasCoefficient v10_hasImage v10_letter v10_letters v10_list v10_cell v10_refusals v10_tried v10_left v10_high v10_then v10_at v10_readSize) := by
  refine xm_of_v (own := RX10) (by decide) rfl rfl (Nat.le_of_ble_eq_true rfl) ?_
  intro p e s m args below meth c ls Q A hQ hAe hin Cx hsz hP hD hS hl
  have Cx1 := Cx
  obtain ⟨⟨hx, hb, hml, hown, hts⟩, hr, hlocks, hK, hA, hT⟩ := Cx1
  have hl : lv_has ls 5 [(0, .ref (a 28)), (1, .int x1)] := hl
  obtain ⟨H, eH⟩ : ∃ H, H = s.heap := ⟨_, rfl⟩
  obtain ⟨locs, eL⟩ : ∃ L : List Loc, L = [] := ⟨_, rfl⟩
  rw [← eH] at hP
  have hS : va_S A s.heap H locs := by rw [eH, eL]; exact hS
  suffices hgo : W p l e { frames := 1, cells := 0, slots := 0, locals := 22 } s m args below meth c H locs 0 0 Q (F0 m 0 ls []) by rw [eH, eL] at hgo; exact hgo
  clear eH eL
  unfold f_X10_follows at hf
  have w_13 : ∀ (n_13 : Nat) (v10_longOf : Nat → Int32) (v10_row : Nat → Int32) (y1 : Int32) (y2 : Int32) (y3 : Int32) (H : Heap) (locs : List Loc) (ls : Array Slot), f_X10_follows_13 n_13 v10_longOf v10_row y1 y2 y3 = some (ov10_longOf, ov10_row) → va_P D xcl (wd_X10 a cyI cyJ v10_firstOf v10_sizeOf v10_longOf v10_row v10_character v10_sum v10_coefficient v10_undone v10_wasSum v10_wasCoefficient v10_hasImage v10_letter v10_letters v10_list v10_cell v10_refusals v10_tried v10_left v10_high v10_then v10_at v10_readSize) H → va_D A (wd_X10 a cyI cyJ v10_firstOf v10_sizeOf v10_longOf v10_row v10_character v10_sum v10_coefficient v10_undone v10_wasSum v10_wasCoefficient v10_hasImage v10_letter v10_letters v10_list v10_cell v10_refusals v10_tried v10_left v10_high v10_then v10_at v10_readSize) → va_S A s.heap H locs → lv_has ls 5 [(0, .ref (a 28)), (1, .int y1), (2, .int y2), (3, .int y3)] → W p l e { frames := 1, cells := 0, slots := 0, locals := 22 } s m args below meth c H locs 0 0 Q (F0 m 13 ls []) := by
    intro n_13
    induction n_13 with
    | zero => intro v10_longOf v10_row y1 y2 y3 H locs ls hf; exact absurd hf (by intro h9; cases h9)
    | succ n_13 w_13 =>
      intro v10_longOf v10_row y1 y2 y3 H locs ls hf hP hD hS hl
      have hf : gf_X10_follows_13 (f_X10_follows_13 n_13) v10_longOf v10_row y1 y2 y3 = some (ov10_longOf, ov10_row) := hf
      unfold gf_X10_follows_13 at hf
      have w_37 : ∀ (n_37 : Nat) (v10_longOf : Nat → Int32) (v10_row : Nat → Int32) (y1 : Int32) (y2 : Int32) (y3 : Int32) (y4 : Int32) (H : Heap) (locs : List Loc) (ls : Array Slot), f_X10_follows_37 n_37 v10_longOf v10_row y1 y2 y3 y4 = some (ov10_longOf, ov10_row) → va_P D xcl (wd_X10 a cyI cyJ v10_firstOf v10_sizeOf v10_longOf v10_row v10_character v10_sum v10_coefficient v10_undone v10_wasSum v10_wasCoefficient v10_hasImage v10_letter v10_letters v10_list v10_cell v10_refusals v10_tried v10_left v10_high v10_then v10_at v10_readSize) H → va_D A (wd_X10 a cyI cyJ v10_firstOf v10_sizeOf v10_longOf v10_row v10_character v10_sum v10_coefficient v10_undone v10_wasSum v10_wasCoefficient v10_hasImage v10_letter v10_letters v10_list v10_cell v10_refusals v10_tried v10_left v10_high v10_then v10_at v10_readSize) → va_S A s.heap H locs → lv_has ls 5 [(0, .ref (a 28)), (1, .int y1), (2, .int y2), (3, .int y3), (4, .int y4)] → W p l e { frames := 1, cells := 0, slots := 0, locals := 22 } s m args below meth c H locs 0 0 Q (F0 m 37 ls []) := by
        intro n_37
        induction n_37 with
        | zero => intro v10_longOf v10_row y1 y2 y3 y4 H locs ls hf; exact absurd hf (by intro h9; cases h9)
        | succ n_37 w_37 =>
          intro v10_longOf v10_row y1 y2 y3 y4 H locs ls hf hP hD hS hl
          have hf : gf_X10_follows_37 (f_X10_follows_37 n_37) v10_longOf v10_row y1 y2 y3 y4 = some (ov10_longOf, ov10_row) := hf
          unfold gf_X10_follows_37 at hf
          have w_98 : ∀ (n_98 : Nat) (v10_longOf : Nat → Int32) (v10_row : Nat → Int32) (y1 : Int32) (y2 : Int32) (y3 : Int32) (y4 : Int32) (H : Heap) (locs : List Loc) (ls : Array Slot), f_X10_follows_98 n_98 v10_longOf v10_row y1 y2 y3 y4 = some (ov10_longOf, ov10_row) → va_P D xcl (wd_X10 a cyI cyJ v10_firstOf v10_sizeOf v10_longOf v10_row v10_character v10_sum v10_coefficient v10_undone v10_wasSum v10_wasCoefficient v10_hasImage v10_letter v10_letters v10_list v10_cell v10_refusals v10_tried v10_left v10_high v10_then v10_at v10_readSize) H → va_D A (wd_X10 a cyI cyJ v10_firstOf v10_sizeOf v10_longOf v10_row v10_character v10_sum v10_coefficient v10_undone v10_wasSum v10_wasCoefficient v10_hasImage v10_letter v10_letters v10_list v10_cell v10_refusals v10_tried v10_left v10_high v10_then v10_at v10_readSize) → va_S A s.heap H locs → lv_has ls 5 [(0, .ref (a 28)), (1, .int y1), (2, .int y2), (3, .int y3), (4, .int y4)] → W p l e { frames := 1, cells := 0, slots := 0, locals := 22 } s m args below meth c H locs 0 0 Q (F0 m 98 ls []) := by
            intro n_98
            induction n_98 with
            | zero => intro v10_longOf v10_row y1 y2 y3 y4 H locs ls hf; exact absurd hf (by intro h9; cases h9)
            | succ n_98 w_98 =>
              intro v10_longOf v10_row y1 y2 y3 y4 H locs ls hf hP hD hS hl
              have hf : gf_X10_follows_98 (f_X10_follows_98 n_98) v10_longOf v10_row y1 y2 y3 y4 = some (ov10_longOf, ov10_row) := hf
              unfold gf_X10_follows_98 at hf
              refine lv_iload_n hx hb dX10_follows_98 rfl (lv_at hl 3 rfl) ?_
              refine lv_if_le (tgt := 134) hx hb dX10_follows_99 (by decide) (fun hc_15 => ?_) (fun hc_15 => ?_)
              · have hf := pe_t hf hc_15
                refine lv_aload_n hx hb dX10_follows_134 rfl (lv_at hl 0 rfl) ?_
                refine va_get (ci := 10) (v := .ref (a 31)) hx hb hts wX10_in hown hK hP 0 rfl rfl 2 (by decide) (hts _ mw_4_194) (fun _ h9 => h9) rfl dX10_follows_135 ?_
                refine lv_iload_n hx hb dX10_follows_138 rfl (lv_at hl 1 rfl) ?_
                refine lv_iload_n hx hb dX10_follows_139 rfl (lv_at hl 2 rfl) ?_
                obtain ⟨hi_16, hf⟩ := pe_in hf
                refine va_iast hx hb hK hP hD hS 3 0 rfl rfl hi_16 dX10_follows_140 (fun H locs hP hD hS => ?_)
                have hP : va_P D xcl (wd_X10 a cyI cyJ v10_firstOf v10_sizeOf (upd v10_longOf (Int32.toNatClampNeg y1) y2) v10_row v10_character v10_sum v10_coefficient v10_undone v10_wasSum v10_wasCoefficient v10_hasImage v10_letter v10_letters v10_list v10_cell v10_refusals v10_tried v10_left v10_high v10_then v10_at v10_readSize) H := hP
                have hD : va_D A (wd_X10 a cyI cyJ v10_firstOf v10_sizeOf (upd v10_longOf (Int32.toNatClampNeg y1) y2) v10_row v10_character v10_sum v10_coefficient v10_undone v10_wasSum v10_wasCoefficient v10_hasImage v10_letter v10_letters v10_list v10_cell v10_refusals v10_tried v10_left v10_high v10_then v10_at v10_readSize) := hD
                obtain ⟨rfl, rfl⟩ := po_2 hf
                rw [← hQ]; exact xe_vret Cx hP hD hS dX10_follows_141
              · have hf := pe_f hf hc_15
                refine lv_aload_n hx hb dX10_follows_102 rfl (lv_at hl 0 rfl) ?_
                refine va_get (ci := 10) (v := .ref (a 32)) hx hb hts wX10_in hown hK hP 0 rfl rfl 3 (by decide) (hts _ mw_4_195) (fun _ h9 => h9) rfl dX10_follows_103 ?_
                refine lv_bipush (v := (8 : Int32)) hx hb dX10_follows_106 (by decide) ?_
                refine lv_iload_n hx hb dX10_follows_108 rfl (lv_at hl 1 rfl) ?_
                refine lv_imul hx hb dX10_follows_109 ?_
                refine lv_iload_n hx hb dX10_follows_110 rfl (lv_at hl 2 rfl) ?_
                refine lv_iadd hx hb dX10_follows_111 ?_
                refine lv_iload hx hb dX10_follows_112 (lv_at hl 4 rfl) ?_
                refine lv_iload_n hx hb dX10_follows_114 rfl (lv_at hl 3 rfl) ?_
                refine va_mmin hx hb (hml.trans hl.1.symm) hown (hts _ mw_4_163) (hts _ mw_3_19) (hts _ mw_1_12) (hts _ mw_3_20) (Nat.le_of_ble_eq_true rfl) (Nat.le_of_ble_eq_true rfl) (Nat.zero_le _) (Nat.zero_le _) dX10_follows_115 ?_
                obtain ⟨hi_17, hf⟩ := pe_in hf
                refine va_iast hx hb hK hP hD hS 4 0 rfl rfl hi_17 dX10_follows_118 (fun H locs hP hD hS => ?_)
                have hP : va_P D xcl (wd_X10 a cyI cyJ v10_firstOf v10_sizeOf v10_longOf (upd v10_row (Int32.toNatClampNeg (((8 : Int32) * y1) + y2)) (if y3 < y4 then y3 else y4)) v10_character v10_sum v10_coefficient v10_undone v10_wasSum v10_wasCoefficient v10_hasImage v10_letter v10_letters v10_list v10_cell v10_refusals v10_tried v10_left v10_high v10_then v10_at v10_readSize) H := hP
                have hD : va_D A (wd_X10 a cyI cyJ v10_firstOf v10_sizeOf v10_longOf (upd v10_row (Int32.toNatClampNeg (((8 : Int32) * y1) + y2)) (if y3 < y4 then y3 else y4)) v10_character v10_sum v10_coefficient v10_undone v10_wasSum v10_wasCoefficient v10_hasImage v10_letter v10_letters v10_list v10_cell v10_refusals v10_tried v10_left v10_high v10_then v10_at v10_readSize) := hD
                refine lv_iload_n hx hb dX10_follows_119 rfl (lv_at hl 3 rfl) ?_
                refine lv_iload hx hb dX10_follows_120 (lv_at hl 4 rfl) ?_
                refine lv_iload_n hx hb dX10_follows_122 rfl (lv_at hl 3 rfl) ?_
                refine va_mmin hx hb (hml.trans hl.1.symm) hown (hts _ mw_4_163) (hts _ mw_3_19) (hts _ mw_1_12) (hts _ mw_3_20) (Nat.le_of_ble_eq_true rfl) (Nat.le_of_ble_eq_true rfl) (Nat.zero_le _) (Nat.zero_le _) dX10_follows_123 ?_
                refine lv_isub hx hb dX10_follows_126 ?_
                refine lv_istore_n (lv' := [(3, .int (y3 - (if y3 < y4 then y3 else y4))), (0, .ref (a 28)), (1, .int y1), (2, .int y2), (4, .int y4)]) hx hb dX10_follows_127 rfl hl (by decide) rfl (fun ls hl => ?_)
                refine lv_iinc (v := (y2 + (1 : Int32))) (lv' := [(2, .int (y2 + (1 : Int32))), (3, .int (y3 - (if y3 < y4 then y3 else y4))), (0, .ref (a 28)), (1, .int y1), (4, .int y4)]) hx hb dX10_follows_128 hl (k := 3) rfl rfl (by decide) rfl (fun ls hl => ?_)
                refine lv_goto (tgt := 98) hx hb dX10_follows_131 (by decide) ?_
                exact w_98 v10_longOf (upd v10_row (Int32.toNatClampNeg (((8 : Int32) * y1) + y2)) (if y3 < y4 then y3 else y4)) y1 (y2 + (1 : Int32)) (y3 - (if y3 < y4 then y3 else y4)) y4 H locs ls hf hP hD hS (lv_sub hl [2, 3, 0, 1, 4] rfl)
          refine lv_iload hx hb dX10_follows_37 (lv_at hl 4 rfl) ?_
          refine lv_iload_n hx hb dX10_follows_39 rfl (lv_at hl 2 rfl) ?_
          refine lv_icmp_ge (tgt := 70) hx hb dX10_follows_40 (by decide) (fun hc_18 => ?_) (fun hc_18 => ?_)
          · have hf := pe_t hf hc_18
            refine lv_aload_n hx hb dX10_follows_70 rfl (lv_at hl 0 rfl) ?_
            refine lv_iload_n hx hb dX10_follows_71 rfl (lv_at hl 1 rfl) ?_
            refine lv_iconst (v := (1 : Int32)) hx hb dX10_follows_72 (by decide) ?_
            refine lv_isub hx hb dX10_follows_73 ?_
            refine lv_iload_n hx hb dX10_follows_74 rfl (lv_at hl 2 rfl) ?_
            obtain ⟨r_19, hk_20, hf⟩ := pe_1 hf
            refine xv_i (As := [.int (y1 - (1 : Int32)), .int y2]) (rest := []) (q0 := 0) (ci := 10) Cx hP hD hS hl (pl_X10_X10 a cyI cyJ v10_firstOf v10_sizeOf v10_longOf v10_row v10_character v10_sum v10_coefficient v10_undone v10_wasSum v10_wasCoefficient v10_hasImage v10_letter v10_letters v10_list v10_cell v10_refusals v10_tried v10_left v10_high v10_then v10_at v10_readSize v10_firstOf v10_sizeOf v10_longOf v10_row v10_character v10_sum v10_coefficient v10_undone v10_wasSum v10_wasCoefficient v10_hasImage v10_letter v10_letters v10_list v10_cell v10_refusals v10_tried v10_left v10_high v10_then v10_at v10_readSize) (c_X10_rowOf l D cyI cyJ G a H.size v10_firstOf v10_sizeOf v10_longOf v10_row v10_character v10_sum v10_coefficient v10_undone v10_wasSum v10_wasCoefficient v10_hasImage v10_letter v10_letters v10_list v10_cell v10_refusals v10_tried v10_left v10_high v10_then v10_at v10_readSize (y1 - (1 : Int32)) y2 r_19 hk_20) pk_X10_rowOf mw_4_159 ⟨rfl, rfl, Nat.le_of_ble_eq_true rfl, Nat.le_of_ble_eq_true rfl⟩ rfl rfl rfl rfl rfl (Nat.le_of_ble_eq_true rfl) ⟨Nat.le_of_ble_eq_true rfl, Nat.le_of_ble_eq_true rfl⟩ dX10_follows_75 (fun H locs hP hD hS => ?_)
            refine lv_iconst (v := (1 : Int32)) hx hb dX10_follows_78 (by decide) ?_
            refine lv_isub hx hb dX10_follows_79 ?_
            refine lv_istore (lv' := [(4, .int (r_19 - (1 : Int32))), (0, .ref (a 28)), (1, .int y1), (2, .int y2), (3, .int y3)]) hx hb dX10_follows_80 hl (by decide) rfl (fun ls hl => ?_)
            refine lv_aload_n hx hb dX10_follows_82 rfl (lv_at hl 1 rfl) ?_
            refine va_get (ci := 10) (v := .ref (a 32)) hx hb hts wX10_in hown hK hP 0 rfl rfl 3 (by decide) (hts _ mw_4_195) (fun _ h9 => h9) rfl dX10_follows_83 ?_
            refine lv_bipush (v := (8 : Int32)) hx hb dX10_follows_86 (by decide) ?_
            refine lv_iload_n hx hb dX10_follows_88 rfl (lv_at hl 2 rfl) ?_
            refine lv_imul hx hb dX10_follows_89 ?_
            refine lv_iload_n hx hb dX10_follows_90 rfl (lv_at hl 3 rfl) ?_
            refine lv_iadd hx hb dX10_follows_91 ?_
            refine lv_iload hx hb dX10_follows_92 (lv_at hl 0 rfl) ?_
            obtain ⟨hi_21, hf⟩ := pe_in hf
            refine va_iast hx hb hK hP hD hS 4 0 rfl rfl hi_21 dX10_follows_94 (fun H locs hP hD hS => ?_)
            have hP : va_P D xcl (wd_X10 a cyI cyJ v10_firstOf v10_sizeOf v10_longOf (upd v10_row (Int32.toNatClampNeg (((8 : Int32) * y1) + y2)) (r_19 - (1 : Int32))) v10_character v10_sum v10_coefficient v10_undone v10_wasSum v10_wasCoefficient v10_hasImage v10_letter v10_letters v10_list v10_cell v10_refusals v10_tried v10_left v10_high v10_then v10_at v10_readSize) H := hP
            have hD : va_D A (wd_X10 a cyI cyJ v10_firstOf v10_sizeOf v10_longOf (upd v10_row (Int32.toNatClampNeg (((8 : Int32) * y1) + y2)) (r_19 - (1 : Int32))) v10_character v10_sum v10_coefficient v10_undone v10_wasSum v10_wasCoefficient v10_hasImage v10_letter v10_letters v10_list v10_cell v10_refusals v10_tried v10_left v10_high v10_then v10_at v10_readSize) := hD
            refine lv_iinc (v := (y2 + (1 : Int32))) (lv' := [(2, .int (y2 + (1 : Int32))), (4, .int (r_19 - (1 : Int32))), (0, .ref (a 28)), (1, .int y1), (3, .int y3)]) hx hb dX10_follows_95 hl (k := 3) rfl rfl (by decide) rfl (fun ls hl => ?_)
            exact w_98 1000 v10_longOf (upd v10_row (Int32.toNatClampNeg (((8 : Int32) * y1) + y2)) (r_19 - (1 : Int32))) y1 (y2 + (1 : Int32)) y3 (r_19 - (1 : Int32)) H locs ls hf hP hD hS (lv_sub hl [2, 3, 0, 4, 1] rfl)
          · have hf := pe_f hf hc_18
            refine lv_aload_n hx hb dX10_follows_43 rfl (lv_at hl 0 rfl) ?_
            refine va_get (ci := 10) (v := .ref (a 32)) hx hb hts wX10_in hown hK hP 0 rfl rfl 3 (by decide) (hts _ mw_4_195) (fun _ h9 => h9) rfl dX10_follows_44 ?_
            refine lv_bipush (v := (8 : Int32)) hx hb dX10_follows_47 (by decide) ?_
            refine lv_iload_n hx hb dX10_follows_49 rfl (lv_at hl 1 rfl) ?_
            refine lv_imul hx hb dX10_follows_50 ?_
            refine lv_iload hx hb dX10_follows_51 (lv_at hl 4 rfl) ?_
            refine lv_iadd hx hb dX10_follows_53 ?_
            refine lv_aload_n hx hb dX10_follows_54 rfl (lv_at hl 0 rfl) ?_
            refine lv_iload_n hx hb dX10_follows_55 rfl (lv_at hl 1 rfl) ?_
            refine lv_iconst (v := (1 : Int32)) hx hb dX10_follows_56 (by decide) ?_
            refine lv_isub hx hb dX10_follows_57 ?_
            refine lv_iload hx hb dX10_follows_58 (lv_at hl 4 rfl) ?_
            obtain ⟨r_22, hk_23, hf⟩ := pe_1 hf
            refine xv_i (As := [.int (y1 - (1 : Int32)), .int y4]) (rest := [.int (((8 : Int32) * y1) + y4), .ref (a 32)]) (q0 := 0) (ci := 10) Cx hP hD hS hl (pl_X10_X10 a cyI cyJ v10_firstOf v10_sizeOf v10_longOf v10_row v10_character v10_sum v10_coefficient v10_undone v10_wasSum v10_wasCoefficient v10_hasImage v10_letter v10_letters v10_list v10_cell v10_refusals v10_tried v10_left v10_high v10_then v10_at v10_readSize v10_firstOf v10_sizeOf v10_longOf v10_row v10_character v10_sum v10_coefficient v10_undone v10_wasSum v10_wasCoefficient v10_hasImage v10_letter v10_letters v10_list v10_cell v10_refusals v10_tried v10_left v10_high v10_then v10_at v10_readSize) (c_X10_rowOf l D cyI cyJ G a H.size v10_firstOf v10_sizeOf v10_longOf v10_row v10_character v10_sum v10_coefficient v10_undone v10_wasSum v10_wasCoefficient v10_hasImage v10_letter v10_letters v10_list v10_cell v10_refusals v10_tried v10_left v10_high v10_then v10_at v10_readSize (y1 - (1 : Int32)) y4 r_22 hk_23) pk_X10_rowOf mw_4_159 ⟨rfl, rfl, Nat.le_of_ble_eq_true rfl, Nat.le_of_ble_eq_true rfl⟩ rfl rfl rfl rfl rfl (Nat.le_of_ble_eq_true rfl) ⟨Nat.le_of_ble_eq_true rfl, Nat.le_of_ble_eq_true rfl⟩ dX10_follows_60 (fun H locs hP hD hS => ?_)
            obtain ⟨hi_24, hf⟩ := pe_in hf
            refine va_iast hx hb hK hP hD hS 4 0 rfl rfl hi_24 dX10_follows_63 (fun H locs hP hD hS => ?_)
            have hP : va_P D xcl (wd_X10 a cyI cyJ v10_firstOf v10_sizeOf v10_longOf (upd v10_row (Int32.toNatClampNeg (((8 : Int32) * y1) + y4)) r_22) v10_character v10_sum v10_coefficient v10_undone v10_wasSum v10_wasCoefficient v10_hasImage v10_letter v10_letters v10_list v10_cell v10_refusals v10_tried v10_left v10_high v10_then v10_at v10_readSize) H := hP
            have hD : va_D A (wd_X10 a cyI cyJ v10_firstOf v10_sizeOf v10_longOf (upd v10_row (Int32.toNatClampNeg (((8 : Int32) * y1) + y4)) r_22) v10_character v10_sum v10_coefficient v10_undone v10_wasSum v10_wasCoefficient v10_hasImage v10_letter v10_letters v10_list v10_cell v10_refusals v10_tried v10_left v10_high v10_then v10_at v10_readSize) := hD
            refine lv_iinc (v := (y4 + (1 : Int32))) (lv' := [(4, .int (y4 + (1 : Int32))), (0, .ref (a 28)), (1, .int y1), (2, .int y2), (3, .int y3)]) hx hb dX10_follows_64 hl (k := 4) rfl rfl (by decide) rfl (fun ls hl => ?_)
            refine lv_goto (tgt := 37) hx hb dX10_follows_67 (by decide) ?_
            exact w_37 v10_longOf (upd v10_row (Int32.toNatClampNeg (((8 : Int32) * y1) + y4)) r_22) y1 y2 y3 (y4 + (1 : Int32)) H locs ls hf hP hD hS (lv_sub hl [1, 2, 3, 4, 0] rfl)
      refine lv_aload_n hx hb dX10_follows_13 rfl (lv_at hl 0 rfl) ?_
      refine lv_iload_n hx hb dX10_follows_14 rfl (lv_at hl 1 rfl) ?_
      refine lv_iconst (v := (1 : Int32)) hx hb dX10_follows_15 (by decide) ?_
      refine lv_isub hx hb dX10_follows_16 ?_
      refine lv_iload_n hx hb dX10_follows_17 rfl (lv_at hl 2 rfl) ?_
      obtain ⟨r_25, hk_26, hf⟩ := pe_1 hf
      refine xv_i (As := [.int (y1 - (1 : Int32)), .int y2]) (rest := []) (q0 := 0) (ci := 10) Cx hP hD hS hl (pl_X10_X10 a cyI cyJ v10_firstOf v10_sizeOf v10_longOf v10_row v10_character v10_sum v10_coefficient v10_undone v10_wasSum v10_wasCoefficient v10_hasImage v10_letter v10_letters v10_list v10_cell v10_refusals v10_tried v10_left v10_high v10_then v10_at v10_readSize v10_firstOf v10_sizeOf v10_longOf v10_row v10_character v10_sum v10_coefficient v10_undone v10_wasSum v10_wasCoefficient v10_hasImage v10_letter v10_letters v10_list v10_cell v10_refusals v10_tried v10_left v10_high v10_then v10_at v10_readSize) (c_X10_rowOf l D cyI cyJ G a H.size v10_firstOf v10_sizeOf v10_longOf v10_row v10_character v10_sum v10_coefficient v10_undone v10_wasSum v10_wasCoefficient v10_hasImage v10_letter v10_letters v10_list v10_cell v10_refusals v10_tried v10_left v10_high v10_then v10_at v10_readSize (y1 - (1 : Int32)) y2 r_25 hk_26) pk_X10_rowOf mw_4_159 ⟨rfl, rfl, Nat.le_of_ble_eq_true rfl, Nat.le_of_ble_eq_true rfl⟩ rfl rfl rfl rfl rfl (Nat.le_of_ble_eq_true rfl) ⟨Nat.le_of_ble_eq_true rfl, Nat.le_of_ble_eq_true rfl⟩ dX10_follows_18 (fun H locs hP hD hS => ?_)
      refine lv_iconst (v := (1 : Int32)) hx hb dX10_follows_21 (by decide) ?_
      refine lv_icmp_ne (tgt := 34) hx hb dX10_follows_22 (by decide) (fun hc_27 => ?_) (fun hc_27 => ?_)
      · have hf := pe_f hf hc_27
        refine lv_iconst (v := (0 : Int32)) hx hb dX10_follows_34 (by decide) ?_
        refine lv_istore (lv' := [(4, .int (0 : Int32)), (0, .ref (a 28)), (1, .int y1), (2, .int y2), (3, .int y3)]) hx hb dX10_follows_35 hl (by decide) rfl (fun ls hl => ?_)
        exact w_37 1000 v10_longOf v10_row y1 y2 y3 (0 : Int32) H locs ls hf hP hD hS (lv_sub hl [1, 2, 3, 4, 0] rfl)
      · have hf := pe_t hf hc_27
        refine lv_iinc (v := (y2 + (-1 : Int32))) (lv' := [(2, .int (y2 + (-1 : Int32))), (0, .ref (a 28)), (1, .int y1), (3, .int y3)]) hx hb dX10_follows_25 hl (k := 2) rfl rfl (by decide) rfl (fun ls hl => ?_)
        refine lv_iinc (v := (y3 + (1 : Int32))) (lv' := [(3, .int (y3 + (1 : Int32))), (2, .int (y2 + (-1 : Int32))), (0, .ref (a 28)), (1, .int y1)]) hx hb dX10_follows_28 hl (k := 3) rfl rfl (by decide) rfl (fun ls hl => ?_)
        refine lv_goto (tgt := 13) hx hb dX10_follows_31 (by decide) ?_
        exact w_13 v10_longOf v10_row y1 (y2 + (-1 : Int32)) (y3 + (1 : Int32)) H locs ls hf hP hD hS (lv_sub hl [2, 3, 1, 0] rfl)
  refine lv_aload_n hx hb dX10_follows_0 rfl (lv_at hl 0 rfl) ?_
  refine va_get (ci := 10) (v := .ref (a 31)) hx hb hts wX10_in hown hK hP 0 rfl rfl 2 (by decide) (hts _ mw_4_194) (fun _ h9 => h9) rfl dX10_follows_1 ?_
  refine lv_iload_n hx hb dX10_follows_4 rfl (lv_at hl 1 rfl) ?_
  refine lv_iconst (v := (1 : Int32)) hx hb dX10_follows_5 (by decide) ?_
  refine lv_isub hx hb dX10_follows_6 ?_
  obtain ⟨hi_28, hf⟩ := pe_in hf
  refine va_iald hx hb hK hP 3 0 rfl rfl hi_28 dX10_follows_7 ?_
  refine lv_iconst (v := (1 : Int32)) hx hb dX10_follows_8 (by decide) ?_
  refine lv_isub hx hb dX10_follows_9 ?_
  refine lv_istore_n (lv' := [(2, .int ((v10_longOf (Int32.toNatClampNeg (x1 - (1 : Int32)))) - (1 : Int32))), (0, .ref (a 28)), (1, .int x1)]) hx hb dX10_follows_10 rfl hl (by decide) rfl (fun ls hl => ?_)
  refine lv_iconst (v := (1 : Int32)) hx hb dX10_follows_11 (by decide) ?_
  refine lv_istore_n (lv' := [(3, .int (1 : Int32)), (2, .int ((v10_longOf (Int32.toNatClampNeg (x1 - (1 : Int32)))) - (1 : Int32))), (0, .ref (a 28)), (1, .int x1)]) hx hb dX10_follows_12 rfl hl (by decide) rfl (fun ls hl => ?_)
  exact w_13 1000 v10_longOf v10_row x1 ((v10_longOf (Int32.toNatClampNeg (x1 - (1 : Int32)))) - (1 : Int32)) (1 : Int32) H locs ls hf hP hD hS (lv_sub hl [2, 3, 1, 0] rfl)
def f_X10_in (x0 : Int32) (x1 : Int32) (x2 : Int32) : Option (Int32) := if x0 < x1 then (some ((0 : Int32))) else (if x2 < x0 then (some ((0 : Int32))) else (some ((1 : Int32))))
set_option maxHeartbeats 4000000 in
set_option maxRecDepth 20000 in
theorem c_X10_in (l : Launch) (D : va_G) (cyI cyJ : ClassId) (G : Nat → Nat) (sz : Nat) (x0 : Int32) (x1 : Int32) (x2 : Int32) (ro : Int32) (hf : f_X10_in x0 x1 x2 = some ro) : xm_z l yX10_in (Cond.code yX10_in cX10_in 3 (some .boolean) :: xg_tbl) { frames := 0, cells := 0, slots := 0, locals := 0 } D xcl [(cyI, .int), (cyJ, .long)] G sz [.int x0, .int x1, .int x2] [] [] ro := by
  refine xm_of_z (own := RX10) (by decide) rfl rfl (Nat.le_of_ble_eq_true rfl) ?_
  intro p e s m args below meth c ls Q A hQ hAe hin Cx hsz hP hD hS hl
  have Cx1 := Cx
  obtain ⟨⟨hx, hb, hml, hown, hts⟩, hr, hlocks, hK, hA, hT⟩ := Cx1
  have hl : lv_has ls 3 [(0, .int x0), (1, .int x1), (2, .int x2)] := hl
  obtain ⟨H, eH⟩ : ∃ H, H = s.heap := ⟨_, rfl⟩
  obtain ⟨locs, eL⟩ : ∃ L : List Loc, L = [] := ⟨_, rfl⟩
  rw [← eH] at hP
  have hS : va_S A s.heap H locs := by rw [eH, eL]; exact hS
  suffices hgo : W p l e { frames := 0, cells := 0, slots := 0, locals := 0 } s m args below meth c H locs 0 0 Q (F0 m 0 ls []) by rw [eH, eL] at hgo; exact hgo
  clear eH eL
  unfold f_X10_in at hf
  refine lv_iload_n hx hb dX10_in_0 rfl (lv_at hl 0 rfl) ?_
  refine lv_iload_n hx hb dX10_in_1 rfl (lv_at hl 1 rfl) ?_
  refine lv_icmp_lt (tgt := 14) hx hb dX10_in_2 (by decide) (fun hc_3 => ?_) (fun hc_3 => ?_)
  · have hf := pe_t hf hc_3
    refine lv_iconst (v := (0 : Int32)) hx hb dX10_in_14 (by decide) ?_
    obtain rfl := po_1 hf
    rw [← hQ]; exact xe_zret Cx rfl rfl hP hD hS dX10_in_15
  · have hf := pe_f hf hc_3
    refine lv_iload_n hx hb dX10_in_5 rfl (lv_at hl 0 rfl) ?_
    refine lv_iload_n hx hb dX10_in_6 rfl (lv_at hl 2 rfl) ?_
    refine lv_icmp_gt (tgt := 14) hx hb dX10_in_7 (by decide) (fun hc_4 => ?_) (fun hc_4 => ?_)
    · have hf := pe_t hf hc_4
      refine lv_iconst (v := (0 : Int32)) hx hb dX10_in_14 (by decide) ?_
      obtain rfl := po_1 hf
      rw [← hQ]; exact xe_zret Cx rfl rfl hP hD hS dX10_in_15
    · have hf := pe_f hf hc_4
      refine lv_iconst (v := (1 : Int32)) hx hb dX10_in_10 (by decide) ?_
      refine lv_goto (tgt := 15) hx hb dX10_in_11 (by decide) ?_
      obtain rfl := po_1 hf
      rw [← hQ]; exact xe_zret Cx rfl rfl hP hD hS dX10_in_15
def f_X10_isShape (x0 : Int32) : Option (Int32) := p_b1 (f_X10_in x0 (0 : Int32) (66 : Int32)) (fun r_1 => some (r_1))
set_option maxHeartbeats 4000000 in
set_option maxRecDepth 20000 in
theorem c_X10_isShape (l : Launch) (D : va_G) (cyI cyJ : ClassId) (G : Nat → Nat) (sz : Nat) (x0 : Int32) (ro : Int32) (hf : f_X10_isShape x0 = some ro) : xm_z l yX10_isShape (Cond.code yX10_isShape cX10_isShape 1 (some .boolean) :: xg_tbl) { frames := 1, cells := 0, slots := 0, locals := 22 } D xcl [(cyI, .int), (cyJ, .long)] G sz [.int x0] [] [] ro := by
  refine xm_of_z (own := RX10) (by decide) rfl rfl (Nat.le_of_ble_eq_true rfl) ?_
  intro p e s m args below meth c ls Q A hQ hAe hin Cx hsz hP hD hS hl
  have Cx1 := Cx
  obtain ⟨⟨hx, hb, hml, hown, hts⟩, hr, hlocks, hK, hA, hT⟩ := Cx1
  have hl : lv_has ls 1 [(0, .int x0)] := hl
  obtain ⟨H, eH⟩ : ∃ H, H = s.heap := ⟨_, rfl⟩
  obtain ⟨locs, eL⟩ : ∃ L : List Loc, L = [] := ⟨_, rfl⟩
  rw [← eH] at hP
  have hS : va_S A s.heap H locs := by rw [eH, eL]; exact hS
  suffices hgo : W p l e { frames := 1, cells := 0, slots := 0, locals := 22 } s m args below meth c H locs 0 0 Q (F0 m 0 ls []) by rw [eH, eL] at hgo; exact hgo
  clear eH eL
  unfold f_X10_isShape at hf
  refine lv_iload_n hx hb dX10_isShape_0 rfl (lv_at hl 0 rfl) ?_
  refine lv_iconst (v := (0 : Int32)) hx hb dX10_isShape_1 (by decide) ?_
  refine lv_bipush (v := (66 : Int32)) hx hb dX10_isShape_2 (by decide) ?_
  obtain ⟨r_4, hk_5, hf⟩ := pe_1 hf
  refine xw_z (As := [.int x0, .int (0 : Int32), .int (66 : Int32)]) (rest := []) Cx hP hD hS hl (xq_none _) (c_X10_in l D cyI cyJ G H.size x0 (0 : Int32) (66 : Int32) r_4 hk_5) pk_X10_in mw_5_26 ⟨rfl, rfl, Nat.le_of_ble_eq_true rfl, Nat.le_of_ble_eq_true rfl⟩ rfl rfl (Nat.le_of_ble_eq_true rfl) ⟨Nat.le_of_ble_eq_true rfl, Nat.le_of_ble_eq_true rfl⟩ dX10_isShape_4 (fun H locs hn_6 hP hD hS => ?_)
  obtain rfl := po_1 hf
  rw [← hQ]; exact xe_zret Cx rfl hn_6 hP hD hS dX10_isShape_7
def f_X10_manyOf (v10_firstOf : Nat → Int32) (x1 : Int32) : Option (Int32) := p_in (x1 + (1 : Int32)) 10 (p_in x1 10 (some (((v10_firstOf (Int32.toNatClampNeg (x1 + (1 : Int32)))) - (v10_firstOf (Int32.toNatClampNeg x1))))))
set_option maxHeartbeats 4000000 in
set_option maxRecDepth 20000 in
theorem c_X10_manyOf (l : Launch) (D : va_G) (cyI cyJ : ClassId) (G a : Nat → Nat) (sz : Nat) (v10_firstOf : Nat → Int32) (v10_sizeOf : Nat → Int32) (v10_longOf : Nat → Int32) (v10_row : Nat → Int32) (v10_character : Nat → Int32) (v10_sum : Nat → Int32) (v10_coefficient : Nat → Int32) (v10_undone : Int32) (v10_wasSum : Nat → Int32) (v10_wasCoefficient : Nat → Int32) (v10_hasImage : Int32) (v10_letter : Nat → Int32) (v10_letters : Int32) (v10_list : Nat → Int32) (v10_cell : Nat → Int32) (v10_refusals : Nat → Int32) (v10_tried : Nat → Int32) (v10_left : Int32) (v10_high : Int32) (v10_then : Nat → Int64) (v10_at : Int32) (v10_readSize : Int32) (x1 : Int32) (ro : Int32) (hf : f_X10_manyOf v10_firstOf x1 = some ro) : xm_i l yX10_manyOf (Cond.code yX10_manyOf cX10_manyOf 2 (some .int) :: xg_tbl) { frames := 0, cells := 0, slots := 0, locals := 0 } D xcl [(cyI, .int), (cyJ, .long)] G sz [.ref (a 28), .int x1] (wd_X10 a cyI cyJ v10_firstOf v10_sizeOf v10_longOf v10_row v10_character v10_sum v10_coefficient v10_undone v10_wasSum v10_wasCoefficient v10_hasImage v10_letter v10_letters v10_list v10_cell v10_refusals v10_tried v10_left v10_high v10_then v10_at v10_readSize) (wd_X10 a cyI cyJ v10_firstOf v10_sizeOf v10_longOf v10_row v10_character v10_sum v10_coefficient v10_undone v10_wasSum v10_wasCoefficient v10_hasImage v10_letter v10_letters v10_list v10_cell v10_refusals v10_tried v10_left v10_high v10_then v10_at v10_readSize) ro := by
  refine xm_of_i (own := RX10) (by decide) rfl rfl (Nat.le_of_ble_eq_true rfl) ?_
  intro p e s m args below meth c ls Q A hQ hAe hin Cx hsz hP hD hS hl
  have Cx1 := Cx
  obtain ⟨⟨hx, hb, hml, hown, hts⟩, hr, hlocks, hK, hA, hT⟩ := Cx1
  have hl : lv_has ls 2 [(0, .ref (a 28)), (1, .int x1)] := hl
  obtain ⟨H, eH⟩ : ∃ H, H = s.heap := ⟨_, rfl⟩
  obtain ⟨locs, eL⟩ : ∃ L : List Loc, L = [] := ⟨_, rfl⟩
  rw [← eH] at hP
  have hS : va_S A s.heap H locs := by rw [eH, eL]; exact hS
  suffices hgo : W p l e { frames := 0, cells := 0, slots := 0, locals := 0 } s m args below meth c H locs 0 0 Q (F0 m 0 ls []) by rw [eH, eL] at hgo; exact hgo
  clear eH eL
  unfold f_X10_manyOf at hf
  refine lv_aload_n hx hb dX10_manyOf_0 rfl (lv_at hl 0 rfl) ?_
  refine va_get (ci := 10) (v := .ref (a 29)) hx hb hts wX10_in hown hK hP 0 rfl rfl 0 (by decide) (hts _ mw_4_192) (fun _ h9 => h9) rfl dX10_manyOf_1 ?_
  refine lv_iload_n hx hb dX10_manyOf_4 rfl (lv_at hl 1 rfl) ?_
  refine lv_iconst (v := (1 : Int32)) hx hb dX10_manyOf_5 (by decide) ?_
  refine lv_iadd hx hb dX10_manyOf_6 ?_
  obtain ⟨hi_3, hf⟩ := pe_in hf
  refine va_iald hx hb hK hP 1 0 rfl rfl hi_3 dX10_manyOf_7 ?_
  refine lv_aload_n hx hb dX10_manyOf_8 rfl (lv_at hl 0 rfl) ?_
  refine va_get (ci := 10) (v := .ref (a 29)) hx hb hts wX10_in hown hK hP 0 rfl rfl 0 (by decide) (hts _ mw_4_192) (fun _ h9 => h9) rfl dX10_manyOf_9 ?_
  refine lv_iload_n hx hb dX10_manyOf_12 rfl (lv_at hl 1 rfl) ?_
  obtain ⟨hi_4, hf⟩ := pe_in hf
  refine va_iald hx hb hK hP 1 0 rfl rfl hi_4 dX10_manyOf_13 ?_
  refine lv_isub hx hb dX10_manyOf_14 ?_
  obtain rfl := po_1 hf
  rw [← hQ]; exact xe_iret Cx rfl hP hD hS dX10_manyOf_15
def f_X10_refused (v10_refusals : Nat → Int32) (x1 : Int32) : Option (Int32 × (Nat → Int32)) := p_in (-x1) 7 (p_in (-x1) 7 (some (x1, (upd v10_refusals (Int32.toNatClampNeg (-x1)) ((v10_refusals (Int32.toNatClampNeg (-x1))) + (1 : Int32))))))
set_option maxHeartbeats 4000000 in
set_option maxRecDepth 20000 in
theorem c_X10_refused (l : Launch) (D : va_G) (cyI cyJ : ClassId) (G a : Nat → Nat) (sz : Nat) (v10_firstOf : Nat → Int32) (v10_sizeOf : Nat → Int32) (v10_longOf : Nat → Int32) (v10_row : Nat → Int32) (v10_character : Nat → Int32) (v10_sum : Nat → Int32) (v10_coefficient : Nat → Int32) (v10_undone : Int32) (v10_wasSum : Nat → Int32) (v10_wasCoefficient : Nat → Int32) (v10_hasImage : Int32) (v10_letter : Nat → Int32) (v10_letters : Int32) (v10_list : Nat → Int32) (v10_cell : Nat → Int32) (v10_refusals : Nat → Int32) (v10_tried : Nat → Int32) (v10_left : Int32) (v10_high : Int32) (v10_then : Nat → Int64) (v10_at : Int32) (v10_readSize : Int32) (x1 : Int32) (ro : Int32) (ov10_refusals : Nat → Int32) (hf : f_X10_refused v10_refusals x1 = some (ro, ov10_refusals)) : xm_i l yX10_refused (Cond.code yX10_refused cX10_refused 2 (some .int) :: xg_tbl) { frames := 0, cells := 0, slots := 0, locals := 0 } D xcl [(cyI, .int), (cyJ, .long)] G sz [.ref (a 28), .int x1] (wd_X10 a cyI cyJ v10_firstOf v10_sizeOf v10_longOf v10_row v10_character v10_sum v10_coefficient v10_undone v10_wasSum v10_wasCoefficient v10_hasImage v10_letter v10_letters v10_list v10_cell v10_refusals v10_tried v10_left v10_high v10_then v10_at v10_readSize) (wd_X10 a cyI cyJ v10_firstOf v10_sizeOf v10_longOf v10_row v10_character v10_sum v10_coefficient v10_undone v10_wasSum v10_wasCoefficient v10_hasImage v10_letter v10_letters v10_list v10_cell ov10_refusals v10_tried v10_left v10_high v10_then v10_at v10_readSize) ro := by
  refine xm_of_i (own := RX10) (by decide) rfl rfl (Nat.le_of_ble_eq_true rfl) ?_
  intro p e s m args below meth c ls Q A hQ hAe hin Cx hsz hP hD hS hl
  have Cx1 := Cx
  obtain ⟨⟨hx, hb, hml, hown, hts⟩, hr, hlocks, hK, hA, hT⟩ := Cx1
  have hl : lv_has ls 2 [(0, .ref (a 28)), (1, .int x1)] := hl
  obtain ⟨H, eH⟩ : ∃ H, H = s.heap := ⟨_, rfl⟩
  obtain ⟨locs, eL⟩ : ∃ L : List Loc, L = [] := ⟨_, rfl⟩
  rw [← eH] at hP
  have hS : va_S A s.heap H locs := by rw [eH, eL]; exact hS
  suffices hgo : W p l e { frames := 0, cells := 0, slots := 0, locals := 0 } s m args below meth c H locs 0 0 Q (F0 m 0 ls []) by rw [eH, eL] at hgo; exact hgo
  clear eH eL
  unfold f_X10_refused at hf
  refine lv_aload_n hx hb dX10_refused_0 rfl (lv_at hl 0 rfl) ?_
  refine va_get (ci := 10) (v := .ref (a 41)) hx hb hts wX10_in hown hK hP 0 rfl rfl 15 (by decide) (hts _ mw_4_207) (fun _ h9 => h9) rfl dX10_refused_1 ?_
  refine lv_iload_n hx hb dX10_refused_4 rfl (lv_at hl 1 rfl) ?_
  refine lv_ineg hx hb dX10_refused_5 ?_
  refine lv_dup2_11 hx hb dX10_refused_6 rfl rfl ?_
  obtain ⟨hi_3, hf⟩ := pe_in hf
  refine va_iald hx hb hK hP 13 0 rfl rfl hi_3 dX10_refused_7 ?_
  refine lv_iconst (v := (1 : Int32)) hx hb dX10_refused_8 (by decide) ?_
  refine lv_iadd hx hb dX10_refused_9 ?_
  obtain ⟨hi_4, hf⟩ := pe_in hf
  refine va_iast hx hb hK hP hD hS 13 0 rfl rfl hi_4 dX10_refused_10 (fun H locs hP hD hS => ?_)
  have hP : va_P D xcl (wd_X10 a cyI cyJ v10_firstOf v10_sizeOf v10_longOf v10_row v10_character v10_sum v10_coefficient v10_undone v10_wasSum v10_wasCoefficient v10_hasImage v10_letter v10_letters v10_list v10_cell (upd v10_refusals (Int32.toNatClampNeg (-x1)) ((v10_refusals (Int32.toNatClampNeg (-x1))) + (1 : Int32))) v10_tried v10_left v10_high v10_then v10_at v10_readSize) H := hP
  have hD : va_D A (wd_X10 a cyI cyJ v10_firstOf v10_sizeOf v10_longOf v10_row v10_character v10_sum v10_coefficient v10_undone v10_wasSum v10_wasCoefficient v10_hasImage v10_letter v10_letters v10_list v10_cell (upd v10_refusals (Int32.toNatClampNeg (-x1)) ((v10_refusals (Int32.toNatClampNeg (-x1))) + (1 : Int32))) v10_tried v10_left v10_high v10_then v10_at v10_readSize) := hD
  refine lv_iload_n hx hb dX10_refused_11 rfl (lv_at hl 1 rfl) ?_
  obtain ⟨rfl, rfl⟩ := po_2 hf
  rw [← hQ]; exact xe_iret Cx rfl hP hD hS dX10_refused_12
def f_X10_far (v10_refusals : Nat → Int32) (x1 : Int32) : Option (Int32 × (Nat → Int32)) := p_b2 (f_X10_refused v10_refusals x1) (fun r_1 v10_refusals_2 => some (((1000000000 : Int32) - r_1), v10_refusals_2))
set_option maxHeartbeats 4000000 in
set_option maxRecDepth 20000 in
theorem c_X10_far (l : Launch) (D : va_G) (cyI cyJ : ClassId) (G a : Nat → Nat) (sz : Nat) (v10_firstOf : Nat → Int32) (v10_sizeOf : Nat → Int32) (v10_longOf : Nat → Int32) (v10_row : Nat → Int32) (v10_character : Nat → Int32) (v10_sum : Nat → Int32) (v10_coefficient : Nat → Int32) (v10_undone : Int32) (v10_wasSum : Nat → Int32) (v10_wasCoefficient : Nat → Int32) (v10_hasImage : Int32) (v10_letter : Nat → Int32) (v10_letters : Int32) (v10_list : Nat → Int32) (v10_cell : Nat → Int32) (v10_refusals : Nat → Int32) (v10_tried : Nat → Int32) (v10_left : Int32) (v10_high : Int32) (v10_then : Nat → Int64) (v10_at : Int32) (v10_readSize : Int32) (x1 : Int32) (ro : Int32) (ov10_refusals : Nat → Int32) (hf : f_X10_far v10_refusals x1 = some (ro, ov10_refusals)) : xm_i l yX10_far (Cond.code yX10_far cX10_far 2 (some .int) :: xg_tbl) { frames := 1, cells := 0, slots := 0, locals := 21 } D xcl [(cyI, .int), (cyJ, .long)] G sz [.ref (a 28), .int x1] (wd_X10 a cyI cyJ v10_firstOf v10_sizeOf v10_longOf v10_row v10_character v10_sum v10_coefficient v10_undone v10_wasSum v10_wasCoefficient v10_hasImage v10_letter v10_letters v10_list v10_cell v10_refusals v10_tried v10_left v10_high v10_then v10_at v10_readSize) (wd_X10 a cyI cyJ v10_firstOf v10_sizeOf v10_longOf v10_row v10_character v10_sum v10_coefficient v10_undone v10_wasSum v10_wasCoefficient v10_hasImage v10_letter v10_letters v10_list v10_cell ov10_refusals v10_tried v10_left v10_high v10_then v10_at v10_readSize) ro := by
  refine xm_of_i (own := RX10) (by decide) rfl rfl (Nat.le_of_ble_eq_true rfl) ?_
  intro p e s m args below meth c ls Q A hQ hAe hin Cx hsz hP hD hS hl
  have Cx1 := Cx
  obtain ⟨⟨hx, hb, hml, hown, hts⟩, hr, hlocks, hK, hA, hT⟩ := Cx1
  have hl : lv_has ls 2 [(0, .ref (a 28)), (1, .int x1)] := hl
  obtain ⟨H, eH⟩ : ∃ H, H = s.heap := ⟨_, rfl⟩
  obtain ⟨locs, eL⟩ : ∃ L : List Loc, L = [] := ⟨_, rfl⟩
  rw [← eH] at hP
  have hS : va_S A s.heap H locs := by rw [eH, eL]; exact hS
  suffices hgo : W p l e { frames := 1, cells := 0, slots := 0, locals := 21 } s m args below meth c H locs 0 0 Q (F0 m 0 ls []) by rw [eH, eL] at hgo; exact hgo
  clear eH eL
  unfold f_X10_far at hf
  refine lv_ldc (v := (1000000000 : Int32)) hx hb hown (hts _ mw_5_91) dX10_far_0 ?_
  refine lv_aload_n hx hb dX10_far_2 rfl (lv_at hl 0 rfl) ?_
  refine lv_iload_n hx hb dX10_far_3 rfl (lv_at hl 1 rfl) ?_
  obtain ⟨r_4, v10_refusals_5, hk_6, hf⟩ := pe_2 hf
  refine xv_i (As := [.int x1]) (rest := [.int (1000000000 : Int32)]) (q0 := 0) (ci := 10) Cx hP hD hS hl (pl_X10_X10 a cyI cyJ v10_firstOf v10_sizeOf v10_longOf v10_row v10_character v10_sum v10_coefficient v10_undone v10_wasSum v10_wasCoefficient v10_hasImage v10_letter v10_letters v10_list v10_cell v10_refusals v10_tried v10_left v10_high v10_then v10_at v10_readSize v10_firstOf v10_sizeOf v10_longOf v10_row v10_character v10_sum v10_coefficient v10_undone v10_wasSum v10_wasCoefficient v10_hasImage v10_letter v10_letters v10_list v10_cell v10_refusals_5 v10_tried v10_left v10_high v10_then v10_at v10_readSize) (c_X10_refused l D cyI cyJ G a H.size v10_firstOf v10_sizeOf v10_longOf v10_row v10_character v10_sum v10_coefficient v10_undone v10_wasSum v10_wasCoefficient v10_hasImage v10_letter v10_letters v10_list v10_cell v10_refusals v10_tried v10_left v10_high v10_then v10_at v10_readSize x1 r_4 v10_refusals_5 hk_6) pk_X10_refused mw_5_29 ⟨rfl, rfl, Nat.le_of_ble_eq_true rfl, Nat.le_of_ble_eq_true rfl⟩ rfl rfl rfl rfl rfl (Nat.le_of_ble_eq_true rfl) ⟨Nat.le_of_ble_eq_true rfl, Nat.le_of_ble_eq_true rfl⟩ dX10_far_4 (fun H locs hP hD hS => ?_)
  refine lv_isub hx hb dX10_far_7 ?_
  obtain ⟨rfl, rfl⟩ := po_2 hf
  rw [← hQ]; exact xe_iret Cx rfl hP hD hS dX10_far_8
def f_X10_farther (v10_refusals : Nat → Int32) (x1 : Int32) : Option (Int64 × (Nat → Int32)) := p_b2 (f_X10_refused v10_refusals x1) (fun r_1 v10_refusals_2 => some (((4000000000000000000 : Int64) - (Int32.toInt64 r_1)), v10_refusals_2))
set_option maxHeartbeats 4000000 in
set_option maxRecDepth 20000 in
theorem c_X10_farther (l : Launch) (D : va_G) (cyI cyJ : ClassId) (G a : Nat → Nat) (sz : Nat) (v10_firstOf : Nat → Int32) (v10_sizeOf : Nat → Int32) (v10_longOf : Nat → Int32) (v10_row : Nat → Int32) (v10_character : Nat → Int32) (v10_sum : Nat → Int32) (v10_coefficient : Nat → Int32) (v10_undone : Int32) (v10_wasSum : Nat → Int32) (v10_wasCoefficient : Nat → Int32) (v10_hasImage : Int32) (v10_letter : Nat → Int32) (v10_letters : Int32) (v10_list : Nat → Int32) (v10_cell : Nat → Int32) (v10_refusals : Nat → Int32) (v10_tried : Nat → Int32) (v10_left : Int32) (v10_high : Int32) (v10_then : Nat → Int64) (v10_at : Int32) (v10_readSize : Int32) (x1 : Int32) (ro : Int64) (ov10_refusals : Nat → Int32) (hf : f_X10_farther v10_refusals x1 = some (ro, ov10_refusals)) : xm_l l yX10_farther (Cond.code yX10_farther cX10_farther 2 (some .long) :: xg_tbl) { frames := 1, cells := 0, slots := 0, locals := 21 } D xcl [(cyI, .int), (cyJ, .long)] G sz [.ref (a 28), .int x1] (wd_X10 a cyI cyJ v10_firstOf v10_sizeOf v10_longOf v10_row v10_character v10_sum v10_coefficient v10_undone v10_wasSum v10_wasCoefficient v10_hasImage v10_letter v10_letters v10_list v10_cell v10_refusals v10_tried v10_left v10_high v10_then v10_at v10_readSize) (wd_X10 a cyI cyJ v10_firstOf v10_sizeOf v10_longOf v10_row v10_character v10_sum v10_coefficient v10_undone v10_wasSum v10_wasCoefficient v10_hasImage v10_letter v10_letters v10_list v10_cell ov10_refusals v10_tried v10_left v10_high v10_then v10_at v10_readSize) ro := by
  refine xm_of_l (own := RX10) (by decide) rfl rfl (Nat.le_of_ble_eq_true rfl) ?_
  intro p e s m args below meth c ls Q A hQ hAe hin Cx hsz hP hD hS hl
  have Cx1 := Cx
  obtain ⟨⟨hx, hb, hml, hown, hts⟩, hr, hlocks, hK, hA, hT⟩ := Cx1
  have hl : lv_has ls 2 [(0, .ref (a 28)), (1, .int x1)] := hl
  obtain ⟨H, eH⟩ : ∃ H, H = s.heap := ⟨_, rfl⟩
  obtain ⟨locs, eL⟩ : ∃ L : List Loc, L = [] := ⟨_, rfl⟩
  rw [← eH] at hP
  have hS : va_S A s.heap H locs := by rw [eH, eL]; exact hS
  suffices hgo : W p l e { frames := 1, cells := 0, slots := 0, locals := 21 } s m args below meth c H locs 0 0 Q (F0 m 0 ls []) by rw [eH, eL] at hgo; exact hgo
  clear eH eL
  unfold f_X10_farther at hf
  refine lv_ldc2 (v := (4000000000000000000 : Int64)) hx hb hown (hts _ mw_5_100) dX10_farther_0 ?_
  refine lv_aload_n hx hb dX10_farther_3 rfl (lv_at hl 0 rfl) ?_
  refine lv_iload_n hx hb dX10_farther_4 rfl (lv_at hl 1 rfl) ?_
  obtain ⟨r_4, v10_refusals_5, hk_6, hf⟩ := pe_2 hf
  refine xv_i (As := [.int x1]) (rest := [.long (4000000000000000000 : Int64)]) (q0 := 0) (ci := 10) Cx hP hD hS hl (pl_X10_X10 a cyI cyJ v10_firstOf v10_sizeOf v10_longOf v10_row v10_character v10_sum v10_coefficient v10_undone v10_wasSum v10_wasCoefficient v10_hasImage v10_letter v10_letters v10_list v10_cell v10_refusals v10_tried v10_left v10_high v10_then v10_at v10_readSize v10_firstOf v10_sizeOf v10_longOf v10_row v10_character v10_sum v10_coefficient v10_undone v10_wasSum v10_wasCoefficient v10_hasImage v10_letter v10_letters v10_list v10_cell v10_refusals_5 v10_tried v10_left v10_high v10_then v10_at v10_readSize) (c_X10_refused l D cyI cyJ G a H.size v10_firstOf v10_sizeOf v10_longOf v10_row v10_character v10_sum v10_coefficient v10_undone v10_wasSum v10_wasCoefficient v10_hasImage v10_letter v10_letters v10_list v10_cell v10_refusals v10_tried v10_left v10_high v10_then v10_at v10_readSize x1 r_4 v10_refusals_5 hk_6) pk_X10_refused mw_5_29 ⟨rfl, rfl, Nat.le_of_ble_eq_true rfl, Nat.le_of_ble_eq_true rfl⟩ rfl rfl rfl rfl rfl (Nat.le_of_ble_eq_true rfl) ⟨Nat.le_of_ble_eq_true rfl, Nat.le_of_ble_eq_true rfl⟩ dX10_farther_5 (fun H locs hP hD hS => ?_)
  refine lv_i2l (v := Int32.toInt64 r_4) hx hb dX10_farther_8 rfl ?_
  refine lv_lsub hx hb dX10_farther_9 ?_
  obtain ⟨rfl, rfl⟩ := po_2 hf
  rw [← hQ]; exact xe_lret Cx rfl hP hD hS dX10_farther_10
def f_X10_shapeTried_41 (K_12 : Int32 → Int32 → Int32 → Option (Int32)) (v10_row : Nat → Int32) (v10_tried : Nat → Int32) (y1 : Int32) (y3 : Int32) : Option (Int32) := K_12 y1 (0 : Int32) (y3 + (1 : Int32))
def gf_X10_shapeTried_12 (K_12 : Int32 → Int32 → Int32 → Option (Int32)) (K_2 : Int32 → Option (Int32)) (v10_row : Nat → Int32) (v10_tried : Nat → Int32) (y1 : Int32) (y2 : Int32) (y3 : Int32) : Option (Int32) := if (8 : Int32) ≤ y3 then (if y2 = 0 then (K_2 (y1 + (1 : Int32))) else (some (y1))) else (if y2 = 0 then ((f_X10_shapeTried_41 K_12 v10_row v10_tried) y1 y3) else (p_in y3 9 (p_b1 (f_X10_rowOf v10_row y1 y3) (fun r_5 => if (v10_tried (Int32.toNatClampNeg y3)) = r_5 then (K_12 y1 (1 : Int32) (y3 + (1 : Int32))) else ((f_X10_shapeTried_41 K_12 v10_row v10_tried) y1 y3)))))
def f_X10_shapeTried_12 (K_2 : Int32 → Option (Int32)) (v10_row : Nat → Int32) (v10_tried : Nat → Int32) : Nat → Int32 → Int32 → Int32 → Option (Int32)
  | 0 => fun _ _ _ => none
  | n + 1 => gf_X10_shapeTried_12 (f_X10_shapeTried_12 K_2 v10_row v10_tried n) K_2 v10_row v10_tried
def gf_X10_shapeTried_2 (K_2 : Int32 → Option (Int32)) (v10_row : Nat → Int32) (v10_tried : Nat → Int32) (y1 : Int32) : Option (Int32) := if (67 : Int32) ≤ y1 then (some ((-9 : Int32))) else ((f_X10_shapeTried_12 K_2 v10_row v10_tried 1000) y1 (1 : Int32) (0 : Int32))
def f_X10_shapeTried_2 (v10_row : Nat → Int32) (v10_tried : Nat → Int32) : Nat → Int32 → Option (Int32)
  | 0 => fun _ => none
  | n + 1 => gf_X10_shapeTried_2 (f_X10_shapeTried_2 v10_row v10_tried n) v10_row v10_tried
def f_X10_shapeTried (v10_row : Nat → Int32) (v10_tried : Nat → Int32) : Option (Int32) := (f_X10_shapeTried_2 v10_row v10_tried 1000) (0 : Int32)
set_option maxHeartbeats 4000000 in
set_option maxRecDepth 20000 in
theorem c_X10_shapeTried (l : Launch) (D : va_G) (cyI cyJ : ClassId) (G a : Nat → Nat) (sz : Nat) (v10_firstOf : Nat → Int32) (v10_sizeOf : Nat → Int32) (v10_longOf : Nat → Int32) (v10_row : Nat → Int32) (v10_character : Nat → Int32) (v10_sum : Nat → Int32) (v10_coefficient : Nat → Int32) (v10_undone : Int32) (v10_wasSum : Nat → Int32) (v10_wasCoefficient : Nat → Int32) (v10_hasImage : Int32) (v10_letter : Nat → Int32) (v10_letters : Int32) (v10_list : Nat → Int32) (v10_cell : Nat → Int32) (v10_refusals : Nat → Int32) (v10_tried : Nat → Int32) (v10_left : Int32) (v10_high : Int32) (v10_then : Nat → Int64) (v10_at : Int32) (v10_readSize : Int32) (ro : Int32) (hf : f_X10_shapeTried v10_row v10_tried = some ro) : xm_i l yX10_shapeTried (Cond.code yX10_shapeTried cX10_shapeTried 4 (some .int) :: xg_tbl) { frames := 1, cells := 0, slots := 0, locals := 22 } D xcl [(cyI, .int), (cyJ, .long)] G sz [.ref (a 28)] (wd_X10 a cyI cyJ v10_firstOf v10_sizeOf v10_longOf v10_row v10_character v10_sum v10_coefficient v10_undone v10_wasSum v10_wasCoefficient v10_hasImage v10_letter v10_letters v10_list v10_cell v10_refusals v10_tried v10_left v10_high v10_then v10_at v10_readSize) (wd_X10 a cyI cyJ v10_firstOf v10_sizeOf v10_longOf v10_row v10_character v10_sum v10_coefficient v10_undone v10_wasSum v10_wasCoefficient v10_hasImage v10_letter v10_letters v10_list v10_cell v10_refusals v10_tried v10_left v10_high v10_then v10_at v10_readSize) ro := by
  refine xm_of_i (own := RX10) (by decide) rfl rfl (Nat.le_of_ble_eq_true rfl) ?_
  intro p e s m args below meth c ls Q A hQ hAe hin Cx hsz hP hD hS hl
  have Cx1 := Cx
  obtain ⟨⟨hx, hb, hml, hown, hts⟩, hr, hlocks, hK, hA, hT⟩ := Cx1
  have hl : lv_has ls 4 [(0, .ref (a 28))] := hl
  obtain ⟨H, eH⟩ : ∃ H, H = s.heap := ⟨_, rfl⟩
  obtain ⟨locs, eL⟩ : ∃ L : List Loc, L = [] := ⟨_, rfl⟩
  rw [← eH] at hP
  have hS : va_S A s.heap H locs := by rw [eH, eL]; exact hS
  suffices hgo : W p l e { frames := 1, cells := 0, slots := 0, locals := 22 } s m args below meth c H locs 0 0 Q (F0 m 0 ls []) by rw [eH, eL] at hgo; exact hgo
  clear eH eL
  unfold f_X10_shapeTried at hf
  have w_2 : ∀ (n_2 : Nat) (y1 : Int32) (H : Heap) (locs : List Loc) (ls : Array Slot), (f_X10_shapeTried_2 v10_row v10_tried) n_2 y1 = some ro → va_P D xcl (wd_X10 a cyI cyJ v10_firstOf v10_sizeOf v10_longOf v10_row v10_character v10_sum v10_coefficient v10_undone v10_wasSum v10_wasCoefficient v10_hasImage v10_letter v10_letters v10_list v10_cell v10_refusals v10_tried v10_left v10_high v10_then v10_at v10_readSize) H → va_D A (wd_X10 a cyI cyJ v10_firstOf v10_sizeOf v10_longOf v10_row v10_character v10_sum v10_coefficient v10_undone v10_wasSum v10_wasCoefficient v10_hasImage v10_letter v10_letters v10_list v10_cell v10_refusals v10_tried v10_left v10_high v10_then v10_at v10_readSize) → va_S A s.heap H locs → lv_has ls 4 [(0, .ref (a 28)), (1, .int y1)] → W p l e { frames := 1, cells := 0, slots := 0, locals := 22 } s m args below meth c H locs 0 0 Q (F0 m 2 ls []) := by
    intro n_2
    induction n_2 with
    | zero => intro y1 H locs ls hf; exact absurd hf (by intro h9; cases h9)
    | succ n_2 w_2 =>
      intro y1 H locs ls hf hP hD hS hl
      have hf : gf_X10_shapeTried_2 ((f_X10_shapeTried_2 v10_row v10_tried) n_2) v10_row v10_tried y1 = some ro := hf
      unfold gf_X10_shapeTried_2 at hf
      have w_12 : ∀ (n_12 : Nat) (y1 : Int32) (y2 : Int32) (y3 : Int32) (H : Heap) (locs : List Loc) (ls : Array Slot), (f_X10_shapeTried_12 ((f_X10_shapeTried_2 v10_row v10_tried) n_2) v10_row v10_tried) n_12 y1 y2 y3 = some ro → va_P D xcl (wd_X10 a cyI cyJ v10_firstOf v10_sizeOf v10_longOf v10_row v10_character v10_sum v10_coefficient v10_undone v10_wasSum v10_wasCoefficient v10_hasImage v10_letter v10_letters v10_list v10_cell v10_refusals v10_tried v10_left v10_high v10_then v10_at v10_readSize) H → va_D A (wd_X10 a cyI cyJ v10_firstOf v10_sizeOf v10_longOf v10_row v10_character v10_sum v10_coefficient v10_undone v10_wasSum v10_wasCoefficient v10_hasImage v10_letter v10_letters v10_list v10_cell v10_refusals v10_tried v10_left v10_high v10_then v10_at v10_readSize) → va_S A s.heap H locs → lv_has ls 4 [(0, .ref (a 28)), (1, .int y1), (2, .int y2), (3, .int y3)] → W p l e { frames := 1, cells := 0, slots := 0, locals := 22 } s m args below meth c H locs 0 0 Q (F0 m 12 ls []) := by
        intro n_12
        induction n_12 with
        | zero => intro y1 y2 y3 H locs ls hf; exact absurd hf (by intro h9; cases h9)
        | succ n_12 w_12 =>
          intro y1 y2 y3 H locs ls hf hP hD hS hl
          have hf : gf_X10_shapeTried_12 ((f_X10_shapeTried_12 ((f_X10_shapeTried_2 v10_row v10_tried) n_2) v10_row v10_tried) n_12) ((f_X10_shapeTried_2 v10_row v10_tried) n_2) v10_row v10_tried y1 y2 y3 = some ro := hf
          unfold gf_X10_shapeTried_12 at hf
          have w_41 : ∀ (y1 : Int32) (y3 : Int32) (H : Heap) (locs : List Loc) (ls : Array Slot), (f_X10_shapeTried_41 ((f_X10_shapeTried_12 ((f_X10_shapeTried_2 v10_row v10_tried) n_2) v10_row v10_tried) n_12) v10_row v10_tried) y1 y3 = some ro → va_P D xcl (wd_X10 a cyI cyJ v10_firstOf v10_sizeOf v10_longOf v10_row v10_character v10_sum v10_coefficient v10_undone v10_wasSum v10_wasCoefficient v10_hasImage v10_letter v10_letters v10_list v10_cell v10_refusals v10_tried v10_left v10_high v10_then v10_at v10_readSize) H → va_D A (wd_X10 a cyI cyJ v10_firstOf v10_sizeOf v10_longOf v10_row v10_character v10_sum v10_coefficient v10_undone v10_wasSum v10_wasCoefficient v10_hasImage v10_letter v10_letters v10_list v10_cell v10_refusals v10_tried v10_left v10_high v10_then v10_at v10_readSize) → va_S A s.heap H locs → lv_has ls 4 [(0, .ref (a 28)), (1, .int y1), (3, .int y3)] → W p l e { frames := 1, cells := 0, slots := 0, locals := 22 } s m args below meth c H locs 0 0 Q (F0 m 41 ls []) := by
            intro y1 y3 H locs ls hf hP hD hS hl
            unfold f_X10_shapeTried_41 at hf
            refine lv_iconst (v := (0 : Int32)) hx hb dX10_shapeTried_41 (by decide) ?_
            refine lv_istore_n (lv' := [(2, .int (0 : Int32)), (0, .ref (a 28)), (1, .int y1), (3, .int y3)]) hx hb dX10_shapeTried_42 rfl hl (by decide) rfl (fun ls hl => ?_)
            refine lv_iinc (v := (y3 + (1 : Int32))) (lv' := [(3, .int (y3 + (1 : Int32))), (2, .int (0 : Int32)), (0, .ref (a 28)), (1, .int y1)]) hx hb dX10_shapeTried_43 hl (k := 3) rfl rfl (by decide) rfl (fun ls hl => ?_)
            refine lv_goto (tgt := 12) hx hb dX10_shapeTried_46 (by decide) ?_
            exact w_12 y1 (0 : Int32) (y3 + (1 : Int32)) H locs ls hf hP hD hS (lv_sub hl [2, 3, 1, 0] rfl)
          refine lv_iload_n hx hb dX10_shapeTried_12 rfl (lv_at hl 3 rfl) ?_
          refine lv_bipush (v := (8 : Int32)) hx hb dX10_shapeTried_13 (by decide) ?_
          refine lv_icmp_ge (tgt := 49) hx hb dX10_shapeTried_15 (by decide) (fun hc_9 => ?_) (fun hc_9 => ?_)
          · have hf := pe_t hf hc_9
            refine lv_iload_n hx hb dX10_shapeTried_49 rfl (lv_at hl 2 rfl) ?_
            refine lv_if_eq (tgt := 55) hx hb dX10_shapeTried_50 (by decide) (fun hc_10 => ?_) (fun hc_10 => ?_)
            · have hf := pe_t hf hc_10
              refine lv_iinc (v := (y1 + (1 : Int32))) (lv' := [(1, .int (y1 + (1 : Int32))), (0, .ref (a 28)), (2, .int y2), (3, .int y3)]) hx hb dX10_shapeTried_55 hl (k := 1) rfl rfl (by decide) rfl (fun ls hl => ?_)
              refine lv_goto (tgt := 2) hx hb dX10_shapeTried_58 (by decide) ?_
              exact w_2 (y1 + (1 : Int32)) H locs ls hf hP hD hS (lv_sub hl [1, 0] rfl)
            · have hf := pe_f hf hc_10
              refine lv_iload_n hx hb dX10_shapeTried_53 rfl (lv_at hl 1 rfl) ?_
              obtain rfl := po_1 hf
              rw [← hQ]; exact xe_iret Cx rfl hP hD hS dX10_shapeTried_54
          · have hf := pe_f hf hc_9
            refine lv_iload_n hx hb dX10_shapeTried_18 rfl (lv_at hl 2 rfl) ?_
            refine lv_if_eq (tgt := 41) hx hb dX10_shapeTried_19 (by decide) (fun hc_11 => ?_) (fun hc_11 => ?_)
            · have hf := pe_t hf hc_11
              exact w_41 y1 y3 H locs ls hf hP hD hS (lv_sub hl [0, 1, 3] rfl)
            · have hf := pe_f hf hc_11
              refine lv_aload_n hx hb dX10_shapeTried_22 rfl (lv_at hl 0 rfl) ?_
              refine va_get (ci := 10) (v := .ref (a 42)) hx hb hts wX10_in hown hK hP 0 rfl rfl 16 (by decide) (hts _ mw_4_208) (fun _ h9 => h9) rfl dX10_shapeTried_23 ?_
              refine lv_iload_n hx hb dX10_shapeTried_26 rfl (lv_at hl 3 rfl) ?_
              obtain ⟨hi_12, hf⟩ := pe_in hf
              refine va_iald hx hb hK hP 14 0 rfl rfl hi_12 dX10_shapeTried_27 ?_
              refine lv_aload_n hx hb dX10_shapeTried_28 rfl (lv_at hl 0 rfl) ?_
              refine lv_iload_n hx hb dX10_shapeTried_29 rfl (lv_at hl 1 rfl) ?_
              refine lv_iload_n hx hb dX10_shapeTried_30 rfl (lv_at hl 3 rfl) ?_
              obtain ⟨r_13, hk_14, hf⟩ := pe_1 hf
              refine xv_i (As := [.int y1, .int y3]) (rest := [.int (v10_tried (Int32.toNatClampNeg y3))]) (q0 := 0) (ci := 10) Cx hP hD hS hl (pl_X10_X10 a cyI cyJ v10_firstOf v10_sizeOf v10_longOf v10_row v10_character v10_sum v10_coefficient v10_undone v10_wasSum v10_wasCoefficient v10_hasImage v10_letter v10_letters v10_list v10_cell v10_refusals v10_tried v10_left v10_high v10_then v10_at v10_readSize v10_firstOf v10_sizeOf v10_longOf v10_row v10_character v10_sum v10_coefficient v10_undone v10_wasSum v10_wasCoefficient v10_hasImage v10_letter v10_letters v10_list v10_cell v10_refusals v10_tried v10_left v10_high v10_then v10_at v10_readSize) (c_X10_rowOf l D cyI cyJ G a H.size v10_firstOf v10_sizeOf v10_longOf v10_row v10_character v10_sum v10_coefficient v10_undone v10_wasSum v10_wasCoefficient v10_hasImage v10_letter v10_letters v10_list v10_cell v10_refusals v10_tried v10_left v10_high v10_then v10_at v10_readSize y1 y3 r_13 hk_14) pk_X10_rowOf mw_4_159 ⟨rfl, rfl, Nat.le_of_ble_eq_true rfl, Nat.le_of_ble_eq_true rfl⟩ rfl rfl rfl rfl rfl (Nat.le_of_ble_eq_true rfl) ⟨Nat.le_of_ble_eq_true rfl, Nat.le_of_ble_eq_true rfl⟩ dX10_shapeTried_31 (fun H locs hP hD hS => ?_)
              refine lv_icmp_ne (tgt := 41) hx hb dX10_shapeTried_34 (by decide) (fun hc_15 => ?_) (fun hc_15 => ?_)
              · have hf := pe_f hf hc_15
                exact w_41 y1 y3 H locs ls hf hP hD hS (lv_sub hl [0, 1, 3] rfl)
              · have hf := pe_t hf hc_15
                refine lv_iconst (v := (1 : Int32)) hx hb dX10_shapeTried_37 (by decide) ?_
                refine lv_goto (tgt := 42) hx hb dX10_shapeTried_38 (by decide) ?_
                refine lv_istore_n (lv' := [(2, .int (1 : Int32)), (0, .ref (a 28)), (1, .int y1), (3, .int y3)]) hx hb dX10_shapeTried_42 rfl hl (by decide) rfl (fun ls hl => ?_)
                refine lv_iinc (v := (y3 + (1 : Int32))) (lv' := [(3, .int (y3 + (1 : Int32))), (2, .int (1 : Int32)), (0, .ref (a 28)), (1, .int y1)]) hx hb dX10_shapeTried_43 hl (k := 3) rfl rfl (by decide) rfl (fun ls hl => ?_)
                refine lv_goto (tgt := 12) hx hb dX10_shapeTried_46 (by decide) ?_
                exact w_12 y1 (1 : Int32) (y3 + (1 : Int32)) H locs ls hf hP hD hS (lv_sub hl [2, 3, 1, 0] rfl)
      refine lv_iload_n hx hb dX10_shapeTried_2 rfl (lv_at hl 1 rfl) ?_
      refine lv_bipush (v := (67 : Int32)) hx hb dX10_shapeTried_3 (by decide) ?_
      refine lv_icmp_ge (tgt := 61) hx hb dX10_shapeTried_5 (by decide) (fun hc_16 => ?_) (fun hc_16 => ?_)
      · have hf := pe_t hf hc_16
        refine lv_bipush (v := (-9 : Int32)) hx hb dX10_shapeTried_61 (by decide) ?_
        obtain rfl := po_1 hf
        rw [← hQ]; exact xe_iret Cx rfl hP hD hS dX10_shapeTried_63
      · have hf := pe_f hf hc_16
        refine lv_iconst (v := (1 : Int32)) hx hb dX10_shapeTried_8 (by decide) ?_
        refine lv_istore_n (lv' := [(2, .int (1 : Int32)), (0, .ref (a 28)), (1, .int y1)]) hx hb dX10_shapeTried_9 rfl hl (by decide) rfl (fun ls hl => ?_)
        refine lv_iconst (v := (0 : Int32)) hx hb dX10_shapeTried_10 (by decide) ?_
        refine lv_istore_n (lv' := [(3, .int (0 : Int32)), (2, .int (1 : Int32)), (0, .ref (a 28)), (1, .int y1)]) hx hb dX10_shapeTried_11 rfl hl (by decide) rfl (fun ls hl => ?_)
        exact w_12 1000 y1 (1 : Int32) (0 : Int32) H locs ls hf hP hD hS (lv_sub hl [2, 3, 1, 0] rfl)
  refine lv_iconst (v := (0 : Int32)) hx hb dX10_shapeTried_0 (by decide) ?_
  refine lv_istore_n (lv' := [(1, .int (0 : Int32)), (0, .ref (a 28))]) hx hb dX10_shapeTried_1 rfl hl (by decide) rfl (fun ls hl => ?_)
  exact w_2 1000 (0 : Int32) H locs ls hf hP hD hS (lv_sub hl [1, 0] rfl)
def gf_X10_triesNone_2 (K_2 : (Nat → Int32) → Int32 → Option ((Nat → Int32))) (v10_tried : Nat → Int32) (y1 : Int32) : Option ((Nat → Int32)) := if (8 : Int32) < y1 then (some (v10_tried)) else (p_in y1 9 (K_2 (upd v10_tried (Int32.toNatClampNeg y1) (0 : Int32)) (y1 + (1 : Int32))))
def f_X10_triesNone_2 : Nat → (Nat → Int32) → Int32 → Option ((Nat → Int32))
  | 0 => fun _ _ => none
  | n + 1 => gf_X10_triesNone_2 (f_X10_triesNone_2 n)
def f_X10_triesNone (v10_tried : Nat → Int32) : Option ((Nat → Int32)) := (f_X10_triesNone_2 1000) v10_tried (0 : Int32)
set_option maxHeartbeats 4000000 in
set_option maxRecDepth 20000 in
theorem c_X10_triesNone (l : Launch) (D : va_G) (cyI cyJ : ClassId) (G a : Nat → Nat) (sz : Nat) (v10_firstOf : Nat → Int32) (v10_sizeOf : Nat → Int32) (v10_longOf : Nat → Int32) (v10_row : Nat → Int32) (v10_character : Nat → Int32) (v10_sum : Nat → Int32) (v10_coefficient : Nat → Int32) (v10_undone : Int32) (v10_wasSum : Nat → Int32) (v10_wasCoefficient : Nat → Int32) (v10_hasImage : Int32) (v10_letter : Nat → Int32) (v10_letters : Int32) (v10_list : Nat → Int32) (v10_cell : Nat → Int32) (v10_refusals : Nat → Int32) (v10_tried : Nat → Int32) (v10_left : Int32) (v10_high : Int32) (v10_then : Nat → Int64) (v10_at : Int32) (v10_readSize : Int32) (ov10_tried : Nat → Int32) (hf : f_X10_triesNone v10_tried = some ov10_tried) : xm_v l yX10_triesNone (Cond.code yX10_triesNone cX10_triesNone 2 none :: xg_tbl) { frames := 0, cells := 0, slots := 0, locals := 0 } D xcl [(cyI, .int), (cyJ, .long)] G sz [.ref (a 28)] (wd_X10 a cyI cyJ v10_firstOf v10_sizeOf v10_longOf v10_row v10_character v10_sum v10_coefficient v10_undone v10_wasSum v10_wasCoefficient v10_hasImage v10_letter v10_letters v10_list v10_cell v10_refusals v10_tried v10_left v10_high v10_then v10_at v10_readSize) (wd_X10 a cyI cyJ v10_firstOf v10_sizeOf v10_longOf v10_row v10_character v10_sum v10_coefficient v10_undone v10_wasSum v10_wasCoefficient v10_hasImage v10_letter v10_letters v10_list v10_cell v10_refusals ov10_tried v10_left v10_high v10_then v10_at v10_readSize) := by
  refine xm_of_v (own := RX10) (by decide) rfl rfl (Nat.le_of_ble_eq_true rfl) ?_
  intro p e s m args below meth c ls Q A hQ hAe hin Cx hsz hP hD hS hl
  have Cx1 := Cx
  obtain ⟨⟨hx, hb, hml, hown, hts⟩, hr, hlocks, hK, hA, hT⟩ := Cx1
  have hl : lv_has ls 2 [(0, .ref (a 28))] := hl
  obtain ⟨H, eH⟩ : ∃ H, H = s.heap := ⟨_, rfl⟩
  obtain ⟨locs, eL⟩ : ∃ L : List Loc, L = [] := ⟨_, rfl⟩
  rw [← eH] at hP
  have hS : va_S A s.heap H locs := by rw [eH, eL]; exact hS
  suffices hgo : W p l e { frames := 0, cells := 0, slots := 0, locals := 0 } s m args below meth c H locs 0 0 Q (F0 m 0 ls []) by rw [eH, eL] at hgo; exact hgo
  clear eH eL
  unfold f_X10_triesNone at hf
  have w_2 : ∀ (n_2 : Nat) (v10_tried : Nat → Int32) (y1 : Int32) (H : Heap) (locs : List Loc) (ls : Array Slot), f_X10_triesNone_2 n_2 v10_tried y1 = some ov10_tried → va_P D xcl (wd_X10 a cyI cyJ v10_firstOf v10_sizeOf v10_longOf v10_row v10_character v10_sum v10_coefficient v10_undone v10_wasSum v10_wasCoefficient v10_hasImage v10_letter v10_letters v10_list v10_cell v10_refusals v10_tried v10_left v10_high v10_then v10_at v10_readSize) H → va_D A (wd_X10 a cyI cyJ v10_firstOf v10_sizeOf v10_longOf v10_row v10_character v10_sum v10_coefficient v10_undone v10_wasSum v10_wasCoefficient v10_hasImage v10_letter v10_letters v10_list v10_cell v10_refusals v10_tried v10_left v10_high v10_then v10_at v10_readSize) → va_S A s.heap H locs → lv_has ls 2 [(0, .ref (a 28)), (1, .int y1)] → W p l e { frames := 0, cells := 0, slots := 0, locals := 0 } s m args below meth c H locs 0 0 Q (F0 m 2 ls []) := by
    intro n_2
    induction n_2 with
    | zero => intro v10_tried y1 H locs ls hf; exact absurd hf (by intro h9; cases h9)
    | succ n_2 w_2 =>
      intro v10_tried y1 H locs ls hf hP hD hS hl
      have hf : gf_X10_triesNone_2 (f_X10_triesNone_2 n_2) v10_tried y1 = some ov10_tried := hf
      unfold gf_X10_triesNone_2 at hf
      refine lv_iload_n hx hb dX10_triesNone_2 rfl (lv_at hl 1 rfl) ?_
      refine lv_bipush (v := (8 : Int32)) hx hb dX10_triesNone_3 (by decide) ?_
      refine lv_icmp_gt (tgt := 21) hx hb dX10_triesNone_5 (by decide) (fun hc_3 => ?_) (fun hc_3 => ?_)
      · have hf := pe_t hf hc_3
        obtain rfl := po_1 hf
        rw [← hQ]; exact xe_vret Cx hP hD hS dX10_triesNone_21
      · have hf := pe_f hf hc_3
        refine lv_aload_n hx hb dX10_triesNone_8 rfl (lv_at hl 0 rfl) ?_
        refine va_get (ci := 10) (v := .ref (a 42)) hx hb hts wX10_in hown hK hP 0 rfl rfl 16 (by decide) (hts _ mw_4_208) (fun _ h9 => h9) rfl dX10_triesNone_9 ?_
        refine lv_iload_n hx hb dX10_triesNone_12 rfl (lv_at hl 1 rfl) ?_
        refine lv_iconst (v := (0 : Int32)) hx hb dX10_triesNone_13 (by decide) ?_
        obtain ⟨hi_4, hf⟩ := pe_in hf
        refine va_iast hx hb hK hP hD hS 14 0 rfl rfl hi_4 dX10_triesNone_14 (fun H locs hP hD hS => ?_)
        have hP : va_P D xcl (wd_X10 a cyI cyJ v10_firstOf v10_sizeOf v10_longOf v10_row v10_character v10_sum v10_coefficient v10_undone v10_wasSum v10_wasCoefficient v10_hasImage v10_letter v10_letters v10_list v10_cell v10_refusals (upd v10_tried (Int32.toNatClampNeg y1) (0 : Int32)) v10_left v10_high v10_then v10_at v10_readSize) H := hP
        have hD : va_D A (wd_X10 a cyI cyJ v10_firstOf v10_sizeOf v10_longOf v10_row v10_character v10_sum v10_coefficient v10_undone v10_wasSum v10_wasCoefficient v10_hasImage v10_letter v10_letters v10_list v10_cell v10_refusals (upd v10_tried (Int32.toNatClampNeg y1) (0 : Int32)) v10_left v10_high v10_then v10_at v10_readSize) := hD
        refine lv_iinc (v := (y1 + (1 : Int32))) (lv' := [(1, .int (y1 + (1 : Int32))), (0, .ref (a 28))]) hx hb dX10_triesNone_15 hl (k := 1) rfl rfl (by decide) rfl (fun ls hl => ?_)
        refine lv_goto (tgt := 2) hx hb dX10_triesNone_18 (by decide) ?_
        exact w_2 (upd v10_tried (Int32.toNatClampNeg y1) (0 : Int32)) (y1 + (1 : Int32)) H locs ls hf hP hD hS (lv_sub hl [1, 0] rfl)
  refine lv_iconst (v := (0 : Int32)) hx hb dX10_triesNone_0 (by decide) ?_
  refine lv_istore_n (lv' := [(1, .int (0 : Int32)), (0, .ref (a 28))]) hx hb dX10_triesNone_1 rfl hl (by decide) rfl (fun ls hl => ?_)
  exact w_2 1000 v10_tried (0 : Int32) H locs ls hf hP hD hS (lv_sub hl [1, 0] rfl)
def f_X10_column_33 (K_5 : Int32 → Int32 → Int32 → Int32 → Option (Int32)) (v10_longOf : Nat → Int32) (v10_row : Nat → Int32) (y1 : Int32) (y2 : Int32) (y4 : Int32) (z0 : Int32) (z1 : Int32) : Option (Int32) := K_5 y1 y2 (z1 + z0) (y4 + (1 : Int32))
def gf_X10_column_5 (K_5 : Int32 → Int32 → Int32 → Int32 → Option (Int32)) (v10_longOf : Nat → Int32) (v10_row : Nat → Int32) (y1 : Int32) (y2 : Int32) (y3 : Int32) (y4 : Int32) : Option (Int32) := p_in y1 67 (if (v10_longOf (Int32.toNatClampNeg y1)) ≤ y4 then (some (y3)) else (p_b1 (f_X10_rowOf v10_row y1 y4) (fun r_3 => if r_3 ≤ y2 then ((f_X10_column_33 K_5 v10_longOf v10_row) y1 y2 y4 (0 : Int32) y3) else ((f_X10_column_33 K_5 v10_longOf v10_row) y1 y2 y4 (1 : Int32) y3))))
def f_X10_column_5 (v10_longOf : Nat → Int32) (v10_row : Nat → Int32) : Nat → Int32 → Int32 → Int32 → Int32 → Option (Int32)
  | 0 => fun _ _ _ _ => none
  | n + 1 => gf_X10_column_5 (f_X10_column_5 v10_longOf v10_row n) v10_longOf v10_row
def f_X10_column (v10_longOf : Nat → Int32) (v10_row : Nat → Int32) (x1 : Int32) (x2 : Int32) : Option (Int32) := (f_X10_column_5 v10_longOf v10_row 1000) x1 x2 (0 : Int32) (0 : Int32)
set_option maxHeartbeats 4000000 in
set_option maxRecDepth 20000 in
theorem c_X10_column (l : Launch) (D : va_G) (cyI cyJ : ClassId) (G a : Nat → Nat) (sz : Nat) (v10_firstOf : Nat → Int32) (v10_sizeOf : Nat → Int32) (v10_longOf : Nat → Int32) (v10_row : Nat → Int32) (v10_character : Nat → Int32) (v10_sum : Nat → Int32) (v10_coefficient : Nat → Int32) (v10_undone : Int32) (v10_wasSum : Nat → Int32) (v10_wasCoefficient : Nat → Int32) (v10_hasImage : Int32) (v10_letter : Nat → Int32) (v10_letters : Int32) (v10_list : Nat → Int32) (v10_cell : Nat → Int32) (v10_refusals : Nat → Int32) (v10_tried : Nat → Int32) (v10_left : Int32) (v10_high : Int32) (v10_then : Nat → Int64) (v10_at : Int32) (v10_readSize : Int32) (x1 : Int32) (x2 : Int32) (ro : Int32) (hf : f_X10_column v10_longOf v10_row x1 x2 = some ro) : xm_i l yX10_column (Cond.code yX10_column cX10_column 5 (some .int) :: xg_tbl) { frames := 1, cells := 0, slots := 0, locals := 22 } D xcl [(cyI, .int), (cyJ, .long)] G sz [.ref (a 28), .int x1, .int x2] (wd_X10 a cyI cyJ v10_firstOf v10_sizeOf v10_longOf v10_row v10_character v10_sum v10_coefficient v10_undone v10_wasSum v10_wasCoefficient v10_hasImage v10_letter v10_letters v10_list v10_cell v10_refusals v10_tried v10_left v10_high v10_then v10_at v10_readSize) (wd_X10 a cyI cyJ v10_firstOf v10_sizeOf v10_longOf v10_row v10_character v10_sum v10_coefficient v10_undone v10_wasSum v10_wasCoefficient v10_hasImage v10_letter v10_letters v10_list v10_cell v10_refusals v10_tried v10_left v10_high v10_then v10_at v10_readSize) ro := by
  refine xm_of_i (own := RX10) (by decide) rfl rfl (Nat.le_of_ble_eq_true rfl) ?_
  intro p e s m args below meth c ls Q A hQ hAe hin Cx hsz hP hD hS hl
  have Cx1 := Cx
  obtain ⟨⟨hx, hb, hml, hown, hts⟩, hr, hlocks, hK, hA, hT⟩ := Cx1
  have hl : lv_has ls 5 [(0, .ref (a 28)), (1, .int x1), (2, .int x2)] := hl
  obtain ⟨H, eH⟩ : ∃ H, H = s.heap := ⟨_, rfl⟩
  obtain ⟨locs, eL⟩ : ∃ L : List Loc, L = [] := ⟨_, rfl⟩
  rw [← eH] at hP
  have hS : va_S A s.heap H locs := by rw [eH, eL]; exact hS
  suffices hgo : W p l e { frames := 1, cells := 0, slots := 0, locals := 22 } s m args below meth c H locs 0 0 Q (F0 m 0 ls []) by rw [eH, eL] at hgo; exact hgo
  clear eH eL
  unfold f_X10_column at hf
  have w_5 : ∀ (n_5 : Nat) (y1 : Int32) (y2 : Int32) (y3 : Int32) (y4 : Int32) (H : Heap) (locs : List Loc) (ls : Array Slot), (f_X10_column_5 v10_longOf v10_row) n_5 y1 y2 y3 y4 = some ro → va_P D xcl (wd_X10 a cyI cyJ v10_firstOf v10_sizeOf v10_longOf v10_row v10_character v10_sum v10_coefficient v10_undone v10_wasSum v10_wasCoefficient v10_hasImage v10_letter v10_letters v10_list v10_cell v10_refusals v10_tried v10_left v10_high v10_then v10_at v10_readSize) H → va_D A (wd_X10 a cyI cyJ v10_firstOf v10_sizeOf v10_longOf v10_row v10_character v10_sum v10_coefficient v10_undone v10_wasSum v10_wasCoefficient v10_hasImage v10_letter v10_letters v10_list v10_cell v10_refusals v10_tried v10_left v10_high v10_then v10_at v10_readSize) → va_S A s.heap H locs → lv_has ls 5 [(0, .ref (a 28)), (1, .int y1), (2, .int y2), (3, .int y3), (4, .int y4)] → W p l e { frames := 1, cells := 0, slots := 0, locals := 22 } s m args below meth c H locs 0 0 Q (F0 m 5 ls []) := by
    intro n_5
    induction n_5 with
    | zero => intro y1 y2 y3 y4 H locs ls hf; exact absurd hf (by intro h9; cases h9)
    | succ n_5 w_5 =>
      intro y1 y2 y3 y4 H locs ls hf hP hD hS hl
      have hf : gf_X10_column_5 ((f_X10_column_5 v10_longOf v10_row) n_5) v10_longOf v10_row y1 y2 y3 y4 = some ro := hf
      unfold gf_X10_column_5 at hf
      have w_33 : ∀ (y1 : Int32) (y2 : Int32) (y4 : Int32) (z0 : Int32) (z1 : Int32) (H : Heap) (locs : List Loc) (ls : Array Slot), (f_X10_column_33 ((f_X10_column_5 v10_longOf v10_row) n_5) v10_longOf v10_row) y1 y2 y4 z0 z1 = some ro → va_P D xcl (wd_X10 a cyI cyJ v10_firstOf v10_sizeOf v10_longOf v10_row v10_character v10_sum v10_coefficient v10_undone v10_wasSum v10_wasCoefficient v10_hasImage v10_letter v10_letters v10_list v10_cell v10_refusals v10_tried v10_left v10_high v10_then v10_at v10_readSize) H → va_D A (wd_X10 a cyI cyJ v10_firstOf v10_sizeOf v10_longOf v10_row v10_character v10_sum v10_coefficient v10_undone v10_wasSum v10_wasCoefficient v10_hasImage v10_letter v10_letters v10_list v10_cell v10_refusals v10_tried v10_left v10_high v10_then v10_at v10_readSize) → va_S A s.heap H locs → lv_has ls 5 [(0, .ref (a 28)), (1, .int y1), (2, .int y2), (4, .int y4)] → W p l e { frames := 1, cells := 0, slots := 0, locals := 22 } s m args below meth c H locs 0 0 Q (F0 m 33 ls [.int z0, .int z1]) := by
        intro y1 y2 y4 z0 z1 H locs ls hf hP hD hS hl
        unfold f_X10_column_33 at hf
        refine lv_iadd hx hb dX10_column_33 ?_
        refine lv_istore_n (lv' := [(3, .int (z1 + z0)), (0, .ref (a 28)), (1, .int y1), (2, .int y2), (4, .int y4)]) hx hb dX10_column_34 rfl hl (by decide) rfl (fun ls hl => ?_)
        refine lv_iinc (v := (y4 + (1 : Int32))) (lv' := [(4, .int (y4 + (1 : Int32))), (3, .int (z1 + z0)), (0, .ref (a 28)), (1, .int y1), (2, .int y2)]) hx hb dX10_column_35 hl (k := 4) rfl rfl (by decide) rfl (fun ls hl => ?_)
        refine lv_goto (tgt := 5) hx hb dX10_column_38 (by decide) ?_
        exact w_5 y1 y2 (z1 + z0) (y4 + (1 : Int32)) H locs ls hf hP hD hS (lv_sub hl [2, 3, 4, 1, 0] rfl)
      refine lv_iload hx hb dX10_column_5 (lv_at hl 4 rfl) ?_
      refine lv_aload_n hx hb dX10_column_7 rfl (lv_at hl 0 rfl) ?_
      refine va_get (ci := 10) (v := .ref (a 31)) hx hb hts wX10_in hown hK hP 0 rfl rfl 2 (by decide) (hts _ mw_4_194) (fun _ h9 => h9) rfl dX10_column_8 ?_
      refine lv_iload_n hx hb dX10_column_11 rfl (lv_at hl 1 rfl) ?_
      obtain ⟨hi_6, hf⟩ := pe_in hf
      refine va_iald hx hb hK hP 3 0 rfl rfl hi_6 dX10_column_12 ?_
      refine lv_icmp_ge (tgt := 41) hx hb dX10_column_13 (by decide) (fun hc_7 => ?_) (fun hc_7 => ?_)
      · have hf := pe_t hf hc_7
        refine lv_iload_n hx hb dX10_column_41 rfl (lv_at hl 3 rfl) ?_
        obtain rfl := po_1 hf
        rw [← hQ]; exact xe_iret Cx rfl hP hD hS dX10_column_42
      · have hf := pe_f hf hc_7
        refine lv_iload_n hx hb dX10_column_16 rfl (lv_at hl 3 rfl) ?_
        refine lv_aload_n hx hb dX10_column_17 rfl (lv_at hl 0 rfl) ?_
        refine lv_iload_n hx hb dX10_column_18 rfl (lv_at hl 1 rfl) ?_
        refine lv_iload hx hb dX10_column_19 (lv_at hl 4 rfl) ?_
        obtain ⟨r_8, hk_9, hf⟩ := pe_1 hf
        refine xv_i (As := [.int y1, .int y4]) (rest := [.int y3]) (q0 := 0) (ci := 10) Cx hP hD hS hl (pl_X10_X10 a cyI cyJ v10_firstOf v10_sizeOf v10_longOf v10_row v10_character v10_sum v10_coefficient v10_undone v10_wasSum v10_wasCoefficient v10_hasImage v10_letter v10_letters v10_list v10_cell v10_refusals v10_tried v10_left v10_high v10_then v10_at v10_readSize v10_firstOf v10_sizeOf v10_longOf v10_row v10_character v10_sum v10_coefficient v10_undone v10_wasSum v10_wasCoefficient v10_hasImage v10_letter v10_letters v10_list v10_cell v10_refusals v10_tried v10_left v10_high v10_then v10_at v10_readSize) (c_X10_rowOf l D cyI cyJ G a H.size v10_firstOf v10_sizeOf v10_longOf v10_row v10_character v10_sum v10_coefficient v10_undone v10_wasSum v10_wasCoefficient v10_hasImage v10_letter v10_letters v10_list v10_cell v10_refusals v10_tried v10_left v10_high v10_then v10_at v10_readSize y1 y4 r_8 hk_9) pk_X10_rowOf mw_4_159 ⟨rfl, rfl, Nat.le_of_ble_eq_true rfl, Nat.le_of_ble_eq_true rfl⟩ rfl rfl rfl rfl rfl (Nat.le_of_ble_eq_true rfl) ⟨Nat.le_of_ble_eq_true rfl, Nat.le_of_ble_eq_true rfl⟩ dX10_column_21 (fun H locs hP hD hS => ?_)
        refine lv_iload_n hx hb dX10_column_24 rfl (lv_at hl 2 rfl) ?_
        refine lv_icmp_le (tgt := 32) hx hb dX10_column_25 (by decide) (fun hc_10 => ?_) (fun hc_10 => ?_)
        · have hf := pe_t hf hc_10
          refine lv_iconst (v := (0 : Int32)) hx hb dX10_column_32 (by decide) ?_
          exact w_33 y1 y2 y4 (0 : Int32) y3 H locs ls hf hP hD hS (lv_sub hl [0, 1, 2, 4] rfl)
        · have hf := pe_f hf hc_10
          refine lv_iconst (v := (1 : Int32)) hx hb dX10_column_28 (by decide) ?_
          refine lv_goto (tgt := 33) hx hb dX10_column_29 (by decide) ?_
          exact w_33 y1 y2 y4 (1 : Int32) y3 H locs ls hf hP hD hS (lv_sub hl [0, 1, 2, 4] rfl)
  refine lv_iconst (v := (0 : Int32)) hx hb dX10_column_0 (by decide) ?_
  refine lv_istore_n (lv' := [(3, .int (0 : Int32)), (0, .ref (a 28)), (1, .int x1), (2, .int x2)]) hx hb dX10_column_1 rfl hl (by decide) rfl (fun ls hl => ?_)
  refine lv_iconst (v := (0 : Int32)) hx hb dX10_column_2 (by decide) ?_
  refine lv_istore (lv' := [(4, .int (0 : Int32)), (3, .int (0 : Int32)), (0, .ref (a 28)), (1, .int x1), (2, .int x2)]) hx hb dX10_column_3 hl (by decide) rfl (fun ls hl => ?_)
  exact w_5 1000 x1 x2 (0 : Int32) (0 : Int32) H locs ls hf hP hD hS (lv_sub hl [2, 3, 4, 1, 0] rfl)
def gf_X10_turnedOf_6 (K_6 : (Nat → Int32) → Int32 → Int32 → Option (Int32 × (Nat → Int32))) (v10_longOf : Nat → Int32) (v10_row : Nat → Int32) (v10_tried : Nat → Int32) (y1 : Int32) (y2 : Int32) : Option (Int32 × (Nat → Int32)) := if (8 : Int32) ≤ y2 then (p_b1 (f_X10_shapeTried v10_row v10_tried) (fun r_2 => some (r_2, v10_tried))) else (p_b1 (f_X10_column v10_longOf v10_row y1 y2) (fun r_4 => p_in y2 9 (K_6 (upd v10_tried (Int32.toNatClampNeg y2) r_4) y1 (y2 + (1 : Int32)))))
def f_X10_turnedOf_6 (v10_longOf : Nat → Int32) (v10_row : Nat → Int32) : Nat → (Nat → Int32) → Int32 → Int32 → Option (Int32 × (Nat → Int32))
  | 0 => fun _ _ _ => none
  | n + 1 => gf_X10_turnedOf_6 (f_X10_turnedOf_6 v10_longOf v10_row n) v10_longOf v10_row
def f_X10_turnedOf (v10_longOf : Nat → Int32) (v10_row : Nat → Int32) (v10_tried : Nat → Int32) (x1 : Int32) : Option (Int32 × (Nat → Int32)) := p_b1 (f_X10_triesNone v10_tried) (fun v10_tried_7 => (f_X10_turnedOf_6 v10_longOf v10_row 1000) v10_tried_7 x1 (0 : Int32))
set_option maxHeartbeats 4000000 in
set_option maxRecDepth 20000 in
theorem c_X10_turnedOf (l : Launch) (D : va_G) (cyI cyJ : ClassId) (G a : Nat → Nat) (sz : Nat) (v10_firstOf : Nat → Int32) (v10_sizeOf : Nat → Int32) (v10_longOf : Nat → Int32) (v10_row : Nat → Int32) (v10_character : Nat → Int32) (v10_sum : Nat → Int32) (v10_coefficient : Nat → Int32) (v10_undone : Int32) (v10_wasSum : Nat → Int32) (v10_wasCoefficient : Nat → Int32) (v10_hasImage : Int32) (v10_letter : Nat → Int32) (v10_letters : Int32) (v10_list : Nat → Int32) (v10_cell : Nat → Int32) (v10_refusals : Nat → Int32) (v10_tried : Nat → Int32) (v10_left : Int32) (v10_high : Int32) (v10_then : Nat → Int64) (v10_at : Int32) (v10_readSize : Int32) (x1 : Int32) (ro : Int32) (ov10_tried : Nat → Int32) (hf : f_X10_turnedOf v10_longOf v10_row v10_tried x1 = some (ro, ov10_tried)) : xm_i l yX10_turnedOf (Cond.code yX10_turnedOf cX10_turnedOf 3 (some .int) :: xg_tbl) { frames := 2, cells := 0, slots := 0, locals := 46 } D xcl [(cyI, .int), (cyJ, .long)] G sz [.ref (a 28), .int x1] (wd_X10 a cyI cyJ v10_firstOf v10_sizeOf v10_longOf v10_row v10_character v10_sum v10_coefficient v10_undone v10_wasSum v10_wasCoefficient v10_hasImage v10_letter v10_letters v10_list v10_cell v10_refusals v10_tried v10_left v10_high v10_then v10_at v10_readSize) (wd_X10 a cyI cyJ v10_firstOf v10_sizeOf v10_longOf v10_row v10_character v10_sum v10_coefficient v10_undone v10_wasSum v10_wasCoefficient v10_hasImage v10_letter v10_letters v10_list v10_cell v10_refusals ov10_tried v10_left v10_high v10_then v10_at v10_readSize) ro := by
  refine xm_of_i (own := RX10) (by decide) rfl rfl (Nat.le_of_ble_eq_true rfl) ?_
  intro p e s m args below meth c ls Q A hQ hAe hin Cx hsz hP hD hS hl
  have Cx1 := Cx
  obtain ⟨⟨hx, hb, hml, hown, hts⟩, hr, hlocks, hK, hA, hT⟩ := Cx1
  have hl : lv_has ls 3 [(0, .ref (a 28)), (1, .int x1)] := hl
  obtain ⟨H, eH⟩ : ∃ H, H = s.heap := ⟨_, rfl⟩
  obtain ⟨locs, eL⟩ : ∃ L : List Loc, L = [] := ⟨_, rfl⟩
  rw [← eH] at hP
  have hS : va_S A s.heap H locs := by rw [eH, eL]; exact hS
  suffices hgo : W p l e { frames := 2, cells := 0, slots := 0, locals := 46 } s m args below meth c H locs 0 0 Q (F0 m 0 ls []) by rw [eH, eL] at hgo; exact hgo
  clear eH eL
  unfold f_X10_turnedOf at hf
  have w_6 : ∀ (n_6 : Nat) (v10_tried : Nat → Int32) (y1 : Int32) (y2 : Int32) (H : Heap) (locs : List Loc) (ls : Array Slot), (f_X10_turnedOf_6 v10_longOf v10_row) n_6 v10_tried y1 y2 = some (ro, ov10_tried) → va_P D xcl (wd_X10 a cyI cyJ v10_firstOf v10_sizeOf v10_longOf v10_row v10_character v10_sum v10_coefficient v10_undone v10_wasSum v10_wasCoefficient v10_hasImage v10_letter v10_letters v10_list v10_cell v10_refusals v10_tried v10_left v10_high v10_then v10_at v10_readSize) H → va_D A (wd_X10 a cyI cyJ v10_firstOf v10_sizeOf v10_longOf v10_row v10_character v10_sum v10_coefficient v10_undone v10_wasSum v10_wasCoefficient v10_hasImage v10_letter v10_letters v10_list v10_cell v10_refusals v10_tried v10_left v10_high v10_then v10_at v10_readSize) → va_S A s.heap H locs → lv_has ls 3 [(0, .ref (a 28)), (1, .int y1), (2, .int y2)] → W p l e { frames := 2, cells := 0, slots := 0, locals := 46 } s m args below meth c H locs 0 0 Q (F0 m 6 ls []) := by
    intro n_6
    induction n_6 with
    | zero => intro v10_tried y1 y2 H locs ls hf; exact absurd hf (by intro h9; cases h9)
    | succ n_6 w_6 =>
      intro v10_tried y1 y2 H locs ls hf hP hD hS hl
      have hf : gf_X10_turnedOf_6 ((f_X10_turnedOf_6 v10_longOf v10_row) n_6) v10_longOf v10_row v10_tried y1 y2 = some (ro, ov10_tried) := hf
      unfold gf_X10_turnedOf_6 at hf
      refine lv_iload_n hx hb dX10_turnedOf_6 rfl (lv_at hl 2 rfl) ?_
      refine lv_bipush (v := (8 : Int32)) hx hb dX10_turnedOf_7 (by decide) ?_
      refine lv_icmp_ge (tgt := 30) hx hb dX10_turnedOf_9 (by decide) (fun hc_9 => ?_) (fun hc_9 => ?_)
      · have hf := pe_t hf hc_9
        refine lv_aload_n hx hb dX10_turnedOf_30 rfl (lv_at hl 0 rfl) ?_
        obtain ⟨r_10, hk_11, hf⟩ := pe_1 hf
        refine xv_i (As := []) (rest := []) (q0 := 0) (ci := 10) Cx hP hD hS hl (pl_X10_X10 a cyI cyJ v10_firstOf v10_sizeOf v10_longOf v10_row v10_character v10_sum v10_coefficient v10_undone v10_wasSum v10_wasCoefficient v10_hasImage v10_letter v10_letters v10_list v10_cell v10_refusals v10_tried v10_left v10_high v10_then v10_at v10_readSize v10_firstOf v10_sizeOf v10_longOf v10_row v10_character v10_sum v10_coefficient v10_undone v10_wasSum v10_wasCoefficient v10_hasImage v10_letter v10_letters v10_list v10_cell v10_refusals v10_tried v10_left v10_high v10_then v10_at v10_readSize) (c_X10_shapeTried l D cyI cyJ G a H.size v10_firstOf v10_sizeOf v10_longOf v10_row v10_character v10_sum v10_coefficient v10_undone v10_wasSum v10_wasCoefficient v10_hasImage v10_letter v10_letters v10_list v10_cell v10_refusals v10_tried v10_left v10_high v10_then v10_at v10_readSize r_10 hk_11) pk_X10_shapeTried mw_4_172 ⟨rfl, rfl, Nat.le_of_ble_eq_true rfl, Nat.le_of_ble_eq_true rfl⟩ rfl rfl rfl rfl rfl (Nat.le_of_ble_eq_true rfl) ⟨Nat.le_of_ble_eq_true rfl, Nat.le_of_ble_eq_true rfl⟩ dX10_turnedOf_31 (fun H locs hP hD hS => ?_)
        obtain ⟨rfl, rfl⟩ := po_2 hf
        rw [← hQ]; exact xe_iret Cx rfl hP hD hS dX10_turnedOf_34
      · have hf := pe_f hf hc_9
        refine lv_aload_n hx hb dX10_turnedOf_12 rfl (lv_at hl 0 rfl) ?_
        refine va_get (ci := 10) (v := .ref (a 42)) hx hb hts wX10_in hown hK hP 0 rfl rfl 16 (by decide) (hts _ mw_4_208) (fun _ h9 => h9) rfl dX10_turnedOf_13 ?_
        refine lv_iload_n hx hb dX10_turnedOf_16 rfl (lv_at hl 2 rfl) ?_
        refine lv_aload_n hx hb dX10_turnedOf_17 rfl (lv_at hl 0 rfl) ?_
        refine lv_iload_n hx hb dX10_turnedOf_18 rfl (lv_at hl 1 rfl) ?_
        refine lv_iload_n hx hb dX10_turnedOf_19 rfl (lv_at hl 2 rfl) ?_
        obtain ⟨r_12, hk_13, hf⟩ := pe_1 hf
        refine xv_i (As := [.int y1, .int y2]) (rest := [.int y2, .ref (a 42)]) (q0 := 0) (ci := 10) Cx hP hD hS hl (pl_X10_X10 a cyI cyJ v10_firstOf v10_sizeOf v10_longOf v10_row v10_character v10_sum v10_coefficient v10_undone v10_wasSum v10_wasCoefficient v10_hasImage v10_letter v10_letters v10_list v10_cell v10_refusals v10_tried v10_left v10_high v10_then v10_at v10_readSize v10_firstOf v10_sizeOf v10_longOf v10_row v10_character v10_sum v10_coefficient v10_undone v10_wasSum v10_wasCoefficient v10_hasImage v10_letter v10_letters v10_list v10_cell v10_refusals v10_tried v10_left v10_high v10_then v10_at v10_readSize) (c_X10_column l D cyI cyJ G a H.size v10_firstOf v10_sizeOf v10_longOf v10_row v10_character v10_sum v10_coefficient v10_undone v10_wasSum v10_wasCoefficient v10_hasImage v10_letter v10_letters v10_list v10_cell v10_refusals v10_tried v10_left v10_high v10_then v10_at v10_readSize y1 y2 r_12 hk_13) pk_X10_column mw_4_184 ⟨rfl, rfl, Nat.le_of_ble_eq_true rfl, Nat.le_of_ble_eq_true rfl⟩ rfl rfl rfl rfl rfl (Nat.le_of_ble_eq_true rfl) ⟨Nat.le_of_ble_eq_true rfl, Nat.le_of_ble_eq_true rfl⟩ dX10_turnedOf_20 (fun H locs hP hD hS => ?_)
        obtain ⟨hi_14, hf⟩ := pe_in hf
        refine va_iast hx hb hK hP hD hS 14 0 rfl rfl hi_14 dX10_turnedOf_23 (fun H locs hP hD hS => ?_)
        have hP : va_P D xcl (wd_X10 a cyI cyJ v10_firstOf v10_sizeOf v10_longOf v10_row v10_character v10_sum v10_coefficient v10_undone v10_wasSum v10_wasCoefficient v10_hasImage v10_letter v10_letters v10_list v10_cell v10_refusals (upd v10_tried (Int32.toNatClampNeg y2) r_12) v10_left v10_high v10_then v10_at v10_readSize) H := hP
        have hD : va_D A (wd_X10 a cyI cyJ v10_firstOf v10_sizeOf v10_longOf v10_row v10_character v10_sum v10_coefficient v10_undone v10_wasSum v10_wasCoefficient v10_hasImage v10_letter v10_letters v10_list v10_cell v10_refusals (upd v10_tried (Int32.toNatClampNeg y2) r_12) v10_left v10_high v10_then v10_at v10_readSize) := hD
        refine lv_iinc (v := (y2 + (1 : Int32))) (lv' := [(2, .int (y2 + (1 : Int32))), (0, .ref (a 28)), (1, .int y1)]) hx hb dX10_turnedOf_24 hl (k := 2) rfl rfl (by decide) rfl (fun ls hl => ?_)
        refine lv_goto (tgt := 6) hx hb dX10_turnedOf_27 (by decide) ?_
        exact w_6 (upd v10_tried (Int32.toNatClampNeg y2) r_12) y1 (y2 + (1 : Int32)) H locs ls hf hP hD hS (lv_sub hl [1, 2, 0] rfl)
  refine lv_aload_n hx hb dX10_turnedOf_0 rfl (lv_at hl 0 rfl) ?_
  obtain ⟨v10_tried_15, hk_16, hf⟩ := pe_1 hf
  refine xv_v (As := []) (rest := []) (q0 := 0) (ci := 10) Cx hP hD hS hl (pl_X10_X10 a cyI cyJ v10_firstOf v10_sizeOf v10_longOf v10_row v10_character v10_sum v10_coefficient v10_undone v10_wasSum v10_wasCoefficient v10_hasImage v10_letter v10_letters v10_list v10_cell v10_refusals v10_tried v10_left v10_high v10_then v10_at v10_readSize v10_firstOf v10_sizeOf v10_longOf v10_row v10_character v10_sum v10_coefficient v10_undone v10_wasSum v10_wasCoefficient v10_hasImage v10_letter v10_letters v10_list v10_cell v10_refusals v10_tried_15 v10_left v10_high v10_then v10_at v10_readSize) (c_X10_triesNone l D cyI cyJ G a H.size v10_firstOf v10_sizeOf v10_longOf v10_row v10_character v10_sum v10_coefficient v10_undone v10_wasSum v10_wasCoefficient v10_hasImage v10_letter v10_letters v10_list v10_cell v10_refusals v10_tried v10_left v10_high v10_then v10_at v10_readSize v10_tried_15 hk_16) pk_X10_triesNone mw_4_168 ⟨rfl, rfl, Nat.le_of_ble_eq_true rfl, Nat.le_of_ble_eq_true rfl⟩ rfl rfl rfl rfl rfl (Nat.le_of_ble_eq_true rfl) ⟨Nat.le_of_ble_eq_true rfl, Nat.le_of_ble_eq_true rfl⟩ dX10_turnedOf_1 (fun H locs hP hD hS => ?_)
  refine lv_iconst (v := (0 : Int32)) hx hb dX10_turnedOf_4 (by decide) ?_
  refine lv_istore_n (lv' := [(2, .int (0 : Int32)), (0, .ref (a 28)), (1, .int x1)]) hx hb dX10_turnedOf_5 rfl hl (by decide) rfl (fun ls hl => ?_)
  exact w_6 1000 v10_tried_15 x1 (0 : Int32) H locs ls hf hP hD hS (lv_sub hl [1, 2, 0] rfl)
def f_X10_hookOf (v10_longOf : Nat → Int32) (v10_row : Nat → Int32) (x1 : Int32) (x2 : Int32) (x3 : Int32) : Option (Int32) := p_b1 (f_X10_rowOf v10_row x1 x2) (fun r_1 => p_b1 (f_X10_column v10_longOf v10_row x1 x3) (fun r_3 => some (((((r_1 - x3) + r_3) - x2) - (1 : Int32)))))
set_option maxHeartbeats 4000000 in
set_option maxRecDepth 20000 in
theorem c_X10_hookOf (l : Launch) (D : va_G) (cyI cyJ : ClassId) (G a : Nat → Nat) (sz : Nat) (v10_firstOf : Nat → Int32) (v10_sizeOf : Nat → Int32) (v10_longOf : Nat → Int32) (v10_row : Nat → Int32) (v10_character : Nat → Int32) (v10_sum : Nat → Int32) (v10_coefficient : Nat → Int32) (v10_undone : Int32) (v10_wasSum : Nat → Int32) (v10_wasCoefficient : Nat → Int32) (v10_hasImage : Int32) (v10_letter : Nat → Int32) (v10_letters : Int32) (v10_list : Nat → Int32) (v10_cell : Nat → Int32) (v10_refusals : Nat → Int32) (v10_tried : Nat → Int32) (v10_left : Int32) (v10_high : Int32) (v10_then : Nat → Int64) (v10_at : Int32) (v10_readSize : Int32) (x1 : Int32) (x2 : Int32) (x3 : Int32) (ro : Int32) (hf : f_X10_hookOf v10_longOf v10_row x1 x2 x3 = some ro) : xm_i l yX10_hookOf (Cond.code yX10_hookOf cX10_hookOf 4 (some .int) :: xg_tbl) { frames := 2, cells := 0, slots := 0, locals := 46 } D xcl [(cyI, .int), (cyJ, .long)] G sz [.ref (a 28), .int x1, .int x2, .int x3] (wd_X10 a cyI cyJ v10_firstOf v10_sizeOf v10_longOf v10_row v10_character v10_sum v10_coefficient v10_undone v10_wasSum v10_wasCoefficient v10_hasImage v10_letter v10_letters v10_list v10_cell v10_refusals v10_tried v10_left v10_high v10_then v10_at v10_readSize) (wd_X10 a cyI cyJ v10_firstOf v10_sizeOf v10_longOf v10_row v10_character v10_sum v10_coefficient v10_undone v10_wasSum v10_wasCoefficient v10_hasImage v10_letter v10_letters v10_list v10_cell v10_refusals v10_tried v10_left v10_high v10_then v10_at v10_readSize) ro := by
  refine xm_of_i (own := RX10) (by decide) rfl rfl (Nat.le_of_ble_eq_true rfl) ?_
  intro p e s m args below meth c ls Q A hQ hAe hin Cx hsz hP hD hS hl
  have Cx1 := Cx
  obtain ⟨⟨hx, hb, hml, hown, hts⟩, hr, hlocks, hK, hA, hT⟩ := Cx1
  have hl : lv_has ls 4 [(0, .ref (a 28)), (1, .int x1), (2, .int x2), (3, .int x3)] := hl
  obtain ⟨H, eH⟩ : ∃ H, H = s.heap := ⟨_, rfl⟩
  obtain ⟨locs, eL⟩ : ∃ L : List Loc, L = [] := ⟨_, rfl⟩
  rw [← eH] at hP
  have hS : va_S A s.heap H locs := by rw [eH, eL]; exact hS
  suffices hgo : W p l e { frames := 2, cells := 0, slots := 0, locals := 46 } s m args below meth c H locs 0 0 Q (F0 m 0 ls []) by rw [eH, eL] at hgo; exact hgo
  clear eH eL
  unfold f_X10_hookOf at hf
  refine lv_aload_n hx hb dX10_hookOf_0 rfl (lv_at hl 0 rfl) ?_
  refine lv_iload_n hx hb dX10_hookOf_1 rfl (lv_at hl 1 rfl) ?_
  refine lv_iload_n hx hb dX10_hookOf_2 rfl (lv_at hl 2 rfl) ?_
  obtain ⟨r_5, hk_6, hf⟩ := pe_1 hf
  refine xv_i (As := [.int x1, .int x2]) (rest := []) (q0 := 0) (ci := 10) Cx hP hD hS hl (pl_X10_X10 a cyI cyJ v10_firstOf v10_sizeOf v10_longOf v10_row v10_character v10_sum v10_coefficient v10_undone v10_wasSum v10_wasCoefficient v10_hasImage v10_letter v10_letters v10_list v10_cell v10_refusals v10_tried v10_left v10_high v10_then v10_at v10_readSize v10_firstOf v10_sizeOf v10_longOf v10_row v10_character v10_sum v10_coefficient v10_undone v10_wasSum v10_wasCoefficient v10_hasImage v10_letter v10_letters v10_list v10_cell v10_refusals v10_tried v10_left v10_high v10_then v10_at v10_readSize) (c_X10_rowOf l D cyI cyJ G a H.size v10_firstOf v10_sizeOf v10_longOf v10_row v10_character v10_sum v10_coefficient v10_undone v10_wasSum v10_wasCoefficient v10_hasImage v10_letter v10_letters v10_list v10_cell v10_refusals v10_tried v10_left v10_high v10_then v10_at v10_readSize x1 x2 r_5 hk_6) pk_X10_rowOf mw_4_159 ⟨rfl, rfl, Nat.le_of_ble_eq_true rfl, Nat.le_of_ble_eq_true rfl⟩ rfl rfl rfl rfl rfl (Nat.le_of_ble_eq_true rfl) ⟨Nat.le_of_ble_eq_true rfl, Nat.le_of_ble_eq_true rfl⟩ dX10_hookOf_3 (fun H locs hP hD hS => ?_)
  refine lv_iload_n hx hb dX10_hookOf_6 rfl (lv_at hl 3 rfl) ?_
  refine lv_isub hx hb dX10_hookOf_7 ?_
  refine lv_aload_n hx hb dX10_hookOf_8 rfl (lv_at hl 0 rfl) ?_
  refine lv_iload_n hx hb dX10_hookOf_9 rfl (lv_at hl 1 rfl) ?_
  refine lv_iload_n hx hb dX10_hookOf_10 rfl (lv_at hl 3 rfl) ?_
  obtain ⟨r_7, hk_8, hf⟩ := pe_1 hf
  refine xv_i (As := [.int x1, .int x3]) (rest := [.int (r_5 - x3)]) (q0 := 0) (ci := 10) Cx hP hD hS hl (pl_X10_X10 a cyI cyJ v10_firstOf v10_sizeOf v10_longOf v10_row v10_character v10_sum v10_coefficient v10_undone v10_wasSum v10_wasCoefficient v10_hasImage v10_letter v10_letters v10_list v10_cell v10_refusals v10_tried v10_left v10_high v10_then v10_at v10_readSize v10_firstOf v10_sizeOf v10_longOf v10_row v10_character v10_sum v10_coefficient v10_undone v10_wasSum v10_wasCoefficient v10_hasImage v10_letter v10_letters v10_list v10_cell v10_refusals v10_tried v10_left v10_high v10_then v10_at v10_readSize) (c_X10_column l D cyI cyJ G a H.size v10_firstOf v10_sizeOf v10_longOf v10_row v10_character v10_sum v10_coefficient v10_undone v10_wasSum v10_wasCoefficient v10_hasImage v10_letter v10_letters v10_list v10_cell v10_refusals v10_tried v10_left v10_high v10_then v10_at v10_readSize x1 x3 r_7 hk_8) pk_X10_column mw_4_184 ⟨rfl, rfl, Nat.le_of_ble_eq_true rfl, Nat.le_of_ble_eq_true rfl⟩ rfl rfl rfl rfl rfl (Nat.le_of_ble_eq_true rfl) ⟨Nat.le_of_ble_eq_true rfl, Nat.le_of_ble_eq_true rfl⟩ dX10_hookOf_11 (fun H locs hP hD hS => ?_)
  refine lv_iadd hx hb dX10_hookOf_14 ?_
  refine lv_iload_n hx hb dX10_hookOf_15 rfl (lv_at hl 2 rfl) ?_
  refine lv_isub hx hb dX10_hookOf_16 ?_
  refine lv_iconst (v := (1 : Int32)) hx hb dX10_hookOf_17 (by decide) ?_
  refine lv_isub hx hb dX10_hookOf_18 ?_
  obtain rfl := po_1 hf
  rw [← hQ]; exact xe_iret Cx rfl hP hD hS dX10_hookOf_19
def gf_X10_times_4 (K_4 : Int32 → Int32 → Int32 → Option (Int32)) (y0 : Int32) (y1 : Int32) (y2 : Int32) : Option (Int32) := if y0 < y2 then (some (y1)) else (K_4 y0 (y1 * y2) (y2 + (1 : Int32)))
def f_X10_times_4 : Nat → Int32 → Int32 → Int32 → Option (Int32)
  | 0 => fun _ _ _ => none
  | n + 1 => gf_X10_times_4 (f_X10_times_4 n)
def f_X10_times (x0 : Int32) : Option (Int32) := (f_X10_times_4 1000) x0 (1 : Int32) (2 : Int32)
set_option maxHeartbeats 4000000 in
set_option maxRecDepth 20000 in
theorem c_X10_times (l : Launch) (D : va_G) (cyI cyJ : ClassId) (G : Nat → Nat) (sz : Nat) (x0 : Int32) (ro : Int32) (hf : f_X10_times x0 = some ro) : xm_i l yX10_times (Cond.code yX10_times cX10_times 3 (some .int) :: xg_tbl) { frames := 0, cells := 0, slots := 0, locals := 0 } D xcl [(cyI, .int), (cyJ, .long)] G sz [.int x0] [] [] ro := by
  refine xm_of_i (own := RX10) (by decide) rfl rfl (Nat.le_of_ble_eq_true rfl) ?_
  intro p e s m args below meth c ls Q A hQ hAe hin Cx hsz hP hD hS hl
  have Cx1 := Cx
  obtain ⟨⟨hx, hb, hml, hown, hts⟩, hr, hlocks, hK, hA, hT⟩ := Cx1
  have hl : lv_has ls 3 [(0, .int x0)] := hl
  obtain ⟨H, eH⟩ : ∃ H, H = s.heap := ⟨_, rfl⟩
  obtain ⟨locs, eL⟩ : ∃ L : List Loc, L = [] := ⟨_, rfl⟩
  rw [← eH] at hP
  have hS : va_S A s.heap H locs := by rw [eH, eL]; exact hS
  suffices hgo : W p l e { frames := 0, cells := 0, slots := 0, locals := 0 } s m args below meth c H locs 0 0 Q (F0 m 0 ls []) by rw [eH, eL] at hgo; exact hgo
  clear eH eL
  unfold f_X10_times at hf
  have w_4 : ∀ (n_4 : Nat) (y0 : Int32) (y1 : Int32) (y2 : Int32) (H : Heap) (locs : List Loc) (ls : Array Slot), f_X10_times_4 n_4 y0 y1 y2 = some ro → va_P D xcl [] H → va_D A [] → va_S A s.heap H locs → lv_has ls 3 [(0, .int y0), (1, .int y1), (2, .int y2)] → W p l e { frames := 0, cells := 0, slots := 0, locals := 0 } s m args below meth c H locs 0 0 Q (F0 m 4 ls []) := by
    intro n_4
    induction n_4 with
    | zero => intro y0 y1 y2 H locs ls hf; exact absurd hf (by intro h9; cases h9)
    | succ n_4 w_4 =>
      intro y0 y1 y2 H locs ls hf hP hD hS hl
      have hf : gf_X10_times_4 (f_X10_times_4 n_4) y0 y1 y2 = some ro := hf
      unfold gf_X10_times_4 at hf
      refine lv_iload_n hx hb dX10_times_4 rfl (lv_at hl 2 rfl) ?_
      refine lv_iload_n hx hb dX10_times_5 rfl (lv_at hl 0 rfl) ?_
      refine lv_icmp_gt (tgt := 19) hx hb dX10_times_6 (by decide) (fun hc_2 => ?_) (fun hc_2 => ?_)
      · have hf := pe_t hf hc_2
        refine lv_iload_n hx hb dX10_times_19 rfl (lv_at hl 1 rfl) ?_
        obtain rfl := po_1 hf
        rw [← hQ]; exact xe_iret Cx rfl hP hD hS dX10_times_20
      · have hf := pe_f hf hc_2
        refine lv_iload_n hx hb dX10_times_9 rfl (lv_at hl 1 rfl) ?_
        refine lv_iload_n hx hb dX10_times_10 rfl (lv_at hl 2 rfl) ?_
        refine lv_imul hx hb dX10_times_11 ?_
        refine lv_istore_n (lv' := [(1, .int (y1 * y2)), (0, .int y0), (2, .int y2)]) hx hb dX10_times_12 rfl hl (by decide) rfl (fun ls hl => ?_)
        refine lv_iinc (v := (y2 + (1 : Int32))) (lv' := [(2, .int (y2 + (1 : Int32))), (1, .int (y1 * y2)), (0, .int y0)]) hx hb dX10_times_13 hl (k := 2) rfl rfl (by decide) rfl (fun ls hl => ?_)
        refine lv_goto (tgt := 4) hx hb dX10_times_16 (by decide) ?_
        exact w_4 y0 (y1 * y2) (y2 + (1 : Int32)) H locs ls hf hP hD hS (lv_sub hl [2, 1, 0] rfl)
  refine lv_iconst (v := (1 : Int32)) hx hb dX10_times_0 (by decide) ?_
  refine lv_istore_n (lv' := [(1, .int (1 : Int32)), (0, .int x0)]) hx hb dX10_times_1 rfl hl (by decide) rfl (fun ls hl => ?_)
  refine lv_iconst (v := (2 : Int32)) hx hb dX10_times_2 (by decide) ?_
  refine lv_istore_n (lv' := [(2, .int (2 : Int32)), (1, .int (1 : Int32)), (0, .int x0)]) hx hb dX10_times_3 rfl hl (by decide) rfl (fun ls hl => ?_)
  exact w_4 1000 x0 (1 : Int32) (2 : Int32) H locs ls hf hP hD hS (lv_sub hl [2, 1, 0] rfl)
