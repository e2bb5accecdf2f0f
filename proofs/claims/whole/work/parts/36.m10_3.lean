def gf_X10_keeps_31 (K_31 : (Nat → Int32) → (Nat → Int32) → Int32 → Int32 → Option ((Nat → Int32) × (Nat → Int32))) (v10_sum : Nat → Int32) (v10_coefficient : Nat → Int32) (v10_wasSum : Nat → Int32) (v10_wasCoefficient : Nat → Int32) (y1 : Int32) (y2 : Int32) : Option ((Nat → Int32) × (Nat → Int32)) := if (88 : Int32) ≤ y2 then (some (v10_wasSum, v10_wasCoefficient)) else (p_in y2 88 (p_in (((88 : Int32) * y1) + y2) 792 (K_31 v10_wasSum (upd v10_wasCoefficient (Int32.toNatClampNeg (((88 : Int32) * y1) + y2)) (v10_coefficient (Int32.toNatClampNeg y2))) y1 (y2 + (1 : Int32)))))
def f_X10_keeps_31 (v10_sum : Nat → Int32) (v10_coefficient : Nat → Int32) : Nat → (Nat → Int32) → (Nat → Int32) → Int32 → Int32 → Option ((Nat → Int32) × (Nat → Int32))
  | 0 => fun _ _ _ _ => none
  | n + 1 => gf_X10_keeps_31 (f_X10_keeps_31 v10_sum v10_coefficient n) v10_sum v10_coefficient
def gf_X10_keeps_2 (K_2 : (Nat → Int32) → (Nat → Int32) → Int32 → Int32 → Option ((Nat → Int32) × (Nat → Int32))) (v10_sum : Nat → Int32) (v10_coefficient : Nat → Int32) (v10_wasSum : Nat → Int32) (v10_wasCoefficient : Nat → Int32) (y1 : Int32) (y2 : Int32) : Option ((Nat → Int32) × (Nat → Int32)) := if (4 : Int32) ≤ y2 then ((f_X10_keeps_31 v10_sum v10_coefficient 1000) v10_wasSum v10_wasCoefficient y1 (0 : Int32)) else (p_in y2 4 (p_in (((4 : Int32) * y1) + y2) 36 (K_2 (upd v10_wasSum (Int32.toNatClampNeg (((4 : Int32) * y1) + y2)) (v10_sum (Int32.toNatClampNeg y2))) v10_wasCoefficient y1 (y2 + (1 : Int32)))))
def f_X10_keeps_2 (v10_sum : Nat → Int32) (v10_coefficient : Nat → Int32) : Nat → (Nat → Int32) → (Nat → Int32) → Int32 → Int32 → Option ((Nat → Int32) × (Nat → Int32))
  | 0 => fun _ _ _ _ => none
  | n + 1 => gf_X10_keeps_2 (f_X10_keeps_2 v10_sum v10_coefficient n) v10_sum v10_coefficient
def f_X10_keeps (v10_sum : Nat → Int32) (v10_coefficient : Nat → Int32) (v10_wasSum : Nat → Int32) (v10_wasCoefficient : Nat → Int32) (x1 : Int32) : Option ((Nat → Int32) × (Nat → Int32)) := (f_X10_keeps_2 v10_sum v10_coefficient 1000) v10_wasSum v10_wasCoefficient x1 (0 : Int32)
set_option maxHeartbeats 4000000 in
set_option maxRecDepth 20000 in
theorem c_X10_keeps (l : Launch) (D : va_G) (cyI cyJ : ClassId) (G a : Nat → Nat) (sz : Nat) (v10_firstOf : Nat → Int32) (v10_sizeOf : Nat → Int32) (v10_longOf : Nat → Int32) (v10_row : Nat → Int32) (v10_character : Nat → Int32) (v10_sum : Nat → Int32) (v10_coefficient : Nat → Int32) (v10_undone : Int32) (v10_wasSum : Nat → Int32) (v10_wasCoefficient : Nat → Int32) (v10_hasImage : Int32) (v10_letter : Nat → Int32) (v10_letters : Int32) (v10_list : Nat → Int32) (v10_cell : Nat → Int32) (v10_refusals : Nat → Int32) (v10_tried : Nat → Int32) (v10_left : Int32) (v10_high : Int32) (v10_then : Nat → Int64) (v10_at : Int32) (v10_readSize : Int32) (x1 : Int32) (ov10_wasSum : Nat → Int32) (ov10_wasCoefficient : Nat → Int32) (hf : f_X10_keeps v10_sum v10_coefficient v10_wasSum v10_wasCoefficient x1 = some (ov10_wasSum, ov10_wasCoefficient)) : xm_v l yX10_keeps (Cond.code yX10_keeps cX10_keeps 3 none :: xg_tbl) { frames := 0, cells := 0, slots := 0, locals := 0 } D xcl [(cyI, .int), (cyJ, .long)] G sz [.ref (a 28), .int x1] (wd_X10 a cyI cyJ v10_firstOf v10_sizeOf v10_longOf v10_row v10_character v10_sum v10_coefficient v10_undone v10_wasSum v10_wasCoefficient v10_hasImage v10_letter v10_letters v10_list v10_cell v10_refusals v10_tried v10_left v10_high v10_then v10_at v10_readSize) (wd_X10 a cyI cyJ v10_firstOf v10_sizeOf v10_longOf v10_row v10_character v10_sum v10_coefficient v10_undone ov10_wasSum ov10_wasCoefficient v10_hasImage v10_letter v10_letters v10_list v10_cell v10_refusals v10_tried v10_left v10_high v10_then v10_at v10_readSize) := by
  refine xm_of_v (own := RX10) (by decide) rfl rfl (Nat.le_of_ble_eq_true rfl) ?_
  intro p e s m args below meth c ls Q A hQ hAe hin Cx hsz hP hD hS hl
  have Cx1 := Cx
  obtain ⟨⟨hx, hb, hml, hown, hts⟩, hr, hlocks, hK, hA, hT⟩ := Cx1
  have hl : lv_has ls 3 [(0, .ref (a 28)), (1, .int x1)] := hl
  obtain ⟨H, eH⟩ : ∃ H, H = s.heap := ⟨_, rfl⟩
  obtain ⟨locs, eL⟩ : ∃ L : List Loc, L = [] := ⟨_, rfl⟩
  rw [← eH] at hP
  have hS : va_S A s.heap H locs := by rw [eH, eL]; exact hS
  suffices hgo : W p l e { frames := 0, cells := 0, slots := 0, locals := 0 } s m args below meth c H locs 0 0 Q (F0 m 0 ls []) by rw [eH, eL] at hgo; exact hgo
  clear eH eL
  unfold f_X10_keeps at hf
  have w_2 : ∀ (n_2 : Nat) (v10_wasSum : Nat → Int32) (v10_wasCoefficient : Nat → Int32) (y1 : Int32) (y2 : Int32) (H : Heap) (locs : List Loc) (ls : Array Slot), (f_X10_keeps_2 v10_sum v10_coefficient) n_2 v10_wasSum v10_wasCoefficient y1 y2 = some (ov10_wasSum, ov10_wasCoefficient) → va_P D xcl (wd_X10 a cyI cyJ v10_firstOf v10_sizeOf v10_longOf v10_row v10_character v10_sum v10_coefficient v10_undone v10_wasSum v10_wasCoefficient v10_hasImage v10_letter v10_letters v10_list v10_cell v10_refusals v10_tried v10_left v10_high v10_then v10_at v10_readSize) H → va_D A (wd_X10 a cyI cyJ v10_firstOf v10_sizeOf v10_longOf v10_row v10_character v10_sum v10_coefficient v10_undone v10_wasSum v10_wasCoefficient v10_hasImage v10_letter v10_letters v10_list v10_cell v10_refusals v10_tried v10_left v10_high v10_then v10_at v10_readSize) → va_S A s.heap H locs → lv_has ls 3 [(0, .ref (a 28)), (1, .int y1), (2, .int y2)] → W p l e { frames := 0, cells := 0, slots := 0, locals := 0 } s m args below meth c H locs 0 0 Q (F0 m 2 ls []) := by
    intro n_2
    induction n_2 with
    | zero => intro v10_wasSum v10_wasCoefficient y1 y2 H locs ls hf; exact absurd hf (by intro h9; cases h9)
    | succ n_2 w_2 =>
      intro v10_wasSum v10_wasCoefficient y1 y2 H locs ls hf hP hD hS hl
      have hf : gf_X10_keeps_2 ((f_X10_keeps_2 v10_sum v10_coefficient) n_2) v10_sum v10_coefficient v10_wasSum v10_wasCoefficient y1 y2 = some (ov10_wasSum, ov10_wasCoefficient) := hf
      unfold gf_X10_keeps_2 at hf
      have w_31 : ∀ (n_31 : Nat) (v10_wasSum : Nat → Int32) (v10_wasCoefficient : Nat → Int32) (y1 : Int32) (y2 : Int32) (H : Heap) (locs : List Loc) (ls : Array Slot), (f_X10_keeps_31 v10_sum v10_coefficient) n_31 v10_wasSum v10_wasCoefficient y1 y2 = some (ov10_wasSum, ov10_wasCoefficient) → va_P D xcl (wd_X10 a cyI cyJ v10_firstOf v10_sizeOf v10_longOf v10_row v10_character v10_sum v10_coefficient v10_undone v10_wasSum v10_wasCoefficient v10_hasImage v10_letter v10_letters v10_list v10_cell v10_refusals v10_tried v10_left v10_high v10_then v10_at v10_readSize) H → va_D A (wd_X10 a cyI cyJ v10_firstOf v10_sizeOf v10_longOf v10_row v10_character v10_sum v10_coefficient v10_undone v10_wasSum v10_wasCoefficient v10_hasImage v10_letter v10_letters v10_list v10_cell v10_refusals v10_tried v10_left v10_high v10_then v10_at v10_readSize) → va_S A s.heap H locs → lv_has ls 3 [(0, .ref (a 28)), (1, .int y1), (2, .int y2)] → W p l e { frames := 0, cells := 0, slots := 0, locals := 0 } s m args below meth c H locs 0 0 Q (F0 m 31 ls []) := by
        intro n_31
        induction n_31 with
        | zero => intro v10_wasSum v10_wasCoefficient y1 y2 H locs ls hf; exact absurd hf (by intro h9; cases h9)
        | succ n_31 w_31 =>
          intro v10_wasSum v10_wasCoefficient y1 y2 H locs ls hf hP hD hS hl
          have hf : gf_X10_keeps_31 ((f_X10_keeps_31 v10_sum v10_coefficient) n_31) v10_sum v10_coefficient v10_wasSum v10_wasCoefficient y1 y2 = some (ov10_wasSum, ov10_wasCoefficient) := hf
          unfold gf_X10_keeps_31 at hf
          refine lv_iload_n hx hb dX10_keeps_31 rfl (lv_at hl 2 rfl) ?_
          refine lv_bipush (v := (88 : Int32)) hx hb dX10_keeps_32 (by decide) ?_
          refine lv_icmp_ge (tgt := 60) hx hb dX10_keeps_34 (by decide) (fun hc_7 => ?_) (fun hc_7 => ?_)
          · have hf := pe_t hf hc_7
            obtain ⟨rfl, rfl⟩ := po_2 hf
            rw [← hQ]; exact xe_vret Cx hP hD hS dX10_keeps_60
          · have hf := pe_f hf hc_7
            refine lv_aload_n hx hb dX10_keeps_37 rfl (lv_at hl 0 rfl) ?_
            refine va_get (ci := 10) (v := .ref (a 37)) hx hb hts wX10_in hown hK hP 0 rfl rfl 9 (by decide) (hts _ mw_4_201) (fun _ h9 => h9) rfl dX10_keeps_38 ?_
            refine lv_bipush (v := (88 : Int32)) hx hb dX10_keeps_41 (by decide) ?_
            refine lv_iload_n hx hb dX10_keeps_43 rfl (lv_at hl 1 rfl) ?_
            refine lv_imul hx hb dX10_keeps_44 ?_
            refine lv_iload_n hx hb dX10_keeps_45 rfl (lv_at hl 2 rfl) ?_
            refine lv_iadd hx hb dX10_keeps_46 ?_
            refine lv_aload_n hx hb dX10_keeps_47 rfl (lv_at hl 0 rfl) ?_
            refine va_get (ci := 10) (v := .ref (a 35)) hx hb hts wX10_in hown hK hP 0 rfl rfl 6 (by decide) (hts _ mw_4_198) (fun _ h9 => h9) rfl dX10_keeps_48 ?_
            refine lv_iload_n hx hb dX10_keeps_51 rfl (lv_at hl 2 rfl) ?_
            obtain ⟨hi_8, hf⟩ := pe_in hf
            refine va_iald hx hb hK hP 7 0 rfl rfl hi_8 dX10_keeps_52 ?_
            obtain ⟨hi_9, hf⟩ := pe_in hf
            refine va_iast hx hb hK hP hD hS 9 0 rfl rfl hi_9 dX10_keeps_53 (fun H locs hP hD hS => ?_)
            have hP : va_P D xcl (wd_X10 a cyI cyJ v10_firstOf v10_sizeOf v10_longOf v10_row v10_character v10_sum v10_coefficient v10_undone v10_wasSum (upd v10_wasCoefficient (Int32.toNatClampNeg (((88 : Int32) * y1) + y2)) (v10_coefficient (Int32.toNatClampNeg y2))) v10_hasImage v10_letter v10_letters v10_list v10_cell v10_refusals v10_tried v10_left v10_high v10_then v10_at v10_readSize) H := hP
            have hD : va_D A (wd_X10 a cyI cyJ v10_firstOf v10_sizeOf v10_longOf v10_row v10_character v10_sum v10_coefficient v10_undone v10_wasSum (upd v10_wasCoefficient (Int32.toNatClampNeg (((88 : Int32) * y1) + y2)) (v10_coefficient (Int32.toNatClampNeg y2))) v10_hasImage v10_letter v10_letters v10_list v10_cell v10_refusals v10_tried v10_left v10_high v10_then v10_at v10_readSize) := hD
            refine lv_iinc (v := (y2 + (1 : Int32))) (lv' := [(2, .int (y2 + (1 : Int32))), (0, .ref (a 28)), (1, .int y1)]) hx hb dX10_keeps_54 hl (k := 2) rfl rfl (by decide) rfl (fun ls hl => ?_)
            refine lv_goto (tgt := 31) hx hb dX10_keeps_57 (by decide) ?_
            exact w_31 v10_wasSum (upd v10_wasCoefficient (Int32.toNatClampNeg (((88 : Int32) * y1) + y2)) (v10_coefficient (Int32.toNatClampNeg y2))) y1 (y2 + (1 : Int32)) H locs ls hf hP hD hS (lv_sub hl [1, 2, 0] rfl)
      refine lv_iload_n hx hb dX10_keeps_2 rfl (lv_at hl 2 rfl) ?_
      refine lv_iconst (v := (4 : Int32)) hx hb dX10_keeps_3 (by decide) ?_
      refine lv_icmp_ge (tgt := 29) hx hb dX10_keeps_4 (by decide) (fun hc_10 => ?_) (fun hc_10 => ?_)
      · have hf := pe_t hf hc_10
        refine lv_iconst (v := (0 : Int32)) hx hb dX10_keeps_29 (by decide) ?_
        refine lv_istore_n (lv' := [(2, .int (0 : Int32)), (0, .ref (a 28)), (1, .int y1)]) hx hb dX10_keeps_30 rfl hl (by decide) rfl (fun ls hl => ?_)
        exact w_31 1000 v10_wasSum v10_wasCoefficient y1 (0 : Int32) H locs ls hf hP hD hS (lv_sub hl [1, 2, 0] rfl)
      · have hf := pe_f hf hc_10
        refine lv_aload_n hx hb dX10_keeps_7 rfl (lv_at hl 0 rfl) ?_
        refine va_get (ci := 10) (v := .ref (a 36)) hx hb hts wX10_in hown hK hP 0 rfl rfl 8 (by decide) (hts _ mw_4_200) (fun _ h9 => h9) rfl dX10_keeps_8 ?_
        refine lv_iconst (v := (4 : Int32)) hx hb dX10_keeps_11 (by decide) ?_
        refine lv_iload_n hx hb dX10_keeps_12 rfl (lv_at hl 1 rfl) ?_
        refine lv_imul hx hb dX10_keeps_13 ?_
        refine lv_iload_n hx hb dX10_keeps_14 rfl (lv_at hl 2 rfl) ?_
        refine lv_iadd hx hb dX10_keeps_15 ?_
        refine lv_aload_n hx hb dX10_keeps_16 rfl (lv_at hl 0 rfl) ?_
        refine va_get (ci := 10) (v := .ref (a 34)) hx hb hts wX10_in hown hK hP 0 rfl rfl 5 (by decide) (hts _ mw_4_197) (fun _ h9 => h9) rfl dX10_keeps_17 ?_
        refine lv_iload_n hx hb dX10_keeps_20 rfl (lv_at hl 2 rfl) ?_
        obtain ⟨hi_11, hf⟩ := pe_in hf
        refine va_iald hx hb hK hP 6 0 rfl rfl hi_11 dX10_keeps_21 ?_
        obtain ⟨hi_12, hf⟩ := pe_in hf
        refine va_iast hx hb hK hP hD hS 8 0 rfl rfl hi_12 dX10_keeps_22 (fun H locs hP hD hS => ?_)
        have hP : va_P D xcl (wd_X10 a cyI cyJ v10_firstOf v10_sizeOf v10_longOf v10_row v10_character v10_sum v10_coefficient v10_undone (upd v10_wasSum (Int32.toNatClampNeg (((4 : Int32) * y1) + y2)) (v10_sum (Int32.toNatClampNeg y2))) v10_wasCoefficient v10_hasImage v10_letter v10_letters v10_list v10_cell v10_refusals v10_tried v10_left v10_high v10_then v10_at v10_readSize) H := hP
        have hD : va_D A (wd_X10 a cyI cyJ v10_firstOf v10_sizeOf v10_longOf v10_row v10_character v10_sum v10_coefficient v10_undone (upd v10_wasSum (Int32.toNatClampNeg (((4 : Int32) * y1) + y2)) (v10_sum (Int32.toNatClampNeg y2))) v10_wasCoefficient v10_hasImage v10_letter v10_letters v10_list v10_cell v10_refusals v10_tried v10_left v10_high v10_then v10_at v10_readSize) := hD
        refine lv_iinc (v := (y2 + (1 : Int32))) (lv' := [(2, .int (y2 + (1 : Int32))), (0, .ref (a 28)), (1, .int y1)]) hx hb dX10_keeps_23 hl (k := 2) rfl rfl (by decide) rfl (fun ls hl => ?_)
        refine lv_goto (tgt := 2) hx hb dX10_keeps_26 (by decide) ?_
        exact w_2 (upd v10_wasSum (Int32.toNatClampNeg (((4 : Int32) * y1) + y2)) (v10_sum (Int32.toNatClampNeg y2))) v10_wasCoefficient y1 (y2 + (1 : Int32)) H locs ls hf hP hD hS (lv_sub hl [1, 2, 0] rfl)
  refine lv_iconst (v := (0 : Int32)) hx hb dX10_keeps_0 (by decide) ?_
  refine lv_istore_n (lv' := [(2, .int (0 : Int32)), (0, .ref (a 28)), (1, .int x1)]) hx hb dX10_keeps_1 rfl hl (by decide) rfl (fun ls hl => ?_)
  exact w_2 1000 v10_wasSum v10_wasCoefficient x1 (0 : Int32) H locs ls hf hP hD hS (lv_sub hl [1, 2, 0] rfl)
def gf_X10_laysBack_31 (K_31 : (Nat → Int32) → (Nat → Int32) → Int32 → Int32 → Option ((Nat → Int32) × (Nat → Int32))) (v10_wasSum : Nat → Int32) (v10_wasCoefficient : Nat → Int32) (v10_sum : Nat → Int32) (v10_coefficient : Nat → Int32) (y1 : Int32) (y2 : Int32) : Option ((Nat → Int32) × (Nat → Int32)) := if (88 : Int32) ≤ y2 then (some (v10_sum, v10_coefficient)) else (p_in (((88 : Int32) * y1) + y2) 792 (p_in y2 88 (K_31 v10_sum (upd v10_coefficient (Int32.toNatClampNeg y2) (v10_wasCoefficient (Int32.toNatClampNeg (((88 : Int32) * y1) + y2)))) y1 (y2 + (1 : Int32)))))
def f_X10_laysBack_31 (v10_wasSum : Nat → Int32) (v10_wasCoefficient : Nat → Int32) : Nat → (Nat → Int32) → (Nat → Int32) → Int32 → Int32 → Option ((Nat → Int32) × (Nat → Int32))
  | 0 => fun _ _ _ _ => none
  | n + 1 => gf_X10_laysBack_31 (f_X10_laysBack_31 v10_wasSum v10_wasCoefficient n) v10_wasSum v10_wasCoefficient
def gf_X10_laysBack_2 (K_2 : (Nat → Int32) → (Nat → Int32) → Int32 → Int32 → Option ((Nat → Int32) × (Nat → Int32))) (v10_wasSum : Nat → Int32) (v10_wasCoefficient : Nat → Int32) (v10_sum : Nat → Int32) (v10_coefficient : Nat → Int32) (y1 : Int32) (y2 : Int32) : Option ((Nat → Int32) × (Nat → Int32)) := if (4 : Int32) ≤ y2 then ((f_X10_laysBack_31 v10_wasSum v10_wasCoefficient 1000) v10_sum v10_coefficient y1 (0 : Int32)) else (p_in (((4 : Int32) * y1) + y2) 36 (p_in y2 4 (K_2 (upd v10_sum (Int32.toNatClampNeg y2) (v10_wasSum (Int32.toNatClampNeg (((4 : Int32) * y1) + y2)))) v10_coefficient y1 (y2 + (1 : Int32)))))
def f_X10_laysBack_2 (v10_wasSum : Nat → Int32) (v10_wasCoefficient : Nat → Int32) : Nat → (Nat → Int32) → (Nat → Int32) → Int32 → Int32 → Option ((Nat → Int32) × (Nat → Int32))
  | 0 => fun _ _ _ _ => none
  | n + 1 => gf_X10_laysBack_2 (f_X10_laysBack_2 v10_wasSum v10_wasCoefficient n) v10_wasSum v10_wasCoefficient
def f_X10_laysBack (v10_sum : Nat → Int32) (v10_coefficient : Nat → Int32) (v10_wasSum : Nat → Int32) (v10_wasCoefficient : Nat → Int32) (x1 : Int32) : Option ((Nat → Int32) × (Nat → Int32)) := (f_X10_laysBack_2 v10_wasSum v10_wasCoefficient 1000) v10_sum v10_coefficient x1 (0 : Int32)
set_option maxHeartbeats 4000000 in
set_option maxRecDepth 20000 in
theorem c_X10_laysBack (l : Launch) (D : va_G) (cyI cyJ : ClassId) (G a : Nat → Nat) (sz : Nat) (v10_firstOf : Nat → Int32) (v10_sizeOf : Nat → Int32) (v10_longOf : Nat → Int32) (v10_row : Nat → Int32) (v10_character : Nat → Int32) (v10_sum : Nat → Int32) (v10_coefficient : Nat → Int32) (v10_undone : Int32) (v10_wasSum : Nat → Int32) (v10_wasCoefficient : Nat → Int32) (v10_hasImage : Int32) (v10_letter : Nat → Int32) (v10_letters : Int32) (v10_list : Nat → Int32) (v10_cell : Nat → Int32) (v10_refusals : Nat → Int32) (v10_tried : Nat → Int32) (v10_left : Int32) (v10_high : Int32) (v10_then : Nat → Int64) (v10_at : Int32) (v10_readSize : Int32) (x1 : Int32) (ov10_sum : Nat → Int32) (ov10_coefficient : Nat → Int32) (hf : f_X10_laysBack v10_sum v10_coefficient v10_wasSum v10_wasCoefficient x1 = some (ov10_sum, ov10_coefficient)) : xm_v l yX10_laysBack (Cond.code yX10_laysBack cX10_laysBack 3 none :: xg_tbl) { frames := 0, cells := 0, slots := 0, locals := 0 } D xcl [(cyI, .int), (cyJ, .long)] G sz [.ref (a 28), .int x1] (wd_X10 a cyI cyJ v10_firstOf v10_sizeOf v10_longOf v10_row v10_character v10_sum v10_coefficient v10_undone v10_wasSum v10_wasCoefficient v10_hasImage v10_letter v10_letters v10_list v10_cell v10_refusals v10_tried v10_left v10_high v10_then v10_at v10_readSize) (wd_X10 a cyI cyJ v10_firstOf v10_sizeOf v10_longOf v10_row v10_character ov10_sum ov10_coefficient v10_undone v10_wasSum v10_wasCoefficient v10_hasImage v10_letter v10_letters v10_list v10_cell v10_refusals v10_tried v10_left v10_high v10_then v10_at v10_readSize) := by
  refine xm_of_v (own := RX10) (by decide) rfl rfl (Nat.le_of_ble_eq_true rfl) ?_
  intro p e s m args below meth c ls Q A hQ hAe hin Cx hsz hP hD hS hl
  have Cx1 := Cx
  obtain ⟨⟨hx, hb, hml, hown, hts⟩, hr, hlocks, hK, hA, hT⟩ := Cx1
  have hl : lv_has ls 3 [(0, .ref (a 28)), (1, .int x1)] := hl
  obtain ⟨H, eH⟩ : ∃ H, H = s.heap := ⟨_, rfl⟩
  obtain ⟨locs, eL⟩ : ∃ L : List Loc, L = [] := ⟨_, rfl⟩
  rw [← eH] at hP
  have hS : va_S A s.heap H locs := by rw [eH, eL]; exact hS
  suffices hgo : W p l e { frames := 0, cells := 0, slots := 0, locals := 0 } s m args below meth c H locs 0 0 Q (F0 m 0 ls []) by rw [eH, eL] at hgo; exact hgo
  clear eH eL
  unfold f_X10_laysBack at hf
  have w_2 : ∀ (n_2 : Nat) (v10_sum : Nat → Int32) (v10_coefficient : Nat → Int32) (y1 : Int32) (y2 : Int32) (H : Heap) (locs : List Loc) (ls : Array Slot), (f_X10_laysBack_2 v10_wasSum v10_wasCoefficient) n_2 v10_sum v10_coefficient y1 y2 = some (ov10_sum, ov10_coefficient) → va_P D xcl (wd_X10 a cyI cyJ v10_firstOf v10_sizeOf v10_longOf v10_row v10_character v10_sum v10_coefficient v10_undone v10_wasSum v10_wasCoefficient v10_hasImage v10_letter v10_letters v10_list v10_cell v10_refusals v10_tried v10_left v10_high v10_then v10_at v10_readSize) H → va_D A (wd_X10 a cyI cyJ v10_firstOf v10_sizeOf v10_longOf v10_row v10_character v10_sum v10_coefficient v10_undone v10_wasSum v10_wasCoefficient v10_hasImage v10_letter v10_letters v10_list v10_cell v10_refusals v10_tried v10_left v10_high v10_then v10_at v10_readSize) → va_S A s.heap H locs → lv_has ls 3 [(0, .ref (a 28)), (1, .int y1), (2, .int y2)] → W p l e { frames := 0, cells := 0, slots := 0, locals := 0 } s m args below meth c H locs 0 0 Q (F0 m 2 ls []) := by
    intro n_2
    induction n_2 with
    | zero => intro v10_sum v10_coefficient y1 y2 H locs ls hf; exact absurd hf (by intro h9; cases h9)
    | succ n_2 w_2 =>
      intro v10_sum v10_coefficient y1 y2 H locs ls hf hP hD hS hl
      have hf : gf_X10_laysBack_2 ((f_X10_laysBack_2 v10_wasSum v10_wasCoefficient) n_2) v10_wasSum v10_wasCoefficient v10_sum v10_coefficient y1 y2 = some (ov10_sum, ov10_coefficient) := hf
      unfold gf_X10_laysBack_2 at hf
      have w_31 : ∀ (n_31 : Nat) (v10_sum : Nat → Int32) (v10_coefficient : Nat → Int32) (y1 : Int32) (y2 : Int32) (H : Heap) (locs : List Loc) (ls : Array Slot), (f_X10_laysBack_31 v10_wasSum v10_wasCoefficient) n_31 v10_sum v10_coefficient y1 y2 = some (ov10_sum, ov10_coefficient) → va_P D xcl (wd_X10 a cyI cyJ v10_firstOf v10_sizeOf v10_longOf v10_row v10_character v10_sum v10_coefficient v10_undone v10_wasSum v10_wasCoefficient v10_hasImage v10_letter v10_letters v10_list v10_cell v10_refusals v10_tried v10_left v10_high v10_then v10_at v10_readSize) H → va_D A (wd_X10 a cyI cyJ v10_firstOf v10_sizeOf v10_longOf v10_row v10_character v10_sum v10_coefficient v10_undone v10_wasSum v10_wasCoefficient v10_hasImage v10_letter v10_letters v10_list v10_cell v10_refusals v10_tried v10_left v10_high v10_then v10_at v10_readSize) → va_S A s.heap H locs → lv_has ls 3 [(0, .ref (a 28)), (1, .int y1), (2, .int y2)] → W p l e { frames := 0, cells := 0, slots := 0, locals := 0 } s m args below meth c H locs 0 0 Q (F0 m 31 ls []) := by
        intro n_31
        induction n_31 with
        | zero => intro v10_sum v10_coefficient y1 y2 H locs ls hf; exact absurd hf (by intro h9; cases h9)
        | succ n_31 w_31 =>
          intro v10_sum v10_coefficient y1 y2 H locs ls hf hP hD hS hl
          have hf : gf_X10_laysBack_31 ((f_X10_laysBack_31 v10_wasSum v10_wasCoefficient) n_31) v10_wasSum v10_wasCoefficient v10_sum v10_coefficient y1 y2 = some (ov10_sum, ov10_coefficient) := hf
          unfold gf_X10_laysBack_31 at hf
          refine lv_iload_n hx hb dX10_laysBack_31 rfl (lv_at hl 2 rfl) ?_
          refine lv_bipush (v := (88 : Int32)) hx hb dX10_laysBack_32 (by decide) ?_
          refine lv_icmp_ge (tgt := 60) hx hb dX10_laysBack_34 (by decide) (fun hc_7 => ?_) (fun hc_7 => ?_)
          · have hf := pe_t hf hc_7
            obtain ⟨rfl, rfl⟩ := po_2 hf
            rw [← hQ]; exact xe_vret Cx hP hD hS dX10_laysBack_60
          · have hf := pe_f hf hc_7
            refine lv_aload_n hx hb dX10_laysBack_37 rfl (lv_at hl 0 rfl) ?_
            refine va_get (ci := 10) (v := .ref (a 35)) hx hb hts wX10_in hown hK hP 0 rfl rfl 6 (by decide) (hts _ mw_4_198) (fun _ h9 => h9) rfl dX10_laysBack_38 ?_
            refine lv_iload_n hx hb dX10_laysBack_41 rfl (lv_at hl 2 rfl) ?_
            refine lv_aload_n hx hb dX10_laysBack_42 rfl (lv_at hl 0 rfl) ?_
            refine va_get (ci := 10) (v := .ref (a 37)) hx hb hts wX10_in hown hK hP 0 rfl rfl 9 (by decide) (hts _ mw_4_201) (fun _ h9 => h9) rfl dX10_laysBack_43 ?_
            refine lv_bipush (v := (88 : Int32)) hx hb dX10_laysBack_46 (by decide) ?_
            refine lv_iload_n hx hb dX10_laysBack_48 rfl (lv_at hl 1 rfl) ?_
            refine lv_imul hx hb dX10_laysBack_49 ?_
            refine lv_iload_n hx hb dX10_laysBack_50 rfl (lv_at hl 2 rfl) ?_
            refine lv_iadd hx hb dX10_laysBack_51 ?_
            obtain ⟨hi_8, hf⟩ := pe_in hf
            refine va_iald hx hb hK hP 9 0 rfl rfl hi_8 dX10_laysBack_52 ?_
            obtain ⟨hi_9, hf⟩ := pe_in hf
            refine va_iast hx hb hK hP hD hS 7 0 rfl rfl hi_9 dX10_laysBack_53 (fun H locs hP hD hS => ?_)
            have hP : va_P D xcl (wd_X10 a cyI cyJ v10_firstOf v10_sizeOf v10_longOf v10_row v10_character v10_sum (upd v10_coefficient (Int32.toNatClampNeg y2) (v10_wasCoefficient (Int32.toNatClampNeg (((88 : Int32) * y1) + y2)))) v10_undone v10_wasSum v10_wasCoefficient v10_hasImage v10_letter v10_letters v10_list v10_cell v10_refusals v10_tried v10_left v10_high v10_then v10_at v10_readSize) H := hP
            have hD : va_D A (wd_X10 a cyI cyJ v10_firstOf v10_sizeOf v10_longOf v10_row v10_character v10_sum (upd v10_coefficient (Int32.toNatClampNeg y2) (v10_wasCoefficient (Int32.toNatClampNeg (((88 : Int32) * y1) + y2)))) v10_undone v10_wasSum v10_wasCoefficient v10_hasImage v10_letter v10_letters v10_list v10_cell v10_refusals v10_tried v10_left v10_high v10_then v10_at v10_readSize) := hD
            refine lv_iinc (v := (y2 + (1 : Int32))) (lv' := [(2, .int (y2 + (1 : Int32))), (0, .ref (a 28)), (1, .int y1)]) hx hb dX10_laysBack_54 hl (k := 2) rfl rfl (by decide) rfl (fun ls hl => ?_)
            refine lv_goto (tgt := 31) hx hb dX10_laysBack_57 (by decide) ?_
            exact w_31 v10_sum (upd v10_coefficient (Int32.toNatClampNeg y2) (v10_wasCoefficient (Int32.toNatClampNeg (((88 : Int32) * y1) + y2)))) y1 (y2 + (1 : Int32)) H locs ls hf hP hD hS (lv_sub hl [1, 2, 0] rfl)
      refine lv_iload_n hx hb dX10_laysBack_2 rfl (lv_at hl 2 rfl) ?_
      refine lv_iconst (v := (4 : Int32)) hx hb dX10_laysBack_3 (by decide) ?_
      refine lv_icmp_ge (tgt := 29) hx hb dX10_laysBack_4 (by decide) (fun hc_10 => ?_) (fun hc_10 => ?_)
      · have hf := pe_t hf hc_10
        refine lv_iconst (v := (0 : Int32)) hx hb dX10_laysBack_29 (by decide) ?_
        refine lv_istore_n (lv' := [(2, .int (0 : Int32)), (0, .ref (a 28)), (1, .int y1)]) hx hb dX10_laysBack_30 rfl hl (by decide) rfl (fun ls hl => ?_)
        exact w_31 1000 v10_sum v10_coefficient y1 (0 : Int32) H locs ls hf hP hD hS (lv_sub hl [1, 2, 0] rfl)
      · have hf := pe_f hf hc_10
        refine lv_aload_n hx hb dX10_laysBack_7 rfl (lv_at hl 0 rfl) ?_
        refine va_get (ci := 10) (v := .ref (a 34)) hx hb hts wX10_in hown hK hP 0 rfl rfl 5 (by decide) (hts _ mw_4_197) (fun _ h9 => h9) rfl dX10_laysBack_8 ?_
        refine lv_iload_n hx hb dX10_laysBack_11 rfl (lv_at hl 2 rfl) ?_
        refine lv_aload_n hx hb dX10_laysBack_12 rfl (lv_at hl 0 rfl) ?_
        refine va_get (ci := 10) (v := .ref (a 36)) hx hb hts wX10_in hown hK hP 0 rfl rfl 8 (by decide) (hts _ mw_4_200) (fun _ h9 => h9) rfl dX10_laysBack_13 ?_
        refine lv_iconst (v := (4 : Int32)) hx hb dX10_laysBack_16 (by decide) ?_
        refine lv_iload_n hx hb dX10_laysBack_17 rfl (lv_at hl 1 rfl) ?_
        refine lv_imul hx hb dX10_laysBack_18 ?_
        refine lv_iload_n hx hb dX10_laysBack_19 rfl (lv_at hl 2 rfl) ?_
        refine lv_iadd hx hb dX10_laysBack_20 ?_
        obtain ⟨hi_11, hf⟩ := pe_in hf
        refine va_iald hx hb hK hP 8 0 rfl rfl hi_11 dX10_laysBack_21 ?_
        obtain ⟨hi_12, hf⟩ := pe_in hf
        refine va_iast hx hb hK hP hD hS 6 0 rfl rfl hi_12 dX10_laysBack_22 (fun H locs hP hD hS => ?_)
        have hP : va_P D xcl (wd_X10 a cyI cyJ v10_firstOf v10_sizeOf v10_longOf v10_row v10_character (upd v10_sum (Int32.toNatClampNeg y2) (v10_wasSum (Int32.toNatClampNeg (((4 : Int32) * y1) + y2)))) v10_coefficient v10_undone v10_wasSum v10_wasCoefficient v10_hasImage v10_letter v10_letters v10_list v10_cell v10_refusals v10_tried v10_left v10_high v10_then v10_at v10_readSize) H := hP
        have hD : va_D A (wd_X10 a cyI cyJ v10_firstOf v10_sizeOf v10_longOf v10_row v10_character (upd v10_sum (Int32.toNatClampNeg y2) (v10_wasSum (Int32.toNatClampNeg (((4 : Int32) * y1) + y2)))) v10_coefficient v10_undone v10_wasSum v10_wasCoefficient v10_hasImage v10_letter v10_letters v10_list v10_cell v10_refusals v10_tried v10_left v10_high v10_then v10_at v10_readSize) := hD
        refine lv_iinc (v := (y2 + (1 : Int32))) (lv' := [(2, .int (y2 + (1 : Int32))), (0, .ref (a 28)), (1, .int y1)]) hx hb dX10_laysBack_23 hl (k := 2) rfl rfl (by decide) rfl (fun ls hl => ?_)
        refine lv_goto (tgt := 2) hx hb dX10_laysBack_26 (by decide) ?_
        exact w_2 (upd v10_sum (Int32.toNatClampNeg y2) (v10_wasSum (Int32.toNatClampNeg (((4 : Int32) * y1) + y2)))) v10_coefficient y1 (y2 + (1 : Int32)) H locs ls hf hP hD hS (lv_sub hl [1, 2, 0] rfl)
  refine lv_iconst (v := (0 : Int32)) hx hb dX10_laysBack_0 (by decide) ?_
  refine lv_istore_n (lv' := [(2, .int (0 : Int32)), (0, .ref (a 28)), (1, .int x1)]) hx hb dX10_laysBack_1 rfl hl (by decide) rfl (fun ls hl => ?_)
  exact w_2 1000 v10_sum v10_coefficient x1 (0 : Int32) H locs ls hf hP hD hS (lv_sub hl [1, 2, 0] rfl)
def f_X10_canBeUndone_77 (v10_sum : Nat → Int32) (v10_coefficient : Nat → Int32) (v10_undone : Int32) (v10_wasSum : Nat → Int32) (v10_wasCoefficient : Nat → Int32) : Option (Int32 × (Nat → Int32) × (Nat → Int32)) := p_b2 (f_X10_keeps v10_sum v10_coefficient v10_wasSum v10_wasCoefficient v10_undone) (fun v10_wasSum_1 v10_wasCoefficient_2 => some ((v10_undone + (1 : Int32)), v10_wasSum_1, v10_wasCoefficient_2))
def gf_X10_canBeUndone_39 (K_39 : Int32 → (Nat → Int32) → (Nat → Int32) → Int32 → Option (Int32 × (Nat → Int32) × (Nat → Int32))) (K_77 : Int32 → (Nat → Int32) → (Nat → Int32) → Option (Int32 × (Nat → Int32) × (Nat → Int32))) (v10_sum : Nat → Int32) (v10_coefficient : Nat → Int32) (v10_undone : Int32) (v10_wasSum : Nat → Int32) (v10_wasCoefficient : Nat → Int32) (y1 : Int32) : Option (Int32 × (Nat → Int32) × (Nat → Int32)) := if (616 : Int32) ≤ y1 then (K_77 (v10_undone - (1 : Int32)) v10_wasSum v10_wasCoefficient) else (p_in (y1 + (88 : Int32)) 792 (p_in y1 792 (K_39 v10_undone v10_wasSum (upd v10_wasCoefficient (Int32.toNatClampNeg y1) (v10_wasCoefficient (Int32.toNatClampNeg (y1 + (88 : Int32))))) (y1 + (1 : Int32)))))
def f_X10_canBeUndone_39 (K_77 : Int32 → (Nat → Int32) → (Nat → Int32) → Option (Int32 × (Nat → Int32) × (Nat → Int32))) (v10_sum : Nat → Int32) (v10_coefficient : Nat → Int32) : Nat → Int32 → (Nat → Int32) → (Nat → Int32) → Int32 → Option (Int32 × (Nat → Int32) × (Nat → Int32))
  | 0 => fun _ _ _ _ => none
  | n + 1 => gf_X10_canBeUndone_39 (f_X10_canBeUndone_39 K_77 v10_sum v10_coefficient n) K_77 v10_sum v10_coefficient
def gf_X10_canBeUndone_11 (K_11 : Int32 → (Nat → Int32) → (Nat → Int32) → Int32 → Option (Int32 × (Nat → Int32) × (Nat → Int32))) (K_77 : Int32 → (Nat → Int32) → (Nat → Int32) → Option (Int32 × (Nat → Int32) × (Nat → Int32))) (v10_sum : Nat → Int32) (v10_coefficient : Nat → Int32) (v10_undone : Int32) (v10_wasSum : Nat → Int32) (v10_wasCoefficient : Nat → Int32) (y1 : Int32) : Option (Int32 × (Nat → Int32) × (Nat → Int32)) := if (28 : Int32) ≤ y1 then ((f_X10_canBeUndone_39 K_77 v10_sum v10_coefficient 1000) v10_undone v10_wasSum v10_wasCoefficient (0 : Int32)) else (p_in (y1 + (4 : Int32)) 36 (p_in y1 36 (K_11 v10_undone (upd v10_wasSum (Int32.toNatClampNeg y1) (v10_wasSum (Int32.toNatClampNeg (y1 + (4 : Int32))))) v10_wasCoefficient (y1 + (1 : Int32)))))
def f_X10_canBeUndone_11 (K_77 : Int32 → (Nat → Int32) → (Nat → Int32) → Option (Int32 × (Nat → Int32) × (Nat → Int32))) (v10_sum : Nat → Int32) (v10_coefficient : Nat → Int32) : Nat → Int32 → (Nat → Int32) → (Nat → Int32) → Int32 → Option (Int32 × (Nat → Int32) × (Nat → Int32))
  | 0 => fun _ _ _ _ => none
  | n + 1 => gf_X10_canBeUndone_11 (f_X10_canBeUndone_11 K_77 v10_sum v10_coefficient n) K_77 v10_sum v10_coefficient
def f_X10_canBeUndone (v10_sum : Nat → Int32) (v10_coefficient : Nat → Int32) (v10_undone : Int32) (v10_wasSum : Nat → Int32) (v10_wasCoefficient : Nat → Int32) : Option (Int32 × (Nat → Int32) × (Nat → Int32)) := if v10_undone = (8 : Int32) then ((f_X10_canBeUndone_11 (f_X10_canBeUndone_77 v10_sum v10_coefficient) v10_sum v10_coefficient 1000) v10_undone v10_wasSum v10_wasCoefficient (0 : Int32)) else ((f_X10_canBeUndone_77 v10_sum v10_coefficient) v10_undone v10_wasSum v10_wasCoefficient)
set_option maxHeartbeats 4000000 in
set_option maxRecDepth 20000 in
theorem c_X10_canBeUndone (l : Launch) (D : va_G) (cyI cyJ : ClassId) (G a : Nat → Nat) (sz : Nat) (v10_firstOf : Nat → Int32) (v10_sizeOf : Nat → Int32) (v10_longOf : Nat → Int32) (v10_row : Nat → Int32) (v10_character : Nat → Int32) (v10_sum : Nat → Int32) (v10_coefficient : Nat → Int32) (v10_undone : Int32) (v10_wasSum : Nat → Int32) (v10_wasCoefficient : Nat → Int32) (v10_hasImage : Int32) (v10_letter : Nat → Int32) (v10_letters : Int32) (v10_list : Nat → Int32) (v10_cell : Nat → Int32) (v10_refusals : Nat → Int32) (v10_tried : Nat → Int32) (v10_left : Int32) (v10_high : Int32) (v10_then : Nat → Int64) (v10_at : Int32) (v10_readSize : Int32) (ov10_undone : Int32) (ov10_wasSum : Nat → Int32) (ov10_wasCoefficient : Nat → Int32) (hf : f_X10_canBeUndone v10_sum v10_coefficient v10_undone v10_wasSum v10_wasCoefficient = some (ov10_undone, ov10_wasSum, ov10_wasCoefficient)) : xm_v l yX10_canBeUndone (Cond.code yX10_canBeUndone cX10_canBeUndone 2 none :: xg_tbl) { frames := 1, cells := 0, slots := 0, locals := 22 } D xcl [(cyI, .int), (cyJ, .long)] G sz [.ref (a 28)] (wd_X10 a cyI cyJ v10_firstOf v10_sizeOf v10_longOf v10_row v10_character v10_sum v10_coefficient v10_undone v10_wasSum v10_wasCoefficient v10_hasImage v10_letter v10_letters v10_list v10_cell v10_refusals v10_tried v10_left v10_high v10_then v10_at v10_readSize) (wd_X10 a cyI cyJ v10_firstOf v10_sizeOf v10_longOf v10_row v10_character v10_sum v10_coefficient ov10_undone ov10_wasSum ov10_wasCoefficient v10_hasImage v10_letter v10_letters v10_list v10_cell v10_refusals v10_tried v10_left v10_high v10_then v10_at v10_readSize) := by
  refine xm_of_v (own := RX10) (by decide) rfl rfl (Nat.le_of_ble_eq_true rfl) ?_
  intro p e s m args below meth c ls Q A hQ hAe hin Cx hsz hP hD hS hl
  have Cx1 := Cx
  obtain ⟨⟨hx, hb, hml, hown, hts⟩, hr, hlocks, hK, hA, hT⟩ := Cx1
  have hl : lv_has ls 2 [(0, .ref (a 28))] := hl
  obtain ⟨H, eH⟩ : ∃ H, H = s.heap := ⟨_, rfl⟩
  obtain ⟨locs, eL⟩ : ∃ L : List Loc, L = [] := ⟨_, rfl⟩
  rw [← eH] at hP
  have hS : va_S A s.heap H locs := by rw [eH, eL]; exact hS
  suffices hgo : W p l e { frames := 1, cells := 0, slots := 0, locals := 22 } s m args below meth c H locs 0 0 Q (F0 m 0 ls []) by rw [eH, eL] at hgo; exact hgo
  clear eH eL
  unfold f_X10_canBeUndone at hf
  have w_77 : ∀ (v10_undone : Int32) (v10_wasSum : Nat → Int32) (v10_wasCoefficient : Nat → Int32) (H : Heap) (locs : List Loc) (ls : Array Slot), (f_X10_canBeUndone_77 v10_sum v10_coefficient) v10_undone v10_wasSum v10_wasCoefficient = some (ov10_undone, ov10_wasSum, ov10_wasCoefficient) → va_P D xcl (wd_X10 a cyI cyJ v10_firstOf v10_sizeOf v10_longOf v10_row v10_character v10_sum v10_coefficient v10_undone v10_wasSum v10_wasCoefficient v10_hasImage v10_letter v10_letters v10_list v10_cell v10_refusals v10_tried v10_left v10_high v10_then v10_at v10_readSize) H → va_D A (wd_X10 a cyI cyJ v10_firstOf v10_sizeOf v10_longOf v10_row v10_character v10_sum v10_coefficient v10_undone v10_wasSum v10_wasCoefficient v10_hasImage v10_letter v10_letters v10_list v10_cell v10_refusals v10_tried v10_left v10_high v10_then v10_at v10_readSize) → va_S A s.heap H locs → lv_has ls 2 [(0, .ref (a 28))] → W p l e { frames := 1, cells := 0, slots := 0, locals := 22 } s m args below meth c H locs 0 0 Q (F0 m 77 ls []) := by
    intro v10_undone v10_wasSum v10_wasCoefficient H locs ls hf hP hD hS hl
    unfold f_X10_canBeUndone_77 at hf
    refine lv_aload_n hx hb dX10_canBeUndone_77 rfl (lv_at hl 0 rfl) ?_
    refine lv_aload_n hx hb dX10_canBeUndone_78 rfl (lv_at hl 0 rfl) ?_
    refine va_get (ci := 10) (v := .int v10_undone) hx hb hts wX10_in hown hK hP 0 rfl rfl 7 (by decide) (hts _ mw_4_199) (fun _ h9 => h9) rfl dX10_canBeUndone_79 ?_
    obtain ⟨v10_wasSum_11, v10_wasCoefficient_12, hk_13, hf⟩ := pe_2 hf
    refine xv_v (As := [.int v10_undone]) (rest := []) (q0 := 0) (ci := 10) Cx hP hD hS hl (pl_X10_X10 a cyI cyJ v10_firstOf v10_sizeOf v10_longOf v10_row v10_character v10_sum v10_coefficient v10_undone v10_wasSum v10_wasCoefficient v10_hasImage v10_letter v10_letters v10_list v10_cell v10_refusals v10_tried v10_left v10_high v10_then v10_at v10_readSize v10_firstOf v10_sizeOf v10_longOf v10_row v10_character v10_sum v10_coefficient v10_undone v10_wasSum_11 v10_wasCoefficient_12 v10_hasImage v10_letter v10_letters v10_list v10_cell v10_refusals v10_tried v10_left v10_high v10_then v10_at v10_readSize) (c_X10_keeps l D cyI cyJ G a H.size v10_firstOf v10_sizeOf v10_longOf v10_row v10_character v10_sum v10_coefficient v10_undone v10_wasSum v10_wasCoefficient v10_hasImage v10_letter v10_letters v10_list v10_cell v10_refusals v10_tried v10_left v10_high v10_then v10_at v10_readSize v10_undone v10_wasSum_11 v10_wasCoefficient_12 hk_13) pk_X10_keeps mw_5_181 ⟨rfl, rfl, Nat.le_of_ble_eq_true rfl, Nat.le_of_ble_eq_true rfl⟩ rfl rfl rfl rfl rfl (Nat.le_of_ble_eq_true rfl) ⟨Nat.le_of_ble_eq_true rfl, Nat.le_of_ble_eq_true rfl⟩ dX10_canBeUndone_82 (fun H locs hP hD hS => ?_)
    refine lv_aload_n hx hb dX10_canBeUndone_85 rfl (lv_at hl 0 rfl) ?_
    refine lv_dup hx hb dX10_canBeUndone_86 rfl ?_
    refine va_get (ci := 10) (v := .int v10_undone) hx hb hts wX10_in hown hK hP 0 rfl rfl 7 (by decide) (hts _ mw_4_199) (fun _ h9 => h9) rfl dX10_canBeUndone_87 ?_
    refine lv_iconst (v := (1 : Int32)) hx hb dX10_canBeUndone_90 (by decide) ?_
    refine lv_iadd hx hb dX10_canBeUndone_91 ?_
    refine va_put (ci := 10) (v := .int (v10_undone + (1 : Int32))) (ty := .int) hx hb hts wX10_in tyX10 tyX10_ok nmX10 hown hK hP hD hS 0 rfl rfl 7 (by decide) (hts _ mw_4_199) (fun _ h9 => h9) rfl (by decide +kernel) rfl rfl (Nat.le_of_ble_eq_true rfl) dX10_canBeUndone_92 (fun H locs hP hD hS => ?_)
    have hP : va_P D xcl (wd_X10 a cyI cyJ v10_firstOf v10_sizeOf v10_longOf v10_row v10_character v10_sum v10_coefficient (v10_undone + (1 : Int32)) v10_wasSum_11 v10_wasCoefficient_12 v10_hasImage v10_letter v10_letters v10_list v10_cell v10_refusals v10_tried v10_left v10_high v10_then v10_at v10_readSize) H := hP
    have hD : va_D A (wd_X10 a cyI cyJ v10_firstOf v10_sizeOf v10_longOf v10_row v10_character v10_sum v10_coefficient (v10_undone + (1 : Int32)) v10_wasSum_11 v10_wasCoefficient_12 v10_hasImage v10_letter v10_letters v10_list v10_cell v10_refusals v10_tried v10_left v10_high v10_then v10_at v10_readSize) := hD
    obtain ⟨rfl, rfl, rfl⟩ := po_3 hf
    rw [← hQ]; exact xe_vret Cx hP hD hS dX10_canBeUndone_95
  have w_11 : ∀ (n_11 : Nat) (v10_undone : Int32) (v10_wasSum : Nat → Int32) (v10_wasCoefficient : Nat → Int32) (y1 : Int32) (H : Heap) (locs : List Loc) (ls : Array Slot), (f_X10_canBeUndone_11 (f_X10_canBeUndone_77 v10_sum v10_coefficient) v10_sum v10_coefficient) n_11 v10_undone v10_wasSum v10_wasCoefficient y1 = some (ov10_undone, ov10_wasSum, ov10_wasCoefficient) → va_P D xcl (wd_X10 a cyI cyJ v10_firstOf v10_sizeOf v10_longOf v10_row v10_character v10_sum v10_coefficient v10_undone v10_wasSum v10_wasCoefficient v10_hasImage v10_letter v10_letters v10_list v10_cell v10_refusals v10_tried v10_left v10_high v10_then v10_at v10_readSize) H → va_D A (wd_X10 a cyI cyJ v10_firstOf v10_sizeOf v10_longOf v10_row v10_character v10_sum v10_coefficient v10_undone v10_wasSum v10_wasCoefficient v10_hasImage v10_letter v10_letters v10_list v10_cell v10_refusals v10_tried v10_left v10_high v10_then v10_at v10_readSize) → va_S A s.heap H locs → lv_has ls 2 [(0, .ref (a 28)), (1, .int y1)] → W p l e { frames := 1, cells := 0, slots := 0, locals := 22 } s m args below meth c H locs 0 0 Q (F0 m 11 ls []) := by
    intro n_11
    induction n_11 with
    | zero => intro v10_undone v10_wasSum v10_wasCoefficient y1 H locs ls hf; exact absurd hf (by intro h9; cases h9)
    | succ n_11 w_11 =>
      intro v10_undone v10_wasSum v10_wasCoefficient y1 H locs ls hf hP hD hS hl
      have hf : gf_X10_canBeUndone_11 ((f_X10_canBeUndone_11 (f_X10_canBeUndone_77 v10_sum v10_coefficient) v10_sum v10_coefficient) n_11) (f_X10_canBeUndone_77 v10_sum v10_coefficient) v10_sum v10_coefficient v10_undone v10_wasSum v10_wasCoefficient y1 = some (ov10_undone, ov10_wasSum, ov10_wasCoefficient) := hf
      unfold gf_X10_canBeUndone_11 at hf
      have w_39 : ∀ (n_39 : Nat) (v10_undone : Int32) (v10_wasSum : Nat → Int32) (v10_wasCoefficient : Nat → Int32) (y1 : Int32) (H : Heap) (locs : List Loc) (ls : Array Slot), (f_X10_canBeUndone_39 (f_X10_canBeUndone_77 v10_sum v10_coefficient) v10_sum v10_coefficient) n_39 v10_undone v10_wasSum v10_wasCoefficient y1 = some (ov10_undone, ov10_wasSum, ov10_wasCoefficient) → va_P D xcl (wd_X10 a cyI cyJ v10_firstOf v10_sizeOf v10_longOf v10_row v10_character v10_sum v10_coefficient v10_undone v10_wasSum v10_wasCoefficient v10_hasImage v10_letter v10_letters v10_list v10_cell v10_refusals v10_tried v10_left v10_high v10_then v10_at v10_readSize) H → va_D A (wd_X10 a cyI cyJ v10_firstOf v10_sizeOf v10_longOf v10_row v10_character v10_sum v10_coefficient v10_undone v10_wasSum v10_wasCoefficient v10_hasImage v10_letter v10_letters v10_list v10_cell v10_refusals v10_tried v10_left v10_high v10_then v10_at v10_readSize) → va_S A s.heap H locs → lv_has ls 2 [(0, .ref (a 28)), (1, .int y1)] → W p l e { frames := 1, cells := 0, slots := 0, locals := 22 } s m args below meth c H locs 0 0 Q (F0 m 39 ls []) := by
        intro n_39
        induction n_39 with
        | zero => intro v10_undone v10_wasSum v10_wasCoefficient y1 H locs ls hf; exact absurd hf (by intro h9; cases h9)
        | succ n_39 w_39 =>
          intro v10_undone v10_wasSum v10_wasCoefficient y1 H locs ls hf hP hD hS hl
          have hf : gf_X10_canBeUndone_39 ((f_X10_canBeUndone_39 (f_X10_canBeUndone_77 v10_sum v10_coefficient) v10_sum v10_coefficient) n_39) (f_X10_canBeUndone_77 v10_sum v10_coefficient) v10_sum v10_coefficient v10_undone v10_wasSum v10_wasCoefficient y1 = some (ov10_undone, ov10_wasSum, ov10_wasCoefficient) := hf
          unfold gf_X10_canBeUndone_39 at hf
          refine lv_iload_n hx hb dX10_canBeUndone_39 rfl (lv_at hl 1 rfl) ?_
          refine lv_sipush (v := (616 : Int32)) hx hb dX10_canBeUndone_40 (by decide) ?_
          refine lv_icmp_ge (tgt := 67) hx hb dX10_canBeUndone_43 (by decide) (fun hc_14 => ?_) (fun hc_14 => ?_)
          · have hf := pe_t hf hc_14
            refine lv_aload_n hx hb dX10_canBeUndone_67 rfl (lv_at hl 0 rfl) ?_
            refine lv_dup hx hb dX10_canBeUndone_68 rfl ?_
            refine va_get (ci := 10) (v := .int v10_undone) hx hb hts wX10_in hown hK hP 0 rfl rfl 7 (by decide) (hts _ mw_4_199) (fun _ h9 => h9) rfl dX10_canBeUndone_69 ?_
            refine lv_iconst (v := (1 : Int32)) hx hb dX10_canBeUndone_72 (by decide) ?_
            refine lv_isub hx hb dX10_canBeUndone_73 ?_
            refine va_put (ci := 10) (v := .int (v10_undone - (1 : Int32))) (ty := .int) hx hb hts wX10_in tyX10 tyX10_ok nmX10 hown hK hP hD hS 0 rfl rfl 7 (by decide) (hts _ mw_4_199) (fun _ h9 => h9) rfl (by decide +kernel) rfl rfl (Nat.le_of_ble_eq_true rfl) dX10_canBeUndone_74 (fun H locs hP hD hS => ?_)
            have hP : va_P D xcl (wd_X10 a cyI cyJ v10_firstOf v10_sizeOf v10_longOf v10_row v10_character v10_sum v10_coefficient (v10_undone - (1 : Int32)) v10_wasSum v10_wasCoefficient v10_hasImage v10_letter v10_letters v10_list v10_cell v10_refusals v10_tried v10_left v10_high v10_then v10_at v10_readSize) H := hP
            have hD : va_D A (wd_X10 a cyI cyJ v10_firstOf v10_sizeOf v10_longOf v10_row v10_character v10_sum v10_coefficient (v10_undone - (1 : Int32)) v10_wasSum v10_wasCoefficient v10_hasImage v10_letter v10_letters v10_list v10_cell v10_refusals v10_tried v10_left v10_high v10_then v10_at v10_readSize) := hD
            exact w_77 (v10_undone - (1 : Int32)) v10_wasSum v10_wasCoefficient H locs ls hf hP hD hS (lv_sub hl [0] rfl)
          · have hf := pe_f hf hc_14
            refine lv_aload_n hx hb dX10_canBeUndone_46 rfl (lv_at hl 0 rfl) ?_
            refine va_get (ci := 10) (v := .ref (a 37)) hx hb hts wX10_in hown hK hP 0 rfl rfl 9 (by decide) (hts _ mw_4_201) (fun _ h9 => h9) rfl dX10_canBeUndone_47 ?_
            refine lv_iload_n hx hb dX10_canBeUndone_50 rfl (lv_at hl 1 rfl) ?_
            refine lv_aload_n hx hb dX10_canBeUndone_51 rfl (lv_at hl 0 rfl) ?_
            refine va_get (ci := 10) (v := .ref (a 37)) hx hb hts wX10_in hown hK hP 0 rfl rfl 9 (by decide) (hts _ mw_4_201) (fun _ h9 => h9) rfl dX10_canBeUndone_52 ?_
            refine lv_iload_n hx hb dX10_canBeUndone_55 rfl (lv_at hl 1 rfl) ?_
            refine lv_bipush (v := (88 : Int32)) hx hb dX10_canBeUndone_56 (by decide) ?_
            refine lv_iadd hx hb dX10_canBeUndone_58 ?_
            obtain ⟨hi_15, hf⟩ := pe_in hf
            refine va_iald hx hb hK hP 9 0 rfl rfl hi_15 dX10_canBeUndone_59 ?_
            obtain ⟨hi_16, hf⟩ := pe_in hf
            refine va_iast hx hb hK hP hD hS 9 0 rfl rfl hi_16 dX10_canBeUndone_60 (fun H locs hP hD hS => ?_)
            have hP : va_P D xcl (wd_X10 a cyI cyJ v10_firstOf v10_sizeOf v10_longOf v10_row v10_character v10_sum v10_coefficient v10_undone v10_wasSum (upd v10_wasCoefficient (Int32.toNatClampNeg y1) (v10_wasCoefficient (Int32.toNatClampNeg (y1 + (88 : Int32))))) v10_hasImage v10_letter v10_letters v10_list v10_cell v10_refusals v10_tried v10_left v10_high v10_then v10_at v10_readSize) H := hP
            have hD : va_D A (wd_X10 a cyI cyJ v10_firstOf v10_sizeOf v10_longOf v10_row v10_character v10_sum v10_coefficient v10_undone v10_wasSum (upd v10_wasCoefficient (Int32.toNatClampNeg y1) (v10_wasCoefficient (Int32.toNatClampNeg (y1 + (88 : Int32))))) v10_hasImage v10_letter v10_letters v10_list v10_cell v10_refusals v10_tried v10_left v10_high v10_then v10_at v10_readSize) := hD
            refine lv_iinc (v := (y1 + (1 : Int32))) (lv' := [(1, .int (y1 + (1 : Int32))), (0, .ref (a 28))]) hx hb dX10_canBeUndone_61 hl (k := 1) rfl rfl (by decide) rfl (fun ls hl => ?_)
            refine lv_goto (tgt := 39) hx hb dX10_canBeUndone_64 (by decide) ?_
            exact w_39 v10_undone v10_wasSum (upd v10_wasCoefficient (Int32.toNatClampNeg y1) (v10_wasCoefficient (Int32.toNatClampNeg (y1 + (88 : Int32))))) (y1 + (1 : Int32)) H locs ls hf hP hD hS (lv_sub hl [1, 0] rfl)
      refine lv_iload_n hx hb dX10_canBeUndone_11 rfl (lv_at hl 1 rfl) ?_
      refine lv_bipush (v := (28 : Int32)) hx hb dX10_canBeUndone_12 (by decide) ?_
      refine lv_icmp_ge (tgt := 37) hx hb dX10_canBeUndone_14 (by decide) (fun hc_17 => ?_) (fun hc_17 => ?_)
      · have hf := pe_t hf hc_17
        refine lv_iconst (v := (0 : Int32)) hx hb dX10_canBeUndone_37 (by decide) ?_
        refine lv_istore_n (lv' := [(1, .int (0 : Int32)), (0, .ref (a 28))]) hx hb dX10_canBeUndone_38 rfl hl (by decide) rfl (fun ls hl => ?_)
        exact w_39 1000 v10_undone v10_wasSum v10_wasCoefficient (0 : Int32) H locs ls hf hP hD hS (lv_sub hl [1, 0] rfl)
      · have hf := pe_f hf hc_17
        refine lv_aload_n hx hb dX10_canBeUndone_17 rfl (lv_at hl 0 rfl) ?_
        refine va_get (ci := 10) (v := .ref (a 36)) hx hb hts wX10_in hown hK hP 0 rfl rfl 8 (by decide) (hts _ mw_4_200) (fun _ h9 => h9) rfl dX10_canBeUndone_18 ?_
        refine lv_iload_n hx hb dX10_canBeUndone_21 rfl (lv_at hl 1 rfl) ?_
        refine lv_aload_n hx hb dX10_canBeUndone_22 rfl (lv_at hl 0 rfl) ?_
        refine va_get (ci := 10) (v := .ref (a 36)) hx hb hts wX10_in hown hK hP 0 rfl rfl 8 (by decide) (hts _ mw_4_200) (fun _ h9 => h9) rfl dX10_canBeUndone_23 ?_
        refine lv_iload_n hx hb dX10_canBeUndone_26 rfl (lv_at hl 1 rfl) ?_
        refine lv_iconst (v := (4 : Int32)) hx hb dX10_canBeUndone_27 (by decide) ?_
        refine lv_iadd hx hb dX10_canBeUndone_28 ?_
        obtain ⟨hi_18, hf⟩ := pe_in hf
        refine va_iald hx hb hK hP 8 0 rfl rfl hi_18 dX10_canBeUndone_29 ?_
        obtain ⟨hi_19, hf⟩ := pe_in hf
        refine va_iast hx hb hK hP hD hS 8 0 rfl rfl hi_19 dX10_canBeUndone_30 (fun H locs hP hD hS => ?_)
        have hP : va_P D xcl (wd_X10 a cyI cyJ v10_firstOf v10_sizeOf v10_longOf v10_row v10_character v10_sum v10_coefficient v10_undone (upd v10_wasSum (Int32.toNatClampNeg y1) (v10_wasSum (Int32.toNatClampNeg (y1 + (4 : Int32))))) v10_wasCoefficient v10_hasImage v10_letter v10_letters v10_list v10_cell v10_refusals v10_tried v10_left v10_high v10_then v10_at v10_readSize) H := hP
        have hD : va_D A (wd_X10 a cyI cyJ v10_firstOf v10_sizeOf v10_longOf v10_row v10_character v10_sum v10_coefficient v10_undone (upd v10_wasSum (Int32.toNatClampNeg y1) (v10_wasSum (Int32.toNatClampNeg (y1 + (4 : Int32))))) v10_wasCoefficient v10_hasImage v10_letter v10_letters v10_list v10_cell v10_refusals v10_tried v10_left v10_high v10_then v10_at v10_readSize) := hD
        refine lv_iinc (v := (y1 + (1 : Int32))) (lv' := [(1, .int (y1 + (1 : Int32))), (0, .ref (a 28))]) hx hb dX10_canBeUndone_31 hl (k := 1) rfl rfl (by decide) rfl (fun ls hl => ?_)
        refine lv_goto (tgt := 11) hx hb dX10_canBeUndone_34 (by decide) ?_
        exact w_11 v10_undone (upd v10_wasSum (Int32.toNatClampNeg y1) (v10_wasSum (Int32.toNatClampNeg (y1 + (4 : Int32))))) v10_wasCoefficient (y1 + (1 : Int32)) H locs ls hf hP hD hS (lv_sub hl [1, 0] rfl)
  refine lv_aload_n hx hb dX10_canBeUndone_0 rfl (lv_at hl 0 rfl) ?_
  refine va_get (ci := 10) (v := .int v10_undone) hx hb hts wX10_in hown hK hP 0 rfl rfl 7 (by decide) (hts _ mw_4_199) (fun _ h9 => h9) rfl dX10_canBeUndone_1 ?_
  refine lv_bipush (v := (8 : Int32)) hx hb dX10_canBeUndone_4 (by decide) ?_
  refine lv_icmp_ne (tgt := 77) hx hb dX10_canBeUndone_6 (by decide) (fun hc_20 => ?_) (fun hc_20 => ?_)
  · have hf := pe_f hf hc_20
    exact w_77 v10_undone v10_wasSum v10_wasCoefficient H locs ls hf hP hD hS (lv_sub hl [0] rfl)
  · have hf := pe_t hf hc_20
    refine lv_iconst (v := (0 : Int32)) hx hb dX10_canBeUndone_9 (by decide) ?_
    refine lv_istore_n (lv' := [(1, .int (0 : Int32)), (0, .ref (a 28))]) hx hb dX10_canBeUndone_10 rfl hl (by decide) rfl (fun ls hl => ?_)
    exact w_11 1000 v10_undone v10_wasSum v10_wasCoefficient (0 : Int32) H locs ls hf hP hD hS (lv_sub hl [1, 0] rfl)
def gf_X10_thenNone_2 (K_2 : (Nat → Int64) → Int32 → Option ((Nat → Int64))) (v10_then : Nat → Int64) (y1 : Int32) : Option ((Nat → Int64)) := if (22 : Int32) ≤ y1 then (some (v10_then)) else (p_in y1 22 (K_2 (vp_updL v10_then (Int32.toNatClampNeg y1) (0 : Int64)) (y1 + (1 : Int32))))
def f_X10_thenNone_2 : Nat → (Nat → Int64) → Int32 → Option ((Nat → Int64))
  | 0 => fun _ _ => none
  | n + 1 => gf_X10_thenNone_2 (f_X10_thenNone_2 n)
def f_X10_thenNone (v10_then : Nat → Int64) : Option ((Nat → Int64)) := (f_X10_thenNone_2 1000) v10_then (0 : Int32)
set_option maxHeartbeats 4000000 in
set_option maxRecDepth 20000 in
theorem c_X10_thenNone (l : Launch) (D : va_G) (cyI cyJ : ClassId) (G a : Nat → Nat) (sz : Nat) (v10_firstOf : Nat → Int32) (v10_sizeOf : Nat → Int32) (v10_longOf : Nat → Int32) (v10_row : Nat → Int32) (v10_character : Nat → Int32) (v10_sum : Nat → Int32) (v10_coefficient : Nat → Int32) (v10_undone : Int32) (v10_wasSum : Nat → Int32) (v10_wasCoefficient : Nat → Int32) (v10_hasImage : Int32) (v10_letter : Nat → Int32) (v10_letters : Int32) (v10_list : Nat → Int32) (v10_cell : Nat → Int32) (v10_refusals : Nat → Int32) (v10_tried : Nat → Int32) (v10_left : Int32) (v10_high : Int32) (v10_then : Nat → Int64) (v10_at : Int32) (v10_readSize : Int32) (ov10_then : Nat → Int64) (hf : f_X10_thenNone v10_then = some ov10_then) : xm_v l yX10_thenNone (Cond.code yX10_thenNone cX10_thenNone 2 none :: xg_tbl) { frames := 0, cells := 0, slots := 0, locals := 0 } D xcl [(cyI, .int), (cyJ, .long)] G sz [.ref (a 28)] (wd_X10 a cyI cyJ v10_firstOf v10_sizeOf v10_longOf v10_row v10_character v10_sum v10_coefficient v10_undone v10_wasSum v10_wasCoefficient v10_hasImage v10_letter v10_letters v10_list v10_cell v10_refusals v10_tried v10_left v10_high v10_then v10_at v10_readSize) (wd_X10 a cyI cyJ v10_firstOf v10_sizeOf v10_longOf v10_row v10_character v10_sum v10_coefficient v10_undone v10_wasSum v10_wasCoefficient v10_hasImage v10_letter v10_letters v10_list v10_cell v10_refusals v10_tried v10_left v10_high ov10_then v10_at v10_readSize) := by
  refine xm_of_v (own := RX10) (by decide) rfl rfl (Nat.le_of_ble_eq_true rfl) ?_
  intro p e s m args below meth c ls Q A hQ hAe hin Cx hsz hP hD hS hl
  have Cx1 := Cx
  obtain ⟨⟨hx, hb, hml, hown, hts⟩, hr, hlocks, hK, hA, hT⟩ := Cx1
  have hl : lv_has ls 2 [(0, .ref (a 28))] := hl
  obtain ⟨H, eH⟩ : ∃ H, H = s.heap := ⟨_, rfl⟩
  obtain ⟨locs, eL⟩ : ∃ L : List Loc, L = [] := ⟨_, rfl⟩
  rw [← eH] at hP
  have hS : va_S A s.heap H locs := by rw [eH, eL]; exact hS
  suffices hgo : W p l e { frames := 0, cells := 0, slots := 0, locals := 0 } s m args below meth c H locs 0 0 Q (F0 m 0 ls []) by rw [eH, eL] at hgo; exact hgo
  clear eH eL
  unfold f_X10_thenNone at hf
  have w_2 : ∀ (n_2 : Nat) (v10_then : Nat → Int64) (y1 : Int32) (H : Heap) (locs : List Loc) (ls : Array Slot), f_X10_thenNone_2 n_2 v10_then y1 = some ov10_then → va_P D xcl (wd_X10 a cyI cyJ v10_firstOf v10_sizeOf v10_longOf v10_row v10_character v10_sum v10_coefficient v10_undone v10_wasSum v10_wasCoefficient v10_hasImage v10_letter v10_letters v10_list v10_cell v10_refusals v10_tried v10_left v10_high v10_then v10_at v10_readSize) H → va_D A (wd_X10 a cyI cyJ v10_firstOf v10_sizeOf v10_longOf v10_row v10_character v10_sum v10_coefficient v10_undone v10_wasSum v10_wasCoefficient v10_hasImage v10_letter v10_letters v10_list v10_cell v10_refusals v10_tried v10_left v10_high v10_then v10_at v10_readSize) → va_S A s.heap H locs → lv_has ls 2 [(0, .ref (a 28)), (1, .int y1)] → W p l e { frames := 0, cells := 0, slots := 0, locals := 0 } s m args below meth c H locs 0 0 Q (F0 m 2 ls []) := by
    intro n_2
    induction n_2 with
    | zero => intro v10_then y1 H locs ls hf; exact absurd hf (by intro h9; cases h9)
    | succ n_2 w_2 =>
      intro v10_then y1 H locs ls hf hP hD hS hl
      have hf : gf_X10_thenNone_2 (f_X10_thenNone_2 n_2) v10_then y1 = some ov10_then := hf
      unfold gf_X10_thenNone_2 at hf
      refine lv_iload_n hx hb dX10_thenNone_2 rfl (lv_at hl 1 rfl) ?_
      refine lv_bipush (v := (22 : Int32)) hx hb dX10_thenNone_3 (by decide) ?_
      refine lv_icmp_ge (tgt := 21) hx hb dX10_thenNone_5 (by decide) (fun hc_3 => ?_) (fun hc_3 => ?_)
      · have hf := pe_t hf hc_3
        obtain rfl := po_1 hf
        rw [← hQ]; exact xe_vret Cx hP hD hS dX10_thenNone_21
      · have hf := pe_f hf hc_3
        refine lv_aload_n hx hb dX10_thenNone_8 rfl (lv_at hl 0 rfl) ?_
        refine va_get (ci := 10) (v := .ref (a 43)) hx hb hts wX10_in hown hK hP 0 rfl rfl 19 (by decide) (hts _ mw_4_211) (fun _ h9 => h9) rfl dX10_thenNone_9 ?_
        refine lv_iload_n hx hb dX10_thenNone_12 rfl (lv_at hl 1 rfl) ?_
        refine lv_lconst (v := (0 : Int64)) hx hb dX10_thenNone_13 (by decide) ?_
        obtain ⟨hi_4, hf⟩ := pe_in hf
        refine va_last hx hb hK hP hD hS 15 1 rfl rfl hi_4 dX10_thenNone_14 (fun H locs hP hD hS => ?_)
        have hP : va_P D xcl (wd_X10 a cyI cyJ v10_firstOf v10_sizeOf v10_longOf v10_row v10_character v10_sum v10_coefficient v10_undone v10_wasSum v10_wasCoefficient v10_hasImage v10_letter v10_letters v10_list v10_cell v10_refusals v10_tried v10_left v10_high (vp_updL v10_then (Int32.toNatClampNeg y1) (0 : Int64)) v10_at v10_readSize) H := hP
        have hD : va_D A (wd_X10 a cyI cyJ v10_firstOf v10_sizeOf v10_longOf v10_row v10_character v10_sum v10_coefficient v10_undone v10_wasSum v10_wasCoefficient v10_hasImage v10_letter v10_letters v10_list v10_cell v10_refusals v10_tried v10_left v10_high (vp_updL v10_then (Int32.toNatClampNeg y1) (0 : Int64)) v10_at v10_readSize) := hD
        refine lv_iinc (v := (y1 + (1 : Int32))) (lv' := [(1, .int (y1 + (1 : Int32))), (0, .ref (a 28))]) hx hb dX10_thenNone_15 hl (k := 1) rfl rfl (by decide) rfl (fun ls hl => ?_)
        refine lv_goto (tgt := 2) hx hb dX10_thenNone_18 (by decide) ?_
        exact w_2 (vp_updL v10_then (Int32.toNatClampNeg y1) (0 : Int64)) (y1 + (1 : Int32)) H locs ls hf hP hD hS (lv_sub hl [1, 0] rfl)
  refine lv_iconst (v := (0 : Int32)) hx hb dX10_thenNone_0 (by decide) ?_
  refine lv_istore_n (lv' := [(1, .int (0 : Int32)), (0, .ref (a 28))]) hx hb dX10_thenNone_1 rfl hl (by decide) rfl (fun ls hl => ?_)
  exact w_2 1000 v10_then (0 : Int32) H locs ls hf hP hD hS (lv_sub hl [1, 0] rfl)
def gf_X10_becomes_60 (K_60 : (Nat → Int32) → (Nat → Int32) → Int32 → (Nat → Int32) → (Nat → Int32) → (Nat → Int32) → Int32 → Int32 → Option (Int32 × (Nat → Int32) × (Nat → Int32) × Int32 × (Nat → Int32) × (Nat → Int32) × (Nat → Int32))) (v10_firstOf : Nat → Int32) (v10_then : Nat → Int64) (v10_sum : Nat → Int32) (v10_coefficient : Nat → Int32) (v10_undone : Int32) (v10_wasSum : Nat → Int32) (v10_wasCoefficient : Nat → Int32) (v10_refusals : Nat → Int32) (y1 : Int32) (y3 : Int32) : Option (Int32 × (Nat → Int32) × (Nat → Int32) × Int32 × (Nat → Int32) × (Nat → Int32) × (Nat → Int32)) := if (22 : Int32) ≤ y3 then (p_b1 (f_X10_terms v10_firstOf v10_sum v10_coefficient y1) (fun r_2 => some (r_2, v10_sum, v10_coefficient, v10_undone, v10_wasSum, v10_wasCoefficient, v10_refusals))) else (p_in y3 22 (p_in (((22 : Int32) * y1) + y3) 88 (K_60 v10_sum (upd v10_coefficient (Int32.toNatClampNeg (((22 : Int32) * y1) + y3)) (Int64.toInt32 (v10_then (Int32.toNatClampNeg y3)))) v10_undone v10_wasSum v10_wasCoefficient v10_refusals y1 (y3 + (1 : Int32)))))
def f_X10_becomes_60 (v10_firstOf : Nat → Int32) (v10_then : Nat → Int64) : Nat → (Nat → Int32) → (Nat → Int32) → Int32 → (Nat → Int32) → (Nat → Int32) → (Nat → Int32) → Int32 → Int32 → Option (Int32 × (Nat → Int32) × (Nat → Int32) × Int32 × (Nat → Int32) × (Nat → Int32) × (Nat → Int32))
  | 0 => fun _ _ _ _ _ _ _ _ => none
  | n + 1 => gf_X10_becomes_60 (f_X10_becomes_60 v10_firstOf v10_then n) v10_firstOf v10_then
def f_X10_becomes_34 (v10_firstOf : Nat → Int32) (v10_then : Nat → Int64) (v10_sum : Nat → Int32) (v10_coefficient : Nat → Int32) (v10_undone : Int32) (v10_wasSum : Nat → Int32) (v10_wasCoefficient : Nat → Int32) (v10_refusals : Nat → Int32) : Option (Int32 × (Nat → Int32) × (Nat → Int32) × Int32 × (Nat → Int32) × (Nat → Int32) × (Nat → Int32)) := p_b2 (f_X10_refused v10_refusals (-6 : Int32)) (fun r_6 v10_refusals_7 => some (r_6, v10_sum, v10_coefficient, v10_undone, v10_wasSum, v10_wasCoefficient, v10_refusals_7))
def gf_X10_becomes_2 (K_2 : (Nat → Int32) → (Nat → Int32) → Int32 → (Nat → Int32) → (Nat → Int32) → (Nat → Int32) → Int32 → Int32 → Int32 → Option (Int32 × (Nat → Int32) × (Nat → Int32) × Int32 × (Nat → Int32) × (Nat → Int32) × (Nat → Int32))) (v10_firstOf : Nat → Int32) (v10_then : Nat → Int64) (v10_sum : Nat → Int32) (v10_coefficient : Nat → Int32) (v10_undone : Int32) (v10_wasSum : Nat → Int32) (v10_wasCoefficient : Nat → Int32) (v10_refusals : Nat → Int32) (y1 : Int32) (y2 : Int32) (y3 : Int32) : Option (Int32 × (Nat → Int32) × (Nat → Int32) × Int32 × (Nat → Int32) × (Nat → Int32) × (Nat → Int32)) := if (22 : Int32) ≤ y3 then (p_b3 (f_X10_canBeUndone v10_sum v10_coefficient v10_undone v10_wasSum v10_wasCoefficient) (fun v10_undone_10 v10_wasSum_11 v10_wasCoefficient_12 => p_in y1 4 ((f_X10_becomes_60 v10_firstOf v10_then 1000) (upd v10_sum (Int32.toNatClampNeg y1) y2) v10_coefficient v10_undone_10 v10_wasSum_11 v10_wasCoefficient_12 v10_refusals y1 (0 : Int32)))) else (p_in y3 22 (if 0 < (lg_cmp (v10_then (Int32.toNatClampNeg y3)) (1000000 : Int64)) then ((f_X10_becomes_34 v10_firstOf v10_then) v10_sum v10_coefficient v10_undone v10_wasSum v10_wasCoefficient v10_refusals) else (p_in y3 22 (if 0 ≤ (lg_cmp (v10_then (Int32.toNatClampNeg y3)) (-1000000 : Int64)) then (K_2 v10_sum v10_coefficient v10_undone v10_wasSum v10_wasCoefficient v10_refusals y1 y2 (y3 + (1 : Int32))) else ((f_X10_becomes_34 v10_firstOf v10_then) v10_sum v10_coefficient v10_undone v10_wasSum v10_wasCoefficient v10_refusals)))))
def f_X10_becomes_2 (v10_firstOf : Nat → Int32) (v10_then : Nat → Int64) : Nat → (Nat → Int32) → (Nat → Int32) → Int32 → (Nat → Int32) → (Nat → Int32) → (Nat → Int32) → Int32 → Int32 → Int32 → Option (Int32 × (Nat → Int32) × (Nat → Int32) × Int32 × (Nat → Int32) × (Nat → Int32) × (Nat → Int32))
  | 0 => fun _ _ _ _ _ _ _ _ _ => none
  | n + 1 => gf_X10_becomes_2 (f_X10_becomes_2 v10_firstOf v10_then n) v10_firstOf v10_then
def f_X10_becomes (v10_firstOf : Nat → Int32) (v10_sum : Nat → Int32) (v10_coefficient : Nat → Int32) (v10_undone : Int32) (v10_wasSum : Nat → Int32) (v10_wasCoefficient : Nat → Int32) (v10_refusals : Nat → Int32) (v10_then : Nat → Int64) (x1 : Int32) (x2 : Int32) : Option (Int32 × (Nat → Int32) × (Nat → Int32) × Int32 × (Nat → Int32) × (Nat → Int32) × (Nat → Int32)) := (f_X10_becomes_2 v10_firstOf v10_then 1000) v10_sum v10_coefficient v10_undone v10_wasSum v10_wasCoefficient v10_refusals x1 x2 (0 : Int32)
set_option maxHeartbeats 4000000 in
set_option maxRecDepth 20000 in
theorem c_X10_becomes (l : Launch) (D : va_G) (cyI cyJ : ClassId) (G a : Nat → Nat) (sz : Nat) (v10_firstOf : Nat → Int32) (v10_sizeOf : Nat → Int32) (v10_longOf : Nat → Int32) (v10_row : Nat → Int32) (v10_character : Nat → Int32) (v10_sum : Nat → Int32) (v10_coefficient : Nat → Int32) (v10_undone : Int32) (v10_wasSum : Nat → Int32) (v10_wasCoefficient : Nat → Int32) (v10_hasImage : Int32) (v10_letter : Nat → Int32) (v10_letters : Int32) (v10_list : Nat → Int32) (v10_cell : Nat → Int32) (v10_refusals : Nat → Int32) (v10_tried : Nat → Int32) (v10_left : Int32) (v10_high : Int32) (v10_then : Nat → Int64) (v10_at : Int32) (v10_readSize : Int32) (x1 : Int32) (x2 : Int32) (ro : Int32) (ov10_sum : Nat → Int32) (ov10_coefficient : Nat → Int32) (ov10_undone : Int32) (ov10_wasSum : Nat → Int32) (ov10_wasCoefficient : Nat → Int32) (ov10_refusals : Nat → Int32) (hf : f_X10_becomes v10_firstOf v10_sum v10_coefficient v10_undone v10_wasSum v10_wasCoefficient v10_refusals v10_then x1 x2 = some (ro, ov10_sum, ov10_coefficient, ov10_undone, ov10_wasSum, ov10_wasCoefficient, ov10_refusals)) : xm_i l yX10_becomes (Cond.code yX10_becomes cX10_becomes 4 (some .int) :: xg_tbl) { frames := 2, cells := 0, slots := 0, locals := 44 } D xcl [(cyI, .int), (cyJ, .long)] G sz [.ref (a 28), .int x1, .int x2] (wd_X10 a cyI cyJ v10_firstOf v10_sizeOf v10_longOf v10_row v10_character v10_sum v10_coefficient v10_undone v10_wasSum v10_wasCoefficient v10_hasImage v10_letter v10_letters v10_list v10_cell v10_refusals v10_tried v10_left v10_high v10_then v10_at v10_readSize) (wd_X10 a cyI cyJ v10_firstOf v10_sizeOf v10_longOf v10_row v10_character ov10_sum ov10_coefficient ov10_undone ov10_wasSum ov10_wasCoefficient v10_hasImage v10_letter v10_letters v10_list v10_cell ov10_refusals v10_tried v10_left v10_high v10_then v10_at v10_readSize) ro := by
  refine xm_of_i (own := RX10) (by decide) rfl rfl (Nat.le_of_ble_eq_true rfl) ?_
  intro p e s m args below meth c ls Q A hQ hAe hin Cx hsz hP hD hS hl
  have Cx1 := Cx
  obtain ⟨⟨hx, hb, hml, hown, hts⟩, hr, hlocks, hK, hA, hT⟩ := Cx1
  have hl : lv_has ls 4 [(0, .ref (a 28)), (1, .int x1), (2, .int x2)] := hl
  obtain ⟨H, eH⟩ : ∃ H, H = s.heap := ⟨_, rfl⟩
  obtain ⟨locs, eL⟩ : ∃ L : List Loc, L = [] := ⟨_, rfl⟩
  rw [← eH] at hP
  have hS : va_S A s.heap H locs := by rw [eH, eL]; exact hS
  suffices hgo : W p l e { frames := 2, cells := 0, slots := 0, locals := 44 } s m args below meth c H locs 0 0 Q (F0 m 0 ls []) by rw [eH, eL] at hgo; exact hgo
  clear eH eL
  unfold f_X10_becomes at hf
  have w_2 : ∀ (n_2 : Nat) (v10_sum : Nat → Int32) (v10_coefficient : Nat → Int32) (v10_undone : Int32) (v10_wasSum : Nat → Int32) (v10_wasCoefficient : Nat → Int32) (v10_refusals : Nat → Int32) (y1 : Int32) (y2 : Int32) (y3 : Int32) (H : Heap) (locs : List Loc) (ls : Array Slot), (f_X10_becomes_2 v10_firstOf v10_then) n_2 v10_sum v10_coefficient v10_undone v10_wasSum v10_wasCoefficient v10_refusals y1 y2 y3 = some (ro, ov10_sum, ov10_coefficient, ov10_undone, ov10_wasSum, ov10_wasCoefficient, ov10_refusals) → va_P D xcl (wd_X10 a cyI cyJ v10_firstOf v10_sizeOf v10_longOf v10_row v10_character v10_sum v10_coefficient v10_undone v10_wasSum v10_wasCoefficient v10_hasImage v10_letter v10_letters v10_list v10_cell v10_refusals v10_tried v10_left v10_high v10_then v10_at v10_readSize) H → va_D A (wd_X10 a cyI cyJ v10_firstOf v10_sizeOf v10_longOf v10_row v10_character v10_sum v10_coefficient v10_undone v10_wasSum v10_wasCoefficient v10_hasImage v10_letter v10_letters v10_list v10_cell v10_refusals v10_tried v10_left v10_high v10_then v10_at v10_readSize) → va_S A s.heap H locs → lv_has ls 4 [(0, .ref (a 28)), (1, .int y1), (2, .int y2), (3, .int y3)] → W p l e { frames := 2, cells := 0, slots := 0, locals := 44 } s m args below meth c H locs 0 0 Q (F0 m 2 ls []) := by
    intro n_2
    induction n_2 with
    | zero => intro v10_sum v10_coefficient v10_undone v10_wasSum v10_wasCoefficient v10_refusals y1 y2 y3 H locs ls hf; exact absurd hf (by intro h9; cases h9)
    | succ n_2 w_2 =>
      intro v10_sum v10_coefficient v10_undone v10_wasSum v10_wasCoefficient v10_refusals y1 y2 y3 H locs ls hf hP hD hS hl
      have hf : gf_X10_becomes_2 ((f_X10_becomes_2 v10_firstOf v10_then) n_2) v10_firstOf v10_then v10_sum v10_coefficient v10_undone v10_wasSum v10_wasCoefficient v10_refusals y1 y2 y3 = some (ro, ov10_sum, ov10_coefficient, ov10_undone, ov10_wasSum, ov10_wasCoefficient, ov10_refusals) := hf
      unfold gf_X10_becomes_2 at hf
      have w_60 : ∀ (n_60 : Nat) (v10_sum : Nat → Int32) (v10_coefficient : Nat → Int32) (v10_undone : Int32) (v10_wasSum : Nat → Int32) (v10_wasCoefficient : Nat → Int32) (v10_refusals : Nat → Int32) (y1 : Int32) (y3 : Int32) (H : Heap) (locs : List Loc) (ls : Array Slot), (f_X10_becomes_60 v10_firstOf v10_then) n_60 v10_sum v10_coefficient v10_undone v10_wasSum v10_wasCoefficient v10_refusals y1 y3 = some (ro, ov10_sum, ov10_coefficient, ov10_undone, ov10_wasSum, ov10_wasCoefficient, ov10_refusals) → va_P D xcl (wd_X10 a cyI cyJ v10_firstOf v10_sizeOf v10_longOf v10_row v10_character v10_sum v10_coefficient v10_undone v10_wasSum v10_wasCoefficient v10_hasImage v10_letter v10_letters v10_list v10_cell v10_refusals v10_tried v10_left v10_high v10_then v10_at v10_readSize) H → va_D A (wd_X10 a cyI cyJ v10_firstOf v10_sizeOf v10_longOf v10_row v10_character v10_sum v10_coefficient v10_undone v10_wasSum v10_wasCoefficient v10_hasImage v10_letter v10_letters v10_list v10_cell v10_refusals v10_tried v10_left v10_high v10_then v10_at v10_readSize) → va_S A s.heap H locs → lv_has ls 4 [(0, .ref (a 28)), (1, .int y1), (3, .int y3)] → W p l e { frames := 2, cells := 0, slots := 0, locals := 44 } s m args below meth c H locs 0 0 Q (F0 m 60 ls []) := by
        intro n_60
        induction n_60 with
        | zero => intro v10_sum v10_coefficient v10_undone v10_wasSum v10_wasCoefficient v10_refusals y1 y3 H locs ls hf; exact absurd hf (by intro h9; cases h9)
        | succ n_60 w_60 =>
          intro v10_sum v10_coefficient v10_undone v10_wasSum v10_wasCoefficient v10_refusals y1 y3 H locs ls hf hP hD hS hl
          have hf : gf_X10_becomes_60 ((f_X10_becomes_60 v10_firstOf v10_then) n_60) v10_firstOf v10_then v10_sum v10_coefficient v10_undone v10_wasSum v10_wasCoefficient v10_refusals y1 y3 = some (ro, ov10_sum, ov10_coefficient, ov10_undone, ov10_wasSum, ov10_wasCoefficient, ov10_refusals) := hf
          unfold gf_X10_becomes_60 at hf
          refine lv_iload_n hx hb dX10_becomes_60 rfl (lv_at hl 2 rfl) ?_
          refine lv_bipush (v := (22 : Int32)) hx hb dX10_becomes_61 (by decide) ?_
          refine lv_icmp_ge (tgt := 90) hx hb dX10_becomes_63 (by decide) (fun hc_19 => ?_) (fun hc_19 => ?_)
          · have hf := pe_t hf hc_19
            refine lv_aload_n hx hb dX10_becomes_90 rfl (lv_at hl 0 rfl) ?_
            refine lv_iload_n hx hb dX10_becomes_91 rfl (lv_at hl 1 rfl) ?_
            obtain ⟨r_20, hk_21, hf⟩ := pe_1 hf
            refine xv_i (As := [.int y1]) (rest := []) (q0 := 0) (ci := 10) Cx hP hD hS hl (pl_X10_X10 a cyI cyJ v10_firstOf v10_sizeOf v10_longOf v10_row v10_character v10_sum v10_coefficient v10_undone v10_wasSum v10_wasCoefficient v10_hasImage v10_letter v10_letters v10_list v10_cell v10_refusals v10_tried v10_left v10_high v10_then v10_at v10_readSize v10_firstOf v10_sizeOf v10_longOf v10_row v10_character v10_sum v10_coefficient v10_undone v10_wasSum v10_wasCoefficient v10_hasImage v10_letter v10_letters v10_list v10_cell v10_refusals v10_tried v10_left v10_high v10_then v10_at v10_readSize) (c_X10_terms l D cyI cyJ G a H.size v10_firstOf v10_sizeOf v10_longOf v10_row v10_character v10_sum v10_coefficient v10_undone v10_wasSum v10_wasCoefficient v10_hasImage v10_letter v10_letters v10_list v10_cell v10_refusals v10_tried v10_left v10_high v10_then v10_at v10_readSize y1 r_20 hk_21) pk_X10_terms mw_5_185 ⟨rfl, rfl, Nat.le_of_ble_eq_true rfl, Nat.le_of_ble_eq_true rfl⟩ rfl rfl rfl rfl rfl (Nat.le_of_ble_eq_true rfl) ⟨Nat.le_of_ble_eq_true rfl, Nat.le_of_ble_eq_true rfl⟩ dX10_becomes_92 (fun H locs hP hD hS => ?_)
            obtain ⟨rfl, rfl, rfl, rfl, rfl, rfl, rfl⟩ := po_7 hf
            rw [← hQ]; exact xe_iret Cx rfl hP hD hS dX10_becomes_95
          · have hf := pe_f hf hc_19
            refine lv_aload_n hx hb dX10_becomes_66 rfl (lv_at hl 0 rfl) ?_
            refine va_get (ci := 10) (v := .ref (a 35)) hx hb hts wX10_in hown hK hP 0 rfl rfl 6 (by decide) (hts _ mw_4_198) (fun _ h9 => h9) rfl dX10_becomes_67 ?_
            refine lv_bipush (v := (22 : Int32)) hx hb dX10_becomes_70 (by decide) ?_
            refine lv_iload_n hx hb dX10_becomes_72 rfl (lv_at hl 1 rfl) ?_
            refine lv_imul hx hb dX10_becomes_73 ?_
            refine lv_iload_n hx hb dX10_becomes_74 rfl (lv_at hl 2 rfl) ?_
            refine lv_iadd hx hb dX10_becomes_75 ?_
            refine lv_aload_n hx hb dX10_becomes_76 rfl (lv_at hl 0 rfl) ?_
            refine va_get (ci := 10) (v := .ref (a 43)) hx hb hts wX10_in hown hK hP 0 rfl rfl 19 (by decide) (hts _ mw_4_211) (fun _ h9 => h9) rfl dX10_becomes_77 ?_
            refine lv_iload_n hx hb dX10_becomes_80 rfl (lv_at hl 2 rfl) ?_
            obtain ⟨hi_22, hf⟩ := pe_in hf
            refine va_lald hx hb hK hP 15 1 rfl rfl hi_22 dX10_becomes_81 ?_
            refine lv_l2i (v := Int64.toInt32 (v10_then (Int32.toNatClampNeg y3))) hx hb dX10_becomes_82 rfl ?_
            obtain ⟨hi_23, hf⟩ := pe_in hf
            refine va_iast hx hb hK hP hD hS 7 0 rfl rfl hi_23 dX10_becomes_83 (fun H locs hP hD hS => ?_)
            have hP : va_P D xcl (wd_X10 a cyI cyJ v10_firstOf v10_sizeOf v10_longOf v10_row v10_character v10_sum (upd v10_coefficient (Int32.toNatClampNeg (((22 : Int32) * y1) + y3)) (Int64.toInt32 (v10_then (Int32.toNatClampNeg y3)))) v10_undone v10_wasSum v10_wasCoefficient v10_hasImage v10_letter v10_letters v10_list v10_cell v10_refusals v10_tried v10_left v10_high v10_then v10_at v10_readSize) H := hP
            have hD : va_D A (wd_X10 a cyI cyJ v10_firstOf v10_sizeOf v10_longOf v10_row v10_character v10_sum (upd v10_coefficient (Int32.toNatClampNeg (((22 : Int32) * y1) + y3)) (Int64.toInt32 (v10_then (Int32.toNatClampNeg y3)))) v10_undone v10_wasSum v10_wasCoefficient v10_hasImage v10_letter v10_letters v10_list v10_cell v10_refusals v10_tried v10_left v10_high v10_then v10_at v10_readSize) := hD
            refine lv_iinc (v := (y3 + (1 : Int32))) (lv' := [(3, .int (y3 + (1 : Int32))), (0, .ref (a 28)), (1, .int y1)]) hx hb dX10_becomes_84 hl (k := 2) rfl rfl (by decide) rfl (fun ls hl => ?_)
            refine lv_goto (tgt := 60) hx hb dX10_becomes_87 (by decide) ?_
            exact w_60 v10_sum (upd v10_coefficient (Int32.toNatClampNeg (((22 : Int32) * y1) + y3)) (Int64.toInt32 (v10_then (Int32.toNatClampNeg y3)))) v10_undone v10_wasSum v10_wasCoefficient v10_refusals y1 (y3 + (1 : Int32)) H locs ls hf hP hD hS (lv_sub hl [1, 2, 0] rfl)
      have w_34 : ∀ (v10_sum : Nat → Int32) (v10_coefficient : Nat → Int32) (v10_undone : Int32) (v10_wasSum : Nat → Int32) (v10_wasCoefficient : Nat → Int32) (v10_refusals : Nat → Int32) (H : Heap) (locs : List Loc) (ls : Array Slot), (f_X10_becomes_34 v10_firstOf v10_then) v10_sum v10_coefficient v10_undone v10_wasSum v10_wasCoefficient v10_refusals = some (ro, ov10_sum, ov10_coefficient, ov10_undone, ov10_wasSum, ov10_wasCoefficient, ov10_refusals) → va_P D xcl (wd_X10 a cyI cyJ v10_firstOf v10_sizeOf v10_longOf v10_row v10_character v10_sum v10_coefficient v10_undone v10_wasSum v10_wasCoefficient v10_hasImage v10_letter v10_letters v10_list v10_cell v10_refusals v10_tried v10_left v10_high v10_then v10_at v10_readSize) H → va_D A (wd_X10 a cyI cyJ v10_firstOf v10_sizeOf v10_longOf v10_row v10_character v10_sum v10_coefficient v10_undone v10_wasSum v10_wasCoefficient v10_hasImage v10_letter v10_letters v10_list v10_cell v10_refusals v10_tried v10_left v10_high v10_then v10_at v10_readSize) → va_S A s.heap H locs → lv_has ls 4 [(0, .ref (a 28))] → W p l e { frames := 2, cells := 0, slots := 0, locals := 44 } s m args below meth c H locs 0 0 Q (F0 m 34 ls []) := by
        intro v10_sum v10_coefficient v10_undone v10_wasSum v10_wasCoefficient v10_refusals H locs ls hf hP hD hS hl
        unfold f_X10_becomes_34 at hf
        refine lv_aload_n hx hb dX10_becomes_34 rfl (lv_at hl 0 rfl) ?_
        refine lv_bipush (v := (-6 : Int32)) hx hb dX10_becomes_35 (by decide) ?_
        obtain ⟨r_24, v10_refusals_25, hk_26, hf⟩ := pe_2 hf
        refine xv_i (As := [.int (-6 : Int32)]) (rest := []) (q0 := 0) (ci := 10) Cx hP hD hS hl (pl_X10_X10 a cyI cyJ v10_firstOf v10_sizeOf v10_longOf v10_row v10_character v10_sum v10_coefficient v10_undone v10_wasSum v10_wasCoefficient v10_hasImage v10_letter v10_letters v10_list v10_cell v10_refusals v10_tried v10_left v10_high v10_then v10_at v10_readSize v10_firstOf v10_sizeOf v10_longOf v10_row v10_character v10_sum v10_coefficient v10_undone v10_wasSum v10_wasCoefficient v10_hasImage v10_letter v10_letters v10_list v10_cell v10_refusals_25 v10_tried v10_left v10_high v10_then v10_at v10_readSize) (c_X10_refused l D cyI cyJ G a H.size v10_firstOf v10_sizeOf v10_longOf v10_row v10_character v10_sum v10_coefficient v10_undone v10_wasSum v10_wasCoefficient v10_hasImage v10_letter v10_letters v10_list v10_cell v10_refusals v10_tried v10_left v10_high v10_then v10_at v10_readSize (-6 : Int32) r_24 v10_refusals_25 hk_26) pk_X10_refused mw_5_29 ⟨rfl, rfl, Nat.le_of_ble_eq_true rfl, Nat.le_of_ble_eq_true rfl⟩ rfl rfl rfl rfl rfl (Nat.le_of_ble_eq_true rfl) ⟨Nat.le_of_ble_eq_true rfl, Nat.le_of_ble_eq_true rfl⟩ dX10_becomes_37 (fun H locs hP hD hS => ?_)
        obtain ⟨rfl, rfl, rfl, rfl, rfl, rfl, rfl⟩ := po_7 hf
        rw [← hQ]; exact xe_iret Cx rfl hP hD hS dX10_becomes_40
      refine lv_iload_n hx hb dX10_becomes_2 rfl (lv_at hl 3 rfl) ?_
      refine lv_bipush (v := (22 : Int32)) hx hb dX10_becomes_3 (by decide) ?_
      refine lv_icmp_ge (tgt := 47) hx hb dX10_becomes_5 (by decide) (fun hc_27 => ?_) (fun hc_27 => ?_)
      · have hf := pe_t hf hc_27
        refine lv_aload_n hx hb dX10_becomes_47 rfl (lv_at hl 0 rfl) ?_
        obtain ⟨v10_undone_28, v10_wasSum_29, v10_wasCoefficient_30, hk_31, hf⟩ := pe_3 hf
        refine xv_v (As := []) (rest := []) (q0 := 0) (ci := 10) Cx hP hD hS hl (pl_X10_X10 a cyI cyJ v10_firstOf v10_sizeOf v10_longOf v10_row v10_character v10_sum v10_coefficient v10_undone v10_wasSum v10_wasCoefficient v10_hasImage v10_letter v10_letters v10_list v10_cell v10_refusals v10_tried v10_left v10_high v10_then v10_at v10_readSize v10_firstOf v10_sizeOf v10_longOf v10_row v10_character v10_sum v10_coefficient v10_undone_28 v10_wasSum_29 v10_wasCoefficient_30 v10_hasImage v10_letter v10_letters v10_list v10_cell v10_refusals v10_tried v10_left v10_high v10_then v10_at v10_readSize) (c_X10_canBeUndone l D cyI cyJ G a H.size v10_firstOf v10_sizeOf v10_longOf v10_row v10_character v10_sum v10_coefficient v10_undone v10_wasSum v10_wasCoefficient v10_hasImage v10_letter v10_letters v10_list v10_cell v10_refusals v10_tried v10_left v10_high v10_then v10_at v10_readSize v10_undone_28 v10_wasSum_29 v10_wasCoefficient_30 hk_31) pk_X10_canBeUndone mw_5_177 ⟨rfl, rfl, Nat.le_of_ble_eq_true rfl, Nat.le_of_ble_eq_true rfl⟩ rfl rfl rfl rfl rfl (Nat.le_of_ble_eq_true rfl) ⟨Nat.le_of_ble_eq_true rfl, Nat.le_of_ble_eq_true rfl⟩ dX10_becomes_48 (fun H locs hP hD hS => ?_)
        refine lv_aload_n hx hb dX10_becomes_51 rfl (lv_at hl 0 rfl) ?_
        refine va_get (ci := 10) (v := .ref (a 34)) hx hb hts wX10_in hown hK hP 0 rfl rfl 5 (by decide) (hts _ mw_4_197) (fun _ h9 => h9) rfl dX10_becomes_52 ?_
        refine lv_iload_n hx hb dX10_becomes_55 rfl (lv_at hl 1 rfl) ?_
        refine lv_iload_n hx hb dX10_becomes_56 rfl (lv_at hl 2 rfl) ?_
        obtain ⟨hi_32, hf⟩ := pe_in hf
        refine va_iast hx hb hK hP hD hS 6 0 rfl rfl hi_32 dX10_becomes_57 (fun H locs hP hD hS => ?_)
        have hP : va_P D xcl (wd_X10 a cyI cyJ v10_firstOf v10_sizeOf v10_longOf v10_row v10_character (upd v10_sum (Int32.toNatClampNeg y1) y2) v10_coefficient v10_undone_28 v10_wasSum_29 v10_wasCoefficient_30 v10_hasImage v10_letter v10_letters v10_list v10_cell v10_refusals v10_tried v10_left v10_high v10_then v10_at v10_readSize) H := hP
        have hD : va_D A (wd_X10 a cyI cyJ v10_firstOf v10_sizeOf v10_longOf v10_row v10_character (upd v10_sum (Int32.toNatClampNeg y1) y2) v10_coefficient v10_undone_28 v10_wasSum_29 v10_wasCoefficient_30 v10_hasImage v10_letter v10_letters v10_list v10_cell v10_refusals v10_tried v10_left v10_high v10_then v10_at v10_readSize) := hD
        refine lv_iconst (v := (0 : Int32)) hx hb dX10_becomes_58 (by decide) ?_
        refine lv_istore_n (lv' := [(3, .int (0 : Int32)), (0, .ref (a 28)), (1, .int y1), (2, .int y2)]) hx hb dX10_becomes_59 rfl hl (by decide) rfl (fun ls hl => ?_)
        exact w_60 1000 (upd v10_sum (Int32.toNatClampNeg y1) y2) v10_coefficient v10_undone_28 v10_wasSum_29 v10_wasCoefficient_30 v10_refusals y1 (0 : Int32) H locs ls hf hP hD hS (lv_sub hl [1, 2, 0] rfl)
      · have hf := pe_f hf hc_27
        refine lv_aload_n hx hb dX10_becomes_8 rfl (lv_at hl 0 rfl) ?_
        refine va_get (ci := 10) (v := .ref (a 43)) hx hb hts wX10_in hown hK hP 0 rfl rfl 19 (by decide) (hts _ mw_4_211) (fun _ h9 => h9) rfl dX10_becomes_9 ?_
        refine lv_iload_n hx hb dX10_becomes_12 rfl (lv_at hl 3 rfl) ?_
        obtain ⟨hi_33, hf⟩ := pe_in hf
        refine va_lald hx hb hK hP 15 1 rfl rfl hi_33 dX10_becomes_13 ?_
        refine lv_ldc2 (v := (1000000 : Int64)) hx hb hown (hts _ mw_5_175) dX10_becomes_14 ?_
        refine W.lcmp hx hb dX10_becomes_17 ?_
        refine lv_if_gt (tgt := 34) hx hb dX10_becomes_18 (by decide) (fun hc_34 => ?_) (fun hc_34 => ?_)
        · have hf := pe_t hf hc_34
          exact w_34 v10_sum v10_coefficient v10_undone v10_wasSum v10_wasCoefficient v10_refusals H locs ls hf hP hD hS (lv_sub hl [0] rfl)
        · have hf := pe_f hf hc_34
          refine lv_aload_n hx hb dX10_becomes_21 rfl (lv_at hl 0 rfl) ?_
          refine va_get (ci := 10) (v := .ref (a 43)) hx hb hts wX10_in hown hK hP 0 rfl rfl 19 (by decide) (hts _ mw_4_211) (fun _ h9 => h9) rfl dX10_becomes_22 ?_
          refine lv_iload_n hx hb dX10_becomes_25 rfl (lv_at hl 3 rfl) ?_
          obtain ⟨hi_35, hf⟩ := pe_in hf
          refine va_lald hx hb hK hP 15 1 rfl rfl hi_35 dX10_becomes_26 ?_
          refine lv_ldc2 (v := (-1000000 : Int64)) hx hb hown (hts _ mw_5_176) dX10_becomes_27 ?_
          refine W.lcmp hx hb dX10_becomes_30 ?_
          refine lv_if_ge (tgt := 41) hx hb dX10_becomes_31 (by decide) (fun hc_36 => ?_) (fun hc_36 => ?_)
          · have hf := pe_t hf hc_36
            refine lv_iinc (v := (y3 + (1 : Int32))) (lv' := [(3, .int (y3 + (1 : Int32))), (0, .ref (a 28)), (1, .int y1), (2, .int y2)]) hx hb dX10_becomes_41 hl (k := 3) rfl rfl (by decide) rfl (fun ls hl => ?_)
            refine lv_goto (tgt := 2) hx hb dX10_becomes_44 (by decide) ?_
            exact w_2 v10_sum v10_coefficient v10_undone v10_wasSum v10_wasCoefficient v10_refusals y1 y2 (y3 + (1 : Int32)) H locs ls hf hP hD hS (lv_sub hl [1, 2, 3, 0] rfl)
          · have hf := pe_f hf hc_36
            exact w_34 v10_sum v10_coefficient v10_undone v10_wasSum v10_wasCoefficient v10_refusals H locs ls hf hP hD hS (lv_sub hl [0] rfl)
  refine lv_iconst (v := (0 : Int32)) hx hb dX10_becomes_0 (by decide) ?_
  refine lv_istore_n (lv' := [(3, .int (0 : Int32)), (0, .ref (a 28)), (1, .int x1), (2, .int x2)]) hx hb dX10_becomes_1 rfl hl (by decide) rfl (fun ls hl => ?_)
  exact w_2 1000 v10_sum v10_coefficient v10_undone v10_wasSum v10_wasCoefficient v10_refusals x1 x2 (0 : Int32) H locs ls hf hP hD hS (lv_sub hl [1, 2, 3, 0] rfl)
def f_X10_letter_27 (v10_letter : Nat → Int32) (v10_letters : Int32) (v10_refusals : Nat → Int32) : Option (Int32 × (Nat → Int32) × Int32 × (Nat → Int32)) := p_b2 (f_X10_refused v10_refusals (-6 : Int32)) (fun r_1 v10_refusals_2 => some (r_1, v10_letter, v10_letters, v10_refusals_2))
def f_X10_letter (v10_letter : Nat → Int32) (v10_letters : Int32) (v10_refusals : Nat → Int32) (x1 : Int32) : Option (Int32 × (Nat → Int32) × Int32 × (Nat → Int32)) := if 0 ≤ x1 then (if (255 : Int32) < x1 then ((f_X10_letter_27) v10_letter v10_letters v10_refusals) else (if v10_letters = (72 : Int32) then ((f_X10_letter_27) v10_letter v10_letters v10_refusals) else (p_in v10_letters 72 (some ((v10_letters + (1 : Int32)), (upd v10_letter (Int32.toNatClampNeg v10_letters) x1), (v10_letters + (1 : Int32)), v10_refusals))))) else (p_b2 (f_X10_refused v10_refusals (-4 : Int32)) (fun r_8 v10_refusals_9 => some (r_8, v10_letter, v10_letters, v10_refusals_9)))
set_option maxHeartbeats 4000000 in
set_option maxRecDepth 20000 in
theorem c_X10_letter (l : Launch) (D : va_G) (cyI cyJ : ClassId) (G a : Nat → Nat) (sz : Nat) (v10_firstOf : Nat → Int32) (v10_sizeOf : Nat → Int32) (v10_longOf : Nat → Int32) (v10_row : Nat → Int32) (v10_character : Nat → Int32) (v10_sum : Nat → Int32) (v10_coefficient : Nat → Int32) (v10_undone : Int32) (v10_wasSum : Nat → Int32) (v10_wasCoefficient : Nat → Int32) (v10_hasImage : Int32) (v10_letter : Nat → Int32) (v10_letters : Int32) (v10_list : Nat → Int32) (v10_cell : Nat → Int32) (v10_refusals : Nat → Int32) (v10_tried : Nat → Int32) (v10_left : Int32) (v10_high : Int32) (v10_then : Nat → Int64) (v10_at : Int32) (v10_readSize : Int32) (x1 : Int32) (ro : Int32) (ov10_letter : Nat → Int32) (ov10_letters : Int32) (ov10_refusals : Nat → Int32) (hf : f_X10_letter v10_letter v10_letters v10_refusals x1 = some (ro, ov10_letter, ov10_letters, ov10_refusals)) : xm_i l yX10_letter (Cond.code yX10_letter cX10_letter 2 (some .int) :: xg_tbl) { frames := 1, cells := 0, slots := 0, locals := 21 } D xcl [(cyI, .int), (cyJ, .long)] G sz [.ref (a 28), .int x1] (wd_X10 a cyI cyJ v10_firstOf v10_sizeOf v10_longOf v10_row v10_character v10_sum v10_coefficient v10_undone v10_wasSum v10_wasCoefficient v10_hasImage v10_letter v10_letters v10_list v10_cell v10_refusals v10_tried v10_left v10_high v10_then v10_at v10_readSize) (wd_X10 a cyI cyJ v10_firstOf v10_sizeOf v10_longOf v10_row v10_character v10_sum v10_coefficient v10_undone v10_wasSum v10_wasCoefficient v10_hasImage ov10_letter ov10_letters v10_list v10_cell ov10_refusals v10_tried v10_left v10_high v10_then v10_at v10_readSize) ro := by
  refine xm_of_i (own := RX10) (by decide) rfl rfl (Nat.le_of_ble_eq_true rfl) ?_
  intro p e s m args below meth c ls Q A hQ hAe hin Cx hsz hP hD hS hl
  have Cx1 := Cx
  obtain ⟨⟨hx, hb, hml, hown, hts⟩, hr, hlocks, hK, hA, hT⟩ := Cx1
  have hl : lv_has ls 2 [(0, .ref (a 28)), (1, .int x1)] := hl
  obtain ⟨H, eH⟩ : ∃ H, H = s.heap := ⟨_, rfl⟩
  obtain ⟨locs, eL⟩ : ∃ L : List Loc, L = [] := ⟨_, rfl⟩
  rw [← eH] at hP
  have hS : va_S A s.heap H locs := by rw [eH, eL]; exact hS
  suffices hgo : W p l e { frames := 1, cells := 0, slots := 0, locals := 21 } s m args below meth c H locs 0 0 Q (F0 m 0 ls []) by rw [eH, eL] at hgo; exact hgo
  clear eH eL
  unfold f_X10_letter at hf
  have w_27 : ∀ (v10_letter : Nat → Int32) (v10_letters : Int32) (v10_refusals : Nat → Int32) (H : Heap) (locs : List Loc) (ls : Array Slot), f_X10_letter_27 v10_letter v10_letters v10_refusals = some (ro, ov10_letter, ov10_letters, ov10_refusals) → va_P D xcl (wd_X10 a cyI cyJ v10_firstOf v10_sizeOf v10_longOf v10_row v10_character v10_sum v10_coefficient v10_undone v10_wasSum v10_wasCoefficient v10_hasImage v10_letter v10_letters v10_list v10_cell v10_refusals v10_tried v10_left v10_high v10_then v10_at v10_readSize) H → va_D A (wd_X10 a cyI cyJ v10_firstOf v10_sizeOf v10_longOf v10_row v10_character v10_sum v10_coefficient v10_undone v10_wasSum v10_wasCoefficient v10_hasImage v10_letter v10_letters v10_list v10_cell v10_refusals v10_tried v10_left v10_high v10_then v10_at v10_readSize) → va_S A s.heap H locs → lv_has ls 2 [(0, .ref (a 28))] → W p l e { frames := 1, cells := 0, slots := 0, locals := 21 } s m args below meth c H locs 0 0 Q (F0 m 27 ls []) := by
    intro v10_letter v10_letters v10_refusals H locs ls hf hP hD hS hl
    unfold f_X10_letter_27 at hf
    refine lv_aload_n hx hb dX10_letter_27 rfl (lv_at hl 0 rfl) ?_
    refine lv_bipush (v := (-6 : Int32)) hx hb dX10_letter_28 (by decide) ?_
    obtain ⟨r_11, v10_refusals_12, hk_13, hf⟩ := pe_2 hf
    refine xv_i (As := [.int (-6 : Int32)]) (rest := []) (q0 := 0) (ci := 10) Cx hP hD hS hl (pl_X10_X10 a cyI cyJ v10_firstOf v10_sizeOf v10_longOf v10_row v10_character v10_sum v10_coefficient v10_undone v10_wasSum v10_wasCoefficient v10_hasImage v10_letter v10_letters v10_list v10_cell v10_refusals v10_tried v10_left v10_high v10_then v10_at v10_readSize v10_firstOf v10_sizeOf v10_longOf v10_row v10_character v10_sum v10_coefficient v10_undone v10_wasSum v10_wasCoefficient v10_hasImage v10_letter v10_letters v10_list v10_cell v10_refusals_12 v10_tried v10_left v10_high v10_then v10_at v10_readSize) (c_X10_refused l D cyI cyJ G a H.size v10_firstOf v10_sizeOf v10_longOf v10_row v10_character v10_sum v10_coefficient v10_undone v10_wasSum v10_wasCoefficient v10_hasImage v10_letter v10_letters v10_list v10_cell v10_refusals v10_tried v10_left v10_high v10_then v10_at v10_readSize (-6 : Int32) r_11 v10_refusals_12 hk_13) pk_X10_refused mw_5_29 ⟨rfl, rfl, Nat.le_of_ble_eq_true rfl, Nat.le_of_ble_eq_true rfl⟩ rfl rfl rfl rfl rfl (Nat.le_of_ble_eq_true rfl) ⟨Nat.le_of_ble_eq_true rfl, Nat.le_of_ble_eq_true rfl⟩ dX10_letter_30 (fun H locs hP hD hS => ?_)
    obtain ⟨rfl, rfl, rfl, rfl⟩ := po_4 hf
    rw [← hQ]; exact xe_iret Cx rfl hP hD hS dX10_letter_33
  refine lv_iload_n hx hb dX10_letter_0 rfl (lv_at hl 1 rfl) ?_
  refine lv_if_ge (tgt := 11) hx hb dX10_letter_1 (by decide) (fun hc_14 => ?_) (fun hc_14 => ?_)
  · have hf := pe_t hf hc_14
    refine lv_iload_n hx hb dX10_letter_11 rfl (lv_at hl 1 rfl) ?_
    refine lv_sipush (v := (255 : Int32)) hx hb dX10_letter_12 (by decide) ?_
    refine lv_icmp_gt (tgt := 27) hx hb dX10_letter_15 (by decide) (fun hc_15 => ?_) (fun hc_15 => ?_)
    · have hf := pe_t hf hc_15
      exact w_27 v10_letter v10_letters v10_refusals H locs ls hf hP hD hS (lv_sub hl [0] rfl)
    · have hf := pe_f hf hc_15
      refine lv_aload_n hx hb dX10_letter_18 rfl (lv_at hl 0 rfl) ?_
      refine va_get (ci := 10) (v := .int v10_letters) hx hb hts wX10_in hown hK hP 0 rfl rfl 12 (by decide) (hts _ mw_4_204) (fun _ h9 => h9) rfl dX10_letter_19 ?_
      refine lv_bipush (v := (72 : Int32)) hx hb dX10_letter_22 (by decide) ?_
      refine lv_icmp_ne (tgt := 34) hx hb dX10_letter_24 (by decide) (fun hc_16 => ?_) (fun hc_16 => ?_)
      · have hf := pe_f hf hc_16
        refine lv_aload_n hx hb dX10_letter_34 rfl (lv_at hl 0 rfl) ?_
        refine va_get (ci := 10) (v := .ref (a 38)) hx hb hts wX10_in hown hK hP 0 rfl rfl 11 (by decide) (hts _ mw_4_203) (fun _ h9 => h9) rfl dX10_letter_35 ?_
        refine lv_aload_n hx hb dX10_letter_38 rfl (lv_at hl 0 rfl) ?_
        refine va_get (ci := 10) (v := .int v10_letters) hx hb hts wX10_in hown hK hP 0 rfl rfl 12 (by decide) (hts _ mw_4_204) (fun _ h9 => h9) rfl dX10_letter_39 ?_
        refine lv_iload_n hx hb dX10_letter_42 rfl (lv_at hl 1 rfl) ?_
        obtain ⟨hi_17, hf⟩ := pe_in hf
        refine va_iast hx hb hK hP hD hS 10 0 rfl rfl hi_17 dX10_letter_43 (fun H locs hP hD hS => ?_)
        have hP : va_P D xcl (wd_X10 a cyI cyJ v10_firstOf v10_sizeOf v10_longOf v10_row v10_character v10_sum v10_coefficient v10_undone v10_wasSum v10_wasCoefficient v10_hasImage (upd v10_letter (Int32.toNatClampNeg v10_letters) x1) v10_letters v10_list v10_cell v10_refusals v10_tried v10_left v10_high v10_then v10_at v10_readSize) H := hP
        have hD : va_D A (wd_X10 a cyI cyJ v10_firstOf v10_sizeOf v10_longOf v10_row v10_character v10_sum v10_coefficient v10_undone v10_wasSum v10_wasCoefficient v10_hasImage (upd v10_letter (Int32.toNatClampNeg v10_letters) x1) v10_letters v10_list v10_cell v10_refusals v10_tried v10_left v10_high v10_then v10_at v10_readSize) := hD
        refine lv_aload_n hx hb dX10_letter_44 rfl (lv_at hl 0 rfl) ?_
        refine lv_dup hx hb dX10_letter_45 rfl ?_
        refine va_get (ci := 10) (v := .int v10_letters) hx hb hts wX10_in hown hK hP 0 rfl rfl 12 (by decide) (hts _ mw_4_204) (fun _ h9 => h9) rfl dX10_letter_46 ?_
        refine lv_iconst (v := (1 : Int32)) hx hb dX10_letter_49 (by decide) ?_
        refine lv_iadd hx hb dX10_letter_50 ?_
        refine va_put (ci := 10) (v := .int (v10_letters + (1 : Int32))) (ty := .int) hx hb hts wX10_in tyX10 tyX10_ok nmX10 hown hK hP hD hS 0 rfl rfl 12 (by decide) (hts _ mw_4_204) (fun _ h9 => h9) rfl (by decide +kernel) rfl rfl (Nat.le_of_ble_eq_true rfl) dX10_letter_51 (fun H locs hP hD hS => ?_)
        have hP : va_P D xcl (wd_X10 a cyI cyJ v10_firstOf v10_sizeOf v10_longOf v10_row v10_character v10_sum v10_coefficient v10_undone v10_wasSum v10_wasCoefficient v10_hasImage (upd v10_letter (Int32.toNatClampNeg v10_letters) x1) (v10_letters + (1 : Int32)) v10_list v10_cell v10_refusals v10_tried v10_left v10_high v10_then v10_at v10_readSize) H := hP
        have hD : va_D A (wd_X10 a cyI cyJ v10_firstOf v10_sizeOf v10_longOf v10_row v10_character v10_sum v10_coefficient v10_undone v10_wasSum v10_wasCoefficient v10_hasImage (upd v10_letter (Int32.toNatClampNeg v10_letters) x1) (v10_letters + (1 : Int32)) v10_list v10_cell v10_refusals v10_tried v10_left v10_high v10_then v10_at v10_readSize) := hD
        refine lv_aload_n hx hb dX10_letter_54 rfl (lv_at hl 0 rfl) ?_
        refine va_get (ci := 10) (v := .int (v10_letters + (1 : Int32))) hx hb hts wX10_in hown hK hP 0 rfl rfl 12 (by decide) (hts _ mw_4_204) (fun _ h9 => h9) rfl dX10_letter_55 ?_
        obtain ⟨rfl, rfl, rfl, rfl⟩ := po_4 hf
        rw [← hQ]; exact xe_iret Cx rfl hP hD hS dX10_letter_58
      · have hf := pe_t hf hc_16
        exact w_27 v10_letter v10_letters v10_refusals H locs ls hf hP hD hS (lv_sub hl [0] rfl)
  · have hf := pe_f hf hc_14
    refine lv_aload_n hx hb dX10_letter_4 rfl (lv_at hl 0 rfl) ?_
    refine lv_bipush (v := (-4 : Int32)) hx hb dX10_letter_5 (by decide) ?_
    obtain ⟨r_18, v10_refusals_19, hk_20, hf⟩ := pe_2 hf
    refine xv_i (As := [.int (-4 : Int32)]) (rest := []) (q0 := 0) (ci := 10) Cx hP hD hS hl (pl_X10_X10 a cyI cyJ v10_firstOf v10_sizeOf v10_longOf v10_row v10_character v10_sum v10_coefficient v10_undone v10_wasSum v10_wasCoefficient v10_hasImage v10_letter v10_letters v10_list v10_cell v10_refusals v10_tried v10_left v10_high v10_then v10_at v10_readSize v10_firstOf v10_sizeOf v10_longOf v10_row v10_character v10_sum v10_coefficient v10_undone v10_wasSum v10_wasCoefficient v10_hasImage v10_letter v10_letters v10_list v10_cell v10_refusals_19 v10_tried v10_left v10_high v10_then v10_at v10_readSize) (c_X10_refused l D cyI cyJ G a H.size v10_firstOf v10_sizeOf v10_longOf v10_row v10_character v10_sum v10_coefficient v10_undone v10_wasSum v10_wasCoefficient v10_hasImage v10_letter v10_letters v10_list v10_cell v10_refusals v10_tried v10_left v10_high v10_then v10_at v10_readSize (-4 : Int32) r_18 v10_refusals_19 hk_20) pk_X10_refused mw_5_29 ⟨rfl, rfl, Nat.le_of_ble_eq_true rfl, Nat.le_of_ble_eq_true rfl⟩ rfl rfl rfl rfl rfl (Nat.le_of_ble_eq_true rfl) ⟨Nat.le_of_ble_eq_true rfl, Nat.le_of_ble_eq_true rfl⟩ dX10_letter_7 (fun H locs hP hD hS => ?_)
    obtain ⟨rfl, rfl, rfl, rfl⟩ := po_4 hf
    rw [← hQ]; exact xe_iret Cx rfl hP hD hS dX10_letter_10
def f_X10_isHere (v10_letter : Nat → Int32) (v10_letters : Int32) (v10_at : Int32) (x1 : Int32) (x2 : Int32) : Option (Int32) := if v10_letters ≤ v10_at then (some ((0 : Int32))) else (p_in v10_at 72 (p_b1 (f_X10_in (v10_letter (Int32.toNatClampNeg v10_at)) x1 x2) (fun r_3 => if r_3 = 0 then (some ((0 : Int32))) else (some ((1 : Int32))))))
set_option maxHeartbeats 4000000 in
set_option maxRecDepth 20000 in
theorem c_X10_isHere (l : Launch) (D : va_G) (cyI cyJ : ClassId) (G a : Nat → Nat) (sz : Nat) (v10_firstOf : Nat → Int32) (v10_sizeOf : Nat → Int32) (v10_longOf : Nat → Int32) (v10_row : Nat → Int32) (v10_character : Nat → Int32) (v10_sum : Nat → Int32) (v10_coefficient : Nat → Int32) (v10_undone : Int32) (v10_wasSum : Nat → Int32) (v10_wasCoefficient : Nat → Int32) (v10_hasImage : Int32) (v10_letter : Nat → Int32) (v10_letters : Int32) (v10_list : Nat → Int32) (v10_cell : Nat → Int32) (v10_refusals : Nat → Int32) (v10_tried : Nat → Int32) (v10_left : Int32) (v10_high : Int32) (v10_then : Nat → Int64) (v10_at : Int32) (v10_readSize : Int32) (x1 : Int32) (x2 : Int32) (ro : Int32) (hf : f_X10_isHere v10_letter v10_letters v10_at x1 x2 = some ro) : xm_z l yX10_isHere (Cond.code yX10_isHere cX10_isHere 3 (some .boolean) :: xg_tbl) { frames := 1, cells := 0, slots := 0, locals := 22 } D xcl [(cyI, .int), (cyJ, .long)] G sz [.ref (a 28), .int x1, .int x2] (wd_X10 a cyI cyJ v10_firstOf v10_sizeOf v10_longOf v10_row v10_character v10_sum v10_coefficient v10_undone v10_wasSum v10_wasCoefficient v10_hasImage v10_letter v10_letters v10_list v10_cell v10_refusals v10_tried v10_left v10_high v10_then v10_at v10_readSize) (wd_X10 a cyI cyJ v10_firstOf v10_sizeOf v10_longOf v10_row v10_character v10_sum v10_coefficient v10_undone v10_wasSum v10_wasCoefficient v10_hasImage v10_letter v10_letters v10_list v10_cell v10_refusals v10_tried v10_left v10_high v10_then v10_at v10_readSize) ro := by
  refine xm_of_z (own := RX10) (by decide) rfl rfl (Nat.le_of_ble_eq_true rfl) ?_
  intro p e s m args below meth c ls Q A hQ hAe hin Cx hsz hP hD hS hl
  have Cx1 := Cx
  obtain ⟨⟨hx, hb, hml, hown, hts⟩, hr, hlocks, hK, hA, hT⟩ := Cx1
  have hl : lv_has ls 3 [(0, .ref (a 28)), (1, .int x1), (2, .int x2)] := hl
  obtain ⟨H, eH⟩ : ∃ H, H = s.heap := ⟨_, rfl⟩
  obtain ⟨locs, eL⟩ : ∃ L : List Loc, L = [] := ⟨_, rfl⟩
  rw [← eH] at hP
  have hS : va_S A s.heap H locs := by rw [eH, eL]; exact hS
  suffices hgo : W p l e { frames := 1, cells := 0, slots := 0, locals := 22 } s m args below meth c H locs 0 0 Q (F0 m 0 ls []) by rw [eH, eL] at hgo; exact hgo
  clear eH eL
  unfold f_X10_isHere at hf
  refine lv_aload_n hx hb dX10_isHere_0 rfl (lv_at hl 0 rfl) ?_
  refine va_get (ci := 10) (v := .int v10_at) hx hb hts wX10_in hown hK hP 0 rfl rfl 20 (by decide) (hts _ mw_4_212) (fun _ h9 => h9) rfl dX10_isHere_1 ?_
  refine lv_aload_n hx hb dX10_isHere_4 rfl (lv_at hl 0 rfl) ?_
  refine va_get (ci := 10) (v := .int v10_letters) hx hb hts wX10_in hown hK hP 0 rfl rfl 12 (by decide) (hts _ mw_4_204) (fun _ h9 => h9) rfl dX10_isHere_5 ?_
  refine lv_icmp_ge (tgt := 32) hx hb dX10_isHere_8 (by decide) (fun hc_7 => ?_) (fun hc_7 => ?_)
  · have hf := pe_t hf hc_7
    refine lv_iconst (v := (0 : Int32)) hx hb dX10_isHere_32 (by decide) ?_
    obtain rfl := po_1 hf
    rw [← hQ]; exact xe_zret Cx rfl rfl hP hD hS dX10_isHere_33
  · have hf := pe_f hf hc_7
    refine lv_aload_n hx hb dX10_isHere_11 rfl (lv_at hl 0 rfl) ?_
    refine va_get (ci := 10) (v := .ref (a 38)) hx hb hts wX10_in hown hK hP 0 rfl rfl 11 (by decide) (hts _ mw_4_203) (fun _ h9 => h9) rfl dX10_isHere_12 ?_
    refine lv_aload_n hx hb dX10_isHere_15 rfl (lv_at hl 0 rfl) ?_
    refine va_get (ci := 10) (v := .int v10_at) hx hb hts wX10_in hown hK hP 0 rfl rfl 20 (by decide) (hts _ mw_4_212) (fun _ h9 => h9) rfl dX10_isHere_16 ?_
    obtain ⟨hi_8, hf⟩ := pe_in hf
    refine va_iald hx hb hK hP 10 0 rfl rfl hi_8 dX10_isHere_19 ?_
    refine lv_iload_n hx hb dX10_isHere_20 rfl (lv_at hl 1 rfl) ?_
    refine lv_iload_n hx hb dX10_isHere_21 rfl (lv_at hl 2 rfl) ?_
    obtain ⟨r_9, hk_10, hf⟩ := pe_1 hf
    refine xw_z (As := [.int (v10_letter (Int32.toNatClampNeg v10_at)), .int x1, .int x2]) (rest := []) Cx hP hD hS hl (xq_none _) (c_X10_in l D cyI cyJ G H.size (v10_letter (Int32.toNatClampNeg v10_at)) x1 x2 r_9 hk_10) pk_X10_in mw_5_26 ⟨rfl, rfl, Nat.le_of_ble_eq_true rfl, Nat.le_of_ble_eq_true rfl⟩ rfl rfl (Nat.le_of_ble_eq_true rfl) ⟨Nat.le_of_ble_eq_true rfl, Nat.le_of_ble_eq_true rfl⟩ dX10_isHere_22 (fun H locs hn_11 hP hD hS => ?_)
    refine lv_if_eq (tgt := 32) hx hb dX10_isHere_25 (by decide) (fun hc_12 => ?_) (fun hc_12 => ?_)
    · have hf := pe_t hf hc_12
      refine lv_iconst (v := (0 : Int32)) hx hb dX10_isHere_32 (by decide) ?_
      obtain rfl := po_1 hf
      rw [← hQ]; exact xe_zret Cx rfl rfl hP hD hS dX10_isHere_33
    · have hf := pe_f hf hc_12
      refine lv_iconst (v := (1 : Int32)) hx hb dX10_isHere_28 (by decide) ?_
      refine lv_goto (tgt := 33) hx hb dX10_isHere_29 (by decide) ?_
      obtain rfl := po_1 hf
      rw [← hQ]; exact xe_zret Cx rfl rfl hP hD hS dX10_isHere_33
def f_X10_readTerm_215 (v10_firstOf : Nat → Int32) (v10_row : Nat → Int32) (v10_letter : Nat → Int32) (v10_letters : Int32) (v10_tried : Nat → Int32) (v10_then : Nat → Int64) (v10_at : Int32) (v10_readSize : Int32) (y1 : Int32) (y3 : Int32) (y5 : Int32) : Option (Int32 × (Nat → Int32) × (Nat → Int64) × Int32 × Int32) := p_b1 (f_X10_shapeTried v10_row v10_tried) (fun r_1 => p_in y5 10 (p_in (r_1 - (v10_firstOf (Int32.toNatClampNeg y5))) 22 (p_in (r_1 - (v10_firstOf (Int32.toNatClampNeg y5))) 22 (some ((1 : Int32), v10_tried, (vp_updL v10_then (Int32.toNatClampNeg (r_1 - (v10_firstOf (Int32.toNatClampNeg y5)))) ((v10_then (Int32.toNatClampNeg (r_1 - (v10_firstOf (Int32.toNatClampNeg y5))))) + (Int32.toInt64 (y1 * y3)))), (v10_at + (1 : Int32)), y5)))))
def gf_X10_readTerm_121 (K_121 : (Nat → Int32) → (Nat → Int64) → Int32 → Int32 → Int32 → Int32 → Int32 → Int32 → Int32 → Int32 → Int32 → Option (Int32 × (Nat → Int32) × (Nat → Int64) × Int32 × Int32)) (v10_firstOf : Nat → Int32) (v10_row : Nat → Int32) (v10_letter : Nat → Int32) (v10_letters : Int32) (v10_tried : Nat → Int32) (v10_then : Nat → Int64) (v10_at : Int32) (v10_readSize : Int32) (y1 : Int32) (y2 : Int32) (y3 : Int32) (y4 : Int32) (y5 : Int32) (y6 : Int32) (y7 : Int32) : Option (Int32 × (Nat → Int32) × (Nat → Int64) × Int32 × Int32) := p_b1 (f_X10_isHere v10_letter v10_letters v10_at (49 : Int32) ((48 : Int32) + (if (y7 - y5) < y4 then (y7 - y5) else y4))) (fun r_6 => if r_6 = 0 then (p_b1 (f_X10_isHere v10_letter v10_letters v10_at (93 : Int32) (93 : Int32)) (fun r_10 => if r_10 = 0 then (some ((0 : Int32), v10_tried, v10_then, v10_at, v10_readSize)) else (if y2 = 0 then (if y5 = v10_readSize then ((f_X10_readTerm_215 v10_firstOf v10_row v10_letter v10_letters) v10_tried v10_then v10_at v10_readSize y1 y3 y5) else (some ((0 : Int32), v10_tried, v10_then, v10_at, v10_readSize))) else ((f_X10_readTerm_215 v10_firstOf v10_row v10_letter v10_letters) v10_tried v10_then v10_at v10_readSize y1 y3 y5)))) else (p_in v10_at 72 (p_in y6 9 (K_121 (upd v10_tried (Int32.toNatClampNeg y6) ((v10_letter (Int32.toNatClampNeg v10_at)) - (48 : Int32))) v10_then (v10_at + (1 : Int32)) v10_readSize y1 y2 y3 ((v10_letter (Int32.toNatClampNeg v10_at)) - (48 : Int32)) (y5 + ((v10_letter (Int32.toNatClampNeg v10_at)) - (48 : Int32))) (y6 + (1 : Int32)) y7))))
def f_X10_readTerm_121 (v10_firstOf : Nat → Int32) (v10_row : Nat → Int32) (v10_letter : Nat → Int32) (v10_letters : Int32) : Nat → (Nat → Int32) → (Nat → Int64) → Int32 → Int32 → Int32 → Int32 → Int32 → Int32 → Int32 → Int32 → Int32 → Option (Int32 × (Nat → Int32) × (Nat → Int64) × Int32 × Int32)
  | 0 => fun _ _ _ _ _ _ _ _ _ _ _ => none
  | n + 1 => gf_X10_readTerm_121 (f_X10_readTerm_121 v10_firstOf v10_row v10_letter v10_letters n) v10_firstOf v10_row v10_letter v10_letters
def f_X10_readTerm_119 (v10_firstOf : Nat → Int32) (v10_row : Nat → Int32) (v10_letter : Nat → Int32) (v10_letters : Int32) (v10_tried : Nat → Int32) (v10_then : Nat → Int64) (v10_at : Int32) (v10_readSize : Int32) (y1 : Int32) (y2 : Int32) (y3 : Int32) (y4 : Int32) (y5 : Int32) (y6 : Int32) (z0 : Int32) : Option (Int32 × (Nat → Int32) × (Nat → Int64) × Int32 × Int32) := (f_X10_readTerm_121 v10_firstOf v10_row v10_letter v10_letters 1000) v10_tried v10_then v10_at v10_readSize y1 y2 y3 y4 y5 y6 z0
def f_X10_readTerm_69 (v10_firstOf : Nat → Int32) (v10_row : Nat → Int32) (v10_letter : Nat → Int32) (v10_letters : Int32) (v10_tried : Nat → Int32) (v10_then : Nat → Int64) (v10_at : Int32) (v10_readSize : Int32) (y1 : Int32) (y2 : Int32) (y3 : Int32) : Option (Int32 × (Nat → Int32) × (Nat → Int64) × Int32 × Int32) := p_b1 (f_X10_isHere v10_letter v10_letters v10_at (91 : Int32) (91 : Int32)) (fun r_18 => if r_18 = 0 then (some ((0 : Int32), v10_tried, v10_then, v10_at, v10_readSize)) else (p_b1 (f_X10_triesNone v10_tried) (fun v10_tried_22 => if y2 = 0 then ((f_X10_readTerm_119 v10_firstOf v10_row v10_letter v10_letters) v10_tried_22 v10_then (v10_at + (1 : Int32)) v10_readSize y1 y2 y3 (8 : Int32) (0 : Int32) (0 : Int32) v10_readSize) else ((f_X10_readTerm_119 v10_firstOf v10_row v10_letter v10_letters) v10_tried_22 v10_then (v10_at + (1 : Int32)) v10_readSize y1 y2 y3 (8 : Int32) (0 : Int32) (0 : Int32) (8 : Int32)))))
def gf_X10_readTerm_18 (K_18 : (Nat → Int32) → (Nat → Int64) → Int32 → Int32 → Int32 → Int32 → Int32 → Int32 → Option (Int32 × (Nat → Int32) × (Nat → Int64) × Int32 × Int32)) (K_69 : (Nat → Int32) → (Nat → Int64) → Int32 → Int32 → Int32 → Int32 → Int32 → Option (Int32 × (Nat → Int32) × (Nat → Int64) × Int32 × Int32)) (v10_firstOf : Nat → Int32) (v10_row : Nat → Int32) (v10_letter : Nat → Int32) (v10_letters : Int32) (v10_tried : Nat → Int32) (v10_then : Nat → Int64) (v10_at : Int32) (v10_readSize : Int32) (y1 : Int32) (y2 : Int32) (y3 : Int32) (y4 : Int32) : Option (Int32 × (Nat → Int32) × (Nat → Int64) × Int32 × Int32) := if (3 : Int32) ≤ y4 then (K_69 v10_tried v10_then v10_at v10_readSize y1 y2 y3) else (p_b1 (f_X10_isHere v10_letter v10_letters v10_at (48 : Int32) (57 : Int32)) (fun r_26 => if r_26 = 0 then (K_69 v10_tried v10_then v10_at v10_readSize y1 y2 y3) else (p_in v10_at 72 (K_18 v10_tried v10_then (v10_at + (1 : Int32)) v10_readSize y1 y2 ((((10 : Int32) * y3) + (v10_letter (Int32.toNatClampNeg v10_at))) - (48 : Int32)) (y4 + (1 : Int32))))))
def f_X10_readTerm_18 (K_69 : (Nat → Int32) → (Nat → Int64) → Int32 → Int32 → Int32 → Int32 → Int32 → Option (Int32 × (Nat → Int32) × (Nat → Int64) × Int32 × Int32)) (v10_firstOf : Nat → Int32) (v10_row : Nat → Int32) (v10_letter : Nat → Int32) (v10_letters : Int32) : Nat → (Nat → Int32) → (Nat → Int64) → Int32 → Int32 → Int32 → Int32 → Int32 → Int32 → Option (Int32 × (Nat → Int32) × (Nat → Int64) × Int32 × Int32)
  | 0 => fun _ _ _ _ _ _ _ _ => none
  | n + 1 => gf_X10_readTerm_18 (f_X10_readTerm_18 K_69 v10_firstOf v10_row v10_letter v10_letters n) K_69 v10_firstOf v10_row v10_letter v10_letters
def f_X10_readTerm (v10_firstOf : Nat → Int32) (v10_row : Nat → Int32) (v10_letter : Nat → Int32) (v10_letters : Int32) (v10_tried : Nat → Int32) (v10_then : Nat → Int64) (v10_at : Int32) (v10_readSize : Int32) (x1 : Int32) (x2 : Int32) : Option (Int32 × (Nat → Int32) × (Nat → Int64) × Int32 × Int32) := p_b1 (f_X10_isHere v10_letter v10_letters v10_at (48 : Int32) (57 : Int32)) (fun r_31 => if r_31 = 0 then ((f_X10_readTerm_69 v10_firstOf v10_row v10_letter v10_letters) v10_tried v10_then v10_at v10_readSize x1 x2 (1 : Int32)) else ((f_X10_readTerm_18 (f_X10_readTerm_69 v10_firstOf v10_row v10_letter v10_letters) v10_firstOf v10_row v10_letter v10_letters 1000) v10_tried v10_then v10_at v10_readSize x1 x2 (0 : Int32) (0 : Int32)))
set_option maxHeartbeats 4000000 in
set_option maxRecDepth 20000 in
theorem c_X10_readTerm (l : Launch) (D : va_G) (cyI cyJ : ClassId) (G a : Nat → Nat) (sz : Nat) (v10_firstOf : Nat → Int32) (v10_sizeOf : Nat → Int32) (v10_longOf : Nat → Int32) (v10_row : Nat → Int32) (v10_character : Nat → Int32) (v10_sum : Nat → Int32) (v10_coefficient : Nat → Int32) (v10_undone : Int32) (v10_wasSum : Nat → Int32) (v10_wasCoefficient : Nat → Int32) (v10_hasImage : Int32) (v10_letter : Nat → Int32) (v10_letters : Int32) (v10_list : Nat → Int32) (v10_cell : Nat → Int32) (v10_refusals : Nat → Int32) (v10_tried : Nat → Int32) (v10_left : Int32) (v10_high : Int32) (v10_then : Nat → Int64) (v10_at : Int32) (v10_readSize : Int32) (x1 : Int32) (x2 : Int32) (ro : Int32) (ov10_tried : Nat → Int32) (ov10_then : Nat → Int64) (ov10_at : Int32) (ov10_readSize : Int32) (hf : f_X10_readTerm v10_firstOf v10_row v10_letter v10_letters v10_tried v10_then v10_at v10_readSize x1 x2 = some (ro, ov10_tried, ov10_then, ov10_at, ov10_readSize)) : xm_z l yX10_readTerm (Cond.code yX10_readTerm cX10_readTerm 8 (some .boolean) :: xg_tbl) { frames := 2, cells := 0, slots := 0, locals := 45 } D xcl [(cyI, .int), (cyJ, .long)] G sz [.ref (a 28), .int x1, .int x2] (wd_X10 a cyI cyJ v10_firstOf v10_sizeOf v10_longOf v10_row v10_character v10_sum v10_coefficient v10_undone v10_wasSum v10_wasCoefficient v10_hasImage v10_letter v10_letters v10_list v10_cell v10_refusals v10_tried v10_left v10_high v10_then v10_at v10_readSize) (wd_X10 a cyI cyJ v10_firstOf v10_sizeOf v10_longOf v10_row v10_character v10_sum v10_coefficient v10_undone v10_wasSum v10_wasCoefficient v10_hasImage v10_letter v10_letters v10_list v10_cell v10_refusals ov10_tried v10_left v10_high ov10_then ov10_at ov10_readSize) ro := by
  refine xm_of_z (own := RX10) (by decide) rfl rfl (Nat.le_of_ble_eq_true rfl) ?_
  intro p e s m args below meth c ls Q A hQ hAe hin Cx hsz hP hD hS hl
  have Cx1 := Cx
  obtain ⟨⟨hx, hb, hml, hown, hts⟩, hr, hlocks, hK, hA, hT⟩ := Cx1
  have hl : lv_has ls 8 [(0, .ref (a 28)), (1, .int x1), (2, .int x2)] := hl
  obtain ⟨H, eH⟩ : ∃ H, H = s.heap := ⟨_, rfl⟩
  obtain ⟨locs, eL⟩ : ∃ L : List Loc, L = [] := ⟨_, rfl⟩
  rw [← eH] at hP
  have hS : va_S A s.heap H locs := by rw [eH, eL]; exact hS
  suffices hgo : W p l e { frames := 2, cells := 0, slots := 0, locals := 45 } s m args below meth c H locs 0 0 Q (F0 m 0 ls []) by rw [eH, eL] at hgo; exact hgo
  clear eH eL
  unfold f_X10_readTerm at hf
  have w_69 : ∀ (v10_tried : Nat → Int32) (v10_then : Nat → Int64) (v10_at : Int32) (v10_readSize : Int32) (y1 : Int32) (y2 : Int32) (y3 : Int32) (H : Heap) (locs : List Loc) (ls : Array Slot), (f_X10_readTerm_69 v10_firstOf v10_row v10_letter v10_letters) v10_tried v10_then v10_at v10_readSize y1 y2 y3 = some (ro, ov10_tried, ov10_then, ov10_at, ov10_readSize) → va_P D xcl (wd_X10 a cyI cyJ v10_firstOf v10_sizeOf v10_longOf v10_row v10_character v10_sum v10_coefficient v10_undone v10_wasSum v10_wasCoefficient v10_hasImage v10_letter v10_letters v10_list v10_cell v10_refusals v10_tried v10_left v10_high v10_then v10_at v10_readSize) H → va_D A (wd_X10 a cyI cyJ v10_firstOf v10_sizeOf v10_longOf v10_row v10_character v10_sum v10_coefficient v10_undone v10_wasSum v10_wasCoefficient v10_hasImage v10_letter v10_letters v10_list v10_cell v10_refusals v10_tried v10_left v10_high v10_then v10_at v10_readSize) → va_S A s.heap H locs → lv_has ls 8 [(0, .ref (a 28)), (1, .int y1), (2, .int y2), (3, .int y3)] → W p l e { frames := 2, cells := 0, slots := 0, locals := 45 } s m args below meth c H locs 0 0 Q (F0 m 69 ls []) := by
    intro v10_tried v10_then v10_at v10_readSize y1 y2 y3 H locs ls hf hP hD hS hl
    unfold f_X10_readTerm_69 at hf
    have w_119 : ∀ (v10_tried : Nat → Int32) (v10_then : Nat → Int64) (v10_at : Int32) (v10_readSize : Int32) (y1 : Int32) (y2 : Int32) (y3 : Int32) (y4 : Int32) (y5 : Int32) (y6 : Int32) (z0 : Int32) (H : Heap) (locs : List Loc) (ls : Array Slot), (f_X10_readTerm_119 v10_firstOf v10_row v10_letter v10_letters) v10_tried v10_then v10_at v10_readSize y1 y2 y3 y4 y5 y6 z0 = some (ro, ov10_tried, ov10_then, ov10_at, ov10_readSize) → va_P D xcl (wd_X10 a cyI cyJ v10_firstOf v10_sizeOf v10_longOf v10_row v10_character v10_sum v10_coefficient v10_undone v10_wasSum v10_wasCoefficient v10_hasImage v10_letter v10_letters v10_list v10_cell v10_refusals v10_tried v10_left v10_high v10_then v10_at v10_readSize) H → va_D A (wd_X10 a cyI cyJ v10_firstOf v10_sizeOf v10_longOf v10_row v10_character v10_sum v10_coefficient v10_undone v10_wasSum v10_wasCoefficient v10_hasImage v10_letter v10_letters v10_list v10_cell v10_refusals v10_tried v10_left v10_high v10_then v10_at v10_readSize) → va_S A s.heap H locs → lv_has ls 8 [(0, .ref (a 28)), (1, .int y1), (2, .int y2), (3, .int y3), (4, .int y4), (5, .int y5), (6, .int y6)] → W p l e { frames := 2, cells := 0, slots := 0, locals := 45 } s m args below meth c H locs 0 0 Q (F0 m 119 ls [.int z0]) := by
      intro v10_tried v10_then v10_at v10_readSize y1 y2 y3 y4 y5 y6 z0 H locs ls hf hP hD hS hl
      unfold f_X10_readTerm_119 at hf
      have w_121 : ∀ (n_121 : Nat) (v10_tried : Nat → Int32) (v10_then : Nat → Int64) (v10_at : Int32) (v10_readSize : Int32) (y1 : Int32) (y2 : Int32) (y3 : Int32) (y4 : Int32) (y5 : Int32) (y6 : Int32) (y7 : Int32) (H : Heap) (locs : List Loc) (ls : Array Slot), (f_X10_readTerm_121 v10_firstOf v10_row v10_letter v10_letters) n_121 v10_tried v10_then v10_at v10_readSize y1 y2 y3 y4 y5 y6 y7 = some (ro, ov10_tried, ov10_then, ov10_at, ov10_readSize) → va_P D xcl (wd_X10 a cyI cyJ v10_firstOf v10_sizeOf v10_longOf v10_row v10_character v10_sum v10_coefficient v10_undone v10_wasSum v10_wasCoefficient v10_hasImage v10_letter v10_letters v10_list v10_cell v10_refusals v10_tried v10_left v10_high v10_then v10_at v10_readSize) H → va_D A (wd_X10 a cyI cyJ v10_firstOf v10_sizeOf v10_longOf v10_row v10_character v10_sum v10_coefficient v10_undone v10_wasSum v10_wasCoefficient v10_hasImage v10_letter v10_letters v10_list v10_cell v10_refusals v10_tried v10_left v10_high v10_then v10_at v10_readSize) → va_S A s.heap H locs → lv_has ls 8 [(0, .ref (a 28)), (1, .int y1), (2, .int y2), (3, .int y3), (4, .int y4), (5, .int y5), (6, .int y6), (7, .int y7)] → W p l e { frames := 2, cells := 0, slots := 0, locals := 45 } s m args below meth c H locs 0 0 Q (F0 m 121 ls []) := by
        intro n_121
        induction n_121 with
        | zero => intro v10_tried v10_then v10_at v10_readSize y1 y2 y3 y4 y5 y6 y7 H locs ls hf; exact absurd hf (by intro h9; cases h9)
        | succ n_121 w_121 =>
          intro v10_tried v10_then v10_at v10_readSize y1 y2 y3 y4 y5 y6 y7 H locs ls hf hP hD hS hl
          have hf : gf_X10_readTerm_121 ((f_X10_readTerm_121 v10_firstOf v10_row v10_letter v10_letters) n_121) v10_firstOf v10_row v10_letter v10_letters v10_tried v10_then v10_at v10_readSize y1 y2 y3 y4 y5 y6 y7 = some (ro, ov10_tried, ov10_then, ov10_at, ov10_readSize) := hf
          unfold gf_X10_readTerm_121 at hf
          have w_215 : ∀ (v10_tried : Nat → Int32) (v10_then : Nat → Int64) (v10_at : Int32) (v10_readSize : Int32) (y1 : Int32) (y3 : Int32) (y5 : Int32) (H : Heap) (locs : List Loc) (ls : Array Slot), (f_X10_readTerm_215 v10_firstOf v10_row v10_letter v10_letters) v10_tried v10_then v10_at v10_readSize y1 y3 y5 = some (ro, ov10_tried, ov10_then, ov10_at, ov10_readSize) → va_P D xcl (wd_X10 a cyI cyJ v10_firstOf v10_sizeOf v10_longOf v10_row v10_character v10_sum v10_coefficient v10_undone v10_wasSum v10_wasCoefficient v10_hasImage v10_letter v10_letters v10_list v10_cell v10_refusals v10_tried v10_left v10_high v10_then v10_at v10_readSize) H → va_D A (wd_X10 a cyI cyJ v10_firstOf v10_sizeOf v10_longOf v10_row v10_character v10_sum v10_coefficient v10_undone v10_wasSum v10_wasCoefficient v10_hasImage v10_letter v10_letters v10_list v10_cell v10_refusals v10_tried v10_left v10_high v10_then v10_at v10_readSize) → va_S A s.heap H locs → lv_has ls 8 [(0, .ref (a 28)), (1, .int y1), (3, .int y3), (5, .int y5)] → W p l e { frames := 2, cells := 0, slots := 0, locals := 45 } s m args below meth c H locs 0 0 Q (F0 m 215 ls []) := by
            intro v10_tried v10_then v10_at v10_readSize y1 y3 y5 H locs ls hf hP hD hS hl
            unfold f_X10_readTerm_215 at hf
            refine lv_aload_n hx hb dX10_readTerm_215 rfl (lv_at hl 0 rfl) ?_
            refine lv_dup hx hb dX10_readTerm_216 rfl ?_
            refine va_get (ci := 10) (v := .int v10_at) hx hb hts wX10_in hown hK hP 0 rfl rfl 20 (by decide) (hts _ mw_4_212) (fun _ h9 => h9) rfl dX10_readTerm_217 ?_
            refine lv_iconst (v := (1 : Int32)) hx hb dX10_readTerm_220 (by decide) ?_
            refine lv_iadd hx hb dX10_readTerm_221 ?_
            refine va_put (ci := 10) (v := .int (v10_at + (1 : Int32))) (ty := .int) hx hb hts wX10_in tyX10 tyX10_ok nmX10 hown hK hP hD hS 0 rfl rfl 20 (by decide) (hts _ mw_4_212) (fun _ h9 => h9) rfl (by decide +kernel) rfl rfl (Nat.le_of_ble_eq_true rfl) dX10_readTerm_222 (fun H locs hP hD hS => ?_)
            have hP : va_P D xcl (wd_X10 a cyI cyJ v10_firstOf v10_sizeOf v10_longOf v10_row v10_character v10_sum v10_coefficient v10_undone v10_wasSum v10_wasCoefficient v10_hasImage v10_letter v10_letters v10_list v10_cell v10_refusals v10_tried v10_left v10_high v10_then (v10_at + (1 : Int32)) v10_readSize) H := hP
            have hD : va_D A (wd_X10 a cyI cyJ v10_firstOf v10_sizeOf v10_longOf v10_row v10_character v10_sum v10_coefficient v10_undone v10_wasSum v10_wasCoefficient v10_hasImage v10_letter v10_letters v10_list v10_cell v10_refusals v10_tried v10_left v10_high v10_then (v10_at + (1 : Int32)) v10_readSize) := hD
            refine lv_aload_n hx hb dX10_readTerm_225 rfl (lv_at hl 0 rfl) ?_
            refine lv_iload hx hb dX10_readTerm_226 (lv_at hl 3 rfl) ?_
            refine va_put (ci := 10) (v := .int y5) (ty := .int) hx hb hts wX10_in tyX10 tyX10_ok nmX10 hown hK hP hD hS 0 rfl rfl 21 (by decide) (hts _ mw_4_213) (fun _ h9 => h9) rfl (by decide +kernel) rfl rfl (Nat.le_of_ble_eq_true rfl) dX10_readTerm_228 (fun H locs hP hD hS => ?_)
            have hP : va_P D xcl (wd_X10 a cyI cyJ v10_firstOf v10_sizeOf v10_longOf v10_row v10_character v10_sum v10_coefficient v10_undone v10_wasSum v10_wasCoefficient v10_hasImage v10_letter v10_letters v10_list v10_cell v10_refusals v10_tried v10_left v10_high v10_then (v10_at + (1 : Int32)) y5) H := hP
            have hD : va_D A (wd_X10 a cyI cyJ v10_firstOf v10_sizeOf v10_longOf v10_row v10_character v10_sum v10_coefficient v10_undone v10_wasSum v10_wasCoefficient v10_hasImage v10_letter v10_letters v10_list v10_cell v10_refusals v10_tried v10_left v10_high v10_then (v10_at + (1 : Int32)) y5) := hD
            refine lv_aload_n hx hb dX10_readTerm_231 rfl (lv_at hl 0 rfl) ?_
            refine va_get (ci := 10) (v := .ref (a 43)) hx hb hts wX10_in hown hK hP 0 rfl rfl 19 (by decide) (hts _ mw_4_211) (fun _ h9 => h9) rfl dX10_readTerm_232 ?_
            refine lv_aload_n hx hb dX10_readTerm_235 rfl (lv_at hl 0 rfl) ?_
            obtain ⟨r_35, hk_36, hf⟩ := pe_1 hf
            refine xv_i (As := []) (rest := [.ref (a 43)]) (q0 := 0) (ci := 10) Cx hP hD hS hl (pl_X10_X10 a cyI cyJ v10_firstOf v10_sizeOf v10_longOf v10_row v10_character v10_sum v10_coefficient v10_undone v10_wasSum v10_wasCoefficient v10_hasImage v10_letter v10_letters v10_list v10_cell v10_refusals v10_tried v10_left v10_high v10_then (v10_at + (1 : Int32)) y5 v10_firstOf v10_sizeOf v10_longOf v10_row v10_character v10_sum v10_coefficient v10_undone v10_wasSum v10_wasCoefficient v10_hasImage v10_letter v10_letters v10_list v10_cell v10_refusals v10_tried v10_left v10_high v10_then (v10_at + (1 : Int32)) y5) (c_X10_shapeTried l D cyI cyJ G a H.size v10_firstOf v10_sizeOf v10_longOf v10_row v10_character v10_sum v10_coefficient v10_undone v10_wasSum v10_wasCoefficient v10_hasImage v10_letter v10_letters v10_list v10_cell v10_refusals v10_tried v10_left v10_high v10_then (v10_at + (1 : Int32)) y5 r_35 hk_36) pk_X10_shapeTried mw_4_172 ⟨rfl, rfl, Nat.le_of_ble_eq_true rfl, Nat.le_of_ble_eq_true rfl⟩ rfl rfl rfl rfl rfl (Nat.le_of_ble_eq_true rfl) ⟨Nat.le_of_ble_eq_true rfl, Nat.le_of_ble_eq_true rfl⟩ dX10_readTerm_236 (fun H locs hP hD hS => ?_)
            refine lv_aload_n hx hb dX10_readTerm_239 rfl (lv_at hl 0 rfl) ?_
            refine va_get (ci := 10) (v := .ref (a 29)) hx hb hts wX10_in hown hK hP 0 rfl rfl 0 (by decide) (hts _ mw_4_192) (fun _ h9 => h9) rfl dX10_readTerm_240 ?_
            refine lv_iload hx hb dX10_readTerm_243 (lv_at hl 3 rfl) ?_
            obtain ⟨hi_37, hf⟩ := pe_in hf
            refine va_iald hx hb hK hP 1 0 rfl rfl hi_37 dX10_readTerm_245 ?_
            refine lv_isub hx hb dX10_readTerm_246 ?_
            refine lv_dup2_11 hx hb dX10_readTerm_247 rfl rfl ?_
            obtain ⟨hi_38, hf⟩ := pe_in hf
            refine va_lald hx hb hK hP 15 1 rfl rfl hi_38 dX10_readTerm_248 ?_
            refine lv_iload_n hx hb dX10_readTerm_249 rfl (lv_at hl 1 rfl) ?_
            refine lv_iload_n hx hb dX10_readTerm_250 rfl (lv_at hl 2 rfl) ?_
            refine lv_imul hx hb dX10_readTerm_251 ?_
            refine lv_i2l (v := Int32.toInt64 (y1 * y3)) hx hb dX10_readTerm_252 rfl ?_
            refine lv_ladd hx hb dX10_readTerm_253 ?_
            obtain ⟨hi_39, hf⟩ := pe_in hf
            refine va_last hx hb hK hP hD hS 15 1 rfl rfl hi_39 dX10_readTerm_254 (fun H locs hP hD hS => ?_)
            have hP : va_P D xcl (wd_X10 a cyI cyJ v10_firstOf v10_sizeOf v10_longOf v10_row v10_character v10_sum v10_coefficient v10_undone v10_wasSum v10_wasCoefficient v10_hasImage v10_letter v10_letters v10_list v10_cell v10_refusals v10_tried v10_left v10_high (vp_updL v10_then (Int32.toNatClampNeg (r_35 - (v10_firstOf (Int32.toNatClampNeg y5)))) ((v10_then (Int32.toNatClampNeg (r_35 - (v10_firstOf (Int32.toNatClampNeg y5))))) + (Int32.toInt64 (y1 * y3)))) (v10_at + (1 : Int32)) y5) H := hP
            have hD : va_D A (wd_X10 a cyI cyJ v10_firstOf v10_sizeOf v10_longOf v10_row v10_character v10_sum v10_coefficient v10_undone v10_wasSum v10_wasCoefficient v10_hasImage v10_letter v10_letters v10_list v10_cell v10_refusals v10_tried v10_left v10_high (vp_updL v10_then (Int32.toNatClampNeg (r_35 - (v10_firstOf (Int32.toNatClampNeg y5)))) ((v10_then (Int32.toNatClampNeg (r_35 - (v10_firstOf (Int32.toNatClampNeg y5))))) + (Int32.toInt64 (y1 * y3)))) (v10_at + (1 : Int32)) y5) := hD
            refine lv_iconst (v := (1 : Int32)) hx hb dX10_readTerm_255 (by decide) ?_
            obtain ⟨rfl, rfl, rfl, rfl, rfl⟩ := po_5 hf
            rw [← hQ]; exact xe_zret Cx rfl rfl hP hD hS dX10_readTerm_256
          refine lv_aload_n hx hb dX10_readTerm_121 rfl (lv_at hl 0 rfl) ?_
          refine lv_bipush (v := (49 : Int32)) hx hb dX10_readTerm_122 (by decide) ?_
          refine lv_bipush (v := (48 : Int32)) hx hb dX10_readTerm_124 (by decide) ?_
          refine lv_iload hx hb dX10_readTerm_126 (lv_at hl 4 rfl) ?_
          refine lv_iload hx hb dX10_readTerm_128 (lv_at hl 7 rfl) ?_
          refine lv_iload hx hb dX10_readTerm_130 (lv_at hl 5 rfl) ?_
          refine lv_isub hx hb dX10_readTerm_132 ?_
          refine va_mmin hx hb (hml.trans hl.1.symm) hown (hts _ mw_4_163) (hts _ mw_3_19) (hts _ mw_1_12) (hts _ mw_3_20) (Nat.le_of_ble_eq_true rfl) (Nat.le_of_ble_eq_true rfl) (Nat.zero_le _) (Nat.zero_le _) dX10_readTerm_133 ?_
          refine lv_iadd hx hb dX10_readTerm_136 ?_
          obtain ⟨r_40, hk_41, hf⟩ := pe_1 hf
          refine xv_z (As := [.int (49 : Int32), .int ((48 : Int32) + (if (y7 - y5) < y4 then (y7 - y5) else y4))]) (rest := []) (q0 := 0) (ci := 10) Cx hP hD hS hl (pl_X10_X10 a cyI cyJ v10_firstOf v10_sizeOf v10_longOf v10_row v10_character v10_sum v10_coefficient v10_undone v10_wasSum v10_wasCoefficient v10_hasImage v10_letter v10_letters v10_list v10_cell v10_refusals v10_tried v10_left v10_high v10_then v10_at v10_readSize v10_firstOf v10_sizeOf v10_longOf v10_row v10_character v10_sum v10_coefficient v10_undone v10_wasSum v10_wasCoefficient v10_hasImage v10_letter v10_letters v10_list v10_cell v10_refusals v10_tried v10_left v10_high v10_then v10_at v10_readSize) (c_X10_isHere l D cyI cyJ G a H.size v10_firstOf v10_sizeOf v10_longOf v10_row v10_character v10_sum v10_coefficient v10_undone v10_wasSum v10_wasCoefficient v10_hasImage v10_letter v10_letters v10_list v10_cell v10_refusals v10_tried v10_left v10_high v10_then v10_at v10_readSize (49 : Int32) ((48 : Int32) + (if (y7 - y5) < y4 then (y7 - y5) else y4)) r_40 hk_41) pk_X10_isHere mw_5_163 ⟨rfl, rfl, Nat.le_of_ble_eq_true rfl, Nat.le_of_ble_eq_true rfl⟩ rfl rfl rfl rfl rfl (Nat.le_of_ble_eq_true rfl) ⟨Nat.le_of_ble_eq_true rfl, Nat.le_of_ble_eq_true rfl⟩ dX10_readTerm_137 (fun H locs hn_42 hP hD hS => ?_)
          refine lv_if_eq (tgt := 189) hx hb dX10_readTerm_140 (by decide) (fun hc_43 => ?_) (fun hc_43 => ?_)
          · have hf := pe_t hf hc_43
            refine lv_aload_n hx hb dX10_readTerm_189 rfl (lv_at hl 0 rfl) ?_
            refine lv_bipush (v := (93 : Int32)) hx hb dX10_readTerm_190 (by decide) ?_
            refine lv_bipush (v := (93 : Int32)) hx hb dX10_readTerm_192 (by decide) ?_
            obtain ⟨r_44, hk_45, hf⟩ := pe_1 hf
            refine xv_z (As := [.int (93 : Int32), .int (93 : Int32)]) (rest := []) (q0 := 0) (ci := 10) Cx hP hD hS hl (pl_X10_X10 a cyI cyJ v10_firstOf v10_sizeOf v10_longOf v10_row v10_character v10_sum v10_coefficient v10_undone v10_wasSum v10_wasCoefficient v10_hasImage v10_letter v10_letters v10_list v10_cell v10_refusals v10_tried v10_left v10_high v10_then v10_at v10_readSize v10_firstOf v10_sizeOf v10_longOf v10_row v10_character v10_sum v10_coefficient v10_undone v10_wasSum v10_wasCoefficient v10_hasImage v10_letter v10_letters v10_list v10_cell v10_refusals v10_tried v10_left v10_high v10_then v10_at v10_readSize) (c_X10_isHere l D cyI cyJ G a H.size v10_firstOf v10_sizeOf v10_longOf v10_row v10_character v10_sum v10_coefficient v10_undone v10_wasSum v10_wasCoefficient v10_hasImage v10_letter v10_letters v10_list v10_cell v10_refusals v10_tried v10_left v10_high v10_then v10_at v10_readSize (93 : Int32) (93 : Int32) r_44 hk_45) pk_X10_isHere mw_5_163 ⟨rfl, rfl, Nat.le_of_ble_eq_true rfl, Nat.le_of_ble_eq_true rfl⟩ rfl rfl rfl rfl rfl (Nat.le_of_ble_eq_true rfl) ⟨Nat.le_of_ble_eq_true rfl, Nat.le_of_ble_eq_true rfl⟩ dX10_readTerm_194 (fun H locs hn_46 hP hD hS => ?_)
            refine lv_if_eq (tgt := 213) hx hb dX10_readTerm_197 (by decide) (fun hc_47 => ?_) (fun hc_47 => ?_)
            · have hf := pe_t hf hc_47
              refine lv_iconst (v := (0 : Int32)) hx hb dX10_readTerm_213 (by decide) ?_
              obtain ⟨rfl, rfl, rfl, rfl, rfl⟩ := po_5 hf
              rw [← hQ]; exact xe_zret Cx rfl rfl hP hD hS dX10_readTerm_214
            · have hf := pe_f hf hc_47
              refine lv_iload_n hx hb dX10_readTerm_200 rfl (lv_at hl 2 rfl) ?_
              refine lv_if_ne (tgt := 215) hx hb dX10_readTerm_201 (by decide) (fun hc_48 => ?_) (fun hc_48 => ?_)
              · have hf := pe_f hf hc_48
                exact w_215 v10_tried v10_then v10_at v10_readSize y1 y3 y5 H locs ls hf hP hD hS (lv_sub hl [0, 1, 3, 5] rfl)
              · have hf := pe_t hf hc_48
                refine lv_iload hx hb dX10_readTerm_204 (lv_at hl 5 rfl) ?_
                refine lv_aload_n hx hb dX10_readTerm_206 rfl (lv_at hl 0 rfl) ?_
                refine va_get (ci := 10) (v := .int v10_readSize) hx hb hts wX10_in hown hK hP 0 rfl rfl 21 (by decide) (hts _ mw_4_213) (fun _ h9 => h9) rfl dX10_readTerm_207 ?_
                refine lv_icmp_eq (tgt := 215) hx hb dX10_readTerm_210 (by decide) (fun hc_49 => ?_) (fun hc_49 => ?_)
                · have hf := pe_t hf hc_49
                  exact w_215 v10_tried v10_then v10_at v10_readSize y1 y3 y5 H locs ls hf hP hD hS (lv_sub hl [0, 1, 3, 5] rfl)
                · have hf := pe_f hf hc_49
                  refine lv_iconst (v := (0 : Int32)) hx hb dX10_readTerm_213 (by decide) ?_
                  obtain ⟨rfl, rfl, rfl, rfl, rfl⟩ := po_5 hf
                  rw [← hQ]; exact xe_zret Cx rfl rfl hP hD hS dX10_readTerm_214
          · have hf := pe_f hf hc_43
            refine lv_aload_n hx hb dX10_readTerm_143 rfl (lv_at hl 0 rfl) ?_
            refine va_get (ci := 10) (v := .ref (a 38)) hx hb hts wX10_in hown hK hP 0 rfl rfl 11 (by decide) (hts _ mw_4_203) (fun _ h9 => h9) rfl dX10_readTerm_144 ?_
            refine lv_aload_n hx hb dX10_readTerm_147 rfl (lv_at hl 0 rfl) ?_
            refine va_get (ci := 10) (v := .int v10_at) hx hb hts wX10_in hown hK hP 0 rfl rfl 20 (by decide) (hts _ mw_4_212) (fun _ h9 => h9) rfl dX10_readTerm_148 ?_
            obtain ⟨hi_50, hf⟩ := pe_in hf
            refine va_iald hx hb hK hP 10 0 rfl rfl hi_50 dX10_readTerm_151 ?_
            refine lv_bipush (v := (48 : Int32)) hx hb dX10_readTerm_152 (by decide) ?_
            refine lv_isub hx hb dX10_readTerm_154 ?_
            refine lv_istore (lv' := [(4, .int ((v10_letter (Int32.toNatClampNeg v10_at)) - (48 : Int32))), (0, .ref (a 28)), (1, .int y1), (2, .int y2), (3, .int y3), (5, .int y5), (6, .int y6), (7, .int y7)]) hx hb dX10_readTerm_155 hl (by decide) rfl (fun ls hl => ?_)
            refine lv_iload hx hb dX10_readTerm_157 (lv_at hl 5 rfl) ?_
            refine lv_iload hx hb dX10_readTerm_159 (lv_at hl 0 rfl) ?_
            refine lv_iadd hx hb dX10_readTerm_161 ?_
            refine lv_istore (lv' := [(5, .int (y5 + ((v10_letter (Int32.toNatClampNeg v10_at)) - (48 : Int32)))), (4, .int ((v10_letter (Int32.toNatClampNeg v10_at)) - (48 : Int32))), (0, .ref (a 28)), (1, .int y1), (2, .int y2), (3, .int y3), (6, .int y6), (7, .int y7)]) hx hb dX10_readTerm_162 hl (by decide) rfl (fun ls hl => ?_)
            refine lv_aload_n hx hb dX10_readTerm_164 rfl (lv_at hl 2 rfl) ?_
            refine va_get (ci := 10) (v := .ref (a 42)) hx hb hts wX10_in hown hK hP 0 rfl rfl 16 (by decide) (hts _ mw_4_208) (fun _ h9 => h9) rfl dX10_readTerm_165 ?_
            refine lv_iload hx hb dX10_readTerm_168 (lv_at hl 6 rfl) ?_
            refine lv_iload hx hb dX10_readTerm_170 (lv_at hl 1 rfl) ?_
            obtain ⟨hi_51, hf⟩ := pe_in hf
            refine va_iast hx hb hK hP hD hS 14 0 rfl rfl hi_51 dX10_readTerm_172 (fun H locs hP hD hS => ?_)
            have hP : va_P D xcl (wd_X10 a cyI cyJ v10_firstOf v10_sizeOf v10_longOf v10_row v10_character v10_sum v10_coefficient v10_undone v10_wasSum v10_wasCoefficient v10_hasImage v10_letter v10_letters v10_list v10_cell v10_refusals (upd v10_tried (Int32.toNatClampNeg y6) ((v10_letter (Int32.toNatClampNeg v10_at)) - (48 : Int32))) v10_left v10_high v10_then v10_at v10_readSize) H := hP
            have hD : va_D A (wd_X10 a cyI cyJ v10_firstOf v10_sizeOf v10_longOf v10_row v10_character v10_sum v10_coefficient v10_undone v10_wasSum v10_wasCoefficient v10_hasImage v10_letter v10_letters v10_list v10_cell v10_refusals (upd v10_tried (Int32.toNatClampNeg y6) ((v10_letter (Int32.toNatClampNeg v10_at)) - (48 : Int32))) v10_left v10_high v10_then v10_at v10_readSize) := hD
            refine lv_iinc (v := (y6 + (1 : Int32))) (lv' := [(6, .int (y6 + (1 : Int32))), (5, .int (y5 + ((v10_letter (Int32.toNatClampNeg v10_at)) - (48 : Int32)))), (4, .int ((v10_letter (Int32.toNatClampNeg v10_at)) - (48 : Int32))), (0, .ref (a 28)), (1, .int y1), (2, .int y2), (3, .int y3), (7, .int y7)]) hx hb dX10_readTerm_173 hl (k := 6) rfl rfl (by decide) rfl (fun ls hl => ?_)
            refine lv_aload_n hx hb dX10_readTerm_176 rfl (lv_at hl 3 rfl) ?_
            refine lv_dup hx hb dX10_readTerm_177 rfl ?_
            refine va_get (ci := 10) (v := .int v10_at) hx hb hts wX10_in hown hK hP 0 rfl rfl 20 (by decide) (hts _ mw_4_212) (fun _ h9 => h9) rfl dX10_readTerm_178 ?_
            refine lv_iconst (v := (1 : Int32)) hx hb dX10_readTerm_181 (by decide) ?_
            refine lv_iadd hx hb dX10_readTerm_182 ?_
            refine va_put (ci := 10) (v := .int (v10_at + (1 : Int32))) (ty := .int) hx hb hts wX10_in tyX10 tyX10_ok nmX10 hown hK hP hD hS 0 rfl rfl 20 (by decide) (hts _ mw_4_212) (fun _ h9 => h9) rfl (by decide +kernel) rfl rfl (Nat.le_of_ble_eq_true rfl) dX10_readTerm_183 (fun H locs hP hD hS => ?_)
            have hP : va_P D xcl (wd_X10 a cyI cyJ v10_firstOf v10_sizeOf v10_longOf v10_row v10_character v10_sum v10_coefficient v10_undone v10_wasSum v10_wasCoefficient v10_hasImage v10_letter v10_letters v10_list v10_cell v10_refusals (upd v10_tried (Int32.toNatClampNeg y6) ((v10_letter (Int32.toNatClampNeg v10_at)) - (48 : Int32))) v10_left v10_high v10_then (v10_at + (1 : Int32)) v10_readSize) H := hP
            have hD : va_D A (wd_X10 a cyI cyJ v10_firstOf v10_sizeOf v10_longOf v10_row v10_character v10_sum v10_coefficient v10_undone v10_wasSum v10_wasCoefficient v10_hasImage v10_letter v10_letters v10_list v10_cell v10_refusals (upd v10_tried (Int32.toNatClampNeg y6) ((v10_letter (Int32.toNatClampNeg v10_at)) - (48 : Int32))) v10_left v10_high v10_then (v10_at + (1 : Int32)) v10_readSize) := hD
            refine lv_goto (tgt := 121) hx hb dX10_readTerm_186 (by decide) ?_
            exact w_121 (upd v10_tried (Int32.toNatClampNeg y6) ((v10_letter (Int32.toNatClampNeg v10_at)) - (48 : Int32))) v10_then (v10_at + (1 : Int32)) v10_readSize y1 y2 y3 ((v10_letter (Int32.toNatClampNeg v10_at)) - (48 : Int32)) (y5 + ((v10_letter (Int32.toNatClampNeg v10_at)) - (48 : Int32))) (y6 + (1 : Int32)) y7 H locs ls hf hP hD hS (lv_sub hl [3, 4, 5, 6, 2, 1, 0, 7] rfl)
      refine lv_istore (lv' := [(7, .int z0), (0, .ref (a 28)), (1, .int y1), (2, .int y2), (3, .int y3), (4, .int y4), (5, .int y5), (6, .int y6)]) hx hb dX10_readTerm_119 hl (by decide) rfl (fun ls hl => ?_)
      exact w_121 1000 v10_tried v10_then v10_at v10_readSize y1 y2 y3 y4 y5 y6 z0 H locs ls hf hP hD hS (lv_sub hl [1, 2, 3, 4, 5, 6, 7, 0] rfl)
    refine lv_aload_n hx hb dX10_readTerm_69 rfl (lv_at hl 0 rfl) ?_
    refine lv_bipush (v := (91 : Int32)) hx hb dX10_readTerm_70 (by decide) ?_
    refine lv_bipush (v := (91 : Int32)) hx hb dX10_readTerm_72 (by decide) ?_
    obtain ⟨r_52, hk_53, hf⟩ := pe_1 hf
    refine xv_z (As := [.int (91 : Int32), .int (91 : Int32)]) (rest := []) (q0 := 0) (ci := 10) Cx hP hD hS hl (pl_X10_X10 a cyI cyJ v10_firstOf v10_sizeOf v10_longOf v10_row v10_character v10_sum v10_coefficient v10_undone v10_wasSum v10_wasCoefficient v10_hasImage v10_letter v10_letters v10_list v10_cell v10_refusals v10_tried v10_left v10_high v10_then v10_at v10_readSize v10_firstOf v10_sizeOf v10_longOf v10_row v10_character v10_sum v10_coefficient v10_undone v10_wasSum v10_wasCoefficient v10_hasImage v10_letter v10_letters v10_list v10_cell v10_refusals v10_tried v10_left v10_high v10_then v10_at v10_readSize) (c_X10_isHere l D cyI cyJ G a H.size v10_firstOf v10_sizeOf v10_longOf v10_row v10_character v10_sum v10_coefficient v10_undone v10_wasSum v10_wasCoefficient v10_hasImage v10_letter v10_letters v10_list v10_cell v10_refusals v10_tried v10_left v10_high v10_then v10_at v10_readSize (91 : Int32) (91 : Int32) r_52 hk_53) pk_X10_isHere mw_5_163 ⟨rfl, rfl, Nat.le_of_ble_eq_true rfl, Nat.le_of_ble_eq_true rfl⟩ rfl rfl rfl rfl rfl (Nat.le_of_ble_eq_true rfl) ⟨Nat.le_of_ble_eq_true rfl, Nat.le_of_ble_eq_true rfl⟩ dX10_readTerm_74 (fun H locs hn_54 hP hD hS => ?_)
    refine lv_if_ne (tgt := 82) hx hb dX10_readTerm_77 (by decide) (fun hc_55 => ?_) (fun hc_55 => ?_)
    · have hf := pe_f hf hc_55
      refine lv_aload_n hx hb dX10_readTerm_82 rfl (lv_at hl 0 rfl) ?_
      refine lv_dup hx hb dX10_readTerm_83 rfl ?_
      refine va_get (ci := 10) (v := .int v10_at) hx hb hts wX10_in hown hK hP 0 rfl rfl 20 (by decide) (hts _ mw_4_212) (fun _ h9 => h9) rfl dX10_readTerm_84 ?_
      refine lv_iconst (v := (1 : Int32)) hx hb dX10_readTerm_87 (by decide) ?_
      refine lv_iadd hx hb dX10_readTerm_88 ?_
      refine va_put (ci := 10) (v := .int (v10_at + (1 : Int32))) (ty := .int) hx hb hts wX10_in tyX10 tyX10_ok nmX10 hown hK hP hD hS 0 rfl rfl 20 (by decide) (hts _ mw_4_212) (fun _ h9 => h9) rfl (by decide +kernel) rfl rfl (Nat.le_of_ble_eq_true rfl) dX10_readTerm_89 (fun H locs hP hD hS => ?_)
      have hP : va_P D xcl (wd_X10 a cyI cyJ v10_firstOf v10_sizeOf v10_longOf v10_row v10_character v10_sum v10_coefficient v10_undone v10_wasSum v10_wasCoefficient v10_hasImage v10_letter v10_letters v10_list v10_cell v10_refusals v10_tried v10_left v10_high v10_then (v10_at + (1 : Int32)) v10_readSize) H := hP
      have hD : va_D A (wd_X10 a cyI cyJ v10_firstOf v10_sizeOf v10_longOf v10_row v10_character v10_sum v10_coefficient v10_undone v10_wasSum v10_wasCoefficient v10_hasImage v10_letter v10_letters v10_list v10_cell v10_refusals v10_tried v10_left v10_high v10_then (v10_at + (1 : Int32)) v10_readSize) := hD
      refine lv_aload_n hx hb dX10_readTerm_92 rfl (lv_at hl 0 rfl) ?_
      obtain ⟨v10_tried_56, hk_57, hf⟩ := pe_1 hf
      refine xv_v (As := []) (rest := []) (q0 := 0) (ci := 10) Cx hP hD hS hl (pl_X10_X10 a cyI cyJ v10_firstOf v10_sizeOf v10_longOf v10_row v10_character v10_sum v10_coefficient v10_undone v10_wasSum v10_wasCoefficient v10_hasImage v10_letter v10_letters v10_list v10_cell v10_refusals v10_tried v10_left v10_high v10_then (v10_at + (1 : Int32)) v10_readSize v10_firstOf v10_sizeOf v10_longOf v10_row v10_character v10_sum v10_coefficient v10_undone v10_wasSum v10_wasCoefficient v10_hasImage v10_letter v10_letters v10_list v10_cell v10_refusals v10_tried_56 v10_left v10_high v10_then (v10_at + (1 : Int32)) v10_readSize) (c_X10_triesNone l D cyI cyJ G a H.size v10_firstOf v10_sizeOf v10_longOf v10_row v10_character v10_sum v10_coefficient v10_undone v10_wasSum v10_wasCoefficient v10_hasImage v10_letter v10_letters v10_list v10_cell v10_refusals v10_tried v10_left v10_high v10_then (v10_at + (1 : Int32)) v10_readSize v10_tried_56 hk_57) pk_X10_triesNone mw_4_168 ⟨rfl, rfl, Nat.le_of_ble_eq_true rfl, Nat.le_of_ble_eq_true rfl⟩ rfl rfl rfl rfl rfl (Nat.le_of_ble_eq_true rfl) ⟨Nat.le_of_ble_eq_true rfl, Nat.le_of_ble_eq_true rfl⟩ dX10_readTerm_93 (fun H locs hP hD hS => ?_)
      refine lv_bipush (v := (8 : Int32)) hx hb dX10_readTerm_96 (by decide) ?_
      refine lv_istore (lv' := [(4, .int (8 : Int32)), (0, .ref (a 28)), (1, .int y1), (2, .int y2), (3, .int y3)]) hx hb dX10_readTerm_98 hl (by decide) rfl (fun ls hl => ?_)
      refine lv_iconst (v := (0 : Int32)) hx hb dX10_readTerm_100 (by decide) ?_
      refine lv_istore (lv' := [(5, .int (0 : Int32)), (4, .int (8 : Int32)), (0, .ref (a 28)), (1, .int y1), (2, .int y2), (3, .int y3)]) hx hb dX10_readTerm_101 hl (by decide) rfl (fun ls hl => ?_)
      refine lv_iconst (v := (0 : Int32)) hx hb dX10_readTerm_103 (by decide) ?_
      refine lv_istore (lv' := [(6, .int (0 : Int32)), (5, .int (0 : Int32)), (4, .int (8 : Int32)), (0, .ref (a 28)), (1, .int y1), (2, .int y2), (3, .int y3)]) hx hb dX10_readTerm_104 hl (by decide) rfl (fun ls hl => ?_)
      refine lv_iload_n hx hb dX10_readTerm_106 rfl (lv_at hl 5 rfl) ?_
      refine lv_if_eq (tgt := 115) hx hb dX10_readTerm_107 (by decide) (fun hc_58 => ?_) (fun hc_58 => ?_)
      · have hf := pe_t hf hc_58
        refine lv_aload_n hx hb dX10_readTerm_115 rfl (lv_at hl 3 rfl) ?_
        refine va_get (ci := 10) (v := .int v10_readSize) hx hb hts wX10_in hown hK hP 0 rfl rfl 21 (by decide) (hts _ mw_4_213) (fun _ h9 => h9) rfl dX10_readTerm_116 ?_
        exact w_119 v10_tried_56 v10_then (v10_at + (1 : Int32)) v10_readSize y1 y2 y3 (8 : Int32) (0 : Int32) (0 : Int32) v10_readSize H locs ls hf hP hD hS (lv_sub hl [3, 4, 5, 6, 2, 1, 0] rfl)
      · have hf := pe_f hf hc_58
        refine lv_bipush (v := (8 : Int32)) hx hb dX10_readTerm_110 (by decide) ?_
        refine lv_goto (tgt := 119) hx hb dX10_readTerm_112 (by decide) ?_
        exact w_119 v10_tried_56 v10_then (v10_at + (1 : Int32)) v10_readSize y1 y2 y3 (8 : Int32) (0 : Int32) (0 : Int32) (8 : Int32) H locs ls hf hP hD hS (lv_sub hl [3, 4, 5, 6, 2, 1, 0] rfl)
    · have hf := pe_t hf hc_55
      refine lv_iconst (v := (0 : Int32)) hx hb dX10_readTerm_80 (by decide) ?_
      obtain ⟨rfl, rfl, rfl, rfl, rfl⟩ := po_5 hf
      rw [← hQ]; exact xe_zret Cx rfl rfl hP hD hS dX10_readTerm_81
  have w_18 : ∀ (n_18 : Nat) (v10_tried : Nat → Int32) (v10_then : Nat → Int64) (v10_at : Int32) (v10_readSize : Int32) (y1 : Int32) (y2 : Int32) (y3 : Int32) (y4 : Int32) (H : Heap) (locs : List Loc) (ls : Array Slot), (f_X10_readTerm_18 (f_X10_readTerm_69 v10_firstOf v10_row v10_letter v10_letters) v10_firstOf v10_row v10_letter v10_letters) n_18 v10_tried v10_then v10_at v10_readSize y1 y2 y3 y4 = some (ro, ov10_tried, ov10_then, ov10_at, ov10_readSize) → va_P D xcl (wd_X10 a cyI cyJ v10_firstOf v10_sizeOf v10_longOf v10_row v10_character v10_sum v10_coefficient v10_undone v10_wasSum v10_wasCoefficient v10_hasImage v10_letter v10_letters v10_list v10_cell v10_refusals v10_tried v10_left v10_high v10_then v10_at v10_readSize) H → va_D A (wd_X10 a cyI cyJ v10_firstOf v10_sizeOf v10_longOf v10_row v10_character v10_sum v10_coefficient v10_undone v10_wasSum v10_wasCoefficient v10_hasImage v10_letter v10_letters v10_list v10_cell v10_refusals v10_tried v10_left v10_high v10_then v10_at v10_readSize) → va_S A s.heap H locs → lv_has ls 8 [(0, .ref (a 28)), (1, .int y1), (2, .int y2), (3, .int y3), (4, .int y4)] → W p l e { frames := 2, cells := 0, slots := 0, locals := 45 } s m args below meth c H locs 0 0 Q (F0 m 18 ls []) := by
    intro n_18
    induction n_18 with
    | zero => intro v10_tried v10_then v10_at v10_readSize y1 y2 y3 y4 H locs ls hf; exact absurd hf (by intro h9; cases h9)
    | succ n_18 w_18 =>
      intro v10_tried v10_then v10_at v10_readSize y1 y2 y3 y4 H locs ls hf hP hD hS hl
      have hf : gf_X10_readTerm_18 ((f_X10_readTerm_18 (f_X10_readTerm_69 v10_firstOf v10_row v10_letter v10_letters) v10_firstOf v10_row v10_letter v10_letters) n_18) (f_X10_readTerm_69 v10_firstOf v10_row v10_letter v10_letters) v10_firstOf v10_row v10_letter v10_letters v10_tried v10_then v10_at v10_readSize y1 y2 y3 y4 = some (ro, ov10_tried, ov10_then, ov10_at, ov10_readSize) := hf
      unfold gf_X10_readTerm_18 at hf
      refine lv_iload hx hb dX10_readTerm_18 (lv_at hl 4 rfl) ?_
      refine lv_iconst (v := (3 : Int32)) hx hb dX10_readTerm_20 (by decide) ?_
      refine lv_icmp_ge (tgt := 69) hx hb dX10_readTerm_21 (by decide) (fun hc_59 => ?_) (fun hc_59 => ?_)
      · have hf := pe_t hf hc_59
        exact w_69 v10_tried v10_then v10_at v10_readSize y1 y2 y3 H locs ls hf hP hD hS (lv_sub hl [0, 1, 2, 3] rfl)
      · have hf := pe_f hf hc_59
        refine lv_aload_n hx hb dX10_readTerm_24 rfl (lv_at hl 0 rfl) ?_
        refine lv_bipush (v := (48 : Int32)) hx hb dX10_readTerm_25 (by decide) ?_
        refine lv_bipush (v := (57 : Int32)) hx hb dX10_readTerm_27 (by decide) ?_
        obtain ⟨r_60, hk_61, hf⟩ := pe_1 hf
        refine xv_z (As := [.int (48 : Int32), .int (57 : Int32)]) (rest := []) (q0 := 0) (ci := 10) Cx hP hD hS hl (pl_X10_X10 a cyI cyJ v10_firstOf v10_sizeOf v10_longOf v10_row v10_character v10_sum v10_coefficient v10_undone v10_wasSum v10_wasCoefficient v10_hasImage v10_letter v10_letters v10_list v10_cell v10_refusals v10_tried v10_left v10_high v10_then v10_at v10_readSize v10_firstOf v10_sizeOf v10_longOf v10_row v10_character v10_sum v10_coefficient v10_undone v10_wasSum v10_wasCoefficient v10_hasImage v10_letter v10_letters v10_list v10_cell v10_refusals v10_tried v10_left v10_high v10_then v10_at v10_readSize) (c_X10_isHere l D cyI cyJ G a H.size v10_firstOf v10_sizeOf v10_longOf v10_row v10_character v10_sum v10_coefficient v10_undone v10_wasSum v10_wasCoefficient v10_hasImage v10_letter v10_letters v10_list v10_cell v10_refusals v10_tried v10_left v10_high v10_then v10_at v10_readSize (48 : Int32) (57 : Int32) r_60 hk_61) pk_X10_isHere mw_5_163 ⟨rfl, rfl, Nat.le_of_ble_eq_true rfl, Nat.le_of_ble_eq_true rfl⟩ rfl rfl rfl rfl rfl (Nat.le_of_ble_eq_true rfl) ⟨Nat.le_of_ble_eq_true rfl, Nat.le_of_ble_eq_true rfl⟩ dX10_readTerm_29 (fun H locs hn_62 hP hD hS => ?_)
        refine lv_if_eq (tgt := 69) hx hb dX10_readTerm_32 (by decide) (fun hc_63 => ?_) (fun hc_63 => ?_)
        · have hf := pe_t hf hc_63
          exact w_69 v10_tried v10_then v10_at v10_readSize y1 y2 y3 H locs ls hf hP hD hS (lv_sub hl [0, 1, 2, 3] rfl)
        · have hf := pe_f hf hc_63
          refine lv_bipush (v := (10 : Int32)) hx hb dX10_readTerm_35 (by decide) ?_
          refine lv_iload_n hx hb dX10_readTerm_37 rfl (lv_at hl 3 rfl) ?_
          refine lv_imul hx hb dX10_readTerm_38 ?_
          refine lv_aload_n hx hb dX10_readTerm_39 rfl (lv_at hl 0 rfl) ?_
          refine va_get (ci := 10) (v := .ref (a 38)) hx hb hts wX10_in hown hK hP 0 rfl rfl 11 (by decide) (hts _ mw_4_203) (fun _ h9 => h9) rfl dX10_readTerm_40 ?_
          refine lv_aload_n hx hb dX10_readTerm_43 rfl (lv_at hl 0 rfl) ?_
          refine va_get (ci := 10) (v := .int v10_at) hx hb hts wX10_in hown hK hP 0 rfl rfl 20 (by decide) (hts _ mw_4_212) (fun _ h9 => h9) rfl dX10_readTerm_44 ?_
          obtain ⟨hi_64, hf⟩ := pe_in hf
          refine va_iald hx hb hK hP 10 0 rfl rfl hi_64 dX10_readTerm_47 ?_
          refine lv_iadd hx hb dX10_readTerm_48 ?_
          refine lv_bipush (v := (48 : Int32)) hx hb dX10_readTerm_49 (by decide) ?_
          refine lv_isub hx hb dX10_readTerm_51 ?_
          refine lv_istore_n (lv' := [(3, .int ((((10 : Int32) * y3) + (v10_letter (Int32.toNatClampNeg v10_at))) - (48 : Int32))), (0, .ref (a 28)), (1, .int y1), (2, .int y2), (4, .int y4)]) hx hb dX10_readTerm_52 rfl hl (by decide) rfl (fun ls hl => ?_)
          refine lv_aload_n hx hb dX10_readTerm_53 rfl (lv_at hl 1 rfl) ?_
          refine lv_dup hx hb dX10_readTerm_54 rfl ?_
          refine va_get (ci := 10) (v := .int v10_at) hx hb hts wX10_in hown hK hP 0 rfl rfl 20 (by decide) (hts _ mw_4_212) (fun _ h9 => h9) rfl dX10_readTerm_55 ?_
          refine lv_iconst (v := (1 : Int32)) hx hb dX10_readTerm_58 (by decide) ?_
          refine lv_iadd hx hb dX10_readTerm_59 ?_
          refine va_put (ci := 10) (v := .int (v10_at + (1 : Int32))) (ty := .int) hx hb hts wX10_in tyX10 tyX10_ok nmX10 hown hK hP hD hS 0 rfl rfl 20 (by decide) (hts _ mw_4_212) (fun _ h9 => h9) rfl (by decide +kernel) rfl rfl (Nat.le_of_ble_eq_true rfl) dX10_readTerm_60 (fun H locs hP hD hS => ?_)
          have hP : va_P D xcl (wd_X10 a cyI cyJ v10_firstOf v10_sizeOf v10_longOf v10_row v10_character v10_sum v10_coefficient v10_undone v10_wasSum v10_wasCoefficient v10_hasImage v10_letter v10_letters v10_list v10_cell v10_refusals v10_tried v10_left v10_high v10_then (v10_at + (1 : Int32)) v10_readSize) H := hP
          have hD : va_D A (wd_X10 a cyI cyJ v10_firstOf v10_sizeOf v10_longOf v10_row v10_character v10_sum v10_coefficient v10_undone v10_wasSum v10_wasCoefficient v10_hasImage v10_letter v10_letters v10_list v10_cell v10_refusals v10_tried v10_left v10_high v10_then (v10_at + (1 : Int32)) v10_readSize) := hD
          refine lv_iinc (v := (y4 + (1 : Int32))) (lv' := [(4, .int (y4 + (1 : Int32))), (3, .int ((((10 : Int32) * y3) + (v10_letter (Int32.toNatClampNeg v10_at))) - (48 : Int32))), (0, .ref (a 28)), (1, .int y1), (2, .int y2)]) hx hb dX10_readTerm_63 hl (k := 4) rfl rfl (by decide) rfl (fun ls hl => ?_)
          refine lv_goto (tgt := 18) hx hb dX10_readTerm_66 (by decide) ?_
          exact w_18 v10_tried v10_then (v10_at + (1 : Int32)) v10_readSize y1 y2 ((((10 : Int32) * y3) + (v10_letter (Int32.toNatClampNeg v10_at))) - (48 : Int32)) (y4 + (1 : Int32)) H locs ls hf hP hD hS (lv_sub hl [2, 3, 4, 1, 0] rfl)
  refine lv_iconst (v := (1 : Int32)) hx hb dX10_readTerm_0 (by decide) ?_
  refine lv_istore_n (lv' := [(3, .int (1 : Int32)), (0, .ref (a 28)), (1, .int x1), (2, .int x2)]) hx hb dX10_readTerm_1 rfl hl (by decide) rfl (fun ls hl => ?_)
  refine lv_aload_n hx hb dX10_readTerm_2 rfl (lv_at hl 1 rfl) ?_
  refine lv_bipush (v := (48 : Int32)) hx hb dX10_readTerm_3 (by decide) ?_
  refine lv_bipush (v := (57 : Int32)) hx hb dX10_readTerm_5 (by decide) ?_
  obtain ⟨r_65, hk_66, hf⟩ := pe_1 hf
  refine xv_z (As := [.int (48 : Int32), .int (57 : Int32)]) (rest := []) (q0 := 0) (ci := 10) Cx hP hD hS hl (pl_X10_X10 a cyI cyJ v10_firstOf v10_sizeOf v10_longOf v10_row v10_character v10_sum v10_coefficient v10_undone v10_wasSum v10_wasCoefficient v10_hasImage v10_letter v10_letters v10_list v10_cell v10_refusals v10_tried v10_left v10_high v10_then v10_at v10_readSize v10_firstOf v10_sizeOf v10_longOf v10_row v10_character v10_sum v10_coefficient v10_undone v10_wasSum v10_wasCoefficient v10_hasImage v10_letter v10_letters v10_list v10_cell v10_refusals v10_tried v10_left v10_high v10_then v10_at v10_readSize) (c_X10_isHere l D cyI cyJ G a H.size v10_firstOf v10_sizeOf v10_longOf v10_row v10_character v10_sum v10_coefficient v10_undone v10_wasSum v10_wasCoefficient v10_hasImage v10_letter v10_letters v10_list v10_cell v10_refusals v10_tried v10_left v10_high v10_then v10_at v10_readSize (48 : Int32) (57 : Int32) r_65 hk_66) pk_X10_isHere mw_5_163 ⟨rfl, rfl, Nat.le_of_ble_eq_true rfl, Nat.le_of_ble_eq_true rfl⟩ rfl rfl rfl rfl rfl (Nat.le_of_ble_eq_true rfl) ⟨Nat.le_of_ble_eq_true rfl, Nat.le_of_ble_eq_true rfl⟩ dX10_readTerm_7 (fun H locs hn_67 hP hD hS => ?_)
  refine lv_if_eq (tgt := 69) hx hb dX10_readTerm_10 (by decide) (fun hc_68 => ?_) (fun hc_68 => ?_)
  · have hf := pe_t hf hc_68
    exact w_69 v10_tried v10_then v10_at v10_readSize x1 x2 (1 : Int32) H locs ls hf hP hD hS (lv_sub hl [1, 2, 3, 0] rfl)
  · have hf := pe_f hf hc_68
    refine lv_iconst (v := (0 : Int32)) hx hb dX10_readTerm_13 (by decide) ?_
    refine lv_istore_n (lv' := [(3, .int (0 : Int32)), (0, .ref (a 28)), (1, .int x1), (2, .int x2)]) hx hb dX10_readTerm_14 rfl hl (by decide) rfl (fun ls hl => ?_)
    refine lv_iconst (v := (0 : Int32)) hx hb dX10_readTerm_15 (by decide) ?_
    refine lv_istore (lv' := [(4, .int (0 : Int32)), (3, .int (0 : Int32)), (0, .ref (a 28)), (1, .int x1), (2, .int x2)]) hx hb dX10_readTerm_16 hl (by decide) rfl (fun ls hl => ?_)
    exact w_18 1000 v10_tried v10_then v10_at v10_readSize x1 x2 (0 : Int32) (0 : Int32) H locs ls hf hP hD hS (lv_sub hl [2, 3, 4, 1, 0] rfl)
def f_X10_readTerms_86 (K_45 : (Nat → Int32) → (Nat → Int64) → Int32 → Int32 → Option (Int32 × (Nat → Int32) × (Nat → Int64) × Int32 × Int32)) (v10_firstOf : Nat → Int32) (v10_row : Nat → Int32) (v10_letter : Nat → Int32) (v10_letters : Int32) (v10_tried : Nat → Int32) (v10_then : Nat → Int64) (v10_at : Int32) (v10_readSize : Int32) (z0 : Int32) : Option (Int32 × (Nat → Int32) × (Nat → Int64) × Int32 × Int32) := p_b5 (f_X10_readTerm v10_firstOf v10_row v10_letter v10_letters v10_tried v10_then (v10_at + (1 : Int32)) v10_readSize z0 (0 : Int32)) (fun r_1 v10_tried_2 v10_then_3 v10_at_4 v10_readSize_5 => if r_1 = 0 then (some ((0 : Int32), v10_tried_2, v10_then_3, v10_at_4, v10_readSize_5)) else (K_45 v10_tried_2 v10_then_3 v10_at_4 v10_readSize_5))
def f_X10_readTerms_67 (K_45 : (Nat → Int32) → (Nat → Int64) → Int32 → Int32 → Option (Int32 × (Nat → Int32) × (Nat → Int64) × Int32 × Int32)) (v10_firstOf : Nat → Int32) (v10_row : Nat → Int32) (v10_letter : Nat → Int32) (v10_letters : Int32) (v10_tried : Nat → Int32) (v10_then : Nat → Int64) (v10_at : Int32) (v10_readSize : Int32) : Option (Int32 × (Nat → Int32) × (Nat → Int64) × Int32 × Int32) := p_in v10_at 72 (if (v10_letter (Int32.toNatClampNeg v10_at)) = (45 : Int32) then ((f_X10_readTerms_86 K_45 v10_firstOf v10_row v10_letter v10_letters) v10_tried v10_then v10_at v10_readSize (-1 : Int32)) else ((f_X10_readTerms_86 K_45 v10_firstOf v10_row v10_letter v10_letters) v10_tried v10_then v10_at v10_readSize (1 : Int32)))
def gf_X10_readTerms_45 (K_45 : (Nat → Int32) → (Nat → Int64) → Int32 → Int32 → Option (Int32 × (Nat → Int32) × (Nat → Int64) × Int32 × Int32)) (v10_firstOf : Nat → Int32) (v10_row : Nat → Int32) (v10_letter : Nat → Int32) (v10_letters : Int32) (v10_tried : Nat → Int32) (v10_then : Nat → Int64) (v10_at : Int32) (v10_readSize : Int32) : Option (Int32 × (Nat → Int32) × (Nat → Int64) × Int32 × Int32) := p_b1 (f_X10_isHere v10_letter v10_letters v10_at (43 : Int32) (43 : Int32)) (fun r_11 => if r_11 = 0 then (p_b1 (f_X10_isHere v10_letter v10_letters v10_at (45 : Int32) (45 : Int32)) (fun r_15 => if r_15 = 0 then (if v10_at = v10_letters then (some ((1 : Int32), v10_tried, v10_then, v10_at, v10_readSize)) else (some ((0 : Int32), v10_tried, v10_then, v10_at, v10_readSize))) else ((f_X10_readTerms_67 K_45 v10_firstOf v10_row v10_letter v10_letters) v10_tried v10_then v10_at v10_readSize))) else ((f_X10_readTerms_67 K_45 v10_firstOf v10_row v10_letter v10_letters) v10_tried v10_then v10_at v10_readSize))
def f_X10_readTerms_45 (v10_firstOf : Nat → Int32) (v10_row : Nat → Int32) (v10_letter : Nat → Int32) (v10_letters : Int32) : Nat → (Nat → Int32) → (Nat → Int64) → Int32 → Int32 → Option (Int32 × (Nat → Int32) × (Nat → Int64) × Int32 × Int32)
  | 0 => fun _ _ _ _ => none
  | n + 1 => gf_X10_readTerms_45 (f_X10_readTerms_45 v10_firstOf v10_row v10_letter v10_letters n) v10_firstOf v10_row v10_letter v10_letters
def f_X10_readTerms_34 (v10_firstOf : Nat → Int32) (v10_row : Nat → Int32) (v10_letter : Nat → Int32) (v10_letters : Int32) (v10_tried : Nat → Int32) (v10_then : Nat → Int64) (v10_at : Int32) (v10_readSize : Int32) (y1 : Int32) : Option (Int32 × (Nat → Int32) × (Nat → Int64) × Int32 × Int32) := p_b5 (f_X10_readTerm v10_firstOf v10_row v10_letter v10_letters v10_tried v10_then v10_at v10_readSize y1 (1 : Int32)) (fun r_20 v10_tried_21 v10_then_22 v10_at_23 v10_readSize_24 => if r_20 = 0 then (some ((0 : Int32), v10_tried_21, v10_then_22, v10_at_23, v10_readSize_24)) else ((f_X10_readTerms_45 v10_firstOf v10_row v10_letter v10_letters 1000) v10_tried_21 v10_then_22 v10_at_23 v10_readSize_24))
def f_X10_readTerms (v10_firstOf : Nat → Int32) (v10_row : Nat → Int32) (v10_letter : Nat → Int32) (v10_letters : Int32) (v10_tried : Nat → Int32) (v10_then : Nat → Int64) (v10_at : Int32) (v10_readSize : Int32) : Option (Int32 × (Nat → Int32) × (Nat → Int64) × Int32 × Int32) := p_b1 (f_X10_thenNone v10_then) (fun v10_then_28 => p_b1 (f_X10_isHere v10_letter v10_letters (0 : Int32) (45 : Int32) (45 : Int32)) (fun r_30 => if r_30 = 0 then ((f_X10_readTerms_34 v10_firstOf v10_row v10_letter v10_letters) v10_tried v10_then_28 (0 : Int32) v10_readSize (1 : Int32)) else ((f_X10_readTerms_34 v10_firstOf v10_row v10_letter v10_letters) v10_tried v10_then_28 ((0 : Int32) + (1 : Int32)) v10_readSize (-1 : Int32))))
set_option maxHeartbeats 4000000 in
set_option maxRecDepth 20000 in
theorem c_X10_readTerms (l : Launch) (D : va_G) (cyI cyJ : ClassId) (G a : Nat → Nat) (sz : Nat) (v10_firstOf : Nat → Int32) (v10_sizeOf : Nat → Int32) (v10_longOf : Nat → Int32) (v10_row : Nat → Int32) (v10_character : Nat → Int32) (v10_sum : Nat → Int32) (v10_coefficient : Nat → Int32) (v10_undone : Int32) (v10_wasSum : Nat → Int32) (v10_wasCoefficient : Nat → Int32) (v10_hasImage : Int32) (v10_letter : Nat → Int32) (v10_letters : Int32) (v10_list : Nat → Int32) (v10_cell : Nat → Int32) (v10_refusals : Nat → Int32) (v10_tried : Nat → Int32) (v10_left : Int32) (v10_high : Int32) (v10_then : Nat → Int64) (v10_at : Int32) (v10_readSize : Int32) (ro : Int32) (ov10_tried : Nat → Int32) (ov10_then : Nat → Int64) (ov10_at : Int32) (ov10_readSize : Int32) (hf : f_X10_readTerms v10_firstOf v10_row v10_letter v10_letters v10_tried v10_then v10_at v10_readSize = some (ro, ov10_tried, ov10_then, ov10_at, ov10_readSize)) : xm_z l yX10_readTerms (Cond.code yX10_readTerms cX10_readTerms 2 (some .boolean) :: xg_tbl) { frames := 3, cells := 0, slots := 0, locals := 72 } D xcl [(cyI, .int), (cyJ, .long)] G sz [.ref (a 28)] (wd_X10 a cyI cyJ v10_firstOf v10_sizeOf v10_longOf v10_row v10_character v10_sum v10_coefficient v10_undone v10_wasSum v10_wasCoefficient v10_hasImage v10_letter v10_letters v10_list v10_cell v10_refusals v10_tried v10_left v10_high v10_then v10_at v10_readSize) (wd_X10 a cyI cyJ v10_firstOf v10_sizeOf v10_longOf v10_row v10_character v10_sum v10_coefficient v10_undone v10_wasSum v10_wasCoefficient v10_hasImage v10_letter v10_letters v10_list v10_cell v10_refusals ov10_tried v10_left v10_high ov10_then ov10_at ov10_readSize) ro := by
  refine xm_of_z (own := RX10) (by decide) rfl rfl (Nat.le_of_ble_eq_true rfl) ?_
  intro p e s m args below meth c ls Q A hQ hAe hin Cx hsz hP hD hS hl
  have Cx1 := Cx
  obtain ⟨⟨hx, hb, hml, hown, hts⟩, hr, hlocks, hK, hA, hT⟩ := Cx1
  have hl : lv_has ls 2 [(0, .ref (a 28))] := hl
  obtain ⟨H, eH⟩ : ∃ H, H = s.heap := ⟨_, rfl⟩
  obtain ⟨locs, eL⟩ : ∃ L : List Loc, L = [] := ⟨_, rfl⟩
  rw [← eH] at hP
  have hS : va_S A s.heap H locs := by rw [eH, eL]; exact hS
  suffices hgo : W p l e { frames := 3, cells := 0, slots := 0, locals := 72 } s m args below meth c H locs 0 0 Q (F0 m 0 ls []) by rw [eH, eL] at hgo; exact hgo
  clear eH eL
  unfold f_X10_readTerms at hf
  have w_34 : ∀ (v10_tried : Nat → Int32) (v10_then : Nat → Int64) (v10_at : Int32) (v10_readSize : Int32) (y1 : Int32) (H : Heap) (locs : List Loc) (ls : Array Slot), (f_X10_readTerms_34 v10_firstOf v10_row v10_letter v10_letters) v10_tried v10_then v10_at v10_readSize y1 = some (ro, ov10_tried, ov10_then, ov10_at, ov10_readSize) → va_P D xcl (wd_X10 a cyI cyJ v10_firstOf v10_sizeOf v10_longOf v10_row v10_character v10_sum v10_coefficient v10_undone v10_wasSum v10_wasCoefficient v10_hasImage v10_letter v10_letters v10_list v10_cell v10_refusals v10_tried v10_left v10_high v10_then v10_at v10_readSize) H → va_D A (wd_X10 a cyI cyJ v10_firstOf v10_sizeOf v10_longOf v10_row v10_character v10_sum v10_coefficient v10_undone v10_wasSum v10_wasCoefficient v10_hasImage v10_letter v10_letters v10_list v10_cell v10_refusals v10_tried v10_left v10_high v10_then v10_at v10_readSize) → va_S A s.heap H locs → lv_has ls 2 [(0, .ref (a 28)), (1, .int y1)] → W p l e { frames := 3, cells := 0, slots := 0, locals := 72 } s m args below meth c H locs 0 0 Q (F0 m 34 ls []) := by
    intro v10_tried v10_then v10_at v10_readSize y1 H locs ls hf hP hD hS hl
    unfold f_X10_readTerms_34 at hf
    have w_45 : ∀ (n_45 : Nat) (v10_tried : Nat → Int32) (v10_then : Nat → Int64) (v10_at : Int32) (v10_readSize : Int32) (H : Heap) (locs : List Loc) (ls : Array Slot), (f_X10_readTerms_45 v10_firstOf v10_row v10_letter v10_letters) n_45 v10_tried v10_then v10_at v10_readSize = some (ro, ov10_tried, ov10_then, ov10_at, ov10_readSize) → va_P D xcl (wd_X10 a cyI cyJ v10_firstOf v10_sizeOf v10_longOf v10_row v10_character v10_sum v10_coefficient v10_undone v10_wasSum v10_wasCoefficient v10_hasImage v10_letter v10_letters v10_list v10_cell v10_refusals v10_tried v10_left v10_high v10_then v10_at v10_readSize) H → va_D A (wd_X10 a cyI cyJ v10_firstOf v10_sizeOf v10_longOf v10_row v10_character v10_sum v10_coefficient v10_undone v10_wasSum v10_wasCoefficient v10_hasImage v10_letter v10_letters v10_list v10_cell v10_refusals v10_tried v10_left v10_high v10_then v10_at v10_readSize) → va_S A s.heap H locs → lv_has ls 2 [(0, .ref (a 28))] → W p l e { frames := 3, cells := 0, slots := 0, locals := 72 } s m args below meth c H locs 0 0 Q (F0 m 45 ls []) := by
      intro n_45
      induction n_45 with
      | zero => intro v10_tried v10_then v10_at v10_readSize H locs ls hf; exact absurd hf (by intro h9; cases h9)
      | succ n_45 w_45 =>
        intro v10_tried v10_then v10_at v10_readSize H locs ls hf hP hD hS hl
        have hf : gf_X10_readTerms_45 ((f_X10_readTerms_45 v10_firstOf v10_row v10_letter v10_letters) n_45) v10_firstOf v10_row v10_letter v10_letters v10_tried v10_then v10_at v10_readSize = some (ro, ov10_tried, ov10_then, ov10_at, ov10_readSize) := hf
        unfold gf_X10_readTerms_45 at hf
        have w_67 : ∀ (v10_tried : Nat → Int32) (v10_then : Nat → Int64) (v10_at : Int32) (v10_readSize : Int32) (H : Heap) (locs : List Loc) (ls : Array Slot), (f_X10_readTerms_67 ((f_X10_readTerms_45 v10_firstOf v10_row v10_letter v10_letters) n_45) v10_firstOf v10_row v10_letter v10_letters) v10_tried v10_then v10_at v10_readSize = some (ro, ov10_tried, ov10_then, ov10_at, ov10_readSize) → va_P D xcl (wd_X10 a cyI cyJ v10_firstOf v10_sizeOf v10_longOf v10_row v10_character v10_sum v10_coefficient v10_undone v10_wasSum v10_wasCoefficient v10_hasImage v10_letter v10_letters v10_list v10_cell v10_refusals v10_tried v10_left v10_high v10_then v10_at v10_readSize) H → va_D A (wd_X10 a cyI cyJ v10_firstOf v10_sizeOf v10_longOf v10_row v10_character v10_sum v10_coefficient v10_undone v10_wasSum v10_wasCoefficient v10_hasImage v10_letter v10_letters v10_list v10_cell v10_refusals v10_tried v10_left v10_high v10_then v10_at v10_readSize) → va_S A s.heap H locs → lv_has ls 2 [(0, .ref (a 28))] → W p l e { frames := 3, cells := 0, slots := 0, locals := 72 } s m args below meth c H locs 0 0 Q (F0 m 67 ls []) := by
          intro v10_tried v10_then v10_at v10_readSize H locs ls hf hP hD hS hl
          unfold f_X10_readTerms_67 at hf
          have w_86 : ∀ (v10_tried : Nat → Int32) (v10_then : Nat → Int64) (v10_at : Int32) (v10_readSize : Int32) (z0 : Int32) (H : Heap) (locs : List Loc) (ls : Array Slot), (f_X10_readTerms_86 ((f_X10_readTerms_45 v10_firstOf v10_row v10_letter v10_letters) n_45) v10_firstOf v10_row v10_letter v10_letters) v10_tried v10_then v10_at v10_readSize z0 = some (ro, ov10_tried, ov10_then, ov10_at, ov10_readSize) → va_P D xcl (wd_X10 a cyI cyJ v10_firstOf v10_sizeOf v10_longOf v10_row v10_character v10_sum v10_coefficient v10_undone v10_wasSum v10_wasCoefficient v10_hasImage v10_letter v10_letters v10_list v10_cell v10_refusals v10_tried v10_left v10_high v10_then v10_at v10_readSize) H → va_D A (wd_X10 a cyI cyJ v10_firstOf v10_sizeOf v10_longOf v10_row v10_character v10_sum v10_coefficient v10_undone v10_wasSum v10_wasCoefficient v10_hasImage v10_letter v10_letters v10_list v10_cell v10_refusals v10_tried v10_left v10_high v10_then v10_at v10_readSize) → va_S A s.heap H locs → lv_has ls 2 [(0, .ref (a 28))] → W p l e { frames := 3, cells := 0, slots := 0, locals := 72 } s m args below meth c H locs 0 0 Q (F0 m 86 ls [.int z0]) := by
            intro v10_tried v10_then v10_at v10_readSize z0 H locs ls hf hP hD hS hl
            unfold f_X10_readTerms_86 at hf
            refine lv_istore_n (lv' := [(1, .int z0), (0, .ref (a 28))]) hx hb dX10_readTerms_86 rfl hl (by decide) rfl (fun ls hl => ?_)
            refine lv_aload_n hx hb dX10_readTerms_87 rfl (lv_at hl 1 rfl) ?_
            refine lv_dup hx hb dX10_readTerms_88 rfl ?_
            refine va_get (ci := 10) (v := .int v10_at) hx hb hts wX10_in hown hK hP 0 rfl rfl 20 (by decide) (hts _ mw_4_212) (fun _ h9 => h9) rfl dX10_readTerms_89 ?_
            refine lv_iconst (v := (1 : Int32)) hx hb dX10_readTerms_92 (by decide) ?_
            refine lv_iadd hx hb dX10_readTerms_93 ?_
            refine va_put (ci := 10) (v := .int (v10_at + (1 : Int32))) (ty := .int) hx hb hts wX10_in tyX10 tyX10_ok nmX10 hown hK hP hD hS 0 rfl rfl 20 (by decide) (hts _ mw_4_212) (fun _ h9 => h9) rfl (by decide +kernel) rfl rfl (Nat.le_of_ble_eq_true rfl) dX10_readTerms_94 (fun H locs hP hD hS => ?_)
            have hP : va_P D xcl (wd_X10 a cyI cyJ v10_firstOf v10_sizeOf v10_longOf v10_row v10_character v10_sum v10_coefficient v10_undone v10_wasSum v10_wasCoefficient v10_hasImage v10_letter v10_letters v10_list v10_cell v10_refusals v10_tried v10_left v10_high v10_then (v10_at + (1 : Int32)) v10_readSize) H := hP
            have hD : va_D A (wd_X10 a cyI cyJ v10_firstOf v10_sizeOf v10_longOf v10_row v10_character v10_sum v10_coefficient v10_undone v10_wasSum v10_wasCoefficient v10_hasImage v10_letter v10_letters v10_list v10_cell v10_refusals v10_tried v10_left v10_high v10_then (v10_at + (1 : Int32)) v10_readSize) := hD
            refine lv_aload_n hx hb dX10_readTerms_97 rfl (lv_at hl 1 rfl) ?_
            refine lv_iload_n hx hb dX10_readTerms_98 rfl (lv_at hl 0 rfl) ?_
            refine lv_iconst (v := (0 : Int32)) hx hb dX10_readTerms_99 (by decide) ?_
            obtain ⟨r_34, v10_tried_35, v10_then_36, v10_at_37, v10_readSize_38, hk_39, hf⟩ := pe_5 hf
            refine xv_z (As := [.int z0, .int (0 : Int32)]) (rest := []) (q0 := 0) (ci := 10) Cx hP hD hS hl (pl_X10_X10 a cyI cyJ v10_firstOf v10_sizeOf v10_longOf v10_row v10_character v10_sum v10_coefficient v10_undone v10_wasSum v10_wasCoefficient v10_hasImage v10_letter v10_letters v10_list v10_cell v10_refusals v10_tried v10_left v10_high v10_then (v10_at + (1 : Int32)) v10_readSize v10_firstOf v10_sizeOf v10_longOf v10_row v10_character v10_sum v10_coefficient v10_undone v10_wasSum v10_wasCoefficient v10_hasImage v10_letter v10_letters v10_list v10_cell v10_refusals v10_tried_35 v10_left v10_high v10_then_36 v10_at_37 v10_readSize_38) (c_X10_readTerm l D cyI cyJ G a H.size v10_firstOf v10_sizeOf v10_longOf v10_row v10_character v10_sum v10_coefficient v10_undone v10_wasSum v10_wasCoefficient v10_hasImage v10_letter v10_letters v10_list v10_cell v10_refusals v10_tried v10_left v10_high v10_then (v10_at + (1 : Int32)) v10_readSize z0 (0 : Int32) r_34 v10_tried_35 v10_then_36 v10_at_37 v10_readSize_38 hk_39) pk_X10_readTerm mw_5_167 ⟨rfl, rfl, Nat.le_of_ble_eq_true rfl, Nat.le_of_ble_eq_true rfl⟩ rfl rfl rfl rfl rfl (Nat.le_of_ble_eq_true rfl) ⟨Nat.le_of_ble_eq_true rfl, Nat.le_of_ble_eq_true rfl⟩ dX10_readTerms_100 (fun H locs hn_40 hP hD hS => ?_)
            refine lv_if_ne (tgt := 45) hx hb dX10_readTerms_103 (by decide) (fun hc_41 => ?_) (fun hc_41 => ?_)
            · have hf := pe_f hf hc_41
              exact w_45 v10_tried_35 v10_then_36 v10_at_37 v10_readSize_38 H locs ls hf hP hD hS (lv_sub hl [1] rfl)
            · have hf := pe_t hf hc_41
              refine lv_iconst (v := (0 : Int32)) hx hb dX10_readTerms_106 (by decide) ?_
              obtain ⟨rfl, rfl, rfl, rfl, rfl⟩ := po_5 hf
              rw [← hQ]; exact xe_zret Cx rfl rfl hP hD hS dX10_readTerms_107
          refine lv_aload_n hx hb dX10_readTerms_67 rfl (lv_at hl 0 rfl) ?_
          refine va_get (ci := 10) (v := .ref (a 38)) hx hb hts wX10_in hown hK hP 0 rfl rfl 11 (by decide) (hts _ mw_4_203) (fun _ h9 => h9) rfl dX10_readTerms_68 ?_
          refine lv_aload_n hx hb dX10_readTerms_71 rfl (lv_at hl 0 rfl) ?_
          refine va_get (ci := 10) (v := .int v10_at) hx hb hts wX10_in hown hK hP 0 rfl rfl 20 (by decide) (hts _ mw_4_212) (fun _ h9 => h9) rfl dX10_readTerms_72 ?_
          obtain ⟨hi_42, hf⟩ := pe_in hf
          refine va_iald hx hb hK hP 10 0 rfl rfl hi_42 dX10_readTerms_75 ?_
          refine lv_bipush (v := (45 : Int32)) hx hb dX10_readTerms_76 (by decide) ?_
          refine lv_icmp_ne (tgt := 85) hx hb dX10_readTerms_78 (by decide) (fun hc_43 => ?_) (fun hc_43 => ?_)
          · have hf := pe_f hf hc_43
            refine lv_iconst (v := (1 : Int32)) hx hb dX10_readTerms_85 (by decide) ?_
            exact w_86 v10_tried v10_then v10_at v10_readSize (1 : Int32) H locs ls hf hP hD hS (lv_sub hl [0] rfl)
          · have hf := pe_t hf hc_43
            refine lv_iconst (v := (-1 : Int32)) hx hb dX10_readTerms_81 (by decide) ?_
            refine lv_goto (tgt := 86) hx hb dX10_readTerms_82 (by decide) ?_
            exact w_86 v10_tried v10_then v10_at v10_readSize (-1 : Int32) H locs ls hf hP hD hS (lv_sub hl [0] rfl)
        refine lv_aload_n hx hb dX10_readTerms_45 rfl (lv_at hl 0 rfl) ?_
        refine lv_bipush (v := (43 : Int32)) hx hb dX10_readTerms_46 (by decide) ?_
        refine lv_bipush (v := (43 : Int32)) hx hb dX10_readTerms_48 (by decide) ?_
        obtain ⟨r_44, hk_45, hf⟩ := pe_1 hf
        refine xv_z (As := [.int (43 : Int32), .int (43 : Int32)]) (rest := []) (q0 := 0) (ci := 10) Cx hP hD hS hl (pl_X10_X10 a cyI cyJ v10_firstOf v10_sizeOf v10_longOf v10_row v10_character v10_sum v10_coefficient v10_undone v10_wasSum v10_wasCoefficient v10_hasImage v10_letter v10_letters v10_list v10_cell v10_refusals v10_tried v10_left v10_high v10_then v10_at v10_readSize v10_firstOf v10_sizeOf v10_longOf v10_row v10_character v10_sum v10_coefficient v10_undone v10_wasSum v10_wasCoefficient v10_hasImage v10_letter v10_letters v10_list v10_cell v10_refusals v10_tried v10_left v10_high v10_then v10_at v10_readSize) (c_X10_isHere l D cyI cyJ G a H.size v10_firstOf v10_sizeOf v10_longOf v10_row v10_character v10_sum v10_coefficient v10_undone v10_wasSum v10_wasCoefficient v10_hasImage v10_letter v10_letters v10_list v10_cell v10_refusals v10_tried v10_left v10_high v10_then v10_at v10_readSize (43 : Int32) (43 : Int32) r_44 hk_45) pk_X10_isHere mw_5_163 ⟨rfl, rfl, Nat.le_of_ble_eq_true rfl, Nat.le_of_ble_eq_true rfl⟩ rfl rfl rfl rfl rfl (Nat.le_of_ble_eq_true rfl) ⟨Nat.le_of_ble_eq_true rfl, Nat.le_of_ble_eq_true rfl⟩ dX10_readTerms_50 (fun H locs hn_46 hP hD hS => ?_)
        refine lv_if_ne (tgt := 67) hx hb dX10_readTerms_53 (by decide) (fun hc_47 => ?_) (fun hc_47 => ?_)
        · have hf := pe_f hf hc_47
          exact w_67 v10_tried v10_then v10_at v10_readSize H locs ls hf hP hD hS (lv_sub hl [0] rfl)
        · have hf := pe_t hf hc_47
          refine lv_aload_n hx hb dX10_readTerms_56 rfl (lv_at hl 0 rfl) ?_
          refine lv_bipush (v := (45 : Int32)) hx hb dX10_readTerms_57 (by decide) ?_
          refine lv_bipush (v := (45 : Int32)) hx hb dX10_readTerms_59 (by decide) ?_
          obtain ⟨r_48, hk_49, hf⟩ := pe_1 hf
          refine xv_z (As := [.int (45 : Int32), .int (45 : Int32)]) (rest := []) (q0 := 0) (ci := 10) Cx hP hD hS hl (pl_X10_X10 a cyI cyJ v10_firstOf v10_sizeOf v10_longOf v10_row v10_character v10_sum v10_coefficient v10_undone v10_wasSum v10_wasCoefficient v10_hasImage v10_letter v10_letters v10_list v10_cell v10_refusals v10_tried v10_left v10_high v10_then v10_at v10_readSize v10_firstOf v10_sizeOf v10_longOf v10_row v10_character v10_sum v10_coefficient v10_undone v10_wasSum v10_wasCoefficient v10_hasImage v10_letter v10_letters v10_list v10_cell v10_refusals v10_tried v10_left v10_high v10_then v10_at v10_readSize) (c_X10_isHere l D cyI cyJ G a H.size v10_firstOf v10_sizeOf v10_longOf v10_row v10_character v10_sum v10_coefficient v10_undone v10_wasSum v10_wasCoefficient v10_hasImage v10_letter v10_letters v10_list v10_cell v10_refusals v10_tried v10_left v10_high v10_then v10_at v10_readSize (45 : Int32) (45 : Int32) r_48 hk_49) pk_X10_isHere mw_5_163 ⟨rfl, rfl, Nat.le_of_ble_eq_true rfl, Nat.le_of_ble_eq_true rfl⟩ rfl rfl rfl rfl rfl (Nat.le_of_ble_eq_true rfl) ⟨Nat.le_of_ble_eq_true rfl, Nat.le_of_ble_eq_true rfl⟩ dX10_readTerms_61 (fun H locs hn_50 hP hD hS => ?_)
          refine lv_if_eq (tgt := 108) hx hb dX10_readTerms_64 (by decide) (fun hc_51 => ?_) (fun hc_51 => ?_)
          · have hf := pe_t hf hc_51
            refine lv_aload_n hx hb dX10_readTerms_108 rfl (lv_at hl 0 rfl) ?_
            refine va_get (ci := 10) (v := .int v10_at) hx hb hts wX10_in hown hK hP 0 rfl rfl 20 (by decide) (hts _ mw_4_212) (fun _ h9 => h9) rfl dX10_readTerms_109 ?_
            refine lv_aload_n hx hb dX10_readTerms_112 rfl (lv_at hl 0 rfl) ?_
            refine va_get (ci := 10) (v := .int v10_letters) hx hb hts wX10_in hown hK hP 0 rfl rfl 12 (by decide) (hts _ mw_4_204) (fun _ h9 => h9) rfl dX10_readTerms_113 ?_
            refine lv_icmp_ne (tgt := 123) hx hb dX10_readTerms_116 (by decide) (fun hc_52 => ?_) (fun hc_52 => ?_)
            · have hf := pe_f hf hc_52
              refine lv_iconst (v := (0 : Int32)) hx hb dX10_readTerms_123 (by decide) ?_
              obtain ⟨rfl, rfl, rfl, rfl, rfl⟩ := po_5 hf
              rw [← hQ]; exact xe_zret Cx rfl rfl hP hD hS dX10_readTerms_124
            · have hf := pe_t hf hc_52
              refine lv_iconst (v := (1 : Int32)) hx hb dX10_readTerms_119 (by decide) ?_
              refine lv_goto (tgt := 124) hx hb dX10_readTerms_120 (by decide) ?_
              obtain ⟨rfl, rfl, rfl, rfl, rfl⟩ := po_5 hf
              rw [← hQ]; exact xe_zret Cx rfl rfl hP hD hS dX10_readTerms_124
          · have hf := pe_f hf hc_51
            exact w_67 v10_tried v10_then v10_at v10_readSize H locs ls hf hP hD hS (lv_sub hl [0] rfl)
    refine lv_aload_n hx hb dX10_readTerms_34 rfl (lv_at hl 0 rfl) ?_
    refine lv_iload_n hx hb dX10_readTerms_35 rfl (lv_at hl 1 rfl) ?_
    refine lv_iconst (v := (1 : Int32)) hx hb dX10_readTerms_36 (by decide) ?_
    obtain ⟨r_53, v10_tried_54, v10_then_55, v10_at_56, v10_readSize_57, hk_58, hf⟩ := pe_5 hf
    refine xv_z (As := [.int y1, .int (1 : Int32)]) (rest := []) (q0 := 0) (ci := 10) Cx hP hD hS hl (pl_X10_X10 a cyI cyJ v10_firstOf v10_sizeOf v10_longOf v10_row v10_character v10_sum v10_coefficient v10_undone v10_wasSum v10_wasCoefficient v10_hasImage v10_letter v10_letters v10_list v10_cell v10_refusals v10_tried v10_left v10_high v10_then v10_at v10_readSize v10_firstOf v10_sizeOf v10_longOf v10_row v10_character v10_sum v10_coefficient v10_undone v10_wasSum v10_wasCoefficient v10_hasImage v10_letter v10_letters v10_list v10_cell v10_refusals v10_tried_54 v10_left v10_high v10_then_55 v10_at_56 v10_readSize_57) (c_X10_readTerm l D cyI cyJ G a H.size v10_firstOf v10_sizeOf v10_longOf v10_row v10_character v10_sum v10_coefficient v10_undone v10_wasSum v10_wasCoefficient v10_hasImage v10_letter v10_letters v10_list v10_cell v10_refusals v10_tried v10_left v10_high v10_then v10_at v10_readSize y1 (1 : Int32) r_53 v10_tried_54 v10_then_55 v10_at_56 v10_readSize_57 hk_58) pk_X10_readTerm mw_5_167 ⟨rfl, rfl, Nat.le_of_ble_eq_true rfl, Nat.le_of_ble_eq_true rfl⟩ rfl rfl rfl rfl rfl (Nat.le_of_ble_eq_true rfl) ⟨Nat.le_of_ble_eq_true rfl, Nat.le_of_ble_eq_true rfl⟩ dX10_readTerms_37 (fun H locs hn_59 hP hD hS => ?_)
    refine lv_if_ne (tgt := 45) hx hb dX10_readTerms_40 (by decide) (fun hc_60 => ?_) (fun hc_60 => ?_)
    · have hf := pe_f hf hc_60
      exact w_45 1000 v10_tried_54 v10_then_55 v10_at_56 v10_readSize_57 H locs ls hf hP hD hS (lv_sub hl [0] rfl)
    · have hf := pe_t hf hc_60
      refine lv_iconst (v := (0 : Int32)) hx hb dX10_readTerms_43 (by decide) ?_
      obtain ⟨rfl, rfl, rfl, rfl, rfl⟩ := po_5 hf
      rw [← hQ]; exact xe_zret Cx rfl rfl hP hD hS dX10_readTerms_44
  refine lv_aload_n hx hb dX10_readTerms_0 rfl (lv_at hl 0 rfl) ?_
  refine lv_iconst (v := (0 : Int32)) hx hb dX10_readTerms_1 (by decide) ?_
  refine va_put (ci := 10) (v := .int (0 : Int32)) (ty := .int) hx hb hts wX10_in tyX10 tyX10_ok nmX10 hown hK hP hD hS 0 rfl rfl 20 (by decide) (hts _ mw_4_212) (fun _ h9 => h9) rfl (by decide +kernel) rfl rfl (Nat.le_of_ble_eq_true rfl) dX10_readTerms_2 (fun H locs hP hD hS => ?_)
  have hP : va_P D xcl (wd_X10 a cyI cyJ v10_firstOf v10_sizeOf v10_longOf v10_row v10_character v10_sum v10_coefficient v10_undone v10_wasSum v10_wasCoefficient v10_hasImage v10_letter v10_letters v10_list v10_cell v10_refusals v10_tried v10_left v10_high v10_then (0 : Int32) v10_readSize) H := hP
  have hD : va_D A (wd_X10 a cyI cyJ v10_firstOf v10_sizeOf v10_longOf v10_row v10_character v10_sum v10_coefficient v10_undone v10_wasSum v10_wasCoefficient v10_hasImage v10_letter v10_letters v10_list v10_cell v10_refusals v10_tried v10_left v10_high v10_then (0 : Int32) v10_readSize) := hD
  refine lv_aload_n hx hb dX10_readTerms_5 rfl (lv_at hl 0 rfl) ?_
  obtain ⟨v10_then_61, hk_62, hf⟩ := pe_1 hf
  refine xv_v (As := []) (rest := []) (q0 := 0) (ci := 10) Cx hP hD hS hl (pl_X10_X10 a cyI cyJ v10_firstOf v10_sizeOf v10_longOf v10_row v10_character v10_sum v10_coefficient v10_undone v10_wasSum v10_wasCoefficient v10_hasImage v10_letter v10_letters v10_list v10_cell v10_refusals v10_tried v10_left v10_high v10_then (0 : Int32) v10_readSize v10_firstOf v10_sizeOf v10_longOf v10_row v10_character v10_sum v10_coefficient v10_undone v10_wasSum v10_wasCoefficient v10_hasImage v10_letter v10_letters v10_list v10_cell v10_refusals v10_tried v10_left v10_high v10_then_61 (0 : Int32) v10_readSize) (c_X10_thenNone l D cyI cyJ G a H.size v10_firstOf v10_sizeOf v10_longOf v10_row v10_character v10_sum v10_coefficient v10_undone v10_wasSum v10_wasCoefficient v10_hasImage v10_letter v10_letters v10_list v10_cell v10_refusals v10_tried v10_left v10_high v10_then (0 : Int32) v10_readSize v10_then_61 hk_62) pk_X10_thenNone mw_5_159 ⟨rfl, rfl, Nat.le_of_ble_eq_true rfl, Nat.le_of_ble_eq_true rfl⟩ rfl rfl rfl rfl rfl (Nat.le_of_ble_eq_true rfl) ⟨Nat.le_of_ble_eq_true rfl, Nat.le_of_ble_eq_true rfl⟩ dX10_readTerms_6 (fun H locs hP hD hS => ?_)
  refine lv_iconst (v := (1 : Int32)) hx hb dX10_readTerms_9 (by decide) ?_
  refine lv_istore_n (lv' := [(1, .int (1 : Int32)), (0, .ref (a 28))]) hx hb dX10_readTerms_10 rfl hl (by decide) rfl (fun ls hl => ?_)
  refine lv_aload_n hx hb dX10_readTerms_11 rfl (lv_at hl 1 rfl) ?_
  refine lv_bipush (v := (45 : Int32)) hx hb dX10_readTerms_12 (by decide) ?_
  refine lv_bipush (v := (45 : Int32)) hx hb dX10_readTerms_14 (by decide) ?_
  obtain ⟨r_63, hk_64, hf⟩ := pe_1 hf
  refine xv_z (As := [.int (45 : Int32), .int (45 : Int32)]) (rest := []) (q0 := 0) (ci := 10) Cx hP hD hS hl (pl_X10_X10 a cyI cyJ v10_firstOf v10_sizeOf v10_longOf v10_row v10_character v10_sum v10_coefficient v10_undone v10_wasSum v10_wasCoefficient v10_hasImage v10_letter v10_letters v10_list v10_cell v10_refusals v10_tried v10_left v10_high v10_then_61 (0 : Int32) v10_readSize v10_firstOf v10_sizeOf v10_longOf v10_row v10_character v10_sum v10_coefficient v10_undone v10_wasSum v10_wasCoefficient v10_hasImage v10_letter v10_letters v10_list v10_cell v10_refusals v10_tried v10_left v10_high v10_then_61 (0 : Int32) v10_readSize) (c_X10_isHere l D cyI cyJ G a H.size v10_firstOf v10_sizeOf v10_longOf v10_row v10_character v10_sum v10_coefficient v10_undone v10_wasSum v10_wasCoefficient v10_hasImage v10_letter v10_letters v10_list v10_cell v10_refusals v10_tried v10_left v10_high v10_then_61 (0 : Int32) v10_readSize (45 : Int32) (45 : Int32) r_63 hk_64) pk_X10_isHere mw_5_163 ⟨rfl, rfl, Nat.le_of_ble_eq_true rfl, Nat.le_of_ble_eq_true rfl⟩ rfl rfl rfl rfl rfl (Nat.le_of_ble_eq_true rfl) ⟨Nat.le_of_ble_eq_true rfl, Nat.le_of_ble_eq_true rfl⟩ dX10_readTerms_16 (fun H locs hn_65 hP hD hS => ?_)
  refine lv_if_eq (tgt := 34) hx hb dX10_readTerms_19 (by decide) (fun hc_66 => ?_) (fun hc_66 => ?_)
  · have hf := pe_t hf hc_66
    exact w_34 v10_tried v10_then_61 (0 : Int32) v10_readSize (1 : Int32) H locs ls hf hP hD hS (lv_sub hl [1, 0] rfl)
  · have hf := pe_f hf hc_66
    refine lv_iconst (v := (-1 : Int32)) hx hb dX10_readTerms_22 (by decide) ?_
    refine lv_istore_n (lv' := [(1, .int (-1 : Int32)), (0, .ref (a 28))]) hx hb dX10_readTerms_23 rfl hl (by decide) rfl (fun ls hl => ?_)
    refine lv_aload_n hx hb dX10_readTerms_24 rfl (lv_at hl 1 rfl) ?_
    refine lv_dup hx hb dX10_readTerms_25 rfl ?_
    refine va_get (ci := 10) (v := .int (0 : Int32)) hx hb hts wX10_in hown hK hP 0 rfl rfl 20 (by decide) (hts _ mw_4_212) (fun _ h9 => h9) rfl dX10_readTerms_26 ?_
    refine lv_iconst (v := (1 : Int32)) hx hb dX10_readTerms_29 (by decide) ?_
    refine lv_iadd hx hb dX10_readTerms_30 ?_
    refine va_put (ci := 10) (v := .int ((0 : Int32) + (1 : Int32))) (ty := .int) hx hb hts wX10_in tyX10 tyX10_ok nmX10 hown hK hP hD hS 0 rfl rfl 20 (by decide) (hts _ mw_4_212) (fun _ h9 => h9) rfl (by decide +kernel) rfl rfl (Nat.le_of_ble_eq_true rfl) dX10_readTerms_31 (fun H locs hP hD hS => ?_)
    have hP : va_P D xcl (wd_X10 a cyI cyJ v10_firstOf v10_sizeOf v10_longOf v10_row v10_character v10_sum v10_coefficient v10_undone v10_wasSum v10_wasCoefficient v10_hasImage v10_letter v10_letters v10_list v10_cell v10_refusals v10_tried v10_left v10_high v10_then_61 ((0 : Int32) + (1 : Int32)) v10_readSize) H := hP
    have hD : va_D A (wd_X10 a cyI cyJ v10_firstOf v10_sizeOf v10_longOf v10_row v10_character v10_sum v10_coefficient v10_undone v10_wasSum v10_wasCoefficient v10_hasImage v10_letter v10_letters v10_list v10_cell v10_refusals v10_tried v10_left v10_high v10_then_61 ((0 : Int32) + (1 : Int32)) v10_readSize) := hD
    exact w_34 v10_tried v10_then_61 ((0 : Int32) + (1 : Int32)) v10_readSize (-1 : Int32) H locs ls hf hP hD hS (lv_sub hl [1, 0] rfl)
def f_X10_reads (v10_firstOf : Nat → Int32) (v10_row : Nat → Int32) (v10_sum : Nat → Int32) (v10_coefficient : Nat → Int32) (v10_undone : Int32) (v10_wasSum : Nat → Int32) (v10_wasCoefficient : Nat → Int32) (v10_letter : Nat → Int32) (v10_letters : Int32) (v10_refusals : Nat → Int32) (v10_tried : Nat → Int32) (v10_then : Nat → Int64) (v10_at : Int32) (v10_readSize : Int32) (x1 : Int32) : Option (Int32 × (Nat → Int32) × (Nat → Int32) × Int32 × (Nat → Int32) × (Nat → Int32) × Int32 × (Nat → Int32) × (Nat → Int32) × (Nat → Int64) × Int32 × Int32) := p_b1 (f_X10_isSum x1) (fun r_1 => if r_1 = 0 then (p_b2 (f_X10_refused v10_refusals (-1 : Int32)) (fun r_21 v10_refusals_22 => some (r_21, v10_sum, v10_coefficient, v10_undone, v10_wasSum, v10_wasCoefficient, v10_letters, v10_refusals_22, v10_tried, v10_then, v10_at, v10_readSize))) else (p_b5 (f_X10_readTerms v10_firstOf v10_row v10_letter v10_letters v10_tried v10_then v10_at v10_readSize) (fun r_5 v10_tried_6 v10_then_7 v10_at_8 v10_readSize_9 => if r_5 = 0 then (some (((-1000 : Int32) - v10_at_8), v10_sum, v10_coefficient, v10_undone, v10_wasSum, v10_wasCoefficient, (0 : Int32), v10_refusals, v10_tried_6, v10_then_7, v10_at_8, v10_readSize_9)) else (p_b7 (f_X10_becomes v10_firstOf v10_sum v10_coefficient v10_undone v10_wasSum v10_wasCoefficient v10_refusals v10_then_7 x1 v10_readSize_9) (fun r_13 v10_sum_14 v10_coefficient_15 v10_undone_16 v10_wasSum_17 v10_wasCoefficient_18 v10_refusals_19 => some (r_13, v10_sum_14, v10_coefficient_15, v10_undone_16, v10_wasSum_17, v10_wasCoefficient_18, (0 : Int32), v10_refusals_19, v10_tried_6, v10_then_7, v10_at_8, v10_readSize_9))))))
set_option maxHeartbeats 4000000 in
set_option maxRecDepth 20000 in
theorem c_X10_reads (l : Launch) (D : va_G) (cyI cyJ : ClassId) (G a : Nat → Nat) (sz : Nat) (v10_firstOf : Nat → Int32) (v10_sizeOf : Nat → Int32) (v10_longOf : Nat → Int32) (v10_row : Nat → Int32) (v10_character : Nat → Int32) (v10_sum : Nat → Int32) (v10_coefficient : Nat → Int32) (v10_undone : Int32) (v10_wasSum : Nat → Int32) (v10_wasCoefficient : Nat → Int32) (v10_hasImage : Int32) (v10_letter : Nat → Int32) (v10_letters : Int32) (v10_list : Nat → Int32) (v10_cell : Nat → Int32) (v10_refusals : Nat → Int32) (v10_tried : Nat → Int32) (v10_left : Int32) (v10_high : Int32) (v10_then : Nat → Int64) (v10_at : Int32) (v10_readSize : Int32) (x1 : Int32) (ro : Int32) (ov10_sum : Nat → Int32) (ov10_coefficient : Nat → Int32) (ov10_undone : Int32) (ov10_wasSum : Nat → Int32) (ov10_wasCoefficient : Nat → Int32) (ov10_letters : Int32) (ov10_refusals : Nat → Int32) (ov10_tried : Nat → Int32) (ov10_then : Nat → Int64) (ov10_at : Int32) (ov10_readSize : Int32) (hf : f_X10_reads v10_firstOf v10_row v10_sum v10_coefficient v10_undone v10_wasSum v10_wasCoefficient v10_letter v10_letters v10_refusals v10_tried v10_then v10_at v10_readSize x1 = some (ro, ov10_sum, ov10_coefficient, ov10_undone, ov10_wasSum, ov10_wasCoefficient, ov10_letters, ov10_refusals, ov10_tried, ov10_then, ov10_at, ov10_readSize)) : xm_i l yX10_reads (Cond.code yX10_reads cX10_reads 3 (some .int) :: xg_tbl) { frames := 4, cells := 0, slots := 0, locals := 93 } D xcl [(cyI, .int), (cyJ, .long)] G sz [.ref (a 28), .int x1] (wd_X10 a cyI cyJ v10_firstOf v10_sizeOf v10_longOf v10_row v10_character v10_sum v10_coefficient v10_undone v10_wasSum v10_wasCoefficient v10_hasImage v10_letter v10_letters v10_list v10_cell v10_refusals v10_tried v10_left v10_high v10_then v10_at v10_readSize) (wd_X10 a cyI cyJ v10_firstOf v10_sizeOf v10_longOf v10_row v10_character ov10_sum ov10_coefficient ov10_undone ov10_wasSum ov10_wasCoefficient v10_hasImage v10_letter ov10_letters v10_list v10_cell ov10_refusals ov10_tried v10_left v10_high ov10_then ov10_at ov10_readSize) ro := by
  refine xm_of_i (own := RX10) (by decide) rfl rfl (Nat.le_of_ble_eq_true rfl) ?_
  intro p e s m args below meth c ls Q A hQ hAe hin Cx hsz hP hD hS hl
  have Cx1 := Cx
  obtain ⟨⟨hx, hb, hml, hown, hts⟩, hr, hlocks, hK, hA, hT⟩ := Cx1
  have hl : lv_has ls 3 [(0, .ref (a 28)), (1, .int x1)] := hl
  obtain ⟨H, eH⟩ : ∃ H, H = s.heap := ⟨_, rfl⟩
  obtain ⟨locs, eL⟩ : ∃ L : List Loc, L = [] := ⟨_, rfl⟩
  rw [← eH] at hP
  have hS : va_S A s.heap H locs := by rw [eH, eL]; exact hS
  suffices hgo : W p l e { frames := 4, cells := 0, slots := 0, locals := 93 } s m args below meth c H locs 0 0 Q (F0 m 0 ls []) by rw [eH, eL] at hgo; exact hgo
  clear eH eL
  unfold f_X10_reads at hf
  refine lv_iload_n hx hb dX10_reads_0 rfl (lv_at hl 1 rfl) ?_
  obtain ⟨r_24, hk_25, hf⟩ := pe_1 hf
  refine xw_z (As := [.int x1]) (rest := []) Cx hP hD hS hl (xq_none _) (c_X10_isSum l D cyI cyJ G H.size x1 r_24 hk_25) pk_X10_isSum mw_5_152 ⟨rfl, rfl, Nat.le_of_ble_eq_true rfl, Nat.le_of_ble_eq_true rfl⟩ rfl rfl (Nat.le_of_ble_eq_true rfl) ⟨Nat.le_of_ble_eq_true rfl, Nat.le_of_ble_eq_true rfl⟩ dX10_reads_1 (fun H locs hn_26 hP hD hS => ?_)
  refine lv_if_ne (tgt := 13) hx hb dX10_reads_4 (by decide) (fun hc_27 => ?_) (fun hc_27 => ?_)
  · have hf := pe_f hf hc_27
    refine lv_aload_n hx hb dX10_reads_13 rfl (lv_at hl 0 rfl) ?_
    obtain ⟨r_28, v10_tried_29, v10_then_30, v10_at_31, v10_readSize_32, hk_33, hf⟩ := pe_5 hf
    refine xv_z (As := []) (rest := []) (q0 := 0) (ci := 10) Cx hP hD hS hl (pl_X10_X10 a cyI cyJ v10_firstOf v10_sizeOf v10_longOf v10_row v10_character v10_sum v10_coefficient v10_undone v10_wasSum v10_wasCoefficient v10_hasImage v10_letter v10_letters v10_list v10_cell v10_refusals v10_tried v10_left v10_high v10_then v10_at v10_readSize v10_firstOf v10_sizeOf v10_longOf v10_row v10_character v10_sum v10_coefficient v10_undone v10_wasSum v10_wasCoefficient v10_hasImage v10_letter v10_letters v10_list v10_cell v10_refusals v10_tried_29 v10_left v10_high v10_then_30 v10_at_31 v10_readSize_32) (c_X10_readTerms l D cyI cyJ G a H.size v10_firstOf v10_sizeOf v10_longOf v10_row v10_character v10_sum v10_coefficient v10_undone v10_wasSum v10_wasCoefficient v10_hasImage v10_letter v10_letters v10_list v10_cell v10_refusals v10_tried v10_left v10_high v10_then v10_at v10_readSize r_28 v10_tried_29 v10_then_30 v10_at_31 v10_readSize_32 hk_33) pk_X10_readTerms mw_5_155 ⟨rfl, rfl, Nat.le_of_ble_eq_true rfl, Nat.le_of_ble_eq_true rfl⟩ rfl rfl rfl rfl rfl (Nat.le_of_ble_eq_true rfl) ⟨Nat.le_of_ble_eq_true rfl, Nat.le_of_ble_eq_true rfl⟩ dX10_reads_14 (fun H locs hn_34 hP hD hS => ?_)
    refine lv_istore_n (lv' := [(2, .int r_28), (0, .ref (a 28)), (1, .int x1)]) hx hb dX10_reads_17 rfl hl (by decide) rfl (fun ls hl => ?_)
    refine lv_aload_n hx hb dX10_reads_18 rfl (lv_at hl 1 rfl) ?_
    refine lv_iconst (v := (0 : Int32)) hx hb dX10_reads_19 (by decide) ?_
    refine va_put (ci := 10) (v := .int (0 : Int32)) (ty := .int) hx hb hts wX10_in tyX10 tyX10_ok nmX10 hown hK hP hD hS 0 rfl rfl 12 (by decide) (hts _ mw_4_204) (fun _ h9 => h9) rfl (by decide +kernel) rfl rfl (Nat.le_of_ble_eq_true rfl) dX10_reads_20 (fun H locs hP hD hS => ?_)
    have hP : va_P D xcl (wd_X10 a cyI cyJ v10_firstOf v10_sizeOf v10_longOf v10_row v10_character v10_sum v10_coefficient v10_undone v10_wasSum v10_wasCoefficient v10_hasImage v10_letter (0 : Int32) v10_list v10_cell v10_refusals v10_tried_29 v10_left v10_high v10_then_30 v10_at_31 v10_readSize_32) H := hP
    have hD : va_D A (wd_X10 a cyI cyJ v10_firstOf v10_sizeOf v10_longOf v10_row v10_character v10_sum v10_coefficient v10_undone v10_wasSum v10_wasCoefficient v10_hasImage v10_letter (0 : Int32) v10_list v10_cell v10_refusals v10_tried_29 v10_left v10_high v10_then_30 v10_at_31 v10_readSize_32) := hD
    refine lv_iload_n hx hb dX10_reads_23 rfl (lv_at hl 0 rfl) ?_
    refine lv_if_eq (tgt := 39) hx hb dX10_reads_24 (by decide) (fun hc_35 => ?_) (fun hc_35 => ?_)
    · have hf := pe_t hf hc_35
      refine lv_sipush (v := (-1000 : Int32)) hx hb dX10_reads_39 (by decide) ?_
      refine lv_aload_n hx hb dX10_reads_42 rfl (lv_at hl 1 rfl) ?_
      refine va_get (ci := 10) (v := .int v10_at_31) hx hb hts wX10_in hown hK hP 0 rfl rfl 20 (by decide) (hts _ mw_4_212) (fun _ h9 => h9) rfl dX10_reads_43 ?_
      refine lv_isub hx hb dX10_reads_46 ?_
      simp only [Option.some.injEq, Prod.mk.injEq] at hf
      obtain ⟨rfl, rfl, rfl, rfl, rfl, rfl, rfl, rfl, rfl, rfl, rfl, rfl⟩ := hf
      rw [← hQ]; exact xe_iret Cx rfl hP hD hS dX10_reads_47
    · have hf := pe_f hf hc_35
      refine lv_aload_n hx hb dX10_reads_27 rfl (lv_at hl 1 rfl) ?_
      refine lv_iload_n hx hb dX10_reads_28 rfl (lv_at hl 2 rfl) ?_
      refine lv_aload_n hx hb dX10_reads_29 rfl (lv_at hl 1 rfl) ?_
      refine va_get (ci := 10) (v := .int v10_readSize_32) hx hb hts wX10_in hown hK hP 0 rfl rfl 21 (by decide) (hts _ mw_4_213) (fun _ h9 => h9) rfl dX10_reads_30 ?_
      obtain ⟨r_36, v10_sum_37, v10_coefficient_38, v10_undone_39, v10_wasSum_40, v10_wasCoefficient_41, v10_refusals_42, hk_43, hf⟩ := pe_7 hf
      refine xv_i (As := [.int x1, .int v10_readSize_32]) (rest := []) (q0 := 0) (ci := 10) Cx hP hD hS hl (pl_X10_X10 a cyI cyJ v10_firstOf v10_sizeOf v10_longOf v10_row v10_character v10_sum v10_coefficient v10_undone v10_wasSum v10_wasCoefficient v10_hasImage v10_letter (0 : Int32) v10_list v10_cell v10_refusals v10_tried_29 v10_left v10_high v10_then_30 v10_at_31 v10_readSize_32 v10_firstOf v10_sizeOf v10_longOf v10_row v10_character v10_sum_37 v10_coefficient_38 v10_undone_39 v10_wasSum_40 v10_wasCoefficient_41 v10_hasImage v10_letter (0 : Int32) v10_list v10_cell v10_refusals_42 v10_tried_29 v10_left v10_high v10_then_30 v10_at_31 v10_readSize_32) (c_X10_becomes l D cyI cyJ G a H.size v10_firstOf v10_sizeOf v10_longOf v10_row v10_character v10_sum v10_coefficient v10_undone v10_wasSum v10_wasCoefficient v10_hasImage v10_letter (0 : Int32) v10_list v10_cell v10_refusals v10_tried_29 v10_left v10_high v10_then_30 v10_at_31 v10_readSize_32 x1 v10_readSize_32 r_36 v10_sum_37 v10_coefficient_38 v10_undone_39 v10_wasSum_40 v10_wasCoefficient_41 v10_refusals_42 hk_43) pk_X10_becomes mw_5_171 ⟨rfl, rfl, Nat.le_of_ble_eq_true rfl, Nat.le_of_ble_eq_true rfl⟩ rfl rfl rfl rfl rfl (Nat.le_of_ble_eq_true rfl) ⟨Nat.le_of_ble_eq_true rfl, Nat.le_of_ble_eq_true rfl⟩ dX10_reads_33 (fun H locs hP hD hS => ?_)
      refine lv_goto (tgt := 47) hx hb dX10_reads_36 (by decide) ?_
      simp only [Option.some.injEq, Prod.mk.injEq] at hf
      obtain ⟨rfl, rfl, rfl, rfl, rfl, rfl, rfl, rfl, rfl, rfl, rfl, rfl⟩ := hf
      rw [← hQ]; exact xe_iret Cx rfl hP hD hS dX10_reads_47
  · have hf := pe_t hf hc_27
    refine lv_aload_n hx hb dX10_reads_7 rfl (lv_at hl 0 rfl) ?_
    refine lv_iconst (v := (-1 : Int32)) hx hb dX10_reads_8 (by decide) ?_
    obtain ⟨r_44, v10_refusals_45, hk_46, hf⟩ := pe_2 hf
    refine xv_i (As := [.int (-1 : Int32)]) (rest := []) (q0 := 0) (ci := 10) Cx hP hD hS hl (pl_X10_X10 a cyI cyJ v10_firstOf v10_sizeOf v10_longOf v10_row v10_character v10_sum v10_coefficient v10_undone v10_wasSum v10_wasCoefficient v10_hasImage v10_letter v10_letters v10_list v10_cell v10_refusals v10_tried v10_left v10_high v10_then v10_at v10_readSize v10_firstOf v10_sizeOf v10_longOf v10_row v10_character v10_sum v10_coefficient v10_undone v10_wasSum v10_wasCoefficient v10_hasImage v10_letter v10_letters v10_list v10_cell v10_refusals_45 v10_tried v10_left v10_high v10_then v10_at v10_readSize) (c_X10_refused l D cyI cyJ G a H.size v10_firstOf v10_sizeOf v10_longOf v10_row v10_character v10_sum v10_coefficient v10_undone v10_wasSum v10_wasCoefficient v10_hasImage v10_letter v10_letters v10_list v10_cell v10_refusals v10_tried v10_left v10_high v10_then v10_at v10_readSize (-1 : Int32) r_44 v10_refusals_45 hk_46) pk_X10_refused mw_5_29 ⟨rfl, rfl, Nat.le_of_ble_eq_true rfl, Nat.le_of_ble_eq_true rfl⟩ rfl rfl rfl rfl rfl (Nat.le_of_ble_eq_true rfl) ⟨Nat.le_of_ble_eq_true rfl, Nat.le_of_ble_eq_true rfl⟩ dX10_reads_9 (fun H locs hP hD hS => ?_)
    simp only [Option.some.injEq, Prod.mk.injEq] at hf
    obtain ⟨rfl, rfl, rfl, rfl, rfl, rfl, rfl, rfl, rfl, rfl, rfl, rfl⟩ := hf
    rw [← hQ]; exact xe_iret Cx rfl hP hD hS dX10_reads_12
def f_X10_clear (v10_sum : Nat → Int32) (v10_coefficient : Nat → Int32) (v10_undone : Int32) (v10_wasSum : Nat → Int32) (v10_wasCoefficient : Nat → Int32) (v10_refusals : Nat → Int32) (x1 : Int32) : Option (Int32 × (Nat → Int32) × Int32 × (Nat → Int32) × (Nat → Int32) × (Nat → Int32)) := p_b1 (f_X10_isSum x1) (fun r_1 => if r_1 = 0 then (p_b2 (f_X10_refused v10_refusals (-1 : Int32)) (fun r_12 v10_refusals_13 => some (r_12, v10_sum, v10_undone, v10_wasSum, v10_wasCoefficient, v10_refusals_13))) else (p_b3 (f_X10_canBeUndone v10_sum v10_coefficient v10_undone v10_wasSum v10_wasCoefficient) (fun v10_undone_5 v10_wasSum_6 v10_wasCoefficient_7 => p_in x1 4 (p_in x1 4 (if 0 ≤ (v10_sum (Int32.toNatClampNeg x1)) then (some ((1 : Int32), (upd v10_sum (Int32.toNatClampNeg x1) (-1 : Int32)), v10_undone_5, v10_wasSum_6, v10_wasCoefficient_7, v10_refusals)) else (some ((0 : Int32), (upd v10_sum (Int32.toNatClampNeg x1) (-1 : Int32)), v10_undone_5, v10_wasSum_6, v10_wasCoefficient_7, v10_refusals)))))))
set_option maxHeartbeats 4000000 in
set_option maxRecDepth 20000 in
theorem c_X10_clear (l : Launch) (D : va_G) (cyI cyJ : ClassId) (G a : Nat → Nat) (sz : Nat) (v10_firstOf : Nat → Int32) (v10_sizeOf : Nat → Int32) (v10_longOf : Nat → Int32) (v10_row : Nat → Int32) (v10_character : Nat → Int32) (v10_sum : Nat → Int32) (v10_coefficient : Nat → Int32) (v10_undone : Int32) (v10_wasSum : Nat → Int32) (v10_wasCoefficient : Nat → Int32) (v10_hasImage : Int32) (v10_letter : Nat → Int32) (v10_letters : Int32) (v10_list : Nat → Int32) (v10_cell : Nat → Int32) (v10_refusals : Nat → Int32) (v10_tried : Nat → Int32) (v10_left : Int32) (v10_high : Int32) (v10_then : Nat → Int64) (v10_at : Int32) (v10_readSize : Int32) (x1 : Int32) (ro : Int32) (ov10_sum : Nat → Int32) (ov10_undone : Int32) (ov10_wasSum : Nat → Int32) (ov10_wasCoefficient : Nat → Int32) (ov10_refusals : Nat → Int32) (hf : f_X10_clear v10_sum v10_coefficient v10_undone v10_wasSum v10_wasCoefficient v10_refusals x1 = some (ro, ov10_sum, ov10_undone, ov10_wasSum, ov10_wasCoefficient, ov10_refusals)) : xm_i l yX10_clear (Cond.code yX10_clear cX10_clear 3 (some .int) :: xg_tbl) { frames := 2, cells := 0, slots := 0, locals := 43 } D xcl [(cyI, .int), (cyJ, .long)] G sz [.ref (a 28), .int x1] (wd_X10 a cyI cyJ v10_firstOf v10_sizeOf v10_longOf v10_row v10_character v10_sum v10_coefficient v10_undone v10_wasSum v10_wasCoefficient v10_hasImage v10_letter v10_letters v10_list v10_cell v10_refusals v10_tried v10_left v10_high v10_then v10_at v10_readSize) (wd_X10 a cyI cyJ v10_firstOf v10_sizeOf v10_longOf v10_row v10_character ov10_sum v10_coefficient ov10_undone ov10_wasSum ov10_wasCoefficient v10_hasImage v10_letter v10_letters v10_list v10_cell ov10_refusals v10_tried v10_left v10_high v10_then v10_at v10_readSize) ro := by
  refine xm_of_i (own := RX10) (by decide) rfl rfl (Nat.le_of_ble_eq_true rfl) ?_
  intro p e s m args below meth c ls Q A hQ hAe hin Cx hsz hP hD hS hl
  have Cx1 := Cx
  obtain ⟨⟨hx, hb, hml, hown, hts⟩, hr, hlocks, hK, hA, hT⟩ := Cx1
  have hl : lv_has ls 3 [(0, .ref (a 28)), (1, .int x1)] := hl
  obtain ⟨H, eH⟩ : ∃ H, H = s.heap := ⟨_, rfl⟩
  obtain ⟨locs, eL⟩ : ∃ L : List Loc, L = [] := ⟨_, rfl⟩
  rw [← eH] at hP
  have hS : va_S A s.heap H locs := by rw [eH, eL]; exact hS
  suffices hgo : W p l e { frames := 2, cells := 0, slots := 0, locals := 43 } s m args below meth c H locs 0 0 Q (F0 m 0 ls []) by rw [eH, eL] at hgo; exact hgo
  clear eH eL
  unfold f_X10_clear at hf
  refine lv_iload_n hx hb dX10_clear_0 rfl (lv_at hl 1 rfl) ?_
  obtain ⟨r_15, hk_16, hf⟩ := pe_1 hf
  refine xw_z (As := [.int x1]) (rest := []) Cx hP hD hS hl (xq_none _) (c_X10_isSum l D cyI cyJ G H.size x1 r_15 hk_16) pk_X10_isSum mw_5_152 ⟨rfl, rfl, Nat.le_of_ble_eq_true rfl, Nat.le_of_ble_eq_true rfl⟩ rfl rfl (Nat.le_of_ble_eq_true rfl) ⟨Nat.le_of_ble_eq_true rfl, Nat.le_of_ble_eq_true rfl⟩ dX10_clear_1 (fun H locs hn_17 hP hD hS => ?_)
  refine lv_if_ne (tgt := 13) hx hb dX10_clear_4 (by decide) (fun hc_18 => ?_) (fun hc_18 => ?_)
  · have hf := pe_f hf hc_18
    refine lv_aload_n hx hb dX10_clear_13 rfl (lv_at hl 0 rfl) ?_
    obtain ⟨v10_undone_19, v10_wasSum_20, v10_wasCoefficient_21, hk_22, hf⟩ := pe_3 hf
    refine xv_v (As := []) (rest := []) (q0 := 0) (ci := 10) Cx hP hD hS hl (pl_X10_X10 a cyI cyJ v10_firstOf v10_sizeOf v10_longOf v10_row v10_character v10_sum v10_coefficient v10_undone v10_wasSum v10_wasCoefficient v10_hasImage v10_letter v10_letters v10_list v10_cell v10_refusals v10_tried v10_left v10_high v10_then v10_at v10_readSize v10_firstOf v10_sizeOf v10_longOf v10_row v10_character v10_sum v10_coefficient v10_undone_19 v10_wasSum_20 v10_wasCoefficient_21 v10_hasImage v10_letter v10_letters v10_list v10_cell v10_refusals v10_tried v10_left v10_high v10_then v10_at v10_readSize) (c_X10_canBeUndone l D cyI cyJ G a H.size v10_firstOf v10_sizeOf v10_longOf v10_row v10_character v10_sum v10_coefficient v10_undone v10_wasSum v10_wasCoefficient v10_hasImage v10_letter v10_letters v10_list v10_cell v10_refusals v10_tried v10_left v10_high v10_then v10_at v10_readSize v10_undone_19 v10_wasSum_20 v10_wasCoefficient_21 hk_22) pk_X10_canBeUndone mw_5_177 ⟨rfl, rfl, Nat.le_of_ble_eq_true rfl, Nat.le_of_ble_eq_true rfl⟩ rfl rfl rfl rfl rfl (Nat.le_of_ble_eq_true rfl) ⟨Nat.le_of_ble_eq_true rfl, Nat.le_of_ble_eq_true rfl⟩ dX10_clear_14 (fun H locs hP hD hS => ?_)
    refine lv_aload_n hx hb dX10_clear_17 rfl (lv_at hl 0 rfl) ?_
    refine va_get (ci := 10) (v := .ref (a 34)) hx hb hts wX10_in hown hK hP 0 rfl rfl 5 (by decide) (hts _ mw_4_197) (fun _ h9 => h9) rfl dX10_clear_18 ?_
    refine lv_iload_n hx hb dX10_clear_21 rfl (lv_at hl 1 rfl) ?_
    obtain ⟨hi_23, hf⟩ := pe_in hf
    refine va_iald hx hb hK hP 6 0 rfl rfl hi_23 dX10_clear_22 ?_
    refine lv_istore_n (lv' := [(2, .int (v10_sum (Int32.toNatClampNeg x1))), (0, .ref (a 28)), (1, .int x1)]) hx hb dX10_clear_23 rfl hl (by decide) rfl (fun ls hl => ?_)
    refine lv_aload_n hx hb dX10_clear_24 rfl (lv_at hl 1 rfl) ?_
    refine va_get (ci := 10) (v := .ref (a 34)) hx hb hts wX10_in hown hK hP 0 rfl rfl 5 (by decide) (hts _ mw_4_197) (fun _ h9 => h9) rfl dX10_clear_25 ?_
    refine lv_iload_n hx hb dX10_clear_28 rfl (lv_at hl 2 rfl) ?_
    refine lv_iconst (v := (-1 : Int32)) hx hb dX10_clear_29 (by decide) ?_
    obtain ⟨hi_24, hf⟩ := pe_in hf
    refine va_iast hx hb hK hP hD hS 6 0 rfl rfl hi_24 dX10_clear_30 (fun H locs hP hD hS => ?_)
    have hP : va_P D xcl (wd_X10 a cyI cyJ v10_firstOf v10_sizeOf v10_longOf v10_row v10_character (upd v10_sum (Int32.toNatClampNeg x1) (-1 : Int32)) v10_coefficient v10_undone_19 v10_wasSum_20 v10_wasCoefficient_21 v10_hasImage v10_letter v10_letters v10_list v10_cell v10_refusals v10_tried v10_left v10_high v10_then v10_at v10_readSize) H := hP
    have hD : va_D A (wd_X10 a cyI cyJ v10_firstOf v10_sizeOf v10_longOf v10_row v10_character (upd v10_sum (Int32.toNatClampNeg x1) (-1 : Int32)) v10_coefficient v10_undone_19 v10_wasSum_20 v10_wasCoefficient_21 v10_hasImage v10_letter v10_letters v10_list v10_cell v10_refusals v10_tried v10_left v10_high v10_then v10_at v10_readSize) := hD
    refine lv_iload_n hx hb dX10_clear_31 rfl (lv_at hl 0 rfl) ?_
    refine lv_if_ge (tgt := 39) hx hb dX10_clear_32 (by decide) (fun hc_25 => ?_) (fun hc_25 => ?_)
    · have hf := pe_t hf hc_25
      refine lv_iconst (v := (1 : Int32)) hx hb dX10_clear_39 (by decide) ?_
      obtain ⟨rfl, rfl, rfl, rfl, rfl, rfl⟩ := po_6 hf
      rw [← hQ]; exact xe_iret Cx rfl hP hD hS dX10_clear_40
    · have hf := pe_f hf hc_25
      refine lv_iconst (v := (0 : Int32)) hx hb dX10_clear_35 (by decide) ?_
      refine lv_goto (tgt := 40) hx hb dX10_clear_36 (by decide) ?_
      obtain ⟨rfl, rfl, rfl, rfl, rfl, rfl⟩ := po_6 hf
      rw [← hQ]; exact xe_iret Cx rfl hP hD hS dX10_clear_40
  · have hf := pe_t hf hc_18
    refine lv_aload_n hx hb dX10_clear_7 rfl (lv_at hl 0 rfl) ?_
    refine lv_iconst (v := (-1 : Int32)) hx hb dX10_clear_8 (by decide) ?_
    obtain ⟨r_26, v10_refusals_27, hk_28, hf⟩ := pe_2 hf
    refine xv_i (As := [.int (-1 : Int32)]) (rest := []) (q0 := 0) (ci := 10) Cx hP hD hS hl (pl_X10_X10 a cyI cyJ v10_firstOf v10_sizeOf v10_longOf v10_row v10_character v10_sum v10_coefficient v10_undone v10_wasSum v10_wasCoefficient v10_hasImage v10_letter v10_letters v10_list v10_cell v10_refusals v10_tried v10_left v10_high v10_then v10_at v10_readSize v10_firstOf v10_sizeOf v10_longOf v10_row v10_character v10_sum v10_coefficient v10_undone v10_wasSum v10_wasCoefficient v10_hasImage v10_letter v10_letters v10_list v10_cell v10_refusals_27 v10_tried v10_left v10_high v10_then v10_at v10_readSize) (c_X10_refused l D cyI cyJ G a H.size v10_firstOf v10_sizeOf v10_longOf v10_row v10_character v10_sum v10_coefficient v10_undone v10_wasSum v10_wasCoefficient v10_hasImage v10_letter v10_letters v10_list v10_cell v10_refusals v10_tried v10_left v10_high v10_then v10_at v10_readSize (-1 : Int32) r_26 v10_refusals_27 hk_28) pk_X10_refused mw_5_29 ⟨rfl, rfl, Nat.le_of_ble_eq_true rfl, Nat.le_of_ble_eq_true rfl⟩ rfl rfl rfl rfl rfl (Nat.le_of_ble_eq_true rfl) ⟨Nat.le_of_ble_eq_true rfl, Nat.le_of_ble_eq_true rfl⟩ dX10_clear_9 (fun H locs hP hD hS => ?_)
    obtain ⟨rfl, rfl, rfl, rfl, rfl, rfl⟩ := po_6 hf
    rw [← hQ]; exact xe_iret Cx rfl hP hD hS dX10_clear_12
def gf_X10_sum_67 (K_67 : (Nat → Int32) → Int32 → Int32 → Option (Int32 × (Nat → Int32))) (v10_firstOf : Nat → Int32) (v10_sum : Nat → Int32) (v10_coefficient : Nat → Int32) (v10_refusals : Nat → Int32) (y1 : Int32) (y3 : Int32) : Option (Int32 × (Nat → Int32)) := p_in y1 4 (p_b1 (f_X10_manyOf v10_firstOf (v10_sum (Int32.toNatClampNeg y1))) (fun r_2 => if r_2 ≤ y3 then (some ((-9 : Int32), v10_refusals)) else (p_in (((22 : Int32) * y1) + y3) 88 (if (v10_coefficient (Int32.toNatClampNeg (((22 : Int32) * y1) + y3))) = 0 then (K_67 v10_refusals y1 (y3 + (1 : Int32))) else (p_in y1 4 (p_in (v10_sum (Int32.toNatClampNeg y1)) 10 (some (((v10_firstOf (Int32.toNatClampNeg (v10_sum (Int32.toNatClampNeg y1)))) + y3), v10_refusals))))))))
def f_X10_sum_67 (v10_firstOf : Nat → Int32) (v10_sum : Nat → Int32) (v10_coefficient : Nat → Int32) : Nat → (Nat → Int32) → Int32 → Int32 → Option (Int32 × (Nat → Int32))
  | 0 => fun _ _ _ => none
  | n + 1 => gf_X10_sum_67 (f_X10_sum_67 v10_firstOf v10_sum v10_coefficient n) v10_firstOf v10_sum v10_coefficient
def f_X10_sum (v10_firstOf : Nat → Int32) (v10_sum : Nat → Int32) (v10_coefficient : Nat → Int32) (v10_refusals : Nat → Int32) (x1 : Int32) (x2 : Int32) : Option (Int32 × (Nat → Int32)) := p_b1 (f_X10_isSum x1) (fun r_9 => if r_9 = 0 then (p_b2 (f_X10_refused v10_refusals (-1 : Int32)) (fun r_27 v10_refusals_28 => some (r_27, v10_refusals_28))) else (p_b1 (f_X10_in x2 (0 : Int32) (2 : Int32)) (fun r_13 => if r_13 = 0 then (p_b2 (f_X10_refused v10_refusals (-2 : Int32)) (fun r_24 v10_refusals_25 => some (r_24, v10_refusals_25))) else (p_in x1 4 (if 0 ≤ (v10_sum (Int32.toNatClampNeg x1)) then (if (2 : Int32) ≤ x2 then ((f_X10_sum_67 v10_firstOf v10_sum v10_coefficient 1000) v10_refusals x1 (0 : Int32)) else (if x2 = 0 then (p_in x1 4 (some ((v10_sum (Int32.toNatClampNeg x1)), v10_refusals))) else (p_b1 (f_X10_terms v10_firstOf v10_sum v10_coefficient x1) (fun r_21 => some (r_21, v10_refusals))))) else (some ((-11 : Int32), v10_refusals)))))))
set_option maxHeartbeats 4000000 in
set_option maxRecDepth 20000 in
theorem c_X10_sum (l : Launch) (D : va_G) (cyI cyJ : ClassId) (G a : Nat → Nat) (sz : Nat) (v10_firstOf : Nat → Int32) (v10_sizeOf : Nat → Int32) (v10_longOf : Nat → Int32) (v10_row : Nat → Int32) (v10_character : Nat → Int32) (v10_sum : Nat → Int32) (v10_coefficient : Nat → Int32) (v10_undone : Int32) (v10_wasSum : Nat → Int32) (v10_wasCoefficient : Nat → Int32) (v10_hasImage : Int32) (v10_letter : Nat → Int32) (v10_letters : Int32) (v10_list : Nat → Int32) (v10_cell : Nat → Int32) (v10_refusals : Nat → Int32) (v10_tried : Nat → Int32) (v10_left : Int32) (v10_high : Int32) (v10_then : Nat → Int64) (v10_at : Int32) (v10_readSize : Int32) (x1 : Int32) (x2 : Int32) (ro : Int32) (ov10_refusals : Nat → Int32) (hf : f_X10_sum v10_firstOf v10_sum v10_coefficient v10_refusals x1 x2 = some (ro, ov10_refusals)) : xm_i l yX10_sum (Cond.code yX10_sum cX10_sum 4 (some .int) :: xg_tbl) { frames := 2, cells := 0, slots := 0, locals := 44 } D xcl [(cyI, .int), (cyJ, .long)] G sz [.ref (a 28), .int x1, .int x2] (wd_X10 a cyI cyJ v10_firstOf v10_sizeOf v10_longOf v10_row v10_character v10_sum v10_coefficient v10_undone v10_wasSum v10_wasCoefficient v10_hasImage v10_letter v10_letters v10_list v10_cell v10_refusals v10_tried v10_left v10_high v10_then v10_at v10_readSize) (wd_X10 a cyI cyJ v10_firstOf v10_sizeOf v10_longOf v10_row v10_character v10_sum v10_coefficient v10_undone v10_wasSum v10_wasCoefficient v10_hasImage v10_letter v10_letters v10_list v10_cell ov10_refusals v10_tried v10_left v10_high v10_then v10_at v10_readSize) ro := by
  refine xm_of_i (own := RX10) (by decide) rfl rfl (Nat.le_of_ble_eq_true rfl) ?_
  intro p e s m args below meth c ls Q A hQ hAe hin Cx hsz hP hD hS hl
  have Cx1 := Cx
  obtain ⟨⟨hx, hb, hml, hown, hts⟩, hr, hlocks, hK, hA, hT⟩ := Cx1
  have hl : lv_has ls 4 [(0, .ref (a 28)), (1, .int x1), (2, .int x2)] := hl
  obtain ⟨H, eH⟩ : ∃ H, H = s.heap := ⟨_, rfl⟩
  obtain ⟨locs, eL⟩ : ∃ L : List Loc, L = [] := ⟨_, rfl⟩
  rw [← eH] at hP
  have hS : va_S A s.heap H locs := by rw [eH, eL]; exact hS
  suffices hgo : W p l e { frames := 2, cells := 0, slots := 0, locals := 44 } s m args below meth c H locs 0 0 Q (F0 m 0 ls []) by rw [eH, eL] at hgo; exact hgo
  clear eH eL
  unfold f_X10_sum at hf
  have w_67 : ∀ (n_67 : Nat) (v10_refusals : Nat → Int32) (y1 : Int32) (y3 : Int32) (H : Heap) (locs : List Loc) (ls : Array Slot), (f_X10_sum_67 v10_firstOf v10_sum v10_coefficient) n_67 v10_refusals y1 y3 = some (ro, ov10_refusals) → va_P D xcl (wd_X10 a cyI cyJ v10_firstOf v10_sizeOf v10_longOf v10_row v10_character v10_sum v10_coefficient v10_undone v10_wasSum v10_wasCoefficient v10_hasImage v10_letter v10_letters v10_list v10_cell v10_refusals v10_tried v10_left v10_high v10_then v10_at v10_readSize) H → va_D A (wd_X10 a cyI cyJ v10_firstOf v10_sizeOf v10_longOf v10_row v10_character v10_sum v10_coefficient v10_undone v10_wasSum v10_wasCoefficient v10_hasImage v10_letter v10_letters v10_list v10_cell v10_refusals v10_tried v10_left v10_high v10_then v10_at v10_readSize) → va_S A s.heap H locs → lv_has ls 4 [(0, .ref (a 28)), (1, .int y1), (3, .int y3)] → W p l e { frames := 2, cells := 0, slots := 0, locals := 44 } s m args below meth c H locs 0 0 Q (F0 m 67 ls []) := by
    intro n_67
    induction n_67 with
    | zero => intro v10_refusals y1 y3 H locs ls hf; exact absurd hf (by intro h9; cases h9)
    | succ n_67 w_67 =>
      intro v10_refusals y1 y3 H locs ls hf hP hD hS hl
      have hf : gf_X10_sum_67 ((f_X10_sum_67 v10_firstOf v10_sum v10_coefficient) n_67) v10_firstOf v10_sum v10_coefficient v10_refusals y1 y3 = some (ro, ov10_refusals) := hf
      unfold gf_X10_sum_67 at hf
      refine lv_iload_n hx hb dX10_sum_67 rfl (lv_at hl 2 rfl) ?_
      refine lv_aload_n hx hb dX10_sum_68 rfl (lv_at hl 0 rfl) ?_
      refine lv_aload_n hx hb dX10_sum_69 rfl (lv_at hl 0 rfl) ?_
      refine va_get (ci := 10) (v := .ref (a 34)) hx hb hts wX10_in hown hK hP 0 rfl rfl 5 (by decide) (hts _ mw_4_197) (fun _ h9 => h9) rfl dX10_sum_70 ?_
      refine lv_iload_n hx hb dX10_sum_73 rfl (lv_at hl 1 rfl) ?_
      obtain ⟨hi_30, hf⟩ := pe_in hf
      refine va_iald hx hb hK hP 6 0 rfl rfl hi_30 dX10_sum_74 ?_
      obtain ⟨r_31, hk_32, hf⟩ := pe_1 hf
      refine xv_i (As := [.int (v10_sum (Int32.toNatClampNeg y1))]) (rest := [.int y3]) (q0 := 0) (ci := 10) Cx hP hD hS hl (pl_X10_X10 a cyI cyJ v10_firstOf v10_sizeOf v10_longOf v10_row v10_character v10_sum v10_coefficient v10_undone v10_wasSum v10_wasCoefficient v10_hasImage v10_letter v10_letters v10_list v10_cell v10_refusals v10_tried v10_left v10_high v10_then v10_at v10_readSize v10_firstOf v10_sizeOf v10_longOf v10_row v10_character v10_sum v10_coefficient v10_undone v10_wasSum v10_wasCoefficient v10_hasImage v10_letter v10_letters v10_list v10_cell v10_refusals v10_tried v10_left v10_high v10_then v10_at v10_readSize) (c_X10_manyOf l D cyI cyJ G a H.size v10_firstOf v10_sizeOf v10_longOf v10_row v10_character v10_sum v10_coefficient v10_undone v10_wasSum v10_wasCoefficient v10_hasImage v10_letter v10_letters v10_list v10_cell v10_refusals v10_tried v10_left v10_high v10_then v10_at v10_readSize (v10_sum (Int32.toNatClampNeg y1)) r_31 hk_32) pk_X10_manyOf mw_5_63 ⟨rfl, rfl, Nat.le_of_ble_eq_true rfl, Nat.le_of_ble_eq_true rfl⟩ rfl rfl rfl rfl rfl (Nat.le_of_ble_eq_true rfl) ⟨Nat.le_of_ble_eq_true rfl, Nat.le_of_ble_eq_true rfl⟩ dX10_sum_75 (fun H locs hP hD hS => ?_)
      refine lv_icmp_ge (tgt := 115) hx hb dX10_sum_78 (by decide) (fun hc_33 => ?_) (fun hc_33 => ?_)
      · have hf := pe_t hf hc_33
        refine lv_bipush (v := (-9 : Int32)) hx hb dX10_sum_115 (by decide) ?_
        obtain ⟨rfl, rfl⟩ := po_2 hf
        rw [← hQ]; exact xe_iret Cx rfl hP hD hS dX10_sum_117
      · have hf := pe_f hf hc_33
        refine lv_aload_n hx hb dX10_sum_81 rfl (lv_at hl 0 rfl) ?_
        refine va_get (ci := 10) (v := .ref (a 35)) hx hb hts wX10_in hown hK hP 0 rfl rfl 6 (by decide) (hts _ mw_4_198) (fun _ h9 => h9) rfl dX10_sum_82 ?_
        refine lv_bipush (v := (22 : Int32)) hx hb dX10_sum_85 (by decide) ?_
        refine lv_iload_n hx hb dX10_sum_87 rfl (lv_at hl 1 rfl) ?_
        refine lv_imul hx hb dX10_sum_88 ?_
        refine lv_iload_n hx hb dX10_sum_89 rfl (lv_at hl 2 rfl) ?_
        refine lv_iadd hx hb dX10_sum_90 ?_
        obtain ⟨hi_34, hf⟩ := pe_in hf
        refine va_iald hx hb hK hP 7 0 rfl rfl hi_34 dX10_sum_91 ?_
        refine lv_if_eq (tgt := 109) hx hb dX10_sum_92 (by decide) (fun hc_35 => ?_) (fun hc_35 => ?_)
        · have hf := pe_t hf hc_35
          refine lv_iinc (v := (y3 + (1 : Int32))) (lv' := [(3, .int (y3 + (1 : Int32))), (0, .ref (a 28)), (1, .int y1)]) hx hb dX10_sum_109 hl (k := 2) rfl rfl (by decide) rfl (fun ls hl => ?_)
          refine lv_goto (tgt := 67) hx hb dX10_sum_112 (by decide) ?_
          exact w_67 v10_refusals y1 (y3 + (1 : Int32)) H locs ls hf hP hD hS (lv_sub hl [1, 2, 0] rfl)
        · have hf := pe_f hf hc_35
          refine lv_aload_n hx hb dX10_sum_95 rfl (lv_at hl 0 rfl) ?_
          refine va_get (ci := 10) (v := .ref (a 29)) hx hb hts wX10_in hown hK hP 0 rfl rfl 0 (by decide) (hts _ mw_4_192) (fun _ h9 => h9) rfl dX10_sum_96 ?_
          refine lv_aload_n hx hb dX10_sum_99 rfl (lv_at hl 0 rfl) ?_
          refine va_get (ci := 10) (v := .ref (a 34)) hx hb hts wX10_in hown hK hP 0 rfl rfl 5 (by decide) (hts _ mw_4_197) (fun _ h9 => h9) rfl dX10_sum_100 ?_
          refine lv_iload_n hx hb dX10_sum_103 rfl (lv_at hl 1 rfl) ?_
          obtain ⟨hi_36, hf⟩ := pe_in hf
          refine va_iald hx hb hK hP 6 0 rfl rfl hi_36 dX10_sum_104 ?_
          obtain ⟨hi_37, hf⟩ := pe_in hf
          refine va_iald hx hb hK hP 1 0 rfl rfl hi_37 dX10_sum_105 ?_
          refine lv_iload_n hx hb dX10_sum_106 rfl (lv_at hl 2 rfl) ?_
          refine lv_iadd hx hb dX10_sum_107 ?_
          obtain ⟨rfl, rfl⟩ := po_2 hf
          rw [← hQ]; exact xe_iret Cx rfl hP hD hS dX10_sum_108
  refine lv_iload_n hx hb dX10_sum_0 rfl (lv_at hl 1 rfl) ?_
  obtain ⟨r_38, hk_39, hf⟩ := pe_1 hf
  refine xw_z (As := [.int x1]) (rest := []) Cx hP hD hS hl (xq_none _) (c_X10_isSum l D cyI cyJ G H.size x1 r_38 hk_39) pk_X10_isSum mw_5_152 ⟨rfl, rfl, Nat.le_of_ble_eq_true rfl, Nat.le_of_ble_eq_true rfl⟩ rfl rfl (Nat.le_of_ble_eq_true rfl) ⟨Nat.le_of_ble_eq_true rfl, Nat.le_of_ble_eq_true rfl⟩ dX10_sum_1 (fun H locs hn_40 hP hD hS => ?_)
  refine lv_if_ne (tgt := 13) hx hb dX10_sum_4 (by decide) (fun hc_41 => ?_) (fun hc_41 => ?_)
  · have hf := pe_f hf hc_41
    refine lv_iload_n hx hb dX10_sum_13 rfl (lv_at hl 2 rfl) ?_
    refine lv_iconst (v := (0 : Int32)) hx hb dX10_sum_14 (by decide) ?_
    refine lv_iconst (v := (2 : Int32)) hx hb dX10_sum_15 (by decide) ?_
    obtain ⟨r_42, hk_43, hf⟩ := pe_1 hf
    refine xw_z (As := [.int x2, .int (0 : Int32), .int (2 : Int32)]) (rest := []) Cx hP hD hS hl (xq_none _) (c_X10_in l D cyI cyJ G H.size x2 (0 : Int32) (2 : Int32) r_42 hk_43) pk_X10_in mw_5_26 ⟨rfl, rfl, Nat.le_of_ble_eq_true rfl, Nat.le_of_ble_eq_true rfl⟩ rfl rfl (Nat.le_of_ble_eq_true rfl) ⟨Nat.le_of_ble_eq_true rfl, Nat.le_of_ble_eq_true rfl⟩ dX10_sum_16 (fun H locs hn_44 hP hD hS => ?_)
    refine lv_if_ne (tgt := 29) hx hb dX10_sum_19 (by decide) (fun hc_45 => ?_) (fun hc_45 => ?_)
    · have hf := pe_f hf hc_45
      refine lv_aload_n hx hb dX10_sum_29 rfl (lv_at hl 0 rfl) ?_
      refine va_get (ci := 10) (v := .ref (a 34)) hx hb hts wX10_in hown hK hP 0 rfl rfl 5 (by decide) (hts _ mw_4_197) (fun _ h9 => h9) rfl dX10_sum_30 ?_
      refine lv_iload_n hx hb dX10_sum_33 rfl (lv_at hl 1 rfl) ?_
      obtain ⟨hi_46, hf⟩ := pe_in hf
      refine va_iald hx hb hK hP 6 0 rfl rfl hi_46 dX10_sum_34 ?_
      refine lv_if_ge (tgt := 41) hx hb dX10_sum_35 (by decide) (fun hc_47 => ?_) (fun hc_47 => ?_)
      · have hf := pe_t hf hc_47
        refine lv_iload_n hx hb dX10_sum_41 rfl (lv_at hl 2 rfl) ?_
        refine lv_iconst (v := (2 : Int32)) hx hb dX10_sum_42 (by decide) ?_
        refine lv_icmp_ge (tgt := 65) hx hb dX10_sum_43 (by decide) (fun hc_48 => ?_) (fun hc_48 => ?_)
        · have hf := pe_t hf hc_48
          refine lv_iconst (v := (0 : Int32)) hx hb dX10_sum_65 (by decide) ?_
          refine lv_istore_n (lv' := [(3, .int (0 : Int32)), (0, .ref (a 28)), (1, .int x1), (2, .int x2)]) hx hb dX10_sum_66 rfl hl (by decide) rfl (fun ls hl => ?_)
          exact w_67 1000 v10_refusals x1 (0 : Int32) H locs ls hf hP hD hS (lv_sub hl [1, 2, 0] rfl)
        · have hf := pe_f hf hc_48
          refine lv_iload_n hx hb dX10_sum_46 rfl (lv_at hl 2 rfl) ?_
          refine lv_if_ne (tgt := 59) hx hb dX10_sum_47 (by decide) (fun hc_49 => ?_) (fun hc_49 => ?_)
          · have hf := pe_f hf hc_49
            refine lv_aload_n hx hb dX10_sum_59 rfl (lv_at hl 0 rfl) ?_
            refine lv_iload_n hx hb dX10_sum_60 rfl (lv_at hl 1 rfl) ?_
            obtain ⟨r_50, hk_51, hf⟩ := pe_1 hf
            refine xv_i (As := [.int x1]) (rest := []) (q0 := 0) (ci := 10) Cx hP hD hS hl (pl_X10_X10 a cyI cyJ v10_firstOf v10_sizeOf v10_longOf v10_row v10_character v10_sum v10_coefficient v10_undone v10_wasSum v10_wasCoefficient v10_hasImage v10_letter v10_letters v10_list v10_cell v10_refusals v10_tried v10_left v10_high v10_then v10_at v10_readSize v10_firstOf v10_sizeOf v10_longOf v10_row v10_character v10_sum v10_coefficient v10_undone v10_wasSum v10_wasCoefficient v10_hasImage v10_letter v10_letters v10_list v10_cell v10_refusals v10_tried v10_left v10_high v10_then v10_at v10_readSize) (c_X10_terms l D cyI cyJ G a H.size v10_firstOf v10_sizeOf v10_longOf v10_row v10_character v10_sum v10_coefficient v10_undone v10_wasSum v10_wasCoefficient v10_hasImage v10_letter v10_letters v10_list v10_cell v10_refusals v10_tried v10_left v10_high v10_then v10_at v10_readSize x1 r_50 hk_51) pk_X10_terms mw_5_185 ⟨rfl, rfl, Nat.le_of_ble_eq_true rfl, Nat.le_of_ble_eq_true rfl⟩ rfl rfl rfl rfl rfl (Nat.le_of_ble_eq_true rfl) ⟨Nat.le_of_ble_eq_true rfl, Nat.le_of_ble_eq_true rfl⟩ dX10_sum_61 (fun H locs hP hD hS => ?_)
            obtain ⟨rfl, rfl⟩ := po_2 hf
            rw [← hQ]; exact xe_iret Cx rfl hP hD hS dX10_sum_64
          · have hf := pe_t hf hc_49
            refine lv_aload_n hx hb dX10_sum_50 rfl (lv_at hl 0 rfl) ?_
            refine va_get (ci := 10) (v := .ref (a 34)) hx hb hts wX10_in hown hK hP 0 rfl rfl 5 (by decide) (hts _ mw_4_197) (fun _ h9 => h9) rfl dX10_sum_51 ?_
            refine lv_iload_n hx hb dX10_sum_54 rfl (lv_at hl 1 rfl) ?_
            obtain ⟨hi_52, hf⟩ := pe_in hf
            refine va_iald hx hb hK hP 6 0 rfl rfl hi_52 dX10_sum_55 ?_
            refine lv_goto (tgt := 64) hx hb dX10_sum_56 (by decide) ?_
            obtain ⟨rfl, rfl⟩ := po_2 hf
            rw [← hQ]; exact xe_iret Cx rfl hP hD hS dX10_sum_64
      · have hf := pe_f hf hc_47
        refine lv_bipush (v := (-11 : Int32)) hx hb dX10_sum_38 (by decide) ?_
        obtain ⟨rfl, rfl⟩ := po_2 hf
        rw [← hQ]; exact xe_iret Cx rfl hP hD hS dX10_sum_40
    · have hf := pe_t hf hc_45
      refine lv_aload_n hx hb dX10_sum_22 rfl (lv_at hl 0 rfl) ?_
      refine lv_bipush (v := (-2 : Int32)) hx hb dX10_sum_23 (by decide) ?_
      obtain ⟨r_53, v10_refusals_54, hk_55, hf⟩ := pe_2 hf
      refine xv_i (As := [.int (-2 : Int32)]) (rest := []) (q0 := 0) (ci := 10) Cx hP hD hS hl (pl_X10_X10 a cyI cyJ v10_firstOf v10_sizeOf v10_longOf v10_row v10_character v10_sum v10_coefficient v10_undone v10_wasSum v10_wasCoefficient v10_hasImage v10_letter v10_letters v10_list v10_cell v10_refusals v10_tried v10_left v10_high v10_then v10_at v10_readSize v10_firstOf v10_sizeOf v10_longOf v10_row v10_character v10_sum v10_coefficient v10_undone v10_wasSum v10_wasCoefficient v10_hasImage v10_letter v10_letters v10_list v10_cell v10_refusals_54 v10_tried v10_left v10_high v10_then v10_at v10_readSize) (c_X10_refused l D cyI cyJ G a H.size v10_firstOf v10_sizeOf v10_longOf v10_row v10_character v10_sum v10_coefficient v10_undone v10_wasSum v10_wasCoefficient v10_hasImage v10_letter v10_letters v10_list v10_cell v10_refusals v10_tried v10_left v10_high v10_then v10_at v10_readSize (-2 : Int32) r_53 v10_refusals_54 hk_55) pk_X10_refused mw_5_29 ⟨rfl, rfl, Nat.le_of_ble_eq_true rfl, Nat.le_of_ble_eq_true rfl⟩ rfl rfl rfl rfl rfl (Nat.le_of_ble_eq_true rfl) ⟨Nat.le_of_ble_eq_true rfl, Nat.le_of_ble_eq_true rfl⟩ dX10_sum_25 (fun H locs hP hD hS => ?_)
      obtain ⟨rfl, rfl⟩ := po_2 hf
      rw [← hQ]; exact xe_iret Cx rfl hP hD hS dX10_sum_28
  · have hf := pe_t hf hc_41
    refine lv_aload_n hx hb dX10_sum_7 rfl (lv_at hl 0 rfl) ?_
    refine lv_iconst (v := (-1 : Int32)) hx hb dX10_sum_8 (by decide) ?_
    obtain ⟨r_56, v10_refusals_57, hk_58, hf⟩ := pe_2 hf
    refine xv_i (As := [.int (-1 : Int32)]) (rest := []) (q0 := 0) (ci := 10) Cx hP hD hS hl (pl_X10_X10 a cyI cyJ v10_firstOf v10_sizeOf v10_longOf v10_row v10_character v10_sum v10_coefficient v10_undone v10_wasSum v10_wasCoefficient v10_hasImage v10_letter v10_letters v10_list v10_cell v10_refusals v10_tried v10_left v10_high v10_then v10_at v10_readSize v10_firstOf v10_sizeOf v10_longOf v10_row v10_character v10_sum v10_coefficient v10_undone v10_wasSum v10_wasCoefficient v10_hasImage v10_letter v10_letters v10_list v10_cell v10_refusals_57 v10_tried v10_left v10_high v10_then v10_at v10_readSize) (c_X10_refused l D cyI cyJ G a H.size v10_firstOf v10_sizeOf v10_longOf v10_row v10_character v10_sum v10_coefficient v10_undone v10_wasSum v10_wasCoefficient v10_hasImage v10_letter v10_letters v10_list v10_cell v10_refusals v10_tried v10_left v10_high v10_then v10_at v10_readSize (-1 : Int32) r_56 v10_refusals_57 hk_58) pk_X10_refused mw_5_29 ⟨rfl, rfl, Nat.le_of_ble_eq_true rfl, Nat.le_of_ble_eq_true rfl⟩ rfl rfl rfl rfl rfl (Nat.le_of_ble_eq_true rfl) ⟨Nat.le_of_ble_eq_true rfl, Nat.le_of_ble_eq_true rfl⟩ dX10_sum_9 (fun H locs hP hD hS => ?_)
    obtain ⟨rfl, rfl⟩ := po_2 hf
    rw [← hQ]; exact xe_iret Cx rfl hP hD hS dX10_sum_12
def f_X10_coefficientOf (v10_firstOf : Nat → Int32) (v10_sizeOf : Nat → Int32) (v10_sum : Nat → Int32) (v10_coefficient : Nat → Int32) (x1 : Int32) (x2 : Int32) : Option (Int32) := p_in x2 67 (p_in x1 4 (if (v10_sizeOf (Int32.toNatClampNeg x2)) = (v10_sum (Int32.toNatClampNeg x1)) then (p_in x1 4 (p_in (v10_sum (Int32.toNatClampNeg x1)) 10 (p_in ((((22 : Int32) * x1) + x2) - (v10_firstOf (Int32.toNatClampNeg (v10_sum (Int32.toNatClampNeg x1))))) 88 (some ((v10_coefficient (Int32.toNatClampNeg ((((22 : Int32) * x1) + x2) - (v10_firstOf (Int32.toNatClampNeg (v10_sum (Int32.toNatClampNeg x1)))))))))))) else (some ((0 : Int32)))))
set_option maxHeartbeats 4000000 in
set_option maxRecDepth 20000 in
theorem c_X10_coefficientOf (l : Launch) (D : va_G) (cyI cyJ : ClassId) (G a : Nat → Nat) (sz : Nat) (v10_firstOf : Nat → Int32) (v10_sizeOf : Nat → Int32) (v10_longOf : Nat → Int32) (v10_row : Nat → Int32) (v10_character : Nat → Int32) (v10_sum : Nat → Int32) (v10_coefficient : Nat → Int32) (v10_undone : Int32) (v10_wasSum : Nat → Int32) (v10_wasCoefficient : Nat → Int32) (v10_hasImage : Int32) (v10_letter : Nat → Int32) (v10_letters : Int32) (v10_list : Nat → Int32) (v10_cell : Nat → Int32) (v10_refusals : Nat → Int32) (v10_tried : Nat → Int32) (v10_left : Int32) (v10_high : Int32) (v10_then : Nat → Int64) (v10_at : Int32) (v10_readSize : Int32) (x1 : Int32) (x2 : Int32) (ro : Int32) (hf : f_X10_coefficientOf v10_firstOf v10_sizeOf v10_sum v10_coefficient x1 x2 = some ro) : xm_i l yX10_coefficientOf (Cond.code yX10_coefficientOf cX10_coefficientOf 3 (some .int) :: xg_tbl) { frames := 0, cells := 0, slots := 0, locals := 0 } D xcl [(cyI, .int), (cyJ, .long)] G sz [.ref (a 28), .int x1, .int x2] (wd_X10 a cyI cyJ v10_firstOf v10_sizeOf v10_longOf v10_row v10_character v10_sum v10_coefficient v10_undone v10_wasSum v10_wasCoefficient v10_hasImage v10_letter v10_letters v10_list v10_cell v10_refusals v10_tried v10_left v10_high v10_then v10_at v10_readSize) (wd_X10 a cyI cyJ v10_firstOf v10_sizeOf v10_longOf v10_row v10_character v10_sum v10_coefficient v10_undone v10_wasSum v10_wasCoefficient v10_hasImage v10_letter v10_letters v10_list v10_cell v10_refusals v10_tried v10_left v10_high v10_then v10_at v10_readSize) ro := by
  refine xm_of_i (own := RX10) (by decide) rfl rfl (Nat.le_of_ble_eq_true rfl) ?_
  intro p e s m args below meth c ls Q A hQ hAe hin Cx hsz hP hD hS hl
  have Cx1 := Cx
  obtain ⟨⟨hx, hb, hml, hown, hts⟩, hr, hlocks, hK, hA, hT⟩ := Cx1
  have hl : lv_has ls 3 [(0, .ref (a 28)), (1, .int x1), (2, .int x2)] := hl
  obtain ⟨H, eH⟩ : ∃ H, H = s.heap := ⟨_, rfl⟩
  obtain ⟨locs, eL⟩ : ∃ L : List Loc, L = [] := ⟨_, rfl⟩
  rw [← eH] at hP
  have hS : va_S A s.heap H locs := by rw [eH, eL]; exact hS
  suffices hgo : W p l e { frames := 0, cells := 0, slots := 0, locals := 0 } s m args below meth c H locs 0 0 Q (F0 m 0 ls []) by rw [eH, eL] at hgo; exact hgo
  clear eH eL
  unfold f_X10_coefficientOf at hf
  refine lv_aload_n hx hb dX10_coefficientOf_0 rfl (lv_at hl 0 rfl) ?_
  refine va_get (ci := 10) (v := .ref (a 30)) hx hb hts wX10_in hown hK hP 0 rfl rfl 1 (by decide) (hts _ mw_4_193) (fun _ h9 => h9) rfl dX10_coefficientOf_1 ?_
  refine lv_iload_n hx hb dX10_coefficientOf_4 rfl (lv_at hl 2 rfl) ?_
  obtain ⟨hi_7, hf⟩ := pe_in hf
  refine va_iald hx hb hK hP 2 0 rfl rfl hi_7 dX10_coefficientOf_5 ?_
  refine lv_aload_n hx hb dX10_coefficientOf_6 rfl (lv_at hl 0 rfl) ?_
  refine va_get (ci := 10) (v := .ref (a 34)) hx hb hts wX10_in hown hK hP 0 rfl rfl 5 (by decide) (hts _ mw_4_197) (fun _ h9 => h9) rfl dX10_coefficientOf_7 ?_
  refine lv_iload_n hx hb dX10_coefficientOf_10 rfl (lv_at hl 1 rfl) ?_
  obtain ⟨hi_8, hf⟩ := pe_in hf
  refine va_iald hx hb hK hP 6 0 rfl rfl hi_8 dX10_coefficientOf_11 ?_
  refine lv_icmp_ne (tgt := 41) hx hb dX10_coefficientOf_12 (by decide) (fun hc_9 => ?_) (fun hc_9 => ?_)
  · have hf := pe_f hf hc_9
    refine lv_iconst (v := (0 : Int32)) hx hb dX10_coefficientOf_41 (by decide) ?_
    obtain rfl := po_1 hf
    rw [← hQ]; exact xe_iret Cx rfl hP hD hS dX10_coefficientOf_42
  · have hf := pe_t hf hc_9
    refine lv_aload_n hx hb dX10_coefficientOf_15 rfl (lv_at hl 0 rfl) ?_
    refine va_get (ci := 10) (v := .ref (a 35)) hx hb hts wX10_in hown hK hP 0 rfl rfl 6 (by decide) (hts _ mw_4_198) (fun _ h9 => h9) rfl dX10_coefficientOf_16 ?_
    refine lv_bipush (v := (22 : Int32)) hx hb dX10_coefficientOf_19 (by decide) ?_
    refine lv_iload_n hx hb dX10_coefficientOf_21 rfl (lv_at hl 1 rfl) ?_
    refine lv_imul hx hb dX10_coefficientOf_22 ?_
    refine lv_iload_n hx hb dX10_coefficientOf_23 rfl (lv_at hl 2 rfl) ?_
    refine lv_iadd hx hb dX10_coefficientOf_24 ?_
    refine lv_aload_n hx hb dX10_coefficientOf_25 rfl (lv_at hl 0 rfl) ?_
    refine va_get (ci := 10) (v := .ref (a 29)) hx hb hts wX10_in hown hK hP 0 rfl rfl 0 (by decide) (hts _ mw_4_192) (fun _ h9 => h9) rfl dX10_coefficientOf_26 ?_
    refine lv_aload_n hx hb dX10_coefficientOf_29 rfl (lv_at hl 0 rfl) ?_
    refine va_get (ci := 10) (v := .ref (a 34)) hx hb hts wX10_in hown hK hP 0 rfl rfl 5 (by decide) (hts _ mw_4_197) (fun _ h9 => h9) rfl dX10_coefficientOf_30 ?_
    refine lv_iload_n hx hb dX10_coefficientOf_33 rfl (lv_at hl 1 rfl) ?_
    obtain ⟨hi_10, hf⟩ := pe_in hf
    refine va_iald hx hb hK hP 6 0 rfl rfl hi_10 dX10_coefficientOf_34 ?_
    obtain ⟨hi_11, hf⟩ := pe_in hf
    refine va_iald hx hb hK hP 1 0 rfl rfl hi_11 dX10_coefficientOf_35 ?_
    refine lv_isub hx hb dX10_coefficientOf_36 ?_
    obtain ⟨hi_12, hf⟩ := pe_in hf
    refine va_iald hx hb hK hP 7 0 rfl rfl hi_12 dX10_coefficientOf_37 ?_
    refine lv_goto (tgt := 42) hx hb dX10_coefficientOf_38 (by decide) ?_
    obtain rfl := po_1 hf
    rw [← hQ]; exact xe_iret Cx rfl hP hD hS dX10_coefficientOf_42
def f_X10_coefficient_14 (v10_firstOf : Nat → Int32) (v10_sizeOf : Nat → Int32) (v10_sum : Nat → Int32) (v10_coefficient : Nat → Int32) (v10_refusals : Nat → Int32) : Option (Int32 × (Nat → Int32)) := p_b2 (f_X10_far v10_refusals (-1 : Int32)) (fun r_1 v10_refusals_2 => some (r_1, v10_refusals_2))
def f_X10_coefficient (v10_firstOf : Nat → Int32) (v10_sizeOf : Nat → Int32) (v10_sum : Nat → Int32) (v10_coefficient : Nat → Int32) (v10_refusals : Nat → Int32) (x1 : Int32) (x2 : Int32) : Option (Int32 × (Nat → Int32)) := p_b1 (f_X10_isSum x1) (fun r_4 => if r_4 = 0 then ((f_X10_coefficient_14 v10_firstOf v10_sizeOf v10_sum v10_coefficient) v10_refusals) else (p_b1 (f_X10_isShape x2) (fun r_8 => if r_8 = 0 then ((f_X10_coefficient_14 v10_firstOf v10_sizeOf v10_sum v10_coefficient) v10_refusals) else (p_in x1 4 (if 0 ≤ (v10_sum (Int32.toNatClampNeg x1)) then (p_b1 (f_X10_coefficientOf v10_firstOf v10_sizeOf v10_sum v10_coefficient x1 x2) (fun r_14 => some (r_14, v10_refusals))) else (some ((1000000011 : Int32), v10_refusals)))))))
set_option maxHeartbeats 4000000 in
set_option maxRecDepth 20000 in
theorem c_X10_coefficient (l : Launch) (D : va_G) (cyI cyJ : ClassId) (G a : Nat → Nat) (sz : Nat) (v10_firstOf : Nat → Int32) (v10_sizeOf : Nat → Int32) (v10_longOf : Nat → Int32) (v10_row : Nat → Int32) (v10_character : Nat → Int32) (v10_sum : Nat → Int32) (v10_coefficient : Nat → Int32) (v10_undone : Int32) (v10_wasSum : Nat → Int32) (v10_wasCoefficient : Nat → Int32) (v10_hasImage : Int32) (v10_letter : Nat → Int32) (v10_letters : Int32) (v10_list : Nat → Int32) (v10_cell : Nat → Int32) (v10_refusals : Nat → Int32) (v10_tried : Nat → Int32) (v10_left : Int32) (v10_high : Int32) (v10_then : Nat → Int64) (v10_at : Int32) (v10_readSize : Int32) (x1 : Int32) (x2 : Int32) (ro : Int32) (ov10_refusals : Nat → Int32) (hf : f_X10_coefficient v10_firstOf v10_sizeOf v10_sum v10_coefficient v10_refusals x1 x2 = some (ro, ov10_refusals)) : xm_i l yX10_coefficient (Cond.code yX10_coefficient cX10_coefficient 3 (some .int) :: xg_tbl) { frames := 2, cells := 0, slots := 0, locals := 42 } D xcl [(cyI, .int), (cyJ, .long)] G sz [.ref (a 28), .int x1, .int x2] (wd_X10 a cyI cyJ v10_firstOf v10_sizeOf v10_longOf v10_row v10_character v10_sum v10_coefficient v10_undone v10_wasSum v10_wasCoefficient v10_hasImage v10_letter v10_letters v10_list v10_cell v10_refusals v10_tried v10_left v10_high v10_then v10_at v10_readSize) (wd_X10 a cyI cyJ v10_firstOf v10_sizeOf v10_longOf v10_row v10_character v10_sum v10_coefficient v10_undone v10_wasSum v10_wasCoefficient v10_hasImage v10_letter v10_letters v10_list v10_cell ov10_refusals v10_tried v10_left v10_high v10_then v10_at v10_readSize) ro := by
  refine xm_of_i (own := RX10) (by decide) rfl rfl (Nat.le_of_ble_eq_true rfl) ?_
  intro p e s m args below meth c ls Q A hQ hAe hin Cx hsz hP hD hS hl
  have Cx1 := Cx
  obtain ⟨⟨hx, hb, hml, hown, hts⟩, hr, hlocks, hK, hA, hT⟩ := Cx1
  have hl : lv_has ls 3 [(0, .ref (a 28)), (1, .int x1), (2, .int x2)] := hl
  obtain ⟨H, eH⟩ : ∃ H, H = s.heap := ⟨_, rfl⟩
  obtain ⟨locs, eL⟩ : ∃ L : List Loc, L = [] := ⟨_, rfl⟩
  rw [← eH] at hP
  have hS : va_S A s.heap H locs := by rw [eH, eL]; exact hS
  suffices hgo : W p l e { frames := 2, cells := 0, slots := 0, locals := 42 } s m args below meth c H locs 0 0 Q (F0 m 0 ls []) by rw [eH, eL] at hgo; exact hgo
  clear eH eL
  unfold f_X10_coefficient at hf
  have w_14 : ∀ (v10_refusals : Nat → Int32) (H : Heap) (locs : List Loc) (ls : Array Slot), (f_X10_coefficient_14 v10_firstOf v10_sizeOf v10_sum v10_coefficient) v10_refusals = some (ro, ov10_refusals) → va_P D xcl (wd_X10 a cyI cyJ v10_firstOf v10_sizeOf v10_longOf v10_row v10_character v10_sum v10_coefficient v10_undone v10_wasSum v10_wasCoefficient v10_hasImage v10_letter v10_letters v10_list v10_cell v10_refusals v10_tried v10_left v10_high v10_then v10_at v10_readSize) H → va_D A (wd_X10 a cyI cyJ v10_firstOf v10_sizeOf v10_longOf v10_row v10_character v10_sum v10_coefficient v10_undone v10_wasSum v10_wasCoefficient v10_hasImage v10_letter v10_letters v10_list v10_cell v10_refusals v10_tried v10_left v10_high v10_then v10_at v10_readSize) → va_S A s.heap H locs → lv_has ls 3 [(0, .ref (a 28))] → W p l e { frames := 2, cells := 0, slots := 0, locals := 42 } s m args below meth c H locs 0 0 Q (F0 m 14 ls []) := by
    intro v10_refusals H locs ls hf hP hD hS hl
    unfold f_X10_coefficient_14 at hf
    refine lv_aload_n hx hb dX10_coefficient_14 rfl (lv_at hl 0 rfl) ?_
    refine lv_iconst (v := (-1 : Int32)) hx hb dX10_coefficient_15 (by decide) ?_
    obtain ⟨r_16, v10_refusals_17, hk_18, hf⟩ := pe_2 hf
    refine xv_i (As := [.int (-1 : Int32)]) (rest := []) (q0 := 0) (ci := 10) Cx hP hD hS hl (pl_X10_X10 a cyI cyJ v10_firstOf v10_sizeOf v10_longOf v10_row v10_character v10_sum v10_coefficient v10_undone v10_wasSum v10_wasCoefficient v10_hasImage v10_letter v10_letters v10_list v10_cell v10_refusals v10_tried v10_left v10_high v10_then v10_at v10_readSize v10_firstOf v10_sizeOf v10_longOf v10_row v10_character v10_sum v10_coefficient v10_undone v10_wasSum v10_wasCoefficient v10_hasImage v10_letter v10_letters v10_list v10_cell v10_refusals_17 v10_tried v10_left v10_high v10_then v10_at v10_readSize) (c_X10_far l D cyI cyJ G a H.size v10_firstOf v10_sizeOf v10_longOf v10_row v10_character v10_sum v10_coefficient v10_undone v10_wasSum v10_wasCoefficient v10_hasImage v10_letter v10_letters v10_list v10_cell v10_refusals v10_tried v10_left v10_high v10_then v10_at v10_readSize (-1 : Int32) r_16 v10_refusals_17 hk_18) pk_X10_far mw_5_87 ⟨rfl, rfl, Nat.le_of_ble_eq_true rfl, Nat.le_of_ble_eq_true rfl⟩ rfl rfl rfl rfl rfl (Nat.le_of_ble_eq_true rfl) ⟨Nat.le_of_ble_eq_true rfl, Nat.le_of_ble_eq_true rfl⟩ dX10_coefficient_16 (fun H locs hP hD hS => ?_)
    obtain ⟨rfl, rfl⟩ := po_2 hf
    rw [← hQ]; exact xe_iret Cx rfl hP hD hS dX10_coefficient_19
  refine lv_iload_n hx hb dX10_coefficient_0 rfl (lv_at hl 1 rfl) ?_
  obtain ⟨r_19, hk_20, hf⟩ := pe_1 hf
  refine xw_z (As := [.int x1]) (rest := []) Cx hP hD hS hl (xq_none _) (c_X10_isSum l D cyI cyJ G H.size x1 r_19 hk_20) pk_X10_isSum mw_5_152 ⟨rfl, rfl, Nat.le_of_ble_eq_true rfl, Nat.le_of_ble_eq_true rfl⟩ rfl rfl (Nat.le_of_ble_eq_true rfl) ⟨Nat.le_of_ble_eq_true rfl, Nat.le_of_ble_eq_true rfl⟩ dX10_coefficient_1 (fun H locs hn_21 hP hD hS => ?_)
  refine lv_if_eq (tgt := 14) hx hb dX10_coefficient_4 (by decide) (fun hc_22 => ?_) (fun hc_22 => ?_)
  · have hf := pe_t hf hc_22
    exact w_14 v10_refusals H locs ls hf hP hD hS (lv_sub hl [0] rfl)
  · have hf := pe_f hf hc_22
    refine lv_iload_n hx hb dX10_coefficient_7 rfl (lv_at hl 2 rfl) ?_
    obtain ⟨r_23, hk_24, hf⟩ := pe_1 hf
    refine xw_z (As := [.int x2]) (rest := []) Cx hP hD hS hl (xq_none _) (c_X10_isShape l D cyI cyJ G H.size x2 r_23 hk_24) pk_X10_isShape mw_5_23 ⟨rfl, rfl, Nat.le_of_ble_eq_true rfl, Nat.le_of_ble_eq_true rfl⟩ rfl rfl (Nat.le_of_ble_eq_true rfl) ⟨Nat.le_of_ble_eq_true rfl, Nat.le_of_ble_eq_true rfl⟩ dX10_coefficient_8 (fun H locs hn_25 hP hD hS => ?_)
    refine lv_if_ne (tgt := 20) hx hb dX10_coefficient_11 (by decide) (fun hc_26 => ?_) (fun hc_26 => ?_)
    · have hf := pe_f hf hc_26
      refine lv_aload_n hx hb dX10_coefficient_20 rfl (lv_at hl 0 rfl) ?_
      refine va_get (ci := 10) (v := .ref (a 34)) hx hb hts wX10_in hown hK hP 0 rfl rfl 5 (by decide) (hts _ mw_4_197) (fun _ h9 => h9) rfl dX10_coefficient_21 ?_
      refine lv_iload_n hx hb dX10_coefficient_24 rfl (lv_at hl 1 rfl) ?_
      obtain ⟨hi_27, hf⟩ := pe_in hf
      refine va_iald hx hb hK hP 6 0 rfl rfl hi_27 dX10_coefficient_25 ?_
      refine lv_if_ge (tgt := 34) hx hb dX10_coefficient_26 (by decide) (fun hc_28 => ?_) (fun hc_28 => ?_)
      · have hf := pe_t hf hc_28
        refine lv_aload_n hx hb dX10_coefficient_34 rfl (lv_at hl 0 rfl) ?_
        refine lv_iload_n hx hb dX10_coefficient_35 rfl (lv_at hl 1 rfl) ?_
        refine lv_iload_n hx hb dX10_coefficient_36 rfl (lv_at hl 2 rfl) ?_
        obtain ⟨r_29, hk_30, hf⟩ := pe_1 hf
        refine xv_i (As := [.int x1, .int x2]) (rest := []) (q0 := 0) (ci := 10) Cx hP hD hS hl (pl_X10_X10 a cyI cyJ v10_firstOf v10_sizeOf v10_longOf v10_row v10_character v10_sum v10_coefficient v10_undone v10_wasSum v10_wasCoefficient v10_hasImage v10_letter v10_letters v10_list v10_cell v10_refusals v10_tried v10_left v10_high v10_then v10_at v10_readSize v10_firstOf v10_sizeOf v10_longOf v10_row v10_character v10_sum v10_coefficient v10_undone v10_wasSum v10_wasCoefficient v10_hasImage v10_letter v10_letters v10_list v10_cell v10_refusals v10_tried v10_left v10_high v10_then v10_at v10_readSize) (c_X10_coefficientOf l D cyI cyJ G a H.size v10_firstOf v10_sizeOf v10_longOf v10_row v10_character v10_sum v10_coefficient v10_undone v10_wasSum v10_wasCoefficient v10_hasImage v10_letter v10_letters v10_list v10_cell v10_refusals v10_tried v10_left v10_high v10_then v10_at v10_readSize x1 x2 r_29 hk_30) pk_X10_coefficientOf mw_5_202 ⟨rfl, rfl, Nat.le_of_ble_eq_true rfl, Nat.le_of_ble_eq_true rfl⟩ rfl rfl rfl rfl rfl (Nat.le_of_ble_eq_true rfl) ⟨Nat.le_of_ble_eq_true rfl, Nat.le_of_ble_eq_true rfl⟩ dX10_coefficient_37 (fun H locs hP hD hS => ?_)
        obtain ⟨rfl, rfl⟩ := po_2 hf
        rw [← hQ]; exact xe_iret Cx rfl hP hD hS dX10_coefficient_40
      · have hf := pe_f hf hc_28
        refine lv_ldc (v := (1000000011 : Int32)) hx hb hown (hts _ mw_5_201) dX10_coefficient_29 ?_
        refine lv_goto (tgt := 40) hx hb dX10_coefficient_31 (by decide) ?_
        obtain ⟨rfl, rfl⟩ := po_2 hf
        rw [← hQ]; exact xe_iret Cx rfl hP hD hS dX10_coefficient_40
    · have hf := pe_t hf hc_26
      exact w_14 v10_refusals H locs ls hf hP hD hS (lv_sub hl [0] rfl)
