def gf_X10_multiplies_71 (K_71 : (Nat → Int64) → Int32 → Int32 → Int32 → Int32 → Int32 → Int64 → Int32 → Option ((Nat → Int64))) (K_36 : (Nat → Int64) → Int32 → Int32 → Int32 → Int32 → Int32 → Option ((Nat → Int64))) (v10_firstOf : Nat → Int32) (v10_sizeOf : Nat → Int32) (v10_longOf : Nat → Int32) (v10_row : Nat → Int32) (v10_character : Nat → Int32) (v10_sum : Nat → Int32) (v10_coefficient : Nat → Int32) (v10_then : Nat → Int64) (y1 : Int32) (y2 : Int32) (y3 : Int32) (y4 : Int32) (y5 : Int32) (y6 : Int64) (y8 : Int32) : Option ((Nat → Int64)) := if (lg_cmp y6 (0 : Int64)) = 0 then (K_36 v10_then y1 y2 y3 y4 (y5 + (1 : Int32))) else (p_b1 (f_X10_manyOf v10_firstOf y3) (fun r_2 => if r_2 ≤ y8 then (K_36 v10_then y1 y2 y3 y4 (y5 + (1 : Int32))) else (p_in y8 22 (p_in y3 10 (p_b1 (f_X10_numberOf v10_firstOf v10_sizeOf v10_longOf v10_row v10_character y4 y5 ((v10_firstOf (Int32.toNatClampNeg y3)) + y8)) (fun r_7 => p_in y8 22 (K_71 (vp_updL v10_then (Int32.toNatClampNeg y8) ((v10_then (Int32.toNatClampNeg y8)) + (y6 * (Int32.toInt64 r_7)))) y1 y2 y3 y4 y5 y6 (y8 + (1 : Int32)))))))))
def f_X10_multiplies_71 (K_36 : (Nat → Int64) → Int32 → Int32 → Int32 → Int32 → Int32 → Option ((Nat → Int64))) (v10_firstOf : Nat → Int32) (v10_sizeOf : Nat → Int32) (v10_longOf : Nat → Int32) (v10_row : Nat → Int32) (v10_character : Nat → Int32) (v10_sum : Nat → Int32) (v10_coefficient : Nat → Int32) : Nat → (Nat → Int64) → Int32 → Int32 → Int32 → Int32 → Int32 → Int64 → Int32 → Option ((Nat → Int64))
  | 0 => fun _ _ _ _ _ _ _ _ => none
  | n + 1 => gf_X10_multiplies_71 (f_X10_multiplies_71 K_36 v10_firstOf v10_sizeOf v10_longOf v10_row v10_character v10_sum v10_coefficient n) K_36 v10_firstOf v10_sizeOf v10_longOf v10_row v10_character v10_sum v10_coefficient
def gf_X10_multiplies_36 (K_36 : (Nat → Int64) → Int32 → Int32 → Int32 → Int32 → Int32 → Option ((Nat → Int64))) (K_15 : (Nat → Int64) → Int32 → Int32 → Int32 → Int32 → Option ((Nat → Int64))) (v10_firstOf : Nat → Int32) (v10_sizeOf : Nat → Int32) (v10_longOf : Nat → Int32) (v10_row : Nat → Int32) (v10_character : Nat → Int32) (v10_sum : Nat → Int32) (v10_coefficient : Nat → Int32) (v10_then : Nat → Int64) (y1 : Int32) (y2 : Int32) (y3 : Int32) (y4 : Int32) (y5 : Int32) : Option ((Nat → Int64)) := p_in (y3 + (1 : Int32)) 10 (if (v10_firstOf (Int32.toNatClampNeg (y3 + (1 : Int32)))) ≤ y5 then (K_15 v10_then y1 y2 y3 (y4 + (1 : Int32))) else (p_b1 (f_X10_coefficientOf v10_firstOf v10_sizeOf v10_sum v10_coefficient y1 y4) (fun r_12 => p_b1 (f_X10_coefficientOf v10_firstOf v10_sizeOf v10_sum v10_coefficient y2 y5) (fun r_14 => (f_X10_multiplies_71 K_36 v10_firstOf v10_sizeOf v10_longOf v10_row v10_character v10_sum v10_coefficient 1000) v10_then y1 y2 y3 y4 y5 ((Int32.toInt64 r_12) * (Int32.toInt64 r_14)) (0 : Int32)))))
def f_X10_multiplies_36 (K_15 : (Nat → Int64) → Int32 → Int32 → Int32 → Int32 → Option ((Nat → Int64))) (v10_firstOf : Nat → Int32) (v10_sizeOf : Nat → Int32) (v10_longOf : Nat → Int32) (v10_row : Nat → Int32) (v10_character : Nat → Int32) (v10_sum : Nat → Int32) (v10_coefficient : Nat → Int32) : Nat → (Nat → Int64) → Int32 → Int32 → Int32 → Int32 → Int32 → Option ((Nat → Int64))
  | 0 => fun _ _ _ _ _ _ => none
  | n + 1 => gf_X10_multiplies_36 (f_X10_multiplies_36 K_15 v10_firstOf v10_sizeOf v10_longOf v10_row v10_character v10_sum v10_coefficient n) K_15 v10_firstOf v10_sizeOf v10_longOf v10_row v10_character v10_sum v10_coefficient
def gf_X10_multiplies_15 (K_15 : (Nat → Int64) → Int32 → Int32 → Int32 → Int32 → Option ((Nat → Int64))) (v10_firstOf : Nat → Int32) (v10_sizeOf : Nat → Int32) (v10_longOf : Nat → Int32) (v10_row : Nat → Int32) (v10_character : Nat → Int32) (v10_sum : Nat → Int32) (v10_coefficient : Nat → Int32) (v10_then : Nat → Int64) (y1 : Int32) (y2 : Int32) (y3 : Int32) (y4 : Int32) : Option ((Nat → Int64)) := p_in (y3 + (1 : Int32)) 10 (if (v10_firstOf (Int32.toNatClampNeg (y3 + (1 : Int32)))) ≤ y4 then (some (v10_then)) else (p_in y3 10 ((f_X10_multiplies_36 K_15 v10_firstOf v10_sizeOf v10_longOf v10_row v10_character v10_sum v10_coefficient 1000) v10_then y1 y2 y3 y4 (v10_firstOf (Int32.toNatClampNeg y3)))))
def f_X10_multiplies_15 (v10_firstOf : Nat → Int32) (v10_sizeOf : Nat → Int32) (v10_longOf : Nat → Int32) (v10_row : Nat → Int32) (v10_character : Nat → Int32) (v10_sum : Nat → Int32) (v10_coefficient : Nat → Int32) : Nat → (Nat → Int64) → Int32 → Int32 → Int32 → Int32 → Option ((Nat → Int64))
  | 0 => fun _ _ _ _ _ => none
  | n + 1 => gf_X10_multiplies_15 (f_X10_multiplies_15 v10_firstOf v10_sizeOf v10_longOf v10_row v10_character v10_sum v10_coefficient n) v10_firstOf v10_sizeOf v10_longOf v10_row v10_character v10_sum v10_coefficient
def f_X10_multiplies (v10_firstOf : Nat → Int32) (v10_sizeOf : Nat → Int32) (v10_longOf : Nat → Int32) (v10_row : Nat → Int32) (v10_character : Nat → Int32) (v10_sum : Nat → Int32) (v10_coefficient : Nat → Int32) (v10_then : Nat → Int64) (x1 : Int32) (x2 : Int32) : Option ((Nat → Int64)) := p_in x1 4 (p_in (v10_sum (Int32.toNatClampNeg x1)) 10 ((f_X10_multiplies_15 v10_firstOf v10_sizeOf v10_longOf v10_row v10_character v10_sum v10_coefficient 1000) v10_then x1 x2 (v10_sum (Int32.toNatClampNeg x1)) (v10_firstOf (Int32.toNatClampNeg (v10_sum (Int32.toNatClampNeg x1))))))
set_option maxHeartbeats 4000000 in
set_option maxRecDepth 20000 in
theorem c_X10_multiplies (l : Launch) (D : va_G) (cyI cyJ : ClassId) (G a : Nat → Nat) (sz : Nat) (v10_firstOf : Nat → Int32) (v10_sizeOf : Nat → Int32) (v10_longOf : Nat → Int32) (v10_row : Nat → Int32) (v10_character : Nat → Int32) (v10_sum : Nat → Int32) (v10_coefficient : Nat → Int32) (v10_undone : Int32) (v10_wasSum : Nat → Int32) (v10_wasCoefficient : Nat → Int32) (v10_hasImage : Int32) (v10_letter : Nat → Int32) (v10_letters : Int32) (v10_list : Nat → Int32) (v10_cell : Nat → Int32) (v10_refusals : Nat → Int32) (v10_tried : Nat → Int32) (v10_left : Int32) (v10_high : Int32) (v10_then : Nat → Int64) (v10_at : Int32) (v10_readSize : Int32) (x1 : Int32) (x2 : Int32) (ov10_then : Nat → Int64) (hf : f_X10_multiplies v10_firstOf v10_sizeOf v10_longOf v10_row v10_character v10_sum v10_coefficient v10_then x1 x2 = some ov10_then) : xm_v l yX10_multiplies (Cond.code yX10_multiplies cX10_multiplies 9 none :: xg_tbl) { frames := 3, cells := 0, slots := 0, locals := 73 } D xcl [(cyI, .int), (cyJ, .long)] G sz [.ref (a 28), .int x1, .int x2] (wd_X10 a cyI cyJ v10_firstOf v10_sizeOf v10_longOf v10_row v10_character v10_sum v10_coefficient v10_undone v10_wasSum v10_wasCoefficient v10_hasImage v10_letter v10_letters v10_list v10_cell v10_refusals v10_tried v10_left v10_high v10_then v10_at v10_readSize) (wd_X10 a cyI cyJ v10_firstOf v10_sizeOf v10_longOf v10_row v10_character v10_sum v10_coefficient v10_undone v10_wasSum v10_wasCoefficient v10_hasImage v10_letter v10_letters v10_list v10_cell v10_refusals v10_tried v10_left v10_high ov10_then v10_at v10_readSize) := by
  refine xm_of_v (own := RX10) (by decide) rfl rfl (Nat.le_of_ble_eq_true rfl) ?_
  intro p e s m args below meth c ls Q A hQ hAe hin Cx hsz hP hD hS hl
  have Cx1 := Cx
  obtain ⟨⟨hx, hb, hml, hown, hts⟩, hr, hlocks, hK, hA, hT⟩ := Cx1
  have hl : lv_has ls 9 [(0, .ref (a 28)), (1, .int x1), (2, .int x2)] := hl
  obtain ⟨H, eH⟩ : ∃ H, H = s.heap := ⟨_, rfl⟩
  obtain ⟨locs, eL⟩ : ∃ L : List Loc, L = [] := ⟨_, rfl⟩
  rw [← eH] at hP
  have hS : va_S A s.heap H locs := by rw [eH, eL]; exact hS
  suffices hgo : W p l e { frames := 3, cells := 0, slots := 0, locals := 73 } s m args below meth c H locs 0 0 Q (F0 m 0 ls []) by rw [eH, eL] at hgo; exact hgo
  clear eH eL
  unfold f_X10_multiplies at hf
  have w_15 : ∀ (n_15 : Nat) (v10_then : Nat → Int64) (y1 : Int32) (y2 : Int32) (y3 : Int32) (y4 : Int32) (H : Heap) (locs : List Loc) (ls : Array Slot), (f_X10_multiplies_15 v10_firstOf v10_sizeOf v10_longOf v10_row v10_character v10_sum v10_coefficient) n_15 v10_then y1 y2 y3 y4 = some ov10_then → va_P D xcl (wd_X10 a cyI cyJ v10_firstOf v10_sizeOf v10_longOf v10_row v10_character v10_sum v10_coefficient v10_undone v10_wasSum v10_wasCoefficient v10_hasImage v10_letter v10_letters v10_list v10_cell v10_refusals v10_tried v10_left v10_high v10_then v10_at v10_readSize) H → va_D A (wd_X10 a cyI cyJ v10_firstOf v10_sizeOf v10_longOf v10_row v10_character v10_sum v10_coefficient v10_undone v10_wasSum v10_wasCoefficient v10_hasImage v10_letter v10_letters v10_list v10_cell v10_refusals v10_tried v10_left v10_high v10_then v10_at v10_readSize) → va_S A s.heap H locs → lv_has ls 9 [(0, .ref (a 28)), (1, .int y1), (2, .int y2), (3, .int y3), (4, .int y4)] → W p l e { frames := 3, cells := 0, slots := 0, locals := 73 } s m args below meth c H locs 0 0 Q (F0 m 15 ls []) := by
    intro n_15
    induction n_15 with
    | zero => intro v10_then y1 y2 y3 y4 H locs ls hf; exact absurd hf (by intro h9; cases h9)
    | succ n_15 w_15 =>
      intro v10_then y1 y2 y3 y4 H locs ls hf hP hD hS hl
      have hf : gf_X10_multiplies_15 ((f_X10_multiplies_15 v10_firstOf v10_sizeOf v10_longOf v10_row v10_character v10_sum v10_coefficient) n_15) v10_firstOf v10_sizeOf v10_longOf v10_row v10_character v10_sum v10_coefficient v10_then y1 y2 y3 y4 = some ov10_then := hf
      unfold gf_X10_multiplies_15 at hf
      have w_36 : ∀ (n_36 : Nat) (v10_then : Nat → Int64) (y1 : Int32) (y2 : Int32) (y3 : Int32) (y4 : Int32) (y5 : Int32) (H : Heap) (locs : List Loc) (ls : Array Slot), (f_X10_multiplies_36 ((f_X10_multiplies_15 v10_firstOf v10_sizeOf v10_longOf v10_row v10_character v10_sum v10_coefficient) n_15) v10_firstOf v10_sizeOf v10_longOf v10_row v10_character v10_sum v10_coefficient) n_36 v10_then y1 y2 y3 y4 y5 = some ov10_then → va_P D xcl (wd_X10 a cyI cyJ v10_firstOf v10_sizeOf v10_longOf v10_row v10_character v10_sum v10_coefficient v10_undone v10_wasSum v10_wasCoefficient v10_hasImage v10_letter v10_letters v10_list v10_cell v10_refusals v10_tried v10_left v10_high v10_then v10_at v10_readSize) H → va_D A (wd_X10 a cyI cyJ v10_firstOf v10_sizeOf v10_longOf v10_row v10_character v10_sum v10_coefficient v10_undone v10_wasSum v10_wasCoefficient v10_hasImage v10_letter v10_letters v10_list v10_cell v10_refusals v10_tried v10_left v10_high v10_then v10_at v10_readSize) → va_S A s.heap H locs → lv_has ls 9 [(0, .ref (a 28)), (1, .int y1), (2, .int y2), (3, .int y3), (4, .int y4), (5, .int y5)] → W p l e { frames := 3, cells := 0, slots := 0, locals := 73 } s m args below meth c H locs 0 0 Q (F0 m 36 ls []) := by
        intro n_36
        induction n_36 with
        | zero => intro v10_then y1 y2 y3 y4 y5 H locs ls hf; exact absurd hf (by intro h9; cases h9)
        | succ n_36 w_36 =>
          intro v10_then y1 y2 y3 y4 y5 H locs ls hf hP hD hS hl
          have hf : gf_X10_multiplies_36 ((f_X10_multiplies_36 ((f_X10_multiplies_15 v10_firstOf v10_sizeOf v10_longOf v10_row v10_character v10_sum v10_coefficient) n_15) v10_firstOf v10_sizeOf v10_longOf v10_row v10_character v10_sum v10_coefficient) n_36) ((f_X10_multiplies_15 v10_firstOf v10_sizeOf v10_longOf v10_row v10_character v10_sum v10_coefficient) n_15) v10_firstOf v10_sizeOf v10_longOf v10_row v10_character v10_sum v10_coefficient v10_then y1 y2 y3 y4 y5 = some ov10_then := hf
          unfold gf_X10_multiplies_36 at hf
          have w_71 : ∀ (n_71 : Nat) (v10_then : Nat → Int64) (y1 : Int32) (y2 : Int32) (y3 : Int32) (y4 : Int32) (y5 : Int32) (y6 : Int64) (y8 : Int32) (H : Heap) (locs : List Loc) (ls : Array Slot), (f_X10_multiplies_71 ((f_X10_multiplies_36 ((f_X10_multiplies_15 v10_firstOf v10_sizeOf v10_longOf v10_row v10_character v10_sum v10_coefficient) n_15) v10_firstOf v10_sizeOf v10_longOf v10_row v10_character v10_sum v10_coefficient) n_36) v10_firstOf v10_sizeOf v10_longOf v10_row v10_character v10_sum v10_coefficient) n_71 v10_then y1 y2 y3 y4 y5 y6 y8 = some ov10_then → va_P D xcl (wd_X10 a cyI cyJ v10_firstOf v10_sizeOf v10_longOf v10_row v10_character v10_sum v10_coefficient v10_undone v10_wasSum v10_wasCoefficient v10_hasImage v10_letter v10_letters v10_list v10_cell v10_refusals v10_tried v10_left v10_high v10_then v10_at v10_readSize) H → va_D A (wd_X10 a cyI cyJ v10_firstOf v10_sizeOf v10_longOf v10_row v10_character v10_sum v10_coefficient v10_undone v10_wasSum v10_wasCoefficient v10_hasImage v10_letter v10_letters v10_list v10_cell v10_refusals v10_tried v10_left v10_high v10_then v10_at v10_readSize) → va_S A s.heap H locs → lv_has ls 9 [(0, .ref (a 28)), (1, .int y1), (2, .int y2), (3, .int y3), (4, .int y4), (5, .int y5), (6, .long y6), (8, .int y8)] → W p l e { frames := 3, cells := 0, slots := 0, locals := 73 } s m args below meth c H locs 0 0 Q (F0 m 71 ls []) := by
            intro n_71
            induction n_71 with
            | zero => intro v10_then y1 y2 y3 y4 y5 y6 y8 H locs ls hf; exact absurd hf (by intro h9; cases h9)
            | succ n_71 w_71 =>
              intro v10_then y1 y2 y3 y4 y5 y6 y8 H locs ls hf hP hD hS hl
              have hf : gf_X10_multiplies_71 ((f_X10_multiplies_71 ((f_X10_multiplies_36 ((f_X10_multiplies_15 v10_firstOf v10_sizeOf v10_longOf v10_row v10_character v10_sum v10_coefficient) n_15) v10_firstOf v10_sizeOf v10_longOf v10_row v10_character v10_sum v10_coefficient) n_36) v10_firstOf v10_sizeOf v10_longOf v10_row v10_character v10_sum v10_coefficient) n_71) ((f_X10_multiplies_36 ((f_X10_multiplies_15 v10_firstOf v10_sizeOf v10_longOf v10_row v10_character v10_sum v10_coefficient) n_15) v10_firstOf v10_sizeOf v10_longOf v10_row v10_character v10_sum v10_coefficient) n_36) v10_firstOf v10_sizeOf v10_longOf v10_row v10_character v10_sum v10_coefficient v10_then y1 y2 y3 y4 y5 y6 y8 = some ov10_then := hf
              unfold gf_X10_multiplies_71 at hf
              refine lv_lload hx hb dX10_multiplies_71 (lv_at hl 6 rfl) ?_
              refine lv_lconst (v := (0 : Int64)) hx hb dX10_multiplies_73 (by decide) ?_
              refine W.lcmp hx hb dX10_multiplies_74 ?_
              refine lv_if_eq (tgt := 125) hx hb dX10_multiplies_75 (by decide) (fun hc_21 => ?_) (fun hc_21 => ?_)
              · have hf := pe_t hf hc_21
                refine lv_iinc (v := (y5 + (1 : Int32))) (lv' := [(5, .int (y5 + (1 : Int32))), (0, .ref (a 28)), (1, .int y1), (2, .int y2), (3, .int y3), (4, .int y4), (6, .long y6), (8, .int y8)]) hx hb dX10_multiplies_125 hl (k := 5) rfl rfl (by decide) rfl (fun ls hl => ?_)
                refine lv_goto (tgt := 36) hx hb dX10_multiplies_128 (by decide) ?_
                exact w_36 v10_then y1 y2 y3 y4 (y5 + (1 : Int32)) H locs ls hf hP hD hS (lv_sub hl [1, 2, 3, 4, 5, 0] rfl)
              · have hf := pe_f hf hc_21
                refine lv_iload hx hb dX10_multiplies_78 (lv_at hl 7 rfl) ?_
                refine lv_aload_n hx hb dX10_multiplies_80 rfl (lv_at hl 0 rfl) ?_
                refine lv_iload_n hx hb dX10_multiplies_81 rfl (lv_at hl 3 rfl) ?_
                obtain ⟨r_22, hk_23, hf⟩ := pe_1 hf
                refine xv_i (As := [.int y3]) (rest := [.int y8]) (q0 := 0) (ci := 10) Cx hP hD hS hl (pl_X10_X10 a cyI cyJ v10_firstOf v10_sizeOf v10_longOf v10_row v10_character v10_sum v10_coefficient v10_undone v10_wasSum v10_wasCoefficient v10_hasImage v10_letter v10_letters v10_list v10_cell v10_refusals v10_tried v10_left v10_high v10_then v10_at v10_readSize v10_firstOf v10_sizeOf v10_longOf v10_row v10_character v10_sum v10_coefficient v10_undone v10_wasSum v10_wasCoefficient v10_hasImage v10_letter v10_letters v10_list v10_cell v10_refusals v10_tried v10_left v10_high v10_then v10_at v10_readSize) (c_X10_manyOf l D cyI cyJ G a H.size v10_firstOf v10_sizeOf v10_longOf v10_row v10_character v10_sum v10_coefficient v10_undone v10_wasSum v10_wasCoefficient v10_hasImage v10_letter v10_letters v10_list v10_cell v10_refusals v10_tried v10_left v10_high v10_then v10_at v10_readSize y3 r_22 hk_23) pk_X10_manyOf mw_5_63 ⟨rfl, rfl, Nat.le_of_ble_eq_true rfl, Nat.le_of_ble_eq_true rfl⟩ rfl rfl rfl rfl rfl (Nat.le_of_ble_eq_true rfl) ⟨Nat.le_of_ble_eq_true rfl, Nat.le_of_ble_eq_true rfl⟩ dX10_multiplies_82 (fun H locs hP hD hS => ?_)
                refine lv_icmp_ge (tgt := 125) hx hb dX10_multiplies_85 (by decide) (fun hc_24 => ?_) (fun hc_24 => ?_)
                · have hf := pe_t hf hc_24
                  refine lv_iinc (v := (y5 + (1 : Int32))) (lv' := [(5, .int (y5 + (1 : Int32))), (0, .ref (a 28)), (1, .int y1), (2, .int y2), (3, .int y3), (4, .int y4), (6, .long y6), (8, .int y8)]) hx hb dX10_multiplies_125 hl (k := 5) rfl rfl (by decide) rfl (fun ls hl => ?_)
                  refine lv_goto (tgt := 36) hx hb dX10_multiplies_128 (by decide) ?_
                  exact w_36 v10_then y1 y2 y3 y4 (y5 + (1 : Int32)) H locs ls hf hP hD hS (lv_sub hl [1, 2, 3, 4, 5, 0] rfl)
                · have hf := pe_f hf hc_24
                  refine lv_aload_n hx hb dX10_multiplies_88 rfl (lv_at hl 0 rfl) ?_
                  refine va_get (ci := 10) (v := .ref (a 43)) hx hb hts wX10_in hown hK hP 0 rfl rfl 19 (by decide) (hts _ mw_4_211) (fun _ h9 => h9) rfl dX10_multiplies_89 ?_
                  refine lv_iload hx hb dX10_multiplies_92 (lv_at hl 7 rfl) ?_
                  refine lv_dup2_11 hx hb dX10_multiplies_94 rfl rfl ?_
                  obtain ⟨hi_25, hf⟩ := pe_in hf
                  refine va_lald hx hb hK hP 15 1 rfl rfl hi_25 dX10_multiplies_95 ?_
                  refine lv_lload hx hb dX10_multiplies_96 (lv_at hl 6 rfl) ?_
                  refine lv_aload_n hx hb dX10_multiplies_98 rfl (lv_at hl 0 rfl) ?_
                  refine lv_iload hx hb dX10_multiplies_99 (lv_at hl 4 rfl) ?_
                  refine lv_iload hx hb dX10_multiplies_101 (lv_at hl 5 rfl) ?_
                  refine lv_aload_n hx hb dX10_multiplies_103 rfl (lv_at hl 0 rfl) ?_
                  refine va_get (ci := 10) (v := .ref (a 29)) hx hb hts wX10_in hown hK hP 0 rfl rfl 0 (by decide) (hts _ mw_4_192) (fun _ h9 => h9) rfl dX10_multiplies_104 ?_
                  refine lv_iload_n hx hb dX10_multiplies_107 rfl (lv_at hl 3 rfl) ?_
                  obtain ⟨hi_26, hf⟩ := pe_in hf
                  refine va_iald hx hb hK hP 1 0 rfl rfl hi_26 dX10_multiplies_108 ?_
                  refine lv_iload hx hb dX10_multiplies_109 (lv_at hl 7 rfl) ?_
                  refine lv_iadd hx hb dX10_multiplies_111 ?_
                  obtain ⟨r_27, hk_28, hf⟩ := pe_1 hf
                  refine xv_i (As := [.int y4, .int y5, .int ((v10_firstOf (Int32.toNatClampNeg y3)) + y8)]) (rest := [.long y6, .long (v10_then (Int32.toNatClampNeg y8)), .int y8, .ref (a 43)]) (q0 := 0) (ci := 10) Cx hP hD hS hl (pl_X10_X10 a cyI cyJ v10_firstOf v10_sizeOf v10_longOf v10_row v10_character v10_sum v10_coefficient v10_undone v10_wasSum v10_wasCoefficient v10_hasImage v10_letter v10_letters v10_list v10_cell v10_refusals v10_tried v10_left v10_high v10_then v10_at v10_readSize v10_firstOf v10_sizeOf v10_longOf v10_row v10_character v10_sum v10_coefficient v10_undone v10_wasSum v10_wasCoefficient v10_hasImage v10_letter v10_letters v10_list v10_cell v10_refusals v10_tried v10_left v10_high v10_then v10_at v10_readSize) (c_X10_numberOf l D cyI cyJ G a H.size v10_firstOf v10_sizeOf v10_longOf v10_row v10_character v10_sum v10_coefficient v10_undone v10_wasSum v10_wasCoefficient v10_hasImage v10_letter v10_letters v10_list v10_cell v10_refusals v10_tried v10_left v10_high v10_then v10_at v10_readSize y4 y5 ((v10_firstOf (Int32.toNatClampNeg y3)) + y8) r_27 hk_28) pk_X10_numberOf mw_5_112 ⟨rfl, rfl, Nat.le_of_ble_eq_true rfl, Nat.le_of_ble_eq_true rfl⟩ rfl rfl rfl rfl rfl (Nat.le_of_ble_eq_true rfl) ⟨Nat.le_of_ble_eq_true rfl, Nat.le_of_ble_eq_true rfl⟩ dX10_multiplies_112 (fun H locs hP hD hS => ?_)
                  refine lv_i2l (v := Int32.toInt64 r_27) hx hb dX10_multiplies_115 rfl ?_
                  refine lv_lmul hx hb dX10_multiplies_116 ?_
                  refine lv_ladd hx hb dX10_multiplies_117 ?_
                  obtain ⟨hi_29, hf⟩ := pe_in hf
                  refine va_last hx hb hK hP hD hS 15 1 rfl rfl hi_29 dX10_multiplies_118 (fun H locs hP hD hS => ?_)
                  have hP : va_P D xcl (wd_X10 a cyI cyJ v10_firstOf v10_sizeOf v10_longOf v10_row v10_character v10_sum v10_coefficient v10_undone v10_wasSum v10_wasCoefficient v10_hasImage v10_letter v10_letters v10_list v10_cell v10_refusals v10_tried v10_left v10_high (vp_updL v10_then (Int32.toNatClampNeg y8) ((v10_then (Int32.toNatClampNeg y8)) + (y6 * (Int32.toInt64 r_27)))) v10_at v10_readSize) H := hP
                  have hD : va_D A (wd_X10 a cyI cyJ v10_firstOf v10_sizeOf v10_longOf v10_row v10_character v10_sum v10_coefficient v10_undone v10_wasSum v10_wasCoefficient v10_hasImage v10_letter v10_letters v10_list v10_cell v10_refusals v10_tried v10_left v10_high (vp_updL v10_then (Int32.toNatClampNeg y8) ((v10_then (Int32.toNatClampNeg y8)) + (y6 * (Int32.toInt64 r_27)))) v10_at v10_readSize) := hD
                  refine lv_iinc (v := (y8 + (1 : Int32))) (lv' := [(8, .int (y8 + (1 : Int32))), (0, .ref (a 28)), (1, .int y1), (2, .int y2), (3, .int y3), (4, .int y4), (5, .int y5), (6, .long y6)]) hx hb dX10_multiplies_119 hl (k := 7) rfl rfl (by decide) rfl (fun ls hl => ?_)
                  refine lv_goto (tgt := 71) hx hb dX10_multiplies_122 (by decide) ?_
                  exact w_71 (vp_updL v10_then (Int32.toNatClampNeg y8) ((v10_then (Int32.toNatClampNeg y8)) + (y6 * (Int32.toInt64 r_27)))) y1 y2 y3 y4 y5 y6 (y8 + (1 : Int32)) H locs ls hf hP hD hS (lv_sub hl [1, 2, 3, 4, 5, 6, 7, 0] rfl)
          refine lv_iload hx hb dX10_multiplies_36 (lv_at hl 5 rfl) ?_
          refine lv_aload_n hx hb dX10_multiplies_38 rfl (lv_at hl 0 rfl) ?_
          refine va_get (ci := 10) (v := .ref (a 29)) hx hb hts wX10_in hown hK hP 0 rfl rfl 0 (by decide) (hts _ mw_4_192) (fun _ h9 => h9) rfl dX10_multiplies_39 ?_
          refine lv_iload_n hx hb dX10_multiplies_42 rfl (lv_at hl 3 rfl) ?_
          refine lv_iconst (v := (1 : Int32)) hx hb dX10_multiplies_43 (by decide) ?_
          refine lv_iadd hx hb dX10_multiplies_44 ?_
          obtain ⟨hi_30, hf⟩ := pe_in hf
          refine va_iald hx hb hK hP 1 0 rfl rfl hi_30 dX10_multiplies_45 ?_
          refine lv_icmp_ge (tgt := 131) hx hb dX10_multiplies_46 (by decide) (fun hc_31 => ?_) (fun hc_31 => ?_)
          · have hf := pe_t hf hc_31
            refine lv_iinc (v := (y4 + (1 : Int32))) (lv' := [(4, .int (y4 + (1 : Int32))), (0, .ref (a 28)), (1, .int y1), (2, .int y2), (3, .int y3), (5, .int y5)]) hx hb dX10_multiplies_131 hl (k := 4) rfl rfl (by decide) rfl (fun ls hl => ?_)
            refine lv_goto (tgt := 15) hx hb dX10_multiplies_134 (by decide) ?_
            exact w_15 v10_then y1 y2 y3 (y4 + (1 : Int32)) H locs ls hf hP hD hS (lv_sub hl [1, 2, 3, 4, 0] rfl)
          · have hf := pe_f hf hc_31
            refine lv_aload_n hx hb dX10_multiplies_49 rfl (lv_at hl 0 rfl) ?_
            refine lv_iload_n hx hb dX10_multiplies_50 rfl (lv_at hl 1 rfl) ?_
            refine lv_iload hx hb dX10_multiplies_51 (lv_at hl 4 rfl) ?_
            obtain ⟨r_32, hk_33, hf⟩ := pe_1 hf
            refine xv_i (As := [.int y1, .int y4]) (rest := []) (q0 := 0) (ci := 10) Cx hP hD hS hl (pl_X10_X10 a cyI cyJ v10_firstOf v10_sizeOf v10_longOf v10_row v10_character v10_sum v10_coefficient v10_undone v10_wasSum v10_wasCoefficient v10_hasImage v10_letter v10_letters v10_list v10_cell v10_refusals v10_tried v10_left v10_high v10_then v10_at v10_readSize v10_firstOf v10_sizeOf v10_longOf v10_row v10_character v10_sum v10_coefficient v10_undone v10_wasSum v10_wasCoefficient v10_hasImage v10_letter v10_letters v10_list v10_cell v10_refusals v10_tried v10_left v10_high v10_then v10_at v10_readSize) (c_X10_coefficientOf l D cyI cyJ G a H.size v10_firstOf v10_sizeOf v10_longOf v10_row v10_character v10_sum v10_coefficient v10_undone v10_wasSum v10_wasCoefficient v10_hasImage v10_letter v10_letters v10_list v10_cell v10_refusals v10_tried v10_left v10_high v10_then v10_at v10_readSize y1 y4 r_32 hk_33) pk_X10_coefficientOf mw_5_202 ⟨rfl, rfl, Nat.le_of_ble_eq_true rfl, Nat.le_of_ble_eq_true rfl⟩ rfl rfl rfl rfl rfl (Nat.le_of_ble_eq_true rfl) ⟨Nat.le_of_ble_eq_true rfl, Nat.le_of_ble_eq_true rfl⟩ dX10_multiplies_53 (fun H locs hP hD hS => ?_)
            refine lv_i2l (v := Int32.toInt64 r_32) hx hb dX10_multiplies_56 rfl ?_
            refine lv_aload_n hx hb dX10_multiplies_57 rfl (lv_at hl 0 rfl) ?_
            refine lv_iload_n hx hb dX10_multiplies_58 rfl (lv_at hl 2 rfl) ?_
            refine lv_iload hx hb dX10_multiplies_59 (lv_at hl 5 rfl) ?_
            obtain ⟨r_34, hk_35, hf⟩ := pe_1 hf
            refine xv_i (As := [.int y2, .int y5]) (rest := [.long (Int32.toInt64 r_32)]) (q0 := 0) (ci := 10) Cx hP hD hS hl (pl_X10_X10 a cyI cyJ v10_firstOf v10_sizeOf v10_longOf v10_row v10_character v10_sum v10_coefficient v10_undone v10_wasSum v10_wasCoefficient v10_hasImage v10_letter v10_letters v10_list v10_cell v10_refusals v10_tried v10_left v10_high v10_then v10_at v10_readSize v10_firstOf v10_sizeOf v10_longOf v10_row v10_character v10_sum v10_coefficient v10_undone v10_wasSum v10_wasCoefficient v10_hasImage v10_letter v10_letters v10_list v10_cell v10_refusals v10_tried v10_left v10_high v10_then v10_at v10_readSize) (c_X10_coefficientOf l D cyI cyJ G a H.size v10_firstOf v10_sizeOf v10_longOf v10_row v10_character v10_sum v10_coefficient v10_undone v10_wasSum v10_wasCoefficient v10_hasImage v10_letter v10_letters v10_list v10_cell v10_refusals v10_tried v10_left v10_high v10_then v10_at v10_readSize y2 y5 r_34 hk_35) pk_X10_coefficientOf mw_5_202 ⟨rfl, rfl, Nat.le_of_ble_eq_true rfl, Nat.le_of_ble_eq_true rfl⟩ rfl rfl rfl rfl rfl (Nat.le_of_ble_eq_true rfl) ⟨Nat.le_of_ble_eq_true rfl, Nat.le_of_ble_eq_true rfl⟩ dX10_multiplies_61 (fun H locs hP hD hS => ?_)
            refine lv_i2l (v := Int32.toInt64 r_34) hx hb dX10_multiplies_64 rfl ?_
            refine lv_lmul hx hb dX10_multiplies_65 ?_
            refine lv_lstore (lv' := [(6, .long ((Int32.toInt64 r_32) * (Int32.toInt64 r_34))), (0, .ref (a 28)), (1, .int y1), (2, .int y2), (3, .int y3), (4, .int y4), (5, .int y5)]) hx hb dX10_multiplies_66 hl (by decide) rfl (fun ls hl => ?_)
            refine lv_iconst (v := (0 : Int32)) hx hb dX10_multiplies_68 (by decide) ?_
            refine lv_istore (lv' := [(8, .int (0 : Int32)), (6, .long ((Int32.toInt64 r_32) * (Int32.toInt64 r_34))), (0, .ref (a 28)), (1, .int y1), (2, .int y2), (3, .int y3), (4, .int y4), (5, .int y5)]) hx hb dX10_multiplies_69 hl (by decide) rfl (fun ls hl => ?_)
            exact w_71 1000 v10_then y1 y2 y3 y4 y5 ((Int32.toInt64 r_32) * (Int32.toInt64 r_34)) (0 : Int32) H locs ls hf hP hD hS (lv_sub hl [2, 3, 4, 5, 6, 7, 1, 0] rfl)
      refine lv_iload hx hb dX10_multiplies_15 (lv_at hl 4 rfl) ?_
      refine lv_aload_n hx hb dX10_multiplies_17 rfl (lv_at hl 0 rfl) ?_
      refine va_get (ci := 10) (v := .ref (a 29)) hx hb hts wX10_in hown hK hP 0 rfl rfl 0 (by decide) (hts _ mw_4_192) (fun _ h9 => h9) rfl dX10_multiplies_18 ?_
      refine lv_iload_n hx hb dX10_multiplies_21 rfl (lv_at hl 3 rfl) ?_
      refine lv_iconst (v := (1 : Int32)) hx hb dX10_multiplies_22 (by decide) ?_
      refine lv_iadd hx hb dX10_multiplies_23 ?_
      obtain ⟨hi_36, hf⟩ := pe_in hf
      refine va_iald hx hb hK hP 1 0 rfl rfl hi_36 dX10_multiplies_24 ?_
      refine lv_icmp_ge (tgt := 137) hx hb dX10_multiplies_25 (by decide) (fun hc_37 => ?_) (fun hc_37 => ?_)
      · have hf := pe_t hf hc_37
        obtain rfl := po_1 hf
        rw [← hQ]; exact xe_vret Cx hP hD hS dX10_multiplies_137
      · have hf := pe_f hf hc_37
        refine lv_aload_n hx hb dX10_multiplies_28 rfl (lv_at hl 0 rfl) ?_
        refine va_get (ci := 10) (v := .ref (a 29)) hx hb hts wX10_in hown hK hP 0 rfl rfl 0 (by decide) (hts _ mw_4_192) (fun _ h9 => h9) rfl dX10_multiplies_29 ?_
        refine lv_iload_n hx hb dX10_multiplies_32 rfl (lv_at hl 3 rfl) ?_
        obtain ⟨hi_38, hf⟩ := pe_in hf
        refine va_iald hx hb hK hP 1 0 rfl rfl hi_38 dX10_multiplies_33 ?_
        refine lv_istore (lv' := [(5, .int (v10_firstOf (Int32.toNatClampNeg y3))), (0, .ref (a 28)), (1, .int y1), (2, .int y2), (3, .int y3), (4, .int y4)]) hx hb dX10_multiplies_34 hl (by decide) rfl (fun ls hl => ?_)
        exact w_36 1000 v10_then y1 y2 y3 y4 (v10_firstOf (Int32.toNatClampNeg y3)) H locs ls hf hP hD hS (lv_sub hl [1, 2, 3, 4, 5, 0] rfl)
  refine lv_aload_n hx hb dX10_multiplies_0 rfl (lv_at hl 0 rfl) ?_
  refine va_get (ci := 10) (v := .ref (a 34)) hx hb hts wX10_in hown hK hP 0 rfl rfl 5 (by decide) (hts _ mw_4_197) (fun _ h9 => h9) rfl dX10_multiplies_1 ?_
  refine lv_iload_n hx hb dX10_multiplies_4 rfl (lv_at hl 1 rfl) ?_
  obtain ⟨hi_39, hf⟩ := pe_in hf
  refine va_iald hx hb hK hP 6 0 rfl rfl hi_39 dX10_multiplies_5 ?_
  refine lv_istore_n (lv' := [(3, .int (v10_sum (Int32.toNatClampNeg x1))), (0, .ref (a 28)), (1, .int x1), (2, .int x2)]) hx hb dX10_multiplies_6 rfl hl (by decide) rfl (fun ls hl => ?_)
  refine lv_aload_n hx hb dX10_multiplies_7 rfl (lv_at hl 1 rfl) ?_
  refine va_get (ci := 10) (v := .ref (a 29)) hx hb hts wX10_in hown hK hP 0 rfl rfl 0 (by decide) (hts _ mw_4_192) (fun _ h9 => h9) rfl dX10_multiplies_8 ?_
  refine lv_iload_n hx hb dX10_multiplies_11 rfl (lv_at hl 0 rfl) ?_
  obtain ⟨hi_40, hf⟩ := pe_in hf
  refine va_iald hx hb hK hP 1 0 rfl rfl hi_40 dX10_multiplies_12 ?_
  refine lv_istore (lv' := [(4, .int (v10_firstOf (Int32.toNatClampNeg (v10_sum (Int32.toNatClampNeg x1))))), (3, .int (v10_sum (Int32.toNatClampNeg x1))), (0, .ref (a 28)), (1, .int x1), (2, .int x2)]) hx hb dX10_multiplies_13 hl (by decide) rfl (fun ls hl => ?_)
  exact w_15 1000 v10_then x1 x2 (v10_sum (Int32.toNatClampNeg x1)) (v10_firstOf (Int32.toNatClampNeg (v10_sum (Int32.toNatClampNeg x1)))) H locs ls hf hP hD hS (lv_sub hl [2, 3, 4, 1, 0] rfl)
def f_X10_makes_180 (v10_firstOf : Nat → Int32) (v10_sizeOf : Nat → Int32) (v10_longOf : Nat → Int32) (v10_row : Nat → Int32) (v10_character : Nat → Int32) (v10_sum : Nat → Int32) (v10_coefficient : Nat → Int32) (v10_undone : Int32) (v10_wasSum : Nat → Int32) (v10_wasCoefficient : Nat → Int32) (v10_refusals : Nat → Int32) (v10_then : Nat → Int64) (y1 : Int32) (y2 : Int32) : Option (Int32 × (Nat → Int32) × (Nat → Int32) × Int32 × (Nat → Int32) × (Nat → Int32) × (Nat → Int32) × (Nat → Int64)) := p_in y2 4 (p_b7 (f_X10_becomes v10_firstOf v10_sum v10_coefficient v10_undone v10_wasSum v10_wasCoefficient v10_refusals v10_then y1 (v10_sum (Int32.toNatClampNeg y2))) (fun r_2 v10_sum_3 v10_coefficient_4 v10_undone_5 v10_wasSum_6 v10_wasCoefficient_7 v10_refusals_8 => some (r_2, v10_sum_3, v10_coefficient_4, v10_undone_5, v10_wasSum_6, v10_wasCoefficient_7, v10_refusals_8, v10_then)))
def f_X10_makes_158 (K_106 : (Nat → Int32) → (Nat → Int32) → Int32 → (Nat → Int32) → (Nat → Int32) → (Nat → Int32) → (Nat → Int64) → Int32 → Int32 → Int32 → Int32 → Int32 → Option (Int32 × (Nat → Int32) × (Nat → Int32) × Int32 × (Nat → Int32) × (Nat → Int32) × (Nat → Int32) × (Nat → Int64))) (v10_firstOf : Nat → Int32) (v10_sizeOf : Nat → Int32) (v10_longOf : Nat → Int32) (v10_row : Nat → Int32) (v10_character : Nat → Int32) (v10_sum : Nat → Int32) (v10_coefficient : Nat → Int32) (v10_undone : Int32) (v10_wasSum : Nat → Int32) (v10_wasCoefficient : Nat → Int32) (v10_refusals : Nat → Int32) (v10_then : Nat → Int64) (y1 : Int32) (y2 : Int32) (y3 : Int32) (y4 : Int32) (y5 : Int32) (z0 : Int64) (z1 : Int64) (z2 : Int32) : Option (Int32 × (Nat → Int32) × (Nat → Int32) × Int32 × (Nat → Int32) × (Nat → Int32) × (Nat → Int32) × (Nat → Int64)) := p_in (((22 : Int32) * y3) + y5) 88 (p_in z2 22 (K_106 v10_sum v10_coefficient v10_undone v10_wasSum v10_wasCoefficient v10_refusals (vp_updL v10_then (Int32.toNatClampNeg z2) (z1 + (z0 * (Int32.toInt64 (v10_coefficient (Int32.toNatClampNeg (((22 : Int32) * y3) + y5))))))) y1 y2 y3 y4 (y5 + (1 : Int32))))
def gf_X10_makes_106 (K_106 : (Nat → Int32) → (Nat → Int32) → Int32 → (Nat → Int32) → (Nat → Int32) → (Nat → Int32) → (Nat → Int64) → Int32 → Int32 → Int32 → Int32 → Int32 → Option (Int32 × (Nat → Int32) × (Nat → Int32) × Int32 × (Nat → Int32) × (Nat → Int32) × (Nat → Int32) × (Nat → Int64))) (v10_firstOf : Nat → Int32) (v10_sizeOf : Nat → Int32) (v10_longOf : Nat → Int32) (v10_row : Nat → Int32) (v10_character : Nat → Int32) (v10_sum : Nat → Int32) (v10_coefficient : Nat → Int32) (v10_undone : Int32) (v10_wasSum : Nat → Int32) (v10_wasCoefficient : Nat → Int32) (v10_refusals : Nat → Int32) (v10_then : Nat → Int64) (y1 : Int32) (y2 : Int32) (y3 : Int32) (y4 : Int32) (y5 : Int32) : Option (Int32 × (Nat → Int32) × (Nat → Int32) × Int32 × (Nat → Int32) × (Nat → Int32) × (Nat → Int32) × (Nat → Int64)) := p_in y2 4 (p_b1 (f_X10_manyOf v10_firstOf (v10_sum (Int32.toNatClampNeg y2))) (fun r_13 => if r_13 ≤ y5 then ((f_X10_makes_180 v10_firstOf v10_sizeOf v10_longOf v10_row v10_character) v10_sum v10_coefficient v10_undone v10_wasSum v10_wasCoefficient v10_refusals v10_then y1 y2) else (if (2 : Int32) ≤ y4 then ((f_X10_makes_180 v10_firstOf v10_sizeOf v10_longOf v10_row v10_character) v10_sum v10_coefficient v10_undone v10_wasSum v10_wasCoefficient v10_refusals v10_then y1 y2) else (p_in (((22 : Int32) * y2) + y5) 88 (if y4 = 0 then ((f_X10_makes_158 K_106 v10_firstOf v10_sizeOf v10_longOf v10_row v10_character) v10_sum v10_coefficient v10_undone v10_wasSum v10_wasCoefficient v10_refusals v10_then y1 y2 y3 y4 y5 (1 : Int64) (Int32.toInt64 (v10_coefficient (Int32.toNatClampNeg (((22 : Int32) * y2) + y5)))) y5) else ((f_X10_makes_158 K_106 v10_firstOf v10_sizeOf v10_longOf v10_row v10_character) v10_sum v10_coefficient v10_undone v10_wasSum v10_wasCoefficient v10_refusals v10_then y1 y2 y3 y4 y5 (-1 : Int64) (Int32.toInt64 (v10_coefficient (Int32.toNatClampNeg (((22 : Int32) * y2) + y5)))) y5))))))
def f_X10_makes_106 (v10_firstOf : Nat → Int32) (v10_sizeOf : Nat → Int32) (v10_longOf : Nat → Int32) (v10_row : Nat → Int32) (v10_character : Nat → Int32) : Nat → (Nat → Int32) → (Nat → Int32) → Int32 → (Nat → Int32) → (Nat → Int32) → (Nat → Int32) → (Nat → Int64) → Int32 → Int32 → Int32 → Int32 → Int32 → Option (Int32 × (Nat → Int32) × (Nat → Int32) × Int32 × (Nat → Int32) × (Nat → Int32) × (Nat → Int32) × (Nat → Int64))
  | 0 => fun _ _ _ _ _ _ _ _ _ _ _ _ => none
  | n + 1 => gf_X10_makes_106 (f_X10_makes_106 v10_firstOf v10_sizeOf v10_longOf v10_row v10_character n) v10_firstOf v10_sizeOf v10_longOf v10_row v10_character
def f_X10_makes_103 (v10_firstOf : Nat → Int32) (v10_sizeOf : Nat → Int32) (v10_longOf : Nat → Int32) (v10_row : Nat → Int32) (v10_character : Nat → Int32) (v10_sum : Nat → Int32) (v10_coefficient : Nat → Int32) (v10_undone : Int32) (v10_wasSum : Nat → Int32) (v10_wasCoefficient : Nat → Int32) (v10_refusals : Nat → Int32) (v10_then : Nat → Int64) (y1 : Int32) (y2 : Int32) (y3 : Int32) (y4 : Int32) : Option (Int32 × (Nat → Int32) × (Nat → Int32) × Int32 × (Nat → Int32) × (Nat → Int32) × (Nat → Int32) × (Nat → Int64)) := (f_X10_makes_106 v10_firstOf v10_sizeOf v10_longOf v10_row v10_character 1000) v10_sum v10_coefficient v10_undone v10_wasSum v10_wasCoefficient v10_refusals v10_then y1 y2 y3 y4 (0 : Int32)
def f_X10_makes_21 (v10_firstOf : Nat → Int32) (v10_sizeOf : Nat → Int32) (v10_longOf : Nat → Int32) (v10_row : Nat → Int32) (v10_character : Nat → Int32) (v10_sum : Nat → Int32) (v10_coefficient : Nat → Int32) (v10_undone : Int32) (v10_wasSum : Nat → Int32) (v10_wasCoefficient : Nat → Int32) (v10_refusals : Nat → Int32) (v10_then : Nat → Int64) : Option (Int32 × (Nat → Int32) × (Nat → Int32) × Int32 × (Nat → Int32) × (Nat → Int32) × (Nat → Int32) × (Nat → Int64)) := p_b2 (f_X10_refused v10_refusals (-1 : Int32)) (fun r_19 v10_refusals_20 => some (r_19, v10_sum, v10_coefficient, v10_undone, v10_wasSum, v10_wasCoefficient, v10_refusals_20, v10_then))
def f_X10_makes (v10_firstOf : Nat → Int32) (v10_sizeOf : Nat → Int32) (v10_longOf : Nat → Int32) (v10_row : Nat → Int32) (v10_character : Nat → Int32) (v10_sum : Nat → Int32) (v10_coefficient : Nat → Int32) (v10_undone : Int32) (v10_wasSum : Nat → Int32) (v10_wasCoefficient : Nat → Int32) (v10_refusals : Nat → Int32) (v10_then : Nat → Int64) (x1 : Int32) (x2 : Int32) (x3 : Int32) (x4 : Int32) : Option (Int32 × (Nat → Int32) × (Nat → Int32) × Int32 × (Nat → Int32) × (Nat → Int32) × (Nat → Int32) × (Nat → Int64)) := p_b1 (f_X10_isSum x1) (fun r_22 => if r_22 = 0 then ((f_X10_makes_21 v10_firstOf v10_sizeOf v10_longOf v10_row v10_character) v10_sum v10_coefficient v10_undone v10_wasSum v10_wasCoefficient v10_refusals v10_then) else (p_b1 (f_X10_isSum x2) (fun r_26 => if r_26 = 0 then ((f_X10_makes_21 v10_firstOf v10_sizeOf v10_longOf v10_row v10_character) v10_sum v10_coefficient v10_undone v10_wasSum v10_wasCoefficient v10_refusals v10_then) else (p_b1 (f_X10_isSum x3) (fun r_30 => if r_30 = 0 then ((f_X10_makes_21 v10_firstOf v10_sizeOf v10_longOf v10_row v10_character) v10_sum v10_coefficient v10_undone v10_wasSum v10_wasCoefficient v10_refusals v10_then) else (p_b1 (f_X10_in x4 (0 : Int32) (2 : Int32)) (fun r_34 => if r_34 = 0 then (p_b2 (f_X10_refused v10_refusals (-2 : Int32)) (fun r_53 v10_refusals_54 => some (r_53, v10_sum, v10_coefficient, v10_undone, v10_wasSum, v10_wasCoefficient, v10_refusals_54, v10_then))) else (p_in x2 4 (if (v10_sum (Int32.toNatClampNeg x2)) < 0 then (some ((-11 : Int32), v10_sum, v10_coefficient, v10_undone, v10_wasSum, v10_wasCoefficient, v10_refusals, v10_then)) else (p_in x3 4 (if 0 ≤ (v10_sum (Int32.toNatClampNeg x3)) then (p_in x2 4 (p_in x3 4 (if (v10_sum (Int32.toNatClampNeg x2)) = (v10_sum (Int32.toNatClampNeg x3)) then (p_b1 (f_X10_thenNone v10_then) (fun v10_then_45 => if x4 = (2 : Int32) then (p_b1 (f_X10_multiplies v10_firstOf v10_sizeOf v10_longOf v10_row v10_character v10_sum v10_coefficient v10_then_45 x2 x3) (fun v10_then_48 => (f_X10_makes_103 v10_firstOf v10_sizeOf v10_longOf v10_row v10_character) v10_sum v10_coefficient v10_undone v10_wasSum v10_wasCoefficient v10_refusals v10_then_48 x1 x2 x3 x4)) else ((f_X10_makes_103 v10_firstOf v10_sizeOf v10_longOf v10_row v10_character) v10_sum v10_coefficient v10_undone v10_wasSum v10_wasCoefficient v10_refusals v10_then_45 x1 x2 x3 x4))) else (p_b2 (f_X10_refused v10_refusals (-3 : Int32)) (fun r_50 v10_refusals_51 => some (r_50, v10_sum, v10_coefficient, v10_undone, v10_wasSum, v10_wasCoefficient, v10_refusals_51, v10_then)))))) else (some ((-11 : Int32), v10_sum, v10_coefficient, v10_undone, v10_wasSum, v10_wasCoefficient, v10_refusals, v10_then)))))))))))))
set_option maxHeartbeats 4000000 in
set_option maxRecDepth 20000 in
theorem c_X10_makes (l : Launch) (D : va_G) (cyI cyJ : ClassId) (G a : Nat → Nat) (sz : Nat) (v10_firstOf : Nat → Int32) (v10_sizeOf : Nat → Int32) (v10_longOf : Nat → Int32) (v10_row : Nat → Int32) (v10_character : Nat → Int32) (v10_sum : Nat → Int32) (v10_coefficient : Nat → Int32) (v10_undone : Int32) (v10_wasSum : Nat → Int32) (v10_wasCoefficient : Nat → Int32) (v10_hasImage : Int32) (v10_letter : Nat → Int32) (v10_letters : Int32) (v10_list : Nat → Int32) (v10_cell : Nat → Int32) (v10_refusals : Nat → Int32) (v10_tried : Nat → Int32) (v10_left : Int32) (v10_high : Int32) (v10_then : Nat → Int64) (v10_at : Int32) (v10_readSize : Int32) (x1 : Int32) (x2 : Int32) (x3 : Int32) (x4 : Int32) (ro : Int32) (ov10_sum : Nat → Int32) (ov10_coefficient : Nat → Int32) (ov10_undone : Int32) (ov10_wasSum : Nat → Int32) (ov10_wasCoefficient : Nat → Int32) (ov10_refusals : Nat → Int32) (ov10_then : Nat → Int64) (hf : f_X10_makes v10_firstOf v10_sizeOf v10_longOf v10_row v10_character v10_sum v10_coefficient v10_undone v10_wasSum v10_wasCoefficient v10_refusals v10_then x1 x2 x3 x4 = some (ro, ov10_sum, ov10_coefficient, ov10_undone, ov10_wasSum, ov10_wasCoefficient, ov10_refusals, ov10_then)) : xm_i l yX10_makes (Cond.code yX10_makes cX10_makes 6 (some .int) :: xg_tbl) { frames := 4, cells := 0, slots := 0, locals := 101 } D xcl [(cyI, .int), (cyJ, .long)] G sz [.ref (a 28), .int x1, .int x2, .int x3, .int x4] (wd_X10 a cyI cyJ v10_firstOf v10_sizeOf v10_longOf v10_row v10_character v10_sum v10_coefficient v10_undone v10_wasSum v10_wasCoefficient v10_hasImage v10_letter v10_letters v10_list v10_cell v10_refusals v10_tried v10_left v10_high v10_then v10_at v10_readSize) (wd_X10 a cyI cyJ v10_firstOf v10_sizeOf v10_longOf v10_row v10_character ov10_sum ov10_coefficient ov10_undone ov10_wasSum ov10_wasCoefficient v10_hasImage v10_letter v10_letters v10_list v10_cell ov10_refusals v10_tried v10_left v10_high ov10_then v10_at v10_readSize) ro := by
  refine xm_of_i (own := RX10) (by decide) rfl rfl (Nat.le_of_ble_eq_true rfl) ?_
  intro p e s m args below meth c ls Q A hQ hAe hin Cx hsz hP hD hS hl
  have Cx1 := Cx
  obtain ⟨⟨hx, hb, hml, hown, hts⟩, hr, hlocks, hK, hA, hT⟩ := Cx1
  have hl : lv_has ls 6 [(0, .ref (a 28)), (1, .int x1), (2, .int x2), (3, .int x3), (4, .int x4)] := hl
  obtain ⟨H, eH⟩ : ∃ H, H = s.heap := ⟨_, rfl⟩
  obtain ⟨locs, eL⟩ : ∃ L : List Loc, L = [] := ⟨_, rfl⟩
  rw [← eH] at hP
  have hS : va_S A s.heap H locs := by rw [eH, eL]; exact hS
  suffices hgo : W p l e { frames := 4, cells := 0, slots := 0, locals := 101 } s m args below meth c H locs 0 0 Q (F0 m 0 ls []) by rw [eH, eL] at hgo; exact hgo
  clear eH eL
  unfold f_X10_makes at hf
  have w_103 : ∀ (v10_sum : Nat → Int32) (v10_coefficient : Nat → Int32) (v10_undone : Int32) (v10_wasSum : Nat → Int32) (v10_wasCoefficient : Nat → Int32) (v10_refusals : Nat → Int32) (v10_then : Nat → Int64) (y1 : Int32) (y2 : Int32) (y3 : Int32) (y4 : Int32) (H : Heap) (locs : List Loc) (ls : Array Slot), (f_X10_makes_103 v10_firstOf v10_sizeOf v10_longOf v10_row v10_character) v10_sum v10_coefficient v10_undone v10_wasSum v10_wasCoefficient v10_refusals v10_then y1 y2 y3 y4 = some (ro, ov10_sum, ov10_coefficient, ov10_undone, ov10_wasSum, ov10_wasCoefficient, ov10_refusals, ov10_then) → va_P D xcl (wd_X10 a cyI cyJ v10_firstOf v10_sizeOf v10_longOf v10_row v10_character v10_sum v10_coefficient v10_undone v10_wasSum v10_wasCoefficient v10_hasImage v10_letter v10_letters v10_list v10_cell v10_refusals v10_tried v10_left v10_high v10_then v10_at v10_readSize) H → va_D A (wd_X10 a cyI cyJ v10_firstOf v10_sizeOf v10_longOf v10_row v10_character v10_sum v10_coefficient v10_undone v10_wasSum v10_wasCoefficient v10_hasImage v10_letter v10_letters v10_list v10_cell v10_refusals v10_tried v10_left v10_high v10_then v10_at v10_readSize) → va_S A s.heap H locs → lv_has ls 6 [(0, .ref (a 28)), (1, .int y1), (2, .int y2), (3, .int y3), (4, .int y4)] → W p l e { frames := 4, cells := 0, slots := 0, locals := 101 } s m args below meth c H locs 0 0 Q (F0 m 103 ls []) := by
    intro v10_sum v10_coefficient v10_undone v10_wasSum v10_wasCoefficient v10_refusals v10_then y1 y2 y3 y4 H locs ls hf hP hD hS hl
    unfold f_X10_makes_103 at hf
    have w_106 : ∀ (n_106 : Nat) (v10_sum : Nat → Int32) (v10_coefficient : Nat → Int32) (v10_undone : Int32) (v10_wasSum : Nat → Int32) (v10_wasCoefficient : Nat → Int32) (v10_refusals : Nat → Int32) (v10_then : Nat → Int64) (y1 : Int32) (y2 : Int32) (y3 : Int32) (y4 : Int32) (y5 : Int32) (H : Heap) (locs : List Loc) (ls : Array Slot), (f_X10_makes_106 v10_firstOf v10_sizeOf v10_longOf v10_row v10_character) n_106 v10_sum v10_coefficient v10_undone v10_wasSum v10_wasCoefficient v10_refusals v10_then y1 y2 y3 y4 y5 = some (ro, ov10_sum, ov10_coefficient, ov10_undone, ov10_wasSum, ov10_wasCoefficient, ov10_refusals, ov10_then) → va_P D xcl (wd_X10 a cyI cyJ v10_firstOf v10_sizeOf v10_longOf v10_row v10_character v10_sum v10_coefficient v10_undone v10_wasSum v10_wasCoefficient v10_hasImage v10_letter v10_letters v10_list v10_cell v10_refusals v10_tried v10_left v10_high v10_then v10_at v10_readSize) H → va_D A (wd_X10 a cyI cyJ v10_firstOf v10_sizeOf v10_longOf v10_row v10_character v10_sum v10_coefficient v10_undone v10_wasSum v10_wasCoefficient v10_hasImage v10_letter v10_letters v10_list v10_cell v10_refusals v10_tried v10_left v10_high v10_then v10_at v10_readSize) → va_S A s.heap H locs → lv_has ls 6 [(0, .ref (a 28)), (1, .int y1), (2, .int y2), (3, .int y3), (4, .int y4), (5, .int y5)] → W p l e { frames := 4, cells := 0, slots := 0, locals := 101 } s m args below meth c H locs 0 0 Q (F0 m 106 ls []) := by
      intro n_106
      induction n_106 with
      | zero => intro v10_sum v10_coefficient v10_undone v10_wasSum v10_wasCoefficient v10_refusals v10_then y1 y2 y3 y4 y5 H locs ls hf; exact absurd hf (by intro h9; cases h9)
      | succ n_106 w_106 =>
        intro v10_sum v10_coefficient v10_undone v10_wasSum v10_wasCoefficient v10_refusals v10_then y1 y2 y3 y4 y5 H locs ls hf hP hD hS hl
        have hf : gf_X10_makes_106 ((f_X10_makes_106 v10_firstOf v10_sizeOf v10_longOf v10_row v10_character) n_106) v10_firstOf v10_sizeOf v10_longOf v10_row v10_character v10_sum v10_coefficient v10_undone v10_wasSum v10_wasCoefficient v10_refusals v10_then y1 y2 y3 y4 y5 = some (ro, ov10_sum, ov10_coefficient, ov10_undone, ov10_wasSum, ov10_wasCoefficient, ov10_refusals, ov10_then) := hf
        unfold gf_X10_makes_106 at hf
        have w_180 : ∀ (v10_sum : Nat → Int32) (v10_coefficient : Nat → Int32) (v10_undone : Int32) (v10_wasSum : Nat → Int32) (v10_wasCoefficient : Nat → Int32) (v10_refusals : Nat → Int32) (v10_then : Nat → Int64) (y1 : Int32) (y2 : Int32) (H : Heap) (locs : List Loc) (ls : Array Slot), (f_X10_makes_180 v10_firstOf v10_sizeOf v10_longOf v10_row v10_character) v10_sum v10_coefficient v10_undone v10_wasSum v10_wasCoefficient v10_refusals v10_then y1 y2 = some (ro, ov10_sum, ov10_coefficient, ov10_undone, ov10_wasSum, ov10_wasCoefficient, ov10_refusals, ov10_then) → va_P D xcl (wd_X10 a cyI cyJ v10_firstOf v10_sizeOf v10_longOf v10_row v10_character v10_sum v10_coefficient v10_undone v10_wasSum v10_wasCoefficient v10_hasImage v10_letter v10_letters v10_list v10_cell v10_refusals v10_tried v10_left v10_high v10_then v10_at v10_readSize) H → va_D A (wd_X10 a cyI cyJ v10_firstOf v10_sizeOf v10_longOf v10_row v10_character v10_sum v10_coefficient v10_undone v10_wasSum v10_wasCoefficient v10_hasImage v10_letter v10_letters v10_list v10_cell v10_refusals v10_tried v10_left v10_high v10_then v10_at v10_readSize) → va_S A s.heap H locs → lv_has ls 6 [(0, .ref (a 28)), (1, .int y1), (2, .int y2)] → W p l e { frames := 4, cells := 0, slots := 0, locals := 101 } s m args below meth c H locs 0 0 Q (F0 m 180 ls []) := by
          intro v10_sum v10_coefficient v10_undone v10_wasSum v10_wasCoefficient v10_refusals v10_then y1 y2 H locs ls hf hP hD hS hl
          unfold f_X10_makes_180 at hf
          refine lv_aload_n hx hb dX10_makes_180 rfl (lv_at hl 0 rfl) ?_
          refine lv_iload_n hx hb dX10_makes_181 rfl (lv_at hl 1 rfl) ?_
          refine lv_aload_n hx hb dX10_makes_182 rfl (lv_at hl 0 rfl) ?_
          refine va_get (ci := 10) (v := .ref (a 34)) hx hb hts wX10_in hown hK hP 0 rfl rfl 5 (by decide) (hts _ mw_4_197) (fun _ h9 => h9) rfl dX10_makes_183 ?_
          refine lv_iload_n hx hb dX10_makes_186 rfl (lv_at hl 2 rfl) ?_
          obtain ⟨hi_56, hf⟩ := pe_in hf
          refine va_iald hx hb hK hP 6 0 rfl rfl hi_56 dX10_makes_187 ?_
          obtain ⟨r_57, v10_sum_58, v10_coefficient_59, v10_undone_60, v10_wasSum_61, v10_wasCoefficient_62, v10_refusals_63, hk_64, hf⟩ := pe_7 hf
          refine xv_i (As := [.int y1, .int (v10_sum (Int32.toNatClampNeg y2))]) (rest := []) (q0 := 0) (ci := 10) Cx hP hD hS hl (pl_X10_X10 a cyI cyJ v10_firstOf v10_sizeOf v10_longOf v10_row v10_character v10_sum v10_coefficient v10_undone v10_wasSum v10_wasCoefficient v10_hasImage v10_letter v10_letters v10_list v10_cell v10_refusals v10_tried v10_left v10_high v10_then v10_at v10_readSize v10_firstOf v10_sizeOf v10_longOf v10_row v10_character v10_sum_58 v10_coefficient_59 v10_undone_60 v10_wasSum_61 v10_wasCoefficient_62 v10_hasImage v10_letter v10_letters v10_list v10_cell v10_refusals_63 v10_tried v10_left v10_high v10_then v10_at v10_readSize) (c_X10_becomes l D cyI cyJ G a H.size v10_firstOf v10_sizeOf v10_longOf v10_row v10_character v10_sum v10_coefficient v10_undone v10_wasSum v10_wasCoefficient v10_hasImage v10_letter v10_letters v10_list v10_cell v10_refusals v10_tried v10_left v10_high v10_then v10_at v10_readSize y1 (v10_sum (Int32.toNatClampNeg y2)) r_57 v10_sum_58 v10_coefficient_59 v10_undone_60 v10_wasSum_61 v10_wasCoefficient_62 v10_refusals_63 hk_64) pk_X10_becomes mw_5_171 ⟨rfl, rfl, Nat.le_of_ble_eq_true rfl, Nat.le_of_ble_eq_true rfl⟩ rfl rfl rfl rfl rfl (Nat.le_of_ble_eq_true rfl) ⟨Nat.le_of_ble_eq_true rfl, Nat.le_of_ble_eq_true rfl⟩ dX10_makes_188 (fun H locs hP hD hS => ?_)
          obtain ⟨rfl, rfl, rfl, rfl, rfl, rfl, rfl, rfl⟩ := po_8 hf
          rw [← hQ]; exact xe_iret Cx rfl hP hD hS dX10_makes_191
        have w_158 : ∀ (v10_sum : Nat → Int32) (v10_coefficient : Nat → Int32) (v10_undone : Int32) (v10_wasSum : Nat → Int32) (v10_wasCoefficient : Nat → Int32) (v10_refusals : Nat → Int32) (v10_then : Nat → Int64) (y1 : Int32) (y2 : Int32) (y3 : Int32) (y4 : Int32) (y5 : Int32) (z0 : Int64) (z1 : Int64) (z2 : Int32) (H : Heap) (locs : List Loc) (ls : Array Slot), (f_X10_makes_158 ((f_X10_makes_106 v10_firstOf v10_sizeOf v10_longOf v10_row v10_character) n_106) v10_firstOf v10_sizeOf v10_longOf v10_row v10_character) v10_sum v10_coefficient v10_undone v10_wasSum v10_wasCoefficient v10_refusals v10_then y1 y2 y3 y4 y5 z0 z1 z2 = some (ro, ov10_sum, ov10_coefficient, ov10_undone, ov10_wasSum, ov10_wasCoefficient, ov10_refusals, ov10_then) → va_P D xcl (wd_X10 a cyI cyJ v10_firstOf v10_sizeOf v10_longOf v10_row v10_character v10_sum v10_coefficient v10_undone v10_wasSum v10_wasCoefficient v10_hasImage v10_letter v10_letters v10_list v10_cell v10_refusals v10_tried v10_left v10_high v10_then v10_at v10_readSize) H → va_D A (wd_X10 a cyI cyJ v10_firstOf v10_sizeOf v10_longOf v10_row v10_character v10_sum v10_coefficient v10_undone v10_wasSum v10_wasCoefficient v10_hasImage v10_letter v10_letters v10_list v10_cell v10_refusals v10_tried v10_left v10_high v10_then v10_at v10_readSize) → va_S A s.heap H locs → lv_has ls 6 [(0, .ref (a 28)), (1, .int y1), (2, .int y2), (3, .int y3), (4, .int y4), (5, .int y5)] → W p l e { frames := 4, cells := 0, slots := 0, locals := 101 } s m args below meth c H locs 0 0 Q (F0 m 158 ls [.long z0, .long z1, .int z2, .ref (a 43)]) := by
          intro v10_sum v10_coefficient v10_undone v10_wasSum v10_wasCoefficient v10_refusals v10_then y1 y2 y3 y4 y5 z0 z1 z2 H locs ls hf hP hD hS hl
          unfold f_X10_makes_158 at hf
          refine lv_aload_n hx hb dX10_makes_158 rfl (lv_at hl 0 rfl) ?_
          refine va_get (ci := 10) (v := .ref (a 35)) hx hb hts wX10_in hown hK hP 0 rfl rfl 6 (by decide) (hts _ mw_4_198) (fun _ h9 => h9) rfl dX10_makes_159 ?_
          refine lv_bipush (v := (22 : Int32)) hx hb dX10_makes_162 (by decide) ?_
          refine lv_iload_n hx hb dX10_makes_164 rfl (lv_at hl 3 rfl) ?_
          refine lv_imul hx hb dX10_makes_165 ?_
          refine lv_iload hx hb dX10_makes_166 (lv_at hl 5 rfl) ?_
          refine lv_iadd hx hb dX10_makes_168 ?_
          obtain ⟨hi_65, hf⟩ := pe_in hf
          refine va_iald hx hb hK hP 7 0 rfl rfl hi_65 dX10_makes_169 ?_
          refine lv_i2l (v := Int32.toInt64 (v10_coefficient (Int32.toNatClampNeg (((22 : Int32) * y3) + y5)))) hx hb dX10_makes_170 rfl ?_
          refine lv_lmul hx hb dX10_makes_171 ?_
          refine lv_ladd hx hb dX10_makes_172 ?_
          obtain ⟨hi_66, hf⟩ := pe_in hf
          refine va_last hx hb hK hP hD hS 15 1 rfl rfl hi_66 dX10_makes_173 (fun H locs hP hD hS => ?_)
          have hP : va_P D xcl (wd_X10 a cyI cyJ v10_firstOf v10_sizeOf v10_longOf v10_row v10_character v10_sum v10_coefficient v10_undone v10_wasSum v10_wasCoefficient v10_hasImage v10_letter v10_letters v10_list v10_cell v10_refusals v10_tried v10_left v10_high (vp_updL v10_then (Int32.toNatClampNeg z2) (z1 + (z0 * (Int32.toInt64 (v10_coefficient (Int32.toNatClampNeg (((22 : Int32) * y3) + y5))))))) v10_at v10_readSize) H := hP
          have hD : va_D A (wd_X10 a cyI cyJ v10_firstOf v10_sizeOf v10_longOf v10_row v10_character v10_sum v10_coefficient v10_undone v10_wasSum v10_wasCoefficient v10_hasImage v10_letter v10_letters v10_list v10_cell v10_refusals v10_tried v10_left v10_high (vp_updL v10_then (Int32.toNatClampNeg z2) (z1 + (z0 * (Int32.toInt64 (v10_coefficient (Int32.toNatClampNeg (((22 : Int32) * y3) + y5))))))) v10_at v10_readSize) := hD
          refine lv_iinc (v := (y5 + (1 : Int32))) (lv' := [(5, .int (y5 + (1 : Int32))), (0, .ref (a 28)), (1, .int y1), (2, .int y2), (3, .int y3), (4, .int y4)]) hx hb dX10_makes_174 hl (k := 5) rfl rfl (by decide) rfl (fun ls hl => ?_)
          refine lv_goto (tgt := 106) hx hb dX10_makes_177 (by decide) ?_
          exact w_106 v10_sum v10_coefficient v10_undone v10_wasSum v10_wasCoefficient v10_refusals (vp_updL v10_then (Int32.toNatClampNeg z2) (z1 + (z0 * (Int32.toInt64 (v10_coefficient (Int32.toNatClampNeg (((22 : Int32) * y3) + y5))))))) y1 y2 y3 y4 (y5 + (1 : Int32)) H locs ls hf hP hD hS (lv_sub hl [1, 2, 3, 4, 5, 0] rfl)
        refine lv_iload hx hb dX10_makes_106 (lv_at hl 5 rfl) ?_
        refine lv_aload_n hx hb dX10_makes_108 rfl (lv_at hl 0 rfl) ?_
        refine lv_aload_n hx hb dX10_makes_109 rfl (lv_at hl 0 rfl) ?_
        refine va_get (ci := 10) (v := .ref (a 34)) hx hb hts wX10_in hown hK hP 0 rfl rfl 5 (by decide) (hts _ mw_4_197) (fun _ h9 => h9) rfl dX10_makes_110 ?_
        refine lv_iload_n hx hb dX10_makes_113 rfl (lv_at hl 2 rfl) ?_
        obtain ⟨hi_67, hf⟩ := pe_in hf
        refine va_iald hx hb hK hP 6 0 rfl rfl hi_67 dX10_makes_114 ?_
        obtain ⟨r_68, hk_69, hf⟩ := pe_1 hf
        refine xv_i (As := [.int (v10_sum (Int32.toNatClampNeg y2))]) (rest := [.int y5]) (q0 := 0) (ci := 10) Cx hP hD hS hl (pl_X10_X10 a cyI cyJ v10_firstOf v10_sizeOf v10_longOf v10_row v10_character v10_sum v10_coefficient v10_undone v10_wasSum v10_wasCoefficient v10_hasImage v10_letter v10_letters v10_list v10_cell v10_refusals v10_tried v10_left v10_high v10_then v10_at v10_readSize v10_firstOf v10_sizeOf v10_longOf v10_row v10_character v10_sum v10_coefficient v10_undone v10_wasSum v10_wasCoefficient v10_hasImage v10_letter v10_letters v10_list v10_cell v10_refusals v10_tried v10_left v10_high v10_then v10_at v10_readSize) (c_X10_manyOf l D cyI cyJ G a H.size v10_firstOf v10_sizeOf v10_longOf v10_row v10_character v10_sum v10_coefficient v10_undone v10_wasSum v10_wasCoefficient v10_hasImage v10_letter v10_letters v10_list v10_cell v10_refusals v10_tried v10_left v10_high v10_then v10_at v10_readSize (v10_sum (Int32.toNatClampNeg y2)) r_68 hk_69) pk_X10_manyOf mw_5_63 ⟨rfl, rfl, Nat.le_of_ble_eq_true rfl, Nat.le_of_ble_eq_true rfl⟩ rfl rfl rfl rfl rfl (Nat.le_of_ble_eq_true rfl) ⟨Nat.le_of_ble_eq_true rfl, Nat.le_of_ble_eq_true rfl⟩ dX10_makes_115 (fun H locs hP hD hS => ?_)
        refine lv_icmp_ge (tgt := 180) hx hb dX10_makes_118 (by decide) (fun hc_70 => ?_) (fun hc_70 => ?_)
        · have hf := pe_t hf hc_70
          exact w_180 v10_sum v10_coefficient v10_undone v10_wasSum v10_wasCoefficient v10_refusals v10_then y1 y2 H locs ls hf hP hD hS (lv_sub hl [0, 1, 2] rfl)
        · have hf := pe_f hf hc_70
          refine lv_iload hx hb dX10_makes_121 (lv_at hl 4 rfl) ?_
          refine lv_iconst (v := (2 : Int32)) hx hb dX10_makes_123 (by decide) ?_
          refine lv_icmp_ge (tgt := 180) hx hb dX10_makes_124 (by decide) (fun hc_71 => ?_) (fun hc_71 => ?_)
          · have hf := pe_t hf hc_71
            exact w_180 v10_sum v10_coefficient v10_undone v10_wasSum v10_wasCoefficient v10_refusals v10_then y1 y2 H locs ls hf hP hD hS (lv_sub hl [0, 1, 2] rfl)
          · have hf := pe_f hf hc_71
            refine lv_aload_n hx hb dX10_makes_127 rfl (lv_at hl 0 rfl) ?_
            refine va_get (ci := 10) (v := .ref (a 43)) hx hb hts wX10_in hown hK hP 0 rfl rfl 19 (by decide) (hts _ mw_4_211) (fun _ h9 => h9) rfl dX10_makes_128 ?_
            refine lv_iload hx hb dX10_makes_131 (lv_at hl 5 rfl) ?_
            refine lv_aload_n hx hb dX10_makes_133 rfl (lv_at hl 0 rfl) ?_
            refine va_get (ci := 10) (v := .ref (a 35)) hx hb hts wX10_in hown hK hP 0 rfl rfl 6 (by decide) (hts _ mw_4_198) (fun _ h9 => h9) rfl dX10_makes_134 ?_
            refine lv_bipush (v := (22 : Int32)) hx hb dX10_makes_137 (by decide) ?_
            refine lv_iload_n hx hb dX10_makes_139 rfl (lv_at hl 2 rfl) ?_
            refine lv_imul hx hb dX10_makes_140 ?_
            refine lv_iload hx hb dX10_makes_141 (lv_at hl 5 rfl) ?_
            refine lv_iadd hx hb dX10_makes_143 ?_
            obtain ⟨hi_72, hf⟩ := pe_in hf
            refine va_iald hx hb hK hP 7 0 rfl rfl hi_72 dX10_makes_144 ?_
            refine lv_i2l (v := Int32.toInt64 (v10_coefficient (Int32.toNatClampNeg (((22 : Int32) * y2) + y5)))) hx hb dX10_makes_145 rfl ?_
            refine lv_iload hx hb dX10_makes_146 (lv_at hl 4 rfl) ?_
            refine lv_if_ne (tgt := 155) hx hb dX10_makes_148 (by decide) (fun hc_73 => ?_) (fun hc_73 => ?_)
            · have hf := pe_f hf hc_73
              refine lv_ldc2 (v := (-1 : Int64)) hx hb hown (hts _ mw_5_214) dX10_makes_155 ?_
              exact w_158 v10_sum v10_coefficient v10_undone v10_wasSum v10_wasCoefficient v10_refusals v10_then y1 y2 y3 y4 y5 (-1 : Int64) (Int32.toInt64 (v10_coefficient (Int32.toNatClampNeg (((22 : Int32) * y2) + y5)))) y5 H locs ls hf hP hD hS (lv_sub hl [0, 1, 2, 3, 4, 5] rfl)
            · have hf := pe_t hf hc_73
              refine lv_lconst (v := (1 : Int64)) hx hb dX10_makes_151 (by decide) ?_
              refine lv_goto (tgt := 158) hx hb dX10_makes_152 (by decide) ?_
              exact w_158 v10_sum v10_coefficient v10_undone v10_wasSum v10_wasCoefficient v10_refusals v10_then y1 y2 y3 y4 y5 (1 : Int64) (Int32.toInt64 (v10_coefficient (Int32.toNatClampNeg (((22 : Int32) * y2) + y5)))) y5 H locs ls hf hP hD hS (lv_sub hl [0, 1, 2, 3, 4, 5] rfl)
    refine lv_iconst (v := (0 : Int32)) hx hb dX10_makes_103 (by decide) ?_
    refine lv_istore (lv' := [(5, .int (0 : Int32)), (0, .ref (a 28)), (1, .int y1), (2, .int y2), (3, .int y3), (4, .int y4)]) hx hb dX10_makes_104 hl (by decide) rfl (fun ls hl => ?_)
    exact w_106 1000 v10_sum v10_coefficient v10_undone v10_wasSum v10_wasCoefficient v10_refusals v10_then y1 y2 y3 y4 (0 : Int32) H locs ls hf hP hD hS (lv_sub hl [1, 2, 3, 4, 5, 0] rfl)
  have w_21 : ∀ (v10_sum : Nat → Int32) (v10_coefficient : Nat → Int32) (v10_undone : Int32) (v10_wasSum : Nat → Int32) (v10_wasCoefficient : Nat → Int32) (v10_refusals : Nat → Int32) (v10_then : Nat → Int64) (H : Heap) (locs : List Loc) (ls : Array Slot), (f_X10_makes_21 v10_firstOf v10_sizeOf v10_longOf v10_row v10_character) v10_sum v10_coefficient v10_undone v10_wasSum v10_wasCoefficient v10_refusals v10_then = some (ro, ov10_sum, ov10_coefficient, ov10_undone, ov10_wasSum, ov10_wasCoefficient, ov10_refusals, ov10_then) → va_P D xcl (wd_X10 a cyI cyJ v10_firstOf v10_sizeOf v10_longOf v10_row v10_character v10_sum v10_coefficient v10_undone v10_wasSum v10_wasCoefficient v10_hasImage v10_letter v10_letters v10_list v10_cell v10_refusals v10_tried v10_left v10_high v10_then v10_at v10_readSize) H → va_D A (wd_X10 a cyI cyJ v10_firstOf v10_sizeOf v10_longOf v10_row v10_character v10_sum v10_coefficient v10_undone v10_wasSum v10_wasCoefficient v10_hasImage v10_letter v10_letters v10_list v10_cell v10_refusals v10_tried v10_left v10_high v10_then v10_at v10_readSize) → va_S A s.heap H locs → lv_has ls 6 [(0, .ref (a 28))] → W p l e { frames := 4, cells := 0, slots := 0, locals := 101 } s m args below meth c H locs 0 0 Q (F0 m 21 ls []) := by
    intro v10_sum v10_coefficient v10_undone v10_wasSum v10_wasCoefficient v10_refusals v10_then H locs ls hf hP hD hS hl
    unfold f_X10_makes_21 at hf
    refine lv_aload_n hx hb dX10_makes_21 rfl (lv_at hl 0 rfl) ?_
    refine lv_iconst (v := (-1 : Int32)) hx hb dX10_makes_22 (by decide) ?_
    obtain ⟨r_74, v10_refusals_75, hk_76, hf⟩ := pe_2 hf
    refine xv_i (As := [.int (-1 : Int32)]) (rest := []) (q0 := 0) (ci := 10) Cx hP hD hS hl (pl_X10_X10 a cyI cyJ v10_firstOf v10_sizeOf v10_longOf v10_row v10_character v10_sum v10_coefficient v10_undone v10_wasSum v10_wasCoefficient v10_hasImage v10_letter v10_letters v10_list v10_cell v10_refusals v10_tried v10_left v10_high v10_then v10_at v10_readSize v10_firstOf v10_sizeOf v10_longOf v10_row v10_character v10_sum v10_coefficient v10_undone v10_wasSum v10_wasCoefficient v10_hasImage v10_letter v10_letters v10_list v10_cell v10_refusals_75 v10_tried v10_left v10_high v10_then v10_at v10_readSize) (c_X10_refused l D cyI cyJ G a H.size v10_firstOf v10_sizeOf v10_longOf v10_row v10_character v10_sum v10_coefficient v10_undone v10_wasSum v10_wasCoefficient v10_hasImage v10_letter v10_letters v10_list v10_cell v10_refusals v10_tried v10_left v10_high v10_then v10_at v10_readSize (-1 : Int32) r_74 v10_refusals_75 hk_76) pk_X10_refused mw_5_29 ⟨rfl, rfl, Nat.le_of_ble_eq_true rfl, Nat.le_of_ble_eq_true rfl⟩ rfl rfl rfl rfl rfl (Nat.le_of_ble_eq_true rfl) ⟨Nat.le_of_ble_eq_true rfl, Nat.le_of_ble_eq_true rfl⟩ dX10_makes_23 (fun H locs hP hD hS => ?_)
    obtain ⟨rfl, rfl, rfl, rfl, rfl, rfl, rfl, rfl⟩ := po_8 hf
    rw [← hQ]; exact xe_iret Cx rfl hP hD hS dX10_makes_26
  refine lv_iload_n hx hb dX10_makes_0 rfl (lv_at hl 1 rfl) ?_
  obtain ⟨r_77, hk_78, hf⟩ := pe_1 hf
  refine xw_z (As := [.int x1]) (rest := []) Cx hP hD hS hl (xq_none _) (c_X10_isSum l D cyI cyJ G H.size x1 r_77 hk_78) pk_X10_isSum mw_5_152 ⟨rfl, rfl, Nat.le_of_ble_eq_true rfl, Nat.le_of_ble_eq_true rfl⟩ rfl rfl (Nat.le_of_ble_eq_true rfl) ⟨Nat.le_of_ble_eq_true rfl, Nat.le_of_ble_eq_true rfl⟩ dX10_makes_1 (fun H locs hn_79 hP hD hS => ?_)
  refine lv_if_eq (tgt := 21) hx hb dX10_makes_4 (by decide) (fun hc_80 => ?_) (fun hc_80 => ?_)
  · have hf := pe_t hf hc_80
    exact w_21 v10_sum v10_coefficient v10_undone v10_wasSum v10_wasCoefficient v10_refusals v10_then H locs ls hf hP hD hS (lv_sub hl [0] rfl)
  · have hf := pe_f hf hc_80
    refine lv_iload_n hx hb dX10_makes_7 rfl (lv_at hl 2 rfl) ?_
    obtain ⟨r_81, hk_82, hf⟩ := pe_1 hf
    refine xw_z (As := [.int x2]) (rest := []) Cx hP hD hS hl (xq_none _) (c_X10_isSum l D cyI cyJ G H.size x2 r_81 hk_82) pk_X10_isSum mw_5_152 ⟨rfl, rfl, Nat.le_of_ble_eq_true rfl, Nat.le_of_ble_eq_true rfl⟩ rfl rfl (Nat.le_of_ble_eq_true rfl) ⟨Nat.le_of_ble_eq_true rfl, Nat.le_of_ble_eq_true rfl⟩ dX10_makes_8 (fun H locs hn_83 hP hD hS => ?_)
    refine lv_if_eq (tgt := 21) hx hb dX10_makes_11 (by decide) (fun hc_84 => ?_) (fun hc_84 => ?_)
    · have hf := pe_t hf hc_84
      exact w_21 v10_sum v10_coefficient v10_undone v10_wasSum v10_wasCoefficient v10_refusals v10_then H locs ls hf hP hD hS (lv_sub hl [0] rfl)
    · have hf := pe_f hf hc_84
      refine lv_iload_n hx hb dX10_makes_14 rfl (lv_at hl 3 rfl) ?_
      obtain ⟨r_85, hk_86, hf⟩ := pe_1 hf
      refine xw_z (As := [.int x3]) (rest := []) Cx hP hD hS hl (xq_none _) (c_X10_isSum l D cyI cyJ G H.size x3 r_85 hk_86) pk_X10_isSum mw_5_152 ⟨rfl, rfl, Nat.le_of_ble_eq_true rfl, Nat.le_of_ble_eq_true rfl⟩ rfl rfl (Nat.le_of_ble_eq_true rfl) ⟨Nat.le_of_ble_eq_true rfl, Nat.le_of_ble_eq_true rfl⟩ dX10_makes_15 (fun H locs hn_87 hP hD hS => ?_)
      refine lv_if_ne (tgt := 27) hx hb dX10_makes_18 (by decide) (fun hc_88 => ?_) (fun hc_88 => ?_)
      · have hf := pe_f hf hc_88
        refine lv_iload hx hb dX10_makes_27 (lv_at hl 4 rfl) ?_
        refine lv_iconst (v := (0 : Int32)) hx hb dX10_makes_29 (by decide) ?_
        refine lv_iconst (v := (2 : Int32)) hx hb dX10_makes_30 (by decide) ?_
        obtain ⟨r_89, hk_90, hf⟩ := pe_1 hf
        refine xw_z (As := [.int x4, .int (0 : Int32), .int (2 : Int32)]) (rest := []) Cx hP hD hS hl (xq_none _) (c_X10_in l D cyI cyJ G H.size x4 (0 : Int32) (2 : Int32) r_89 hk_90) pk_X10_in mw_5_26 ⟨rfl, rfl, Nat.le_of_ble_eq_true rfl, Nat.le_of_ble_eq_true rfl⟩ rfl rfl (Nat.le_of_ble_eq_true rfl) ⟨Nat.le_of_ble_eq_true rfl, Nat.le_of_ble_eq_true rfl⟩ dX10_makes_31 (fun H locs hn_91 hP hD hS => ?_)
        refine lv_if_ne (tgt := 44) hx hb dX10_makes_34 (by decide) (fun hc_92 => ?_) (fun hc_92 => ?_)
        · have hf := pe_f hf hc_92
          refine lv_aload_n hx hb dX10_makes_44 rfl (lv_at hl 0 rfl) ?_
          refine va_get (ci := 10) (v := .ref (a 34)) hx hb hts wX10_in hown hK hP 0 rfl rfl 5 (by decide) (hts _ mw_4_197) (fun _ h9 => h9) rfl dX10_makes_45 ?_
          refine lv_iload_n hx hb dX10_makes_48 rfl (lv_at hl 2 rfl) ?_
          obtain ⟨hi_93, hf⟩ := pe_in hf
          refine va_iald hx hb hK hP 6 0 rfl rfl hi_93 dX10_makes_49 ?_
          refine lv_if_lt (tgt := 62) hx hb dX10_makes_50 (by decide) (fun hc_94 => ?_) (fun hc_94 => ?_)
          · have hf := pe_t hf hc_94
            refine lv_bipush (v := (-11 : Int32)) hx hb dX10_makes_62 (by decide) ?_
            obtain ⟨rfl, rfl, rfl, rfl, rfl, rfl, rfl, rfl⟩ := po_8 hf
            rw [← hQ]; exact xe_iret Cx rfl hP hD hS dX10_makes_64
          · have hf := pe_f hf hc_94
            refine lv_aload_n hx hb dX10_makes_53 rfl (lv_at hl 0 rfl) ?_
            refine va_get (ci := 10) (v := .ref (a 34)) hx hb hts wX10_in hown hK hP 0 rfl rfl 5 (by decide) (hts _ mw_4_197) (fun _ h9 => h9) rfl dX10_makes_54 ?_
            refine lv_iload_n hx hb dX10_makes_57 rfl (lv_at hl 3 rfl) ?_
            obtain ⟨hi_95, hf⟩ := pe_in hf
            refine va_iald hx hb hK hP 6 0 rfl rfl hi_95 dX10_makes_58 ?_
            refine lv_if_ge (tgt := 65) hx hb dX10_makes_59 (by decide) (fun hc_96 => ?_) (fun hc_96 => ?_)
            · have hf := pe_t hf hc_96
              refine lv_aload_n hx hb dX10_makes_65 rfl (lv_at hl 0 rfl) ?_
              refine va_get (ci := 10) (v := .ref (a 34)) hx hb hts wX10_in hown hK hP 0 rfl rfl 5 (by decide) (hts _ mw_4_197) (fun _ h9 => h9) rfl dX10_makes_66 ?_
              refine lv_iload_n hx hb dX10_makes_69 rfl (lv_at hl 2 rfl) ?_
              obtain ⟨hi_97, hf⟩ := pe_in hf
              refine va_iald hx hb hK hP 6 0 rfl rfl hi_97 dX10_makes_70 ?_
              refine lv_aload_n hx hb dX10_makes_71 rfl (lv_at hl 0 rfl) ?_
              refine va_get (ci := 10) (v := .ref (a 34)) hx hb hts wX10_in hown hK hP 0 rfl rfl 5 (by decide) (hts _ mw_4_197) (fun _ h9 => h9) rfl dX10_makes_72 ?_
              refine lv_iload_n hx hb dX10_makes_75 rfl (lv_at hl 3 rfl) ?_
              obtain ⟨hi_98, hf⟩ := pe_in hf
              refine va_iald hx hb hK hP 6 0 rfl rfl hi_98 dX10_makes_76 ?_
              refine lv_icmp_eq (tgt := 87) hx hb dX10_makes_77 (by decide) (fun hc_99 => ?_) (fun hc_99 => ?_)
              · have hf := pe_t hf hc_99
                refine lv_aload_n hx hb dX10_makes_87 rfl (lv_at hl 0 rfl) ?_
                obtain ⟨v10_then_100, hk_101, hf⟩ := pe_1 hf
                refine xv_v (As := []) (rest := []) (q0 := 0) (ci := 10) Cx hP hD hS hl (pl_X10_X10 a cyI cyJ v10_firstOf v10_sizeOf v10_longOf v10_row v10_character v10_sum v10_coefficient v10_undone v10_wasSum v10_wasCoefficient v10_hasImage v10_letter v10_letters v10_list v10_cell v10_refusals v10_tried v10_left v10_high v10_then v10_at v10_readSize v10_firstOf v10_sizeOf v10_longOf v10_row v10_character v10_sum v10_coefficient v10_undone v10_wasSum v10_wasCoefficient v10_hasImage v10_letter v10_letters v10_list v10_cell v10_refusals v10_tried v10_left v10_high v10_then_100 v10_at v10_readSize) (c_X10_thenNone l D cyI cyJ G a H.size v10_firstOf v10_sizeOf v10_longOf v10_row v10_character v10_sum v10_coefficient v10_undone v10_wasSum v10_wasCoefficient v10_hasImage v10_letter v10_letters v10_list v10_cell v10_refusals v10_tried v10_left v10_high v10_then v10_at v10_readSize v10_then_100 hk_101) pk_X10_thenNone mw_5_159 ⟨rfl, rfl, Nat.le_of_ble_eq_true rfl, Nat.le_of_ble_eq_true rfl⟩ rfl rfl rfl rfl rfl (Nat.le_of_ble_eq_true rfl) ⟨Nat.le_of_ble_eq_true rfl, Nat.le_of_ble_eq_true rfl⟩ dX10_makes_88 (fun H locs hP hD hS => ?_)
                refine lv_iload hx hb dX10_makes_91 (lv_at hl 4 rfl) ?_
                refine lv_iconst (v := (2 : Int32)) hx hb dX10_makes_93 (by decide) ?_
                refine lv_icmp_ne (tgt := 103) hx hb dX10_makes_94 (by decide) (fun hc_102 => ?_) (fun hc_102 => ?_)
                · have hf := pe_f hf hc_102
                  exact w_103 v10_sum v10_coefficient v10_undone v10_wasSum v10_wasCoefficient v10_refusals v10_then_100 x1 x2 x3 x4 H locs ls hf hP hD hS (lv_sub hl [0, 1, 2, 3, 4] rfl)
                · have hf := pe_t hf hc_102
                  refine lv_aload_n hx hb dX10_makes_97 rfl (lv_at hl 0 rfl) ?_
                  refine lv_iload_n hx hb dX10_makes_98 rfl (lv_at hl 2 rfl) ?_
                  refine lv_iload_n hx hb dX10_makes_99 rfl (lv_at hl 3 rfl) ?_
                  obtain ⟨v10_then_103, hk_104, hf⟩ := pe_1 hf
                  refine xv_v (As := [.int x2, .int x3]) (rest := []) (q0 := 0) (ci := 10) Cx hP hD hS hl (pl_X10_X10 a cyI cyJ v10_firstOf v10_sizeOf v10_longOf v10_row v10_character v10_sum v10_coefficient v10_undone v10_wasSum v10_wasCoefficient v10_hasImage v10_letter v10_letters v10_list v10_cell v10_refusals v10_tried v10_left v10_high v10_then_100 v10_at v10_readSize v10_firstOf v10_sizeOf v10_longOf v10_row v10_character v10_sum v10_coefficient v10_undone v10_wasSum v10_wasCoefficient v10_hasImage v10_letter v10_letters v10_list v10_cell v10_refusals v10_tried v10_left v10_high v10_then_103 v10_at v10_readSize) (c_X10_multiplies l D cyI cyJ G a H.size v10_firstOf v10_sizeOf v10_longOf v10_row v10_character v10_sum v10_coefficient v10_undone v10_wasSum v10_wasCoefficient v10_hasImage v10_letter v10_letters v10_list v10_cell v10_refusals v10_tried v10_left v10_high v10_then_100 v10_at v10_readSize x2 x3 v10_then_103 hk_104) pk_X10_multiplies mw_5_210 ⟨rfl, rfl, Nat.le_of_ble_eq_true rfl, Nat.le_of_ble_eq_true rfl⟩ rfl rfl rfl rfl rfl (Nat.le_of_ble_eq_true rfl) ⟨Nat.le_of_ble_eq_true rfl, Nat.le_of_ble_eq_true rfl⟩ dX10_makes_100 (fun H locs hP hD hS => ?_)
                  exact w_103 v10_sum v10_coefficient v10_undone v10_wasSum v10_wasCoefficient v10_refusals v10_then_103 x1 x2 x3 x4 H locs ls hf hP hD hS (lv_sub hl [0, 1, 2, 3, 4] rfl)
              · have hf := pe_f hf hc_99
                refine lv_aload_n hx hb dX10_makes_80 rfl (lv_at hl 0 rfl) ?_
                refine lv_bipush (v := (-3 : Int32)) hx hb dX10_makes_81 (by decide) ?_
                obtain ⟨r_105, v10_refusals_106, hk_107, hf⟩ := pe_2 hf
                refine xv_i (As := [.int (-3 : Int32)]) (rest := []) (q0 := 0) (ci := 10) Cx hP hD hS hl (pl_X10_X10 a cyI cyJ v10_firstOf v10_sizeOf v10_longOf v10_row v10_character v10_sum v10_coefficient v10_undone v10_wasSum v10_wasCoefficient v10_hasImage v10_letter v10_letters v10_list v10_cell v10_refusals v10_tried v10_left v10_high v10_then v10_at v10_readSize v10_firstOf v10_sizeOf v10_longOf v10_row v10_character v10_sum v10_coefficient v10_undone v10_wasSum v10_wasCoefficient v10_hasImage v10_letter v10_letters v10_list v10_cell v10_refusals_106 v10_tried v10_left v10_high v10_then v10_at v10_readSize) (c_X10_refused l D cyI cyJ G a H.size v10_firstOf v10_sizeOf v10_longOf v10_row v10_character v10_sum v10_coefficient v10_undone v10_wasSum v10_wasCoefficient v10_hasImage v10_letter v10_letters v10_list v10_cell v10_refusals v10_tried v10_left v10_high v10_then v10_at v10_readSize (-3 : Int32) r_105 v10_refusals_106 hk_107) pk_X10_refused mw_5_29 ⟨rfl, rfl, Nat.le_of_ble_eq_true rfl, Nat.le_of_ble_eq_true rfl⟩ rfl rfl rfl rfl rfl (Nat.le_of_ble_eq_true rfl) ⟨Nat.le_of_ble_eq_true rfl, Nat.le_of_ble_eq_true rfl⟩ dX10_makes_83 (fun H locs hP hD hS => ?_)
                obtain ⟨rfl, rfl, rfl, rfl, rfl, rfl, rfl, rfl⟩ := po_8 hf
                rw [← hQ]; exact xe_iret Cx rfl hP hD hS dX10_makes_86
            · have hf := pe_f hf hc_96
              refine lv_bipush (v := (-11 : Int32)) hx hb dX10_makes_62 (by decide) ?_
              obtain ⟨rfl, rfl, rfl, rfl, rfl, rfl, rfl, rfl⟩ := po_8 hf
              rw [← hQ]; exact xe_iret Cx rfl hP hD hS dX10_makes_64
        · have hf := pe_t hf hc_92
          refine lv_aload_n hx hb dX10_makes_37 rfl (lv_at hl 0 rfl) ?_
          refine lv_bipush (v := (-2 : Int32)) hx hb dX10_makes_38 (by decide) ?_
          obtain ⟨r_108, v10_refusals_109, hk_110, hf⟩ := pe_2 hf
          refine xv_i (As := [.int (-2 : Int32)]) (rest := []) (q0 := 0) (ci := 10) Cx hP hD hS hl (pl_X10_X10 a cyI cyJ v10_firstOf v10_sizeOf v10_longOf v10_row v10_character v10_sum v10_coefficient v10_undone v10_wasSum v10_wasCoefficient v10_hasImage v10_letter v10_letters v10_list v10_cell v10_refusals v10_tried v10_left v10_high v10_then v10_at v10_readSize v10_firstOf v10_sizeOf v10_longOf v10_row v10_character v10_sum v10_coefficient v10_undone v10_wasSum v10_wasCoefficient v10_hasImage v10_letter v10_letters v10_list v10_cell v10_refusals_109 v10_tried v10_left v10_high v10_then v10_at v10_readSize) (c_X10_refused l D cyI cyJ G a H.size v10_firstOf v10_sizeOf v10_longOf v10_row v10_character v10_sum v10_coefficient v10_undone v10_wasSum v10_wasCoefficient v10_hasImage v10_letter v10_letters v10_list v10_cell v10_refusals v10_tried v10_left v10_high v10_then v10_at v10_readSize (-2 : Int32) r_108 v10_refusals_109 hk_110) pk_X10_refused mw_5_29 ⟨rfl, rfl, Nat.le_of_ble_eq_true rfl, Nat.le_of_ble_eq_true rfl⟩ rfl rfl rfl rfl rfl (Nat.le_of_ble_eq_true rfl) ⟨Nat.le_of_ble_eq_true rfl, Nat.le_of_ble_eq_true rfl⟩ dX10_makes_40 (fun H locs hP hD hS => ?_)
          obtain ⟨rfl, rfl, rfl, rfl, rfl, rfl, rfl, rfl⟩ := po_8 hf
          rw [← hQ]; exact xe_iret Cx rfl hP hD hS dX10_makes_43
      · have hf := pe_t hf hc_88
        exact w_21 v10_sum v10_coefficient v10_undone v10_wasSum v10_wasCoefficient v10_refusals v10_then H locs ls hf hP hD hS (lv_sub hl [0] rfl)
def f_X10_changed_323 (v10_firstOf : Nat → Int32) (v10_sizeOf : Nat → Int32) (v10_longOf : Nat → Int32) (v10_row : Nat → Int32) (v10_sum : Nat → Int32) (v10_coefficient : Nat → Int32) (v10_undone : Int32) (v10_wasSum : Nat → Int32) (v10_wasCoefficient : Nat → Int32) (v10_refusals : Nat → Int32) (v10_tried : Nat → Int32) (v10_left : Int32) (v10_high : Int32) (v10_then : Nat → Int64) (y1 : Int32) (y3 : Int32) : Option (Int32 × (Nat → Int32) × (Nat → Int32) × Int32 × (Nat → Int32) × (Nat → Int32) × (Nat → Int32) × (Nat → Int32) × Int32 × Int32 × (Nat → Int64)) := p_b7 (f_X10_becomes v10_firstOf v10_sum v10_coefficient v10_undone v10_wasSum v10_wasCoefficient v10_refusals v10_then y1 y3) (fun r_1 v10_sum_2 v10_coefficient_3 v10_undone_4 v10_wasSum_5 v10_wasCoefficient_6 v10_refusals_7 => some (r_1, v10_sum_2, v10_coefficient_3, v10_undone_4, v10_wasSum_5, v10_wasCoefficient_6, v10_refusals_7, v10_tried, v10_left, v10_high, v10_then))
def gf_X10_changed_231 (K_231 : (Nat → Int32) → (Nat → Int32) → Int32 → (Nat → Int32) → (Nat → Int32) → (Nat → Int32) → (Nat → Int32) → Int32 → Int32 → (Nat → Int64) → Int32 → Int32 → Int32 → Int32 → Int32 → Int32 → Int32 → Option (Int32 × (Nat → Int32) × (Nat → Int32) × Int32 × (Nat → Int32) × (Nat → Int32) × (Nat → Int32) × (Nat → Int32) × Int32 × Int32 × (Nat → Int64))) (K_207 : (Nat → Int32) → (Nat → Int32) → Int32 → (Nat → Int32) → (Nat → Int32) → (Nat → Int32) → (Nat → Int32) → Int32 → Int32 → (Nat → Int64) → Int32 → Int32 → Int32 → Int32 → Int32 → Option (Int32 × (Nat → Int32) × (Nat → Int32) × Int32 × (Nat → Int32) × (Nat → Int32) × (Nat → Int32) × (Nat → Int32) × Int32 × Int32 × (Nat → Int64))) (v10_firstOf : Nat → Int32) (v10_sizeOf : Nat → Int32) (v10_longOf : Nat → Int32) (v10_row : Nat → Int32) (v10_sum : Nat → Int32) (v10_coefficient : Nat → Int32) (v10_undone : Int32) (v10_wasSum : Nat → Int32) (v10_wasCoefficient : Nat → Int32) (v10_refusals : Nat → Int32) (v10_tried : Nat → Int32) (v10_left : Int32) (v10_high : Int32) (v10_then : Nat → Int64) (y1 : Int32) (y2 : Int32) (y3 : Int32) (y5 : Int32) (y6 : Int32) (y7 : Int32) (y8 : Int32) : Option (Int32 × (Nat → Int32) × (Nat → Int32) × Int32 × (Nat → Int32) × (Nat → Int32) × (Nat → Int32) × (Nat → Int32) × Int32 × Int32 × (Nat → Int64)) := if y7 ≤ y8 then (K_207 v10_sum v10_coefficient v10_undone v10_wasSum v10_wasCoefficient v10_refusals v10_tried v10_left v10_high v10_then y1 y2 y3 y5 (y6 + (1 : Int32))) else (p_b4 (f_X10_rimOf v10_longOf v10_row v10_tried v10_left v10_high y6 (1 : Int32) y8) (fun r_10 v10_tried_11 v10_left_12 v10_high_13 => if y2 = (1 : Int32) then (p_in y3 10 (p_in (v10_left_12 - (v10_firstOf (Int32.toNatClampNeg y3))) 22 (p_b1 (f_X10_coefficientOf v10_firstOf v10_sizeOf v10_sum v10_coefficient y1 y6) (fun r_23 => p_in (v10_left_12 - (v10_firstOf (Int32.toNatClampNeg y3))) 22 (K_231 v10_sum v10_coefficient v10_undone v10_wasSum v10_wasCoefficient v10_refusals v10_tried_11 v10_left_12 v10_high_13 (vp_updL v10_then (Int32.toNatClampNeg (v10_left_12 - (v10_firstOf (Int32.toNatClampNeg y3)))) ((v10_then (Int32.toNatClampNeg (v10_left_12 - (v10_firstOf (Int32.toNatClampNeg y3))))) + (Int32.toInt64 r_23))) y1 y2 y3 y5 y6 y7 (y8 + (1 : Int32))))))) else (p_in y3 10 (p_in (y6 - (v10_firstOf (Int32.toNatClampNeg y3))) 22 (p_b1 (f_X10_coefficientOf v10_firstOf v10_sizeOf v10_sum v10_coefficient y1 v10_left_12) (fun r_18 => p_in (y6 - (v10_firstOf (Int32.toNatClampNeg y3))) 22 (K_231 v10_sum v10_coefficient v10_undone v10_wasSum v10_wasCoefficient v10_refusals v10_tried_11 v10_left_12 v10_high_13 (vp_updL v10_then (Int32.toNatClampNeg (y6 - (v10_firstOf (Int32.toNatClampNeg y3)))) ((v10_then (Int32.toNatClampNeg (y6 - (v10_firstOf (Int32.toNatClampNeg y3))))) + (Int32.toInt64 r_18))) y1 y2 y3 y5 y6 y7 (y8 + (1 : Int32)))))))))
def f_X10_changed_231 (K_207 : (Nat → Int32) → (Nat → Int32) → Int32 → (Nat → Int32) → (Nat → Int32) → (Nat → Int32) → (Nat → Int32) → Int32 → Int32 → (Nat → Int64) → Int32 → Int32 → Int32 → Int32 → Int32 → Option (Int32 × (Nat → Int32) × (Nat → Int32) × Int32 × (Nat → Int32) × (Nat → Int32) × (Nat → Int32) × (Nat → Int32) × Int32 × Int32 × (Nat → Int64))) (v10_firstOf : Nat → Int32) (v10_sizeOf : Nat → Int32) (v10_longOf : Nat → Int32) (v10_row : Nat → Int32) : Nat → (Nat → Int32) → (Nat → Int32) → Int32 → (Nat → Int32) → (Nat → Int32) → (Nat → Int32) → (Nat → Int32) → Int32 → Int32 → (Nat → Int64) → Int32 → Int32 → Int32 → Int32 → Int32 → Int32 → Int32 → Option (Int32 × (Nat → Int32) × (Nat → Int32) × Int32 × (Nat → Int32) × (Nat → Int32) × (Nat → Int32) × (Nat → Int32) × Int32 × Int32 × (Nat → Int64))
  | 0 => fun _ _ _ _ _ _ _ _ _ _ _ _ _ _ _ _ _ => none
  | n + 1 => gf_X10_changed_231 (f_X10_changed_231 K_207 v10_firstOf v10_sizeOf v10_longOf v10_row n) K_207 v10_firstOf v10_sizeOf v10_longOf v10_row
def gf_X10_changed_207 (K_207 : (Nat → Int32) → (Nat → Int32) → Int32 → (Nat → Int32) → (Nat → Int32) → (Nat → Int32) → (Nat → Int32) → Int32 → Int32 → (Nat → Int64) → Int32 → Int32 → Int32 → Int32 → Int32 → Option (Int32 × (Nat → Int32) × (Nat → Int32) × Int32 × (Nat → Int32) × (Nat → Int32) × (Nat → Int32) × (Nat → Int32) × Int32 × Int32 × (Nat → Int64))) (v10_firstOf : Nat → Int32) (v10_sizeOf : Nat → Int32) (v10_longOf : Nat → Int32) (v10_row : Nat → Int32) (v10_sum : Nat → Int32) (v10_coefficient : Nat → Int32) (v10_undone : Int32) (v10_wasSum : Nat → Int32) (v10_wasCoefficient : Nat → Int32) (v10_refusals : Nat → Int32) (v10_tried : Nat → Int32) (v10_left : Int32) (v10_high : Int32) (v10_then : Nat → Int64) (y1 : Int32) (y2 : Int32) (y3 : Int32) (y5 : Int32) (y6 : Int32) : Option (Int32 × (Nat → Int32) × (Nat → Int32) × Int32 × (Nat → Int32) × (Nat → Int32) × (Nat → Int32) × (Nat → Int32) × Int32 × Int32 × (Nat → Int64)) := if y5 ≤ y6 then ((f_X10_changed_323 v10_firstOf v10_sizeOf v10_longOf v10_row) v10_sum v10_coefficient v10_undone v10_wasSum v10_wasCoefficient v10_refusals v10_tried v10_left v10_high v10_then y1 y3) else (if y2 ≤ 0 then ((f_X10_changed_323 v10_firstOf v10_sizeOf v10_longOf v10_row) v10_sum v10_coefficient v10_undone v10_wasSum v10_wasCoefficient v10_refusals v10_tried v10_left v10_high v10_then y1 y3) else (p_b4 (f_X10_rimOf v10_longOf v10_row v10_tried v10_left v10_high y6 (1 : Int32) (-1 : Int32)) (fun r_28 v10_tried_29 v10_left_30 v10_high_31 => (f_X10_changed_231 K_207 v10_firstOf v10_sizeOf v10_longOf v10_row 1000) v10_sum v10_coefficient v10_undone v10_wasSum v10_wasCoefficient v10_refusals v10_tried_29 v10_left_30 v10_high_31 v10_then y1 y2 y3 y5 y6 r_28 (0 : Int32))))
def f_X10_changed_207 (v10_firstOf : Nat → Int32) (v10_sizeOf : Nat → Int32) (v10_longOf : Nat → Int32) (v10_row : Nat → Int32) : Nat → (Nat → Int32) → (Nat → Int32) → Int32 → (Nat → Int32) → (Nat → Int32) → (Nat → Int32) → (Nat → Int32) → Int32 → Int32 → (Nat → Int64) → Int32 → Int32 → Int32 → Int32 → Int32 → Option (Int32 × (Nat → Int32) × (Nat → Int32) × Int32 × (Nat → Int32) × (Nat → Int32) × (Nat → Int32) × (Nat → Int32) × Int32 × Int32 × (Nat → Int64))
  | 0 => fun _ _ _ _ _ _ _ _ _ _ _ _ _ _ _ => none
  | n + 1 => gf_X10_changed_207 (f_X10_changed_207 v10_firstOf v10_sizeOf v10_longOf v10_row n) v10_firstOf v10_sizeOf v10_longOf v10_row
def f_X10_changed_198 (v10_firstOf : Nat → Int32) (v10_sizeOf : Nat → Int32) (v10_longOf : Nat → Int32) (v10_row : Nat → Int32) (v10_sum : Nat → Int32) (v10_coefficient : Nat → Int32) (v10_undone : Int32) (v10_wasSum : Nat → Int32) (v10_wasCoefficient : Nat → Int32) (v10_refusals : Nat → Int32) (v10_tried : Nat → Int32) (v10_left : Int32) (v10_high : Int32) (v10_then : Nat → Int64) (y1 : Int32) (y2 : Int32) (y3 : Int32) (y4 : Int32) (z0 : Int32) : Option (Int32 × (Nat → Int32) × (Nat → Int32) × Int32 × (Nat → Int32) × (Nat → Int32) × (Nat → Int32) × (Nat → Int32) × Int32 × Int32 × (Nat → Int64)) := p_in (z0 + (1 : Int32)) 10 ((f_X10_changed_207 v10_firstOf v10_sizeOf v10_longOf v10_row 1000) v10_sum v10_coefficient v10_undone v10_wasSum v10_wasCoefficient v10_refusals v10_tried v10_left v10_high v10_then y1 y2 y3 (v10_firstOf (Int32.toNatClampNeg (z0 + (1 : Int32)))) y4)
def f_X10_changed_176 (v10_firstOf : Nat → Int32) (v10_sizeOf : Nat → Int32) (v10_longOf : Nat → Int32) (v10_row : Nat → Int32) (v10_sum : Nat → Int32) (v10_coefficient : Nat → Int32) (v10_undone : Int32) (v10_wasSum : Nat → Int32) (v10_wasCoefficient : Nat → Int32) (v10_refusals : Nat → Int32) (v10_tried : Nat → Int32) (v10_left : Int32) (v10_high : Int32) (v10_then : Nat → Int64) (y1 : Int32) (y2 : Int32) (y3 : Int32) (z0 : Int32) : Option (Int32 × (Nat → Int32) × (Nat → Int32) × Int32 × (Nat → Int32) × (Nat → Int32) × (Nat → Int32) × (Nat → Int32) × Int32 × Int32 × (Nat → Int64)) := p_in z0 10 (if y2 = (1 : Int32) then (p_in y1 4 ((f_X10_changed_198 v10_firstOf v10_sizeOf v10_longOf v10_row) v10_sum v10_coefficient v10_undone v10_wasSum v10_wasCoefficient v10_refusals v10_tried v10_left v10_high v10_then y1 y2 y3 (v10_firstOf (Int32.toNatClampNeg z0)) (v10_sum (Int32.toNatClampNeg y1)))) else ((f_X10_changed_198 v10_firstOf v10_sizeOf v10_longOf v10_row) v10_sum v10_coefficient v10_undone v10_wasSum v10_wasCoefficient v10_refusals v10_tried v10_left v10_high v10_then y1 y2 y3 (v10_firstOf (Int32.toNatClampNeg z0)) y3))
def f_X10_changed_157 (v10_firstOf : Nat → Int32) (v10_sizeOf : Nat → Int32) (v10_longOf : Nat → Int32) (v10_row : Nat → Int32) (v10_sum : Nat → Int32) (v10_coefficient : Nat → Int32) (v10_undone : Int32) (v10_wasSum : Nat → Int32) (v10_wasCoefficient : Nat → Int32) (v10_refusals : Nat → Int32) (v10_tried : Nat → Int32) (v10_left : Int32) (v10_high : Int32) (v10_then : Nat → Int64) (y1 : Int32) (y2 : Int32) (y3 : Int32) : Option (Int32 × (Nat → Int32) × (Nat → Int32) × Int32 × (Nat → Int32) × (Nat → Int32) × (Nat → Int32) × (Nat → Int32) × Int32 × Int32 × (Nat → Int64)) := if y2 = (1 : Int32) then (p_in y1 4 ((f_X10_changed_176 v10_firstOf v10_sizeOf v10_longOf v10_row) v10_sum v10_coefficient v10_undone v10_wasSum v10_wasCoefficient v10_refusals v10_tried v10_left v10_high v10_then y1 y2 y3 (v10_sum (Int32.toNatClampNeg y1)))) else ((f_X10_changed_176 v10_firstOf v10_sizeOf v10_longOf v10_row) v10_sum v10_coefficient v10_undone v10_wasSum v10_wasCoefficient v10_refusals v10_tried v10_left v10_high v10_then y1 y2 y3 y3)
def gf_X10_changed_108 (K_108 : (Nat → Int32) → (Nat → Int32) → Int32 → (Nat → Int32) → (Nat → Int32) → (Nat → Int32) → (Nat → Int32) → Int32 → Int32 → (Nat → Int64) → Int32 → Int32 → Int32 → Int32 → Option (Int32 × (Nat → Int32) × (Nat → Int32) × Int32 × (Nat → Int32) × (Nat → Int32) × (Nat → Int32) × (Nat → Int32) × Int32 × Int32 × (Nat → Int64))) (v10_firstOf : Nat → Int32) (v10_sizeOf : Nat → Int32) (v10_longOf : Nat → Int32) (v10_row : Nat → Int32) (v10_sum : Nat → Int32) (v10_coefficient : Nat → Int32) (v10_undone : Int32) (v10_wasSum : Nat → Int32) (v10_wasCoefficient : Nat → Int32) (v10_refusals : Nat → Int32) (v10_tried : Nat → Int32) (v10_left : Int32) (v10_high : Int32) (v10_then : Nat → Int64) (y1 : Int32) (y2 : Int32) (y3 : Int32) (y4 : Int32) : Option (Int32 × (Nat → Int32) × (Nat → Int32) × Int32 × (Nat → Int32) × (Nat → Int32) × (Nat → Int32) × (Nat → Int32) × Int32 × Int32 × (Nat → Int64)) := p_in (y3 + (1 : Int32)) 10 (if (v10_firstOf (Int32.toNatClampNeg (y3 + (1 : Int32)))) ≤ y4 then ((f_X10_changed_157 v10_firstOf v10_sizeOf v10_longOf v10_row) v10_sum v10_coefficient v10_undone v10_wasSum v10_wasCoefficient v10_refusals v10_tried v10_left v10_high v10_then y1 y2 y3) else (if y2 = 0 then (p_b2 (f_X10_turnedOf v10_longOf v10_row v10_tried y4) (fun r_42 v10_tried_43 => p_in y3 10 (p_b1 (f_X10_coefficientOf v10_firstOf v10_sizeOf v10_sum v10_coefficient y1 y4) (fun r_46 => p_in (r_42 - (v10_firstOf (Int32.toNatClampNeg y3))) 22 (K_108 v10_sum v10_coefficient v10_undone v10_wasSum v10_wasCoefficient v10_refusals v10_tried_43 v10_left v10_high (vp_updL v10_then (Int32.toNatClampNeg (r_42 - (v10_firstOf (Int32.toNatClampNeg y3)))) (Int32.toInt64 r_46)) y1 y2 y3 (y4 + (1 : Int32))))))) else ((f_X10_changed_157 v10_firstOf v10_sizeOf v10_longOf v10_row) v10_sum v10_coefficient v10_undone v10_wasSum v10_wasCoefficient v10_refusals v10_tried v10_left v10_high v10_then y1 y2 y3)))
def f_X10_changed_108 (v10_firstOf : Nat → Int32) (v10_sizeOf : Nat → Int32) (v10_longOf : Nat → Int32) (v10_row : Nat → Int32) : Nat → (Nat → Int32) → (Nat → Int32) → Int32 → (Nat → Int32) → (Nat → Int32) → (Nat → Int32) → (Nat → Int32) → Int32 → Int32 → (Nat → Int64) → Int32 → Int32 → Int32 → Int32 → Option (Int32 × (Nat → Int32) × (Nat → Int32) × Int32 × (Nat → Int32) × (Nat → Int32) × (Nat → Int32) × (Nat → Int32) × Int32 × Int32 × (Nat → Int64))
  | 0 => fun _ _ _ _ _ _ _ _ _ _ _ _ _ _ => none
  | n + 1 => gf_X10_changed_108 (f_X10_changed_108 v10_firstOf v10_sizeOf v10_longOf v10_row n) v10_firstOf v10_sizeOf v10_longOf v10_row
def f_X10_changed_78 (v10_firstOf : Nat → Int32) (v10_sizeOf : Nat → Int32) (v10_longOf : Nat → Int32) (v10_row : Nat → Int32) (v10_sum : Nat → Int32) (v10_coefficient : Nat → Int32) (v10_undone : Int32) (v10_wasSum : Nat → Int32) (v10_wasCoefficient : Nat → Int32) (v10_refusals : Nat → Int32) (v10_tried : Nat → Int32) (v10_left : Int32) (v10_high : Int32) (v10_then : Nat → Int64) (y1 : Int32) (y2 : Int32) (z0 : Int32) : Option (Int32 × (Nat → Int32) × (Nat → Int32) × Int32 × (Nat → Int32) × (Nat → Int32) × (Nat → Int32) × (Nat → Int32) × Int32 × Int32 × (Nat → Int64)) := p_b1 (f_X10_in z0 (0 : Int32) (8 : Int32)) (fun r_49 => if r_49 = 0 then (p_b2 (f_X10_refused v10_refusals (-3 : Int32)) (fun r_56 v10_refusals_57 => some (r_56, v10_sum, v10_coefficient, v10_undone, v10_wasSum, v10_wasCoefficient, v10_refusals_57, v10_tried, v10_left, v10_high, v10_then))) else (p_b1 (f_X10_thenNone v10_then) (fun v10_then_53 => p_in z0 10 ((f_X10_changed_108 v10_firstOf v10_sizeOf v10_longOf v10_row 1000) v10_sum v10_coefficient v10_undone v10_wasSum v10_wasCoefficient v10_refusals v10_tried v10_left v10_high v10_then_53 y1 y2 z0 (v10_firstOf (Int32.toNatClampNeg z0))))))
def f_X10_changed (v10_firstOf : Nat → Int32) (v10_sizeOf : Nat → Int32) (v10_longOf : Nat → Int32) (v10_row : Nat → Int32) (v10_sum : Nat → Int32) (v10_coefficient : Nat → Int32) (v10_undone : Int32) (v10_wasSum : Nat → Int32) (v10_wasCoefficient : Nat → Int32) (v10_refusals : Nat → Int32) (v10_tried : Nat → Int32) (v10_left : Int32) (v10_high : Int32) (v10_then : Nat → Int64) (x1 : Int32) (x2 : Int32) : Option (Int32 × (Nat → Int32) × (Nat → Int32) × Int32 × (Nat → Int32) × (Nat → Int32) × (Nat → Int32) × (Nat → Int32) × Int32 × Int32 × (Nat → Int64)) := p_b1 (f_X10_isSum x1) (fun r_59 => if r_59 = 0 then (p_b2 (f_X10_refused v10_refusals (-1 : Int32)) (fun r_77 v10_refusals_78 => some (r_77, v10_sum, v10_coefficient, v10_undone, v10_wasSum, v10_wasCoefficient, v10_refusals_78, v10_tried, v10_left, v10_high, v10_then))) else (p_b1 (f_X10_in x2 (0 : Int32) (2 : Int32)) (fun r_63 => if r_63 = 0 then (p_b2 (f_X10_refused v10_refusals (-2 : Int32)) (fun r_74 v10_refusals_75 => some (r_74, v10_sum, v10_coefficient, v10_undone, v10_wasSum, v10_wasCoefficient, v10_refusals_75, v10_tried, v10_left, v10_high, v10_then))) else (p_in x1 4 (if 0 ≤ (v10_sum (Int32.toNatClampNeg x1)) then (if x2 = 0 then (p_in x1 4 ((f_X10_changed_78 v10_firstOf v10_sizeOf v10_longOf v10_row) v10_sum v10_coefficient v10_undone v10_wasSum v10_wasCoefficient v10_refusals v10_tried v10_left v10_high v10_then x1 x2 (v10_sum (Int32.toNatClampNeg x1)))) else (if x2 = (1 : Int32) then (p_in x1 4 ((f_X10_changed_78 v10_firstOf v10_sizeOf v10_longOf v10_row) v10_sum v10_coefficient v10_undone v10_wasSum v10_wasCoefficient v10_refusals v10_tried v10_left v10_high v10_then x1 x2 ((v10_sum (Int32.toNatClampNeg x1)) - (1 : Int32)))) else (p_in x1 4 ((f_X10_changed_78 v10_firstOf v10_sizeOf v10_longOf v10_row) v10_sum v10_coefficient v10_undone v10_wasSum v10_wasCoefficient v10_refusals v10_tried v10_left v10_high v10_then x1 x2 ((v10_sum (Int32.toNatClampNeg x1)) + (1 : Int32)))))) else (some ((-11 : Int32), v10_sum, v10_coefficient, v10_undone, v10_wasSum, v10_wasCoefficient, v10_refusals, v10_tried, v10_left, v10_high, v10_then)))))))
set_option maxHeartbeats 4000000 in
set_option maxRecDepth 20000 in
theorem c_X10_changed (l : Launch) (D : va_G) (cyI cyJ : ClassId) (G a : Nat → Nat) (sz : Nat) (v10_firstOf : Nat → Int32) (v10_sizeOf : Nat → Int32) (v10_longOf : Nat → Int32) (v10_row : Nat → Int32) (v10_character : Nat → Int32) (v10_sum : Nat → Int32) (v10_coefficient : Nat → Int32) (v10_undone : Int32) (v10_wasSum : Nat → Int32) (v10_wasCoefficient : Nat → Int32) (v10_hasImage : Int32) (v10_letter : Nat → Int32) (v10_letters : Int32) (v10_list : Nat → Int32) (v10_cell : Nat → Int32) (v10_refusals : Nat → Int32) (v10_tried : Nat → Int32) (v10_left : Int32) (v10_high : Int32) (v10_then : Nat → Int64) (v10_at : Int32) (v10_readSize : Int32) (x1 : Int32) (x2 : Int32) (ro : Int32) (ov10_sum : Nat → Int32) (ov10_coefficient : Nat → Int32) (ov10_undone : Int32) (ov10_wasSum : Nat → Int32) (ov10_wasCoefficient : Nat → Int32) (ov10_refusals : Nat → Int32) (ov10_tried : Nat → Int32) (ov10_left : Int32) (ov10_high : Int32) (ov10_then : Nat → Int64) (hf : f_X10_changed v10_firstOf v10_sizeOf v10_longOf v10_row v10_sum v10_coefficient v10_undone v10_wasSum v10_wasCoefficient v10_refusals v10_tried v10_left v10_high v10_then x1 x2 = some (ro, ov10_sum, ov10_coefficient, ov10_undone, ov10_wasSum, ov10_wasCoefficient, ov10_refusals, ov10_tried, ov10_left, ov10_high, ov10_then)) : xm_i l yX10_changed (Cond.code yX10_changed cX10_changed 10 (some .int) :: xg_tbl) { frames := 4, cells := 0, slots := 0, locals := 97 } D xcl [(cyI, .int), (cyJ, .long)] G sz [.ref (a 28), .int x1, .int x2] (wd_X10 a cyI cyJ v10_firstOf v10_sizeOf v10_longOf v10_row v10_character v10_sum v10_coefficient v10_undone v10_wasSum v10_wasCoefficient v10_hasImage v10_letter v10_letters v10_list v10_cell v10_refusals v10_tried v10_left v10_high v10_then v10_at v10_readSize) (wd_X10 a cyI cyJ v10_firstOf v10_sizeOf v10_longOf v10_row v10_character ov10_sum ov10_coefficient ov10_undone ov10_wasSum ov10_wasCoefficient v10_hasImage v10_letter v10_letters v10_list v10_cell ov10_refusals ov10_tried ov10_left ov10_high ov10_then v10_at v10_readSize) ro := by
  refine xm_of_i (own := RX10) (by decide) rfl rfl (Nat.le_of_ble_eq_true rfl) ?_
  intro p e s m args below meth c ls Q A hQ hAe hin Cx hsz hP hD hS hl
  have Cx1 := Cx
  obtain ⟨⟨hx, hb, hml, hown, hts⟩, hr, hlocks, hK, hA, hT⟩ := Cx1
  have hl : lv_has ls 10 [(0, .ref (a 28)), (1, .int x1), (2, .int x2)] := hl
  obtain ⟨H, eH⟩ : ∃ H, H = s.heap := ⟨_, rfl⟩
  obtain ⟨locs, eL⟩ : ∃ L : List Loc, L = [] := ⟨_, rfl⟩
  rw [← eH] at hP
  have hS : va_S A s.heap H locs := by rw [eH, eL]; exact hS
  suffices hgo : W p l e { frames := 4, cells := 0, slots := 0, locals := 97 } s m args below meth c H locs 0 0 Q (F0 m 0 ls []) by rw [eH, eL] at hgo; exact hgo
  clear eH eL
  unfold f_X10_changed at hf
  have w_78 : ∀ (v10_sum : Nat → Int32) (v10_coefficient : Nat → Int32) (v10_undone : Int32) (v10_wasSum : Nat → Int32) (v10_wasCoefficient : Nat → Int32) (v10_refusals : Nat → Int32) (v10_tried : Nat → Int32) (v10_left : Int32) (v10_high : Int32) (v10_then : Nat → Int64) (y1 : Int32) (y2 : Int32) (z0 : Int32) (H : Heap) (locs : List Loc) (ls : Array Slot), (f_X10_changed_78 v10_firstOf v10_sizeOf v10_longOf v10_row) v10_sum v10_coefficient v10_undone v10_wasSum v10_wasCoefficient v10_refusals v10_tried v10_left v10_high v10_then y1 y2 z0 = some (ro, ov10_sum, ov10_coefficient, ov10_undone, ov10_wasSum, ov10_wasCoefficient, ov10_refusals, ov10_tried, ov10_left, ov10_high, ov10_then) → va_P D xcl (wd_X10 a cyI cyJ v10_firstOf v10_sizeOf v10_longOf v10_row v10_character v10_sum v10_coefficient v10_undone v10_wasSum v10_wasCoefficient v10_hasImage v10_letter v10_letters v10_list v10_cell v10_refusals v10_tried v10_left v10_high v10_then v10_at v10_readSize) H → va_D A (wd_X10 a cyI cyJ v10_firstOf v10_sizeOf v10_longOf v10_row v10_character v10_sum v10_coefficient v10_undone v10_wasSum v10_wasCoefficient v10_hasImage v10_letter v10_letters v10_list v10_cell v10_refusals v10_tried v10_left v10_high v10_then v10_at v10_readSize) → va_S A s.heap H locs → lv_has ls 10 [(0, .ref (a 28)), (1, .int y1), (2, .int y2)] → W p l e { frames := 4, cells := 0, slots := 0, locals := 97 } s m args below meth c H locs 0 0 Q (F0 m 78 ls [.int z0]) := by
    intro v10_sum v10_coefficient v10_undone v10_wasSum v10_wasCoefficient v10_refusals v10_tried v10_left v10_high v10_then y1 y2 z0 H locs ls hf hP hD hS hl
    unfold f_X10_changed_78 at hf
    have w_108 : ∀ (n_108 : Nat) (v10_sum : Nat → Int32) (v10_coefficient : Nat → Int32) (v10_undone : Int32) (v10_wasSum : Nat → Int32) (v10_wasCoefficient : Nat → Int32) (v10_refusals : Nat → Int32) (v10_tried : Nat → Int32) (v10_left : Int32) (v10_high : Int32) (v10_then : Nat → Int64) (y1 : Int32) (y2 : Int32) (y3 : Int32) (y4 : Int32) (H : Heap) (locs : List Loc) (ls : Array Slot), (f_X10_changed_108 v10_firstOf v10_sizeOf v10_longOf v10_row) n_108 v10_sum v10_coefficient v10_undone v10_wasSum v10_wasCoefficient v10_refusals v10_tried v10_left v10_high v10_then y1 y2 y3 y4 = some (ro, ov10_sum, ov10_coefficient, ov10_undone, ov10_wasSum, ov10_wasCoefficient, ov10_refusals, ov10_tried, ov10_left, ov10_high, ov10_then) → va_P D xcl (wd_X10 a cyI cyJ v10_firstOf v10_sizeOf v10_longOf v10_row v10_character v10_sum v10_coefficient v10_undone v10_wasSum v10_wasCoefficient v10_hasImage v10_letter v10_letters v10_list v10_cell v10_refusals v10_tried v10_left v10_high v10_then v10_at v10_readSize) H → va_D A (wd_X10 a cyI cyJ v10_firstOf v10_sizeOf v10_longOf v10_row v10_character v10_sum v10_coefficient v10_undone v10_wasSum v10_wasCoefficient v10_hasImage v10_letter v10_letters v10_list v10_cell v10_refusals v10_tried v10_left v10_high v10_then v10_at v10_readSize) → va_S A s.heap H locs → lv_has ls 10 [(0, .ref (a 28)), (1, .int y1), (2, .int y2), (3, .int y3), (4, .int y4)] → W p l e { frames := 4, cells := 0, slots := 0, locals := 97 } s m args below meth c H locs 0 0 Q (F0 m 108 ls []) := by
      intro n_108
      induction n_108 with
      | zero => intro v10_sum v10_coefficient v10_undone v10_wasSum v10_wasCoefficient v10_refusals v10_tried v10_left v10_high v10_then y1 y2 y3 y4 H locs ls hf; exact absurd hf (by intro h9; cases h9)
      | succ n_108 w_108 =>
        intro v10_sum v10_coefficient v10_undone v10_wasSum v10_wasCoefficient v10_refusals v10_tried v10_left v10_high v10_then y1 y2 y3 y4 H locs ls hf hP hD hS hl
        have hf : gf_X10_changed_108 ((f_X10_changed_108 v10_firstOf v10_sizeOf v10_longOf v10_row) n_108) v10_firstOf v10_sizeOf v10_longOf v10_row v10_sum v10_coefficient v10_undone v10_wasSum v10_wasCoefficient v10_refusals v10_tried v10_left v10_high v10_then y1 y2 y3 y4 = some (ro, ov10_sum, ov10_coefficient, ov10_undone, ov10_wasSum, ov10_wasCoefficient, ov10_refusals, ov10_tried, ov10_left, ov10_high, ov10_then) := hf
        unfold gf_X10_changed_108 at hf
        have w_157 : ∀ (v10_sum : Nat → Int32) (v10_coefficient : Nat → Int32) (v10_undone : Int32) (v10_wasSum : Nat → Int32) (v10_wasCoefficient : Nat → Int32) (v10_refusals : Nat → Int32) (v10_tried : Nat → Int32) (v10_left : Int32) (v10_high : Int32) (v10_then : Nat → Int64) (y1 : Int32) (y2 : Int32) (y3 : Int32) (H : Heap) (locs : List Loc) (ls : Array Slot), (f_X10_changed_157 v10_firstOf v10_sizeOf v10_longOf v10_row) v10_sum v10_coefficient v10_undone v10_wasSum v10_wasCoefficient v10_refusals v10_tried v10_left v10_high v10_then y1 y2 y3 = some (ro, ov10_sum, ov10_coefficient, ov10_undone, ov10_wasSum, ov10_wasCoefficient, ov10_refusals, ov10_tried, ov10_left, ov10_high, ov10_then) → va_P D xcl (wd_X10 a cyI cyJ v10_firstOf v10_sizeOf v10_longOf v10_row v10_character v10_sum v10_coefficient v10_undone v10_wasSum v10_wasCoefficient v10_hasImage v10_letter v10_letters v10_list v10_cell v10_refusals v10_tried v10_left v10_high v10_then v10_at v10_readSize) H → va_D A (wd_X10 a cyI cyJ v10_firstOf v10_sizeOf v10_longOf v10_row v10_character v10_sum v10_coefficient v10_undone v10_wasSum v10_wasCoefficient v10_hasImage v10_letter v10_letters v10_list v10_cell v10_refusals v10_tried v10_left v10_high v10_then v10_at v10_readSize) → va_S A s.heap H locs → lv_has ls 10 [(0, .ref (a 28)), (1, .int y1), (2, .int y2), (3, .int y3)] → W p l e { frames := 4, cells := 0, slots := 0, locals := 97 } s m args below meth c H locs 0 0 Q (F0 m 157 ls []) := by
          intro v10_sum v10_coefficient v10_undone v10_wasSum v10_wasCoefficient v10_refusals v10_tried v10_left v10_high v10_then y1 y2 y3 H locs ls hf hP hD hS hl
          unfold f_X10_changed_157 at hf
          have w_176 : ∀ (v10_sum : Nat → Int32) (v10_coefficient : Nat → Int32) (v10_undone : Int32) (v10_wasSum : Nat → Int32) (v10_wasCoefficient : Nat → Int32) (v10_refusals : Nat → Int32) (v10_tried : Nat → Int32) (v10_left : Int32) (v10_high : Int32) (v10_then : Nat → Int64) (y1 : Int32) (y2 : Int32) (y3 : Int32) (z0 : Int32) (H : Heap) (locs : List Loc) (ls : Array Slot), (f_X10_changed_176 v10_firstOf v10_sizeOf v10_longOf v10_row) v10_sum v10_coefficient v10_undone v10_wasSum v10_wasCoefficient v10_refusals v10_tried v10_left v10_high v10_then y1 y2 y3 z0 = some (ro, ov10_sum, ov10_coefficient, ov10_undone, ov10_wasSum, ov10_wasCoefficient, ov10_refusals, ov10_tried, ov10_left, ov10_high, ov10_then) → va_P D xcl (wd_X10 a cyI cyJ v10_firstOf v10_sizeOf v10_longOf v10_row v10_character v10_sum v10_coefficient v10_undone v10_wasSum v10_wasCoefficient v10_hasImage v10_letter v10_letters v10_list v10_cell v10_refusals v10_tried v10_left v10_high v10_then v10_at v10_readSize) H → va_D A (wd_X10 a cyI cyJ v10_firstOf v10_sizeOf v10_longOf v10_row v10_character v10_sum v10_coefficient v10_undone v10_wasSum v10_wasCoefficient v10_hasImage v10_letter v10_letters v10_list v10_cell v10_refusals v10_tried v10_left v10_high v10_then v10_at v10_readSize) → va_S A s.heap H locs → lv_has ls 10 [(0, .ref (a 28)), (1, .int y1), (2, .int y2), (3, .int y3)] → W p l e { frames := 4, cells := 0, slots := 0, locals := 97 } s m args below meth c H locs 0 0 Q (F0 m 176 ls [.int z0, .ref (a 29)]) := by
            intro v10_sum v10_coefficient v10_undone v10_wasSum v10_wasCoefficient v10_refusals v10_tried v10_left v10_high v10_then y1 y2 y3 z0 H locs ls hf hP hD hS hl
            unfold f_X10_changed_176 at hf
            have w_198 : ∀ (v10_sum : Nat → Int32) (v10_coefficient : Nat → Int32) (v10_undone : Int32) (v10_wasSum : Nat → Int32) (v10_wasCoefficient : Nat → Int32) (v10_refusals : Nat → Int32) (v10_tried : Nat → Int32) (v10_left : Int32) (v10_high : Int32) (v10_then : Nat → Int64) (y1 : Int32) (y2 : Int32) (y3 : Int32) (y4 : Int32) (z0 : Int32) (H : Heap) (locs : List Loc) (ls : Array Slot), (f_X10_changed_198 v10_firstOf v10_sizeOf v10_longOf v10_row) v10_sum v10_coefficient v10_undone v10_wasSum v10_wasCoefficient v10_refusals v10_tried v10_left v10_high v10_then y1 y2 y3 y4 z0 = some (ro, ov10_sum, ov10_coefficient, ov10_undone, ov10_wasSum, ov10_wasCoefficient, ov10_refusals, ov10_tried, ov10_left, ov10_high, ov10_then) → va_P D xcl (wd_X10 a cyI cyJ v10_firstOf v10_sizeOf v10_longOf v10_row v10_character v10_sum v10_coefficient v10_undone v10_wasSum v10_wasCoefficient v10_hasImage v10_letter v10_letters v10_list v10_cell v10_refusals v10_tried v10_left v10_high v10_then v10_at v10_readSize) H → va_D A (wd_X10 a cyI cyJ v10_firstOf v10_sizeOf v10_longOf v10_row v10_character v10_sum v10_coefficient v10_undone v10_wasSum v10_wasCoefficient v10_hasImage v10_letter v10_letters v10_list v10_cell v10_refusals v10_tried v10_left v10_high v10_then v10_at v10_readSize) → va_S A s.heap H locs → lv_has ls 10 [(0, .ref (a 28)), (1, .int y1), (2, .int y2), (3, .int y3), (4, .int y4)] → W p l e { frames := 4, cells := 0, slots := 0, locals := 97 } s m args below meth c H locs 0 0 Q (F0 m 198 ls [.int z0, .ref (a 29)]) := by
              intro v10_sum v10_coefficient v10_undone v10_wasSum v10_wasCoefficient v10_refusals v10_tried v10_left v10_high v10_then y1 y2 y3 y4 z0 H locs ls hf hP hD hS hl
              unfold f_X10_changed_198 at hf
              have w_207 : ∀ (n_207 : Nat) (v10_sum : Nat → Int32) (v10_coefficient : Nat → Int32) (v10_undone : Int32) (v10_wasSum : Nat → Int32) (v10_wasCoefficient : Nat → Int32) (v10_refusals : Nat → Int32) (v10_tried : Nat → Int32) (v10_left : Int32) (v10_high : Int32) (v10_then : Nat → Int64) (y1 : Int32) (y2 : Int32) (y3 : Int32) (y5 : Int32) (y6 : Int32) (H : Heap) (locs : List Loc) (ls : Array Slot), (f_X10_changed_207 v10_firstOf v10_sizeOf v10_longOf v10_row) n_207 v10_sum v10_coefficient v10_undone v10_wasSum v10_wasCoefficient v10_refusals v10_tried v10_left v10_high v10_then y1 y2 y3 y5 y6 = some (ro, ov10_sum, ov10_coefficient, ov10_undone, ov10_wasSum, ov10_wasCoefficient, ov10_refusals, ov10_tried, ov10_left, ov10_high, ov10_then) → va_P D xcl (wd_X10 a cyI cyJ v10_firstOf v10_sizeOf v10_longOf v10_row v10_character v10_sum v10_coefficient v10_undone v10_wasSum v10_wasCoefficient v10_hasImage v10_letter v10_letters v10_list v10_cell v10_refusals v10_tried v10_left v10_high v10_then v10_at v10_readSize) H → va_D A (wd_X10 a cyI cyJ v10_firstOf v10_sizeOf v10_longOf v10_row v10_character v10_sum v10_coefficient v10_undone v10_wasSum v10_wasCoefficient v10_hasImage v10_letter v10_letters v10_list v10_cell v10_refusals v10_tried v10_left v10_high v10_then v10_at v10_readSize) → va_S A s.heap H locs → lv_has ls 10 [(0, .ref (a 28)), (1, .int y1), (2, .int y2), (3, .int y3), (5, .int y5), (6, .int y6)] → W p l e { frames := 4, cells := 0, slots := 0, locals := 97 } s m args below meth c H locs 0 0 Q (F0 m 207 ls []) := by
                intro n_207
                induction n_207 with
                | zero => intro v10_sum v10_coefficient v10_undone v10_wasSum v10_wasCoefficient v10_refusals v10_tried v10_left v10_high v10_then y1 y2 y3 y5 y6 H locs ls hf; exact absurd hf (by intro h9; cases h9)
                | succ n_207 w_207 =>
                  intro v10_sum v10_coefficient v10_undone v10_wasSum v10_wasCoefficient v10_refusals v10_tried v10_left v10_high v10_then y1 y2 y3 y5 y6 H locs ls hf hP hD hS hl
                  have hf : gf_X10_changed_207 ((f_X10_changed_207 v10_firstOf v10_sizeOf v10_longOf v10_row) n_207) v10_firstOf v10_sizeOf v10_longOf v10_row v10_sum v10_coefficient v10_undone v10_wasSum v10_wasCoefficient v10_refusals v10_tried v10_left v10_high v10_then y1 y2 y3 y5 y6 = some (ro, ov10_sum, ov10_coefficient, ov10_undone, ov10_wasSum, ov10_wasCoefficient, ov10_refusals, ov10_tried, ov10_left, ov10_high, ov10_then) := hf
                  unfold gf_X10_changed_207 at hf
                  have w_323 : ∀ (v10_sum : Nat → Int32) (v10_coefficient : Nat → Int32) (v10_undone : Int32) (v10_wasSum : Nat → Int32) (v10_wasCoefficient : Nat → Int32) (v10_refusals : Nat → Int32) (v10_tried : Nat → Int32) (v10_left : Int32) (v10_high : Int32) (v10_then : Nat → Int64) (y1 : Int32) (y3 : Int32) (H : Heap) (locs : List Loc) (ls : Array Slot), (f_X10_changed_323 v10_firstOf v10_sizeOf v10_longOf v10_row) v10_sum v10_coefficient v10_undone v10_wasSum v10_wasCoefficient v10_refusals v10_tried v10_left v10_high v10_then y1 y3 = some (ro, ov10_sum, ov10_coefficient, ov10_undone, ov10_wasSum, ov10_wasCoefficient, ov10_refusals, ov10_tried, ov10_left, ov10_high, ov10_then) → va_P D xcl (wd_X10 a cyI cyJ v10_firstOf v10_sizeOf v10_longOf v10_row v10_character v10_sum v10_coefficient v10_undone v10_wasSum v10_wasCoefficient v10_hasImage v10_letter v10_letters v10_list v10_cell v10_refusals v10_tried v10_left v10_high v10_then v10_at v10_readSize) H → va_D A (wd_X10 a cyI cyJ v10_firstOf v10_sizeOf v10_longOf v10_row v10_character v10_sum v10_coefficient v10_undone v10_wasSum v10_wasCoefficient v10_hasImage v10_letter v10_letters v10_list v10_cell v10_refusals v10_tried v10_left v10_high v10_then v10_at v10_readSize) → va_S A s.heap H locs → lv_has ls 10 [(0, .ref (a 28)), (1, .int y1), (3, .int y3)] → W p l e { frames := 4, cells := 0, slots := 0, locals := 97 } s m args below meth c H locs 0 0 Q (F0 m 323 ls []) := by
                    intro v10_sum v10_coefficient v10_undone v10_wasSum v10_wasCoefficient v10_refusals v10_tried v10_left v10_high v10_then y1 y3 H locs ls hf hP hD hS hl
                    unfold f_X10_changed_323 at hf
                    refine lv_aload_n hx hb dX10_changed_323 rfl (lv_at hl 0 rfl) ?_
                    refine lv_iload_n hx hb dX10_changed_324 rfl (lv_at hl 1 rfl) ?_
                    refine lv_iload_n hx hb dX10_changed_325 rfl (lv_at hl 2 rfl) ?_
                    obtain ⟨r_80, v10_sum_81, v10_coefficient_82, v10_undone_83, v10_wasSum_84, v10_wasCoefficient_85, v10_refusals_86, hk_87, hf⟩ := pe_7 hf
                    refine xv_i (As := [.int y1, .int y3]) (rest := []) (q0 := 0) (ci := 10) Cx hP hD hS hl (pl_X10_X10 a cyI cyJ v10_firstOf v10_sizeOf v10_longOf v10_row v10_character v10_sum v10_coefficient v10_undone v10_wasSum v10_wasCoefficient v10_hasImage v10_letter v10_letters v10_list v10_cell v10_refusals v10_tried v10_left v10_high v10_then v10_at v10_readSize v10_firstOf v10_sizeOf v10_longOf v10_row v10_character v10_sum_81 v10_coefficient_82 v10_undone_83 v10_wasSum_84 v10_wasCoefficient_85 v10_hasImage v10_letter v10_letters v10_list v10_cell v10_refusals_86 v10_tried v10_left v10_high v10_then v10_at v10_readSize) (c_X10_becomes l D cyI cyJ G a H.size v10_firstOf v10_sizeOf v10_longOf v10_row v10_character v10_sum v10_coefficient v10_undone v10_wasSum v10_wasCoefficient v10_hasImage v10_letter v10_letters v10_list v10_cell v10_refusals v10_tried v10_left v10_high v10_then v10_at v10_readSize y1 y3 r_80 v10_sum_81 v10_coefficient_82 v10_undone_83 v10_wasSum_84 v10_wasCoefficient_85 v10_refusals_86 hk_87) pk_X10_becomes mw_5_171 ⟨rfl, rfl, Nat.le_of_ble_eq_true rfl, Nat.le_of_ble_eq_true rfl⟩ rfl rfl rfl rfl rfl (Nat.le_of_ble_eq_true rfl) ⟨Nat.le_of_ble_eq_true rfl, Nat.le_of_ble_eq_true rfl⟩ dX10_changed_326 (fun H locs hP hD hS => ?_)
                    simp only [Option.some.injEq, Prod.mk.injEq] at hf
                    obtain ⟨rfl, rfl, rfl, rfl, rfl, rfl, rfl, rfl, rfl, rfl, rfl⟩ := hf
                    rw [← hQ]; exact xe_iret Cx rfl hP hD hS dX10_changed_329
                  have w_231 : ∀ (n_231 : Nat) (v10_sum : Nat → Int32) (v10_coefficient : Nat → Int32) (v10_undone : Int32) (v10_wasSum : Nat → Int32) (v10_wasCoefficient : Nat → Int32) (v10_refusals : Nat → Int32) (v10_tried : Nat → Int32) (v10_left : Int32) (v10_high : Int32) (v10_then : Nat → Int64) (y1 : Int32) (y2 : Int32) (y3 : Int32) (y5 : Int32) (y6 : Int32) (y7 : Int32) (y8 : Int32) (H : Heap) (locs : List Loc) (ls : Array Slot), (f_X10_changed_231 ((f_X10_changed_207 v10_firstOf v10_sizeOf v10_longOf v10_row) n_207) v10_firstOf v10_sizeOf v10_longOf v10_row) n_231 v10_sum v10_coefficient v10_undone v10_wasSum v10_wasCoefficient v10_refusals v10_tried v10_left v10_high v10_then y1 y2 y3 y5 y6 y7 y8 = some (ro, ov10_sum, ov10_coefficient, ov10_undone, ov10_wasSum, ov10_wasCoefficient, ov10_refusals, ov10_tried, ov10_left, ov10_high, ov10_then) → va_P D xcl (wd_X10 a cyI cyJ v10_firstOf v10_sizeOf v10_longOf v10_row v10_character v10_sum v10_coefficient v10_undone v10_wasSum v10_wasCoefficient v10_hasImage v10_letter v10_letters v10_list v10_cell v10_refusals v10_tried v10_left v10_high v10_then v10_at v10_readSize) H → va_D A (wd_X10 a cyI cyJ v10_firstOf v10_sizeOf v10_longOf v10_row v10_character v10_sum v10_coefficient v10_undone v10_wasSum v10_wasCoefficient v10_hasImage v10_letter v10_letters v10_list v10_cell v10_refusals v10_tried v10_left v10_high v10_then v10_at v10_readSize) → va_S A s.heap H locs → lv_has ls 10 [(0, .ref (a 28)), (1, .int y1), (2, .int y2), (3, .int y3), (5, .int y5), (6, .int y6), (7, .int y7), (8, .int y8)] → W p l e { frames := 4, cells := 0, slots := 0, locals := 97 } s m args below meth c H locs 0 0 Q (F0 m 231 ls []) := by
                    intro n_231
                    induction n_231 with
                    | zero => intro v10_sum v10_coefficient v10_undone v10_wasSum v10_wasCoefficient v10_refusals v10_tried v10_left v10_high v10_then y1 y2 y3 y5 y6 y7 y8 H locs ls hf; exact absurd hf (by intro h9; cases h9)
                    | succ n_231 w_231 =>
                      intro v10_sum v10_coefficient v10_undone v10_wasSum v10_wasCoefficient v10_refusals v10_tried v10_left v10_high v10_then y1 y2 y3 y5 y6 y7 y8 H locs ls hf hP hD hS hl
                      have hf : gf_X10_changed_231 ((f_X10_changed_231 ((f_X10_changed_207 v10_firstOf v10_sizeOf v10_longOf v10_row) n_207) v10_firstOf v10_sizeOf v10_longOf v10_row) n_231) ((f_X10_changed_207 v10_firstOf v10_sizeOf v10_longOf v10_row) n_207) v10_firstOf v10_sizeOf v10_longOf v10_row v10_sum v10_coefficient v10_undone v10_wasSum v10_wasCoefficient v10_refusals v10_tried v10_left v10_high v10_then y1 y2 y3 y5 y6 y7 y8 = some (ro, ov10_sum, ov10_coefficient, ov10_undone, ov10_wasSum, ov10_wasCoefficient, ov10_refusals, ov10_tried, ov10_left, ov10_high, ov10_then) := hf
                      unfold gf_X10_changed_231 at hf
                      refine lv_iload hx hb dX10_changed_231 (lv_at hl 7 rfl) ?_
                      refine lv_iload hx hb dX10_changed_233 (lv_at hl 6 rfl) ?_
                      refine lv_icmp_ge (tgt := 317) hx hb dX10_changed_235 (by decide) (fun hc_88 => ?_) (fun hc_88 => ?_)
                      · have hf := pe_t hf hc_88
                        refine lv_iinc (v := (y6 + (1 : Int32))) (lv' := [(6, .int (y6 + (1 : Int32))), (0, .ref (a 28)), (1, .int y1), (2, .int y2), (3, .int y3), (5, .int y5), (7, .int y7), (8, .int y8)]) hx hb dX10_changed_317 hl (k := 5) rfl rfl (by decide) rfl (fun ls hl => ?_)
                        refine lv_goto (tgt := 207) hx hb dX10_changed_320 (by decide) ?_
                        exact w_207 v10_sum v10_coefficient v10_undone v10_wasSum v10_wasCoefficient v10_refusals v10_tried v10_left v10_high v10_then y1 y2 y3 y5 (y6 + (1 : Int32)) H locs ls hf hP hD hS (lv_sub hl [1, 2, 3, 4, 5, 0] rfl)
                      · have hf := pe_f hf hc_88
                        refine lv_aload_n hx hb dX10_changed_238 rfl (lv_at hl 0 rfl) ?_
                        refine lv_iload hx hb dX10_changed_239 (lv_at hl 5 rfl) ?_
                        refine lv_iconst (v := (1 : Int32)) hx hb dX10_changed_241 (by decide) ?_
                        refine lv_iload hx hb dX10_changed_242 (lv_at hl 7 rfl) ?_
                        obtain ⟨r_89, v10_tried_90, v10_left_91, v10_high_92, hk_93, hf⟩ := pe_4 hf
                        refine xv_i (As := [.int y6, .int (1 : Int32), .int y8]) (rest := []) (q0 := 0) (ci := 10) Cx hP hD hS hl (pl_X10_X10 a cyI cyJ v10_firstOf v10_sizeOf v10_longOf v10_row v10_character v10_sum v10_coefficient v10_undone v10_wasSum v10_wasCoefficient v10_hasImage v10_letter v10_letters v10_list v10_cell v10_refusals v10_tried v10_left v10_high v10_then v10_at v10_readSize v10_firstOf v10_sizeOf v10_longOf v10_row v10_character v10_sum v10_coefficient v10_undone v10_wasSum v10_wasCoefficient v10_hasImage v10_letter v10_letters v10_list v10_cell v10_refusals v10_tried_90 v10_left_91 v10_high_92 v10_then v10_at v10_readSize) (c_X10_rimOf l D cyI cyJ G a H.size v10_firstOf v10_sizeOf v10_longOf v10_row v10_character v10_sum v10_coefficient v10_undone v10_wasSum v10_wasCoefficient v10_hasImage v10_letter v10_letters v10_list v10_cell v10_refusals v10_tried v10_left v10_high v10_then v10_at v10_readSize y6 (1 : Int32) y8 r_89 v10_tried_90 v10_left_91 v10_high_92 hk_93) pk_X10_rimOf mw_4_176 ⟨rfl, rfl, Nat.le_of_ble_eq_true rfl, Nat.le_of_ble_eq_true rfl⟩ rfl rfl rfl rfl rfl (Nat.le_of_ble_eq_true rfl) ⟨Nat.le_of_ble_eq_true rfl, Nat.le_of_ble_eq_true rfl⟩ dX10_changed_244 (fun H locs hP hD hS => ?_)
                        refine lv_istore (lv' := [(9, .int r_89), (0, .ref (a 28)), (1, .int y1), (2, .int y2), (3, .int y3), (5, .int y5), (6, .int y6), (7, .int y7), (8, .int y8)]) hx hb dX10_changed_247 hl (by decide) rfl (fun ls hl => ?_)
                        refine lv_iload_n hx hb dX10_changed_249 rfl (lv_at hl 3 rfl) ?_
                        refine lv_iconst (v := (1 : Int32)) hx hb dX10_changed_250 (by decide) ?_
                        refine lv_icmp_ne (tgt := 284) hx hb dX10_changed_251 (by decide) (fun hc_94 => ?_) (fun hc_94 => ?_)
                        · have hf := pe_f hf hc_94
                          refine lv_aload_n hx hb dX10_changed_284 rfl (lv_at hl 1 rfl) ?_
                          refine va_get (ci := 10) (v := .ref (a 43)) hx hb hts wX10_in hown hK hP 0 rfl rfl 19 (by decide) (hts _ mw_4_211) (fun _ h9 => h9) rfl dX10_changed_285 ?_
                          refine lv_iload hx hb dX10_changed_288 (lv_at hl 6 rfl) ?_
                          refine lv_aload_n hx hb dX10_changed_290 rfl (lv_at hl 1 rfl) ?_
                          refine va_get (ci := 10) (v := .ref (a 29)) hx hb hts wX10_in hown hK hP 0 rfl rfl 0 (by decide) (hts _ mw_4_192) (fun _ h9 => h9) rfl dX10_changed_291 ?_
                          refine lv_iload_n hx hb dX10_changed_294 rfl (lv_at hl 4 rfl) ?_
                          obtain ⟨hi_95, hf⟩ := pe_in hf
                          refine va_iald hx hb hK hP 1 0 rfl rfl hi_95 dX10_changed_295 ?_
                          refine lv_isub hx hb dX10_changed_296 ?_
                          refine lv_dup2_11 hx hb dX10_changed_297 rfl rfl ?_
                          obtain ⟨hi_96, hf⟩ := pe_in hf
                          refine va_lald hx hb hK hP 15 1 rfl rfl hi_96 dX10_changed_298 ?_
                          refine lv_aload_n hx hb dX10_changed_299 rfl (lv_at hl 1 rfl) ?_
                          refine lv_iload_n hx hb dX10_changed_300 rfl (lv_at hl 2 rfl) ?_
                          refine lv_aload_n hx hb dX10_changed_301 rfl (lv_at hl 1 rfl) ?_
                          refine va_get (ci := 10) (v := .int v10_left_91) hx hb hts wX10_in hown hK hP 0 rfl rfl 17 (by decide) (hts _ mw_4_209) (fun _ h9 => h9) rfl dX10_changed_302 ?_
                          obtain ⟨r_97, hk_98, hf⟩ := pe_1 hf
                          refine xv_i (As := [.int y1, .int v10_left_91]) (rest := [.long (v10_then (Int32.toNatClampNeg (y6 - (v10_firstOf (Int32.toNatClampNeg y3))))), .int (y6 - (v10_firstOf (Int32.toNatClampNeg y3))), .ref (a 43)]) (q0 := 0) (ci := 10) Cx hP hD hS hl (pl_X10_X10 a cyI cyJ v10_firstOf v10_sizeOf v10_longOf v10_row v10_character v10_sum v10_coefficient v10_undone v10_wasSum v10_wasCoefficient v10_hasImage v10_letter v10_letters v10_list v10_cell v10_refusals v10_tried_90 v10_left_91 v10_high_92 v10_then v10_at v10_readSize v10_firstOf v10_sizeOf v10_longOf v10_row v10_character v10_sum v10_coefficient v10_undone v10_wasSum v10_wasCoefficient v10_hasImage v10_letter v10_letters v10_list v10_cell v10_refusals v10_tried_90 v10_left_91 v10_high_92 v10_then v10_at v10_readSize) (c_X10_coefficientOf l D cyI cyJ G a H.size v10_firstOf v10_sizeOf v10_longOf v10_row v10_character v10_sum v10_coefficient v10_undone v10_wasSum v10_wasCoefficient v10_hasImage v10_letter v10_letters v10_list v10_cell v10_refusals v10_tried_90 v10_left_91 v10_high_92 v10_then v10_at v10_readSize y1 v10_left_91 r_97 hk_98) pk_X10_coefficientOf mw_5_202 ⟨rfl, rfl, Nat.le_of_ble_eq_true rfl, Nat.le_of_ble_eq_true rfl⟩ rfl rfl rfl rfl rfl (Nat.le_of_ble_eq_true rfl) ⟨Nat.le_of_ble_eq_true rfl, Nat.le_of_ble_eq_true rfl⟩ dX10_changed_305 (fun H locs hP hD hS => ?_)
                          refine lv_i2l (v := Int32.toInt64 r_97) hx hb dX10_changed_308 rfl ?_
                          refine lv_ladd hx hb dX10_changed_309 ?_
                          obtain ⟨hi_99, hf⟩ := pe_in hf
                          refine va_last hx hb hK hP hD hS 15 1 rfl rfl hi_99 dX10_changed_310 (fun H locs hP hD hS => ?_)
                          have hP : va_P D xcl (wd_X10 a cyI cyJ v10_firstOf v10_sizeOf v10_longOf v10_row v10_character v10_sum v10_coefficient v10_undone v10_wasSum v10_wasCoefficient v10_hasImage v10_letter v10_letters v10_list v10_cell v10_refusals v10_tried_90 v10_left_91 v10_high_92 (vp_updL v10_then (Int32.toNatClampNeg (y6 - (v10_firstOf (Int32.toNatClampNeg y3)))) ((v10_then (Int32.toNatClampNeg (y6 - (v10_firstOf (Int32.toNatClampNeg y3))))) + (Int32.toInt64 r_97))) v10_at v10_readSize) H := hP
                          have hD : va_D A (wd_X10 a cyI cyJ v10_firstOf v10_sizeOf v10_longOf v10_row v10_character v10_sum v10_coefficient v10_undone v10_wasSum v10_wasCoefficient v10_hasImage v10_letter v10_letters v10_list v10_cell v10_refusals v10_tried_90 v10_left_91 v10_high_92 (vp_updL v10_then (Int32.toNatClampNeg (y6 - (v10_firstOf (Int32.toNatClampNeg y3)))) ((v10_then (Int32.toNatClampNeg (y6 - (v10_firstOf (Int32.toNatClampNeg y3))))) + (Int32.toInt64 r_97))) v10_at v10_readSize) := hD
                          refine lv_iinc (v := (y8 + (1 : Int32))) (lv' := [(8, .int (y8 + (1 : Int32))), (9, .int r_89), (0, .ref (a 28)), (1, .int y1), (2, .int y2), (3, .int y3), (5, .int y5), (6, .int y6), (7, .int y7)]) hx hb dX10_changed_311 hl (k := 8) rfl rfl (by decide) rfl (fun ls hl => ?_)
                          refine lv_goto (tgt := 231) hx hb dX10_changed_314 (by decide) ?_
                          exact w_231 v10_sum v10_coefficient v10_undone v10_wasSum v10_wasCoefficient v10_refusals v10_tried_90 v10_left_91 v10_high_92 (vp_updL v10_then (Int32.toNatClampNeg (y6 - (v10_firstOf (Int32.toNatClampNeg y3)))) ((v10_then (Int32.toNatClampNeg (y6 - (v10_firstOf (Int32.toNatClampNeg y3))))) + (Int32.toInt64 r_97))) y1 y2 y3 y5 y6 y7 (y8 + (1 : Int32)) H locs ls hf hP hD hS (lv_sub hl [2, 3, 4, 5, 6, 7, 8, 0] rfl)
                        · have hf := pe_t hf hc_94
                          refine lv_aload_n hx hb dX10_changed_254 rfl (lv_at hl 1 rfl) ?_
                          refine va_get (ci := 10) (v := .ref (a 43)) hx hb hts wX10_in hown hK hP 0 rfl rfl 19 (by decide) (hts _ mw_4_211) (fun _ h9 => h9) rfl dX10_changed_255 ?_
                          refine lv_aload_n hx hb dX10_changed_258 rfl (lv_at hl 1 rfl) ?_
                          refine va_get (ci := 10) (v := .int v10_left_91) hx hb hts wX10_in hown hK hP 0 rfl rfl 17 (by decide) (hts _ mw_4_209) (fun _ h9 => h9) rfl dX10_changed_259 ?_
                          refine lv_aload_n hx hb dX10_changed_262 rfl (lv_at hl 1 rfl) ?_
                          refine va_get (ci := 10) (v := .ref (a 29)) hx hb hts wX10_in hown hK hP 0 rfl rfl 0 (by decide) (hts _ mw_4_192) (fun _ h9 => h9) rfl dX10_changed_263 ?_
                          refine lv_iload_n hx hb dX10_changed_266 rfl (lv_at hl 4 rfl) ?_
                          obtain ⟨hi_100, hf⟩ := pe_in hf
                          refine va_iald hx hb hK hP 1 0 rfl rfl hi_100 dX10_changed_267 ?_
                          refine lv_isub hx hb dX10_changed_268 ?_
                          refine lv_dup2_11 hx hb dX10_changed_269 rfl rfl ?_
                          obtain ⟨hi_101, hf⟩ := pe_in hf
                          refine va_lald hx hb hK hP 15 1 rfl rfl hi_101 dX10_changed_270 ?_
                          refine lv_aload_n hx hb dX10_changed_271 rfl (lv_at hl 1 rfl) ?_
                          refine lv_iload_n hx hb dX10_changed_272 rfl (lv_at hl 2 rfl) ?_
                          refine lv_iload hx hb dX10_changed_273 (lv_at hl 6 rfl) ?_
                          obtain ⟨r_102, hk_103, hf⟩ := pe_1 hf
                          refine xv_i (As := [.int y1, .int y6]) (rest := [.long (v10_then (Int32.toNatClampNeg (v10_left_91 - (v10_firstOf (Int32.toNatClampNeg y3))))), .int (v10_left_91 - (v10_firstOf (Int32.toNatClampNeg y3))), .ref (a 43)]) (q0 := 0) (ci := 10) Cx hP hD hS hl (pl_X10_X10 a cyI cyJ v10_firstOf v10_sizeOf v10_longOf v10_row v10_character v10_sum v10_coefficient v10_undone v10_wasSum v10_wasCoefficient v10_hasImage v10_letter v10_letters v10_list v10_cell v10_refusals v10_tried_90 v10_left_91 v10_high_92 v10_then v10_at v10_readSize v10_firstOf v10_sizeOf v10_longOf v10_row v10_character v10_sum v10_coefficient v10_undone v10_wasSum v10_wasCoefficient v10_hasImage v10_letter v10_letters v10_list v10_cell v10_refusals v10_tried_90 v10_left_91 v10_high_92 v10_then v10_at v10_readSize) (c_X10_coefficientOf l D cyI cyJ G a H.size v10_firstOf v10_sizeOf v10_longOf v10_row v10_character v10_sum v10_coefficient v10_undone v10_wasSum v10_wasCoefficient v10_hasImage v10_letter v10_letters v10_list v10_cell v10_refusals v10_tried_90 v10_left_91 v10_high_92 v10_then v10_at v10_readSize y1 y6 r_102 hk_103) pk_X10_coefficientOf mw_5_202 ⟨rfl, rfl, Nat.le_of_ble_eq_true rfl, Nat.le_of_ble_eq_true rfl⟩ rfl rfl rfl rfl rfl (Nat.le_of_ble_eq_true rfl) ⟨Nat.le_of_ble_eq_true rfl, Nat.le_of_ble_eq_true rfl⟩ dX10_changed_275 (fun H locs hP hD hS => ?_)
                          refine lv_i2l (v := Int32.toInt64 r_102) hx hb dX10_changed_278 rfl ?_
                          refine lv_ladd hx hb dX10_changed_279 ?_
                          obtain ⟨hi_104, hf⟩ := pe_in hf
                          refine va_last hx hb hK hP hD hS 15 1 rfl rfl hi_104 dX10_changed_280 (fun H locs hP hD hS => ?_)
                          have hP : va_P D xcl (wd_X10 a cyI cyJ v10_firstOf v10_sizeOf v10_longOf v10_row v10_character v10_sum v10_coefficient v10_undone v10_wasSum v10_wasCoefficient v10_hasImage v10_letter v10_letters v10_list v10_cell v10_refusals v10_tried_90 v10_left_91 v10_high_92 (vp_updL v10_then (Int32.toNatClampNeg (v10_left_91 - (v10_firstOf (Int32.toNatClampNeg y3)))) ((v10_then (Int32.toNatClampNeg (v10_left_91 - (v10_firstOf (Int32.toNatClampNeg y3))))) + (Int32.toInt64 r_102))) v10_at v10_readSize) H := hP
                          have hD : va_D A (wd_X10 a cyI cyJ v10_firstOf v10_sizeOf v10_longOf v10_row v10_character v10_sum v10_coefficient v10_undone v10_wasSum v10_wasCoefficient v10_hasImage v10_letter v10_letters v10_list v10_cell v10_refusals v10_tried_90 v10_left_91 v10_high_92 (vp_updL v10_then (Int32.toNatClampNeg (v10_left_91 - (v10_firstOf (Int32.toNatClampNeg y3)))) ((v10_then (Int32.toNatClampNeg (v10_left_91 - (v10_firstOf (Int32.toNatClampNeg y3))))) + (Int32.toInt64 r_102))) v10_at v10_readSize) := hD
                          refine lv_goto (tgt := 311) hx hb dX10_changed_281 (by decide) ?_
                          refine lv_iinc (v := (y8 + (1 : Int32))) (lv' := [(8, .int (y8 + (1 : Int32))), (9, .int r_89), (0, .ref (a 28)), (1, .int y1), (2, .int y2), (3, .int y3), (5, .int y5), (6, .int y6), (7, .int y7)]) hx hb dX10_changed_311 hl (k := 8) rfl rfl (by decide) rfl (fun ls hl => ?_)
                          refine lv_goto (tgt := 231) hx hb dX10_changed_314 (by decide) ?_
                          exact w_231 v10_sum v10_coefficient v10_undone v10_wasSum v10_wasCoefficient v10_refusals v10_tried_90 v10_left_91 v10_high_92 (vp_updL v10_then (Int32.toNatClampNeg (v10_left_91 - (v10_firstOf (Int32.toNatClampNeg y3)))) ((v10_then (Int32.toNatClampNeg (v10_left_91 - (v10_firstOf (Int32.toNatClampNeg y3))))) + (Int32.toInt64 r_102))) y1 y2 y3 y5 y6 y7 (y8 + (1 : Int32)) H locs ls hf hP hD hS (lv_sub hl [2, 3, 4, 5, 6, 7, 8, 0] rfl)
                  refine lv_iload hx hb dX10_changed_207 (lv_at hl 5 rfl) ?_
                  refine lv_iload hx hb dX10_changed_209 (lv_at hl 4 rfl) ?_
                  refine lv_icmp_ge (tgt := 323) hx hb dX10_changed_211 (by decide) (fun hc_105 => ?_) (fun hc_105 => ?_)
                  · have hf := pe_t hf hc_105
                    exact w_323 v10_sum v10_coefficient v10_undone v10_wasSum v10_wasCoefficient v10_refusals v10_tried v10_left v10_high v10_then y1 y3 H locs ls hf hP hD hS (lv_sub hl [0, 1, 3] rfl)
                  · have hf := pe_f hf hc_105
                    refine lv_iload_n hx hb dX10_changed_214 rfl (lv_at hl 2 rfl) ?_
                    refine lv_if_le (tgt := 323) hx hb dX10_changed_215 (by decide) (fun hc_106 => ?_) (fun hc_106 => ?_)
                    · have hf := pe_t hf hc_106
                      exact w_323 v10_sum v10_coefficient v10_undone v10_wasSum v10_wasCoefficient v10_refusals v10_tried v10_left v10_high v10_then y1 y3 H locs ls hf hP hD hS (lv_sub hl [0, 1, 3] rfl)
                    · have hf := pe_f hf hc_106
                      refine lv_aload_n hx hb dX10_changed_218 rfl (lv_at hl 0 rfl) ?_
                      refine lv_iload hx hb dX10_changed_219 (lv_at hl 5 rfl) ?_
                      refine lv_iconst (v := (1 : Int32)) hx hb dX10_changed_221 (by decide) ?_
                      refine lv_iconst (v := (-1 : Int32)) hx hb dX10_changed_222 (by decide) ?_
                      obtain ⟨r_107, v10_tried_108, v10_left_109, v10_high_110, hk_111, hf⟩ := pe_4 hf
                      refine xv_i (As := [.int y6, .int (1 : Int32), .int (-1 : Int32)]) (rest := []) (q0 := 0) (ci := 10) Cx hP hD hS hl (pl_X10_X10 a cyI cyJ v10_firstOf v10_sizeOf v10_longOf v10_row v10_character v10_sum v10_coefficient v10_undone v10_wasSum v10_wasCoefficient v10_hasImage v10_letter v10_letters v10_list v10_cell v10_refusals v10_tried v10_left v10_high v10_then v10_at v10_readSize v10_firstOf v10_sizeOf v10_longOf v10_row v10_character v10_sum v10_coefficient v10_undone v10_wasSum v10_wasCoefficient v10_hasImage v10_letter v10_letters v10_list v10_cell v10_refusals v10_tried_108 v10_left_109 v10_high_110 v10_then v10_at v10_readSize) (c_X10_rimOf l D cyI cyJ G a H.size v10_firstOf v10_sizeOf v10_longOf v10_row v10_character v10_sum v10_coefficient v10_undone v10_wasSum v10_wasCoefficient v10_hasImage v10_letter v10_letters v10_list v10_cell v10_refusals v10_tried v10_left v10_high v10_then v10_at v10_readSize y6 (1 : Int32) (-1 : Int32) r_107 v10_tried_108 v10_left_109 v10_high_110 hk_111) pk_X10_rimOf mw_4_176 ⟨rfl, rfl, Nat.le_of_ble_eq_true rfl, Nat.le_of_ble_eq_true rfl⟩ rfl rfl rfl rfl rfl (Nat.le_of_ble_eq_true rfl) ⟨Nat.le_of_ble_eq_true rfl, Nat.le_of_ble_eq_true rfl⟩ dX10_changed_223 (fun H locs hP hD hS => ?_)
                      refine lv_istore (lv' := [(7, .int r_107), (0, .ref (a 28)), (1, .int y1), (2, .int y2), (3, .int y3), (5, .int y5), (6, .int y6)]) hx hb dX10_changed_226 hl (by decide) rfl (fun ls hl => ?_)
                      refine lv_iconst (v := (0 : Int32)) hx hb dX10_changed_228 (by decide) ?_
                      refine lv_istore (lv' := [(8, .int (0 : Int32)), (7, .int r_107), (0, .ref (a 28)), (1, .int y1), (2, .int y2), (3, .int y3), (5, .int y5), (6, .int y6)]) hx hb dX10_changed_229 hl (by decide) rfl (fun ls hl => ?_)
                      exact w_231 1000 v10_sum v10_coefficient v10_undone v10_wasSum v10_wasCoefficient v10_refusals v10_tried_108 v10_left_109 v10_high_110 v10_then y1 y2 y3 y5 y6 r_107 (0 : Int32) H locs ls hf hP hD hS (lv_sub hl [2, 3, 4, 5, 6, 7, 1, 0] rfl)
              refine lv_iconst (v := (1 : Int32)) hx hb dX10_changed_198 (by decide) ?_
              refine lv_iadd hx hb dX10_changed_199 ?_
              obtain ⟨hi_112, hf⟩ := pe_in hf
              refine va_iald hx hb hK hP 1 0 rfl rfl hi_112 dX10_changed_200 ?_
              refine lv_istore (lv' := [(5, .int (v10_firstOf (Int32.toNatClampNeg (z0 + (1 : Int32))))), (0, .ref (a 28)), (1, .int y1), (2, .int y2), (3, .int y3), (4, .int y4)]) hx hb dX10_changed_201 hl (by decide) rfl (fun ls hl => ?_)
              refine lv_iload hx hb dX10_changed_203 (lv_at hl 5 rfl) ?_
              refine lv_istore (lv' := [(6, .int y4), (5, .int (v10_firstOf (Int32.toNatClampNeg (z0 + (1 : Int32))))), (0, .ref (a 28)), (1, .int y1), (2, .int y2), (3, .int y3), (4, .int y4)]) hx hb dX10_changed_205 hl (by decide) rfl (fun ls hl => ?_)
              exact w_207 1000 v10_sum v10_coefficient v10_undone v10_wasSum v10_wasCoefficient v10_refusals v10_tried v10_left v10_high v10_then y1 y2 y3 (v10_firstOf (Int32.toNatClampNeg (z0 + (1 : Int32)))) y4 H locs ls hf hP hD hS (lv_sub hl [2, 3, 4, 5, 1, 0] rfl)
            obtain ⟨hi_113, hf⟩ := pe_in hf
            refine va_iald hx hb hK hP 1 0 rfl rfl hi_113 dX10_changed_176 ?_
            refine lv_istore (lv' := [(4, .int (v10_firstOf (Int32.toNatClampNeg z0))), (0, .ref (a 28)), (1, .int y1), (2, .int y2), (3, .int y3)]) hx hb dX10_changed_177 hl (by decide) rfl (fun ls hl => ?_)
            refine lv_aload_n hx hb dX10_changed_179 rfl (lv_at hl 1 rfl) ?_
            refine va_get (ci := 10) (v := .ref (a 29)) hx hb hts wX10_in hown hK hP 0 rfl rfl 0 (by decide) (hts _ mw_4_192) (fun _ h9 => h9) rfl dX10_changed_180 ?_
            refine lv_iload_n hx hb dX10_changed_183 rfl (lv_at hl 3 rfl) ?_
            refine lv_iconst (v := (1 : Int32)) hx hb dX10_changed_184 (by decide) ?_
            refine lv_icmp_ne (tgt := 197) hx hb dX10_changed_185 (by decide) (fun hc_114 => ?_) (fun hc_114 => ?_)
            · have hf := pe_f hf hc_114
              refine lv_iload_n hx hb dX10_changed_197 rfl (lv_at hl 4 rfl) ?_
              exact w_198 v10_sum v10_coefficient v10_undone v10_wasSum v10_wasCoefficient v10_refusals v10_tried v10_left v10_high v10_then y1 y2 y3 (v10_firstOf (Int32.toNatClampNeg z0)) y3 H locs ls hf hP hD hS (lv_sub hl [1, 2, 3, 4, 0] rfl)
            · have hf := pe_t hf hc_114
              refine lv_aload_n hx hb dX10_changed_188 rfl (lv_at hl 1 rfl) ?_
              refine va_get (ci := 10) (v := .ref (a 34)) hx hb hts wX10_in hown hK hP 0 rfl rfl 5 (by decide) (hts _ mw_4_197) (fun _ h9 => h9) rfl dX10_changed_189 ?_
              refine lv_iload_n hx hb dX10_changed_192 rfl (lv_at hl 2 rfl) ?_
              obtain ⟨hi_115, hf⟩ := pe_in hf
              refine va_iald hx hb hK hP 6 0 rfl rfl hi_115 dX10_changed_193 ?_
              refine lv_goto (tgt := 198) hx hb dX10_changed_194 (by decide) ?_
              exact w_198 v10_sum v10_coefficient v10_undone v10_wasSum v10_wasCoefficient v10_refusals v10_tried v10_left v10_high v10_then y1 y2 y3 (v10_firstOf (Int32.toNatClampNeg z0)) (v10_sum (Int32.toNatClampNeg y1)) H locs ls hf hP hD hS (lv_sub hl [1, 2, 3, 4, 0] rfl)
          refine lv_aload_n hx hb dX10_changed_157 rfl (lv_at hl 0 rfl) ?_
          refine va_get (ci := 10) (v := .ref (a 29)) hx hb hts wX10_in hown hK hP 0 rfl rfl 0 (by decide) (hts _ mw_4_192) (fun _ h9 => h9) rfl dX10_changed_158 ?_
          refine lv_iload_n hx hb dX10_changed_161 rfl (lv_at hl 2 rfl) ?_
          refine lv_iconst (v := (1 : Int32)) hx hb dX10_changed_162 (by decide) ?_
          refine lv_icmp_ne (tgt := 175) hx hb dX10_changed_163 (by decide) (fun hc_116 => ?_) (fun hc_116 => ?_)
          · have hf := pe_f hf hc_116
            refine lv_iload_n hx hb dX10_changed_175 rfl (lv_at hl 3 rfl) ?_
            exact w_176 v10_sum v10_coefficient v10_undone v10_wasSum v10_wasCoefficient v10_refusals v10_tried v10_left v10_high v10_then y1 y2 y3 y3 H locs ls hf hP hD hS (lv_sub hl [0, 1, 2, 3] rfl)
          · have hf := pe_t hf hc_116
            refine lv_aload_n hx hb dX10_changed_166 rfl (lv_at hl 0 rfl) ?_
            refine va_get (ci := 10) (v := .ref (a 34)) hx hb hts wX10_in hown hK hP 0 rfl rfl 5 (by decide) (hts _ mw_4_197) (fun _ h9 => h9) rfl dX10_changed_167 ?_
            refine lv_iload_n hx hb dX10_changed_170 rfl (lv_at hl 1 rfl) ?_
            obtain ⟨hi_117, hf⟩ := pe_in hf
            refine va_iald hx hb hK hP 6 0 rfl rfl hi_117 dX10_changed_171 ?_
            refine lv_goto (tgt := 176) hx hb dX10_changed_172 (by decide) ?_
            exact w_176 v10_sum v10_coefficient v10_undone v10_wasSum v10_wasCoefficient v10_refusals v10_tried v10_left v10_high v10_then y1 y2 y3 (v10_sum (Int32.toNatClampNeg y1)) H locs ls hf hP hD hS (lv_sub hl [0, 1, 2, 3] rfl)
        refine lv_iload hx hb dX10_changed_108 (lv_at hl 4 rfl) ?_
        refine lv_aload_n hx hb dX10_changed_110 rfl (lv_at hl 0 rfl) ?_
        refine va_get (ci := 10) (v := .ref (a 29)) hx hb hts wX10_in hown hK hP 0 rfl rfl 0 (by decide) (hts _ mw_4_192) (fun _ h9 => h9) rfl dX10_changed_111 ?_
        refine lv_iload_n hx hb dX10_changed_114 rfl (lv_at hl 3 rfl) ?_
        refine lv_iconst (v := (1 : Int32)) hx hb dX10_changed_115 (by decide) ?_
        refine lv_iadd hx hb dX10_changed_116 ?_
        obtain ⟨hi_118, hf⟩ := pe_in hf
        refine va_iald hx hb hK hP 1 0 rfl rfl hi_118 dX10_changed_117 ?_
        refine lv_icmp_ge (tgt := 157) hx hb dX10_changed_118 (by decide) (fun hc_119 => ?_) (fun hc_119 => ?_)
        · have hf := pe_t hf hc_119
          exact w_157 v10_sum v10_coefficient v10_undone v10_wasSum v10_wasCoefficient v10_refusals v10_tried v10_left v10_high v10_then y1 y2 y3 H locs ls hf hP hD hS (lv_sub hl [0, 1, 2, 3] rfl)
        · have hf := pe_f hf hc_119
          refine lv_iload_n hx hb dX10_changed_121 rfl (lv_at hl 2 rfl) ?_
          refine lv_if_ne (tgt := 157) hx hb dX10_changed_122 (by decide) (fun hc_120 => ?_) (fun hc_120 => ?_)
          · have hf := pe_f hf hc_120
            exact w_157 v10_sum v10_coefficient v10_undone v10_wasSum v10_wasCoefficient v10_refusals v10_tried v10_left v10_high v10_then y1 y2 y3 H locs ls hf hP hD hS (lv_sub hl [0, 1, 2, 3] rfl)
          · have hf := pe_t hf hc_120
            refine lv_aload_n hx hb dX10_changed_125 rfl (lv_at hl 0 rfl) ?_
            refine va_get (ci := 10) (v := .ref (a 43)) hx hb hts wX10_in hown hK hP 0 rfl rfl 19 (by decide) (hts _ mw_4_211) (fun _ h9 => h9) rfl dX10_changed_126 ?_
            refine lv_aload_n hx hb dX10_changed_129 rfl (lv_at hl 0 rfl) ?_
            refine lv_iload hx hb dX10_changed_130 (lv_at hl 4 rfl) ?_
            obtain ⟨r_121, v10_tried_122, hk_123, hf⟩ := pe_2 hf
            refine xv_i (As := [.int y4]) (rest := [.ref (a 43)]) (q0 := 0) (ci := 10) Cx hP hD hS hl (pl_X10_X10 a cyI cyJ v10_firstOf v10_sizeOf v10_longOf v10_row v10_character v10_sum v10_coefficient v10_undone v10_wasSum v10_wasCoefficient v10_hasImage v10_letter v10_letters v10_list v10_cell v10_refusals v10_tried v10_left v10_high v10_then v10_at v10_readSize v10_firstOf v10_sizeOf v10_longOf v10_row v10_character v10_sum v10_coefficient v10_undone v10_wasSum v10_wasCoefficient v10_hasImage v10_letter v10_letters v10_list v10_cell v10_refusals v10_tried_122 v10_left v10_high v10_then v10_at v10_readSize) (c_X10_turnedOf l D cyI cyJ G a H.size v10_firstOf v10_sizeOf v10_longOf v10_row v10_character v10_sum v10_coefficient v10_undone v10_wasSum v10_wasCoefficient v10_hasImage v10_letter v10_letters v10_list v10_cell v10_refusals v10_tried v10_left v10_high v10_then v10_at v10_readSize y4 r_121 v10_tried_122 hk_123) pk_X10_turnedOf mw_5_33 ⟨rfl, rfl, Nat.le_of_ble_eq_true rfl, Nat.le_of_ble_eq_true rfl⟩ rfl rfl rfl rfl rfl (Nat.le_of_ble_eq_true rfl) ⟨Nat.le_of_ble_eq_true rfl, Nat.le_of_ble_eq_true rfl⟩ dX10_changed_132 (fun H locs hP hD hS => ?_)
            refine lv_aload_n hx hb dX10_changed_135 rfl (lv_at hl 0 rfl) ?_
            refine va_get (ci := 10) (v := .ref (a 29)) hx hb hts wX10_in hown hK hP 0 rfl rfl 0 (by decide) (hts _ mw_4_192) (fun _ h9 => h9) rfl dX10_changed_136 ?_
            refine lv_iload_n hx hb dX10_changed_139 rfl (lv_at hl 3 rfl) ?_
            obtain ⟨hi_124, hf⟩ := pe_in hf
            refine va_iald hx hb hK hP 1 0 rfl rfl hi_124 dX10_changed_140 ?_
            refine lv_isub hx hb dX10_changed_141 ?_
            refine lv_aload_n hx hb dX10_changed_142 rfl (lv_at hl 0 rfl) ?_
            refine lv_iload_n hx hb dX10_changed_143 rfl (lv_at hl 1 rfl) ?_
            refine lv_iload hx hb dX10_changed_144 (lv_at hl 4 rfl) ?_
            obtain ⟨r_125, hk_126, hf⟩ := pe_1 hf
            refine xv_i (As := [.int y1, .int y4]) (rest := [.int (r_121 - (v10_firstOf (Int32.toNatClampNeg y3))), .ref (a 43)]) (q0 := 0) (ci := 10) Cx hP hD hS hl (pl_X10_X10 a cyI cyJ v10_firstOf v10_sizeOf v10_longOf v10_row v10_character v10_sum v10_coefficient v10_undone v10_wasSum v10_wasCoefficient v10_hasImage v10_letter v10_letters v10_list v10_cell v10_refusals v10_tried_122 v10_left v10_high v10_then v10_at v10_readSize v10_firstOf v10_sizeOf v10_longOf v10_row v10_character v10_sum v10_coefficient v10_undone v10_wasSum v10_wasCoefficient v10_hasImage v10_letter v10_letters v10_list v10_cell v10_refusals v10_tried_122 v10_left v10_high v10_then v10_at v10_readSize) (c_X10_coefficientOf l D cyI cyJ G a H.size v10_firstOf v10_sizeOf v10_longOf v10_row v10_character v10_sum v10_coefficient v10_undone v10_wasSum v10_wasCoefficient v10_hasImage v10_letter v10_letters v10_list v10_cell v10_refusals v10_tried_122 v10_left v10_high v10_then v10_at v10_readSize y1 y4 r_125 hk_126) pk_X10_coefficientOf mw_5_202 ⟨rfl, rfl, Nat.le_of_ble_eq_true rfl, Nat.le_of_ble_eq_true rfl⟩ rfl rfl rfl rfl rfl (Nat.le_of_ble_eq_true rfl) ⟨Nat.le_of_ble_eq_true rfl, Nat.le_of_ble_eq_true rfl⟩ dX10_changed_146 (fun H locs hP hD hS => ?_)
            refine lv_i2l (v := Int32.toInt64 r_125) hx hb dX10_changed_149 rfl ?_
            obtain ⟨hi_127, hf⟩ := pe_in hf
            refine va_last hx hb hK hP hD hS 15 1 rfl rfl hi_127 dX10_changed_150 (fun H locs hP hD hS => ?_)
            have hP : va_P D xcl (wd_X10 a cyI cyJ v10_firstOf v10_sizeOf v10_longOf v10_row v10_character v10_sum v10_coefficient v10_undone v10_wasSum v10_wasCoefficient v10_hasImage v10_letter v10_letters v10_list v10_cell v10_refusals v10_tried_122 v10_left v10_high (vp_updL v10_then (Int32.toNatClampNeg (r_121 - (v10_firstOf (Int32.toNatClampNeg y3)))) (Int32.toInt64 r_125)) v10_at v10_readSize) H := hP
            have hD : va_D A (wd_X10 a cyI cyJ v10_firstOf v10_sizeOf v10_longOf v10_row v10_character v10_sum v10_coefficient v10_undone v10_wasSum v10_wasCoefficient v10_hasImage v10_letter v10_letters v10_list v10_cell v10_refusals v10_tried_122 v10_left v10_high (vp_updL v10_then (Int32.toNatClampNeg (r_121 - (v10_firstOf (Int32.toNatClampNeg y3)))) (Int32.toInt64 r_125)) v10_at v10_readSize) := hD
            refine lv_iinc (v := (y4 + (1 : Int32))) (lv' := [(4, .int (y4 + (1 : Int32))), (0, .ref (a 28)), (1, .int y1), (2, .int y2), (3, .int y3)]) hx hb dX10_changed_151 hl (k := 4) rfl rfl (by decide) rfl (fun ls hl => ?_)
            refine lv_goto (tgt := 108) hx hb dX10_changed_154 (by decide) ?_
            exact w_108 v10_sum v10_coefficient v10_undone v10_wasSum v10_wasCoefficient v10_refusals v10_tried_122 v10_left v10_high (vp_updL v10_then (Int32.toNatClampNeg (r_121 - (v10_firstOf (Int32.toNatClampNeg y3)))) (Int32.toInt64 r_125)) y1 y2 y3 (y4 + (1 : Int32)) H locs ls hf hP hD hS (lv_sub hl [1, 2, 3, 4, 0] rfl)
    refine lv_istore_n (lv' := [(3, .int z0), (0, .ref (a 28)), (1, .int y1), (2, .int y2)]) hx hb dX10_changed_78 rfl hl (by decide) rfl (fun ls hl => ?_)
    refine lv_iload_n hx hb dX10_changed_79 rfl (lv_at hl 0 rfl) ?_
    refine lv_iconst (v := (0 : Int32)) hx hb dX10_changed_80 (by decide) ?_
    refine lv_bipush (v := (8 : Int32)) hx hb dX10_changed_81 (by decide) ?_
    obtain ⟨r_128, hk_129, hf⟩ := pe_1 hf
    refine xw_z (As := [.int z0, .int (0 : Int32), .int (8 : Int32)]) (rest := []) Cx hP hD hS hl (xq_none _) (c_X10_in l D cyI cyJ G H.size z0 (0 : Int32) (8 : Int32) r_128 hk_129) pk_X10_in mw_5_26 ⟨rfl, rfl, Nat.le_of_ble_eq_true rfl, Nat.le_of_ble_eq_true rfl⟩ rfl rfl (Nat.le_of_ble_eq_true rfl) ⟨Nat.le_of_ble_eq_true rfl, Nat.le_of_ble_eq_true rfl⟩ dX10_changed_83 (fun H locs hn_130 hP hD hS => ?_)
    refine lv_if_ne (tgt := 96) hx hb dX10_changed_86 (by decide) (fun hc_131 => ?_) (fun hc_131 => ?_)
    · have hf := pe_f hf hc_131
      refine lv_aload_n hx hb dX10_changed_96 rfl (lv_at hl 1 rfl) ?_
      obtain ⟨v10_then_132, hk_133, hf⟩ := pe_1 hf
      refine xv_v (As := []) (rest := []) (q0 := 0) (ci := 10) Cx hP hD hS hl (pl_X10_X10 a cyI cyJ v10_firstOf v10_sizeOf v10_longOf v10_row v10_character v10_sum v10_coefficient v10_undone v10_wasSum v10_wasCoefficient v10_hasImage v10_letter v10_letters v10_list v10_cell v10_refusals v10_tried v10_left v10_high v10_then v10_at v10_readSize v10_firstOf v10_sizeOf v10_longOf v10_row v10_character v10_sum v10_coefficient v10_undone v10_wasSum v10_wasCoefficient v10_hasImage v10_letter v10_letters v10_list v10_cell v10_refusals v10_tried v10_left v10_high v10_then_132 v10_at v10_readSize) (c_X10_thenNone l D cyI cyJ G a H.size v10_firstOf v10_sizeOf v10_longOf v10_row v10_character v10_sum v10_coefficient v10_undone v10_wasSum v10_wasCoefficient v10_hasImage v10_letter v10_letters v10_list v10_cell v10_refusals v10_tried v10_left v10_high v10_then v10_at v10_readSize v10_then_132 hk_133) pk_X10_thenNone mw_5_159 ⟨rfl, rfl, Nat.le_of_ble_eq_true rfl, Nat.le_of_ble_eq_true rfl⟩ rfl rfl rfl rfl rfl (Nat.le_of_ble_eq_true rfl) ⟨Nat.le_of_ble_eq_true rfl, Nat.le_of_ble_eq_true rfl⟩ dX10_changed_97 (fun H locs hP hD hS => ?_)
      refine lv_aload_n hx hb dX10_changed_100 rfl (lv_at hl 1 rfl) ?_
      refine va_get (ci := 10) (v := .ref (a 29)) hx hb hts wX10_in hown hK hP 0 rfl rfl 0 (by decide) (hts _ mw_4_192) (fun _ h9 => h9) rfl dX10_changed_101 ?_
      refine lv_iload_n hx hb dX10_changed_104 rfl (lv_at hl 0 rfl) ?_
      obtain ⟨hi_134, hf⟩ := pe_in hf
      refine va_iald hx hb hK hP 1 0 rfl rfl hi_134 dX10_changed_105 ?_
      refine lv_istore (lv' := [(4, .int (v10_firstOf (Int32.toNatClampNeg z0))), (3, .int z0), (0, .ref (a 28)), (1, .int y1), (2, .int y2)]) hx hb dX10_changed_106 hl (by decide) rfl (fun ls hl => ?_)
      exact w_108 1000 v10_sum v10_coefficient v10_undone v10_wasSum v10_wasCoefficient v10_refusals v10_tried v10_left v10_high v10_then_132 y1 y2 z0 (v10_firstOf (Int32.toNatClampNeg z0)) H locs ls hf hP hD hS (lv_sub hl [2, 3, 4, 1, 0] rfl)
    · have hf := pe_t hf hc_131
      refine lv_aload_n hx hb dX10_changed_89 rfl (lv_at hl 1 rfl) ?_
      refine lv_bipush (v := (-3 : Int32)) hx hb dX10_changed_90 (by decide) ?_
      obtain ⟨r_135, v10_refusals_136, hk_137, hf⟩ := pe_2 hf
      refine xv_i (As := [.int (-3 : Int32)]) (rest := []) (q0 := 0) (ci := 10) Cx hP hD hS hl (pl_X10_X10 a cyI cyJ v10_firstOf v10_sizeOf v10_longOf v10_row v10_character v10_sum v10_coefficient v10_undone v10_wasSum v10_wasCoefficient v10_hasImage v10_letter v10_letters v10_list v10_cell v10_refusals v10_tried v10_left v10_high v10_then v10_at v10_readSize v10_firstOf v10_sizeOf v10_longOf v10_row v10_character v10_sum v10_coefficient v10_undone v10_wasSum v10_wasCoefficient v10_hasImage v10_letter v10_letters v10_list v10_cell v10_refusals_136 v10_tried v10_left v10_high v10_then v10_at v10_readSize) (c_X10_refused l D cyI cyJ G a H.size v10_firstOf v10_sizeOf v10_longOf v10_row v10_character v10_sum v10_coefficient v10_undone v10_wasSum v10_wasCoefficient v10_hasImage v10_letter v10_letters v10_list v10_cell v10_refusals v10_tried v10_left v10_high v10_then v10_at v10_readSize (-3 : Int32) r_135 v10_refusals_136 hk_137) pk_X10_refused mw_5_29 ⟨rfl, rfl, Nat.le_of_ble_eq_true rfl, Nat.le_of_ble_eq_true rfl⟩ rfl rfl rfl rfl rfl (Nat.le_of_ble_eq_true rfl) ⟨Nat.le_of_ble_eq_true rfl, Nat.le_of_ble_eq_true rfl⟩ dX10_changed_92 (fun H locs hP hD hS => ?_)
      simp only [Option.some.injEq, Prod.mk.injEq] at hf
      obtain ⟨rfl, rfl, rfl, rfl, rfl, rfl, rfl, rfl, rfl, rfl, rfl⟩ := hf
      rw [← hQ]; exact xe_iret Cx rfl hP hD hS dX10_changed_95
  refine lv_iload_n hx hb dX10_changed_0 rfl (lv_at hl 1 rfl) ?_
  obtain ⟨r_138, hk_139, hf⟩ := pe_1 hf
  refine xw_z (As := [.int x1]) (rest := []) Cx hP hD hS hl (xq_none _) (c_X10_isSum l D cyI cyJ G H.size x1 r_138 hk_139) pk_X10_isSum mw_5_152 ⟨rfl, rfl, Nat.le_of_ble_eq_true rfl, Nat.le_of_ble_eq_true rfl⟩ rfl rfl (Nat.le_of_ble_eq_true rfl) ⟨Nat.le_of_ble_eq_true rfl, Nat.le_of_ble_eq_true rfl⟩ dX10_changed_1 (fun H locs hn_140 hP hD hS => ?_)
  refine lv_if_ne (tgt := 13) hx hb dX10_changed_4 (by decide) (fun hc_141 => ?_) (fun hc_141 => ?_)
  · have hf := pe_f hf hc_141
    refine lv_iload_n hx hb dX10_changed_13 rfl (lv_at hl 2 rfl) ?_
    refine lv_iconst (v := (0 : Int32)) hx hb dX10_changed_14 (by decide) ?_
    refine lv_iconst (v := (2 : Int32)) hx hb dX10_changed_15 (by decide) ?_
    obtain ⟨r_142, hk_143, hf⟩ := pe_1 hf
    refine xw_z (As := [.int x2, .int (0 : Int32), .int (2 : Int32)]) (rest := []) Cx hP hD hS hl (xq_none _) (c_X10_in l D cyI cyJ G H.size x2 (0 : Int32) (2 : Int32) r_142 hk_143) pk_X10_in mw_5_26 ⟨rfl, rfl, Nat.le_of_ble_eq_true rfl, Nat.le_of_ble_eq_true rfl⟩ rfl rfl (Nat.le_of_ble_eq_true rfl) ⟨Nat.le_of_ble_eq_true rfl, Nat.le_of_ble_eq_true rfl⟩ dX10_changed_16 (fun H locs hn_144 hP hD hS => ?_)
    refine lv_if_ne (tgt := 29) hx hb dX10_changed_19 (by decide) (fun hc_145 => ?_) (fun hc_145 => ?_)
    · have hf := pe_f hf hc_145
      refine lv_aload_n hx hb dX10_changed_29 rfl (lv_at hl 0 rfl) ?_
      refine va_get (ci := 10) (v := .ref (a 34)) hx hb hts wX10_in hown hK hP 0 rfl rfl 5 (by decide) (hts _ mw_4_197) (fun _ h9 => h9) rfl dX10_changed_30 ?_
      refine lv_iload_n hx hb dX10_changed_33 rfl (lv_at hl 1 rfl) ?_
      obtain ⟨hi_146, hf⟩ := pe_in hf
      refine va_iald hx hb hK hP 6 0 rfl rfl hi_146 dX10_changed_34 ?_
      refine lv_if_ge (tgt := 41) hx hb dX10_changed_35 (by decide) (fun hc_147 => ?_) (fun hc_147 => ?_)
      · have hf := pe_t hf hc_147
        refine lv_iload_n hx hb dX10_changed_41 rfl (lv_at hl 2 rfl) ?_
        refine lv_if_ne (tgt := 54) hx hb dX10_changed_42 (by decide) (fun hc_148 => ?_) (fun hc_148 => ?_)
        · have hf := pe_f hf hc_148
          refine lv_iload_n hx hb dX10_changed_54 rfl (lv_at hl 2 rfl) ?_
          refine lv_iconst (v := (1 : Int32)) hx hb dX10_changed_55 (by decide) ?_
          refine lv_icmp_ne (tgt := 70) hx hb dX10_changed_56 (by decide) (fun hc_149 => ?_) (fun hc_149 => ?_)
          · have hf := pe_f hf hc_149
            refine lv_aload_n hx hb dX10_changed_70 rfl (lv_at hl 0 rfl) ?_
            refine va_get (ci := 10) (v := .ref (a 34)) hx hb hts wX10_in hown hK hP 0 rfl rfl 5 (by decide) (hts _ mw_4_197) (fun _ h9 => h9) rfl dX10_changed_71 ?_
            refine lv_iload_n hx hb dX10_changed_74 rfl (lv_at hl 1 rfl) ?_
            obtain ⟨hi_150, hf⟩ := pe_in hf
            refine va_iald hx hb hK hP 6 0 rfl rfl hi_150 dX10_changed_75 ?_
            refine lv_iconst (v := (1 : Int32)) hx hb dX10_changed_76 (by decide) ?_
            refine lv_iadd hx hb dX10_changed_77 ?_
            exact w_78 v10_sum v10_coefficient v10_undone v10_wasSum v10_wasCoefficient v10_refusals v10_tried v10_left v10_high v10_then x1 x2 ((v10_sum (Int32.toNatClampNeg x1)) + (1 : Int32)) H locs ls hf hP hD hS (lv_sub hl [0, 1, 2] rfl)
          · have hf := pe_t hf hc_149
            refine lv_aload_n hx hb dX10_changed_59 rfl (lv_at hl 0 rfl) ?_
            refine va_get (ci := 10) (v := .ref (a 34)) hx hb hts wX10_in hown hK hP 0 rfl rfl 5 (by decide) (hts _ mw_4_197) (fun _ h9 => h9) rfl dX10_changed_60 ?_
            refine lv_iload_n hx hb dX10_changed_63 rfl (lv_at hl 1 rfl) ?_
            obtain ⟨hi_151, hf⟩ := pe_in hf
            refine va_iald hx hb hK hP 6 0 rfl rfl hi_151 dX10_changed_64 ?_
            refine lv_iconst (v := (1 : Int32)) hx hb dX10_changed_65 (by decide) ?_
            refine lv_isub hx hb dX10_changed_66 ?_
            refine lv_goto (tgt := 78) hx hb dX10_changed_67 (by decide) ?_
            exact w_78 v10_sum v10_coefficient v10_undone v10_wasSum v10_wasCoefficient v10_refusals v10_tried v10_left v10_high v10_then x1 x2 ((v10_sum (Int32.toNatClampNeg x1)) - (1 : Int32)) H locs ls hf hP hD hS (lv_sub hl [0, 1, 2] rfl)
        · have hf := pe_t hf hc_148
          refine lv_aload_n hx hb dX10_changed_45 rfl (lv_at hl 0 rfl) ?_
          refine va_get (ci := 10) (v := .ref (a 34)) hx hb hts wX10_in hown hK hP 0 rfl rfl 5 (by decide) (hts _ mw_4_197) (fun _ h9 => h9) rfl dX10_changed_46 ?_
          refine lv_iload_n hx hb dX10_changed_49 rfl (lv_at hl 1 rfl) ?_
          obtain ⟨hi_152, hf⟩ := pe_in hf
          refine va_iald hx hb hK hP 6 0 rfl rfl hi_152 dX10_changed_50 ?_
          refine lv_goto (tgt := 78) hx hb dX10_changed_51 (by decide) ?_
          exact w_78 v10_sum v10_coefficient v10_undone v10_wasSum v10_wasCoefficient v10_refusals v10_tried v10_left v10_high v10_then x1 x2 (v10_sum (Int32.toNatClampNeg x1)) H locs ls hf hP hD hS (lv_sub hl [0, 1, 2] rfl)
      · have hf := pe_f hf hc_147
        refine lv_bipush (v := (-11 : Int32)) hx hb dX10_changed_38 (by decide) ?_
        simp only [Option.some.injEq, Prod.mk.injEq] at hf
        obtain ⟨rfl, rfl, rfl, rfl, rfl, rfl, rfl, rfl, rfl, rfl, rfl⟩ := hf
        rw [← hQ]; exact xe_iret Cx rfl hP hD hS dX10_changed_40
    · have hf := pe_t hf hc_145
      refine lv_aload_n hx hb dX10_changed_22 rfl (lv_at hl 0 rfl) ?_
      refine lv_bipush (v := (-2 : Int32)) hx hb dX10_changed_23 (by decide) ?_
      obtain ⟨r_153, v10_refusals_154, hk_155, hf⟩ := pe_2 hf
      refine xv_i (As := [.int (-2 : Int32)]) (rest := []) (q0 := 0) (ci := 10) Cx hP hD hS hl (pl_X10_X10 a cyI cyJ v10_firstOf v10_sizeOf v10_longOf v10_row v10_character v10_sum v10_coefficient v10_undone v10_wasSum v10_wasCoefficient v10_hasImage v10_letter v10_letters v10_list v10_cell v10_refusals v10_tried v10_left v10_high v10_then v10_at v10_readSize v10_firstOf v10_sizeOf v10_longOf v10_row v10_character v10_sum v10_coefficient v10_undone v10_wasSum v10_wasCoefficient v10_hasImage v10_letter v10_letters v10_list v10_cell v10_refusals_154 v10_tried v10_left v10_high v10_then v10_at v10_readSize) (c_X10_refused l D cyI cyJ G a H.size v10_firstOf v10_sizeOf v10_longOf v10_row v10_character v10_sum v10_coefficient v10_undone v10_wasSum v10_wasCoefficient v10_hasImage v10_letter v10_letters v10_list v10_cell v10_refusals v10_tried v10_left v10_high v10_then v10_at v10_readSize (-2 : Int32) r_153 v10_refusals_154 hk_155) pk_X10_refused mw_5_29 ⟨rfl, rfl, Nat.le_of_ble_eq_true rfl, Nat.le_of_ble_eq_true rfl⟩ rfl rfl rfl rfl rfl (Nat.le_of_ble_eq_true rfl) ⟨Nat.le_of_ble_eq_true rfl, Nat.le_of_ble_eq_true rfl⟩ dX10_changed_25 (fun H locs hP hD hS => ?_)
      simp only [Option.some.injEq, Prod.mk.injEq] at hf
      obtain ⟨rfl, rfl, rfl, rfl, rfl, rfl, rfl, rfl, rfl, rfl, rfl⟩ := hf
      rw [← hQ]; exact xe_iret Cx rfl hP hD hS dX10_changed_28
  · have hf := pe_t hf hc_141
    refine lv_aload_n hx hb dX10_changed_7 rfl (lv_at hl 0 rfl) ?_
    refine lv_iconst (v := (-1 : Int32)) hx hb dX10_changed_8 (by decide) ?_
    obtain ⟨r_156, v10_refusals_157, hk_158, hf⟩ := pe_2 hf
    refine xv_i (As := [.int (-1 : Int32)]) (rest := []) (q0 := 0) (ci := 10) Cx hP hD hS hl (pl_X10_X10 a cyI cyJ v10_firstOf v10_sizeOf v10_longOf v10_row v10_character v10_sum v10_coefficient v10_undone v10_wasSum v10_wasCoefficient v10_hasImage v10_letter v10_letters v10_list v10_cell v10_refusals v10_tried v10_left v10_high v10_then v10_at v10_readSize v10_firstOf v10_sizeOf v10_longOf v10_row v10_character v10_sum v10_coefficient v10_undone v10_wasSum v10_wasCoefficient v10_hasImage v10_letter v10_letters v10_list v10_cell v10_refusals_157 v10_tried v10_left v10_high v10_then v10_at v10_readSize) (c_X10_refused l D cyI cyJ G a H.size v10_firstOf v10_sizeOf v10_longOf v10_row v10_character v10_sum v10_coefficient v10_undone v10_wasSum v10_wasCoefficient v10_hasImage v10_letter v10_letters v10_list v10_cell v10_refusals v10_tried v10_left v10_high v10_then v10_at v10_readSize (-1 : Int32) r_156 v10_refusals_157 hk_158) pk_X10_refused mw_5_29 ⟨rfl, rfl, Nat.le_of_ble_eq_true rfl, Nat.le_of_ble_eq_true rfl⟩ rfl rfl rfl rfl rfl (Nat.le_of_ble_eq_true rfl) ⟨Nat.le_of_ble_eq_true rfl, Nat.le_of_ble_eq_true rfl⟩ dX10_changed_9 (fun H locs hP hD hS => ?_)
    simp only [Option.some.injEq, Prod.mk.injEq] at hf
    obtain ⟨rfl, rfl, rfl, rfl, rfl, rfl, rfl, rfl, rfl, rfl, rfl⟩ := hf
    rw [← hQ]; exact xe_iret Cx rfl hP hD hS dX10_changed_12
def gf_X10_value_60 (K_60 : (Nat → Int32) → Int32 → Int32 → Int64 → Int32 → Option (Int64 × (Nat → Int32))) (v10_firstOf : Nat → Int32) (v10_sizeOf : Nat → Int32) (v10_character : Nat → Int32) (v10_sum : Nat → Int32) (v10_coefficient : Nat → Int32) (v10_refusals : Nat → Int32) (y1 : Int32) (y2 : Int32) (y3 : Int64) (y5 : Int32) : Option (Int64 × (Nat → Int32)) := p_in y1 4 (p_b1 (f_X10_manyOf v10_firstOf (v10_sum (Int32.toNatClampNeg y1))) (fun r_2 => if r_2 ≤ y5 then (some (y3, v10_refusals)) else (p_in (((22 : Int32) * y1) + y5) 88 (p_in y1 4 (p_in (v10_sum (Int32.toNatClampNeg y1)) 10 (p_in (((67 : Int32) * ((v10_firstOf (Int32.toNatClampNeg (v10_sum (Int32.toNatClampNeg y1)))) + y5)) + y2) 4489 (K_60 v10_refusals y1 y2 (y3 + ((Int32.toInt64 (v10_coefficient (Int32.toNatClampNeg (((22 : Int32) * y1) + y5)))) * (Int32.toInt64 (v10_character (Int32.toNatClampNeg (((67 : Int32) * ((v10_firstOf (Int32.toNatClampNeg (v10_sum (Int32.toNatClampNeg y1)))) + y5)) + y2)))))) (y5 + (1 : Int32)))))))))
def f_X10_value_60 (v10_firstOf : Nat → Int32) (v10_sizeOf : Nat → Int32) (v10_character : Nat → Int32) (v10_sum : Nat → Int32) (v10_coefficient : Nat → Int32) : Nat → (Nat → Int32) → Int32 → Int32 → Int64 → Int32 → Option (Int64 × (Nat → Int32))
  | 0 => fun _ _ _ _ _ => none
  | n + 1 => gf_X10_value_60 (f_X10_value_60 v10_firstOf v10_sizeOf v10_character v10_sum v10_coefficient n) v10_firstOf v10_sizeOf v10_character v10_sum v10_coefficient
def f_X10_value_14 (v10_firstOf : Nat → Int32) (v10_sizeOf : Nat → Int32) (v10_character : Nat → Int32) (v10_sum : Nat → Int32) (v10_coefficient : Nat → Int32) (v10_refusals : Nat → Int32) : Option (Int64 × (Nat → Int32)) := p_b2 (f_X10_farther v10_refusals (-1 : Int32)) (fun r_9 v10_refusals_10 => some (r_9, v10_refusals_10))
def f_X10_value (v10_firstOf : Nat → Int32) (v10_sizeOf : Nat → Int32) (v10_character : Nat → Int32) (v10_sum : Nat → Int32) (v10_coefficient : Nat → Int32) (v10_refusals : Nat → Int32) (x1 : Int32) (x2 : Int32) : Option (Int64 × (Nat → Int32)) := p_b1 (f_X10_isSum x1) (fun r_12 => if r_12 = 0 then ((f_X10_value_14 v10_firstOf v10_sizeOf v10_character v10_sum v10_coefficient) v10_refusals) else (p_b1 (f_X10_isShape x2) (fun r_16 => if r_16 = 0 then ((f_X10_value_14 v10_firstOf v10_sizeOf v10_character v10_sum v10_coefficient) v10_refusals) else (p_in x1 4 (if 0 ≤ (v10_sum (Int32.toNatClampNeg x1)) then (p_in x2 67 (p_in x1 4 (if (v10_sizeOf (Int32.toNatClampNeg x2)) = (v10_sum (Int32.toNatClampNeg x1)) then ((f_X10_value_60 v10_firstOf v10_sizeOf v10_character v10_sum v10_coefficient 1000) v10_refusals x1 x2 (0 : Int64) (0 : Int32)) else (p_b2 (f_X10_farther v10_refusals (-3 : Int32)) (fun r_25 v10_refusals_26 => some (r_25, v10_refusals_26)))))) else (some ((4000000000000000011 : Int64), v10_refusals)))))))
set_option maxHeartbeats 4000000 in
set_option maxRecDepth 20000 in
theorem c_X10_value (l : Launch) (D : va_G) (cyI cyJ : ClassId) (G a : Nat → Nat) (sz : Nat) (v10_firstOf : Nat → Int32) (v10_sizeOf : Nat → Int32) (v10_longOf : Nat → Int32) (v10_row : Nat → Int32) (v10_character : Nat → Int32) (v10_sum : Nat → Int32) (v10_coefficient : Nat → Int32) (v10_undone : Int32) (v10_wasSum : Nat → Int32) (v10_wasCoefficient : Nat → Int32) (v10_hasImage : Int32) (v10_letter : Nat → Int32) (v10_letters : Int32) (v10_list : Nat → Int32) (v10_cell : Nat → Int32) (v10_refusals : Nat → Int32) (v10_tried : Nat → Int32) (v10_left : Int32) (v10_high : Int32) (v10_then : Nat → Int64) (v10_at : Int32) (v10_readSize : Int32) (x1 : Int32) (x2 : Int32) (ro : Int64) (ov10_refusals : Nat → Int32) (hf : f_X10_value v10_firstOf v10_sizeOf v10_character v10_sum v10_coefficient v10_refusals x1 x2 = some (ro, ov10_refusals)) : xm_l l yX10_value (Cond.code yX10_value cX10_value 6 (some .long) :: xg_tbl) { frames := 2, cells := 0, slots := 0, locals := 42 } D xcl [(cyI, .int), (cyJ, .long)] G sz [.ref (a 28), .int x1, .int x2] (wd_X10 a cyI cyJ v10_firstOf v10_sizeOf v10_longOf v10_row v10_character v10_sum v10_coefficient v10_undone v10_wasSum v10_wasCoefficient v10_hasImage v10_letter v10_letters v10_list v10_cell v10_refusals v10_tried v10_left v10_high v10_then v10_at v10_readSize) (wd_X10 a cyI cyJ v10_firstOf v10_sizeOf v10_longOf v10_row v10_character v10_sum v10_coefficient v10_undone v10_wasSum v10_wasCoefficient v10_hasImage v10_letter v10_letters v10_list v10_cell ov10_refusals v10_tried v10_left v10_high v10_then v10_at v10_readSize) ro := by
  refine xm_of_l (own := RX10) (by decide) rfl rfl (Nat.le_of_ble_eq_true rfl) ?_
  intro p e s m args below meth c ls Q A hQ hAe hin Cx hsz hP hD hS hl
  have Cx1 := Cx
  obtain ⟨⟨hx, hb, hml, hown, hts⟩, hr, hlocks, hK, hA, hT⟩ := Cx1
  have hl : lv_has ls 6 [(0, .ref (a 28)), (1, .int x1), (2, .int x2)] := hl
  obtain ⟨H, eH⟩ : ∃ H, H = s.heap := ⟨_, rfl⟩
  obtain ⟨locs, eL⟩ : ∃ L : List Loc, L = [] := ⟨_, rfl⟩
  rw [← eH] at hP
  have hS : va_S A s.heap H locs := by rw [eH, eL]; exact hS
  suffices hgo : W p l e { frames := 2, cells := 0, slots := 0, locals := 42 } s m args below meth c H locs 0 0 Q (F0 m 0 ls []) by rw [eH, eL] at hgo; exact hgo
  clear eH eL
  unfold f_X10_value at hf
  have w_60 : ∀ (n_60 : Nat) (v10_refusals : Nat → Int32) (y1 : Int32) (y2 : Int32) (y3 : Int64) (y5 : Int32) (H : Heap) (locs : List Loc) (ls : Array Slot), (f_X10_value_60 v10_firstOf v10_sizeOf v10_character v10_sum v10_coefficient) n_60 v10_refusals y1 y2 y3 y5 = some (ro, ov10_refusals) → va_P D xcl (wd_X10 a cyI cyJ v10_firstOf v10_sizeOf v10_longOf v10_row v10_character v10_sum v10_coefficient v10_undone v10_wasSum v10_wasCoefficient v10_hasImage v10_letter v10_letters v10_list v10_cell v10_refusals v10_tried v10_left v10_high v10_then v10_at v10_readSize) H → va_D A (wd_X10 a cyI cyJ v10_firstOf v10_sizeOf v10_longOf v10_row v10_character v10_sum v10_coefficient v10_undone v10_wasSum v10_wasCoefficient v10_hasImage v10_letter v10_letters v10_list v10_cell v10_refusals v10_tried v10_left v10_high v10_then v10_at v10_readSize) → va_S A s.heap H locs → lv_has ls 6 [(0, .ref (a 28)), (1, .int y1), (2, .int y2), (3, .long y3), (5, .int y5)] → W p l e { frames := 2, cells := 0, slots := 0, locals := 42 } s m args below meth c H locs 0 0 Q (F0 m 60 ls []) := by
    intro n_60
    induction n_60 with
    | zero => intro v10_refusals y1 y2 y3 y5 H locs ls hf; exact absurd hf (by intro h9; cases h9)
    | succ n_60 w_60 =>
      intro v10_refusals y1 y2 y3 y5 H locs ls hf hP hD hS hl
      have hf : gf_X10_value_60 ((f_X10_value_60 v10_firstOf v10_sizeOf v10_character v10_sum v10_coefficient) n_60) v10_firstOf v10_sizeOf v10_character v10_sum v10_coefficient v10_refusals y1 y2 y3 y5 = some (ro, ov10_refusals) := hf
      unfold gf_X10_value_60 at hf
      refine lv_iload hx hb dX10_value_60 (lv_at hl 4 rfl) ?_
      refine lv_aload_n hx hb dX10_value_62 rfl (lv_at hl 0 rfl) ?_
      refine lv_aload_n hx hb dX10_value_63 rfl (lv_at hl 0 rfl) ?_
      refine va_get (ci := 10) (v := .ref (a 34)) hx hb hts wX10_in hown hK hP 0 rfl rfl 5 (by decide) (hts _ mw_4_197) (fun _ h9 => h9) rfl dX10_value_64 ?_
      refine lv_iload_n hx hb dX10_value_67 rfl (lv_at hl 1 rfl) ?_
      obtain ⟨hi_28, hf⟩ := pe_in hf
      refine va_iald hx hb hK hP 6 0 rfl rfl hi_28 dX10_value_68 ?_
      obtain ⟨r_29, hk_30, hf⟩ := pe_1 hf
      refine xv_i (As := [.int (v10_sum (Int32.toNatClampNeg y1))]) (rest := [.int y5]) (q0 := 0) (ci := 10) Cx hP hD hS hl (pl_X10_X10 a cyI cyJ v10_firstOf v10_sizeOf v10_longOf v10_row v10_character v10_sum v10_coefficient v10_undone v10_wasSum v10_wasCoefficient v10_hasImage v10_letter v10_letters v10_list v10_cell v10_refusals v10_tried v10_left v10_high v10_then v10_at v10_readSize v10_firstOf v10_sizeOf v10_longOf v10_row v10_character v10_sum v10_coefficient v10_undone v10_wasSum v10_wasCoefficient v10_hasImage v10_letter v10_letters v10_list v10_cell v10_refusals v10_tried v10_left v10_high v10_then v10_at v10_readSize) (c_X10_manyOf l D cyI cyJ G a H.size v10_firstOf v10_sizeOf v10_longOf v10_row v10_character v10_sum v10_coefficient v10_undone v10_wasSum v10_wasCoefficient v10_hasImage v10_letter v10_letters v10_list v10_cell v10_refusals v10_tried v10_left v10_high v10_then v10_at v10_readSize (v10_sum (Int32.toNatClampNeg y1)) r_29 hk_30) pk_X10_manyOf mw_5_63 ⟨rfl, rfl, Nat.le_of_ble_eq_true rfl, Nat.le_of_ble_eq_true rfl⟩ rfl rfl rfl rfl rfl (Nat.le_of_ble_eq_true rfl) ⟨Nat.le_of_ble_eq_true rfl, Nat.le_of_ble_eq_true rfl⟩ dX10_value_69 (fun H locs hP hD hS => ?_)
      refine lv_icmp_ge (tgt := 123) hx hb dX10_value_72 (by decide) (fun hc_31 => ?_) (fun hc_31 => ?_)
      · have hf := pe_t hf hc_31
        refine lv_lload_n hx hb dX10_value_123 rfl (lv_at hl 3 rfl) ?_
        obtain ⟨rfl, rfl⟩ := po_2 hf
        rw [← hQ]; exact xe_lret Cx rfl hP hD hS dX10_value_124
      · have hf := pe_f hf hc_31
        refine lv_lload_n hx hb dX10_value_75 rfl (lv_at hl 3 rfl) ?_
        refine lv_aload_n hx hb dX10_value_76 rfl (lv_at hl 0 rfl) ?_
        refine va_get (ci := 10) (v := .ref (a 35)) hx hb hts wX10_in hown hK hP 0 rfl rfl 6 (by decide) (hts _ mw_4_198) (fun _ h9 => h9) rfl dX10_value_77 ?_
        refine lv_bipush (v := (22 : Int32)) hx hb dX10_value_80 (by decide) ?_
        refine lv_iload_n hx hb dX10_value_82 rfl (lv_at hl 1 rfl) ?_
        refine lv_imul hx hb dX10_value_83 ?_
        refine lv_iload hx hb dX10_value_84 (lv_at hl 4 rfl) ?_
        refine lv_iadd hx hb dX10_value_86 ?_
        obtain ⟨hi_32, hf⟩ := pe_in hf
        refine va_iald hx hb hK hP 7 0 rfl rfl hi_32 dX10_value_87 ?_
        refine lv_i2l (v := Int32.toInt64 (v10_coefficient (Int32.toNatClampNeg (((22 : Int32) * y1) + y5)))) hx hb dX10_value_88 rfl ?_
        refine lv_aload_n hx hb dX10_value_89 rfl (lv_at hl 0 rfl) ?_
        refine va_get (ci := 10) (v := .ref (a 33)) hx hb hts wX10_in hown hK hP 0 rfl rfl 4 (by decide) (hts _ mw_4_196) (fun _ h9 => h9) rfl dX10_value_90 ?_
        refine lv_bipush (v := (67 : Int32)) hx hb dX10_value_93 (by decide) ?_
        refine lv_aload_n hx hb dX10_value_95 rfl (lv_at hl 0 rfl) ?_
        refine va_get (ci := 10) (v := .ref (a 29)) hx hb hts wX10_in hown hK hP 0 rfl rfl 0 (by decide) (hts _ mw_4_192) (fun _ h9 => h9) rfl dX10_value_96 ?_
        refine lv_aload_n hx hb dX10_value_99 rfl (lv_at hl 0 rfl) ?_
        refine va_get (ci := 10) (v := .ref (a 34)) hx hb hts wX10_in hown hK hP 0 rfl rfl 5 (by decide) (hts _ mw_4_197) (fun _ h9 => h9) rfl dX10_value_100 ?_
        refine lv_iload_n hx hb dX10_value_103 rfl (lv_at hl 1 rfl) ?_
        obtain ⟨hi_33, hf⟩ := pe_in hf
        refine va_iald hx hb hK hP 6 0 rfl rfl hi_33 dX10_value_104 ?_
        obtain ⟨hi_34, hf⟩ := pe_in hf
        refine va_iald hx hb hK hP 1 0 rfl rfl hi_34 dX10_value_105 ?_
        refine lv_iload hx hb dX10_value_106 (lv_at hl 4 rfl) ?_
        refine lv_iadd hx hb dX10_value_108 ?_
        refine lv_imul hx hb dX10_value_109 ?_
        refine lv_iload_n hx hb dX10_value_110 rfl (lv_at hl 2 rfl) ?_
        refine lv_iadd hx hb dX10_value_111 ?_
        obtain ⟨hi_35, hf⟩ := pe_in hf
        refine va_iald hx hb hK hP 5 0 rfl rfl hi_35 dX10_value_112 ?_
        refine lv_i2l (v := Int32.toInt64 (v10_character (Int32.toNatClampNeg (((67 : Int32) * ((v10_firstOf (Int32.toNatClampNeg (v10_sum (Int32.toNatClampNeg y1)))) + y5)) + y2)))) hx hb dX10_value_113 rfl ?_
        refine lv_lmul hx hb dX10_value_114 ?_
        refine lv_ladd hx hb dX10_value_115 ?_
        refine lv_lstore_n (lv' := [(3, .long (y3 + ((Int32.toInt64 (v10_coefficient (Int32.toNatClampNeg (((22 : Int32) * y1) + y5)))) * (Int32.toInt64 (v10_character (Int32.toNatClampNeg (((67 : Int32) * ((v10_firstOf (Int32.toNatClampNeg (v10_sum (Int32.toNatClampNeg y1)))) + y5)) + y2))))))), (0, .ref (a 28)), (1, .int y1), (2, .int y2), (5, .int y5)]) hx hb dX10_value_116 rfl hl (by decide) rfl (fun ls hl => ?_)
        refine lv_iinc (v := (y5 + (1 : Int32))) (lv' := [(5, .int (y5 + (1 : Int32))), (3, .long (y3 + ((Int32.toInt64 (v10_coefficient (Int32.toNatClampNeg (((22 : Int32) * y1) + y5)))) * (Int32.toInt64 (v10_character (Int32.toNatClampNeg (((67 : Int32) * ((v10_firstOf (Int32.toNatClampNeg (v10_sum (Int32.toNatClampNeg y1)))) + y5)) + y2))))))), (0, .ref (a 28)), (1, .int y1), (2, .int y2)]) hx hb dX10_value_117 hl (k := 4) rfl rfl (by decide) rfl (fun ls hl => ?_)
        refine lv_goto (tgt := 60) hx hb dX10_value_120 (by decide) ?_
        exact w_60 v10_refusals y1 y2 (y3 + ((Int32.toInt64 (v10_coefficient (Int32.toNatClampNeg (((22 : Int32) * y1) + y5)))) * (Int32.toInt64 (v10_character (Int32.toNatClampNeg (((67 : Int32) * ((v10_firstOf (Int32.toNatClampNeg (v10_sum (Int32.toNatClampNeg y1)))) + y5)) + y2)))))) (y5 + (1 : Int32)) H locs ls hf hP hD hS (lv_sub hl [2, 3, 4, 1, 0] rfl)
  have w_14 : ∀ (v10_refusals : Nat → Int32) (H : Heap) (locs : List Loc) (ls : Array Slot), (f_X10_value_14 v10_firstOf v10_sizeOf v10_character v10_sum v10_coefficient) v10_refusals = some (ro, ov10_refusals) → va_P D xcl (wd_X10 a cyI cyJ v10_firstOf v10_sizeOf v10_longOf v10_row v10_character v10_sum v10_coefficient v10_undone v10_wasSum v10_wasCoefficient v10_hasImage v10_letter v10_letters v10_list v10_cell v10_refusals v10_tried v10_left v10_high v10_then v10_at v10_readSize) H → va_D A (wd_X10 a cyI cyJ v10_firstOf v10_sizeOf v10_longOf v10_row v10_character v10_sum v10_coefficient v10_undone v10_wasSum v10_wasCoefficient v10_hasImage v10_letter v10_letters v10_list v10_cell v10_refusals v10_tried v10_left v10_high v10_then v10_at v10_readSize) → va_S A s.heap H locs → lv_has ls 6 [(0, .ref (a 28))] → W p l e { frames := 2, cells := 0, slots := 0, locals := 42 } s m args below meth c H locs 0 0 Q (F0 m 14 ls []) := by
    intro v10_refusals H locs ls hf hP hD hS hl
    unfold f_X10_value_14 at hf
    refine lv_aload_n hx hb dX10_value_14 rfl (lv_at hl 0 rfl) ?_
    refine lv_iconst (v := (-1 : Int32)) hx hb dX10_value_15 (by decide) ?_
    obtain ⟨r_36, v10_refusals_37, hk_38, hf⟩ := pe_2 hf
    refine xv_l (As := [.int (-1 : Int32)]) (rest := []) (q0 := 0) (ci := 10) Cx hP hD hS hl (pl_X10_X10 a cyI cyJ v10_firstOf v10_sizeOf v10_longOf v10_row v10_character v10_sum v10_coefficient v10_undone v10_wasSum v10_wasCoefficient v10_hasImage v10_letter v10_letters v10_list v10_cell v10_refusals v10_tried v10_left v10_high v10_then v10_at v10_readSize v10_firstOf v10_sizeOf v10_longOf v10_row v10_character v10_sum v10_coefficient v10_undone v10_wasSum v10_wasCoefficient v10_hasImage v10_letter v10_letters v10_list v10_cell v10_refusals_37 v10_tried v10_left v10_high v10_then v10_at v10_readSize) (c_X10_farther l D cyI cyJ G a H.size v10_firstOf v10_sizeOf v10_longOf v10_row v10_character v10_sum v10_coefficient v10_undone v10_wasSum v10_wasCoefficient v10_hasImage v10_letter v10_letters v10_list v10_cell v10_refusals v10_tried v10_left v10_high v10_then v10_at v10_readSize (-1 : Int32) r_36 v10_refusals_37 hk_38) pk_X10_farther mw_5_96 ⟨rfl, rfl, Nat.le_of_ble_eq_true rfl, Nat.le_of_ble_eq_true rfl⟩ rfl rfl rfl rfl rfl (Nat.le_of_ble_eq_true rfl) ⟨Nat.le_of_ble_eq_true rfl, Nat.le_of_ble_eq_true rfl⟩ dX10_value_16 (fun H locs hP hD hS => ?_)
    obtain ⟨rfl, rfl⟩ := po_2 hf
    rw [← hQ]; exact xe_lret Cx rfl hP hD hS dX10_value_19
  refine lv_iload_n hx hb dX10_value_0 rfl (lv_at hl 1 rfl) ?_
  obtain ⟨r_39, hk_40, hf⟩ := pe_1 hf
  refine xw_z (As := [.int x1]) (rest := []) Cx hP hD hS hl (xq_none _) (c_X10_isSum l D cyI cyJ G H.size x1 r_39 hk_40) pk_X10_isSum mw_5_152 ⟨rfl, rfl, Nat.le_of_ble_eq_true rfl, Nat.le_of_ble_eq_true rfl⟩ rfl rfl (Nat.le_of_ble_eq_true rfl) ⟨Nat.le_of_ble_eq_true rfl, Nat.le_of_ble_eq_true rfl⟩ dX10_value_1 (fun H locs hn_41 hP hD hS => ?_)
  refine lv_if_eq (tgt := 14) hx hb dX10_value_4 (by decide) (fun hc_42 => ?_) (fun hc_42 => ?_)
  · have hf := pe_t hf hc_42
    exact w_14 v10_refusals H locs ls hf hP hD hS (lv_sub hl [0] rfl)
  · have hf := pe_f hf hc_42
    refine lv_iload_n hx hb dX10_value_7 rfl (lv_at hl 2 rfl) ?_
    obtain ⟨r_43, hk_44, hf⟩ := pe_1 hf
    refine xw_z (As := [.int x2]) (rest := []) Cx hP hD hS hl (xq_none _) (c_X10_isShape l D cyI cyJ G H.size x2 r_43 hk_44) pk_X10_isShape mw_5_23 ⟨rfl, rfl, Nat.le_of_ble_eq_true rfl, Nat.le_of_ble_eq_true rfl⟩ rfl rfl (Nat.le_of_ble_eq_true rfl) ⟨Nat.le_of_ble_eq_true rfl, Nat.le_of_ble_eq_true rfl⟩ dX10_value_8 (fun H locs hn_45 hP hD hS => ?_)
    refine lv_if_ne (tgt := 20) hx hb dX10_value_11 (by decide) (fun hc_46 => ?_) (fun hc_46 => ?_)
    · have hf := pe_f hf hc_46
      refine lv_aload_n hx hb dX10_value_20 rfl (lv_at hl 0 rfl) ?_
      refine va_get (ci := 10) (v := .ref (a 34)) hx hb hts wX10_in hown hK hP 0 rfl rfl 5 (by decide) (hts _ mw_4_197) (fun _ h9 => h9) rfl dX10_value_21 ?_
      refine lv_iload_n hx hb dX10_value_24 rfl (lv_at hl 1 rfl) ?_
      obtain ⟨hi_47, hf⟩ := pe_in hf
      refine va_iald hx hb hK hP 6 0 rfl rfl hi_47 dX10_value_25 ?_
      refine lv_if_ge (tgt := 33) hx hb dX10_value_26 (by decide) (fun hc_48 => ?_) (fun hc_48 => ?_)
      · have hf := pe_t hf hc_48
        refine lv_aload_n hx hb dX10_value_33 rfl (lv_at hl 0 rfl) ?_
        refine va_get (ci := 10) (v := .ref (a 30)) hx hb hts wX10_in hown hK hP 0 rfl rfl 1 (by decide) (hts _ mw_4_193) (fun _ h9 => h9) rfl dX10_value_34 ?_
        refine lv_iload_n hx hb dX10_value_37 rfl (lv_at hl 2 rfl) ?_
        obtain ⟨hi_49, hf⟩ := pe_in hf
        refine va_iald hx hb hK hP 2 0 rfl rfl hi_49 dX10_value_38 ?_
        refine lv_aload_n hx hb dX10_value_39 rfl (lv_at hl 0 rfl) ?_
        refine va_get (ci := 10) (v := .ref (a 34)) hx hb hts wX10_in hown hK hP 0 rfl rfl 5 (by decide) (hts _ mw_4_197) (fun _ h9 => h9) rfl dX10_value_40 ?_
        refine lv_iload_n hx hb dX10_value_43 rfl (lv_at hl 1 rfl) ?_
        obtain ⟨hi_50, hf⟩ := pe_in hf
        refine va_iald hx hb hK hP 6 0 rfl rfl hi_50 dX10_value_44 ?_
        refine lv_icmp_eq (tgt := 55) hx hb dX10_value_45 (by decide) (fun hc_51 => ?_) (fun hc_51 => ?_)
        · have hf := pe_t hf hc_51
          refine lv_lconst (v := (0 : Int64)) hx hb dX10_value_55 (by decide) ?_
          refine lv_lstore_n (lv' := [(3, .long (0 : Int64)), (0, .ref (a 28)), (1, .int x1), (2, .int x2)]) hx hb dX10_value_56 rfl hl (by decide) rfl (fun ls hl => ?_)
          refine lv_iconst (v := (0 : Int32)) hx hb dX10_value_57 (by decide) ?_
          refine lv_istore (lv' := [(5, .int (0 : Int32)), (3, .long (0 : Int64)), (0, .ref (a 28)), (1, .int x1), (2, .int x2)]) hx hb dX10_value_58 hl (by decide) rfl (fun ls hl => ?_)
          exact w_60 1000 v10_refusals x1 x2 (0 : Int64) (0 : Int32) H locs ls hf hP hD hS (lv_sub hl [2, 3, 4, 1, 0] rfl)
        · have hf := pe_f hf hc_51
          refine lv_aload_n hx hb dX10_value_48 rfl (lv_at hl 0 rfl) ?_
          refine lv_bipush (v := (-3 : Int32)) hx hb dX10_value_49 (by decide) ?_
          obtain ⟨r_52, v10_refusals_53, hk_54, hf⟩ := pe_2 hf
          refine xv_l (As := [.int (-3 : Int32)]) (rest := []) (q0 := 0) (ci := 10) Cx hP hD hS hl (pl_X10_X10 a cyI cyJ v10_firstOf v10_sizeOf v10_longOf v10_row v10_character v10_sum v10_coefficient v10_undone v10_wasSum v10_wasCoefficient v10_hasImage v10_letter v10_letters v10_list v10_cell v10_refusals v10_tried v10_left v10_high v10_then v10_at v10_readSize v10_firstOf v10_sizeOf v10_longOf v10_row v10_character v10_sum v10_coefficient v10_undone v10_wasSum v10_wasCoefficient v10_hasImage v10_letter v10_letters v10_list v10_cell v10_refusals_53 v10_tried v10_left v10_high v10_then v10_at v10_readSize) (c_X10_farther l D cyI cyJ G a H.size v10_firstOf v10_sizeOf v10_longOf v10_row v10_character v10_sum v10_coefficient v10_undone v10_wasSum v10_wasCoefficient v10_hasImage v10_letter v10_letters v10_list v10_cell v10_refusals v10_tried v10_left v10_high v10_then v10_at v10_readSize (-3 : Int32) r_52 v10_refusals_53 hk_54) pk_X10_farther mw_5_96 ⟨rfl, rfl, Nat.le_of_ble_eq_true rfl, Nat.le_of_ble_eq_true rfl⟩ rfl rfl rfl rfl rfl (Nat.le_of_ble_eq_true rfl) ⟨Nat.le_of_ble_eq_true rfl, Nat.le_of_ble_eq_true rfl⟩ dX10_value_51 (fun H locs hP hD hS => ?_)
          obtain ⟨rfl, rfl⟩ := po_2 hf
          rw [← hQ]; exact xe_lret Cx rfl hP hD hS dX10_value_54
      · have hf := pe_f hf hc_48
        refine lv_ldc2 (v := (4000000000000000011 : Int64)) hx hb hown (hts _ mw_5_223) dX10_value_29 ?_
        obtain ⟨rfl, rfl⟩ := po_2 hf
        rw [← hQ]; exact xe_lret Cx rfl hP hD hS dX10_value_32
    · have hf := pe_t hf hc_46
      exact w_14 v10_refusals H locs ls hf hP hD hS (lv_sub hl [0] rfl)
def gf_X10_inner_69 (K_69 : (Nat → Int32) → Int32 → Int32 → Int64 → Int32 → Option (Int64 × (Nat → Int32))) (v10_firstOf : Nat → Int32) (v10_sum : Nat → Int32) (v10_coefficient : Nat → Int32) (v10_refusals : Nat → Int32) (y1 : Int32) (y2 : Int32) (y3 : Int64) (y5 : Int32) : Option (Int64 × (Nat → Int32)) := p_in y1 4 (p_b1 (f_X10_manyOf v10_firstOf (v10_sum (Int32.toNatClampNeg y1))) (fun r_2 => if r_2 ≤ y5 then (some (y3, v10_refusals)) else (p_in (((22 : Int32) * y1) + y5) 88 (p_in (((22 : Int32) * y2) + y5) 88 (K_69 v10_refusals y1 y2 (y3 + ((Int32.toInt64 (v10_coefficient (Int32.toNatClampNeg (((22 : Int32) * y1) + y5)))) * (Int32.toInt64 (v10_coefficient (Int32.toNatClampNeg (((22 : Int32) * y2) + y5)))))) (y5 + (1 : Int32)))))))
def f_X10_inner_69 (v10_firstOf : Nat → Int32) (v10_sum : Nat → Int32) (v10_coefficient : Nat → Int32) : Nat → (Nat → Int32) → Int32 → Int32 → Int64 → Int32 → Option (Int64 × (Nat → Int32))
  | 0 => fun _ _ _ _ _ => none
  | n + 1 => gf_X10_inner_69 (f_X10_inner_69 v10_firstOf v10_sum v10_coefficient n) v10_firstOf v10_sum v10_coefficient
def f_X10_inner_14 (v10_firstOf : Nat → Int32) (v10_sum : Nat → Int32) (v10_coefficient : Nat → Int32) (v10_refusals : Nat → Int32) : Option (Int64 × (Nat → Int32)) := p_b2 (f_X10_farther v10_refusals (-1 : Int32)) (fun r_7 v10_refusals_8 => some (r_7, v10_refusals_8))
def f_X10_inner (v10_firstOf : Nat → Int32) (v10_sum : Nat → Int32) (v10_coefficient : Nat → Int32) (v10_refusals : Nat → Int32) (x1 : Int32) (x2 : Int32) : Option (Int64 × (Nat → Int32)) := p_b1 (f_X10_isSum x1) (fun r_10 => if r_10 = 0 then ((f_X10_inner_14 v10_firstOf v10_sum v10_coefficient) v10_refusals) else (p_b1 (f_X10_isSum x2) (fun r_14 => if r_14 = 0 then ((f_X10_inner_14 v10_firstOf v10_sum v10_coefficient) v10_refusals) else (p_in x1 4 (if (v10_sum (Int32.toNatClampNeg x1)) < 0 then (some ((4000000000000000011 : Int64), v10_refusals)) else (p_in x2 4 (if 0 ≤ (v10_sum (Int32.toNatClampNeg x2)) then (p_in x1 4 (p_in x2 4 (if (v10_sum (Int32.toNatClampNeg x1)) = (v10_sum (Int32.toNatClampNeg x2)) then ((f_X10_inner_69 v10_firstOf v10_sum v10_coefficient 1000) v10_refusals x1 x2 (0 : Int64) (0 : Int32)) else (p_b2 (f_X10_farther v10_refusals (-3 : Int32)) (fun r_25 v10_refusals_26 => some (r_25, v10_refusals_26)))))) else (some ((4000000000000000011 : Int64), v10_refusals)))))))))
set_option maxHeartbeats 4000000 in
set_option maxRecDepth 20000 in
theorem c_X10_inner (l : Launch) (D : va_G) (cyI cyJ : ClassId) (G a : Nat → Nat) (sz : Nat) (v10_firstOf : Nat → Int32) (v10_sizeOf : Nat → Int32) (v10_longOf : Nat → Int32) (v10_row : Nat → Int32) (v10_character : Nat → Int32) (v10_sum : Nat → Int32) (v10_coefficient : Nat → Int32) (v10_undone : Int32) (v10_wasSum : Nat → Int32) (v10_wasCoefficient : Nat → Int32) (v10_hasImage : Int32) (v10_letter : Nat → Int32) (v10_letters : Int32) (v10_list : Nat → Int32) (v10_cell : Nat → Int32) (v10_refusals : Nat → Int32) (v10_tried : Nat → Int32) (v10_left : Int32) (v10_high : Int32) (v10_then : Nat → Int64) (v10_at : Int32) (v10_readSize : Int32) (x1 : Int32) (x2 : Int32) (ro : Int64) (ov10_refusals : Nat → Int32) (hf : f_X10_inner v10_firstOf v10_sum v10_coefficient v10_refusals x1 x2 = some (ro, ov10_refusals)) : xm_l l yX10_inner (Cond.code yX10_inner cX10_inner 6 (some .long) :: xg_tbl) { frames := 2, cells := 0, slots := 0, locals := 42 } D xcl [(cyI, .int), (cyJ, .long)] G sz [.ref (a 28), .int x1, .int x2] (wd_X10 a cyI cyJ v10_firstOf v10_sizeOf v10_longOf v10_row v10_character v10_sum v10_coefficient v10_undone v10_wasSum v10_wasCoefficient v10_hasImage v10_letter v10_letters v10_list v10_cell v10_refusals v10_tried v10_left v10_high v10_then v10_at v10_readSize) (wd_X10 a cyI cyJ v10_firstOf v10_sizeOf v10_longOf v10_row v10_character v10_sum v10_coefficient v10_undone v10_wasSum v10_wasCoefficient v10_hasImage v10_letter v10_letters v10_list v10_cell ov10_refusals v10_tried v10_left v10_high v10_then v10_at v10_readSize) ro := by
  refine xm_of_l (own := RX10) (by decide) rfl rfl (Nat.le_of_ble_eq_true rfl) ?_
  intro p e s m args below meth c ls Q A hQ hAe hin Cx hsz hP hD hS hl
  have Cx1 := Cx
  obtain ⟨⟨hx, hb, hml, hown, hts⟩, hr, hlocks, hK, hA, hT⟩ := Cx1
  have hl : lv_has ls 6 [(0, .ref (a 28)), (1, .int x1), (2, .int x2)] := hl
  obtain ⟨H, eH⟩ : ∃ H, H = s.heap := ⟨_, rfl⟩
  obtain ⟨locs, eL⟩ : ∃ L : List Loc, L = [] := ⟨_, rfl⟩
  rw [← eH] at hP
  have hS : va_S A s.heap H locs := by rw [eH, eL]; exact hS
  suffices hgo : W p l e { frames := 2, cells := 0, slots := 0, locals := 42 } s m args below meth c H locs 0 0 Q (F0 m 0 ls []) by rw [eH, eL] at hgo; exact hgo
  clear eH eL
  unfold f_X10_inner at hf
  have w_69 : ∀ (n_69 : Nat) (v10_refusals : Nat → Int32) (y1 : Int32) (y2 : Int32) (y3 : Int64) (y5 : Int32) (H : Heap) (locs : List Loc) (ls : Array Slot), (f_X10_inner_69 v10_firstOf v10_sum v10_coefficient) n_69 v10_refusals y1 y2 y3 y5 = some (ro, ov10_refusals) → va_P D xcl (wd_X10 a cyI cyJ v10_firstOf v10_sizeOf v10_longOf v10_row v10_character v10_sum v10_coefficient v10_undone v10_wasSum v10_wasCoefficient v10_hasImage v10_letter v10_letters v10_list v10_cell v10_refusals v10_tried v10_left v10_high v10_then v10_at v10_readSize) H → va_D A (wd_X10 a cyI cyJ v10_firstOf v10_sizeOf v10_longOf v10_row v10_character v10_sum v10_coefficient v10_undone v10_wasSum v10_wasCoefficient v10_hasImage v10_letter v10_letters v10_list v10_cell v10_refusals v10_tried v10_left v10_high v10_then v10_at v10_readSize) → va_S A s.heap H locs → lv_has ls 6 [(0, .ref (a 28)), (1, .int y1), (2, .int y2), (3, .long y3), (5, .int y5)] → W p l e { frames := 2, cells := 0, slots := 0, locals := 42 } s m args below meth c H locs 0 0 Q (F0 m 69 ls []) := by
    intro n_69
    induction n_69 with
    | zero => intro v10_refusals y1 y2 y3 y5 H locs ls hf; exact absurd hf (by intro h9; cases h9)
    | succ n_69 w_69 =>
      intro v10_refusals y1 y2 y3 y5 H locs ls hf hP hD hS hl
      have hf : gf_X10_inner_69 ((f_X10_inner_69 v10_firstOf v10_sum v10_coefficient) n_69) v10_firstOf v10_sum v10_coefficient v10_refusals y1 y2 y3 y5 = some (ro, ov10_refusals) := hf
      unfold gf_X10_inner_69 at hf
      refine lv_iload hx hb dX10_inner_69 (lv_at hl 4 rfl) ?_
      refine lv_aload_n hx hb dX10_inner_71 rfl (lv_at hl 0 rfl) ?_
      refine lv_aload_n hx hb dX10_inner_72 rfl (lv_at hl 0 rfl) ?_
      refine va_get (ci := 10) (v := .ref (a 34)) hx hb hts wX10_in hown hK hP 0 rfl rfl 5 (by decide) (hts _ mw_4_197) (fun _ h9 => h9) rfl dX10_inner_73 ?_
      refine lv_iload_n hx hb dX10_inner_76 rfl (lv_at hl 1 rfl) ?_
      obtain ⟨hi_28, hf⟩ := pe_in hf
      refine va_iald hx hb hK hP 6 0 rfl rfl hi_28 dX10_inner_77 ?_
      obtain ⟨r_29, hk_30, hf⟩ := pe_1 hf
      refine xv_i (As := [.int (v10_sum (Int32.toNatClampNeg y1))]) (rest := [.int y5]) (q0 := 0) (ci := 10) Cx hP hD hS hl (pl_X10_X10 a cyI cyJ v10_firstOf v10_sizeOf v10_longOf v10_row v10_character v10_sum v10_coefficient v10_undone v10_wasSum v10_wasCoefficient v10_hasImage v10_letter v10_letters v10_list v10_cell v10_refusals v10_tried v10_left v10_high v10_then v10_at v10_readSize v10_firstOf v10_sizeOf v10_longOf v10_row v10_character v10_sum v10_coefficient v10_undone v10_wasSum v10_wasCoefficient v10_hasImage v10_letter v10_letters v10_list v10_cell v10_refusals v10_tried v10_left v10_high v10_then v10_at v10_readSize) (c_X10_manyOf l D cyI cyJ G a H.size v10_firstOf v10_sizeOf v10_longOf v10_row v10_character v10_sum v10_coefficient v10_undone v10_wasSum v10_wasCoefficient v10_hasImage v10_letter v10_letters v10_list v10_cell v10_refusals v10_tried v10_left v10_high v10_then v10_at v10_readSize (v10_sum (Int32.toNatClampNeg y1)) r_29 hk_30) pk_X10_manyOf mw_5_63 ⟨rfl, rfl, Nat.le_of_ble_eq_true rfl, Nat.le_of_ble_eq_true rfl⟩ rfl rfl rfl rfl rfl (Nat.le_of_ble_eq_true rfl) ⟨Nat.le_of_ble_eq_true rfl, Nat.le_of_ble_eq_true rfl⟩ dX10_inner_78 (fun H locs hP hD hS => ?_)
      refine lv_icmp_ge (tgt := 120) hx hb dX10_inner_81 (by decide) (fun hc_31 => ?_) (fun hc_31 => ?_)
      · have hf := pe_t hf hc_31
        refine lv_lload_n hx hb dX10_inner_120 rfl (lv_at hl 3 rfl) ?_
        obtain ⟨rfl, rfl⟩ := po_2 hf
        rw [← hQ]; exact xe_lret Cx rfl hP hD hS dX10_inner_121
      · have hf := pe_f hf hc_31
        refine lv_lload_n hx hb dX10_inner_84 rfl (lv_at hl 3 rfl) ?_
        refine lv_aload_n hx hb dX10_inner_85 rfl (lv_at hl 0 rfl) ?_
        refine va_get (ci := 10) (v := .ref (a 35)) hx hb hts wX10_in hown hK hP 0 rfl rfl 6 (by decide) (hts _ mw_4_198) (fun _ h9 => h9) rfl dX10_inner_86 ?_
        refine lv_bipush (v := (22 : Int32)) hx hb dX10_inner_89 (by decide) ?_
        refine lv_iload_n hx hb dX10_inner_91 rfl (lv_at hl 1 rfl) ?_
        refine lv_imul hx hb dX10_inner_92 ?_
        refine lv_iload hx hb dX10_inner_93 (lv_at hl 4 rfl) ?_
        refine lv_iadd hx hb dX10_inner_95 ?_
        obtain ⟨hi_32, hf⟩ := pe_in hf
        refine va_iald hx hb hK hP 7 0 rfl rfl hi_32 dX10_inner_96 ?_
        refine lv_i2l (v := Int32.toInt64 (v10_coefficient (Int32.toNatClampNeg (((22 : Int32) * y1) + y5)))) hx hb dX10_inner_97 rfl ?_
        refine lv_aload_n hx hb dX10_inner_98 rfl (lv_at hl 0 rfl) ?_
        refine va_get (ci := 10) (v := .ref (a 35)) hx hb hts wX10_in hown hK hP 0 rfl rfl 6 (by decide) (hts _ mw_4_198) (fun _ h9 => h9) rfl dX10_inner_99 ?_
        refine lv_bipush (v := (22 : Int32)) hx hb dX10_inner_102 (by decide) ?_
        refine lv_iload_n hx hb dX10_inner_104 rfl (lv_at hl 2 rfl) ?_
        refine lv_imul hx hb dX10_inner_105 ?_
        refine lv_iload hx hb dX10_inner_106 (lv_at hl 4 rfl) ?_
        refine lv_iadd hx hb dX10_inner_108 ?_
        obtain ⟨hi_33, hf⟩ := pe_in hf
        refine va_iald hx hb hK hP 7 0 rfl rfl hi_33 dX10_inner_109 ?_
        refine lv_i2l (v := Int32.toInt64 (v10_coefficient (Int32.toNatClampNeg (((22 : Int32) * y2) + y5)))) hx hb dX10_inner_110 rfl ?_
        refine lv_lmul hx hb dX10_inner_111 ?_
        refine lv_ladd hx hb dX10_inner_112 ?_
        refine lv_lstore_n (lv' := [(3, .long (y3 + ((Int32.toInt64 (v10_coefficient (Int32.toNatClampNeg (((22 : Int32) * y1) + y5)))) * (Int32.toInt64 (v10_coefficient (Int32.toNatClampNeg (((22 : Int32) * y2) + y5))))))), (0, .ref (a 28)), (1, .int y1), (2, .int y2), (5, .int y5)]) hx hb dX10_inner_113 rfl hl (by decide) rfl (fun ls hl => ?_)
        refine lv_iinc (v := (y5 + (1 : Int32))) (lv' := [(5, .int (y5 + (1 : Int32))), (3, .long (y3 + ((Int32.toInt64 (v10_coefficient (Int32.toNatClampNeg (((22 : Int32) * y1) + y5)))) * (Int32.toInt64 (v10_coefficient (Int32.toNatClampNeg (((22 : Int32) * y2) + y5))))))), (0, .ref (a 28)), (1, .int y1), (2, .int y2)]) hx hb dX10_inner_114 hl (k := 4) rfl rfl (by decide) rfl (fun ls hl => ?_)
        refine lv_goto (tgt := 69) hx hb dX10_inner_117 (by decide) ?_
        exact w_69 v10_refusals y1 y2 (y3 + ((Int32.toInt64 (v10_coefficient (Int32.toNatClampNeg (((22 : Int32) * y1) + y5)))) * (Int32.toInt64 (v10_coefficient (Int32.toNatClampNeg (((22 : Int32) * y2) + y5)))))) (y5 + (1 : Int32)) H locs ls hf hP hD hS (lv_sub hl [2, 3, 4, 1, 0] rfl)
  have w_14 : ∀ (v10_refusals : Nat → Int32) (H : Heap) (locs : List Loc) (ls : Array Slot), (f_X10_inner_14 v10_firstOf v10_sum v10_coefficient) v10_refusals = some (ro, ov10_refusals) → va_P D xcl (wd_X10 a cyI cyJ v10_firstOf v10_sizeOf v10_longOf v10_row v10_character v10_sum v10_coefficient v10_undone v10_wasSum v10_wasCoefficient v10_hasImage v10_letter v10_letters v10_list v10_cell v10_refusals v10_tried v10_left v10_high v10_then v10_at v10_readSize) H → va_D A (wd_X10 a cyI cyJ v10_firstOf v10_sizeOf v10_longOf v10_row v10_character v10_sum v10_coefficient v10_undone v10_wasSum v10_wasCoefficient v10_hasImage v10_letter v10_letters v10_list v10_cell v10_refusals v10_tried v10_left v10_high v10_then v10_at v10_readSize) → va_S A s.heap H locs → lv_has ls 6 [(0, .ref (a 28))] → W p l e { frames := 2, cells := 0, slots := 0, locals := 42 } s m args below meth c H locs 0 0 Q (F0 m 14 ls []) := by
    intro v10_refusals H locs ls hf hP hD hS hl
    unfold f_X10_inner_14 at hf
    refine lv_aload_n hx hb dX10_inner_14 rfl (lv_at hl 0 rfl) ?_
    refine lv_iconst (v := (-1 : Int32)) hx hb dX10_inner_15 (by decide) ?_
    obtain ⟨r_34, v10_refusals_35, hk_36, hf⟩ := pe_2 hf
    refine xv_l (As := [.int (-1 : Int32)]) (rest := []) (q0 := 0) (ci := 10) Cx hP hD hS hl (pl_X10_X10 a cyI cyJ v10_firstOf v10_sizeOf v10_longOf v10_row v10_character v10_sum v10_coefficient v10_undone v10_wasSum v10_wasCoefficient v10_hasImage v10_letter v10_letters v10_list v10_cell v10_refusals v10_tried v10_left v10_high v10_then v10_at v10_readSize v10_firstOf v10_sizeOf v10_longOf v10_row v10_character v10_sum v10_coefficient v10_undone v10_wasSum v10_wasCoefficient v10_hasImage v10_letter v10_letters v10_list v10_cell v10_refusals_35 v10_tried v10_left v10_high v10_then v10_at v10_readSize) (c_X10_farther l D cyI cyJ G a H.size v10_firstOf v10_sizeOf v10_longOf v10_row v10_character v10_sum v10_coefficient v10_undone v10_wasSum v10_wasCoefficient v10_hasImage v10_letter v10_letters v10_list v10_cell v10_refusals v10_tried v10_left v10_high v10_then v10_at v10_readSize (-1 : Int32) r_34 v10_refusals_35 hk_36) pk_X10_farther mw_5_96 ⟨rfl, rfl, Nat.le_of_ble_eq_true rfl, Nat.le_of_ble_eq_true rfl⟩ rfl rfl rfl rfl rfl (Nat.le_of_ble_eq_true rfl) ⟨Nat.le_of_ble_eq_true rfl, Nat.le_of_ble_eq_true rfl⟩ dX10_inner_16 (fun H locs hP hD hS => ?_)
    obtain ⟨rfl, rfl⟩ := po_2 hf
    rw [← hQ]; exact xe_lret Cx rfl hP hD hS dX10_inner_19
  refine lv_iload_n hx hb dX10_inner_0 rfl (lv_at hl 1 rfl) ?_
  obtain ⟨r_37, hk_38, hf⟩ := pe_1 hf
  refine xw_z (As := [.int x1]) (rest := []) Cx hP hD hS hl (xq_none _) (c_X10_isSum l D cyI cyJ G H.size x1 r_37 hk_38) pk_X10_isSum mw_5_152 ⟨rfl, rfl, Nat.le_of_ble_eq_true rfl, Nat.le_of_ble_eq_true rfl⟩ rfl rfl (Nat.le_of_ble_eq_true rfl) ⟨Nat.le_of_ble_eq_true rfl, Nat.le_of_ble_eq_true rfl⟩ dX10_inner_1 (fun H locs hn_39 hP hD hS => ?_)
  refine lv_if_eq (tgt := 14) hx hb dX10_inner_4 (by decide) (fun hc_40 => ?_) (fun hc_40 => ?_)
  · have hf := pe_t hf hc_40
    exact w_14 v10_refusals H locs ls hf hP hD hS (lv_sub hl [0] rfl)
  · have hf := pe_f hf hc_40
    refine lv_iload_n hx hb dX10_inner_7 rfl (lv_at hl 2 rfl) ?_
    obtain ⟨r_41, hk_42, hf⟩ := pe_1 hf
    refine xw_z (As := [.int x2]) (rest := []) Cx hP hD hS hl (xq_none _) (c_X10_isSum l D cyI cyJ G H.size x2 r_41 hk_42) pk_X10_isSum mw_5_152 ⟨rfl, rfl, Nat.le_of_ble_eq_true rfl, Nat.le_of_ble_eq_true rfl⟩ rfl rfl (Nat.le_of_ble_eq_true rfl) ⟨Nat.le_of_ble_eq_true rfl, Nat.le_of_ble_eq_true rfl⟩ dX10_inner_8 (fun H locs hn_43 hP hD hS => ?_)
    refine lv_if_ne (tgt := 20) hx hb dX10_inner_11 (by decide) (fun hc_44 => ?_) (fun hc_44 => ?_)
    · have hf := pe_f hf hc_44
      refine lv_aload_n hx hb dX10_inner_20 rfl (lv_at hl 0 rfl) ?_
      refine va_get (ci := 10) (v := .ref (a 34)) hx hb hts wX10_in hown hK hP 0 rfl rfl 5 (by decide) (hts _ mw_4_197) (fun _ h9 => h9) rfl dX10_inner_21 ?_
      refine lv_iload_n hx hb dX10_inner_24 rfl (lv_at hl 1 rfl) ?_
      obtain ⟨hi_45, hf⟩ := pe_in hf
      refine va_iald hx hb hK hP 6 0 rfl rfl hi_45 dX10_inner_25 ?_
      refine lv_if_lt (tgt := 38) hx hb dX10_inner_26 (by decide) (fun hc_46 => ?_) (fun hc_46 => ?_)
      · have hf := pe_t hf hc_46
        refine lv_ldc2 (v := (4000000000000000011 : Int64)) hx hb hown (hts _ mw_5_223) dX10_inner_38 ?_
        obtain ⟨rfl, rfl⟩ := po_2 hf
        rw [← hQ]; exact xe_lret Cx rfl hP hD hS dX10_inner_41
      · have hf := pe_f hf hc_46
        refine lv_aload_n hx hb dX10_inner_29 rfl (lv_at hl 0 rfl) ?_
        refine va_get (ci := 10) (v := .ref (a 34)) hx hb hts wX10_in hown hK hP 0 rfl rfl 5 (by decide) (hts _ mw_4_197) (fun _ h9 => h9) rfl dX10_inner_30 ?_
        refine lv_iload_n hx hb dX10_inner_33 rfl (lv_at hl 2 rfl) ?_
        obtain ⟨hi_47, hf⟩ := pe_in hf
        refine va_iald hx hb hK hP 6 0 rfl rfl hi_47 dX10_inner_34 ?_
        refine lv_if_ge (tgt := 42) hx hb dX10_inner_35 (by decide) (fun hc_48 => ?_) (fun hc_48 => ?_)
        · have hf := pe_t hf hc_48
          refine lv_aload_n hx hb dX10_inner_42 rfl (lv_at hl 0 rfl) ?_
          refine va_get (ci := 10) (v := .ref (a 34)) hx hb hts wX10_in hown hK hP 0 rfl rfl 5 (by decide) (hts _ mw_4_197) (fun _ h9 => h9) rfl dX10_inner_43 ?_
          refine lv_iload_n hx hb dX10_inner_46 rfl (lv_at hl 1 rfl) ?_
          obtain ⟨hi_49, hf⟩ := pe_in hf
          refine va_iald hx hb hK hP 6 0 rfl rfl hi_49 dX10_inner_47 ?_
          refine lv_aload_n hx hb dX10_inner_48 rfl (lv_at hl 0 rfl) ?_
          refine va_get (ci := 10) (v := .ref (a 34)) hx hb hts wX10_in hown hK hP 0 rfl rfl 5 (by decide) (hts _ mw_4_197) (fun _ h9 => h9) rfl dX10_inner_49 ?_
          refine lv_iload_n hx hb dX10_inner_52 rfl (lv_at hl 2 rfl) ?_
          obtain ⟨hi_50, hf⟩ := pe_in hf
          refine va_iald hx hb hK hP 6 0 rfl rfl hi_50 dX10_inner_53 ?_
          refine lv_icmp_eq (tgt := 64) hx hb dX10_inner_54 (by decide) (fun hc_51 => ?_) (fun hc_51 => ?_)
          · have hf := pe_t hf hc_51
            refine lv_lconst (v := (0 : Int64)) hx hb dX10_inner_64 (by decide) ?_
            refine lv_lstore_n (lv' := [(3, .long (0 : Int64)), (0, .ref (a 28)), (1, .int x1), (2, .int x2)]) hx hb dX10_inner_65 rfl hl (by decide) rfl (fun ls hl => ?_)
            refine lv_iconst (v := (0 : Int32)) hx hb dX10_inner_66 (by decide) ?_
            refine lv_istore (lv' := [(5, .int (0 : Int32)), (3, .long (0 : Int64)), (0, .ref (a 28)), (1, .int x1), (2, .int x2)]) hx hb dX10_inner_67 hl (by decide) rfl (fun ls hl => ?_)
            exact w_69 1000 v10_refusals x1 x2 (0 : Int64) (0 : Int32) H locs ls hf hP hD hS (lv_sub hl [2, 3, 4, 1, 0] rfl)
          · have hf := pe_f hf hc_51
            refine lv_aload_n hx hb dX10_inner_57 rfl (lv_at hl 0 rfl) ?_
            refine lv_bipush (v := (-3 : Int32)) hx hb dX10_inner_58 (by decide) ?_
            obtain ⟨r_52, v10_refusals_53, hk_54, hf⟩ := pe_2 hf
            refine xv_l (As := [.int (-3 : Int32)]) (rest := []) (q0 := 0) (ci := 10) Cx hP hD hS hl (pl_X10_X10 a cyI cyJ v10_firstOf v10_sizeOf v10_longOf v10_row v10_character v10_sum v10_coefficient v10_undone v10_wasSum v10_wasCoefficient v10_hasImage v10_letter v10_letters v10_list v10_cell v10_refusals v10_tried v10_left v10_high v10_then v10_at v10_readSize v10_firstOf v10_sizeOf v10_longOf v10_row v10_character v10_sum v10_coefficient v10_undone v10_wasSum v10_wasCoefficient v10_hasImage v10_letter v10_letters v10_list v10_cell v10_refusals_53 v10_tried v10_left v10_high v10_then v10_at v10_readSize) (c_X10_farther l D cyI cyJ G a H.size v10_firstOf v10_sizeOf v10_longOf v10_row v10_character v10_sum v10_coefficient v10_undone v10_wasSum v10_wasCoefficient v10_hasImage v10_letter v10_letters v10_list v10_cell v10_refusals v10_tried v10_left v10_high v10_then v10_at v10_readSize (-3 : Int32) r_52 v10_refusals_53 hk_54) pk_X10_farther mw_5_96 ⟨rfl, rfl, Nat.le_of_ble_eq_true rfl, Nat.le_of_ble_eq_true rfl⟩ rfl rfl rfl rfl rfl (Nat.le_of_ble_eq_true rfl) ⟨Nat.le_of_ble_eq_true rfl, Nat.le_of_ble_eq_true rfl⟩ dX10_inner_60 (fun H locs hP hD hS => ?_)
            obtain ⟨rfl, rfl⟩ := po_2 hf
            rw [← hQ]; exact xe_lret Cx rfl hP hD hS dX10_inner_63
        · have hf := pe_f hf hc_48
          refine lv_ldc2 (v := (4000000000000000011 : Int64)) hx hb hown (hts _ mw_5_223) dX10_inner_38 ?_
          obtain ⟨rfl, rfl⟩ := po_2 hf
          rw [← hQ]; exact xe_lret Cx rfl hP hD hS dX10_inner_41
    · have hf := pe_t hf hc_44
      exact w_14 v10_refusals H locs ls hf hP hD hS (lv_sub hl [0] rfl)
def gf_X10_list_42 (K_42 : (Nat → Int32) → (Nat → Int32) → (Nat → Int32) → Int32 → Int32 → Int32 → Option (Int32 × (Nat → Int32) × (Nat → Int32) × (Nat → Int32))) (v10_list : Nat → Int32) (v10_cell : Nat → Int32) (v10_refusals : Nat → Int32) (y1 : Int32) (y2 : Int32) (y3 : Int32) : Option (Int32 × (Nat → Int32) × (Nat → Int32) × (Nat → Int32)) := if y2 ≤ y3 then (some ((1 : Int32), v10_list, v10_cell, v10_refusals)) else (p_in (((40 : Int32) * y1) + y3) 120 (K_42 v10_list (upd v10_cell (Int32.toNatClampNeg (((40 : Int32) * y1) + y3)) (0 : Int32)) v10_refusals y1 y2 (y3 + (1 : Int32))))
def f_X10_list_42 : Nat → (Nat → Int32) → (Nat → Int32) → (Nat → Int32) → Int32 → Int32 → Int32 → Option (Int32 × (Nat → Int32) × (Nat → Int32) × (Nat → Int32))
  | 0 => fun _ _ _ _ _ _ => none
  | n + 1 => gf_X10_list_42 (f_X10_list_42 n)
def f_X10_list (v10_list : Nat → Int32) (v10_cell : Nat → Int32) (v10_refusals : Nat → Int32) (x1 : Int32) (x2 : Int32) : Option (Int32 × (Nat → Int32) × (Nat → Int32) × (Nat → Int32)) := p_b1 (f_X10_isList x1) (fun r_3 => if r_3 = 0 then (p_b2 (f_X10_refused v10_refusals (-1 : Int32)) (fun r_13 v10_refusals_14 => some (r_13, v10_list, v10_cell, v10_refusals_14))) else (if x2 ≤ (40 : Int32) then (if 0 ≤ x2 then (p_in x1 3 ((f_X10_list_42 1000) (upd v10_list (Int32.toNatClampNeg x1) x2) v10_cell v10_refusals x1 x2 (0 : Int32))) else (some ((-14 : Int32), v10_list, v10_cell, v10_refusals))) else (p_b2 (f_X10_refused v10_refusals (-6 : Int32)) (fun r_10 v10_refusals_11 => some (r_10, v10_list, v10_cell, v10_refusals_11)))))
set_option maxHeartbeats 4000000 in
set_option maxRecDepth 20000 in
theorem c_X10_list (l : Launch) (D : va_G) (cyI cyJ : ClassId) (G a : Nat → Nat) (sz : Nat) (v10_firstOf : Nat → Int32) (v10_sizeOf : Nat → Int32) (v10_longOf : Nat → Int32) (v10_row : Nat → Int32) (v10_character : Nat → Int32) (v10_sum : Nat → Int32) (v10_coefficient : Nat → Int32) (v10_undone : Int32) (v10_wasSum : Nat → Int32) (v10_wasCoefficient : Nat → Int32) (v10_hasImage : Int32) (v10_letter : Nat → Int32) (v10_letters : Int32) (v10_list : Nat → Int32) (v10_cell : Nat → Int32) (v10_refusals : Nat → Int32) (v10_tried : Nat → Int32) (v10_left : Int32) (v10_high : Int32) (v10_then : Nat → Int64) (v10_at : Int32) (v10_readSize : Int32) (x1 : Int32) (x2 : Int32) (ro : Int32) (ov10_list : Nat → Int32) (ov10_cell : Nat → Int32) (ov10_refusals : Nat → Int32) (hf : f_X10_list v10_list v10_cell v10_refusals x1 x2 = some (ro, ov10_list, ov10_cell, ov10_refusals)) : xm_i l yX10_list (Cond.code yX10_list cX10_list 4 (some .int) :: xg_tbl) { frames := 2, cells := 0, slots := 0, locals := 42 } D xcl [(cyI, .int), (cyJ, .long)] G sz [.ref (a 28), .int x1, .int x2] (wd_X10 a cyI cyJ v10_firstOf v10_sizeOf v10_longOf v10_row v10_character v10_sum v10_coefficient v10_undone v10_wasSum v10_wasCoefficient v10_hasImage v10_letter v10_letters v10_list v10_cell v10_refusals v10_tried v10_left v10_high v10_then v10_at v10_readSize) (wd_X10 a cyI cyJ v10_firstOf v10_sizeOf v10_longOf v10_row v10_character v10_sum v10_coefficient v10_undone v10_wasSum v10_wasCoefficient v10_hasImage v10_letter v10_letters ov10_list ov10_cell ov10_refusals v10_tried v10_left v10_high v10_then v10_at v10_readSize) ro := by
  refine xm_of_i (own := RX10) (by decide) rfl rfl (Nat.le_of_ble_eq_true rfl) ?_
  intro p e s m args below meth c ls Q A hQ hAe hin Cx hsz hP hD hS hl
  have Cx1 := Cx
  obtain ⟨⟨hx, hb, hml, hown, hts⟩, hr, hlocks, hK, hA, hT⟩ := Cx1
  have hl : lv_has ls 4 [(0, .ref (a 28)), (1, .int x1), (2, .int x2)] := hl
  obtain ⟨H, eH⟩ : ∃ H, H = s.heap := ⟨_, rfl⟩
  obtain ⟨locs, eL⟩ : ∃ L : List Loc, L = [] := ⟨_, rfl⟩
  rw [← eH] at hP
  have hS : va_S A s.heap H locs := by rw [eH, eL]; exact hS
  suffices hgo : W p l e { frames := 2, cells := 0, slots := 0, locals := 42 } s m args below meth c H locs 0 0 Q (F0 m 0 ls []) by rw [eH, eL] at hgo; exact hgo
  clear eH eL
  unfold f_X10_list at hf
  have w_42 : ∀ (n_42 : Nat) (v10_list : Nat → Int32) (v10_cell : Nat → Int32) (v10_refusals : Nat → Int32) (y1 : Int32) (y2 : Int32) (y3 : Int32) (H : Heap) (locs : List Loc) (ls : Array Slot), f_X10_list_42 n_42 v10_list v10_cell v10_refusals y1 y2 y3 = some (ro, ov10_list, ov10_cell, ov10_refusals) → va_P D xcl (wd_X10 a cyI cyJ v10_firstOf v10_sizeOf v10_longOf v10_row v10_character v10_sum v10_coefficient v10_undone v10_wasSum v10_wasCoefficient v10_hasImage v10_letter v10_letters v10_list v10_cell v10_refusals v10_tried v10_left v10_high v10_then v10_at v10_readSize) H → va_D A (wd_X10 a cyI cyJ v10_firstOf v10_sizeOf v10_longOf v10_row v10_character v10_sum v10_coefficient v10_undone v10_wasSum v10_wasCoefficient v10_hasImage v10_letter v10_letters v10_list v10_cell v10_refusals v10_tried v10_left v10_high v10_then v10_at v10_readSize) → va_S A s.heap H locs → lv_has ls 4 [(0, .ref (a 28)), (1, .int y1), (2, .int y2), (3, .int y3)] → W p l e { frames := 2, cells := 0, slots := 0, locals := 42 } s m args below meth c H locs 0 0 Q (F0 m 42 ls []) := by
    intro n_42
    induction n_42 with
    | zero => intro v10_list v10_cell v10_refusals y1 y2 y3 H locs ls hf; exact absurd hf (by intro h9; cases h9)
    | succ n_42 w_42 =>
      intro v10_list v10_cell v10_refusals y1 y2 y3 H locs ls hf hP hD hS hl
      have hf : gf_X10_list_42 (f_X10_list_42 n_42) v10_list v10_cell v10_refusals y1 y2 y3 = some (ro, ov10_list, ov10_cell, ov10_refusals) := hf
      unfold gf_X10_list_42 at hf
      refine lv_iload_n hx hb dX10_list_42 rfl (lv_at hl 3 rfl) ?_
      refine lv_iload_n hx hb dX10_list_43 rfl (lv_at hl 2 rfl) ?_
      refine lv_icmp_ge (tgt := 65) hx hb dX10_list_44 (by decide) (fun hc_16 => ?_) (fun hc_16 => ?_)
      · have hf := pe_t hf hc_16
        refine lv_iconst (v := (1 : Int32)) hx hb dX10_list_65 (by decide) ?_
        obtain ⟨rfl, rfl, rfl, rfl⟩ := po_4 hf
        rw [← hQ]; exact xe_iret Cx rfl hP hD hS dX10_list_66
      · have hf := pe_f hf hc_16
        refine lv_aload_n hx hb dX10_list_47 rfl (lv_at hl 0 rfl) ?_
        refine va_get (ci := 10) (v := .ref (a 40)) hx hb hts wX10_in hown hK hP 0 rfl rfl 14 (by decide) (hts _ mw_4_206) (fun _ h9 => h9) rfl dX10_list_48 ?_
        refine lv_bipush (v := (40 : Int32)) hx hb dX10_list_51 (by decide) ?_
        refine lv_iload_n hx hb dX10_list_53 rfl (lv_at hl 1 rfl) ?_
        refine lv_imul hx hb dX10_list_54 ?_
        refine lv_iload_n hx hb dX10_list_55 rfl (lv_at hl 3 rfl) ?_
        refine lv_iadd hx hb dX10_list_56 ?_
        refine lv_iconst (v := (0 : Int32)) hx hb dX10_list_57 (by decide) ?_
        obtain ⟨hi_17, hf⟩ := pe_in hf
        refine va_iast hx hb hK hP hD hS 12 0 rfl rfl hi_17 dX10_list_58 (fun H locs hP hD hS => ?_)
        have hP : va_P D xcl (wd_X10 a cyI cyJ v10_firstOf v10_sizeOf v10_longOf v10_row v10_character v10_sum v10_coefficient v10_undone v10_wasSum v10_wasCoefficient v10_hasImage v10_letter v10_letters v10_list (upd v10_cell (Int32.toNatClampNeg (((40 : Int32) * y1) + y3)) (0 : Int32)) v10_refusals v10_tried v10_left v10_high v10_then v10_at v10_readSize) H := hP
        have hD : va_D A (wd_X10 a cyI cyJ v10_firstOf v10_sizeOf v10_longOf v10_row v10_character v10_sum v10_coefficient v10_undone v10_wasSum v10_wasCoefficient v10_hasImage v10_letter v10_letters v10_list (upd v10_cell (Int32.toNatClampNeg (((40 : Int32) * y1) + y3)) (0 : Int32)) v10_refusals v10_tried v10_left v10_high v10_then v10_at v10_readSize) := hD
        refine lv_iinc (v := (y3 + (1 : Int32))) (lv' := [(3, .int (y3 + (1 : Int32))), (0, .ref (a 28)), (1, .int y1), (2, .int y2)]) hx hb dX10_list_59 hl (k := 3) rfl rfl (by decide) rfl (fun ls hl => ?_)
        refine lv_goto (tgt := 42) hx hb dX10_list_62 (by decide) ?_
        exact w_42 v10_list (upd v10_cell (Int32.toNatClampNeg (((40 : Int32) * y1) + y3)) (0 : Int32)) v10_refusals y1 y2 (y3 + (1 : Int32)) H locs ls hf hP hD hS (lv_sub hl [1, 2, 3, 0] rfl)
  refine lv_iload_n hx hb dX10_list_0 rfl (lv_at hl 1 rfl) ?_
  obtain ⟨r_18, hk_19, hf⟩ := pe_1 hf
  refine xw_z (As := [.int x1]) (rest := []) Cx hP hD hS hl (xq_none _) (c_X10_isList l D cyI cyJ G H.size x1 r_18 hk_19) pk_X10_isList mw_5_56 ⟨rfl, rfl, Nat.le_of_ble_eq_true rfl, Nat.le_of_ble_eq_true rfl⟩ rfl rfl (Nat.le_of_ble_eq_true rfl) ⟨Nat.le_of_ble_eq_true rfl, Nat.le_of_ble_eq_true rfl⟩ dX10_list_1 (fun H locs hn_20 hP hD hS => ?_)
  refine lv_if_ne (tgt := 13) hx hb dX10_list_4 (by decide) (fun hc_21 => ?_) (fun hc_21 => ?_)
  · have hf := pe_f hf hc_21
    refine lv_iload_n hx hb dX10_list_13 rfl (lv_at hl 2 rfl) ?_
    refine lv_bipush (v := (40 : Int32)) hx hb dX10_list_14 (by decide) ?_
    refine lv_icmp_le (tgt := 26) hx hb dX10_list_16 (by decide) (fun hc_22 => ?_) (fun hc_22 => ?_)
    · have hf := pe_t hf hc_22
      refine lv_iload_n hx hb dX10_list_26 rfl (lv_at hl 2 rfl) ?_
      refine lv_if_ge (tgt := 33) hx hb dX10_list_27 (by decide) (fun hc_23 => ?_) (fun hc_23 => ?_)
      · have hf := pe_t hf hc_23
        refine lv_aload_n hx hb dX10_list_33 rfl (lv_at hl 0 rfl) ?_
        refine va_get (ci := 10) (v := .ref (a 39)) hx hb hts wX10_in hown hK hP 0 rfl rfl 13 (by decide) (hts _ mw_4_205) (fun _ h9 => h9) rfl dX10_list_34 ?_
        refine lv_iload_n hx hb dX10_list_37 rfl (lv_at hl 1 rfl) ?_
        refine lv_iload_n hx hb dX10_list_38 rfl (lv_at hl 2 rfl) ?_
        obtain ⟨hi_24, hf⟩ := pe_in hf
        refine va_iast hx hb hK hP hD hS 11 0 rfl rfl hi_24 dX10_list_39 (fun H locs hP hD hS => ?_)
        have hP : va_P D xcl (wd_X10 a cyI cyJ v10_firstOf v10_sizeOf v10_longOf v10_row v10_character v10_sum v10_coefficient v10_undone v10_wasSum v10_wasCoefficient v10_hasImage v10_letter v10_letters (upd v10_list (Int32.toNatClampNeg x1) x2) v10_cell v10_refusals v10_tried v10_left v10_high v10_then v10_at v10_readSize) H := hP
        have hD : va_D A (wd_X10 a cyI cyJ v10_firstOf v10_sizeOf v10_longOf v10_row v10_character v10_sum v10_coefficient v10_undone v10_wasSum v10_wasCoefficient v10_hasImage v10_letter v10_letters (upd v10_list (Int32.toNatClampNeg x1) x2) v10_cell v10_refusals v10_tried v10_left v10_high v10_then v10_at v10_readSize) := hD
        refine lv_iconst (v := (0 : Int32)) hx hb dX10_list_40 (by decide) ?_
        refine lv_istore_n (lv' := [(3, .int (0 : Int32)), (0, .ref (a 28)), (1, .int x1), (2, .int x2)]) hx hb dX10_list_41 rfl hl (by decide) rfl (fun ls hl => ?_)
        exact w_42 1000 (upd v10_list (Int32.toNatClampNeg x1) x2) v10_cell v10_refusals x1 x2 (0 : Int32) H locs ls hf hP hD hS (lv_sub hl [1, 2, 3, 0] rfl)
      · have hf := pe_f hf hc_23
        refine lv_bipush (v := (-14 : Int32)) hx hb dX10_list_30 (by decide) ?_
        obtain ⟨rfl, rfl, rfl, rfl⟩ := po_4 hf
        rw [← hQ]; exact xe_iret Cx rfl hP hD hS dX10_list_32
    · have hf := pe_f hf hc_22
      refine lv_aload_n hx hb dX10_list_19 rfl (lv_at hl 0 rfl) ?_
      refine lv_bipush (v := (-6 : Int32)) hx hb dX10_list_20 (by decide) ?_
      obtain ⟨r_25, v10_refusals_26, hk_27, hf⟩ := pe_2 hf
      refine xv_i (As := [.int (-6 : Int32)]) (rest := []) (q0 := 0) (ci := 10) Cx hP hD hS hl (pl_X10_X10 a cyI cyJ v10_firstOf v10_sizeOf v10_longOf v10_row v10_character v10_sum v10_coefficient v10_undone v10_wasSum v10_wasCoefficient v10_hasImage v10_letter v10_letters v10_list v10_cell v10_refusals v10_tried v10_left v10_high v10_then v10_at v10_readSize v10_firstOf v10_sizeOf v10_longOf v10_row v10_character v10_sum v10_coefficient v10_undone v10_wasSum v10_wasCoefficient v10_hasImage v10_letter v10_letters v10_list v10_cell v10_refusals_26 v10_tried v10_left v10_high v10_then v10_at v10_readSize) (c_X10_refused l D cyI cyJ G a H.size v10_firstOf v10_sizeOf v10_longOf v10_row v10_character v10_sum v10_coefficient v10_undone v10_wasSum v10_wasCoefficient v10_hasImage v10_letter v10_letters v10_list v10_cell v10_refusals v10_tried v10_left v10_high v10_then v10_at v10_readSize (-6 : Int32) r_25 v10_refusals_26 hk_27) pk_X10_refused mw_5_29 ⟨rfl, rfl, Nat.le_of_ble_eq_true rfl, Nat.le_of_ble_eq_true rfl⟩ rfl rfl rfl rfl rfl (Nat.le_of_ble_eq_true rfl) ⟨Nat.le_of_ble_eq_true rfl, Nat.le_of_ble_eq_true rfl⟩ dX10_list_22 (fun H locs hP hD hS => ?_)
      obtain ⟨rfl, rfl, rfl, rfl⟩ := po_4 hf
      rw [← hQ]; exact xe_iret Cx rfl hP hD hS dX10_list_25
  · have hf := pe_t hf hc_21
    refine lv_aload_n hx hb dX10_list_7 rfl (lv_at hl 0 rfl) ?_
    refine lv_iconst (v := (-1 : Int32)) hx hb dX10_list_8 (by decide) ?_
    obtain ⟨r_28, v10_refusals_29, hk_30, hf⟩ := pe_2 hf
    refine xv_i (As := [.int (-1 : Int32)]) (rest := []) (q0 := 0) (ci := 10) Cx hP hD hS hl (pl_X10_X10 a cyI cyJ v10_firstOf v10_sizeOf v10_longOf v10_row v10_character v10_sum v10_coefficient v10_undone v10_wasSum v10_wasCoefficient v10_hasImage v10_letter v10_letters v10_list v10_cell v10_refusals v10_tried v10_left v10_high v10_then v10_at v10_readSize v10_firstOf v10_sizeOf v10_longOf v10_row v10_character v10_sum v10_coefficient v10_undone v10_wasSum v10_wasCoefficient v10_hasImage v10_letter v10_letters v10_list v10_cell v10_refusals_29 v10_tried v10_left v10_high v10_then v10_at v10_readSize) (c_X10_refused l D cyI cyJ G a H.size v10_firstOf v10_sizeOf v10_longOf v10_row v10_character v10_sum v10_coefficient v10_undone v10_wasSum v10_wasCoefficient v10_hasImage v10_letter v10_letters v10_list v10_cell v10_refusals v10_tried v10_left v10_high v10_then v10_at v10_readSize (-1 : Int32) r_28 v10_refusals_29 hk_30) pk_X10_refused mw_5_29 ⟨rfl, rfl, Nat.le_of_ble_eq_true rfl, Nat.le_of_ble_eq_true rfl⟩ rfl rfl rfl rfl rfl (Nat.le_of_ble_eq_true rfl) ⟨Nat.le_of_ble_eq_true rfl, Nat.le_of_ble_eq_true rfl⟩ dX10_list_9 (fun H locs hP hD hS => ?_)
    obtain ⟨rfl, rfl, rfl, rfl⟩ := po_4 hf
    rw [← hQ]; exact xe_iret Cx rfl hP hD hS dX10_list_12
def f_X10_put (v10_list : Nat → Int32) (v10_cell : Nat → Int32) (v10_refusals : Nat → Int32) (x1 : Int32) (x2 : Int32) (x3 : Int32) : Option (Int32 × (Nat → Int32) × (Nat → Int32)) := p_b1 (f_X10_isList x1) (fun r_1 => if r_1 = 0 then (p_b2 (f_X10_refused v10_refusals (-1 : Int32)) (fun r_13 v10_refusals_14 => some (r_13, v10_cell, v10_refusals_14))) else (p_in x1 3 (if 0 ≤ (v10_list (Int32.toNatClampNeg x1)) then (p_in x1 3 (p_b1 (f_X10_in x2 (0 : Int32) ((v10_list (Int32.toNatClampNeg x1)) - (1 : Int32))) (fun r_8 => if r_8 = 0 then (some ((-13 : Int32), v10_cell, v10_refusals)) else (p_in (((40 : Int32) * x1) + x2) 120 (some ((1 : Int32), (upd v10_cell (Int32.toNatClampNeg (((40 : Int32) * x1) + x2)) x3), v10_refusals)))))) else (some ((-11 : Int32), v10_cell, v10_refusals)))))
set_option maxHeartbeats 4000000 in
set_option maxRecDepth 20000 in
theorem c_X10_put (l : Launch) (D : va_G) (cyI cyJ : ClassId) (G a : Nat → Nat) (sz : Nat) (v10_firstOf : Nat → Int32) (v10_sizeOf : Nat → Int32) (v10_longOf : Nat → Int32) (v10_row : Nat → Int32) (v10_character : Nat → Int32) (v10_sum : Nat → Int32) (v10_coefficient : Nat → Int32) (v10_undone : Int32) (v10_wasSum : Nat → Int32) (v10_wasCoefficient : Nat → Int32) (v10_hasImage : Int32) (v10_letter : Nat → Int32) (v10_letters : Int32) (v10_list : Nat → Int32) (v10_cell : Nat → Int32) (v10_refusals : Nat → Int32) (v10_tried : Nat → Int32) (v10_left : Int32) (v10_high : Int32) (v10_then : Nat → Int64) (v10_at : Int32) (v10_readSize : Int32) (x1 : Int32) (x2 : Int32) (x3 : Int32) (ro : Int32) (ov10_cell : Nat → Int32) (ov10_refusals : Nat → Int32) (hf : f_X10_put v10_list v10_cell v10_refusals x1 x2 x3 = some (ro, ov10_cell, ov10_refusals)) : xm_i l yX10_put (Cond.code yX10_put cX10_put 4 (some .int) :: xg_tbl) { frames := 2, cells := 0, slots := 0, locals := 42 } D xcl [(cyI, .int), (cyJ, .long)] G sz [.ref (a 28), .int x1, .int x2, .int x3] (wd_X10 a cyI cyJ v10_firstOf v10_sizeOf v10_longOf v10_row v10_character v10_sum v10_coefficient v10_undone v10_wasSum v10_wasCoefficient v10_hasImage v10_letter v10_letters v10_list v10_cell v10_refusals v10_tried v10_left v10_high v10_then v10_at v10_readSize) (wd_X10 a cyI cyJ v10_firstOf v10_sizeOf v10_longOf v10_row v10_character v10_sum v10_coefficient v10_undone v10_wasSum v10_wasCoefficient v10_hasImage v10_letter v10_letters v10_list ov10_cell ov10_refusals v10_tried v10_left v10_high v10_then v10_at v10_readSize) ro := by
  refine xm_of_i (own := RX10) (by decide) rfl rfl (Nat.le_of_ble_eq_true rfl) ?_
  intro p e s m args below meth c ls Q A hQ hAe hin Cx hsz hP hD hS hl
  have Cx1 := Cx
  obtain ⟨⟨hx, hb, hml, hown, hts⟩, hr, hlocks, hK, hA, hT⟩ := Cx1
  have hl : lv_has ls 4 [(0, .ref (a 28)), (1, .int x1), (2, .int x2), (3, .int x3)] := hl
  obtain ⟨H, eH⟩ : ∃ H, H = s.heap := ⟨_, rfl⟩
  obtain ⟨locs, eL⟩ : ∃ L : List Loc, L = [] := ⟨_, rfl⟩
  rw [← eH] at hP
  have hS : va_S A s.heap H locs := by rw [eH, eL]; exact hS
  suffices hgo : W p l e { frames := 2, cells := 0, slots := 0, locals := 42 } s m args below meth c H locs 0 0 Q (F0 m 0 ls []) by rw [eH, eL] at hgo; exact hgo
  clear eH eL
  unfold f_X10_put at hf
  refine lv_iload_n hx hb dX10_put_0 rfl (lv_at hl 1 rfl) ?_
  obtain ⟨r_16, hk_17, hf⟩ := pe_1 hf
  refine xw_z (As := [.int x1]) (rest := []) Cx hP hD hS hl (xq_none _) (c_X10_isList l D cyI cyJ G H.size x1 r_16 hk_17) pk_X10_isList mw_5_56 ⟨rfl, rfl, Nat.le_of_ble_eq_true rfl, Nat.le_of_ble_eq_true rfl⟩ rfl rfl (Nat.le_of_ble_eq_true rfl) ⟨Nat.le_of_ble_eq_true rfl, Nat.le_of_ble_eq_true rfl⟩ dX10_put_1 (fun H locs hn_18 hP hD hS => ?_)
  refine lv_if_ne (tgt := 13) hx hb dX10_put_4 (by decide) (fun hc_19 => ?_) (fun hc_19 => ?_)
  · have hf := pe_f hf hc_19
    refine lv_aload_n hx hb dX10_put_13 rfl (lv_at hl 0 rfl) ?_
    refine va_get (ci := 10) (v := .ref (a 39)) hx hb hts wX10_in hown hK hP 0 rfl rfl 13 (by decide) (hts _ mw_4_205) (fun _ h9 => h9) rfl dX10_put_14 ?_
    refine lv_iload_n hx hb dX10_put_17 rfl (lv_at hl 1 rfl) ?_
    obtain ⟨hi_20, hf⟩ := pe_in hf
    refine va_iald hx hb hK hP 11 0 rfl rfl hi_20 dX10_put_18 ?_
    refine lv_if_ge (tgt := 25) hx hb dX10_put_19 (by decide) (fun hc_21 => ?_) (fun hc_21 => ?_)
    · have hf := pe_t hf hc_21
      refine lv_iload_n hx hb dX10_put_25 rfl (lv_at hl 2 rfl) ?_
      refine lv_iconst (v := (0 : Int32)) hx hb dX10_put_26 (by decide) ?_
      refine lv_aload_n hx hb dX10_put_27 rfl (lv_at hl 0 rfl) ?_
      refine va_get (ci := 10) (v := .ref (a 39)) hx hb hts wX10_in hown hK hP 0 rfl rfl 13 (by decide) (hts _ mw_4_205) (fun _ h9 => h9) rfl dX10_put_28 ?_
      refine lv_iload_n hx hb dX10_put_31 rfl (lv_at hl 1 rfl) ?_
      obtain ⟨hi_22, hf⟩ := pe_in hf
      refine va_iald hx hb hK hP 11 0 rfl rfl hi_22 dX10_put_32 ?_
      refine lv_iconst (v := (1 : Int32)) hx hb dX10_put_33 (by decide) ?_
      refine lv_isub hx hb dX10_put_34 ?_
      obtain ⟨r_23, hk_24, hf⟩ := pe_1 hf
      refine xw_z (As := [.int x2, .int (0 : Int32), .int ((v10_list (Int32.toNatClampNeg x1)) - (1 : Int32))]) (rest := []) Cx hP hD hS hl (xq_none _) (c_X10_in l D cyI cyJ G H.size x2 (0 : Int32) ((v10_list (Int32.toNatClampNeg x1)) - (1 : Int32)) r_23 hk_24) pk_X10_in mw_5_26 ⟨rfl, rfl, Nat.le_of_ble_eq_true rfl, Nat.le_of_ble_eq_true rfl⟩ rfl rfl (Nat.le_of_ble_eq_true rfl) ⟨Nat.le_of_ble_eq_true rfl, Nat.le_of_ble_eq_true rfl⟩ dX10_put_35 (fun H locs hn_25 hP hD hS => ?_)
      refine lv_if_ne (tgt := 44) hx hb dX10_put_38 (by decide) (fun hc_26 => ?_) (fun hc_26 => ?_)
      · have hf := pe_f hf hc_26
        refine lv_aload_n hx hb dX10_put_44 rfl (lv_at hl 0 rfl) ?_
        refine va_get (ci := 10) (v := .ref (a 40)) hx hb hts wX10_in hown hK hP 0 rfl rfl 14 (by decide) (hts _ mw_4_206) (fun _ h9 => h9) rfl dX10_put_45 ?_
        refine lv_bipush (v := (40 : Int32)) hx hb dX10_put_48 (by decide) ?_
        refine lv_iload_n hx hb dX10_put_50 rfl (lv_at hl 1 rfl) ?_
        refine lv_imul hx hb dX10_put_51 ?_
        refine lv_iload_n hx hb dX10_put_52 rfl (lv_at hl 2 rfl) ?_
        refine lv_iadd hx hb dX10_put_53 ?_
        refine lv_iload_n hx hb dX10_put_54 rfl (lv_at hl 3 rfl) ?_
        obtain ⟨hi_27, hf⟩ := pe_in hf
        refine va_iast hx hb hK hP hD hS 12 0 rfl rfl hi_27 dX10_put_55 (fun H locs hP hD hS => ?_)
        have hP : va_P D xcl (wd_X10 a cyI cyJ v10_firstOf v10_sizeOf v10_longOf v10_row v10_character v10_sum v10_coefficient v10_undone v10_wasSum v10_wasCoefficient v10_hasImage v10_letter v10_letters v10_list (upd v10_cell (Int32.toNatClampNeg (((40 : Int32) * x1) + x2)) x3) v10_refusals v10_tried v10_left v10_high v10_then v10_at v10_readSize) H := hP
        have hD : va_D A (wd_X10 a cyI cyJ v10_firstOf v10_sizeOf v10_longOf v10_row v10_character v10_sum v10_coefficient v10_undone v10_wasSum v10_wasCoefficient v10_hasImage v10_letter v10_letters v10_list (upd v10_cell (Int32.toNatClampNeg (((40 : Int32) * x1) + x2)) x3) v10_refusals v10_tried v10_left v10_high v10_then v10_at v10_readSize) := hD
        refine lv_iconst (v := (1 : Int32)) hx hb dX10_put_56 (by decide) ?_
        obtain ⟨rfl, rfl, rfl⟩ := po_3 hf
        rw [← hQ]; exact xe_iret Cx rfl hP hD hS dX10_put_57
      · have hf := pe_t hf hc_26
        refine lv_bipush (v := (-13 : Int32)) hx hb dX10_put_41 (by decide) ?_
        obtain ⟨rfl, rfl, rfl⟩ := po_3 hf
        rw [← hQ]; exact xe_iret Cx rfl hP hD hS dX10_put_43
    · have hf := pe_f hf hc_21
      refine lv_bipush (v := (-11 : Int32)) hx hb dX10_put_22 (by decide) ?_
      obtain ⟨rfl, rfl, rfl⟩ := po_3 hf
      rw [← hQ]; exact xe_iret Cx rfl hP hD hS dX10_put_24
  · have hf := pe_t hf hc_19
    refine lv_aload_n hx hb dX10_put_7 rfl (lv_at hl 0 rfl) ?_
    refine lv_iconst (v := (-1 : Int32)) hx hb dX10_put_8 (by decide) ?_
    obtain ⟨r_28, v10_refusals_29, hk_30, hf⟩ := pe_2 hf
    refine xv_i (As := [.int (-1 : Int32)]) (rest := []) (q0 := 0) (ci := 10) Cx hP hD hS hl (pl_X10_X10 a cyI cyJ v10_firstOf v10_sizeOf v10_longOf v10_row v10_character v10_sum v10_coefficient v10_undone v10_wasSum v10_wasCoefficient v10_hasImage v10_letter v10_letters v10_list v10_cell v10_refusals v10_tried v10_left v10_high v10_then v10_at v10_readSize v10_firstOf v10_sizeOf v10_longOf v10_row v10_character v10_sum v10_coefficient v10_undone v10_wasSum v10_wasCoefficient v10_hasImage v10_letter v10_letters v10_list v10_cell v10_refusals_29 v10_tried v10_left v10_high v10_then v10_at v10_readSize) (c_X10_refused l D cyI cyJ G a H.size v10_firstOf v10_sizeOf v10_longOf v10_row v10_character v10_sum v10_coefficient v10_undone v10_wasSum v10_wasCoefficient v10_hasImage v10_letter v10_letters v10_list v10_cell v10_refusals v10_tried v10_left v10_high v10_then v10_at v10_readSize (-1 : Int32) r_28 v10_refusals_29 hk_30) pk_X10_refused mw_5_29 ⟨rfl, rfl, Nat.le_of_ble_eq_true rfl, Nat.le_of_ble_eq_true rfl⟩ rfl rfl rfl rfl rfl (Nat.le_of_ble_eq_true rfl) ⟨Nat.le_of_ble_eq_true rfl, Nat.le_of_ble_eq_true rfl⟩ dX10_put_9 (fun H locs hP hD hS => ?_)
    obtain ⟨rfl, rfl, rfl⟩ := po_3 hf
    rw [← hQ]; exact xe_iret Cx rfl hP hD hS dX10_put_12
def f_X10_look (v10_list : Nat → Int32) (v10_cell : Nat → Int32) (v10_refusals : Nat → Int32) (x1 : Int32) (x2 : Int32) : Option (Int64 × (Nat → Int32)) := p_b1 (f_X10_isList x1) (fun r_1 => if r_1 = 0 then (p_b2 (f_X10_farther v10_refusals (-1 : Int32)) (fun r_13 v10_refusals_14 => some (r_13, v10_refusals_14))) else (p_in x1 3 (if 0 ≤ (v10_list (Int32.toNatClampNeg x1)) then (p_in x1 3 (p_b1 (f_X10_in x2 (0 : Int32) ((v10_list (Int32.toNatClampNeg x1)) - (1 : Int32))) (fun r_8 => if r_8 = 0 then (some ((4000000000000000013 : Int64), v10_refusals)) else (p_in (((40 : Int32) * x1) + x2) 120 (some ((Int32.toInt64 (v10_cell (Int32.toNatClampNeg (((40 : Int32) * x1) + x2)))), v10_refusals)))))) else (some ((4000000000000000011 : Int64), v10_refusals)))))
set_option maxHeartbeats 4000000 in
set_option maxRecDepth 20000 in
theorem c_X10_look (l : Launch) (D : va_G) (cyI cyJ : ClassId) (G a : Nat → Nat) (sz : Nat) (v10_firstOf : Nat → Int32) (v10_sizeOf : Nat → Int32) (v10_longOf : Nat → Int32) (v10_row : Nat → Int32) (v10_character : Nat → Int32) (v10_sum : Nat → Int32) (v10_coefficient : Nat → Int32) (v10_undone : Int32) (v10_wasSum : Nat → Int32) (v10_wasCoefficient : Nat → Int32) (v10_hasImage : Int32) (v10_letter : Nat → Int32) (v10_letters : Int32) (v10_list : Nat → Int32) (v10_cell : Nat → Int32) (v10_refusals : Nat → Int32) (v10_tried : Nat → Int32) (v10_left : Int32) (v10_high : Int32) (v10_then : Nat → Int64) (v10_at : Int32) (v10_readSize : Int32) (x1 : Int32) (x2 : Int32) (ro : Int64) (ov10_refusals : Nat → Int32) (hf : f_X10_look v10_list v10_cell v10_refusals x1 x2 = some (ro, ov10_refusals)) : xm_l l yX10_look (Cond.code yX10_look cX10_look 3 (some .long) :: xg_tbl) { frames := 2, cells := 0, slots := 0, locals := 42 } D xcl [(cyI, .int), (cyJ, .long)] G sz [.ref (a 28), .int x1, .int x2] (wd_X10 a cyI cyJ v10_firstOf v10_sizeOf v10_longOf v10_row v10_character v10_sum v10_coefficient v10_undone v10_wasSum v10_wasCoefficient v10_hasImage v10_letter v10_letters v10_list v10_cell v10_refusals v10_tried v10_left v10_high v10_then v10_at v10_readSize) (wd_X10 a cyI cyJ v10_firstOf v10_sizeOf v10_longOf v10_row v10_character v10_sum v10_coefficient v10_undone v10_wasSum v10_wasCoefficient v10_hasImage v10_letter v10_letters v10_list v10_cell ov10_refusals v10_tried v10_left v10_high v10_then v10_at v10_readSize) ro := by
  refine xm_of_l (own := RX10) (by decide) rfl rfl (Nat.le_of_ble_eq_true rfl) ?_
  intro p e s m args below meth c ls Q A hQ hAe hin Cx hsz hP hD hS hl
  have Cx1 := Cx
  obtain ⟨⟨hx, hb, hml, hown, hts⟩, hr, hlocks, hK, hA, hT⟩ := Cx1
  have hl : lv_has ls 3 [(0, .ref (a 28)), (1, .int x1), (2, .int x2)] := hl
  obtain ⟨H, eH⟩ : ∃ H, H = s.heap := ⟨_, rfl⟩
  obtain ⟨locs, eL⟩ : ∃ L : List Loc, L = [] := ⟨_, rfl⟩
  rw [← eH] at hP
  have hS : va_S A s.heap H locs := by rw [eH, eL]; exact hS
  suffices hgo : W p l e { frames := 2, cells := 0, slots := 0, locals := 42 } s m args below meth c H locs 0 0 Q (F0 m 0 ls []) by rw [eH, eL] at hgo; exact hgo
  clear eH eL
  unfold f_X10_look at hf
  refine lv_iload_n hx hb dX10_look_0 rfl (lv_at hl 1 rfl) ?_
  obtain ⟨r_16, hk_17, hf⟩ := pe_1 hf
  refine xw_z (As := [.int x1]) (rest := []) Cx hP hD hS hl (xq_none _) (c_X10_isList l D cyI cyJ G H.size x1 r_16 hk_17) pk_X10_isList mw_5_56 ⟨rfl, rfl, Nat.le_of_ble_eq_true rfl, Nat.le_of_ble_eq_true rfl⟩ rfl rfl (Nat.le_of_ble_eq_true rfl) ⟨Nat.le_of_ble_eq_true rfl, Nat.le_of_ble_eq_true rfl⟩ dX10_look_1 (fun H locs hn_18 hP hD hS => ?_)
  refine lv_if_ne (tgt := 13) hx hb dX10_look_4 (by decide) (fun hc_19 => ?_) (fun hc_19 => ?_)
  · have hf := pe_f hf hc_19
    refine lv_aload_n hx hb dX10_look_13 rfl (lv_at hl 0 rfl) ?_
    refine va_get (ci := 10) (v := .ref (a 39)) hx hb hts wX10_in hown hK hP 0 rfl rfl 13 (by decide) (hts _ mw_4_205) (fun _ h9 => h9) rfl dX10_look_14 ?_
    refine lv_iload_n hx hb dX10_look_17 rfl (lv_at hl 1 rfl) ?_
    obtain ⟨hi_20, hf⟩ := pe_in hf
    refine va_iald hx hb hK hP 11 0 rfl rfl hi_20 dX10_look_18 ?_
    refine lv_if_ge (tgt := 26) hx hb dX10_look_19 (by decide) (fun hc_21 => ?_) (fun hc_21 => ?_)
    · have hf := pe_t hf hc_21
      refine lv_iload_n hx hb dX10_look_26 rfl (lv_at hl 2 rfl) ?_
      refine lv_iconst (v := (0 : Int32)) hx hb dX10_look_27 (by decide) ?_
      refine lv_aload_n hx hb dX10_look_28 rfl (lv_at hl 0 rfl) ?_
      refine va_get (ci := 10) (v := .ref (a 39)) hx hb hts wX10_in hown hK hP 0 rfl rfl 13 (by decide) (hts _ mw_4_205) (fun _ h9 => h9) rfl dX10_look_29 ?_
      refine lv_iload_n hx hb dX10_look_32 rfl (lv_at hl 1 rfl) ?_
      obtain ⟨hi_22, hf⟩ := pe_in hf
      refine va_iald hx hb hK hP 11 0 rfl rfl hi_22 dX10_look_33 ?_
      refine lv_iconst (v := (1 : Int32)) hx hb dX10_look_34 (by decide) ?_
      refine lv_isub hx hb dX10_look_35 ?_
      obtain ⟨r_23, hk_24, hf⟩ := pe_1 hf
      refine xw_z (As := [.int x2, .int (0 : Int32), .int ((v10_list (Int32.toNatClampNeg x1)) - (1 : Int32))]) (rest := []) Cx hP hD hS hl (xq_none _) (c_X10_in l D cyI cyJ G H.size x2 (0 : Int32) ((v10_list (Int32.toNatClampNeg x1)) - (1 : Int32)) r_23 hk_24) pk_X10_in mw_5_26 ⟨rfl, rfl, Nat.le_of_ble_eq_true rfl, Nat.le_of_ble_eq_true rfl⟩ rfl rfl (Nat.le_of_ble_eq_true rfl) ⟨Nat.le_of_ble_eq_true rfl, Nat.le_of_ble_eq_true rfl⟩ dX10_look_36 (fun H locs hn_25 hP hD hS => ?_)
      refine lv_if_eq (tgt := 57) hx hb dX10_look_39 (by decide) (fun hc_26 => ?_) (fun hc_26 => ?_)
      · have hf := pe_t hf hc_26
        refine lv_ldc2 (v := (4000000000000000013 : Int64)) hx hb hown (hts _ mw_6_0) dX10_look_57 ?_
        obtain ⟨rfl, rfl⟩ := po_2 hf
        rw [← hQ]; exact xe_lret Cx rfl hP hD hS dX10_look_60
      · have hf := pe_f hf hc_26
        refine lv_aload_n hx hb dX10_look_42 rfl (lv_at hl 0 rfl) ?_
        refine va_get (ci := 10) (v := .ref (a 40)) hx hb hts wX10_in hown hK hP 0 rfl rfl 14 (by decide) (hts _ mw_4_206) (fun _ h9 => h9) rfl dX10_look_43 ?_
        refine lv_bipush (v := (40 : Int32)) hx hb dX10_look_46 (by decide) ?_
        refine lv_iload_n hx hb dX10_look_48 rfl (lv_at hl 1 rfl) ?_
        refine lv_imul hx hb dX10_look_49 ?_
        refine lv_iload_n hx hb dX10_look_50 rfl (lv_at hl 2 rfl) ?_
        refine lv_iadd hx hb dX10_look_51 ?_
        obtain ⟨hi_27, hf⟩ := pe_in hf
        refine va_iald hx hb hK hP 12 0 rfl rfl hi_27 dX10_look_52 ?_
        refine lv_i2l (v := Int32.toInt64 (v10_cell (Int32.toNatClampNeg (((40 : Int32) * x1) + x2)))) hx hb dX10_look_53 rfl ?_
        refine lv_goto (tgt := 60) hx hb dX10_look_54 (by decide) ?_
        obtain ⟨rfl, rfl⟩ := po_2 hf
        rw [← hQ]; exact xe_lret Cx rfl hP hD hS dX10_look_60
    · have hf := pe_f hf hc_21
      refine lv_ldc2 (v := (4000000000000000011 : Int64)) hx hb hown (hts _ mw_5_223) dX10_look_22 ?_
      obtain ⟨rfl, rfl⟩ := po_2 hf
      rw [← hQ]; exact xe_lret Cx rfl hP hD hS dX10_look_25
  · have hf := pe_t hf hc_19
    refine lv_aload_n hx hb dX10_look_7 rfl (lv_at hl 0 rfl) ?_
    refine lv_iconst (v := (-1 : Int32)) hx hb dX10_look_8 (by decide) ?_
    obtain ⟨r_28, v10_refusals_29, hk_30, hf⟩ := pe_2 hf
    refine xv_l (As := [.int (-1 : Int32)]) (rest := []) (q0 := 0) (ci := 10) Cx hP hD hS hl (pl_X10_X10 a cyI cyJ v10_firstOf v10_sizeOf v10_longOf v10_row v10_character v10_sum v10_coefficient v10_undone v10_wasSum v10_wasCoefficient v10_hasImage v10_letter v10_letters v10_list v10_cell v10_refusals v10_tried v10_left v10_high v10_then v10_at v10_readSize v10_firstOf v10_sizeOf v10_longOf v10_row v10_character v10_sum v10_coefficient v10_undone v10_wasSum v10_wasCoefficient v10_hasImage v10_letter v10_letters v10_list v10_cell v10_refusals_29 v10_tried v10_left v10_high v10_then v10_at v10_readSize) (c_X10_farther l D cyI cyJ G a H.size v10_firstOf v10_sizeOf v10_longOf v10_row v10_character v10_sum v10_coefficient v10_undone v10_wasSum v10_wasCoefficient v10_hasImage v10_letter v10_letters v10_list v10_cell v10_refusals v10_tried v10_left v10_high v10_then v10_at v10_readSize (-1 : Int32) r_28 v10_refusals_29 hk_30) pk_X10_farther mw_5_96 ⟨rfl, rfl, Nat.le_of_ble_eq_true rfl, Nat.le_of_ble_eq_true rfl⟩ rfl rfl rfl rfl rfl (Nat.le_of_ble_eq_true rfl) ⟨Nat.le_of_ble_eq_true rfl, Nat.le_of_ble_eq_true rfl⟩ dX10_look_9 (fun H locs hP hD hS => ?_)
    obtain ⟨rfl, rfl⟩ := po_2 hf
    rw [← hQ]; exact xe_lret Cx rfl hP hD hS dX10_look_12
def gf_X10_lays_67 (K_67 : (Nat → Int32) → (Nat → Int32) → Int32 → Int32 → Int32 → Int32 → Int32 → Option (Int32 × (Nat → Int32) × (Nat → Int32))) (v10_firstOf : Nat → Int32) (v10_sizeOf : Nat → Int32) (v10_character : Nat → Int32) (v10_list : Nat → Int32) (v10_cell : Nat → Int32) (v10_refusals : Nat → Int32) (y1 : Int32) (y2 : Int32) (y3 : Int32) (y4 : Int32) (y5 : Int32) : Option (Int32 × (Nat → Int32) × (Nat → Int32)) := if y4 ≤ y5 then (some (y4, v10_cell, v10_refusals)) else (p_in y3 67 (p_in (v10_sizeOf (Int32.toNatClampNeg y3)) 10 (p_in ((((67 : Int32) * y3) + (v10_firstOf (Int32.toNatClampNeg (v10_sizeOf (Int32.toNatClampNeg y3))))) + y5) 4489 (p_in ((((40 : Int32) * y1) + y2) + y5) 120 (K_67 (upd v10_cell (Int32.toNatClampNeg ((((40 : Int32) * y1) + y2) + y5)) (v10_character (Int32.toNatClampNeg ((((67 : Int32) * y3) + (v10_firstOf (Int32.toNatClampNeg (v10_sizeOf (Int32.toNatClampNeg y3))))) + y5)))) v10_refusals y1 y2 y3 y4 (y5 + (1 : Int32)))))))
def f_X10_lays_67 (v10_firstOf : Nat → Int32) (v10_sizeOf : Nat → Int32) (v10_character : Nat → Int32) (v10_list : Nat → Int32) : Nat → (Nat → Int32) → (Nat → Int32) → Int32 → Int32 → Int32 → Int32 → Int32 → Option (Int32 × (Nat → Int32) × (Nat → Int32))
  | 0 => fun _ _ _ _ _ _ _ => none
  | n + 1 => gf_X10_lays_67 (f_X10_lays_67 v10_firstOf v10_sizeOf v10_character v10_list n) v10_firstOf v10_sizeOf v10_character v10_list
def f_X10_lays_14 (v10_firstOf : Nat → Int32) (v10_sizeOf : Nat → Int32) (v10_character : Nat → Int32) (v10_list : Nat → Int32) (v10_cell : Nat → Int32) (v10_refusals : Nat → Int32) : Option (Int32 × (Nat → Int32) × (Nat → Int32)) := p_b2 (f_X10_refused v10_refusals (-1 : Int32)) (fun r_6 v10_refusals_7 => some (r_6, v10_cell, v10_refusals_7))
def f_X10_lays (v10_firstOf : Nat → Int32) (v10_sizeOf : Nat → Int32) (v10_character : Nat → Int32) (v10_list : Nat → Int32) (v10_cell : Nat → Int32) (v10_refusals : Nat → Int32) (x1 : Int32) (x2 : Int32) (x3 : Int32) : Option (Int32 × (Nat → Int32) × (Nat → Int32)) := p_b1 (f_X10_isList x1) (fun r_9 => if r_9 = 0 then ((f_X10_lays_14 v10_firstOf v10_sizeOf v10_character v10_list) v10_cell v10_refusals) else (p_b1 (f_X10_isShape x3) (fun r_13 => if r_13 = 0 then ((f_X10_lays_14 v10_firstOf v10_sizeOf v10_character v10_list) v10_cell v10_refusals) else (p_in x1 3 (if 0 ≤ (v10_list (Int32.toNatClampNeg x1)) then (p_in x3 67 (p_b1 (f_X10_manyOf v10_firstOf (v10_sizeOf (Int32.toNatClampNeg x3))) (fun r_20 => if x2 < 0 then (some ((-13 : Int32), v10_cell, v10_refusals)) else (p_in x1 3 (if x2 ≤ ((v10_list (Int32.toNatClampNeg x1)) - r_20) then ((f_X10_lays_67 v10_firstOf v10_sizeOf v10_character v10_list 1000) v10_cell v10_refusals x1 x2 x3 r_20 (0 : Int32)) else (some ((-13 : Int32), v10_cell, v10_refusals))))))) else (some ((-11 : Int32), v10_cell, v10_refusals)))))))
set_option maxHeartbeats 4000000 in
set_option maxRecDepth 20000 in
theorem c_X10_lays (l : Launch) (D : va_G) (cyI cyJ : ClassId) (G a : Nat → Nat) (sz : Nat) (v10_firstOf : Nat → Int32) (v10_sizeOf : Nat → Int32) (v10_longOf : Nat → Int32) (v10_row : Nat → Int32) (v10_character : Nat → Int32) (v10_sum : Nat → Int32) (v10_coefficient : Nat → Int32) (v10_undone : Int32) (v10_wasSum : Nat → Int32) (v10_wasCoefficient : Nat → Int32) (v10_hasImage : Int32) (v10_letter : Nat → Int32) (v10_letters : Int32) (v10_list : Nat → Int32) (v10_cell : Nat → Int32) (v10_refusals : Nat → Int32) (v10_tried : Nat → Int32) (v10_left : Int32) (v10_high : Int32) (v10_then : Nat → Int64) (v10_at : Int32) (v10_readSize : Int32) (x1 : Int32) (x2 : Int32) (x3 : Int32) (ro : Int32) (ov10_cell : Nat → Int32) (ov10_refusals : Nat → Int32) (hf : f_X10_lays v10_firstOf v10_sizeOf v10_character v10_list v10_cell v10_refusals x1 x2 x3 = some (ro, ov10_cell, ov10_refusals)) : xm_i l yX10_lays (Cond.code yX10_lays cX10_lays 6 (some .int) :: xg_tbl) { frames := 2, cells := 0, slots := 0, locals := 42 } D xcl [(cyI, .int), (cyJ, .long)] G sz [.ref (a 28), .int x1, .int x2, .int x3] (wd_X10 a cyI cyJ v10_firstOf v10_sizeOf v10_longOf v10_row v10_character v10_sum v10_coefficient v10_undone v10_wasSum v10_wasCoefficient v10_hasImage v10_letter v10_letters v10_list v10_cell v10_refusals v10_tried v10_left v10_high v10_then v10_at v10_readSize) (wd_X10 a cyI cyJ v10_firstOf v10_sizeOf v10_longOf v10_row v10_character v10_sum v10_coefficient v10_undone v10_wasSum v10_wasCoefficient v10_hasImage v10_letter v10_letters v10_list ov10_cell ov10_refusals v10_tried v10_left v10_high v10_then v10_at v10_readSize) ro := by
  refine xm_of_i (own := RX10) (by decide) rfl rfl (Nat.le_of_ble_eq_true rfl) ?_
  intro p e s m args below meth c ls Q A hQ hAe hin Cx hsz hP hD hS hl
  have Cx1 := Cx
  obtain ⟨⟨hx, hb, hml, hown, hts⟩, hr, hlocks, hK, hA, hT⟩ := Cx1
  have hl : lv_has ls 6 [(0, .ref (a 28)), (1, .int x1), (2, .int x2), (3, .int x3)] := hl
  obtain ⟨H, eH⟩ : ∃ H, H = s.heap := ⟨_, rfl⟩
  obtain ⟨locs, eL⟩ : ∃ L : List Loc, L = [] := ⟨_, rfl⟩
  rw [← eH] at hP
  have hS : va_S A s.heap H locs := by rw [eH, eL]; exact hS
  suffices hgo : W p l e { frames := 2, cells := 0, slots := 0, locals := 42 } s m args below meth c H locs 0 0 Q (F0 m 0 ls []) by rw [eH, eL] at hgo; exact hgo
  clear eH eL
  unfold f_X10_lays at hf
  have w_67 : ∀ (n_67 : Nat) (v10_cell : Nat → Int32) (v10_refusals : Nat → Int32) (y1 : Int32) (y2 : Int32) (y3 : Int32) (y4 : Int32) (y5 : Int32) (H : Heap) (locs : List Loc) (ls : Array Slot), (f_X10_lays_67 v10_firstOf v10_sizeOf v10_character v10_list) n_67 v10_cell v10_refusals y1 y2 y3 y4 y5 = some (ro, ov10_cell, ov10_refusals) → va_P D xcl (wd_X10 a cyI cyJ v10_firstOf v10_sizeOf v10_longOf v10_row v10_character v10_sum v10_coefficient v10_undone v10_wasSum v10_wasCoefficient v10_hasImage v10_letter v10_letters v10_list v10_cell v10_refusals v10_tried v10_left v10_high v10_then v10_at v10_readSize) H → va_D A (wd_X10 a cyI cyJ v10_firstOf v10_sizeOf v10_longOf v10_row v10_character v10_sum v10_coefficient v10_undone v10_wasSum v10_wasCoefficient v10_hasImage v10_letter v10_letters v10_list v10_cell v10_refusals v10_tried v10_left v10_high v10_then v10_at v10_readSize) → va_S A s.heap H locs → lv_has ls 6 [(0, .ref (a 28)), (1, .int y1), (2, .int y2), (3, .int y3), (4, .int y4), (5, .int y5)] → W p l e { frames := 2, cells := 0, slots := 0, locals := 42 } s m args below meth c H locs 0 0 Q (F0 m 67 ls []) := by
    intro n_67
    induction n_67 with
    | zero => intro v10_cell v10_refusals y1 y2 y3 y4 y5 H locs ls hf; exact absurd hf (by intro h9; cases h9)
    | succ n_67 w_67 =>
      intro v10_cell v10_refusals y1 y2 y3 y4 y5 H locs ls hf hP hD hS hl
      have hf : gf_X10_lays_67 ((f_X10_lays_67 v10_firstOf v10_sizeOf v10_character v10_list) n_67) v10_firstOf v10_sizeOf v10_character v10_list v10_cell v10_refusals y1 y2 y3 y4 y5 = some (ro, ov10_cell, ov10_refusals) := hf
      unfold gf_X10_lays_67 at hf
      refine lv_iload hx hb dX10_lays_67 (lv_at hl 5 rfl) ?_
      refine lv_iload hx hb dX10_lays_69 (lv_at hl 4 rfl) ?_
      refine lv_icmp_ge (tgt := 118) hx hb dX10_lays_71 (by decide) (fun hc_25 => ?_) (fun hc_25 => ?_)
      · have hf := pe_t hf hc_25
        refine lv_iload hx hb dX10_lays_118 (lv_at hl 4 rfl) ?_
        obtain ⟨rfl, rfl, rfl⟩ := po_3 hf
        rw [← hQ]; exact xe_iret Cx rfl hP hD hS dX10_lays_120
      · have hf := pe_f hf hc_25
        refine lv_aload_n hx hb dX10_lays_74 rfl (lv_at hl 0 rfl) ?_
        refine va_get (ci := 10) (v := .ref (a 40)) hx hb hts wX10_in hown hK hP 0 rfl rfl 14 (by decide) (hts _ mw_4_206) (fun _ h9 => h9) rfl dX10_lays_75 ?_
        refine lv_bipush (v := (40 : Int32)) hx hb dX10_lays_78 (by decide) ?_
        refine lv_iload_n hx hb dX10_lays_80 rfl (lv_at hl 1 rfl) ?_
        refine lv_imul hx hb dX10_lays_81 ?_
        refine lv_iload_n hx hb dX10_lays_82 rfl (lv_at hl 2 rfl) ?_
        refine lv_iadd hx hb dX10_lays_83 ?_
        refine lv_iload hx hb dX10_lays_84 (lv_at hl 5 rfl) ?_
        refine lv_iadd hx hb dX10_lays_86 ?_
        refine lv_aload_n hx hb dX10_lays_87 rfl (lv_at hl 0 rfl) ?_
        refine va_get (ci := 10) (v := .ref (a 33)) hx hb hts wX10_in hown hK hP 0 rfl rfl 4 (by decide) (hts _ mw_4_196) (fun _ h9 => h9) rfl dX10_lays_88 ?_
        refine lv_bipush (v := (67 : Int32)) hx hb dX10_lays_91 (by decide) ?_
        refine lv_iload_n hx hb dX10_lays_93 rfl (lv_at hl 3 rfl) ?_
        refine lv_imul hx hb dX10_lays_94 ?_
        refine lv_aload_n hx hb dX10_lays_95 rfl (lv_at hl 0 rfl) ?_
        refine va_get (ci := 10) (v := .ref (a 29)) hx hb hts wX10_in hown hK hP 0 rfl rfl 0 (by decide) (hts _ mw_4_192) (fun _ h9 => h9) rfl dX10_lays_96 ?_
        refine lv_aload_n hx hb dX10_lays_99 rfl (lv_at hl 0 rfl) ?_
        refine va_get (ci := 10) (v := .ref (a 30)) hx hb hts wX10_in hown hK hP 0 rfl rfl 1 (by decide) (hts _ mw_4_193) (fun _ h9 => h9) rfl dX10_lays_100 ?_
        refine lv_iload_n hx hb dX10_lays_103 rfl (lv_at hl 3 rfl) ?_
        obtain ⟨hi_26, hf⟩ := pe_in hf
        refine va_iald hx hb hK hP 2 0 rfl rfl hi_26 dX10_lays_104 ?_
        obtain ⟨hi_27, hf⟩ := pe_in hf
        refine va_iald hx hb hK hP 1 0 rfl rfl hi_27 dX10_lays_105 ?_
        refine lv_iadd hx hb dX10_lays_106 ?_
        refine lv_iload hx hb dX10_lays_107 (lv_at hl 5 rfl) ?_
        refine lv_iadd hx hb dX10_lays_109 ?_
        obtain ⟨hi_28, hf⟩ := pe_in hf
        refine va_iald hx hb hK hP 5 0 rfl rfl hi_28 dX10_lays_110 ?_
        obtain ⟨hi_29, hf⟩ := pe_in hf
        refine va_iast hx hb hK hP hD hS 12 0 rfl rfl hi_29 dX10_lays_111 (fun H locs hP hD hS => ?_)
        have hP : va_P D xcl (wd_X10 a cyI cyJ v10_firstOf v10_sizeOf v10_longOf v10_row v10_character v10_sum v10_coefficient v10_undone v10_wasSum v10_wasCoefficient v10_hasImage v10_letter v10_letters v10_list (upd v10_cell (Int32.toNatClampNeg ((((40 : Int32) * y1) + y2) + y5)) (v10_character (Int32.toNatClampNeg ((((67 : Int32) * y3) + (v10_firstOf (Int32.toNatClampNeg (v10_sizeOf (Int32.toNatClampNeg y3))))) + y5)))) v10_refusals v10_tried v10_left v10_high v10_then v10_at v10_readSize) H := hP
        have hD : va_D A (wd_X10 a cyI cyJ v10_firstOf v10_sizeOf v10_longOf v10_row v10_character v10_sum v10_coefficient v10_undone v10_wasSum v10_wasCoefficient v10_hasImage v10_letter v10_letters v10_list (upd v10_cell (Int32.toNatClampNeg ((((40 : Int32) * y1) + y2) + y5)) (v10_character (Int32.toNatClampNeg ((((67 : Int32) * y3) + (v10_firstOf (Int32.toNatClampNeg (v10_sizeOf (Int32.toNatClampNeg y3))))) + y5)))) v10_refusals v10_tried v10_left v10_high v10_then v10_at v10_readSize) := hD
        refine lv_iinc (v := (y5 + (1 : Int32))) (lv' := [(5, .int (y5 + (1 : Int32))), (0, .ref (a 28)), (1, .int y1), (2, .int y2), (3, .int y3), (4, .int y4)]) hx hb dX10_lays_112 hl (k := 5) rfl rfl (by decide) rfl (fun ls hl => ?_)
        refine lv_goto (tgt := 67) hx hb dX10_lays_115 (by decide) ?_
        exact w_67 (upd v10_cell (Int32.toNatClampNeg ((((40 : Int32) * y1) + y2) + y5)) (v10_character (Int32.toNatClampNeg ((((67 : Int32) * y3) + (v10_firstOf (Int32.toNatClampNeg (v10_sizeOf (Int32.toNatClampNeg y3))))) + y5)))) v10_refusals y1 y2 y3 y4 (y5 + (1 : Int32)) H locs ls hf hP hD hS (lv_sub hl [1, 2, 3, 4, 5, 0] rfl)
  have w_14 : ∀ (v10_cell : Nat → Int32) (v10_refusals : Nat → Int32) (H : Heap) (locs : List Loc) (ls : Array Slot), (f_X10_lays_14 v10_firstOf v10_sizeOf v10_character v10_list) v10_cell v10_refusals = some (ro, ov10_cell, ov10_refusals) → va_P D xcl (wd_X10 a cyI cyJ v10_firstOf v10_sizeOf v10_longOf v10_row v10_character v10_sum v10_coefficient v10_undone v10_wasSum v10_wasCoefficient v10_hasImage v10_letter v10_letters v10_list v10_cell v10_refusals v10_tried v10_left v10_high v10_then v10_at v10_readSize) H → va_D A (wd_X10 a cyI cyJ v10_firstOf v10_sizeOf v10_longOf v10_row v10_character v10_sum v10_coefficient v10_undone v10_wasSum v10_wasCoefficient v10_hasImage v10_letter v10_letters v10_list v10_cell v10_refusals v10_tried v10_left v10_high v10_then v10_at v10_readSize) → va_S A s.heap H locs → lv_has ls 6 [(0, .ref (a 28))] → W p l e { frames := 2, cells := 0, slots := 0, locals := 42 } s m args below meth c H locs 0 0 Q (F0 m 14 ls []) := by
    intro v10_cell v10_refusals H locs ls hf hP hD hS hl
    unfold f_X10_lays_14 at hf
    refine lv_aload_n hx hb dX10_lays_14 rfl (lv_at hl 0 rfl) ?_
    refine lv_iconst (v := (-1 : Int32)) hx hb dX10_lays_15 (by decide) ?_
    obtain ⟨r_30, v10_refusals_31, hk_32, hf⟩ := pe_2 hf
    refine xv_i (As := [.int (-1 : Int32)]) (rest := []) (q0 := 0) (ci := 10) Cx hP hD hS hl (pl_X10_X10 a cyI cyJ v10_firstOf v10_sizeOf v10_longOf v10_row v10_character v10_sum v10_coefficient v10_undone v10_wasSum v10_wasCoefficient v10_hasImage v10_letter v10_letters v10_list v10_cell v10_refusals v10_tried v10_left v10_high v10_then v10_at v10_readSize v10_firstOf v10_sizeOf v10_longOf v10_row v10_character v10_sum v10_coefficient v10_undone v10_wasSum v10_wasCoefficient v10_hasImage v10_letter v10_letters v10_list v10_cell v10_refusals_31 v10_tried v10_left v10_high v10_then v10_at v10_readSize) (c_X10_refused l D cyI cyJ G a H.size v10_firstOf v10_sizeOf v10_longOf v10_row v10_character v10_sum v10_coefficient v10_undone v10_wasSum v10_wasCoefficient v10_hasImage v10_letter v10_letters v10_list v10_cell v10_refusals v10_tried v10_left v10_high v10_then v10_at v10_readSize (-1 : Int32) r_30 v10_refusals_31 hk_32) pk_X10_refused mw_5_29 ⟨rfl, rfl, Nat.le_of_ble_eq_true rfl, Nat.le_of_ble_eq_true rfl⟩ rfl rfl rfl rfl rfl (Nat.le_of_ble_eq_true rfl) ⟨Nat.le_of_ble_eq_true rfl, Nat.le_of_ble_eq_true rfl⟩ dX10_lays_16 (fun H locs hP hD hS => ?_)
    obtain ⟨rfl, rfl, rfl⟩ := po_3 hf
    rw [← hQ]; exact xe_iret Cx rfl hP hD hS dX10_lays_19
  refine lv_iload_n hx hb dX10_lays_0 rfl (lv_at hl 1 rfl) ?_
  obtain ⟨r_33, hk_34, hf⟩ := pe_1 hf
  refine xw_z (As := [.int x1]) (rest := []) Cx hP hD hS hl (xq_none _) (c_X10_isList l D cyI cyJ G H.size x1 r_33 hk_34) pk_X10_isList mw_5_56 ⟨rfl, rfl, Nat.le_of_ble_eq_true rfl, Nat.le_of_ble_eq_true rfl⟩ rfl rfl (Nat.le_of_ble_eq_true rfl) ⟨Nat.le_of_ble_eq_true rfl, Nat.le_of_ble_eq_true rfl⟩ dX10_lays_1 (fun H locs hn_35 hP hD hS => ?_)
  refine lv_if_eq (tgt := 14) hx hb dX10_lays_4 (by decide) (fun hc_36 => ?_) (fun hc_36 => ?_)
  · have hf := pe_t hf hc_36
    exact w_14 v10_cell v10_refusals H locs ls hf hP hD hS (lv_sub hl [0] rfl)
  · have hf := pe_f hf hc_36
    refine lv_iload_n hx hb dX10_lays_7 rfl (lv_at hl 3 rfl) ?_
    obtain ⟨r_37, hk_38, hf⟩ := pe_1 hf
    refine xw_z (As := [.int x3]) (rest := []) Cx hP hD hS hl (xq_none _) (c_X10_isShape l D cyI cyJ G H.size x3 r_37 hk_38) pk_X10_isShape mw_5_23 ⟨rfl, rfl, Nat.le_of_ble_eq_true rfl, Nat.le_of_ble_eq_true rfl⟩ rfl rfl (Nat.le_of_ble_eq_true rfl) ⟨Nat.le_of_ble_eq_true rfl, Nat.le_of_ble_eq_true rfl⟩ dX10_lays_8 (fun H locs hn_39 hP hD hS => ?_)
    refine lv_if_ne (tgt := 20) hx hb dX10_lays_11 (by decide) (fun hc_40 => ?_) (fun hc_40 => ?_)
    · have hf := pe_f hf hc_40
      refine lv_aload_n hx hb dX10_lays_20 rfl (lv_at hl 0 rfl) ?_
      refine va_get (ci := 10) (v := .ref (a 39)) hx hb hts wX10_in hown hK hP 0 rfl rfl 13 (by decide) (hts _ mw_4_205) (fun _ h9 => h9) rfl dX10_lays_21 ?_
      refine lv_iload_n hx hb dX10_lays_24 rfl (lv_at hl 1 rfl) ?_
      obtain ⟨hi_41, hf⟩ := pe_in hf
      refine va_iald hx hb hK hP 11 0 rfl rfl hi_41 dX10_lays_25 ?_
      refine lv_if_ge (tgt := 32) hx hb dX10_lays_26 (by decide) (fun hc_42 => ?_) (fun hc_42 => ?_)
      · have hf := pe_t hf hc_42
        refine lv_aload_n hx hb dX10_lays_32 rfl (lv_at hl 0 rfl) ?_
        refine lv_aload_n hx hb dX10_lays_33 rfl (lv_at hl 0 rfl) ?_
        refine va_get (ci := 10) (v := .ref (a 30)) hx hb hts wX10_in hown hK hP 0 rfl rfl 1 (by decide) (hts _ mw_4_193) (fun _ h9 => h9) rfl dX10_lays_34 ?_
        refine lv_iload_n hx hb dX10_lays_37 rfl (lv_at hl 3 rfl) ?_
        obtain ⟨hi_43, hf⟩ := pe_in hf
        refine va_iald hx hb hK hP 2 0 rfl rfl hi_43 dX10_lays_38 ?_
        obtain ⟨r_44, hk_45, hf⟩ := pe_1 hf
        refine xv_i (As := [.int (v10_sizeOf (Int32.toNatClampNeg x3))]) (rest := []) (q0 := 0) (ci := 10) Cx hP hD hS hl (pl_X10_X10 a cyI cyJ v10_firstOf v10_sizeOf v10_longOf v10_row v10_character v10_sum v10_coefficient v10_undone v10_wasSum v10_wasCoefficient v10_hasImage v10_letter v10_letters v10_list v10_cell v10_refusals v10_tried v10_left v10_high v10_then v10_at v10_readSize v10_firstOf v10_sizeOf v10_longOf v10_row v10_character v10_sum v10_coefficient v10_undone v10_wasSum v10_wasCoefficient v10_hasImage v10_letter v10_letters v10_list v10_cell v10_refusals v10_tried v10_left v10_high v10_then v10_at v10_readSize) (c_X10_manyOf l D cyI cyJ G a H.size v10_firstOf v10_sizeOf v10_longOf v10_row v10_character v10_sum v10_coefficient v10_undone v10_wasSum v10_wasCoefficient v10_hasImage v10_letter v10_letters v10_list v10_cell v10_refusals v10_tried v10_left v10_high v10_then v10_at v10_readSize (v10_sizeOf (Int32.toNatClampNeg x3)) r_44 hk_45) pk_X10_manyOf mw_5_63 ⟨rfl, rfl, Nat.le_of_ble_eq_true rfl, Nat.le_of_ble_eq_true rfl⟩ rfl rfl rfl rfl rfl (Nat.le_of_ble_eq_true rfl) ⟨Nat.le_of_ble_eq_true rfl, Nat.le_of_ble_eq_true rfl⟩ dX10_lays_39 (fun H locs hP hD hS => ?_)
        refine lv_istore (lv' := [(4, .int r_44), (0, .ref (a 28)), (1, .int x1), (2, .int x2), (3, .int x3)]) hx hb dX10_lays_42 hl (by decide) rfl (fun ls hl => ?_)
        refine lv_iload_n hx hb dX10_lays_44 rfl (lv_at hl 3 rfl) ?_
        refine lv_if_lt (tgt := 61) hx hb dX10_lays_45 (by decide) (fun hc_46 => ?_) (fun hc_46 => ?_)
        · have hf := pe_t hf hc_46
          refine lv_bipush (v := (-13 : Int32)) hx hb dX10_lays_61 (by decide) ?_
          obtain ⟨rfl, rfl, rfl⟩ := po_3 hf
          rw [← hQ]; exact xe_iret Cx rfl hP hD hS dX10_lays_63
        · have hf := pe_f hf hc_46
          refine lv_iload_n hx hb dX10_lays_48 rfl (lv_at hl 3 rfl) ?_
          refine lv_aload_n hx hb dX10_lays_49 rfl (lv_at hl 1 rfl) ?_
          refine va_get (ci := 10) (v := .ref (a 39)) hx hb hts wX10_in hown hK hP 0 rfl rfl 13 (by decide) (hts _ mw_4_205) (fun _ h9 => h9) rfl dX10_lays_50 ?_
          refine lv_iload_n hx hb dX10_lays_53 rfl (lv_at hl 2 rfl) ?_
          obtain ⟨hi_47, hf⟩ := pe_in hf
          refine va_iald hx hb hK hP 11 0 rfl rfl hi_47 dX10_lays_54 ?_
          refine lv_iload hx hb dX10_lays_55 (lv_at hl 0 rfl) ?_
          refine lv_isub hx hb dX10_lays_57 ?_
          refine lv_icmp_le (tgt := 64) hx hb dX10_lays_58 (by decide) (fun hc_48 => ?_) (fun hc_48 => ?_)
          · have hf := pe_t hf hc_48
            refine lv_iconst (v := (0 : Int32)) hx hb dX10_lays_64 (by decide) ?_
            refine lv_istore (lv' := [(5, .int (0 : Int32)), (4, .int r_44), (0, .ref (a 28)), (1, .int x1), (2, .int x2), (3, .int x3)]) hx hb dX10_lays_65 hl (by decide) rfl (fun ls hl => ?_)
            exact w_67 1000 v10_cell v10_refusals x1 x2 x3 r_44 (0 : Int32) H locs ls hf hP hD hS (lv_sub hl [2, 3, 4, 5, 1, 0] rfl)
          · have hf := pe_f hf hc_48
            refine lv_bipush (v := (-13 : Int32)) hx hb dX10_lays_61 (by decide) ?_
            obtain ⟨rfl, rfl, rfl⟩ := po_3 hf
            rw [← hQ]; exact xe_iret Cx rfl hP hD hS dX10_lays_63
      · have hf := pe_f hf hc_42
        refine lv_bipush (v := (-11 : Int32)) hx hb dX10_lays_29 (by decide) ?_
        obtain ⟨rfl, rfl, rfl⟩ := po_3 hf
        rw [← hQ]; exact xe_iret Cx rfl hP hD hS dX10_lays_31
    · have hf := pe_t hf hc_40
      exact w_14 v10_cell v10_refusals H locs ls hf hP hD hS (lv_sub hl [0] rfl)
def gf_X10_otherBy_10 (K_10 : Int32 → Int32 → Int32 → Int32 → Option (Int32)) (v10_firstOf : Nat → Int32) (v10_sizeOf : Nat → Int32) (v10_character : Nat → Int32) (v10_list : Nat → Int32) (v10_cell : Nat → Int32) (y1 : Int32) (y2 : Int32) (y3 : Int32) (y4 : Int32) : Option (Int32) := p_in y1 3 (if (v10_list (Int32.toNatClampNeg y1)) ≤ y4 then (some ((-9 : Int32))) else (p_b1 (f_X10_manyOf v10_firstOf y3) (fun r_3 => if y4 = r_3 then (some (y4)) else (p_in (((40 : Int32) * y1) + y4) 120 (p_in y3 10 (p_in ((((67 : Int32) * y2) + (v10_firstOf (Int32.toNatClampNeg y3))) + y4) 4489 (if (v10_cell (Int32.toNatClampNeg (((40 : Int32) * y1) + y4))) = (v10_character (Int32.toNatClampNeg ((((67 : Int32) * y2) + (v10_firstOf (Int32.toNatClampNeg y3))) + y4))) then (K_10 y1 y2 y3 (y4 + (1 : Int32))) else (some (y4)))))))))
def f_X10_otherBy_10 (v10_firstOf : Nat → Int32) (v10_sizeOf : Nat → Int32) (v10_character : Nat → Int32) (v10_list : Nat → Int32) (v10_cell : Nat → Int32) : Nat → Int32 → Int32 → Int32 → Int32 → Option (Int32)
  | 0 => fun _ _ _ _ => none
  | n + 1 => gf_X10_otherBy_10 (f_X10_otherBy_10 v10_firstOf v10_sizeOf v10_character v10_list v10_cell n) v10_firstOf v10_sizeOf v10_character v10_list v10_cell
def f_X10_otherBy (v10_firstOf : Nat → Int32) (v10_sizeOf : Nat → Int32) (v10_character : Nat → Int32) (v10_list : Nat → Int32) (v10_cell : Nat → Int32) (x1 : Int32) (x2 : Int32) : Option (Int32) := p_in x2 67 ((f_X10_otherBy_10 v10_firstOf v10_sizeOf v10_character v10_list v10_cell 1000) x1 x2 (v10_sizeOf (Int32.toNatClampNeg x2)) (0 : Int32))
set_option maxHeartbeats 4000000 in
set_option maxRecDepth 20000 in
theorem c_X10_otherBy (l : Launch) (D : va_G) (cyI cyJ : ClassId) (G a : Nat → Nat) (sz : Nat) (v10_firstOf : Nat → Int32) (v10_sizeOf : Nat → Int32) (v10_longOf : Nat → Int32) (v10_row : Nat → Int32) (v10_character : Nat → Int32) (v10_sum : Nat → Int32) (v10_coefficient : Nat → Int32) (v10_undone : Int32) (v10_wasSum : Nat → Int32) (v10_wasCoefficient : Nat → Int32) (v10_hasImage : Int32) (v10_letter : Nat → Int32) (v10_letters : Int32) (v10_list : Nat → Int32) (v10_cell : Nat → Int32) (v10_refusals : Nat → Int32) (v10_tried : Nat → Int32) (v10_left : Int32) (v10_high : Int32) (v10_then : Nat → Int64) (v10_at : Int32) (v10_readSize : Int32) (x1 : Int32) (x2 : Int32) (ro : Int32) (hf : f_X10_otherBy v10_firstOf v10_sizeOf v10_character v10_list v10_cell x1 x2 = some ro) : xm_i l yX10_otherBy (Cond.code yX10_otherBy cX10_otherBy 5 (some .int) :: xg_tbl) { frames := 1, cells := 0, slots := 0, locals := 21 } D xcl [(cyI, .int), (cyJ, .long)] G sz [.ref (a 28), .int x1, .int x2] (wd_X10 a cyI cyJ v10_firstOf v10_sizeOf v10_longOf v10_row v10_character v10_sum v10_coefficient v10_undone v10_wasSum v10_wasCoefficient v10_hasImage v10_letter v10_letters v10_list v10_cell v10_refusals v10_tried v10_left v10_high v10_then v10_at v10_readSize) (wd_X10 a cyI cyJ v10_firstOf v10_sizeOf v10_longOf v10_row v10_character v10_sum v10_coefficient v10_undone v10_wasSum v10_wasCoefficient v10_hasImage v10_letter v10_letters v10_list v10_cell v10_refusals v10_tried v10_left v10_high v10_then v10_at v10_readSize) ro := by
  refine xm_of_i (own := RX10) (by decide) rfl rfl (Nat.le_of_ble_eq_true rfl) ?_
  intro p e s m args below meth c ls Q A hQ hAe hin Cx hsz hP hD hS hl
  have Cx1 := Cx
  obtain ⟨⟨hx, hb, hml, hown, hts⟩, hr, hlocks, hK, hA, hT⟩ := Cx1
  have hl : lv_has ls 5 [(0, .ref (a 28)), (1, .int x1), (2, .int x2)] := hl
  obtain ⟨H, eH⟩ : ∃ H, H = s.heap := ⟨_, rfl⟩
  obtain ⟨locs, eL⟩ : ∃ L : List Loc, L = [] := ⟨_, rfl⟩
  rw [← eH] at hP
  have hS : va_S A s.heap H locs := by rw [eH, eL]; exact hS
  suffices hgo : W p l e { frames := 1, cells := 0, slots := 0, locals := 21 } s m args below meth c H locs 0 0 Q (F0 m 0 ls []) by rw [eH, eL] at hgo; exact hgo
  clear eH eL
  unfold f_X10_otherBy at hf
  have w_10 : ∀ (n_10 : Nat) (y1 : Int32) (y2 : Int32) (y3 : Int32) (y4 : Int32) (H : Heap) (locs : List Loc) (ls : Array Slot), (f_X10_otherBy_10 v10_firstOf v10_sizeOf v10_character v10_list v10_cell) n_10 y1 y2 y3 y4 = some ro → va_P D xcl (wd_X10 a cyI cyJ v10_firstOf v10_sizeOf v10_longOf v10_row v10_character v10_sum v10_coefficient v10_undone v10_wasSum v10_wasCoefficient v10_hasImage v10_letter v10_letters v10_list v10_cell v10_refusals v10_tried v10_left v10_high v10_then v10_at v10_readSize) H → va_D A (wd_X10 a cyI cyJ v10_firstOf v10_sizeOf v10_longOf v10_row v10_character v10_sum v10_coefficient v10_undone v10_wasSum v10_wasCoefficient v10_hasImage v10_letter v10_letters v10_list v10_cell v10_refusals v10_tried v10_left v10_high v10_then v10_at v10_readSize) → va_S A s.heap H locs → lv_has ls 5 [(0, .ref (a 28)), (1, .int y1), (2, .int y2), (3, .int y3), (4, .int y4)] → W p l e { frames := 1, cells := 0, slots := 0, locals := 21 } s m args below meth c H locs 0 0 Q (F0 m 10 ls []) := by
    intro n_10
    induction n_10 with
    | zero => intro y1 y2 y3 y4 H locs ls hf; exact absurd hf (by intro h9; cases h9)
    | succ n_10 w_10 =>
      intro y1 y2 y3 y4 H locs ls hf hP hD hS hl
      have hf : gf_X10_otherBy_10 ((f_X10_otherBy_10 v10_firstOf v10_sizeOf v10_character v10_list v10_cell) n_10) v10_firstOf v10_sizeOf v10_character v10_list v10_cell y1 y2 y3 y4 = some ro := hf
      unfold gf_X10_otherBy_10 at hf
      refine lv_iload hx hb dX10_otherBy_10 (lv_at hl 4 rfl) ?_
      refine lv_aload_n hx hb dX10_otherBy_12 rfl (lv_at hl 0 rfl) ?_
      refine va_get (ci := 10) (v := .ref (a 39)) hx hb hts wX10_in hown hK hP 0 rfl rfl 13 (by decide) (hts _ mw_4_205) (fun _ h9 => h9) rfl dX10_otherBy_13 ?_
      refine lv_iload_n hx hb dX10_otherBy_16 rfl (lv_at hl 1 rfl) ?_
      obtain ⟨hi_11, hf⟩ := pe_in hf
      refine va_iald hx hb hK hP 11 0 rfl rfl hi_11 dX10_otherBy_17 ?_
      refine lv_icmp_ge (tgt := 74) hx hb dX10_otherBy_18 (by decide) (fun hc_12 => ?_) (fun hc_12 => ?_)
      · have hf := pe_t hf hc_12
        refine lv_bipush (v := (-9 : Int32)) hx hb dX10_otherBy_74 (by decide) ?_
        obtain rfl := po_1 hf
        rw [← hQ]; exact xe_iret Cx rfl hP hD hS dX10_otherBy_76
      · have hf := pe_f hf hc_12
        refine lv_iload hx hb dX10_otherBy_21 (lv_at hl 4 rfl) ?_
        refine lv_aload_n hx hb dX10_otherBy_23 rfl (lv_at hl 0 rfl) ?_
        refine lv_iload_n hx hb dX10_otherBy_24 rfl (lv_at hl 3 rfl) ?_
        obtain ⟨r_13, hk_14, hf⟩ := pe_1 hf
        refine xv_i (As := [.int y3]) (rest := [.int y4]) (q0 := 0) (ci := 10) Cx hP hD hS hl (pl_X10_X10 a cyI cyJ v10_firstOf v10_sizeOf v10_longOf v10_row v10_character v10_sum v10_coefficient v10_undone v10_wasSum v10_wasCoefficient v10_hasImage v10_letter v10_letters v10_list v10_cell v10_refusals v10_tried v10_left v10_high v10_then v10_at v10_readSize v10_firstOf v10_sizeOf v10_longOf v10_row v10_character v10_sum v10_coefficient v10_undone v10_wasSum v10_wasCoefficient v10_hasImage v10_letter v10_letters v10_list v10_cell v10_refusals v10_tried v10_left v10_high v10_then v10_at v10_readSize) (c_X10_manyOf l D cyI cyJ G a H.size v10_firstOf v10_sizeOf v10_longOf v10_row v10_character v10_sum v10_coefficient v10_undone v10_wasSum v10_wasCoefficient v10_hasImage v10_letter v10_letters v10_list v10_cell v10_refusals v10_tried v10_left v10_high v10_then v10_at v10_readSize y3 r_13 hk_14) pk_X10_manyOf mw_5_63 ⟨rfl, rfl, Nat.le_of_ble_eq_true rfl, Nat.le_of_ble_eq_true rfl⟩ rfl rfl rfl rfl rfl (Nat.le_of_ble_eq_true rfl) ⟨Nat.le_of_ble_eq_true rfl, Nat.le_of_ble_eq_true rfl⟩ dX10_otherBy_25 (fun H locs hP hD hS => ?_)
        refine lv_icmp_eq (tgt := 65) hx hb dX10_otherBy_28 (by decide) (fun hc_15 => ?_) (fun hc_15 => ?_)
        · have hf := pe_t hf hc_15
          refine lv_iload hx hb dX10_otherBy_65 (lv_at hl 4 rfl) ?_
          obtain rfl := po_1 hf
          rw [← hQ]; exact xe_iret Cx rfl hP hD hS dX10_otherBy_67
        · have hf := pe_f hf hc_15
          refine lv_aload_n hx hb dX10_otherBy_31 rfl (lv_at hl 0 rfl) ?_
          refine va_get (ci := 10) (v := .ref (a 40)) hx hb hts wX10_in hown hK hP 0 rfl rfl 14 (by decide) (hts _ mw_4_206) (fun _ h9 => h9) rfl dX10_otherBy_32 ?_
          refine lv_bipush (v := (40 : Int32)) hx hb dX10_otherBy_35 (by decide) ?_
          refine lv_iload_n hx hb dX10_otherBy_37 rfl (lv_at hl 1 rfl) ?_
          refine lv_imul hx hb dX10_otherBy_38 ?_
          refine lv_iload hx hb dX10_otherBy_39 (lv_at hl 4 rfl) ?_
          refine lv_iadd hx hb dX10_otherBy_41 ?_
          obtain ⟨hi_16, hf⟩ := pe_in hf
          refine va_iald hx hb hK hP 12 0 rfl rfl hi_16 dX10_otherBy_42 ?_
          refine lv_aload_n hx hb dX10_otherBy_43 rfl (lv_at hl 0 rfl) ?_
          refine va_get (ci := 10) (v := .ref (a 33)) hx hb hts wX10_in hown hK hP 0 rfl rfl 4 (by decide) (hts _ mw_4_196) (fun _ h9 => h9) rfl dX10_otherBy_44 ?_
          refine lv_bipush (v := (67 : Int32)) hx hb dX10_otherBy_47 (by decide) ?_
          refine lv_iload_n hx hb dX10_otherBy_49 rfl (lv_at hl 2 rfl) ?_
          refine lv_imul hx hb dX10_otherBy_50 ?_
          refine lv_aload_n hx hb dX10_otherBy_51 rfl (lv_at hl 0 rfl) ?_
          refine va_get (ci := 10) (v := .ref (a 29)) hx hb hts wX10_in hown hK hP 0 rfl rfl 0 (by decide) (hts _ mw_4_192) (fun _ h9 => h9) rfl dX10_otherBy_52 ?_
          refine lv_iload_n hx hb dX10_otherBy_55 rfl (lv_at hl 3 rfl) ?_
          obtain ⟨hi_17, hf⟩ := pe_in hf
          refine va_iald hx hb hK hP 1 0 rfl rfl hi_17 dX10_otherBy_56 ?_
          refine lv_iadd hx hb dX10_otherBy_57 ?_
          refine lv_iload hx hb dX10_otherBy_58 (lv_at hl 4 rfl) ?_
          refine lv_iadd hx hb dX10_otherBy_60 ?_
          obtain ⟨hi_18, hf⟩ := pe_in hf
          refine va_iald hx hb hK hP 5 0 rfl rfl hi_18 dX10_otherBy_61 ?_
          refine lv_icmp_eq (tgt := 68) hx hb dX10_otherBy_62 (by decide) (fun hc_19 => ?_) (fun hc_19 => ?_)
          · have hf := pe_t hf hc_19
            refine lv_iinc (v := (y4 + (1 : Int32))) (lv' := [(4, .int (y4 + (1 : Int32))), (0, .ref (a 28)), (1, .int y1), (2, .int y2), (3, .int y3)]) hx hb dX10_otherBy_68 hl (k := 4) rfl rfl (by decide) rfl (fun ls hl => ?_)
            refine lv_goto (tgt := 10) hx hb dX10_otherBy_71 (by decide) ?_
            exact w_10 y1 y2 y3 (y4 + (1 : Int32)) H locs ls hf hP hD hS (lv_sub hl [1, 2, 3, 4, 0] rfl)
          · have hf := pe_f hf hc_19
            refine lv_iload hx hb dX10_otherBy_65 (lv_at hl 4 rfl) ?_
            obtain rfl := po_1 hf
            rw [← hQ]; exact xe_iret Cx rfl hP hD hS dX10_otherBy_67
  refine lv_aload_n hx hb dX10_otherBy_0 rfl (lv_at hl 0 rfl) ?_
  refine va_get (ci := 10) (v := .ref (a 30)) hx hb hts wX10_in hown hK hP 0 rfl rfl 1 (by decide) (hts _ mw_4_193) (fun _ h9 => h9) rfl dX10_otherBy_1 ?_
  refine lv_iload_n hx hb dX10_otherBy_4 rfl (lv_at hl 2 rfl) ?_
  obtain ⟨hi_20, hf⟩ := pe_in hf
  refine va_iald hx hb hK hP 2 0 rfl rfl hi_20 dX10_otherBy_5 ?_
  refine lv_istore_n (lv' := [(3, .int (v10_sizeOf (Int32.toNatClampNeg x2))), (0, .ref (a 28)), (1, .int x1), (2, .int x2)]) hx hb dX10_otherBy_6 rfl hl (by decide) rfl (fun ls hl => ?_)
  refine lv_iconst (v := (0 : Int32)) hx hb dX10_otherBy_7 (by decide) ?_
  refine lv_istore (lv' := [(4, .int (0 : Int32)), (3, .int (v10_sizeOf (Int32.toNatClampNeg x2))), (0, .ref (a 28)), (1, .int x1), (2, .int x2)]) hx hb dX10_otherBy_8 hl (by decide) rfl (fun ls hl => ?_)
  exact w_10 1000 x1 x2 (v10_sizeOf (Int32.toNatClampNeg x2)) (0 : Int32) H locs ls hf hP hD hS (lv_sub hl [2, 3, 4, 1, 0] rfl)
def f_X10_judge_14 (v10_firstOf : Nat → Int32) (v10_sizeOf : Nat → Int32) (v10_character : Nat → Int32) (v10_list : Nat → Int32) (v10_cell : Nat → Int32) (v10_refusals : Nat → Int32) : Option (Int32 × (Nat → Int32)) := p_b2 (f_X10_refused v10_refusals (-1 : Int32)) (fun r_1 v10_refusals_2 => some (r_1, v10_refusals_2))
def f_X10_judge (v10_firstOf : Nat → Int32) (v10_sizeOf : Nat → Int32) (v10_character : Nat → Int32) (v10_list : Nat → Int32) (v10_cell : Nat → Int32) (v10_refusals : Nat → Int32) (x1 : Int32) (x2 : Int32) : Option (Int32 × (Nat → Int32)) := p_b1 (f_X10_isList x1) (fun r_4 => if r_4 = 0 then ((f_X10_judge_14 v10_firstOf v10_sizeOf v10_character v10_list v10_cell) v10_refusals) else (p_b1 (f_X10_isShape x2) (fun r_8 => if r_8 = 0 then ((f_X10_judge_14 v10_firstOf v10_sizeOf v10_character v10_list v10_cell) v10_refusals) else (p_in x1 3 (if 0 ≤ (v10_list (Int32.toNatClampNeg x1)) then (p_b1 (f_X10_otherBy v10_firstOf v10_sizeOf v10_character v10_list v10_cell x1 x2) (fun r_14 => some (r_14, v10_refusals))) else (some ((-11 : Int32), v10_refusals)))))))
set_option maxHeartbeats 4000000 in
set_option maxRecDepth 20000 in
theorem c_X10_judge (l : Launch) (D : va_G) (cyI cyJ : ClassId) (G a : Nat → Nat) (sz : Nat) (v10_firstOf : Nat → Int32) (v10_sizeOf : Nat → Int32) (v10_longOf : Nat → Int32) (v10_row : Nat → Int32) (v10_character : Nat → Int32) (v10_sum : Nat → Int32) (v10_coefficient : Nat → Int32) (v10_undone : Int32) (v10_wasSum : Nat → Int32) (v10_wasCoefficient : Nat → Int32) (v10_hasImage : Int32) (v10_letter : Nat → Int32) (v10_letters : Int32) (v10_list : Nat → Int32) (v10_cell : Nat → Int32) (v10_refusals : Nat → Int32) (v10_tried : Nat → Int32) (v10_left : Int32) (v10_high : Int32) (v10_then : Nat → Int64) (v10_at : Int32) (v10_readSize : Int32) (x1 : Int32) (x2 : Int32) (ro : Int32) (ov10_refusals : Nat → Int32) (hf : f_X10_judge v10_firstOf v10_sizeOf v10_character v10_list v10_cell v10_refusals x1 x2 = some (ro, ov10_refusals)) : xm_i l yX10_judge (Cond.code yX10_judge cX10_judge 3 (some .int) :: xg_tbl) { frames := 2, cells := 0, slots := 0, locals := 45 } D xcl [(cyI, .int), (cyJ, .long)] G sz [.ref (a 28), .int x1, .int x2] (wd_X10 a cyI cyJ v10_firstOf v10_sizeOf v10_longOf v10_row v10_character v10_sum v10_coefficient v10_undone v10_wasSum v10_wasCoefficient v10_hasImage v10_letter v10_letters v10_list v10_cell v10_refusals v10_tried v10_left v10_high v10_then v10_at v10_readSize) (wd_X10 a cyI cyJ v10_firstOf v10_sizeOf v10_longOf v10_row v10_character v10_sum v10_coefficient v10_undone v10_wasSum v10_wasCoefficient v10_hasImage v10_letter v10_letters v10_list v10_cell ov10_refusals v10_tried v10_left v10_high v10_then v10_at v10_readSize) ro := by
  refine xm_of_i (own := RX10) (by decide) rfl rfl (Nat.le_of_ble_eq_true rfl) ?_
  intro p e s m args below meth c ls Q A hQ hAe hin Cx hsz hP hD hS hl
  have Cx1 := Cx
  obtain ⟨⟨hx, hb, hml, hown, hts⟩, hr, hlocks, hK, hA, hT⟩ := Cx1
  have hl : lv_has ls 3 [(0, .ref (a 28)), (1, .int x1), (2, .int x2)] := hl
  obtain ⟨H, eH⟩ : ∃ H, H = s.heap := ⟨_, rfl⟩
  obtain ⟨locs, eL⟩ : ∃ L : List Loc, L = [] := ⟨_, rfl⟩
  rw [← eH] at hP
  have hS : va_S A s.heap H locs := by rw [eH, eL]; exact hS
  suffices hgo : W p l e { frames := 2, cells := 0, slots := 0, locals := 45 } s m args below meth c H locs 0 0 Q (F0 m 0 ls []) by rw [eH, eL] at hgo; exact hgo
  clear eH eL
  unfold f_X10_judge at hf
  have w_14 : ∀ (v10_refusals : Nat → Int32) (H : Heap) (locs : List Loc) (ls : Array Slot), (f_X10_judge_14 v10_firstOf v10_sizeOf v10_character v10_list v10_cell) v10_refusals = some (ro, ov10_refusals) → va_P D xcl (wd_X10 a cyI cyJ v10_firstOf v10_sizeOf v10_longOf v10_row v10_character v10_sum v10_coefficient v10_undone v10_wasSum v10_wasCoefficient v10_hasImage v10_letter v10_letters v10_list v10_cell v10_refusals v10_tried v10_left v10_high v10_then v10_at v10_readSize) H → va_D A (wd_X10 a cyI cyJ v10_firstOf v10_sizeOf v10_longOf v10_row v10_character v10_sum v10_coefficient v10_undone v10_wasSum v10_wasCoefficient v10_hasImage v10_letter v10_letters v10_list v10_cell v10_refusals v10_tried v10_left v10_high v10_then v10_at v10_readSize) → va_S A s.heap H locs → lv_has ls 3 [(0, .ref (a 28))] → W p l e { frames := 2, cells := 0, slots := 0, locals := 45 } s m args below meth c H locs 0 0 Q (F0 m 14 ls []) := by
    intro v10_refusals H locs ls hf hP hD hS hl
    unfold f_X10_judge_14 at hf
    refine lv_aload_n hx hb dX10_judge_14 rfl (lv_at hl 0 rfl) ?_
    refine lv_iconst (v := (-1 : Int32)) hx hb dX10_judge_15 (by decide) ?_
    obtain ⟨r_16, v10_refusals_17, hk_18, hf⟩ := pe_2 hf
    refine xv_i (As := [.int (-1 : Int32)]) (rest := []) (q0 := 0) (ci := 10) Cx hP hD hS hl (pl_X10_X10 a cyI cyJ v10_firstOf v10_sizeOf v10_longOf v10_row v10_character v10_sum v10_coefficient v10_undone v10_wasSum v10_wasCoefficient v10_hasImage v10_letter v10_letters v10_list v10_cell v10_refusals v10_tried v10_left v10_high v10_then v10_at v10_readSize v10_firstOf v10_sizeOf v10_longOf v10_row v10_character v10_sum v10_coefficient v10_undone v10_wasSum v10_wasCoefficient v10_hasImage v10_letter v10_letters v10_list v10_cell v10_refusals_17 v10_tried v10_left v10_high v10_then v10_at v10_readSize) (c_X10_refused l D cyI cyJ G a H.size v10_firstOf v10_sizeOf v10_longOf v10_row v10_character v10_sum v10_coefficient v10_undone v10_wasSum v10_wasCoefficient v10_hasImage v10_letter v10_letters v10_list v10_cell v10_refusals v10_tried v10_left v10_high v10_then v10_at v10_readSize (-1 : Int32) r_16 v10_refusals_17 hk_18) pk_X10_refused mw_5_29 ⟨rfl, rfl, Nat.le_of_ble_eq_true rfl, Nat.le_of_ble_eq_true rfl⟩ rfl rfl rfl rfl rfl (Nat.le_of_ble_eq_true rfl) ⟨Nat.le_of_ble_eq_true rfl, Nat.le_of_ble_eq_true rfl⟩ dX10_judge_16 (fun H locs hP hD hS => ?_)
    obtain ⟨rfl, rfl⟩ := po_2 hf
    rw [← hQ]; exact xe_iret Cx rfl hP hD hS dX10_judge_19
  refine lv_iload_n hx hb dX10_judge_0 rfl (lv_at hl 1 rfl) ?_
  obtain ⟨r_19, hk_20, hf⟩ := pe_1 hf
  refine xw_z (As := [.int x1]) (rest := []) Cx hP hD hS hl (xq_none _) (c_X10_isList l D cyI cyJ G H.size x1 r_19 hk_20) pk_X10_isList mw_5_56 ⟨rfl, rfl, Nat.le_of_ble_eq_true rfl, Nat.le_of_ble_eq_true rfl⟩ rfl rfl (Nat.le_of_ble_eq_true rfl) ⟨Nat.le_of_ble_eq_true rfl, Nat.le_of_ble_eq_true rfl⟩ dX10_judge_1 (fun H locs hn_21 hP hD hS => ?_)
  refine lv_if_eq (tgt := 14) hx hb dX10_judge_4 (by decide) (fun hc_22 => ?_) (fun hc_22 => ?_)
  · have hf := pe_t hf hc_22
    exact w_14 v10_refusals H locs ls hf hP hD hS (lv_sub hl [0] rfl)
  · have hf := pe_f hf hc_22
    refine lv_iload_n hx hb dX10_judge_7 rfl (lv_at hl 2 rfl) ?_
    obtain ⟨r_23, hk_24, hf⟩ := pe_1 hf
    refine xw_z (As := [.int x2]) (rest := []) Cx hP hD hS hl (xq_none _) (c_X10_isShape l D cyI cyJ G H.size x2 r_23 hk_24) pk_X10_isShape mw_5_23 ⟨rfl, rfl, Nat.le_of_ble_eq_true rfl, Nat.le_of_ble_eq_true rfl⟩ rfl rfl (Nat.le_of_ble_eq_true rfl) ⟨Nat.le_of_ble_eq_true rfl, Nat.le_of_ble_eq_true rfl⟩ dX10_judge_8 (fun H locs hn_25 hP hD hS => ?_)
    refine lv_if_ne (tgt := 20) hx hb dX10_judge_11 (by decide) (fun hc_26 => ?_) (fun hc_26 => ?_)
    · have hf := pe_f hf hc_26
      refine lv_aload_n hx hb dX10_judge_20 rfl (lv_at hl 0 rfl) ?_
      refine va_get (ci := 10) (v := .ref (a 39)) hx hb hts wX10_in hown hK hP 0 rfl rfl 13 (by decide) (hts _ mw_4_205) (fun _ h9 => h9) rfl dX10_judge_21 ?_
      refine lv_iload_n hx hb dX10_judge_24 rfl (lv_at hl 1 rfl) ?_
      obtain ⟨hi_27, hf⟩ := pe_in hf
      refine va_iald hx hb hK hP 11 0 rfl rfl hi_27 dX10_judge_25 ?_
      refine lv_if_ge (tgt := 34) hx hb dX10_judge_26 (by decide) (fun hc_28 => ?_) (fun hc_28 => ?_)
      · have hf := pe_t hf hc_28
        refine lv_aload_n hx hb dX10_judge_34 rfl (lv_at hl 0 rfl) ?_
        refine lv_iload_n hx hb dX10_judge_35 rfl (lv_at hl 1 rfl) ?_
        refine lv_iload_n hx hb dX10_judge_36 rfl (lv_at hl 2 rfl) ?_
        obtain ⟨r_29, hk_30, hf⟩ := pe_1 hf
        refine xv_i (As := [.int x1, .int x2]) (rest := []) (q0 := 0) (ci := 10) Cx hP hD hS hl (pl_X10_X10 a cyI cyJ v10_firstOf v10_sizeOf v10_longOf v10_row v10_character v10_sum v10_coefficient v10_undone v10_wasSum v10_wasCoefficient v10_hasImage v10_letter v10_letters v10_list v10_cell v10_refusals v10_tried v10_left v10_high v10_then v10_at v10_readSize v10_firstOf v10_sizeOf v10_longOf v10_row v10_character v10_sum v10_coefficient v10_undone v10_wasSum v10_wasCoefficient v10_hasImage v10_letter v10_letters v10_list v10_cell v10_refusals v10_tried v10_left v10_high v10_then v10_at v10_readSize) (c_X10_otherBy l D cyI cyJ G a H.size v10_firstOf v10_sizeOf v10_longOf v10_row v10_character v10_sum v10_coefficient v10_undone v10_wasSum v10_wasCoefficient v10_hasImage v10_letter v10_letters v10_list v10_cell v10_refusals v10_tried v10_left v10_high v10_then v10_at v10_readSize x1 x2 r_29 hk_30) pk_X10_otherBy mw_6_9 ⟨rfl, rfl, Nat.le_of_ble_eq_true rfl, Nat.le_of_ble_eq_true rfl⟩ rfl rfl rfl rfl rfl (Nat.le_of_ble_eq_true rfl) ⟨Nat.le_of_ble_eq_true rfl, Nat.le_of_ble_eq_true rfl⟩ dX10_judge_37 (fun H locs hP hD hS => ?_)
        obtain ⟨rfl, rfl⟩ := po_2 hf
        rw [← hQ]; exact xe_iret Cx rfl hP hD hS dX10_judge_40
      · have hf := pe_f hf hc_28
        refine lv_bipush (v := (-11 : Int32)) hx hb dX10_judge_29 (by decide) ?_
        refine lv_goto (tgt := 40) hx hb dX10_judge_31 (by decide) ?_
        obtain ⟨rfl, rfl⟩ := po_2 hf
        rw [← hQ]; exact xe_iret Cx rfl hP hD hS dX10_judge_40
    · have hf := pe_t hf hc_26
      exact w_14 v10_refusals H locs ls hf hP hD hS (lv_sub hl [0] rfl)
def gf_X10_which_84 (K_84 : (Nat → Int32) → Int32 → Int32 → Int32 → Int32 → Int32 → Int32 → Option (Int32 × (Nat → Int32))) (v10_firstOf : Nat → Int32) (v10_sizeOf : Nat → Int32) (v10_character : Nat → Int32) (v10_list : Nat → Int32) (v10_cell : Nat → Int32) (v10_refusals : Nat → Int32) (y1 : Int32) (y2 : Int32) (y3 : Int32) (y4 : Int32) (y5 : Int32) (y6 : Int32) : Option (Int32 × (Nat → Int32)) := p_in y2 10 (if y6 < (v10_firstOf (Int32.toNatClampNeg y2)) then (if y3 = 0 then (some (y4, v10_refusals)) else (some (y5, v10_refusals))) else (p_b1 (f_X10_otherBy v10_firstOf v10_sizeOf v10_character v10_list v10_cell y1 y6) (fun r_4 => if r_4 = (-9 : Int32) then (K_84 v10_refusals y1 y2 y3 (y4 + (1 : Int32)) y6 (y6 + (-1 : Int32))) else (K_84 v10_refusals y1 y2 y3 y4 y5 (y6 + (-1 : Int32))))))
def f_X10_which_84 (v10_firstOf : Nat → Int32) (v10_sizeOf : Nat → Int32) (v10_character : Nat → Int32) (v10_list : Nat → Int32) (v10_cell : Nat → Int32) : Nat → (Nat → Int32) → Int32 → Int32 → Int32 → Int32 → Int32 → Int32 → Option (Int32 × (Nat → Int32))
  | 0 => fun _ _ _ _ _ _ _ => none
  | n + 1 => gf_X10_which_84 (f_X10_which_84 v10_firstOf v10_sizeOf v10_character v10_list v10_cell n) v10_firstOf v10_sizeOf v10_character v10_list v10_cell
def f_X10_which (v10_firstOf : Nat → Int32) (v10_sizeOf : Nat → Int32) (v10_character : Nat → Int32) (v10_list : Nat → Int32) (v10_cell : Nat → Int32) (v10_refusals : Nat → Int32) (x1 : Int32) (x2 : Int32) (x3 : Int32) : Option (Int32 × (Nat → Int32)) := p_b1 (f_X10_isList x1) (fun r_7 => if r_7 = 0 then (p_b2 (f_X10_refused v10_refusals (-1 : Int32)) (fun r_29 v10_refusals_30 => some (r_29, v10_refusals_30))) else (if 0 ≤ x2 then (if x2 ≤ (8 : Int32) then (p_b1 (f_X10_in x3 (0 : Int32) (1 : Int32)) (fun r_13 => if r_13 = 0 then (p_b2 (f_X10_refused v10_refusals (-2 : Int32)) (fun r_20 v10_refusals_21 => some (r_20, v10_refusals_21))) else (p_in x1 3 (if 0 ≤ (v10_list (Int32.toNatClampNeg x1)) then (p_in (x2 + (1 : Int32)) 10 ((f_X10_which_84 v10_firstOf v10_sizeOf v10_character v10_list v10_cell 1000) v10_refusals x1 x2 x3 (0 : Int32) (-9 : Int32) ((v10_firstOf (Int32.toNatClampNeg (x2 + (1 : Int32)))) - (1 : Int32)))) else (some ((-11 : Int32), v10_refusals)))))) else (p_b2 (f_X10_refused v10_refusals (-6 : Int32)) (fun r_23 v10_refusals_24 => some (r_23, v10_refusals_24)))) else (p_b2 (f_X10_refused v10_refusals (-4 : Int32)) (fun r_26 v10_refusals_27 => some (r_26, v10_refusals_27)))))
set_option maxHeartbeats 4000000 in
set_option maxRecDepth 20000 in
theorem c_X10_which (l : Launch) (D : va_G) (cyI cyJ : ClassId) (G a : Nat → Nat) (sz : Nat) (v10_firstOf : Nat → Int32) (v10_sizeOf : Nat → Int32) (v10_longOf : Nat → Int32) (v10_row : Nat → Int32) (v10_character : Nat → Int32) (v10_sum : Nat → Int32) (v10_coefficient : Nat → Int32) (v10_undone : Int32) (v10_wasSum : Nat → Int32) (v10_wasCoefficient : Nat → Int32) (v10_hasImage : Int32) (v10_letter : Nat → Int32) (v10_letters : Int32) (v10_list : Nat → Int32) (v10_cell : Nat → Int32) (v10_refusals : Nat → Int32) (v10_tried : Nat → Int32) (v10_left : Int32) (v10_high : Int32) (v10_then : Nat → Int64) (v10_at : Int32) (v10_readSize : Int32) (x1 : Int32) (x2 : Int32) (x3 : Int32) (ro : Int32) (ov10_refusals : Nat → Int32) (hf : f_X10_which v10_firstOf v10_sizeOf v10_character v10_list v10_cell v10_refusals x1 x2 x3 = some (ro, ov10_refusals)) : xm_i l yX10_which (Cond.code yX10_which cX10_which 7 (some .int) :: xg_tbl) { frames := 2, cells := 0, slots := 0, locals := 45 } D xcl [(cyI, .int), (cyJ, .long)] G sz [.ref (a 28), .int x1, .int x2, .int x3] (wd_X10 a cyI cyJ v10_firstOf v10_sizeOf v10_longOf v10_row v10_character v10_sum v10_coefficient v10_undone v10_wasSum v10_wasCoefficient v10_hasImage v10_letter v10_letters v10_list v10_cell v10_refusals v10_tried v10_left v10_high v10_then v10_at v10_readSize) (wd_X10 a cyI cyJ v10_firstOf v10_sizeOf v10_longOf v10_row v10_character v10_sum v10_coefficient v10_undone v10_wasSum v10_wasCoefficient v10_hasImage v10_letter v10_letters v10_list v10_cell ov10_refusals v10_tried v10_left v10_high v10_then v10_at v10_readSize) ro := by
  refine xm_of_i (own := RX10) (by decide) rfl rfl (Nat.le_of_ble_eq_true rfl) ?_
  intro p e s m args below meth c ls Q A hQ hAe hin Cx hsz hP hD hS hl
  have Cx1 := Cx
  obtain ⟨⟨hx, hb, hml, hown, hts⟩, hr, hlocks, hK, hA, hT⟩ := Cx1
  have hl : lv_has ls 7 [(0, .ref (a 28)), (1, .int x1), (2, .int x2), (3, .int x3)] := hl
  obtain ⟨H, eH⟩ : ∃ H, H = s.heap := ⟨_, rfl⟩
  obtain ⟨locs, eL⟩ : ∃ L : List Loc, L = [] := ⟨_, rfl⟩
  rw [← eH] at hP
  have hS : va_S A s.heap H locs := by rw [eH, eL]; exact hS
  suffices hgo : W p l e { frames := 2, cells := 0, slots := 0, locals := 45 } s m args below meth c H locs 0 0 Q (F0 m 0 ls []) by rw [eH, eL] at hgo; exact hgo
  clear eH eL
  unfold f_X10_which at hf
  have w_84 : ∀ (n_84 : Nat) (v10_refusals : Nat → Int32) (y1 : Int32) (y2 : Int32) (y3 : Int32) (y4 : Int32) (y5 : Int32) (y6 : Int32) (H : Heap) (locs : List Loc) (ls : Array Slot), (f_X10_which_84 v10_firstOf v10_sizeOf v10_character v10_list v10_cell) n_84 v10_refusals y1 y2 y3 y4 y5 y6 = some (ro, ov10_refusals) → va_P D xcl (wd_X10 a cyI cyJ v10_firstOf v10_sizeOf v10_longOf v10_row v10_character v10_sum v10_coefficient v10_undone v10_wasSum v10_wasCoefficient v10_hasImage v10_letter v10_letters v10_list v10_cell v10_refusals v10_tried v10_left v10_high v10_then v10_at v10_readSize) H → va_D A (wd_X10 a cyI cyJ v10_firstOf v10_sizeOf v10_longOf v10_row v10_character v10_sum v10_coefficient v10_undone v10_wasSum v10_wasCoefficient v10_hasImage v10_letter v10_letters v10_list v10_cell v10_refusals v10_tried v10_left v10_high v10_then v10_at v10_readSize) → va_S A s.heap H locs → lv_has ls 7 [(0, .ref (a 28)), (1, .int y1), (2, .int y2), (3, .int y3), (4, .int y4), (5, .int y5), (6, .int y6)] → W p l e { frames := 2, cells := 0, slots := 0, locals := 45 } s m args below meth c H locs 0 0 Q (F0 m 84 ls []) := by
    intro n_84
    induction n_84 with
    | zero => intro v10_refusals y1 y2 y3 y4 y5 y6 H locs ls hf; exact absurd hf (by intro h9; cases h9)
    | succ n_84 w_84 =>
      intro v10_refusals y1 y2 y3 y4 y5 y6 H locs ls hf hP hD hS hl
      have hf : gf_X10_which_84 ((f_X10_which_84 v10_firstOf v10_sizeOf v10_character v10_list v10_cell) n_84) v10_firstOf v10_sizeOf v10_character v10_list v10_cell v10_refusals y1 y2 y3 y4 y5 y6 = some (ro, ov10_refusals) := hf
      unfold gf_X10_which_84 at hf
      refine lv_iload hx hb dX10_which_84 (lv_at hl 6 rfl) ?_
      refine lv_aload_n hx hb dX10_which_86 rfl (lv_at hl 0 rfl) ?_
      refine va_get (ci := 10) (v := .ref (a 29)) hx hb hts wX10_in hown hK hP 0 rfl rfl 0 (by decide) (hts _ mw_4_192) (fun _ h9 => h9) rfl dX10_which_87 ?_
      refine lv_iload_n hx hb dX10_which_90 rfl (lv_at hl 2 rfl) ?_
      obtain ⟨hi_32, hf⟩ := pe_in hf
      refine va_iald hx hb hK hP 1 0 rfl rfl hi_32 dX10_which_91 ?_
      refine lv_icmp_lt (tgt := 120) hx hb dX10_which_92 (by decide) (fun hc_33 => ?_) (fun hc_33 => ?_)
      · have hf := pe_t hf hc_33
        refine lv_iload_n hx hb dX10_which_120 rfl (lv_at hl 3 rfl) ?_
        refine lv_if_ne (tgt := 129) hx hb dX10_which_121 (by decide) (fun hc_34 => ?_) (fun hc_34 => ?_)
        · have hf := pe_f hf hc_34
          refine lv_iload hx hb dX10_which_129 (lv_at hl 5 rfl) ?_
          obtain ⟨rfl, rfl⟩ := po_2 hf
          rw [← hQ]; exact xe_iret Cx rfl hP hD hS dX10_which_131
        · have hf := pe_t hf hc_34
          refine lv_iload hx hb dX10_which_124 (lv_at hl 4 rfl) ?_
          refine lv_goto (tgt := 131) hx hb dX10_which_126 (by decide) ?_
          obtain ⟨rfl, rfl⟩ := po_2 hf
          rw [← hQ]; exact xe_iret Cx rfl hP hD hS dX10_which_131
      · have hf := pe_f hf hc_33
        refine lv_aload_n hx hb dX10_which_95 rfl (lv_at hl 0 rfl) ?_
        refine lv_iload_n hx hb dX10_which_96 rfl (lv_at hl 1 rfl) ?_
        refine lv_iload hx hb dX10_which_97 (lv_at hl 6 rfl) ?_
        obtain ⟨r_35, hk_36, hf⟩ := pe_1 hf
        refine xv_i (As := [.int y1, .int y6]) (rest := []) (q0 := 0) (ci := 10) Cx hP hD hS hl (pl_X10_X10 a cyI cyJ v10_firstOf v10_sizeOf v10_longOf v10_row v10_character v10_sum v10_coefficient v10_undone v10_wasSum v10_wasCoefficient v10_hasImage v10_letter v10_letters v10_list v10_cell v10_refusals v10_tried v10_left v10_high v10_then v10_at v10_readSize v10_firstOf v10_sizeOf v10_longOf v10_row v10_character v10_sum v10_coefficient v10_undone v10_wasSum v10_wasCoefficient v10_hasImage v10_letter v10_letters v10_list v10_cell v10_refusals v10_tried v10_left v10_high v10_then v10_at v10_readSize) (c_X10_otherBy l D cyI cyJ G a H.size v10_firstOf v10_sizeOf v10_longOf v10_row v10_character v10_sum v10_coefficient v10_undone v10_wasSum v10_wasCoefficient v10_hasImage v10_letter v10_letters v10_list v10_cell v10_refusals v10_tried v10_left v10_high v10_then v10_at v10_readSize y1 y6 r_35 hk_36) pk_X10_otherBy mw_6_9 ⟨rfl, rfl, Nat.le_of_ble_eq_true rfl, Nat.le_of_ble_eq_true rfl⟩ rfl rfl rfl rfl rfl (Nat.le_of_ble_eq_true rfl) ⟨Nat.le_of_ble_eq_true rfl, Nat.le_of_ble_eq_true rfl⟩ dX10_which_99 (fun H locs hP hD hS => ?_)
        refine lv_bipush (v := (-9 : Int32)) hx hb dX10_which_102 (by decide) ?_
        refine lv_icmp_ne (tgt := 114) hx hb dX10_which_104 (by decide) (fun hc_37 => ?_) (fun hc_37 => ?_)
        · have hf := pe_f hf hc_37
          refine lv_iinc (v := (y6 + (-1 : Int32))) (lv' := [(6, .int (y6 + (-1 : Int32))), (0, .ref (a 28)), (1, .int y1), (2, .int y2), (3, .int y3), (4, .int y4), (5, .int y5)]) hx hb dX10_which_114 hl (k := 6) rfl rfl (by decide) rfl (fun ls hl => ?_)
          refine lv_goto (tgt := 84) hx hb dX10_which_117 (by decide) ?_
          exact w_84 v10_refusals y1 y2 y3 y4 y5 (y6 + (-1 : Int32)) H locs ls hf hP hD hS (lv_sub hl [1, 2, 3, 4, 5, 6, 0] rfl)
        · have hf := pe_t hf hc_37
          refine lv_iinc (v := (y4 + (1 : Int32))) (lv' := [(4, .int (y4 + (1 : Int32))), (0, .ref (a 28)), (1, .int y1), (2, .int y2), (3, .int y3), (5, .int y5), (6, .int y6)]) hx hb dX10_which_107 hl (k := 4) rfl rfl (by decide) rfl (fun ls hl => ?_)
          refine lv_iload hx hb dX10_which_110 (lv_at hl 6 rfl) ?_
          refine lv_istore (lv' := [(5, .int y6), (4, .int (y4 + (1 : Int32))), (0, .ref (a 28)), (1, .int y1), (2, .int y2), (3, .int y3), (6, .int y6)]) hx hb dX10_which_112 hl (by decide) rfl (fun ls hl => ?_)
          refine lv_iinc (v := (y6 + (-1 : Int32))) (lv' := [(6, .int (y6 + (-1 : Int32))), (5, .int y6), (4, .int (y4 + (1 : Int32))), (0, .ref (a 28)), (1, .int y1), (2, .int y2), (3, .int y3)]) hx hb dX10_which_114 hl (k := 6) rfl rfl (by decide) rfl (fun ls hl => ?_)
          refine lv_goto (tgt := 84) hx hb dX10_which_117 (by decide) ?_
          exact w_84 v10_refusals y1 y2 y3 (y4 + (1 : Int32)) y6 (y6 + (-1 : Int32)) H locs ls hf hP hD hS (lv_sub hl [3, 4, 5, 6, 2, 1, 0] rfl)
  refine lv_iload_n hx hb dX10_which_0 rfl (lv_at hl 1 rfl) ?_
  obtain ⟨r_38, hk_39, hf⟩ := pe_1 hf
  refine xw_z (As := [.int x1]) (rest := []) Cx hP hD hS hl (xq_none _) (c_X10_isList l D cyI cyJ G H.size x1 r_38 hk_39) pk_X10_isList mw_5_56 ⟨rfl, rfl, Nat.le_of_ble_eq_true rfl, Nat.le_of_ble_eq_true rfl⟩ rfl rfl (Nat.le_of_ble_eq_true rfl) ⟨Nat.le_of_ble_eq_true rfl, Nat.le_of_ble_eq_true rfl⟩ dX10_which_1 (fun H locs hn_40 hP hD hS => ?_)
  refine lv_if_ne (tgt := 13) hx hb dX10_which_4 (by decide) (fun hc_41 => ?_) (fun hc_41 => ?_)
  · have hf := pe_f hf hc_41
    refine lv_iload_n hx hb dX10_which_13 rfl (lv_at hl 2 rfl) ?_
    refine lv_if_ge (tgt := 24) hx hb dX10_which_14 (by decide) (fun hc_42 => ?_) (fun hc_42 => ?_)
    · have hf := pe_t hf hc_42
      refine lv_iload_n hx hb dX10_which_24 rfl (lv_at hl 2 rfl) ?_
      refine lv_bipush (v := (8 : Int32)) hx hb dX10_which_25 (by decide) ?_
      refine lv_icmp_le (tgt := 37) hx hb dX10_which_27 (by decide) (fun hc_43 => ?_) (fun hc_43 => ?_)
      · have hf := pe_t hf hc_43
        refine lv_iload_n hx hb dX10_which_37 rfl (lv_at hl 3 rfl) ?_
        refine lv_iconst (v := (0 : Int32)) hx hb dX10_which_38 (by decide) ?_
        refine lv_iconst (v := (1 : Int32)) hx hb dX10_which_39 (by decide) ?_
        obtain ⟨r_44, hk_45, hf⟩ := pe_1 hf
        refine xw_z (As := [.int x3, .int (0 : Int32), .int (1 : Int32)]) (rest := []) Cx hP hD hS hl (xq_none _) (c_X10_in l D cyI cyJ G H.size x3 (0 : Int32) (1 : Int32) r_44 hk_45) pk_X10_in mw_5_26 ⟨rfl, rfl, Nat.le_of_ble_eq_true rfl, Nat.le_of_ble_eq_true rfl⟩ rfl rfl (Nat.le_of_ble_eq_true rfl) ⟨Nat.le_of_ble_eq_true rfl, Nat.le_of_ble_eq_true rfl⟩ dX10_which_40 (fun H locs hn_46 hP hD hS => ?_)
        refine lv_if_ne (tgt := 53) hx hb dX10_which_43 (by decide) (fun hc_47 => ?_) (fun hc_47 => ?_)
        · have hf := pe_f hf hc_47
          refine lv_aload_n hx hb dX10_which_53 rfl (lv_at hl 0 rfl) ?_
          refine va_get (ci := 10) (v := .ref (a 39)) hx hb hts wX10_in hown hK hP 0 rfl rfl 13 (by decide) (hts _ mw_4_205) (fun _ h9 => h9) rfl dX10_which_54 ?_
          refine lv_iload_n hx hb dX10_which_57 rfl (lv_at hl 1 rfl) ?_
          obtain ⟨hi_48, hf⟩ := pe_in hf
          refine va_iald hx hb hK hP 11 0 rfl rfl hi_48 dX10_which_58 ?_
          refine lv_if_ge (tgt := 65) hx hb dX10_which_59 (by decide) (fun hc_49 => ?_) (fun hc_49 => ?_)
          · have hf := pe_t hf hc_49
            refine lv_iconst (v := (0 : Int32)) hx hb dX10_which_65 (by decide) ?_
            refine lv_istore (lv' := [(4, .int (0 : Int32)), (0, .ref (a 28)), (1, .int x1), (2, .int x2), (3, .int x3)]) hx hb dX10_which_66 hl (by decide) rfl (fun ls hl => ?_)
            refine lv_bipush (v := (-9 : Int32)) hx hb dX10_which_68 (by decide) ?_
            refine lv_istore (lv' := [(5, .int (-9 : Int32)), (4, .int (0 : Int32)), (0, .ref (a 28)), (1, .int x1), (2, .int x2), (3, .int x3)]) hx hb dX10_which_70 hl (by decide) rfl (fun ls hl => ?_)
            refine lv_aload_n hx hb dX10_which_72 rfl (lv_at hl 2 rfl) ?_
            refine va_get (ci := 10) (v := .ref (a 29)) hx hb hts wX10_in hown hK hP 0 rfl rfl 0 (by decide) (hts _ mw_4_192) (fun _ h9 => h9) rfl dX10_which_73 ?_
            refine lv_iload_n hx hb dX10_which_76 rfl (lv_at hl 4 rfl) ?_
            refine lv_iconst (v := (1 : Int32)) hx hb dX10_which_77 (by decide) ?_
            refine lv_iadd hx hb dX10_which_78 ?_
            obtain ⟨hi_50, hf⟩ := pe_in hf
            refine va_iald hx hb hK hP 1 0 rfl rfl hi_50 dX10_which_79 ?_
            refine lv_iconst (v := (1 : Int32)) hx hb dX10_which_80 (by decide) ?_
            refine lv_isub hx hb dX10_which_81 ?_
            refine lv_istore (lv' := [(6, .int ((v10_firstOf (Int32.toNatClampNeg (x2 + (1 : Int32)))) - (1 : Int32))), (5, .int (-9 : Int32)), (4, .int (0 : Int32)), (0, .ref (a 28)), (1, .int x1), (2, .int x2), (3, .int x3)]) hx hb dX10_which_82 hl (by decide) rfl (fun ls hl => ?_)
            exact w_84 1000 v10_refusals x1 x2 x3 (0 : Int32) (-9 : Int32) ((v10_firstOf (Int32.toNatClampNeg (x2 + (1 : Int32)))) - (1 : Int32)) H locs ls hf hP hD hS (lv_sub hl [3, 4, 5, 6, 2, 1, 0] rfl)
          · have hf := pe_f hf hc_49
            refine lv_bipush (v := (-11 : Int32)) hx hb dX10_which_62 (by decide) ?_
            obtain ⟨rfl, rfl⟩ := po_2 hf
            rw [← hQ]; exact xe_iret Cx rfl hP hD hS dX10_which_64
        · have hf := pe_t hf hc_47
          refine lv_aload_n hx hb dX10_which_46 rfl (lv_at hl 0 rfl) ?_
          refine lv_bipush (v := (-2 : Int32)) hx hb dX10_which_47 (by decide) ?_
          obtain ⟨r_51, v10_refusals_52, hk_53, hf⟩ := pe_2 hf
          refine xv_i (As := [.int (-2 : Int32)]) (rest := []) (q0 := 0) (ci := 10) Cx hP hD hS hl (pl_X10_X10 a cyI cyJ v10_firstOf v10_sizeOf v10_longOf v10_row v10_character v10_sum v10_coefficient v10_undone v10_wasSum v10_wasCoefficient v10_hasImage v10_letter v10_letters v10_list v10_cell v10_refusals v10_tried v10_left v10_high v10_then v10_at v10_readSize v10_firstOf v10_sizeOf v10_longOf v10_row v10_character v10_sum v10_coefficient v10_undone v10_wasSum v10_wasCoefficient v10_hasImage v10_letter v10_letters v10_list v10_cell v10_refusals_52 v10_tried v10_left v10_high v10_then v10_at v10_readSize) (c_X10_refused l D cyI cyJ G a H.size v10_firstOf v10_sizeOf v10_longOf v10_row v10_character v10_sum v10_coefficient v10_undone v10_wasSum v10_wasCoefficient v10_hasImage v10_letter v10_letters v10_list v10_cell v10_refusals v10_tried v10_left v10_high v10_then v10_at v10_readSize (-2 : Int32) r_51 v10_refusals_52 hk_53) pk_X10_refused mw_5_29 ⟨rfl, rfl, Nat.le_of_ble_eq_true rfl, Nat.le_of_ble_eq_true rfl⟩ rfl rfl rfl rfl rfl (Nat.le_of_ble_eq_true rfl) ⟨Nat.le_of_ble_eq_true rfl, Nat.le_of_ble_eq_true rfl⟩ dX10_which_49 (fun H locs hP hD hS => ?_)
          obtain ⟨rfl, rfl⟩ := po_2 hf
          rw [← hQ]; exact xe_iret Cx rfl hP hD hS dX10_which_52
      · have hf := pe_f hf hc_43
        refine lv_aload_n hx hb dX10_which_30 rfl (lv_at hl 0 rfl) ?_
        refine lv_bipush (v := (-6 : Int32)) hx hb dX10_which_31 (by decide) ?_
        obtain ⟨r_54, v10_refusals_55, hk_56, hf⟩ := pe_2 hf
        refine xv_i (As := [.int (-6 : Int32)]) (rest := []) (q0 := 0) (ci := 10) Cx hP hD hS hl (pl_X10_X10 a cyI cyJ v10_firstOf v10_sizeOf v10_longOf v10_row v10_character v10_sum v10_coefficient v10_undone v10_wasSum v10_wasCoefficient v10_hasImage v10_letter v10_letters v10_list v10_cell v10_refusals v10_tried v10_left v10_high v10_then v10_at v10_readSize v10_firstOf v10_sizeOf v10_longOf v10_row v10_character v10_sum v10_coefficient v10_undone v10_wasSum v10_wasCoefficient v10_hasImage v10_letter v10_letters v10_list v10_cell v10_refusals_55 v10_tried v10_left v10_high v10_then v10_at v10_readSize) (c_X10_refused l D cyI cyJ G a H.size v10_firstOf v10_sizeOf v10_longOf v10_row v10_character v10_sum v10_coefficient v10_undone v10_wasSum v10_wasCoefficient v10_hasImage v10_letter v10_letters v10_list v10_cell v10_refusals v10_tried v10_left v10_high v10_then v10_at v10_readSize (-6 : Int32) r_54 v10_refusals_55 hk_56) pk_X10_refused mw_5_29 ⟨rfl, rfl, Nat.le_of_ble_eq_true rfl, Nat.le_of_ble_eq_true rfl⟩ rfl rfl rfl rfl rfl (Nat.le_of_ble_eq_true rfl) ⟨Nat.le_of_ble_eq_true rfl, Nat.le_of_ble_eq_true rfl⟩ dX10_which_33 (fun H locs hP hD hS => ?_)
        obtain ⟨rfl, rfl⟩ := po_2 hf
        rw [← hQ]; exact xe_iret Cx rfl hP hD hS dX10_which_36
    · have hf := pe_f hf hc_42
      refine lv_aload_n hx hb dX10_which_17 rfl (lv_at hl 0 rfl) ?_
      refine lv_bipush (v := (-4 : Int32)) hx hb dX10_which_18 (by decide) ?_
      obtain ⟨r_57, v10_refusals_58, hk_59, hf⟩ := pe_2 hf
      refine xv_i (As := [.int (-4 : Int32)]) (rest := []) (q0 := 0) (ci := 10) Cx hP hD hS hl (pl_X10_X10 a cyI cyJ v10_firstOf v10_sizeOf v10_longOf v10_row v10_character v10_sum v10_coefficient v10_undone v10_wasSum v10_wasCoefficient v10_hasImage v10_letter v10_letters v10_list v10_cell v10_refusals v10_tried v10_left v10_high v10_then v10_at v10_readSize v10_firstOf v10_sizeOf v10_longOf v10_row v10_character v10_sum v10_coefficient v10_undone v10_wasSum v10_wasCoefficient v10_hasImage v10_letter v10_letters v10_list v10_cell v10_refusals_58 v10_tried v10_left v10_high v10_then v10_at v10_readSize) (c_X10_refused l D cyI cyJ G a H.size v10_firstOf v10_sizeOf v10_longOf v10_row v10_character v10_sum v10_coefficient v10_undone v10_wasSum v10_wasCoefficient v10_hasImage v10_letter v10_letters v10_list v10_cell v10_refusals v10_tried v10_left v10_high v10_then v10_at v10_readSize (-4 : Int32) r_57 v10_refusals_58 hk_59) pk_X10_refused mw_5_29 ⟨rfl, rfl, Nat.le_of_ble_eq_true rfl, Nat.le_of_ble_eq_true rfl⟩ rfl rfl rfl rfl rfl (Nat.le_of_ble_eq_true rfl) ⟨Nat.le_of_ble_eq_true rfl, Nat.le_of_ble_eq_true rfl⟩ dX10_which_20 (fun H locs hP hD hS => ?_)
      obtain ⟨rfl, rfl⟩ := po_2 hf
      rw [← hQ]; exact xe_iret Cx rfl hP hD hS dX10_which_23
  · have hf := pe_t hf hc_41
    refine lv_aload_n hx hb dX10_which_7 rfl (lv_at hl 0 rfl) ?_
    refine lv_iconst (v := (-1 : Int32)) hx hb dX10_which_8 (by decide) ?_
    obtain ⟨r_60, v10_refusals_61, hk_62, hf⟩ := pe_2 hf
    refine xv_i (As := [.int (-1 : Int32)]) (rest := []) (q0 := 0) (ci := 10) Cx hP hD hS hl (pl_X10_X10 a cyI cyJ v10_firstOf v10_sizeOf v10_longOf v10_row v10_character v10_sum v10_coefficient v10_undone v10_wasSum v10_wasCoefficient v10_hasImage v10_letter v10_letters v10_list v10_cell v10_refusals v10_tried v10_left v10_high v10_then v10_at v10_readSize v10_firstOf v10_sizeOf v10_longOf v10_row v10_character v10_sum v10_coefficient v10_undone v10_wasSum v10_wasCoefficient v10_hasImage v10_letter v10_letters v10_list v10_cell v10_refusals_61 v10_tried v10_left v10_high v10_then v10_at v10_readSize) (c_X10_refused l D cyI cyJ G a H.size v10_firstOf v10_sizeOf v10_longOf v10_row v10_character v10_sum v10_coefficient v10_undone v10_wasSum v10_wasCoefficient v10_hasImage v10_letter v10_letters v10_list v10_cell v10_refusals v10_tried v10_left v10_high v10_then v10_at v10_readSize (-1 : Int32) r_60 v10_refusals_61 hk_62) pk_X10_refused mw_5_29 ⟨rfl, rfl, Nat.le_of_ble_eq_true rfl, Nat.le_of_ble_eq_true rfl⟩ rfl rfl rfl rfl rfl (Nat.le_of_ble_eq_true rfl) ⟨Nat.le_of_ble_eq_true rfl, Nat.le_of_ble_eq_true rfl⟩ dX10_which_9 (fun H locs hP hD hS => ?_)
    obtain ⟨rfl, rfl⟩ := po_2 hf
    rw [← hQ]; exact xe_iret Cx rfl hP hD hS dX10_which_12
def f_X10_there_24 (K_4 : Int32 → Int32 → Option (Int32)) (v10_sum : Nat → Int32) (y2 : Int32) (z0 : Int32) (z1 : Int32) : Option (Int32) := K_4 (z1 + z0) (y2 + (1 : Int32))
def gf_X10_there_4 (K_4 : Int32 → Int32 → Option (Int32)) (v10_sum : Nat → Int32) (y1 : Int32) (y2 : Int32) : Option (Int32) := if (4 : Int32) ≤ y2 then (some (y1)) else (p_in y2 4 (if (v10_sum (Int32.toNatClampNeg y2)) < 0 then ((f_X10_there_24 K_4 v10_sum) y2 (0 : Int32) y1) else ((f_X10_there_24 K_4 v10_sum) y2 (1 : Int32) y1)))
def f_X10_there_4 (v10_sum : Nat → Int32) : Nat → Int32 → Int32 → Option (Int32)
  | 0 => fun _ _ => none
  | n + 1 => gf_X10_there_4 (f_X10_there_4 v10_sum n) v10_sum
def f_X10_there (v10_sum : Nat → Int32) : Option (Int32) := (f_X10_there_4 v10_sum 1000) (0 : Int32) (0 : Int32)
set_option maxHeartbeats 4000000 in
set_option maxRecDepth 20000 in
theorem c_X10_there (l : Launch) (D : va_G) (cyI cyJ : ClassId) (G a : Nat → Nat) (sz : Nat) (v10_firstOf : Nat → Int32) (v10_sizeOf : Nat → Int32) (v10_longOf : Nat → Int32) (v10_row : Nat → Int32) (v10_character : Nat → Int32) (v10_sum : Nat → Int32) (v10_coefficient : Nat → Int32) (v10_undone : Int32) (v10_wasSum : Nat → Int32) (v10_wasCoefficient : Nat → Int32) (v10_hasImage : Int32) (v10_letter : Nat → Int32) (v10_letters : Int32) (v10_list : Nat → Int32) (v10_cell : Nat → Int32) (v10_refusals : Nat → Int32) (v10_tried : Nat → Int32) (v10_left : Int32) (v10_high : Int32) (v10_then : Nat → Int64) (v10_at : Int32) (v10_readSize : Int32) (ro : Int32) (hf : f_X10_there v10_sum = some ro) : xm_i l yX10_there (Cond.code yX10_there cX10_there 3 (some .int) :: xg_tbl) { frames := 0, cells := 0, slots := 0, locals := 0 } D xcl [(cyI, .int), (cyJ, .long)] G sz [.ref (a 28)] (wd_X10 a cyI cyJ v10_firstOf v10_sizeOf v10_longOf v10_row v10_character v10_sum v10_coefficient v10_undone v10_wasSum v10_wasCoefficient v10_hasImage v10_letter v10_letters v10_list v10_cell v10_refusals v10_tried v10_left v10_high v10_then v10_at v10_readSize) (wd_X10 a cyI cyJ v10_firstOf v10_sizeOf v10_longOf v10_row v10_character v10_sum v10_coefficient v10_undone v10_wasSum v10_wasCoefficient v10_hasImage v10_letter v10_letters v10_list v10_cell v10_refusals v10_tried v10_left v10_high v10_then v10_at v10_readSize) ro := by
  refine xm_of_i (own := RX10) (by decide) rfl rfl (Nat.le_of_ble_eq_true rfl) ?_
  intro p e s m args below meth c ls Q A hQ hAe hin Cx hsz hP hD hS hl
  have Cx1 := Cx
  obtain ⟨⟨hx, hb, hml, hown, hts⟩, hr, hlocks, hK, hA, hT⟩ := Cx1
  have hl : lv_has ls 3 [(0, .ref (a 28))] := hl
  obtain ⟨H, eH⟩ : ∃ H, H = s.heap := ⟨_, rfl⟩
  obtain ⟨locs, eL⟩ : ∃ L : List Loc, L = [] := ⟨_, rfl⟩
  rw [← eH] at hP
  have hS : va_S A s.heap H locs := by rw [eH, eL]; exact hS
  suffices hgo : W p l e { frames := 0, cells := 0, slots := 0, locals := 0 } s m args below meth c H locs 0 0 Q (F0 m 0 ls []) by rw [eH, eL] at hgo; exact hgo
  clear eH eL
  unfold f_X10_there at hf
  have w_4 : ∀ (n_4 : Nat) (y1 : Int32) (y2 : Int32) (H : Heap) (locs : List Loc) (ls : Array Slot), (f_X10_there_4 v10_sum) n_4 y1 y2 = some ro → va_P D xcl (wd_X10 a cyI cyJ v10_firstOf v10_sizeOf v10_longOf v10_row v10_character v10_sum v10_coefficient v10_undone v10_wasSum v10_wasCoefficient v10_hasImage v10_letter v10_letters v10_list v10_cell v10_refusals v10_tried v10_left v10_high v10_then v10_at v10_readSize) H → va_D A (wd_X10 a cyI cyJ v10_firstOf v10_sizeOf v10_longOf v10_row v10_character v10_sum v10_coefficient v10_undone v10_wasSum v10_wasCoefficient v10_hasImage v10_letter v10_letters v10_list v10_cell v10_refusals v10_tried v10_left v10_high v10_then v10_at v10_readSize) → va_S A s.heap H locs → lv_has ls 3 [(0, .ref (a 28)), (1, .int y1), (2, .int y2)] → W p l e { frames := 0, cells := 0, slots := 0, locals := 0 } s m args below meth c H locs 0 0 Q (F0 m 4 ls []) := by
    intro n_4
    induction n_4 with
    | zero => intro y1 y2 H locs ls hf; exact absurd hf (by intro h9; cases h9)
    | succ n_4 w_4 =>
      intro y1 y2 H locs ls hf hP hD hS hl
      have hf : gf_X10_there_4 ((f_X10_there_4 v10_sum) n_4) v10_sum y1 y2 = some ro := hf
      unfold gf_X10_there_4 at hf
      have w_24 : ∀ (y2 : Int32) (z0 : Int32) (z1 : Int32) (H : Heap) (locs : List Loc) (ls : Array Slot), (f_X10_there_24 ((f_X10_there_4 v10_sum) n_4) v10_sum) y2 z0 z1 = some ro → va_P D xcl (wd_X10 a cyI cyJ v10_firstOf v10_sizeOf v10_longOf v10_row v10_character v10_sum v10_coefficient v10_undone v10_wasSum v10_wasCoefficient v10_hasImage v10_letter v10_letters v10_list v10_cell v10_refusals v10_tried v10_left v10_high v10_then v10_at v10_readSize) H → va_D A (wd_X10 a cyI cyJ v10_firstOf v10_sizeOf v10_longOf v10_row v10_character v10_sum v10_coefficient v10_undone v10_wasSum v10_wasCoefficient v10_hasImage v10_letter v10_letters v10_list v10_cell v10_refusals v10_tried v10_left v10_high v10_then v10_at v10_readSize) → va_S A s.heap H locs → lv_has ls 3 [(0, .ref (a 28)), (2, .int y2)] → W p l e { frames := 0, cells := 0, slots := 0, locals := 0 } s m args below meth c H locs 0 0 Q (F0 m 24 ls [.int z0, .int z1]) := by
        intro y2 z0 z1 H locs ls hf hP hD hS hl
        unfold f_X10_there_24 at hf
        refine lv_iadd hx hb dX10_there_24 ?_
        refine lv_istore_n (lv' := [(1, .int (z1 + z0)), (0, .ref (a 28)), (2, .int y2)]) hx hb dX10_there_25 rfl hl (by decide) rfl (fun ls hl => ?_)
        refine lv_iinc (v := (y2 + (1 : Int32))) (lv' := [(2, .int (y2 + (1 : Int32))), (1, .int (z1 + z0)), (0, .ref (a 28))]) hx hb dX10_there_26 hl (k := 2) rfl rfl (by decide) rfl (fun ls hl => ?_)
        refine lv_goto (tgt := 4) hx hb dX10_there_29 (by decide) ?_
        exact w_4 (z1 + z0) (y2 + (1 : Int32)) H locs ls hf hP hD hS (lv_sub hl [2, 1, 0] rfl)
      refine lv_iload_n hx hb dX10_there_4 rfl (lv_at hl 2 rfl) ?_
      refine lv_iconst (v := (4 : Int32)) hx hb dX10_there_5 (by decide) ?_
      refine lv_icmp_ge (tgt := 32) hx hb dX10_there_6 (by decide) (fun hc_4 => ?_) (fun hc_4 => ?_)
      · have hf := pe_t hf hc_4
        refine lv_iload_n hx hb dX10_there_32 rfl (lv_at hl 1 rfl) ?_
        obtain rfl := po_1 hf
        rw [← hQ]; exact xe_iret Cx rfl hP hD hS dX10_there_33
      · have hf := pe_f hf hc_4
        refine lv_iload_n hx hb dX10_there_9 rfl (lv_at hl 1 rfl) ?_
        refine lv_aload_n hx hb dX10_there_10 rfl (lv_at hl 0 rfl) ?_
        refine va_get (ci := 10) (v := .ref (a 34)) hx hb hts wX10_in hown hK hP 0 rfl rfl 5 (by decide) (hts _ mw_4_197) (fun _ h9 => h9) rfl dX10_there_11 ?_
        refine lv_iload_n hx hb dX10_there_14 rfl (lv_at hl 2 rfl) ?_
        obtain ⟨hi_5, hf⟩ := pe_in hf
        refine va_iald hx hb hK hP 6 0 rfl rfl hi_5 dX10_there_15 ?_
        refine lv_if_lt (tgt := 23) hx hb dX10_there_16 (by decide) (fun hc_6 => ?_) (fun hc_6 => ?_)
        · have hf := pe_t hf hc_6
          refine lv_iconst (v := (0 : Int32)) hx hb dX10_there_23 (by decide) ?_
          exact w_24 y2 (0 : Int32) y1 H locs ls hf hP hD hS (lv_sub hl [0, 2] rfl)
        · have hf := pe_f hf hc_6
          refine lv_iconst (v := (1 : Int32)) hx hb dX10_there_19 (by decide) ?_
          refine lv_goto (tgt := 24) hx hb dX10_there_20 (by decide) ?_
          exact w_24 y2 (1 : Int32) y1 H locs ls hf hP hD hS (lv_sub hl [0, 2] rfl)
  refine lv_iconst (v := (0 : Int32)) hx hb dX10_there_0 (by decide) ?_
  refine lv_istore_n (lv' := [(1, .int (0 : Int32)), (0, .ref (a 28))]) hx hb dX10_there_1 rfl hl (by decide) rfl (fun ls hl => ?_)
  refine lv_iconst (v := (0 : Int32)) hx hb dX10_there_2 (by decide) ?_
  refine lv_istore_n (lv' := [(2, .int (0 : Int32)), (1, .int (0 : Int32)), (0, .ref (a 28))]) hx hb dX10_there_3 rfl hl (by decide) rfl (fun ls hl => ?_)
  exact w_4 1000 (0 : Int32) (0 : Int32) H locs ls hf hP hD hS (lv_sub hl [2, 1, 0] rfl)
def f_X10_undo (v10_sum : Nat → Int32) (v10_coefficient : Nat → Int32) (v10_undone : Int32) (v10_wasSum : Nat → Int32) (v10_wasCoefficient : Nat → Int32) (v10_refusals : Nat → Int32) : Option (Int32 × (Nat → Int32) × (Nat → Int32) × Int32 × (Nat → Int32)) := if v10_undone = 0 then (p_b2 (f_X10_refused v10_refusals (-3 : Int32)) (fun r_5 v10_refusals_6 => some (r_5, v10_sum, v10_coefficient, v10_undone, v10_refusals_6))) else (p_b2 (f_X10_laysBack v10_sum v10_coefficient v10_wasSum v10_wasCoefficient (v10_undone - (1 : Int32))) (fun v10_sum_2 v10_coefficient_3 => some ((v10_undone - (1 : Int32)), v10_sum_2, v10_coefficient_3, (v10_undone - (1 : Int32)), v10_refusals)))
set_option maxHeartbeats 4000000 in
set_option maxRecDepth 20000 in
theorem c_X10_undo (l : Launch) (D : va_G) (cyI cyJ : ClassId) (G a : Nat → Nat) (sz : Nat) (v10_firstOf : Nat → Int32) (v10_sizeOf : Nat → Int32) (v10_longOf : Nat → Int32) (v10_row : Nat → Int32) (v10_character : Nat → Int32) (v10_sum : Nat → Int32) (v10_coefficient : Nat → Int32) (v10_undone : Int32) (v10_wasSum : Nat → Int32) (v10_wasCoefficient : Nat → Int32) (v10_hasImage : Int32) (v10_letter : Nat → Int32) (v10_letters : Int32) (v10_list : Nat → Int32) (v10_cell : Nat → Int32) (v10_refusals : Nat → Int32) (v10_tried : Nat → Int32) (v10_left : Int32) (v10_high : Int32) (v10_then : Nat → Int64) (v10_at : Int32) (v10_readSize : Int32) (ro : Int32) (ov10_sum : Nat → Int32) (ov10_coefficient : Nat → Int32) (ov10_undone : Int32) (ov10_refusals : Nat → Int32) (hf : f_X10_undo v10_sum v10_coefficient v10_undone v10_wasSum v10_wasCoefficient v10_refusals = some (ro, ov10_sum, ov10_coefficient, ov10_undone, ov10_refusals)) : xm_i l yX10_undo (Cond.code yX10_undo cX10_undo 1 (some .int) :: xg_tbl) { frames := 1, cells := 0, slots := 0, locals := 22 } D xcl [(cyI, .int), (cyJ, .long)] G sz [.ref (a 28)] (wd_X10 a cyI cyJ v10_firstOf v10_sizeOf v10_longOf v10_row v10_character v10_sum v10_coefficient v10_undone v10_wasSum v10_wasCoefficient v10_hasImage v10_letter v10_letters v10_list v10_cell v10_refusals v10_tried v10_left v10_high v10_then v10_at v10_readSize) (wd_X10 a cyI cyJ v10_firstOf v10_sizeOf v10_longOf v10_row v10_character ov10_sum ov10_coefficient ov10_undone v10_wasSum v10_wasCoefficient v10_hasImage v10_letter v10_letters v10_list v10_cell ov10_refusals v10_tried v10_left v10_high v10_then v10_at v10_readSize) ro := by
  refine xm_of_i (own := RX10) (by decide) rfl rfl (Nat.le_of_ble_eq_true rfl) ?_
  intro p e s m args below meth c ls Q A hQ hAe hin Cx hsz hP hD hS hl
  have Cx1 := Cx
  obtain ⟨⟨hx, hb, hml, hown, hts⟩, hr, hlocks, hK, hA, hT⟩ := Cx1
  have hl : lv_has ls 1 [(0, .ref (a 28))] := hl
  obtain ⟨H, eH⟩ : ∃ H, H = s.heap := ⟨_, rfl⟩
  obtain ⟨locs, eL⟩ : ∃ L : List Loc, L = [] := ⟨_, rfl⟩
  rw [← eH] at hP
  have hS : va_S A s.heap H locs := by rw [eH, eL]; exact hS
  suffices hgo : W p l e { frames := 1, cells := 0, slots := 0, locals := 22 } s m args below meth c H locs 0 0 Q (F0 m 0 ls []) by rw [eH, eL] at hgo; exact hgo
  clear eH eL
  unfold f_X10_undo at hf
  refine lv_aload_n hx hb dX10_undo_0 rfl (lv_at hl 0 rfl) ?_
  refine va_get (ci := 10) (v := .int v10_undone) hx hb hts wX10_in hown hK hP 0 rfl rfl 7 (by decide) (hts _ mw_4_199) (fun _ h9 => h9) rfl dX10_undo_1 ?_
  refine lv_if_ne (tgt := 14) hx hb dX10_undo_4 (by decide) (fun hc_8 => ?_) (fun hc_8 => ?_)
  · have hf := pe_f hf hc_8
    refine lv_aload_n hx hb dX10_undo_14 rfl (lv_at hl 0 rfl) ?_
    refine lv_dup hx hb dX10_undo_15 rfl ?_
    refine va_get (ci := 10) (v := .int v10_undone) hx hb hts wX10_in hown hK hP 0 rfl rfl 7 (by decide) (hts _ mw_4_199) (fun _ h9 => h9) rfl dX10_undo_16 ?_
    refine lv_iconst (v := (1 : Int32)) hx hb dX10_undo_19 (by decide) ?_
    refine lv_isub hx hb dX10_undo_20 ?_
    refine va_put (ci := 10) (v := .int (v10_undone - (1 : Int32))) (ty := .int) hx hb hts wX10_in tyX10 tyX10_ok nmX10 hown hK hP hD hS 0 rfl rfl 7 (by decide) (hts _ mw_4_199) (fun _ h9 => h9) rfl (by decide +kernel) rfl rfl (Nat.le_of_ble_eq_true rfl) dX10_undo_21 (fun H locs hP hD hS => ?_)
    have hP : va_P D xcl (wd_X10 a cyI cyJ v10_firstOf v10_sizeOf v10_longOf v10_row v10_character v10_sum v10_coefficient (v10_undone - (1 : Int32)) v10_wasSum v10_wasCoefficient v10_hasImage v10_letter v10_letters v10_list v10_cell v10_refusals v10_tried v10_left v10_high v10_then v10_at v10_readSize) H := hP
    have hD : va_D A (wd_X10 a cyI cyJ v10_firstOf v10_sizeOf v10_longOf v10_row v10_character v10_sum v10_coefficient (v10_undone - (1 : Int32)) v10_wasSum v10_wasCoefficient v10_hasImage v10_letter v10_letters v10_list v10_cell v10_refusals v10_tried v10_left v10_high v10_then v10_at v10_readSize) := hD
    refine lv_aload_n hx hb dX10_undo_24 rfl (lv_at hl 0 rfl) ?_
    refine lv_aload_n hx hb dX10_undo_25 rfl (lv_at hl 0 rfl) ?_
    refine va_get (ci := 10) (v := .int (v10_undone - (1 : Int32))) hx hb hts wX10_in hown hK hP 0 rfl rfl 7 (by decide) (hts _ mw_4_199) (fun _ h9 => h9) rfl dX10_undo_26 ?_
    obtain ⟨v10_sum_9, v10_coefficient_10, hk_11, hf⟩ := pe_2 hf
    refine xv_v (As := [.int (v10_undone - (1 : Int32))]) (rest := []) (q0 := 0) (ci := 10) Cx hP hD hS hl (pl_X10_X10 a cyI cyJ v10_firstOf v10_sizeOf v10_longOf v10_row v10_character v10_sum v10_coefficient (v10_undone - (1 : Int32)) v10_wasSum v10_wasCoefficient v10_hasImage v10_letter v10_letters v10_list v10_cell v10_refusals v10_tried v10_left v10_high v10_then v10_at v10_readSize v10_firstOf v10_sizeOf v10_longOf v10_row v10_character v10_sum_9 v10_coefficient_10 (v10_undone - (1 : Int32)) v10_wasSum v10_wasCoefficient v10_hasImage v10_letter v10_letters v10_list v10_cell v10_refusals v10_tried v10_left v10_high v10_then v10_at v10_readSize) (c_X10_laysBack l D cyI cyJ G a H.size v10_firstOf v10_sizeOf v10_longOf v10_row v10_character v10_sum v10_coefficient (v10_undone - (1 : Int32)) v10_wasSum v10_wasCoefficient v10_hasImage v10_letter v10_letters v10_list v10_cell v10_refusals v10_tried v10_left v10_high v10_then v10_at v10_readSize (v10_undone - (1 : Int32)) v10_sum_9 v10_coefficient_10 hk_11) pk_X10_laysBack mw_6_21 ⟨rfl, rfl, Nat.le_of_ble_eq_true rfl, Nat.le_of_ble_eq_true rfl⟩ rfl rfl rfl rfl rfl (Nat.le_of_ble_eq_true rfl) ⟨Nat.le_of_ble_eq_true rfl, Nat.le_of_ble_eq_true rfl⟩ dX10_undo_29 (fun H locs hP hD hS => ?_)
    refine lv_aload_n hx hb dX10_undo_32 rfl (lv_at hl 0 rfl) ?_
    refine va_get (ci := 10) (v := .int (v10_undone - (1 : Int32))) hx hb hts wX10_in hown hK hP 0 rfl rfl 7 (by decide) (hts _ mw_4_199) (fun _ h9 => h9) rfl dX10_undo_33 ?_
    obtain ⟨rfl, rfl, rfl, rfl, rfl⟩ := po_5 hf
    rw [← hQ]; exact xe_iret Cx rfl hP hD hS dX10_undo_36
  · have hf := pe_t hf hc_8
    refine lv_aload_n hx hb dX10_undo_7 rfl (lv_at hl 0 rfl) ?_
    refine lv_bipush (v := (-3 : Int32)) hx hb dX10_undo_8 (by decide) ?_
    obtain ⟨r_12, v10_refusals_13, hk_14, hf⟩ := pe_2 hf
    refine xv_i (As := [.int (-3 : Int32)]) (rest := []) (q0 := 0) (ci := 10) Cx hP hD hS hl (pl_X10_X10 a cyI cyJ v10_firstOf v10_sizeOf v10_longOf v10_row v10_character v10_sum v10_coefficient v10_undone v10_wasSum v10_wasCoefficient v10_hasImage v10_letter v10_letters v10_list v10_cell v10_refusals v10_tried v10_left v10_high v10_then v10_at v10_readSize v10_firstOf v10_sizeOf v10_longOf v10_row v10_character v10_sum v10_coefficient v10_undone v10_wasSum v10_wasCoefficient v10_hasImage v10_letter v10_letters v10_list v10_cell v10_refusals_13 v10_tried v10_left v10_high v10_then v10_at v10_readSize) (c_X10_refused l D cyI cyJ G a H.size v10_firstOf v10_sizeOf v10_longOf v10_row v10_character v10_sum v10_coefficient v10_undone v10_wasSum v10_wasCoefficient v10_hasImage v10_letter v10_letters v10_list v10_cell v10_refusals v10_tried v10_left v10_high v10_then v10_at v10_readSize (-3 : Int32) r_12 v10_refusals_13 hk_14) pk_X10_refused mw_5_29 ⟨rfl, rfl, Nat.le_of_ble_eq_true rfl, Nat.le_of_ble_eq_true rfl⟩ rfl rfl rfl rfl rfl (Nat.le_of_ble_eq_true rfl) ⟨Nat.le_of_ble_eq_true rfl, Nat.le_of_ble_eq_true rfl⟩ dX10_undo_10 (fun H locs hP hD hS => ?_)
    obtain ⟨rfl, rfl, rfl, rfl, rfl⟩ := po_5 hf
    rw [← hQ]; exact xe_iret Cx rfl hP hD hS dX10_undo_13
