def f_X5_indexOf (x1 : Int32) (x2 : Int32) (x3 : Int32) (x4 : Int32) : Option (Int32) := if x1 < 0 then (some ((-1 : Int32))) else (if (9 : Int32) ≤ x1 then (some ((-1 : Int32))) else (if (if (if x4 < x3 then x4 else x3) < x2 then (if x4 < x3 then x4 else x3) else x2) < 0 then (some ((-1 : Int32))) else (p_b1 (f_X7_countOf x1) (fun r_4 => if (if x2 < (if x3 < x4 then x4 else x3) then (if x3 < x4 then x4 else x3) else x2) < r_4 then (p_in x1 9 (p_nz (6 : Int32) (p_nz (2 : Int32) (some (((((xi_STARTS (Int32.toNatClampNeg x1)) + ((((if x2 < (if x3 < x4 then x4 else x3) then (if x3 < x4 then x4 else x3) else x2) * ((if x2 < (if x3 < x4 then x4 else x3) then (if x3 < x4 then x4 else x3) else x2) + (1 : Int32))) * ((if x2 < (if x3 < x4 then x4 else x3) then (if x3 < x4 then x4 else x3) else x2) + (2 : Int32))) / (6 : Int32))) + ((((((x2 + x3) + x4) - (if x2 < (if x3 < x4 then x4 else x3) then (if x3 < x4 then x4 else x3) else x2)) - (if (if x4 < x3 then x4 else x3) < x2 then (if x4 < x3 then x4 else x3) else x2)) * (((((x2 + x3) + x4) - (if x2 < (if x3 < x4 then x4 else x3) then (if x3 < x4 then x4 else x3) else x2)) - (if (if x4 < x3 then x4 else x3) < x2 then (if x4 < x3 then x4 else x3) else x2)) + (1 : Int32))) / (2 : Int32))) + (if (if x4 < x3 then x4 else x3) < x2 then (if x4 < x3 then x4 else x3) else x2))))))) else (some ((-1 : Int32)))))))
set_option maxHeartbeats 4000000 in
set_option maxRecDepth 20000 in
theorem c_X5_indexOf (l : Launch) (D : va_G) (cyI cyJ : ClassId) (G a : Nat → Nat) (sz : Nat) (v5_known : Nat → Int32) (v1_table : Nat → Int32) (v7_rows : Nat → Int32) (v7_lengths : Nat → Int32) (v7_sizes : Nat → Int32) (v7_rests : Nat → Int32) (v7_orders : Nat → Int32) (x1 : Int32) (x2 : Int32) (x3 : Int32) (x4 : Int32) (ro : Int32) (hf : f_X5_indexOf x1 x2 x3 x4 = some ro) : xm_i l yX5_indexOf (Cond.code yX5_indexOf cX5_indexOf 8 (some .int) :: xg_tbl) { frames := 1, cells := 0, slots := 0, locals := 21 } D xcl [(cyI, .int), (cyJ, .long)] G sz [.ref (a 15), .int x1, .int x2, .int x3, .int x4] (wd_X5 a cyI cyJ v5_known v1_table v7_rows v7_lengths v7_sizes v7_rests v7_orders) (wd_X5 a cyI cyJ v5_known v1_table v7_rows v7_lengths v7_sizes v7_rests v7_orders) ro := by
  refine xm_of_i (own := RX5) (by decide) rfl rfl (Nat.le_of_ble_eq_true rfl) ?_
  intro p e s m args below meth c ls Q A hQ hAe hin Cx hsz hP hD hS hl
  have Cx1 := Cx
  obtain ⟨⟨hx, hb, hml, hown, hts⟩, hr, hlocks, hK, hA, hT⟩ := Cx1
  have hl : lv_has ls 8 [(0, .ref (a 15)), (1, .int x1), (2, .int x2), (3, .int x3), (4, .int x4)] := hl
  obtain ⟨H, eH⟩ : ∃ H, H = s.heap := ⟨_, rfl⟩
  obtain ⟨locs, eL⟩ : ∃ L : List Loc, L = [] := ⟨_, rfl⟩
  rw [← eH] at hP
  have hS : va_S A s.heap H locs := by rw [eH, eL]; exact hS
  suffices hgo : W p l e { frames := 1, cells := 0, slots := 0, locals := 21 } s m args below meth c H locs 0 0 Q (F0 m 0 ls []) by rw [eH, eL] at hgo; exact hgo
  clear eH eL
  unfold f_X5_indexOf at hf
  refine lv_iload_n hx hb dX5_indexOf_0 rfl (lv_at hl 2 rfl) ?_
  refine lv_iload_n hx hb dX5_indexOf_1 rfl (lv_at hl 3 rfl) ?_
  refine lv_iload hx hb dX5_indexOf_2 (lv_at hl 4 rfl) ?_
  refine va_mmax hx hb (hml.trans hl.1.symm) hown (hts _ mw_2_179) (hts _ mw_2_180) (hts _ mw_1_12) (hts _ mw_2_181) (Nat.le_of_ble_eq_true rfl) (Nat.le_of_ble_eq_true rfl) (Nat.zero_le _) (Nat.zero_le _) dX5_indexOf_4 ?_
  refine va_mmax hx hb (hml.trans hl.1.symm) hown (hts _ mw_2_179) (hts _ mw_2_180) (hts _ mw_1_12) (hts _ mw_2_181) (Nat.le_of_ble_eq_true rfl) (Nat.le_of_ble_eq_true rfl) (Nat.zero_le _) (Nat.zero_le _) dX5_indexOf_7 ?_
  refine lv_istore (lv' := [(5, .int (if x2 < (if x3 < x4 then x4 else x3) then (if x3 < x4 then x4 else x3) else x2)), (0, .ref (a 15)), (1, .int x1), (2, .int x2), (3, .int x3), (4, .int x4)]) hx hb dX5_indexOf_10 hl (by decide) rfl (fun ls hl => ?_)
  refine lv_iload_n hx hb dX5_indexOf_12 rfl (lv_at hl 3 rfl) ?_
  refine lv_iload_n hx hb dX5_indexOf_13 rfl (lv_at hl 4 rfl) ?_
  refine lv_iload hx hb dX5_indexOf_14 (lv_at hl 5 rfl) ?_
  refine va_mmin hx hb (hml.trans hl.1.symm) hown (hts _ mw_2_182) (hts _ mw_2_183) (hts _ mw_1_12) (hts _ mw_2_184) (Nat.le_of_ble_eq_true rfl) (Nat.le_of_ble_eq_true rfl) (Nat.zero_le _) (Nat.zero_le _) dX5_indexOf_16 ?_
  refine va_mmin hx hb (hml.trans hl.1.symm) hown (hts _ mw_2_182) (hts _ mw_2_183) (hts _ mw_1_12) (hts _ mw_2_184) (Nat.le_of_ble_eq_true rfl) (Nat.le_of_ble_eq_true rfl) (Nat.zero_le _) (Nat.zero_le _) dX5_indexOf_19 ?_
  refine lv_istore (lv' := [(6, .int (if (if x4 < x3 then x4 else x3) < x2 then (if x4 < x3 then x4 else x3) else x2)), (5, .int (if x2 < (if x3 < x4 then x4 else x3) then (if x3 < x4 then x4 else x3) else x2)), (0, .ref (a 15)), (1, .int x1), (2, .int x2), (3, .int x3), (4, .int x4)]) hx hb dX5_indexOf_22 hl (by decide) rfl (fun ls hl => ?_)
  refine lv_iload_n hx hb dX5_indexOf_24 rfl (lv_at hl 3 rfl) ?_
  refine lv_if_lt (tgt := 54) hx hb dX5_indexOf_25 (by decide) (fun hc_10 => ?_) (fun hc_10 => ?_)
  · have hf := pe_t hf hc_10
    refine lv_iconst (v := (-1 : Int32)) hx hb dX5_indexOf_54 (by decide) ?_
    obtain rfl := po_1 hf
    rw [← hQ]; exact xe_iret Cx rfl hP hD hS dX5_indexOf_55
  · have hf := pe_f hf hc_10
    refine lv_iload_n hx hb dX5_indexOf_28 rfl (lv_at hl 3 rfl) ?_
    refine va_gets hx hb hT.2.2.2.1 hS hown (hts _ mw_2_185) (fun _ h9 => h9) dX5_indexOf_29 ?_
    refine va_tlen hx hb hT.2.2.2.2 hS (v := (9 : Int32)) rfl dX5_indexOf_32 ?_
    refine lv_icmp_ge (tgt := 54) hx hb dX5_indexOf_33 (by decide) (fun hc_11 => ?_) (fun hc_11 => ?_)
    · have hf := pe_t hf hc_11
      refine lv_iconst (v := (-1 : Int32)) hx hb dX5_indexOf_54 (by decide) ?_
      obtain rfl := po_1 hf
      rw [← hQ]; exact xe_iret Cx rfl hP hD hS dX5_indexOf_55
    · have hf := pe_f hf hc_11
      refine lv_iload hx hb dX5_indexOf_36 (lv_at hl 0 rfl) ?_
      refine lv_if_lt (tgt := 54) hx hb dX5_indexOf_38 (by decide) (fun hc_12 => ?_) (fun hc_12 => ?_)
      · have hf := pe_t hf hc_12
        refine lv_iconst (v := (-1 : Int32)) hx hb dX5_indexOf_54 (by decide) ?_
        obtain rfl := po_1 hf
        rw [← hQ]; exact xe_iret Cx rfl hP hD hS dX5_indexOf_55
      · have hf := pe_f hf hc_12
        refine lv_iload hx hb dX5_indexOf_41 (lv_at hl 1 rfl) ?_
        refine lv_aload_n hx hb dX5_indexOf_43 rfl (lv_at hl 2 rfl) ?_
        refine va_get (ci := 5) (v := .ref (a 2)) hx hb hts wX5_in hown hK hP 0 rfl rfl 0 (by decide) (hts _ mw_1_206) (fun _ h9 => h9) rfl dX5_indexOf_44 ?_
        refine lv_iload_n hx hb dX5_indexOf_47 rfl (lv_at hl 3 rfl) ?_
        obtain ⟨r_13, hk_14, hf⟩ := pe_1 hf
        refine xv_i (As := [.int x1]) (rest := [.int (if x2 < (if x3 < x4 then x4 else x3) then (if x3 < x4 then x4 else x3) else x2)]) (q0 := 0) (ci := 7) Cx hP hD hS hl (pl_X5_X7 a cyI cyJ v5_known v1_table v7_rows v7_lengths v7_sizes v7_rests v7_orders v7_rows v7_lengths v7_sizes v7_rests v7_orders) (c_X7_countOf l D cyI cyJ G a H.size v7_rows v7_lengths v7_sizes v7_rests v7_orders x1 r_13 hk_14) pk_X7_countOf mw_2_187 ⟨rfl, rfl, Nat.le_of_ble_eq_true rfl, Nat.le_of_ble_eq_true rfl⟩ rfl rfl rfl rfl rfl (Nat.le_of_ble_eq_true rfl) ⟨Nat.le_of_ble_eq_true rfl, Nat.le_of_ble_eq_true rfl⟩ dX5_indexOf_48 (fun H locs hP hD hS => ?_)
        refine lv_icmp_lt (tgt := 56) hx hb dX5_indexOf_51 (by decide) (fun hc_15 => ?_) (fun hc_15 => ?_)
        · have hf := pe_t hf hc_15
          refine lv_iload_n hx hb dX5_indexOf_56 rfl (lv_at hl 4 rfl) ?_
          refine lv_iload_n hx hb dX5_indexOf_57 rfl (lv_at hl 5 rfl) ?_
          refine lv_iadd hx hb dX5_indexOf_58 ?_
          refine lv_iload hx hb dX5_indexOf_59 (lv_at hl 6 rfl) ?_
          refine lv_iadd hx hb dX5_indexOf_61 ?_
          refine lv_iload hx hb dX5_indexOf_62 (lv_at hl 1 rfl) ?_
          refine lv_isub hx hb dX5_indexOf_64 ?_
          refine lv_iload hx hb dX5_indexOf_65 (lv_at hl 0 rfl) ?_
          refine lv_isub hx hb dX5_indexOf_67 ?_
          refine lv_istore (lv' := [(7, .int ((((x2 + x3) + x4) - (if x2 < (if x3 < x4 then x4 else x3) then (if x3 < x4 then x4 else x3) else x2)) - (if (if x4 < x3 then x4 else x3) < x2 then (if x4 < x3 then x4 else x3) else x2))), (6, .int (if (if x4 < x3 then x4 else x3) < x2 then (if x4 < x3 then x4 else x3) else x2)), (5, .int (if x2 < (if x3 < x4 then x4 else x3) then (if x3 < x4 then x4 else x3) else x2)), (0, .ref (a 15)), (1, .int x1), (2, .int x2), (3, .int x3), (4, .int x4)]) hx hb dX5_indexOf_68 hl (by decide) rfl (fun ls hl => ?_)
          refine va_gets hx hb hT.2.2.2.1 hS hown (hts _ mw_2_185) (fun _ h9 => h9) dX5_indexOf_70 ?_
          refine lv_iload_n hx hb dX5_indexOf_73 rfl (lv_at hl 4 rfl) ?_
          obtain ⟨hi_16, hf⟩ := pe_in hf
          refine va_ti hx hb hT.2.2.2.2 hS hi_16 (v := .int (xi_STARTS (Int32.toNatClampNeg x1))) rfl dX5_indexOf_74 ?_
          refine lv_iload hx hb dX5_indexOf_75 (lv_at hl 2 rfl) ?_
          refine lv_iload hx hb dX5_indexOf_77 (lv_at hl 2 rfl) ?_
          refine lv_iconst (v := (1 : Int32)) hx hb dX5_indexOf_79 (by decide) ?_
          refine lv_iadd hx hb dX5_indexOf_80 ?_
          refine lv_imul hx hb dX5_indexOf_81 ?_
          refine lv_iload hx hb dX5_indexOf_82 (lv_at hl 2 rfl) ?_
          refine lv_iconst (v := (2 : Int32)) hx hb dX5_indexOf_84 (by decide) ?_
          refine lv_iadd hx hb dX5_indexOf_85 ?_
          refine lv_imul hx hb dX5_indexOf_86 ?_
          refine lv_bipush (v := (6 : Int32)) hx hb dX5_indexOf_87 (by decide) ?_
          obtain ⟨hz_17, hf⟩ := pe_nz hf
          refine lv_idiv hx hb dX5_indexOf_89 hz_17 ?_
          refine lv_iadd hx hb dX5_indexOf_90 ?_
          refine lv_iload hx hb dX5_indexOf_91 (lv_at hl 0 rfl) ?_
          refine lv_iload hx hb dX5_indexOf_93 (lv_at hl 0 rfl) ?_
          refine lv_iconst (v := (1 : Int32)) hx hb dX5_indexOf_95 (by decide) ?_
          refine lv_iadd hx hb dX5_indexOf_96 ?_
          refine lv_imul hx hb dX5_indexOf_97 ?_
          refine lv_iconst (v := (2 : Int32)) hx hb dX5_indexOf_98 (by decide) ?_
          obtain ⟨hz_18, hf⟩ := pe_nz hf
          refine lv_idiv hx hb dX5_indexOf_99 hz_18 ?_
          refine lv_iadd hx hb dX5_indexOf_100 ?_
          refine lv_iload hx hb dX5_indexOf_101 (lv_at hl 1 rfl) ?_
          refine lv_iadd hx hb dX5_indexOf_103 ?_
          obtain rfl := po_1 hf
          rw [← hQ]; exact xe_iret Cx rfl hP hD hS dX5_indexOf_104
        · have hf := pe_f hf hc_15
          refine lv_iconst (v := (-1 : Int32)) hx hb dX5_indexOf_54 (by decide) ?_
          obtain rfl := po_1 hf
          rw [← hQ]; exact xe_iret Cx rfl hP hD hS dX5_indexOf_55
def gf_X5_workedOut_16 (K_16 : Int32 → Int32 → Int32 → Int32 → Int32 → Int64 → Int32 → Option (Int32)) (v7_orders : Nat → Int32) (v1_table : Nat → Int32) (y1 : Int32) (y2 : Int32) (y3 : Int32) (y4 : Int32) (y5 : Int32) (y6 : Int64) (y8 : Int32) : Option (Int32) := p_b1 (f_X7_countOf y1) (fun r_1 => if r_1 ≤ y8 then (p_b1 (f_X7_factorial y1) (fun r_4 => if r_4 ≤ 0 then (some ((0 : Int32))) else (p_nzl (Int32.toInt64 r_4) (some ((Int64.toInt32 (y6 / (Int32.toInt64 r_4)))))))) else (p_b1 (f_X7_ordersOf v7_orders (y5 + y8)) (fun r_8 => p_b1 (f_X1_atPlace v1_table (y5 + y2) y8) (fun r_10 => p_b1 (f_X1_atPlace v1_table (y5 + y3) y8) (fun r_12 => p_b1 (f_X1_atPlace v1_table (y5 + y4) y8) (fun r_14 => K_16 y1 y2 y3 y4 y5 (y6 + ((((Int32.toInt64 r_8) * (Int32.toInt64 r_10)) * (Int32.toInt64 r_12)) * (Int32.toInt64 r_14))) (y8 + (1 : Int32))))))))
def f_X5_workedOut_16 (v7_orders : Nat → Int32) (v1_table : Nat → Int32) : Nat → Int32 → Int32 → Int32 → Int32 → Int32 → Int64 → Int32 → Option (Int32)
  | 0 => fun _ _ _ _ _ _ _ => none
  | n + 1 => gf_X5_workedOut_16 (f_X5_workedOut_16 v7_orders v1_table n) v7_orders v1_table
def f_X5_workedOut (v7_orders : Nat → Int32) (v1_table : Nat → Int32) (x1 : Int32) (x2 : Int32) (x3 : Int32) (x4 : Int32) : Option (Int32) := p_b1 (f_X7_firstOf x1) (fun r_16 => (f_X5_workedOut_16 v7_orders v1_table 1000) x1 x2 x3 x4 r_16 (0 : Int64) (0 : Int32))
set_option maxHeartbeats 4000000 in
set_option maxRecDepth 20000 in
theorem c_X5_workedOut (l : Launch) (D : va_G) (cyI cyJ : ClassId) (G a : Nat → Nat) (sz : Nat) (v5_known : Nat → Int32) (v1_table : Nat → Int32) (v7_rows : Nat → Int32) (v7_lengths : Nat → Int32) (v7_sizes : Nat → Int32) (v7_rests : Nat → Int32) (v7_orders : Nat → Int32) (x1 : Int32) (x2 : Int32) (x3 : Int32) (x4 : Int32) (ro : Int32) (hf : f_X5_workedOut v7_orders v1_table x1 x2 x3 x4 = some ro) : xm_i l yX5_workedOut (Cond.code yX5_workedOut cX5_workedOut 11 (some .int) :: xg_tbl) { frames := 2, cells := 0, slots := 0, locals := 44 } D xcl [(cyI, .int), (cyJ, .long)] G sz [.ref (a 15), .int x1, .int x2, .int x3, .int x4] (wd_X5 a cyI cyJ v5_known v1_table v7_rows v7_lengths v7_sizes v7_rests v7_orders) (wd_X5 a cyI cyJ v5_known v1_table v7_rows v7_lengths v7_sizes v7_rests v7_orders) ro := by
  refine xm_of_i (own := RX5) (by decide) rfl rfl (Nat.le_of_ble_eq_true rfl) ?_
  intro p e s m args below meth c ls Q A hQ hAe hin Cx hsz hP hD hS hl
  have Cx1 := Cx
  obtain ⟨⟨hx, hb, hml, hown, hts⟩, hr, hlocks, hK, hA, hT⟩ := Cx1
  have hl : lv_has ls 11 [(0, .ref (a 15)), (1, .int x1), (2, .int x2), (3, .int x3), (4, .int x4)] := hl
  obtain ⟨H, eH⟩ : ∃ H, H = s.heap := ⟨_, rfl⟩
  obtain ⟨locs, eL⟩ : ∃ L : List Loc, L = [] := ⟨_, rfl⟩
  rw [← eH] at hP
  have hS : va_S A s.heap H locs := by rw [eH, eL]; exact hS
  suffices hgo : W p l e { frames := 2, cells := 0, slots := 0, locals := 44 } s m args below meth c H locs 0 0 Q (F0 m 0 ls []) by rw [eH, eL] at hgo; exact hgo
  clear eH eL
  unfold f_X5_workedOut at hf
  have w_16 : ∀ (n_16 : Nat) (y1 : Int32) (y2 : Int32) (y3 : Int32) (y4 : Int32) (y5 : Int32) (y6 : Int64) (y8 : Int32) (H : Heap) (locs : List Loc) (ls : Array Slot), (f_X5_workedOut_16 v7_orders v1_table) n_16 y1 y2 y3 y4 y5 y6 y8 = some ro → va_P D xcl (wd_X5 a cyI cyJ v5_known v1_table v7_rows v7_lengths v7_sizes v7_rests v7_orders) H → va_D A (wd_X5 a cyI cyJ v5_known v1_table v7_rows v7_lengths v7_sizes v7_rests v7_orders) → va_S A s.heap H locs → lv_has ls 11 [(0, .ref (a 15)), (1, .int y1), (2, .int y2), (3, .int y3), (4, .int y4), (5, .int y5), (6, .long y6), (8, .int y8)] → W p l e { frames := 2, cells := 0, slots := 0, locals := 44 } s m args below meth c H locs 0 0 Q (F0 m 16 ls []) := by
    intro n_16
    induction n_16 with
    | zero => intro y1 y2 y3 y4 y5 y6 y8 H locs ls hf; exact absurd hf (by intro h9; cases h9)
    | succ n_16 w_16 =>
      intro y1 y2 y3 y4 y5 y6 y8 H locs ls hf hP hD hS hl
      have hf : gf_X5_workedOut_16 ((f_X5_workedOut_16 v7_orders v1_table) n_16) v7_orders v1_table y1 y2 y3 y4 y5 y6 y8 = some ro := hf
      unfold gf_X5_workedOut_16 at hf
      refine lv_iload hx hb dX5_workedOut_16 (lv_at hl 7 rfl) ?_
      refine lv_aload_n hx hb dX5_workedOut_18 rfl (lv_at hl 0 rfl) ?_
      refine va_get (ci := 5) (v := .ref (a 2)) hx hb hts wX5_in hown hK hP 0 rfl rfl 0 (by decide) (hts _ mw_1_206) (fun _ h9 => h9) rfl dX5_workedOut_19 ?_
      refine lv_iload_n hx hb dX5_workedOut_22 rfl (lv_at hl 1 rfl) ?_
      obtain ⟨r_18, hk_19, hf⟩ := pe_1 hf
      refine xv_i (As := [.int y1]) (rest := [.int y8]) (q0 := 0) (ci := 7) Cx hP hD hS hl (pl_X5_X7 a cyI cyJ v5_known v1_table v7_rows v7_lengths v7_sizes v7_rests v7_orders v7_rows v7_lengths v7_sizes v7_rests v7_orders) (c_X7_countOf l D cyI cyJ G a H.size v7_rows v7_lengths v7_sizes v7_rests v7_orders y1 r_18 hk_19) pk_X7_countOf mw_2_187 ⟨rfl, rfl, Nat.le_of_ble_eq_true rfl, Nat.le_of_ble_eq_true rfl⟩ rfl rfl rfl rfl rfl (Nat.le_of_ble_eq_true rfl) ⟨Nat.le_of_ble_eq_true rfl, Nat.le_of_ble_eq_true rfl⟩ dX5_workedOut_23 (fun H locs hP hD hS => ?_)
      refine lv_icmp_ge (tgt := 115) hx hb dX5_workedOut_26 (by decide) (fun hc_20 => ?_) (fun hc_20 => ?_)
      · have hf := pe_t hf hc_20
        refine lv_iload_n hx hb dX5_workedOut_115 rfl (lv_at hl 1 rfl) ?_
        obtain ⟨r_21, hk_22, hf⟩ := pe_1 hf
        refine xw_i (As := [.int y1]) (rest := []) Cx hP hD hS hl (xq_none _) (c_X7_factorial l D cyI cyJ G H.size y1 r_21 hk_22) pk_X7_factorial mw_2_195 ⟨rfl, rfl, Nat.le_of_ble_eq_true rfl, Nat.le_of_ble_eq_true rfl⟩ rfl rfl (Nat.le_of_ble_eq_true rfl) ⟨Nat.le_of_ble_eq_true rfl, Nat.le_of_ble_eq_true rfl⟩ dX5_workedOut_116 (fun H locs hP hD hS => ?_)
        refine lv_istore (lv' := [(8, .int r_21), (0, .ref (a 15)), (1, .int y1), (2, .int y2), (3, .int y3), (4, .int y4), (5, .int y5), (6, .long y6)]) hx hb dX5_workedOut_119 hl (by decide) rfl (fun ls hl => ?_)
        refine lv_iload hx hb dX5_workedOut_121 (lv_at hl 0 rfl) ?_
        refine lv_if_le (tgt := 136) hx hb dX5_workedOut_123 (by decide) (fun hc_23 => ?_) (fun hc_23 => ?_)
        · have hf := pe_t hf hc_23
          refine lv_iconst (v := (0 : Int32)) hx hb dX5_workedOut_136 (by decide) ?_
          obtain rfl := po_1 hf
          rw [← hQ]; exact xe_iret Cx rfl hP hD hS dX5_workedOut_137
        · have hf := pe_f hf hc_23
          refine lv_lload hx hb dX5_workedOut_126 (lv_at hl 7 rfl) ?_
          refine lv_iload hx hb dX5_workedOut_128 (lv_at hl 0 rfl) ?_
          refine lv_i2l (v := Int32.toInt64 r_21) hx hb dX5_workedOut_130 rfl ?_
          obtain ⟨hz_24, hf⟩ := pe_nzl hf
          refine lv_ldiv hx hb dX5_workedOut_131 hz_24 ?_
          refine lv_l2i (v := Int64.toInt32 (y6 / (Int32.toInt64 r_21))) hx hb dX5_workedOut_132 rfl ?_
          refine lv_goto (tgt := 137) hx hb dX5_workedOut_133 (by decide) ?_
          obtain rfl := po_1 hf
          rw [← hQ]; exact xe_iret Cx rfl hP hD hS dX5_workedOut_137
      · have hf := pe_f hf hc_20
        refine lv_aload_n hx hb dX5_workedOut_29 rfl (lv_at hl 0 rfl) ?_
        refine va_get (ci := 5) (v := .ref (a 2)) hx hb hts wX5_in hown hK hP 0 rfl rfl 0 (by decide) (hts _ mw_1_206) (fun _ h9 => h9) rfl dX5_workedOut_30 ?_
        refine lv_iload hx hb dX5_workedOut_33 (lv_at hl 5 rfl) ?_
        refine lv_iload hx hb dX5_workedOut_35 (lv_at hl 7 rfl) ?_
        refine lv_iadd hx hb dX5_workedOut_37 ?_
        obtain ⟨r_25, hk_26, hf⟩ := pe_1 hf
        refine xv_i (As := [.int (y5 + y8)]) (rest := []) (q0 := 0) (ci := 7) Cx hP hD hS hl (pl_X5_X7 a cyI cyJ v5_known v1_table v7_rows v7_lengths v7_sizes v7_rests v7_orders v7_rows v7_lengths v7_sizes v7_rests v7_orders) (c_X7_ordersOf l D cyI cyJ G a H.size v7_rows v7_lengths v7_sizes v7_rests v7_orders (y5 + y8) r_25 hk_26) pk_X7_ordersOf mw_2_193 ⟨rfl, rfl, Nat.le_of_ble_eq_true rfl, Nat.le_of_ble_eq_true rfl⟩ rfl rfl rfl rfl rfl (Nat.le_of_ble_eq_true rfl) ⟨Nat.le_of_ble_eq_true rfl, Nat.le_of_ble_eq_true rfl⟩ dX5_workedOut_38 (fun H locs hP hD hS => ?_)
        refine lv_i2l (v := Int32.toInt64 r_25) hx hb dX5_workedOut_41 rfl ?_
        refine lv_lstore (lv' := [(9, .long (Int32.toInt64 r_25)), (0, .ref (a 15)), (1, .int y1), (2, .int y2), (3, .int y3), (4, .int y4), (5, .int y5), (6, .long y6), (8, .int y8)]) hx hb dX5_workedOut_42 hl (by decide) rfl (fun ls hl => ?_)
        refine lv_lload hx hb dX5_workedOut_44 (lv_at hl 0 rfl) ?_
        refine lv_aload_n hx hb dX5_workedOut_46 rfl (lv_at hl 1 rfl) ?_
        refine va_get (ci := 5) (v := .ref (a 13)) hx hb hts wX5_in hown hK hP 0 rfl rfl 1 (by decide) (hts _ mw_1_207) (fun _ h9 => h9) rfl dX5_workedOut_47 ?_
        refine lv_iload hx hb dX5_workedOut_50 (lv_at hl 6 rfl) ?_
        refine lv_iload_n hx hb dX5_workedOut_52 rfl (lv_at hl 3 rfl) ?_
        refine lv_iadd hx hb dX5_workedOut_53 ?_
        refine lv_iload hx hb dX5_workedOut_54 (lv_at hl 8 rfl) ?_
        obtain ⟨r_27, hk_28, hf⟩ := pe_1 hf
        refine xv_i (As := [.int (y5 + y2), .int y8]) (rest := [.long (Int32.toInt64 r_25)]) (q0 := 0) (ci := 1) Cx hP hD hS hl (pl_X5_X1 a cyI cyJ v5_known v1_table v7_rows v7_lengths v7_sizes v7_rests v7_orders v1_table v7_rows v7_lengths v7_sizes v7_rests v7_orders) (c_X1_atPlace l D cyI cyJ G a H.size v1_table v7_rows v7_lengths v7_sizes v7_rests v7_orders (y5 + y2) y8 r_27 hk_28) pk_X1_atPlace mw_2_194 ⟨rfl, rfl, Nat.le_of_ble_eq_true rfl, Nat.le_of_ble_eq_true rfl⟩ rfl rfl rfl rfl rfl (Nat.le_of_ble_eq_true rfl) ⟨Nat.le_of_ble_eq_true rfl, Nat.le_of_ble_eq_true rfl⟩ dX5_workedOut_56 (fun H locs hP hD hS => ?_)
        refine lv_i2l (v := Int32.toInt64 r_27) hx hb dX5_workedOut_59 rfl ?_
        refine lv_lmul hx hb dX5_workedOut_60 ?_
        refine lv_lstore (lv' := [(9, .long ((Int32.toInt64 r_25) * (Int32.toInt64 r_27))), (0, .ref (a 15)), (1, .int y1), (2, .int y2), (3, .int y3), (4, .int y4), (5, .int y5), (6, .long y6), (8, .int y8)]) hx hb dX5_workedOut_61 hl (by decide) rfl (fun ls hl => ?_)
        refine lv_lload hx hb dX5_workedOut_63 (lv_at hl 0 rfl) ?_
        refine lv_aload_n hx hb dX5_workedOut_65 rfl (lv_at hl 1 rfl) ?_
        refine va_get (ci := 5) (v := .ref (a 13)) hx hb hts wX5_in hown hK hP 0 rfl rfl 1 (by decide) (hts _ mw_1_207) (fun _ h9 => h9) rfl dX5_workedOut_66 ?_
        refine lv_iload hx hb dX5_workedOut_69 (lv_at hl 6 rfl) ?_
        refine lv_iload_n hx hb dX5_workedOut_71 rfl (lv_at hl 4 rfl) ?_
        refine lv_iadd hx hb dX5_workedOut_72 ?_
        refine lv_iload hx hb dX5_workedOut_73 (lv_at hl 8 rfl) ?_
        obtain ⟨r_29, hk_30, hf⟩ := pe_1 hf
        refine xv_i (As := [.int (y5 + y3), .int y8]) (rest := [.long ((Int32.toInt64 r_25) * (Int32.toInt64 r_27))]) (q0 := 0) (ci := 1) Cx hP hD hS hl (pl_X5_X1 a cyI cyJ v5_known v1_table v7_rows v7_lengths v7_sizes v7_rests v7_orders v1_table v7_rows v7_lengths v7_sizes v7_rests v7_orders) (c_X1_atPlace l D cyI cyJ G a H.size v1_table v7_rows v7_lengths v7_sizes v7_rests v7_orders (y5 + y3) y8 r_29 hk_30) pk_X1_atPlace mw_2_194 ⟨rfl, rfl, Nat.le_of_ble_eq_true rfl, Nat.le_of_ble_eq_true rfl⟩ rfl rfl rfl rfl rfl (Nat.le_of_ble_eq_true rfl) ⟨Nat.le_of_ble_eq_true rfl, Nat.le_of_ble_eq_true rfl⟩ dX5_workedOut_75 (fun H locs hP hD hS => ?_)
        refine lv_i2l (v := Int32.toInt64 r_29) hx hb dX5_workedOut_78 rfl ?_
        refine lv_lmul hx hb dX5_workedOut_79 ?_
        refine lv_lstore (lv' := [(9, .long (((Int32.toInt64 r_25) * (Int32.toInt64 r_27)) * (Int32.toInt64 r_29))), (0, .ref (a 15)), (1, .int y1), (2, .int y2), (3, .int y3), (4, .int y4), (5, .int y5), (6, .long y6), (8, .int y8)]) hx hb dX5_workedOut_80 hl (by decide) rfl (fun ls hl => ?_)
        refine lv_lload hx hb dX5_workedOut_82 (lv_at hl 0 rfl) ?_
        refine lv_aload_n hx hb dX5_workedOut_84 rfl (lv_at hl 1 rfl) ?_
        refine va_get (ci := 5) (v := .ref (a 13)) hx hb hts wX5_in hown hK hP 0 rfl rfl 1 (by decide) (hts _ mw_1_207) (fun _ h9 => h9) rfl dX5_workedOut_85 ?_
        refine lv_iload hx hb dX5_workedOut_88 (lv_at hl 6 rfl) ?_
        refine lv_iload hx hb dX5_workedOut_90 (lv_at hl 5 rfl) ?_
        refine lv_iadd hx hb dX5_workedOut_92 ?_
        refine lv_iload hx hb dX5_workedOut_93 (lv_at hl 8 rfl) ?_
        obtain ⟨r_31, hk_32, hf⟩ := pe_1 hf
        refine xv_i (As := [.int (y5 + y4), .int y8]) (rest := [.long (((Int32.toInt64 r_25) * (Int32.toInt64 r_27)) * (Int32.toInt64 r_29))]) (q0 := 0) (ci := 1) Cx hP hD hS hl (pl_X5_X1 a cyI cyJ v5_known v1_table v7_rows v7_lengths v7_sizes v7_rests v7_orders v1_table v7_rows v7_lengths v7_sizes v7_rests v7_orders) (c_X1_atPlace l D cyI cyJ G a H.size v1_table v7_rows v7_lengths v7_sizes v7_rests v7_orders (y5 + y4) y8 r_31 hk_32) pk_X1_atPlace mw_2_194 ⟨rfl, rfl, Nat.le_of_ble_eq_true rfl, Nat.le_of_ble_eq_true rfl⟩ rfl rfl rfl rfl rfl (Nat.le_of_ble_eq_true rfl) ⟨Nat.le_of_ble_eq_true rfl, Nat.le_of_ble_eq_true rfl⟩ dX5_workedOut_95 (fun H locs hP hD hS => ?_)
        refine lv_i2l (v := Int32.toInt64 r_31) hx hb dX5_workedOut_98 rfl ?_
        refine lv_lmul hx hb dX5_workedOut_99 ?_
        refine lv_lstore (lv' := [(9, .long ((((Int32.toInt64 r_25) * (Int32.toInt64 r_27)) * (Int32.toInt64 r_29)) * (Int32.toInt64 r_31))), (0, .ref (a 15)), (1, .int y1), (2, .int y2), (3, .int y3), (4, .int y4), (5, .int y5), (6, .long y6), (8, .int y8)]) hx hb dX5_workedOut_100 hl (by decide) rfl (fun ls hl => ?_)
        refine lv_lload hx hb dX5_workedOut_102 (lv_at hl 7 rfl) ?_
        refine lv_lload hx hb dX5_workedOut_104 (lv_at hl 0 rfl) ?_
        refine lv_ladd hx hb dX5_workedOut_106 ?_
        refine lv_lstore (lv' := [(6, .long (y6 + ((((Int32.toInt64 r_25) * (Int32.toInt64 r_27)) * (Int32.toInt64 r_29)) * (Int32.toInt64 r_31)))), (9, .long ((((Int32.toInt64 r_25) * (Int32.toInt64 r_27)) * (Int32.toInt64 r_29)) * (Int32.toInt64 r_31))), (0, .ref (a 15)), (1, .int y1), (2, .int y2), (3, .int y3), (4, .int y4), (5, .int y5), (8, .int y8)]) hx hb dX5_workedOut_107 hl (by decide) rfl (fun ls hl => ?_)
        refine lv_iinc (v := (y8 + (1 : Int32))) (lv' := [(8, .int (y8 + (1 : Int32))), (6, .long (y6 + ((((Int32.toInt64 r_25) * (Int32.toInt64 r_27)) * (Int32.toInt64 r_29)) * (Int32.toInt64 r_31)))), (9, .long ((((Int32.toInt64 r_25) * (Int32.toInt64 r_27)) * (Int32.toInt64 r_29)) * (Int32.toInt64 r_31))), (0, .ref (a 15)), (1, .int y1), (2, .int y2), (3, .int y3), (4, .int y4), (5, .int y5)]) hx hb dX5_workedOut_109 hl (k := 8) rfl rfl (by decide) rfl (fun ls hl => ?_)
        refine lv_goto (tgt := 16) hx hb dX5_workedOut_112 (by decide) ?_
        exact w_16 y1 y2 y3 y4 y5 (y6 + ((((Int32.toInt64 r_25) * (Int32.toInt64 r_27)) * (Int32.toInt64 r_29)) * (Int32.toInt64 r_31))) (y8 + (1 : Int32)) H locs ls hf hP hD hS (lv_sub hl [3, 4, 5, 6, 7, 8, 1, 0] rfl)
  refine lv_aload_n hx hb dX5_workedOut_0 rfl (lv_at hl 0 rfl) ?_
  refine va_get (ci := 5) (v := .ref (a 2)) hx hb hts wX5_in hown hK hP 0 rfl rfl 0 (by decide) (hts _ mw_1_206) (fun _ h9 => h9) rfl dX5_workedOut_1 ?_
  refine lv_iload_n hx hb dX5_workedOut_4 rfl (lv_at hl 1 rfl) ?_
  obtain ⟨r_33, hk_34, hf⟩ := pe_1 hf
  refine xv_i (As := [.int x1]) (rest := []) (q0 := 0) (ci := 7) Cx hP hD hS hl (pl_X5_X7 a cyI cyJ v5_known v1_table v7_rows v7_lengths v7_sizes v7_rests v7_orders v7_rows v7_lengths v7_sizes v7_rests v7_orders) (c_X7_firstOf l D cyI cyJ G a H.size v7_rows v7_lengths v7_sizes v7_rests v7_orders x1 r_33 hk_34) pk_X7_firstOf mw_2_192 ⟨rfl, rfl, Nat.le_of_ble_eq_true rfl, Nat.le_of_ble_eq_true rfl⟩ rfl rfl rfl rfl rfl (Nat.le_of_ble_eq_true rfl) ⟨Nat.le_of_ble_eq_true rfl, Nat.le_of_ble_eq_true rfl⟩ dX5_workedOut_5 (fun H locs hP hD hS => ?_)
  refine lv_istore (lv' := [(5, .int r_33), (0, .ref (a 15)), (1, .int x1), (2, .int x2), (3, .int x3), (4, .int x4)]) hx hb dX5_workedOut_8 hl (by decide) rfl (fun ls hl => ?_)
  refine lv_lconst (v := (0 : Int64)) hx hb dX5_workedOut_10 (by decide) ?_
  refine lv_lstore (lv' := [(6, .long (0 : Int64)), (5, .int r_33), (0, .ref (a 15)), (1, .int x1), (2, .int x2), (3, .int x3), (4, .int x4)]) hx hb dX5_workedOut_11 hl (by decide) rfl (fun ls hl => ?_)
  refine lv_iconst (v := (0 : Int32)) hx hb dX5_workedOut_13 (by decide) ?_
  refine lv_istore (lv' := [(8, .int (0 : Int32)), (6, .long (0 : Int64)), (5, .int r_33), (0, .ref (a 15)), (1, .int x1), (2, .int x2), (3, .int x3), (4, .int x4)]) hx hb dX5_workedOut_14 hl (by decide) rfl (fun ls hl => ?_)
  exact w_16 1000 x1 x2 x3 x4 r_33 (0 : Int64) (0 : Int32) H locs ls hf hP hD hS (lv_sub hl [3, 4, 5, 6, 7, 2, 1, 0] rfl)
def f_X5_atPlaces_54 (v7_orders : Nat → Int32) (v1_table : Nat → Int32) (v5_known : Nat → Int32) (y5 : Int32) : Option (Int32 × (Nat → Int32)) := p_in y5 3125 (some (((v5_known (Int32.toNatClampNeg y5)) - (1 : Int32)), v5_known))
def f_X5_atPlaces (v7_orders : Nat → Int32) (v1_table : Nat → Int32) (v5_known : Nat → Int32) (x1 : Int32) (x2 : Int32) (x3 : Int32) (x4 : Int32) : Option (Int32 × (Nat → Int32)) := p_b1 (f_X5_indexOf x1 x2 x3 x4) (fun r_2 => if r_2 < 0 then (some ((0 : Int32), v5_known)) else (if r_2 < (3125 : Int32) then (p_in r_2 3125 (if (v5_known (Int32.toNatClampNeg r_2)) = 0 then (p_b1 (f_X5_workedOut v7_orders v1_table x1 x2 x3 x4) (fun r_8 => p_in r_2 3125 ((f_X5_atPlaces_54 v7_orders v1_table) (upd v5_known (Int32.toNatClampNeg r_2) (r_8 + (1 : Int32))) r_2))) else ((f_X5_atPlaces_54 v7_orders v1_table) v5_known r_2))) else (some ((0 : Int32), v5_known))))
set_option maxHeartbeats 4000000 in
set_option maxRecDepth 20000 in
theorem c_X5_atPlaces (l : Launch) (D : va_G) (cyI cyJ : ClassId) (G a : Nat → Nat) (sz : Nat) (v5_known : Nat → Int32) (v1_table : Nat → Int32) (v7_rows : Nat → Int32) (v7_lengths : Nat → Int32) (v7_sizes : Nat → Int32) (v7_rests : Nat → Int32) (v7_orders : Nat → Int32) (x1 : Int32) (x2 : Int32) (x3 : Int32) (x4 : Int32) (ro : Int32) (ov5_known : Nat → Int32) (hf : f_X5_atPlaces v7_orders v1_table v5_known x1 x2 x3 x4 = some (ro, ov5_known)) : xm_i l yX5_atPlaces (Cond.code yX5_atPlaces cX5_atPlaces 6 (some .int) :: xg_tbl) { frames := 3, cells := 0, slots := 0, locals := 74 } D xcl [(cyI, .int), (cyJ, .long)] G sz [.ref (a 15), .int x1, .int x2, .int x3, .int x4] (wd_X5 a cyI cyJ v5_known v1_table v7_rows v7_lengths v7_sizes v7_rests v7_orders) (wd_X5 a cyI cyJ ov5_known v1_table v7_rows v7_lengths v7_sizes v7_rests v7_orders) ro := by
  refine xm_of_i (own := RX5) (by decide) rfl rfl (Nat.le_of_ble_eq_true rfl) ?_
  intro p e s m args below meth c ls Q A hQ hAe hin Cx hsz hP hD hS hl
  have Cx1 := Cx
  obtain ⟨⟨hx, hb, hml, hown, hts⟩, hr, hlocks, hK, hA, hT⟩ := Cx1
  have hl : lv_has ls 6 [(0, .ref (a 15)), (1, .int x1), (2, .int x2), (3, .int x3), (4, .int x4)] := hl
  obtain ⟨H, eH⟩ : ∃ H, H = s.heap := ⟨_, rfl⟩
  obtain ⟨locs, eL⟩ : ∃ L : List Loc, L = [] := ⟨_, rfl⟩
  rw [← eH] at hP
  have hS : va_S A s.heap H locs := by rw [eH, eL]; exact hS
  suffices hgo : W p l e { frames := 3, cells := 0, slots := 0, locals := 74 } s m args below meth c H locs 0 0 Q (F0 m 0 ls []) by rw [eH, eL] at hgo; exact hgo
  clear eH eL
  unfold f_X5_atPlaces at hf
  have w_54 : ∀ (v5_known : Nat → Int32) (y5 : Int32) (H : Heap) (locs : List Loc) (ls : Array Slot), (f_X5_atPlaces_54 v7_orders v1_table) v5_known y5 = some (ro, ov5_known) → va_P D xcl (wd_X5 a cyI cyJ v5_known v1_table v7_rows v7_lengths v7_sizes v7_rests v7_orders) H → va_D A (wd_X5 a cyI cyJ v5_known v1_table v7_rows v7_lengths v7_sizes v7_rests v7_orders) → va_S A s.heap H locs → lv_has ls 6 [(0, .ref (a 15)), (5, .int y5)] → W p l e { frames := 3, cells := 0, slots := 0, locals := 74 } s m args below meth c H locs 0 0 Q (F0 m 54 ls []) := by
    intro v5_known y5 H locs ls hf hP hD hS hl
    unfold f_X5_atPlaces_54 at hf
    refine lv_aload_n hx hb dX5_atPlaces_54 rfl (lv_at hl 0 rfl) ?_
    refine va_get (ci := 5) (v := .ref (a 16)) hx hb hts wX5_in hown hK hP 0 rfl rfl 2 (by decide) (hts _ mw_1_208) (fun _ h9 => h9) rfl dX5_atPlaces_55 ?_
    refine lv_iload hx hb dX5_atPlaces_58 (lv_at hl 1 rfl) ?_
    obtain ⟨hi_11, hf⟩ := pe_in hf
    refine va_iald hx hb hK hP 1 0 rfl rfl hi_11 dX5_atPlaces_60 ?_
    refine lv_iconst (v := (1 : Int32)) hx hb dX5_atPlaces_61 (by decide) ?_
    refine lv_isub hx hb dX5_atPlaces_62 ?_
    obtain ⟨rfl, rfl⟩ := po_2 hf
    rw [← hQ]; exact xe_iret Cx rfl hP hD hS dX5_atPlaces_63
  refine lv_aload_n hx hb dX5_atPlaces_0 rfl (lv_at hl 0 rfl) ?_
  refine lv_iload_n hx hb dX5_atPlaces_1 rfl (lv_at hl 1 rfl) ?_
  refine lv_iload_n hx hb dX5_atPlaces_2 rfl (lv_at hl 2 rfl) ?_
  refine lv_iload_n hx hb dX5_atPlaces_3 rfl (lv_at hl 3 rfl) ?_
  refine lv_iload hx hb dX5_atPlaces_4 (lv_at hl 4 rfl) ?_
  obtain ⟨r_12, hk_13, hf⟩ := pe_1 hf
  refine xv_i (As := [.int x1, .int x2, .int x3, .int x4]) (rest := []) (q0 := 0) (ci := 5) Cx hP hD hS hl (pl_X5_X5 a cyI cyJ v5_known v1_table v7_rows v7_lengths v7_sizes v7_rests v7_orders v5_known v1_table v7_rows v7_lengths v7_sizes v7_rests v7_orders) (c_X5_indexOf l D cyI cyJ G a H.size v5_known v1_table v7_rows v7_lengths v7_sizes v7_rests v7_orders x1 x2 x3 x4 r_12 hk_13) pk_X5_indexOf mw_2_175 ⟨rfl, rfl, Nat.le_of_ble_eq_true rfl, Nat.le_of_ble_eq_true rfl⟩ rfl rfl rfl rfl rfl (Nat.le_of_ble_eq_true rfl) ⟨Nat.le_of_ble_eq_true rfl, Nat.le_of_ble_eq_true rfl⟩ dX5_atPlaces_6 (fun H locs hP hD hS => ?_)
  refine lv_istore (lv' := [(5, .int r_12), (0, .ref (a 15)), (1, .int x1), (2, .int x2), (3, .int x3), (4, .int x4)]) hx hb dX5_atPlaces_9 hl (by decide) rfl (fun ls hl => ?_)
  refine lv_iload hx hb dX5_atPlaces_11 (lv_at hl 0 rfl) ?_
  refine lv_if_lt (tgt := 24) hx hb dX5_atPlaces_13 (by decide) (fun hc_14 => ?_) (fun hc_14 => ?_)
  · have hf := pe_t hf hc_14
    refine lv_iconst (v := (0 : Int32)) hx hb dX5_atPlaces_24 (by decide) ?_
    obtain ⟨rfl, rfl⟩ := po_2 hf
    rw [← hQ]; exact xe_iret Cx rfl hP hD hS dX5_atPlaces_25
  · have hf := pe_f hf hc_14
    refine lv_iload hx hb dX5_atPlaces_16 (lv_at hl 0 rfl) ?_
    refine lv_sipush (v := (3125 : Int32)) hx hb dX5_atPlaces_18 (by decide) ?_
    refine lv_icmp_lt (tgt := 26) hx hb dX5_atPlaces_21 (by decide) (fun hc_15 => ?_) (fun hc_15 => ?_)
    · have hf := pe_t hf hc_15
      refine lv_aload_n hx hb dX5_atPlaces_26 rfl (lv_at hl 1 rfl) ?_
      refine va_get (ci := 5) (v := .ref (a 16)) hx hb hts wX5_in hown hK hP 0 rfl rfl 2 (by decide) (hts _ mw_1_208) (fun _ h9 => h9) rfl dX5_atPlaces_27 ?_
      refine lv_iload hx hb dX5_atPlaces_30 (lv_at hl 0 rfl) ?_
      obtain ⟨hi_16, hf⟩ := pe_in hf
      refine va_iald hx hb hK hP 1 0 rfl rfl hi_16 dX5_atPlaces_32 ?_
      refine lv_if_ne (tgt := 54) hx hb dX5_atPlaces_33 (by decide) (fun hc_17 => ?_) (fun hc_17 => ?_)
      · have hf := pe_f hf hc_17
        exact w_54 v5_known r_12 H locs ls hf hP hD hS (lv_sub hl [1, 0] rfl)
      · have hf := pe_t hf hc_17
        refine lv_aload_n hx hb dX5_atPlaces_36 rfl (lv_at hl 1 rfl) ?_
        refine va_get (ci := 5) (v := .ref (a 16)) hx hb hts wX5_in hown hK hP 0 rfl rfl 2 (by decide) (hts _ mw_1_208) (fun _ h9 => h9) rfl dX5_atPlaces_37 ?_
        refine lv_iload hx hb dX5_atPlaces_40 (lv_at hl 0 rfl) ?_
        refine lv_aload_n hx hb dX5_atPlaces_42 rfl (lv_at hl 1 rfl) ?_
        refine lv_iload_n hx hb dX5_atPlaces_43 rfl (lv_at hl 2 rfl) ?_
        refine lv_iload_n hx hb dX5_atPlaces_44 rfl (lv_at hl 3 rfl) ?_
        refine lv_iload_n hx hb dX5_atPlaces_45 rfl (lv_at hl 4 rfl) ?_
        refine lv_iload hx hb dX5_atPlaces_46 (lv_at hl 5 rfl) ?_
        obtain ⟨r_18, hk_19, hf⟩ := pe_1 hf
        refine xv_i (As := [.int x1, .int x2, .int x3, .int x4]) (rest := [.int r_12, .ref (a 16)]) (q0 := 0) (ci := 5) Cx hP hD hS hl (pl_X5_X5 a cyI cyJ v5_known v1_table v7_rows v7_lengths v7_sizes v7_rests v7_orders v5_known v1_table v7_rows v7_lengths v7_sizes v7_rests v7_orders) (c_X5_workedOut l D cyI cyJ G a H.size v5_known v1_table v7_rows v7_lengths v7_sizes v7_rests v7_orders x1 x2 x3 x4 r_18 hk_19) pk_X5_workedOut mw_2_188 ⟨rfl, rfl, Nat.le_of_ble_eq_true rfl, Nat.le_of_ble_eq_true rfl⟩ rfl rfl rfl rfl rfl (Nat.le_of_ble_eq_true rfl) ⟨Nat.le_of_ble_eq_true rfl, Nat.le_of_ble_eq_true rfl⟩ dX5_atPlaces_48 (fun H locs hP hD hS => ?_)
        refine lv_iconst (v := (1 : Int32)) hx hb dX5_atPlaces_51 (by decide) ?_
        refine lv_iadd hx hb dX5_atPlaces_52 ?_
        obtain ⟨hi_20, hf⟩ := pe_in hf
        refine va_iast hx hb hK hP hD hS 1 0 rfl rfl hi_20 dX5_atPlaces_53 (fun H locs hP hD hS => ?_)
        have hP : va_P D xcl (wd_X5 a cyI cyJ (upd v5_known (Int32.toNatClampNeg r_12) (r_18 + (1 : Int32))) v1_table v7_rows v7_lengths v7_sizes v7_rests v7_orders) H := hP
        have hD : va_D A (wd_X5 a cyI cyJ (upd v5_known (Int32.toNatClampNeg r_12) (r_18 + (1 : Int32))) v1_table v7_rows v7_lengths v7_sizes v7_rests v7_orders) := hD
        exact w_54 (upd v5_known (Int32.toNatClampNeg r_12) (r_18 + (1 : Int32))) r_12 H locs ls hf hP hD hS (lv_sub hl [1, 0] rfl)
    · have hf := pe_f hf hc_15
      refine lv_iconst (v := (0 : Int32)) hx hb dX5_atPlaces_24 (by decide) ?_
      obtain ⟨rfl, rfl⟩ := po_2 hf
      rw [← hQ]; exact xe_iret Cx rfl hP hD hS dX5_atPlaces_25
def f_X5_at (v7_sizes : Nat → Int32) (v7_orders : Nat → Int32) (v1_table : Nat → Int32) (v5_known : Nat → Int32) (x1 : Int32) (x2 : Int32) (x3 : Int32) : Option (Int32 × (Nat → Int32)) := p_b1 (f_X7_sizeOf v7_sizes x1) (fun r_1 => p_b1 (f_X7_placeOf v7_sizes x1) (fun r_3 => p_b1 (f_X7_placeOf v7_sizes x2) (fun r_5 => p_b1 (f_X7_placeOf v7_sizes x3) (fun r_7 => p_b2 (f_X5_atPlaces v7_orders v1_table v5_known r_1 r_3 r_5 r_7) (fun r_9 v5_known_10 => some (r_9, v5_known_10))))))
set_option maxHeartbeats 4000000 in
set_option maxRecDepth 20000 in
theorem c_X5_at (l : Launch) (D : va_G) (cyI cyJ : ClassId) (G a : Nat → Nat) (sz : Nat) (v5_known : Nat → Int32) (v1_table : Nat → Int32) (v7_rows : Nat → Int32) (v7_lengths : Nat → Int32) (v7_sizes : Nat → Int32) (v7_rests : Nat → Int32) (v7_orders : Nat → Int32) (x1 : Int32) (x2 : Int32) (x3 : Int32) (ro : Int32) (ov5_known : Nat → Int32) (hf : f_X5_at v7_sizes v7_orders v1_table v5_known x1 x2 x3 = some (ro, ov5_known)) : xm_i l yX5_at (Cond.code yX5_at cX5_at 5 (some .int) :: xg_tbl) { frames := 4, cells := 0, slots := 0, locals := 99 } D xcl [(cyI, .int), (cyJ, .long)] G sz [.ref (a 15), .int x1, .int x2, .int x3] (wd_X5 a cyI cyJ v5_known v1_table v7_rows v7_lengths v7_sizes v7_rests v7_orders) (wd_X5 a cyI cyJ ov5_known v1_table v7_rows v7_lengths v7_sizes v7_rests v7_orders) ro := by
  refine xm_of_i (own := RX5) (by decide) rfl rfl (Nat.le_of_ble_eq_true rfl) ?_
  intro p e s m args below meth c ls Q A hQ hAe hin Cx hsz hP hD hS hl
  have Cx1 := Cx
  obtain ⟨⟨hx, hb, hml, hown, hts⟩, hr, hlocks, hK, hA, hT⟩ := Cx1
  have hl : lv_has ls 5 [(0, .ref (a 15)), (1, .int x1), (2, .int x2), (3, .int x3)] := hl
  obtain ⟨H, eH⟩ : ∃ H, H = s.heap := ⟨_, rfl⟩
  obtain ⟨locs, eL⟩ : ∃ L : List Loc, L = [] := ⟨_, rfl⟩
  rw [← eH] at hP
  have hS : va_S A s.heap H locs := by rw [eH, eL]; exact hS
  suffices hgo : W p l e { frames := 4, cells := 0, slots := 0, locals := 99 } s m args below meth c H locs 0 0 Q (F0 m 0 ls []) by rw [eH, eL] at hgo; exact hgo
  clear eH eL
  unfold f_X5_at at hf
  refine lv_aload_n hx hb dX5_at_0 rfl (lv_at hl 0 rfl) ?_
  refine va_get (ci := 5) (v := .ref (a 2)) hx hb hts wX5_in hown hK hP 0 rfl rfl 0 (by decide) (hts _ mw_1_206) (fun _ h9 => h9) rfl dX5_at_1 ?_
  refine lv_iload_n hx hb dX5_at_4 rfl (lv_at hl 1 rfl) ?_
  obtain ⟨r_12, hk_13, hf⟩ := pe_1 hf
  refine xv_i (As := [.int x1]) (rest := []) (q0 := 0) (ci := 7) Cx hP hD hS hl (pl_X5_X7 a cyI cyJ v5_known v1_table v7_rows v7_lengths v7_sizes v7_rests v7_orders v7_rows v7_lengths v7_sizes v7_rests v7_orders) (c_X7_sizeOf l D cyI cyJ G a H.size v7_rows v7_lengths v7_sizes v7_rests v7_orders x1 r_12 hk_13) pk_X7_sizeOf mw_2_169 ⟨rfl, rfl, Nat.le_of_ble_eq_true rfl, Nat.le_of_ble_eq_true rfl⟩ rfl rfl rfl rfl rfl (Nat.le_of_ble_eq_true rfl) ⟨Nat.le_of_ble_eq_true rfl, Nat.le_of_ble_eq_true rfl⟩ dX5_at_5 (fun H locs hP hD hS => ?_)
  refine lv_istore (lv' := [(4, .int r_12), (0, .ref (a 15)), (1, .int x1), (2, .int x2), (3, .int x3)]) hx hb dX5_at_8 hl (by decide) rfl (fun ls hl => ?_)
  refine lv_aload_n hx hb dX5_at_10 rfl (lv_at hl 1 rfl) ?_
  refine lv_iload hx hb dX5_at_11 (lv_at hl 0 rfl) ?_
  refine lv_aload_n hx hb dX5_at_13 rfl (lv_at hl 1 rfl) ?_
  refine va_get (ci := 5) (v := .ref (a 2)) hx hb hts wX5_in hown hK hP 0 rfl rfl 0 (by decide) (hts _ mw_1_206) (fun _ h9 => h9) rfl dX5_at_14 ?_
  refine lv_iload_n hx hb dX5_at_17 rfl (lv_at hl 2 rfl) ?_
  obtain ⟨r_14, hk_15, hf⟩ := pe_1 hf
  refine xv_i (As := [.int x1]) (rest := [.int r_12, .ref (a 15)]) (q0 := 0) (ci := 7) Cx hP hD hS hl (pl_X5_X7 a cyI cyJ v5_known v1_table v7_rows v7_lengths v7_sizes v7_rests v7_orders v7_rows v7_lengths v7_sizes v7_rests v7_orders) (c_X7_placeOf l D cyI cyJ G a H.size v7_rows v7_lengths v7_sizes v7_rests v7_orders x1 r_14 hk_15) pk_X7_placeOf mw_2_170 ⟨rfl, rfl, Nat.le_of_ble_eq_true rfl, Nat.le_of_ble_eq_true rfl⟩ rfl rfl rfl rfl rfl (Nat.le_of_ble_eq_true rfl) ⟨Nat.le_of_ble_eq_true rfl, Nat.le_of_ble_eq_true rfl⟩ dX5_at_18 (fun H locs hP hD hS => ?_)
  refine lv_aload_n hx hb dX5_at_21 rfl (lv_at hl 1 rfl) ?_
  refine va_get (ci := 5) (v := .ref (a 2)) hx hb hts wX5_in hown hK hP 0 rfl rfl 0 (by decide) (hts _ mw_1_206) (fun _ h9 => h9) rfl dX5_at_22 ?_
  refine lv_iload_n hx hb dX5_at_25 rfl (lv_at hl 3 rfl) ?_
  obtain ⟨r_16, hk_17, hf⟩ := pe_1 hf
  refine xv_i (As := [.int x2]) (rest := [.int r_14, .int r_12, .ref (a 15)]) (q0 := 0) (ci := 7) Cx hP hD hS hl (pl_X5_X7 a cyI cyJ v5_known v1_table v7_rows v7_lengths v7_sizes v7_rests v7_orders v7_rows v7_lengths v7_sizes v7_rests v7_orders) (c_X7_placeOf l D cyI cyJ G a H.size v7_rows v7_lengths v7_sizes v7_rests v7_orders x2 r_16 hk_17) pk_X7_placeOf mw_2_170 ⟨rfl, rfl, Nat.le_of_ble_eq_true rfl, Nat.le_of_ble_eq_true rfl⟩ rfl rfl rfl rfl rfl (Nat.le_of_ble_eq_true rfl) ⟨Nat.le_of_ble_eq_true rfl, Nat.le_of_ble_eq_true rfl⟩ dX5_at_26 (fun H locs hP hD hS => ?_)
  refine lv_aload_n hx hb dX5_at_29 rfl (lv_at hl 1 rfl) ?_
  refine va_get (ci := 5) (v := .ref (a 2)) hx hb hts wX5_in hown hK hP 0 rfl rfl 0 (by decide) (hts _ mw_1_206) (fun _ h9 => h9) rfl dX5_at_30 ?_
  refine lv_iload_n hx hb dX5_at_33 rfl (lv_at hl 4 rfl) ?_
  obtain ⟨r_18, hk_19, hf⟩ := pe_1 hf
  refine xv_i (As := [.int x3]) (rest := [.int r_16, .int r_14, .int r_12, .ref (a 15)]) (q0 := 0) (ci := 7) Cx hP hD hS hl (pl_X5_X7 a cyI cyJ v5_known v1_table v7_rows v7_lengths v7_sizes v7_rests v7_orders v7_rows v7_lengths v7_sizes v7_rests v7_orders) (c_X7_placeOf l D cyI cyJ G a H.size v7_rows v7_lengths v7_sizes v7_rests v7_orders x3 r_18 hk_19) pk_X7_placeOf mw_2_170 ⟨rfl, rfl, Nat.le_of_ble_eq_true rfl, Nat.le_of_ble_eq_true rfl⟩ rfl rfl rfl rfl rfl (Nat.le_of_ble_eq_true rfl) ⟨Nat.le_of_ble_eq_true rfl, Nat.le_of_ble_eq_true rfl⟩ dX5_at_34 (fun H locs hP hD hS => ?_)
  obtain ⟨r_20, v5_known_21, hk_22, hf⟩ := pe_2 hf
  refine xv_i (As := [.int r_12, .int r_14, .int r_16, .int r_18]) (rest := []) (q0 := 0) (ci := 5) Cx hP hD hS hl (pl_X5_X5 a cyI cyJ v5_known v1_table v7_rows v7_lengths v7_sizes v7_rests v7_orders v5_known_21 v1_table v7_rows v7_lengths v7_sizes v7_rests v7_orders) (c_X5_atPlaces l D cyI cyJ G a H.size v5_known v1_table v7_rows v7_lengths v7_sizes v7_rests v7_orders r_12 r_14 r_16 r_18 r_20 v5_known_21 hk_22) pk_X5_atPlaces mw_2_171 ⟨rfl, rfl, Nat.le_of_ble_eq_true rfl, Nat.le_of_ble_eq_true rfl⟩ rfl rfl rfl rfl rfl (Nat.le_of_ble_eq_true rfl) ⟨Nat.le_of_ble_eq_true rfl, Nat.le_of_ble_eq_true rfl⟩ dX5_at_37 (fun H locs hP hD hS => ?_)
  obtain ⟨rfl, rfl⟩ := po_2 hf
  rw [← hQ]; exact xe_iret Cx rfl hP hD hS dX5_at_40
def f_X5_first (v7_sizes : Nat → Int32) (x1 : Int32) : Option (Int32) := p_b1 (f_X7_sizeOf v7_sizes x1) (fun r_1 => p_b1 (f_X7_firstOf r_1) (fun r_3 => some (r_3)))
set_option maxHeartbeats 4000000 in
set_option maxRecDepth 20000 in
theorem c_X5_first (l : Launch) (D : va_G) (cyI cyJ : ClassId) (G a : Nat → Nat) (sz : Nat) (v5_known : Nat → Int32) (v1_table : Nat → Int32) (v7_rows : Nat → Int32) (v7_lengths : Nat → Int32) (v7_sizes : Nat → Int32) (v7_rests : Nat → Int32) (v7_orders : Nat → Int32) (x1 : Int32) (ro : Int32) (hf : f_X5_first v7_sizes x1 = some ro) : xm_i l yX5_first (Cond.code yX5_first cX5_first 2 (some .int) :: xg_tbl) { frames := 2, cells := 0, slots := 0, locals := 42 } D xcl [(cyI, .int), (cyJ, .long)] G sz [.ref (a 15), .int x1] (wd_X5 a cyI cyJ v5_known v1_table v7_rows v7_lengths v7_sizes v7_rests v7_orders) (wd_X5 a cyI cyJ v5_known v1_table v7_rows v7_lengths v7_sizes v7_rests v7_orders) ro := by
  refine xm_of_i (own := RX5) (by decide) rfl rfl (Nat.le_of_ble_eq_true rfl) ?_
  intro p e s m args below meth c ls Q A hQ hAe hin Cx hsz hP hD hS hl
  have Cx1 := Cx
  obtain ⟨⟨hx, hb, hml, hown, hts⟩, hr, hlocks, hK, hA, hT⟩ := Cx1
  have hl : lv_has ls 2 [(0, .ref (a 15)), (1, .int x1)] := hl
  obtain ⟨H, eH⟩ : ∃ H, H = s.heap := ⟨_, rfl⟩
  obtain ⟨locs, eL⟩ : ∃ L : List Loc, L = [] := ⟨_, rfl⟩
  rw [← eH] at hP
  have hS : va_S A s.heap H locs := by rw [eH, eL]; exact hS
  suffices hgo : W p l e { frames := 2, cells := 0, slots := 0, locals := 42 } s m args below meth c H locs 0 0 Q (F0 m 0 ls []) by rw [eH, eL] at hgo; exact hgo
  clear eH eL
  unfold f_X5_first at hf
  refine lv_aload_n hx hb dX5_first_0 rfl (lv_at hl 0 rfl) ?_
  refine va_get (ci := 5) (v := .ref (a 2)) hx hb hts wX5_in hown hK hP 0 rfl rfl 0 (by decide) (hts _ mw_1_206) (fun _ h9 => h9) rfl dX5_first_1 ?_
  refine lv_aload_n hx hb dX5_first_4 rfl (lv_at hl 0 rfl) ?_
  refine va_get (ci := 5) (v := .ref (a 2)) hx hb hts wX5_in hown hK hP 0 rfl rfl 0 (by decide) (hts _ mw_1_206) (fun _ h9 => h9) rfl dX5_first_5 ?_
  refine lv_iload_n hx hb dX5_first_8 rfl (lv_at hl 1 rfl) ?_
  obtain ⟨r_5, hk_6, hf⟩ := pe_1 hf
  refine xv_i (As := [.int x1]) (rest := [.ref (a 2)]) (q0 := 0) (ci := 7) Cx hP hD hS hl (pl_X5_X7 a cyI cyJ v5_known v1_table v7_rows v7_lengths v7_sizes v7_rests v7_orders v7_rows v7_lengths v7_sizes v7_rests v7_orders) (c_X7_sizeOf l D cyI cyJ G a H.size v7_rows v7_lengths v7_sizes v7_rests v7_orders x1 r_5 hk_6) pk_X7_sizeOf mw_2_169 ⟨rfl, rfl, Nat.le_of_ble_eq_true rfl, Nat.le_of_ble_eq_true rfl⟩ rfl rfl rfl rfl rfl (Nat.le_of_ble_eq_true rfl) ⟨Nat.le_of_ble_eq_true rfl, Nat.le_of_ble_eq_true rfl⟩ dX5_first_9 (fun H locs hP hD hS => ?_)
  obtain ⟨r_7, hk_8, hf⟩ := pe_1 hf
  refine xv_i (As := [.int r_5]) (rest := []) (q0 := 0) (ci := 7) Cx hP hD hS hl (pl_X5_X7 a cyI cyJ v5_known v1_table v7_rows v7_lengths v7_sizes v7_rests v7_orders v7_rows v7_lengths v7_sizes v7_rests v7_orders) (c_X7_firstOf l D cyI cyJ G a H.size v7_rows v7_lengths v7_sizes v7_rests v7_orders r_5 r_7 hk_8) pk_X7_firstOf mw_2_192 ⟨rfl, rfl, Nat.le_of_ble_eq_true rfl, Nat.le_of_ble_eq_true rfl⟩ rfl rfl rfl rfl rfl (Nat.le_of_ble_eq_true rfl) ⟨Nat.le_of_ble_eq_true rfl, Nat.le_of_ble_eq_true rfl⟩ dX5_first_12 (fun H locs hP hD hS => ?_)
  obtain rfl := po_1 hf
  rw [← hQ]; exact xe_iret Cx rfl hP hD hS dX5_first_15
def f_X5_end (v7_sizes : Nat → Int32) (x1 : Int32) : Option (Int32) := p_b1 (f_X5_first v7_sizes x1) (fun r_1 => p_b1 (f_X7_sizeOf v7_sizes x1) (fun r_3 => p_b1 (f_X7_countOf r_3) (fun r_5 => some ((r_1 + r_5)))))
set_option maxHeartbeats 4000000 in
set_option maxRecDepth 20000 in
theorem c_X5_end (l : Launch) (D : va_G) (cyI cyJ : ClassId) (G a : Nat → Nat) (sz : Nat) (v5_known : Nat → Int32) (v1_table : Nat → Int32) (v7_rows : Nat → Int32) (v7_lengths : Nat → Int32) (v7_sizes : Nat → Int32) (v7_rests : Nat → Int32) (v7_orders : Nat → Int32) (x1 : Int32) (ro : Int32) (hf : f_X5_end v7_sizes x1 = some ro) : xm_i l yX5_end (Cond.code yX5_end cX5_end 2 (some .int) :: xg_tbl) { frames := 3, cells := 0, slots := 0, locals := 63 } D xcl [(cyI, .int), (cyJ, .long)] G sz [.ref (a 15), .int x1] (wd_X5 a cyI cyJ v5_known v1_table v7_rows v7_lengths v7_sizes v7_rests v7_orders) (wd_X5 a cyI cyJ v5_known v1_table v7_rows v7_lengths v7_sizes v7_rests v7_orders) ro := by
  refine xm_of_i (own := RX5) (by decide) rfl rfl (Nat.le_of_ble_eq_true rfl) ?_
  intro p e s m args below meth c ls Q A hQ hAe hin Cx hsz hP hD hS hl
  have Cx1 := Cx
  obtain ⟨⟨hx, hb, hml, hown, hts⟩, hr, hlocks, hK, hA, hT⟩ := Cx1
  have hl : lv_has ls 2 [(0, .ref (a 15)), (1, .int x1)] := hl
  obtain ⟨H, eH⟩ : ∃ H, H = s.heap := ⟨_, rfl⟩
  obtain ⟨locs, eL⟩ : ∃ L : List Loc, L = [] := ⟨_, rfl⟩
  rw [← eH] at hP
  have hS : va_S A s.heap H locs := by rw [eH, eL]; exact hS
  suffices hgo : W p l e { frames := 3, cells := 0, slots := 0, locals := 63 } s m args below meth c H locs 0 0 Q (F0 m 0 ls []) by rw [eH, eL] at hgo; exact hgo
  clear eH eL
  unfold f_X5_end at hf
  refine lv_aload_n hx hb dX5_end_0 rfl (lv_at hl 0 rfl) ?_
  refine lv_iload_n hx hb dX5_end_1 rfl (lv_at hl 1 rfl) ?_
  obtain ⟨r_7, hk_8, hf⟩ := pe_1 hf
  refine xv_i (As := [.int x1]) (rest := []) (q0 := 0) (ci := 5) Cx hP hD hS hl (pl_X5_X5 a cyI cyJ v5_known v1_table v7_rows v7_lengths v7_sizes v7_rests v7_orders v5_known v1_table v7_rows v7_lengths v7_sizes v7_rests v7_orders) (c_X5_first l D cyI cyJ G a H.size v5_known v1_table v7_rows v7_lengths v7_sizes v7_rests v7_orders x1 r_7 hk_8) pk_X5_first mw_2_204 ⟨rfl, rfl, Nat.le_of_ble_eq_true rfl, Nat.le_of_ble_eq_true rfl⟩ rfl rfl rfl rfl rfl (Nat.le_of_ble_eq_true rfl) ⟨Nat.le_of_ble_eq_true rfl, Nat.le_of_ble_eq_true rfl⟩ dX5_end_2 (fun H locs hP hD hS => ?_)
  refine lv_aload_n hx hb dX5_end_5 rfl (lv_at hl 0 rfl) ?_
  refine va_get (ci := 5) (v := .ref (a 2)) hx hb hts wX5_in hown hK hP 0 rfl rfl 0 (by decide) (hts _ mw_1_206) (fun _ h9 => h9) rfl dX5_end_6 ?_
  refine lv_aload_n hx hb dX5_end_9 rfl (lv_at hl 0 rfl) ?_
  refine va_get (ci := 5) (v := .ref (a 2)) hx hb hts wX5_in hown hK hP 0 rfl rfl 0 (by decide) (hts _ mw_1_206) (fun _ h9 => h9) rfl dX5_end_10 ?_
  refine lv_iload_n hx hb dX5_end_13 rfl (lv_at hl 1 rfl) ?_
  obtain ⟨r_9, hk_10, hf⟩ := pe_1 hf
  refine xv_i (As := [.int x1]) (rest := [.ref (a 2), .int r_7]) (q0 := 0) (ci := 7) Cx hP hD hS hl (pl_X5_X7 a cyI cyJ v5_known v1_table v7_rows v7_lengths v7_sizes v7_rests v7_orders v7_rows v7_lengths v7_sizes v7_rests v7_orders) (c_X7_sizeOf l D cyI cyJ G a H.size v7_rows v7_lengths v7_sizes v7_rests v7_orders x1 r_9 hk_10) pk_X7_sizeOf mw_2_169 ⟨rfl, rfl, Nat.le_of_ble_eq_true rfl, Nat.le_of_ble_eq_true rfl⟩ rfl rfl rfl rfl rfl (Nat.le_of_ble_eq_true rfl) ⟨Nat.le_of_ble_eq_true rfl, Nat.le_of_ble_eq_true rfl⟩ dX5_end_14 (fun H locs hP hD hS => ?_)
  obtain ⟨r_11, hk_12, hf⟩ := pe_1 hf
  refine xv_i (As := [.int r_9]) (rest := [.int r_7]) (q0 := 0) (ci := 7) Cx hP hD hS hl (pl_X5_X7 a cyI cyJ v5_known v1_table v7_rows v7_lengths v7_sizes v7_rests v7_orders v7_rows v7_lengths v7_sizes v7_rests v7_orders) (c_X7_countOf l D cyI cyJ G a H.size v7_rows v7_lengths v7_sizes v7_rests v7_orders r_9 r_11 hk_12) pk_X7_countOf mw_2_187 ⟨rfl, rfl, Nat.le_of_ble_eq_true rfl, Nat.le_of_ble_eq_true rfl⟩ rfl rfl rfl rfl rfl (Nat.le_of_ble_eq_true rfl) ⟨Nat.le_of_ble_eq_true rfl, Nat.le_of_ble_eq_true rfl⟩ dX5_end_17 (fun H locs hP hD hS => ?_)
  refine lv_iadd hx hb dX5_end_20 ?_
  obtain rfl := po_1 hf
  rw [← hQ]; exact xe_iret Cx rfl hP hD hS dX5_end_21
def gf_X5_lengthOfProduct_9 (K_9 : (Nat → Int32) → Int32 → Int32 → Int32 → Int32 → Option (Int32 × (Nat → Int32))) (v7_sizes : Nat → Int32) (v7_orders : Nat → Int32) (v1_table : Nat → Int32) (v5_known : Nat → Int32) (y1 : Int32) (y2 : Int32) (y3 : Int32) (y4 : Int32) : Option (Int32 × (Nat → Int32)) := p_b1 (f_X5_end v7_sizes y1) (fun r_1 => if r_1 ≤ y4 then (some (y3, v5_known)) else (p_b2 (f_X5_at v7_sizes v7_orders v1_table v5_known y1 y2 y4) (fun r_4 v5_known_5 => if r_4 ≤ 0 then (K_9 v5_known_5 y1 y2 y3 (y4 + (1 : Int32))) else (K_9 v5_known_5 y1 y2 (y3 + (1 : Int32)) (y4 + (1 : Int32))))))
def f_X5_lengthOfProduct_9 (v7_sizes : Nat → Int32) (v7_orders : Nat → Int32) (v1_table : Nat → Int32) : Nat → (Nat → Int32) → Int32 → Int32 → Int32 → Int32 → Option (Int32 × (Nat → Int32))
  | 0 => fun _ _ _ _ _ => none
  | n + 1 => gf_X5_lengthOfProduct_9 (f_X5_lengthOfProduct_9 v7_sizes v7_orders v1_table n) v7_sizes v7_orders v1_table
def f_X5_lengthOfProduct (v7_sizes : Nat → Int32) (v7_orders : Nat → Int32) (v1_table : Nat → Int32) (v5_known : Nat → Int32) (x1 : Int32) (x2 : Int32) : Option (Int32 × (Nat → Int32)) := p_b1 (f_X5_first v7_sizes x1) (fun r_8 => (f_X5_lengthOfProduct_9 v7_sizes v7_orders v1_table 1000) v5_known x1 x2 (0 : Int32) r_8)
set_option maxHeartbeats 4000000 in
set_option maxRecDepth 20000 in
theorem c_X5_lengthOfProduct (l : Launch) (D : va_G) (cyI cyJ : ClassId) (G a : Nat → Nat) (sz : Nat) (v5_known : Nat → Int32) (v1_table : Nat → Int32) (v7_rows : Nat → Int32) (v7_lengths : Nat → Int32) (v7_sizes : Nat → Int32) (v7_rests : Nat → Int32) (v7_orders : Nat → Int32) (x1 : Int32) (x2 : Int32) (ro : Int32) (ov5_known : Nat → Int32) (hf : f_X5_lengthOfProduct v7_sizes v7_orders v1_table v5_known x1 x2 = some (ro, ov5_known)) : xm_i l yX5_lengthOfProduct (Cond.code yX5_lengthOfProduct cX5_lengthOfProduct 5 (some .int) :: xg_tbl) { frames := 5, cells := 0, slots := 0, locals := 123 } D xcl [(cyI, .int), (cyJ, .long)] G sz [.ref (a 15), .int x1, .int x2] (wd_X5 a cyI cyJ v5_known v1_table v7_rows v7_lengths v7_sizes v7_rests v7_orders) (wd_X5 a cyI cyJ ov5_known v1_table v7_rows v7_lengths v7_sizes v7_rests v7_orders) ro := by
  refine xm_of_i (own := RX5) (by decide) rfl rfl (Nat.le_of_ble_eq_true rfl) ?_
  intro p e s m args below meth c ls Q A hQ hAe hin Cx hsz hP hD hS hl
  have Cx1 := Cx
  obtain ⟨⟨hx, hb, hml, hown, hts⟩, hr, hlocks, hK, hA, hT⟩ := Cx1
  have hl : lv_has ls 5 [(0, .ref (a 15)), (1, .int x1), (2, .int x2)] := hl
  obtain ⟨H, eH⟩ : ∃ H, H = s.heap := ⟨_, rfl⟩
  obtain ⟨locs, eL⟩ : ∃ L : List Loc, L = [] := ⟨_, rfl⟩
  rw [← eH] at hP
  have hS : va_S A s.heap H locs := by rw [eH, eL]; exact hS
  suffices hgo : W p l e { frames := 5, cells := 0, slots := 0, locals := 123 } s m args below meth c H locs 0 0 Q (F0 m 0 ls []) by rw [eH, eL] at hgo; exact hgo
  clear eH eL
  unfold f_X5_lengthOfProduct at hf
  have w_9 : ∀ (n_9 : Nat) (v5_known : Nat → Int32) (y1 : Int32) (y2 : Int32) (y3 : Int32) (y4 : Int32) (H : Heap) (locs : List Loc) (ls : Array Slot), (f_X5_lengthOfProduct_9 v7_sizes v7_orders v1_table) n_9 v5_known y1 y2 y3 y4 = some (ro, ov5_known) → va_P D xcl (wd_X5 a cyI cyJ v5_known v1_table v7_rows v7_lengths v7_sizes v7_rests v7_orders) H → va_D A (wd_X5 a cyI cyJ v5_known v1_table v7_rows v7_lengths v7_sizes v7_rests v7_orders) → va_S A s.heap H locs → lv_has ls 5 [(0, .ref (a 15)), (1, .int y1), (2, .int y2), (3, .int y3), (4, .int y4)] → W p l e { frames := 5, cells := 0, slots := 0, locals := 123 } s m args below meth c H locs 0 0 Q (F0 m 9 ls []) := by
    intro n_9
    induction n_9 with
    | zero => intro v5_known y1 y2 y3 y4 H locs ls hf; exact absurd hf (by intro h9; cases h9)
    | succ n_9 w_9 =>
      intro v5_known y1 y2 y3 y4 H locs ls hf hP hD hS hl
      have hf : gf_X5_lengthOfProduct_9 ((f_X5_lengthOfProduct_9 v7_sizes v7_orders v1_table) n_9) v7_sizes v7_orders v1_table v5_known y1 y2 y3 y4 = some (ro, ov5_known) := hf
      unfold gf_X5_lengthOfProduct_9 at hf
      refine lv_iload hx hb dX5_lengthOfProduct_9 (lv_at hl 4 rfl) ?_
      refine lv_aload_n hx hb dX5_lengthOfProduct_11 rfl (lv_at hl 0 rfl) ?_
      refine lv_iload_n hx hb dX5_lengthOfProduct_12 rfl (lv_at hl 1 rfl) ?_
      obtain ⟨r_10, hk_11, hf⟩ := pe_1 hf
      refine xv_i (As := [.int y1]) (rest := [.int y4]) (q0 := 0) (ci := 5) Cx hP hD hS hl (pl_X5_X5 a cyI cyJ v5_known v1_table v7_rows v7_lengths v7_sizes v7_rests v7_orders v5_known v1_table v7_rows v7_lengths v7_sizes v7_rests v7_orders) (c_X5_end l D cyI cyJ G a H.size v5_known v1_table v7_rows v7_lengths v7_sizes v7_rests v7_orders y1 r_10 hk_11) pk_X5_end mw_2_208 ⟨rfl, rfl, Nat.le_of_ble_eq_true rfl, Nat.le_of_ble_eq_true rfl⟩ rfl rfl rfl rfl rfl (Nat.le_of_ble_eq_true rfl) ⟨Nat.le_of_ble_eq_true rfl, Nat.le_of_ble_eq_true rfl⟩ dX5_lengthOfProduct_13 (fun H locs hP hD hS => ?_)
      refine lv_icmp_ge (tgt := 39) hx hb dX5_lengthOfProduct_16 (by decide) (fun hc_12 => ?_) (fun hc_12 => ?_)
      · have hf := pe_t hf hc_12
        refine lv_iload_n hx hb dX5_lengthOfProduct_39 rfl (lv_at hl 3 rfl) ?_
        obtain ⟨rfl, rfl⟩ := po_2 hf
        rw [← hQ]; exact xe_iret Cx rfl hP hD hS dX5_lengthOfProduct_40
      · have hf := pe_f hf hc_12
        refine lv_aload_n hx hb dX5_lengthOfProduct_19 rfl (lv_at hl 0 rfl) ?_
        refine lv_iload_n hx hb dX5_lengthOfProduct_20 rfl (lv_at hl 1 rfl) ?_
        refine lv_iload_n hx hb dX5_lengthOfProduct_21 rfl (lv_at hl 2 rfl) ?_
        refine lv_iload hx hb dX5_lengthOfProduct_22 (lv_at hl 4 rfl) ?_
        obtain ⟨r_13, v5_known_14, hk_15, hf⟩ := pe_2 hf
        refine xv_i (As := [.int y1, .int y2, .int y4]) (rest := []) (q0 := 0) (ci := 5) Cx hP hD hS hl (pl_X5_X5 a cyI cyJ v5_known v1_table v7_rows v7_lengths v7_sizes v7_rests v7_orders v5_known_14 v1_table v7_rows v7_lengths v7_sizes v7_rests v7_orders) (c_X5_at l D cyI cyJ G a H.size v5_known v1_table v7_rows v7_lengths v7_sizes v7_rests v7_orders y1 y2 y4 r_13 v5_known_14 hk_15) pk_X5_at mw_2_212 ⟨rfl, rfl, Nat.le_of_ble_eq_true rfl, Nat.le_of_ble_eq_true rfl⟩ rfl rfl rfl rfl rfl (Nat.le_of_ble_eq_true rfl) ⟨Nat.le_of_ble_eq_true rfl, Nat.le_of_ble_eq_true rfl⟩ dX5_lengthOfProduct_24 (fun H locs hP hD hS => ?_)
        refine lv_if_le (tgt := 33) hx hb dX5_lengthOfProduct_27 (by decide) (fun hc_16 => ?_) (fun hc_16 => ?_)
        · have hf := pe_t hf hc_16
          refine lv_iinc (v := (y4 + (1 : Int32))) (lv' := [(4, .int (y4 + (1 : Int32))), (0, .ref (a 15)), (1, .int y1), (2, .int y2), (3, .int y3)]) hx hb dX5_lengthOfProduct_33 hl (k := 4) rfl rfl (by decide) rfl (fun ls hl => ?_)
          refine lv_goto (tgt := 9) hx hb dX5_lengthOfProduct_36 (by decide) ?_
          exact w_9 v5_known_14 y1 y2 y3 (y4 + (1 : Int32)) H locs ls hf hP hD hS (lv_sub hl [1, 2, 3, 4, 0] rfl)
        · have hf := pe_f hf hc_16
          refine lv_iinc (v := (y3 + (1 : Int32))) (lv' := [(3, .int (y3 + (1 : Int32))), (0, .ref (a 15)), (1, .int y1), (2, .int y2), (4, .int y4)]) hx hb dX5_lengthOfProduct_30 hl (k := 3) rfl rfl (by decide) rfl (fun ls hl => ?_)
          refine lv_iinc (v := (y4 + (1 : Int32))) (lv' := [(4, .int (y4 + (1 : Int32))), (3, .int (y3 + (1 : Int32))), (0, .ref (a 15)), (1, .int y1), (2, .int y2)]) hx hb dX5_lengthOfProduct_33 hl (k := 4) rfl rfl (by decide) rfl (fun ls hl => ?_)
          refine lv_goto (tgt := 9) hx hb dX5_lengthOfProduct_36 (by decide) ?_
          exact w_9 v5_known_14 y1 y2 (y3 + (1 : Int32)) (y4 + (1 : Int32)) H locs ls hf hP hD hS (lv_sub hl [2, 3, 4, 1, 0] rfl)
  refine lv_iconst (v := (0 : Int32)) hx hb dX5_lengthOfProduct_0 (by decide) ?_
  refine lv_istore_n (lv' := [(3, .int (0 : Int32)), (0, .ref (a 15)), (1, .int x1), (2, .int x2)]) hx hb dX5_lengthOfProduct_1 rfl hl (by decide) rfl (fun ls hl => ?_)
  refine lv_aload_n hx hb dX5_lengthOfProduct_2 rfl (lv_at hl 1 rfl) ?_
  refine lv_iload_n hx hb dX5_lengthOfProduct_3 rfl (lv_at hl 2 rfl) ?_
  obtain ⟨r_17, hk_18, hf⟩ := pe_1 hf
  refine xv_i (As := [.int x1]) (rest := []) (q0 := 0) (ci := 5) Cx hP hD hS hl (pl_X5_X5 a cyI cyJ v5_known v1_table v7_rows v7_lengths v7_sizes v7_rests v7_orders v5_known v1_table v7_rows v7_lengths v7_sizes v7_rests v7_orders) (c_X5_first l D cyI cyJ G a H.size v5_known v1_table v7_rows v7_lengths v7_sizes v7_rests v7_orders x1 r_17 hk_18) pk_X5_first mw_2_204 ⟨rfl, rfl, Nat.le_of_ble_eq_true rfl, Nat.le_of_ble_eq_true rfl⟩ rfl rfl rfl rfl rfl (Nat.le_of_ble_eq_true rfl) ⟨Nat.le_of_ble_eq_true rfl, Nat.le_of_ble_eq_true rfl⟩ dX5_lengthOfProduct_4 (fun H locs hP hD hS => ?_)
  refine lv_istore (lv' := [(4, .int r_17), (3, .int (0 : Int32)), (0, .ref (a 15)), (1, .int x1), (2, .int x2)]) hx hb dX5_lengthOfProduct_7 hl (by decide) rfl (fun ls hl => ?_)
  exact w_9 1000 v5_known x1 x2 (0 : Int32) r_17 H locs ls hf hP hD hS (lv_sub hl [2, 3, 4, 1, 0] rfl)
def gf_X5_partOfProduct_10 (K_10 : (Nat → Int32) → Int32 → Int32 → Int32 → Int32 → Int32 → Option (Int32 × (Nat → Int32))) (v7_sizes : Nat → Int32) (v7_orders : Nat → Int32) (v1_table : Nat → Int32) (v5_known : Nat → Int32) (y1 : Int32) (y2 : Int32) (y3 : Int32) (y4 : Int32) (y5 : Int32) : Option (Int32 × (Nat → Int32)) := p_b1 (f_X5_end v7_sizes y1) (fun r_1 => if r_1 ≤ y5 then (some ((-9 : Int32), v5_known)) else (p_b2 (f_X5_at v7_sizes v7_orders v1_table v5_known y1 y2 y5) (fun r_4 v5_known_5 => if r_4 ≤ 0 then (K_10 v5_known_5 y1 y2 y3 y4 (y5 + (1 : Int32))) else (if y4 = y3 then (some (y5, v5_known_5)) else (K_10 v5_known_5 y1 y2 y3 (y4 + (1 : Int32)) (y5 + (1 : Int32)))))))
def f_X5_partOfProduct_10 (v7_sizes : Nat → Int32) (v7_orders : Nat → Int32) (v1_table : Nat → Int32) : Nat → (Nat → Int32) → Int32 → Int32 → Int32 → Int32 → Int32 → Option (Int32 × (Nat → Int32))
  | 0 => fun _ _ _ _ _ _ => none
  | n + 1 => gf_X5_partOfProduct_10 (f_X5_partOfProduct_10 v7_sizes v7_orders v1_table n) v7_sizes v7_orders v1_table
def f_X5_partOfProduct (v7_sizes : Nat → Int32) (v7_orders : Nat → Int32) (v1_table : Nat → Int32) (v5_known : Nat → Int32) (x1 : Int32) (x2 : Int32) (x3 : Int32) : Option (Int32 × (Nat → Int32)) := p_b1 (f_X5_first v7_sizes x1) (fun r_9 => (f_X5_partOfProduct_10 v7_sizes v7_orders v1_table 1000) v5_known x1 x2 x3 (0 : Int32) r_9)
set_option maxHeartbeats 4000000 in
set_option maxRecDepth 20000 in
theorem c_X5_partOfProduct (l : Launch) (D : va_G) (cyI cyJ : ClassId) (G a : Nat → Nat) (sz : Nat) (v5_known : Nat → Int32) (v1_table : Nat → Int32) (v7_rows : Nat → Int32) (v7_lengths : Nat → Int32) (v7_sizes : Nat → Int32) (v7_rests : Nat → Int32) (v7_orders : Nat → Int32) (x1 : Int32) (x2 : Int32) (x3 : Int32) (ro : Int32) (ov5_known : Nat → Int32) (hf : f_X5_partOfProduct v7_sizes v7_orders v1_table v5_known x1 x2 x3 = some (ro, ov5_known)) : xm_i l yX5_partOfProduct (Cond.code yX5_partOfProduct cX5_partOfProduct 6 (some .int) :: xg_tbl) { frames := 5, cells := 0, slots := 0, locals := 123 } D xcl [(cyI, .int), (cyJ, .long)] G sz [.ref (a 15), .int x1, .int x2, .int x3] (wd_X5 a cyI cyJ v5_known v1_table v7_rows v7_lengths v7_sizes v7_rests v7_orders) (wd_X5 a cyI cyJ ov5_known v1_table v7_rows v7_lengths v7_sizes v7_rests v7_orders) ro := by
  refine xm_of_i (own := RX5) (by decide) rfl rfl (Nat.le_of_ble_eq_true rfl) ?_
  intro p e s m args below meth c ls Q A hQ hAe hin Cx hsz hP hD hS hl
  have Cx1 := Cx
  obtain ⟨⟨hx, hb, hml, hown, hts⟩, hr, hlocks, hK, hA, hT⟩ := Cx1
  have hl : lv_has ls 6 [(0, .ref (a 15)), (1, .int x1), (2, .int x2), (3, .int x3)] := hl
  obtain ⟨H, eH⟩ : ∃ H, H = s.heap := ⟨_, rfl⟩
  obtain ⟨locs, eL⟩ : ∃ L : List Loc, L = [] := ⟨_, rfl⟩
  rw [← eH] at hP
  have hS : va_S A s.heap H locs := by rw [eH, eL]; exact hS
  suffices hgo : W p l e { frames := 5, cells := 0, slots := 0, locals := 123 } s m args below meth c H locs 0 0 Q (F0 m 0 ls []) by rw [eH, eL] at hgo; exact hgo
  clear eH eL
  unfold f_X5_partOfProduct at hf
  have w_10 : ∀ (n_10 : Nat) (v5_known : Nat → Int32) (y1 : Int32) (y2 : Int32) (y3 : Int32) (y4 : Int32) (y5 : Int32) (H : Heap) (locs : List Loc) (ls : Array Slot), (f_X5_partOfProduct_10 v7_sizes v7_orders v1_table) n_10 v5_known y1 y2 y3 y4 y5 = some (ro, ov5_known) → va_P D xcl (wd_X5 a cyI cyJ v5_known v1_table v7_rows v7_lengths v7_sizes v7_rests v7_orders) H → va_D A (wd_X5 a cyI cyJ v5_known v1_table v7_rows v7_lengths v7_sizes v7_rests v7_orders) → va_S A s.heap H locs → lv_has ls 6 [(0, .ref (a 15)), (1, .int y1), (2, .int y2), (3, .int y3), (4, .int y4), (5, .int y5)] → W p l e { frames := 5, cells := 0, slots := 0, locals := 123 } s m args below meth c H locs 0 0 Q (F0 m 10 ls []) := by
    intro n_10
    induction n_10 with
    | zero => intro v5_known y1 y2 y3 y4 y5 H locs ls hf; exact absurd hf (by intro h9; cases h9)
    | succ n_10 w_10 =>
      intro v5_known y1 y2 y3 y4 y5 H locs ls hf hP hD hS hl
      have hf : gf_X5_partOfProduct_10 ((f_X5_partOfProduct_10 v7_sizes v7_orders v1_table) n_10) v7_sizes v7_orders v1_table v5_known y1 y2 y3 y4 y5 = some (ro, ov5_known) := hf
      unfold gf_X5_partOfProduct_10 at hf
      refine lv_iload hx hb dX5_partOfProduct_10 (lv_at hl 5 rfl) ?_
      refine lv_aload_n hx hb dX5_partOfProduct_12 rfl (lv_at hl 0 rfl) ?_
      refine lv_iload_n hx hb dX5_partOfProduct_13 rfl (lv_at hl 1 rfl) ?_
      obtain ⟨r_11, hk_12, hf⟩ := pe_1 hf
      refine xv_i (As := [.int y1]) (rest := [.int y5]) (q0 := 0) (ci := 5) Cx hP hD hS hl (pl_X5_X5 a cyI cyJ v5_known v1_table v7_rows v7_lengths v7_sizes v7_rests v7_orders v5_known v1_table v7_rows v7_lengths v7_sizes v7_rests v7_orders) (c_X5_end l D cyI cyJ G a H.size v5_known v1_table v7_rows v7_lengths v7_sizes v7_rests v7_orders y1 r_11 hk_12) pk_X5_end mw_2_208 ⟨rfl, rfl, Nat.le_of_ble_eq_true rfl, Nat.le_of_ble_eq_true rfl⟩ rfl rfl rfl rfl rfl (Nat.le_of_ble_eq_true rfl) ⟨Nat.le_of_ble_eq_true rfl, Nat.le_of_ble_eq_true rfl⟩ dX5_partOfProduct_14 (fun H locs hP hD hS => ?_)
      refine lv_icmp_ge (tgt := 49) hx hb dX5_partOfProduct_17 (by decide) (fun hc_13 => ?_) (fun hc_13 => ?_)
      · have hf := pe_t hf hc_13
        refine lv_bipush (v := (-9 : Int32)) hx hb dX5_partOfProduct_49 (by decide) ?_
        obtain ⟨rfl, rfl⟩ := po_2 hf
        rw [← hQ]; exact xe_iret Cx rfl hP hD hS dX5_partOfProduct_51
      · have hf := pe_f hf hc_13
        refine lv_aload_n hx hb dX5_partOfProduct_20 rfl (lv_at hl 0 rfl) ?_
        refine lv_iload_n hx hb dX5_partOfProduct_21 rfl (lv_at hl 1 rfl) ?_
        refine lv_iload_n hx hb dX5_partOfProduct_22 rfl (lv_at hl 2 rfl) ?_
        refine lv_iload hx hb dX5_partOfProduct_23 (lv_at hl 5 rfl) ?_
        obtain ⟨r_14, v5_known_15, hk_16, hf⟩ := pe_2 hf
        refine xv_i (As := [.int y1, .int y2, .int y5]) (rest := []) (q0 := 0) (ci := 5) Cx hP hD hS hl (pl_X5_X5 a cyI cyJ v5_known v1_table v7_rows v7_lengths v7_sizes v7_rests v7_orders v5_known_15 v1_table v7_rows v7_lengths v7_sizes v7_rests v7_orders) (c_X5_at l D cyI cyJ G a H.size v5_known v1_table v7_rows v7_lengths v7_sizes v7_rests v7_orders y1 y2 y5 r_14 v5_known_15 hk_16) pk_X5_at mw_2_212 ⟨rfl, rfl, Nat.le_of_ble_eq_true rfl, Nat.le_of_ble_eq_true rfl⟩ rfl rfl rfl rfl rfl (Nat.le_of_ble_eq_true rfl) ⟨Nat.le_of_ble_eq_true rfl, Nat.le_of_ble_eq_true rfl⟩ dX5_partOfProduct_25 (fun H locs hP hD hS => ?_)
        refine lv_if_le (tgt := 43) hx hb dX5_partOfProduct_28 (by decide) (fun hc_17 => ?_) (fun hc_17 => ?_)
        · have hf := pe_t hf hc_17
          refine lv_iinc (v := (y5 + (1 : Int32))) (lv' := [(5, .int (y5 + (1 : Int32))), (0, .ref (a 15)), (1, .int y1), (2, .int y2), (3, .int y3), (4, .int y4)]) hx hb dX5_partOfProduct_43 hl (k := 5) rfl rfl (by decide) rfl (fun ls hl => ?_)
          refine lv_goto (tgt := 10) hx hb dX5_partOfProduct_46 (by decide) ?_
          exact w_10 v5_known_15 y1 y2 y3 y4 (y5 + (1 : Int32)) H locs ls hf hP hD hS (lv_sub hl [1, 2, 3, 4, 5, 0] rfl)
        · have hf := pe_f hf hc_17
          refine lv_iload hx hb dX5_partOfProduct_31 (lv_at hl 4 rfl) ?_
          refine lv_iload_n hx hb dX5_partOfProduct_33 rfl (lv_at hl 3 rfl) ?_
          refine lv_icmp_ne (tgt := 40) hx hb dX5_partOfProduct_34 (by decide) (fun hc_18 => ?_) (fun hc_18 => ?_)
          · have hf := pe_f hf hc_18
            refine lv_iinc (v := (y4 + (1 : Int32))) (lv' := [(4, .int (y4 + (1 : Int32))), (0, .ref (a 15)), (1, .int y1), (2, .int y2), (3, .int y3), (5, .int y5)]) hx hb dX5_partOfProduct_40 hl (k := 4) rfl rfl (by decide) rfl (fun ls hl => ?_)
            refine lv_iinc (v := (y5 + (1 : Int32))) (lv' := [(5, .int (y5 + (1 : Int32))), (4, .int (y4 + (1 : Int32))), (0, .ref (a 15)), (1, .int y1), (2, .int y2), (3, .int y3)]) hx hb dX5_partOfProduct_43 hl (k := 5) rfl rfl (by decide) rfl (fun ls hl => ?_)
            refine lv_goto (tgt := 10) hx hb dX5_partOfProduct_46 (by decide) ?_
            exact w_10 v5_known_15 y1 y2 y3 (y4 + (1 : Int32)) (y5 + (1 : Int32)) H locs ls hf hP hD hS (lv_sub hl [2, 3, 4, 5, 1, 0] rfl)
          · have hf := pe_t hf hc_18
            refine lv_iload hx hb dX5_partOfProduct_37 (lv_at hl 5 rfl) ?_
            obtain ⟨rfl, rfl⟩ := po_2 hf
            rw [← hQ]; exact xe_iret Cx rfl hP hD hS dX5_partOfProduct_39
  refine lv_iconst (v := (0 : Int32)) hx hb dX5_partOfProduct_0 (by decide) ?_
  refine lv_istore (lv' := [(4, .int (0 : Int32)), (0, .ref (a 15)), (1, .int x1), (2, .int x2), (3, .int x3)]) hx hb dX5_partOfProduct_1 hl (by decide) rfl (fun ls hl => ?_)
  refine lv_aload_n hx hb dX5_partOfProduct_3 rfl (lv_at hl 1 rfl) ?_
  refine lv_iload_n hx hb dX5_partOfProduct_4 rfl (lv_at hl 2 rfl) ?_
  obtain ⟨r_19, hk_20, hf⟩ := pe_1 hf
  refine xv_i (As := [.int x1]) (rest := []) (q0 := 0) (ci := 5) Cx hP hD hS hl (pl_X5_X5 a cyI cyJ v5_known v1_table v7_rows v7_lengths v7_sizes v7_rests v7_orders v5_known v1_table v7_rows v7_lengths v7_sizes v7_rests v7_orders) (c_X5_first l D cyI cyJ G a H.size v5_known v1_table v7_rows v7_lengths v7_sizes v7_rests v7_orders x1 r_19 hk_20) pk_X5_first mw_2_204 ⟨rfl, rfl, Nat.le_of_ble_eq_true rfl, Nat.le_of_ble_eq_true rfl⟩ rfl rfl rfl rfl rfl (Nat.le_of_ble_eq_true rfl) ⟨Nat.le_of_ble_eq_true rfl, Nat.le_of_ble_eq_true rfl⟩ dX5_partOfProduct_5 (fun H locs hP hD hS => ?_)
  refine lv_istore (lv' := [(5, .int r_19), (4, .int (0 : Int32)), (0, .ref (a 15)), (1, .int x1), (2, .int x2), (3, .int x3)]) hx hb dX5_partOfProduct_8 hl (by decide) rfl (fun ls hl => ?_)
  exact w_10 1000 v5_known x1 x2 x3 (0 : Int32) r_19 H locs ls hf hP hD hS (lv_sub hl [2, 3, 4, 5, 1, 0] rfl)
def gf_X5_greatestInProduct_9 (K_9 : (Nat → Int32) → Int32 → Int32 → Int32 → Int32 → Option (Int32 × (Nat → Int32))) (v7_sizes : Nat → Int32) (v7_orders : Nat → Int32) (v1_table : Nat → Int32) (v5_known : Nat → Int32) (y1 : Int32) (y2 : Int32) (y3 : Int32) (y4 : Int32) : Option (Int32 × (Nat → Int32)) := p_b1 (f_X5_end v7_sizes y1) (fun r_1 => if r_1 ≤ y4 then (some (y3, v5_known)) else (p_b2 (f_X5_at v7_sizes v7_orders v1_table v5_known y1 y2 y4) (fun r_4 v5_known_5 => K_9 v5_known_5 y1 y2 (if y3 < r_4 then r_4 else y3) (y4 + (1 : Int32)))))
def f_X5_greatestInProduct_9 (v7_sizes : Nat → Int32) (v7_orders : Nat → Int32) (v1_table : Nat → Int32) : Nat → (Nat → Int32) → Int32 → Int32 → Int32 → Int32 → Option (Int32 × (Nat → Int32))
  | 0 => fun _ _ _ _ _ => none
  | n + 1 => gf_X5_greatestInProduct_9 (f_X5_greatestInProduct_9 v7_sizes v7_orders v1_table n) v7_sizes v7_orders v1_table
def f_X5_greatestInProduct (v7_sizes : Nat → Int32) (v7_orders : Nat → Int32) (v1_table : Nat → Int32) (v5_known : Nat → Int32) (x1 : Int32) (x2 : Int32) : Option (Int32 × (Nat → Int32)) := p_b1 (f_X5_first v7_sizes x1) (fun r_7 => (f_X5_greatestInProduct_9 v7_sizes v7_orders v1_table 1000) v5_known x1 x2 (0 : Int32) r_7)
set_option maxHeartbeats 4000000 in
set_option maxRecDepth 20000 in
theorem c_X5_greatestInProduct (l : Launch) (D : va_G) (cyI cyJ : ClassId) (G a : Nat → Nat) (sz : Nat) (v5_known : Nat → Int32) (v1_table : Nat → Int32) (v7_rows : Nat → Int32) (v7_lengths : Nat → Int32) (v7_sizes : Nat → Int32) (v7_rests : Nat → Int32) (v7_orders : Nat → Int32) (x1 : Int32) (x2 : Int32) (ro : Int32) (ov5_known : Nat → Int32) (hf : f_X5_greatestInProduct v7_sizes v7_orders v1_table v5_known x1 x2 = some (ro, ov5_known)) : xm_i l yX5_greatestInProduct (Cond.code yX5_greatestInProduct cX5_greatestInProduct 5 (some .int) :: xg_tbl) { frames := 5, cells := 0, slots := 0, locals := 123 } D xcl [(cyI, .int), (cyJ, .long)] G sz [.ref (a 15), .int x1, .int x2] (wd_X5 a cyI cyJ v5_known v1_table v7_rows v7_lengths v7_sizes v7_rests v7_orders) (wd_X5 a cyI cyJ ov5_known v1_table v7_rows v7_lengths v7_sizes v7_rests v7_orders) ro := by
  refine xm_of_i (own := RX5) (by decide) rfl rfl (Nat.le_of_ble_eq_true rfl) ?_
  intro p e s m args below meth c ls Q A hQ hAe hin Cx hsz hP hD hS hl
  have Cx1 := Cx
  obtain ⟨⟨hx, hb, hml, hown, hts⟩, hr, hlocks, hK, hA, hT⟩ := Cx1
  have hl : lv_has ls 5 [(0, .ref (a 15)), (1, .int x1), (2, .int x2)] := hl
  obtain ⟨H, eH⟩ : ∃ H, H = s.heap := ⟨_, rfl⟩
  obtain ⟨locs, eL⟩ : ∃ L : List Loc, L = [] := ⟨_, rfl⟩
  rw [← eH] at hP
  have hS : va_S A s.heap H locs := by rw [eH, eL]; exact hS
  suffices hgo : W p l e { frames := 5, cells := 0, slots := 0, locals := 123 } s m args below meth c H locs 0 0 Q (F0 m 0 ls []) by rw [eH, eL] at hgo; exact hgo
  clear eH eL
  unfold f_X5_greatestInProduct at hf
  have w_9 : ∀ (n_9 : Nat) (v5_known : Nat → Int32) (y1 : Int32) (y2 : Int32) (y3 : Int32) (y4 : Int32) (H : Heap) (locs : List Loc) (ls : Array Slot), (f_X5_greatestInProduct_9 v7_sizes v7_orders v1_table) n_9 v5_known y1 y2 y3 y4 = some (ro, ov5_known) → va_P D xcl (wd_X5 a cyI cyJ v5_known v1_table v7_rows v7_lengths v7_sizes v7_rests v7_orders) H → va_D A (wd_X5 a cyI cyJ v5_known v1_table v7_rows v7_lengths v7_sizes v7_rests v7_orders) → va_S A s.heap H locs → lv_has ls 5 [(0, .ref (a 15)), (1, .int y1), (2, .int y2), (3, .int y3), (4, .int y4)] → W p l e { frames := 5, cells := 0, slots := 0, locals := 123 } s m args below meth c H locs 0 0 Q (F0 m 9 ls []) := by
    intro n_9
    induction n_9 with
    | zero => intro v5_known y1 y2 y3 y4 H locs ls hf; exact absurd hf (by intro h9; cases h9)
    | succ n_9 w_9 =>
      intro v5_known y1 y2 y3 y4 H locs ls hf hP hD hS hl
      have hf : gf_X5_greatestInProduct_9 ((f_X5_greatestInProduct_9 v7_sizes v7_orders v1_table) n_9) v7_sizes v7_orders v1_table v5_known y1 y2 y3 y4 = some (ro, ov5_known) := hf
      unfold gf_X5_greatestInProduct_9 at hf
      refine lv_iload hx hb dX5_greatestInProduct_9 (lv_at hl 4 rfl) ?_
      refine lv_aload_n hx hb dX5_greatestInProduct_11 rfl (lv_at hl 0 rfl) ?_
      refine lv_iload_n hx hb dX5_greatestInProduct_12 rfl (lv_at hl 1 rfl) ?_
      obtain ⟨r_9, hk_10, hf⟩ := pe_1 hf
      refine xv_i (As := [.int y1]) (rest := [.int y4]) (q0 := 0) (ci := 5) Cx hP hD hS hl (pl_X5_X5 a cyI cyJ v5_known v1_table v7_rows v7_lengths v7_sizes v7_rests v7_orders v5_known v1_table v7_rows v7_lengths v7_sizes v7_rests v7_orders) (c_X5_end l D cyI cyJ G a H.size v5_known v1_table v7_rows v7_lengths v7_sizes v7_rests v7_orders y1 r_9 hk_10) pk_X5_end mw_2_208 ⟨rfl, rfl, Nat.le_of_ble_eq_true rfl, Nat.le_of_ble_eq_true rfl⟩ rfl rfl rfl rfl rfl (Nat.le_of_ble_eq_true rfl) ⟨Nat.le_of_ble_eq_true rfl, Nat.le_of_ble_eq_true rfl⟩ dX5_greatestInProduct_13 (fun H locs hP hD hS => ?_)
      refine lv_icmp_ge (tgt := 38) hx hb dX5_greatestInProduct_16 (by decide) (fun hc_11 => ?_) (fun hc_11 => ?_)
      · have hf := pe_t hf hc_11
        refine lv_iload_n hx hb dX5_greatestInProduct_38 rfl (lv_at hl 3 rfl) ?_
        obtain ⟨rfl, rfl⟩ := po_2 hf
        rw [← hQ]; exact xe_iret Cx rfl hP hD hS dX5_greatestInProduct_39
      · have hf := pe_f hf hc_11
        refine lv_iload_n hx hb dX5_greatestInProduct_19 rfl (lv_at hl 3 rfl) ?_
        refine lv_aload_n hx hb dX5_greatestInProduct_20 rfl (lv_at hl 0 rfl) ?_
        refine lv_iload_n hx hb dX5_greatestInProduct_21 rfl (lv_at hl 1 rfl) ?_
        refine lv_iload_n hx hb dX5_greatestInProduct_22 rfl (lv_at hl 2 rfl) ?_
        refine lv_iload hx hb dX5_greatestInProduct_23 (lv_at hl 4 rfl) ?_
        obtain ⟨r_12, v5_known_13, hk_14, hf⟩ := pe_2 hf
        refine xv_i (As := [.int y1, .int y2, .int y4]) (rest := [.int y3]) (q0 := 0) (ci := 5) Cx hP hD hS hl (pl_X5_X5 a cyI cyJ v5_known v1_table v7_rows v7_lengths v7_sizes v7_rests v7_orders v5_known_13 v1_table v7_rows v7_lengths v7_sizes v7_rests v7_orders) (c_X5_at l D cyI cyJ G a H.size v5_known v1_table v7_rows v7_lengths v7_sizes v7_rests v7_orders y1 y2 y4 r_12 v5_known_13 hk_14) pk_X5_at mw_2_212 ⟨rfl, rfl, Nat.le_of_ble_eq_true rfl, Nat.le_of_ble_eq_true rfl⟩ rfl rfl rfl rfl rfl (Nat.le_of_ble_eq_true rfl) ⟨Nat.le_of_ble_eq_true rfl, Nat.le_of_ble_eq_true rfl⟩ dX5_greatestInProduct_25 (fun H locs hP hD hS => ?_)
        refine va_mmax hx hb (hml.trans hl.1.symm) hown (hts _ mw_2_179) (hts _ mw_2_180) (hts _ mw_1_12) (hts _ mw_2_181) (Nat.le_of_ble_eq_true rfl) (Nat.le_of_ble_eq_true rfl) (Nat.zero_le _) (Nat.zero_le _) dX5_greatestInProduct_28 ?_
        refine lv_istore_n (lv' := [(3, .int (if y3 < r_12 then r_12 else y3)), (0, .ref (a 15)), (1, .int y1), (2, .int y2), (4, .int y4)]) hx hb dX5_greatestInProduct_31 rfl hl (by decide) rfl (fun ls hl => ?_)
        refine lv_iinc (v := (y4 + (1 : Int32))) (lv' := [(4, .int (y4 + (1 : Int32))), (3, .int (if y3 < r_12 then r_12 else y3)), (0, .ref (a 15)), (1, .int y1), (2, .int y2)]) hx hb dX5_greatestInProduct_32 hl (k := 4) rfl rfl (by decide) rfl (fun ls hl => ?_)
        refine lv_goto (tgt := 9) hx hb dX5_greatestInProduct_35 (by decide) ?_
        exact w_9 v5_known_13 y1 y2 (if y3 < r_12 then r_12 else y3) (y4 + (1 : Int32)) H locs ls hf hP hD hS (lv_sub hl [2, 3, 4, 1, 0] rfl)
  refine lv_iconst (v := (0 : Int32)) hx hb dX5_greatestInProduct_0 (by decide) ?_
  refine lv_istore_n (lv' := [(3, .int (0 : Int32)), (0, .ref (a 15)), (1, .int x1), (2, .int x2)]) hx hb dX5_greatestInProduct_1 rfl hl (by decide) rfl (fun ls hl => ?_)
  refine lv_aload_n hx hb dX5_greatestInProduct_2 rfl (lv_at hl 1 rfl) ?_
  refine lv_iload_n hx hb dX5_greatestInProduct_3 rfl (lv_at hl 2 rfl) ?_
  obtain ⟨r_15, hk_16, hf⟩ := pe_1 hf
  refine xv_i (As := [.int x1]) (rest := []) (q0 := 0) (ci := 5) Cx hP hD hS hl (pl_X5_X5 a cyI cyJ v5_known v1_table v7_rows v7_lengths v7_sizes v7_rests v7_orders v5_known v1_table v7_rows v7_lengths v7_sizes v7_rests v7_orders) (c_X5_first l D cyI cyJ G a H.size v5_known v1_table v7_rows v7_lengths v7_sizes v7_rests v7_orders x1 r_15 hk_16) pk_X5_first mw_2_204 ⟨rfl, rfl, Nat.le_of_ble_eq_true rfl, Nat.le_of_ble_eq_true rfl⟩ rfl rfl rfl rfl rfl (Nat.le_of_ble_eq_true rfl) ⟨Nat.le_of_ble_eq_true rfl, Nat.le_of_ble_eq_true rfl⟩ dX5_greatestInProduct_4 (fun H locs hP hD hS => ?_)
  refine lv_istore (lv' := [(4, .int r_15), (3, .int (0 : Int32)), (0, .ref (a 15)), (1, .int x1), (2, .int x2)]) hx hb dX5_greatestInProduct_7 hl (by decide) rfl (fun ls hl => ?_)
  exact w_9 1000 v5_known x1 x2 (0 : Int32) r_15 H locs ls hf hP hD hS (lv_sub hl [2, 3, 4, 1, 0] rfl)
def f_X5_grownTo (v7_rows : Nat → Int32) (v7_lengths : Nat → Int32) (v7_sizes : Nat → Int32) (v7_orders : Nat → Int32) (v1_table : Nat → Int32) (v5_known : Nat → Int32) (x1 : Int32) (x2 : Int32) (x3 : Int32) (x4 : Int32) : Option (Int32 × (Nat → Int32)) := p_b1 (f_X7_grownTo v7_rows v7_lengths v7_sizes x1 x4) (fun r_1 => p_b1 (f_X7_grownTo v7_rows v7_lengths v7_sizes x2 x4) (fun r_3 => p_b1 (f_X7_grownTo v7_rows v7_lengths v7_sizes x3 x4) (fun r_5 => if r_1 < 0 then (some ((-9 : Int32), v5_known)) else (if r_3 < 0 then (some ((-9 : Int32), v5_known)) else (if 0 ≤ r_5 then (p_b2 (f_X5_at v7_sizes v7_orders v1_table v5_known r_1 r_3 r_5) (fun r_10 v5_known_11 => some (r_10, v5_known_11))) else (some ((-9 : Int32), v5_known)))))))
set_option maxHeartbeats 4000000 in
set_option maxRecDepth 20000 in
theorem c_X5_grownTo (l : Launch) (D : va_G) (cyI cyJ : ClassId) (G a : Nat → Nat) (sz : Nat) (v5_known : Nat → Int32) (v1_table : Nat → Int32) (v7_rows : Nat → Int32) (v7_lengths : Nat → Int32) (v7_sizes : Nat → Int32) (v7_rests : Nat → Int32) (v7_orders : Nat → Int32) (x1 : Int32) (x2 : Int32) (x3 : Int32) (x4 : Int32) (ro : Int32) (ov5_known : Nat → Int32) (hf : f_X5_grownTo v7_rows v7_lengths v7_sizes v7_orders v1_table v5_known x1 x2 x3 x4 = some (ro, ov5_known)) : xm_i l yX5_grownTo (Cond.code yX5_grownTo cX5_grownTo 8 (some .int) :: xg_tbl) { frames := 5, cells := 0, slots := 0, locals := 123 } D xcl [(cyI, .int), (cyJ, .long)] G sz [.ref (a 15), .int x1, .int x2, .int x3, .int x4] (wd_X5 a cyI cyJ v5_known v1_table v7_rows v7_lengths v7_sizes v7_rests v7_orders) (wd_X5 a cyI cyJ ov5_known v1_table v7_rows v7_lengths v7_sizes v7_rests v7_orders) ro := by
  refine xm_of_i (own := RX5) (by decide) rfl rfl (Nat.le_of_ble_eq_true rfl) ?_
  intro p e s m args below meth c ls Q A hQ hAe hin Cx hsz hP hD hS hl
  have Cx1 := Cx
  obtain ⟨⟨hx, hb, hml, hown, hts⟩, hr, hlocks, hK, hA, hT⟩ := Cx1
  have hl : lv_has ls 8 [(0, .ref (a 15)), (1, .int x1), (2, .int x2), (3, .int x3), (4, .int x4)] := hl
  obtain ⟨H, eH⟩ : ∃ H, H = s.heap := ⟨_, rfl⟩
  obtain ⟨locs, eL⟩ : ∃ L : List Loc, L = [] := ⟨_, rfl⟩
  rw [← eH] at hP
  have hS : va_S A s.heap H locs := by rw [eH, eL]; exact hS
  suffices hgo : W p l e { frames := 5, cells := 0, slots := 0, locals := 123 } s m args below meth c H locs 0 0 Q (F0 m 0 ls []) by rw [eH, eL] at hgo; exact hgo
  clear eH eL
  unfold f_X5_grownTo at hf
  refine lv_aload_n hx hb dX5_grownTo_0 rfl (lv_at hl 0 rfl) ?_
  refine va_get (ci := 5) (v := .ref (a 2)) hx hb hts wX5_in hown hK hP 0 rfl rfl 0 (by decide) (hts _ mw_1_206) (fun _ h9 => h9) rfl dX5_grownTo_1 ?_
  refine lv_iload_n hx hb dX5_grownTo_4 rfl (lv_at hl 1 rfl) ?_
  refine lv_iload hx hb dX5_grownTo_5 (lv_at hl 4 rfl) ?_
  obtain ⟨r_13, hk_14, hf⟩ := pe_1 hf
  refine xv_i (As := [.int x1, .int x4]) (rest := []) (q0 := 0) (ci := 7) Cx hP hD hS hl (pl_X5_X7 a cyI cyJ v5_known v1_table v7_rows v7_lengths v7_sizes v7_rests v7_orders v7_rows v7_lengths v7_sizes v7_rests v7_orders) (c_X7_grownTo l D cyI cyJ G a H.size v7_rows v7_lengths v7_sizes v7_rests v7_orders x1 x4 r_13 hk_14) pk_X7_grownTo mw_3_5 ⟨rfl, rfl, Nat.le_of_ble_eq_true rfl, Nat.le_of_ble_eq_true rfl⟩ rfl rfl rfl rfl rfl (Nat.le_of_ble_eq_true rfl) ⟨Nat.le_of_ble_eq_true rfl, Nat.le_of_ble_eq_true rfl⟩ dX5_grownTo_7 (fun H locs hP hD hS => ?_)
  refine lv_istore (lv' := [(5, .int r_13), (0, .ref (a 15)), (1, .int x1), (2, .int x2), (3, .int x3), (4, .int x4)]) hx hb dX5_grownTo_10 hl (by decide) rfl (fun ls hl => ?_)
  refine lv_aload_n hx hb dX5_grownTo_12 rfl (lv_at hl 1 rfl) ?_
  refine va_get (ci := 5) (v := .ref (a 2)) hx hb hts wX5_in hown hK hP 0 rfl rfl 0 (by decide) (hts _ mw_1_206) (fun _ h9 => h9) rfl dX5_grownTo_13 ?_
  refine lv_iload_n hx hb dX5_grownTo_16 rfl (lv_at hl 3 rfl) ?_
  refine lv_iload hx hb dX5_grownTo_17 (lv_at hl 5 rfl) ?_
  obtain ⟨r_15, hk_16, hf⟩ := pe_1 hf
  refine xv_i (As := [.int x2, .int x4]) (rest := []) (q0 := 0) (ci := 7) Cx hP hD hS hl (pl_X5_X7 a cyI cyJ v5_known v1_table v7_rows v7_lengths v7_sizes v7_rests v7_orders v7_rows v7_lengths v7_sizes v7_rests v7_orders) (c_X7_grownTo l D cyI cyJ G a H.size v7_rows v7_lengths v7_sizes v7_rests v7_orders x2 x4 r_15 hk_16) pk_X7_grownTo mw_3_5 ⟨rfl, rfl, Nat.le_of_ble_eq_true rfl, Nat.le_of_ble_eq_true rfl⟩ rfl rfl rfl rfl rfl (Nat.le_of_ble_eq_true rfl) ⟨Nat.le_of_ble_eq_true rfl, Nat.le_of_ble_eq_true rfl⟩ dX5_grownTo_19 (fun H locs hP hD hS => ?_)
  refine lv_istore (lv' := [(6, .int r_15), (5, .int r_13), (0, .ref (a 15)), (1, .int x1), (2, .int x2), (3, .int x3), (4, .int x4)]) hx hb dX5_grownTo_22 hl (by decide) rfl (fun ls hl => ?_)
  refine lv_aload_n hx hb dX5_grownTo_24 rfl (lv_at hl 2 rfl) ?_
  refine va_get (ci := 5) (v := .ref (a 2)) hx hb hts wX5_in hown hK hP 0 rfl rfl 0 (by decide) (hts _ mw_1_206) (fun _ h9 => h9) rfl dX5_grownTo_25 ?_
  refine lv_iload_n hx hb dX5_grownTo_28 rfl (lv_at hl 5 rfl) ?_
  refine lv_iload hx hb dX5_grownTo_29 (lv_at hl 6 rfl) ?_
  obtain ⟨r_17, hk_18, hf⟩ := pe_1 hf
  refine xv_i (As := [.int x3, .int x4]) (rest := []) (q0 := 0) (ci := 7) Cx hP hD hS hl (pl_X5_X7 a cyI cyJ v5_known v1_table v7_rows v7_lengths v7_sizes v7_rests v7_orders v7_rows v7_lengths v7_sizes v7_rests v7_orders) (c_X7_grownTo l D cyI cyJ G a H.size v7_rows v7_lengths v7_sizes v7_rests v7_orders x3 x4 r_17 hk_18) pk_X7_grownTo mw_3_5 ⟨rfl, rfl, Nat.le_of_ble_eq_true rfl, Nat.le_of_ble_eq_true rfl⟩ rfl rfl rfl rfl rfl (Nat.le_of_ble_eq_true rfl) ⟨Nat.le_of_ble_eq_true rfl, Nat.le_of_ble_eq_true rfl⟩ dX5_grownTo_31 (fun H locs hP hD hS => ?_)
  refine lv_istore (lv' := [(7, .int r_17), (6, .int r_15), (5, .int r_13), (0, .ref (a 15)), (1, .int x1), (2, .int x2), (3, .int x3), (4, .int x4)]) hx hb dX5_grownTo_34 hl (by decide) rfl (fun ls hl => ?_)
  refine lv_iload hx hb dX5_grownTo_36 (lv_at hl 2 rfl) ?_
  refine lv_if_lt (tgt := 51) hx hb dX5_grownTo_38 (by decide) (fun hc_19 => ?_) (fun hc_19 => ?_)
  · have hf := pe_t hf hc_19
    refine lv_bipush (v := (-9 : Int32)) hx hb dX5_grownTo_51 (by decide) ?_
    obtain ⟨rfl, rfl⟩ := po_2 hf
    rw [← hQ]; exact xe_iret Cx rfl hP hD hS dX5_grownTo_53
  · have hf := pe_f hf hc_19
    refine lv_iload hx hb dX5_grownTo_41 (lv_at hl 1 rfl) ?_
    refine lv_if_lt (tgt := 51) hx hb dX5_grownTo_43 (by decide) (fun hc_20 => ?_) (fun hc_20 => ?_)
    · have hf := pe_t hf hc_20
      refine lv_bipush (v := (-9 : Int32)) hx hb dX5_grownTo_51 (by decide) ?_
      obtain ⟨rfl, rfl⟩ := po_2 hf
      rw [← hQ]; exact xe_iret Cx rfl hP hD hS dX5_grownTo_53
    · have hf := pe_f hf hc_20
      refine lv_iload hx hb dX5_grownTo_46 (lv_at hl 0 rfl) ?_
      refine lv_if_ge (tgt := 54) hx hb dX5_grownTo_48 (by decide) (fun hc_21 => ?_) (fun hc_21 => ?_)
      · have hf := pe_t hf hc_21
        refine lv_aload_n hx hb dX5_grownTo_54 rfl (lv_at hl 3 rfl) ?_
        refine lv_iload hx hb dX5_grownTo_55 (lv_at hl 2 rfl) ?_
        refine lv_iload hx hb dX5_grownTo_57 (lv_at hl 1 rfl) ?_
        refine lv_iload hx hb dX5_grownTo_59 (lv_at hl 0 rfl) ?_
        obtain ⟨r_22, v5_known_23, hk_24, hf⟩ := pe_2 hf
        refine xv_i (As := [.int r_13, .int r_15, .int r_17]) (rest := []) (q0 := 0) (ci := 5) Cx hP hD hS hl (pl_X5_X5 a cyI cyJ v5_known v1_table v7_rows v7_lengths v7_sizes v7_rests v7_orders v5_known_23 v1_table v7_rows v7_lengths v7_sizes v7_rests v7_orders) (c_X5_at l D cyI cyJ G a H.size v5_known v1_table v7_rows v7_lengths v7_sizes v7_rests v7_orders r_13 r_15 r_17 r_22 v5_known_23 hk_24) pk_X5_at mw_2_212 ⟨rfl, rfl, Nat.le_of_ble_eq_true rfl, Nat.le_of_ble_eq_true rfl⟩ rfl rfl rfl rfl rfl (Nat.le_of_ble_eq_true rfl) ⟨Nat.le_of_ble_eq_true rfl, Nat.le_of_ble_eq_true rfl⟩ dX5_grownTo_61 (fun H locs hP hD hS => ?_)
        obtain ⟨rfl, rfl⟩ := po_2 hf
        rw [← hQ]; exact xe_iret Cx rfl hP hD hS dX5_grownTo_64
      · have hf := pe_f hf hc_21
        refine lv_bipush (v := (-9 : Int32)) hx hb dX5_grownTo_51 (by decide) ?_
        obtain ⟨rfl, rfl⟩ := po_2 hf
        rw [← hQ]; exact xe_iret Cx rfl hP hD hS dX5_grownTo_53
