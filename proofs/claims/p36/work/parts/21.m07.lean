def gf_X7_readRows_14 (K_14 : (Nat → Int32) → (Nat → Int32) → (Nat → Int32) → Int32 → Int32 → Int32 → Int32 → Int32 → Option ((Nat → Int32) × (Nat → Int32) × (Nat → Int32))) (v7_rows : Nat → Int32) (v7_lengths : Nat → Int32) (v7_sizes : Nat → Int32) (y1 : Int32) (y2 : Int32) (y3 : Int32) (y4 : Int32) (y5 : Int32) : Option ((Nat → Int32) × (Nat → Int32) × (Nat → Int32)) := if y5 < 0 then (p_in y1 67 (p_in y1 67 (some (v7_rows, (upd v7_lengths (Int32.toNatClampNeg y1) y3), (upd v7_sizes (Int32.toNatClampNeg y1) y4))))) else (p_in y1 67 (if (((xi_KEYS (Int32.toNatClampNeg y1)) >>> ((y5 * (4 : Int32)) &&& 31)) &&& (15 : Int32)) ≤ 0 then (K_14 v7_rows v7_lengths v7_sizes y1 y2 y3 y4 (y5 + (-1 : Int32))) else (if (8 : Int32) ≤ y3 then (K_14 v7_rows v7_lengths v7_sizes y1 y2 y3 y4 (y5 + (-1 : Int32))) else (p_in (y2 + y3) 536 (K_14 (upd v7_rows (Int32.toNatClampNeg (y2 + y3)) (((xi_KEYS (Int32.toNatClampNeg y1)) >>> ((y5 * (4 : Int32)) &&& 31)) &&& (15 : Int32))) v7_lengths v7_sizes y1 y2 (y3 + (1 : Int32)) (y4 + (((xi_KEYS (Int32.toNatClampNeg y1)) >>> ((y5 * (4 : Int32)) &&& 31)) &&& (15 : Int32))) (y5 + (-1 : Int32)))))))
def f_X7_readRows_14 : Nat → (Nat → Int32) → (Nat → Int32) → (Nat → Int32) → Int32 → Int32 → Int32 → Int32 → Int32 → Option ((Nat → Int32) × (Nat → Int32) × (Nat → Int32))
  | 0 => fun _ _ _ _ _ _ _ _ => none
  | n + 1 => gf_X7_readRows_14 (f_X7_readRows_14 n)
def f_X7_readRows (v7_rows : Nat → Int32) (v7_lengths : Nat → Int32) (v7_sizes : Nat → Int32) (x1 : Int32) : Option ((Nat → Int32) × (Nat → Int32) × (Nat → Int32)) := (f_X7_readRows_14 1000) v7_rows v7_lengths v7_sizes x1 (x1 * (8 : Int32)) (0 : Int32) (0 : Int32) (7 : Int32)
set_option maxHeartbeats 4000000 in
set_option maxRecDepth 20000 in
theorem c_X7_readRows (l : Launch) (D : va_G) (cyI cyJ : ClassId) (G a : Nat → Nat) (sz : Nat) (v7_rows : Nat → Int32) (v7_lengths : Nat → Int32) (v7_sizes : Nat → Int32) (v7_rests : Nat → Int32) (v7_orders : Nat → Int32) (x1 : Int32) (ov7_rows : Nat → Int32) (ov7_lengths : Nat → Int32) (ov7_sizes : Nat → Int32) (hf : f_X7_readRows v7_rows v7_lengths v7_sizes x1 = some (ov7_rows, ov7_lengths, ov7_sizes)) : xm_v l yX7_readRows (Cond.code yX7_readRows cX7_readRows 7 none :: xg_tbl) { frames := 0, cells := 0, slots := 0, locals := 0 } D xcl [(cyI, .int), (cyJ, .long)] G sz [.ref (a 2), .int x1] (wd_X7 a cyI cyJ v7_rows v7_lengths v7_sizes v7_rests v7_orders) (wd_X7 a cyI cyJ ov7_rows ov7_lengths ov7_sizes v7_rests v7_orders) := by
  refine xm_of_v (own := RX7) (by decide) rfl rfl (Nat.le_of_ble_eq_true rfl) ?_
  intro p e s m args below meth c ls Q A hQ hAe hin Cx hsz hP hD hS hl
  have Cx1 := Cx
  obtain ⟨⟨hx, hb, hml, hown, hts⟩, hr, hlocks, hK, hA, hT⟩ := Cx1
  have hl : lv_has ls 7 [(0, .ref (a 2)), (1, .int x1)] := hl
  obtain ⟨H, eH⟩ : ∃ H, H = s.heap := ⟨_, rfl⟩
  obtain ⟨locs, eL⟩ : ∃ L : List Loc, L = [] := ⟨_, rfl⟩
  rw [← eH] at hP
  have hS : va_S A s.heap H locs := by rw [eH, eL]; exact hS
  suffices hgo : W p l e { frames := 0, cells := 0, slots := 0, locals := 0 } s m args below meth c H locs 0 0 Q (F0 m 0 ls []) by rw [eH, eL] at hgo; exact hgo
  clear eH eL
  unfold f_X7_readRows at hf
  have w_14 : ∀ (n_14 : Nat) (v7_rows : Nat → Int32) (v7_lengths : Nat → Int32) (v7_sizes : Nat → Int32) (y1 : Int32) (y2 : Int32) (y3 : Int32) (y4 : Int32) (y5 : Int32) (H : Heap) (locs : List Loc) (ls : Array Slot), f_X7_readRows_14 n_14 v7_rows v7_lengths v7_sizes y1 y2 y3 y4 y5 = some (ov7_rows, ov7_lengths, ov7_sizes) → va_P D xcl (wd_X7 a cyI cyJ v7_rows v7_lengths v7_sizes v7_rests v7_orders) H → va_D A (wd_X7 a cyI cyJ v7_rows v7_lengths v7_sizes v7_rests v7_orders) → va_S A s.heap H locs → lv_has ls 7 [(0, .ref (a 2)), (1, .int y1), (2, .int y2), (3, .int y3), (4, .int y4), (5, .int y5)] → W p l e { frames := 0, cells := 0, slots := 0, locals := 0 } s m args below meth c H locs 0 0 Q (F0 m 14 ls []) := by
    intro n_14
    induction n_14 with
    | zero => intro v7_rows v7_lengths v7_sizes y1 y2 y3 y4 y5 H locs ls hf; exact absurd hf (by intro h9; cases h9)
    | succ n_14 w_14 =>
      intro v7_rows v7_lengths v7_sizes y1 y2 y3 y4 y5 H locs ls hf hP hD hS hl
      have hf : gf_X7_readRows_14 (f_X7_readRows_14 n_14) v7_rows v7_lengths v7_sizes y1 y2 y3 y4 y5 = some (ov7_rows, ov7_lengths, ov7_sizes) := hf
      unfold gf_X7_readRows_14 at hf
      refine lv_iload hx hb dX7_readRows_14 (lv_at hl 5 rfl) ?_
      refine lv_if_lt (tgt := 71) hx hb dX7_readRows_16 (by decide) (fun hc_8 => ?_) (fun hc_8 => ?_)
      · have hf := pe_t hf hc_8
        refine lv_aload_n hx hb dX7_readRows_71 rfl (lv_at hl 0 rfl) ?_
        refine va_get (ci := 7) (v := .ref (a 4)) hx hb hts wX7_in hown hK hP 0 rfl rfl 1 (by decide) (hts _ mw_1_89) (fun _ h9 => h9) rfl dX7_readRows_72 ?_
        refine lv_iload_n hx hb dX7_readRows_75 rfl (lv_at hl 1 rfl) ?_
        refine lv_iload_n hx hb dX7_readRows_76 rfl (lv_at hl 3 rfl) ?_
        obtain ⟨hi_9, hf⟩ := pe_in hf
        refine va_iast hx hb hK hP hD hS 2 0 rfl rfl hi_9 dX7_readRows_77 (fun H locs hP hD hS => ?_)
        have hP : va_P D xcl (wd_X7 a cyI cyJ v7_rows (upd v7_lengths (Int32.toNatClampNeg y1) y3) v7_sizes v7_rests v7_orders) H := hP
        have hD : va_D A (wd_X7 a cyI cyJ v7_rows (upd v7_lengths (Int32.toNatClampNeg y1) y3) v7_sizes v7_rests v7_orders) := hD
        refine lv_aload_n hx hb dX7_readRows_78 rfl (lv_at hl 0 rfl) ?_
        refine va_get (ci := 7) (v := .ref (a 5)) hx hb hts wX7_in hown hK hP 0 rfl rfl 2 (by decide) (hts _ mw_1_90) (fun _ h9 => h9) rfl dX7_readRows_79 ?_
        refine lv_iload_n hx hb dX7_readRows_82 rfl (lv_at hl 1 rfl) ?_
        refine lv_iload hx hb dX7_readRows_83 (lv_at hl 4 rfl) ?_
        obtain ⟨hi_10, hf⟩ := pe_in hf
        refine va_iast hx hb hK hP hD hS 3 0 rfl rfl hi_10 dX7_readRows_85 (fun H locs hP hD hS => ?_)
        have hP : va_P D xcl (wd_X7 a cyI cyJ v7_rows (upd v7_lengths (Int32.toNatClampNeg y1) y3) (upd v7_sizes (Int32.toNatClampNeg y1) y4) v7_rests v7_orders) H := hP
        have hD : va_D A (wd_X7 a cyI cyJ v7_rows (upd v7_lengths (Int32.toNatClampNeg y1) y3) (upd v7_sizes (Int32.toNatClampNeg y1) y4) v7_rests v7_orders) := hD
        obtain ⟨rfl, rfl, rfl⟩ := po_3 hf
        rw [← hQ]; exact xe_vret Cx hP hD hS dX7_readRows_86
      · have hf := pe_f hf hc_8
        refine va_gets hx hb hT.1.1 hS hown (hts _ mw_1_40) (fun _ h9 => h9) dX7_readRows_19 ?_
        refine lv_iload_n hx hb dX7_readRows_22 rfl (lv_at hl 1 rfl) ?_
        obtain ⟨hi_11, hf⟩ := pe_in hf
        refine va_ti hx hb hT.1.2 hS hi_11 (v := .int (xi_KEYS (Int32.toNatClampNeg y1))) rfl dX7_readRows_23 ?_
        refine lv_iload hx hb dX7_readRows_24 (lv_at hl 5 rfl) ?_
        refine lv_iconst (v := (4 : Int32)) hx hb dX7_readRows_26 (by decide) ?_
        refine lv_imul hx hb dX7_readRows_27 ?_
        refine lv_ishr hx hb dX7_readRows_28 ?_
        refine lv_bipush (v := (15 : Int32)) hx hb dX7_readRows_29 (by decide) ?_
        refine lv_iand hx hb dX7_readRows_31 ?_
        refine lv_istore (lv' := [(6, .int (((xi_KEYS (Int32.toNatClampNeg y1)) >>> ((y5 * (4 : Int32)) &&& 31)) &&& (15 : Int32))), (0, .ref (a 2)), (1, .int y1), (2, .int y2), (3, .int y3), (4, .int y4), (5, .int y5)]) hx hb dX7_readRows_32 hl (by decide) rfl (fun ls hl => ?_)
        refine lv_iload hx hb dX7_readRows_34 (lv_at hl 0 rfl) ?_
        refine lv_if_le (tgt := 65) hx hb dX7_readRows_36 (by decide) (fun hc_12 => ?_) (fun hc_12 => ?_)
        · have hf := pe_t hf hc_12
          refine lv_iinc (v := (y5 + (-1 : Int32))) (lv' := [(5, .int (y5 + (-1 : Int32))), (6, .int (((xi_KEYS (Int32.toNatClampNeg y1)) >>> ((y5 * (4 : Int32)) &&& 31)) &&& (15 : Int32))), (0, .ref (a 2)), (1, .int y1), (2, .int y2), (3, .int y3), (4, .int y4)]) hx hb dX7_readRows_65 hl (k := 6) rfl rfl (by decide) rfl (fun ls hl => ?_)
          refine lv_goto (tgt := 14) hx hb dX7_readRows_68 (by decide) ?_
          exact w_14 v7_rows v7_lengths v7_sizes y1 y2 y3 y4 (y5 + (-1 : Int32)) H locs ls hf hP hD hS (lv_sub hl [2, 3, 4, 5, 6, 0] rfl)
        · have hf := pe_f hf hc_12
          refine lv_iload_n hx hb dX7_readRows_39 rfl (lv_at hl 4 rfl) ?_
          refine lv_bipush (v := (8 : Int32)) hx hb dX7_readRows_40 (by decide) ?_
          refine lv_icmp_ge (tgt := 65) hx hb dX7_readRows_42 (by decide) (fun hc_13 => ?_) (fun hc_13 => ?_)
          · have hf := pe_t hf hc_13
            refine lv_iinc (v := (y5 + (-1 : Int32))) (lv' := [(5, .int (y5 + (-1 : Int32))), (6, .int (((xi_KEYS (Int32.toNatClampNeg y1)) >>> ((y5 * (4 : Int32)) &&& 31)) &&& (15 : Int32))), (0, .ref (a 2)), (1, .int y1), (2, .int y2), (3, .int y3), (4, .int y4)]) hx hb dX7_readRows_65 hl (k := 6) rfl rfl (by decide) rfl (fun ls hl => ?_)
            refine lv_goto (tgt := 14) hx hb dX7_readRows_68 (by decide) ?_
            exact w_14 v7_rows v7_lengths v7_sizes y1 y2 y3 y4 (y5 + (-1 : Int32)) H locs ls hf hP hD hS (lv_sub hl [2, 3, 4, 5, 6, 0] rfl)
          · have hf := pe_f hf hc_13
            refine lv_aload_n hx hb dX7_readRows_45 rfl (lv_at hl 1 rfl) ?_
            refine va_get (ci := 7) (v := .ref (a 3)) hx hb hts wX7_in hown hK hP 0 rfl rfl 0 (by decide) (hts _ mw_1_88) (fun _ h9 => h9) rfl dX7_readRows_46 ?_
            refine lv_iload_n hx hb dX7_readRows_49 rfl (lv_at hl 3 rfl) ?_
            refine lv_iload_n hx hb dX7_readRows_50 rfl (lv_at hl 4 rfl) ?_
            refine lv_iadd hx hb dX7_readRows_51 ?_
            refine lv_iload hx hb dX7_readRows_52 (lv_at hl 0 rfl) ?_
            obtain ⟨hi_14, hf⟩ := pe_in hf
            refine va_iast hx hb hK hP hD hS 1 0 rfl rfl hi_14 dX7_readRows_54 (fun H locs hP hD hS => ?_)
            have hP : va_P D xcl (wd_X7 a cyI cyJ (upd v7_rows (Int32.toNatClampNeg (y2 + y3)) (((xi_KEYS (Int32.toNatClampNeg y1)) >>> ((y5 * (4 : Int32)) &&& 31)) &&& (15 : Int32))) v7_lengths v7_sizes v7_rests v7_orders) H := hP
            have hD : va_D A (wd_X7 a cyI cyJ (upd v7_rows (Int32.toNatClampNeg (y2 + y3)) (((xi_KEYS (Int32.toNatClampNeg y1)) >>> ((y5 * (4 : Int32)) &&& 31)) &&& (15 : Int32))) v7_lengths v7_sizes v7_rests v7_orders) := hD
            refine lv_iinc (v := (y3 + (1 : Int32))) (lv' := [(3, .int (y3 + (1 : Int32))), (6, .int (((xi_KEYS (Int32.toNatClampNeg y1)) >>> ((y5 * (4 : Int32)) &&& 31)) &&& (15 : Int32))), (0, .ref (a 2)), (1, .int y1), (2, .int y2), (4, .int y4), (5, .int y5)]) hx hb dX7_readRows_55 hl (k := 4) rfl rfl (by decide) rfl (fun ls hl => ?_)
            refine lv_iload hx hb dX7_readRows_58 (lv_at hl 5 rfl) ?_
            refine lv_iload hx hb dX7_readRows_60 (lv_at hl 1 rfl) ?_
            refine lv_iadd hx hb dX7_readRows_62 ?_
            refine lv_istore (lv' := [(4, .int (y4 + (((xi_KEYS (Int32.toNatClampNeg y1)) >>> ((y5 * (4 : Int32)) &&& 31)) &&& (15 : Int32)))), (3, .int (y3 + (1 : Int32))), (6, .int (((xi_KEYS (Int32.toNatClampNeg y1)) >>> ((y5 * (4 : Int32)) &&& 31)) &&& (15 : Int32))), (0, .ref (a 2)), (1, .int y1), (2, .int y2), (5, .int y5)]) hx hb dX7_readRows_63 hl (by decide) rfl (fun ls hl => ?_)
            refine lv_iinc (v := (y5 + (-1 : Int32))) (lv' := [(5, .int (y5 + (-1 : Int32))), (4, .int (y4 + (((xi_KEYS (Int32.toNatClampNeg y1)) >>> ((y5 * (4 : Int32)) &&& 31)) &&& (15 : Int32)))), (3, .int (y3 + (1 : Int32))), (6, .int (((xi_KEYS (Int32.toNatClampNeg y1)) >>> ((y5 * (4 : Int32)) &&& 31)) &&& (15 : Int32))), (0, .ref (a 2)), (1, .int y1), (2, .int y2)]) hx hb dX7_readRows_65 hl (k := 6) rfl rfl (by decide) rfl (fun ls hl => ?_)
            refine lv_goto (tgt := 14) hx hb dX7_readRows_68 (by decide) ?_
            exact w_14 (upd v7_rows (Int32.toNatClampNeg (y2 + y3)) (((xi_KEYS (Int32.toNatClampNeg y1)) >>> ((y5 * (4 : Int32)) &&& 31)) &&& (15 : Int32))) v7_lengths v7_sizes y1 y2 (y3 + (1 : Int32)) (y4 + (((xi_KEYS (Int32.toNatClampNeg y1)) >>> ((y5 * (4 : Int32)) &&& 31)) &&& (15 : Int32))) (y5 + (-1 : Int32)) H locs ls hf hP hD hS (lv_sub hl [4, 5, 6, 2, 1, 0] rfl)
  refine lv_iload_n hx hb dX7_readRows_0 rfl (lv_at hl 1 rfl) ?_
  refine lv_bipush (v := (8 : Int32)) hx hb dX7_readRows_1 (by decide) ?_
  refine lv_imul hx hb dX7_readRows_3 ?_
  refine lv_istore_n (lv' := [(2, .int (x1 * (8 : Int32))), (0, .ref (a 2)), (1, .int x1)]) hx hb dX7_readRows_4 rfl hl (by decide) rfl (fun ls hl => ?_)
  refine lv_iconst (v := (0 : Int32)) hx hb dX7_readRows_5 (by decide) ?_
  refine lv_istore_n (lv' := [(3, .int (0 : Int32)), (2, .int (x1 * (8 : Int32))), (0, .ref (a 2)), (1, .int x1)]) hx hb dX7_readRows_6 rfl hl (by decide) rfl (fun ls hl => ?_)
  refine lv_iconst (v := (0 : Int32)) hx hb dX7_readRows_7 (by decide) ?_
  refine lv_istore (lv' := [(4, .int (0 : Int32)), (3, .int (0 : Int32)), (2, .int (x1 * (8 : Int32))), (0, .ref (a 2)), (1, .int x1)]) hx hb dX7_readRows_8 hl (by decide) rfl (fun ls hl => ?_)
  refine lv_bipush (v := (7 : Int32)) hx hb dX7_readRows_10 (by decide) ?_
  refine lv_istore (lv' := [(5, .int (7 : Int32)), (4, .int (0 : Int32)), (3, .int (0 : Int32)), (2, .int (x1 * (8 : Int32))), (0, .ref (a 2)), (1, .int x1)]) hx hb dX7_readRows_12 hl (by decide) rfl (fun ls hl => ?_)
  exact w_14 1000 v7_rows v7_lengths v7_sizes x1 (x1 * (8 : Int32)) (0 : Int32) (0 : Int32) (7 : Int32) H locs ls hf hP hD hS (lv_sub hl [4, 5, 3, 2, 1, 0] rfl)
def f_X7_has (x1 : Int32) : Option (Int32) := if x1 < 0 then (some ((0 : Int32))) else (if (67 : Int32) ≤ x1 then (some ((0 : Int32))) else (some ((1 : Int32))))
set_option maxHeartbeats 4000000 in
set_option maxRecDepth 20000 in
theorem c_X7_has (l : Launch) (D : va_G) (cyI cyJ : ClassId) (G a : Nat → Nat) (sz : Nat) (v7_rows : Nat → Int32) (v7_lengths : Nat → Int32) (v7_sizes : Nat → Int32) (v7_rests : Nat → Int32) (v7_orders : Nat → Int32) (x1 : Int32) (ro : Int32) (hf : f_X7_has x1 = some ro) : xm_z l yX7_has (Cond.code yX7_has cX7_has 2 (some .boolean) :: xg_tbl) { frames := 0, cells := 0, slots := 0, locals := 0 } D xcl [(cyI, .int), (cyJ, .long)] G sz [.ref (a 2), .int x1] (wd_X7 a cyI cyJ v7_rows v7_lengths v7_sizes v7_rests v7_orders) (wd_X7 a cyI cyJ v7_rows v7_lengths v7_sizes v7_rests v7_orders) ro := by
  refine xm_of_z (own := RX7) (by decide) rfl rfl (Nat.le_of_ble_eq_true rfl) ?_
  intro p e s m args below meth c ls Q A hQ hAe hin Cx hsz hP hD hS hl
  have Cx1 := Cx
  obtain ⟨⟨hx, hb, hml, hown, hts⟩, hr, hlocks, hK, hA, hT⟩ := Cx1
  have hl : lv_has ls 2 [(0, .ref (a 2)), (1, .int x1)] := hl
  obtain ⟨H, eH⟩ : ∃ H, H = s.heap := ⟨_, rfl⟩
  obtain ⟨locs, eL⟩ : ∃ L : List Loc, L = [] := ⟨_, rfl⟩
  rw [← eH] at hP
  have hS : va_S A s.heap H locs := by rw [eH, eL]; exact hS
  suffices hgo : W p l e { frames := 0, cells := 0, slots := 0, locals := 0 } s m args below meth c H locs 0 0 Q (F0 m 0 ls []) by rw [eH, eL] at hgo; exact hgo
  clear eH eL
  unfold f_X7_has at hf
  refine lv_iload_n hx hb dX7_has_0 rfl (lv_at hl 1 rfl) ?_
  refine lv_if_lt (tgt := 14) hx hb dX7_has_1 (by decide) (fun hc_3 => ?_) (fun hc_3 => ?_)
  · have hf := pe_t hf hc_3
    refine lv_iconst (v := (0 : Int32)) hx hb dX7_has_14 (by decide) ?_
    obtain rfl := po_1 hf
    rw [← hQ]; exact xe_zret Cx rfl rfl hP hD hS dX7_has_15
  · have hf := pe_f hf hc_3
    refine lv_iload_n hx hb dX7_has_4 rfl (lv_at hl 1 rfl) ?_
    refine lv_bipush (v := (67 : Int32)) hx hb dX7_has_5 (by decide) ?_
    refine lv_icmp_ge (tgt := 14) hx hb dX7_has_7 (by decide) (fun hc_4 => ?_) (fun hc_4 => ?_)
    · have hf := pe_t hf hc_4
      refine lv_iconst (v := (0 : Int32)) hx hb dX7_has_14 (by decide) ?_
      obtain rfl := po_1 hf
      rw [← hQ]; exact xe_zret Cx rfl rfl hP hD hS dX7_has_15
    · have hf := pe_f hf hc_4
      refine lv_iconst (v := (1 : Int32)) hx hb dX7_has_10 (by decide) ?_
      refine lv_goto (tgt := 15) hx hb dX7_has_11 (by decide) ?_
      obtain rfl := po_1 hf
      rw [← hQ]; exact xe_zret Cx rfl rfl hP hD hS dX7_has_15
def f_X7_lengthOf (v7_lengths : Nat → Int32) (x1 : Int32) : Option (Int32) := p_b1 (f_X7_has x1) (fun r_1 => if r_1 = 0 then (some ((0 : Int32))) else (p_in x1 67 (some ((v7_lengths (Int32.toNatClampNeg x1))))))
set_option maxHeartbeats 4000000 in
set_option maxRecDepth 20000 in
theorem c_X7_lengthOf (l : Launch) (D : va_G) (cyI cyJ : ClassId) (G a : Nat → Nat) (sz : Nat) (v7_rows : Nat → Int32) (v7_lengths : Nat → Int32) (v7_sizes : Nat → Int32) (v7_rests : Nat → Int32) (v7_orders : Nat → Int32) (x1 : Int32) (ro : Int32) (hf : f_X7_lengthOf v7_lengths x1 = some ro) : xm_i l yX7_lengthOf (Cond.code yX7_lengthOf cX7_lengthOf 2 (some .int) :: xg_tbl) { frames := 1, cells := 0, slots := 0, locals := 21 } D xcl [(cyI, .int), (cyJ, .long)] G sz [.ref (a 2), .int x1] (wd_X7 a cyI cyJ v7_rows v7_lengths v7_sizes v7_rests v7_orders) (wd_X7 a cyI cyJ v7_rows v7_lengths v7_sizes v7_rests v7_orders) ro := by
  refine xm_of_i (own := RX7) (by decide) rfl rfl (Nat.le_of_ble_eq_true rfl) ?_
  intro p e s m args below meth c ls Q A hQ hAe hin Cx hsz hP hD hS hl
  have Cx1 := Cx
  obtain ⟨⟨hx, hb, hml, hown, hts⟩, hr, hlocks, hK, hA, hT⟩ := Cx1
  have hl : lv_has ls 2 [(0, .ref (a 2)), (1, .int x1)] := hl
  obtain ⟨H, eH⟩ : ∃ H, H = s.heap := ⟨_, rfl⟩
  obtain ⟨locs, eL⟩ : ∃ L : List Loc, L = [] := ⟨_, rfl⟩
  rw [← eH] at hP
  have hS : va_S A s.heap H locs := by rw [eH, eL]; exact hS
  suffices hgo : W p l e { frames := 1, cells := 0, slots := 0, locals := 21 } s m args below meth c H locs 0 0 Q (F0 m 0 ls []) by rw [eH, eL] at hgo; exact hgo
  clear eH eL
  unfold f_X7_lengthOf at hf
  refine lv_aload_n hx hb dX7_lengthOf_0 rfl (lv_at hl 0 rfl) ?_
  refine lv_iload_n hx hb dX7_lengthOf_1 rfl (lv_at hl 1 rfl) ?_
  obtain ⟨r_6, hk_7, hf⟩ := pe_1 hf
  refine xv_z (As := [.int x1]) (rest := []) (q0 := 0) (ci := 7) Cx hP hD hS hl (pl_X7_X7 a cyI cyJ v7_rows v7_lengths v7_sizes v7_rests v7_orders v7_rows v7_lengths v7_sizes v7_rests v7_orders) (c_X7_has l D cyI cyJ G a H.size v7_rows v7_lengths v7_sizes v7_rests v7_orders x1 r_6 hk_7) pk_X7_has mw_1_46 ⟨rfl, rfl, Nat.le_of_ble_eq_true rfl, Nat.le_of_ble_eq_true rfl⟩ rfl rfl rfl rfl rfl (Nat.le_of_ble_eq_true rfl) ⟨Nat.le_of_ble_eq_true rfl, Nat.le_of_ble_eq_true rfl⟩ dX7_lengthOf_2 (fun H locs hn_8 hP hD hS => ?_)
  refine lv_if_eq (tgt := 17) hx hb dX7_lengthOf_5 (by decide) (fun hc_9 => ?_) (fun hc_9 => ?_)
  · have hf := pe_t hf hc_9
    refine lv_iconst (v := (0 : Int32)) hx hb dX7_lengthOf_17 (by decide) ?_
    obtain rfl := po_1 hf
    rw [← hQ]; exact xe_iret Cx rfl hP hD hS dX7_lengthOf_18
  · have hf := pe_f hf hc_9
    refine lv_aload_n hx hb dX7_lengthOf_8 rfl (lv_at hl 0 rfl) ?_
    refine va_get (ci := 7) (v := .ref (a 4)) hx hb hts wX7_in hown hK hP 0 rfl rfl 1 (by decide) (hts _ mw_1_89) (fun _ h9 => h9) rfl dX7_lengthOf_9 ?_
    refine lv_iload_n hx hb dX7_lengthOf_12 rfl (lv_at hl 1 rfl) ?_
    obtain ⟨hi_10, hf⟩ := pe_in hf
    refine va_iald hx hb hK hP 2 0 rfl rfl hi_10 dX7_lengthOf_13 ?_
    refine lv_goto (tgt := 18) hx hb dX7_lengthOf_14 (by decide) ?_
    obtain rfl := po_1 hf
    rw [← hQ]; exact xe_iret Cx rfl hP hD hS dX7_lengthOf_18
def f_X7_row_23 (v7_rows : Nat → Int32) (y1 : Int32) (y2 : Int32) (z0 : Int32) : Option (Int32) := if z0 = 0 then (some ((0 : Int32))) else (p_in ((y1 * (8 : Int32)) + y2) 536 (some ((v7_rows (Int32.toNatClampNeg ((y1 * (8 : Int32)) + y2))))))
def f_X7_row_22 (K_23 : Int32 → Int32 → Int32 → Option (Int32)) (v7_rows : Nat → Int32) (y1 : Int32) (y2 : Int32) : Option (Int32) := K_23 y1 y2 (0 : Int32)
def f_X7_row (v7_rows : Nat → Int32) (x1 : Int32) (x2 : Int32) : Option (Int32) := p_b1 (f_X7_has x1) (fun r_3 => if r_3 = 0 then ((f_X7_row_22 (f_X7_row_23 v7_rows) v7_rows) x1 x2) else (if x2 < 0 then ((f_X7_row_22 (f_X7_row_23 v7_rows) v7_rows) x1 x2) else (if (8 : Int32) ≤ x2 then ((f_X7_row_22 (f_X7_row_23 v7_rows) v7_rows) x1 x2) else ((f_X7_row_23 v7_rows) x1 x2 (1 : Int32)))))
set_option maxHeartbeats 4000000 in
set_option maxRecDepth 20000 in
theorem c_X7_row (l : Launch) (D : va_G) (cyI cyJ : ClassId) (G a : Nat → Nat) (sz : Nat) (v7_rows : Nat → Int32) (v7_lengths : Nat → Int32) (v7_sizes : Nat → Int32) (v7_rests : Nat → Int32) (v7_orders : Nat → Int32) (x1 : Int32) (x2 : Int32) (ro : Int32) (hf : f_X7_row v7_rows x1 x2 = some ro) : xm_i l yX7_row (Cond.code yX7_row cX7_row 4 (some .int) :: xg_tbl) { frames := 1, cells := 0, slots := 0, locals := 21 } D xcl [(cyI, .int), (cyJ, .long)] G sz [.ref (a 2), .int x1, .int x2] (wd_X7 a cyI cyJ v7_rows v7_lengths v7_sizes v7_rests v7_orders) (wd_X7 a cyI cyJ v7_rows v7_lengths v7_sizes v7_rests v7_orders) ro := by
  refine xm_of_i (own := RX7) (by decide) rfl rfl (Nat.le_of_ble_eq_true rfl) ?_
  intro p e s m args below meth c ls Q A hQ hAe hin Cx hsz hP hD hS hl
  have Cx1 := Cx
  obtain ⟨⟨hx, hb, hml, hown, hts⟩, hr, hlocks, hK, hA, hT⟩ := Cx1
  have hl : lv_has ls 4 [(0, .ref (a 2)), (1, .int x1), (2, .int x2)] := hl
  obtain ⟨H, eH⟩ : ∃ H, H = s.heap := ⟨_, rfl⟩
  obtain ⟨locs, eL⟩ : ∃ L : List Loc, L = [] := ⟨_, rfl⟩
  rw [← eH] at hP
  have hS : va_S A s.heap H locs := by rw [eH, eL]; exact hS
  suffices hgo : W p l e { frames := 1, cells := 0, slots := 0, locals := 21 } s m args below meth c H locs 0 0 Q (F0 m 0 ls []) by rw [eH, eL] at hgo; exact hgo
  clear eH eL
  unfold f_X7_row at hf
  have w_23 : ∀ (y1 : Int32) (y2 : Int32) (z0 : Int32) (H : Heap) (locs : List Loc) (ls : Array Slot), (f_X7_row_23 v7_rows) y1 y2 z0 = some ro → va_P D xcl (wd_X7 a cyI cyJ v7_rows v7_lengths v7_sizes v7_rests v7_orders) H → va_D A (wd_X7 a cyI cyJ v7_rows v7_lengths v7_sizes v7_rests v7_orders) → va_S A s.heap H locs → lv_has ls 4 [(0, .ref (a 2)), (1, .int y1), (2, .int y2)] → W p l e { frames := 1, cells := 0, slots := 0, locals := 21 } s m args below meth c H locs 0 0 Q (F0 m 23 ls [.int z0]) := by
    intro y1 y2 z0 H locs ls hf hP hD hS hl
    unfold f_X7_row_23 at hf
    refine lv_istore_n (lv' := [(3, .int z0), (0, .ref (a 2)), (1, .int y1), (2, .int y2)]) hx hb dX7_row_23 rfl hl (by decide) rfl (fun ls hl => ?_)
    refine lv_iload_n hx hb dX7_row_24 rfl (lv_at hl 0 rfl) ?_
    refine lv_if_eq (tgt := 42) hx hb dX7_row_25 (by decide) (fun hc_9 => ?_) (fun hc_9 => ?_)
    · have hf := pe_t hf hc_9
      refine lv_iconst (v := (0 : Int32)) hx hb dX7_row_42 (by decide) ?_
      obtain rfl := po_1 hf
      rw [← hQ]; exact xe_iret Cx rfl hP hD hS dX7_row_43
    · have hf := pe_f hf hc_9
      refine lv_aload_n hx hb dX7_row_28 rfl (lv_at hl 1 rfl) ?_
      refine va_get (ci := 7) (v := .ref (a 3)) hx hb hts wX7_in hown hK hP 0 rfl rfl 0 (by decide) (hts _ mw_1_88) (fun _ h9 => h9) rfl dX7_row_29 ?_
      refine lv_iload_n hx hb dX7_row_32 rfl (lv_at hl 2 rfl) ?_
      refine lv_bipush (v := (8 : Int32)) hx hb dX7_row_33 (by decide) ?_
      refine lv_imul hx hb dX7_row_35 ?_
      refine lv_iload_n hx hb dX7_row_36 rfl (lv_at hl 3 rfl) ?_
      refine lv_iadd hx hb dX7_row_37 ?_
      obtain ⟨hi_10, hf⟩ := pe_in hf
      refine va_iald hx hb hK hP 1 0 rfl rfl hi_10 dX7_row_38 ?_
      refine lv_goto (tgt := 43) hx hb dX7_row_39 (by decide) ?_
      obtain rfl := po_1 hf
      rw [← hQ]; exact xe_iret Cx rfl hP hD hS dX7_row_43
  have w_22 : ∀ (y1 : Int32) (y2 : Int32) (H : Heap) (locs : List Loc) (ls : Array Slot), (f_X7_row_22 (f_X7_row_23 v7_rows) v7_rows) y1 y2 = some ro → va_P D xcl (wd_X7 a cyI cyJ v7_rows v7_lengths v7_sizes v7_rests v7_orders) H → va_D A (wd_X7 a cyI cyJ v7_rows v7_lengths v7_sizes v7_rests v7_orders) → va_S A s.heap H locs → lv_has ls 4 [(0, .ref (a 2)), (1, .int y1), (2, .int y2)] → W p l e { frames := 1, cells := 0, slots := 0, locals := 21 } s m args below meth c H locs 0 0 Q (F0 m 22 ls []) := by
    intro y1 y2 H locs ls hf hP hD hS hl
    unfold f_X7_row_22 at hf
    refine lv_iconst (v := (0 : Int32)) hx hb dX7_row_22 (by decide) ?_
    exact w_23 y1 y2 (0 : Int32) H locs ls hf hP hD hS (lv_sub hl [0, 1, 2] rfl)
  refine lv_aload_n hx hb dX7_row_0 rfl (lv_at hl 0 rfl) ?_
  refine lv_iload_n hx hb dX7_row_1 rfl (lv_at hl 1 rfl) ?_
  obtain ⟨r_11, hk_12, hf⟩ := pe_1 hf
  refine xv_z (As := [.int x1]) (rest := []) (q0 := 0) (ci := 7) Cx hP hD hS hl (pl_X7_X7 a cyI cyJ v7_rows v7_lengths v7_sizes v7_rests v7_orders v7_rows v7_lengths v7_sizes v7_rests v7_orders) (c_X7_has l D cyI cyJ G a H.size v7_rows v7_lengths v7_sizes v7_rests v7_orders x1 r_11 hk_12) pk_X7_has mw_1_46 ⟨rfl, rfl, Nat.le_of_ble_eq_true rfl, Nat.le_of_ble_eq_true rfl⟩ rfl rfl rfl rfl rfl (Nat.le_of_ble_eq_true rfl) ⟨Nat.le_of_ble_eq_true rfl, Nat.le_of_ble_eq_true rfl⟩ dX7_row_2 (fun H locs hn_13 hP hD hS => ?_)
  refine lv_if_eq (tgt := 22) hx hb dX7_row_5 (by decide) (fun hc_14 => ?_) (fun hc_14 => ?_)
  · have hf := pe_t hf hc_14
    exact w_22 x1 x2 H locs ls hf hP hD hS (lv_sub hl [0, 1, 2] rfl)
  · have hf := pe_f hf hc_14
    refine lv_iload_n hx hb dX7_row_8 rfl (lv_at hl 2 rfl) ?_
    refine lv_if_lt (tgt := 22) hx hb dX7_row_9 (by decide) (fun hc_15 => ?_) (fun hc_15 => ?_)
    · have hf := pe_t hf hc_15
      exact w_22 x1 x2 H locs ls hf hP hD hS (lv_sub hl [0, 1, 2] rfl)
    · have hf := pe_f hf hc_15
      refine lv_iload_n hx hb dX7_row_12 rfl (lv_at hl 2 rfl) ?_
      refine lv_bipush (v := (8 : Int32)) hx hb dX7_row_13 (by decide) ?_
      refine lv_icmp_ge (tgt := 22) hx hb dX7_row_15 (by decide) (fun hc_16 => ?_) (fun hc_16 => ?_)
      · have hf := pe_t hf hc_16
        exact w_22 x1 x2 H locs ls hf hP hD hS (lv_sub hl [0, 1, 2] rfl)
      · have hf := pe_f hf hc_16
        refine lv_iconst (v := (1 : Int32)) hx hb dX7_row_18 (by decide) ?_
        refine lv_goto (tgt := 23) hx hb dX7_row_19 (by decide) ?_
        exact w_23 x1 x2 (1 : Int32) H locs ls hf hP hD hS (lv_sub hl [0, 1, 2] rfl)
def f_X7_sizeOf (v7_sizes : Nat → Int32) (x1 : Int32) : Option (Int32) := p_b1 (f_X7_has x1) (fun r_1 => if r_1 = 0 then (some ((0 : Int32))) else (p_in x1 67 (some ((v7_sizes (Int32.toNatClampNeg x1))))))
set_option maxHeartbeats 4000000 in
set_option maxRecDepth 20000 in
theorem c_X7_sizeOf (l : Launch) (D : va_G) (cyI cyJ : ClassId) (G a : Nat → Nat) (sz : Nat) (v7_rows : Nat → Int32) (v7_lengths : Nat → Int32) (v7_sizes : Nat → Int32) (v7_rests : Nat → Int32) (v7_orders : Nat → Int32) (x1 : Int32) (ro : Int32) (hf : f_X7_sizeOf v7_sizes x1 = some ro) : xm_i l yX7_sizeOf (Cond.code yX7_sizeOf cX7_sizeOf 2 (some .int) :: xg_tbl) { frames := 1, cells := 0, slots := 0, locals := 21 } D xcl [(cyI, .int), (cyJ, .long)] G sz [.ref (a 2), .int x1] (wd_X7 a cyI cyJ v7_rows v7_lengths v7_sizes v7_rests v7_orders) (wd_X7 a cyI cyJ v7_rows v7_lengths v7_sizes v7_rests v7_orders) ro := by
  refine xm_of_i (own := RX7) (by decide) rfl rfl (Nat.le_of_ble_eq_true rfl) ?_
  intro p e s m args below meth c ls Q A hQ hAe hin Cx hsz hP hD hS hl
  have Cx1 := Cx
  obtain ⟨⟨hx, hb, hml, hown, hts⟩, hr, hlocks, hK, hA, hT⟩ := Cx1
  have hl : lv_has ls 2 [(0, .ref (a 2)), (1, .int x1)] := hl
  obtain ⟨H, eH⟩ : ∃ H, H = s.heap := ⟨_, rfl⟩
  obtain ⟨locs, eL⟩ : ∃ L : List Loc, L = [] := ⟨_, rfl⟩
  rw [← eH] at hP
  have hS : va_S A s.heap H locs := by rw [eH, eL]; exact hS
  suffices hgo : W p l e { frames := 1, cells := 0, slots := 0, locals := 21 } s m args below meth c H locs 0 0 Q (F0 m 0 ls []) by rw [eH, eL] at hgo; exact hgo
  clear eH eL
  unfold f_X7_sizeOf at hf
  refine lv_aload_n hx hb dX7_sizeOf_0 rfl (lv_at hl 0 rfl) ?_
  refine lv_iload_n hx hb dX7_sizeOf_1 rfl (lv_at hl 1 rfl) ?_
  obtain ⟨r_6, hk_7, hf⟩ := pe_1 hf
  refine xv_z (As := [.int x1]) (rest := []) (q0 := 0) (ci := 7) Cx hP hD hS hl (pl_X7_X7 a cyI cyJ v7_rows v7_lengths v7_sizes v7_rests v7_orders v7_rows v7_lengths v7_sizes v7_rests v7_orders) (c_X7_has l D cyI cyJ G a H.size v7_rows v7_lengths v7_sizes v7_rests v7_orders x1 r_6 hk_7) pk_X7_has mw_1_46 ⟨rfl, rfl, Nat.le_of_ble_eq_true rfl, Nat.le_of_ble_eq_true rfl⟩ rfl rfl rfl rfl rfl (Nat.le_of_ble_eq_true rfl) ⟨Nat.le_of_ble_eq_true rfl, Nat.le_of_ble_eq_true rfl⟩ dX7_sizeOf_2 (fun H locs hn_8 hP hD hS => ?_)
  refine lv_if_eq (tgt := 17) hx hb dX7_sizeOf_5 (by decide) (fun hc_9 => ?_) (fun hc_9 => ?_)
  · have hf := pe_t hf hc_9
    refine lv_iconst (v := (0 : Int32)) hx hb dX7_sizeOf_17 (by decide) ?_
    obtain rfl := po_1 hf
    rw [← hQ]; exact xe_iret Cx rfl hP hD hS dX7_sizeOf_18
  · have hf := pe_f hf hc_9
    refine lv_aload_n hx hb dX7_sizeOf_8 rfl (lv_at hl 0 rfl) ?_
    refine va_get (ci := 7) (v := .ref (a 5)) hx hb hts wX7_in hown hK hP 0 rfl rfl 2 (by decide) (hts _ mw_1_90) (fun _ h9 => h9) rfl dX7_sizeOf_9 ?_
    refine lv_iload_n hx hb dX7_sizeOf_12 rfl (lv_at hl 1 rfl) ?_
    obtain ⟨hi_10, hf⟩ := pe_in hf
    refine va_iald hx hb hK hP 3 0 rfl rfl hi_10 dX7_sizeOf_13 ?_
    refine lv_goto (tgt := 18) hx hb dX7_sizeOf_14 (by decide) ?_
    obtain rfl := po_1 hf
    rw [← hQ]; exact xe_iret Cx rfl hP hD hS dX7_sizeOf_18
def f_X7_factorial (x0 : Int32) : Option (Int32) := if x0 < 0 then (some ((0 : Int32))) else (if (9 : Int32) ≤ x0 then (some ((0 : Int32))) else (p_in x0 9 (some ((xi_FACTORIALS (Int32.toNatClampNeg x0))))))
set_option maxHeartbeats 4000000 in
set_option maxRecDepth 20000 in
theorem c_X7_factorial (l : Launch) (D : va_G) (cyI cyJ : ClassId) (G : Nat → Nat) (sz : Nat) (x0 : Int32) (ro : Int32) (hf : f_X7_factorial x0 = some ro) : xm_i l yX7_factorial (Cond.code yX7_factorial cX7_factorial 1 (some .int) :: xg_tbl) { frames := 0, cells := 0, slots := 0, locals := 0 } D xcl [(cyI, .int), (cyJ, .long)] G sz [.int x0] [] [] ro := by
  refine xm_of_i (own := RX7) (by decide) rfl rfl (Nat.le_of_ble_eq_true rfl) ?_
  intro p e s m args below meth c ls Q A hQ hAe hin Cx hsz hP hD hS hl
  have Cx1 := Cx
  obtain ⟨⟨hx, hb, hml, hown, hts⟩, hr, hlocks, hK, hA, hT⟩ := Cx1
  have hl : lv_has ls 1 [(0, .int x0)] := hl
  obtain ⟨H, eH⟩ : ∃ H, H = s.heap := ⟨_, rfl⟩
  obtain ⟨locs, eL⟩ : ∃ L : List Loc, L = [] := ⟨_, rfl⟩
  rw [← eH] at hP
  have hS : va_S A s.heap H locs := by rw [eH, eL]; exact hS
  suffices hgo : W p l e { frames := 0, cells := 0, slots := 0, locals := 0 } s m args below meth c H locs 0 0 Q (F0 m 0 ls []) by rw [eH, eL] at hgo; exact hgo
  clear eH eL
  unfold f_X7_factorial at hf
  refine lv_iload_n hx hb dX7_factorial_0 rfl (lv_at hl 0 rfl) ?_
  refine lv_if_lt (tgt := 20) hx hb dX7_factorial_1 (by decide) (fun hc_4 => ?_) (fun hc_4 => ?_)
  · have hf := pe_t hf hc_4
    refine lv_iconst (v := (0 : Int32)) hx hb dX7_factorial_20 (by decide) ?_
    obtain rfl := po_1 hf
    rw [← hQ]; exact xe_iret Cx rfl hP hD hS dX7_factorial_21
  · have hf := pe_f hf hc_4
    refine lv_iload_n hx hb dX7_factorial_4 rfl (lv_at hl 0 rfl) ?_
    refine va_gets hx hb hT.2.2.1.1 hS hown (hts _ mw_1_86) (fun _ h9 => h9) dX7_factorial_5 ?_
    refine va_tlen hx hb hT.2.2.1.2 hS (v := (9 : Int32)) rfl dX7_factorial_8 ?_
    refine lv_icmp_ge (tgt := 20) hx hb dX7_factorial_9 (by decide) (fun hc_5 => ?_) (fun hc_5 => ?_)
    · have hf := pe_t hf hc_5
      refine lv_iconst (v := (0 : Int32)) hx hb dX7_factorial_20 (by decide) ?_
      obtain rfl := po_1 hf
      rw [← hQ]; exact xe_iret Cx rfl hP hD hS dX7_factorial_21
    · have hf := pe_f hf hc_5
      refine va_gets hx hb hT.2.2.1.1 hS hown (hts _ mw_1_86) (fun _ h9 => h9) dX7_factorial_12 ?_
      refine lv_iload_n hx hb dX7_factorial_15 rfl (lv_at hl 0 rfl) ?_
      obtain ⟨hi_6, hf⟩ := pe_in hf
      refine va_ti hx hb hT.2.2.1.2 hS hi_6 (v := .int (xi_FACTORIALS (Int32.toNatClampNeg x0))) rfl dX7_factorial_16 ?_
      refine lv_goto (tgt := 21) hx hb dX7_factorial_17 (by decide) ?_
      obtain rfl := po_1 hf
      rw [← hQ]; exact xe_iret Cx rfl hP hD hS dX7_factorial_21
def f_X7_countOrders_48 (K_7 : Int32 → Int32 → Int32 → Int32 → Option (Int32)) (v7_rows : Nat → Int32) (v7_lengths : Nat → Int32) (v7_sizes : Nat → Int32) (y1 : Int32) (y2 : Int32) (y4 : Int32) (z0 : Int32) : Option (Int32) := p_b1 (f_X7_row v7_rows y1 y4) (fun r_1 => K_7 y1 (y2 * (r_1 * z0)) z0 (y4 + (1 : Int32)))
def f_X7_countOrders_47 (K_48 : Int32 → Int32 → Int32 → Int32 → Option (Int32)) (v7_rows : Nat → Int32) (v7_lengths : Nat → Int32) (v7_sizes : Nat → Int32) (y1 : Int32) (y2 : Int32) (y4 : Int32) : Option (Int32) := K_48 y1 y2 y4 (1 : Int32)
def gf_X7_countOrders_7 (K_7 : Int32 → Int32 → Int32 → Int32 → Option (Int32)) (v7_rows : Nat → Int32) (v7_lengths : Nat → Int32) (v7_sizes : Nat → Int32) (y1 : Int32) (y2 : Int32) (y3 : Int32) (y4 : Int32) : Option (Int32) := p_b1 (f_X7_lengthOf v7_lengths y1) (fun r_3 => if r_3 ≤ y4 then (if y2 ≤ 0 then (some ((0 : Int32))) else (p_b1 (f_X7_sizeOf v7_sizes y1) (fun r_7 => p_b1 (f_X7_factorial r_7) (fun r_9 => p_nz y2 (some ((r_9 / y2))))))) else (if y4 ≤ 0 then ((f_X7_countOrders_47 (f_X7_countOrders_48 K_7 v7_rows v7_lengths v7_sizes) v7_rows v7_lengths v7_sizes) y1 y2 y4) else (p_b1 (f_X7_row v7_rows y1 y4) (fun r_13 => p_b1 (f_X7_row v7_rows y1 (y4 - (1 : Int32))) (fun r_15 => if r_13 = r_15 then ((f_X7_countOrders_48 K_7 v7_rows v7_lengths v7_sizes) y1 y2 y4 (y3 + (1 : Int32))) else ((f_X7_countOrders_47 (f_X7_countOrders_48 K_7 v7_rows v7_lengths v7_sizes) v7_rows v7_lengths v7_sizes) y1 y2 y4))))))
def f_X7_countOrders_7 (v7_rows : Nat → Int32) (v7_lengths : Nat → Int32) (v7_sizes : Nat → Int32) : Nat → Int32 → Int32 → Int32 → Int32 → Option (Int32)
  | 0 => fun _ _ _ _ => none
  | n + 1 => gf_X7_countOrders_7 (f_X7_countOrders_7 v7_rows v7_lengths v7_sizes n) v7_rows v7_lengths v7_sizes
def f_X7_countOrders (v7_rows : Nat → Int32) (v7_lengths : Nat → Int32) (v7_sizes : Nat → Int32) (x1 : Int32) : Option (Int32) := (f_X7_countOrders_7 v7_rows v7_lengths v7_sizes 1000) x1 (1 : Int32) (0 : Int32) (0 : Int32)
set_option maxHeartbeats 4000000 in
set_option maxRecDepth 20000 in
theorem c_X7_countOrders (l : Launch) (D : va_G) (cyI cyJ : ClassId) (G a : Nat → Nat) (sz : Nat) (v7_rows : Nat → Int32) (v7_lengths : Nat → Int32) (v7_sizes : Nat → Int32) (v7_rests : Nat → Int32) (v7_orders : Nat → Int32) (x1 : Int32) (ro : Int32) (hf : f_X7_countOrders v7_rows v7_lengths v7_sizes x1 = some ro) : xm_i l yX7_countOrders (Cond.code yX7_countOrders cX7_countOrders 5 (some .int) :: xg_tbl) { frames := 2, cells := 0, slots := 0, locals := 44 } D xcl [(cyI, .int), (cyJ, .long)] G sz [.ref (a 2), .int x1] (wd_X7 a cyI cyJ v7_rows v7_lengths v7_sizes v7_rests v7_orders) (wd_X7 a cyI cyJ v7_rows v7_lengths v7_sizes v7_rests v7_orders) ro := by
  refine xm_of_i (own := RX7) (by decide) rfl rfl (Nat.le_of_ble_eq_true rfl) ?_
  intro p e s m args below meth c ls Q A hQ hAe hin Cx hsz hP hD hS hl
  have Cx1 := Cx
  obtain ⟨⟨hx, hb, hml, hown, hts⟩, hr, hlocks, hK, hA, hT⟩ := Cx1
  have hl : lv_has ls 5 [(0, .ref (a 2)), (1, .int x1)] := hl
  obtain ⟨H, eH⟩ : ∃ H, H = s.heap := ⟨_, rfl⟩
  obtain ⟨locs, eL⟩ : ∃ L : List Loc, L = [] := ⟨_, rfl⟩
  rw [← eH] at hP
  have hS : va_S A s.heap H locs := by rw [eH, eL]; exact hS
  suffices hgo : W p l e { frames := 2, cells := 0, slots := 0, locals := 44 } s m args below meth c H locs 0 0 Q (F0 m 0 ls []) by rw [eH, eL] at hgo; exact hgo
  clear eH eL
  unfold f_X7_countOrders at hf
  have w_7 : ∀ (n_7 : Nat) (y1 : Int32) (y2 : Int32) (y3 : Int32) (y4 : Int32) (H : Heap) (locs : List Loc) (ls : Array Slot), (f_X7_countOrders_7 v7_rows v7_lengths v7_sizes) n_7 y1 y2 y3 y4 = some ro → va_P D xcl (wd_X7 a cyI cyJ v7_rows v7_lengths v7_sizes v7_rests v7_orders) H → va_D A (wd_X7 a cyI cyJ v7_rows v7_lengths v7_sizes v7_rests v7_orders) → va_S A s.heap H locs → lv_has ls 5 [(0, .ref (a 2)), (1, .int y1), (2, .int y2), (3, .int y3), (4, .int y4)] → W p l e { frames := 2, cells := 0, slots := 0, locals := 44 } s m args below meth c H locs 0 0 Q (F0 m 7 ls []) := by
    intro n_7
    induction n_7 with
    | zero => intro y1 y2 y3 y4 H locs ls hf; exact absurd hf (by intro h9; cases h9)
    | succ n_7 w_7 =>
      intro y1 y2 y3 y4 H locs ls hf hP hD hS hl
      have hf : gf_X7_countOrders_7 ((f_X7_countOrders_7 v7_rows v7_lengths v7_sizes) n_7) v7_rows v7_lengths v7_sizes y1 y2 y3 y4 = some ro := hf
      unfold gf_X7_countOrders_7 at hf
      have w_48 : ∀ (y1 : Int32) (y2 : Int32) (y4 : Int32) (z0 : Int32) (H : Heap) (locs : List Loc) (ls : Array Slot), (f_X7_countOrders_48 ((f_X7_countOrders_7 v7_rows v7_lengths v7_sizes) n_7) v7_rows v7_lengths v7_sizes) y1 y2 y4 z0 = some ro → va_P D xcl (wd_X7 a cyI cyJ v7_rows v7_lengths v7_sizes v7_rests v7_orders) H → va_D A (wd_X7 a cyI cyJ v7_rows v7_lengths v7_sizes v7_rests v7_orders) → va_S A s.heap H locs → lv_has ls 5 [(0, .ref (a 2)), (1, .int y1), (2, .int y2), (4, .int y4)] → W p l e { frames := 2, cells := 0, slots := 0, locals := 44 } s m args below meth c H locs 0 0 Q (F0 m 48 ls [.int z0]) := by
        intro y1 y2 y4 z0 H locs ls hf hP hD hS hl
        unfold f_X7_countOrders_48 at hf
        refine lv_istore_n (lv' := [(3, .int z0), (0, .ref (a 2)), (1, .int y1), (2, .int y2), (4, .int y4)]) hx hb dX7_countOrders_48 rfl hl (by decide) rfl (fun ls hl => ?_)
        refine lv_iload_n hx hb dX7_countOrders_49 rfl (lv_at hl 3 rfl) ?_
        refine lv_aload_n hx hb dX7_countOrders_50 rfl (lv_at hl 1 rfl) ?_
        refine lv_iload_n hx hb dX7_countOrders_51 rfl (lv_at hl 2 rfl) ?_
        refine lv_iload hx hb dX7_countOrders_52 (lv_at hl 4 rfl) ?_
        obtain ⟨r_18, hk_19, hf⟩ := pe_1 hf
        refine xv_i (As := [.int y1, .int y4]) (rest := [.int y2]) (q0 := 0) (ci := 7) Cx hP hD hS hl (pl_X7_X7 a cyI cyJ v7_rows v7_lengths v7_sizes v7_rests v7_orders v7_rows v7_lengths v7_sizes v7_rests v7_orders) (c_X7_row l D cyI cyJ G a H.size v7_rows v7_lengths v7_sizes v7_rests v7_orders y1 y4 r_18 hk_19) pk_X7_row mw_1_50 ⟨rfl, rfl, Nat.le_of_ble_eq_true rfl, Nat.le_of_ble_eq_true rfl⟩ rfl rfl rfl rfl rfl (Nat.le_of_ble_eq_true rfl) ⟨Nat.le_of_ble_eq_true rfl, Nat.le_of_ble_eq_true rfl⟩ dX7_countOrders_54 (fun H locs hP hD hS => ?_)
        refine lv_iload_n hx hb dX7_countOrders_57 rfl (lv_at hl 0 rfl) ?_
        refine lv_imul hx hb dX7_countOrders_58 ?_
        refine lv_imul hx hb dX7_countOrders_59 ?_
        refine lv_istore_n (lv' := [(2, .int (y2 * (r_18 * z0))), (3, .int z0), (0, .ref (a 2)), (1, .int y1), (4, .int y4)]) hx hb dX7_countOrders_60 rfl hl (by decide) rfl (fun ls hl => ?_)
        refine lv_iinc (v := (y4 + (1 : Int32))) (lv' := [(4, .int (y4 + (1 : Int32))), (2, .int (y2 * (r_18 * z0))), (3, .int z0), (0, .ref (a 2)), (1, .int y1)]) hx hb dX7_countOrders_61 hl (k := 4) rfl rfl (by decide) rfl (fun ls hl => ?_)
        refine lv_goto (tgt := 7) hx hb dX7_countOrders_64 (by decide) ?_
        exact w_7 y1 (y2 * (r_18 * z0)) z0 (y4 + (1 : Int32)) H locs ls hf hP hD hS (lv_sub hl [3, 4, 1, 2, 0] rfl)
      have w_47 : ∀ (y1 : Int32) (y2 : Int32) (y4 : Int32) (H : Heap) (locs : List Loc) (ls : Array Slot), (f_X7_countOrders_47 (f_X7_countOrders_48 ((f_X7_countOrders_7 v7_rows v7_lengths v7_sizes) n_7) v7_rows v7_lengths v7_sizes) v7_rows v7_lengths v7_sizes) y1 y2 y4 = some ro → va_P D xcl (wd_X7 a cyI cyJ v7_rows v7_lengths v7_sizes v7_rests v7_orders) H → va_D A (wd_X7 a cyI cyJ v7_rows v7_lengths v7_sizes v7_rests v7_orders) → va_S A s.heap H locs → lv_has ls 5 [(0, .ref (a 2)), (1, .int y1), (2, .int y2), (4, .int y4)] → W p l e { frames := 2, cells := 0, slots := 0, locals := 44 } s m args below meth c H locs 0 0 Q (F0 m 47 ls []) := by
        intro y1 y2 y4 H locs ls hf hP hD hS hl
        unfold f_X7_countOrders_47 at hf
        refine lv_iconst (v := (1 : Int32)) hx hb dX7_countOrders_47 (by decide) ?_
        exact w_48 y1 y2 y4 (1 : Int32) H locs ls hf hP hD hS (lv_sub hl [0, 1, 2, 3] rfl)
      refine lv_iload hx hb dX7_countOrders_7 (lv_at hl 4 rfl) ?_
      refine lv_aload_n hx hb dX7_countOrders_9 rfl (lv_at hl 0 rfl) ?_
      refine lv_iload_n hx hb dX7_countOrders_10 rfl (lv_at hl 1 rfl) ?_
      obtain ⟨r_20, hk_21, hf⟩ := pe_1 hf
      refine xv_i (As := [.int y1]) (rest := [.int y4]) (q0 := 0) (ci := 7) Cx hP hD hS hl (pl_X7_X7 a cyI cyJ v7_rows v7_lengths v7_sizes v7_rests v7_orders v7_rows v7_lengths v7_sizes v7_rests v7_orders) (c_X7_lengthOf l D cyI cyJ G a H.size v7_rows v7_lengths v7_sizes v7_rests v7_orders y1 r_20 hk_21) pk_X7_lengthOf mw_1_58 ⟨rfl, rfl, Nat.le_of_ble_eq_true rfl, Nat.le_of_ble_eq_true rfl⟩ rfl rfl rfl rfl rfl (Nat.le_of_ble_eq_true rfl) ⟨Nat.le_of_ble_eq_true rfl, Nat.le_of_ble_eq_true rfl⟩ dX7_countOrders_11 (fun H locs hP hD hS => ?_)
      refine lv_icmp_ge (tgt := 67) hx hb dX7_countOrders_14 (by decide) (fun hc_22 => ?_) (fun hc_22 => ?_)
      · have hf := pe_t hf hc_22
        refine lv_iload_n hx hb dX7_countOrders_67 rfl (lv_at hl 2 rfl) ?_
        refine lv_if_le (tgt := 84) hx hb dX7_countOrders_68 (by decide) (fun hc_23 => ?_) (fun hc_23 => ?_)
        · have hf := pe_t hf hc_23
          refine lv_iconst (v := (0 : Int32)) hx hb dX7_countOrders_84 (by decide) ?_
          obtain rfl := po_1 hf
          rw [← hQ]; exact xe_iret Cx rfl hP hD hS dX7_countOrders_85
        · have hf := pe_f hf hc_23
          refine lv_aload_n hx hb dX7_countOrders_71 rfl (lv_at hl 0 rfl) ?_
          refine lv_iload_n hx hb dX7_countOrders_72 rfl (lv_at hl 1 rfl) ?_
          obtain ⟨r_24, hk_25, hf⟩ := pe_1 hf
          refine xv_i (As := [.int y1]) (rest := []) (q0 := 0) (ci := 7) Cx hP hD hS hl (pl_X7_X7 a cyI cyJ v7_rows v7_lengths v7_sizes v7_rests v7_orders v7_rows v7_lengths v7_sizes v7_rests v7_orders) (c_X7_sizeOf l D cyI cyJ G a H.size v7_rows v7_lengths v7_sizes v7_rests v7_orders y1 r_24 hk_25) pk_X7_sizeOf mw_1_42 ⟨rfl, rfl, Nat.le_of_ble_eq_true rfl, Nat.le_of_ble_eq_true rfl⟩ rfl rfl rfl rfl rfl (Nat.le_of_ble_eq_true rfl) ⟨Nat.le_of_ble_eq_true rfl, Nat.le_of_ble_eq_true rfl⟩ dX7_countOrders_73 (fun H locs hP hD hS => ?_)
          obtain ⟨r_26, hk_27, hf⟩ := pe_1 hf
          refine xw_i (As := [.int r_24]) (rest := []) Cx hP hD hS hl (xq_none _) (c_X7_factorial l D cyI cyJ G H.size r_24 r_26 hk_27) pk_X7_factorial mw_1_83 ⟨rfl, rfl, Nat.le_of_ble_eq_true rfl, Nat.le_of_ble_eq_true rfl⟩ rfl rfl (Nat.le_of_ble_eq_true rfl) ⟨Nat.le_of_ble_eq_true rfl, Nat.le_of_ble_eq_true rfl⟩ dX7_countOrders_76 (fun H locs hP hD hS => ?_)
          refine lv_iload_n hx hb dX7_countOrders_79 rfl (lv_at hl 2 rfl) ?_
          obtain ⟨hz_28, hf⟩ := pe_nz hf
          refine lv_idiv hx hb dX7_countOrders_80 hz_28 ?_
          refine lv_goto (tgt := 85) hx hb dX7_countOrders_81 (by decide) ?_
          obtain rfl := po_1 hf
          rw [← hQ]; exact xe_iret Cx rfl hP hD hS dX7_countOrders_85
      · have hf := pe_f hf hc_22
        refine lv_iload hx hb dX7_countOrders_17 (lv_at hl 4 rfl) ?_
        refine lv_if_le (tgt := 47) hx hb dX7_countOrders_19 (by decide) (fun hc_29 => ?_) (fun hc_29 => ?_)
        · have hf := pe_t hf hc_29
          exact w_47 y1 y2 y4 H locs ls hf hP hD hS (lv_sub hl [0, 1, 2, 4] rfl)
        · have hf := pe_f hf hc_29
          refine lv_aload_n hx hb dX7_countOrders_22 rfl (lv_at hl 0 rfl) ?_
          refine lv_iload_n hx hb dX7_countOrders_23 rfl (lv_at hl 1 rfl) ?_
          refine lv_iload hx hb dX7_countOrders_24 (lv_at hl 4 rfl) ?_
          obtain ⟨r_30, hk_31, hf⟩ := pe_1 hf
          refine xv_i (As := [.int y1, .int y4]) (rest := []) (q0 := 0) (ci := 7) Cx hP hD hS hl (pl_X7_X7 a cyI cyJ v7_rows v7_lengths v7_sizes v7_rests v7_orders v7_rows v7_lengths v7_sizes v7_rests v7_orders) (c_X7_row l D cyI cyJ G a H.size v7_rows v7_lengths v7_sizes v7_rests v7_orders y1 y4 r_30 hk_31) pk_X7_row mw_1_50 ⟨rfl, rfl, Nat.le_of_ble_eq_true rfl, Nat.le_of_ble_eq_true rfl⟩ rfl rfl rfl rfl rfl (Nat.le_of_ble_eq_true rfl) ⟨Nat.le_of_ble_eq_true rfl, Nat.le_of_ble_eq_true rfl⟩ dX7_countOrders_26 (fun H locs hP hD hS => ?_)
          refine lv_aload_n hx hb dX7_countOrders_29 rfl (lv_at hl 0 rfl) ?_
          refine lv_iload_n hx hb dX7_countOrders_30 rfl (lv_at hl 1 rfl) ?_
          refine lv_iload hx hb dX7_countOrders_31 (lv_at hl 4 rfl) ?_
          refine lv_iconst (v := (1 : Int32)) hx hb dX7_countOrders_33 (by decide) ?_
          refine lv_isub hx hb dX7_countOrders_34 ?_
          obtain ⟨r_32, hk_33, hf⟩ := pe_1 hf
          refine xv_i (As := [.int y1, .int (y4 - (1 : Int32))]) (rest := [.int r_30]) (q0 := 0) (ci := 7) Cx hP hD hS hl (pl_X7_X7 a cyI cyJ v7_rows v7_lengths v7_sizes v7_rests v7_orders v7_rows v7_lengths v7_sizes v7_rests v7_orders) (c_X7_row l D cyI cyJ G a H.size v7_rows v7_lengths v7_sizes v7_rests v7_orders y1 (y4 - (1 : Int32)) r_32 hk_33) pk_X7_row mw_1_50 ⟨rfl, rfl, Nat.le_of_ble_eq_true rfl, Nat.le_of_ble_eq_true rfl⟩ rfl rfl rfl rfl rfl (Nat.le_of_ble_eq_true rfl) ⟨Nat.le_of_ble_eq_true rfl, Nat.le_of_ble_eq_true rfl⟩ dX7_countOrders_35 (fun H locs hP hD hS => ?_)
          refine lv_icmp_ne (tgt := 47) hx hb dX7_countOrders_38 (by decide) (fun hc_34 => ?_) (fun hc_34 => ?_)
          · have hf := pe_f hf hc_34
            exact w_47 y1 y2 y4 H locs ls hf hP hD hS (lv_sub hl [0, 1, 2, 4] rfl)
          · have hf := pe_t hf hc_34
            refine lv_iload_n hx hb dX7_countOrders_41 rfl (lv_at hl 3 rfl) ?_
            refine lv_iconst (v := (1 : Int32)) hx hb dX7_countOrders_42 (by decide) ?_
            refine lv_iadd hx hb dX7_countOrders_43 ?_
            refine lv_goto (tgt := 48) hx hb dX7_countOrders_44 (by decide) ?_
            exact w_48 y1 y2 y4 (y3 + (1 : Int32)) H locs ls hf hP hD hS (lv_sub hl [0, 1, 2, 4] rfl)
  refine lv_iconst (v := (1 : Int32)) hx hb dX7_countOrders_0 (by decide) ?_
  refine lv_istore_n (lv' := [(2, .int (1 : Int32)), (0, .ref (a 2)), (1, .int x1)]) hx hb dX7_countOrders_1 rfl hl (by decide) rfl (fun ls hl => ?_)
  refine lv_iconst (v := (0 : Int32)) hx hb dX7_countOrders_2 (by decide) ?_
  refine lv_istore_n (lv' := [(3, .int (0 : Int32)), (2, .int (1 : Int32)), (0, .ref (a 2)), (1, .int x1)]) hx hb dX7_countOrders_3 rfl hl (by decide) rfl (fun ls hl => ?_)
  refine lv_iconst (v := (0 : Int32)) hx hb dX7_countOrders_4 (by decide) ?_
  refine lv_istore (lv' := [(4, .int (0 : Int32)), (3, .int (0 : Int32)), (2, .int (1 : Int32)), (0, .ref (a 2)), (1, .int x1)]) hx hb dX7_countOrders_5 hl (by decide) rfl (fun ls hl => ?_)
  exact w_7 1000 x1 (1 : Int32) (0 : Int32) (0 : Int32) H locs ls hf hP hD hS (lv_sub hl [3, 4, 2, 1, 0] rfl)
def f_X7_keyWith (x0 : Int32) (x1 : Int32) : Option (Int32) := some (((x0 <<< ((4 : Int32) &&& 31)) ||| x1))
set_option maxHeartbeats 4000000 in
set_option maxRecDepth 20000 in
theorem c_X7_keyWith (l : Launch) (D : va_G) (cyI cyJ : ClassId) (G : Nat → Nat) (sz : Nat) (x0 : Int32) (x1 : Int32) (ro : Int32) (hf : f_X7_keyWith x0 x1 = some ro) : xm_i l yX7_keyWith (Cond.code yX7_keyWith cX7_keyWith 2 (some .int) :: xg_tbl) { frames := 0, cells := 0, slots := 0, locals := 0 } D xcl [(cyI, .int), (cyJ, .long)] G sz [.int x0, .int x1] [] [] ro := by
  refine xm_of_i (own := RX7) (by decide) rfl rfl (Nat.le_of_ble_eq_true rfl) ?_
  intro p e s m args below meth c ls Q A hQ hAe hin Cx hsz hP hD hS hl
  have Cx1 := Cx
  obtain ⟨⟨hx, hb, hml, hown, hts⟩, hr, hlocks, hK, hA, hT⟩ := Cx1
  have hl : lv_has ls 2 [(0, .int x0), (1, .int x1)] := hl
  obtain ⟨H, eH⟩ : ∃ H, H = s.heap := ⟨_, rfl⟩
  obtain ⟨locs, eL⟩ : ∃ L : List Loc, L = [] := ⟨_, rfl⟩
  rw [← eH] at hP
  have hS : va_S A s.heap H locs := by rw [eH, eL]; exact hS
  suffices hgo : W p l e { frames := 0, cells := 0, slots := 0, locals := 0 } s m args below meth c H locs 0 0 Q (F0 m 0 ls []) by rw [eH, eL] at hgo; exact hgo
  clear eH eL
  unfold f_X7_keyWith at hf
  refine lv_iload_n hx hb dX7_keyWith_0 rfl (lv_at hl 0 rfl) ?_
  refine lv_iconst (v := (4 : Int32)) hx hb dX7_keyWith_1 (by decide) ?_
  refine lv_ishl hx hb dX7_keyWith_2 ?_
  refine lv_iload_n hx hb dX7_keyWith_3 rfl (lv_at hl 1 rfl) ?_
  refine lv_ior hx hb dX7_keyWith_4 ?_
  obtain rfl := po_1 hf
  rw [← hQ]; exact xe_iret Cx rfl hP hD hS dX7_keyWith_5
def gf_X7_keyWithRows_6 (K_6 : Int32 → Int32 → Int32 → Option (Int32)) (v7_rows : Nat → Int32) (v7_lengths : Nat → Int32) (y2 : Int32) (y4 : Int32) (y5 : Int32) : Option (Int32) := p_b1 (f_X7_lengthOf v7_lengths y2) (fun r_1 => if r_1 ≤ y5 then (some (y4)) else (p_b1 (f_X7_row v7_rows y2 y5) (fun r_4 => p_b1 (f_X7_keyWith y4 r_4) (fun r_6 => K_6 y2 r_6 (y5 + (1 : Int32))))))
def f_X7_keyWithRows_6 (v7_rows : Nat → Int32) (v7_lengths : Nat → Int32) : Nat → Int32 → Int32 → Int32 → Option (Int32)
  | 0 => fun _ _ _ => none
  | n + 1 => gf_X7_keyWithRows_6 (f_X7_keyWithRows_6 v7_rows v7_lengths n) v7_rows v7_lengths
def f_X7_keyWithRows (v7_rows : Nat → Int32) (v7_lengths : Nat → Int32) (x1 : Int32) (x2 : Int32) (x3 : Int32) : Option (Int32) := (f_X7_keyWithRows_6 v7_rows v7_lengths 1000) x2 x1 x3
set_option maxHeartbeats 4000000 in
set_option maxRecDepth 20000 in
theorem c_X7_keyWithRows (l : Launch) (D : va_G) (cyI cyJ : ClassId) (G a : Nat → Nat) (sz : Nat) (v7_rows : Nat → Int32) (v7_lengths : Nat → Int32) (v7_sizes : Nat → Int32) (v7_rests : Nat → Int32) (v7_orders : Nat → Int32) (x1 : Int32) (x2 : Int32) (x3 : Int32) (ro : Int32) (hf : f_X7_keyWithRows v7_rows v7_lengths x1 x2 x3 = some ro) : xm_i l yX7_keyWithRows (Cond.code yX7_keyWithRows cX7_keyWithRows 6 (some .int) :: xg_tbl) { frames := 2, cells := 0, slots := 0, locals := 44 } D xcl [(cyI, .int), (cyJ, .long)] G sz [.ref (a 2), .int x1, .int x2, .int x3] (wd_X7 a cyI cyJ v7_rows v7_lengths v7_sizes v7_rests v7_orders) (wd_X7 a cyI cyJ v7_rows v7_lengths v7_sizes v7_rests v7_orders) ro := by
  refine xm_of_i (own := RX7) (by decide) rfl rfl (Nat.le_of_ble_eq_true rfl) ?_
  intro p e s m args below meth c ls Q A hQ hAe hin Cx hsz hP hD hS hl
  have Cx1 := Cx
  obtain ⟨⟨hx, hb, hml, hown, hts⟩, hr, hlocks, hK, hA, hT⟩ := Cx1
  have hl : lv_has ls 6 [(0, .ref (a 2)), (1, .int x1), (2, .int x2), (3, .int x3)] := hl
  obtain ⟨H, eH⟩ : ∃ H, H = s.heap := ⟨_, rfl⟩
  obtain ⟨locs, eL⟩ : ∃ L : List Loc, L = [] := ⟨_, rfl⟩
  rw [← eH] at hP
  have hS : va_S A s.heap H locs := by rw [eH, eL]; exact hS
  suffices hgo : W p l e { frames := 2, cells := 0, slots := 0, locals := 44 } s m args below meth c H locs 0 0 Q (F0 m 0 ls []) by rw [eH, eL] at hgo; exact hgo
  clear eH eL
  unfold f_X7_keyWithRows at hf
  have w_6 : ∀ (n_6 : Nat) (y2 : Int32) (y4 : Int32) (y5 : Int32) (H : Heap) (locs : List Loc) (ls : Array Slot), (f_X7_keyWithRows_6 v7_rows v7_lengths) n_6 y2 y4 y5 = some ro → va_P D xcl (wd_X7 a cyI cyJ v7_rows v7_lengths v7_sizes v7_rests v7_orders) H → va_D A (wd_X7 a cyI cyJ v7_rows v7_lengths v7_sizes v7_rests v7_orders) → va_S A s.heap H locs → lv_has ls 6 [(0, .ref (a 2)), (2, .int y2), (4, .int y4), (5, .int y5)] → W p l e { frames := 2, cells := 0, slots := 0, locals := 44 } s m args below meth c H locs 0 0 Q (F0 m 6 ls []) := by
    intro n_6
    induction n_6 with
    | zero => intro y2 y4 y5 H locs ls hf; exact absurd hf (by intro h9; cases h9)
    | succ n_6 w_6 =>
      intro y2 y4 y5 H locs ls hf hP hD hS hl
      have hf : gf_X7_keyWithRows_6 ((f_X7_keyWithRows_6 v7_rows v7_lengths) n_6) v7_rows v7_lengths y2 y4 y5 = some ro := hf
      unfold gf_X7_keyWithRows_6 at hf
      refine lv_iload hx hb dX7_keyWithRows_6 (lv_at hl 3 rfl) ?_
      refine lv_aload_n hx hb dX7_keyWithRows_8 rfl (lv_at hl 0 rfl) ?_
      refine lv_iload_n hx hb dX7_keyWithRows_9 rfl (lv_at hl 1 rfl) ?_
      obtain ⟨r_8, hk_9, hf⟩ := pe_1 hf
      refine xv_i (As := [.int y2]) (rest := [.int y5]) (q0 := 0) (ci := 7) Cx hP hD hS hl (pl_X7_X7 a cyI cyJ v7_rows v7_lengths v7_sizes v7_rests v7_orders v7_rows v7_lengths v7_sizes v7_rests v7_orders) (c_X7_lengthOf l D cyI cyJ G a H.size v7_rows v7_lengths v7_sizes v7_rests v7_orders y2 r_8 hk_9) pk_X7_lengthOf mw_1_58 ⟨rfl, rfl, Nat.le_of_ble_eq_true rfl, Nat.le_of_ble_eq_true rfl⟩ rfl rfl rfl rfl rfl (Nat.le_of_ble_eq_true rfl) ⟨Nat.le_of_ble_eq_true rfl, Nat.le_of_ble_eq_true rfl⟩ dX7_keyWithRows_10 (fun H locs hP hD hS => ?_)
      refine lv_icmp_ge (tgt := 36) hx hb dX7_keyWithRows_13 (by decide) (fun hc_10 => ?_) (fun hc_10 => ?_)
      · have hf := pe_t hf hc_10
        refine lv_iload hx hb dX7_keyWithRows_36 (lv_at hl 2 rfl) ?_
        obtain rfl := po_1 hf
        rw [← hQ]; exact xe_iret Cx rfl hP hD hS dX7_keyWithRows_38
      · have hf := pe_f hf hc_10
        refine lv_iload hx hb dX7_keyWithRows_16 (lv_at hl 2 rfl) ?_
        refine lv_aload_n hx hb dX7_keyWithRows_18 rfl (lv_at hl 0 rfl) ?_
        refine lv_iload_n hx hb dX7_keyWithRows_19 rfl (lv_at hl 1 rfl) ?_
        refine lv_iload hx hb dX7_keyWithRows_20 (lv_at hl 3 rfl) ?_
        obtain ⟨r_11, hk_12, hf⟩ := pe_1 hf
        refine xv_i (As := [.int y2, .int y5]) (rest := [.int y4]) (q0 := 0) (ci := 7) Cx hP hD hS hl (pl_X7_X7 a cyI cyJ v7_rows v7_lengths v7_sizes v7_rests v7_orders v7_rows v7_lengths v7_sizes v7_rests v7_orders) (c_X7_row l D cyI cyJ G a H.size v7_rows v7_lengths v7_sizes v7_rests v7_orders y2 y5 r_11 hk_12) pk_X7_row mw_1_50 ⟨rfl, rfl, Nat.le_of_ble_eq_true rfl, Nat.le_of_ble_eq_true rfl⟩ rfl rfl rfl rfl rfl (Nat.le_of_ble_eq_true rfl) ⟨Nat.le_of_ble_eq_true rfl, Nat.le_of_ble_eq_true rfl⟩ dX7_keyWithRows_22 (fun H locs hP hD hS => ?_)
        obtain ⟨r_13, hk_14, hf⟩ := pe_1 hf
        refine xw_i (As := [.int y4, .int r_11]) (rest := []) Cx hP hD hS hl (xq_none _) (c_X7_keyWith l D cyI cyJ G H.size y4 r_11 r_13 hk_14) pk_X7_keyWith mw_1_62 ⟨rfl, rfl, Nat.le_of_ble_eq_true rfl, Nat.le_of_ble_eq_true rfl⟩ rfl rfl (Nat.le_of_ble_eq_true rfl) ⟨Nat.le_of_ble_eq_true rfl, Nat.le_of_ble_eq_true rfl⟩ dX7_keyWithRows_25 (fun H locs hP hD hS => ?_)
        refine lv_istore (lv' := [(4, .int r_13), (0, .ref (a 2)), (2, .int y2), (5, .int y5)]) hx hb dX7_keyWithRows_28 hl (by decide) rfl (fun ls hl => ?_)
        refine lv_iinc (v := (y5 + (1 : Int32))) (lv' := [(5, .int (y5 + (1 : Int32))), (4, .int r_13), (0, .ref (a 2)), (2, .int y2)]) hx hb dX7_keyWithRows_30 hl (k := 3) rfl rfl (by decide) rfl (fun ls hl => ?_)
        refine lv_goto (tgt := 6) hx hb dX7_keyWithRows_33 (by decide) ?_
        exact w_6 y2 r_13 (y5 + (1 : Int32)) H locs ls hf hP hD hS (lv_sub hl [2, 3, 1, 0] rfl)
  refine lv_iload_n hx hb dX7_keyWithRows_0 rfl (lv_at hl 1 rfl) ?_
  refine lv_istore (lv' := [(4, .int x1), (0, .ref (a 2)), (1, .int x1), (2, .int x2), (3, .int x3)]) hx hb dX7_keyWithRows_1 hl (by decide) rfl (fun ls hl => ?_)
  refine lv_iload_n hx hb dX7_keyWithRows_3 rfl (lv_at hl 4 rfl) ?_
  refine lv_istore (lv' := [(5, .int x3), (4, .int x1), (0, .ref (a 2)), (1, .int x1), (2, .int x2), (3, .int x3)]) hx hb dX7_keyWithRows_4 hl (by decide) rfl (fun ls hl => ?_)
  exact w_6 1000 x2 x1 x3 H locs ls hf hP hD hS (lv_sub hl [2, 4, 1, 0] rfl)
def f_X7_firstOf (x1 : Int32) : Option (Int32) := if x1 < 0 then (some ((0 : Int32))) else (if (8 : Int32) < x1 then (some ((0 : Int32))) else (p_in x1 10 (some ((xi_FIRST (Int32.toNatClampNeg x1))))))
set_option maxHeartbeats 4000000 in
set_option maxRecDepth 20000 in
theorem c_X7_firstOf (l : Launch) (D : va_G) (cyI cyJ : ClassId) (G a : Nat → Nat) (sz : Nat) (v7_rows : Nat → Int32) (v7_lengths : Nat → Int32) (v7_sizes : Nat → Int32) (v7_rests : Nat → Int32) (v7_orders : Nat → Int32) (x1 : Int32) (ro : Int32) (hf : f_X7_firstOf x1 = some ro) : xm_i l yX7_firstOf (Cond.code yX7_firstOf cX7_firstOf 2 (some .int) :: xg_tbl) { frames := 0, cells := 0, slots := 0, locals := 0 } D xcl [(cyI, .int), (cyJ, .long)] G sz [.ref (a 2), .int x1] (wd_X7 a cyI cyJ v7_rows v7_lengths v7_sizes v7_rests v7_orders) (wd_X7 a cyI cyJ v7_rows v7_lengths v7_sizes v7_rests v7_orders) ro := by
  refine xm_of_i (own := RX7) (by decide) rfl rfl (Nat.le_of_ble_eq_true rfl) ?_
  intro p e s m args below meth c ls Q A hQ hAe hin Cx hsz hP hD hS hl
  have Cx1 := Cx
  obtain ⟨⟨hx, hb, hml, hown, hts⟩, hr, hlocks, hK, hA, hT⟩ := Cx1
  have hl : lv_has ls 2 [(0, .ref (a 2)), (1, .int x1)] := hl
  obtain ⟨H, eH⟩ : ∃ H, H = s.heap := ⟨_, rfl⟩
  obtain ⟨locs, eL⟩ : ∃ L : List Loc, L = [] := ⟨_, rfl⟩
  rw [← eH] at hP
  have hS : va_S A s.heap H locs := by rw [eH, eL]; exact hS
  suffices hgo : W p l e { frames := 0, cells := 0, slots := 0, locals := 0 } s m args below meth c H locs 0 0 Q (F0 m 0 ls []) by rw [eH, eL] at hgo; exact hgo
  clear eH eL
  unfold f_X7_firstOf at hf
  refine lv_iload_n hx hb dX7_firstOf_0 rfl (lv_at hl 1 rfl) ?_
  refine lv_if_lt (tgt := 18) hx hb dX7_firstOf_1 (by decide) (fun hc_4 => ?_) (fun hc_4 => ?_)
  · have hf := pe_t hf hc_4
    refine lv_iconst (v := (0 : Int32)) hx hb dX7_firstOf_18 (by decide) ?_
    obtain rfl := po_1 hf
    rw [← hQ]; exact xe_iret Cx rfl hP hD hS dX7_firstOf_19
  · have hf := pe_f hf hc_4
    refine lv_iload_n hx hb dX7_firstOf_4 rfl (lv_at hl 1 rfl) ?_
    refine lv_bipush (v := (8 : Int32)) hx hb dX7_firstOf_5 (by decide) ?_
    refine lv_icmp_gt (tgt := 18) hx hb dX7_firstOf_7 (by decide) (fun hc_5 => ?_) (fun hc_5 => ?_)
    · have hf := pe_t hf hc_5
      refine lv_iconst (v := (0 : Int32)) hx hb dX7_firstOf_18 (by decide) ?_
      obtain rfl := po_1 hf
      rw [← hQ]; exact xe_iret Cx rfl hP hD hS dX7_firstOf_19
    · have hf := pe_f hf hc_5
      refine va_gets hx hb hT.2.1.1 hS hown (hts _ mw_1_73) (fun _ h9 => h9) dX7_firstOf_10 ?_
      refine lv_iload_n hx hb dX7_firstOf_13 rfl (lv_at hl 1 rfl) ?_
      obtain ⟨hi_6, hf⟩ := pe_in hf
      refine va_ti hx hb hT.2.1.2 hS hi_6 (v := .int (xi_FIRST (Int32.toNatClampNeg x1))) rfl dX7_firstOf_14 ?_
      refine lv_goto (tgt := 19) hx hb dX7_firstOf_15 (by decide) ?_
      obtain rfl := po_1 hf
      rw [← hQ]; exact xe_iret Cx rfl hP hD hS dX7_firstOf_19
def f_X7_countOf (x1 : Int32) : Option (Int32) := if x1 < 0 then (some ((0 : Int32))) else (if (8 : Int32) < x1 then (some ((0 : Int32))) else (p_in (x1 + (1 : Int32)) 10 (p_in x1 10 (some (((xi_FIRST (Int32.toNatClampNeg (x1 + (1 : Int32)))) - (xi_FIRST (Int32.toNatClampNeg x1))))))))
set_option maxHeartbeats 4000000 in
set_option maxRecDepth 20000 in
theorem c_X7_countOf (l : Launch) (D : va_G) (cyI cyJ : ClassId) (G a : Nat → Nat) (sz : Nat) (v7_rows : Nat → Int32) (v7_lengths : Nat → Int32) (v7_sizes : Nat → Int32) (v7_rests : Nat → Int32) (v7_orders : Nat → Int32) (x1 : Int32) (ro : Int32) (hf : f_X7_countOf x1 = some ro) : xm_i l yX7_countOf (Cond.code yX7_countOf cX7_countOf 2 (some .int) :: xg_tbl) { frames := 0, cells := 0, slots := 0, locals := 0 } D xcl [(cyI, .int), (cyJ, .long)] G sz [.ref (a 2), .int x1] (wd_X7 a cyI cyJ v7_rows v7_lengths v7_sizes v7_rests v7_orders) (wd_X7 a cyI cyJ v7_rows v7_lengths v7_sizes v7_rests v7_orders) ro := by
  refine xm_of_i (own := RX7) (by decide) rfl rfl (Nat.le_of_ble_eq_true rfl) ?_
  intro p e s m args below meth c ls Q A hQ hAe hin Cx hsz hP hD hS hl
  have Cx1 := Cx
  obtain ⟨⟨hx, hb, hml, hown, hts⟩, hr, hlocks, hK, hA, hT⟩ := Cx1
  have hl : lv_has ls 2 [(0, .ref (a 2)), (1, .int x1)] := hl
  obtain ⟨H, eH⟩ : ∃ H, H = s.heap := ⟨_, rfl⟩
  obtain ⟨locs, eL⟩ : ∃ L : List Loc, L = [] := ⟨_, rfl⟩
  rw [← eH] at hP
  have hS : va_S A s.heap H locs := by rw [eH, eL]; exact hS
  suffices hgo : W p l e { frames := 0, cells := 0, slots := 0, locals := 0 } s m args below meth c H locs 0 0 Q (F0 m 0 ls []) by rw [eH, eL] at hgo; exact hgo
  clear eH eL
  unfold f_X7_countOf at hf
  refine lv_iload_n hx hb dX7_countOf_0 rfl (lv_at hl 1 rfl) ?_
  refine lv_if_lt (tgt := 26) hx hb dX7_countOf_1 (by decide) (fun hc_5 => ?_) (fun hc_5 => ?_)
  · have hf := pe_t hf hc_5
    refine lv_iconst (v := (0 : Int32)) hx hb dX7_countOf_26 (by decide) ?_
    obtain rfl := po_1 hf
    rw [← hQ]; exact xe_iret Cx rfl hP hD hS dX7_countOf_27
  · have hf := pe_f hf hc_5
    refine lv_iload_n hx hb dX7_countOf_4 rfl (lv_at hl 1 rfl) ?_
    refine lv_bipush (v := (8 : Int32)) hx hb dX7_countOf_5 (by decide) ?_
    refine lv_icmp_gt (tgt := 26) hx hb dX7_countOf_7 (by decide) (fun hc_6 => ?_) (fun hc_6 => ?_)
    · have hf := pe_t hf hc_6
      refine lv_iconst (v := (0 : Int32)) hx hb dX7_countOf_26 (by decide) ?_
      obtain rfl := po_1 hf
      rw [← hQ]; exact xe_iret Cx rfl hP hD hS dX7_countOf_27
    · have hf := pe_f hf hc_6
      refine va_gets hx hb hT.2.1.1 hS hown (hts _ mw_1_73) (fun _ h9 => h9) dX7_countOf_10 ?_
      refine lv_iload_n hx hb dX7_countOf_13 rfl (lv_at hl 1 rfl) ?_
      refine lv_iconst (v := (1 : Int32)) hx hb dX7_countOf_14 (by decide) ?_
      refine lv_iadd hx hb dX7_countOf_15 ?_
      obtain ⟨hi_7, hf⟩ := pe_in hf
      refine va_ti hx hb hT.2.1.2 hS hi_7 (v := .int (xi_FIRST (Int32.toNatClampNeg (x1 + (1 : Int32))))) rfl dX7_countOf_16 ?_
      refine va_gets hx hb hT.2.1.1 hS hown (hts _ mw_1_73) (fun _ h9 => h9) dX7_countOf_17 ?_
      refine lv_iload_n hx hb dX7_countOf_20 rfl (lv_at hl 1 rfl) ?_
      obtain ⟨hi_8, hf⟩ := pe_in hf
      refine va_ti hx hb hT.2.1.2 hS hi_8 (v := .int (xi_FIRST (Int32.toNatClampNeg x1))) rfl dX7_countOf_21 ?_
      refine lv_isub hx hb dX7_countOf_22 ?_
      refine lv_goto (tgt := 27) hx hb dX7_countOf_23 (by decide) ?_
      obtain rfl := po_1 hf
      rw [← hQ]; exact xe_iret Cx rfl hP hD hS dX7_countOf_27
def gf_X7_find_19 (K_19 : Int32 → Int32 → Int32 → Option (Int32)) (y2 : Int32) (y3 : Int32) (y4 : Int32) : Option (Int32) := if y3 ≤ y4 then (some ((-1 : Int32))) else (p_in y4 67 (if (xi_KEYS (Int32.toNatClampNeg y4)) = y2 then (some (y4)) else (K_19 y2 y3 (y4 + (1 : Int32)))))
def f_X7_find_19 : Nat → Int32 → Int32 → Int32 → Option (Int32)
  | 0 => fun _ _ _ => none
  | n + 1 => gf_X7_find_19 (f_X7_find_19 n)
def f_X7_find (x1 : Int32) (x2 : Int32) : Option (Int32) := p_b1 (f_X7_firstOf x1) (fun r_4 => p_b1 (f_X7_countOf x1) (fun r_6 => p_b1 (f_X7_firstOf x1) (fun r_8 => (f_X7_find_19 1000) x2 (r_4 + r_6) r_8)))
set_option maxHeartbeats 4000000 in
set_option maxRecDepth 20000 in
theorem c_X7_find (l : Launch) (D : va_G) (cyI cyJ : ClassId) (G a : Nat → Nat) (sz : Nat) (v7_rows : Nat → Int32) (v7_lengths : Nat → Int32) (v7_sizes : Nat → Int32) (v7_rests : Nat → Int32) (v7_orders : Nat → Int32) (x1 : Int32) (x2 : Int32) (ro : Int32) (hf : f_X7_find x1 x2 = some ro) : xm_i l yX7_find (Cond.code yX7_find cX7_find 5 (some .int) :: xg_tbl) { frames := 1, cells := 0, slots := 0, locals := 21 } D xcl [(cyI, .int), (cyJ, .long)] G sz [.ref (a 2), .int x1, .int x2] (wd_X7 a cyI cyJ v7_rows v7_lengths v7_sizes v7_rests v7_orders) (wd_X7 a cyI cyJ v7_rows v7_lengths v7_sizes v7_rests v7_orders) ro := by
  refine xm_of_i (own := RX7) (by decide) rfl rfl (Nat.le_of_ble_eq_true rfl) ?_
  intro p e s m args below meth c ls Q A hQ hAe hin Cx hsz hP hD hS hl
  have Cx1 := Cx
  obtain ⟨⟨hx, hb, hml, hown, hts⟩, hr, hlocks, hK, hA, hT⟩ := Cx1
  have hl : lv_has ls 5 [(0, .ref (a 2)), (1, .int x1), (2, .int x2)] := hl
  obtain ⟨H, eH⟩ : ∃ H, H = s.heap := ⟨_, rfl⟩
  obtain ⟨locs, eL⟩ : ∃ L : List Loc, L = [] := ⟨_, rfl⟩
  rw [← eH] at hP
  have hS : va_S A s.heap H locs := by rw [eH, eL]; exact hS
  suffices hgo : W p l e { frames := 1, cells := 0, slots := 0, locals := 21 } s m args below meth c H locs 0 0 Q (F0 m 0 ls []) by rw [eH, eL] at hgo; exact hgo
  clear eH eL
  unfold f_X7_find at hf
  have w_19 : ∀ (n_19 : Nat) (y2 : Int32) (y3 : Int32) (y4 : Int32) (H : Heap) (locs : List Loc) (ls : Array Slot), f_X7_find_19 n_19 y2 y3 y4 = some ro → va_P D xcl (wd_X7 a cyI cyJ v7_rows v7_lengths v7_sizes v7_rests v7_orders) H → va_D A (wd_X7 a cyI cyJ v7_rows v7_lengths v7_sizes v7_rests v7_orders) → va_S A s.heap H locs → lv_has ls 5 [(2, .int y2), (3, .int y3), (4, .int y4)] → W p l e { frames := 1, cells := 0, slots := 0, locals := 21 } s m args below meth c H locs 0 0 Q (F0 m 19 ls []) := by
    intro n_19
    induction n_19 with
    | zero => intro y2 y3 y4 H locs ls hf; exact absurd hf (by intro h9; cases h9)
    | succ n_19 w_19 =>
      intro y2 y3 y4 H locs ls hf hP hD hS hl
      have hf : gf_X7_find_19 (f_X7_find_19 n_19) y2 y3 y4 = some ro := hf
      unfold gf_X7_find_19 at hf
      refine lv_iload hx hb dX7_find_19 (lv_at hl 2 rfl) ?_
      refine lv_iload_n hx hb dX7_find_21 rfl (lv_at hl 1 rfl) ?_
      refine lv_icmp_ge (tgt := 44) hx hb dX7_find_22 (by decide) (fun hc_10 => ?_) (fun hc_10 => ?_)
      · have hf := pe_t hf hc_10
        refine lv_iconst (v := (-1 : Int32)) hx hb dX7_find_44 (by decide) ?_
        obtain rfl := po_1 hf
        rw [← hQ]; exact xe_iret Cx rfl hP hD hS dX7_find_45
      · have hf := pe_f hf hc_10
        refine va_gets hx hb hT.1.1 hS hown (hts _ mw_1_40) (fun _ h9 => h9) dX7_find_25 ?_
        refine lv_iload hx hb dX7_find_28 (lv_at hl 2 rfl) ?_
        obtain ⟨hi_11, hf⟩ := pe_in hf
        refine va_ti hx hb hT.1.2 hS hi_11 (v := .int (xi_KEYS (Int32.toNatClampNeg y4))) rfl dX7_find_30 ?_
        refine lv_iload_n hx hb dX7_find_31 rfl (lv_at hl 0 rfl) ?_
        refine lv_icmp_ne (tgt := 38) hx hb dX7_find_32 (by decide) (fun hc_12 => ?_) (fun hc_12 => ?_)
        · have hf := pe_f hf hc_12
          refine lv_iinc (v := (y4 + (1 : Int32))) (lv' := [(4, .int (y4 + (1 : Int32))), (2, .int y2), (3, .int y3)]) hx hb dX7_find_38 hl (k := 2) rfl rfl (by decide) rfl (fun ls hl => ?_)
          refine lv_goto (tgt := 19) hx hb dX7_find_41 (by decide) ?_
          exact w_19 y2 y3 (y4 + (1 : Int32)) H locs ls hf hP hD hS (lv_sub hl [1, 2, 0] rfl)
        · have hf := pe_t hf hc_12
          refine lv_iload hx hb dX7_find_35 (lv_at hl 2 rfl) ?_
          obtain rfl := po_1 hf
          rw [← hQ]; exact xe_iret Cx rfl hP hD hS dX7_find_37
  refine lv_aload_n hx hb dX7_find_0 rfl (lv_at hl 0 rfl) ?_
  refine lv_iload_n hx hb dX7_find_1 rfl (lv_at hl 1 rfl) ?_
  obtain ⟨r_13, hk_14, hf⟩ := pe_1 hf
  refine xv_i (As := [.int x1]) (rest := []) (q0 := 0) (ci := 7) Cx hP hD hS hl (pl_X7_X7 a cyI cyJ v7_rows v7_lengths v7_sizes v7_rests v7_orders v7_rows v7_lengths v7_sizes v7_rests v7_orders) (c_X7_firstOf l D cyI cyJ G a H.size v7_rows v7_lengths v7_sizes v7_rests v7_orders x1 r_13 hk_14) pk_X7_firstOf mw_1_69 ⟨rfl, rfl, Nat.le_of_ble_eq_true rfl, Nat.le_of_ble_eq_true rfl⟩ rfl rfl rfl rfl rfl (Nat.le_of_ble_eq_true rfl) ⟨Nat.le_of_ble_eq_true rfl, Nat.le_of_ble_eq_true rfl⟩ dX7_find_2 (fun H locs hP hD hS => ?_)
  refine lv_aload_n hx hb dX7_find_5 rfl (lv_at hl 0 rfl) ?_
  refine lv_iload_n hx hb dX7_find_6 rfl (lv_at hl 1 rfl) ?_
  obtain ⟨r_15, hk_16, hf⟩ := pe_1 hf
  refine xv_i (As := [.int x1]) (rest := [.int r_13]) (q0 := 0) (ci := 7) Cx hP hD hS hl (pl_X7_X7 a cyI cyJ v7_rows v7_lengths v7_sizes v7_rests v7_orders v7_rows v7_lengths v7_sizes v7_rests v7_orders) (c_X7_countOf l D cyI cyJ G a H.size v7_rows v7_lengths v7_sizes v7_rests v7_orders x1 r_15 hk_16) pk_X7_countOf mw_1_75 ⟨rfl, rfl, Nat.le_of_ble_eq_true rfl, Nat.le_of_ble_eq_true rfl⟩ rfl rfl rfl rfl rfl (Nat.le_of_ble_eq_true rfl) ⟨Nat.le_of_ble_eq_true rfl, Nat.le_of_ble_eq_true rfl⟩ dX7_find_7 (fun H locs hP hD hS => ?_)
  refine lv_iadd hx hb dX7_find_10 ?_
  refine lv_istore_n (lv' := [(3, .int (r_13 + r_15)), (0, .ref (a 2)), (1, .int x1), (2, .int x2)]) hx hb dX7_find_11 rfl hl (by decide) rfl (fun ls hl => ?_)
  refine lv_aload_n hx hb dX7_find_12 rfl (lv_at hl 1 rfl) ?_
  refine lv_iload_n hx hb dX7_find_13 rfl (lv_at hl 2 rfl) ?_
  obtain ⟨r_17, hk_18, hf⟩ := pe_1 hf
  refine xv_i (As := [.int x1]) (rest := []) (q0 := 0) (ci := 7) Cx hP hD hS hl (pl_X7_X7 a cyI cyJ v7_rows v7_lengths v7_sizes v7_rests v7_orders v7_rows v7_lengths v7_sizes v7_rests v7_orders) (c_X7_firstOf l D cyI cyJ G a H.size v7_rows v7_lengths v7_sizes v7_rests v7_orders x1 r_17 hk_18) pk_X7_firstOf mw_1_69 ⟨rfl, rfl, Nat.le_of_ble_eq_true rfl, Nat.le_of_ble_eq_true rfl⟩ rfl rfl rfl rfl rfl (Nat.le_of_ble_eq_true rfl) ⟨Nat.le_of_ble_eq_true rfl, Nat.le_of_ble_eq_true rfl⟩ dX7_find_14 (fun H locs hP hD hS => ?_)
  refine lv_istore (lv' := [(4, .int r_17), (3, .int (r_13 + r_15)), (0, .ref (a 2)), (1, .int x1), (2, .int x2)]) hx hb dX7_find_17 hl (by decide) rfl (fun ls hl => ?_)
  exact w_19 1000 x2 (r_13 + r_15) r_17 H locs ls hf hP hD hS (lv_sub hl [4, 1, 0] rfl)
def f_X7_restOf (v7_rests : Nat → Int32) (x1 : Int32) : Option (Int32) := p_b1 (f_X7_has x1) (fun r_1 => if r_1 = 0 then (some ((0 : Int32))) else (p_in x1 67 (some ((v7_rests (Int32.toNatClampNeg x1))))))
set_option maxHeartbeats 4000000 in
set_option maxRecDepth 20000 in
theorem c_X7_restOf (l : Launch) (D : va_G) (cyI cyJ : ClassId) (G a : Nat → Nat) (sz : Nat) (v7_rows : Nat → Int32) (v7_lengths : Nat → Int32) (v7_sizes : Nat → Int32) (v7_rests : Nat → Int32) (v7_orders : Nat → Int32) (x1 : Int32) (ro : Int32) (hf : f_X7_restOf v7_rests x1 = some ro) : xm_i l yX7_restOf (Cond.code yX7_restOf cX7_restOf 2 (some .int) :: xg_tbl) { frames := 1, cells := 0, slots := 0, locals := 21 } D xcl [(cyI, .int), (cyJ, .long)] G sz [.ref (a 2), .int x1] (wd_X7 a cyI cyJ v7_rows v7_lengths v7_sizes v7_rests v7_orders) (wd_X7 a cyI cyJ v7_rows v7_lengths v7_sizes v7_rests v7_orders) ro := by
  refine xm_of_i (own := RX7) (by decide) rfl rfl (Nat.le_of_ble_eq_true rfl) ?_
  intro p e s m args below meth c ls Q A hQ hAe hin Cx hsz hP hD hS hl
  have Cx1 := Cx
  obtain ⟨⟨hx, hb, hml, hown, hts⟩, hr, hlocks, hK, hA, hT⟩ := Cx1
  have hl : lv_has ls 2 [(0, .ref (a 2)), (1, .int x1)] := hl
  obtain ⟨H, eH⟩ : ∃ H, H = s.heap := ⟨_, rfl⟩
  obtain ⟨locs, eL⟩ : ∃ L : List Loc, L = [] := ⟨_, rfl⟩
  rw [← eH] at hP
  have hS : va_S A s.heap H locs := by rw [eH, eL]; exact hS
  suffices hgo : W p l e { frames := 1, cells := 0, slots := 0, locals := 21 } s m args below meth c H locs 0 0 Q (F0 m 0 ls []) by rw [eH, eL] at hgo; exact hgo
  clear eH eL
  unfold f_X7_restOf at hf
  refine lv_aload_n hx hb dX7_restOf_0 rfl (lv_at hl 0 rfl) ?_
  refine lv_iload_n hx hb dX7_restOf_1 rfl (lv_at hl 1 rfl) ?_
  obtain ⟨r_6, hk_7, hf⟩ := pe_1 hf
  refine xv_z (As := [.int x1]) (rest := []) (q0 := 0) (ci := 7) Cx hP hD hS hl (pl_X7_X7 a cyI cyJ v7_rows v7_lengths v7_sizes v7_rests v7_orders v7_rows v7_lengths v7_sizes v7_rests v7_orders) (c_X7_has l D cyI cyJ G a H.size v7_rows v7_lengths v7_sizes v7_rests v7_orders x1 r_6 hk_7) pk_X7_has mw_1_46 ⟨rfl, rfl, Nat.le_of_ble_eq_true rfl, Nat.le_of_ble_eq_true rfl⟩ rfl rfl rfl rfl rfl (Nat.le_of_ble_eq_true rfl) ⟨Nat.le_of_ble_eq_true rfl, Nat.le_of_ble_eq_true rfl⟩ dX7_restOf_2 (fun H locs hn_8 hP hD hS => ?_)
  refine lv_if_eq (tgt := 17) hx hb dX7_restOf_5 (by decide) (fun hc_9 => ?_) (fun hc_9 => ?_)
  · have hf := pe_t hf hc_9
    refine lv_iconst (v := (0 : Int32)) hx hb dX7_restOf_17 (by decide) ?_
    obtain rfl := po_1 hf
    rw [← hQ]; exact xe_iret Cx rfl hP hD hS dX7_restOf_18
  · have hf := pe_f hf hc_9
    refine lv_aload_n hx hb dX7_restOf_8 rfl (lv_at hl 0 rfl) ?_
    refine va_get (ci := 7) (v := .ref (a 6)) hx hb hts wX7_in hown hK hP 0 rfl rfl 3 (by decide) (hts _ mw_1_91) (fun _ h9 => h9) rfl dX7_restOf_9 ?_
    refine lv_iload_n hx hb dX7_restOf_12 rfl (lv_at hl 1 rfl) ?_
    obtain ⟨hi_10, hf⟩ := pe_in hf
    refine va_iald hx hb hK hP 4 0 rfl rfl hi_10 dX7_restOf_13 ?_
    refine lv_goto (tgt := 18) hx hb dX7_restOf_14 (by decide) ?_
    obtain rfl := po_1 hf
    rw [← hQ]; exact xe_iret Cx rfl hP hD hS dX7_restOf_18
def f_X7_ordersOf (v7_orders : Nat → Int32) (x1 : Int32) : Option (Int32) := p_b1 (f_X7_has x1) (fun r_1 => if r_1 = 0 then (some ((0 : Int32))) else (p_in x1 67 (some ((v7_orders (Int32.toNatClampNeg x1))))))
set_option maxHeartbeats 4000000 in
set_option maxRecDepth 20000 in
theorem c_X7_ordersOf (l : Launch) (D : va_G) (cyI cyJ : ClassId) (G a : Nat → Nat) (sz : Nat) (v7_rows : Nat → Int32) (v7_lengths : Nat → Int32) (v7_sizes : Nat → Int32) (v7_rests : Nat → Int32) (v7_orders : Nat → Int32) (x1 : Int32) (ro : Int32) (hf : f_X7_ordersOf v7_orders x1 = some ro) : xm_i l yX7_ordersOf (Cond.code yX7_ordersOf cX7_ordersOf 2 (some .int) :: xg_tbl) { frames := 1, cells := 0, slots := 0, locals := 21 } D xcl [(cyI, .int), (cyJ, .long)] G sz [.ref (a 2), .int x1] (wd_X7 a cyI cyJ v7_rows v7_lengths v7_sizes v7_rests v7_orders) (wd_X7 a cyI cyJ v7_rows v7_lengths v7_sizes v7_rests v7_orders) ro := by
  refine xm_of_i (own := RX7) (by decide) rfl rfl (Nat.le_of_ble_eq_true rfl) ?_
  intro p e s m args below meth c ls Q A hQ hAe hin Cx hsz hP hD hS hl
  have Cx1 := Cx
  obtain ⟨⟨hx, hb, hml, hown, hts⟩, hr, hlocks, hK, hA, hT⟩ := Cx1
  have hl : lv_has ls 2 [(0, .ref (a 2)), (1, .int x1)] := hl
  obtain ⟨H, eH⟩ : ∃ H, H = s.heap := ⟨_, rfl⟩
  obtain ⟨locs, eL⟩ : ∃ L : List Loc, L = [] := ⟨_, rfl⟩
  rw [← eH] at hP
  have hS : va_S A s.heap H locs := by rw [eH, eL]; exact hS
  suffices hgo : W p l e { frames := 1, cells := 0, slots := 0, locals := 21 } s m args below meth c H locs 0 0 Q (F0 m 0 ls []) by rw [eH, eL] at hgo; exact hgo
  clear eH eL
  unfold f_X7_ordersOf at hf
  refine lv_aload_n hx hb dX7_ordersOf_0 rfl (lv_at hl 0 rfl) ?_
  refine lv_iload_n hx hb dX7_ordersOf_1 rfl (lv_at hl 1 rfl) ?_
  obtain ⟨r_6, hk_7, hf⟩ := pe_1 hf
  refine xv_z (As := [.int x1]) (rest := []) (q0 := 0) (ci := 7) Cx hP hD hS hl (pl_X7_X7 a cyI cyJ v7_rows v7_lengths v7_sizes v7_rests v7_orders v7_rows v7_lengths v7_sizes v7_rests v7_orders) (c_X7_has l D cyI cyJ G a H.size v7_rows v7_lengths v7_sizes v7_rests v7_orders x1 r_6 hk_7) pk_X7_has mw_1_46 ⟨rfl, rfl, Nat.le_of_ble_eq_true rfl, Nat.le_of_ble_eq_true rfl⟩ rfl rfl rfl rfl rfl (Nat.le_of_ble_eq_true rfl) ⟨Nat.le_of_ble_eq_true rfl, Nat.le_of_ble_eq_true rfl⟩ dX7_ordersOf_2 (fun H locs hn_8 hP hD hS => ?_)
  refine lv_if_eq (tgt := 17) hx hb dX7_ordersOf_5 (by decide) (fun hc_9 => ?_) (fun hc_9 => ?_)
  · have hf := pe_t hf hc_9
    refine lv_iconst (v := (0 : Int32)) hx hb dX7_ordersOf_17 (by decide) ?_
    obtain rfl := po_1 hf
    rw [← hQ]; exact xe_iret Cx rfl hP hD hS dX7_ordersOf_18
  · have hf := pe_f hf hc_9
    refine lv_aload_n hx hb dX7_ordersOf_8 rfl (lv_at hl 0 rfl) ?_
    refine va_get (ci := 7) (v := .ref (a 7)) hx hb hts wX7_in hown hK hP 0 rfl rfl 4 (by decide) (hts _ mw_1_92) (fun _ h9 => h9) rfl dX7_ordersOf_9 ?_
    refine lv_iload_n hx hb dX7_ordersOf_12 rfl (lv_at hl 1 rfl) ?_
    obtain ⟨hi_10, hf⟩ := pe_in hf
    refine va_iald hx hb hK hP 5 0 rfl rfl hi_10 dX7_ordersOf_13 ?_
    refine lv_goto (tgt := 18) hx hb dX7_ordersOf_14 (by decide) ?_
    obtain rfl := po_1 hf
    rw [← hQ]; exact xe_iret Cx rfl hP hD hS dX7_ordersOf_18
def f_X7_alike (v7_sizes : Nat → Int32) (x1 : Int32) (x2 : Int32) : Option (Int32) := p_b1 (f_X7_sizeOf v7_sizes x1) (fun r_1 => p_b1 (f_X7_sizeOf v7_sizes x2) (fun r_3 => if r_1 = r_3 then (some ((1 : Int32))) else (some ((0 : Int32)))))
set_option maxHeartbeats 4000000 in
set_option maxRecDepth 20000 in
theorem c_X7_alike (l : Launch) (D : va_G) (cyI cyJ : ClassId) (G a : Nat → Nat) (sz : Nat) (v7_rows : Nat → Int32) (v7_lengths : Nat → Int32) (v7_sizes : Nat → Int32) (v7_rests : Nat → Int32) (v7_orders : Nat → Int32) (x1 : Int32) (x2 : Int32) (ro : Int32) (hf : f_X7_alike v7_sizes x1 x2 = some ro) : xm_z l yX7_alike (Cond.code yX7_alike cX7_alike 3 (some .boolean) :: xg_tbl) { frames := 2, cells := 0, slots := 0, locals := 42 } D xcl [(cyI, .int), (cyJ, .long)] G sz [.ref (a 2), .int x1, .int x2] (wd_X7 a cyI cyJ v7_rows v7_lengths v7_sizes v7_rests v7_orders) (wd_X7 a cyI cyJ v7_rows v7_lengths v7_sizes v7_rests v7_orders) ro := by
  refine xm_of_z (own := RX7) (by decide) rfl rfl (Nat.le_of_ble_eq_true rfl) ?_
  intro p e s m args below meth c ls Q A hQ hAe hin Cx hsz hP hD hS hl
  have Cx1 := Cx
  obtain ⟨⟨hx, hb, hml, hown, hts⟩, hr, hlocks, hK, hA, hT⟩ := Cx1
  have hl : lv_has ls 3 [(0, .ref (a 2)), (1, .int x1), (2, .int x2)] := hl
  obtain ⟨H, eH⟩ : ∃ H, H = s.heap := ⟨_, rfl⟩
  obtain ⟨locs, eL⟩ : ∃ L : List Loc, L = [] := ⟨_, rfl⟩
  rw [← eH] at hP
  have hS : va_S A s.heap H locs := by rw [eH, eL]; exact hS
  suffices hgo : W p l e { frames := 2, cells := 0, slots := 0, locals := 42 } s m args below meth c H locs 0 0 Q (F0 m 0 ls []) by rw [eH, eL] at hgo; exact hgo
  clear eH eL
  unfold f_X7_alike at hf
  refine lv_aload_n hx hb dX7_alike_0 rfl (lv_at hl 0 rfl) ?_
  refine lv_iload_n hx hb dX7_alike_1 rfl (lv_at hl 1 rfl) ?_
  obtain ⟨r_6, hk_7, hf⟩ := pe_1 hf
  refine xv_i (As := [.int x1]) (rest := []) (q0 := 0) (ci := 7) Cx hP hD hS hl (pl_X7_X7 a cyI cyJ v7_rows v7_lengths v7_sizes v7_rests v7_orders v7_rows v7_lengths v7_sizes v7_rests v7_orders) (c_X7_sizeOf l D cyI cyJ G a H.size v7_rows v7_lengths v7_sizes v7_rests v7_orders x1 r_6 hk_7) pk_X7_sizeOf mw_1_42 ⟨rfl, rfl, Nat.le_of_ble_eq_true rfl, Nat.le_of_ble_eq_true rfl⟩ rfl rfl rfl rfl rfl (Nat.le_of_ble_eq_true rfl) ⟨Nat.le_of_ble_eq_true rfl, Nat.le_of_ble_eq_true rfl⟩ dX7_alike_2 (fun H locs hP hD hS => ?_)
  refine lv_aload_n hx hb dX7_alike_5 rfl (lv_at hl 0 rfl) ?_
  refine lv_iload_n hx hb dX7_alike_6 rfl (lv_at hl 2 rfl) ?_
  obtain ⟨r_8, hk_9, hf⟩ := pe_1 hf
  refine xv_i (As := [.int x2]) (rest := [.int r_6]) (q0 := 0) (ci := 7) Cx hP hD hS hl (pl_X7_X7 a cyI cyJ v7_rows v7_lengths v7_sizes v7_rests v7_orders v7_rows v7_lengths v7_sizes v7_rests v7_orders) (c_X7_sizeOf l D cyI cyJ G a H.size v7_rows v7_lengths v7_sizes v7_rests v7_orders x2 r_8 hk_9) pk_X7_sizeOf mw_1_42 ⟨rfl, rfl, Nat.le_of_ble_eq_true rfl, Nat.le_of_ble_eq_true rfl⟩ rfl rfl rfl rfl rfl (Nat.le_of_ble_eq_true rfl) ⟨Nat.le_of_ble_eq_true rfl, Nat.le_of_ble_eq_true rfl⟩ dX7_alike_7 (fun H locs hP hD hS => ?_)
  refine lv_icmp_ne (tgt := 17) hx hb dX7_alike_10 (by decide) (fun hc_10 => ?_) (fun hc_10 => ?_)
  · have hf := pe_f hf hc_10
    refine lv_iconst (v := (0 : Int32)) hx hb dX7_alike_17 (by decide) ?_
    obtain rfl := po_1 hf
    rw [← hQ]; exact xe_zret Cx rfl rfl hP hD hS dX7_alike_18
  · have hf := pe_t hf hc_10
    refine lv_iconst (v := (1 : Int32)) hx hb dX7_alike_13 (by decide) ?_
    refine lv_goto (tgt := 18) hx hb dX7_alike_14 (by decide) ?_
    obtain rfl := po_1 hf
    rw [← hQ]; exact xe_zret Cx rfl rfl hP hD hS dX7_alike_18
def f_X7_placeOf (v7_sizes : Nat → Int32) (x1 : Int32) : Option (Int32) := p_b1 (f_X7_sizeOf v7_sizes x1) (fun r_1 => p_b1 (f_X7_firstOf r_1) (fun r_3 => some ((x1 - r_3))))
set_option maxHeartbeats 4000000 in
set_option maxRecDepth 20000 in
theorem c_X7_placeOf (l : Launch) (D : va_G) (cyI cyJ : ClassId) (G a : Nat → Nat) (sz : Nat) (v7_rows : Nat → Int32) (v7_lengths : Nat → Int32) (v7_sizes : Nat → Int32) (v7_rests : Nat → Int32) (v7_orders : Nat → Int32) (x1 : Int32) (ro : Int32) (hf : f_X7_placeOf v7_sizes x1 = some ro) : xm_i l yX7_placeOf (Cond.code yX7_placeOf cX7_placeOf 2 (some .int) :: xg_tbl) { frames := 2, cells := 0, slots := 0, locals := 42 } D xcl [(cyI, .int), (cyJ, .long)] G sz [.ref (a 2), .int x1] (wd_X7 a cyI cyJ v7_rows v7_lengths v7_sizes v7_rests v7_orders) (wd_X7 a cyI cyJ v7_rows v7_lengths v7_sizes v7_rests v7_orders) ro := by
  refine xm_of_i (own := RX7) (by decide) rfl rfl (Nat.le_of_ble_eq_true rfl) ?_
  intro p e s m args below meth c ls Q A hQ hAe hin Cx hsz hP hD hS hl
  have Cx1 := Cx
  obtain ⟨⟨hx, hb, hml, hown, hts⟩, hr, hlocks, hK, hA, hT⟩ := Cx1
  have hl : lv_has ls 2 [(0, .ref (a 2)), (1, .int x1)] := hl
  obtain ⟨H, eH⟩ : ∃ H, H = s.heap := ⟨_, rfl⟩
  obtain ⟨locs, eL⟩ : ∃ L : List Loc, L = [] := ⟨_, rfl⟩
  rw [← eH] at hP
  have hS : va_S A s.heap H locs := by rw [eH, eL]; exact hS
  suffices hgo : W p l e { frames := 2, cells := 0, slots := 0, locals := 42 } s m args below meth c H locs 0 0 Q (F0 m 0 ls []) by rw [eH, eL] at hgo; exact hgo
  clear eH eL
  unfold f_X7_placeOf at hf
  refine lv_iload_n hx hb dX7_placeOf_0 rfl (lv_at hl 1 rfl) ?_
  refine lv_aload_n hx hb dX7_placeOf_1 rfl (lv_at hl 0 rfl) ?_
  refine lv_aload_n hx hb dX7_placeOf_2 rfl (lv_at hl 0 rfl) ?_
  refine lv_iload_n hx hb dX7_placeOf_3 rfl (lv_at hl 1 rfl) ?_
  obtain ⟨r_5, hk_6, hf⟩ := pe_1 hf
  refine xv_i (As := [.int x1]) (rest := [.ref (a 2), .int x1]) (q0 := 0) (ci := 7) Cx hP hD hS hl (pl_X7_X7 a cyI cyJ v7_rows v7_lengths v7_sizes v7_rests v7_orders v7_rows v7_lengths v7_sizes v7_rests v7_orders) (c_X7_sizeOf l D cyI cyJ G a H.size v7_rows v7_lengths v7_sizes v7_rests v7_orders x1 r_5 hk_6) pk_X7_sizeOf mw_1_42 ⟨rfl, rfl, Nat.le_of_ble_eq_true rfl, Nat.le_of_ble_eq_true rfl⟩ rfl rfl rfl rfl rfl (Nat.le_of_ble_eq_true rfl) ⟨Nat.le_of_ble_eq_true rfl, Nat.le_of_ble_eq_true rfl⟩ dX7_placeOf_4 (fun H locs hP hD hS => ?_)
  obtain ⟨r_7, hk_8, hf⟩ := pe_1 hf
  refine xv_i (As := [.int r_5]) (rest := [.int x1]) (q0 := 0) (ci := 7) Cx hP hD hS hl (pl_X7_X7 a cyI cyJ v7_rows v7_lengths v7_sizes v7_rests v7_orders v7_rows v7_lengths v7_sizes v7_rests v7_orders) (c_X7_firstOf l D cyI cyJ G a H.size v7_rows v7_lengths v7_sizes v7_rests v7_orders r_5 r_7 hk_8) pk_X7_firstOf mw_1_69 ⟨rfl, rfl, Nat.le_of_ble_eq_true rfl, Nat.le_of_ble_eq_true rfl⟩ rfl rfl rfl rfl rfl (Nat.le_of_ble_eq_true rfl) ⟨Nat.le_of_ble_eq_true rfl, Nat.le_of_ble_eq_true rfl⟩ dX7_placeOf_7 (fun H locs hP hD hS => ?_)
  refine lv_isub hx hb dX7_placeOf_10 ?_
  obtain rfl := po_1 hf
  rw [← hQ]; exact xe_iret Cx rfl hP hD hS dX7_placeOf_11
def gf_X7_column_2 (K_2 : Int32 → Int32 → Int32 → Option (Int32)) (v7_rows : Nat → Int32) (y1 : Int32) (y2 : Int32) (y3 : Int32) : Option (Int32) := if (8 : Int32) ≤ y3 then (some (y3)) else (p_b1 (f_X7_row v7_rows y1 y3) (fun r_2 => if r_2 ≤ y2 then (some (y3)) else (K_2 y1 y2 (y3 + (1 : Int32)))))
def f_X7_column_2 (v7_rows : Nat → Int32) : Nat → Int32 → Int32 → Int32 → Option (Int32)
  | 0 => fun _ _ _ => none
  | n + 1 => gf_X7_column_2 (f_X7_column_2 v7_rows n) v7_rows
def f_X7_column (v7_rows : Nat → Int32) (x1 : Int32) (x2 : Int32) : Option (Int32) := (f_X7_column_2 v7_rows 1000) x1 x2 (0 : Int32)
set_option maxHeartbeats 4000000 in
set_option maxRecDepth 20000 in
theorem c_X7_column (l : Launch) (D : va_G) (cyI cyJ : ClassId) (G a : Nat → Nat) (sz : Nat) (v7_rows : Nat → Int32) (v7_lengths : Nat → Int32) (v7_sizes : Nat → Int32) (v7_rests : Nat → Int32) (v7_orders : Nat → Int32) (x1 : Int32) (x2 : Int32) (ro : Int32) (hf : f_X7_column v7_rows x1 x2 = some ro) : xm_i l yX7_column (Cond.code yX7_column cX7_column 4 (some .int) :: xg_tbl) { frames := 2, cells := 0, slots := 0, locals := 44 } D xcl [(cyI, .int), (cyJ, .long)] G sz [.ref (a 2), .int x1, .int x2] (wd_X7 a cyI cyJ v7_rows v7_lengths v7_sizes v7_rests v7_orders) (wd_X7 a cyI cyJ v7_rows v7_lengths v7_sizes v7_rests v7_orders) ro := by
  refine xm_of_i (own := RX7) (by decide) rfl rfl (Nat.le_of_ble_eq_true rfl) ?_
  intro p e s m args below meth c ls Q A hQ hAe hin Cx hsz hP hD hS hl
  have Cx1 := Cx
  obtain ⟨⟨hx, hb, hml, hown, hts⟩, hr, hlocks, hK, hA, hT⟩ := Cx1
  have hl : lv_has ls 4 [(0, .ref (a 2)), (1, .int x1), (2, .int x2)] := hl
  obtain ⟨H, eH⟩ : ∃ H, H = s.heap := ⟨_, rfl⟩
  obtain ⟨locs, eL⟩ : ∃ L : List Loc, L = [] := ⟨_, rfl⟩
  rw [← eH] at hP
  have hS : va_S A s.heap H locs := by rw [eH, eL]; exact hS
  suffices hgo : W p l e { frames := 2, cells := 0, slots := 0, locals := 44 } s m args below meth c H locs 0 0 Q (F0 m 0 ls []) by rw [eH, eL] at hgo; exact hgo
  clear eH eL
  unfold f_X7_column at hf
  have w_2 : ∀ (n_2 : Nat) (y1 : Int32) (y2 : Int32) (y3 : Int32) (H : Heap) (locs : List Loc) (ls : Array Slot), (f_X7_column_2 v7_rows) n_2 y1 y2 y3 = some ro → va_P D xcl (wd_X7 a cyI cyJ v7_rows v7_lengths v7_sizes v7_rests v7_orders) H → va_D A (wd_X7 a cyI cyJ v7_rows v7_lengths v7_sizes v7_rests v7_orders) → va_S A s.heap H locs → lv_has ls 4 [(0, .ref (a 2)), (1, .int y1), (2, .int y2), (3, .int y3)] → W p l e { frames := 2, cells := 0, slots := 0, locals := 44 } s m args below meth c H locs 0 0 Q (F0 m 2 ls []) := by
    intro n_2
    induction n_2 with
    | zero => intro y1 y2 y3 H locs ls hf; exact absurd hf (by intro h9; cases h9)
    | succ n_2 w_2 =>
      intro y1 y2 y3 H locs ls hf hP hD hS hl
      have hf : gf_X7_column_2 ((f_X7_column_2 v7_rows) n_2) v7_rows y1 y2 y3 = some ro := hf
      unfold gf_X7_column_2 at hf
      refine lv_iload_n hx hb dX7_column_2 rfl (lv_at hl 3 rfl) ?_
      refine lv_bipush (v := (8 : Int32)) hx hb dX7_column_3 (by decide) ?_
      refine lv_icmp_ge (tgt := 24) hx hb dX7_column_5 (by decide) (fun hc_5 => ?_) (fun hc_5 => ?_)
      · have hf := pe_t hf hc_5
        refine lv_iload_n hx hb dX7_column_24 rfl (lv_at hl 3 rfl) ?_
        obtain rfl := po_1 hf
        rw [← hQ]; exact xe_iret Cx rfl hP hD hS dX7_column_25
      · have hf := pe_f hf hc_5
        refine lv_iload_n hx hb dX7_column_8 rfl (lv_at hl 2 rfl) ?_
        refine lv_aload_n hx hb dX7_column_9 rfl (lv_at hl 0 rfl) ?_
        refine lv_iload_n hx hb dX7_column_10 rfl (lv_at hl 1 rfl) ?_
        refine lv_iload_n hx hb dX7_column_11 rfl (lv_at hl 3 rfl) ?_
        obtain ⟨r_6, hk_7, hf⟩ := pe_1 hf
        refine xv_i (As := [.int y1, .int y3]) (rest := [.int y2]) (q0 := 0) (ci := 7) Cx hP hD hS hl (pl_X7_X7 a cyI cyJ v7_rows v7_lengths v7_sizes v7_rests v7_orders v7_rows v7_lengths v7_sizes v7_rests v7_orders) (c_X7_row l D cyI cyJ G a H.size v7_rows v7_lengths v7_sizes v7_rests v7_orders y1 y3 r_6 hk_7) pk_X7_row mw_1_50 ⟨rfl, rfl, Nat.le_of_ble_eq_true rfl, Nat.le_of_ble_eq_true rfl⟩ rfl rfl rfl rfl rfl (Nat.le_of_ble_eq_true rfl) ⟨Nat.le_of_ble_eq_true rfl, Nat.le_of_ble_eq_true rfl⟩ dX7_column_12 (fun H locs hP hD hS => ?_)
        refine lv_icmp_ge (tgt := 24) hx hb dX7_column_15 (by decide) (fun hc_8 => ?_) (fun hc_8 => ?_)
        · have hf := pe_t hf hc_8
          refine lv_iload_n hx hb dX7_column_24 rfl (lv_at hl 3 rfl) ?_
          obtain rfl := po_1 hf
          rw [← hQ]; exact xe_iret Cx rfl hP hD hS dX7_column_25
        · have hf := pe_f hf hc_8
          refine lv_iinc (v := (y3 + (1 : Int32))) (lv' := [(3, .int (y3 + (1 : Int32))), (0, .ref (a 2)), (1, .int y1), (2, .int y2)]) hx hb dX7_column_18 hl (k := 3) rfl rfl (by decide) rfl (fun ls hl => ?_)
          refine lv_goto (tgt := 2) hx hb dX7_column_21 (by decide) ?_
          exact w_2 y1 y2 (y3 + (1 : Int32)) H locs ls hf hP hD hS (lv_sub hl [1, 2, 3, 0] rfl)
  refine lv_iconst (v := (0 : Int32)) hx hb dX7_column_0 (by decide) ?_
  refine lv_istore_n (lv' := [(3, .int (0 : Int32)), (0, .ref (a 2)), (1, .int x1), (2, .int x2)]) hx hb dX7_column_1 rfl hl (by decide) rfl (fun ls hl => ?_)
  exact w_2 1000 x1 x2 (0 : Int32) H locs ls hf hP hD hS (lv_sub hl [1, 2, 3, 0] rfl)
def f_X7_hookAt (v7_rows : Nat → Int32) (x1 : Int32) (x2 : Int32) (x3 : Int32) : Option (Int32) := p_b1 (f_X7_row v7_rows x1 x2) (fun r_1 => p_b1 (f_X7_column v7_rows x1 x3) (fun r_3 => some (((((r_1 - (1 : Int32)) - x3) + ((r_3 - (1 : Int32)) - x2)) + (1 : Int32)))))
set_option maxHeartbeats 4000000 in
set_option maxRecDepth 20000 in
theorem c_X7_hookAt (l : Launch) (D : va_G) (cyI cyJ : ClassId) (G a : Nat → Nat) (sz : Nat) (v7_rows : Nat → Int32) (v7_lengths : Nat → Int32) (v7_sizes : Nat → Int32) (v7_rests : Nat → Int32) (v7_orders : Nat → Int32) (x1 : Int32) (x2 : Int32) (x3 : Int32) (ro : Int32) (hf : f_X7_hookAt v7_rows x1 x2 x3 = some ro) : xm_i l yX7_hookAt (Cond.code yX7_hookAt cX7_hookAt 6 (some .int) :: xg_tbl) { frames := 3, cells := 0, slots := 0, locals := 67 } D xcl [(cyI, .int), (cyJ, .long)] G sz [.ref (a 2), .int x1, .int x2, .int x3] (wd_X7 a cyI cyJ v7_rows v7_lengths v7_sizes v7_rests v7_orders) (wd_X7 a cyI cyJ v7_rows v7_lengths v7_sizes v7_rests v7_orders) ro := by
  refine xm_of_i (own := RX7) (by decide) rfl rfl (Nat.le_of_ble_eq_true rfl) ?_
  intro p e s m args below meth c ls Q A hQ hAe hin Cx hsz hP hD hS hl
  have Cx1 := Cx
  obtain ⟨⟨hx, hb, hml, hown, hts⟩, hr, hlocks, hK, hA, hT⟩ := Cx1
  have hl : lv_has ls 6 [(0, .ref (a 2)), (1, .int x1), (2, .int x2), (3, .int x3)] := hl
  obtain ⟨H, eH⟩ : ∃ H, H = s.heap := ⟨_, rfl⟩
  obtain ⟨locs, eL⟩ : ∃ L : List Loc, L = [] := ⟨_, rfl⟩
  rw [← eH] at hP
  have hS : va_S A s.heap H locs := by rw [eH, eL]; exact hS
  suffices hgo : W p l e { frames := 3, cells := 0, slots := 0, locals := 67 } s m args below meth c H locs 0 0 Q (F0 m 0 ls []) by rw [eH, eL] at hgo; exact hgo
  clear eH eL
  unfold f_X7_hookAt at hf
  refine lv_aload_n hx hb dX7_hookAt_0 rfl (lv_at hl 0 rfl) ?_
  refine lv_iload_n hx hb dX7_hookAt_1 rfl (lv_at hl 1 rfl) ?_
  refine lv_iload_n hx hb dX7_hookAt_2 rfl (lv_at hl 2 rfl) ?_
  obtain ⟨r_5, hk_6, hf⟩ := pe_1 hf
  refine xv_i (As := [.int x1, .int x2]) (rest := []) (q0 := 0) (ci := 7) Cx hP hD hS hl (pl_X7_X7 a cyI cyJ v7_rows v7_lengths v7_sizes v7_rests v7_orders v7_rows v7_lengths v7_sizes v7_rests v7_orders) (c_X7_row l D cyI cyJ G a H.size v7_rows v7_lengths v7_sizes v7_rests v7_orders x1 x2 r_5 hk_6) pk_X7_row mw_1_50 ⟨rfl, rfl, Nat.le_of_ble_eq_true rfl, Nat.le_of_ble_eq_true rfl⟩ rfl rfl rfl rfl rfl (Nat.le_of_ble_eq_true rfl) ⟨Nat.le_of_ble_eq_true rfl, Nat.le_of_ble_eq_true rfl⟩ dX7_hookAt_3 (fun H locs hP hD hS => ?_)
  refine lv_iconst (v := (1 : Int32)) hx hb dX7_hookAt_6 (by decide) ?_
  refine lv_isub hx hb dX7_hookAt_7 ?_
  refine lv_iload_n hx hb dX7_hookAt_8 rfl (lv_at hl 3 rfl) ?_
  refine lv_isub hx hb dX7_hookAt_9 ?_
  refine lv_istore (lv' := [(4, .int ((r_5 - (1 : Int32)) - x3)), (0, .ref (a 2)), (1, .int x1), (2, .int x2), (3, .int x3)]) hx hb dX7_hookAt_10 hl (by decide) rfl (fun ls hl => ?_)
  refine lv_aload_n hx hb dX7_hookAt_12 rfl (lv_at hl 1 rfl) ?_
  refine lv_iload_n hx hb dX7_hookAt_13 rfl (lv_at hl 2 rfl) ?_
  refine lv_iload_n hx hb dX7_hookAt_14 rfl (lv_at hl 4 rfl) ?_
  obtain ⟨r_7, hk_8, hf⟩ := pe_1 hf
  refine xv_i (As := [.int x1, .int x3]) (rest := []) (q0 := 0) (ci := 7) Cx hP hD hS hl (pl_X7_X7 a cyI cyJ v7_rows v7_lengths v7_sizes v7_rests v7_orders v7_rows v7_lengths v7_sizes v7_rests v7_orders) (c_X7_column l D cyI cyJ G a H.size v7_rows v7_lengths v7_sizes v7_rests v7_orders x1 x3 r_7 hk_8) pk_X7_column mw_1_130 ⟨rfl, rfl, Nat.le_of_ble_eq_true rfl, Nat.le_of_ble_eq_true rfl⟩ rfl rfl rfl rfl rfl (Nat.le_of_ble_eq_true rfl) ⟨Nat.le_of_ble_eq_true rfl, Nat.le_of_ble_eq_true rfl⟩ dX7_hookAt_15 (fun H locs hP hD hS => ?_)
  refine lv_iconst (v := (1 : Int32)) hx hb dX7_hookAt_18 (by decide) ?_
  refine lv_isub hx hb dX7_hookAt_19 ?_
  refine lv_iload_n hx hb dX7_hookAt_20 rfl (lv_at hl 3 rfl) ?_
  refine lv_isub hx hb dX7_hookAt_21 ?_
  refine lv_istore (lv' := [(5, .int ((r_7 - (1 : Int32)) - x2)), (4, .int ((r_5 - (1 : Int32)) - x3)), (0, .ref (a 2)), (1, .int x1), (2, .int x2), (3, .int x3)]) hx hb dX7_hookAt_22 hl (by decide) rfl (fun ls hl => ?_)
  refine lv_iload hx hb dX7_hookAt_24 (lv_at hl 1 rfl) ?_
  refine lv_iload hx hb dX7_hookAt_26 (lv_at hl 0 rfl) ?_
  refine lv_iadd hx hb dX7_hookAt_28 ?_
  refine lv_iconst (v := (1 : Int32)) hx hb dX7_hookAt_29 (by decide) ?_
  refine lv_iadd hx hb dX7_hookAt_30 ?_
  obtain rfl := po_1 hf
  rw [← hQ]; exact xe_iret Cx rfl hP hD hS dX7_hookAt_31
def gf_X7_turnedOf_4 (K_4 : Int32 → Int32 → Int32 → Option (Int32)) (v7_rows : Nat → Int32) (v7_sizes : Nat → Int32) (y1 : Int32) (y2 : Int32) (y3 : Int32) : Option (Int32) := p_b1 (f_X7_row v7_rows y1 (0 : Int32)) (fun r_1 => if r_1 ≤ y3 then (p_b1 (f_X7_sizeOf v7_sizes y1) (fun r_4 => p_b1 (f_X7_find r_4 y2) (fun r_6 => some (r_6)))) else (p_b1 (f_X7_column v7_rows y1 y3) (fun r_8 => p_b1 (f_X7_keyWith y2 r_8) (fun r_10 => K_4 y1 r_10 (y3 + (1 : Int32))))))
def f_X7_turnedOf_4 (v7_rows : Nat → Int32) (v7_sizes : Nat → Int32) : Nat → Int32 → Int32 → Int32 → Option (Int32)
  | 0 => fun _ _ _ => none
  | n + 1 => gf_X7_turnedOf_4 (f_X7_turnedOf_4 v7_rows v7_sizes n) v7_rows v7_sizes
def f_X7_turnedOf (v7_rows : Nat → Int32) (v7_sizes : Nat → Int32) (x1 : Int32) : Option (Int32) := (f_X7_turnedOf_4 v7_rows v7_sizes 1000) x1 (0 : Int32) (0 : Int32)
set_option maxHeartbeats 4000000 in
set_option maxRecDepth 20000 in
theorem c_X7_turnedOf (l : Launch) (D : va_G) (cyI cyJ : ClassId) (G a : Nat → Nat) (sz : Nat) (v7_rows : Nat → Int32) (v7_lengths : Nat → Int32) (v7_sizes : Nat → Int32) (v7_rests : Nat → Int32) (v7_orders : Nat → Int32) (x1 : Int32) (ro : Int32) (hf : f_X7_turnedOf v7_rows v7_sizes x1 = some ro) : xm_i l yX7_turnedOf (Cond.code yX7_turnedOf cX7_turnedOf 4 (some .int) :: xg_tbl) { frames := 3, cells := 0, slots := 0, locals := 67 } D xcl [(cyI, .int), (cyJ, .long)] G sz [.ref (a 2), .int x1] (wd_X7 a cyI cyJ v7_rows v7_lengths v7_sizes v7_rests v7_orders) (wd_X7 a cyI cyJ v7_rows v7_lengths v7_sizes v7_rests v7_orders) ro := by
  refine xm_of_i (own := RX7) (by decide) rfl rfl (Nat.le_of_ble_eq_true rfl) ?_
  intro p e s m args below meth c ls Q A hQ hAe hin Cx hsz hP hD hS hl
  have Cx1 := Cx
  obtain ⟨⟨hx, hb, hml, hown, hts⟩, hr, hlocks, hK, hA, hT⟩ := Cx1
  have hl : lv_has ls 4 [(0, .ref (a 2)), (1, .int x1)] := hl
  obtain ⟨H, eH⟩ : ∃ H, H = s.heap := ⟨_, rfl⟩
  obtain ⟨locs, eL⟩ : ∃ L : List Loc, L = [] := ⟨_, rfl⟩
  rw [← eH] at hP
  have hS : va_S A s.heap H locs := by rw [eH, eL]; exact hS
  suffices hgo : W p l e { frames := 3, cells := 0, slots := 0, locals := 67 } s m args below meth c H locs 0 0 Q (F0 m 0 ls []) by rw [eH, eL] at hgo; exact hgo
  clear eH eL
  unfold f_X7_turnedOf at hf
  have w_4 : ∀ (n_4 : Nat) (y1 : Int32) (y2 : Int32) (y3 : Int32) (H : Heap) (locs : List Loc) (ls : Array Slot), (f_X7_turnedOf_4 v7_rows v7_sizes) n_4 y1 y2 y3 = some ro → va_P D xcl (wd_X7 a cyI cyJ v7_rows v7_lengths v7_sizes v7_rests v7_orders) H → va_D A (wd_X7 a cyI cyJ v7_rows v7_lengths v7_sizes v7_rests v7_orders) → va_S A s.heap H locs → lv_has ls 4 [(0, .ref (a 2)), (1, .int y1), (2, .int y2), (3, .int y3)] → W p l e { frames := 3, cells := 0, slots := 0, locals := 67 } s m args below meth c H locs 0 0 Q (F0 m 4 ls []) := by
    intro n_4
    induction n_4 with
    | zero => intro y1 y2 y3 H locs ls hf; exact absurd hf (by intro h9; cases h9)
    | succ n_4 w_4 =>
      intro y1 y2 y3 H locs ls hf hP hD hS hl
      have hf : gf_X7_turnedOf_4 ((f_X7_turnedOf_4 v7_rows v7_sizes) n_4) v7_rows v7_sizes y1 y2 y3 = some ro := hf
      unfold gf_X7_turnedOf_4 at hf
      refine lv_iload_n hx hb dX7_turnedOf_4 rfl (lv_at hl 3 rfl) ?_
      refine lv_aload_n hx hb dX7_turnedOf_5 rfl (lv_at hl 0 rfl) ?_
      refine lv_iload_n hx hb dX7_turnedOf_6 rfl (lv_at hl 1 rfl) ?_
      refine lv_iconst (v := (0 : Int32)) hx hb dX7_turnedOf_7 (by decide) ?_
      obtain ⟨r_12, hk_13, hf⟩ := pe_1 hf
      refine xv_i (As := [.int y1, .int (0 : Int32)]) (rest := [.int y3]) (q0 := 0) (ci := 7) Cx hP hD hS hl (pl_X7_X7 a cyI cyJ v7_rows v7_lengths v7_sizes v7_rests v7_orders v7_rows v7_lengths v7_sizes v7_rests v7_orders) (c_X7_row l D cyI cyJ G a H.size v7_rows v7_lengths v7_sizes v7_rests v7_orders y1 (0 : Int32) r_12 hk_13) pk_X7_row mw_1_50 ⟨rfl, rfl, Nat.le_of_ble_eq_true rfl, Nat.le_of_ble_eq_true rfl⟩ rfl rfl rfl rfl rfl (Nat.le_of_ble_eq_true rfl) ⟨Nat.le_of_ble_eq_true rfl, Nat.le_of_ble_eq_true rfl⟩ dX7_turnedOf_8 (fun H locs hP hD hS => ?_)
      refine lv_icmp_ge (tgt := 31) hx hb dX7_turnedOf_11 (by decide) (fun hc_14 => ?_) (fun hc_14 => ?_)
      · have hf := pe_t hf hc_14
        refine lv_aload_n hx hb dX7_turnedOf_31 rfl (lv_at hl 0 rfl) ?_
        refine lv_aload_n hx hb dX7_turnedOf_32 rfl (lv_at hl 0 rfl) ?_
        refine lv_iload_n hx hb dX7_turnedOf_33 rfl (lv_at hl 1 rfl) ?_
        obtain ⟨r_15, hk_16, hf⟩ := pe_1 hf
        refine xv_i (As := [.int y1]) (rest := [.ref (a 2)]) (q0 := 0) (ci := 7) Cx hP hD hS hl (pl_X7_X7 a cyI cyJ v7_rows v7_lengths v7_sizes v7_rests v7_orders v7_rows v7_lengths v7_sizes v7_rests v7_orders) (c_X7_sizeOf l D cyI cyJ G a H.size v7_rows v7_lengths v7_sizes v7_rests v7_orders y1 r_15 hk_16) pk_X7_sizeOf mw_1_42 ⟨rfl, rfl, Nat.le_of_ble_eq_true rfl, Nat.le_of_ble_eq_true rfl⟩ rfl rfl rfl rfl rfl (Nat.le_of_ble_eq_true rfl) ⟨Nat.le_of_ble_eq_true rfl, Nat.le_of_ble_eq_true rfl⟩ dX7_turnedOf_34 (fun H locs hP hD hS => ?_)
        refine lv_iload_n hx hb dX7_turnedOf_37 rfl (lv_at hl 2 rfl) ?_
        obtain ⟨r_17, hk_18, hf⟩ := pe_1 hf
        refine xv_i (As := [.int r_15, .int y2]) (rest := []) (q0 := 0) (ci := 7) Cx hP hD hS hl (pl_X7_X7 a cyI cyJ v7_rows v7_lengths v7_sizes v7_rests v7_orders v7_rows v7_lengths v7_sizes v7_rests v7_orders) (c_X7_find l D cyI cyJ G a H.size v7_rows v7_lengths v7_sizes v7_rests v7_orders r_15 y2 r_17 hk_18) pk_X7_find mw_1_65 ⟨rfl, rfl, Nat.le_of_ble_eq_true rfl, Nat.le_of_ble_eq_true rfl⟩ rfl rfl rfl rfl rfl (Nat.le_of_ble_eq_true rfl) ⟨Nat.le_of_ble_eq_true rfl, Nat.le_of_ble_eq_true rfl⟩ dX7_turnedOf_38 (fun H locs hP hD hS => ?_)
        obtain rfl := po_1 hf
        rw [← hQ]; exact xe_iret Cx rfl hP hD hS dX7_turnedOf_41
      · have hf := pe_f hf hc_14
        refine lv_iload_n hx hb dX7_turnedOf_14 rfl (lv_at hl 2 rfl) ?_
        refine lv_aload_n hx hb dX7_turnedOf_15 rfl (lv_at hl 0 rfl) ?_
        refine lv_iload_n hx hb dX7_turnedOf_16 rfl (lv_at hl 1 rfl) ?_
        refine lv_iload_n hx hb dX7_turnedOf_17 rfl (lv_at hl 3 rfl) ?_
        obtain ⟨r_19, hk_20, hf⟩ := pe_1 hf
        refine xv_i (As := [.int y1, .int y3]) (rest := [.int y2]) (q0 := 0) (ci := 7) Cx hP hD hS hl (pl_X7_X7 a cyI cyJ v7_rows v7_lengths v7_sizes v7_rests v7_orders v7_rows v7_lengths v7_sizes v7_rests v7_orders) (c_X7_column l D cyI cyJ G a H.size v7_rows v7_lengths v7_sizes v7_rests v7_orders y1 y3 r_19 hk_20) pk_X7_column mw_1_130 ⟨rfl, rfl, Nat.le_of_ble_eq_true rfl, Nat.le_of_ble_eq_true rfl⟩ rfl rfl rfl rfl rfl (Nat.le_of_ble_eq_true rfl) ⟨Nat.le_of_ble_eq_true rfl, Nat.le_of_ble_eq_true rfl⟩ dX7_turnedOf_18 (fun H locs hP hD hS => ?_)
        obtain ⟨r_21, hk_22, hf⟩ := pe_1 hf
        refine xw_i (As := [.int y2, .int r_19]) (rest := []) Cx hP hD hS hl (xq_none _) (c_X7_keyWith l D cyI cyJ G H.size y2 r_19 r_21 hk_22) pk_X7_keyWith mw_1_62 ⟨rfl, rfl, Nat.le_of_ble_eq_true rfl, Nat.le_of_ble_eq_true rfl⟩ rfl rfl (Nat.le_of_ble_eq_true rfl) ⟨Nat.le_of_ble_eq_true rfl, Nat.le_of_ble_eq_true rfl⟩ dX7_turnedOf_21 (fun H locs hP hD hS => ?_)
        refine lv_istore_n (lv' := [(2, .int r_21), (0, .ref (a 2)), (1, .int y1), (3, .int y3)]) hx hb dX7_turnedOf_24 rfl hl (by decide) rfl (fun ls hl => ?_)
        refine lv_iinc (v := (y3 + (1 : Int32))) (lv' := [(3, .int (y3 + (1 : Int32))), (2, .int r_21), (0, .ref (a 2)), (1, .int y1)]) hx hb dX7_turnedOf_25 hl (k := 3) rfl rfl (by decide) rfl (fun ls hl => ?_)
        refine lv_goto (tgt := 4) hx hb dX7_turnedOf_28 (by decide) ?_
        exact w_4 y1 r_21 (y3 + (1 : Int32)) H locs ls hf hP hD hS (lv_sub hl [2, 3, 1, 0] rfl)
  refine lv_iconst (v := (0 : Int32)) hx hb dX7_turnedOf_0 (by decide) ?_
  refine lv_istore_n (lv' := [(2, .int (0 : Int32)), (0, .ref (a 2)), (1, .int x1)]) hx hb dX7_turnedOf_1 rfl hl (by decide) rfl (fun ls hl => ?_)
  refine lv_iconst (v := (0 : Int32)) hx hb dX7_turnedOf_2 (by decide) ?_
  refine lv_istore_n (lv' := [(3, .int (0 : Int32)), (2, .int (0 : Int32)), (0, .ref (a 2)), (1, .int x1)]) hx hb dX7_turnedOf_3 rfl hl (by decide) rfl (fun ls hl => ?_)
  exact w_4 1000 x1 (0 : Int32) (0 : Int32) H locs ls hf hP hD hS (lv_sub hl [2, 3, 1, 0] rfl)
def f_X7_grownTo (v7_rows : Nat → Int32) (v7_lengths : Nat → Int32) (v7_sizes : Nat → Int32) (x1 : Int32) (x2 : Int32) : Option (Int32) := p_b1 (f_X7_sizeOf v7_sizes x1) (fun r_1 => p_b1 (f_X7_row v7_rows x1 (0 : Int32)) (fun r_3 => if (x2 - r_1) < r_3 then (some ((-9 : Int32))) else (if x2 ≤ (8 : Int32) then (p_b1 (f_X7_keyWithRows v7_rows v7_lengths (x2 - r_1) x1 (0 : Int32)) (fun r_7 => p_b1 (f_X7_find x2 r_7) (fun r_9 => some (r_9)))) else (some ((-9 : Int32))))))
set_option maxHeartbeats 4000000 in
set_option maxRecDepth 20000 in
theorem c_X7_grownTo (l : Launch) (D : va_G) (cyI cyJ : ClassId) (G a : Nat → Nat) (sz : Nat) (v7_rows : Nat → Int32) (v7_lengths : Nat → Int32) (v7_sizes : Nat → Int32) (v7_rests : Nat → Int32) (v7_orders : Nat → Int32) (x1 : Int32) (x2 : Int32) (ro : Int32) (hf : f_X7_grownTo v7_rows v7_lengths v7_sizes x1 x2 = some ro) : xm_i l yX7_grownTo (Cond.code yX7_grownTo cX7_grownTo 4 (some .int) :: xg_tbl) { frames := 3, cells := 0, slots := 0, locals := 69 } D xcl [(cyI, .int), (cyJ, .long)] G sz [.ref (a 2), .int x1, .int x2] (wd_X7 a cyI cyJ v7_rows v7_lengths v7_sizes v7_rests v7_orders) (wd_X7 a cyI cyJ v7_rows v7_lengths v7_sizes v7_rests v7_orders) ro := by
  refine xm_of_i (own := RX7) (by decide) rfl rfl (Nat.le_of_ble_eq_true rfl) ?_
  intro p e s m args below meth c ls Q A hQ hAe hin Cx hsz hP hD hS hl
  have Cx1 := Cx
  obtain ⟨⟨hx, hb, hml, hown, hts⟩, hr, hlocks, hK, hA, hT⟩ := Cx1
  have hl : lv_has ls 4 [(0, .ref (a 2)), (1, .int x1), (2, .int x2)] := hl
  obtain ⟨H, eH⟩ : ∃ H, H = s.heap := ⟨_, rfl⟩
  obtain ⟨locs, eL⟩ : ∃ L : List Loc, L = [] := ⟨_, rfl⟩
  rw [← eH] at hP
  have hS : va_S A s.heap H locs := by rw [eH, eL]; exact hS
  suffices hgo : W p l e { frames := 3, cells := 0, slots := 0, locals := 69 } s m args below meth c H locs 0 0 Q (F0 m 0 ls []) by rw [eH, eL] at hgo; exact hgo
  clear eH eL
  unfold f_X7_grownTo at hf
  refine lv_iload_n hx hb dX7_grownTo_0 rfl (lv_at hl 2 rfl) ?_
  refine lv_aload_n hx hb dX7_grownTo_1 rfl (lv_at hl 0 rfl) ?_
  refine lv_iload_n hx hb dX7_grownTo_2 rfl (lv_at hl 1 rfl) ?_
  obtain ⟨r_11, hk_12, hf⟩ := pe_1 hf
  refine xv_i (As := [.int x1]) (rest := [.int x2]) (q0 := 0) (ci := 7) Cx hP hD hS hl (pl_X7_X7 a cyI cyJ v7_rows v7_lengths v7_sizes v7_rests v7_orders v7_rows v7_lengths v7_sizes v7_rests v7_orders) (c_X7_sizeOf l D cyI cyJ G a H.size v7_rows v7_lengths v7_sizes v7_rests v7_orders x1 r_11 hk_12) pk_X7_sizeOf mw_1_42 ⟨rfl, rfl, Nat.le_of_ble_eq_true rfl, Nat.le_of_ble_eq_true rfl⟩ rfl rfl rfl rfl rfl (Nat.le_of_ble_eq_true rfl) ⟨Nat.le_of_ble_eq_true rfl, Nat.le_of_ble_eq_true rfl⟩ dX7_grownTo_3 (fun H locs hP hD hS => ?_)
  refine lv_isub hx hb dX7_grownTo_6 ?_
  refine lv_istore_n (lv' := [(3, .int (x2 - r_11)), (0, .ref (a 2)), (1, .int x1), (2, .int x2)]) hx hb dX7_grownTo_7 rfl hl (by decide) rfl (fun ls hl => ?_)
  refine lv_iload_n hx hb dX7_grownTo_8 rfl (lv_at hl 0 rfl) ?_
  refine lv_aload_n hx hb dX7_grownTo_9 rfl (lv_at hl 1 rfl) ?_
  refine lv_iload_n hx hb dX7_grownTo_10 rfl (lv_at hl 2 rfl) ?_
  refine lv_iconst (v := (0 : Int32)) hx hb dX7_grownTo_11 (by decide) ?_
  obtain ⟨r_13, hk_14, hf⟩ := pe_1 hf
  refine xv_i (As := [.int x1, .int (0 : Int32)]) (rest := [.int (x2 - r_11)]) (q0 := 0) (ci := 7) Cx hP hD hS hl (pl_X7_X7 a cyI cyJ v7_rows v7_lengths v7_sizes v7_rests v7_orders v7_rows v7_lengths v7_sizes v7_rests v7_orders) (c_X7_row l D cyI cyJ G a H.size v7_rows v7_lengths v7_sizes v7_rests v7_orders x1 (0 : Int32) r_13 hk_14) pk_X7_row mw_1_50 ⟨rfl, rfl, Nat.le_of_ble_eq_true rfl, Nat.le_of_ble_eq_true rfl⟩ rfl rfl rfl rfl rfl (Nat.le_of_ble_eq_true rfl) ⟨Nat.le_of_ble_eq_true rfl, Nat.le_of_ble_eq_true rfl⟩ dX7_grownTo_12 (fun H locs hP hD hS => ?_)
  refine lv_icmp_lt (tgt := 24) hx hb dX7_grownTo_15 (by decide) (fun hc_15 => ?_) (fun hc_15 => ?_)
  · have hf := pe_t hf hc_15
    refine lv_bipush (v := (-9 : Int32)) hx hb dX7_grownTo_24 (by decide) ?_
    obtain rfl := po_1 hf
    rw [← hQ]; exact xe_iret Cx rfl hP hD hS dX7_grownTo_26
  · have hf := pe_f hf hc_15
    refine lv_iload_n hx hb dX7_grownTo_18 rfl (lv_at hl 3 rfl) ?_
    refine lv_bipush (v := (8 : Int32)) hx hb dX7_grownTo_19 (by decide) ?_
    refine lv_icmp_le (tgt := 27) hx hb dX7_grownTo_21 (by decide) (fun hc_16 => ?_) (fun hc_16 => ?_)
    · have hf := pe_t hf hc_16
      refine lv_aload_n hx hb dX7_grownTo_27 rfl (lv_at hl 1 rfl) ?_
      refine lv_iload_n hx hb dX7_grownTo_28 rfl (lv_at hl 3 rfl) ?_
      refine lv_aload_n hx hb dX7_grownTo_29 rfl (lv_at hl 1 rfl) ?_
      refine lv_iload_n hx hb dX7_grownTo_30 rfl (lv_at hl 0 rfl) ?_
      refine lv_iload_n hx hb dX7_grownTo_31 rfl (lv_at hl 2 rfl) ?_
      refine lv_iconst (v := (0 : Int32)) hx hb dX7_grownTo_32 (by decide) ?_
      obtain ⟨r_17, hk_18, hf⟩ := pe_1 hf
      refine xv_i (As := [.int (x2 - r_11), .int x1, .int (0 : Int32)]) (rest := [.int x2, .ref (a 2)]) (q0 := 0) (ci := 7) Cx hP hD hS hl (pl_X7_X7 a cyI cyJ v7_rows v7_lengths v7_sizes v7_rests v7_orders v7_rows v7_lengths v7_sizes v7_rests v7_orders) (c_X7_keyWithRows l D cyI cyJ G a H.size v7_rows v7_lengths v7_sizes v7_rests v7_orders (x2 - r_11) x1 (0 : Int32) r_17 hk_18) pk_X7_keyWithRows mw_1_54 ⟨rfl, rfl, Nat.le_of_ble_eq_true rfl, Nat.le_of_ble_eq_true rfl⟩ rfl rfl rfl rfl rfl (Nat.le_of_ble_eq_true rfl) ⟨Nat.le_of_ble_eq_true rfl, Nat.le_of_ble_eq_true rfl⟩ dX7_grownTo_33 (fun H locs hP hD hS => ?_)
      obtain ⟨r_19, hk_20, hf⟩ := pe_1 hf
      refine xv_i (As := [.int x2, .int r_17]) (rest := []) (q0 := 0) (ci := 7) Cx hP hD hS hl (pl_X7_X7 a cyI cyJ v7_rows v7_lengths v7_sizes v7_rests v7_orders v7_rows v7_lengths v7_sizes v7_rests v7_orders) (c_X7_find l D cyI cyJ G a H.size v7_rows v7_lengths v7_sizes v7_rests v7_orders x2 r_17 r_19 hk_20) pk_X7_find mw_1_65 ⟨rfl, rfl, Nat.le_of_ble_eq_true rfl, Nat.le_of_ble_eq_true rfl⟩ rfl rfl rfl rfl rfl (Nat.le_of_ble_eq_true rfl) ⟨Nat.le_of_ble_eq_true rfl, Nat.le_of_ble_eq_true rfl⟩ dX7_grownTo_36 (fun H locs hP hD hS => ?_)
      obtain rfl := po_1 hf
      rw [← hQ]; exact xe_iret Cx rfl hP hD hS dX7_grownTo_39
    · have hf := pe_f hf hc_16
      refine lv_bipush (v := (-9 : Int32)) hx hb dX7_grownTo_24 (by decide) ?_
      obtain rfl := po_1 hf
      rw [← hQ]; exact xe_iret Cx rfl hP hD hS dX7_grownTo_26
