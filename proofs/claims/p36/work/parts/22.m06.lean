def f_X6_has (x1 : Int32) (x2 : Int32) : Option (Int32) := p_b1 (f_X7_has x1) (fun r_1 => if r_1 = 0 then (some ((0 : Int32))) else (if x2 < 0 then (some ((0 : Int32))) else (if (8 : Int32) ≤ x2 then (some ((0 : Int32))) else (some ((1 : Int32))))))
set_option maxHeartbeats 4000000 in
set_option maxRecDepth 20000 in
theorem c_X6_has (l : Launch) (D : va_G) (cyI cyJ : ClassId) (G a : Nat → Nat) (sz : Nat) (v6_hooks : Nat → Int32) (v6_lefts : Nat → Int32) (v6_heights : Nat → Int32) (v7_rows : Nat → Int32) (v7_lengths : Nat → Int32) (v7_sizes : Nat → Int32) (v7_rests : Nat → Int32) (v7_orders : Nat → Int32) (x1 : Int32) (x2 : Int32) (ro : Int32) (hf : f_X6_has x1 x2 = some ro) : xm_z l yX6_has (Cond.code yX6_has cX6_has 3 (some .boolean) :: xg_tbl) { frames := 1, cells := 0, slots := 0, locals := 21 } D xcl [(cyI, .int), (cyJ, .long)] G sz [.ref (a 8), .int x1, .int x2] (wd_X6 a cyI cyJ v6_hooks v6_lefts v6_heights v7_rows v7_lengths v7_sizes v7_rests v7_orders) (wd_X6 a cyI cyJ v6_hooks v6_lefts v6_heights v7_rows v7_lengths v7_sizes v7_rests v7_orders) ro := by
  refine xm_of_z (own := RX6) (by decide) rfl rfl (Nat.le_of_ble_eq_true rfl) ?_
  intro p e s m args below meth c ls Q A hQ hAe hin Cx hsz hP hD hS hl
  have Cx1 := Cx
  obtain ⟨⟨hx, hb, hml, hown, hts⟩, hr, hlocks, hK, hA, hT⟩ := Cx1
  have hl : lv_has ls 3 [(0, .ref (a 8)), (1, .int x1), (2, .int x2)] := hl
  obtain ⟨H, eH⟩ : ∃ H, H = s.heap := ⟨_, rfl⟩
  obtain ⟨locs, eL⟩ : ∃ L : List Loc, L = [] := ⟨_, rfl⟩
  rw [← eH] at hP
  have hS : va_S A s.heap H locs := by rw [eH, eL]; exact hS
  suffices hgo : W p l e { frames := 1, cells := 0, slots := 0, locals := 21 } s m args below meth c H locs 0 0 Q (F0 m 0 ls []) by rw [eH, eL] at hgo; exact hgo
  clear eH eL
  unfold f_X6_has at hf
  refine lv_aload_n hx hb dX6_has_0 rfl (lv_at hl 0 rfl) ?_
  refine va_get (ci := 6) (v := .ref (a 2)) hx hb hts wX6_in hown hK hP 0 rfl rfl 0 (by decide) (hts _ mw_1_137) (fun _ h9 => h9) rfl dX6_has_1 ?_
  refine lv_iload_n hx hb dX6_has_4 rfl (lv_at hl 1 rfl) ?_
  obtain ⟨r_7, hk_8, hf⟩ := pe_1 hf
  refine xv_z (As := [.int x1]) (rest := []) (q0 := 0) (ci := 7) Cx hP hD hS hl (pl_X6_X7 a cyI cyJ v6_hooks v6_lefts v6_heights v7_rows v7_lengths v7_sizes v7_rests v7_orders v7_rows v7_lengths v7_sizes v7_rests v7_orders) (c_X7_has l D cyI cyJ G a H.size v7_rows v7_lengths v7_sizes v7_rests v7_orders x1 r_7 hk_8) pk_X7_has mw_1_121 ⟨rfl, rfl, Nat.le_of_ble_eq_true rfl, Nat.le_of_ble_eq_true rfl⟩ rfl rfl rfl rfl rfl (Nat.le_of_ble_eq_true rfl) ⟨Nat.le_of_ble_eq_true rfl, Nat.le_of_ble_eq_true rfl⟩ dX6_has_5 (fun H locs hn_9 hP hD hS => ?_)
  refine lv_if_eq (tgt := 25) hx hb dX6_has_8 (by decide) (fun hc_10 => ?_) (fun hc_10 => ?_)
  · have hf := pe_t hf hc_10
    refine lv_iconst (v := (0 : Int32)) hx hb dX6_has_25 (by decide) ?_
    obtain rfl := po_1 hf
    rw [← hQ]; exact xe_zret Cx rfl rfl hP hD hS dX6_has_26
  · have hf := pe_f hf hc_10
    refine lv_iload_n hx hb dX6_has_11 rfl (lv_at hl 2 rfl) ?_
    refine lv_if_lt (tgt := 25) hx hb dX6_has_12 (by decide) (fun hc_11 => ?_) (fun hc_11 => ?_)
    · have hf := pe_t hf hc_11
      refine lv_iconst (v := (0 : Int32)) hx hb dX6_has_25 (by decide) ?_
      obtain rfl := po_1 hf
      rw [← hQ]; exact xe_zret Cx rfl rfl hP hD hS dX6_has_26
    · have hf := pe_f hf hc_11
      refine lv_iload_n hx hb dX6_has_15 rfl (lv_at hl 2 rfl) ?_
      refine lv_bipush (v := (8 : Int32)) hx hb dX6_has_16 (by decide) ?_
      refine lv_icmp_ge (tgt := 25) hx hb dX6_has_18 (by decide) (fun hc_12 => ?_) (fun hc_12 => ?_)
      · have hf := pe_t hf hc_12
        refine lv_iconst (v := (0 : Int32)) hx hb dX6_has_25 (by decide) ?_
        obtain rfl := po_1 hf
        rw [← hQ]; exact xe_zret Cx rfl rfl hP hD hS dX6_has_26
      · have hf := pe_f hf hc_12
        refine lv_iconst (v := (1 : Int32)) hx hb dX6_has_21 (by decide) ?_
        refine lv_goto (tgt := 26) hx hb dX6_has_22 (by decide) ?_
        obtain rfl := po_1 hf
        rw [← hQ]; exact xe_zret Cx rfl rfl hP hD hS dX6_has_26
def f_X6_shapeLeft_75 (K_9 : Int32 → Int32 → Int32 → Int32 → Int32 → Int32 → Int32 → Option (Int32)) (v7_rows : Nat → Int32) (v7_lengths : Nat → Int32) (y1 : Int32) (y2 : Int32) (y3 : Int32) (y4 : Int32) (y5 : Int32) (y6 : Int32) (y7 : Int32) (y8 : Int32) : Option (Int32) := if y8 ≤ 0 then (K_9 y1 y2 y3 y4 y5 y6 (y7 + (1 : Int32))) else (p_b1 (f_X7_keyWith y5 y8) (fun r_2 => K_9 y1 y2 y3 y4 r_2 (y6 + y8) (y7 + (1 : Int32))))
def f_X6_shapeLeft_65 (K_75 : Int32 → Int32 → Int32 → Int32 → Int32 → Int32 → Int32 → Int32 → Option (Int32)) (v7_rows : Nat → Int32) (v7_lengths : Nat → Int32) (y1 : Int32) (y2 : Int32) (y3 : Int32) (y4 : Int32) (y5 : Int32) (y6 : Int32) (y7 : Int32) (y8 : Int32) : Option (Int32) := if y7 = y3 then (K_75 y1 y2 y3 y4 y5 y6 y7 y4) else (K_75 y1 y2 y3 y4 y5 y6 y7 y8)
def gf_X6_shapeLeft_9 (K_9 : Int32 → Int32 → Int32 → Int32 → Int32 → Int32 → Int32 → Option (Int32)) (v7_rows : Nat → Int32) (v7_lengths : Nat → Int32) (y1 : Int32) (y2 : Int32) (y3 : Int32) (y4 : Int32) (y5 : Int32) (y6 : Int32) (y7 : Int32) : Option (Int32) := p_b1 (f_X7_lengthOf v7_lengths y1) (fun r_5 => if r_5 ≤ y7 then (p_b1 (f_X7_find y6 y5) (fun r_8 => some (r_8))) else (p_b1 (f_X7_row v7_rows y1 y7) (fun r_10 => if y7 < y2 then ((f_X6_shapeLeft_65 (f_X6_shapeLeft_75 K_9 v7_rows v7_lengths) v7_rows v7_lengths) y1 y2 y3 y4 y5 y6 y7 r_10) else (if y3 ≤ y7 then ((f_X6_shapeLeft_65 (f_X6_shapeLeft_75 K_9 v7_rows v7_lengths) v7_rows v7_lengths) y1 y2 y3 y4 y5 y6 y7 r_10) else (p_b1 (f_X7_row v7_rows y1 (y7 + (1 : Int32))) (fun r_14 => (f_X6_shapeLeft_75 K_9 v7_rows v7_lengths) y1 y2 y3 y4 y5 y6 y7 (r_14 - (1 : Int32))))))))
def f_X6_shapeLeft_9 (v7_rows : Nat → Int32) (v7_lengths : Nat → Int32) : Nat → Int32 → Int32 → Int32 → Int32 → Int32 → Int32 → Int32 → Option (Int32)
  | 0 => fun _ _ _ _ _ _ _ => none
  | n + 1 => gf_X6_shapeLeft_9 (f_X6_shapeLeft_9 v7_rows v7_lengths n) v7_rows v7_lengths
def f_X6_shapeLeft (v7_rows : Nat → Int32) (v7_lengths : Nat → Int32) (x1 : Int32) (x2 : Int32) (x3 : Int32) (x4 : Int32) : Option (Int32) := (f_X6_shapeLeft_9 v7_rows v7_lengths 1000) x1 x2 x3 x4 (0 : Int32) (0 : Int32) (0 : Int32)
set_option maxHeartbeats 4000000 in
set_option maxRecDepth 20000 in
theorem c_X6_shapeLeft (l : Launch) (D : va_G) (cyI cyJ : ClassId) (G a : Nat → Nat) (sz : Nat) (v6_hooks : Nat → Int32) (v6_lefts : Nat → Int32) (v6_heights : Nat → Int32) (v7_rows : Nat → Int32) (v7_lengths : Nat → Int32) (v7_sizes : Nat → Int32) (v7_rests : Nat → Int32) (v7_orders : Nat → Int32) (x1 : Int32) (x2 : Int32) (x3 : Int32) (x4 : Int32) (ro : Int32) (hf : f_X6_shapeLeft v7_rows v7_lengths x1 x2 x3 x4 = some ro) : xm_i l yX6_shapeLeft (Cond.code yX6_shapeLeft cX6_shapeLeft 9 (some .int) :: xg_tbl) { frames := 2, cells := 0, slots := 0, locals := 45 } D xcl [(cyI, .int), (cyJ, .long)] G sz [.ref (a 8), .int x1, .int x2, .int x3, .int x4] (wd_X6 a cyI cyJ v6_hooks v6_lefts v6_heights v7_rows v7_lengths v7_sizes v7_rests v7_orders) (wd_X6 a cyI cyJ v6_hooks v6_lefts v6_heights v7_rows v7_lengths v7_sizes v7_rests v7_orders) ro := by
  refine xm_of_i (own := RX6) (by decide) rfl rfl (Nat.le_of_ble_eq_true rfl) ?_
  intro p e s m args below meth c ls Q A hQ hAe hin Cx hsz hP hD hS hl
  have Cx1 := Cx
  obtain ⟨⟨hx, hb, hml, hown, hts⟩, hr, hlocks, hK, hA, hT⟩ := Cx1
  have hl : lv_has ls 9 [(0, .ref (a 8)), (1, .int x1), (2, .int x2), (3, .int x3), (4, .int x4)] := hl
  obtain ⟨H, eH⟩ : ∃ H, H = s.heap := ⟨_, rfl⟩
  obtain ⟨locs, eL⟩ : ∃ L : List Loc, L = [] := ⟨_, rfl⟩
  rw [← eH] at hP
  have hS : va_S A s.heap H locs := by rw [eH, eL]; exact hS
  suffices hgo : W p l e { frames := 2, cells := 0, slots := 0, locals := 45 } s m args below meth c H locs 0 0 Q (F0 m 0 ls []) by rw [eH, eL] at hgo; exact hgo
  clear eH eL
  unfold f_X6_shapeLeft at hf
  have w_9 : ∀ (n_9 : Nat) (y1 : Int32) (y2 : Int32) (y3 : Int32) (y4 : Int32) (y5 : Int32) (y6 : Int32) (y7 : Int32) (H : Heap) (locs : List Loc) (ls : Array Slot), (f_X6_shapeLeft_9 v7_rows v7_lengths) n_9 y1 y2 y3 y4 y5 y6 y7 = some ro → va_P D xcl (wd_X6 a cyI cyJ v6_hooks v6_lefts v6_heights v7_rows v7_lengths v7_sizes v7_rests v7_orders) H → va_D A (wd_X6 a cyI cyJ v6_hooks v6_lefts v6_heights v7_rows v7_lengths v7_sizes v7_rests v7_orders) → va_S A s.heap H locs → lv_has ls 9 [(0, .ref (a 8)), (1, .int y1), (2, .int y2), (3, .int y3), (4, .int y4), (5, .int y5), (6, .int y6), (7, .int y7)] → W p l e { frames := 2, cells := 0, slots := 0, locals := 45 } s m args below meth c H locs 0 0 Q (F0 m 9 ls []) := by
    intro n_9
    induction n_9 with
    | zero => intro y1 y2 y3 y4 y5 y6 y7 H locs ls hf; exact absurd hf (by intro h9; cases h9)
    | succ n_9 w_9 =>
      intro y1 y2 y3 y4 y5 y6 y7 H locs ls hf hP hD hS hl
      have hf : gf_X6_shapeLeft_9 ((f_X6_shapeLeft_9 v7_rows v7_lengths) n_9) v7_rows v7_lengths y1 y2 y3 y4 y5 y6 y7 = some ro := hf
      unfold gf_X6_shapeLeft_9 at hf
      have w_75 : ∀ (y1 : Int32) (y2 : Int32) (y3 : Int32) (y4 : Int32) (y5 : Int32) (y6 : Int32) (y7 : Int32) (y8 : Int32) (H : Heap) (locs : List Loc) (ls : Array Slot), (f_X6_shapeLeft_75 ((f_X6_shapeLeft_9 v7_rows v7_lengths) n_9) v7_rows v7_lengths) y1 y2 y3 y4 y5 y6 y7 y8 = some ro → va_P D xcl (wd_X6 a cyI cyJ v6_hooks v6_lefts v6_heights v7_rows v7_lengths v7_sizes v7_rests v7_orders) H → va_D A (wd_X6 a cyI cyJ v6_hooks v6_lefts v6_heights v7_rows v7_lengths v7_sizes v7_rests v7_orders) → va_S A s.heap H locs → lv_has ls 9 [(0, .ref (a 8)), (1, .int y1), (2, .int y2), (3, .int y3), (4, .int y4), (5, .int y5), (6, .int y6), (7, .int y7), (8, .int y8)] → W p l e { frames := 2, cells := 0, slots := 0, locals := 45 } s m args below meth c H locs 0 0 Q (F0 m 75 ls []) := by
        intro y1 y2 y3 y4 y5 y6 y7 y8 H locs ls hf hP hD hS hl
        unfold f_X6_shapeLeft_75 at hf
        refine lv_iload hx hb dX6_shapeLeft_75 (lv_at hl 8 rfl) ?_
        refine lv_if_le (tgt := 96) hx hb dX6_shapeLeft_77 (by decide) (fun hc_16 => ?_) (fun hc_16 => ?_)
        · have hf := pe_t hf hc_16
          refine lv_iinc (v := (y7 + (1 : Int32))) (lv' := [(7, .int (y7 + (1 : Int32))), (0, .ref (a 8)), (1, .int y1), (2, .int y2), (3, .int y3), (4, .int y4), (5, .int y5), (6, .int y6), (8, .int y8)]) hx hb dX6_shapeLeft_96 hl (k := 7) rfl rfl (by decide) rfl (fun ls hl => ?_)
          refine lv_goto (tgt := 9) hx hb dX6_shapeLeft_99 (by decide) ?_
          exact w_9 y1 y2 y3 y4 y5 y6 (y7 + (1 : Int32)) H locs ls hf hP hD hS (lv_sub hl [1, 2, 3, 4, 5, 6, 7, 0] rfl)
        · have hf := pe_f hf hc_16
          refine lv_iload hx hb dX6_shapeLeft_80 (lv_at hl 5 rfl) ?_
          refine lv_iload hx hb dX6_shapeLeft_82 (lv_at hl 8 rfl) ?_
          obtain ⟨r_17, hk_18, hf⟩ := pe_1 hf
          refine xw_i (As := [.int y5, .int y8]) (rest := []) Cx hP hD hS hl (xq_none _) (c_X7_keyWith l D cyI cyJ G H.size y5 y8 r_17 hk_18) pk_X7_keyWith mw_1_135 ⟨rfl, rfl, Nat.le_of_ble_eq_true rfl, Nat.le_of_ble_eq_true rfl⟩ rfl rfl (Nat.le_of_ble_eq_true rfl) ⟨Nat.le_of_ble_eq_true rfl, Nat.le_of_ble_eq_true rfl⟩ dX6_shapeLeft_84 (fun H locs hP hD hS => ?_)
          refine lv_istore (lv' := [(5, .int r_17), (0, .ref (a 8)), (1, .int y1), (2, .int y2), (3, .int y3), (4, .int y4), (6, .int y6), (7, .int y7), (8, .int y8)]) hx hb dX6_shapeLeft_87 hl (by decide) rfl (fun ls hl => ?_)
          refine lv_iload hx hb dX6_shapeLeft_89 (lv_at hl 6 rfl) ?_
          refine lv_iload hx hb dX6_shapeLeft_91 (lv_at hl 8 rfl) ?_
          refine lv_iadd hx hb dX6_shapeLeft_93 ?_
          refine lv_istore (lv' := [(6, .int (y6 + y8)), (5, .int r_17), (0, .ref (a 8)), (1, .int y1), (2, .int y2), (3, .int y3), (4, .int y4), (7, .int y7), (8, .int y8)]) hx hb dX6_shapeLeft_94 hl (by decide) rfl (fun ls hl => ?_)
          refine lv_iinc (v := (y7 + (1 : Int32))) (lv' := [(7, .int (y7 + (1 : Int32))), (6, .int (y6 + y8)), (5, .int r_17), (0, .ref (a 8)), (1, .int y1), (2, .int y2), (3, .int y3), (4, .int y4), (8, .int y8)]) hx hb dX6_shapeLeft_96 hl (k := 7) rfl rfl (by decide) rfl (fun ls hl => ?_)
          refine lv_goto (tgt := 9) hx hb dX6_shapeLeft_99 (by decide) ?_
          exact w_9 y1 y2 y3 y4 r_17 (y6 + y8) (y7 + (1 : Int32)) H locs ls hf hP hD hS (lv_sub hl [3, 4, 5, 6, 7, 2, 1, 0] rfl)
      have w_65 : ∀ (y1 : Int32) (y2 : Int32) (y3 : Int32) (y4 : Int32) (y5 : Int32) (y6 : Int32) (y7 : Int32) (y8 : Int32) (H : Heap) (locs : List Loc) (ls : Array Slot), (f_X6_shapeLeft_65 (f_X6_shapeLeft_75 ((f_X6_shapeLeft_9 v7_rows v7_lengths) n_9) v7_rows v7_lengths) v7_rows v7_lengths) y1 y2 y3 y4 y5 y6 y7 y8 = some ro → va_P D xcl (wd_X6 a cyI cyJ v6_hooks v6_lefts v6_heights v7_rows v7_lengths v7_sizes v7_rests v7_orders) H → va_D A (wd_X6 a cyI cyJ v6_hooks v6_lefts v6_heights v7_rows v7_lengths v7_sizes v7_rests v7_orders) → va_S A s.heap H locs → lv_has ls 9 [(0, .ref (a 8)), (1, .int y1), (2, .int y2), (3, .int y3), (4, .int y4), (5, .int y5), (6, .int y6), (7, .int y7), (8, .int y8)] → W p l e { frames := 2, cells := 0, slots := 0, locals := 45 } s m args below meth c H locs 0 0 Q (F0 m 65 ls []) := by
        intro y1 y2 y3 y4 y5 y6 y7 y8 H locs ls hf hP hD hS hl
        unfold f_X6_shapeLeft_65 at hf
        refine lv_iload hx hb dX6_shapeLeft_65 (lv_at hl 7 rfl) ?_
        refine lv_iload_n hx hb dX6_shapeLeft_67 rfl (lv_at hl 3 rfl) ?_
        refine lv_icmp_ne (tgt := 75) hx hb dX6_shapeLeft_68 (by decide) (fun hc_19 => ?_) (fun hc_19 => ?_)
        · have hf := pe_f hf hc_19
          exact w_75 y1 y2 y3 y4 y5 y6 y7 y8 H locs ls hf hP hD hS (lv_sub hl [0, 1, 2, 3, 4, 5, 6, 7, 8] rfl)
        · have hf := pe_t hf hc_19
          refine lv_iload hx hb dX6_shapeLeft_71 (lv_at hl 4 rfl) ?_
          refine lv_istore (lv' := [(8, .int y4), (0, .ref (a 8)), (1, .int y1), (2, .int y2), (3, .int y3), (4, .int y4), (5, .int y5), (6, .int y6), (7, .int y7)]) hx hb dX6_shapeLeft_73 hl (by decide) rfl (fun ls hl => ?_)
          exact w_75 y1 y2 y3 y4 y5 y6 y7 y4 H locs ls hf hP hD hS (lv_sub hl [1, 2, 3, 4, 5, 6, 7, 8, 0] rfl)
      refine lv_iload hx hb dX6_shapeLeft_9 (lv_at hl 7 rfl) ?_
      refine lv_aload_n hx hb dX6_shapeLeft_11 rfl (lv_at hl 0 rfl) ?_
      refine va_get (ci := 6) (v := .ref (a 2)) hx hb hts wX6_in hown hK hP 0 rfl rfl 0 (by decide) (hts _ mw_1_137) (fun _ h9 => h9) rfl dX6_shapeLeft_12 ?_
      refine lv_iload_n hx hb dX6_shapeLeft_15 rfl (lv_at hl 1 rfl) ?_
      obtain ⟨r_20, hk_21, hf⟩ := pe_1 hf
      refine xv_i (As := [.int y1]) (rest := [.int y7]) (q0 := 0) (ci := 7) Cx hP hD hS hl (pl_X6_X7 a cyI cyJ v6_hooks v6_lefts v6_heights v7_rows v7_lengths v7_sizes v7_rests v7_orders v7_rows v7_lengths v7_sizes v7_rests v7_orders) (c_X7_lengthOf l D cyI cyJ G a H.size v7_rows v7_lengths v7_sizes v7_rests v7_orders y1 r_20 hk_21) pk_X7_lengthOf mw_1_111 ⟨rfl, rfl, Nat.le_of_ble_eq_true rfl, Nat.le_of_ble_eq_true rfl⟩ rfl rfl rfl rfl rfl (Nat.le_of_ble_eq_true rfl) ⟨Nat.le_of_ble_eq_true rfl, Nat.le_of_ble_eq_true rfl⟩ dX6_shapeLeft_16 (fun H locs hP hD hS => ?_)
      refine lv_icmp_ge (tgt := 102) hx hb dX6_shapeLeft_19 (by decide) (fun hc_22 => ?_) (fun hc_22 => ?_)
      · have hf := pe_t hf hc_22
        refine lv_aload_n hx hb dX6_shapeLeft_102 rfl (lv_at hl 0 rfl) ?_
        refine va_get (ci := 6) (v := .ref (a 2)) hx hb hts wX6_in hown hK hP 0 rfl rfl 0 (by decide) (hts _ mw_1_137) (fun _ h9 => h9) rfl dX6_shapeLeft_103 ?_
        refine lv_iload hx hb dX6_shapeLeft_106 (lv_at hl 6 rfl) ?_
        refine lv_iload hx hb dX6_shapeLeft_108 (lv_at hl 5 rfl) ?_
        obtain ⟨r_23, hk_24, hf⟩ := pe_1 hf
        refine xv_i (As := [.int y6, .int y5]) (rest := []) (q0 := 0) (ci := 7) Cx hP hD hS hl (pl_X6_X7 a cyI cyJ v6_hooks v6_lefts v6_heights v7_rows v7_lengths v7_sizes v7_rests v7_orders v7_rows v7_lengths v7_sizes v7_rests v7_orders) (c_X7_find l D cyI cyJ G a H.size v7_rows v7_lengths v7_sizes v7_rests v7_orders y6 y5 r_23 hk_24) pk_X7_find mw_1_136 ⟨rfl, rfl, Nat.le_of_ble_eq_true rfl, Nat.le_of_ble_eq_true rfl⟩ rfl rfl rfl rfl rfl (Nat.le_of_ble_eq_true rfl) ⟨Nat.le_of_ble_eq_true rfl, Nat.le_of_ble_eq_true rfl⟩ dX6_shapeLeft_110 (fun H locs hP hD hS => ?_)
        obtain rfl := po_1 hf
        rw [← hQ]; exact xe_iret Cx rfl hP hD hS dX6_shapeLeft_113
      · have hf := pe_f hf hc_22
        refine lv_aload_n hx hb dX6_shapeLeft_22 rfl (lv_at hl 0 rfl) ?_
        refine va_get (ci := 6) (v := .ref (a 2)) hx hb hts wX6_in hown hK hP 0 rfl rfl 0 (by decide) (hts _ mw_1_137) (fun _ h9 => h9) rfl dX6_shapeLeft_23 ?_
        refine lv_iload_n hx hb dX6_shapeLeft_26 rfl (lv_at hl 1 rfl) ?_
        refine lv_iload hx hb dX6_shapeLeft_27 (lv_at hl 7 rfl) ?_
        obtain ⟨r_25, hk_26, hf⟩ := pe_1 hf
        refine xv_i (As := [.int y1, .int y7]) (rest := []) (q0 := 0) (ci := 7) Cx hP hD hS hl (pl_X6_X7 a cyI cyJ v6_hooks v6_lefts v6_heights v7_rows v7_lengths v7_sizes v7_rests v7_orders v7_rows v7_lengths v7_sizes v7_rests v7_orders) (c_X7_row l D cyI cyJ G a H.size v7_rows v7_lengths v7_sizes v7_rests v7_orders y1 y7 r_25 hk_26) pk_X7_row mw_1_112 ⟨rfl, rfl, Nat.le_of_ble_eq_true rfl, Nat.le_of_ble_eq_true rfl⟩ rfl rfl rfl rfl rfl (Nat.le_of_ble_eq_true rfl) ⟨Nat.le_of_ble_eq_true rfl, Nat.le_of_ble_eq_true rfl⟩ dX6_shapeLeft_29 (fun H locs hP hD hS => ?_)
        refine lv_istore (lv' := [(8, .int r_25), (0, .ref (a 8)), (1, .int y1), (2, .int y2), (3, .int y3), (4, .int y4), (5, .int y5), (6, .int y6), (7, .int y7)]) hx hb dX6_shapeLeft_32 hl (by decide) rfl (fun ls hl => ?_)
        refine lv_iload hx hb dX6_shapeLeft_34 (lv_at hl 8 rfl) ?_
        refine lv_iload_n hx hb dX6_shapeLeft_36 rfl (lv_at hl 3 rfl) ?_
        refine lv_icmp_lt (tgt := 65) hx hb dX6_shapeLeft_37 (by decide) (fun hc_27 => ?_) (fun hc_27 => ?_)
        · have hf := pe_t hf hc_27
          exact w_65 y1 y2 y3 y4 y5 y6 y7 r_25 H locs ls hf hP hD hS (lv_sub hl [1, 2, 3, 4, 5, 6, 7, 8, 0] rfl)
        · have hf := pe_f hf hc_27
          refine lv_iload hx hb dX6_shapeLeft_40 (lv_at hl 8 rfl) ?_
          refine lv_iload_n hx hb dX6_shapeLeft_42 rfl (lv_at hl 4 rfl) ?_
          refine lv_icmp_ge (tgt := 65) hx hb dX6_shapeLeft_43 (by decide) (fun hc_28 => ?_) (fun hc_28 => ?_)
          · have hf := pe_t hf hc_28
            exact w_65 y1 y2 y3 y4 y5 y6 y7 r_25 H locs ls hf hP hD hS (lv_sub hl [1, 2, 3, 4, 5, 6, 7, 8, 0] rfl)
          · have hf := pe_f hf hc_28
            refine lv_aload_n hx hb dX6_shapeLeft_46 rfl (lv_at hl 1 rfl) ?_
            refine va_get (ci := 6) (v := .ref (a 2)) hx hb hts wX6_in hown hK hP 0 rfl rfl 0 (by decide) (hts _ mw_1_137) (fun _ h9 => h9) rfl dX6_shapeLeft_47 ?_
            refine lv_iload_n hx hb dX6_shapeLeft_50 rfl (lv_at hl 2 rfl) ?_
            refine lv_iload hx hb dX6_shapeLeft_51 (lv_at hl 8 rfl) ?_
            refine lv_iconst (v := (1 : Int32)) hx hb dX6_shapeLeft_53 (by decide) ?_
            refine lv_iadd hx hb dX6_shapeLeft_54 ?_
            obtain ⟨r_29, hk_30, hf⟩ := pe_1 hf
            refine xv_i (As := [.int y1, .int (y7 + (1 : Int32))]) (rest := []) (q0 := 0) (ci := 7) Cx hP hD hS hl (pl_X6_X7 a cyI cyJ v6_hooks v6_lefts v6_heights v7_rows v7_lengths v7_sizes v7_rests v7_orders v7_rows v7_lengths v7_sizes v7_rests v7_orders) (c_X7_row l D cyI cyJ G a H.size v7_rows v7_lengths v7_sizes v7_rests v7_orders y1 (y7 + (1 : Int32)) r_29 hk_30) pk_X7_row mw_1_112 ⟨rfl, rfl, Nat.le_of_ble_eq_true rfl, Nat.le_of_ble_eq_true rfl⟩ rfl rfl rfl rfl rfl (Nat.le_of_ble_eq_true rfl) ⟨Nat.le_of_ble_eq_true rfl, Nat.le_of_ble_eq_true rfl⟩ dX6_shapeLeft_55 (fun H locs hP hD hS => ?_)
            refine lv_iconst (v := (1 : Int32)) hx hb dX6_shapeLeft_58 (by decide) ?_
            refine lv_isub hx hb dX6_shapeLeft_59 ?_
            refine lv_istore (lv' := [(8, .int (r_29 - (1 : Int32))), (0, .ref (a 8)), (1, .int y1), (2, .int y2), (3, .int y3), (4, .int y4), (5, .int y5), (6, .int y6), (7, .int y7)]) hx hb dX6_shapeLeft_60 hl (by decide) rfl (fun ls hl => ?_)
            refine lv_goto (tgt := 75) hx hb dX6_shapeLeft_62 (by decide) ?_
            exact w_75 y1 y2 y3 y4 y5 y6 y7 (r_29 - (1 : Int32)) H locs ls hf hP hD hS (lv_sub hl [1, 2, 3, 4, 5, 6, 7, 8, 0] rfl)
  refine lv_iconst (v := (0 : Int32)) hx hb dX6_shapeLeft_0 (by decide) ?_
  refine lv_istore (lv' := [(5, .int (0 : Int32)), (0, .ref (a 8)), (1, .int x1), (2, .int x2), (3, .int x3), (4, .int x4)]) hx hb dX6_shapeLeft_1 hl (by decide) rfl (fun ls hl => ?_)
  refine lv_iconst (v := (0 : Int32)) hx hb dX6_shapeLeft_3 (by decide) ?_
  refine lv_istore (lv' := [(6, .int (0 : Int32)), (5, .int (0 : Int32)), (0, .ref (a 8)), (1, .int x1), (2, .int x2), (3, .int x3), (4, .int x4)]) hx hb dX6_shapeLeft_4 hl (by decide) rfl (fun ls hl => ?_)
  refine lv_iconst (v := (0 : Int32)) hx hb dX6_shapeLeft_6 (by decide) ?_
  refine lv_istore (lv' := [(7, .int (0 : Int32)), (6, .int (0 : Int32)), (5, .int (0 : Int32)), (0, .ref (a 8)), (1, .int x1), (2, .int x2), (3, .int x3), (4, .int x4)]) hx hb dX6_shapeLeft_7 hl (by decide) rfl (fun ls hl => ?_)
  exact w_9 1000 x1 x2 x3 x4 (0 : Int32) (0 : Int32) (0 : Int32) H locs ls hf hP hD hS (lv_sub hl [3, 4, 5, 6, 7, 2, 1, 0] rfl)
def f_X6_note (v7_rows : Nat → Int32) (v7_lengths : Nat → Int32) (v6_hooks : Nat → Int32) (v6_lefts : Nat → Int32) (v6_heights : Nat → Int32) (x1 : Int32) (x2 : Int32) (x3 : Int32) (x4 : Int32) : Option ((Nat → Int32) × (Nat → Int32) × (Nat → Int32)) := p_b1 (f_X6_has x1 x2) (fun r_1 => if r_1 = 0 then (some (v6_hooks, v6_lefts, v6_heights)) else (p_b1 (f_X7_column v7_rows x1 x4) (fun r_5 => p_b1 (f_X7_hookAt v7_rows x1 x3 x4) (fun r_7 => p_in ((x1 * (8 : Int32)) + x2) 536 (p_in ((x1 * (8 : Int32)) + x2) 536 (p_b1 (f_X6_shapeLeft v7_rows v7_lengths x1 x3 (r_5 - (1 : Int32)) x4) (fun r_11 => p_in ((x1 * (8 : Int32)) + x2) 536 (some ((upd v6_hooks (Int32.toNatClampNeg ((x1 * (8 : Int32)) + x2)) r_7), (upd v6_lefts (Int32.toNatClampNeg ((x1 * (8 : Int32)) + x2)) r_11), (upd v6_heights (Int32.toNatClampNeg ((x1 * (8 : Int32)) + x2)) ((r_5 - (1 : Int32)) - x3)))))))))))
set_option maxHeartbeats 4000000 in
set_option maxRecDepth 20000 in
theorem c_X6_note (l : Launch) (D : va_G) (cyI cyJ : ClassId) (G a : Nat → Nat) (sz : Nat) (v6_hooks : Nat → Int32) (v6_lefts : Nat → Int32) (v6_heights : Nat → Int32) (v7_rows : Nat → Int32) (v7_lengths : Nat → Int32) (v7_sizes : Nat → Int32) (v7_rests : Nat → Int32) (v7_orders : Nat → Int32) (x1 : Int32) (x2 : Int32) (x3 : Int32) (x4 : Int32) (ov6_hooks : Nat → Int32) (ov6_lefts : Nat → Int32) (ov6_heights : Nat → Int32) (hf : f_X6_note v7_rows v7_lengths v6_hooks v6_lefts v6_heights x1 x2 x3 x4 = some (ov6_hooks, ov6_lefts, ov6_heights)) : xm_v l yX6_note (Cond.code yX6_note cX6_note 7 none :: xg_tbl) { frames := 4, cells := 0, slots := 0, locals := 92 } D xcl [(cyI, .int), (cyJ, .long)] G sz [.ref (a 8), .int x1, .int x2, .int x3, .int x4] (wd_X6 a cyI cyJ v6_hooks v6_lefts v6_heights v7_rows v7_lengths v7_sizes v7_rests v7_orders) (wd_X6 a cyI cyJ ov6_hooks ov6_lefts ov6_heights v7_rows v7_lengths v7_sizes v7_rests v7_orders) := by
  refine xm_of_v (own := RX6) (by decide) rfl rfl (Nat.le_of_ble_eq_true rfl) ?_
  intro p e s m args below meth c ls Q A hQ hAe hin Cx hsz hP hD hS hl
  have Cx1 := Cx
  obtain ⟨⟨hx, hb, hml, hown, hts⟩, hr, hlocks, hK, hA, hT⟩ := Cx1
  have hl : lv_has ls 7 [(0, .ref (a 8)), (1, .int x1), (2, .int x2), (3, .int x3), (4, .int x4)] := hl
  obtain ⟨H, eH⟩ : ∃ H, H = s.heap := ⟨_, rfl⟩
  obtain ⟨locs, eL⟩ : ∃ L : List Loc, L = [] := ⟨_, rfl⟩
  rw [← eH] at hP
  have hS : va_S A s.heap H locs := by rw [eH, eL]; exact hS
  suffices hgo : W p l e { frames := 4, cells := 0, slots := 0, locals := 92 } s m args below meth c H locs 0 0 Q (F0 m 0 ls []) by rw [eH, eL] at hgo; exact hgo
  clear eH eL
  unfold f_X6_note at hf
  refine lv_aload_n hx hb dX6_note_0 rfl (lv_at hl 0 rfl) ?_
  refine lv_iload_n hx hb dX6_note_1 rfl (lv_at hl 1 rfl) ?_
  refine lv_iload_n hx hb dX6_note_2 rfl (lv_at hl 2 rfl) ?_
  obtain ⟨r_14, hk_15, hf⟩ := pe_1 hf
  refine xv_z (As := [.int x1, .int x2]) (rest := []) (q0 := 0) (ci := 6) Cx hP hD hS hl (pl_X6_X6 a cyI cyJ v6_hooks v6_lefts v6_heights v7_rows v7_lengths v7_sizes v7_rests v7_orders v6_hooks v6_lefts v6_heights v7_rows v7_lengths v7_sizes v7_rests v7_orders) (c_X6_has l D cyI cyJ G a H.size v6_hooks v6_lefts v6_heights v7_rows v7_lengths v7_sizes v7_rests v7_orders x1 x2 r_14 hk_15) pk_X6_has mw_1_117 ⟨rfl, rfl, Nat.le_of_ble_eq_true rfl, Nat.le_of_ble_eq_true rfl⟩ rfl rfl rfl rfl rfl (Nat.le_of_ble_eq_true rfl) ⟨Nat.le_of_ble_eq_true rfl, Nat.le_of_ble_eq_true rfl⟩ dX6_note_3 (fun H locs hn_16 hP hD hS => ?_)
  refine lv_if_eq (tgt := 77) hx hb dX6_note_6 (by decide) (fun hc_17 => ?_) (fun hc_17 => ?_)
  · have hf := pe_t hf hc_17
    obtain ⟨rfl, rfl, rfl⟩ := po_3 hf
    rw [← hQ]; exact xe_vret Cx hP hD hS dX6_note_77
  · have hf := pe_f hf hc_17
    refine lv_iload_n hx hb dX6_note_9 rfl (lv_at hl 1 rfl) ?_
    refine lv_bipush (v := (8 : Int32)) hx hb dX6_note_10 (by decide) ?_
    refine lv_imul hx hb dX6_note_12 ?_
    refine lv_iload_n hx hb dX6_note_13 rfl (lv_at hl 2 rfl) ?_
    refine lv_iadd hx hb dX6_note_14 ?_
    refine lv_istore (lv' := [(5, .int ((x1 * (8 : Int32)) + x2)), (0, .ref (a 8)), (1, .int x1), (2, .int x2), (3, .int x3), (4, .int x4)]) hx hb dX6_note_15 hl (by decide) rfl (fun ls hl => ?_)
    refine lv_aload_n hx hb dX6_note_17 rfl (lv_at hl 1 rfl) ?_
    refine va_get (ci := 6) (v := .ref (a 2)) hx hb hts wX6_in hown hK hP 0 rfl rfl 0 (by decide) (hts _ mw_1_137) (fun _ h9 => h9) rfl dX6_note_18 ?_
    refine lv_iload_n hx hb dX6_note_21 rfl (lv_at hl 2 rfl) ?_
    refine lv_iload hx hb dX6_note_22 (lv_at hl 5 rfl) ?_
    obtain ⟨r_18, hk_19, hf⟩ := pe_1 hf
    refine xv_i (As := [.int x1, .int x4]) (rest := []) (q0 := 0) (ci := 7) Cx hP hD hS hl (pl_X6_X7 a cyI cyJ v6_hooks v6_lefts v6_heights v7_rows v7_lengths v7_sizes v7_rests v7_orders v7_rows v7_lengths v7_sizes v7_rests v7_orders) (c_X7_column l D cyI cyJ G a H.size v7_rows v7_lengths v7_sizes v7_rests v7_orders x1 x4 r_18 hk_19) pk_X7_column mw_1_122 ⟨rfl, rfl, Nat.le_of_ble_eq_true rfl, Nat.le_of_ble_eq_true rfl⟩ rfl rfl rfl rfl rfl (Nat.le_of_ble_eq_true rfl) ⟨Nat.le_of_ble_eq_true rfl, Nat.le_of_ble_eq_true rfl⟩ dX6_note_24 (fun H locs hP hD hS => ?_)
    refine lv_iconst (v := (1 : Int32)) hx hb dX6_note_27 (by decide) ?_
    refine lv_isub hx hb dX6_note_28 ?_
    refine lv_istore (lv' := [(6, .int (r_18 - (1 : Int32))), (5, .int ((x1 * (8 : Int32)) + x2)), (0, .ref (a 8)), (1, .int x1), (2, .int x2), (3, .int x3), (4, .int x4)]) hx hb dX6_note_29 hl (by decide) rfl (fun ls hl => ?_)
    refine lv_aload_n hx hb dX6_note_31 rfl (lv_at hl 2 rfl) ?_
    refine va_get (ci := 6) (v := .ref (a 9)) hx hb hts wX6_in hown hK hP 0 rfl rfl 1 (by decide) (hts _ mw_1_138) (fun _ h9 => h9) rfl dX6_note_32 ?_
    refine lv_iload hx hb dX6_note_35 (lv_at hl 1 rfl) ?_
    refine lv_aload_n hx hb dX6_note_37 rfl (lv_at hl 2 rfl) ?_
    refine va_get (ci := 6) (v := .ref (a 2)) hx hb hts wX6_in hown hK hP 0 rfl rfl 0 (by decide) (hts _ mw_1_137) (fun _ h9 => h9) rfl dX6_note_38 ?_
    refine lv_iload_n hx hb dX6_note_41 rfl (lv_at hl 3 rfl) ?_
    refine lv_iload_n hx hb dX6_note_42 rfl (lv_at hl 5 rfl) ?_
    refine lv_iload hx hb dX6_note_43 (lv_at hl 6 rfl) ?_
    obtain ⟨r_20, hk_21, hf⟩ := pe_1 hf
    refine xv_i (As := [.int x1, .int x3, .int x4]) (rest := [.int ((x1 * (8 : Int32)) + x2), .ref (a 9)]) (q0 := 0) (ci := 7) Cx hP hD hS hl (pl_X6_X7 a cyI cyJ v6_hooks v6_lefts v6_heights v7_rows v7_lengths v7_sizes v7_rests v7_orders v7_rows v7_lengths v7_sizes v7_rests v7_orders) (c_X7_hookAt l D cyI cyJ G a H.size v7_rows v7_lengths v7_sizes v7_rests v7_orders x1 x3 x4 r_20 hk_21) pk_X7_hookAt mw_1_126 ⟨rfl, rfl, Nat.le_of_ble_eq_true rfl, Nat.le_of_ble_eq_true rfl⟩ rfl rfl rfl rfl rfl (Nat.le_of_ble_eq_true rfl) ⟨Nat.le_of_ble_eq_true rfl, Nat.le_of_ble_eq_true rfl⟩ dX6_note_45 (fun H locs hP hD hS => ?_)
    obtain ⟨hi_22, hf⟩ := pe_in hf
    refine va_iast hx hb hK hP hD hS 1 0 rfl rfl hi_22 dX6_note_48 (fun H locs hP hD hS => ?_)
    have hP : va_P D xcl (wd_X6 a cyI cyJ (upd v6_hooks (Int32.toNatClampNeg ((x1 * (8 : Int32)) + x2)) r_20) v6_lefts v6_heights v7_rows v7_lengths v7_sizes v7_rests v7_orders) H := hP
    have hD : va_D A (wd_X6 a cyI cyJ (upd v6_hooks (Int32.toNatClampNeg ((x1 * (8 : Int32)) + x2)) r_20) v6_lefts v6_heights v7_rows v7_lengths v7_sizes v7_rests v7_orders) := hD
    refine lv_aload_n hx hb dX6_note_49 rfl (lv_at hl 2 rfl) ?_
    refine va_get (ci := 6) (v := .ref (a 11)) hx hb hts wX6_in hown hK hP 0 rfl rfl 3 (by decide) (hts _ mw_1_140) (fun _ h9 => h9) rfl dX6_note_50 ?_
    refine lv_iload hx hb dX6_note_53 (lv_at hl 1 rfl) ?_
    refine lv_iload hx hb dX6_note_55 (lv_at hl 0 rfl) ?_
    refine lv_iload_n hx hb dX6_note_57 rfl (lv_at hl 5 rfl) ?_
    refine lv_isub hx hb dX6_note_58 ?_
    obtain ⟨hi_23, hf⟩ := pe_in hf
    refine va_iast hx hb hK hP hD hS 3 0 rfl rfl hi_23 dX6_note_59 (fun H locs hP hD hS => ?_)
    have hP : va_P D xcl (wd_X6 a cyI cyJ (upd v6_hooks (Int32.toNatClampNeg ((x1 * (8 : Int32)) + x2)) r_20) v6_lefts (upd v6_heights (Int32.toNatClampNeg ((x1 * (8 : Int32)) + x2)) ((r_18 - (1 : Int32)) - x3)) v7_rows v7_lengths v7_sizes v7_rests v7_orders) H := hP
    have hD : va_D A (wd_X6 a cyI cyJ (upd v6_hooks (Int32.toNatClampNeg ((x1 * (8 : Int32)) + x2)) r_20) v6_lefts (upd v6_heights (Int32.toNatClampNeg ((x1 * (8 : Int32)) + x2)) ((r_18 - (1 : Int32)) - x3)) v7_rows v7_lengths v7_sizes v7_rests v7_orders) := hD
    refine lv_aload_n hx hb dX6_note_60 rfl (lv_at hl 2 rfl) ?_
    refine va_get (ci := 6) (v := .ref (a 10)) hx hb hts wX6_in hown hK hP 0 rfl rfl 2 (by decide) (hts _ mw_1_139) (fun _ h9 => h9) rfl dX6_note_61 ?_
    refine lv_iload hx hb dX6_note_64 (lv_at hl 1 rfl) ?_
    refine lv_aload_n hx hb dX6_note_66 rfl (lv_at hl 2 rfl) ?_
    refine lv_iload_n hx hb dX6_note_67 rfl (lv_at hl 3 rfl) ?_
    refine lv_iload_n hx hb dX6_note_68 rfl (lv_at hl 5 rfl) ?_
    refine lv_iload hx hb dX6_note_69 (lv_at hl 0 rfl) ?_
    refine lv_iload hx hb dX6_note_71 (lv_at hl 6 rfl) ?_
    obtain ⟨r_24, hk_25, hf⟩ := pe_1 hf
    refine xv_i (As := [.int x1, .int x3, .int (r_18 - (1 : Int32)), .int x4]) (rest := [.int ((x1 * (8 : Int32)) + x2), .ref (a 10)]) (q0 := 0) (ci := 6) Cx hP hD hS hl (pl_X6_X6 a cyI cyJ (upd v6_hooks (Int32.toNatClampNeg ((x1 * (8 : Int32)) + x2)) r_20) v6_lefts (upd v6_heights (Int32.toNatClampNeg ((x1 * (8 : Int32)) + x2)) ((r_18 - (1 : Int32)) - x3)) v7_rows v7_lengths v7_sizes v7_rests v7_orders (upd v6_hooks (Int32.toNatClampNeg ((x1 * (8 : Int32)) + x2)) r_20) v6_lefts (upd v6_heights (Int32.toNatClampNeg ((x1 * (8 : Int32)) + x2)) ((r_18 - (1 : Int32)) - x3)) v7_rows v7_lengths v7_sizes v7_rests v7_orders) (c_X6_shapeLeft l D cyI cyJ G a H.size (upd v6_hooks (Int32.toNatClampNeg ((x1 * (8 : Int32)) + x2)) r_20) v6_lefts (upd v6_heights (Int32.toNatClampNeg ((x1 * (8 : Int32)) + x2)) ((r_18 - (1 : Int32)) - x3)) v7_rows v7_lengths v7_sizes v7_rests v7_orders x1 x3 (r_18 - (1 : Int32)) x4 r_24 hk_25) pk_X6_shapeLeft mw_1_131 ⟨rfl, rfl, Nat.le_of_ble_eq_true rfl, Nat.le_of_ble_eq_true rfl⟩ rfl rfl rfl rfl rfl (Nat.le_of_ble_eq_true rfl) ⟨Nat.le_of_ble_eq_true rfl, Nat.le_of_ble_eq_true rfl⟩ dX6_note_73 (fun H locs hP hD hS => ?_)
    obtain ⟨hi_26, hf⟩ := pe_in hf
    refine va_iast hx hb hK hP hD hS 2 0 rfl rfl hi_26 dX6_note_76 (fun H locs hP hD hS => ?_)
    have hP : va_P D xcl (wd_X6 a cyI cyJ (upd v6_hooks (Int32.toNatClampNeg ((x1 * (8 : Int32)) + x2)) r_20) (upd v6_lefts (Int32.toNatClampNeg ((x1 * (8 : Int32)) + x2)) r_24) (upd v6_heights (Int32.toNatClampNeg ((x1 * (8 : Int32)) + x2)) ((r_18 - (1 : Int32)) - x3)) v7_rows v7_lengths v7_sizes v7_rests v7_orders) H := hP
    have hD : va_D A (wd_X6 a cyI cyJ (upd v6_hooks (Int32.toNatClampNeg ((x1 * (8 : Int32)) + x2)) r_20) (upd v6_lefts (Int32.toNatClampNeg ((x1 * (8 : Int32)) + x2)) r_24) (upd v6_heights (Int32.toNatClampNeg ((x1 * (8 : Int32)) + x2)) ((r_18 - (1 : Int32)) - x3)) v7_rows v7_lengths v7_sizes v7_rests v7_orders) := hD
    obtain ⟨rfl, rfl, rfl⟩ := po_3 hf
    rw [← hQ]; exact xe_vret Cx hP hD hS dX6_note_77
def f_X6_hookBy (v6_hooks : Nat → Int32) (x1 : Int32) (x2 : Int32) : Option (Int32) := p_b1 (f_X6_has x1 x2) (fun r_1 => if r_1 = 0 then (some ((0 : Int32))) else (p_in ((x1 * (8 : Int32)) + x2) 536 (some ((v6_hooks (Int32.toNatClampNeg ((x1 * (8 : Int32)) + x2)))))))
set_option maxHeartbeats 4000000 in
set_option maxRecDepth 20000 in
theorem c_X6_hookBy (l : Launch) (D : va_G) (cyI cyJ : ClassId) (G a : Nat → Nat) (sz : Nat) (v6_hooks : Nat → Int32) (v6_lefts : Nat → Int32) (v6_heights : Nat → Int32) (v7_rows : Nat → Int32) (v7_lengths : Nat → Int32) (v7_sizes : Nat → Int32) (v7_rests : Nat → Int32) (v7_orders : Nat → Int32) (x1 : Int32) (x2 : Int32) (ro : Int32) (hf : f_X6_hookBy v6_hooks x1 x2 = some ro) : xm_i l yX6_hookBy (Cond.code yX6_hookBy cX6_hookBy 3 (some .int) :: xg_tbl) { frames := 2, cells := 0, slots := 0, locals := 43 } D xcl [(cyI, .int), (cyJ, .long)] G sz [.ref (a 8), .int x1, .int x2] (wd_X6 a cyI cyJ v6_hooks v6_lefts v6_heights v7_rows v7_lengths v7_sizes v7_rests v7_orders) (wd_X6 a cyI cyJ v6_hooks v6_lefts v6_heights v7_rows v7_lengths v7_sizes v7_rests v7_orders) ro := by
  refine xm_of_i (own := RX6) (by decide) rfl rfl (Nat.le_of_ble_eq_true rfl) ?_
  intro p e s m args below meth c ls Q A hQ hAe hin Cx hsz hP hD hS hl
  have Cx1 := Cx
  obtain ⟨⟨hx, hb, hml, hown, hts⟩, hr, hlocks, hK, hA, hT⟩ := Cx1
  have hl : lv_has ls 3 [(0, .ref (a 8)), (1, .int x1), (2, .int x2)] := hl
  obtain ⟨H, eH⟩ : ∃ H, H = s.heap := ⟨_, rfl⟩
  obtain ⟨locs, eL⟩ : ∃ L : List Loc, L = [] := ⟨_, rfl⟩
  rw [← eH] at hP
  have hS : va_S A s.heap H locs := by rw [eH, eL]; exact hS
  suffices hgo : W p l e { frames := 2, cells := 0, slots := 0, locals := 43 } s m args below meth c H locs 0 0 Q (F0 m 0 ls []) by rw [eH, eL] at hgo; exact hgo
  clear eH eL
  unfold f_X6_hookBy at hf
  refine lv_aload_n hx hb dX6_hookBy_0 rfl (lv_at hl 0 rfl) ?_
  refine lv_iload_n hx hb dX6_hookBy_1 rfl (lv_at hl 1 rfl) ?_
  refine lv_iload_n hx hb dX6_hookBy_2 rfl (lv_at hl 2 rfl) ?_
  obtain ⟨r_6, hk_7, hf⟩ := pe_1 hf
  refine xv_z (As := [.int x1, .int x2]) (rest := []) (q0 := 0) (ci := 6) Cx hP hD hS hl (pl_X6_X6 a cyI cyJ v6_hooks v6_lefts v6_heights v7_rows v7_lengths v7_sizes v7_rests v7_orders v6_hooks v6_lefts v6_heights v7_rows v7_lengths v7_sizes v7_rests v7_orders) (c_X6_has l D cyI cyJ G a H.size v6_hooks v6_lefts v6_heights v7_rows v7_lengths v7_sizes v7_rests v7_orders x1 x2 r_6 hk_7) pk_X6_has mw_1_117 ⟨rfl, rfl, Nat.le_of_ble_eq_true rfl, Nat.le_of_ble_eq_true rfl⟩ rfl rfl rfl rfl rfl (Nat.le_of_ble_eq_true rfl) ⟨Nat.le_of_ble_eq_true rfl, Nat.le_of_ble_eq_true rfl⟩ dX6_hookBy_3 (fun H locs hn_8 hP hD hS => ?_)
  refine lv_if_eq (tgt := 23) hx hb dX6_hookBy_6 (by decide) (fun hc_9 => ?_) (fun hc_9 => ?_)
  · have hf := pe_t hf hc_9
    refine lv_iconst (v := (0 : Int32)) hx hb dX6_hookBy_23 (by decide) ?_
    obtain rfl := po_1 hf
    rw [← hQ]; exact xe_iret Cx rfl hP hD hS dX6_hookBy_24
  · have hf := pe_f hf hc_9
    refine lv_aload_n hx hb dX6_hookBy_9 rfl (lv_at hl 0 rfl) ?_
    refine va_get (ci := 6) (v := .ref (a 9)) hx hb hts wX6_in hown hK hP 0 rfl rfl 1 (by decide) (hts _ mw_1_138) (fun _ h9 => h9) rfl dX6_hookBy_10 ?_
    refine lv_iload_n hx hb dX6_hookBy_13 rfl (lv_at hl 1 rfl) ?_
    refine lv_bipush (v := (8 : Int32)) hx hb dX6_hookBy_14 (by decide) ?_
    refine lv_imul hx hb dX6_hookBy_16 ?_
    refine lv_iload_n hx hb dX6_hookBy_17 rfl (lv_at hl 2 rfl) ?_
    refine lv_iadd hx hb dX6_hookBy_18 ?_
    obtain ⟨hi_10, hf⟩ := pe_in hf
    refine va_iald hx hb hK hP 1 0 rfl rfl hi_10 dX6_hookBy_19 ?_
    refine lv_goto (tgt := 24) hx hb dX6_hookBy_20 (by decide) ?_
    obtain rfl := po_1 hf
    rw [← hQ]; exact xe_iret Cx rfl hP hD hS dX6_hookBy_24
def f_X6_leftBy (v6_lefts : Nat → Int32) (x1 : Int32) (x2 : Int32) : Option (Int32) := p_b1 (f_X6_has x1 x2) (fun r_1 => if r_1 = 0 then (some ((0 : Int32))) else (p_in ((x1 * (8 : Int32)) + x2) 536 (some ((v6_lefts (Int32.toNatClampNeg ((x1 * (8 : Int32)) + x2)))))))
set_option maxHeartbeats 4000000 in
set_option maxRecDepth 20000 in
theorem c_X6_leftBy (l : Launch) (D : va_G) (cyI cyJ : ClassId) (G a : Nat → Nat) (sz : Nat) (v6_hooks : Nat → Int32) (v6_lefts : Nat → Int32) (v6_heights : Nat → Int32) (v7_rows : Nat → Int32) (v7_lengths : Nat → Int32) (v7_sizes : Nat → Int32) (v7_rests : Nat → Int32) (v7_orders : Nat → Int32) (x1 : Int32) (x2 : Int32) (ro : Int32) (hf : f_X6_leftBy v6_lefts x1 x2 = some ro) : xm_i l yX6_leftBy (Cond.code yX6_leftBy cX6_leftBy 3 (some .int) :: xg_tbl) { frames := 2, cells := 0, slots := 0, locals := 43 } D xcl [(cyI, .int), (cyJ, .long)] G sz [.ref (a 8), .int x1, .int x2] (wd_X6 a cyI cyJ v6_hooks v6_lefts v6_heights v7_rows v7_lengths v7_sizes v7_rests v7_orders) (wd_X6 a cyI cyJ v6_hooks v6_lefts v6_heights v7_rows v7_lengths v7_sizes v7_rests v7_orders) ro := by
  refine xm_of_i (own := RX6) (by decide) rfl rfl (Nat.le_of_ble_eq_true rfl) ?_
  intro p e s m args below meth c ls Q A hQ hAe hin Cx hsz hP hD hS hl
  have Cx1 := Cx
  obtain ⟨⟨hx, hb, hml, hown, hts⟩, hr, hlocks, hK, hA, hT⟩ := Cx1
  have hl : lv_has ls 3 [(0, .ref (a 8)), (1, .int x1), (2, .int x2)] := hl
  obtain ⟨H, eH⟩ : ∃ H, H = s.heap := ⟨_, rfl⟩
  obtain ⟨locs, eL⟩ : ∃ L : List Loc, L = [] := ⟨_, rfl⟩
  rw [← eH] at hP
  have hS : va_S A s.heap H locs := by rw [eH, eL]; exact hS
  suffices hgo : W p l e { frames := 2, cells := 0, slots := 0, locals := 43 } s m args below meth c H locs 0 0 Q (F0 m 0 ls []) by rw [eH, eL] at hgo; exact hgo
  clear eH eL
  unfold f_X6_leftBy at hf
  refine lv_aload_n hx hb dX6_leftBy_0 rfl (lv_at hl 0 rfl) ?_
  refine lv_iload_n hx hb dX6_leftBy_1 rfl (lv_at hl 1 rfl) ?_
  refine lv_iload_n hx hb dX6_leftBy_2 rfl (lv_at hl 2 rfl) ?_
  obtain ⟨r_6, hk_7, hf⟩ := pe_1 hf
  refine xv_z (As := [.int x1, .int x2]) (rest := []) (q0 := 0) (ci := 6) Cx hP hD hS hl (pl_X6_X6 a cyI cyJ v6_hooks v6_lefts v6_heights v7_rows v7_lengths v7_sizes v7_rests v7_orders v6_hooks v6_lefts v6_heights v7_rows v7_lengths v7_sizes v7_rests v7_orders) (c_X6_has l D cyI cyJ G a H.size v6_hooks v6_lefts v6_heights v7_rows v7_lengths v7_sizes v7_rests v7_orders x1 x2 r_6 hk_7) pk_X6_has mw_1_117 ⟨rfl, rfl, Nat.le_of_ble_eq_true rfl, Nat.le_of_ble_eq_true rfl⟩ rfl rfl rfl rfl rfl (Nat.le_of_ble_eq_true rfl) ⟨Nat.le_of_ble_eq_true rfl, Nat.le_of_ble_eq_true rfl⟩ dX6_leftBy_3 (fun H locs hn_8 hP hD hS => ?_)
  refine lv_if_eq (tgt := 23) hx hb dX6_leftBy_6 (by decide) (fun hc_9 => ?_) (fun hc_9 => ?_)
  · have hf := pe_t hf hc_9
    refine lv_iconst (v := (0 : Int32)) hx hb dX6_leftBy_23 (by decide) ?_
    obtain rfl := po_1 hf
    rw [← hQ]; exact xe_iret Cx rfl hP hD hS dX6_leftBy_24
  · have hf := pe_f hf hc_9
    refine lv_aload_n hx hb dX6_leftBy_9 rfl (lv_at hl 0 rfl) ?_
    refine va_get (ci := 6) (v := .ref (a 10)) hx hb hts wX6_in hown hK hP 0 rfl rfl 2 (by decide) (hts _ mw_1_139) (fun _ h9 => h9) rfl dX6_leftBy_10 ?_
    refine lv_iload_n hx hb dX6_leftBy_13 rfl (lv_at hl 1 rfl) ?_
    refine lv_bipush (v := (8 : Int32)) hx hb dX6_leftBy_14 (by decide) ?_
    refine lv_imul hx hb dX6_leftBy_16 ?_
    refine lv_iload_n hx hb dX6_leftBy_17 rfl (lv_at hl 2 rfl) ?_
    refine lv_iadd hx hb dX6_leftBy_18 ?_
    obtain ⟨hi_10, hf⟩ := pe_in hf
    refine va_iald hx hb hK hP 2 0 rfl rfl hi_10 dX6_leftBy_19 ?_
    refine lv_goto (tgt := 24) hx hb dX6_leftBy_20 (by decide) ?_
    obtain rfl := po_1 hf
    rw [← hQ]; exact xe_iret Cx rfl hP hD hS dX6_leftBy_24
def f_X6_heightBy (v6_heights : Nat → Int32) (x1 : Int32) (x2 : Int32) : Option (Int32) := p_b1 (f_X6_has x1 x2) (fun r_1 => if r_1 = 0 then (some ((0 : Int32))) else (p_in ((x1 * (8 : Int32)) + x2) 536 (some ((v6_heights (Int32.toNatClampNeg ((x1 * (8 : Int32)) + x2)))))))
set_option maxHeartbeats 4000000 in
set_option maxRecDepth 20000 in
theorem c_X6_heightBy (l : Launch) (D : va_G) (cyI cyJ : ClassId) (G a : Nat → Nat) (sz : Nat) (v6_hooks : Nat → Int32) (v6_lefts : Nat → Int32) (v6_heights : Nat → Int32) (v7_rows : Nat → Int32) (v7_lengths : Nat → Int32) (v7_sizes : Nat → Int32) (v7_rests : Nat → Int32) (v7_orders : Nat → Int32) (x1 : Int32) (x2 : Int32) (ro : Int32) (hf : f_X6_heightBy v6_heights x1 x2 = some ro) : xm_i l yX6_heightBy (Cond.code yX6_heightBy cX6_heightBy 3 (some .int) :: xg_tbl) { frames := 2, cells := 0, slots := 0, locals := 43 } D xcl [(cyI, .int), (cyJ, .long)] G sz [.ref (a 8), .int x1, .int x2] (wd_X6 a cyI cyJ v6_hooks v6_lefts v6_heights v7_rows v7_lengths v7_sizes v7_rests v7_orders) (wd_X6 a cyI cyJ v6_hooks v6_lefts v6_heights v7_rows v7_lengths v7_sizes v7_rests v7_orders) ro := by
  refine xm_of_i (own := RX6) (by decide) rfl rfl (Nat.le_of_ble_eq_true rfl) ?_
  intro p e s m args below meth c ls Q A hQ hAe hin Cx hsz hP hD hS hl
  have Cx1 := Cx
  obtain ⟨⟨hx, hb, hml, hown, hts⟩, hr, hlocks, hK, hA, hT⟩ := Cx1
  have hl : lv_has ls 3 [(0, .ref (a 8)), (1, .int x1), (2, .int x2)] := hl
  obtain ⟨H, eH⟩ : ∃ H, H = s.heap := ⟨_, rfl⟩
  obtain ⟨locs, eL⟩ : ∃ L : List Loc, L = [] := ⟨_, rfl⟩
  rw [← eH] at hP
  have hS : va_S A s.heap H locs := by rw [eH, eL]; exact hS
  suffices hgo : W p l e { frames := 2, cells := 0, slots := 0, locals := 43 } s m args below meth c H locs 0 0 Q (F0 m 0 ls []) by rw [eH, eL] at hgo; exact hgo
  clear eH eL
  unfold f_X6_heightBy at hf
  refine lv_aload_n hx hb dX6_heightBy_0 rfl (lv_at hl 0 rfl) ?_
  refine lv_iload_n hx hb dX6_heightBy_1 rfl (lv_at hl 1 rfl) ?_
  refine lv_iload_n hx hb dX6_heightBy_2 rfl (lv_at hl 2 rfl) ?_
  obtain ⟨r_6, hk_7, hf⟩ := pe_1 hf
  refine xv_z (As := [.int x1, .int x2]) (rest := []) (q0 := 0) (ci := 6) Cx hP hD hS hl (pl_X6_X6 a cyI cyJ v6_hooks v6_lefts v6_heights v7_rows v7_lengths v7_sizes v7_rests v7_orders v6_hooks v6_lefts v6_heights v7_rows v7_lengths v7_sizes v7_rests v7_orders) (c_X6_has l D cyI cyJ G a H.size v6_hooks v6_lefts v6_heights v7_rows v7_lengths v7_sizes v7_rests v7_orders x1 x2 r_6 hk_7) pk_X6_has mw_1_117 ⟨rfl, rfl, Nat.le_of_ble_eq_true rfl, Nat.le_of_ble_eq_true rfl⟩ rfl rfl rfl rfl rfl (Nat.le_of_ble_eq_true rfl) ⟨Nat.le_of_ble_eq_true rfl, Nat.le_of_ble_eq_true rfl⟩ dX6_heightBy_3 (fun H locs hn_8 hP hD hS => ?_)
  refine lv_if_eq (tgt := 23) hx hb dX6_heightBy_6 (by decide) (fun hc_9 => ?_) (fun hc_9 => ?_)
  · have hf := pe_t hf hc_9
    refine lv_iconst (v := (0 : Int32)) hx hb dX6_heightBy_23 (by decide) ?_
    obtain rfl := po_1 hf
    rw [← hQ]; exact xe_iret Cx rfl hP hD hS dX6_heightBy_24
  · have hf := pe_f hf hc_9
    refine lv_aload_n hx hb dX6_heightBy_9 rfl (lv_at hl 0 rfl) ?_
    refine va_get (ci := 6) (v := .ref (a 11)) hx hb hts wX6_in hown hK hP 0 rfl rfl 3 (by decide) (hts _ mw_1_140) (fun _ h9 => h9) rfl dX6_heightBy_10 ?_
    refine lv_iload_n hx hb dX6_heightBy_13 rfl (lv_at hl 1 rfl) ?_
    refine lv_bipush (v := (8 : Int32)) hx hb dX6_heightBy_14 (by decide) ?_
    refine lv_imul hx hb dX6_heightBy_16 ?_
    refine lv_iload_n hx hb dX6_heightBy_17 rfl (lv_at hl 2 rfl) ?_
    refine lv_iadd hx hb dX6_heightBy_18 ?_
    obtain ⟨hi_10, hf⟩ := pe_in hf
    refine va_iald hx hb hK hP 3 0 rfl rfl hi_10 dX6_heightBy_19 ?_
    refine lv_goto (tgt := 24) hx hb dX6_heightBy_20 (by decide) ?_
    obtain rfl := po_1 hf
    rw [← hQ]; exact xe_iret Cx rfl hP hD hS dX6_heightBy_24
def gf_X6_dimensionOf_4 (K_4 : Int32 → Int32 → Int32 → Option (Int32)) (v7_sizes : Nat → Int32) (v6_hooks : Nat → Int32) (y1 : Int32) (y2 : Int32) (y3 : Int32) : Option (Int32) := p_b1 (f_X7_sizeOf v7_sizes y1) (fun r_1 => if r_1 ≤ y3 then (if y2 ≤ 0 then (some ((0 : Int32))) else (p_b1 (f_X7_sizeOf v7_sizes y1) (fun r_5 => p_b1 (f_X7_factorial r_5) (fun r_7 => p_nz y2 (some ((r_7 / y2))))))) else (p_b1 (f_X6_hookBy v6_hooks y1 y3) (fun r_10 => K_4 y1 (y2 * r_10) (y3 + (1 : Int32)))))
def f_X6_dimensionOf_4 (v7_sizes : Nat → Int32) (v6_hooks : Nat → Int32) : Nat → Int32 → Int32 → Int32 → Option (Int32)
  | 0 => fun _ _ _ => none
  | n + 1 => gf_X6_dimensionOf_4 (f_X6_dimensionOf_4 v7_sizes v6_hooks n) v7_sizes v6_hooks
def f_X6_dimensionOf (v7_sizes : Nat → Int32) (v6_hooks : Nat → Int32) (x1 : Int32) : Option (Int32) := (f_X6_dimensionOf_4 v7_sizes v6_hooks 1000) x1 (1 : Int32) (0 : Int32)
set_option maxHeartbeats 4000000 in
set_option maxRecDepth 20000 in
theorem c_X6_dimensionOf (l : Launch) (D : va_G) (cyI cyJ : ClassId) (G a : Nat → Nat) (sz : Nat) (v6_hooks : Nat → Int32) (v6_lefts : Nat → Int32) (v6_heights : Nat → Int32) (v7_rows : Nat → Int32) (v7_lengths : Nat → Int32) (v7_sizes : Nat → Int32) (v7_rests : Nat → Int32) (v7_orders : Nat → Int32) (x1 : Int32) (ro : Int32) (hf : f_X6_dimensionOf v7_sizes v6_hooks x1 = some ro) : xm_i l yX6_dimensionOf (Cond.code yX6_dimensionOf cX6_dimensionOf 4 (some .int) :: xg_tbl) { frames := 3, cells := 0, slots := 0, locals := 65 } D xcl [(cyI, .int), (cyJ, .long)] G sz [.ref (a 8), .int x1] (wd_X6 a cyI cyJ v6_hooks v6_lefts v6_heights v7_rows v7_lengths v7_sizes v7_rests v7_orders) (wd_X6 a cyI cyJ v6_hooks v6_lefts v6_heights v7_rows v7_lengths v7_sizes v7_rests v7_orders) ro := by
  refine xm_of_i (own := RX6) (by decide) rfl rfl (Nat.le_of_ble_eq_true rfl) ?_
  intro p e s m args below meth c ls Q A hQ hAe hin Cx hsz hP hD hS hl
  have Cx1 := Cx
  obtain ⟨⟨hx, hb, hml, hown, hts⟩, hr, hlocks, hK, hA, hT⟩ := Cx1
  have hl : lv_has ls 4 [(0, .ref (a 8)), (1, .int x1)] := hl
  obtain ⟨H, eH⟩ : ∃ H, H = s.heap := ⟨_, rfl⟩
  obtain ⟨locs, eL⟩ : ∃ L : List Loc, L = [] := ⟨_, rfl⟩
  rw [← eH] at hP
  have hS : va_S A s.heap H locs := by rw [eH, eL]; exact hS
  suffices hgo : W p l e { frames := 3, cells := 0, slots := 0, locals := 65 } s m args below meth c H locs 0 0 Q (F0 m 0 ls []) by rw [eH, eL] at hgo; exact hgo
  clear eH eL
  unfold f_X6_dimensionOf at hf
  have w_4 : ∀ (n_4 : Nat) (y1 : Int32) (y2 : Int32) (y3 : Int32) (H : Heap) (locs : List Loc) (ls : Array Slot), (f_X6_dimensionOf_4 v7_sizes v6_hooks) n_4 y1 y2 y3 = some ro → va_P D xcl (wd_X6 a cyI cyJ v6_hooks v6_lefts v6_heights v7_rows v7_lengths v7_sizes v7_rests v7_orders) H → va_D A (wd_X6 a cyI cyJ v6_hooks v6_lefts v6_heights v7_rows v7_lengths v7_sizes v7_rests v7_orders) → va_S A s.heap H locs → lv_has ls 4 [(0, .ref (a 8)), (1, .int y1), (2, .int y2), (3, .int y3)] → W p l e { frames := 3, cells := 0, slots := 0, locals := 65 } s m args below meth c H locs 0 0 Q (F0 m 4 ls []) := by
    intro n_4
    induction n_4 with
    | zero => intro y1 y2 y3 H locs ls hf; exact absurd hf (by intro h9; cases h9)
    | succ n_4 w_4 =>
      intro y1 y2 y3 H locs ls hf hP hD hS hl
      have hf : gf_X6_dimensionOf_4 ((f_X6_dimensionOf_4 v7_sizes v6_hooks) n_4) v7_sizes v6_hooks y1 y2 y3 = some ro := hf
      unfold gf_X6_dimensionOf_4 at hf
      refine lv_iload_n hx hb dX6_dimensionOf_4 rfl (lv_at hl 3 rfl) ?_
      refine lv_aload_n hx hb dX6_dimensionOf_5 rfl (lv_at hl 0 rfl) ?_
      refine va_get (ci := 6) (v := .ref (a 2)) hx hb hts wX6_in hown hK hP 0 rfl rfl 0 (by decide) (hts _ mw_1_137) (fun _ h9 => h9) rfl dX6_dimensionOf_6 ?_
      refine lv_iload_n hx hb dX6_dimensionOf_9 rfl (lv_at hl 1 rfl) ?_
      obtain ⟨r_12, hk_13, hf⟩ := pe_1 hf
      refine xv_i (As := [.int y1]) (rest := [.int y3]) (q0 := 0) (ci := 7) Cx hP hD hS hl (pl_X6_X7 a cyI cyJ v6_hooks v6_lefts v6_heights v7_rows v7_lengths v7_sizes v7_rests v7_orders v7_rows v7_lengths v7_sizes v7_rests v7_orders) (c_X7_sizeOf l D cyI cyJ G a H.size v7_rows v7_lengths v7_sizes v7_rests v7_orders y1 r_12 hk_13) pk_X7_sizeOf mw_2_125 ⟨rfl, rfl, Nat.le_of_ble_eq_true rfl, Nat.le_of_ble_eq_true rfl⟩ rfl rfl rfl rfl rfl (Nat.le_of_ble_eq_true rfl) ⟨Nat.le_of_ble_eq_true rfl, Nat.le_of_ble_eq_true rfl⟩ dX6_dimensionOf_10 (fun H locs hP hD hS => ?_)
      refine lv_icmp_ge (tgt := 31) hx hb dX6_dimensionOf_13 (by decide) (fun hc_14 => ?_) (fun hc_14 => ?_)
      · have hf := pe_t hf hc_14
        refine lv_iload_n hx hb dX6_dimensionOf_31 rfl (lv_at hl 2 rfl) ?_
        refine lv_if_le (tgt := 51) hx hb dX6_dimensionOf_32 (by decide) (fun hc_15 => ?_) (fun hc_15 => ?_)
        · have hf := pe_t hf hc_15
          refine lv_iconst (v := (0 : Int32)) hx hb dX6_dimensionOf_51 (by decide) ?_
          obtain rfl := po_1 hf
          rw [← hQ]; exact xe_iret Cx rfl hP hD hS dX6_dimensionOf_52
        · have hf := pe_f hf hc_15
          refine lv_aload_n hx hb dX6_dimensionOf_35 rfl (lv_at hl 0 rfl) ?_
          refine va_get (ci := 6) (v := .ref (a 2)) hx hb hts wX6_in hown hK hP 0 rfl rfl 0 (by decide) (hts _ mw_1_137) (fun _ h9 => h9) rfl dX6_dimensionOf_36 ?_
          refine lv_iload_n hx hb dX6_dimensionOf_39 rfl (lv_at hl 1 rfl) ?_
          obtain ⟨r_16, hk_17, hf⟩ := pe_1 hf
          refine xv_i (As := [.int y1]) (rest := []) (q0 := 0) (ci := 7) Cx hP hD hS hl (pl_X6_X7 a cyI cyJ v6_hooks v6_lefts v6_heights v7_rows v7_lengths v7_sizes v7_rests v7_orders v7_rows v7_lengths v7_sizes v7_rests v7_orders) (c_X7_sizeOf l D cyI cyJ G a H.size v7_rows v7_lengths v7_sizes v7_rests v7_orders y1 r_16 hk_17) pk_X7_sizeOf mw_2_125 ⟨rfl, rfl, Nat.le_of_ble_eq_true rfl, Nat.le_of_ble_eq_true rfl⟩ rfl rfl rfl rfl rfl (Nat.le_of_ble_eq_true rfl) ⟨Nat.le_of_ble_eq_true rfl, Nat.le_of_ble_eq_true rfl⟩ dX6_dimensionOf_40 (fun H locs hP hD hS => ?_)
          obtain ⟨r_18, hk_19, hf⟩ := pe_1 hf
          refine xw_i (As := [.int r_16]) (rest := []) Cx hP hD hS hl (xq_none _) (c_X7_factorial l D cyI cyJ G H.size r_16 r_18 hk_19) pk_X7_factorial mw_2_127 ⟨rfl, rfl, Nat.le_of_ble_eq_true rfl, Nat.le_of_ble_eq_true rfl⟩ rfl rfl (Nat.le_of_ble_eq_true rfl) ⟨Nat.le_of_ble_eq_true rfl, Nat.le_of_ble_eq_true rfl⟩ dX6_dimensionOf_43 (fun H locs hP hD hS => ?_)
          refine lv_iload_n hx hb dX6_dimensionOf_46 rfl (lv_at hl 2 rfl) ?_
          obtain ⟨hz_20, hf⟩ := pe_nz hf
          refine lv_idiv hx hb dX6_dimensionOf_47 hz_20 ?_
          refine lv_goto (tgt := 52) hx hb dX6_dimensionOf_48 (by decide) ?_
          obtain rfl := po_1 hf
          rw [← hQ]; exact xe_iret Cx rfl hP hD hS dX6_dimensionOf_52
      · have hf := pe_f hf hc_14
        refine lv_iload_n hx hb dX6_dimensionOf_16 rfl (lv_at hl 2 rfl) ?_
        refine lv_aload_n hx hb dX6_dimensionOf_17 rfl (lv_at hl 0 rfl) ?_
        refine lv_iload_n hx hb dX6_dimensionOf_18 rfl (lv_at hl 1 rfl) ?_
        refine lv_iload_n hx hb dX6_dimensionOf_19 rfl (lv_at hl 3 rfl) ?_
        obtain ⟨r_21, hk_22, hf⟩ := pe_1 hf
        refine xv_i (As := [.int y1, .int y3]) (rest := [.int y2]) (q0 := 0) (ci := 6) Cx hP hD hS hl (pl_X6_X6 a cyI cyJ v6_hooks v6_lefts v6_heights v7_rows v7_lengths v7_sizes v7_rests v7_orders v6_hooks v6_lefts v6_heights v7_rows v7_lengths v7_sizes v7_rests v7_orders) (c_X6_hookBy l D cyI cyJ G a H.size v6_hooks v6_lefts v6_heights v7_rows v7_lengths v7_sizes v7_rests v7_orders y1 y3 r_21 hk_22) pk_X6_hookBy mw_2_126 ⟨rfl, rfl, Nat.le_of_ble_eq_true rfl, Nat.le_of_ble_eq_true rfl⟩ rfl rfl rfl rfl rfl (Nat.le_of_ble_eq_true rfl) ⟨Nat.le_of_ble_eq_true rfl, Nat.le_of_ble_eq_true rfl⟩ dX6_dimensionOf_20 (fun H locs hP hD hS => ?_)
        refine lv_imul hx hb dX6_dimensionOf_23 ?_
        refine lv_istore_n (lv' := [(2, .int (y2 * r_21)), (0, .ref (a 8)), (1, .int y1), (3, .int y3)]) hx hb dX6_dimensionOf_24 rfl hl (by decide) rfl (fun ls hl => ?_)
        refine lv_iinc (v := (y3 + (1 : Int32))) (lv' := [(3, .int (y3 + (1 : Int32))), (2, .int (y2 * r_21)), (0, .ref (a 8)), (1, .int y1)]) hx hb dX6_dimensionOf_25 hl (k := 3) rfl rfl (by decide) rfl (fun ls hl => ?_)
        refine lv_goto (tgt := 4) hx hb dX6_dimensionOf_28 (by decide) ?_
        exact w_4 y1 (y2 * r_21) (y3 + (1 : Int32)) H locs ls hf hP hD hS (lv_sub hl [2, 3, 1, 0] rfl)
  refine lv_iconst (v := (1 : Int32)) hx hb dX6_dimensionOf_0 (by decide) ?_
  refine lv_istore_n (lv' := [(2, .int (1 : Int32)), (0, .ref (a 8)), (1, .int x1)]) hx hb dX6_dimensionOf_1 rfl hl (by decide) rfl (fun ls hl => ?_)
  refine lv_iconst (v := (0 : Int32)) hx hb dX6_dimensionOf_2 (by decide) ?_
  refine lv_istore_n (lv' := [(3, .int (0 : Int32)), (2, .int (1 : Int32)), (0, .ref (a 8)), (1, .int x1)]) hx hb dX6_dimensionOf_3 rfl hl (by decide) rfl (fun ls hl => ?_)
  exact w_4 1000 x1 (1 : Int32) (0 : Int32) H locs ls hf hP hD hS (lv_sub hl [2, 3, 1, 0] rfl)
