def gf_X0_begin_2 (K_2 : (Nat → Int64) → Int32 → Option ((Nat → Int64))) (v0_totals : Nat → Int64) (y1 : Int32) : Option ((Nat → Int64)) := if (22 : Int32) ≤ y1 then (some (v0_totals)) else (p_in y1 22 (K_2 (vp_updL v0_totals (Int32.toNatClampNeg y1) (0 : Int64)) (y1 + (1 : Int32))))
def f_X0_begin_2 : Nat → (Nat → Int64) → Int32 → Option ((Nat → Int64))
  | 0 => fun _ _ => none
  | n + 1 => gf_X0_begin_2 (f_X0_begin_2 n)
def f_X0_begin (v0_totals : Nat → Int64) : Option ((Nat → Int64)) := (f_X0_begin_2 1000) v0_totals (0 : Int32)
set_option maxHeartbeats 4000000 in
set_option maxRecDepth 20000 in
theorem c_X0_begin (l : Launch) (D : va_G) (cyI cyJ : ClassId) (G a : Nat → Nat) (sz : Nat) (v0_totals : Nat → Int64) (v7_rows : Nat → Int32) (v7_lengths : Nat → Int32) (v7_sizes : Nat → Int32) (v7_rests : Nat → Int32) (v7_orders : Nat → Int32) (v6_hooks : Nat → Int32) (v6_lefts : Nat → Int32) (v6_heights : Nat → Int32) (v1_table : Nat → Int32) (v5_known : Nat → Int32) (v8_sizes : Nat → Int32) (v8_coefficients : Nat → Int32) (v8_undoneSums : Nat → Int32) (v8_undos : Int32) (v8_nextUndo : Int32) (v8_imageTaken : Int32) (ov0_totals : Nat → Int64) (hf : f_X0_begin v0_totals = some ov0_totals) : xm_v l yX0_begin (Cond.code yX0_begin cX0_begin 2 none :: xg_tbl) { frames := 0, cells := 0, slots := 0, locals := 0 } D xcl [(cyI, .int), (cyJ, .long)] G sz [.ref (a 21)] (wd_X0 a cyI cyJ v0_totals v7_rows v7_lengths v7_sizes v7_rests v7_orders v6_hooks v6_lefts v6_heights v1_table v5_known v8_sizes v8_coefficients v8_undoneSums v8_undos v8_nextUndo v8_imageTaken) (wd_X0 a cyI cyJ ov0_totals v7_rows v7_lengths v7_sizes v7_rests v7_orders v6_hooks v6_lefts v6_heights v1_table v5_known v8_sizes v8_coefficients v8_undoneSums v8_undos v8_nextUndo v8_imageTaken) := by
  refine xm_of_v (own := RX0) (by decide) rfl rfl (Nat.le_of_ble_eq_true rfl) ?_
  intro p e s m args below meth c ls Q A hQ hAe hin Cx hsz hP hD hS hl
  have Cx1 := Cx
  obtain ⟨⟨hx, hb, hml, hown, hts⟩, hr, hlocks, hK, hA, hT⟩ := Cx1
  have hl : lv_has ls 2 [(0, .ref (a 21))] := hl
  obtain ⟨H, eH⟩ : ∃ H, H = s.heap := ⟨_, rfl⟩
  obtain ⟨locs, eL⟩ : ∃ L : List Loc, L = [] := ⟨_, rfl⟩
  rw [← eH] at hP
  have hS : va_S A s.heap H locs := by rw [eH, eL]; exact hS
  suffices hgo : W p l e { frames := 0, cells := 0, slots := 0, locals := 0 } s m args below meth c H locs 0 0 Q (F0 m 0 ls []) by rw [eH, eL] at hgo; exact hgo
  clear eH eL
  unfold f_X0_begin at hf
  have w_2 : ∀ (n_2 : Nat) (v0_totals : Nat → Int64) (y1 : Int32) (H : Heap) (locs : List Loc) (ls : Array Slot), f_X0_begin_2 n_2 v0_totals y1 = some ov0_totals → va_P D xcl (wd_X0 a cyI cyJ v0_totals v7_rows v7_lengths v7_sizes v7_rests v7_orders v6_hooks v6_lefts v6_heights v1_table v5_known v8_sizes v8_coefficients v8_undoneSums v8_undos v8_nextUndo v8_imageTaken) H → va_D A (wd_X0 a cyI cyJ v0_totals v7_rows v7_lengths v7_sizes v7_rests v7_orders v6_hooks v6_lefts v6_heights v1_table v5_known v8_sizes v8_coefficients v8_undoneSums v8_undos v8_nextUndo v8_imageTaken) → va_S A s.heap H locs → lv_has ls 2 [(0, .ref (a 21)), (1, .int y1)] → W p l e { frames := 0, cells := 0, slots := 0, locals := 0 } s m args below meth c H locs 0 0 Q (F0 m 2 ls []) := by
    intro n_2
    induction n_2 with
    | zero => intro v0_totals y1 H locs ls hf; exact absurd hf (by intro h9; cases h9)
    | succ n_2 w_2 =>
      intro v0_totals y1 H locs ls hf hP hD hS hl
      have hf : gf_X0_begin_2 (f_X0_begin_2 n_2) v0_totals y1 = some ov0_totals := hf
      unfold gf_X0_begin_2 at hf
      refine lv_iload_n hx hb dX0_begin_2 rfl (lv_at hl 1 rfl) ?_
      refine lv_bipush (v := (22 : Int32)) hx hb dX0_begin_3 (by decide) ?_
      refine lv_icmp_ge (tgt := 21) hx hb dX0_begin_5 (by decide) (fun hc_3 => ?_) (fun hc_3 => ?_)
      · have hf := pe_t hf hc_3
        obtain rfl := po_1 hf
        rw [← hQ]; exact xe_vret Cx hP hD hS dX0_begin_21
      · have hf := pe_f hf hc_3
        refine lv_aload_n hx hb dX0_begin_8 rfl (lv_at hl 0 rfl) ?_
        refine va_get (ci := 0) (v := .ref (a 22)) hx hb hts wX0_in hown hK hP 0 rfl rfl 5 (by decide) (hts _ mw_2_21) (fun _ h9 => h9) rfl dX0_begin_9 ?_
        refine lv_iload_n hx hb dX0_begin_12 rfl (lv_at hl 1 rfl) ?_
        refine lv_lconst (v := (0 : Int64)) hx hb dX0_begin_13 (by decide) ?_
        obtain ⟨hi_4, hf⟩ := pe_in hf
        refine va_last hx hb hK hP hD hS 1 1 rfl rfl hi_4 dX0_begin_14 (fun H locs hP hD hS => ?_)
        have hP : va_P D xcl (wd_X0 a cyI cyJ (vp_updL v0_totals (Int32.toNatClampNeg y1) (0 : Int64)) v7_rows v7_lengths v7_sizes v7_rests v7_orders v6_hooks v6_lefts v6_heights v1_table v5_known v8_sizes v8_coefficients v8_undoneSums v8_undos v8_nextUndo v8_imageTaken) H := hP
        have hD : va_D A (wd_X0 a cyI cyJ (vp_updL v0_totals (Int32.toNatClampNeg y1) (0 : Int64)) v7_rows v7_lengths v7_sizes v7_rests v7_orders v6_hooks v6_lefts v6_heights v1_table v5_known v8_sizes v8_coefficients v8_undoneSums v8_undos v8_nextUndo v8_imageTaken) := hD
        refine lv_iinc (v := (y1 + (1 : Int32))) (lv' := [(1, .int (y1 + (1 : Int32))), (0, .ref (a 21))]) hx hb dX0_begin_15 hl (k := 1) rfl rfl (by decide) rfl (fun ls hl => ?_)
        refine lv_goto (tgt := 2) hx hb dX0_begin_18 (by decide) ?_
        exact w_2 (vp_updL v0_totals (Int32.toNatClampNeg y1) (0 : Int64)) (y1 + (1 : Int32)) H locs ls hf hP hD hS (lv_sub hl [1, 0] rfl)
  refine lv_iconst (v := (0 : Int32)) hx hb dX0_begin_0 (by decide) ?_
  refine lv_istore_n (lv' := [(1, .int (0 : Int32)), (0, .ref (a 21))]) hx hb dX0_begin_1 rfl hl (by decide) rfl (fun ls hl => ?_)
  exact w_2 1000 v0_totals (0 : Int32) H locs ls hf hP hD hS (lv_sub hl [1, 0] rfl)
def f_X0_add (v0_totals : Nat → Int64) (x1 : Int32) (x2 : Int64) : Option ((Nat → Int64)) := if x1 < 0 then (some (v0_totals)) else (if (22 : Int32) ≤ x1 then (some (v0_totals)) else (p_in x1 22 (p_in x1 22 (some ((vp_updL v0_totals (Int32.toNatClampNeg x1) ((v0_totals (Int32.toNatClampNeg x1)) + x2)))))))
set_option maxHeartbeats 4000000 in
set_option maxRecDepth 20000 in
theorem c_X0_add (l : Launch) (D : va_G) (cyI cyJ : ClassId) (G a : Nat → Nat) (sz : Nat) (v0_totals : Nat → Int64) (v7_rows : Nat → Int32) (v7_lengths : Nat → Int32) (v7_sizes : Nat → Int32) (v7_rests : Nat → Int32) (v7_orders : Nat → Int32) (v6_hooks : Nat → Int32) (v6_lefts : Nat → Int32) (v6_heights : Nat → Int32) (v1_table : Nat → Int32) (v5_known : Nat → Int32) (v8_sizes : Nat → Int32) (v8_coefficients : Nat → Int32) (v8_undoneSums : Nat → Int32) (v8_undos : Int32) (v8_nextUndo : Int32) (v8_imageTaken : Int32) (x1 : Int32) (x2 : Int64) (ov0_totals : Nat → Int64) (hf : f_X0_add v0_totals x1 x2 = some ov0_totals) : xm_v l yX0_add (Cond.code yX0_add cX0_add 4 none :: xg_tbl) { frames := 0, cells := 0, slots := 0, locals := 0 } D xcl [(cyI, .int), (cyJ, .long)] G sz [.ref (a 21), .int x1, .long x2] (wd_X0 a cyI cyJ v0_totals v7_rows v7_lengths v7_sizes v7_rests v7_orders v6_hooks v6_lefts v6_heights v1_table v5_known v8_sizes v8_coefficients v8_undoneSums v8_undos v8_nextUndo v8_imageTaken) (wd_X0 a cyI cyJ ov0_totals v7_rows v7_lengths v7_sizes v7_rests v7_orders v6_hooks v6_lefts v6_heights v1_table v5_known v8_sizes v8_coefficients v8_undoneSums v8_undos v8_nextUndo v8_imageTaken) := by
  refine xm_of_v (own := RX0) (by decide) rfl rfl (Nat.le_of_ble_eq_true rfl) ?_
  intro p e s m args below meth c ls Q A hQ hAe hin Cx hsz hP hD hS hl
  have Cx1 := Cx
  obtain ⟨⟨hx, hb, hml, hown, hts⟩, hr, hlocks, hK, hA, hT⟩ := Cx1
  have hl : lv_has ls 4 [(0, .ref (a 21)), (1, .int x1), (2, .long x2)] := hl
  obtain ⟨H, eH⟩ : ∃ H, H = s.heap := ⟨_, rfl⟩
  obtain ⟨locs, eL⟩ : ∃ L : List Loc, L = [] := ⟨_, rfl⟩
  rw [← eH] at hP
  have hS : va_S A s.heap H locs := by rw [eH, eL]; exact hS
  suffices hgo : W p l e { frames := 0, cells := 0, slots := 0, locals := 0 } s m args below meth c H locs 0 0 Q (F0 m 0 ls []) by rw [eH, eL] at hgo; exact hgo
  clear eH eL
  unfold f_X0_add at hf
  refine lv_iload_n hx hb dX0_add_0 rfl (lv_at hl 1 rfl) ?_
  refine lv_if_lt (tgt := 20) hx hb dX0_add_1 (by decide) (fun hc_5 => ?_) (fun hc_5 => ?_)
  · have hf := pe_t hf hc_5
    obtain rfl := po_1 hf
    rw [← hQ]; exact xe_vret Cx hP hD hS dX0_add_20
  · have hf := pe_f hf hc_5
    refine lv_iload_n hx hb dX0_add_4 rfl (lv_at hl 1 rfl) ?_
    refine lv_bipush (v := (22 : Int32)) hx hb dX0_add_5 (by decide) ?_
    refine lv_icmp_ge (tgt := 20) hx hb dX0_add_7 (by decide) (fun hc_6 => ?_) (fun hc_6 => ?_)
    · have hf := pe_t hf hc_6
      obtain rfl := po_1 hf
      rw [← hQ]; exact xe_vret Cx hP hD hS dX0_add_20
    · have hf := pe_f hf hc_6
      refine lv_aload_n hx hb dX0_add_10 rfl (lv_at hl 0 rfl) ?_
      refine va_get (ci := 0) (v := .ref (a 22)) hx hb hts wX0_in hown hK hP 0 rfl rfl 5 (by decide) (hts _ mw_2_21) (fun _ h9 => h9) rfl dX0_add_11 ?_
      refine lv_iload_n hx hb dX0_add_14 rfl (lv_at hl 1 rfl) ?_
      refine lv_dup2_11 hx hb dX0_add_15 rfl rfl ?_
      obtain ⟨hi_7, hf⟩ := pe_in hf
      refine va_lald hx hb hK hP 1 1 rfl rfl hi_7 dX0_add_16 ?_
      refine lv_lload_n hx hb dX0_add_17 rfl (lv_at hl 2 rfl) ?_
      refine lv_ladd hx hb dX0_add_18 ?_
      obtain ⟨hi_8, hf⟩ := pe_in hf
      refine va_last hx hb hK hP hD hS 1 1 rfl rfl hi_8 dX0_add_19 (fun H locs hP hD hS => ?_)
      have hP : va_P D xcl (wd_X0 a cyI cyJ (vp_updL v0_totals (Int32.toNatClampNeg x1) ((v0_totals (Int32.toNatClampNeg x1)) + x2)) v7_rows v7_lengths v7_sizes v7_rests v7_orders v6_hooks v6_lefts v6_heights v1_table v5_known v8_sizes v8_coefficients v8_undoneSums v8_undos v8_nextUndo v8_imageTaken) H := hP
      have hD : va_D A (wd_X0 a cyI cyJ (vp_updL v0_totals (Int32.toNatClampNeg x1) ((v0_totals (Int32.toNatClampNeg x1)) + x2)) v7_rows v7_lengths v7_sizes v7_rests v7_orders v6_hooks v6_lefts v6_heights v1_table v5_known v8_sizes v8_coefficients v8_undoneSums v8_undos v8_nextUndo v8_imageTaken) := hD
      obtain rfl := po_1 hf
      rw [← hQ]; exact xe_vret Cx hP hD hS dX0_add_20
def gf_X0_draftsTotals_10 (K_10 : (Nat → Int32) → (Nat → Int32) → Int32 → Option (Int32 × (Nat → Int32) × (Nat → Int32))) (v0_totals : Nat → Int64) (v8_sizes : Nat → Int32) (v8_coefficients : Nat → Int32) (y2 : Int32) : Option (Int32 × (Nat → Int32) × (Nat → Int32)) := if (22 : Int32) ≤ y2 then (some ((1 : Int32), v8_sizes, v8_coefficients)) else (p_in y2 22 (p_b2 (f_X8_setInDraft v8_coefficients y2 (v0_totals (Int32.toNatClampNeg y2))) (fun r_3 v8_coefficients_4 => if r_3 = 0 then (some ((0 : Int32), v8_sizes, v8_coefficients_4)) else (K_10 v8_sizes v8_coefficients_4 (y2 + (1 : Int32))))))
def f_X0_draftsTotals_10 (v0_totals : Nat → Int64) : Nat → (Nat → Int32) → (Nat → Int32) → Int32 → Option (Int32 × (Nat → Int32) × (Nat → Int32))
  | 0 => fun _ _ _ => none
  | n + 1 => gf_X0_draftsTotals_10 (f_X0_draftsTotals_10 v0_totals n) v0_totals
def f_X0_draftsTotals (v8_sizes : Nat → Int32) (v8_coefficients : Nat → Int32) (v0_totals : Nat → Int64) (x1 : Int32) : Option (Int32 × (Nat → Int32) × (Nat → Int32)) := p_b2 (f_X8_beginDraft v8_sizes v8_coefficients x1) (fun v8_sizes_8 v8_coefficients_9 => (f_X0_draftsTotals_10 v0_totals 1000) v8_sizes_8 v8_coefficients_9 (0 : Int32))
set_option maxHeartbeats 4000000 in
set_option maxRecDepth 20000 in
theorem c_X0_draftsTotals (l : Launch) (D : va_G) (cyI cyJ : ClassId) (G a : Nat → Nat) (sz : Nat) (v0_totals : Nat → Int64) (v7_rows : Nat → Int32) (v7_lengths : Nat → Int32) (v7_sizes : Nat → Int32) (v7_rests : Nat → Int32) (v7_orders : Nat → Int32) (v6_hooks : Nat → Int32) (v6_lefts : Nat → Int32) (v6_heights : Nat → Int32) (v1_table : Nat → Int32) (v5_known : Nat → Int32) (v8_sizes : Nat → Int32) (v8_coefficients : Nat → Int32) (v8_undoneSums : Nat → Int32) (v8_undos : Int32) (v8_nextUndo : Int32) (v8_imageTaken : Int32) (x1 : Int32) (ro : Int32) (ov8_sizes : Nat → Int32) (ov8_coefficients : Nat → Int32) (hf : f_X0_draftsTotals v8_sizes v8_coefficients v0_totals x1 = some (ro, ov8_sizes, ov8_coefficients)) : xm_z l yX0_draftsTotals (Cond.code yX0_draftsTotals cX0_draftsTotals 3 (some .boolean) :: xg_tbl) { frames := 1, cells := 0, slots := 0, locals := 24 } D xcl [(cyI, .int), (cyJ, .long)] G sz [.ref (a 21), .int x1] (wd_X0 a cyI cyJ v0_totals v7_rows v7_lengths v7_sizes v7_rests v7_orders v6_hooks v6_lefts v6_heights v1_table v5_known v8_sizes v8_coefficients v8_undoneSums v8_undos v8_nextUndo v8_imageTaken) (wd_X0 a cyI cyJ v0_totals v7_rows v7_lengths v7_sizes v7_rests v7_orders v6_hooks v6_lefts v6_heights v1_table v5_known ov8_sizes ov8_coefficients v8_undoneSums v8_undos v8_nextUndo v8_imageTaken) ro := by
  refine xm_of_z (own := RX0) (by decide) rfl rfl (Nat.le_of_ble_eq_true rfl) ?_
  intro p e s m args below meth c ls Q A hQ hAe hin Cx hsz hP hD hS hl
  have Cx1 := Cx
  obtain ⟨⟨hx, hb, hml, hown, hts⟩, hr, hlocks, hK, hA, hT⟩ := Cx1
  have hl : lv_has ls 3 [(0, .ref (a 21)), (1, .int x1)] := hl
  obtain ⟨H, eH⟩ : ∃ H, H = s.heap := ⟨_, rfl⟩
  obtain ⟨locs, eL⟩ : ∃ L : List Loc, L = [] := ⟨_, rfl⟩
  rw [← eH] at hP
  have hS : va_S A s.heap H locs := by rw [eH, eL]; exact hS
  suffices hgo : W p l e { frames := 1, cells := 0, slots := 0, locals := 24 } s m args below meth c H locs 0 0 Q (F0 m 0 ls []) by rw [eH, eL] at hgo; exact hgo
  clear eH eL
  unfold f_X0_draftsTotals at hf
  have w_10 : ∀ (n_10 : Nat) (v8_sizes : Nat → Int32) (v8_coefficients : Nat → Int32) (y2 : Int32) (H : Heap) (locs : List Loc) (ls : Array Slot), (f_X0_draftsTotals_10 v0_totals) n_10 v8_sizes v8_coefficients y2 = some (ro, ov8_sizes, ov8_coefficients) → va_P D xcl (wd_X0 a cyI cyJ v0_totals v7_rows v7_lengths v7_sizes v7_rests v7_orders v6_hooks v6_lefts v6_heights v1_table v5_known v8_sizes v8_coefficients v8_undoneSums v8_undos v8_nextUndo v8_imageTaken) H → va_D A (wd_X0 a cyI cyJ v0_totals v7_rows v7_lengths v7_sizes v7_rests v7_orders v6_hooks v6_lefts v6_heights v1_table v5_known v8_sizes v8_coefficients v8_undoneSums v8_undos v8_nextUndo v8_imageTaken) → va_S A s.heap H locs → lv_has ls 3 [(0, .ref (a 21)), (2, .int y2)] → W p l e { frames := 1, cells := 0, slots := 0, locals := 24 } s m args below meth c H locs 0 0 Q (F0 m 10 ls []) := by
    intro n_10
    induction n_10 with
    | zero => intro v8_sizes v8_coefficients y2 H locs ls hf; exact absurd hf (by intro h9; cases h9)
    | succ n_10 w_10 =>
      intro v8_sizes v8_coefficients y2 H locs ls hf hP hD hS hl
      have hf : gf_X0_draftsTotals_10 ((f_X0_draftsTotals_10 v0_totals) n_10) v0_totals v8_sizes v8_coefficients y2 = some (ro, ov8_sizes, ov8_coefficients) := hf
      unfold gf_X0_draftsTotals_10 at hf
      refine lv_iload_n hx hb dX0_draftsTotals_10 rfl (lv_at hl 1 rfl) ?_
      refine lv_bipush (v := (22 : Int32)) hx hb dX0_draftsTotals_11 (by decide) ?_
      refine lv_icmp_ge (tgt := 41) hx hb dX0_draftsTotals_13 (by decide) (fun hc_11 => ?_) (fun hc_11 => ?_)
      · have hf := pe_t hf hc_11
        refine lv_iconst (v := (1 : Int32)) hx hb dX0_draftsTotals_41 (by decide) ?_
        obtain ⟨rfl, rfl, rfl⟩ := po_3 hf
        rw [← hQ]; exact xe_zret Cx rfl rfl hP hD hS dX0_draftsTotals_42
      · have hf := pe_f hf hc_11
        refine lv_aload_n hx hb dX0_draftsTotals_16 rfl (lv_at hl 0 rfl) ?_
        refine va_get (ci := 0) (v := .ref (a 17)) hx hb hts wX0_in hown hK hP 0 rfl rfl 4 (by decide) (hts _ mw_2_20) (fun _ h9 => h9) rfl dX0_draftsTotals_17 ?_
        refine lv_iload_n hx hb dX0_draftsTotals_20 rfl (lv_at hl 1 rfl) ?_
        refine lv_aload_n hx hb dX0_draftsTotals_21 rfl (lv_at hl 0 rfl) ?_
        refine va_get (ci := 0) (v := .ref (a 22)) hx hb hts wX0_in hown hK hP 0 rfl rfl 5 (by decide) (hts _ mw_2_21) (fun _ h9 => h9) rfl dX0_draftsTotals_22 ?_
        refine lv_iload_n hx hb dX0_draftsTotals_25 rfl (lv_at hl 1 rfl) ?_
        obtain ⟨hi_12, hf⟩ := pe_in hf
        refine va_lald hx hb hK hP 1 1 rfl rfl hi_12 dX0_draftsTotals_26 ?_
        obtain ⟨r_13, v8_coefficients_14, hk_15, hf⟩ := pe_2 hf
        refine xv_z (As := [.int y2, .long (v0_totals (Int32.toNatClampNeg y2))]) (rest := []) (q0 := 0) (ci := 8) Cx hP hD hS hl (pl_X0_X8 a cyI cyJ v0_totals v7_rows v7_lengths v7_sizes v7_rests v7_orders v6_hooks v6_lefts v6_heights v1_table v5_known v8_sizes v8_coefficients v8_undoneSums v8_undos v8_nextUndo v8_imageTaken v8_sizes v8_coefficients_14 v8_undoneSums v8_undos v8_nextUndo v8_imageTaken) (c_X8_setInDraft l D cyI cyJ G a H.size v8_sizes v8_coefficients v8_undoneSums v8_undos v8_nextUndo v8_imageTaken y2 (v0_totals (Int32.toNatClampNeg y2)) r_13 v8_coefficients_14 hk_15) pk_X8_setInDraft mw_3_95 ⟨rfl, rfl, Nat.le_of_ble_eq_true rfl, Nat.le_of_ble_eq_true rfl⟩ rfl rfl rfl rfl rfl (Nat.le_of_ble_eq_true rfl) ⟨Nat.le_of_ble_eq_true rfl, Nat.le_of_ble_eq_true rfl⟩ dX0_draftsTotals_27 (fun H locs hn_16 hP hD hS => ?_)
        refine lv_if_ne (tgt := 35) hx hb dX0_draftsTotals_30 (by decide) (fun hc_17 => ?_) (fun hc_17 => ?_)
        · have hf := pe_f hf hc_17
          refine lv_iinc (v := (y2 + (1 : Int32))) (lv' := [(2, .int (y2 + (1 : Int32))), (0, .ref (a 21))]) hx hb dX0_draftsTotals_35 hl (k := 1) rfl rfl (by decide) rfl (fun ls hl => ?_)
          refine lv_goto (tgt := 10) hx hb dX0_draftsTotals_38 (by decide) ?_
          exact w_10 v8_sizes v8_coefficients_14 (y2 + (1 : Int32)) H locs ls hf hP hD hS (lv_sub hl [1, 0] rfl)
        · have hf := pe_t hf hc_17
          refine lv_iconst (v := (0 : Int32)) hx hb dX0_draftsTotals_33 (by decide) ?_
          obtain ⟨rfl, rfl, rfl⟩ := po_3 hf
          rw [← hQ]; exact xe_zret Cx rfl rfl hP hD hS dX0_draftsTotals_34
  refine lv_aload_n hx hb dX0_draftsTotals_0 rfl (lv_at hl 0 rfl) ?_
  refine va_get (ci := 0) (v := .ref (a 17)) hx hb hts wX0_in hown hK hP 0 rfl rfl 4 (by decide) (hts _ mw_2_20) (fun _ h9 => h9) rfl dX0_draftsTotals_1 ?_
  refine lv_iload_n hx hb dX0_draftsTotals_4 rfl (lv_at hl 1 rfl) ?_
  obtain ⟨v8_sizes_18, v8_coefficients_19, hk_20, hf⟩ := pe_2 hf
  refine xv_v (As := [.int x1]) (rest := []) (q0 := 0) (ci := 8) Cx hP hD hS hl (pl_X0_X8 a cyI cyJ v0_totals v7_rows v7_lengths v7_sizes v7_rests v7_orders v6_hooks v6_lefts v6_heights v1_table v5_known v8_sizes v8_coefficients v8_undoneSums v8_undos v8_nextUndo v8_imageTaken v8_sizes_18 v8_coefficients_19 v8_undoneSums v8_undos v8_nextUndo v8_imageTaken) (c_X8_beginDraft l D cyI cyJ G a H.size v8_sizes v8_coefficients v8_undoneSums v8_undos v8_nextUndo v8_imageTaken x1 v8_sizes_18 v8_coefficients_19 hk_20) pk_X8_beginDraft mw_3_94 ⟨rfl, rfl, Nat.le_of_ble_eq_true rfl, Nat.le_of_ble_eq_true rfl⟩ rfl rfl rfl rfl rfl (Nat.le_of_ble_eq_true rfl) ⟨Nat.le_of_ble_eq_true rfl, Nat.le_of_ble_eq_true rfl⟩ dX0_draftsTotals_5 (fun H locs hP hD hS => ?_)
  refine lv_iconst (v := (0 : Int32)) hx hb dX0_draftsTotals_8 (by decide) ?_
  refine lv_istore_n (lv' := [(2, .int (0 : Int32)), (0, .ref (a 21)), (1, .int x1)]) hx hb dX0_draftsTotals_9 rfl hl (by decide) rfl (fun ls hl => ?_)
  exact w_10 1000 v8_sizes_18 v8_coefficients_19 (0 : Int32) H locs ls hf hP hD hS (lv_sub hl [1, 0] rfl)
def gf_X0_draftsPlus_7 (K_7 : (Nat → Int32) → (Nat → Int32) → (Nat → Int64) → Int32 → Int32 → Int32 → Int32 → Option (Int32 × (Nat → Int32) × (Nat → Int32) × (Nat → Int64))) (v8_sizes : Nat → Int32) (v8_coefficients : Nat → Int32) (v0_totals : Nat → Int64) (y1 : Int32) (y2 : Int32) (y3 : Int32) (y4 : Int32) : Option (Int32 × (Nat → Int32) × (Nat → Int32) × (Nat → Int64)) := if (22 : Int32) ≤ y4 then (p_b1 (f_X8_sizeOf v8_sizes y1) (fun r_2 => p_b3 (f_X0_draftsTotals v8_sizes v8_coefficients v0_totals r_2) (fun r_4 v8_sizes_5 v8_coefficients_6 => some (r_4, v8_sizes_5, v8_coefficients_6, v0_totals)))) else (p_b1 (f_X8_at v8_coefficients y1 y4) (fun r_9 => p_b1 (f_X8_at v8_coefficients y2 y4) (fun r_11 => p_b1 (f_X0_add v0_totals y4 (Int32.toInt64 (r_9 + (y3 * r_11)))) (fun v0_totals_13 => K_7 v8_sizes v8_coefficients v0_totals_13 y1 y2 y3 (y4 + (1 : Int32))))))
def f_X0_draftsPlus_7 : Nat → (Nat → Int32) → (Nat → Int32) → (Nat → Int64) → Int32 → Int32 → Int32 → Int32 → Option (Int32 × (Nat → Int32) × (Nat → Int32) × (Nat → Int64))
  | 0 => fun _ _ _ _ _ _ _ => none
  | n + 1 => gf_X0_draftsPlus_7 (f_X0_draftsPlus_7 n)
def f_X0_draftsPlus (v8_sizes : Nat → Int32) (v8_coefficients : Nat → Int32) (v0_totals : Nat → Int64) (x1 : Int32) (x2 : Int32) (x3 : Int32) : Option (Int32 × (Nat → Int32) × (Nat → Int32) × (Nat → Int64)) := p_b1 (f_X0_begin v0_totals) (fun v0_totals_15 => (f_X0_draftsPlus_7 1000) v8_sizes v8_coefficients v0_totals_15 x1 x2 x3 (0 : Int32))
set_option maxHeartbeats 4000000 in
set_option maxRecDepth 20000 in
theorem c_X0_draftsPlus (l : Launch) (D : va_G) (cyI cyJ : ClassId) (G a : Nat → Nat) (sz : Nat) (v0_totals : Nat → Int64) (v7_rows : Nat → Int32) (v7_lengths : Nat → Int32) (v7_sizes : Nat → Int32) (v7_rests : Nat → Int32) (v7_orders : Nat → Int32) (v6_hooks : Nat → Int32) (v6_lefts : Nat → Int32) (v6_heights : Nat → Int32) (v1_table : Nat → Int32) (v5_known : Nat → Int32) (v8_sizes : Nat → Int32) (v8_coefficients : Nat → Int32) (v8_undoneSums : Nat → Int32) (v8_undos : Int32) (v8_nextUndo : Int32) (v8_imageTaken : Int32) (x1 : Int32) (x2 : Int32) (x3 : Int32) (ro : Int32) (ov8_sizes : Nat → Int32) (ov8_coefficients : Nat → Int32) (ov0_totals : Nat → Int64) (hf : f_X0_draftsPlus v8_sizes v8_coefficients v0_totals x1 x2 x3 = some (ro, ov8_sizes, ov8_coefficients, ov0_totals)) : xm_z l yX0_draftsPlus (Cond.code yX0_draftsPlus cX0_draftsPlus 5 (some .boolean) :: xg_tbl) { frames := 2, cells := 0, slots := 0, locals := 46 } D xcl [(cyI, .int), (cyJ, .long)] G sz [.ref (a 21), .int x1, .int x2, .int x3] (wd_X0 a cyI cyJ v0_totals v7_rows v7_lengths v7_sizes v7_rests v7_orders v6_hooks v6_lefts v6_heights v1_table v5_known v8_sizes v8_coefficients v8_undoneSums v8_undos v8_nextUndo v8_imageTaken) (wd_X0 a cyI cyJ ov0_totals v7_rows v7_lengths v7_sizes v7_rests v7_orders v6_hooks v6_lefts v6_heights v1_table v5_known ov8_sizes ov8_coefficients v8_undoneSums v8_undos v8_nextUndo v8_imageTaken) ro := by
  refine xm_of_z (own := RX0) (by decide) rfl rfl (Nat.le_of_ble_eq_true rfl) ?_
  intro p e s m args below meth c ls Q A hQ hAe hin Cx hsz hP hD hS hl
  have Cx1 := Cx
  obtain ⟨⟨hx, hb, hml, hown, hts⟩, hr, hlocks, hK, hA, hT⟩ := Cx1
  have hl : lv_has ls 5 [(0, .ref (a 21)), (1, .int x1), (2, .int x2), (3, .int x3)] := hl
  obtain ⟨H, eH⟩ : ∃ H, H = s.heap := ⟨_, rfl⟩
  obtain ⟨locs, eL⟩ : ∃ L : List Loc, L = [] := ⟨_, rfl⟩
  rw [← eH] at hP
  have hS : va_S A s.heap H locs := by rw [eH, eL]; exact hS
  suffices hgo : W p l e { frames := 2, cells := 0, slots := 0, locals := 46 } s m args below meth c H locs 0 0 Q (F0 m 0 ls []) by rw [eH, eL] at hgo; exact hgo
  clear eH eL
  unfold f_X0_draftsPlus at hf
  have w_7 : ∀ (n_7 : Nat) (v8_sizes : Nat → Int32) (v8_coefficients : Nat → Int32) (v0_totals : Nat → Int64) (y1 : Int32) (y2 : Int32) (y3 : Int32) (y4 : Int32) (H : Heap) (locs : List Loc) (ls : Array Slot), f_X0_draftsPlus_7 n_7 v8_sizes v8_coefficients v0_totals y1 y2 y3 y4 = some (ro, ov8_sizes, ov8_coefficients, ov0_totals) → va_P D xcl (wd_X0 a cyI cyJ v0_totals v7_rows v7_lengths v7_sizes v7_rests v7_orders v6_hooks v6_lefts v6_heights v1_table v5_known v8_sizes v8_coefficients v8_undoneSums v8_undos v8_nextUndo v8_imageTaken) H → va_D A (wd_X0 a cyI cyJ v0_totals v7_rows v7_lengths v7_sizes v7_rests v7_orders v6_hooks v6_lefts v6_heights v1_table v5_known v8_sizes v8_coefficients v8_undoneSums v8_undos v8_nextUndo v8_imageTaken) → va_S A s.heap H locs → lv_has ls 5 [(0, .ref (a 21)), (1, .int y1), (2, .int y2), (3, .int y3), (4, .int y4)] → W p l e { frames := 2, cells := 0, slots := 0, locals := 46 } s m args below meth c H locs 0 0 Q (F0 m 7 ls []) := by
    intro n_7
    induction n_7 with
    | zero => intro v8_sizes v8_coefficients v0_totals y1 y2 y3 y4 H locs ls hf; exact absurd hf (by intro h9; cases h9)
    | succ n_7 w_7 =>
      intro v8_sizes v8_coefficients v0_totals y1 y2 y3 y4 H locs ls hf hP hD hS hl
      have hf : gf_X0_draftsPlus_7 (f_X0_draftsPlus_7 n_7) v8_sizes v8_coefficients v0_totals y1 y2 y3 y4 = some (ro, ov8_sizes, ov8_coefficients, ov0_totals) := hf
      unfold gf_X0_draftsPlus_7 at hf
      refine lv_iload hx hb dX0_draftsPlus_7 (lv_at hl 4 rfl) ?_
      refine lv_bipush (v := (22 : Int32)) hx hb dX0_draftsPlus_9 (by decide) ?_
      refine lv_icmp_ge (tgt := 50) hx hb dX0_draftsPlus_11 (by decide) (fun hc_17 => ?_) (fun hc_17 => ?_)
      · have hf := pe_t hf hc_17
        refine lv_aload_n hx hb dX0_draftsPlus_50 rfl (lv_at hl 0 rfl) ?_
        refine lv_aload_n hx hb dX0_draftsPlus_51 rfl (lv_at hl 0 rfl) ?_
        refine va_get (ci := 0) (v := .ref (a 17)) hx hb hts wX0_in hown hK hP 0 rfl rfl 4 (by decide) (hts _ mw_2_20) (fun _ h9 => h9) rfl dX0_draftsPlus_52 ?_
        refine lv_iload_n hx hb dX0_draftsPlus_55 rfl (lv_at hl 1 rfl) ?_
        obtain ⟨r_18, hk_19, hf⟩ := pe_1 hf
        refine xv_i (As := [.int y1]) (rest := [.ref (a 21)]) (q0 := 0) (ci := 8) Cx hP hD hS hl (pl_X0_X8 a cyI cyJ v0_totals v7_rows v7_lengths v7_sizes v7_rests v7_orders v6_hooks v6_lefts v6_heights v1_table v5_known v8_sizes v8_coefficients v8_undoneSums v8_undos v8_nextUndo v8_imageTaken v8_sizes v8_coefficients v8_undoneSums v8_undos v8_nextUndo v8_imageTaken) (c_X8_sizeOf l D cyI cyJ G a H.size v8_sizes v8_coefficients v8_undoneSums v8_undos v8_nextUndo v8_imageTaken y1 r_18 hk_19) pk_X8_sizeOf mw_3_89 ⟨rfl, rfl, Nat.le_of_ble_eq_true rfl, Nat.le_of_ble_eq_true rfl⟩ rfl rfl rfl rfl rfl (Nat.le_of_ble_eq_true rfl) ⟨Nat.le_of_ble_eq_true rfl, Nat.le_of_ble_eq_true rfl⟩ dX0_draftsPlus_56 (fun H locs hP hD hS => ?_)
        obtain ⟨r_20, v8_sizes_21, v8_coefficients_22, hk_23, hf⟩ := pe_3 hf
        refine xv_z (As := [.int r_18]) (rest := []) (q0 := 0) (ci := 0) Cx hP hD hS hl (pl_X0_X0 a cyI cyJ v0_totals v7_rows v7_lengths v7_sizes v7_rests v7_orders v6_hooks v6_lefts v6_heights v1_table v5_known v8_sizes v8_coefficients v8_undoneSums v8_undos v8_nextUndo v8_imageTaken v0_totals v7_rows v7_lengths v7_sizes v7_rests v7_orders v6_hooks v6_lefts v6_heights v1_table v5_known v8_sizes_21 v8_coefficients_22 v8_undoneSums v8_undos v8_nextUndo v8_imageTaken) (c_X0_draftsTotals l D cyI cyJ G a H.size v0_totals v7_rows v7_lengths v7_sizes v7_rests v7_orders v6_hooks v6_lefts v6_heights v1_table v5_known v8_sizes v8_coefficients v8_undoneSums v8_undos v8_nextUndo v8_imageTaken r_18 r_20 v8_sizes_21 v8_coefficients_22 hk_23) pk_X0_draftsTotals mw_3_90 ⟨rfl, rfl, Nat.le_of_ble_eq_true rfl, Nat.le_of_ble_eq_true rfl⟩ rfl rfl rfl rfl rfl (Nat.le_of_ble_eq_true rfl) ⟨Nat.le_of_ble_eq_true rfl, Nat.le_of_ble_eq_true rfl⟩ dX0_draftsPlus_59 (fun H locs hn_24 hP hD hS => ?_)
        obtain ⟨rfl, rfl, rfl, rfl⟩ := po_4 hf
        rw [← hQ]; exact xe_zret Cx rfl hn_24 hP hD hS dX0_draftsPlus_62
      · have hf := pe_f hf hc_17
        refine lv_aload_n hx hb dX0_draftsPlus_14 rfl (lv_at hl 0 rfl) ?_
        refine lv_iload hx hb dX0_draftsPlus_15 (lv_at hl 4 rfl) ?_
        refine lv_aload_n hx hb dX0_draftsPlus_17 rfl (lv_at hl 0 rfl) ?_
        refine va_get (ci := 0) (v := .ref (a 17)) hx hb hts wX0_in hown hK hP 0 rfl rfl 4 (by decide) (hts _ mw_2_20) (fun _ h9 => h9) rfl dX0_draftsPlus_18 ?_
        refine lv_iload_n hx hb dX0_draftsPlus_21 rfl (lv_at hl 1 rfl) ?_
        refine lv_iload hx hb dX0_draftsPlus_22 (lv_at hl 4 rfl) ?_
        obtain ⟨r_25, hk_26, hf⟩ := pe_1 hf
        refine xv_i (As := [.int y1, .int y4]) (rest := [.int y4, .ref (a 21)]) (q0 := 0) (ci := 8) Cx hP hD hS hl (pl_X0_X8 a cyI cyJ v0_totals v7_rows v7_lengths v7_sizes v7_rests v7_orders v6_hooks v6_lefts v6_heights v1_table v5_known v8_sizes v8_coefficients v8_undoneSums v8_undos v8_nextUndo v8_imageTaken v8_sizes v8_coefficients v8_undoneSums v8_undos v8_nextUndo v8_imageTaken) (c_X8_at l D cyI cyJ G a H.size v8_sizes v8_coefficients v8_undoneSums v8_undos v8_nextUndo v8_imageTaken y1 y4 r_25 hk_26) pk_X8_at mw_3_84 ⟨rfl, rfl, Nat.le_of_ble_eq_true rfl, Nat.le_of_ble_eq_true rfl⟩ rfl rfl rfl rfl rfl (Nat.le_of_ble_eq_true rfl) ⟨Nat.le_of_ble_eq_true rfl, Nat.le_of_ble_eq_true rfl⟩ dX0_draftsPlus_24 (fun H locs hP hD hS => ?_)
        refine lv_iload_n hx hb dX0_draftsPlus_27 rfl (lv_at hl 3 rfl) ?_
        refine lv_aload_n hx hb dX0_draftsPlus_28 rfl (lv_at hl 0 rfl) ?_
        refine va_get (ci := 0) (v := .ref (a 17)) hx hb hts wX0_in hown hK hP 0 rfl rfl 4 (by decide) (hts _ mw_2_20) (fun _ h9 => h9) rfl dX0_draftsPlus_29 ?_
        refine lv_iload_n hx hb dX0_draftsPlus_32 rfl (lv_at hl 2 rfl) ?_
        refine lv_iload hx hb dX0_draftsPlus_33 (lv_at hl 4 rfl) ?_
        obtain ⟨r_27, hk_28, hf⟩ := pe_1 hf
        refine xv_i (As := [.int y2, .int y4]) (rest := [.int y3, .int r_25, .int y4, .ref (a 21)]) (q0 := 0) (ci := 8) Cx hP hD hS hl (pl_X0_X8 a cyI cyJ v0_totals v7_rows v7_lengths v7_sizes v7_rests v7_orders v6_hooks v6_lefts v6_heights v1_table v5_known v8_sizes v8_coefficients v8_undoneSums v8_undos v8_nextUndo v8_imageTaken v8_sizes v8_coefficients v8_undoneSums v8_undos v8_nextUndo v8_imageTaken) (c_X8_at l D cyI cyJ G a H.size v8_sizes v8_coefficients v8_undoneSums v8_undos v8_nextUndo v8_imageTaken y2 y4 r_27 hk_28) pk_X8_at mw_3_84 ⟨rfl, rfl, Nat.le_of_ble_eq_true rfl, Nat.le_of_ble_eq_true rfl⟩ rfl rfl rfl rfl rfl (Nat.le_of_ble_eq_true rfl) ⟨Nat.le_of_ble_eq_true rfl, Nat.le_of_ble_eq_true rfl⟩ dX0_draftsPlus_35 (fun H locs hP hD hS => ?_)
        refine lv_imul hx hb dX0_draftsPlus_38 ?_
        refine lv_iadd hx hb dX0_draftsPlus_39 ?_
        refine lv_i2l (v := Int32.toInt64 (r_25 + (y3 * r_27))) hx hb dX0_draftsPlus_40 rfl ?_
        obtain ⟨v0_totals_29, hk_30, hf⟩ := pe_1 hf
        refine xv_v (As := [.int y4, .long (Int32.toInt64 (r_25 + (y3 * r_27)))]) (rest := []) (q0 := 0) (ci := 0) Cx hP hD hS hl (pl_X0_X0 a cyI cyJ v0_totals v7_rows v7_lengths v7_sizes v7_rests v7_orders v6_hooks v6_lefts v6_heights v1_table v5_known v8_sizes v8_coefficients v8_undoneSums v8_undos v8_nextUndo v8_imageTaken v0_totals_29 v7_rows v7_lengths v7_sizes v7_rests v7_orders v6_hooks v6_lefts v6_heights v1_table v5_known v8_sizes v8_coefficients v8_undoneSums v8_undos v8_nextUndo v8_imageTaken) (c_X0_add l D cyI cyJ G a H.size v0_totals v7_rows v7_lengths v7_sizes v7_rests v7_orders v6_hooks v6_lefts v6_heights v1_table v5_known v8_sizes v8_coefficients v8_undoneSums v8_undos v8_nextUndo v8_imageTaken y4 (Int32.toInt64 (r_25 + (y3 * r_27))) v0_totals_29 hk_30) pk_X0_add mw_3_85 ⟨rfl, rfl, Nat.le_of_ble_eq_true rfl, Nat.le_of_ble_eq_true rfl⟩ rfl rfl rfl rfl rfl (Nat.le_of_ble_eq_true rfl) ⟨Nat.le_of_ble_eq_true rfl, Nat.le_of_ble_eq_true rfl⟩ dX0_draftsPlus_41 (fun H locs hP hD hS => ?_)
        refine lv_iinc (v := (y4 + (1 : Int32))) (lv' := [(4, .int (y4 + (1 : Int32))), (0, .ref (a 21)), (1, .int y1), (2, .int y2), (3, .int y3)]) hx hb dX0_draftsPlus_44 hl (k := 4) rfl rfl (by decide) rfl (fun ls hl => ?_)
        refine lv_goto (tgt := 7) hx hb dX0_draftsPlus_47 (by decide) ?_
        exact w_7 v8_sizes v8_coefficients v0_totals_29 y1 y2 y3 (y4 + (1 : Int32)) H locs ls hf hP hD hS (lv_sub hl [1, 2, 3, 4, 0] rfl)
  refine lv_aload_n hx hb dX0_draftsPlus_0 rfl (lv_at hl 0 rfl) ?_
  obtain ⟨v0_totals_31, hk_32, hf⟩ := pe_1 hf
  refine xv_v (As := []) (rest := []) (q0 := 0) (ci := 0) Cx hP hD hS hl (pl_X0_X0 a cyI cyJ v0_totals v7_rows v7_lengths v7_sizes v7_rests v7_orders v6_hooks v6_lefts v6_heights v1_table v5_known v8_sizes v8_coefficients v8_undoneSums v8_undos v8_nextUndo v8_imageTaken v0_totals_31 v7_rows v7_lengths v7_sizes v7_rests v7_orders v6_hooks v6_lefts v6_heights v1_table v5_known v8_sizes v8_coefficients v8_undoneSums v8_undos v8_nextUndo v8_imageTaken) (c_X0_begin l D cyI cyJ G a H.size v0_totals v7_rows v7_lengths v7_sizes v7_rests v7_orders v6_hooks v6_lefts v6_heights v1_table v5_known v8_sizes v8_coefficients v8_undoneSums v8_undos v8_nextUndo v8_imageTaken v0_totals_31 hk_32) pk_X0_begin mw_3_80 ⟨rfl, rfl, Nat.le_of_ble_eq_true rfl, Nat.le_of_ble_eq_true rfl⟩ rfl rfl rfl rfl rfl (Nat.le_of_ble_eq_true rfl) ⟨Nat.le_of_ble_eq_true rfl, Nat.le_of_ble_eq_true rfl⟩ dX0_draftsPlus_1 (fun H locs hP hD hS => ?_)
  refine lv_iconst (v := (0 : Int32)) hx hb dX0_draftsPlus_4 (by decide) ?_
  refine lv_istore (lv' := [(4, .int (0 : Int32)), (0, .ref (a 21)), (1, .int x1), (2, .int x2), (3, .int x3)]) hx hb dX0_draftsPlus_5 hl (by decide) rfl (fun ls hl => ?_)
  exact w_7 1000 v8_sizes v8_coefficients v0_totals_31 x1 x2 x3 (0 : Int32) H locs ls hf hP hD hS (lv_sub hl [1, 2, 3, 4, 0] rfl)
def gf_X0_addProduct_10 (K_10 : (Nat → Int32) → (Nat → Int64) → Int32 → Int32 → Int32 → Int64 → Int32 → Option ((Nat → Int32) × (Nat → Int64))) (v7_orders : Nat → Int32) (v1_table : Nat → Int32) (v5_known : Nat → Int32) (v0_totals : Nat → Int64) (y1 : Int32) (y2 : Int32) (y3 : Int32) (y4 : Int64) (y6 : Int32) : Option ((Nat → Int32) × (Nat → Int64)) := p_b1 (f_X7_countOf y1) (fun r_1 => if r_1 ≤ y6 then (some (v5_known, v0_totals)) else (p_b2 (f_X5_atPlaces v7_orders v1_table v5_known y1 y2 y3 y6) (fun r_4 v5_known_5 => p_b1 (f_X0_add v0_totals y6 (y4 * (Int32.toInt64 r_4))) (fun v0_totals_7 => K_10 v5_known_5 v0_totals_7 y1 y2 y3 y4 (y6 + (1 : Int32))))))
def f_X0_addProduct_10 (v7_orders : Nat → Int32) (v1_table : Nat → Int32) : Nat → (Nat → Int32) → (Nat → Int64) → Int32 → Int32 → Int32 → Int64 → Int32 → Option ((Nat → Int32) × (Nat → Int64))
  | 0 => fun _ _ _ _ _ _ _ => none
  | n + 1 => gf_X0_addProduct_10 (f_X0_addProduct_10 v7_orders v1_table n) v7_orders v1_table
def f_X0_addProduct (v7_orders : Nat → Int32) (v1_table : Nat → Int32) (v5_known : Nat → Int32) (v0_totals : Nat → Int64) (x1 : Int32) (x2 : Int32) (x3 : Int32) (x4 : Int64) : Option ((Nat → Int32) × (Nat → Int64)) := if (lg_cmp x4 (0 : Int64)) = 0 then (some (v5_known, v0_totals)) else ((f_X0_addProduct_10 v7_orders v1_table 1000) v5_known v0_totals x1 x2 x3 x4 (0 : Int32))
set_option maxHeartbeats 4000000 in
set_option maxRecDepth 20000 in
theorem c_X0_addProduct (l : Launch) (D : va_G) (cyI cyJ : ClassId) (G a : Nat → Nat) (sz : Nat) (v0_totals : Nat → Int64) (v7_rows : Nat → Int32) (v7_lengths : Nat → Int32) (v7_sizes : Nat → Int32) (v7_rests : Nat → Int32) (v7_orders : Nat → Int32) (v6_hooks : Nat → Int32) (v6_lefts : Nat → Int32) (v6_heights : Nat → Int32) (v1_table : Nat → Int32) (v5_known : Nat → Int32) (v8_sizes : Nat → Int32) (v8_coefficients : Nat → Int32) (v8_undoneSums : Nat → Int32) (v8_undos : Int32) (v8_nextUndo : Int32) (v8_imageTaken : Int32) (x1 : Int32) (x2 : Int32) (x3 : Int32) (x4 : Int64) (ov5_known : Nat → Int32) (ov0_totals : Nat → Int64) (hf : f_X0_addProduct v7_orders v1_table v5_known v0_totals x1 x2 x3 x4 = some (ov5_known, ov0_totals)) : xm_v l yX0_addProduct (Cond.code yX0_addProduct cX0_addProduct 7 none :: xg_tbl) { frames := 4, cells := 0, slots := 0, locals := 99 } D xcl [(cyI, .int), (cyJ, .long)] G sz [.ref (a 21), .int x1, .int x2, .int x3, .long x4] (wd_X0 a cyI cyJ v0_totals v7_rows v7_lengths v7_sizes v7_rests v7_orders v6_hooks v6_lefts v6_heights v1_table v5_known v8_sizes v8_coefficients v8_undoneSums v8_undos v8_nextUndo v8_imageTaken) (wd_X0 a cyI cyJ ov0_totals v7_rows v7_lengths v7_sizes v7_rests v7_orders v6_hooks v6_lefts v6_heights v1_table ov5_known v8_sizes v8_coefficients v8_undoneSums v8_undos v8_nextUndo v8_imageTaken) := by
  refine xm_of_v (own := RX0) (by decide) rfl rfl (Nat.le_of_ble_eq_true rfl) ?_
  intro p e s m args below meth c ls Q A hQ hAe hin Cx hsz hP hD hS hl
  have Cx1 := Cx
  obtain ⟨⟨hx, hb, hml, hown, hts⟩, hr, hlocks, hK, hA, hT⟩ := Cx1
  have hl : lv_has ls 7 [(0, .ref (a 21)), (1, .int x1), (2, .int x2), (3, .int x3), (4, .long x4)] := hl
  obtain ⟨H, eH⟩ : ∃ H, H = s.heap := ⟨_, rfl⟩
  obtain ⟨locs, eL⟩ : ∃ L : List Loc, L = [] := ⟨_, rfl⟩
  rw [← eH] at hP
  have hS : va_S A s.heap H locs := by rw [eH, eL]; exact hS
  suffices hgo : W p l e { frames := 4, cells := 0, slots := 0, locals := 99 } s m args below meth c H locs 0 0 Q (F0 m 0 ls []) by rw [eH, eL] at hgo; exact hgo
  clear eH eL
  unfold f_X0_addProduct at hf
  have w_10 : ∀ (n_10 : Nat) (v5_known : Nat → Int32) (v0_totals : Nat → Int64) (y1 : Int32) (y2 : Int32) (y3 : Int32) (y4 : Int64) (y6 : Int32) (H : Heap) (locs : List Loc) (ls : Array Slot), (f_X0_addProduct_10 v7_orders v1_table) n_10 v5_known v0_totals y1 y2 y3 y4 y6 = some (ov5_known, ov0_totals) → va_P D xcl (wd_X0 a cyI cyJ v0_totals v7_rows v7_lengths v7_sizes v7_rests v7_orders v6_hooks v6_lefts v6_heights v1_table v5_known v8_sizes v8_coefficients v8_undoneSums v8_undos v8_nextUndo v8_imageTaken) H → va_D A (wd_X0 a cyI cyJ v0_totals v7_rows v7_lengths v7_sizes v7_rests v7_orders v6_hooks v6_lefts v6_heights v1_table v5_known v8_sizes v8_coefficients v8_undoneSums v8_undos v8_nextUndo v8_imageTaken) → va_S A s.heap H locs → lv_has ls 7 [(0, .ref (a 21)), (1, .int y1), (2, .int y2), (3, .int y3), (4, .long y4), (6, .int y6)] → W p l e { frames := 4, cells := 0, slots := 0, locals := 99 } s m args below meth c H locs 0 0 Q (F0 m 10 ls []) := by
    intro n_10
    induction n_10 with
    | zero => intro v5_known v0_totals y1 y2 y3 y4 y6 H locs ls hf; exact absurd hf (by intro h9; cases h9)
    | succ n_10 w_10 =>
      intro v5_known v0_totals y1 y2 y3 y4 y6 H locs ls hf hP hD hS hl
      have hf : gf_X0_addProduct_10 ((f_X0_addProduct_10 v7_orders v1_table) n_10) v7_orders v1_table v5_known v0_totals y1 y2 y3 y4 y6 = some (ov5_known, ov0_totals) := hf
      unfold gf_X0_addProduct_10 at hf
      refine lv_iload hx hb dX0_addProduct_10 (lv_at hl 5 rfl) ?_
      refine lv_aload_n hx hb dX0_addProduct_12 rfl (lv_at hl 0 rfl) ?_
      refine va_get (ci := 0) (v := .ref (a 2)) hx hb hts wX0_in hown hK hP 0 rfl rfl 0 (by decide) (hts _ mw_2_16) (fun _ h9 => h9) rfl dX0_addProduct_13 ?_
      refine lv_iload_n hx hb dX0_addProduct_16 rfl (lv_at hl 1 rfl) ?_
      obtain ⟨r_10, hk_11, hf⟩ := pe_1 hf
      refine xv_i (As := [.int y1]) (rest := [.int y6]) (q0 := 0) (ci := 7) Cx hP hD hS hl (pl_X0_X7 a cyI cyJ v0_totals v7_rows v7_lengths v7_sizes v7_rests v7_orders v6_hooks v6_lefts v6_heights v1_table v5_known v8_sizes v8_coefficients v8_undoneSums v8_undos v8_nextUndo v8_imageTaken v7_rows v7_lengths v7_sizes v7_rests v7_orders) (c_X7_countOf l D cyI cyJ G a H.size v7_rows v7_lengths v7_sizes v7_rests v7_orders y1 r_10 hk_11) pk_X7_countOf mw_3_105 ⟨rfl, rfl, Nat.le_of_ble_eq_true rfl, Nat.le_of_ble_eq_true rfl⟩ rfl rfl rfl rfl rfl (Nat.le_of_ble_eq_true rfl) ⟨Nat.le_of_ble_eq_true rfl, Nat.le_of_ble_eq_true rfl⟩ dX0_addProduct_17 (fun H locs hP hD hS => ?_)
      refine lv_icmp_ge (tgt := 51) hx hb dX0_addProduct_20 (by decide) (fun hc_12 => ?_) (fun hc_12 => ?_)
      · have hf := pe_t hf hc_12
        obtain ⟨rfl, rfl⟩ := po_2 hf
        rw [← hQ]; exact xe_vret Cx hP hD hS dX0_addProduct_51
      · have hf := pe_f hf hc_12
        refine lv_aload_n hx hb dX0_addProduct_23 rfl (lv_at hl 0 rfl) ?_
        refine lv_iload hx hb dX0_addProduct_24 (lv_at hl 5 rfl) ?_
        refine lv_lload hx hb dX0_addProduct_26 (lv_at hl 4 rfl) ?_
        refine lv_aload_n hx hb dX0_addProduct_28 rfl (lv_at hl 0 rfl) ?_
        refine va_get (ci := 0) (v := .ref (a 15)) hx hb hts wX0_in hown hK hP 0 rfl rfl 3 (by decide) (hts _ mw_2_19) (fun _ h9 => h9) rfl dX0_addProduct_29 ?_
        refine lv_iload_n hx hb dX0_addProduct_32 rfl (lv_at hl 1 rfl) ?_
        refine lv_iload_n hx hb dX0_addProduct_33 rfl (lv_at hl 2 rfl) ?_
        refine lv_iload_n hx hb dX0_addProduct_34 rfl (lv_at hl 3 rfl) ?_
        refine lv_iload hx hb dX0_addProduct_35 (lv_at hl 5 rfl) ?_
        obtain ⟨r_13, v5_known_14, hk_15, hf⟩ := pe_2 hf
        refine xv_i (As := [.int y1, .int y2, .int y3, .int y6]) (rest := [.long y4, .int y6, .ref (a 21)]) (q0 := 0) (ci := 5) Cx hP hD hS hl (pl_X0_X5 a cyI cyJ v0_totals v7_rows v7_lengths v7_sizes v7_rests v7_orders v6_hooks v6_lefts v6_heights v1_table v5_known v8_sizes v8_coefficients v8_undoneSums v8_undos v8_nextUndo v8_imageTaken v5_known_14 v1_table v7_rows v7_lengths v7_sizes v7_rests v7_orders) (c_X5_atPlaces l D cyI cyJ G a H.size v5_known v1_table v7_rows v7_lengths v7_sizes v7_rests v7_orders y1 y2 y3 y6 r_13 v5_known_14 hk_15) pk_X5_atPlaces mw_3_110 ⟨rfl, rfl, Nat.le_of_ble_eq_true rfl, Nat.le_of_ble_eq_true rfl⟩ rfl rfl rfl rfl rfl (Nat.le_of_ble_eq_true rfl) ⟨Nat.le_of_ble_eq_true rfl, Nat.le_of_ble_eq_true rfl⟩ dX0_addProduct_37 (fun H locs hP hD hS => ?_)
        refine lv_i2l (v := Int32.toInt64 r_13) hx hb dX0_addProduct_40 rfl ?_
        refine lv_lmul hx hb dX0_addProduct_41 ?_
        obtain ⟨v0_totals_16, hk_17, hf⟩ := pe_1 hf
        refine xv_v (As := [.int y6, .long (y4 * (Int32.toInt64 r_13))]) (rest := []) (q0 := 0) (ci := 0) Cx hP hD hS hl (pl_X0_X0 a cyI cyJ v0_totals v7_rows v7_lengths v7_sizes v7_rests v7_orders v6_hooks v6_lefts v6_heights v1_table v5_known_14 v8_sizes v8_coefficients v8_undoneSums v8_undos v8_nextUndo v8_imageTaken v0_totals_16 v7_rows v7_lengths v7_sizes v7_rests v7_orders v6_hooks v6_lefts v6_heights v1_table v5_known_14 v8_sizes v8_coefficients v8_undoneSums v8_undos v8_nextUndo v8_imageTaken) (c_X0_add l D cyI cyJ G a H.size v0_totals v7_rows v7_lengths v7_sizes v7_rests v7_orders v6_hooks v6_lefts v6_heights v1_table v5_known_14 v8_sizes v8_coefficients v8_undoneSums v8_undos v8_nextUndo v8_imageTaken y6 (y4 * (Int32.toInt64 r_13)) v0_totals_16 hk_17) pk_X0_add mw_3_85 ⟨rfl, rfl, Nat.le_of_ble_eq_true rfl, Nat.le_of_ble_eq_true rfl⟩ rfl rfl rfl rfl rfl (Nat.le_of_ble_eq_true rfl) ⟨Nat.le_of_ble_eq_true rfl, Nat.le_of_ble_eq_true rfl⟩ dX0_addProduct_42 (fun H locs hP hD hS => ?_)
        refine lv_iinc (v := (y6 + (1 : Int32))) (lv' := [(6, .int (y6 + (1 : Int32))), (0, .ref (a 21)), (1, .int y1), (2, .int y2), (3, .int y3), (4, .long y4)]) hx hb dX0_addProduct_45 hl (k := 5) rfl rfl (by decide) rfl (fun ls hl => ?_)
        refine lv_goto (tgt := 10) hx hb dX0_addProduct_48 (by decide) ?_
        exact w_10 v5_known_14 v0_totals_16 y1 y2 y3 y4 (y6 + (1 : Int32)) H locs ls hf hP hD hS (lv_sub hl [1, 2, 3, 4, 5, 0] rfl)
  refine lv_lload hx hb dX0_addProduct_0 (lv_at hl 4 rfl) ?_
  refine lv_lconst (v := (0 : Int64)) hx hb dX0_addProduct_2 (by decide) ?_
  refine W.lcmp hx hb dX0_addProduct_3 ?_
  refine lv_if_eq (tgt := 51) hx hb dX0_addProduct_4 (by decide) (fun hc_18 => ?_) (fun hc_18 => ?_)
  · have hf := pe_t hf hc_18
    obtain ⟨rfl, rfl⟩ := po_2 hf
    rw [← hQ]; exact xe_vret Cx hP hD hS dX0_addProduct_51
  · have hf := pe_f hf hc_18
    refine lv_iconst (v := (0 : Int32)) hx hb dX0_addProduct_7 (by decide) ?_
    refine lv_istore (lv' := [(6, .int (0 : Int32)), (0, .ref (a 21)), (1, .int x1), (2, .int x2), (3, .int x3), (4, .long x4)]) hx hb dX0_addProduct_8 hl (by decide) rfl (fun ls hl => ?_)
    exact w_10 1000 v5_known v0_totals x1 x2 x3 x4 (0 : Int32) H locs ls hf hP hD hS (lv_sub hl [1, 2, 3, 4, 5, 0] rfl)
def gf_X0_draftsTimes_64 (K_64 : (Nat → Int32) → (Nat → Int32) → (Nat → Int32) → (Nat → Int64) → Int32 → Int32 → Int32 → Int32 → Int32 → Option (Int32 × (Nat → Int32) × (Nat → Int32) × (Nat → Int32) × (Nat → Int64))) (K_16 : (Nat → Int32) → (Nat → Int32) → (Nat → Int32) → (Nat → Int64) → Int32 → Int32 → Int32 → Int32 → Option (Int32 × (Nat → Int32) × (Nat → Int32) × (Nat → Int32) × (Nat → Int64))) (v7_orders : Nat → Int32) (v1_table : Nat → Int32) (v5_known : Nat → Int32) (v8_sizes : Nat → Int32) (v8_coefficients : Nat → Int32) (v0_totals : Nat → Int64) (y1 : Int32) (y2 : Int32) (y3 : Int32) (y4 : Int32) (y5 : Int32) : Option (Int32 × (Nat → Int32) × (Nat → Int32) × (Nat → Int32) × (Nat → Int64)) := if y4 ≤ y5 then (K_16 v5_known v8_sizes v8_coefficients v0_totals y1 y2 y3 (y4 + (1 : Int32))) else (p_b1 (f_X8_at v8_coefficients y1 y4) (fun r_2 => p_b1 (f_X8_at v8_coefficients y2 y5) (fun r_4 => p_b1 (f_X8_at v8_coefficients y1 y5) (fun r_6 => p_b1 (f_X8_at v8_coefficients y2 y4) (fun r_8 => p_b2 (f_X0_addProduct v7_orders v1_table v5_known v0_totals y3 y4 y5 (((Int32.toInt64 r_2) * (Int32.toInt64 r_4)) + ((Int32.toInt64 r_6) * (Int32.toInt64 r_8)))) (fun v5_known_10 v0_totals_11 => K_64 v5_known_10 v8_sizes v8_coefficients v0_totals_11 y1 y2 y3 y4 (y5 + (1 : Int32))))))))
def f_X0_draftsTimes_64 (K_16 : (Nat → Int32) → (Nat → Int32) → (Nat → Int32) → (Nat → Int64) → Int32 → Int32 → Int32 → Int32 → Option (Int32 × (Nat → Int32) × (Nat → Int32) × (Nat → Int32) × (Nat → Int64))) (v7_orders : Nat → Int32) (v1_table : Nat → Int32) : Nat → (Nat → Int32) → (Nat → Int32) → (Nat → Int32) → (Nat → Int64) → Int32 → Int32 → Int32 → Int32 → Int32 → Option (Int32 × (Nat → Int32) × (Nat → Int32) × (Nat → Int32) × (Nat → Int64))
  | 0 => fun _ _ _ _ _ _ _ _ _ => none
  | n + 1 => gf_X0_draftsTimes_64 (f_X0_draftsTimes_64 K_16 v7_orders v1_table n) K_16 v7_orders v1_table
def gf_X0_draftsTimes_16 (K_16 : (Nat → Int32) → (Nat → Int32) → (Nat → Int32) → (Nat → Int64) → Int32 → Int32 → Int32 → Int32 → Option (Int32 × (Nat → Int32) × (Nat → Int32) × (Nat → Int32) × (Nat → Int64))) (v7_orders : Nat → Int32) (v1_table : Nat → Int32) (v5_known : Nat → Int32) (v8_sizes : Nat → Int32) (v8_coefficients : Nat → Int32) (v0_totals : Nat → Int64) (y1 : Int32) (y2 : Int32) (y3 : Int32) (y4 : Int32) : Option (Int32 × (Nat → Int32) × (Nat → Int32) × (Nat → Int32) × (Nat → Int64)) := p_b1 (f_X7_countOf y3) (fun r_13 => if r_13 ≤ y4 then (p_b3 (f_X0_draftsTotals v8_sizes v8_coefficients v0_totals y3) (fun r_16 v8_sizes_17 v8_coefficients_18 => some (r_16, v5_known, v8_sizes_17, v8_coefficients_18, v0_totals))) else (p_b1 (f_X8_at v8_coefficients y1 y4) (fun r_21 => p_b1 (f_X8_at v8_coefficients y2 y4) (fun r_23 => p_b2 (f_X0_addProduct v7_orders v1_table v5_known v0_totals y3 y4 y4 ((Int32.toInt64 r_21) * (Int32.toInt64 r_23))) (fun v5_known_25 v0_totals_26 => (f_X0_draftsTimes_64 K_16 v7_orders v1_table 1000) v5_known_25 v8_sizes v8_coefficients v0_totals_26 y1 y2 y3 y4 (0 : Int32))))))
def f_X0_draftsTimes_16 (v7_orders : Nat → Int32) (v1_table : Nat → Int32) : Nat → (Nat → Int32) → (Nat → Int32) → (Nat → Int32) → (Nat → Int64) → Int32 → Int32 → Int32 → Int32 → Option (Int32 × (Nat → Int32) × (Nat → Int32) × (Nat → Int32) × (Nat → Int64))
  | 0 => fun _ _ _ _ _ _ _ _ => none
  | n + 1 => gf_X0_draftsTimes_16 (f_X0_draftsTimes_16 v7_orders v1_table n) v7_orders v1_table
def f_X0_draftsTimes (v7_orders : Nat → Int32) (v1_table : Nat → Int32) (v5_known : Nat → Int32) (v8_sizes : Nat → Int32) (v8_coefficients : Nat → Int32) (v0_totals : Nat → Int64) (x1 : Int32) (x2 : Int32) : Option (Int32 × (Nat → Int32) × (Nat → Int32) × (Nat → Int32) × (Nat → Int64)) := p_b1 (f_X8_sizeOf v8_sizes x1) (fun r_28 => p_b1 (f_X0_begin v0_totals) (fun v0_totals_30 => (f_X0_draftsTimes_16 v7_orders v1_table 1000) v5_known v8_sizes v8_coefficients v0_totals_30 x1 x2 r_28 (0 : Int32)))
set_option maxHeartbeats 4000000 in
set_option maxRecDepth 20000 in
theorem c_X0_draftsTimes (l : Launch) (D : va_G) (cyI cyJ : ClassId) (G a : Nat → Nat) (sz : Nat) (v0_totals : Nat → Int64) (v7_rows : Nat → Int32) (v7_lengths : Nat → Int32) (v7_sizes : Nat → Int32) (v7_rests : Nat → Int32) (v7_orders : Nat → Int32) (v6_hooks : Nat → Int32) (v6_lefts : Nat → Int32) (v6_heights : Nat → Int32) (v1_table : Nat → Int32) (v5_known : Nat → Int32) (v8_sizes : Nat → Int32) (v8_coefficients : Nat → Int32) (v8_undoneSums : Nat → Int32) (v8_undos : Int32) (v8_nextUndo : Int32) (v8_imageTaken : Int32) (x1 : Int32) (x2 : Int32) (ro : Int32) (ov5_known : Nat → Int32) (ov8_sizes : Nat → Int32) (ov8_coefficients : Nat → Int32) (ov0_totals : Nat → Int64) (hf : f_X0_draftsTimes v7_orders v1_table v5_known v8_sizes v8_coefficients v0_totals x1 x2 = some (ro, ov5_known, ov8_sizes, ov8_coefficients, ov0_totals)) : xm_z l yX0_draftsTimes (Cond.code yX0_draftsTimes cX0_draftsTimes 8 (some .boolean) :: xg_tbl) { frames := 5, cells := 0, slots := 0, locals := 125 } D xcl [(cyI, .int), (cyJ, .long)] G sz [.ref (a 21), .int x1, .int x2] (wd_X0 a cyI cyJ v0_totals v7_rows v7_lengths v7_sizes v7_rests v7_orders v6_hooks v6_lefts v6_heights v1_table v5_known v8_sizes v8_coefficients v8_undoneSums v8_undos v8_nextUndo v8_imageTaken) (wd_X0 a cyI cyJ ov0_totals v7_rows v7_lengths v7_sizes v7_rests v7_orders v6_hooks v6_lefts v6_heights v1_table ov5_known ov8_sizes ov8_coefficients v8_undoneSums v8_undos v8_nextUndo v8_imageTaken) ro := by
  refine xm_of_z (own := RX0) (by decide) rfl rfl (Nat.le_of_ble_eq_true rfl) ?_
  intro p e s m args below meth c ls Q A hQ hAe hin Cx hsz hP hD hS hl
  have Cx1 := Cx
  obtain ⟨⟨hx, hb, hml, hown, hts⟩, hr, hlocks, hK, hA, hT⟩ := Cx1
  have hl : lv_has ls 8 [(0, .ref (a 21)), (1, .int x1), (2, .int x2)] := hl
  obtain ⟨H, eH⟩ : ∃ H, H = s.heap := ⟨_, rfl⟩
  obtain ⟨locs, eL⟩ : ∃ L : List Loc, L = [] := ⟨_, rfl⟩
  rw [← eH] at hP
  have hS : va_S A s.heap H locs := by rw [eH, eL]; exact hS
  suffices hgo : W p l e { frames := 5, cells := 0, slots := 0, locals := 125 } s m args below meth c H locs 0 0 Q (F0 m 0 ls []) by rw [eH, eL] at hgo; exact hgo
  clear eH eL
  unfold f_X0_draftsTimes at hf
  have w_16 : ∀ (n_16 : Nat) (v5_known : Nat → Int32) (v8_sizes : Nat → Int32) (v8_coefficients : Nat → Int32) (v0_totals : Nat → Int64) (y1 : Int32) (y2 : Int32) (y3 : Int32) (y4 : Int32) (H : Heap) (locs : List Loc) (ls : Array Slot), (f_X0_draftsTimes_16 v7_orders v1_table) n_16 v5_known v8_sizes v8_coefficients v0_totals y1 y2 y3 y4 = some (ro, ov5_known, ov8_sizes, ov8_coefficients, ov0_totals) → va_P D xcl (wd_X0 a cyI cyJ v0_totals v7_rows v7_lengths v7_sizes v7_rests v7_orders v6_hooks v6_lefts v6_heights v1_table v5_known v8_sizes v8_coefficients v8_undoneSums v8_undos v8_nextUndo v8_imageTaken) H → va_D A (wd_X0 a cyI cyJ v0_totals v7_rows v7_lengths v7_sizes v7_rests v7_orders v6_hooks v6_lefts v6_heights v1_table v5_known v8_sizes v8_coefficients v8_undoneSums v8_undos v8_nextUndo v8_imageTaken) → va_S A s.heap H locs → lv_has ls 8 [(0, .ref (a 21)), (1, .int y1), (2, .int y2), (3, .int y3), (4, .int y4)] → W p l e { frames := 5, cells := 0, slots := 0, locals := 125 } s m args below meth c H locs 0 0 Q (F0 m 16 ls []) := by
    intro n_16
    induction n_16 with
    | zero => intro v5_known v8_sizes v8_coefficients v0_totals y1 y2 y3 y4 H locs ls hf; exact absurd hf (by intro h9; cases h9)
    | succ n_16 w_16 =>
      intro v5_known v8_sizes v8_coefficients v0_totals y1 y2 y3 y4 H locs ls hf hP hD hS hl
      have hf : gf_X0_draftsTimes_16 ((f_X0_draftsTimes_16 v7_orders v1_table) n_16) v7_orders v1_table v5_known v8_sizes v8_coefficients v0_totals y1 y2 y3 y4 = some (ro, ov5_known, ov8_sizes, ov8_coefficients, ov0_totals) := hf
      unfold gf_X0_draftsTimes_16 at hf
      have w_64 : ∀ (n_64 : Nat) (v5_known : Nat → Int32) (v8_sizes : Nat → Int32) (v8_coefficients : Nat → Int32) (v0_totals : Nat → Int64) (y1 : Int32) (y2 : Int32) (y3 : Int32) (y4 : Int32) (y5 : Int32) (H : Heap) (locs : List Loc) (ls : Array Slot), (f_X0_draftsTimes_64 ((f_X0_draftsTimes_16 v7_orders v1_table) n_16) v7_orders v1_table) n_64 v5_known v8_sizes v8_coefficients v0_totals y1 y2 y3 y4 y5 = some (ro, ov5_known, ov8_sizes, ov8_coefficients, ov0_totals) → va_P D xcl (wd_X0 a cyI cyJ v0_totals v7_rows v7_lengths v7_sizes v7_rests v7_orders v6_hooks v6_lefts v6_heights v1_table v5_known v8_sizes v8_coefficients v8_undoneSums v8_undos v8_nextUndo v8_imageTaken) H → va_D A (wd_X0 a cyI cyJ v0_totals v7_rows v7_lengths v7_sizes v7_rests v7_orders v6_hooks v6_lefts v6_heights v1_table v5_known v8_sizes v8_coefficients v8_undoneSums v8_undos v8_nextUndo v8_imageTaken) → va_S A s.heap H locs → lv_has ls 8 [(0, .ref (a 21)), (1, .int y1), (2, .int y2), (3, .int y3), (4, .int y4), (5, .int y5)] → W p l e { frames := 5, cells := 0, slots := 0, locals := 125 } s m args below meth c H locs 0 0 Q (F0 m 64 ls []) := by
        intro n_64
        induction n_64 with
        | zero => intro v5_known v8_sizes v8_coefficients v0_totals y1 y2 y3 y4 y5 H locs ls hf; exact absurd hf (by intro h9; cases h9)
        | succ n_64 w_64 =>
          intro v5_known v8_sizes v8_coefficients v0_totals y1 y2 y3 y4 y5 H locs ls hf hP hD hS hl
          have hf : gf_X0_draftsTimes_64 ((f_X0_draftsTimes_64 ((f_X0_draftsTimes_16 v7_orders v1_table) n_16) v7_orders v1_table) n_64) ((f_X0_draftsTimes_16 v7_orders v1_table) n_16) v7_orders v1_table v5_known v8_sizes v8_coefficients v0_totals y1 y2 y3 y4 y5 = some (ro, ov5_known, ov8_sizes, ov8_coefficients, ov0_totals) := hf
          unfold gf_X0_draftsTimes_64 at hf
          refine lv_iload hx hb dX0_draftsTimes_64 (lv_at hl 5 rfl) ?_
          refine lv_iload hx hb dX0_draftsTimes_66 (lv_at hl 4 rfl) ?_
          refine lv_icmp_ge (tgt := 141) hx hb dX0_draftsTimes_68 (by decide) (fun hc_32 => ?_) (fun hc_32 => ?_)
          · have hf := pe_t hf hc_32
            refine lv_iinc (v := (y4 + (1 : Int32))) (lv' := [(4, .int (y4 + (1 : Int32))), (0, .ref (a 21)), (1, .int y1), (2, .int y2), (3, .int y3), (5, .int y5)]) hx hb dX0_draftsTimes_141 hl (k := 4) rfl rfl (by decide) rfl (fun ls hl => ?_)
            refine lv_goto (tgt := 16) hx hb dX0_draftsTimes_144 (by decide) ?_
            exact w_16 v5_known v8_sizes v8_coefficients v0_totals y1 y2 y3 (y4 + (1 : Int32)) H locs ls hf hP hD hS (lv_sub hl [1, 2, 3, 4, 0] rfl)
          · have hf := pe_f hf hc_32
            refine lv_aload_n hx hb dX0_draftsTimes_71 rfl (lv_at hl 0 rfl) ?_
            refine va_get (ci := 0) (v := .ref (a 17)) hx hb hts wX0_in hown hK hP 0 rfl rfl 4 (by decide) (hts _ mw_2_20) (fun _ h9 => h9) rfl dX0_draftsTimes_72 ?_
            refine lv_iload_n hx hb dX0_draftsTimes_75 rfl (lv_at hl 1 rfl) ?_
            refine lv_iload hx hb dX0_draftsTimes_76 (lv_at hl 4 rfl) ?_
            obtain ⟨r_33, hk_34, hf⟩ := pe_1 hf
            refine xv_i (As := [.int y1, .int y4]) (rest := []) (q0 := 0) (ci := 8) Cx hP hD hS hl (pl_X0_X8 a cyI cyJ v0_totals v7_rows v7_lengths v7_sizes v7_rests v7_orders v6_hooks v6_lefts v6_heights v1_table v5_known v8_sizes v8_coefficients v8_undoneSums v8_undos v8_nextUndo v8_imageTaken v8_sizes v8_coefficients v8_undoneSums v8_undos v8_nextUndo v8_imageTaken) (c_X8_at l D cyI cyJ G a H.size v8_sizes v8_coefficients v8_undoneSums v8_undos v8_nextUndo v8_imageTaken y1 y4 r_33 hk_34) pk_X8_at mw_3_84 ⟨rfl, rfl, Nat.le_of_ble_eq_true rfl, Nat.le_of_ble_eq_true rfl⟩ rfl rfl rfl rfl rfl (Nat.le_of_ble_eq_true rfl) ⟨Nat.le_of_ble_eq_true rfl, Nat.le_of_ble_eq_true rfl⟩ dX0_draftsTimes_78 (fun H locs hP hD hS => ?_)
            refine lv_i2l (v := Int32.toInt64 r_33) hx hb dX0_draftsTimes_81 rfl ?_
            refine lv_aload_n hx hb dX0_draftsTimes_82 rfl (lv_at hl 0 rfl) ?_
            refine va_get (ci := 0) (v := .ref (a 17)) hx hb hts wX0_in hown hK hP 0 rfl rfl 4 (by decide) (hts _ mw_2_20) (fun _ h9 => h9) rfl dX0_draftsTimes_83 ?_
            refine lv_iload_n hx hb dX0_draftsTimes_86 rfl (lv_at hl 2 rfl) ?_
            refine lv_iload hx hb dX0_draftsTimes_87 (lv_at hl 5 rfl) ?_
            obtain ⟨r_35, hk_36, hf⟩ := pe_1 hf
            refine xv_i (As := [.int y2, .int y5]) (rest := [.long (Int32.toInt64 r_33)]) (q0 := 0) (ci := 8) Cx hP hD hS hl (pl_X0_X8 a cyI cyJ v0_totals v7_rows v7_lengths v7_sizes v7_rests v7_orders v6_hooks v6_lefts v6_heights v1_table v5_known v8_sizes v8_coefficients v8_undoneSums v8_undos v8_nextUndo v8_imageTaken v8_sizes v8_coefficients v8_undoneSums v8_undos v8_nextUndo v8_imageTaken) (c_X8_at l D cyI cyJ G a H.size v8_sizes v8_coefficients v8_undoneSums v8_undos v8_nextUndo v8_imageTaken y2 y5 r_35 hk_36) pk_X8_at mw_3_84 ⟨rfl, rfl, Nat.le_of_ble_eq_true rfl, Nat.le_of_ble_eq_true rfl⟩ rfl rfl rfl rfl rfl (Nat.le_of_ble_eq_true rfl) ⟨Nat.le_of_ble_eq_true rfl, Nat.le_of_ble_eq_true rfl⟩ dX0_draftsTimes_89 (fun H locs hP hD hS => ?_)
            refine lv_i2l (v := Int32.toInt64 r_35) hx hb dX0_draftsTimes_92 rfl ?_
            refine lv_lmul hx hb dX0_draftsTimes_93 ?_
            refine lv_lstore (lv' := [(6, .long ((Int32.toInt64 r_33) * (Int32.toInt64 r_35))), (0, .ref (a 21)), (1, .int y1), (2, .int y2), (3, .int y3), (4, .int y4), (5, .int y5)]) hx hb dX0_draftsTimes_94 hl (by decide) rfl (fun ls hl => ?_)
            refine lv_lload hx hb dX0_draftsTimes_96 (lv_at hl 0 rfl) ?_
            refine lv_aload_n hx hb dX0_draftsTimes_98 rfl (lv_at hl 1 rfl) ?_
            refine va_get (ci := 0) (v := .ref (a 17)) hx hb hts wX0_in hown hK hP 0 rfl rfl 4 (by decide) (hts _ mw_2_20) (fun _ h9 => h9) rfl dX0_draftsTimes_99 ?_
            refine lv_iload_n hx hb dX0_draftsTimes_102 rfl (lv_at hl 2 rfl) ?_
            refine lv_iload hx hb dX0_draftsTimes_103 (lv_at hl 6 rfl) ?_
            obtain ⟨r_37, hk_38, hf⟩ := pe_1 hf
            refine xv_i (As := [.int y1, .int y5]) (rest := [.long ((Int32.toInt64 r_33) * (Int32.toInt64 r_35))]) (q0 := 0) (ci := 8) Cx hP hD hS hl (pl_X0_X8 a cyI cyJ v0_totals v7_rows v7_lengths v7_sizes v7_rests v7_orders v6_hooks v6_lefts v6_heights v1_table v5_known v8_sizes v8_coefficients v8_undoneSums v8_undos v8_nextUndo v8_imageTaken v8_sizes v8_coefficients v8_undoneSums v8_undos v8_nextUndo v8_imageTaken) (c_X8_at l D cyI cyJ G a H.size v8_sizes v8_coefficients v8_undoneSums v8_undos v8_nextUndo v8_imageTaken y1 y5 r_37 hk_38) pk_X8_at mw_3_84 ⟨rfl, rfl, Nat.le_of_ble_eq_true rfl, Nat.le_of_ble_eq_true rfl⟩ rfl rfl rfl rfl rfl (Nat.le_of_ble_eq_true rfl) ⟨Nat.le_of_ble_eq_true rfl, Nat.le_of_ble_eq_true rfl⟩ dX0_draftsTimes_105 (fun H locs hP hD hS => ?_)
            refine lv_i2l (v := Int32.toInt64 r_37) hx hb dX0_draftsTimes_108 rfl ?_
            refine lv_aload_n hx hb dX0_draftsTimes_109 rfl (lv_at hl 1 rfl) ?_
            refine va_get (ci := 0) (v := .ref (a 17)) hx hb hts wX0_in hown hK hP 0 rfl rfl 4 (by decide) (hts _ mw_2_20) (fun _ h9 => h9) rfl dX0_draftsTimes_110 ?_
            refine lv_iload_n hx hb dX0_draftsTimes_113 rfl (lv_at hl 3 rfl) ?_
            refine lv_iload hx hb dX0_draftsTimes_114 (lv_at hl 5 rfl) ?_
            obtain ⟨r_39, hk_40, hf⟩ := pe_1 hf
            refine xv_i (As := [.int y2, .int y4]) (rest := [.long (Int32.toInt64 r_37), .long ((Int32.toInt64 r_33) * (Int32.toInt64 r_35))]) (q0 := 0) (ci := 8) Cx hP hD hS hl (pl_X0_X8 a cyI cyJ v0_totals v7_rows v7_lengths v7_sizes v7_rests v7_orders v6_hooks v6_lefts v6_heights v1_table v5_known v8_sizes v8_coefficients v8_undoneSums v8_undos v8_nextUndo v8_imageTaken v8_sizes v8_coefficients v8_undoneSums v8_undos v8_nextUndo v8_imageTaken) (c_X8_at l D cyI cyJ G a H.size v8_sizes v8_coefficients v8_undoneSums v8_undos v8_nextUndo v8_imageTaken y2 y4 r_39 hk_40) pk_X8_at mw_3_84 ⟨rfl, rfl, Nat.le_of_ble_eq_true rfl, Nat.le_of_ble_eq_true rfl⟩ rfl rfl rfl rfl rfl (Nat.le_of_ble_eq_true rfl) ⟨Nat.le_of_ble_eq_true rfl, Nat.le_of_ble_eq_true rfl⟩ dX0_draftsTimes_116 (fun H locs hP hD hS => ?_)
            refine lv_i2l (v := Int32.toInt64 r_39) hx hb dX0_draftsTimes_119 rfl ?_
            refine lv_lmul hx hb dX0_draftsTimes_120 ?_
            refine lv_ladd hx hb dX0_draftsTimes_121 ?_
            refine lv_lstore (lv' := [(6, .long (((Int32.toInt64 r_33) * (Int32.toInt64 r_35)) + ((Int32.toInt64 r_37) * (Int32.toInt64 r_39)))), (0, .ref (a 21)), (1, .int y1), (2, .int y2), (3, .int y3), (4, .int y4), (5, .int y5)]) hx hb dX0_draftsTimes_122 hl (by decide) rfl (fun ls hl => ?_)
            refine lv_aload_n hx hb dX0_draftsTimes_124 rfl (lv_at hl 1 rfl) ?_
            refine lv_iload_n hx hb dX0_draftsTimes_125 rfl (lv_at hl 4 rfl) ?_
            refine lv_iload hx hb dX0_draftsTimes_126 (lv_at hl 5 rfl) ?_
            refine lv_iload hx hb dX0_draftsTimes_128 (lv_at hl 6 rfl) ?_
            refine lv_lload hx hb dX0_draftsTimes_130 (lv_at hl 0 rfl) ?_
            obtain ⟨v5_known_41, v0_totals_42, hk_43, hf⟩ := pe_2 hf
            refine xv_v (As := [.int y3, .int y4, .int y5, .long (((Int32.toInt64 r_33) * (Int32.toInt64 r_35)) + ((Int32.toInt64 r_37) * (Int32.toInt64 r_39)))]) (rest := []) (q0 := 0) (ci := 0) Cx hP hD hS hl (pl_X0_X0 a cyI cyJ v0_totals v7_rows v7_lengths v7_sizes v7_rests v7_orders v6_hooks v6_lefts v6_heights v1_table v5_known v8_sizes v8_coefficients v8_undoneSums v8_undos v8_nextUndo v8_imageTaken v0_totals_42 v7_rows v7_lengths v7_sizes v7_rests v7_orders v6_hooks v6_lefts v6_heights v1_table v5_known_41 v8_sizes v8_coefficients v8_undoneSums v8_undos v8_nextUndo v8_imageTaken) (c_X0_addProduct l D cyI cyJ G a H.size v0_totals v7_rows v7_lengths v7_sizes v7_rests v7_orders v6_hooks v6_lefts v6_heights v1_table v5_known v8_sizes v8_coefficients v8_undoneSums v8_undos v8_nextUndo v8_imageTaken y3 y4 y5 (((Int32.toInt64 r_33) * (Int32.toInt64 r_35)) + ((Int32.toInt64 r_37) * (Int32.toInt64 r_39))) v5_known_41 v0_totals_42 hk_43) pk_X0_addProduct mw_3_106 ⟨rfl, rfl, Nat.le_of_ble_eq_true rfl, Nat.le_of_ble_eq_true rfl⟩ rfl rfl rfl rfl rfl (Nat.le_of_ble_eq_true rfl) ⟨Nat.le_of_ble_eq_true rfl, Nat.le_of_ble_eq_true rfl⟩ dX0_draftsTimes_132 (fun H locs hP hD hS => ?_)
            refine lv_iinc (v := (y5 + (1 : Int32))) (lv' := [(5, .int (y5 + (1 : Int32))), (6, .long (((Int32.toInt64 r_33) * (Int32.toInt64 r_35)) + ((Int32.toInt64 r_37) * (Int32.toInt64 r_39)))), (0, .ref (a 21)), (1, .int y1), (2, .int y2), (3, .int y3), (4, .int y4)]) hx hb dX0_draftsTimes_135 hl (k := 6) rfl rfl (by decide) rfl (fun ls hl => ?_)
            refine lv_goto (tgt := 64) hx hb dX0_draftsTimes_138 (by decide) ?_
            exact w_64 v5_known_41 v8_sizes v8_coefficients v0_totals_42 y1 y2 y3 y4 (y5 + (1 : Int32)) H locs ls hf hP hD hS (lv_sub hl [2, 3, 4, 5, 6, 0] rfl)
      refine lv_iload hx hb dX0_draftsTimes_16 (lv_at hl 4 rfl) ?_
      refine lv_aload_n hx hb dX0_draftsTimes_18 rfl (lv_at hl 0 rfl) ?_
      refine va_get (ci := 0) (v := .ref (a 2)) hx hb hts wX0_in hown hK hP 0 rfl rfl 0 (by decide) (hts _ mw_2_16) (fun _ h9 => h9) rfl dX0_draftsTimes_19 ?_
      refine lv_iload_n hx hb dX0_draftsTimes_22 rfl (lv_at hl 3 rfl) ?_
      obtain ⟨r_44, hk_45, hf⟩ := pe_1 hf
      refine xv_i (As := [.int y3]) (rest := [.int y4]) (q0 := 0) (ci := 7) Cx hP hD hS hl (pl_X0_X7 a cyI cyJ v0_totals v7_rows v7_lengths v7_sizes v7_rests v7_orders v6_hooks v6_lefts v6_heights v1_table v5_known v8_sizes v8_coefficients v8_undoneSums v8_undos v8_nextUndo v8_imageTaken v7_rows v7_lengths v7_sizes v7_rests v7_orders) (c_X7_countOf l D cyI cyJ G a H.size v7_rows v7_lengths v7_sizes v7_rests v7_orders y3 r_44 hk_45) pk_X7_countOf mw_3_105 ⟨rfl, rfl, Nat.le_of_ble_eq_true rfl, Nat.le_of_ble_eq_true rfl⟩ rfl rfl rfl rfl rfl (Nat.le_of_ble_eq_true rfl) ⟨Nat.le_of_ble_eq_true rfl, Nat.le_of_ble_eq_true rfl⟩ dX0_draftsTimes_23 (fun H locs hP hD hS => ?_)
      refine lv_icmp_ge (tgt := 147) hx hb dX0_draftsTimes_26 (by decide) (fun hc_46 => ?_) (fun hc_46 => ?_)
      · have hf := pe_t hf hc_46
        refine lv_aload_n hx hb dX0_draftsTimes_147 rfl (lv_at hl 0 rfl) ?_
        refine lv_iload_n hx hb dX0_draftsTimes_148 rfl (lv_at hl 3 rfl) ?_
        obtain ⟨r_47, v8_sizes_48, v8_coefficients_49, hk_50, hf⟩ := pe_3 hf
        refine xv_z (As := [.int y3]) (rest := []) (q0 := 0) (ci := 0) Cx hP hD hS hl (pl_X0_X0 a cyI cyJ v0_totals v7_rows v7_lengths v7_sizes v7_rests v7_orders v6_hooks v6_lefts v6_heights v1_table v5_known v8_sizes v8_coefficients v8_undoneSums v8_undos v8_nextUndo v8_imageTaken v0_totals v7_rows v7_lengths v7_sizes v7_rests v7_orders v6_hooks v6_lefts v6_heights v1_table v5_known v8_sizes_48 v8_coefficients_49 v8_undoneSums v8_undos v8_nextUndo v8_imageTaken) (c_X0_draftsTotals l D cyI cyJ G a H.size v0_totals v7_rows v7_lengths v7_sizes v7_rests v7_orders v6_hooks v6_lefts v6_heights v1_table v5_known v8_sizes v8_coefficients v8_undoneSums v8_undos v8_nextUndo v8_imageTaken y3 r_47 v8_sizes_48 v8_coefficients_49 hk_50) pk_X0_draftsTotals mw_3_90 ⟨rfl, rfl, Nat.le_of_ble_eq_true rfl, Nat.le_of_ble_eq_true rfl⟩ rfl rfl rfl rfl rfl (Nat.le_of_ble_eq_true rfl) ⟨Nat.le_of_ble_eq_true rfl, Nat.le_of_ble_eq_true rfl⟩ dX0_draftsTimes_149 (fun H locs hn_51 hP hD hS => ?_)
        obtain ⟨rfl, rfl, rfl, rfl, rfl⟩ := po_5 hf
        rw [← hQ]; exact xe_zret Cx rfl hn_51 hP hD hS dX0_draftsTimes_152
      · have hf := pe_f hf hc_46
        refine lv_aload_n hx hb dX0_draftsTimes_29 rfl (lv_at hl 0 rfl) ?_
        refine lv_iload_n hx hb dX0_draftsTimes_30 rfl (lv_at hl 3 rfl) ?_
        refine lv_iload hx hb dX0_draftsTimes_31 (lv_at hl 4 rfl) ?_
        refine lv_iload hx hb dX0_draftsTimes_33 (lv_at hl 4 rfl) ?_
        refine lv_aload_n hx hb dX0_draftsTimes_35 rfl (lv_at hl 0 rfl) ?_
        refine va_get (ci := 0) (v := .ref (a 17)) hx hb hts wX0_in hown hK hP 0 rfl rfl 4 (by decide) (hts _ mw_2_20) (fun _ h9 => h9) rfl dX0_draftsTimes_36 ?_
        refine lv_iload_n hx hb dX0_draftsTimes_39 rfl (lv_at hl 1 rfl) ?_
        refine lv_iload hx hb dX0_draftsTimes_40 (lv_at hl 4 rfl) ?_
        obtain ⟨r_52, hk_53, hf⟩ := pe_1 hf
        refine xv_i (As := [.int y1, .int y4]) (rest := [.int y4, .int y4, .int y3, .ref (a 21)]) (q0 := 0) (ci := 8) Cx hP hD hS hl (pl_X0_X8 a cyI cyJ v0_totals v7_rows v7_lengths v7_sizes v7_rests v7_orders v6_hooks v6_lefts v6_heights v1_table v5_known v8_sizes v8_coefficients v8_undoneSums v8_undos v8_nextUndo v8_imageTaken v8_sizes v8_coefficients v8_undoneSums v8_undos v8_nextUndo v8_imageTaken) (c_X8_at l D cyI cyJ G a H.size v8_sizes v8_coefficients v8_undoneSums v8_undos v8_nextUndo v8_imageTaken y1 y4 r_52 hk_53) pk_X8_at mw_3_84 ⟨rfl, rfl, Nat.le_of_ble_eq_true rfl, Nat.le_of_ble_eq_true rfl⟩ rfl rfl rfl rfl rfl (Nat.le_of_ble_eq_true rfl) ⟨Nat.le_of_ble_eq_true rfl, Nat.le_of_ble_eq_true rfl⟩ dX0_draftsTimes_42 (fun H locs hP hD hS => ?_)
        refine lv_i2l (v := Int32.toInt64 r_52) hx hb dX0_draftsTimes_45 rfl ?_
        refine lv_aload_n hx hb dX0_draftsTimes_46 rfl (lv_at hl 0 rfl) ?_
        refine va_get (ci := 0) (v := .ref (a 17)) hx hb hts wX0_in hown hK hP 0 rfl rfl 4 (by decide) (hts _ mw_2_20) (fun _ h9 => h9) rfl dX0_draftsTimes_47 ?_
        refine lv_iload_n hx hb dX0_draftsTimes_50 rfl (lv_at hl 2 rfl) ?_
        refine lv_iload hx hb dX0_draftsTimes_51 (lv_at hl 4 rfl) ?_
        obtain ⟨r_54, hk_55, hf⟩ := pe_1 hf
        refine xv_i (As := [.int y2, .int y4]) (rest := [.long (Int32.toInt64 r_52), .int y4, .int y4, .int y3, .ref (a 21)]) (q0 := 0) (ci := 8) Cx hP hD hS hl (pl_X0_X8 a cyI cyJ v0_totals v7_rows v7_lengths v7_sizes v7_rests v7_orders v6_hooks v6_lefts v6_heights v1_table v5_known v8_sizes v8_coefficients v8_undoneSums v8_undos v8_nextUndo v8_imageTaken v8_sizes v8_coefficients v8_undoneSums v8_undos v8_nextUndo v8_imageTaken) (c_X8_at l D cyI cyJ G a H.size v8_sizes v8_coefficients v8_undoneSums v8_undos v8_nextUndo v8_imageTaken y2 y4 r_54 hk_55) pk_X8_at mw_3_84 ⟨rfl, rfl, Nat.le_of_ble_eq_true rfl, Nat.le_of_ble_eq_true rfl⟩ rfl rfl rfl rfl rfl (Nat.le_of_ble_eq_true rfl) ⟨Nat.le_of_ble_eq_true rfl, Nat.le_of_ble_eq_true rfl⟩ dX0_draftsTimes_53 (fun H locs hP hD hS => ?_)
        refine lv_i2l (v := Int32.toInt64 r_54) hx hb dX0_draftsTimes_56 rfl ?_
        refine lv_lmul hx hb dX0_draftsTimes_57 ?_
        obtain ⟨v5_known_56, v0_totals_57, hk_58, hf⟩ := pe_2 hf
        refine xv_v (As := [.int y3, .int y4, .int y4, .long ((Int32.toInt64 r_52) * (Int32.toInt64 r_54))]) (rest := []) (q0 := 0) (ci := 0) Cx hP hD hS hl (pl_X0_X0 a cyI cyJ v0_totals v7_rows v7_lengths v7_sizes v7_rests v7_orders v6_hooks v6_lefts v6_heights v1_table v5_known v8_sizes v8_coefficients v8_undoneSums v8_undos v8_nextUndo v8_imageTaken v0_totals_57 v7_rows v7_lengths v7_sizes v7_rests v7_orders v6_hooks v6_lefts v6_heights v1_table v5_known_56 v8_sizes v8_coefficients v8_undoneSums v8_undos v8_nextUndo v8_imageTaken) (c_X0_addProduct l D cyI cyJ G a H.size v0_totals v7_rows v7_lengths v7_sizes v7_rests v7_orders v6_hooks v6_lefts v6_heights v1_table v5_known v8_sizes v8_coefficients v8_undoneSums v8_undos v8_nextUndo v8_imageTaken y3 y4 y4 ((Int32.toInt64 r_52) * (Int32.toInt64 r_54)) v5_known_56 v0_totals_57 hk_58) pk_X0_addProduct mw_3_106 ⟨rfl, rfl, Nat.le_of_ble_eq_true rfl, Nat.le_of_ble_eq_true rfl⟩ rfl rfl rfl rfl rfl (Nat.le_of_ble_eq_true rfl) ⟨Nat.le_of_ble_eq_true rfl, Nat.le_of_ble_eq_true rfl⟩ dX0_draftsTimes_58 (fun H locs hP hD hS => ?_)
        refine lv_iconst (v := (0 : Int32)) hx hb dX0_draftsTimes_61 (by decide) ?_
        refine lv_istore (lv' := [(5, .int (0 : Int32)), (0, .ref (a 21)), (1, .int y1), (2, .int y2), (3, .int y3), (4, .int y4)]) hx hb dX0_draftsTimes_62 hl (by decide) rfl (fun ls hl => ?_)
        exact w_64 1000 v5_known_56 v8_sizes v8_coefficients v0_totals_57 y1 y2 y3 y4 (0 : Int32) H locs ls hf hP hD hS (lv_sub hl [1, 2, 3, 4, 5, 0] rfl)
  refine lv_aload_n hx hb dX0_draftsTimes_0 rfl (lv_at hl 0 rfl) ?_
  refine va_get (ci := 0) (v := .ref (a 17)) hx hb hts wX0_in hown hK hP 0 rfl rfl 4 (by decide) (hts _ mw_2_20) (fun _ h9 => h9) rfl dX0_draftsTimes_1 ?_
  refine lv_iload_n hx hb dX0_draftsTimes_4 rfl (lv_at hl 1 rfl) ?_
  obtain ⟨r_59, hk_60, hf⟩ := pe_1 hf
  refine xv_i (As := [.int x1]) (rest := []) (q0 := 0) (ci := 8) Cx hP hD hS hl (pl_X0_X8 a cyI cyJ v0_totals v7_rows v7_lengths v7_sizes v7_rests v7_orders v6_hooks v6_lefts v6_heights v1_table v5_known v8_sizes v8_coefficients v8_undoneSums v8_undos v8_nextUndo v8_imageTaken v8_sizes v8_coefficients v8_undoneSums v8_undos v8_nextUndo v8_imageTaken) (c_X8_sizeOf l D cyI cyJ G a H.size v8_sizes v8_coefficients v8_undoneSums v8_undos v8_nextUndo v8_imageTaken x1 r_59 hk_60) pk_X8_sizeOf mw_3_89 ⟨rfl, rfl, Nat.le_of_ble_eq_true rfl, Nat.le_of_ble_eq_true rfl⟩ rfl rfl rfl rfl rfl (Nat.le_of_ble_eq_true rfl) ⟨Nat.le_of_ble_eq_true rfl, Nat.le_of_ble_eq_true rfl⟩ dX0_draftsTimes_5 (fun H locs hP hD hS => ?_)
  refine lv_istore_n (lv' := [(3, .int r_59), (0, .ref (a 21)), (1, .int x1), (2, .int x2)]) hx hb dX0_draftsTimes_8 rfl hl (by decide) rfl (fun ls hl => ?_)
  refine lv_aload_n hx hb dX0_draftsTimes_9 rfl (lv_at hl 1 rfl) ?_
  obtain ⟨v0_totals_61, hk_62, hf⟩ := pe_1 hf
  refine xv_v (As := []) (rest := []) (q0 := 0) (ci := 0) Cx hP hD hS hl (pl_X0_X0 a cyI cyJ v0_totals v7_rows v7_lengths v7_sizes v7_rests v7_orders v6_hooks v6_lefts v6_heights v1_table v5_known v8_sizes v8_coefficients v8_undoneSums v8_undos v8_nextUndo v8_imageTaken v0_totals_61 v7_rows v7_lengths v7_sizes v7_rests v7_orders v6_hooks v6_lefts v6_heights v1_table v5_known v8_sizes v8_coefficients v8_undoneSums v8_undos v8_nextUndo v8_imageTaken) (c_X0_begin l D cyI cyJ G a H.size v0_totals v7_rows v7_lengths v7_sizes v7_rests v7_orders v6_hooks v6_lefts v6_heights v1_table v5_known v8_sizes v8_coefficients v8_undoneSums v8_undos v8_nextUndo v8_imageTaken v0_totals_61 hk_62) pk_X0_begin mw_3_80 ⟨rfl, rfl, Nat.le_of_ble_eq_true rfl, Nat.le_of_ble_eq_true rfl⟩ rfl rfl rfl rfl rfl (Nat.le_of_ble_eq_true rfl) ⟨Nat.le_of_ble_eq_true rfl, Nat.le_of_ble_eq_true rfl⟩ dX0_draftsTimes_10 (fun H locs hP hD hS => ?_)
  refine lv_iconst (v := (0 : Int32)) hx hb dX0_draftsTimes_13 (by decide) ?_
  refine lv_istore (lv' := [(4, .int (0 : Int32)), (3, .int r_59), (0, .ref (a 21)), (1, .int x1), (2, .int x2)]) hx hb dX0_draftsTimes_14 hl (by decide) rfl (fun ls hl => ?_)
  exact w_16 1000 v5_known v8_sizes v8_coefficients v0_totals_61 x1 x2 r_59 (0 : Int32) H locs ls hf hP hD hS (lv_sub hl [2, 3, 4, 1, 0] rfl)
def gf_X0_draftsAbout_15 (K_15 : (Nat → Int32) → (Nat → Int32) → (Nat → Int64) → Int32 → Int32 → Int32 → Option (Int32 × (Nat → Int32) × (Nat → Int32) × (Nat → Int64))) (v7_rows : Nat → Int32) (v7_sizes : Nat → Int32) (v8_sizes : Nat → Int32) (v8_coefficients : Nat → Int32) (v0_totals : Nat → Int64) (y1 : Int32) (y2 : Int32) (y3 : Int32) : Option (Int32 × (Nat → Int32) × (Nat → Int32) × (Nat → Int64)) := p_b1 (f_X7_countOf y2) (fun r_1 => if r_1 ≤ y3 then (p_b3 (f_X0_draftsTotals v8_sizes v8_coefficients v0_totals y2) (fun r_4 v8_sizes_5 v8_coefficients_6 => some (r_4, v8_sizes_5, v8_coefficients_6, v0_totals))) else (p_b1 (f_X7_firstOf y2) (fun r_9 => p_b1 (f_X7_turnedOf v7_rows v7_sizes (r_9 + y3)) (fun r_11 => p_b1 (f_X7_placeOf v7_sizes r_11) (fun r_13 => p_b1 (f_X8_at v8_coefficients y1 y3) (fun r_15 => p_b1 (f_X0_add v0_totals r_13 (Int32.toInt64 r_15)) (fun v0_totals_17 => K_15 v8_sizes v8_coefficients v0_totals_17 y1 y2 (y3 + (1 : Int32)))))))))
def f_X0_draftsAbout_15 (v7_rows : Nat → Int32) (v7_sizes : Nat → Int32) : Nat → (Nat → Int32) → (Nat → Int32) → (Nat → Int64) → Int32 → Int32 → Int32 → Option (Int32 × (Nat → Int32) × (Nat → Int32) × (Nat → Int64))
  | 0 => fun _ _ _ _ _ _ => none
  | n + 1 => gf_X0_draftsAbout_15 (f_X0_draftsAbout_15 v7_rows v7_sizes n) v7_rows v7_sizes
def f_X0_draftsAbout (v7_rows : Nat → Int32) (v7_sizes : Nat → Int32) (v8_sizes : Nat → Int32) (v8_coefficients : Nat → Int32) (v0_totals : Nat → Int64) (x1 : Int32) : Option (Int32 × (Nat → Int32) × (Nat → Int32) × (Nat → Int64)) := p_b1 (f_X8_sizeOf v8_sizes x1) (fun r_19 => p_b1 (f_X0_begin v0_totals) (fun v0_totals_21 => (f_X0_draftsAbout_15 v7_rows v7_sizes 1000) v8_sizes v8_coefficients v0_totals_21 x1 r_19 (0 : Int32)))
set_option maxHeartbeats 4000000 in
set_option maxRecDepth 20000 in
theorem c_X0_draftsAbout (l : Launch) (D : va_G) (cyI cyJ : ClassId) (G a : Nat → Nat) (sz : Nat) (v0_totals : Nat → Int64) (v7_rows : Nat → Int32) (v7_lengths : Nat → Int32) (v7_sizes : Nat → Int32) (v7_rests : Nat → Int32) (v7_orders : Nat → Int32) (v6_hooks : Nat → Int32) (v6_lefts : Nat → Int32) (v6_heights : Nat → Int32) (v1_table : Nat → Int32) (v5_known : Nat → Int32) (v8_sizes : Nat → Int32) (v8_coefficients : Nat → Int32) (v8_undoneSums : Nat → Int32) (v8_undos : Int32) (v8_nextUndo : Int32) (v8_imageTaken : Int32) (x1 : Int32) (ro : Int32) (ov8_sizes : Nat → Int32) (ov8_coefficients : Nat → Int32) (ov0_totals : Nat → Int64) (hf : f_X0_draftsAbout v7_rows v7_sizes v8_sizes v8_coefficients v0_totals x1 = some (ro, ov8_sizes, ov8_coefficients, ov0_totals)) : xm_z l yX0_draftsAbout (Cond.code yX0_draftsAbout cX0_draftsAbout 5 (some .boolean) :: xg_tbl) { frames := 4, cells := 0, slots := 0, locals := 90 } D xcl [(cyI, .int), (cyJ, .long)] G sz [.ref (a 21), .int x1] (wd_X0 a cyI cyJ v0_totals v7_rows v7_lengths v7_sizes v7_rests v7_orders v6_hooks v6_lefts v6_heights v1_table v5_known v8_sizes v8_coefficients v8_undoneSums v8_undos v8_nextUndo v8_imageTaken) (wd_X0 a cyI cyJ ov0_totals v7_rows v7_lengths v7_sizes v7_rests v7_orders v6_hooks v6_lefts v6_heights v1_table v5_known ov8_sizes ov8_coefficients v8_undoneSums v8_undos v8_nextUndo v8_imageTaken) ro := by
  refine xm_of_z (own := RX0) (by decide) rfl rfl (Nat.le_of_ble_eq_true rfl) ?_
  intro p e s m args below meth c ls Q A hQ hAe hin Cx hsz hP hD hS hl
  have Cx1 := Cx
  obtain ⟨⟨hx, hb, hml, hown, hts⟩, hr, hlocks, hK, hA, hT⟩ := Cx1
  have hl : lv_has ls 5 [(0, .ref (a 21)), (1, .int x1)] := hl
  obtain ⟨H, eH⟩ : ∃ H, H = s.heap := ⟨_, rfl⟩
  obtain ⟨locs, eL⟩ : ∃ L : List Loc, L = [] := ⟨_, rfl⟩
  rw [← eH] at hP
  have hS : va_S A s.heap H locs := by rw [eH, eL]; exact hS
  suffices hgo : W p l e { frames := 4, cells := 0, slots := 0, locals := 90 } s m args below meth c H locs 0 0 Q (F0 m 0 ls []) by rw [eH, eL] at hgo; exact hgo
  clear eH eL
  unfold f_X0_draftsAbout at hf
  have w_15 : ∀ (n_15 : Nat) (v8_sizes : Nat → Int32) (v8_coefficients : Nat → Int32) (v0_totals : Nat → Int64) (y1 : Int32) (y2 : Int32) (y3 : Int32) (H : Heap) (locs : List Loc) (ls : Array Slot), (f_X0_draftsAbout_15 v7_rows v7_sizes) n_15 v8_sizes v8_coefficients v0_totals y1 y2 y3 = some (ro, ov8_sizes, ov8_coefficients, ov0_totals) → va_P D xcl (wd_X0 a cyI cyJ v0_totals v7_rows v7_lengths v7_sizes v7_rests v7_orders v6_hooks v6_lefts v6_heights v1_table v5_known v8_sizes v8_coefficients v8_undoneSums v8_undos v8_nextUndo v8_imageTaken) H → va_D A (wd_X0 a cyI cyJ v0_totals v7_rows v7_lengths v7_sizes v7_rests v7_orders v6_hooks v6_lefts v6_heights v1_table v5_known v8_sizes v8_coefficients v8_undoneSums v8_undos v8_nextUndo v8_imageTaken) → va_S A s.heap H locs → lv_has ls 5 [(0, .ref (a 21)), (1, .int y1), (2, .int y2), (3, .int y3)] → W p l e { frames := 4, cells := 0, slots := 0, locals := 90 } s m args below meth c H locs 0 0 Q (F0 m 15 ls []) := by
    intro n_15
    induction n_15 with
    | zero => intro v8_sizes v8_coefficients v0_totals y1 y2 y3 H locs ls hf; exact absurd hf (by intro h9; cases h9)
    | succ n_15 w_15 =>
      intro v8_sizes v8_coefficients v0_totals y1 y2 y3 H locs ls hf hP hD hS hl
      have hf : gf_X0_draftsAbout_15 ((f_X0_draftsAbout_15 v7_rows v7_sizes) n_15) v7_rows v7_sizes v8_sizes v8_coefficients v0_totals y1 y2 y3 = some (ro, ov8_sizes, ov8_coefficients, ov0_totals) := hf
      unfold gf_X0_draftsAbout_15 at hf
      refine lv_iload_n hx hb dX0_draftsAbout_15 rfl (lv_at hl 3 rfl) ?_
      refine lv_aload_n hx hb dX0_draftsAbout_16 rfl (lv_at hl 0 rfl) ?_
      refine va_get (ci := 0) (v := .ref (a 2)) hx hb hts wX0_in hown hK hP 0 rfl rfl 0 (by decide) (hts _ mw_2_16) (fun _ h9 => h9) rfl dX0_draftsAbout_17 ?_
      refine lv_iload_n hx hb dX0_draftsAbout_20 rfl (lv_at hl 2 rfl) ?_
      obtain ⟨r_23, hk_24, hf⟩ := pe_1 hf
      refine xv_i (As := [.int y2]) (rest := [.int y3]) (q0 := 0) (ci := 7) Cx hP hD hS hl (pl_X0_X7 a cyI cyJ v0_totals v7_rows v7_lengths v7_sizes v7_rests v7_orders v6_hooks v6_lefts v6_heights v1_table v5_known v8_sizes v8_coefficients v8_undoneSums v8_undos v8_nextUndo v8_imageTaken v7_rows v7_lengths v7_sizes v7_rests v7_orders) (c_X7_countOf l D cyI cyJ G a H.size v7_rows v7_lengths v7_sizes v7_rests v7_orders y2 r_23 hk_24) pk_X7_countOf mw_3_105 ⟨rfl, rfl, Nat.le_of_ble_eq_true rfl, Nat.le_of_ble_eq_true rfl⟩ rfl rfl rfl rfl rfl (Nat.le_of_ble_eq_true rfl) ⟨Nat.le_of_ble_eq_true rfl, Nat.le_of_ble_eq_true rfl⟩ dX0_draftsAbout_21 (fun H locs hP hD hS => ?_)
      refine lv_icmp_ge (tgt := 75) hx hb dX0_draftsAbout_24 (by decide) (fun hc_25 => ?_) (fun hc_25 => ?_)
      · have hf := pe_t hf hc_25
        refine lv_aload_n hx hb dX0_draftsAbout_75 rfl (lv_at hl 0 rfl) ?_
        refine lv_iload_n hx hb dX0_draftsAbout_76 rfl (lv_at hl 2 rfl) ?_
        obtain ⟨r_26, v8_sizes_27, v8_coefficients_28, hk_29, hf⟩ := pe_3 hf
        refine xv_z (As := [.int y2]) (rest := []) (q0 := 0) (ci := 0) Cx hP hD hS hl (pl_X0_X0 a cyI cyJ v0_totals v7_rows v7_lengths v7_sizes v7_rests v7_orders v6_hooks v6_lefts v6_heights v1_table v5_known v8_sizes v8_coefficients v8_undoneSums v8_undos v8_nextUndo v8_imageTaken v0_totals v7_rows v7_lengths v7_sizes v7_rests v7_orders v6_hooks v6_lefts v6_heights v1_table v5_known v8_sizes_27 v8_coefficients_28 v8_undoneSums v8_undos v8_nextUndo v8_imageTaken) (c_X0_draftsTotals l D cyI cyJ G a H.size v0_totals v7_rows v7_lengths v7_sizes v7_rests v7_orders v6_hooks v6_lefts v6_heights v1_table v5_known v8_sizes v8_coefficients v8_undoneSums v8_undos v8_nextUndo v8_imageTaken y2 r_26 v8_sizes_27 v8_coefficients_28 hk_29) pk_X0_draftsTotals mw_3_90 ⟨rfl, rfl, Nat.le_of_ble_eq_true rfl, Nat.le_of_ble_eq_true rfl⟩ rfl rfl rfl rfl rfl (Nat.le_of_ble_eq_true rfl) ⟨Nat.le_of_ble_eq_true rfl, Nat.le_of_ble_eq_true rfl⟩ dX0_draftsAbout_77 (fun H locs hn_30 hP hD hS => ?_)
        obtain ⟨rfl, rfl, rfl, rfl⟩ := po_4 hf
        rw [← hQ]; exact xe_zret Cx rfl hn_30 hP hD hS dX0_draftsAbout_80
      · have hf := pe_f hf hc_25
        refine lv_aload_n hx hb dX0_draftsAbout_27 rfl (lv_at hl 0 rfl) ?_
        refine va_get (ci := 0) (v := .ref (a 2)) hx hb hts wX0_in hown hK hP 0 rfl rfl 0 (by decide) (hts _ mw_2_16) (fun _ h9 => h9) rfl dX0_draftsAbout_28 ?_
        refine lv_aload_n hx hb dX0_draftsAbout_31 rfl (lv_at hl 0 rfl) ?_
        refine va_get (ci := 0) (v := .ref (a 2)) hx hb hts wX0_in hown hK hP 0 rfl rfl 0 (by decide) (hts _ mw_2_16) (fun _ h9 => h9) rfl dX0_draftsAbout_32 ?_
        refine lv_iload_n hx hb dX0_draftsAbout_35 rfl (lv_at hl 2 rfl) ?_
        obtain ⟨r_31, hk_32, hf⟩ := pe_1 hf
        refine xv_i (As := [.int y2]) (rest := [.ref (a 2)]) (q0 := 0) (ci := 7) Cx hP hD hS hl (pl_X0_X7 a cyI cyJ v0_totals v7_rows v7_lengths v7_sizes v7_rests v7_orders v6_hooks v6_lefts v6_heights v1_table v5_known v8_sizes v8_coefficients v8_undoneSums v8_undos v8_nextUndo v8_imageTaken v7_rows v7_lengths v7_sizes v7_rests v7_orders) (c_X7_firstOf l D cyI cyJ G a H.size v7_rows v7_lengths v7_sizes v7_rests v7_orders y2 r_31 hk_32) pk_X7_firstOf mw_3_123 ⟨rfl, rfl, Nat.le_of_ble_eq_true rfl, Nat.le_of_ble_eq_true rfl⟩ rfl rfl rfl rfl rfl (Nat.le_of_ble_eq_true rfl) ⟨Nat.le_of_ble_eq_true rfl, Nat.le_of_ble_eq_true rfl⟩ dX0_draftsAbout_36 (fun H locs hP hD hS => ?_)
        refine lv_iload_n hx hb dX0_draftsAbout_39 rfl (lv_at hl 3 rfl) ?_
        refine lv_iadd hx hb dX0_draftsAbout_40 ?_
        obtain ⟨r_33, hk_34, hf⟩ := pe_1 hf
        refine xv_i (As := [.int (r_31 + y3)]) (rest := []) (q0 := 0) (ci := 7) Cx hP hD hS hl (pl_X0_X7 a cyI cyJ v0_totals v7_rows v7_lengths v7_sizes v7_rests v7_orders v6_hooks v6_lefts v6_heights v1_table v5_known v8_sizes v8_coefficients v8_undoneSums v8_undos v8_nextUndo v8_imageTaken v7_rows v7_lengths v7_sizes v7_rests v7_orders) (c_X7_turnedOf l D cyI cyJ G a H.size v7_rows v7_lengths v7_sizes v7_rests v7_orders (r_31 + y3) r_33 hk_34) pk_X7_turnedOf mw_3_124 ⟨rfl, rfl, Nat.le_of_ble_eq_true rfl, Nat.le_of_ble_eq_true rfl⟩ rfl rfl rfl rfl rfl (Nat.le_of_ble_eq_true rfl) ⟨Nat.le_of_ble_eq_true rfl, Nat.le_of_ble_eq_true rfl⟩ dX0_draftsAbout_41 (fun H locs hP hD hS => ?_)
        refine lv_istore (lv' := [(4, .int r_33), (0, .ref (a 21)), (1, .int y1), (2, .int y2), (3, .int y3)]) hx hb dX0_draftsAbout_44 hl (by decide) rfl (fun ls hl => ?_)
        refine lv_aload_n hx hb dX0_draftsAbout_46 rfl (lv_at hl 1 rfl) ?_
        refine lv_aload_n hx hb dX0_draftsAbout_47 rfl (lv_at hl 1 rfl) ?_
        refine va_get (ci := 0) (v := .ref (a 2)) hx hb hts wX0_in hown hK hP 0 rfl rfl 0 (by decide) (hts _ mw_2_16) (fun _ h9 => h9) rfl dX0_draftsAbout_48 ?_
        refine lv_iload hx hb dX0_draftsAbout_51 (lv_at hl 0 rfl) ?_
        obtain ⟨r_35, hk_36, hf⟩ := pe_1 hf
        refine xv_i (As := [.int r_33]) (rest := [.ref (a 21)]) (q0 := 0) (ci := 7) Cx hP hD hS hl (pl_X0_X7 a cyI cyJ v0_totals v7_rows v7_lengths v7_sizes v7_rests v7_orders v6_hooks v6_lefts v6_heights v1_table v5_known v8_sizes v8_coefficients v8_undoneSums v8_undos v8_nextUndo v8_imageTaken v7_rows v7_lengths v7_sizes v7_rests v7_orders) (c_X7_placeOf l D cyI cyJ G a H.size v7_rows v7_lengths v7_sizes v7_rests v7_orders r_33 r_35 hk_36) pk_X7_placeOf mw_3_125 ⟨rfl, rfl, Nat.le_of_ble_eq_true rfl, Nat.le_of_ble_eq_true rfl⟩ rfl rfl rfl rfl rfl (Nat.le_of_ble_eq_true rfl) ⟨Nat.le_of_ble_eq_true rfl, Nat.le_of_ble_eq_true rfl⟩ dX0_draftsAbout_53 (fun H locs hP hD hS => ?_)
        refine lv_aload_n hx hb dX0_draftsAbout_56 rfl (lv_at hl 1 rfl) ?_
        refine va_get (ci := 0) (v := .ref (a 17)) hx hb hts wX0_in hown hK hP 0 rfl rfl 4 (by decide) (hts _ mw_2_20) (fun _ h9 => h9) rfl dX0_draftsAbout_57 ?_
        refine lv_iload_n hx hb dX0_draftsAbout_60 rfl (lv_at hl 2 rfl) ?_
        refine lv_iload_n hx hb dX0_draftsAbout_61 rfl (lv_at hl 4 rfl) ?_
        obtain ⟨r_37, hk_38, hf⟩ := pe_1 hf
        refine xv_i (As := [.int y1, .int y3]) (rest := [.int r_35, .ref (a 21)]) (q0 := 0) (ci := 8) Cx hP hD hS hl (pl_X0_X8 a cyI cyJ v0_totals v7_rows v7_lengths v7_sizes v7_rests v7_orders v6_hooks v6_lefts v6_heights v1_table v5_known v8_sizes v8_coefficients v8_undoneSums v8_undos v8_nextUndo v8_imageTaken v8_sizes v8_coefficients v8_undoneSums v8_undos v8_nextUndo v8_imageTaken) (c_X8_at l D cyI cyJ G a H.size v8_sizes v8_coefficients v8_undoneSums v8_undos v8_nextUndo v8_imageTaken y1 y3 r_37 hk_38) pk_X8_at mw_3_84 ⟨rfl, rfl, Nat.le_of_ble_eq_true rfl, Nat.le_of_ble_eq_true rfl⟩ rfl rfl rfl rfl rfl (Nat.le_of_ble_eq_true rfl) ⟨Nat.le_of_ble_eq_true rfl, Nat.le_of_ble_eq_true rfl⟩ dX0_draftsAbout_62 (fun H locs hP hD hS => ?_)
        refine lv_i2l (v := Int32.toInt64 r_37) hx hb dX0_draftsAbout_65 rfl ?_
        obtain ⟨v0_totals_39, hk_40, hf⟩ := pe_1 hf
        refine xv_v (As := [.int r_35, .long (Int32.toInt64 r_37)]) (rest := []) (q0 := 0) (ci := 0) Cx hP hD hS hl (pl_X0_X0 a cyI cyJ v0_totals v7_rows v7_lengths v7_sizes v7_rests v7_orders v6_hooks v6_lefts v6_heights v1_table v5_known v8_sizes v8_coefficients v8_undoneSums v8_undos v8_nextUndo v8_imageTaken v0_totals_39 v7_rows v7_lengths v7_sizes v7_rests v7_orders v6_hooks v6_lefts v6_heights v1_table v5_known v8_sizes v8_coefficients v8_undoneSums v8_undos v8_nextUndo v8_imageTaken) (c_X0_add l D cyI cyJ G a H.size v0_totals v7_rows v7_lengths v7_sizes v7_rests v7_orders v6_hooks v6_lefts v6_heights v1_table v5_known v8_sizes v8_coefficients v8_undoneSums v8_undos v8_nextUndo v8_imageTaken r_35 (Int32.toInt64 r_37) v0_totals_39 hk_40) pk_X0_add mw_3_85 ⟨rfl, rfl, Nat.le_of_ble_eq_true rfl, Nat.le_of_ble_eq_true rfl⟩ rfl rfl rfl rfl rfl (Nat.le_of_ble_eq_true rfl) ⟨Nat.le_of_ble_eq_true rfl, Nat.le_of_ble_eq_true rfl⟩ dX0_draftsAbout_66 (fun H locs hP hD hS => ?_)
        refine lv_iinc (v := (y3 + (1 : Int32))) (lv' := [(3, .int (y3 + (1 : Int32))), (4, .int r_33), (0, .ref (a 21)), (1, .int y1), (2, .int y2)]) hx hb dX0_draftsAbout_69 hl (k := 4) rfl rfl (by decide) rfl (fun ls hl => ?_)
        refine lv_goto (tgt := 15) hx hb dX0_draftsAbout_72 (by decide) ?_
        exact w_15 v8_sizes v8_coefficients v0_totals_39 y1 y2 (y3 + (1 : Int32)) H locs ls hf hP hD hS (lv_sub hl [2, 3, 4, 0] rfl)
  refine lv_aload_n hx hb dX0_draftsAbout_0 rfl (lv_at hl 0 rfl) ?_
  refine va_get (ci := 0) (v := .ref (a 17)) hx hb hts wX0_in hown hK hP 0 rfl rfl 4 (by decide) (hts _ mw_2_20) (fun _ h9 => h9) rfl dX0_draftsAbout_1 ?_
  refine lv_iload_n hx hb dX0_draftsAbout_4 rfl (lv_at hl 1 rfl) ?_
  obtain ⟨r_41, hk_42, hf⟩ := pe_1 hf
  refine xv_i (As := [.int x1]) (rest := []) (q0 := 0) (ci := 8) Cx hP hD hS hl (pl_X0_X8 a cyI cyJ v0_totals v7_rows v7_lengths v7_sizes v7_rests v7_orders v6_hooks v6_lefts v6_heights v1_table v5_known v8_sizes v8_coefficients v8_undoneSums v8_undos v8_nextUndo v8_imageTaken v8_sizes v8_coefficients v8_undoneSums v8_undos v8_nextUndo v8_imageTaken) (c_X8_sizeOf l D cyI cyJ G a H.size v8_sizes v8_coefficients v8_undoneSums v8_undos v8_nextUndo v8_imageTaken x1 r_41 hk_42) pk_X8_sizeOf mw_3_89 ⟨rfl, rfl, Nat.le_of_ble_eq_true rfl, Nat.le_of_ble_eq_true rfl⟩ rfl rfl rfl rfl rfl (Nat.le_of_ble_eq_true rfl) ⟨Nat.le_of_ble_eq_true rfl, Nat.le_of_ble_eq_true rfl⟩ dX0_draftsAbout_5 (fun H locs hP hD hS => ?_)
  refine lv_istore_n (lv' := [(2, .int r_41), (0, .ref (a 21)), (1, .int x1)]) hx hb dX0_draftsAbout_8 rfl hl (by decide) rfl (fun ls hl => ?_)
  refine lv_aload_n hx hb dX0_draftsAbout_9 rfl (lv_at hl 1 rfl) ?_
  obtain ⟨v0_totals_43, hk_44, hf⟩ := pe_1 hf
  refine xv_v (As := []) (rest := []) (q0 := 0) (ci := 0) Cx hP hD hS hl (pl_X0_X0 a cyI cyJ v0_totals v7_rows v7_lengths v7_sizes v7_rests v7_orders v6_hooks v6_lefts v6_heights v1_table v5_known v8_sizes v8_coefficients v8_undoneSums v8_undos v8_nextUndo v8_imageTaken v0_totals_43 v7_rows v7_lengths v7_sizes v7_rests v7_orders v6_hooks v6_lefts v6_heights v1_table v5_known v8_sizes v8_coefficients v8_undoneSums v8_undos v8_nextUndo v8_imageTaken) (c_X0_begin l D cyI cyJ G a H.size v0_totals v7_rows v7_lengths v7_sizes v7_rests v7_orders v6_hooks v6_lefts v6_heights v1_table v5_known v8_sizes v8_coefficients v8_undoneSums v8_undos v8_nextUndo v8_imageTaken v0_totals_43 hk_44) pk_X0_begin mw_3_80 ⟨rfl, rfl, Nat.le_of_ble_eq_true rfl, Nat.le_of_ble_eq_true rfl⟩ rfl rfl rfl rfl rfl (Nat.le_of_ble_eq_true rfl) ⟨Nat.le_of_ble_eq_true rfl, Nat.le_of_ble_eq_true rfl⟩ dX0_draftsAbout_10 (fun H locs hP hD hS => ?_)
  refine lv_iconst (v := (0 : Int32)) hx hb dX0_draftsAbout_13 (by decide) ?_
  refine lv_istore_n (lv' := [(3, .int (0 : Int32)), (2, .int r_41), (0, .ref (a 21)), (1, .int x1)]) hx hb dX0_draftsAbout_14 rfl hl (by decide) rfl (fun ls hl => ?_)
  exact w_15 1000 v8_sizes v8_coefficients v0_totals_43 x1 r_41 (0 : Int32) H locs ls hf hP hD hS (lv_sub hl [2, 3, 1, 0] rfl)
def gf_X0_draftsRestricted_42 (K_42 : (Nat → Int32) → (Nat → Int32) → (Nat → Int64) → Int32 → Int32 → Int32 → Int32 → Int32 → Option (Int32 × (Nat → Int32) × (Nat → Int32) × (Nat → Int64))) (K_15 : (Nat → Int32) → (Nat → Int32) → (Nat → Int64) → Int32 → Int32 → Int32 → Option (Int32 × (Nat → Int32) × (Nat → Int32) × (Nat → Int64))) (v7_sizes : Nat → Int32) (v6_hooks : Nat → Int32) (v6_lefts : Nat → Int32) (v8_sizes : Nat → Int32) (v8_coefficients : Nat → Int32) (v0_totals : Nat → Int64) (y1 : Int32) (y2 : Int32) (y3 : Int32) (y4 : Int32) (y5 : Int32) : Option (Int32 × (Nat → Int32) × (Nat → Int32) × (Nat → Int64)) := if y2 ≤ y5 then (K_15 v8_sizes v8_coefficients v0_totals y1 y2 (y3 + (1 : Int32))) else (p_b1 (f_X6_hookBy v6_hooks y4 y5) (fun r_2 => if r_2 = (1 : Int32) then (p_b1 (f_X6_leftBy v6_lefts y4 y5) (fun r_5 => p_b1 (f_X7_placeOf v7_sizes r_5) (fun r_7 => p_b1 (f_X8_at v8_coefficients y1 y3) (fun r_9 => p_b1 (f_X0_add v0_totals r_7 (Int32.toInt64 r_9)) (fun v0_totals_11 => K_42 v8_sizes v8_coefficients v0_totals_11 y1 y2 y3 y4 (y5 + (1 : Int32))))))) else (K_42 v8_sizes v8_coefficients v0_totals y1 y2 y3 y4 (y5 + (1 : Int32)))))
def f_X0_draftsRestricted_42 (K_15 : (Nat → Int32) → (Nat → Int32) → (Nat → Int64) → Int32 → Int32 → Int32 → Option (Int32 × (Nat → Int32) × (Nat → Int32) × (Nat → Int64))) (v7_sizes : Nat → Int32) (v6_hooks : Nat → Int32) (v6_lefts : Nat → Int32) : Nat → (Nat → Int32) → (Nat → Int32) → (Nat → Int64) → Int32 → Int32 → Int32 → Int32 → Int32 → Option (Int32 × (Nat → Int32) × (Nat → Int32) × (Nat → Int64))
  | 0 => fun _ _ _ _ _ _ _ _ => none
  | n + 1 => gf_X0_draftsRestricted_42 (f_X0_draftsRestricted_42 K_15 v7_sizes v6_hooks v6_lefts n) K_15 v7_sizes v6_hooks v6_lefts
def gf_X0_draftsRestricted_15 (K_15 : (Nat → Int32) → (Nat → Int32) → (Nat → Int64) → Int32 → Int32 → Int32 → Option (Int32 × (Nat → Int32) × (Nat → Int32) × (Nat → Int64))) (v7_sizes : Nat → Int32) (v6_hooks : Nat → Int32) (v6_lefts : Nat → Int32) (v8_sizes : Nat → Int32) (v8_coefficients : Nat → Int32) (v0_totals : Nat → Int64) (y1 : Int32) (y2 : Int32) (y3 : Int32) : Option (Int32 × (Nat → Int32) × (Nat → Int32) × (Nat → Int64)) := p_b1 (f_X7_countOf y2) (fun r_13 => if r_13 ≤ y3 then (p_b3 (f_X0_draftsTotals v8_sizes v8_coefficients v0_totals (y2 - (1 : Int32))) (fun r_16 v8_sizes_17 v8_coefficients_18 => some (r_16, v8_sizes_17, v8_coefficients_18, v0_totals))) else (p_b1 (f_X7_firstOf y2) (fun r_21 => (f_X0_draftsRestricted_42 K_15 v7_sizes v6_hooks v6_lefts 1000) v8_sizes v8_coefficients v0_totals y1 y2 y3 (r_21 + y3) (0 : Int32))))
def f_X0_draftsRestricted_15 (v7_sizes : Nat → Int32) (v6_hooks : Nat → Int32) (v6_lefts : Nat → Int32) : Nat → (Nat → Int32) → (Nat → Int32) → (Nat → Int64) → Int32 → Int32 → Int32 → Option (Int32 × (Nat → Int32) × (Nat → Int32) × (Nat → Int64))
  | 0 => fun _ _ _ _ _ _ => none
  | n + 1 => gf_X0_draftsRestricted_15 (f_X0_draftsRestricted_15 v7_sizes v6_hooks v6_lefts n) v7_sizes v6_hooks v6_lefts
def f_X0_draftsRestricted (v7_sizes : Nat → Int32) (v6_hooks : Nat → Int32) (v6_lefts : Nat → Int32) (v8_sizes : Nat → Int32) (v8_coefficients : Nat → Int32) (v0_totals : Nat → Int64) (x1 : Int32) : Option (Int32 × (Nat → Int32) × (Nat → Int32) × (Nat → Int64)) := p_b1 (f_X8_sizeOf v8_sizes x1) (fun r_23 => p_b1 (f_X0_begin v0_totals) (fun v0_totals_25 => (f_X0_draftsRestricted_15 v7_sizes v6_hooks v6_lefts 1000) v8_sizes v8_coefficients v0_totals_25 x1 r_23 (0 : Int32)))
set_option maxHeartbeats 4000000 in
set_option maxRecDepth 20000 in
theorem c_X0_draftsRestricted (l : Launch) (D : va_G) (cyI cyJ : ClassId) (G a : Nat → Nat) (sz : Nat) (v0_totals : Nat → Int64) (v7_rows : Nat → Int32) (v7_lengths : Nat → Int32) (v7_sizes : Nat → Int32) (v7_rests : Nat → Int32) (v7_orders : Nat → Int32) (v6_hooks : Nat → Int32) (v6_lefts : Nat → Int32) (v6_heights : Nat → Int32) (v1_table : Nat → Int32) (v5_known : Nat → Int32) (v8_sizes : Nat → Int32) (v8_coefficients : Nat → Int32) (v8_undoneSums : Nat → Int32) (v8_undos : Int32) (v8_nextUndo : Int32) (v8_imageTaken : Int32) (x1 : Int32) (ro : Int32) (ov8_sizes : Nat → Int32) (ov8_coefficients : Nat → Int32) (ov0_totals : Nat → Int64) (hf : f_X0_draftsRestricted v7_sizes v6_hooks v6_lefts v8_sizes v8_coefficients v0_totals x1 = some (ro, ov8_sizes, ov8_coefficients, ov0_totals)) : xm_z l yX0_draftsRestricted (Cond.code yX0_draftsRestricted cX0_draftsRestricted 6 (some .boolean) :: xg_tbl) { frames := 3, cells := 0, slots := 0, locals := 65 } D xcl [(cyI, .int), (cyJ, .long)] G sz [.ref (a 21), .int x1] (wd_X0 a cyI cyJ v0_totals v7_rows v7_lengths v7_sizes v7_rests v7_orders v6_hooks v6_lefts v6_heights v1_table v5_known v8_sizes v8_coefficients v8_undoneSums v8_undos v8_nextUndo v8_imageTaken) (wd_X0 a cyI cyJ ov0_totals v7_rows v7_lengths v7_sizes v7_rests v7_orders v6_hooks v6_lefts v6_heights v1_table v5_known ov8_sizes ov8_coefficients v8_undoneSums v8_undos v8_nextUndo v8_imageTaken) ro := by
  refine xm_of_z (own := RX0) (by decide) rfl rfl (Nat.le_of_ble_eq_true rfl) ?_
  intro p e s m args below meth c ls Q A hQ hAe hin Cx hsz hP hD hS hl
  have Cx1 := Cx
  obtain ⟨⟨hx, hb, hml, hown, hts⟩, hr, hlocks, hK, hA, hT⟩ := Cx1
  have hl : lv_has ls 6 [(0, .ref (a 21)), (1, .int x1)] := hl
  obtain ⟨H, eH⟩ : ∃ H, H = s.heap := ⟨_, rfl⟩
  obtain ⟨locs, eL⟩ : ∃ L : List Loc, L = [] := ⟨_, rfl⟩
  rw [← eH] at hP
  have hS : va_S A s.heap H locs := by rw [eH, eL]; exact hS
  suffices hgo : W p l e { frames := 3, cells := 0, slots := 0, locals := 65 } s m args below meth c H locs 0 0 Q (F0 m 0 ls []) by rw [eH, eL] at hgo; exact hgo
  clear eH eL
  unfold f_X0_draftsRestricted at hf
  have w_15 : ∀ (n_15 : Nat) (v8_sizes : Nat → Int32) (v8_coefficients : Nat → Int32) (v0_totals : Nat → Int64) (y1 : Int32) (y2 : Int32) (y3 : Int32) (H : Heap) (locs : List Loc) (ls : Array Slot), (f_X0_draftsRestricted_15 v7_sizes v6_hooks v6_lefts) n_15 v8_sizes v8_coefficients v0_totals y1 y2 y3 = some (ro, ov8_sizes, ov8_coefficients, ov0_totals) → va_P D xcl (wd_X0 a cyI cyJ v0_totals v7_rows v7_lengths v7_sizes v7_rests v7_orders v6_hooks v6_lefts v6_heights v1_table v5_known v8_sizes v8_coefficients v8_undoneSums v8_undos v8_nextUndo v8_imageTaken) H → va_D A (wd_X0 a cyI cyJ v0_totals v7_rows v7_lengths v7_sizes v7_rests v7_orders v6_hooks v6_lefts v6_heights v1_table v5_known v8_sizes v8_coefficients v8_undoneSums v8_undos v8_nextUndo v8_imageTaken) → va_S A s.heap H locs → lv_has ls 6 [(0, .ref (a 21)), (1, .int y1), (2, .int y2), (3, .int y3)] → W p l e { frames := 3, cells := 0, slots := 0, locals := 65 } s m args below meth c H locs 0 0 Q (F0 m 15 ls []) := by
    intro n_15
    induction n_15 with
    | zero => intro v8_sizes v8_coefficients v0_totals y1 y2 y3 H locs ls hf; exact absurd hf (by intro h9; cases h9)
    | succ n_15 w_15 =>
      intro v8_sizes v8_coefficients v0_totals y1 y2 y3 H locs ls hf hP hD hS hl
      have hf : gf_X0_draftsRestricted_15 ((f_X0_draftsRestricted_15 v7_sizes v6_hooks v6_lefts) n_15) v7_sizes v6_hooks v6_lefts v8_sizes v8_coefficients v0_totals y1 y2 y3 = some (ro, ov8_sizes, ov8_coefficients, ov0_totals) := hf
      unfold gf_X0_draftsRestricted_15 at hf
      have w_42 : ∀ (n_42 : Nat) (v8_sizes : Nat → Int32) (v8_coefficients : Nat → Int32) (v0_totals : Nat → Int64) (y1 : Int32) (y2 : Int32) (y3 : Int32) (y4 : Int32) (y5 : Int32) (H : Heap) (locs : List Loc) (ls : Array Slot), (f_X0_draftsRestricted_42 ((f_X0_draftsRestricted_15 v7_sizes v6_hooks v6_lefts) n_15) v7_sizes v6_hooks v6_lefts) n_42 v8_sizes v8_coefficients v0_totals y1 y2 y3 y4 y5 = some (ro, ov8_sizes, ov8_coefficients, ov0_totals) → va_P D xcl (wd_X0 a cyI cyJ v0_totals v7_rows v7_lengths v7_sizes v7_rests v7_orders v6_hooks v6_lefts v6_heights v1_table v5_known v8_sizes v8_coefficients v8_undoneSums v8_undos v8_nextUndo v8_imageTaken) H → va_D A (wd_X0 a cyI cyJ v0_totals v7_rows v7_lengths v7_sizes v7_rests v7_orders v6_hooks v6_lefts v6_heights v1_table v5_known v8_sizes v8_coefficients v8_undoneSums v8_undos v8_nextUndo v8_imageTaken) → va_S A s.heap H locs → lv_has ls 6 [(0, .ref (a 21)), (1, .int y1), (2, .int y2), (3, .int y3), (4, .int y4), (5, .int y5)] → W p l e { frames := 3, cells := 0, slots := 0, locals := 65 } s m args below meth c H locs 0 0 Q (F0 m 42 ls []) := by
        intro n_42
        induction n_42 with
        | zero => intro v8_sizes v8_coefficients v0_totals y1 y2 y3 y4 y5 H locs ls hf; exact absurd hf (by intro h9; cases h9)
        | succ n_42 w_42 =>
          intro v8_sizes v8_coefficients v0_totals y1 y2 y3 y4 y5 H locs ls hf hP hD hS hl
          have hf : gf_X0_draftsRestricted_42 ((f_X0_draftsRestricted_42 ((f_X0_draftsRestricted_15 v7_sizes v6_hooks v6_lefts) n_15) v7_sizes v6_hooks v6_lefts) n_42) ((f_X0_draftsRestricted_15 v7_sizes v6_hooks v6_lefts) n_15) v7_sizes v6_hooks v6_lefts v8_sizes v8_coefficients v0_totals y1 y2 y3 y4 y5 = some (ro, ov8_sizes, ov8_coefficients, ov0_totals) := hf
          unfold gf_X0_draftsRestricted_42 at hf
          refine lv_iload hx hb dX0_draftsRestricted_42 (lv_at hl 5 rfl) ?_
          refine lv_iload_n hx hb dX0_draftsRestricted_44 rfl (lv_at hl 2 rfl) ?_
          refine lv_icmp_ge (tgt := 101) hx hb dX0_draftsRestricted_45 (by decide) (fun hc_27 => ?_) (fun hc_27 => ?_)
          · have hf := pe_t hf hc_27
            refine lv_iinc (v := (y3 + (1 : Int32))) (lv' := [(3, .int (y3 + (1 : Int32))), (0, .ref (a 21)), (1, .int y1), (2, .int y2), (4, .int y4), (5, .int y5)]) hx hb dX0_draftsRestricted_101 hl (k := 3) rfl rfl (by decide) rfl (fun ls hl => ?_)
            refine lv_goto (tgt := 15) hx hb dX0_draftsRestricted_104 (by decide) ?_
            exact w_15 v8_sizes v8_coefficients v0_totals y1 y2 (y3 + (1 : Int32)) H locs ls hf hP hD hS (lv_sub hl [1, 2, 3, 0] rfl)
          · have hf := pe_f hf hc_27
            refine lv_aload_n hx hb dX0_draftsRestricted_48 rfl (lv_at hl 0 rfl) ?_
            refine va_get (ci := 0) (v := .ref (a 8)) hx hb hts wX0_in hown hK hP 0 rfl rfl 1 (by decide) (hts _ mw_2_17) (fun _ h9 => h9) rfl dX0_draftsRestricted_49 ?_
            refine lv_iload hx hb dX0_draftsRestricted_52 (lv_at hl 4 rfl) ?_
            refine lv_iload hx hb dX0_draftsRestricted_54 (lv_at hl 5 rfl) ?_
            obtain ⟨r_28, hk_29, hf⟩ := pe_1 hf
            refine xv_i (As := [.int y4, .int y5]) (rest := []) (q0 := 0) (ci := 6) Cx hP hD hS hl (pl_X0_X6 a cyI cyJ v0_totals v7_rows v7_lengths v7_sizes v7_rests v7_orders v6_hooks v6_lefts v6_heights v1_table v5_known v8_sizes v8_coefficients v8_undoneSums v8_undos v8_nextUndo v8_imageTaken v6_hooks v6_lefts v6_heights v7_rows v7_lengths v7_sizes v7_rests v7_orders) (c_X6_hookBy l D cyI cyJ G a H.size v6_hooks v6_lefts v6_heights v7_rows v7_lengths v7_sizes v7_rests v7_orders y4 y5 r_28 hk_29) pk_X6_hookBy mw_3_130 ⟨rfl, rfl, Nat.le_of_ble_eq_true rfl, Nat.le_of_ble_eq_true rfl⟩ rfl rfl rfl rfl rfl (Nat.le_of_ble_eq_true rfl) ⟨Nat.le_of_ble_eq_true rfl, Nat.le_of_ble_eq_true rfl⟩ dX0_draftsRestricted_56 (fun H locs hP hD hS => ?_)
            refine lv_iconst (v := (1 : Int32)) hx hb dX0_draftsRestricted_59 (by decide) ?_
            refine lv_icmp_ne (tgt := 95) hx hb dX0_draftsRestricted_60 (by decide) (fun hc_30 => ?_) (fun hc_30 => ?_)
            · have hf := pe_f hf hc_30
              refine lv_iinc (v := (y5 + (1 : Int32))) (lv' := [(5, .int (y5 + (1 : Int32))), (0, .ref (a 21)), (1, .int y1), (2, .int y2), (3, .int y3), (4, .int y4)]) hx hb dX0_draftsRestricted_95 hl (k := 5) rfl rfl (by decide) rfl (fun ls hl => ?_)
              refine lv_goto (tgt := 42) hx hb dX0_draftsRestricted_98 (by decide) ?_
              exact w_42 v8_sizes v8_coefficients v0_totals y1 y2 y3 y4 (y5 + (1 : Int32)) H locs ls hf hP hD hS (lv_sub hl [1, 2, 3, 4, 5, 0] rfl)
            · have hf := pe_t hf hc_30
              refine lv_aload_n hx hb dX0_draftsRestricted_63 rfl (lv_at hl 0 rfl) ?_
              refine lv_aload_n hx hb dX0_draftsRestricted_64 rfl (lv_at hl 0 rfl) ?_
              refine va_get (ci := 0) (v := .ref (a 2)) hx hb hts wX0_in hown hK hP 0 rfl rfl 0 (by decide) (hts _ mw_2_16) (fun _ h9 => h9) rfl dX0_draftsRestricted_65 ?_
              refine lv_aload_n hx hb dX0_draftsRestricted_68 rfl (lv_at hl 0 rfl) ?_
              refine va_get (ci := 0) (v := .ref (a 8)) hx hb hts wX0_in hown hK hP 0 rfl rfl 1 (by decide) (hts _ mw_2_17) (fun _ h9 => h9) rfl dX0_draftsRestricted_69 ?_
              refine lv_iload hx hb dX0_draftsRestricted_72 (lv_at hl 4 rfl) ?_
              refine lv_iload hx hb dX0_draftsRestricted_74 (lv_at hl 5 rfl) ?_
              obtain ⟨r_31, hk_32, hf⟩ := pe_1 hf
              refine xv_i (As := [.int y4, .int y5]) (rest := [.ref (a 2), .ref (a 21)]) (q0 := 0) (ci := 6) Cx hP hD hS hl (pl_X0_X6 a cyI cyJ v0_totals v7_rows v7_lengths v7_sizes v7_rests v7_orders v6_hooks v6_lefts v6_heights v1_table v5_known v8_sizes v8_coefficients v8_undoneSums v8_undos v8_nextUndo v8_imageTaken v6_hooks v6_lefts v6_heights v7_rows v7_lengths v7_sizes v7_rests v7_orders) (c_X6_leftBy l D cyI cyJ G a H.size v6_hooks v6_lefts v6_heights v7_rows v7_lengths v7_sizes v7_rests v7_orders y4 y5 r_31 hk_32) pk_X6_leftBy mw_3_131 ⟨rfl, rfl, Nat.le_of_ble_eq_true rfl, Nat.le_of_ble_eq_true rfl⟩ rfl rfl rfl rfl rfl (Nat.le_of_ble_eq_true rfl) ⟨Nat.le_of_ble_eq_true rfl, Nat.le_of_ble_eq_true rfl⟩ dX0_draftsRestricted_76 (fun H locs hP hD hS => ?_)
              obtain ⟨r_33, hk_34, hf⟩ := pe_1 hf
              refine xv_i (As := [.int r_31]) (rest := [.ref (a 21)]) (q0 := 0) (ci := 7) Cx hP hD hS hl (pl_X0_X7 a cyI cyJ v0_totals v7_rows v7_lengths v7_sizes v7_rests v7_orders v6_hooks v6_lefts v6_heights v1_table v5_known v8_sizes v8_coefficients v8_undoneSums v8_undos v8_nextUndo v8_imageTaken v7_rows v7_lengths v7_sizes v7_rests v7_orders) (c_X7_placeOf l D cyI cyJ G a H.size v7_rows v7_lengths v7_sizes v7_rests v7_orders r_31 r_33 hk_34) pk_X7_placeOf mw_3_125 ⟨rfl, rfl, Nat.le_of_ble_eq_true rfl, Nat.le_of_ble_eq_true rfl⟩ rfl rfl rfl rfl rfl (Nat.le_of_ble_eq_true rfl) ⟨Nat.le_of_ble_eq_true rfl, Nat.le_of_ble_eq_true rfl⟩ dX0_draftsRestricted_79 (fun H locs hP hD hS => ?_)
              refine lv_aload_n hx hb dX0_draftsRestricted_82 rfl (lv_at hl 0 rfl) ?_
              refine va_get (ci := 0) (v := .ref (a 17)) hx hb hts wX0_in hown hK hP 0 rfl rfl 4 (by decide) (hts _ mw_2_20) (fun _ h9 => h9) rfl dX0_draftsRestricted_83 ?_
              refine lv_iload_n hx hb dX0_draftsRestricted_86 rfl (lv_at hl 1 rfl) ?_
              refine lv_iload_n hx hb dX0_draftsRestricted_87 rfl (lv_at hl 3 rfl) ?_
              obtain ⟨r_35, hk_36, hf⟩ := pe_1 hf
              refine xv_i (As := [.int y1, .int y3]) (rest := [.int r_33, .ref (a 21)]) (q0 := 0) (ci := 8) Cx hP hD hS hl (pl_X0_X8 a cyI cyJ v0_totals v7_rows v7_lengths v7_sizes v7_rests v7_orders v6_hooks v6_lefts v6_heights v1_table v5_known v8_sizes v8_coefficients v8_undoneSums v8_undos v8_nextUndo v8_imageTaken v8_sizes v8_coefficients v8_undoneSums v8_undos v8_nextUndo v8_imageTaken) (c_X8_at l D cyI cyJ G a H.size v8_sizes v8_coefficients v8_undoneSums v8_undos v8_nextUndo v8_imageTaken y1 y3 r_35 hk_36) pk_X8_at mw_3_84 ⟨rfl, rfl, Nat.le_of_ble_eq_true rfl, Nat.le_of_ble_eq_true rfl⟩ rfl rfl rfl rfl rfl (Nat.le_of_ble_eq_true rfl) ⟨Nat.le_of_ble_eq_true rfl, Nat.le_of_ble_eq_true rfl⟩ dX0_draftsRestricted_88 (fun H locs hP hD hS => ?_)
              refine lv_i2l (v := Int32.toInt64 r_35) hx hb dX0_draftsRestricted_91 rfl ?_
              obtain ⟨v0_totals_37, hk_38, hf⟩ := pe_1 hf
              refine xv_v (As := [.int r_33, .long (Int32.toInt64 r_35)]) (rest := []) (q0 := 0) (ci := 0) Cx hP hD hS hl (pl_X0_X0 a cyI cyJ v0_totals v7_rows v7_lengths v7_sizes v7_rests v7_orders v6_hooks v6_lefts v6_heights v1_table v5_known v8_sizes v8_coefficients v8_undoneSums v8_undos v8_nextUndo v8_imageTaken v0_totals_37 v7_rows v7_lengths v7_sizes v7_rests v7_orders v6_hooks v6_lefts v6_heights v1_table v5_known v8_sizes v8_coefficients v8_undoneSums v8_undos v8_nextUndo v8_imageTaken) (c_X0_add l D cyI cyJ G a H.size v0_totals v7_rows v7_lengths v7_sizes v7_rests v7_orders v6_hooks v6_lefts v6_heights v1_table v5_known v8_sizes v8_coefficients v8_undoneSums v8_undos v8_nextUndo v8_imageTaken r_33 (Int32.toInt64 r_35) v0_totals_37 hk_38) pk_X0_add mw_3_85 ⟨rfl, rfl, Nat.le_of_ble_eq_true rfl, Nat.le_of_ble_eq_true rfl⟩ rfl rfl rfl rfl rfl (Nat.le_of_ble_eq_true rfl) ⟨Nat.le_of_ble_eq_true rfl, Nat.le_of_ble_eq_true rfl⟩ dX0_draftsRestricted_92 (fun H locs hP hD hS => ?_)
              refine lv_iinc (v := (y5 + (1 : Int32))) (lv' := [(5, .int (y5 + (1 : Int32))), (0, .ref (a 21)), (1, .int y1), (2, .int y2), (3, .int y3), (4, .int y4)]) hx hb dX0_draftsRestricted_95 hl (k := 5) rfl rfl (by decide) rfl (fun ls hl => ?_)
              refine lv_goto (tgt := 42) hx hb dX0_draftsRestricted_98 (by decide) ?_
              exact w_42 v8_sizes v8_coefficients v0_totals_37 y1 y2 y3 y4 (y5 + (1 : Int32)) H locs ls hf hP hD hS (lv_sub hl [1, 2, 3, 4, 5, 0] rfl)
      refine lv_iload_n hx hb dX0_draftsRestricted_15 rfl (lv_at hl 3 rfl) ?_
      refine lv_aload_n hx hb dX0_draftsRestricted_16 rfl (lv_at hl 0 rfl) ?_
      refine va_get (ci := 0) (v := .ref (a 2)) hx hb hts wX0_in hown hK hP 0 rfl rfl 0 (by decide) (hts _ mw_2_16) (fun _ h9 => h9) rfl dX0_draftsRestricted_17 ?_
      refine lv_iload_n hx hb dX0_draftsRestricted_20 rfl (lv_at hl 2 rfl) ?_
      obtain ⟨r_39, hk_40, hf⟩ := pe_1 hf
      refine xv_i (As := [.int y2]) (rest := [.int y3]) (q0 := 0) (ci := 7) Cx hP hD hS hl (pl_X0_X7 a cyI cyJ v0_totals v7_rows v7_lengths v7_sizes v7_rests v7_orders v6_hooks v6_lefts v6_heights v1_table v5_known v8_sizes v8_coefficients v8_undoneSums v8_undos v8_nextUndo v8_imageTaken v7_rows v7_lengths v7_sizes v7_rests v7_orders) (c_X7_countOf l D cyI cyJ G a H.size v7_rows v7_lengths v7_sizes v7_rests v7_orders y2 r_39 hk_40) pk_X7_countOf mw_3_105 ⟨rfl, rfl, Nat.le_of_ble_eq_true rfl, Nat.le_of_ble_eq_true rfl⟩ rfl rfl rfl rfl rfl (Nat.le_of_ble_eq_true rfl) ⟨Nat.le_of_ble_eq_true rfl, Nat.le_of_ble_eq_true rfl⟩ dX0_draftsRestricted_21 (fun H locs hP hD hS => ?_)
      refine lv_icmp_ge (tgt := 107) hx hb dX0_draftsRestricted_24 (by decide) (fun hc_41 => ?_) (fun hc_41 => ?_)
      · have hf := pe_t hf hc_41
        refine lv_aload_n hx hb dX0_draftsRestricted_107 rfl (lv_at hl 0 rfl) ?_
        refine lv_iload_n hx hb dX0_draftsRestricted_108 rfl (lv_at hl 2 rfl) ?_
        refine lv_iconst (v := (1 : Int32)) hx hb dX0_draftsRestricted_109 (by decide) ?_
        refine lv_isub hx hb dX0_draftsRestricted_110 ?_
        obtain ⟨r_42, v8_sizes_43, v8_coefficients_44, hk_45, hf⟩ := pe_3 hf
        refine xv_z (As := [.int (y2 - (1 : Int32))]) (rest := []) (q0 := 0) (ci := 0) Cx hP hD hS hl (pl_X0_X0 a cyI cyJ v0_totals v7_rows v7_lengths v7_sizes v7_rests v7_orders v6_hooks v6_lefts v6_heights v1_table v5_known v8_sizes v8_coefficients v8_undoneSums v8_undos v8_nextUndo v8_imageTaken v0_totals v7_rows v7_lengths v7_sizes v7_rests v7_orders v6_hooks v6_lefts v6_heights v1_table v5_known v8_sizes_43 v8_coefficients_44 v8_undoneSums v8_undos v8_nextUndo v8_imageTaken) (c_X0_draftsTotals l D cyI cyJ G a H.size v0_totals v7_rows v7_lengths v7_sizes v7_rests v7_orders v6_hooks v6_lefts v6_heights v1_table v5_known v8_sizes v8_coefficients v8_undoneSums v8_undos v8_nextUndo v8_imageTaken (y2 - (1 : Int32)) r_42 v8_sizes_43 v8_coefficients_44 hk_45) pk_X0_draftsTotals mw_3_90 ⟨rfl, rfl, Nat.le_of_ble_eq_true rfl, Nat.le_of_ble_eq_true rfl⟩ rfl rfl rfl rfl rfl (Nat.le_of_ble_eq_true rfl) ⟨Nat.le_of_ble_eq_true rfl, Nat.le_of_ble_eq_true rfl⟩ dX0_draftsRestricted_111 (fun H locs hn_46 hP hD hS => ?_)
        obtain ⟨rfl, rfl, rfl, rfl⟩ := po_4 hf
        rw [← hQ]; exact xe_zret Cx rfl hn_46 hP hD hS dX0_draftsRestricted_114
      · have hf := pe_f hf hc_41
        refine lv_aload_n hx hb dX0_draftsRestricted_27 rfl (lv_at hl 0 rfl) ?_
        refine va_get (ci := 0) (v := .ref (a 2)) hx hb hts wX0_in hown hK hP 0 rfl rfl 0 (by decide) (hts _ mw_2_16) (fun _ h9 => h9) rfl dX0_draftsRestricted_28 ?_
        refine lv_iload_n hx hb dX0_draftsRestricted_31 rfl (lv_at hl 2 rfl) ?_
        obtain ⟨r_47, hk_48, hf⟩ := pe_1 hf
        refine xv_i (As := [.int y2]) (rest := []) (q0 := 0) (ci := 7) Cx hP hD hS hl (pl_X0_X7 a cyI cyJ v0_totals v7_rows v7_lengths v7_sizes v7_rests v7_orders v6_hooks v6_lefts v6_heights v1_table v5_known v8_sizes v8_coefficients v8_undoneSums v8_undos v8_nextUndo v8_imageTaken v7_rows v7_lengths v7_sizes v7_rests v7_orders) (c_X7_firstOf l D cyI cyJ G a H.size v7_rows v7_lengths v7_sizes v7_rests v7_orders y2 r_47 hk_48) pk_X7_firstOf mw_3_123 ⟨rfl, rfl, Nat.le_of_ble_eq_true rfl, Nat.le_of_ble_eq_true rfl⟩ rfl rfl rfl rfl rfl (Nat.le_of_ble_eq_true rfl) ⟨Nat.le_of_ble_eq_true rfl, Nat.le_of_ble_eq_true rfl⟩ dX0_draftsRestricted_32 (fun H locs hP hD hS => ?_)
        refine lv_iload_n hx hb dX0_draftsRestricted_35 rfl (lv_at hl 3 rfl) ?_
        refine lv_iadd hx hb dX0_draftsRestricted_36 ?_
        refine lv_istore (lv' := [(4, .int (r_47 + y3)), (0, .ref (a 21)), (1, .int y1), (2, .int y2), (3, .int y3)]) hx hb dX0_draftsRestricted_37 hl (by decide) rfl (fun ls hl => ?_)
        refine lv_iconst (v := (0 : Int32)) hx hb dX0_draftsRestricted_39 (by decide) ?_
        refine lv_istore (lv' := [(5, .int (0 : Int32)), (4, .int (r_47 + y3)), (0, .ref (a 21)), (1, .int y1), (2, .int y2), (3, .int y3)]) hx hb dX0_draftsRestricted_40 hl (by decide) rfl (fun ls hl => ?_)
        exact w_42 1000 v8_sizes v8_coefficients v0_totals y1 y2 y3 (r_47 + y3) (0 : Int32) H locs ls hf hP hD hS (lv_sub hl [2, 3, 4, 5, 1, 0] rfl)
  refine lv_aload_n hx hb dX0_draftsRestricted_0 rfl (lv_at hl 0 rfl) ?_
  refine va_get (ci := 0) (v := .ref (a 17)) hx hb hts wX0_in hown hK hP 0 rfl rfl 4 (by decide) (hts _ mw_2_20) (fun _ h9 => h9) rfl dX0_draftsRestricted_1 ?_
  refine lv_iload_n hx hb dX0_draftsRestricted_4 rfl (lv_at hl 1 rfl) ?_
  obtain ⟨r_49, hk_50, hf⟩ := pe_1 hf
  refine xv_i (As := [.int x1]) (rest := []) (q0 := 0) (ci := 8) Cx hP hD hS hl (pl_X0_X8 a cyI cyJ v0_totals v7_rows v7_lengths v7_sizes v7_rests v7_orders v6_hooks v6_lefts v6_heights v1_table v5_known v8_sizes v8_coefficients v8_undoneSums v8_undos v8_nextUndo v8_imageTaken v8_sizes v8_coefficients v8_undoneSums v8_undos v8_nextUndo v8_imageTaken) (c_X8_sizeOf l D cyI cyJ G a H.size v8_sizes v8_coefficients v8_undoneSums v8_undos v8_nextUndo v8_imageTaken x1 r_49 hk_50) pk_X8_sizeOf mw_3_89 ⟨rfl, rfl, Nat.le_of_ble_eq_true rfl, Nat.le_of_ble_eq_true rfl⟩ rfl rfl rfl rfl rfl (Nat.le_of_ble_eq_true rfl) ⟨Nat.le_of_ble_eq_true rfl, Nat.le_of_ble_eq_true rfl⟩ dX0_draftsRestricted_5 (fun H locs hP hD hS => ?_)
  refine lv_istore_n (lv' := [(2, .int r_49), (0, .ref (a 21)), (1, .int x1)]) hx hb dX0_draftsRestricted_8 rfl hl (by decide) rfl (fun ls hl => ?_)
  refine lv_aload_n hx hb dX0_draftsRestricted_9 rfl (lv_at hl 1 rfl) ?_
  obtain ⟨v0_totals_51, hk_52, hf⟩ := pe_1 hf
  refine xv_v (As := []) (rest := []) (q0 := 0) (ci := 0) Cx hP hD hS hl (pl_X0_X0 a cyI cyJ v0_totals v7_rows v7_lengths v7_sizes v7_rests v7_orders v6_hooks v6_lefts v6_heights v1_table v5_known v8_sizes v8_coefficients v8_undoneSums v8_undos v8_nextUndo v8_imageTaken v0_totals_51 v7_rows v7_lengths v7_sizes v7_rests v7_orders v6_hooks v6_lefts v6_heights v1_table v5_known v8_sizes v8_coefficients v8_undoneSums v8_undos v8_nextUndo v8_imageTaken) (c_X0_begin l D cyI cyJ G a H.size v0_totals v7_rows v7_lengths v7_sizes v7_rests v7_orders v6_hooks v6_lefts v6_heights v1_table v5_known v8_sizes v8_coefficients v8_undoneSums v8_undos v8_nextUndo v8_imageTaken v0_totals_51 hk_52) pk_X0_begin mw_3_80 ⟨rfl, rfl, Nat.le_of_ble_eq_true rfl, Nat.le_of_ble_eq_true rfl⟩ rfl rfl rfl rfl rfl (Nat.le_of_ble_eq_true rfl) ⟨Nat.le_of_ble_eq_true rfl, Nat.le_of_ble_eq_true rfl⟩ dX0_draftsRestricted_10 (fun H locs hP hD hS => ?_)
  refine lv_iconst (v := (0 : Int32)) hx hb dX0_draftsRestricted_13 (by decide) ?_
  refine lv_istore_n (lv' := [(3, .int (0 : Int32)), (2, .int r_49), (0, .ref (a 21)), (1, .int x1)]) hx hb dX0_draftsRestricted_14 rfl hl (by decide) rfl (fun ls hl => ?_)
  exact w_15 1000 v8_sizes v8_coefficients v0_totals_51 x1 r_49 (0 : Int32) H locs ls hf hP hD hS (lv_sub hl [2, 3, 1, 0] rfl)
def gf_X0_draftsInduced_44 (K_44 : (Nat → Int32) → (Nat → Int32) → (Nat → Int64) → Int32 → Int32 → Int32 → Int32 → Int32 → Option (Int32 × (Nat → Int32) × (Nat → Int32) × (Nat → Int64))) (K_17 : (Nat → Int32) → (Nat → Int32) → (Nat → Int64) → Int32 → Int32 → Int32 → Option (Int32 × (Nat → Int32) × (Nat → Int32) × (Nat → Int64))) (v7_sizes : Nat → Int32) (v6_hooks : Nat → Int32) (v6_lefts : Nat → Int32) (v8_sizes : Nat → Int32) (v8_coefficients : Nat → Int32) (v0_totals : Nat → Int64) (y1 : Int32) (y2 : Int32) (y3 : Int32) (y4 : Int32) (y5 : Int32) : Option (Int32 × (Nat → Int32) × (Nat → Int32) × (Nat → Int64)) := if y2 ≤ y5 then (K_17 v8_sizes v8_coefficients v0_totals y1 y2 (y3 + (1 : Int32))) else (p_b1 (f_X6_hookBy v6_hooks y4 y5) (fun r_2 => if r_2 = (1 : Int32) then (p_b1 (f_X6_leftBy v6_lefts y4 y5) (fun r_5 => p_b1 (f_X7_placeOf v7_sizes r_5) (fun r_7 => p_b1 (f_X8_at v8_coefficients y1 r_7) (fun r_9 => p_b1 (f_X0_add v0_totals y3 (Int32.toInt64 r_9)) (fun v0_totals_11 => K_44 v8_sizes v8_coefficients v0_totals_11 y1 y2 y3 y4 (y5 + (1 : Int32))))))) else (K_44 v8_sizes v8_coefficients v0_totals y1 y2 y3 y4 (y5 + (1 : Int32)))))
def f_X0_draftsInduced_44 (K_17 : (Nat → Int32) → (Nat → Int32) → (Nat → Int64) → Int32 → Int32 → Int32 → Option (Int32 × (Nat → Int32) × (Nat → Int32) × (Nat → Int64))) (v7_sizes : Nat → Int32) (v6_hooks : Nat → Int32) (v6_lefts : Nat → Int32) : Nat → (Nat → Int32) → (Nat → Int32) → (Nat → Int64) → Int32 → Int32 → Int32 → Int32 → Int32 → Option (Int32 × (Nat → Int32) × (Nat → Int32) × (Nat → Int64))
  | 0 => fun _ _ _ _ _ _ _ _ => none
  | n + 1 => gf_X0_draftsInduced_44 (f_X0_draftsInduced_44 K_17 v7_sizes v6_hooks v6_lefts n) K_17 v7_sizes v6_hooks v6_lefts
def gf_X0_draftsInduced_17 (K_17 : (Nat → Int32) → (Nat → Int32) → (Nat → Int64) → Int32 → Int32 → Int32 → Option (Int32 × (Nat → Int32) × (Nat → Int32) × (Nat → Int64))) (v7_sizes : Nat → Int32) (v6_hooks : Nat → Int32) (v6_lefts : Nat → Int32) (v8_sizes : Nat → Int32) (v8_coefficients : Nat → Int32) (v0_totals : Nat → Int64) (y1 : Int32) (y2 : Int32) (y3 : Int32) : Option (Int32 × (Nat → Int32) × (Nat → Int32) × (Nat → Int64)) := p_b1 (f_X7_countOf y2) (fun r_13 => if r_13 ≤ y3 then (p_b3 (f_X0_draftsTotals v8_sizes v8_coefficients v0_totals y2) (fun r_16 v8_sizes_17 v8_coefficients_18 => some (r_16, v8_sizes_17, v8_coefficients_18, v0_totals))) else (p_b1 (f_X7_firstOf y2) (fun r_21 => (f_X0_draftsInduced_44 K_17 v7_sizes v6_hooks v6_lefts 1000) v8_sizes v8_coefficients v0_totals y1 y2 y3 (r_21 + y3) (0 : Int32))))
def f_X0_draftsInduced_17 (v7_sizes : Nat → Int32) (v6_hooks : Nat → Int32) (v6_lefts : Nat → Int32) : Nat → (Nat → Int32) → (Nat → Int32) → (Nat → Int64) → Int32 → Int32 → Int32 → Option (Int32 × (Nat → Int32) × (Nat → Int32) × (Nat → Int64))
  | 0 => fun _ _ _ _ _ _ => none
  | n + 1 => gf_X0_draftsInduced_17 (f_X0_draftsInduced_17 v7_sizes v6_hooks v6_lefts n) v7_sizes v6_hooks v6_lefts
def f_X0_draftsInduced (v7_sizes : Nat → Int32) (v6_hooks : Nat → Int32) (v6_lefts : Nat → Int32) (v8_sizes : Nat → Int32) (v8_coefficients : Nat → Int32) (v0_totals : Nat → Int64) (x1 : Int32) : Option (Int32 × (Nat → Int32) × (Nat → Int32) × (Nat → Int64)) := p_b1 (f_X8_sizeOf v8_sizes x1) (fun r_23 => p_b1 (f_X0_begin v0_totals) (fun v0_totals_25 => (f_X0_draftsInduced_17 v7_sizes v6_hooks v6_lefts 1000) v8_sizes v8_coefficients v0_totals_25 x1 (r_23 + (1 : Int32)) (0 : Int32)))
set_option maxHeartbeats 4000000 in
set_option maxRecDepth 20000 in
theorem c_X0_draftsInduced (l : Launch) (D : va_G) (cyI cyJ : ClassId) (G a : Nat → Nat) (sz : Nat) (v0_totals : Nat → Int64) (v7_rows : Nat → Int32) (v7_lengths : Nat → Int32) (v7_sizes : Nat → Int32) (v7_rests : Nat → Int32) (v7_orders : Nat → Int32) (v6_hooks : Nat → Int32) (v6_lefts : Nat → Int32) (v6_heights : Nat → Int32) (v1_table : Nat → Int32) (v5_known : Nat → Int32) (v8_sizes : Nat → Int32) (v8_coefficients : Nat → Int32) (v8_undoneSums : Nat → Int32) (v8_undos : Int32) (v8_nextUndo : Int32) (v8_imageTaken : Int32) (x1 : Int32) (ro : Int32) (ov8_sizes : Nat → Int32) (ov8_coefficients : Nat → Int32) (ov0_totals : Nat → Int64) (hf : f_X0_draftsInduced v7_sizes v6_hooks v6_lefts v8_sizes v8_coefficients v0_totals x1 = some (ro, ov8_sizes, ov8_coefficients, ov0_totals)) : xm_z l yX0_draftsInduced (Cond.code yX0_draftsInduced cX0_draftsInduced 6 (some .boolean) :: xg_tbl) { frames := 3, cells := 0, slots := 0, locals := 65 } D xcl [(cyI, .int), (cyJ, .long)] G sz [.ref (a 21), .int x1] (wd_X0 a cyI cyJ v0_totals v7_rows v7_lengths v7_sizes v7_rests v7_orders v6_hooks v6_lefts v6_heights v1_table v5_known v8_sizes v8_coefficients v8_undoneSums v8_undos v8_nextUndo v8_imageTaken) (wd_X0 a cyI cyJ ov0_totals v7_rows v7_lengths v7_sizes v7_rests v7_orders v6_hooks v6_lefts v6_heights v1_table v5_known ov8_sizes ov8_coefficients v8_undoneSums v8_undos v8_nextUndo v8_imageTaken) ro := by
  refine xm_of_z (own := RX0) (by decide) rfl rfl (Nat.le_of_ble_eq_true rfl) ?_
  intro p e s m args below meth c ls Q A hQ hAe hin Cx hsz hP hD hS hl
  have Cx1 := Cx
  obtain ⟨⟨hx, hb, hml, hown, hts⟩, hr, hlocks, hK, hA, hT⟩ := Cx1
  have hl : lv_has ls 6 [(0, .ref (a 21)), (1, .int x1)] := hl
  obtain ⟨H, eH⟩ : ∃ H, H = s.heap := ⟨_, rfl⟩
  obtain ⟨locs, eL⟩ : ∃ L : List Loc, L = [] := ⟨_, rfl⟩
  rw [← eH] at hP
  have hS : va_S A s.heap H locs := by rw [eH, eL]; exact hS
  suffices hgo : W p l e { frames := 3, cells := 0, slots := 0, locals := 65 } s m args below meth c H locs 0 0 Q (F0 m 0 ls []) by rw [eH, eL] at hgo; exact hgo
  clear eH eL
  unfold f_X0_draftsInduced at hf
  have w_17 : ∀ (n_17 : Nat) (v8_sizes : Nat → Int32) (v8_coefficients : Nat → Int32) (v0_totals : Nat → Int64) (y1 : Int32) (y2 : Int32) (y3 : Int32) (H : Heap) (locs : List Loc) (ls : Array Slot), (f_X0_draftsInduced_17 v7_sizes v6_hooks v6_lefts) n_17 v8_sizes v8_coefficients v0_totals y1 y2 y3 = some (ro, ov8_sizes, ov8_coefficients, ov0_totals) → va_P D xcl (wd_X0 a cyI cyJ v0_totals v7_rows v7_lengths v7_sizes v7_rests v7_orders v6_hooks v6_lefts v6_heights v1_table v5_known v8_sizes v8_coefficients v8_undoneSums v8_undos v8_nextUndo v8_imageTaken) H → va_D A (wd_X0 a cyI cyJ v0_totals v7_rows v7_lengths v7_sizes v7_rests v7_orders v6_hooks v6_lefts v6_heights v1_table v5_known v8_sizes v8_coefficients v8_undoneSums v8_undos v8_nextUndo v8_imageTaken) → va_S A s.heap H locs → lv_has ls 6 [(0, .ref (a 21)), (1, .int y1), (2, .int y2), (3, .int y3)] → W p l e { frames := 3, cells := 0, slots := 0, locals := 65 } s m args below meth c H locs 0 0 Q (F0 m 17 ls []) := by
    intro n_17
    induction n_17 with
    | zero => intro v8_sizes v8_coefficients v0_totals y1 y2 y3 H locs ls hf; exact absurd hf (by intro h9; cases h9)
    | succ n_17 w_17 =>
      intro v8_sizes v8_coefficients v0_totals y1 y2 y3 H locs ls hf hP hD hS hl
      have hf : gf_X0_draftsInduced_17 ((f_X0_draftsInduced_17 v7_sizes v6_hooks v6_lefts) n_17) v7_sizes v6_hooks v6_lefts v8_sizes v8_coefficients v0_totals y1 y2 y3 = some (ro, ov8_sizes, ov8_coefficients, ov0_totals) := hf
      unfold gf_X0_draftsInduced_17 at hf
      have w_44 : ∀ (n_44 : Nat) (v8_sizes : Nat → Int32) (v8_coefficients : Nat → Int32) (v0_totals : Nat → Int64) (y1 : Int32) (y2 : Int32) (y3 : Int32) (y4 : Int32) (y5 : Int32) (H : Heap) (locs : List Loc) (ls : Array Slot), (f_X0_draftsInduced_44 ((f_X0_draftsInduced_17 v7_sizes v6_hooks v6_lefts) n_17) v7_sizes v6_hooks v6_lefts) n_44 v8_sizes v8_coefficients v0_totals y1 y2 y3 y4 y5 = some (ro, ov8_sizes, ov8_coefficients, ov0_totals) → va_P D xcl (wd_X0 a cyI cyJ v0_totals v7_rows v7_lengths v7_sizes v7_rests v7_orders v6_hooks v6_lefts v6_heights v1_table v5_known v8_sizes v8_coefficients v8_undoneSums v8_undos v8_nextUndo v8_imageTaken) H → va_D A (wd_X0 a cyI cyJ v0_totals v7_rows v7_lengths v7_sizes v7_rests v7_orders v6_hooks v6_lefts v6_heights v1_table v5_known v8_sizes v8_coefficients v8_undoneSums v8_undos v8_nextUndo v8_imageTaken) → va_S A s.heap H locs → lv_has ls 6 [(0, .ref (a 21)), (1, .int y1), (2, .int y2), (3, .int y3), (4, .int y4), (5, .int y5)] → W p l e { frames := 3, cells := 0, slots := 0, locals := 65 } s m args below meth c H locs 0 0 Q (F0 m 44 ls []) := by
        intro n_44
        induction n_44 with
        | zero => intro v8_sizes v8_coefficients v0_totals y1 y2 y3 y4 y5 H locs ls hf; exact absurd hf (by intro h9; cases h9)
        | succ n_44 w_44 =>
          intro v8_sizes v8_coefficients v0_totals y1 y2 y3 y4 y5 H locs ls hf hP hD hS hl
          have hf : gf_X0_draftsInduced_44 ((f_X0_draftsInduced_44 ((f_X0_draftsInduced_17 v7_sizes v6_hooks v6_lefts) n_17) v7_sizes v6_hooks v6_lefts) n_44) ((f_X0_draftsInduced_17 v7_sizes v6_hooks v6_lefts) n_17) v7_sizes v6_hooks v6_lefts v8_sizes v8_coefficients v0_totals y1 y2 y3 y4 y5 = some (ro, ov8_sizes, ov8_coefficients, ov0_totals) := hf
          unfold gf_X0_draftsInduced_44 at hf
          refine lv_iload hx hb dX0_draftsInduced_44 (lv_at hl 5 rfl) ?_
          refine lv_iload_n hx hb dX0_draftsInduced_46 rfl (lv_at hl 2 rfl) ?_
          refine lv_icmp_ge (tgt := 103) hx hb dX0_draftsInduced_47 (by decide) (fun hc_27 => ?_) (fun hc_27 => ?_)
          · have hf := pe_t hf hc_27
            refine lv_iinc (v := (y3 + (1 : Int32))) (lv' := [(3, .int (y3 + (1 : Int32))), (0, .ref (a 21)), (1, .int y1), (2, .int y2), (4, .int y4), (5, .int y5)]) hx hb dX0_draftsInduced_103 hl (k := 3) rfl rfl (by decide) rfl (fun ls hl => ?_)
            refine lv_goto (tgt := 17) hx hb dX0_draftsInduced_106 (by decide) ?_
            exact w_17 v8_sizes v8_coefficients v0_totals y1 y2 (y3 + (1 : Int32)) H locs ls hf hP hD hS (lv_sub hl [1, 2, 3, 0] rfl)
          · have hf := pe_f hf hc_27
            refine lv_aload_n hx hb dX0_draftsInduced_50 rfl (lv_at hl 0 rfl) ?_
            refine va_get (ci := 0) (v := .ref (a 8)) hx hb hts wX0_in hown hK hP 0 rfl rfl 1 (by decide) (hts _ mw_2_17) (fun _ h9 => h9) rfl dX0_draftsInduced_51 ?_
            refine lv_iload hx hb dX0_draftsInduced_54 (lv_at hl 4 rfl) ?_
            refine lv_iload hx hb dX0_draftsInduced_56 (lv_at hl 5 rfl) ?_
            obtain ⟨r_28, hk_29, hf⟩ := pe_1 hf
            refine xv_i (As := [.int y4, .int y5]) (rest := []) (q0 := 0) (ci := 6) Cx hP hD hS hl (pl_X0_X6 a cyI cyJ v0_totals v7_rows v7_lengths v7_sizes v7_rests v7_orders v6_hooks v6_lefts v6_heights v1_table v5_known v8_sizes v8_coefficients v8_undoneSums v8_undos v8_nextUndo v8_imageTaken v6_hooks v6_lefts v6_heights v7_rows v7_lengths v7_sizes v7_rests v7_orders) (c_X6_hookBy l D cyI cyJ G a H.size v6_hooks v6_lefts v6_heights v7_rows v7_lengths v7_sizes v7_rests v7_orders y4 y5 r_28 hk_29) pk_X6_hookBy mw_3_130 ⟨rfl, rfl, Nat.le_of_ble_eq_true rfl, Nat.le_of_ble_eq_true rfl⟩ rfl rfl rfl rfl rfl (Nat.le_of_ble_eq_true rfl) ⟨Nat.le_of_ble_eq_true rfl, Nat.le_of_ble_eq_true rfl⟩ dX0_draftsInduced_58 (fun H locs hP hD hS => ?_)
            refine lv_iconst (v := (1 : Int32)) hx hb dX0_draftsInduced_61 (by decide) ?_
            refine lv_icmp_ne (tgt := 97) hx hb dX0_draftsInduced_62 (by decide) (fun hc_30 => ?_) (fun hc_30 => ?_)
            · have hf := pe_f hf hc_30
              refine lv_iinc (v := (y5 + (1 : Int32))) (lv' := [(5, .int (y5 + (1 : Int32))), (0, .ref (a 21)), (1, .int y1), (2, .int y2), (3, .int y3), (4, .int y4)]) hx hb dX0_draftsInduced_97 hl (k := 5) rfl rfl (by decide) rfl (fun ls hl => ?_)
              refine lv_goto (tgt := 44) hx hb dX0_draftsInduced_100 (by decide) ?_
              exact w_44 v8_sizes v8_coefficients v0_totals y1 y2 y3 y4 (y5 + (1 : Int32)) H locs ls hf hP hD hS (lv_sub hl [1, 2, 3, 4, 5, 0] rfl)
            · have hf := pe_t hf hc_30
              refine lv_aload_n hx hb dX0_draftsInduced_65 rfl (lv_at hl 0 rfl) ?_
              refine lv_iload_n hx hb dX0_draftsInduced_66 rfl (lv_at hl 3 rfl) ?_
              refine lv_aload_n hx hb dX0_draftsInduced_67 rfl (lv_at hl 0 rfl) ?_
              refine va_get (ci := 0) (v := .ref (a 17)) hx hb hts wX0_in hown hK hP 0 rfl rfl 4 (by decide) (hts _ mw_2_20) (fun _ h9 => h9) rfl dX0_draftsInduced_68 ?_
              refine lv_iload_n hx hb dX0_draftsInduced_71 rfl (lv_at hl 1 rfl) ?_
              refine lv_aload_n hx hb dX0_draftsInduced_72 rfl (lv_at hl 0 rfl) ?_
              refine va_get (ci := 0) (v := .ref (a 2)) hx hb hts wX0_in hown hK hP 0 rfl rfl 0 (by decide) (hts _ mw_2_16) (fun _ h9 => h9) rfl dX0_draftsInduced_73 ?_
              refine lv_aload_n hx hb dX0_draftsInduced_76 rfl (lv_at hl 0 rfl) ?_
              refine va_get (ci := 0) (v := .ref (a 8)) hx hb hts wX0_in hown hK hP 0 rfl rfl 1 (by decide) (hts _ mw_2_17) (fun _ h9 => h9) rfl dX0_draftsInduced_77 ?_
              refine lv_iload hx hb dX0_draftsInduced_80 (lv_at hl 4 rfl) ?_
              refine lv_iload hx hb dX0_draftsInduced_82 (lv_at hl 5 rfl) ?_
              obtain ⟨r_31, hk_32, hf⟩ := pe_1 hf
              refine xv_i (As := [.int y4, .int y5]) (rest := [.ref (a 2), .int y1, .ref (a 17), .int y3, .ref (a 21)]) (q0 := 0) (ci := 6) Cx hP hD hS hl (pl_X0_X6 a cyI cyJ v0_totals v7_rows v7_lengths v7_sizes v7_rests v7_orders v6_hooks v6_lefts v6_heights v1_table v5_known v8_sizes v8_coefficients v8_undoneSums v8_undos v8_nextUndo v8_imageTaken v6_hooks v6_lefts v6_heights v7_rows v7_lengths v7_sizes v7_rests v7_orders) (c_X6_leftBy l D cyI cyJ G a H.size v6_hooks v6_lefts v6_heights v7_rows v7_lengths v7_sizes v7_rests v7_orders y4 y5 r_31 hk_32) pk_X6_leftBy mw_3_131 ⟨rfl, rfl, Nat.le_of_ble_eq_true rfl, Nat.le_of_ble_eq_true rfl⟩ rfl rfl rfl rfl rfl (Nat.le_of_ble_eq_true rfl) ⟨Nat.le_of_ble_eq_true rfl, Nat.le_of_ble_eq_true rfl⟩ dX0_draftsInduced_84 (fun H locs hP hD hS => ?_)
              obtain ⟨r_33, hk_34, hf⟩ := pe_1 hf
              refine xv_i (As := [.int r_31]) (rest := [.int y1, .ref (a 17), .int y3, .ref (a 21)]) (q0 := 0) (ci := 7) Cx hP hD hS hl (pl_X0_X7 a cyI cyJ v0_totals v7_rows v7_lengths v7_sizes v7_rests v7_orders v6_hooks v6_lefts v6_heights v1_table v5_known v8_sizes v8_coefficients v8_undoneSums v8_undos v8_nextUndo v8_imageTaken v7_rows v7_lengths v7_sizes v7_rests v7_orders) (c_X7_placeOf l D cyI cyJ G a H.size v7_rows v7_lengths v7_sizes v7_rests v7_orders r_31 r_33 hk_34) pk_X7_placeOf mw_3_125 ⟨rfl, rfl, Nat.le_of_ble_eq_true rfl, Nat.le_of_ble_eq_true rfl⟩ rfl rfl rfl rfl rfl (Nat.le_of_ble_eq_true rfl) ⟨Nat.le_of_ble_eq_true rfl, Nat.le_of_ble_eq_true rfl⟩ dX0_draftsInduced_87 (fun H locs hP hD hS => ?_)
              obtain ⟨r_35, hk_36, hf⟩ := pe_1 hf
              refine xv_i (As := [.int y1, .int r_33]) (rest := [.int y3, .ref (a 21)]) (q0 := 0) (ci := 8) Cx hP hD hS hl (pl_X0_X8 a cyI cyJ v0_totals v7_rows v7_lengths v7_sizes v7_rests v7_orders v6_hooks v6_lefts v6_heights v1_table v5_known v8_sizes v8_coefficients v8_undoneSums v8_undos v8_nextUndo v8_imageTaken v8_sizes v8_coefficients v8_undoneSums v8_undos v8_nextUndo v8_imageTaken) (c_X8_at l D cyI cyJ G a H.size v8_sizes v8_coefficients v8_undoneSums v8_undos v8_nextUndo v8_imageTaken y1 r_33 r_35 hk_36) pk_X8_at mw_3_84 ⟨rfl, rfl, Nat.le_of_ble_eq_true rfl, Nat.le_of_ble_eq_true rfl⟩ rfl rfl rfl rfl rfl (Nat.le_of_ble_eq_true rfl) ⟨Nat.le_of_ble_eq_true rfl, Nat.le_of_ble_eq_true rfl⟩ dX0_draftsInduced_90 (fun H locs hP hD hS => ?_)
              refine lv_i2l (v := Int32.toInt64 r_35) hx hb dX0_draftsInduced_93 rfl ?_
              obtain ⟨v0_totals_37, hk_38, hf⟩ := pe_1 hf
              refine xv_v (As := [.int y3, .long (Int32.toInt64 r_35)]) (rest := []) (q0 := 0) (ci := 0) Cx hP hD hS hl (pl_X0_X0 a cyI cyJ v0_totals v7_rows v7_lengths v7_sizes v7_rests v7_orders v6_hooks v6_lefts v6_heights v1_table v5_known v8_sizes v8_coefficients v8_undoneSums v8_undos v8_nextUndo v8_imageTaken v0_totals_37 v7_rows v7_lengths v7_sizes v7_rests v7_orders v6_hooks v6_lefts v6_heights v1_table v5_known v8_sizes v8_coefficients v8_undoneSums v8_undos v8_nextUndo v8_imageTaken) (c_X0_add l D cyI cyJ G a H.size v0_totals v7_rows v7_lengths v7_sizes v7_rests v7_orders v6_hooks v6_lefts v6_heights v1_table v5_known v8_sizes v8_coefficients v8_undoneSums v8_undos v8_nextUndo v8_imageTaken y3 (Int32.toInt64 r_35) v0_totals_37 hk_38) pk_X0_add mw_3_85 ⟨rfl, rfl, Nat.le_of_ble_eq_true rfl, Nat.le_of_ble_eq_true rfl⟩ rfl rfl rfl rfl rfl (Nat.le_of_ble_eq_true rfl) ⟨Nat.le_of_ble_eq_true rfl, Nat.le_of_ble_eq_true rfl⟩ dX0_draftsInduced_94 (fun H locs hP hD hS => ?_)
              refine lv_iinc (v := (y5 + (1 : Int32))) (lv' := [(5, .int (y5 + (1 : Int32))), (0, .ref (a 21)), (1, .int y1), (2, .int y2), (3, .int y3), (4, .int y4)]) hx hb dX0_draftsInduced_97 hl (k := 5) rfl rfl (by decide) rfl (fun ls hl => ?_)
              refine lv_goto (tgt := 44) hx hb dX0_draftsInduced_100 (by decide) ?_
              exact w_44 v8_sizes v8_coefficients v0_totals_37 y1 y2 y3 y4 (y5 + (1 : Int32)) H locs ls hf hP hD hS (lv_sub hl [1, 2, 3, 4, 5, 0] rfl)
      refine lv_iload_n hx hb dX0_draftsInduced_17 rfl (lv_at hl 3 rfl) ?_
      refine lv_aload_n hx hb dX0_draftsInduced_18 rfl (lv_at hl 0 rfl) ?_
      refine va_get (ci := 0) (v := .ref (a 2)) hx hb hts wX0_in hown hK hP 0 rfl rfl 0 (by decide) (hts _ mw_2_16) (fun _ h9 => h9) rfl dX0_draftsInduced_19 ?_
      refine lv_iload_n hx hb dX0_draftsInduced_22 rfl (lv_at hl 2 rfl) ?_
      obtain ⟨r_39, hk_40, hf⟩ := pe_1 hf
      refine xv_i (As := [.int y2]) (rest := [.int y3]) (q0 := 0) (ci := 7) Cx hP hD hS hl (pl_X0_X7 a cyI cyJ v0_totals v7_rows v7_lengths v7_sizes v7_rests v7_orders v6_hooks v6_lefts v6_heights v1_table v5_known v8_sizes v8_coefficients v8_undoneSums v8_undos v8_nextUndo v8_imageTaken v7_rows v7_lengths v7_sizes v7_rests v7_orders) (c_X7_countOf l D cyI cyJ G a H.size v7_rows v7_lengths v7_sizes v7_rests v7_orders y2 r_39 hk_40) pk_X7_countOf mw_3_105 ⟨rfl, rfl, Nat.le_of_ble_eq_true rfl, Nat.le_of_ble_eq_true rfl⟩ rfl rfl rfl rfl rfl (Nat.le_of_ble_eq_true rfl) ⟨Nat.le_of_ble_eq_true rfl, Nat.le_of_ble_eq_true rfl⟩ dX0_draftsInduced_23 (fun H locs hP hD hS => ?_)
      refine lv_icmp_ge (tgt := 109) hx hb dX0_draftsInduced_26 (by decide) (fun hc_41 => ?_) (fun hc_41 => ?_)
      · have hf := pe_t hf hc_41
        refine lv_aload_n hx hb dX0_draftsInduced_109 rfl (lv_at hl 0 rfl) ?_
        refine lv_iload_n hx hb dX0_draftsInduced_110 rfl (lv_at hl 2 rfl) ?_
        obtain ⟨r_42, v8_sizes_43, v8_coefficients_44, hk_45, hf⟩ := pe_3 hf
        refine xv_z (As := [.int y2]) (rest := []) (q0 := 0) (ci := 0) Cx hP hD hS hl (pl_X0_X0 a cyI cyJ v0_totals v7_rows v7_lengths v7_sizes v7_rests v7_orders v6_hooks v6_lefts v6_heights v1_table v5_known v8_sizes v8_coefficients v8_undoneSums v8_undos v8_nextUndo v8_imageTaken v0_totals v7_rows v7_lengths v7_sizes v7_rests v7_orders v6_hooks v6_lefts v6_heights v1_table v5_known v8_sizes_43 v8_coefficients_44 v8_undoneSums v8_undos v8_nextUndo v8_imageTaken) (c_X0_draftsTotals l D cyI cyJ G a H.size v0_totals v7_rows v7_lengths v7_sizes v7_rests v7_orders v6_hooks v6_lefts v6_heights v1_table v5_known v8_sizes v8_coefficients v8_undoneSums v8_undos v8_nextUndo v8_imageTaken y2 r_42 v8_sizes_43 v8_coefficients_44 hk_45) pk_X0_draftsTotals mw_3_90 ⟨rfl, rfl, Nat.le_of_ble_eq_true rfl, Nat.le_of_ble_eq_true rfl⟩ rfl rfl rfl rfl rfl (Nat.le_of_ble_eq_true rfl) ⟨Nat.le_of_ble_eq_true rfl, Nat.le_of_ble_eq_true rfl⟩ dX0_draftsInduced_111 (fun H locs hn_46 hP hD hS => ?_)
        obtain ⟨rfl, rfl, rfl, rfl⟩ := po_4 hf
        rw [← hQ]; exact xe_zret Cx rfl hn_46 hP hD hS dX0_draftsInduced_114
      · have hf := pe_f hf hc_41
        refine lv_aload_n hx hb dX0_draftsInduced_29 rfl (lv_at hl 0 rfl) ?_
        refine va_get (ci := 0) (v := .ref (a 2)) hx hb hts wX0_in hown hK hP 0 rfl rfl 0 (by decide) (hts _ mw_2_16) (fun _ h9 => h9) rfl dX0_draftsInduced_30 ?_
        refine lv_iload_n hx hb dX0_draftsInduced_33 rfl (lv_at hl 2 rfl) ?_
        obtain ⟨r_47, hk_48, hf⟩ := pe_1 hf
        refine xv_i (As := [.int y2]) (rest := []) (q0 := 0) (ci := 7) Cx hP hD hS hl (pl_X0_X7 a cyI cyJ v0_totals v7_rows v7_lengths v7_sizes v7_rests v7_orders v6_hooks v6_lefts v6_heights v1_table v5_known v8_sizes v8_coefficients v8_undoneSums v8_undos v8_nextUndo v8_imageTaken v7_rows v7_lengths v7_sizes v7_rests v7_orders) (c_X7_firstOf l D cyI cyJ G a H.size v7_rows v7_lengths v7_sizes v7_rests v7_orders y2 r_47 hk_48) pk_X7_firstOf mw_3_123 ⟨rfl, rfl, Nat.le_of_ble_eq_true rfl, Nat.le_of_ble_eq_true rfl⟩ rfl rfl rfl rfl rfl (Nat.le_of_ble_eq_true rfl) ⟨Nat.le_of_ble_eq_true rfl, Nat.le_of_ble_eq_true rfl⟩ dX0_draftsInduced_34 (fun H locs hP hD hS => ?_)
        refine lv_iload_n hx hb dX0_draftsInduced_37 rfl (lv_at hl 3 rfl) ?_
        refine lv_iadd hx hb dX0_draftsInduced_38 ?_
        refine lv_istore (lv' := [(4, .int (r_47 + y3)), (0, .ref (a 21)), (1, .int y1), (2, .int y2), (3, .int y3)]) hx hb dX0_draftsInduced_39 hl (by decide) rfl (fun ls hl => ?_)
        refine lv_iconst (v := (0 : Int32)) hx hb dX0_draftsInduced_41 (by decide) ?_
        refine lv_istore (lv' := [(5, .int (0 : Int32)), (4, .int (r_47 + y3)), (0, .ref (a 21)), (1, .int y1), (2, .int y2), (3, .int y3)]) hx hb dX0_draftsInduced_42 hl (by decide) rfl (fun ls hl => ?_)
        exact w_44 1000 v8_sizes v8_coefficients v0_totals y1 y2 y3 (r_47 + y3) (0 : Int32) H locs ls hf hP hD hS (lv_sub hl [2, 3, 4, 5, 1, 0] rfl)
  refine lv_aload_n hx hb dX0_draftsInduced_0 rfl (lv_at hl 0 rfl) ?_
  refine va_get (ci := 0) (v := .ref (a 17)) hx hb hts wX0_in hown hK hP 0 rfl rfl 4 (by decide) (hts _ mw_2_20) (fun _ h9 => h9) rfl dX0_draftsInduced_1 ?_
  refine lv_iload_n hx hb dX0_draftsInduced_4 rfl (lv_at hl 1 rfl) ?_
  obtain ⟨r_49, hk_50, hf⟩ := pe_1 hf
  refine xv_i (As := [.int x1]) (rest := []) (q0 := 0) (ci := 8) Cx hP hD hS hl (pl_X0_X8 a cyI cyJ v0_totals v7_rows v7_lengths v7_sizes v7_rests v7_orders v6_hooks v6_lefts v6_heights v1_table v5_known v8_sizes v8_coefficients v8_undoneSums v8_undos v8_nextUndo v8_imageTaken v8_sizes v8_coefficients v8_undoneSums v8_undos v8_nextUndo v8_imageTaken) (c_X8_sizeOf l D cyI cyJ G a H.size v8_sizes v8_coefficients v8_undoneSums v8_undos v8_nextUndo v8_imageTaken x1 r_49 hk_50) pk_X8_sizeOf mw_3_89 ⟨rfl, rfl, Nat.le_of_ble_eq_true rfl, Nat.le_of_ble_eq_true rfl⟩ rfl rfl rfl rfl rfl (Nat.le_of_ble_eq_true rfl) ⟨Nat.le_of_ble_eq_true rfl, Nat.le_of_ble_eq_true rfl⟩ dX0_draftsInduced_5 (fun H locs hP hD hS => ?_)
  refine lv_iconst (v := (1 : Int32)) hx hb dX0_draftsInduced_8 (by decide) ?_
  refine lv_iadd hx hb dX0_draftsInduced_9 ?_
  refine lv_istore_n (lv' := [(2, .int (r_49 + (1 : Int32))), (0, .ref (a 21)), (1, .int x1)]) hx hb dX0_draftsInduced_10 rfl hl (by decide) rfl (fun ls hl => ?_)
  refine lv_aload_n hx hb dX0_draftsInduced_11 rfl (lv_at hl 1 rfl) ?_
  obtain ⟨v0_totals_51, hk_52, hf⟩ := pe_1 hf
  refine xv_v (As := []) (rest := []) (q0 := 0) (ci := 0) Cx hP hD hS hl (pl_X0_X0 a cyI cyJ v0_totals v7_rows v7_lengths v7_sizes v7_rests v7_orders v6_hooks v6_lefts v6_heights v1_table v5_known v8_sizes v8_coefficients v8_undoneSums v8_undos v8_nextUndo v8_imageTaken v0_totals_51 v7_rows v7_lengths v7_sizes v7_rests v7_orders v6_hooks v6_lefts v6_heights v1_table v5_known v8_sizes v8_coefficients v8_undoneSums v8_undos v8_nextUndo v8_imageTaken) (c_X0_begin l D cyI cyJ G a H.size v0_totals v7_rows v7_lengths v7_sizes v7_rests v7_orders v6_hooks v6_lefts v6_heights v1_table v5_known v8_sizes v8_coefficients v8_undoneSums v8_undos v8_nextUndo v8_imageTaken v0_totals_51 hk_52) pk_X0_begin mw_3_80 ⟨rfl, rfl, Nat.le_of_ble_eq_true rfl, Nat.le_of_ble_eq_true rfl⟩ rfl rfl rfl rfl rfl (Nat.le_of_ble_eq_true rfl) ⟨Nat.le_of_ble_eq_true rfl, Nat.le_of_ble_eq_true rfl⟩ dX0_draftsInduced_12 (fun H locs hP hD hS => ?_)
  refine lv_iconst (v := (0 : Int32)) hx hb dX0_draftsInduced_15 (by decide) ?_
  refine lv_istore_n (lv' := [(3, .int (0 : Int32)), (2, .int (r_49 + (1 : Int32))), (0, .ref (a 21)), (1, .int x1)]) hx hb dX0_draftsInduced_16 rfl hl (by decide) rfl (fun ls hl => ?_)
  exact w_17 1000 v8_sizes v8_coefficients v0_totals_51 x1 (r_49 + (1 : Int32)) (0 : Int32) H locs ls hf hP hD hS (lv_sub hl [2, 3, 1, 0] rfl)
def gf_X0_valueAt_25 (K_25 : Int32 → Int32 → Int32 → Int32 → Int64 → Int32 → Option (Int64)) (v7_sizes : Nat → Int32) (v1_table : Nat → Int32) (v8_sizes : Nat → Int32) (v8_coefficients : Nat → Int32) (y1 : Int32) (y2 : Int32) (y3 : Int32) (y4 : Int32) (y5 : Int64) (y7 : Int32) : Option (Int64) := p_b1 (f_X7_countOf y3) (fun r_1 => if r_1 ≤ y7 then (some (y5)) else (p_b1 (f_X8_at v8_coefficients y1 y7) (fun r_4 => p_b1 (f_X1_at v7_sizes v1_table (y4 + y7) y2) (fun r_6 => K_25 y1 y2 y3 y4 (y5 + ((Int32.toInt64 r_4) * (Int32.toInt64 r_6))) (y7 + (1 : Int32))))))
def f_X0_valueAt_25 (v7_sizes : Nat → Int32) (v1_table : Nat → Int32) (v8_sizes : Nat → Int32) (v8_coefficients : Nat → Int32) : Nat → Int32 → Int32 → Int32 → Int32 → Int64 → Int32 → Option (Int64)
  | 0 => fun _ _ _ _ _ _ => none
  | n + 1 => gf_X0_valueAt_25 (f_X0_valueAt_25 v7_sizes v1_table v8_sizes v8_coefficients n) v7_sizes v1_table v8_sizes v8_coefficients
def f_X0_valueAt (v7_sizes : Nat → Int32) (v1_table : Nat → Int32) (v8_sizes : Nat → Int32) (v8_coefficients : Nat → Int32) (x1 : Int32) (x2 : Int32) : Option (Int64) := p_b1 (f_X8_sizeOf v8_sizes x1) (fun r_8 => p_b1 (f_X7_firstOf r_8) (fun r_10 => (f_X0_valueAt_25 v7_sizes v1_table v8_sizes v8_coefficients 1000) x1 x2 r_8 r_10 (0 : Int64) (0 : Int32)))
set_option maxHeartbeats 4000000 in
set_option maxRecDepth 20000 in
theorem c_X0_valueAt (l : Launch) (D : va_G) (cyI cyJ : ClassId) (G a : Nat → Nat) (sz : Nat) (v0_totals : Nat → Int64) (v7_rows : Nat → Int32) (v7_lengths : Nat → Int32) (v7_sizes : Nat → Int32) (v7_rests : Nat → Int32) (v7_orders : Nat → Int32) (v6_hooks : Nat → Int32) (v6_lefts : Nat → Int32) (v6_heights : Nat → Int32) (v1_table : Nat → Int32) (v5_known : Nat → Int32) (v8_sizes : Nat → Int32) (v8_coefficients : Nat → Int32) (v8_undoneSums : Nat → Int32) (v8_undos : Int32) (v8_nextUndo : Int32) (v8_imageTaken : Int32) (x1 : Int32) (x2 : Int32) (ro : Int64) (hf : f_X0_valueAt v7_sizes v1_table v8_sizes v8_coefficients x1 x2 = some ro) : xm_l l yX0_valueAt (Cond.code yX0_valueAt cX0_valueAt 8 (some .long) :: xg_tbl) { frames := 4, cells := 0, slots := 0, locals := 85 } D xcl [(cyI, .int), (cyJ, .long)] G sz [.ref (a 21), .int x1, .int x2] (wd_X0 a cyI cyJ v0_totals v7_rows v7_lengths v7_sizes v7_rests v7_orders v6_hooks v6_lefts v6_heights v1_table v5_known v8_sizes v8_coefficients v8_undoneSums v8_undos v8_nextUndo v8_imageTaken) (wd_X0 a cyI cyJ v0_totals v7_rows v7_lengths v7_sizes v7_rests v7_orders v6_hooks v6_lefts v6_heights v1_table v5_known v8_sizes v8_coefficients v8_undoneSums v8_undos v8_nextUndo v8_imageTaken) ro := by
  refine xm_of_l (own := RX0) (by decide) rfl rfl (Nat.le_of_ble_eq_true rfl) ?_
  intro p e s m args below meth c ls Q A hQ hAe hin Cx hsz hP hD hS hl
  have Cx1 := Cx
  obtain ⟨⟨hx, hb, hml, hown, hts⟩, hr, hlocks, hK, hA, hT⟩ := Cx1
  have hl : lv_has ls 8 [(0, .ref (a 21)), (1, .int x1), (2, .int x2)] := hl
  obtain ⟨H, eH⟩ : ∃ H, H = s.heap := ⟨_, rfl⟩
  obtain ⟨locs, eL⟩ : ∃ L : List Loc, L = [] := ⟨_, rfl⟩
  rw [← eH] at hP
  have hS : va_S A s.heap H locs := by rw [eH, eL]; exact hS
  suffices hgo : W p l e { frames := 4, cells := 0, slots := 0, locals := 85 } s m args below meth c H locs 0 0 Q (F0 m 0 ls []) by rw [eH, eL] at hgo; exact hgo
  clear eH eL
  unfold f_X0_valueAt at hf
  have w_25 : ∀ (n_25 : Nat) (y1 : Int32) (y2 : Int32) (y3 : Int32) (y4 : Int32) (y5 : Int64) (y7 : Int32) (H : Heap) (locs : List Loc) (ls : Array Slot), (f_X0_valueAt_25 v7_sizes v1_table v8_sizes v8_coefficients) n_25 y1 y2 y3 y4 y5 y7 = some ro → va_P D xcl (wd_X0 a cyI cyJ v0_totals v7_rows v7_lengths v7_sizes v7_rests v7_orders v6_hooks v6_lefts v6_heights v1_table v5_known v8_sizes v8_coefficients v8_undoneSums v8_undos v8_nextUndo v8_imageTaken) H → va_D A (wd_X0 a cyI cyJ v0_totals v7_rows v7_lengths v7_sizes v7_rests v7_orders v6_hooks v6_lefts v6_heights v1_table v5_known v8_sizes v8_coefficients v8_undoneSums v8_undos v8_nextUndo v8_imageTaken) → va_S A s.heap H locs → lv_has ls 8 [(0, .ref (a 21)), (1, .int y1), (2, .int y2), (3, .int y3), (4, .int y4), (5, .long y5), (7, .int y7)] → W p l e { frames := 4, cells := 0, slots := 0, locals := 85 } s m args below meth c H locs 0 0 Q (F0 m 25 ls []) := by
    intro n_25
    induction n_25 with
    | zero => intro y1 y2 y3 y4 y5 y7 H locs ls hf; exact absurd hf (by intro h9; cases h9)
    | succ n_25 w_25 =>
      intro y1 y2 y3 y4 y5 y7 H locs ls hf hP hD hS hl
      have hf : gf_X0_valueAt_25 ((f_X0_valueAt_25 v7_sizes v1_table v8_sizes v8_coefficients) n_25) v7_sizes v1_table v8_sizes v8_coefficients y1 y2 y3 y4 y5 y7 = some ro := hf
      unfold gf_X0_valueAt_25 at hf
      refine lv_iload hx hb dX0_valueAt_25 (lv_at hl 6 rfl) ?_
      refine lv_aload_n hx hb dX0_valueAt_27 rfl (lv_at hl 0 rfl) ?_
      refine va_get (ci := 0) (v := .ref (a 2)) hx hb hts wX0_in hown hK hP 0 rfl rfl 0 (by decide) (hts _ mw_2_16) (fun _ h9 => h9) rfl dX0_valueAt_28 ?_
      refine lv_iload_n hx hb dX0_valueAt_31 rfl (lv_at hl 3 rfl) ?_
      obtain ⟨r_12, hk_13, hf⟩ := pe_1 hf
      refine xv_i (As := [.int y3]) (rest := [.int y7]) (q0 := 0) (ci := 7) Cx hP hD hS hl (pl_X0_X7 a cyI cyJ v0_totals v7_rows v7_lengths v7_sizes v7_rests v7_orders v6_hooks v6_lefts v6_heights v1_table v5_known v8_sizes v8_coefficients v8_undoneSums v8_undos v8_nextUndo v8_imageTaken v7_rows v7_lengths v7_sizes v7_rests v7_orders) (c_X7_countOf l D cyI cyJ G a H.size v7_rows v7_lengths v7_sizes v7_rests v7_orders y3 r_12 hk_13) pk_X7_countOf mw_3_105 ⟨rfl, rfl, Nat.le_of_ble_eq_true rfl, Nat.le_of_ble_eq_true rfl⟩ rfl rfl rfl rfl rfl (Nat.le_of_ble_eq_true rfl) ⟨Nat.le_of_ble_eq_true rfl, Nat.le_of_ble_eq_true rfl⟩ dX0_valueAt_32 (fun H locs hP hD hS => ?_)
      refine lv_icmp_ge (tgt := 75) hx hb dX0_valueAt_35 (by decide) (fun hc_14 => ?_) (fun hc_14 => ?_)
      · have hf := pe_t hf hc_14
        refine lv_lload hx hb dX0_valueAt_75 (lv_at hl 5 rfl) ?_
        obtain rfl := po_1 hf
        rw [← hQ]; exact xe_lret Cx rfl hP hD hS dX0_valueAt_77
      · have hf := pe_f hf hc_14
        refine lv_lload hx hb dX0_valueAt_38 (lv_at hl 5 rfl) ?_
        refine lv_aload_n hx hb dX0_valueAt_40 rfl (lv_at hl 0 rfl) ?_
        refine va_get (ci := 0) (v := .ref (a 17)) hx hb hts wX0_in hown hK hP 0 rfl rfl 4 (by decide) (hts _ mw_2_20) (fun _ h9 => h9) rfl dX0_valueAt_41 ?_
        refine lv_iload_n hx hb dX0_valueAt_44 rfl (lv_at hl 1 rfl) ?_
        refine lv_iload hx hb dX0_valueAt_45 (lv_at hl 6 rfl) ?_
        obtain ⟨r_15, hk_16, hf⟩ := pe_1 hf
        refine xv_i (As := [.int y1, .int y7]) (rest := [.long y5]) (q0 := 0) (ci := 8) Cx hP hD hS hl (pl_X0_X8 a cyI cyJ v0_totals v7_rows v7_lengths v7_sizes v7_rests v7_orders v6_hooks v6_lefts v6_heights v1_table v5_known v8_sizes v8_coefficients v8_undoneSums v8_undos v8_nextUndo v8_imageTaken v8_sizes v8_coefficients v8_undoneSums v8_undos v8_nextUndo v8_imageTaken) (c_X8_at l D cyI cyJ G a H.size v8_sizes v8_coefficients v8_undoneSums v8_undos v8_nextUndo v8_imageTaken y1 y7 r_15 hk_16) pk_X8_at mw_3_84 ⟨rfl, rfl, Nat.le_of_ble_eq_true rfl, Nat.le_of_ble_eq_true rfl⟩ rfl rfl rfl rfl rfl (Nat.le_of_ble_eq_true rfl) ⟨Nat.le_of_ble_eq_true rfl, Nat.le_of_ble_eq_true rfl⟩ dX0_valueAt_47 (fun H locs hP hD hS => ?_)
        refine lv_i2l (v := Int32.toInt64 r_15) hx hb dX0_valueAt_50 rfl ?_
        refine lv_aload_n hx hb dX0_valueAt_51 rfl (lv_at hl 0 rfl) ?_
        refine va_get (ci := 0) (v := .ref (a 13)) hx hb hts wX0_in hown hK hP 0 rfl rfl 2 (by decide) (hts _ mw_2_18) (fun _ h9 => h9) rfl dX0_valueAt_52 ?_
        refine lv_iload hx hb dX0_valueAt_55 (lv_at hl 4 rfl) ?_
        refine lv_iload hx hb dX0_valueAt_57 (lv_at hl 6 rfl) ?_
        refine lv_iadd hx hb dX0_valueAt_59 ?_
        refine lv_iload_n hx hb dX0_valueAt_60 rfl (lv_at hl 2 rfl) ?_
        obtain ⟨r_17, hk_18, hf⟩ := pe_1 hf
        refine xv_i (As := [.int (y4 + y7), .int y2]) (rest := [.long (Int32.toInt64 r_15), .long y5]) (q0 := 0) (ci := 1) Cx hP hD hS hl (pl_X0_X1 a cyI cyJ v0_totals v7_rows v7_lengths v7_sizes v7_rests v7_orders v6_hooks v6_lefts v6_heights v1_table v5_known v8_sizes v8_coefficients v8_undoneSums v8_undos v8_nextUndo v8_imageTaken v1_table v7_rows v7_lengths v7_sizes v7_rests v7_orders) (c_X1_at l D cyI cyJ G a H.size v1_table v7_rows v7_lengths v7_sizes v7_rests v7_orders (y4 + y7) y2 r_17 hk_18) pk_X1_at mw_3_150 ⟨rfl, rfl, Nat.le_of_ble_eq_true rfl, Nat.le_of_ble_eq_true rfl⟩ rfl rfl rfl rfl rfl (Nat.le_of_ble_eq_true rfl) ⟨Nat.le_of_ble_eq_true rfl, Nat.le_of_ble_eq_true rfl⟩ dX0_valueAt_61 (fun H locs hP hD hS => ?_)
        refine lv_i2l (v := Int32.toInt64 r_17) hx hb dX0_valueAt_64 rfl ?_
        refine lv_lmul hx hb dX0_valueAt_65 ?_
        refine lv_ladd hx hb dX0_valueAt_66 ?_
        refine lv_lstore (lv' := [(5, .long (y5 + ((Int32.toInt64 r_15) * (Int32.toInt64 r_17)))), (0, .ref (a 21)), (1, .int y1), (2, .int y2), (3, .int y3), (4, .int y4), (7, .int y7)]) hx hb dX0_valueAt_67 hl (by decide) rfl (fun ls hl => ?_)
        refine lv_iinc (v := (y7 + (1 : Int32))) (lv' := [(7, .int (y7 + (1 : Int32))), (5, .long (y5 + ((Int32.toInt64 r_15) * (Int32.toInt64 r_17)))), (0, .ref (a 21)), (1, .int y1), (2, .int y2), (3, .int y3), (4, .int y4)]) hx hb dX0_valueAt_69 hl (k := 6) rfl rfl (by decide) rfl (fun ls hl => ?_)
        refine lv_goto (tgt := 25) hx hb dX0_valueAt_72 (by decide) ?_
        exact w_25 y1 y2 y3 y4 (y5 + ((Int32.toInt64 r_15) * (Int32.toInt64 r_17))) (y7 + (1 : Int32)) H locs ls hf hP hD hS (lv_sub hl [2, 3, 4, 5, 6, 1, 0] rfl)
  refine lv_aload_n hx hb dX0_valueAt_0 rfl (lv_at hl 0 rfl) ?_
  refine va_get (ci := 0) (v := .ref (a 17)) hx hb hts wX0_in hown hK hP 0 rfl rfl 4 (by decide) (hts _ mw_2_20) (fun _ h9 => h9) rfl dX0_valueAt_1 ?_
  refine lv_iload_n hx hb dX0_valueAt_4 rfl (lv_at hl 1 rfl) ?_
  obtain ⟨r_19, hk_20, hf⟩ := pe_1 hf
  refine xv_i (As := [.int x1]) (rest := []) (q0 := 0) (ci := 8) Cx hP hD hS hl (pl_X0_X8 a cyI cyJ v0_totals v7_rows v7_lengths v7_sizes v7_rests v7_orders v6_hooks v6_lefts v6_heights v1_table v5_known v8_sizes v8_coefficients v8_undoneSums v8_undos v8_nextUndo v8_imageTaken v8_sizes v8_coefficients v8_undoneSums v8_undos v8_nextUndo v8_imageTaken) (c_X8_sizeOf l D cyI cyJ G a H.size v8_sizes v8_coefficients v8_undoneSums v8_undos v8_nextUndo v8_imageTaken x1 r_19 hk_20) pk_X8_sizeOf mw_3_89 ⟨rfl, rfl, Nat.le_of_ble_eq_true rfl, Nat.le_of_ble_eq_true rfl⟩ rfl rfl rfl rfl rfl (Nat.le_of_ble_eq_true rfl) ⟨Nat.le_of_ble_eq_true rfl, Nat.le_of_ble_eq_true rfl⟩ dX0_valueAt_5 (fun H locs hP hD hS => ?_)
  refine lv_istore_n (lv' := [(3, .int r_19), (0, .ref (a 21)), (1, .int x1), (2, .int x2)]) hx hb dX0_valueAt_8 rfl hl (by decide) rfl (fun ls hl => ?_)
  refine lv_aload_n hx hb dX0_valueAt_9 rfl (lv_at hl 1 rfl) ?_
  refine va_get (ci := 0) (v := .ref (a 2)) hx hb hts wX0_in hown hK hP 0 rfl rfl 0 (by decide) (hts _ mw_2_16) (fun _ h9 => h9) rfl dX0_valueAt_10 ?_
  refine lv_iload_n hx hb dX0_valueAt_13 rfl (lv_at hl 0 rfl) ?_
  obtain ⟨r_21, hk_22, hf⟩ := pe_1 hf
  refine xv_i (As := [.int r_19]) (rest := []) (q0 := 0) (ci := 7) Cx hP hD hS hl (pl_X0_X7 a cyI cyJ v0_totals v7_rows v7_lengths v7_sizes v7_rests v7_orders v6_hooks v6_lefts v6_heights v1_table v5_known v8_sizes v8_coefficients v8_undoneSums v8_undos v8_nextUndo v8_imageTaken v7_rows v7_lengths v7_sizes v7_rests v7_orders) (c_X7_firstOf l D cyI cyJ G a H.size v7_rows v7_lengths v7_sizes v7_rests v7_orders r_19 r_21 hk_22) pk_X7_firstOf mw_3_123 ⟨rfl, rfl, Nat.le_of_ble_eq_true rfl, Nat.le_of_ble_eq_true rfl⟩ rfl rfl rfl rfl rfl (Nat.le_of_ble_eq_true rfl) ⟨Nat.le_of_ble_eq_true rfl, Nat.le_of_ble_eq_true rfl⟩ dX0_valueAt_14 (fun H locs hP hD hS => ?_)
  refine lv_istore (lv' := [(4, .int r_21), (3, .int r_19), (0, .ref (a 21)), (1, .int x1), (2, .int x2)]) hx hb dX0_valueAt_17 hl (by decide) rfl (fun ls hl => ?_)
  refine lv_lconst (v := (0 : Int64)) hx hb dX0_valueAt_19 (by decide) ?_
  refine lv_lstore (lv' := [(5, .long (0 : Int64)), (4, .int r_21), (3, .int r_19), (0, .ref (a 21)), (1, .int x1), (2, .int x2)]) hx hb dX0_valueAt_20 hl (by decide) rfl (fun ls hl => ?_)
  refine lv_iconst (v := (0 : Int32)) hx hb dX0_valueAt_22 (by decide) ?_
  refine lv_istore (lv' := [(7, .int (0 : Int32)), (5, .long (0 : Int64)), (4, .int r_21), (3, .int r_19), (0, .ref (a 21)), (1, .int x1), (2, .int x2)]) hx hb dX0_valueAt_23 hl (by decide) rfl (fun ls hl => ?_)
  exact w_25 1000 x1 x2 r_19 r_21 (0 : Int64) (0 : Int32) H locs ls hf hP hD hS (lv_sub hl [4, 5, 6, 3, 2, 1, 0] rfl)
def gf_X0_innerOf_5 (K_5 : Int32 → Int32 → Int64 → Int32 → Option (Int64)) (v8_coefficients : Nat → Int32) (y1 : Int32) (y2 : Int32) (y3 : Int64) (y5 : Int32) : Option (Int64) := if (22 : Int32) ≤ y5 then (some (y3)) else (p_b1 (f_X8_at v8_coefficients y1 y5) (fun r_2 => p_b1 (f_X8_at v8_coefficients y2 y5) (fun r_4 => K_5 y1 y2 (y3 + ((Int32.toInt64 r_2) * (Int32.toInt64 r_4))) (y5 + (1 : Int32)))))
def f_X0_innerOf_5 (v8_coefficients : Nat → Int32) : Nat → Int32 → Int32 → Int64 → Int32 → Option (Int64)
  | 0 => fun _ _ _ _ => none
  | n + 1 => gf_X0_innerOf_5 (f_X0_innerOf_5 v8_coefficients n) v8_coefficients
def f_X0_innerOf (v8_coefficients : Nat → Int32) (x1 : Int32) (x2 : Int32) : Option (Int64) := (f_X0_innerOf_5 v8_coefficients 1000) x1 x2 (0 : Int64) (0 : Int32)
set_option maxHeartbeats 4000000 in
set_option maxRecDepth 20000 in
theorem c_X0_innerOf (l : Launch) (D : va_G) (cyI cyJ : ClassId) (G a : Nat → Nat) (sz : Nat) (v0_totals : Nat → Int64) (v7_rows : Nat → Int32) (v7_lengths : Nat → Int32) (v7_sizes : Nat → Int32) (v7_rests : Nat → Int32) (v7_orders : Nat → Int32) (v6_hooks : Nat → Int32) (v6_lefts : Nat → Int32) (v6_heights : Nat → Int32) (v1_table : Nat → Int32) (v5_known : Nat → Int32) (v8_sizes : Nat → Int32) (v8_coefficients : Nat → Int32) (v8_undoneSums : Nat → Int32) (v8_undos : Int32) (v8_nextUndo : Int32) (v8_imageTaken : Int32) (x1 : Int32) (x2 : Int32) (ro : Int64) (hf : f_X0_innerOf v8_coefficients x1 x2 = some ro) : xm_l l yX0_innerOf (Cond.code yX0_innerOf cX0_innerOf 6 (some .long) :: xg_tbl) { frames := 2, cells := 0, slots := 0, locals := 44 } D xcl [(cyI, .int), (cyJ, .long)] G sz [.ref (a 21), .int x1, .int x2] (wd_X0 a cyI cyJ v0_totals v7_rows v7_lengths v7_sizes v7_rests v7_orders v6_hooks v6_lefts v6_heights v1_table v5_known v8_sizes v8_coefficients v8_undoneSums v8_undos v8_nextUndo v8_imageTaken) (wd_X0 a cyI cyJ v0_totals v7_rows v7_lengths v7_sizes v7_rests v7_orders v6_hooks v6_lefts v6_heights v1_table v5_known v8_sizes v8_coefficients v8_undoneSums v8_undos v8_nextUndo v8_imageTaken) ro := by
  refine xm_of_l (own := RX0) (by decide) rfl rfl (Nat.le_of_ble_eq_true rfl) ?_
  intro p e s m args below meth c ls Q A hQ hAe hin Cx hsz hP hD hS hl
  have Cx1 := Cx
  obtain ⟨⟨hx, hb, hml, hown, hts⟩, hr, hlocks, hK, hA, hT⟩ := Cx1
  have hl : lv_has ls 6 [(0, .ref (a 21)), (1, .int x1), (2, .int x2)] := hl
  obtain ⟨H, eH⟩ : ∃ H, H = s.heap := ⟨_, rfl⟩
  obtain ⟨locs, eL⟩ : ∃ L : List Loc, L = [] := ⟨_, rfl⟩
  rw [← eH] at hP
  have hS : va_S A s.heap H locs := by rw [eH, eL]; exact hS
  suffices hgo : W p l e { frames := 2, cells := 0, slots := 0, locals := 44 } s m args below meth c H locs 0 0 Q (F0 m 0 ls []) by rw [eH, eL] at hgo; exact hgo
  clear eH eL
  unfold f_X0_innerOf at hf
  have w_5 : ∀ (n_5 : Nat) (y1 : Int32) (y2 : Int32) (y3 : Int64) (y5 : Int32) (H : Heap) (locs : List Loc) (ls : Array Slot), (f_X0_innerOf_5 v8_coefficients) n_5 y1 y2 y3 y5 = some ro → va_P D xcl (wd_X0 a cyI cyJ v0_totals v7_rows v7_lengths v7_sizes v7_rests v7_orders v6_hooks v6_lefts v6_heights v1_table v5_known v8_sizes v8_coefficients v8_undoneSums v8_undos v8_nextUndo v8_imageTaken) H → va_D A (wd_X0 a cyI cyJ v0_totals v7_rows v7_lengths v7_sizes v7_rests v7_orders v6_hooks v6_lefts v6_heights v1_table v5_known v8_sizes v8_coefficients v8_undoneSums v8_undos v8_nextUndo v8_imageTaken) → va_S A s.heap H locs → lv_has ls 6 [(0, .ref (a 21)), (1, .int y1), (2, .int y2), (3, .long y3), (5, .int y5)] → W p l e { frames := 2, cells := 0, slots := 0, locals := 44 } s m args below meth c H locs 0 0 Q (F0 m 5 ls []) := by
    intro n_5
    induction n_5 with
    | zero => intro y1 y2 y3 y5 H locs ls hf; exact absurd hf (by intro h9; cases h9)
    | succ n_5 w_5 =>
      intro y1 y2 y3 y5 H locs ls hf hP hD hS hl
      have hf : gf_X0_innerOf_5 ((f_X0_innerOf_5 v8_coefficients) n_5) v8_coefficients y1 y2 y3 y5 = some ro := hf
      unfold gf_X0_innerOf_5 at hf
      refine lv_iload hx hb dX0_innerOf_5 (lv_at hl 4 rfl) ?_
      refine lv_bipush (v := (22 : Int32)) hx hb dX0_innerOf_7 (by decide) ?_
      refine lv_icmp_ge (tgt := 44) hx hb dX0_innerOf_9 (by decide) (fun hc_6 => ?_) (fun hc_6 => ?_)
      · have hf := pe_t hf hc_6
        refine lv_lload_n hx hb dX0_innerOf_44 rfl (lv_at hl 3 rfl) ?_
        obtain rfl := po_1 hf
        rw [← hQ]; exact xe_lret Cx rfl hP hD hS dX0_innerOf_45
      · have hf := pe_f hf hc_6
        refine lv_lload_n hx hb dX0_innerOf_12 rfl (lv_at hl 3 rfl) ?_
        refine lv_aload_n hx hb dX0_innerOf_13 rfl (lv_at hl 0 rfl) ?_
        refine va_get (ci := 0) (v := .ref (a 17)) hx hb hts wX0_in hown hK hP 0 rfl rfl 4 (by decide) (hts _ mw_2_20) (fun _ h9 => h9) rfl dX0_innerOf_14 ?_
        refine lv_iload_n hx hb dX0_innerOf_17 rfl (lv_at hl 1 rfl) ?_
        refine lv_iload hx hb dX0_innerOf_18 (lv_at hl 4 rfl) ?_
        obtain ⟨r_7, hk_8, hf⟩ := pe_1 hf
        refine xv_i (As := [.int y1, .int y5]) (rest := [.long y3]) (q0 := 0) (ci := 8) Cx hP hD hS hl (pl_X0_X8 a cyI cyJ v0_totals v7_rows v7_lengths v7_sizes v7_rests v7_orders v6_hooks v6_lefts v6_heights v1_table v5_known v8_sizes v8_coefficients v8_undoneSums v8_undos v8_nextUndo v8_imageTaken v8_sizes v8_coefficients v8_undoneSums v8_undos v8_nextUndo v8_imageTaken) (c_X8_at l D cyI cyJ G a H.size v8_sizes v8_coefficients v8_undoneSums v8_undos v8_nextUndo v8_imageTaken y1 y5 r_7 hk_8) pk_X8_at mw_3_84 ⟨rfl, rfl, Nat.le_of_ble_eq_true rfl, Nat.le_of_ble_eq_true rfl⟩ rfl rfl rfl rfl rfl (Nat.le_of_ble_eq_true rfl) ⟨Nat.le_of_ble_eq_true rfl, Nat.le_of_ble_eq_true rfl⟩ dX0_innerOf_20 (fun H locs hP hD hS => ?_)
        refine lv_i2l (v := Int32.toInt64 r_7) hx hb dX0_innerOf_23 rfl ?_
        refine lv_aload_n hx hb dX0_innerOf_24 rfl (lv_at hl 0 rfl) ?_
        refine va_get (ci := 0) (v := .ref (a 17)) hx hb hts wX0_in hown hK hP 0 rfl rfl 4 (by decide) (hts _ mw_2_20) (fun _ h9 => h9) rfl dX0_innerOf_25 ?_
        refine lv_iload_n hx hb dX0_innerOf_28 rfl (lv_at hl 2 rfl) ?_
        refine lv_iload hx hb dX0_innerOf_29 (lv_at hl 4 rfl) ?_
        obtain ⟨r_9, hk_10, hf⟩ := pe_1 hf
        refine xv_i (As := [.int y2, .int y5]) (rest := [.long (Int32.toInt64 r_7), .long y3]) (q0 := 0) (ci := 8) Cx hP hD hS hl (pl_X0_X8 a cyI cyJ v0_totals v7_rows v7_lengths v7_sizes v7_rests v7_orders v6_hooks v6_lefts v6_heights v1_table v5_known v8_sizes v8_coefficients v8_undoneSums v8_undos v8_nextUndo v8_imageTaken v8_sizes v8_coefficients v8_undoneSums v8_undos v8_nextUndo v8_imageTaken) (c_X8_at l D cyI cyJ G a H.size v8_sizes v8_coefficients v8_undoneSums v8_undos v8_nextUndo v8_imageTaken y2 y5 r_9 hk_10) pk_X8_at mw_3_84 ⟨rfl, rfl, Nat.le_of_ble_eq_true rfl, Nat.le_of_ble_eq_true rfl⟩ rfl rfl rfl rfl rfl (Nat.le_of_ble_eq_true rfl) ⟨Nat.le_of_ble_eq_true rfl, Nat.le_of_ble_eq_true rfl⟩ dX0_innerOf_31 (fun H locs hP hD hS => ?_)
        refine lv_i2l (v := Int32.toInt64 r_9) hx hb dX0_innerOf_34 rfl ?_
        refine lv_lmul hx hb dX0_innerOf_35 ?_
        refine lv_ladd hx hb dX0_innerOf_36 ?_
        refine lv_lstore_n (lv' := [(3, .long (y3 + ((Int32.toInt64 r_7) * (Int32.toInt64 r_9)))), (0, .ref (a 21)), (1, .int y1), (2, .int y2), (5, .int y5)]) hx hb dX0_innerOf_37 rfl hl (by decide) rfl (fun ls hl => ?_)
        refine lv_iinc (v := (y5 + (1 : Int32))) (lv' := [(5, .int (y5 + (1 : Int32))), (3, .long (y3 + ((Int32.toInt64 r_7) * (Int32.toInt64 r_9)))), (0, .ref (a 21)), (1, .int y1), (2, .int y2)]) hx hb dX0_innerOf_38 hl (k := 4) rfl rfl (by decide) rfl (fun ls hl => ?_)
        refine lv_goto (tgt := 5) hx hb dX0_innerOf_41 (by decide) ?_
        exact w_5 y1 y2 (y3 + ((Int32.toInt64 r_7) * (Int32.toInt64 r_9))) (y5 + (1 : Int32)) H locs ls hf hP hD hS (lv_sub hl [2, 3, 4, 1, 0] rfl)
  refine lv_lconst (v := (0 : Int64)) hx hb dX0_innerOf_0 (by decide) ?_
  refine lv_lstore_n (lv' := [(3, .long (0 : Int64)), (0, .ref (a 21)), (1, .int x1), (2, .int x2)]) hx hb dX0_innerOf_1 rfl hl (by decide) rfl (fun ls hl => ?_)
  refine lv_iconst (v := (0 : Int32)) hx hb dX0_innerOf_2 (by decide) ?_
  refine lv_istore (lv' := [(5, .int (0 : Int32)), (3, .long (0 : Int64)), (0, .ref (a 21)), (1, .int x1), (2, .int x2)]) hx hb dX0_innerOf_3 hl (by decide) rfl (fun ls hl => ?_)
  exact w_5 1000 x1 x2 (0 : Int64) (0 : Int32) H locs ls hf hP hD hS (lv_sub hl [2, 3, 4, 1, 0] rfl)
