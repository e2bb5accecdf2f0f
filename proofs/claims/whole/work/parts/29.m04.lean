def f_X4_has (x1 : Int32) : Option (Int32) := if x1 < 0 then (some ((0 : Int32))) else (if (3 : Int32) ≤ x1 then (some ((0 : Int32))) else (some ((1 : Int32))))
set_option maxHeartbeats 4000000 in
set_option maxRecDepth 20000 in
theorem c_X4_has (l : Launch) (D : va_G) (cyI cyJ : ClassId) (G a : Nat → Nat) (sz : Nat) (v4_values : Nat → Int32) (v4_lengths : Nat → Int32) (x1 : Int32) (ro : Int32) (hf : f_X4_has x1 = some ro) : xm_z l yX4_has (Cond.code yX4_has cX4_has 2 (some .boolean) :: xg_tbl) { frames := 0, cells := 0, slots := 0, locals := 0 } D xcl [(cyI, .int), (cyJ, .long)] G sz [.ref (a 25), .int x1] (wd_X4 a cyI cyJ v4_values v4_lengths) (wd_X4 a cyI cyJ v4_values v4_lengths) ro := by
  refine xm_of_z (own := RX4) (by decide) rfl rfl (Nat.le_of_ble_eq_true rfl) ?_
  intro p e s m args below meth c ls Q A hQ hAe hin Cx hsz hP hD hS hl
  have Cx1 := Cx
  obtain ⟨⟨hx, hb, hml, hown, hts⟩, hr, hlocks, hK, hA, hT⟩ := Cx1
  have hl : lv_has ls 2 [(0, .ref (a 25)), (1, .int x1)] := hl
  obtain ⟨H, eH⟩ : ∃ H, H = s.heap := ⟨_, rfl⟩
  obtain ⟨locs, eL⟩ : ∃ L : List Loc, L = [] := ⟨_, rfl⟩
  rw [← eH] at hP
  have hS : va_S A s.heap H locs := by rw [eH, eL]; exact hS
  suffices hgo : W p l e { frames := 0, cells := 0, slots := 0, locals := 0 } s m args below meth c H locs 0 0 Q (F0 m 0 ls []) by rw [eH, eL] at hgo; exact hgo
  clear eH eL
  unfold f_X4_has at hf
  refine lv_iload_n hx hb dX4_has_0 rfl (lv_at hl 1 rfl) ?_
  refine lv_if_lt (tgt := 13) hx hb dX4_has_1 (by decide) (fun hc_3 => ?_) (fun hc_3 => ?_)
  · have hf := pe_t hf hc_3
    refine lv_iconst (v := (0 : Int32)) hx hb dX4_has_13 (by decide) ?_
    obtain rfl := po_1 hf
    rw [← hQ]; exact xe_zret Cx rfl rfl hP hD hS dX4_has_14
  · have hf := pe_f hf hc_3
    refine lv_iload_n hx hb dX4_has_4 rfl (lv_at hl 1 rfl) ?_
    refine lv_iconst (v := (3 : Int32)) hx hb dX4_has_5 (by decide) ?_
    refine lv_icmp_ge (tgt := 13) hx hb dX4_has_6 (by decide) (fun hc_4 => ?_) (fun hc_4 => ?_)
    · have hf := pe_t hf hc_4
      refine lv_iconst (v := (0 : Int32)) hx hb dX4_has_13 (by decide) ?_
      obtain rfl := po_1 hf
      rw [← hQ]; exact xe_zret Cx rfl rfl hP hD hS dX4_has_14
    · have hf := pe_f hf hc_4
      refine lv_iconst (v := (1 : Int32)) hx hb dX4_has_9 (by decide) ?_
      refine lv_goto (tgt := 14) hx hb dX4_has_10 (by decide) ?_
      obtain rfl := po_1 hf
      rw [← hQ]; exact xe_zret Cx rfl rfl hP hD hS dX4_has_14
def f_X4_lengthOf (v4_lengths : Nat → Int32) (x1 : Int32) : Option (Int32) := p_b1 (f_X4_has x1) (fun r_1 => if r_1 = 0 then (some ((-1 : Int32))) else (p_in x1 3 (some ((v4_lengths (Int32.toNatClampNeg x1))))))
set_option maxHeartbeats 4000000 in
set_option maxRecDepth 20000 in
theorem c_X4_lengthOf (l : Launch) (D : va_G) (cyI cyJ : ClassId) (G a : Nat → Nat) (sz : Nat) (v4_values : Nat → Int32) (v4_lengths : Nat → Int32) (x1 : Int32) (ro : Int32) (hf : f_X4_lengthOf v4_lengths x1 = some ro) : xm_i l yX4_lengthOf (Cond.code yX4_lengthOf cX4_lengthOf 2 (some .int) :: xg_tbl) { frames := 1, cells := 0, slots := 0, locals := 21 } D xcl [(cyI, .int), (cyJ, .long)] G sz [.ref (a 25), .int x1] (wd_X4 a cyI cyJ v4_values v4_lengths) (wd_X4 a cyI cyJ v4_values v4_lengths) ro := by
  refine xm_of_i (own := RX4) (by decide) rfl rfl (Nat.le_of_ble_eq_true rfl) ?_
  intro p e s m args below meth c ls Q A hQ hAe hin Cx hsz hP hD hS hl
  have Cx1 := Cx
  obtain ⟨⟨hx, hb, hml, hown, hts⟩, hr, hlocks, hK, hA, hT⟩ := Cx1
  have hl : lv_has ls 2 [(0, .ref (a 25)), (1, .int x1)] := hl
  obtain ⟨H, eH⟩ : ∃ H, H = s.heap := ⟨_, rfl⟩
  obtain ⟨locs, eL⟩ : ∃ L : List Loc, L = [] := ⟨_, rfl⟩
  rw [← eH] at hP
  have hS : va_S A s.heap H locs := by rw [eH, eL]; exact hS
  suffices hgo : W p l e { frames := 1, cells := 0, slots := 0, locals := 21 } s m args below meth c H locs 0 0 Q (F0 m 0 ls []) by rw [eH, eL] at hgo; exact hgo
  clear eH eL
  unfold f_X4_lengthOf at hf
  refine lv_aload_n hx hb dX4_lengthOf_0 rfl (lv_at hl 0 rfl) ?_
  refine lv_iload_n hx hb dX4_lengthOf_1 rfl (lv_at hl 1 rfl) ?_
  obtain ⟨r_6, hk_7, hf⟩ := pe_1 hf
  refine xv_z (As := [.int x1]) (rest := []) (q0 := 0) (ci := 4) Cx hP hD hS hl (pl_X4_X4 a cyI cyJ v4_values v4_lengths v4_values v4_lengths) (c_X4_has l D cyI cyJ G a H.size v4_values v4_lengths x1 r_6 hk_7) pk_X4_has mw_2_156 ⟨rfl, rfl, Nat.le_of_ble_eq_true rfl, Nat.le_of_ble_eq_true rfl⟩ rfl rfl rfl rfl rfl (Nat.le_of_ble_eq_true rfl) ⟨Nat.le_of_ble_eq_true rfl, Nat.le_of_ble_eq_true rfl⟩ dX4_lengthOf_2 (fun H locs hn_8 hP hD hS => ?_)
  refine lv_if_eq (tgt := 17) hx hb dX4_lengthOf_5 (by decide) (fun hc_9 => ?_) (fun hc_9 => ?_)
  · have hf := pe_t hf hc_9
    refine lv_iconst (v := (-1 : Int32)) hx hb dX4_lengthOf_17 (by decide) ?_
    obtain rfl := po_1 hf
    rw [← hQ]; exact xe_iret Cx rfl hP hD hS dX4_lengthOf_18
  · have hf := pe_f hf hc_9
    refine lv_aload_n hx hb dX4_lengthOf_8 rfl (lv_at hl 0 rfl) ?_
    refine va_get (ci := 4) (v := .ref (a 27)) hx hb hts wX4_in hown hK hP 0 rfl rfl 1 (by decide) (hts _ mw_2_61) (fun _ h9 => h9) rfl dX4_lengthOf_9 ?_
    refine lv_iload_n hx hb dX4_lengthOf_12 rfl (lv_at hl 1 rfl) ?_
    obtain ⟨hi_10, hf⟩ := pe_in hf
    refine va_iald hx hb hK hP 2 0 rfl rfl hi_10 dX4_lengthOf_13 ?_
    refine lv_goto (tgt := 18) hx hb dX4_lengthOf_14 (by decide) ?_
    obtain rfl := po_1 hf
    rw [← hQ]; exact xe_iret Cx rfl hP hD hS dX4_lengthOf_18
def f_X4_isMissing (v4_lengths : Nat → Int32) (x1 : Int32) : Option (Int32) := p_b1 (f_X4_lengthOf v4_lengths x1) (fun r_1 => if r_1 = (-1 : Int32) then (some ((1 : Int32))) else (some ((0 : Int32))))
set_option maxHeartbeats 4000000 in
set_option maxRecDepth 20000 in
theorem c_X4_isMissing (l : Launch) (D : va_G) (cyI cyJ : ClassId) (G a : Nat → Nat) (sz : Nat) (v4_values : Nat → Int32) (v4_lengths : Nat → Int32) (x1 : Int32) (ro : Int32) (hf : f_X4_isMissing v4_lengths x1 = some ro) : xm_z l yX4_isMissing (Cond.code yX4_isMissing cX4_isMissing 2 (some .boolean) :: xg_tbl) { frames := 2, cells := 0, slots := 0, locals := 42 } D xcl [(cyI, .int), (cyJ, .long)] G sz [.ref (a 25), .int x1] (wd_X4 a cyI cyJ v4_values v4_lengths) (wd_X4 a cyI cyJ v4_values v4_lengths) ro := by
  refine xm_of_z (own := RX4) (by decide) rfl rfl (Nat.le_of_ble_eq_true rfl) ?_
  intro p e s m args below meth c ls Q A hQ hAe hin Cx hsz hP hD hS hl
  have Cx1 := Cx
  obtain ⟨⟨hx, hb, hml, hown, hts⟩, hr, hlocks, hK, hA, hT⟩ := Cx1
  have hl : lv_has ls 2 [(0, .ref (a 25)), (1, .int x1)] := hl
  obtain ⟨H, eH⟩ : ∃ H, H = s.heap := ⟨_, rfl⟩
  obtain ⟨locs, eL⟩ : ∃ L : List Loc, L = [] := ⟨_, rfl⟩
  rw [← eH] at hP
  have hS : va_S A s.heap H locs := by rw [eH, eL]; exact hS
  suffices hgo : W p l e { frames := 2, cells := 0, slots := 0, locals := 42 } s m args below meth c H locs 0 0 Q (F0 m 0 ls []) by rw [eH, eL] at hgo; exact hgo
  clear eH eL
  unfold f_X4_isMissing at hf
  refine lv_aload_n hx hb dX4_isMissing_0 rfl (lv_at hl 0 rfl) ?_
  refine lv_iload_n hx hb dX4_isMissing_1 rfl (lv_at hl 1 rfl) ?_
  obtain ⟨r_4, hk_5, hf⟩ := pe_1 hf
  refine xv_i (As := [.int x1]) (rest := []) (q0 := 0) (ci := 4) Cx hP hD hS hl (pl_X4_X4 a cyI cyJ v4_values v4_lengths v4_values v4_lengths) (c_X4_lengthOf l D cyI cyJ G a H.size v4_values v4_lengths x1 r_4 hk_5) pk_X4_lengthOf mw_2_152 ⟨rfl, rfl, Nat.le_of_ble_eq_true rfl, Nat.le_of_ble_eq_true rfl⟩ rfl rfl rfl rfl rfl (Nat.le_of_ble_eq_true rfl) ⟨Nat.le_of_ble_eq_true rfl, Nat.le_of_ble_eq_true rfl⟩ dX4_isMissing_2 (fun H locs hP hD hS => ?_)
  refine lv_iconst (v := (-1 : Int32)) hx hb dX4_isMissing_5 (by decide) ?_
  refine lv_icmp_ne (tgt := 13) hx hb dX4_isMissing_6 (by decide) (fun hc_6 => ?_) (fun hc_6 => ?_)
  · have hf := pe_f hf hc_6
    refine lv_iconst (v := (0 : Int32)) hx hb dX4_isMissing_13 (by decide) ?_
    obtain rfl := po_1 hf
    rw [← hQ]; exact xe_zret Cx rfl rfl hP hD hS dX4_isMissing_14
  · have hf := pe_t hf hc_6
    refine lv_iconst (v := (1 : Int32)) hx hb dX4_isMissing_9 (by decide) ?_
    refine lv_goto (tgt := 14) hx hb dX4_isMissing_10 (by decide) ?_
    obtain rfl := po_1 hf
    rw [← hQ]; exact xe_zret Cx rfl rfl hP hD hS dX4_isMissing_14
def f_X4_hasPlace (v4_lengths : Nat → Int32) (x1 : Int32) (x2 : Int32) : Option (Int32) := if x2 < 0 then (some ((0 : Int32))) else (p_b1 (f_X4_lengthOf v4_lengths x1) (fun r_2 => if r_2 ≤ x2 then (some ((0 : Int32))) else (if (40 : Int32) ≤ x2 then (some ((0 : Int32))) else (some ((1 : Int32))))))
set_option maxHeartbeats 4000000 in
set_option maxRecDepth 20000 in
theorem c_X4_hasPlace (l : Launch) (D : va_G) (cyI cyJ : ClassId) (G a : Nat → Nat) (sz : Nat) (v4_values : Nat → Int32) (v4_lengths : Nat → Int32) (x1 : Int32) (x2 : Int32) (ro : Int32) (hf : f_X4_hasPlace v4_lengths x1 x2 = some ro) : xm_z l yX4_hasPlace (Cond.code yX4_hasPlace cX4_hasPlace 3 (some .boolean) :: xg_tbl) { frames := 2, cells := 0, slots := 0, locals := 42 } D xcl [(cyI, .int), (cyJ, .long)] G sz [.ref (a 25), .int x1, .int x2] (wd_X4 a cyI cyJ v4_values v4_lengths) (wd_X4 a cyI cyJ v4_values v4_lengths) ro := by
  refine xm_of_z (own := RX4) (by decide) rfl rfl (Nat.le_of_ble_eq_true rfl) ?_
  intro p e s m args below meth c ls Q A hQ hAe hin Cx hsz hP hD hS hl
  have Cx1 := Cx
  obtain ⟨⟨hx, hb, hml, hown, hts⟩, hr, hlocks, hK, hA, hT⟩ := Cx1
  have hl : lv_has ls 3 [(0, .ref (a 25)), (1, .int x1), (2, .int x2)] := hl
  obtain ⟨H, eH⟩ : ∃ H, H = s.heap := ⟨_, rfl⟩
  obtain ⟨locs, eL⟩ : ∃ L : List Loc, L = [] := ⟨_, rfl⟩
  rw [← eH] at hP
  have hS : va_S A s.heap H locs := by rw [eH, eL]; exact hS
  suffices hgo : W p l e { frames := 2, cells := 0, slots := 0, locals := 42 } s m args below meth c H locs 0 0 Q (F0 m 0 ls []) by rw [eH, eL] at hgo; exact hgo
  clear eH eL
  unfold f_X4_hasPlace at hf
  refine lv_iload_n hx hb dX4_hasPlace_0 rfl (lv_at hl 2 rfl) ?_
  refine lv_if_lt (tgt := 23) hx hb dX4_hasPlace_1 (by decide) (fun hc_6 => ?_) (fun hc_6 => ?_)
  · have hf := pe_t hf hc_6
    refine lv_iconst (v := (0 : Int32)) hx hb dX4_hasPlace_23 (by decide) ?_
    obtain rfl := po_1 hf
    rw [← hQ]; exact xe_zret Cx rfl rfl hP hD hS dX4_hasPlace_24
  · have hf := pe_f hf hc_6
    refine lv_iload_n hx hb dX4_hasPlace_4 rfl (lv_at hl 2 rfl) ?_
    refine lv_aload_n hx hb dX4_hasPlace_5 rfl (lv_at hl 0 rfl) ?_
    refine lv_iload_n hx hb dX4_hasPlace_6 rfl (lv_at hl 1 rfl) ?_
    obtain ⟨r_7, hk_8, hf⟩ := pe_1 hf
    refine xv_i (As := [.int x1]) (rest := [.int x2]) (q0 := 0) (ci := 4) Cx hP hD hS hl (pl_X4_X4 a cyI cyJ v4_values v4_lengths v4_values v4_lengths) (c_X4_lengthOf l D cyI cyJ G a H.size v4_values v4_lengths x1 r_7 hk_8) pk_X4_lengthOf mw_2_152 ⟨rfl, rfl, Nat.le_of_ble_eq_true rfl, Nat.le_of_ble_eq_true rfl⟩ rfl rfl rfl rfl rfl (Nat.le_of_ble_eq_true rfl) ⟨Nat.le_of_ble_eq_true rfl, Nat.le_of_ble_eq_true rfl⟩ dX4_hasPlace_7 (fun H locs hP hD hS => ?_)
    refine lv_icmp_ge (tgt := 23) hx hb dX4_hasPlace_10 (by decide) (fun hc_9 => ?_) (fun hc_9 => ?_)
    · have hf := pe_t hf hc_9
      refine lv_iconst (v := (0 : Int32)) hx hb dX4_hasPlace_23 (by decide) ?_
      obtain rfl := po_1 hf
      rw [← hQ]; exact xe_zret Cx rfl rfl hP hD hS dX4_hasPlace_24
    · have hf := pe_f hf hc_9
      refine lv_iload_n hx hb dX4_hasPlace_13 rfl (lv_at hl 2 rfl) ?_
      refine lv_bipush (v := (40 : Int32)) hx hb dX4_hasPlace_14 (by decide) ?_
      refine lv_icmp_ge (tgt := 23) hx hb dX4_hasPlace_16 (by decide) (fun hc_10 => ?_) (fun hc_10 => ?_)
      · have hf := pe_t hf hc_10
        refine lv_iconst (v := (0 : Int32)) hx hb dX4_hasPlace_23 (by decide) ?_
        obtain rfl := po_1 hf
        rw [← hQ]; exact xe_zret Cx rfl rfl hP hD hS dX4_hasPlace_24
      · have hf := pe_f hf hc_10
        refine lv_iconst (v := (1 : Int32)) hx hb dX4_hasPlace_19 (by decide) ?_
        refine lv_goto (tgt := 24) hx hb dX4_hasPlace_20 (by decide) ?_
        obtain rfl := po_1 hf
        rw [← hQ]; exact xe_zret Cx rfl rfl hP hD hS dX4_hasPlace_24
def gf_X4_begin_17 (K_17 : (Nat → Int32) → (Nat → Int32) → Int32 → Int32 → Option ((Nat → Int32) × (Nat → Int32))) (v4_values : Nat → Int32) (v4_lengths : Nat → Int32) (y1 : Int32) (y3 : Int32) : Option ((Nat → Int32) × (Nat → Int32)) := if (40 : Int32) ≤ y3 then (some (v4_values, v4_lengths)) else (p_in ((y1 * (40 : Int32)) + y3) 120 (K_17 (upd v4_values (Int32.toNatClampNeg ((y1 * (40 : Int32)) + y3)) (0 : Int32)) v4_lengths y1 (y3 + (1 : Int32))))
def f_X4_begin_17 : Nat → (Nat → Int32) → (Nat → Int32) → Int32 → Int32 → Option ((Nat → Int32) × (Nat → Int32))
  | 0 => fun _ _ _ _ => none
  | n + 1 => gf_X4_begin_17 (f_X4_begin_17 n)
def f_X4_begin (v4_values : Nat → Int32) (v4_lengths : Nat → Int32) (x1 : Int32) (x2 : Int32) : Option ((Nat → Int32) × (Nat → Int32)) := p_b1 (f_X4_has x1) (fun r_3 => if r_3 = 0 then (some (v4_values, v4_lengths)) else (p_in x1 3 ((f_X4_begin_17 1000) v4_values (upd v4_lengths (Int32.toNatClampNeg x1) x2) x1 (0 : Int32))))
set_option maxHeartbeats 4000000 in
set_option maxRecDepth 20000 in
theorem c_X4_begin (l : Launch) (D : va_G) (cyI cyJ : ClassId) (G a : Nat → Nat) (sz : Nat) (v4_values : Nat → Int32) (v4_lengths : Nat → Int32) (x1 : Int32) (x2 : Int32) (ov4_values : Nat → Int32) (ov4_lengths : Nat → Int32) (hf : f_X4_begin v4_values v4_lengths x1 x2 = some (ov4_values, ov4_lengths)) : xm_v l yX4_begin (Cond.code yX4_begin cX4_begin 4 none :: xg_tbl) { frames := 1, cells := 0, slots := 0, locals := 21 } D xcl [(cyI, .int), (cyJ, .long)] G sz [.ref (a 25), .int x1, .int x2] (wd_X4 a cyI cyJ v4_values v4_lengths) (wd_X4 a cyI cyJ ov4_values ov4_lengths) := by
  refine xm_of_v (own := RX4) (by decide) rfl rfl (Nat.le_of_ble_eq_true rfl) ?_
  intro p e s m args below meth c ls Q A hQ hAe hin Cx hsz hP hD hS hl
  have Cx1 := Cx
  obtain ⟨⟨hx, hb, hml, hown, hts⟩, hr, hlocks, hK, hA, hT⟩ := Cx1
  have hl : lv_has ls 4 [(0, .ref (a 25)), (1, .int x1), (2, .int x2)] := hl
  obtain ⟨H, eH⟩ : ∃ H, H = s.heap := ⟨_, rfl⟩
  obtain ⟨locs, eL⟩ : ∃ L : List Loc, L = [] := ⟨_, rfl⟩
  rw [← eH] at hP
  have hS : va_S A s.heap H locs := by rw [eH, eL]; exact hS
  suffices hgo : W p l e { frames := 1, cells := 0, slots := 0, locals := 21 } s m args below meth c H locs 0 0 Q (F0 m 0 ls []) by rw [eH, eL] at hgo; exact hgo
  clear eH eL
  unfold f_X4_begin at hf
  have w_17 : ∀ (n_17 : Nat) (v4_values : Nat → Int32) (v4_lengths : Nat → Int32) (y1 : Int32) (y3 : Int32) (H : Heap) (locs : List Loc) (ls : Array Slot), f_X4_begin_17 n_17 v4_values v4_lengths y1 y3 = some (ov4_values, ov4_lengths) → va_P D xcl (wd_X4 a cyI cyJ v4_values v4_lengths) H → va_D A (wd_X4 a cyI cyJ v4_values v4_lengths) → va_S A s.heap H locs → lv_has ls 4 [(0, .ref (a 25)), (1, .int y1), (3, .int y3)] → W p l e { frames := 1, cells := 0, slots := 0, locals := 21 } s m args below meth c H locs 0 0 Q (F0 m 17 ls []) := by
    intro n_17
    induction n_17 with
    | zero => intro v4_values v4_lengths y1 y3 H locs ls hf; exact absurd hf (by intro h9; cases h9)
    | succ n_17 w_17 =>
      intro v4_values v4_lengths y1 y3 H locs ls hf hP hD hS hl
      have hf : gf_X4_begin_17 (f_X4_begin_17 n_17) v4_values v4_lengths y1 y3 = some (ov4_values, ov4_lengths) := hf
      unfold gf_X4_begin_17 at hf
      refine lv_iload_n hx hb dX4_begin_17 rfl (lv_at hl 2 rfl) ?_
      refine lv_bipush (v := (40 : Int32)) hx hb dX4_begin_18 (by decide) ?_
      refine lv_icmp_ge (tgt := 41) hx hb dX4_begin_20 (by decide) (fun hc_8 => ?_) (fun hc_8 => ?_)
      · have hf := pe_t hf hc_8
        obtain ⟨rfl, rfl⟩ := po_2 hf
        rw [← hQ]; exact xe_vret Cx hP hD hS dX4_begin_41
      · have hf := pe_f hf hc_8
        refine lv_aload_n hx hb dX4_begin_23 rfl (lv_at hl 0 rfl) ?_
        refine va_get (ci := 4) (v := .ref (a 26)) hx hb hts wX4_in hown hK hP 0 rfl rfl 0 (by decide) (hts _ mw_2_60) (fun _ h9 => h9) rfl dX4_begin_24 ?_
        refine lv_iload_n hx hb dX4_begin_27 rfl (lv_at hl 1 rfl) ?_
        refine lv_bipush (v := (40 : Int32)) hx hb dX4_begin_28 (by decide) ?_
        refine lv_imul hx hb dX4_begin_30 ?_
        refine lv_iload_n hx hb dX4_begin_31 rfl (lv_at hl 2 rfl) ?_
        refine lv_iadd hx hb dX4_begin_32 ?_
        refine lv_iconst (v := (0 : Int32)) hx hb dX4_begin_33 (by decide) ?_
        obtain ⟨hi_9, hf⟩ := pe_in hf
        refine va_iast hx hb hK hP hD hS 1 0 rfl rfl hi_9 dX4_begin_34 (fun H locs hP hD hS => ?_)
        have hP : va_P D xcl (wd_X4 a cyI cyJ (upd v4_values (Int32.toNatClampNeg ((y1 * (40 : Int32)) + y3)) (0 : Int32)) v4_lengths) H := hP
        have hD : va_D A (wd_X4 a cyI cyJ (upd v4_values (Int32.toNatClampNeg ((y1 * (40 : Int32)) + y3)) (0 : Int32)) v4_lengths) := hD
        refine lv_iinc (v := (y3 + (1 : Int32))) (lv' := [(3, .int (y3 + (1 : Int32))), (0, .ref (a 25)), (1, .int y1)]) hx hb dX4_begin_35 hl (k := 2) rfl rfl (by decide) rfl (fun ls hl => ?_)
        refine lv_goto (tgt := 17) hx hb dX4_begin_38 (by decide) ?_
        exact w_17 (upd v4_values (Int32.toNatClampNeg ((y1 * (40 : Int32)) + y3)) (0 : Int32)) v4_lengths y1 (y3 + (1 : Int32)) H locs ls hf hP hD hS (lv_sub hl [1, 2, 0] rfl)
  refine lv_aload_n hx hb dX4_begin_0 rfl (lv_at hl 0 rfl) ?_
  refine lv_iload_n hx hb dX4_begin_1 rfl (lv_at hl 1 rfl) ?_
  obtain ⟨r_10, hk_11, hf⟩ := pe_1 hf
  refine xv_z (As := [.int x1]) (rest := []) (q0 := 0) (ci := 4) Cx hP hD hS hl (pl_X4_X4 a cyI cyJ v4_values v4_lengths v4_values v4_lengths) (c_X4_has l D cyI cyJ G a H.size v4_values v4_lengths x1 r_10 hk_11) pk_X4_has mw_2_156 ⟨rfl, rfl, Nat.le_of_ble_eq_true rfl, Nat.le_of_ble_eq_true rfl⟩ rfl rfl rfl rfl rfl (Nat.le_of_ble_eq_true rfl) ⟨Nat.le_of_ble_eq_true rfl, Nat.le_of_ble_eq_true rfl⟩ dX4_begin_2 (fun H locs hn_12 hP hD hS => ?_)
  refine lv_if_eq (tgt := 41) hx hb dX4_begin_5 (by decide) (fun hc_13 => ?_) (fun hc_13 => ?_)
  · have hf := pe_t hf hc_13
    obtain ⟨rfl, rfl⟩ := po_2 hf
    rw [← hQ]; exact xe_vret Cx hP hD hS dX4_begin_41
  · have hf := pe_f hf hc_13
    refine lv_aload_n hx hb dX4_begin_8 rfl (lv_at hl 0 rfl) ?_
    refine va_get (ci := 4) (v := .ref (a 27)) hx hb hts wX4_in hown hK hP 0 rfl rfl 1 (by decide) (hts _ mw_2_61) (fun _ h9 => h9) rfl dX4_begin_9 ?_
    refine lv_iload_n hx hb dX4_begin_12 rfl (lv_at hl 1 rfl) ?_
    refine lv_iload_n hx hb dX4_begin_13 rfl (lv_at hl 2 rfl) ?_
    obtain ⟨hi_14, hf⟩ := pe_in hf
    refine va_iast hx hb hK hP hD hS 2 0 rfl rfl hi_14 dX4_begin_14 (fun H locs hP hD hS => ?_)
    have hP : va_P D xcl (wd_X4 a cyI cyJ v4_values (upd v4_lengths (Int32.toNatClampNeg x1) x2)) H := hP
    have hD : va_D A (wd_X4 a cyI cyJ v4_values (upd v4_lengths (Int32.toNatClampNeg x1) x2)) := hD
    refine lv_iconst (v := (0 : Int32)) hx hb dX4_begin_15 (by decide) ?_
    refine lv_istore_n (lv' := [(3, .int (0 : Int32)), (0, .ref (a 25)), (1, .int x1), (2, .int x2)]) hx hb dX4_begin_16 rfl hl (by decide) rfl (fun ls hl => ?_)
    exact w_17 1000 v4_values (upd v4_lengths (Int32.toNatClampNeg x1) x2) x1 (0 : Int32) H locs ls hf hP hD hS (lv_sub hl [1, 2, 0] rfl)
def f_X4_store (v4_values : Nat → Int32) (v4_lengths : Nat → Int32) (x1 : Int32) (x2 : Int32) (x3 : Int32) : Option ((Nat → Int32)) := p_b1 (f_X4_hasPlace v4_lengths x1 x2) (fun r_1 => if r_1 = 0 then (some (v4_values)) else (p_in ((x1 * (40 : Int32)) + x2) 120 (some ((upd v4_values (Int32.toNatClampNeg ((x1 * (40 : Int32)) + x2)) x3)))))
set_option maxHeartbeats 4000000 in
set_option maxRecDepth 20000 in
theorem c_X4_store (l : Launch) (D : va_G) (cyI cyJ : ClassId) (G a : Nat → Nat) (sz : Nat) (v4_values : Nat → Int32) (v4_lengths : Nat → Int32) (x1 : Int32) (x2 : Int32) (x3 : Int32) (ov4_values : Nat → Int32) (hf : f_X4_store v4_values v4_lengths x1 x2 x3 = some ov4_values) : xm_v l yX4_store (Cond.code yX4_store cX4_store 4 none :: xg_tbl) { frames := 3, cells := 0, slots := 0, locals := 64 } D xcl [(cyI, .int), (cyJ, .long)] G sz [.ref (a 25), .int x1, .int x2, .int x3] (wd_X4 a cyI cyJ v4_values v4_lengths) (wd_X4 a cyI cyJ ov4_values v4_lengths) := by
  refine xm_of_v (own := RX4) (by decide) rfl rfl (Nat.le_of_ble_eq_true rfl) ?_
  intro p e s m args below meth c ls Q A hQ hAe hin Cx hsz hP hD hS hl
  have Cx1 := Cx
  obtain ⟨⟨hx, hb, hml, hown, hts⟩, hr, hlocks, hK, hA, hT⟩ := Cx1
  have hl : lv_has ls 4 [(0, .ref (a 25)), (1, .int x1), (2, .int x2), (3, .int x3)] := hl
  obtain ⟨H, eH⟩ : ∃ H, H = s.heap := ⟨_, rfl⟩
  obtain ⟨locs, eL⟩ : ∃ L : List Loc, L = [] := ⟨_, rfl⟩
  rw [← eH] at hP
  have hS : va_S A s.heap H locs := by rw [eH, eL]; exact hS
  suffices hgo : W p l e { frames := 3, cells := 0, slots := 0, locals := 64 } s m args below meth c H locs 0 0 Q (F0 m 0 ls []) by rw [eH, eL] at hgo; exact hgo
  clear eH eL
  unfold f_X4_store at hf
  refine lv_aload_n hx hb dX4_store_0 rfl (lv_at hl 0 rfl) ?_
  refine lv_iload_n hx hb dX4_store_1 rfl (lv_at hl 1 rfl) ?_
  refine lv_iload_n hx hb dX4_store_2 rfl (lv_at hl 2 rfl) ?_
  obtain ⟨r_6, hk_7, hf⟩ := pe_1 hf
  refine xv_z (As := [.int x1, .int x2]) (rest := []) (q0 := 0) (ci := 4) Cx hP hD hS hl (pl_X4_X4 a cyI cyJ v4_values v4_lengths v4_values v4_lengths) (c_X4_hasPlace l D cyI cyJ G a H.size v4_values v4_lengths x1 x2 r_6 hk_7) pk_X4_hasPlace mw_2_166 ⟨rfl, rfl, Nat.le_of_ble_eq_true rfl, Nat.le_of_ble_eq_true rfl⟩ rfl rfl rfl rfl rfl (Nat.le_of_ble_eq_true rfl) ⟨Nat.le_of_ble_eq_true rfl, Nat.le_of_ble_eq_true rfl⟩ dX4_store_3 (fun H locs hn_8 hP hD hS => ?_)
  refine lv_if_eq (tgt := 21) hx hb dX4_store_6 (by decide) (fun hc_9 => ?_) (fun hc_9 => ?_)
  · have hf := pe_t hf hc_9
    obtain rfl := po_1 hf
    rw [← hQ]; exact xe_vret Cx hP hD hS dX4_store_21
  · have hf := pe_f hf hc_9
    refine lv_aload_n hx hb dX4_store_9 rfl (lv_at hl 0 rfl) ?_
    refine va_get (ci := 4) (v := .ref (a 26)) hx hb hts wX4_in hown hK hP 0 rfl rfl 0 (by decide) (hts _ mw_2_60) (fun _ h9 => h9) rfl dX4_store_10 ?_
    refine lv_iload_n hx hb dX4_store_13 rfl (lv_at hl 1 rfl) ?_
    refine lv_bipush (v := (40 : Int32)) hx hb dX4_store_14 (by decide) ?_
    refine lv_imul hx hb dX4_store_16 ?_
    refine lv_iload_n hx hb dX4_store_17 rfl (lv_at hl 2 rfl) ?_
    refine lv_iadd hx hb dX4_store_18 ?_
    refine lv_iload_n hx hb dX4_store_19 rfl (lv_at hl 3 rfl) ?_
    obtain ⟨hi_10, hf⟩ := pe_in hf
    refine va_iast hx hb hK hP hD hS 1 0 rfl rfl hi_10 dX4_store_20 (fun H locs hP hD hS => ?_)
    have hP : va_P D xcl (wd_X4 a cyI cyJ (upd v4_values (Int32.toNatClampNeg ((x1 * (40 : Int32)) + x2)) x3) v4_lengths) H := hP
    have hD : va_D A (wd_X4 a cyI cyJ (upd v4_values (Int32.toNatClampNeg ((x1 * (40 : Int32)) + x2)) x3) v4_lengths) := hD
    obtain rfl := po_1 hf
    rw [← hQ]; exact xe_vret Cx hP hD hS dX4_store_21
def f_X4_at (v4_values : Nat → Int32) (v4_lengths : Nat → Int32) (x1 : Int32) (x2 : Int32) : Option (Int32) := p_b1 (f_X4_hasPlace v4_lengths x1 x2) (fun r_1 => if r_1 = 0 then (some ((0 : Int32))) else (p_in ((x1 * (40 : Int32)) + x2) 120 (some ((v4_values (Int32.toNatClampNeg ((x1 * (40 : Int32)) + x2)))))))
set_option maxHeartbeats 4000000 in
set_option maxRecDepth 20000 in
theorem c_X4_at (l : Launch) (D : va_G) (cyI cyJ : ClassId) (G a : Nat → Nat) (sz : Nat) (v4_values : Nat → Int32) (v4_lengths : Nat → Int32) (x1 : Int32) (x2 : Int32) (ro : Int32) (hf : f_X4_at v4_values v4_lengths x1 x2 = some ro) : xm_i l yX4_at (Cond.code yX4_at cX4_at 3 (some .int) :: xg_tbl) { frames := 3, cells := 0, slots := 0, locals := 64 } D xcl [(cyI, .int), (cyJ, .long)] G sz [.ref (a 25), .int x1, .int x2] (wd_X4 a cyI cyJ v4_values v4_lengths) (wd_X4 a cyI cyJ v4_values v4_lengths) ro := by
  refine xm_of_i (own := RX4) (by decide) rfl rfl (Nat.le_of_ble_eq_true rfl) ?_
  intro p e s m args below meth c ls Q A hQ hAe hin Cx hsz hP hD hS hl
  have Cx1 := Cx
  obtain ⟨⟨hx, hb, hml, hown, hts⟩, hr, hlocks, hK, hA, hT⟩ := Cx1
  have hl : lv_has ls 3 [(0, .ref (a 25)), (1, .int x1), (2, .int x2)] := hl
  obtain ⟨H, eH⟩ : ∃ H, H = s.heap := ⟨_, rfl⟩
  obtain ⟨locs, eL⟩ : ∃ L : List Loc, L = [] := ⟨_, rfl⟩
  rw [← eH] at hP
  have hS : va_S A s.heap H locs := by rw [eH, eL]; exact hS
  suffices hgo : W p l e { frames := 3, cells := 0, slots := 0, locals := 64 } s m args below meth c H locs 0 0 Q (F0 m 0 ls []) by rw [eH, eL] at hgo; exact hgo
  clear eH eL
  unfold f_X4_at at hf
  refine lv_aload_n hx hb dX4_at_0 rfl (lv_at hl 0 rfl) ?_
  refine lv_iload_n hx hb dX4_at_1 rfl (lv_at hl 1 rfl) ?_
  refine lv_iload_n hx hb dX4_at_2 rfl (lv_at hl 2 rfl) ?_
  obtain ⟨r_6, hk_7, hf⟩ := pe_1 hf
  refine xv_z (As := [.int x1, .int x2]) (rest := []) (q0 := 0) (ci := 4) Cx hP hD hS hl (pl_X4_X4 a cyI cyJ v4_values v4_lengths v4_values v4_lengths) (c_X4_hasPlace l D cyI cyJ G a H.size v4_values v4_lengths x1 x2 r_6 hk_7) pk_X4_hasPlace mw_2_166 ⟨rfl, rfl, Nat.le_of_ble_eq_true rfl, Nat.le_of_ble_eq_true rfl⟩ rfl rfl rfl rfl rfl (Nat.le_of_ble_eq_true rfl) ⟨Nat.le_of_ble_eq_true rfl, Nat.le_of_ble_eq_true rfl⟩ dX4_at_3 (fun H locs hn_8 hP hD hS => ?_)
  refine lv_if_eq (tgt := 23) hx hb dX4_at_6 (by decide) (fun hc_9 => ?_) (fun hc_9 => ?_)
  · have hf := pe_t hf hc_9
    refine lv_iconst (v := (0 : Int32)) hx hb dX4_at_23 (by decide) ?_
    obtain rfl := po_1 hf
    rw [← hQ]; exact xe_iret Cx rfl hP hD hS dX4_at_24
  · have hf := pe_f hf hc_9
    refine lv_aload_n hx hb dX4_at_9 rfl (lv_at hl 0 rfl) ?_
    refine va_get (ci := 4) (v := .ref (a 26)) hx hb hts wX4_in hown hK hP 0 rfl rfl 0 (by decide) (hts _ mw_2_60) (fun _ h9 => h9) rfl dX4_at_10 ?_
    refine lv_iload_n hx hb dX4_at_13 rfl (lv_at hl 1 rfl) ?_
    refine lv_bipush (v := (40 : Int32)) hx hb dX4_at_14 (by decide) ?_
    refine lv_imul hx hb dX4_at_16 ?_
    refine lv_iload_n hx hb dX4_at_17 rfl (lv_at hl 2 rfl) ?_
    refine lv_iadd hx hb dX4_at_18 ?_
    obtain ⟨hi_10, hf⟩ := pe_in hf
    refine va_iald hx hb hK hP 1 0 rfl rfl hi_10 dX4_at_19 ?_
    refine lv_goto (tgt := 24) hx hb dX4_at_20 (by decide) ?_
    obtain rfl := po_1 hf
    rw [← hQ]; exact xe_iret Cx rfl hP hD hS dX4_at_24
