def gf_X2_isStairs_2 (K_2 : Int32 → Int32 → Int32 → Option (Int32)) (v7_rows : Nat → Int32) (y1 : Int32) (y2 : Int32) (y3 : Int32) : Option (Int32) := if y2 ≤ y3 then (some ((1 : Int32))) else (p_b1 (f_X7_row v7_rows y1 y3) (fun r_2 => if r_2 = (y2 - y3) then (K_2 y1 y2 (y3 + (1 : Int32))) else (some ((0 : Int32)))))
def f_X2_isStairs_2 (v7_rows : Nat → Int32) : Nat → Int32 → Int32 → Int32 → Option (Int32)
  | 0 => fun _ _ _ => none
  | n + 1 => gf_X2_isStairs_2 (f_X2_isStairs_2 v7_rows n) v7_rows
def f_X2_isStairs (v7_rows : Nat → Int32) (x1 : Int32) (x2 : Int32) : Option (Int32) := (f_X2_isStairs_2 v7_rows 1000) x1 x2 (0 : Int32)
set_option maxHeartbeats 4000000 in
set_option maxRecDepth 20000 in
theorem c_X2_isStairs (l : Launch) (D : va_G) (cyI cyJ : ClassId) (G a : Nat → Nat) (sz : Nat) (v7_rows : Nat → Int32) (v7_lengths : Nat → Int32) (v7_sizes : Nat → Int32) (v7_rests : Nat → Int32) (v7_orders : Nat → Int32) (x1 : Int32) (x2 : Int32) (ro : Int32) (hf : f_X2_isStairs v7_rows x1 x2 = some ro) : xm_z l yX2_isStairs (Cond.code yX2_isStairs cX2_isStairs 4 (some .boolean) :: xg_tbl) { frames := 2, cells := 0, slots := 0, locals := 44 } D xcl [(cyI, .int), (cyJ, .long)] G sz [.ref (a 12), .int x1, .int x2] (wd_X2 a cyI cyJ v7_rows v7_lengths v7_sizes v7_rests v7_orders) (wd_X2 a cyI cyJ v7_rows v7_lengths v7_sizes v7_rests v7_orders) ro := by
  refine xm_of_z (own := RX2) (by decide) rfl rfl (Nat.le_of_ble_eq_true rfl) ?_
  intro p e s m args below meth c ls Q A hQ hAe hin Cx hsz hP hD hS hl
  have Cx1 := Cx
  obtain ⟨⟨hx, hb, hml, hown, hts⟩, hr, hlocks, hK, hA, hT⟩ := Cx1
  have hl : lv_has ls 4 [(0, .ref (a 12)), (1, .int x1), (2, .int x2)] := hl
  obtain ⟨H, eH⟩ : ∃ H, H = s.heap := ⟨_, rfl⟩
  obtain ⟨locs, eL⟩ : ∃ L : List Loc, L = [] := ⟨_, rfl⟩
  rw [← eH] at hP
  have hS : va_S A s.heap H locs := by rw [eH, eL]; exact hS
  suffices hgo : W p l e { frames := 2, cells := 0, slots := 0, locals := 44 } s m args below meth c H locs 0 0 Q (F0 m 0 ls []) by rw [eH, eL] at hgo; exact hgo
  clear eH eL
  unfold f_X2_isStairs at hf
  have w_2 : ∀ (n_2 : Nat) (y1 : Int32) (y2 : Int32) (y3 : Int32) (H : Heap) (locs : List Loc) (ls : Array Slot), (f_X2_isStairs_2 v7_rows) n_2 y1 y2 y3 = some ro → va_P D xcl (wd_X2 a cyI cyJ v7_rows v7_lengths v7_sizes v7_rests v7_orders) H → va_D A (wd_X2 a cyI cyJ v7_rows v7_lengths v7_sizes v7_rests v7_orders) → va_S A s.heap H locs → lv_has ls 4 [(0, .ref (a 12)), (1, .int y1), (2, .int y2), (3, .int y3)] → W p l e { frames := 2, cells := 0, slots := 0, locals := 44 } s m args below meth c H locs 0 0 Q (F0 m 2 ls []) := by
    intro n_2
    induction n_2 with
    | zero => intro y1 y2 y3 H locs ls hf; exact absurd hf (by intro h9; cases h9)
    | succ n_2 w_2 =>
      intro y1 y2 y3 H locs ls hf hP hD hS hl
      have hf : gf_X2_isStairs_2 ((f_X2_isStairs_2 v7_rows) n_2) v7_rows y1 y2 y3 = some ro := hf
      unfold gf_X2_isStairs_2 at hf
      refine lv_iload_n hx hb dX2_isStairs_2 rfl (lv_at hl 3 rfl) ?_
      refine lv_iload_n hx hb dX2_isStairs_3 rfl (lv_at hl 2 rfl) ?_
      refine lv_icmp_ge (tgt := 30) hx hb dX2_isStairs_4 (by decide) (fun hc_5 => ?_) (fun hc_5 => ?_)
      · have hf := pe_t hf hc_5
        refine lv_iconst (v := (1 : Int32)) hx hb dX2_isStairs_30 (by decide) ?_
        obtain rfl := po_1 hf
        rw [← hQ]; exact xe_zret Cx rfl rfl hP hD hS dX2_isStairs_31
      · have hf := pe_f hf hc_5
        refine lv_aload_n hx hb dX2_isStairs_7 rfl (lv_at hl 0 rfl) ?_
        refine va_get (ci := 2) (v := .ref (a 2)) hx hb hts wX2_in hown hK hP 0 rfl rfl 0 (by decide) (hts _ mw_2_6) (fun _ h9 => h9) rfl dX2_isStairs_8 ?_
        refine lv_iload_n hx hb dX2_isStairs_11 rfl (lv_at hl 1 rfl) ?_
        refine lv_iload_n hx hb dX2_isStairs_12 rfl (lv_at hl 3 rfl) ?_
        obtain ⟨r_6, hk_7, hf⟩ := pe_1 hf
        refine xv_i (As := [.int y1, .int y3]) (rest := []) (q0 := 0) (ci := 7) Cx hP hD hS hl (pl_X2_X7 a cyI cyJ v7_rows v7_lengths v7_sizes v7_rests v7_orders v7_rows v7_lengths v7_sizes v7_rests v7_orders) (c_X7_row l D cyI cyJ G a H.size v7_rows v7_lengths v7_sizes v7_rests v7_orders y1 y3 r_6 hk_7) pk_X7_row mw_2_141 ⟨rfl, rfl, Nat.le_of_ble_eq_true rfl, Nat.le_of_ble_eq_true rfl⟩ rfl rfl rfl rfl rfl (Nat.le_of_ble_eq_true rfl) ⟨Nat.le_of_ble_eq_true rfl, Nat.le_of_ble_eq_true rfl⟩ dX2_isStairs_13 (fun H locs hP hD hS => ?_)
        refine lv_iload_n hx hb dX2_isStairs_16 rfl (lv_at hl 2 rfl) ?_
        refine lv_iload_n hx hb dX2_isStairs_17 rfl (lv_at hl 3 rfl) ?_
        refine lv_isub hx hb dX2_isStairs_18 ?_
        refine lv_icmp_eq (tgt := 24) hx hb dX2_isStairs_19 (by decide) (fun hc_8 => ?_) (fun hc_8 => ?_)
        · have hf := pe_t hf hc_8
          refine lv_iinc (v := (y3 + (1 : Int32))) (lv' := [(3, .int (y3 + (1 : Int32))), (0, .ref (a 12)), (1, .int y1), (2, .int y2)]) hx hb dX2_isStairs_24 hl (k := 3) rfl rfl (by decide) rfl (fun ls hl => ?_)
          refine lv_goto (tgt := 2) hx hb dX2_isStairs_27 (by decide) ?_
          exact w_2 y1 y2 (y3 + (1 : Int32)) H locs ls hf hP hD hS (lv_sub hl [1, 2, 3, 0] rfl)
        · have hf := pe_f hf hc_8
          refine lv_iconst (v := (0 : Int32)) hx hb dX2_isStairs_22 (by decide) ?_
          obtain rfl := po_1 hf
          rw [← hQ]; exact xe_zret Cx rfl rfl hP hD hS dX2_isStairs_23
  refine lv_iconst (v := (0 : Int32)) hx hb dX2_isStairs_0 (by decide) ?_
  refine lv_istore_n (lv' := [(3, .int (0 : Int32)), (0, .ref (a 12)), (1, .int x1), (2, .int x2)]) hx hb dX2_isStairs_1 rfl hl (by decide) rfl (fun ls hl => ?_)
  exact w_2 1000 x1 x2 (0 : Int32) H locs ls hf hP hD hS (lv_sub hl [1, 2, 3, 0] rfl)
def f_X2_isOf (v7_rows : Nat → Int32) (v7_lengths : Nat → Int32) (v7_sizes : Nat → Int32) (x1 : Int32) (x2 : Int32) : Option (Int32) := p_b1 (f_X7_lengthOf v7_lengths x1) (fun r_1 => if x2 = (0 : Int32) then (if (1 : Int32) < r_1 then (some ((0 : Int32))) else (some ((1 : Int32)))) else (if x2 = (1 : Int32) then (p_b1 (f_X7_row v7_rows x1 (0 : Int32)) (fun r_6 => if (1 : Int32) < r_6 then (some ((0 : Int32))) else (some ((1 : Int32))))) else (if x2 = (2 : Int32) then (if (2 : Int32) < r_1 then (some ((0 : Int32))) else (some ((1 : Int32)))) else (if x2 = (3 : Int32) then (if r_1 < (1 : Int32) then (some ((0 : Int32))) else (p_b1 (f_X7_row v7_rows x1 (1 : Int32)) (fun r_13 => if (1 : Int32) < r_13 then (some ((0 : Int32))) else (some ((1 : Int32)))))) else (if x2 = (4 : Int32) then (p_b1 (f_X7_turnedOf v7_rows v7_sizes x1) (fun r_17 => if r_17 = x1 then (some ((1 : Int32))) else (some ((0 : Int32))))) else (if x2 = (5 : Int32) then (if r_1 = 0 then (some ((1 : Int32))) else (p_b1 (f_X7_row v7_rows x1 (0 : Int32)) (fun r_22 => p_b1 (f_X7_row v7_rows x1 (r_1 - (1 : Int32))) (fun r_24 => if r_22 = r_24 then (some ((1 : Int32))) else (some ((0 : Int32))))))) else (if x2 = (6 : Int32) then (p_b1 (f_X2_isStairs v7_rows x1 r_1) (fun r_28 => some (r_28))) else (some ((0 : Int32))))))))))
set_option maxHeartbeats 4000000 in
set_option maxRecDepth 20000 in
theorem c_X2_isOf (l : Launch) (D : va_G) (cyI cyJ : ClassId) (G a : Nat → Nat) (sz : Nat) (v7_rows : Nat → Int32) (v7_lengths : Nat → Int32) (v7_sizes : Nat → Int32) (v7_rests : Nat → Int32) (v7_orders : Nat → Int32) (x1 : Int32) (x2 : Int32) (ro : Int32) (hf : f_X2_isOf v7_rows v7_lengths v7_sizes x1 x2 = some ro) : xm_z l yX2_isOf (Cond.code yX2_isOf cX2_isOf 4 (some .boolean) :: xg_tbl) { frames := 4, cells := 0, slots := 0, locals := 90 } D xcl [(cyI, .int), (cyJ, .long)] G sz [.ref (a 12), .int x1, .int x2] (wd_X2 a cyI cyJ v7_rows v7_lengths v7_sizes v7_rests v7_orders) (wd_X2 a cyI cyJ v7_rows v7_lengths v7_sizes v7_rests v7_orders) ro := by
  refine xm_of_z (own := RX2) (by decide) rfl rfl (Nat.le_of_ble_eq_true rfl) ?_
  intro p e s m args below meth c ls Q A hQ hAe hin Cx hsz hP hD hS hl
  have Cx1 := Cx
  obtain ⟨⟨hx, hb, hml, hown, hts⟩, hr, hlocks, hK, hA, hT⟩ := Cx1
  have hl : lv_has ls 4 [(0, .ref (a 12)), (1, .int x1), (2, .int x2)] := hl
  obtain ⟨H, eH⟩ : ∃ H, H = s.heap := ⟨_, rfl⟩
  obtain ⟨locs, eL⟩ : ∃ L : List Loc, L = [] := ⟨_, rfl⟩
  rw [← eH] at hP
  have hS : va_S A s.heap H locs := by rw [eH, eL]; exact hS
  suffices hgo : W p l e { frames := 4, cells := 0, slots := 0, locals := 90 } s m args below meth c H locs 0 0 Q (F0 m 0 ls []) by rw [eH, eL] at hgo; exact hgo
  clear eH eL
  unfold f_X2_isOf at hf
  refine lv_aload_n hx hb dX2_isOf_0 rfl (lv_at hl 0 rfl) ?_
  refine va_get (ci := 2) (v := .ref (a 2)) hx hb hts wX2_in hown hK hP 0 rfl rfl 0 (by decide) (hts _ mw_2_6) (fun _ h9 => h9) rfl dX2_isOf_1 ?_
  refine lv_iload_n hx hb dX2_isOf_4 rfl (lv_at hl 1 rfl) ?_
  obtain ⟨r_31, hk_32, hf⟩ := pe_1 hf
  refine xv_i (As := [.int x1]) (rest := []) (q0 := 0) (ci := 7) Cx hP hD hS hl (pl_X2_X7 a cyI cyJ v7_rows v7_lengths v7_sizes v7_rests v7_orders v7_rows v7_lengths v7_sizes v7_rests v7_orders) (c_X7_lengthOf l D cyI cyJ G a H.size v7_rows v7_lengths v7_sizes v7_rests v7_orders x1 r_31 hk_32) pk_X7_lengthOf mw_2_140 ⟨rfl, rfl, Nat.le_of_ble_eq_true rfl, Nat.le_of_ble_eq_true rfl⟩ rfl rfl rfl rfl rfl (Nat.le_of_ble_eq_true rfl) ⟨Nat.le_of_ble_eq_true rfl, Nat.le_of_ble_eq_true rfl⟩ dX2_isOf_5 (fun H locs hP hD hS => ?_)
  refine lv_istore_n (lv' := [(3, .int r_31), (0, .ref (a 12)), (1, .int x1), (2, .int x2)]) hx hb dX2_isOf_8 rfl hl (by decide) rfl (fun ls hl => ?_)
  refine lv_iload_n hx hb dX2_isOf_9 rfl (lv_at hl 3 rfl) ?_
  by_cases hc_33 : x2 = (0 : Int32)
  · have hf := pe_t hf hc_33
    refine lv_tableIn (tgt := 52) hx hb dX2_isOf_10 (by rw [hc_33]; decide) (by rw [hc_33]; decide) (by rw [hc_33]; rfl) (by decide) ?_
    refine lv_iload_n hx hb dX2_isOf_52 rfl (lv_at hl 0 rfl) ?_
    refine lv_iconst (v := (1 : Int32)) hx hb dX2_isOf_53 (by decide) ?_
    refine lv_icmp_gt (tgt := 61) hx hb dX2_isOf_54 (by decide) (fun hc_34 => ?_) (fun hc_34 => ?_)
    · have hf := pe_t hf hc_34
      refine lv_iconst (v := (0 : Int32)) hx hb dX2_isOf_61 (by decide) ?_
      obtain rfl := po_1 hf
      rw [← hQ]; exact xe_zret Cx rfl rfl hP hD hS dX2_isOf_62
    · have hf := pe_f hf hc_34
      refine lv_iconst (v := (1 : Int32)) hx hb dX2_isOf_57 (by decide) ?_
      refine lv_goto (tgt := 62) hx hb dX2_isOf_58 (by decide) ?_
      obtain rfl := po_1 hf
      rw [← hQ]; exact xe_zret Cx rfl rfl hP hD hS dX2_isOf_62
  · have hf := pe_f hf hc_33
    by_cases hc_35 : x2 = (1 : Int32)
    · have hf := pe_t hf hc_35
      refine lv_tableIn (tgt := 63) hx hb dX2_isOf_10 (by rw [hc_35]; decide) (by rw [hc_35]; decide) (by rw [hc_35]; rfl) (by decide) ?_
      refine lv_aload_n hx hb dX2_isOf_63 rfl (lv_at hl 1 rfl) ?_
      refine va_get (ci := 2) (v := .ref (a 2)) hx hb hts wX2_in hown hK hP 0 rfl rfl 0 (by decide) (hts _ mw_2_6) (fun _ h9 => h9) rfl dX2_isOf_64 ?_
      refine lv_iload_n hx hb dX2_isOf_67 rfl (lv_at hl 2 rfl) ?_
      refine lv_iconst (v := (0 : Int32)) hx hb dX2_isOf_68 (by decide) ?_
      obtain ⟨r_36, hk_37, hf⟩ := pe_1 hf
      refine xv_i (As := [.int x1, .int (0 : Int32)]) (rest := []) (q0 := 0) (ci := 7) Cx hP hD hS hl (pl_X2_X7 a cyI cyJ v7_rows v7_lengths v7_sizes v7_rests v7_orders v7_rows v7_lengths v7_sizes v7_rests v7_orders) (c_X7_row l D cyI cyJ G a H.size v7_rows v7_lengths v7_sizes v7_rests v7_orders x1 (0 : Int32) r_36 hk_37) pk_X7_row mw_2_141 ⟨rfl, rfl, Nat.le_of_ble_eq_true rfl, Nat.le_of_ble_eq_true rfl⟩ rfl rfl rfl rfl rfl (Nat.le_of_ble_eq_true rfl) ⟨Nat.le_of_ble_eq_true rfl, Nat.le_of_ble_eq_true rfl⟩ dX2_isOf_69 (fun H locs hP hD hS => ?_)
      refine lv_iconst (v := (1 : Int32)) hx hb dX2_isOf_72 (by decide) ?_
      refine lv_icmp_gt (tgt := 80) hx hb dX2_isOf_73 (by decide) (fun hc_38 => ?_) (fun hc_38 => ?_)
      · have hf := pe_t hf hc_38
        refine lv_iconst (v := (0 : Int32)) hx hb dX2_isOf_80 (by decide) ?_
        obtain rfl := po_1 hf
        rw [← hQ]; exact xe_zret Cx rfl rfl hP hD hS dX2_isOf_81
      · have hf := pe_f hf hc_38
        refine lv_iconst (v := (1 : Int32)) hx hb dX2_isOf_76 (by decide) ?_
        refine lv_goto (tgt := 81) hx hb dX2_isOf_77 (by decide) ?_
        obtain rfl := po_1 hf
        rw [← hQ]; exact xe_zret Cx rfl rfl hP hD hS dX2_isOf_81
    · have hf := pe_f hf hc_35
      by_cases hc_39 : x2 = (2 : Int32)
      · have hf := pe_t hf hc_39
        refine lv_tableIn (tgt := 82) hx hb dX2_isOf_10 (by rw [hc_39]; decide) (by rw [hc_39]; decide) (by rw [hc_39]; rfl) (by decide) ?_
        refine lv_iload_n hx hb dX2_isOf_82 rfl (lv_at hl 0 rfl) ?_
        refine lv_iconst (v := (2 : Int32)) hx hb dX2_isOf_83 (by decide) ?_
        refine lv_icmp_gt (tgt := 91) hx hb dX2_isOf_84 (by decide) (fun hc_40 => ?_) (fun hc_40 => ?_)
        · have hf := pe_t hf hc_40
          refine lv_iconst (v := (0 : Int32)) hx hb dX2_isOf_91 (by decide) ?_
          obtain rfl := po_1 hf
          rw [← hQ]; exact xe_zret Cx rfl rfl hP hD hS dX2_isOf_92
        · have hf := pe_f hf hc_40
          refine lv_iconst (v := (1 : Int32)) hx hb dX2_isOf_87 (by decide) ?_
          refine lv_goto (tgt := 92) hx hb dX2_isOf_88 (by decide) ?_
          obtain rfl := po_1 hf
          rw [← hQ]; exact xe_zret Cx rfl rfl hP hD hS dX2_isOf_92
      · have hf := pe_f hf hc_39
        by_cases hc_41 : x2 = (3 : Int32)
        · have hf := pe_t hf hc_41
          refine lv_tableIn (tgt := 93) hx hb dX2_isOf_10 (by rw [hc_41]; decide) (by rw [hc_41]; decide) (by rw [hc_41]; rfl) (by decide) ?_
          refine lv_iload_n hx hb dX2_isOf_93 rfl (lv_at hl 0 rfl) ?_
          refine lv_iconst (v := (1 : Int32)) hx hb dX2_isOf_94 (by decide) ?_
          refine lv_icmp_lt (tgt := 115) hx hb dX2_isOf_95 (by decide) (fun hc_42 => ?_) (fun hc_42 => ?_)
          · have hf := pe_t hf hc_42
            refine lv_iconst (v := (0 : Int32)) hx hb dX2_isOf_115 (by decide) ?_
            obtain rfl := po_1 hf
            rw [← hQ]; exact xe_zret Cx rfl rfl hP hD hS dX2_isOf_116
          · have hf := pe_f hf hc_42
            refine lv_aload_n hx hb dX2_isOf_98 rfl (lv_at hl 1 rfl) ?_
            refine va_get (ci := 2) (v := .ref (a 2)) hx hb hts wX2_in hown hK hP 0 rfl rfl 0 (by decide) (hts _ mw_2_6) (fun _ h9 => h9) rfl dX2_isOf_99 ?_
            refine lv_iload_n hx hb dX2_isOf_102 rfl (lv_at hl 2 rfl) ?_
            refine lv_iconst (v := (1 : Int32)) hx hb dX2_isOf_103 (by decide) ?_
            obtain ⟨r_43, hk_44, hf⟩ := pe_1 hf
            refine xv_i (As := [.int x1, .int (1 : Int32)]) (rest := []) (q0 := 0) (ci := 7) Cx hP hD hS hl (pl_X2_X7 a cyI cyJ v7_rows v7_lengths v7_sizes v7_rests v7_orders v7_rows v7_lengths v7_sizes v7_rests v7_orders) (c_X7_row l D cyI cyJ G a H.size v7_rows v7_lengths v7_sizes v7_rests v7_orders x1 (1 : Int32) r_43 hk_44) pk_X7_row mw_2_141 ⟨rfl, rfl, Nat.le_of_ble_eq_true rfl, Nat.le_of_ble_eq_true rfl⟩ rfl rfl rfl rfl rfl (Nat.le_of_ble_eq_true rfl) ⟨Nat.le_of_ble_eq_true rfl, Nat.le_of_ble_eq_true rfl⟩ dX2_isOf_104 (fun H locs hP hD hS => ?_)
            refine lv_iconst (v := (1 : Int32)) hx hb dX2_isOf_107 (by decide) ?_
            refine lv_icmp_gt (tgt := 115) hx hb dX2_isOf_108 (by decide) (fun hc_45 => ?_) (fun hc_45 => ?_)
            · have hf := pe_t hf hc_45
              refine lv_iconst (v := (0 : Int32)) hx hb dX2_isOf_115 (by decide) ?_
              obtain rfl := po_1 hf
              rw [← hQ]; exact xe_zret Cx rfl rfl hP hD hS dX2_isOf_116
            · have hf := pe_f hf hc_45
              refine lv_iconst (v := (1 : Int32)) hx hb dX2_isOf_111 (by decide) ?_
              refine lv_goto (tgt := 116) hx hb dX2_isOf_112 (by decide) ?_
              obtain rfl := po_1 hf
              rw [← hQ]; exact xe_zret Cx rfl rfl hP hD hS dX2_isOf_116
        · have hf := pe_f hf hc_41
          by_cases hc_46 : x2 = (4 : Int32)
          · have hf := pe_t hf hc_46
            refine lv_tableIn (tgt := 117) hx hb dX2_isOf_10 (by rw [hc_46]; decide) (by rw [hc_46]; decide) (by rw [hc_46]; rfl) (by decide) ?_
            refine lv_aload_n hx hb dX2_isOf_117 rfl (lv_at hl 1 rfl) ?_
            refine va_get (ci := 2) (v := .ref (a 2)) hx hb hts wX2_in hown hK hP 0 rfl rfl 0 (by decide) (hts _ mw_2_6) (fun _ h9 => h9) rfl dX2_isOf_118 ?_
            refine lv_iload_n hx hb dX2_isOf_121 rfl (lv_at hl 2 rfl) ?_
            obtain ⟨r_47, hk_48, hf⟩ := pe_1 hf
            refine xv_i (As := [.int x1]) (rest := []) (q0 := 0) (ci := 7) Cx hP hD hS hl (pl_X2_X7 a cyI cyJ v7_rows v7_lengths v7_sizes v7_rests v7_orders v7_rows v7_lengths v7_sizes v7_rests v7_orders) (c_X7_turnedOf l D cyI cyJ G a H.size v7_rows v7_lengths v7_sizes v7_rests v7_orders x1 r_47 hk_48) pk_X7_turnedOf mw_2_142 ⟨rfl, rfl, Nat.le_of_ble_eq_true rfl, Nat.le_of_ble_eq_true rfl⟩ rfl rfl rfl rfl rfl (Nat.le_of_ble_eq_true rfl) ⟨Nat.le_of_ble_eq_true rfl, Nat.le_of_ble_eq_true rfl⟩ dX2_isOf_122 (fun H locs hP hD hS => ?_)
            refine lv_iload_n hx hb dX2_isOf_125 rfl (lv_at hl 2 rfl) ?_
            refine lv_icmp_ne (tgt := 133) hx hb dX2_isOf_126 (by decide) (fun hc_49 => ?_) (fun hc_49 => ?_)
            · have hf := pe_f hf hc_49
              refine lv_iconst (v := (0 : Int32)) hx hb dX2_isOf_133 (by decide) ?_
              obtain rfl := po_1 hf
              rw [← hQ]; exact xe_zret Cx rfl rfl hP hD hS dX2_isOf_134
            · have hf := pe_t hf hc_49
              refine lv_iconst (v := (1 : Int32)) hx hb dX2_isOf_129 (by decide) ?_
              refine lv_goto (tgt := 134) hx hb dX2_isOf_130 (by decide) ?_
              obtain rfl := po_1 hf
              rw [← hQ]; exact xe_zret Cx rfl rfl hP hD hS dX2_isOf_134
          · have hf := pe_f hf hc_46
            by_cases hc_50 : x2 = (5 : Int32)
            · have hf := pe_t hf hc_50
              refine lv_tableIn (tgt := 135) hx hb dX2_isOf_10 (by rw [hc_50]; decide) (by rw [hc_50]; decide) (by rw [hc_50]; rfl) (by decide) ?_
              refine lv_iload_n hx hb dX2_isOf_135 rfl (lv_at hl 0 rfl) ?_
              refine lv_if_eq (tgt := 162) hx hb dX2_isOf_136 (by decide) (fun hc_51 => ?_) (fun hc_51 => ?_)
              · have hf := pe_t hf hc_51
                refine lv_iconst (v := (1 : Int32)) hx hb dX2_isOf_162 (by decide) ?_
                refine lv_goto (tgt := 167) hx hb dX2_isOf_163 (by decide) ?_
                obtain rfl := po_1 hf
                rw [← hQ]; exact xe_zret Cx rfl rfl hP hD hS dX2_isOf_167
              · have hf := pe_f hf hc_51
                refine lv_aload_n hx hb dX2_isOf_139 rfl (lv_at hl 1 rfl) ?_
                refine va_get (ci := 2) (v := .ref (a 2)) hx hb hts wX2_in hown hK hP 0 rfl rfl 0 (by decide) (hts _ mw_2_6) (fun _ h9 => h9) rfl dX2_isOf_140 ?_
                refine lv_iload_n hx hb dX2_isOf_143 rfl (lv_at hl 2 rfl) ?_
                refine lv_iconst (v := (0 : Int32)) hx hb dX2_isOf_144 (by decide) ?_
                obtain ⟨r_52, hk_53, hf⟩ := pe_1 hf
                refine xv_i (As := [.int x1, .int (0 : Int32)]) (rest := []) (q0 := 0) (ci := 7) Cx hP hD hS hl (pl_X2_X7 a cyI cyJ v7_rows v7_lengths v7_sizes v7_rests v7_orders v7_rows v7_lengths v7_sizes v7_rests v7_orders) (c_X7_row l D cyI cyJ G a H.size v7_rows v7_lengths v7_sizes v7_rests v7_orders x1 (0 : Int32) r_52 hk_53) pk_X7_row mw_2_141 ⟨rfl, rfl, Nat.le_of_ble_eq_true rfl, Nat.le_of_ble_eq_true rfl⟩ rfl rfl rfl rfl rfl (Nat.le_of_ble_eq_true rfl) ⟨Nat.le_of_ble_eq_true rfl, Nat.le_of_ble_eq_true rfl⟩ dX2_isOf_145 (fun H locs hP hD hS => ?_)
                refine lv_aload_n hx hb dX2_isOf_148 rfl (lv_at hl 1 rfl) ?_
                refine va_get (ci := 2) (v := .ref (a 2)) hx hb hts wX2_in hown hK hP 0 rfl rfl 0 (by decide) (hts _ mw_2_6) (fun _ h9 => h9) rfl dX2_isOf_149 ?_
                refine lv_iload_n hx hb dX2_isOf_152 rfl (lv_at hl 2 rfl) ?_
                refine lv_iload_n hx hb dX2_isOf_153 rfl (lv_at hl 0 rfl) ?_
                refine lv_iconst (v := (1 : Int32)) hx hb dX2_isOf_154 (by decide) ?_
                refine lv_isub hx hb dX2_isOf_155 ?_
                obtain ⟨r_54, hk_55, hf⟩ := pe_1 hf
                refine xv_i (As := [.int x1, .int (r_31 - (1 : Int32))]) (rest := [.int r_52]) (q0 := 0) (ci := 7) Cx hP hD hS hl (pl_X2_X7 a cyI cyJ v7_rows v7_lengths v7_sizes v7_rests v7_orders v7_rows v7_lengths v7_sizes v7_rests v7_orders) (c_X7_row l D cyI cyJ G a H.size v7_rows v7_lengths v7_sizes v7_rests v7_orders x1 (r_31 - (1 : Int32)) r_54 hk_55) pk_X7_row mw_2_141 ⟨rfl, rfl, Nat.le_of_ble_eq_true rfl, Nat.le_of_ble_eq_true rfl⟩ rfl rfl rfl rfl rfl (Nat.le_of_ble_eq_true rfl) ⟨Nat.le_of_ble_eq_true rfl, Nat.le_of_ble_eq_true rfl⟩ dX2_isOf_156 (fun H locs hP hD hS => ?_)
                refine lv_icmp_ne (tgt := 166) hx hb dX2_isOf_159 (by decide) (fun hc_56 => ?_) (fun hc_56 => ?_)
                · have hf := pe_f hf hc_56
                  refine lv_iconst (v := (0 : Int32)) hx hb dX2_isOf_166 (by decide) ?_
                  obtain rfl := po_1 hf
                  rw [← hQ]; exact xe_zret Cx rfl rfl hP hD hS dX2_isOf_167
                · have hf := pe_t hf hc_56
                  refine lv_iconst (v := (1 : Int32)) hx hb dX2_isOf_162 (by decide) ?_
                  refine lv_goto (tgt := 167) hx hb dX2_isOf_163 (by decide) ?_
                  obtain rfl := po_1 hf
                  rw [← hQ]; exact xe_zret Cx rfl rfl hP hD hS dX2_isOf_167
            · have hf := pe_f hf hc_50
              by_cases hc_57 : x2 = (6 : Int32)
              · have hf := pe_t hf hc_57
                refine lv_tableIn (tgt := 168) hx hb dX2_isOf_10 (by rw [hc_57]; decide) (by rw [hc_57]; decide) (by rw [hc_57]; rfl) (by decide) ?_
                refine lv_aload_n hx hb dX2_isOf_168 rfl (lv_at hl 1 rfl) ?_
                refine lv_iload_n hx hb dX2_isOf_169 rfl (lv_at hl 2 rfl) ?_
                refine lv_iload_n hx hb dX2_isOf_170 rfl (lv_at hl 0 rfl) ?_
                obtain ⟨r_58, hk_59, hf⟩ := pe_1 hf
                refine xv_z (As := [.int x1, .int r_31]) (rest := []) (q0 := 0) (ci := 2) Cx hP hD hS hl (pl_X2_X2 a cyI cyJ v7_rows v7_lengths v7_sizes v7_rests v7_orders v7_rows v7_lengths v7_sizes v7_rests v7_orders) (c_X2_isStairs l D cyI cyJ G a H.size v7_rows v7_lengths v7_sizes v7_rests v7_orders x1 r_31 r_58 hk_59) pk_X2_isStairs mw_2_143 ⟨rfl, rfl, Nat.le_of_ble_eq_true rfl, Nat.le_of_ble_eq_true rfl⟩ rfl rfl rfl rfl rfl (Nat.le_of_ble_eq_true rfl) ⟨Nat.le_of_ble_eq_true rfl, Nat.le_of_ble_eq_true rfl⟩ dX2_isOf_171 (fun H locs hn_60 hP hD hS => ?_)
                obtain rfl := po_1 hf
                rw [← hQ]; exact xe_zret Cx rfl hn_60 hP hD hS dX2_isOf_174
              · have hf := pe_f hf hc_57
                have hc_33 : (x2).toInt ≠ 0 := xh_ne (by decide) hc_33
                have hc_35 : (x2).toInt ≠ 1 := xh_ne (by decide) hc_35
                have hc_39 : (x2).toInt ≠ 2 := xh_ne (by decide) hc_39
                have hc_41 : (x2).toInt ≠ 3 := xh_ne (by decide) hc_41
                have hc_46 : (x2).toInt ≠ 4 := xh_ne (by decide) hc_46
                have hc_50 : (x2).toInt ≠ 5 := xh_ne (by decide) hc_50
                have hc_57 : (x2).toInt ≠ 6 := xh_ne (by decide) hc_57
                refine lv_tableOut (tgt := 175) hx hb dX2_isOf_10 (by omega) (by decide) ?_
                refine lv_iconst (v := (0 : Int32)) hx hb dX2_isOf_175 (by decide) ?_
                obtain rfl := po_1 hf
                rw [← hQ]; exact xe_zret Cx rfl rfl hP hD hS dX2_isOf_176
def gf_X2_bitsOf_4 (K_4 : Int32 → Int32 → Int32 → Option (Int32)) (v7_rows : Nat → Int32) (v7_lengths : Nat → Int32) (v7_sizes : Nat → Int32) (y1 : Int32) (y2 : Int32) (y3 : Int32) : Option (Int32) := if (7 : Int32) ≤ y3 then (some (y2)) else (p_b1 (f_X2_isOf v7_rows v7_lengths v7_sizes y1 y3) (fun r_2 => if r_2 = 0 then (K_4 y1 y2 (y3 + (1 : Int32))) else (K_4 y1 (y2 ||| ((1 : Int32) <<< (y3 &&& 31))) (y3 + (1 : Int32)))))
def f_X2_bitsOf_4 (v7_rows : Nat → Int32) (v7_lengths : Nat → Int32) (v7_sizes : Nat → Int32) : Nat → Int32 → Int32 → Int32 → Option (Int32)
  | 0 => fun _ _ _ => none
  | n + 1 => gf_X2_bitsOf_4 (f_X2_bitsOf_4 v7_rows v7_lengths v7_sizes n) v7_rows v7_lengths v7_sizes
def f_X2_bitsOf (v7_rows : Nat → Int32) (v7_lengths : Nat → Int32) (v7_sizes : Nat → Int32) (x1 : Int32) : Option (Int32) := (f_X2_bitsOf_4 v7_rows v7_lengths v7_sizes 1000) x1 (0 : Int32) (0 : Int32)
set_option maxHeartbeats 4000000 in
set_option maxRecDepth 20000 in
theorem c_X2_bitsOf (l : Launch) (D : va_G) (cyI cyJ : ClassId) (G a : Nat → Nat) (sz : Nat) (v7_rows : Nat → Int32) (v7_lengths : Nat → Int32) (v7_sizes : Nat → Int32) (v7_rests : Nat → Int32) (v7_orders : Nat → Int32) (x1 : Int32) (ro : Int32) (hf : f_X2_bitsOf v7_rows v7_lengths v7_sizes x1 = some ro) : xm_i l yX2_bitsOf (Cond.code yX2_bitsOf cX2_bitsOf 4 (some .int) :: xg_tbl) { frames := 5, cells := 0, slots := 0, locals := 113 } D xcl [(cyI, .int), (cyJ, .long)] G sz [.ref (a 12), .int x1] (wd_X2 a cyI cyJ v7_rows v7_lengths v7_sizes v7_rests v7_orders) (wd_X2 a cyI cyJ v7_rows v7_lengths v7_sizes v7_rests v7_orders) ro := by
  refine xm_of_i (own := RX2) (by decide) rfl rfl (Nat.le_of_ble_eq_true rfl) ?_
  intro p e s m args below meth c ls Q A hQ hAe hin Cx hsz hP hD hS hl
  have Cx1 := Cx
  obtain ⟨⟨hx, hb, hml, hown, hts⟩, hr, hlocks, hK, hA, hT⟩ := Cx1
  have hl : lv_has ls 4 [(0, .ref (a 12)), (1, .int x1)] := hl
  obtain ⟨H, eH⟩ : ∃ H, H = s.heap := ⟨_, rfl⟩
  obtain ⟨locs, eL⟩ : ∃ L : List Loc, L = [] := ⟨_, rfl⟩
  rw [← eH] at hP
  have hS : va_S A s.heap H locs := by rw [eH, eL]; exact hS
  suffices hgo : W p l e { frames := 5, cells := 0, slots := 0, locals := 113 } s m args below meth c H locs 0 0 Q (F0 m 0 ls []) by rw [eH, eL] at hgo; exact hgo
  clear eH eL
  unfold f_X2_bitsOf at hf
  have w_4 : ∀ (n_4 : Nat) (y1 : Int32) (y2 : Int32) (y3 : Int32) (H : Heap) (locs : List Loc) (ls : Array Slot), (f_X2_bitsOf_4 v7_rows v7_lengths v7_sizes) n_4 y1 y2 y3 = some ro → va_P D xcl (wd_X2 a cyI cyJ v7_rows v7_lengths v7_sizes v7_rests v7_orders) H → va_D A (wd_X2 a cyI cyJ v7_rows v7_lengths v7_sizes v7_rests v7_orders) → va_S A s.heap H locs → lv_has ls 4 [(0, .ref (a 12)), (1, .int y1), (2, .int y2), (3, .int y3)] → W p l e { frames := 5, cells := 0, slots := 0, locals := 113 } s m args below meth c H locs 0 0 Q (F0 m 4 ls []) := by
    intro n_4
    induction n_4 with
    | zero => intro y1 y2 y3 H locs ls hf; exact absurd hf (by intro h9; cases h9)
    | succ n_4 w_4 =>
      intro y1 y2 y3 H locs ls hf hP hD hS hl
      have hf : gf_X2_bitsOf_4 ((f_X2_bitsOf_4 v7_rows v7_lengths v7_sizes) n_4) v7_rows v7_lengths v7_sizes y1 y2 y3 = some ro := hf
      unfold gf_X2_bitsOf_4 at hf
      refine lv_iload_n hx hb dX2_bitsOf_4 rfl (lv_at hl 3 rfl) ?_
      refine lv_bipush (v := (7 : Int32)) hx hb dX2_bitsOf_5 (by decide) ?_
      refine lv_icmp_ge (tgt := 31) hx hb dX2_bitsOf_7 (by decide) (fun hc_6 => ?_) (fun hc_6 => ?_)
      · have hf := pe_t hf hc_6
        refine lv_iload_n hx hb dX2_bitsOf_31 rfl (lv_at hl 2 rfl) ?_
        obtain rfl := po_1 hf
        rw [← hQ]; exact xe_iret Cx rfl hP hD hS dX2_bitsOf_32
      · have hf := pe_f hf hc_6
        refine lv_aload_n hx hb dX2_bitsOf_10 rfl (lv_at hl 0 rfl) ?_
        refine lv_iload_n hx hb dX2_bitsOf_11 rfl (lv_at hl 1 rfl) ?_
        refine lv_iload_n hx hb dX2_bitsOf_12 rfl (lv_at hl 3 rfl) ?_
        obtain ⟨r_7, hk_8, hf⟩ := pe_1 hf
        refine xv_z (As := [.int y1, .int y3]) (rest := []) (q0 := 0) (ci := 2) Cx hP hD hS hl (pl_X2_X2 a cyI cyJ v7_rows v7_lengths v7_sizes v7_rests v7_orders v7_rows v7_lengths v7_sizes v7_rests v7_orders) (c_X2_isOf l D cyI cyJ G a H.size v7_rows v7_lengths v7_sizes v7_rests v7_orders y1 y3 r_7 hk_8) pk_X2_isOf mw_2_136 ⟨rfl, rfl, Nat.le_of_ble_eq_true rfl, Nat.le_of_ble_eq_true rfl⟩ rfl rfl rfl rfl rfl (Nat.le_of_ble_eq_true rfl) ⟨Nat.le_of_ble_eq_true rfl, Nat.le_of_ble_eq_true rfl⟩ dX2_bitsOf_13 (fun H locs hn_9 hP hD hS => ?_)
        refine lv_if_eq (tgt := 25) hx hb dX2_bitsOf_16 (by decide) (fun hc_10 => ?_) (fun hc_10 => ?_)
        · have hf := pe_t hf hc_10
          refine lv_iinc (v := (y3 + (1 : Int32))) (lv' := [(3, .int (y3 + (1 : Int32))), (0, .ref (a 12)), (1, .int y1), (2, .int y2)]) hx hb dX2_bitsOf_25 hl (k := 3) rfl rfl (by decide) rfl (fun ls hl => ?_)
          refine lv_goto (tgt := 4) hx hb dX2_bitsOf_28 (by decide) ?_
          exact w_4 y1 y2 (y3 + (1 : Int32)) H locs ls hf hP hD hS (lv_sub hl [1, 2, 3, 0] rfl)
        · have hf := pe_f hf hc_10
          refine lv_iload_n hx hb dX2_bitsOf_19 rfl (lv_at hl 2 rfl) ?_
          refine lv_iconst (v := (1 : Int32)) hx hb dX2_bitsOf_20 (by decide) ?_
          refine lv_iload_n hx hb dX2_bitsOf_21 rfl (lv_at hl 3 rfl) ?_
          refine lv_ishl hx hb dX2_bitsOf_22 ?_
          refine lv_ior hx hb dX2_bitsOf_23 ?_
          refine lv_istore_n (lv' := [(2, .int (y2 ||| ((1 : Int32) <<< (y3 &&& 31)))), (0, .ref (a 12)), (1, .int y1), (3, .int y3)]) hx hb dX2_bitsOf_24 rfl hl (by decide) rfl (fun ls hl => ?_)
          refine lv_iinc (v := (y3 + (1 : Int32))) (lv' := [(3, .int (y3 + (1 : Int32))), (2, .int (y2 ||| ((1 : Int32) <<< (y3 &&& 31)))), (0, .ref (a 12)), (1, .int y1)]) hx hb dX2_bitsOf_25 hl (k := 3) rfl rfl (by decide) rfl (fun ls hl => ?_)
          refine lv_goto (tgt := 4) hx hb dX2_bitsOf_28 (by decide) ?_
          exact w_4 y1 (y2 ||| ((1 : Int32) <<< (y3 &&& 31))) (y3 + (1 : Int32)) H locs ls hf hP hD hS (lv_sub hl [2, 3, 1, 0] rfl)
  refine lv_iconst (v := (0 : Int32)) hx hb dX2_bitsOf_0 (by decide) ?_
  refine lv_istore_n (lv' := [(2, .int (0 : Int32)), (0, .ref (a 12)), (1, .int x1)]) hx hb dX2_bitsOf_1 rfl hl (by decide) rfl (fun ls hl => ?_)
  refine lv_iconst (v := (0 : Int32)) hx hb dX2_bitsOf_2 (by decide) ?_
  refine lv_istore_n (lv' := [(3, .int (0 : Int32)), (2, .int (0 : Int32)), (0, .ref (a 12)), (1, .int x1)]) hx hb dX2_bitsOf_3 rfl hl (by decide) rfl (fun ls hl => ?_)
  exact w_4 1000 x1 (0 : Int32) (0 : Int32) H locs ls hf hP hD hS (lv_sub hl [2, 3, 1, 0] rfl)
