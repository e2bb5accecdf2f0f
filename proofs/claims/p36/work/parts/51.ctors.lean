def gf_X7_init_66 (K_66 : (Nat → Int32) → (Nat → Int32) → (Nat → Int32) → (Nat → Int32) → (Nat → Int32) → Int32 → Option ((Nat → Int32) × (Nat → Int32) × (Nat → Int32) × (Nat → Int32) × (Nat → Int32))) (v7_rows : Nat → Int32) (v7_lengths : Nat → Int32) (v7_sizes : Nat → Int32) (v7_rests : Nat → Int32) (v7_orders : Nat → Int32) (y1 : Int32) : Option ((Nat → Int32) × (Nat → Int32) × (Nat → Int32) × (Nat → Int32) × (Nat → Int32)) := if (67 : Int32) ≤ y1 then (some (v7_rows, v7_lengths, v7_sizes, v7_rests, v7_orders)) else (p_b1 (f_X7_sizeOf v7_sizes y1) (fun r_2 => p_b1 (f_X7_row v7_rows y1 (0 : Int32)) (fun r_4 => p_b1 (f_X7_keyWithRows v7_rows v7_lengths (0 : Int32) y1 (1 : Int32)) (fun r_6 => p_b1 (f_X7_find (r_2 - r_4) r_6) (fun r_8 => p_in y1 67 (p_b1 (f_X7_countOrders v7_rows v7_lengths v7_sizes y1) (fun r_11 => p_in y1 67 (K_66 v7_rows v7_lengths v7_sizes (upd v7_rests (Int32.toNatClampNeg y1) r_8) (upd v7_orders (Int32.toNatClampNeg y1) r_11) (y1 + (1 : Int32))))))))))
def f_X7_init_66 : Nat → (Nat → Int32) → (Nat → Int32) → (Nat → Int32) → (Nat → Int32) → (Nat → Int32) → Int32 → Option ((Nat → Int32) × (Nat → Int32) × (Nat → Int32) × (Nat → Int32) × (Nat → Int32))
  | 0 => fun _ _ _ _ _ _ => none
  | n + 1 => gf_X7_init_66 (f_X7_init_66 n)
def gf_X7_init_47 (K_47 : (Nat → Int32) → (Nat → Int32) → (Nat → Int32) → (Nat → Int32) → (Nat → Int32) → Int32 → Option ((Nat → Int32) × (Nat → Int32) × (Nat → Int32) × (Nat → Int32) × (Nat → Int32))) (v7_rows : Nat → Int32) (v7_lengths : Nat → Int32) (v7_sizes : Nat → Int32) (v7_rests : Nat → Int32) (v7_orders : Nat → Int32) (y1 : Int32) : Option ((Nat → Int32) × (Nat → Int32) × (Nat → Int32) × (Nat → Int32) × (Nat → Int32)) := if (67 : Int32) ≤ y1 then ((f_X7_init_66 1000) v7_rows v7_lengths v7_sizes v7_rests v7_orders (0 : Int32)) else (p_b3 (f_X7_readRows v7_rows v7_lengths v7_sizes y1) (fun v7_rows_15 v7_lengths_16 v7_sizes_17 => K_47 v7_rows_15 v7_lengths_16 v7_sizes_17 v7_rests v7_orders (y1 + (1 : Int32))))
def f_X7_init_47 : Nat → (Nat → Int32) → (Nat → Int32) → (Nat → Int32) → (Nat → Int32) → (Nat → Int32) → Int32 → Option ((Nat → Int32) × (Nat → Int32) × (Nat → Int32) × (Nat → Int32) × (Nat → Int32))
  | 0 => fun _ _ _ _ _ _ => none
  | n + 1 => gf_X7_init_47 (f_X7_init_47 n)
def f_X7_init : Option ((Nat → Int32) × (Nat → Int32) × (Nat → Int32) × (Nat → Int32) × (Nat → Int32)) := (f_X7_init_47 1000) (fun _ => 0) (fun _ => 0) (fun _ => 0) (fun _ => 0) (fun _ => 0) (0 : Int32)
set_option maxHeartbeats 8000000 in
set_option maxRecDepth 20000 in
theorem c_X7_init (l : Launch) (D : va_G) (cyI cyJ : ClassId) (G : Nat → Nat) (h_2 : Nat) (sz : Nat) (ov7_rows : Nat → Int32) (ov7_lengths : Nat → Int32) (ov7_sizes : Nat → Int32) (ov7_rests : Nat → Int32) (ov7_orders : Nat → Int32) (hf : f_X7_init = some (ov7_rows, ov7_lengths, ov7_sizes, ov7_rests, ov7_orders)) : xm_n l yX7_init (Cond.code yX7_init cX7_init 2 none :: xg_tbl) { frames := 3, cells := 5, slots := 804, locals := 69 } D xcl [(cyI, .int), (cyJ, .long)] G sz [.ref (h_2)] [(h_2, .inr (7, [.null, .null, .null, .null, .null]))] (fun u : Nat × Nat × Nat × Nat × Nat => (wd_X7 (x_ad [0, 0, h_2, u.1, u.2.1, u.2.2.1, u.2.2.2.1, u.2.2.2.2]) cyI cyJ ov7_rows ov7_lengths ov7_sizes ov7_rests ov7_orders)) 5 804 := by
  refine xm_of_n (own := RX7) (by decide) rfl rfl (Nat.le_of_ble_eq_true rfl) ?_
  intro p e s m args below meth c ls Q A hQ hAe hin Cx hsz hP hD hS hl
  have Cx1 := Cx
  obtain ⟨⟨hx, hb, hml, hown, hts⟩, hr, hlocks, hK, hA, hT⟩ := Cx1
  have hl : lv_has ls 2 [(0, .ref (h_2))] := hl
  obtain ⟨H, eH⟩ : ∃ H, H = s.heap := ⟨_, rfl⟩
  obtain ⟨locs, eL⟩ : ∃ L : List Loc, L = [] := ⟨_, rfl⟩
  rw [← eH] at hP
  have hS : va_S A s.heap H locs := by rw [eH, eL]; exact hS
  suffices hgo : W p l e { frames := 3, cells := 5, slots := 804, locals := 69 } s m args below meth c H locs 0 0 Q (F0 m 0 ls []) by rw [eH, eL] at hgo; exact hgo
  clear eH eL
  unfold f_X7_init at hf
  refine lv_aload_n hx hb dX7_init_0 rfl (lv_at hl 0 rfl) ?_
  refine W.objInit hx hb hown (hts _ mw_1_35) (hts _ mw_1_28) (hts _ mw_1_29) rfl (by rw [hml]; exact hl.1) rfl dX7_init_1 (Nat.le_of_ble_eq_true rfl) (Nat.le_of_ble_eq_true rfl) ?_
  refine W.eq (g2 := F0 m 4 ls []) rfl ?_
  refine lv_aload_n hx hb dX7_init_4 rfl (lv_at hl 0 rfl) ?_
  refine lv_sipush (v := (536 : Int32)) hx hb dX7_init_5 (by decide) ?_
  refine va_newa (atype := .int) (ty := .int) (a0 := (536, .inl (fun _ => 0))) (N' := 536) hx hb (hts _ mw_1_104) rfl hK hP hD hS hA (fun _ => rfl) (by decide) (by decide) (Nat.le_of_ble_eq_true rfl) (Nat.le_of_ble_eq_true rfl) (Nat.le_of_ble_eq_true rfl) dX7_init_8 (fun h_3 cA H hK1 hP hD hS => ?_)
  have eA := x_sameI hK hK1
  rw [eA] at hP hD
  have hP : va_P D xcl [(h_2, .inr (7, [.null, .null, .null, .null, .null])), (h_3, .inl (cyI, 536, .inl (fun _ => 0)))] H := hP
  have hD : va_D A [(h_2, .inr (7, [.null, .null, .null, .null, .null])), (h_3, .inl (cyI, 536, .inl (fun _ => 0)))] := hD
  refine va_putF (ci := 7) (v := .ref (h_3)) (ty := (.array .int)) hx hb hts wX7_in tyX7 tyX7_ok nmX7 hown hK hP hD hS 0 rfl rfl 0 (by decide) (hts _ mw_1_88) (fun _ h9 => h9) rfl (hin rfl) rfl (by decide +kernel) rfl rfl (Nat.le_of_ble_eq_true rfl) dX7_init_10 (fun H locs hP hD hS => ?_)
  have hP : va_P D xcl [(h_2, .inr (7, [.ref (h_3), .null, .null, .null, .null])), (h_3, .inl (cyI, 536, .inl (fun _ => 0)))] H := hP
  have hD : va_D A [(h_2, .inr (7, [.ref (h_3), .null, .null, .null, .null])), (h_3, .inl (cyI, 536, .inl (fun _ => 0)))] := hD
  refine lv_aload_n hx hb dX7_init_13 rfl (lv_at hl 0 rfl) ?_
  refine lv_bipush (v := (67 : Int32)) hx hb dX7_init_14 (by decide) ?_
  refine va_newa (atype := .int) (ty := .int) (a0 := (67, .inl (fun _ => 0))) (N' := 67) hx hb (hts _ mw_1_104) rfl hK hP hD hS hA (fun _ => rfl) (by decide) (by decide) (Nat.le_of_ble_eq_true rfl) (Nat.le_of_ble_eq_true rfl) (Nat.le_of_ble_eq_true rfl) dX7_init_16 (fun h_4 cA H hK1 hP hD hS => ?_)
  have eA := x_sameI hK hK1
  rw [eA] at hP hD
  have hP : va_P D xcl [(h_2, .inr (7, [.ref (h_3), .null, .null, .null, .null])), (h_3, .inl (cyI, 536, .inl (fun _ => 0))), (h_4, .inl (cyI, 67, .inl (fun _ => 0)))] H := hP
  have hD : va_D A [(h_2, .inr (7, [.ref (h_3), .null, .null, .null, .null])), (h_3, .inl (cyI, 536, .inl (fun _ => 0))), (h_4, .inl (cyI, 67, .inl (fun _ => 0)))] := hD
  refine va_putF (ci := 7) (v := .ref (h_4)) (ty := (.array .int)) hx hb hts wX7_in tyX7 tyX7_ok nmX7 hown hK hP hD hS 0 rfl rfl 1 (by decide) (hts _ mw_1_89) (fun _ h9 => h9) rfl (hin rfl) rfl (by decide +kernel) rfl rfl (Nat.le_of_ble_eq_true rfl) dX7_init_18 (fun H locs hP hD hS => ?_)
  have hP : va_P D xcl [(h_2, .inr (7, [.ref (h_3), .ref (h_4), .null, .null, .null])), (h_3, .inl (cyI, 536, .inl (fun _ => 0))), (h_4, .inl (cyI, 67, .inl (fun _ => 0)))] H := hP
  have hD : va_D A [(h_2, .inr (7, [.ref (h_3), .ref (h_4), .null, .null, .null])), (h_3, .inl (cyI, 536, .inl (fun _ => 0))), (h_4, .inl (cyI, 67, .inl (fun _ => 0)))] := hD
  refine lv_aload_n hx hb dX7_init_21 rfl (lv_at hl 0 rfl) ?_
  refine lv_bipush (v := (67 : Int32)) hx hb dX7_init_22 (by decide) ?_
  refine va_newa (atype := .int) (ty := .int) (a0 := (67, .inl (fun _ => 0))) (N' := 67) hx hb (hts _ mw_1_104) rfl hK hP hD hS hA (fun _ => rfl) (by decide) (by decide) (Nat.le_of_ble_eq_true rfl) (Nat.le_of_ble_eq_true rfl) (Nat.le_of_ble_eq_true rfl) dX7_init_24 (fun h_5 cA H hK1 hP hD hS => ?_)
  have eA := x_sameI hK hK1
  rw [eA] at hP hD
  have hP : va_P D xcl [(h_2, .inr (7, [.ref (h_3), .ref (h_4), .null, .null, .null])), (h_3, .inl (cyI, 536, .inl (fun _ => 0))), (h_4, .inl (cyI, 67, .inl (fun _ => 0))), (h_5, .inl (cyI, 67, .inl (fun _ => 0)))] H := hP
  have hD : va_D A [(h_2, .inr (7, [.ref (h_3), .ref (h_4), .null, .null, .null])), (h_3, .inl (cyI, 536, .inl (fun _ => 0))), (h_4, .inl (cyI, 67, .inl (fun _ => 0))), (h_5, .inl (cyI, 67, .inl (fun _ => 0)))] := hD
  refine va_putF (ci := 7) (v := .ref (h_5)) (ty := (.array .int)) hx hb hts wX7_in tyX7 tyX7_ok nmX7 hown hK hP hD hS 0 rfl rfl 2 (by decide) (hts _ mw_1_90) (fun _ h9 => h9) rfl (hin rfl) rfl (by decide +kernel) rfl rfl (Nat.le_of_ble_eq_true rfl) dX7_init_26 (fun H locs hP hD hS => ?_)
  have hP : va_P D xcl [(h_2, .inr (7, [.ref (h_3), .ref (h_4), .ref (h_5), .null, .null])), (h_3, .inl (cyI, 536, .inl (fun _ => 0))), (h_4, .inl (cyI, 67, .inl (fun _ => 0))), (h_5, .inl (cyI, 67, .inl (fun _ => 0)))] H := hP
  have hD : va_D A [(h_2, .inr (7, [.ref (h_3), .ref (h_4), .ref (h_5), .null, .null])), (h_3, .inl (cyI, 536, .inl (fun _ => 0))), (h_4, .inl (cyI, 67, .inl (fun _ => 0))), (h_5, .inl (cyI, 67, .inl (fun _ => 0)))] := hD
  refine lv_aload_n hx hb dX7_init_29 rfl (lv_at hl 0 rfl) ?_
  refine lv_bipush (v := (67 : Int32)) hx hb dX7_init_30 (by decide) ?_
  refine va_newa (atype := .int) (ty := .int) (a0 := (67, .inl (fun _ => 0))) (N' := 67) hx hb (hts _ mw_1_104) rfl hK hP hD hS hA (fun _ => rfl) (by decide) (by decide) (Nat.le_of_ble_eq_true rfl) (Nat.le_of_ble_eq_true rfl) (Nat.le_of_ble_eq_true rfl) dX7_init_32 (fun h_6 cA H hK1 hP hD hS => ?_)
  have eA := x_sameI hK hK1
  rw [eA] at hP hD
  have hP : va_P D xcl [(h_2, .inr (7, [.ref (h_3), .ref (h_4), .ref (h_5), .null, .null])), (h_3, .inl (cyI, 536, .inl (fun _ => 0))), (h_4, .inl (cyI, 67, .inl (fun _ => 0))), (h_5, .inl (cyI, 67, .inl (fun _ => 0))), (h_6, .inl (cyI, 67, .inl (fun _ => 0)))] H := hP
  have hD : va_D A [(h_2, .inr (7, [.ref (h_3), .ref (h_4), .ref (h_5), .null, .null])), (h_3, .inl (cyI, 536, .inl (fun _ => 0))), (h_4, .inl (cyI, 67, .inl (fun _ => 0))), (h_5, .inl (cyI, 67, .inl (fun _ => 0))), (h_6, .inl (cyI, 67, .inl (fun _ => 0)))] := hD
  refine va_putF (ci := 7) (v := .ref (h_6)) (ty := (.array .int)) hx hb hts wX7_in tyX7 tyX7_ok nmX7 hown hK hP hD hS 0 rfl rfl 3 (by decide) (hts _ mw_1_91) (fun _ h9 => h9) rfl (hin rfl) rfl (by decide +kernel) rfl rfl (Nat.le_of_ble_eq_true rfl) dX7_init_34 (fun H locs hP hD hS => ?_)
  have hP : va_P D xcl [(h_2, .inr (7, [.ref (h_3), .ref (h_4), .ref (h_5), .ref (h_6), .null])), (h_3, .inl (cyI, 536, .inl (fun _ => 0))), (h_4, .inl (cyI, 67, .inl (fun _ => 0))), (h_5, .inl (cyI, 67, .inl (fun _ => 0))), (h_6, .inl (cyI, 67, .inl (fun _ => 0)))] H := hP
  have hD : va_D A [(h_2, .inr (7, [.ref (h_3), .ref (h_4), .ref (h_5), .ref (h_6), .null])), (h_3, .inl (cyI, 536, .inl (fun _ => 0))), (h_4, .inl (cyI, 67, .inl (fun _ => 0))), (h_5, .inl (cyI, 67, .inl (fun _ => 0))), (h_6, .inl (cyI, 67, .inl (fun _ => 0)))] := hD
  refine lv_aload_n hx hb dX7_init_37 rfl (lv_at hl 0 rfl) ?_
  refine lv_bipush (v := (67 : Int32)) hx hb dX7_init_38 (by decide) ?_
  refine va_newa (atype := .int) (ty := .int) (a0 := (67, .inl (fun _ => 0))) (N' := 67) hx hb (hts _ mw_1_104) rfl hK hP hD hS hA (fun _ => rfl) (by decide) (by decide) (Nat.le_of_ble_eq_true rfl) (Nat.le_of_ble_eq_true rfl) (Nat.le_of_ble_eq_true rfl) dX7_init_40 (fun h_7 cA H hK1 hP hD hS => ?_)
  have eA := x_sameI hK hK1
  rw [eA] at hP hD
  have hP : va_P D xcl [(h_2, .inr (7, [.ref (h_3), .ref (h_4), .ref (h_5), .ref (h_6), .null])), (h_3, .inl (cyI, 536, .inl (fun _ => 0))), (h_4, .inl (cyI, 67, .inl (fun _ => 0))), (h_5, .inl (cyI, 67, .inl (fun _ => 0))), (h_6, .inl (cyI, 67, .inl (fun _ => 0))), (h_7, .inl (cyI, 67, .inl (fun _ => 0)))] H := hP
  have hD : va_D A [(h_2, .inr (7, [.ref (h_3), .ref (h_4), .ref (h_5), .ref (h_6), .null])), (h_3, .inl (cyI, 536, .inl (fun _ => 0))), (h_4, .inl (cyI, 67, .inl (fun _ => 0))), (h_5, .inl (cyI, 67, .inl (fun _ => 0))), (h_6, .inl (cyI, 67, .inl (fun _ => 0))), (h_7, .inl (cyI, 67, .inl (fun _ => 0)))] := hD
  refine va_putF (ci := 7) (v := .ref (h_7)) (ty := (.array .int)) hx hb hts wX7_in tyX7 tyX7_ok nmX7 hown hK hP hD hS 0 rfl rfl 4 (by decide) (hts _ mw_1_92) (fun _ h9 => h9) rfl (hin rfl) rfl (by decide +kernel) rfl rfl (Nat.le_of_ble_eq_true rfl) dX7_init_42 (fun H locs hP hD hS => ?_)
  have hP : va_P D xcl [(h_2, .inr (7, [.ref (h_3), .ref (h_4), .ref (h_5), .ref (h_6), .ref (h_7)])), (h_3, .inl (cyI, 536, .inl (fun _ => 0))), (h_4, .inl (cyI, 67, .inl (fun _ => 0))), (h_5, .inl (cyI, 67, .inl (fun _ => 0))), (h_6, .inl (cyI, 67, .inl (fun _ => 0))), (h_7, .inl (cyI, 67, .inl (fun _ => 0)))] H := hP
  have hD : va_D A [(h_2, .inr (7, [.ref (h_3), .ref (h_4), .ref (h_5), .ref (h_6), .ref (h_7)])), (h_3, .inl (cyI, 536, .inl (fun _ => 0))), (h_4, .inl (cyI, 67, .inl (fun _ => 0))), (h_5, .inl (cyI, 67, .inl (fun _ => 0))), (h_6, .inl (cyI, 67, .inl (fun _ => 0))), (h_7, .inl (cyI, 67, .inl (fun _ => 0)))] := hD
  refine lv_iconst (v := (0 : Int32)) hx hb dX7_init_45 (by decide) ?_
  refine lv_istore_n (lv' := [(1, .int (0 : Int32)), (0, .ref (h_2))]) hx hb dX7_init_46 rfl hl (by decide) rfl (fun ls hl => ?_)
  have hP : va_P D xcl (wd_X7 (x_ad [0, 0, h_2, h_3, h_4, h_5, h_6, h_7]) cyI cyJ (fun _ => 0) (fun _ => 0) (fun _ => 0) (fun _ => 0) (fun _ => 0)) H := xq_pick hP [0, 1, 2, 3, 4, 5] rfl
  have hD : va_D A (wd_X7 (x_ad [0, 0, h_2, h_3, h_4, h_5, h_6, h_7]) cyI cyJ (fun _ => 0) (fun _ => 0) (fun _ => 0) (fun _ => 0) (fun _ => 0)) := hD.sub [0, 1, 2, 3, 4, 5] rfl rfl
  refine W.widen (k := 5) (n := 804) (Nat.le_of_ble_eq_true rfl) (Nat.le_of_ble_eq_true rfl) ?_
  have w_47 : ∀ (n_47 : Nat) (v7_rows : Nat → Int32) (v7_lengths : Nat → Int32) (v7_sizes : Nat → Int32) (v7_rests : Nat → Int32) (v7_orders : Nat → Int32) (y1 : Int32) (H : Heap) (locs : List Loc) (ls : Array Slot), f_X7_init_47 n_47 v7_rows v7_lengths v7_sizes v7_rests v7_orders y1 = some (ov7_rows, ov7_lengths, ov7_sizes, ov7_rests, ov7_orders) → va_P D xcl (wd_X7 (x_ad [0, 0, h_2, h_3, h_4, h_5, h_6, h_7]) cyI cyJ v7_rows v7_lengths v7_sizes v7_rests v7_orders) H → va_D A (wd_X7 (x_ad [0, 0, h_2, h_3, h_4, h_5, h_6, h_7]) cyI cyJ v7_rows v7_lengths v7_sizes v7_rests v7_orders) → va_S A s.heap H locs → lv_has ls 2 [(0, .ref (h_2)), (1, .int y1)] → W p l e { frames := 3, cells := 5, slots := 804, locals := 69 } s m args below meth c H locs 5 804 Q (F0 m 47 ls []) := by
    intro n_47
    induction n_47 with
    | zero => intro v7_rows v7_lengths v7_sizes v7_rests v7_orders y1 H locs ls hf; exact absurd hf (by intro h9; cases h9)
    | succ n_47 w_47 =>
      intro v7_rows v7_lengths v7_sizes v7_rests v7_orders y1 H locs ls hf hP hD hS hl
      have hf : gf_X7_init_47 (f_X7_init_47 n_47) v7_rows v7_lengths v7_sizes v7_rests v7_orders y1 = some (ov7_rows, ov7_lengths, ov7_sizes, ov7_rests, ov7_orders) := hf
      unfold gf_X7_init_47 at hf
      have w_66 : ∀ (n_66 : Nat) (v7_rows : Nat → Int32) (v7_lengths : Nat → Int32) (v7_sizes : Nat → Int32) (v7_rests : Nat → Int32) (v7_orders : Nat → Int32) (y1 : Int32) (H : Heap) (locs : List Loc) (ls : Array Slot), f_X7_init_66 n_66 v7_rows v7_lengths v7_sizes v7_rests v7_orders y1 = some (ov7_rows, ov7_lengths, ov7_sizes, ov7_rests, ov7_orders) → va_P D xcl (wd_X7 (x_ad [0, 0, h_2, h_3, h_4, h_5, h_6, h_7]) cyI cyJ v7_rows v7_lengths v7_sizes v7_rests v7_orders) H → va_D A (wd_X7 (x_ad [0, 0, h_2, h_3, h_4, h_5, h_6, h_7]) cyI cyJ v7_rows v7_lengths v7_sizes v7_rests v7_orders) → va_S A s.heap H locs → lv_has ls 2 [(0, .ref (h_2)), (1, .int y1)] → W p l e { frames := 3, cells := 5, slots := 804, locals := 69 } s m args below meth c H locs 5 804 Q (F0 m 66 ls []) := by
        intro n_66
        induction n_66 with
        | zero => intro v7_rows v7_lengths v7_sizes v7_rests v7_orders y1 H locs ls hf; exact absurd hf (by intro h9; cases h9)
        | succ n_66 w_66 =>
          intro v7_rows v7_lengths v7_sizes v7_rests v7_orders y1 H locs ls hf hP hD hS hl
          have hf : gf_X7_init_66 (f_X7_init_66 n_66) v7_rows v7_lengths v7_sizes v7_rests v7_orders y1 = some (ov7_rows, ov7_lengths, ov7_sizes, ov7_rests, ov7_orders) := hf
          unfold gf_X7_init_66 at hf
          refine lv_iload_n hx hb dX7_init_66 rfl (lv_at hl 1 rfl) ?_
          refine lv_bipush (v := (67 : Int32)) hx hb dX7_init_67 (by decide) ?_
          refine lv_icmp_ge (tgt := 118) hx hb dX7_init_69 (by decide) (fun hc_19 => ?_) (fun hc_19 => ?_)
          · have hf := pe_t hf hc_19
            obtain ⟨rfl, rfl, rfl, rfl, rfl⟩ := po_5 hf
            rw [← hQ]; exact xe_nret (h_3, h_4, h_5, h_6, h_7) Cx hP hD hS dX7_init_118
          · have hf := pe_f hf hc_19
            refine lv_aload_n hx hb dX7_init_72 rfl (lv_at hl 0 rfl) ?_
            refine va_get (ci := 7) (v := .ref (h_6)) hx hb hts wX7_in hown hK hP 0 rfl rfl 3 (by decide) (hts _ mw_1_91) (fun _ h9 => h9) rfl dX7_init_73 ?_
            refine lv_iload_n hx hb dX7_init_76 rfl (lv_at hl 1 rfl) ?_
            refine lv_aload_n hx hb dX7_init_77 rfl (lv_at hl 0 rfl) ?_
            refine lv_aload_n hx hb dX7_init_78 rfl (lv_at hl 0 rfl) ?_
            refine lv_iload_n hx hb dX7_init_79 rfl (lv_at hl 1 rfl) ?_
            obtain ⟨r_20, hk_21, hf⟩ := pe_1 hf
            refine xv_i (As := [.int y1]) (rest := [.ref (h_2), .int y1, .ref (h_6)]) (q0 := 0) (ci := 7) Cx hP hD hS hl (pl_X7_X7 (x_ad [0, 0, h_2, h_3, h_4, h_5, h_6, h_7]) cyI cyJ v7_rows v7_lengths v7_sizes v7_rests v7_orders v7_rows v7_lengths v7_sizes v7_rests v7_orders) (c_X7_sizeOf l D cyI cyJ G (x_ad [0, 0, h_2, h_3, h_4, h_5, h_6, h_7]) H.size v7_rows v7_lengths v7_sizes v7_rests v7_orders y1 r_20 hk_21) pk_X7_sizeOf mw_1_42 ⟨rfl, rfl, Nat.le_of_ble_eq_true rfl, Nat.le_of_ble_eq_true rfl⟩ rfl rfl rfl rfl rfl (Nat.le_of_ble_eq_true rfl) ⟨Nat.le_of_ble_eq_true rfl, Nat.le_of_ble_eq_true rfl⟩ dX7_init_80 (fun H locs hP hD hS => ?_)
            refine lv_aload_n hx hb dX7_init_83 rfl (lv_at hl 0 rfl) ?_
            refine lv_iload_n hx hb dX7_init_84 rfl (lv_at hl 1 rfl) ?_
            refine lv_iconst (v := (0 : Int32)) hx hb dX7_init_85 (by decide) ?_
            obtain ⟨r_22, hk_23, hf⟩ := pe_1 hf
            refine xv_i (As := [.int y1, .int (0 : Int32)]) (rest := [.int r_20, .ref (h_2), .int y1, .ref (h_6)]) (q0 := 0) (ci := 7) Cx hP hD hS hl (pl_X7_X7 (x_ad [0, 0, h_2, h_3, h_4, h_5, h_6, h_7]) cyI cyJ v7_rows v7_lengths v7_sizes v7_rests v7_orders v7_rows v7_lengths v7_sizes v7_rests v7_orders) (c_X7_row l D cyI cyJ G (x_ad [0, 0, h_2, h_3, h_4, h_5, h_6, h_7]) H.size v7_rows v7_lengths v7_sizes v7_rests v7_orders y1 (0 : Int32) r_22 hk_23) pk_X7_row mw_1_50 ⟨rfl, rfl, Nat.le_of_ble_eq_true rfl, Nat.le_of_ble_eq_true rfl⟩ rfl rfl rfl rfl rfl (Nat.le_of_ble_eq_true rfl) ⟨Nat.le_of_ble_eq_true rfl, Nat.le_of_ble_eq_true rfl⟩ dX7_init_86 (fun H locs hP hD hS => ?_)
            refine lv_isub hx hb dX7_init_89 ?_
            refine lv_aload_n hx hb dX7_init_90 rfl (lv_at hl 0 rfl) ?_
            refine lv_iconst (v := (0 : Int32)) hx hb dX7_init_91 (by decide) ?_
            refine lv_iload_n hx hb dX7_init_92 rfl (lv_at hl 1 rfl) ?_
            refine lv_iconst (v := (1 : Int32)) hx hb dX7_init_93 (by decide) ?_
            obtain ⟨r_24, hk_25, hf⟩ := pe_1 hf
            refine xv_i (As := [.int (0 : Int32), .int y1, .int (1 : Int32)]) (rest := [.int (r_20 - r_22), .ref (h_2), .int y1, .ref (h_6)]) (q0 := 0) (ci := 7) Cx hP hD hS hl (pl_X7_X7 (x_ad [0, 0, h_2, h_3, h_4, h_5, h_6, h_7]) cyI cyJ v7_rows v7_lengths v7_sizes v7_rests v7_orders v7_rows v7_lengths v7_sizes v7_rests v7_orders) (c_X7_keyWithRows l D cyI cyJ G (x_ad [0, 0, h_2, h_3, h_4, h_5, h_6, h_7]) H.size v7_rows v7_lengths v7_sizes v7_rests v7_orders (0 : Int32) y1 (1 : Int32) r_24 hk_25) pk_X7_keyWithRows mw_1_54 ⟨rfl, rfl, Nat.le_of_ble_eq_true rfl, Nat.le_of_ble_eq_true rfl⟩ rfl rfl rfl rfl rfl (Nat.le_of_ble_eq_true rfl) ⟨Nat.le_of_ble_eq_true rfl, Nat.le_of_ble_eq_true rfl⟩ dX7_init_94 (fun H locs hP hD hS => ?_)
            obtain ⟨r_26, hk_27, hf⟩ := pe_1 hf
            refine xv_i (As := [.int (r_20 - r_22), .int r_24]) (rest := [.int y1, .ref (h_6)]) (q0 := 0) (ci := 7) Cx hP hD hS hl (pl_X7_X7 (x_ad [0, 0, h_2, h_3, h_4, h_5, h_6, h_7]) cyI cyJ v7_rows v7_lengths v7_sizes v7_rests v7_orders v7_rows v7_lengths v7_sizes v7_rests v7_orders) (c_X7_find l D cyI cyJ G (x_ad [0, 0, h_2, h_3, h_4, h_5, h_6, h_7]) H.size v7_rows v7_lengths v7_sizes v7_rests v7_orders (r_20 - r_22) r_24 r_26 hk_27) pk_X7_find mw_1_65 ⟨rfl, rfl, Nat.le_of_ble_eq_true rfl, Nat.le_of_ble_eq_true rfl⟩ rfl rfl rfl rfl rfl (Nat.le_of_ble_eq_true rfl) ⟨Nat.le_of_ble_eq_true rfl, Nat.le_of_ble_eq_true rfl⟩ dX7_init_97 (fun H locs hP hD hS => ?_)
            obtain ⟨hi_28, hf⟩ := pe_in hf
            refine va_iast hx hb hK hP hD hS 4 0 rfl rfl hi_28 dX7_init_100 (fun H locs hP hD hS => ?_)
            have hP : va_P D xcl (wd_X7 (x_ad [0, 0, h_2, h_3, h_4, h_5, h_6, h_7]) cyI cyJ v7_rows v7_lengths v7_sizes (upd v7_rests (Int32.toNatClampNeg y1) r_26) v7_orders) H := hP
            have hD : va_D A (wd_X7 (x_ad [0, 0, h_2, h_3, h_4, h_5, h_6, h_7]) cyI cyJ v7_rows v7_lengths v7_sizes (upd v7_rests (Int32.toNatClampNeg y1) r_26) v7_orders) := hD
            refine lv_aload_n hx hb dX7_init_101 rfl (lv_at hl 0 rfl) ?_
            refine va_get (ci := 7) (v := .ref (h_7)) hx hb hts wX7_in hown hK hP 0 rfl rfl 4 (by decide) (hts _ mw_1_92) (fun _ h9 => h9) rfl dX7_init_102 ?_
            refine lv_iload_n hx hb dX7_init_105 rfl (lv_at hl 1 rfl) ?_
            refine lv_aload_n hx hb dX7_init_106 rfl (lv_at hl 0 rfl) ?_
            refine lv_iload_n hx hb dX7_init_107 rfl (lv_at hl 1 rfl) ?_
            obtain ⟨r_29, hk_30, hf⟩ := pe_1 hf
            refine xv_i (As := [.int y1]) (rest := [.int y1, .ref (h_7)]) (q0 := 0) (ci := 7) Cx hP hD hS hl (pl_X7_X7 (x_ad [0, 0, h_2, h_3, h_4, h_5, h_6, h_7]) cyI cyJ v7_rows v7_lengths v7_sizes (upd v7_rests (Int32.toNatClampNeg y1) r_26) v7_orders v7_rows v7_lengths v7_sizes (upd v7_rests (Int32.toNatClampNeg y1) r_26) v7_orders) (c_X7_countOrders l D cyI cyJ G (x_ad [0, 0, h_2, h_3, h_4, h_5, h_6, h_7]) H.size v7_rows v7_lengths v7_sizes (upd v7_rests (Int32.toNatClampNeg y1) r_26) v7_orders y1 r_29 hk_30) pk_X7_countOrders mw_1_79 ⟨rfl, rfl, Nat.le_of_ble_eq_true rfl, Nat.le_of_ble_eq_true rfl⟩ rfl rfl rfl rfl rfl (Nat.le_of_ble_eq_true rfl) ⟨Nat.le_of_ble_eq_true rfl, Nat.le_of_ble_eq_true rfl⟩ dX7_init_108 (fun H locs hP hD hS => ?_)
            obtain ⟨hi_31, hf⟩ := pe_in hf
            refine va_iast hx hb hK hP hD hS 5 0 rfl rfl hi_31 dX7_init_111 (fun H locs hP hD hS => ?_)
            have hP : va_P D xcl (wd_X7 (x_ad [0, 0, h_2, h_3, h_4, h_5, h_6, h_7]) cyI cyJ v7_rows v7_lengths v7_sizes (upd v7_rests (Int32.toNatClampNeg y1) r_26) (upd v7_orders (Int32.toNatClampNeg y1) r_29)) H := hP
            have hD : va_D A (wd_X7 (x_ad [0, 0, h_2, h_3, h_4, h_5, h_6, h_7]) cyI cyJ v7_rows v7_lengths v7_sizes (upd v7_rests (Int32.toNatClampNeg y1) r_26) (upd v7_orders (Int32.toNatClampNeg y1) r_29)) := hD
            refine lv_iinc (v := (y1 + (1 : Int32))) (lv' := [(1, .int (y1 + (1 : Int32))), (0, .ref (h_2))]) hx hb dX7_init_112 hl (k := 1) rfl rfl (by decide) rfl (fun ls hl => ?_)
            refine lv_goto (tgt := 66) hx hb dX7_init_115 (by decide) ?_
            exact w_66 v7_rows v7_lengths v7_sizes (upd v7_rests (Int32.toNatClampNeg y1) r_26) (upd v7_orders (Int32.toNatClampNeg y1) r_29) (y1 + (1 : Int32)) H locs ls hf hP hD hS (lv_sub hl [1, 0] rfl)
      refine lv_iload_n hx hb dX7_init_47 rfl (lv_at hl 1 rfl) ?_
      refine lv_bipush (v := (67 : Int32)) hx hb dX7_init_48 (by decide) ?_
      refine lv_icmp_ge (tgt := 64) hx hb dX7_init_50 (by decide) (fun hc_32 => ?_) (fun hc_32 => ?_)
      · have hf := pe_t hf hc_32
        refine lv_iconst (v := (0 : Int32)) hx hb dX7_init_64 (by decide) ?_
        refine lv_istore_n (lv' := [(1, .int (0 : Int32)), (0, .ref (h_2))]) hx hb dX7_init_65 rfl hl (by decide) rfl (fun ls hl => ?_)
        exact w_66 1000 v7_rows v7_lengths v7_sizes v7_rests v7_orders (0 : Int32) H locs ls hf hP hD hS (lv_sub hl [1, 0] rfl)
      · have hf := pe_f hf hc_32
        refine lv_aload_n hx hb dX7_init_53 rfl (lv_at hl 0 rfl) ?_
        refine lv_iload_n hx hb dX7_init_54 rfl (lv_at hl 1 rfl) ?_
        obtain ⟨v7_rows_33, v7_lengths_34, v7_sizes_35, hk_36, hf⟩ := pe_3 hf
        refine xv_v (As := [.int y1]) (rest := []) (q0 := 0) (ci := 7) Cx hP hD hS hl (pl_X7_X7 (x_ad [0, 0, h_2, h_3, h_4, h_5, h_6, h_7]) cyI cyJ v7_rows v7_lengths v7_sizes v7_rests v7_orders v7_rows_33 v7_lengths_34 v7_sizes_35 v7_rests v7_orders) (c_X7_readRows l D cyI cyJ G (x_ad [0, 0, h_2, h_3, h_4, h_5, h_6, h_7]) H.size v7_rows v7_lengths v7_sizes v7_rests v7_orders y1 v7_rows_33 v7_lengths_34 v7_sizes_35 hk_36) pk_X7_readRows mw_1_36 ⟨rfl, rfl, Nat.le_of_ble_eq_true rfl, Nat.le_of_ble_eq_true rfl⟩ rfl rfl rfl rfl rfl (Nat.le_of_ble_eq_true rfl) ⟨Nat.le_of_ble_eq_true rfl, Nat.le_of_ble_eq_true rfl⟩ dX7_init_55 (fun H locs hP hD hS => ?_)
        refine lv_iinc (v := (y1 + (1 : Int32))) (lv' := [(1, .int (y1 + (1 : Int32))), (0, .ref (h_2))]) hx hb dX7_init_58 hl (k := 1) rfl rfl (by decide) rfl (fun ls hl => ?_)
        refine lv_goto (tgt := 47) hx hb dX7_init_61 (by decide) ?_
        exact w_47 v7_rows_33 v7_lengths_34 v7_sizes_35 v7_rests v7_orders (y1 + (1 : Int32)) H locs ls hf hP hD hS (lv_sub hl [1, 0] rfl)
  exact w_47 1000 (fun _ => 0) (fun _ => 0) (fun _ => 0) (fun _ => 0) (fun _ => 0) (0 : Int32) H locs ls hf hP hD hS (lv_sub hl [1, 0] rfl)
def gf_X6_init_62 (K_62 : (Nat → Int32) → (Nat → Int32) → (Nat → Int32) → Int32 → Int32 → Int32 → Int32 → Option ((Nat → Int32) × (Nat → Int32) × (Nat → Int32))) (K_49 : (Nat → Int32) → (Nat → Int32) → (Nat → Int32) → Int32 → Int32 → Int32 → Option ((Nat → Int32) × (Nat → Int32) × (Nat → Int32))) (v7_rows : Nat → Int32) (v7_lengths : Nat → Int32) (v6_hooks : Nat → Int32) (v6_lefts : Nat → Int32) (v6_heights : Nat → Int32) (y2 : Int32) (y3 : Int32) (y4 : Int32) (y5 : Int32) : Option ((Nat → Int32) × (Nat → Int32) × (Nat → Int32)) := p_b1 (f_X7_row v7_rows y2 y4) (fun r_1 => if r_1 ≤ y5 then (K_49 v6_hooks v6_lefts v6_heights y2 y3 (y4 + (1 : Int32))) else (p_b3 (f_X6_note v7_rows v7_lengths v6_hooks v6_lefts v6_heights y2 y3 y4 y5) (fun v6_hooks_4 v6_lefts_5 v6_heights_6 => K_62 v6_hooks_4 v6_lefts_5 v6_heights_6 y2 (y3 + (1 : Int32)) y4 (y5 + (1 : Int32)))))
def f_X6_init_62 (K_49 : (Nat → Int32) → (Nat → Int32) → (Nat → Int32) → Int32 → Int32 → Int32 → Option ((Nat → Int32) × (Nat → Int32) × (Nat → Int32))) (v7_rows : Nat → Int32) (v7_lengths : Nat → Int32) : Nat → (Nat → Int32) → (Nat → Int32) → (Nat → Int32) → Int32 → Int32 → Int32 → Int32 → Option ((Nat → Int32) × (Nat → Int32) × (Nat → Int32))
  | 0 => fun _ _ _ _ _ _ _ => none
  | n + 1 => gf_X6_init_62 (f_X6_init_62 K_49 v7_rows v7_lengths n) K_49 v7_rows v7_lengths
def gf_X6_init_49 (K_49 : (Nat → Int32) → (Nat → Int32) → (Nat → Int32) → Int32 → Int32 → Int32 → Option ((Nat → Int32) × (Nat → Int32) × (Nat → Int32))) (K_38 : (Nat → Int32) → (Nat → Int32) → (Nat → Int32) → Int32 → Option ((Nat → Int32) × (Nat → Int32) × (Nat → Int32))) (v7_rows : Nat → Int32) (v7_lengths : Nat → Int32) (v6_hooks : Nat → Int32) (v6_lefts : Nat → Int32) (v6_heights : Nat → Int32) (y2 : Int32) (y3 : Int32) (y4 : Int32) : Option ((Nat → Int32) × (Nat → Int32) × (Nat → Int32)) := p_b1 (f_X7_lengthOf v7_lengths y2) (fun r_8 => if r_8 ≤ y4 then (K_38 v6_hooks v6_lefts v6_heights (y2 + (1 : Int32))) else ((f_X6_init_62 K_49 v7_rows v7_lengths 1000) v6_hooks v6_lefts v6_heights y2 y3 y4 (0 : Int32)))
def f_X6_init_49 (K_38 : (Nat → Int32) → (Nat → Int32) → (Nat → Int32) → Int32 → Option ((Nat → Int32) × (Nat → Int32) × (Nat → Int32))) (v7_rows : Nat → Int32) (v7_lengths : Nat → Int32) : Nat → (Nat → Int32) → (Nat → Int32) → (Nat → Int32) → Int32 → Int32 → Int32 → Option ((Nat → Int32) × (Nat → Int32) × (Nat → Int32))
  | 0 => fun _ _ _ _ _ _ => none
  | n + 1 => gf_X6_init_49 (f_X6_init_49 K_38 v7_rows v7_lengths n) K_38 v7_rows v7_lengths
def gf_X6_init_38 (K_38 : (Nat → Int32) → (Nat → Int32) → (Nat → Int32) → Int32 → Option ((Nat → Int32) × (Nat → Int32) × (Nat → Int32))) (v7_rows : Nat → Int32) (v7_lengths : Nat → Int32) (v6_hooks : Nat → Int32) (v6_lefts : Nat → Int32) (v6_heights : Nat → Int32) (y2 : Int32) : Option ((Nat → Int32) × (Nat → Int32) × (Nat → Int32)) := if (67 : Int32) ≤ y2 then (some (v6_hooks, v6_lefts, v6_heights)) else ((f_X6_init_49 K_38 v7_rows v7_lengths 1000) v6_hooks v6_lefts v6_heights y2 (0 : Int32) (0 : Int32))
def f_X6_init_38 (v7_rows : Nat → Int32) (v7_lengths : Nat → Int32) : Nat → (Nat → Int32) → (Nat → Int32) → (Nat → Int32) → Int32 → Option ((Nat → Int32) × (Nat → Int32) × (Nat → Int32))
  | 0 => fun _ _ _ _ => none
  | n + 1 => gf_X6_init_38 (f_X6_init_38 v7_rows v7_lengths n) v7_rows v7_lengths
def f_X6_init (v7_rows : Nat → Int32) (v7_lengths : Nat → Int32) : Option ((Nat → Int32) × (Nat → Int32) × (Nat → Int32)) := (f_X6_init_38 v7_rows v7_lengths 1000) (fun _ => 0) (fun _ => 0) (fun _ => 0) (0 : Int32)
set_option maxHeartbeats 8000000 in
set_option maxRecDepth 20000 in
theorem c_X6_init (l : Launch) (D : va_G) (cyI cyJ : ClassId) (G : Nat → Nat) (h_8 : Nat) (h_2 : Nat) (h_3 : Nat) (h_4 : Nat) (h_5 : Nat) (h_6 : Nat) (h_7 : Nat) (sz : Nat) (v7_rows : Nat → Int32) (v7_lengths : Nat → Int32) (v7_sizes : Nat → Int32) (v7_rests : Nat → Int32) (v7_orders : Nat → Int32) (ov6_hooks : Nat → Int32) (ov6_lefts : Nat → Int32) (ov6_heights : Nat → Int32) (hf : f_X6_init v7_rows v7_lengths = some (ov6_hooks, ov6_lefts, ov6_heights)) : xm_n l yX6_init (Cond.code yX6_init cX6_init 6 none :: xg_tbl) { frames := 5, cells := 3, slots := 1608, locals := 118 } D xcl [(cyI, .int), (cyJ, .long)] G sz [.ref (h_8), .ref (h_2)] [(h_8, .inr (6, [.null, .null, .null, .null])), (h_2, .inr (7, [.ref (h_3), .ref (h_4), .ref (h_5), .ref (h_6), .ref (h_7)])), (h_3, .inl (cyI, 536, .inl v7_rows)), (h_4, .inl (cyI, 67, .inl v7_lengths)), (h_5, .inl (cyI, 67, .inl v7_sizes)), (h_6, .inl (cyI, 67, .inl v7_rests)), (h_7, .inl (cyI, 67, .inl v7_orders))] (fun u : Nat × Nat × Nat => (wd_X6 (x_ad [0, 0, h_2, h_3, h_4, h_5, h_6, h_7, h_8, u.1, u.2.1, u.2.2]) cyI cyJ ov6_hooks ov6_lefts ov6_heights v7_rows v7_lengths v7_sizes v7_rests v7_orders)) 3 1608 := by
  refine xm_of_n (own := RX6) (by decide) rfl rfl (Nat.le_of_ble_eq_true rfl) ?_
  intro p e s m args below meth c ls Q A hQ hAe hin Cx hsz hP hD hS hl
  have Cx1 := Cx
  obtain ⟨⟨hx, hb, hml, hown, hts⟩, hr, hlocks, hK, hA, hT⟩ := Cx1
  have hl : lv_has ls 6 [(0, .ref (h_8)), (1, .ref (h_2))] := hl
  obtain ⟨H, eH⟩ : ∃ H, H = s.heap := ⟨_, rfl⟩
  obtain ⟨locs, eL⟩ : ∃ L : List Loc, L = [] := ⟨_, rfl⟩
  rw [← eH] at hP
  have hS : va_S A s.heap H locs := by rw [eH, eL]; exact hS
  suffices hgo : W p l e { frames := 5, cells := 3, slots := 1608, locals := 118 } s m args below meth c H locs 0 0 Q (F0 m 0 ls []) by rw [eH, eL] at hgo; exact hgo
  clear eH eL
  unfold f_X6_init at hf
  refine lv_aload_n hx hb dX6_init_0 rfl (lv_at hl 0 rfl) ?_
  refine W.objInit hx hb hown (hts _ mw_1_110) (hts _ mw_1_28) (hts _ mw_1_29) rfl (by rw [hml]; exact hl.1) rfl dX6_init_1 (Nat.le_of_ble_eq_true rfl) (Nat.le_of_ble_eq_true rfl) ?_
  refine W.eq (g2 := F0 m 4 ls []) rfl ?_
  refine lv_aload_n hx hb dX6_init_4 rfl (lv_at hl 0 rfl) ?_
  refine lv_sipush (v := (536 : Int32)) hx hb dX6_init_5 (by decide) ?_
  refine va_newa (atype := .int) (ty := .int) (a0 := (536, .inl (fun _ => 0))) (N' := 536) hx hb (hts _ mw_1_104) rfl hK hP hD hS hA (fun _ => rfl) (by decide) (by decide) (Nat.le_of_ble_eq_true rfl) (Nat.le_of_ble_eq_true rfl) (Nat.le_of_ble_eq_true rfl) dX6_init_8 (fun h_9 cA H hK1 hP hD hS => ?_)
  have eA := x_sameI hK hK1
  rw [eA] at hP hD
  have hP : va_P D xcl [(h_8, .inr (6, [.null, .null, .null, .null])), (h_2, .inr (7, [.ref (h_3), .ref (h_4), .ref (h_5), .ref (h_6), .ref (h_7)])), (h_3, .inl (cyI, 536, .inl v7_rows)), (h_4, .inl (cyI, 67, .inl v7_lengths)), (h_5, .inl (cyI, 67, .inl v7_sizes)), (h_6, .inl (cyI, 67, .inl v7_rests)), (h_7, .inl (cyI, 67, .inl v7_orders)), (h_9, .inl (cyI, 536, .inl (fun _ => 0)))] H := hP
  have hD : va_D A [(h_8, .inr (6, [.null, .null, .null, .null])), (h_2, .inr (7, [.ref (h_3), .ref (h_4), .ref (h_5), .ref (h_6), .ref (h_7)])), (h_3, .inl (cyI, 536, .inl v7_rows)), (h_4, .inl (cyI, 67, .inl v7_lengths)), (h_5, .inl (cyI, 67, .inl v7_sizes)), (h_6, .inl (cyI, 67, .inl v7_rests)), (h_7, .inl (cyI, 67, .inl v7_orders)), (h_9, .inl (cyI, 536, .inl (fun _ => 0)))] := hD
  refine va_putF (ci := 6) (v := .ref (h_9)) (ty := (.array .int)) hx hb hts wX6_in tyX6 tyX6_ok nmX6 hown hK hP hD hS 0 rfl rfl 1 (by decide) (hts _ mw_1_138) (fun _ h9 => h9) rfl (hin rfl) rfl (by decide +kernel) rfl rfl (Nat.le_of_ble_eq_true rfl) dX6_init_10 (fun H locs hP hD hS => ?_)
  have hP : va_P D xcl [(h_8, .inr (6, [.null, .ref (h_9), .null, .null])), (h_2, .inr (7, [.ref (h_3), .ref (h_4), .ref (h_5), .ref (h_6), .ref (h_7)])), (h_3, .inl (cyI, 536, .inl v7_rows)), (h_4, .inl (cyI, 67, .inl v7_lengths)), (h_5, .inl (cyI, 67, .inl v7_sizes)), (h_6, .inl (cyI, 67, .inl v7_rests)), (h_7, .inl (cyI, 67, .inl v7_orders)), (h_9, .inl (cyI, 536, .inl (fun _ => 0)))] H := hP
  have hD : va_D A [(h_8, .inr (6, [.null, .ref (h_9), .null, .null])), (h_2, .inr (7, [.ref (h_3), .ref (h_4), .ref (h_5), .ref (h_6), .ref (h_7)])), (h_3, .inl (cyI, 536, .inl v7_rows)), (h_4, .inl (cyI, 67, .inl v7_lengths)), (h_5, .inl (cyI, 67, .inl v7_sizes)), (h_6, .inl (cyI, 67, .inl v7_rests)), (h_7, .inl (cyI, 67, .inl v7_orders)), (h_9, .inl (cyI, 536, .inl (fun _ => 0)))] := hD
  refine lv_aload_n hx hb dX6_init_13 rfl (lv_at hl 0 rfl) ?_
  refine lv_sipush (v := (536 : Int32)) hx hb dX6_init_14 (by decide) ?_
  refine va_newa (atype := .int) (ty := .int) (a0 := (536, .inl (fun _ => 0))) (N' := 536) hx hb (hts _ mw_1_104) rfl hK hP hD hS hA (fun _ => rfl) (by decide) (by decide) (Nat.le_of_ble_eq_true rfl) (Nat.le_of_ble_eq_true rfl) (Nat.le_of_ble_eq_true rfl) dX6_init_17 (fun h_10 cA H hK1 hP hD hS => ?_)
  have eA := x_sameI hK hK1
  rw [eA] at hP hD
  have hP : va_P D xcl [(h_8, .inr (6, [.null, .ref (h_9), .null, .null])), (h_2, .inr (7, [.ref (h_3), .ref (h_4), .ref (h_5), .ref (h_6), .ref (h_7)])), (h_3, .inl (cyI, 536, .inl v7_rows)), (h_4, .inl (cyI, 67, .inl v7_lengths)), (h_5, .inl (cyI, 67, .inl v7_sizes)), (h_6, .inl (cyI, 67, .inl v7_rests)), (h_7, .inl (cyI, 67, .inl v7_orders)), (h_9, .inl (cyI, 536, .inl (fun _ => 0))), (h_10, .inl (cyI, 536, .inl (fun _ => 0)))] H := hP
  have hD : va_D A [(h_8, .inr (6, [.null, .ref (h_9), .null, .null])), (h_2, .inr (7, [.ref (h_3), .ref (h_4), .ref (h_5), .ref (h_6), .ref (h_7)])), (h_3, .inl (cyI, 536, .inl v7_rows)), (h_4, .inl (cyI, 67, .inl v7_lengths)), (h_5, .inl (cyI, 67, .inl v7_sizes)), (h_6, .inl (cyI, 67, .inl v7_rests)), (h_7, .inl (cyI, 67, .inl v7_orders)), (h_9, .inl (cyI, 536, .inl (fun _ => 0))), (h_10, .inl (cyI, 536, .inl (fun _ => 0)))] := hD
  refine va_putF (ci := 6) (v := .ref (h_10)) (ty := (.array .int)) hx hb hts wX6_in tyX6 tyX6_ok nmX6 hown hK hP hD hS 0 rfl rfl 2 (by decide) (hts _ mw_1_139) (fun _ h9 => h9) rfl (hin rfl) rfl (by decide +kernel) rfl rfl (Nat.le_of_ble_eq_true rfl) dX6_init_19 (fun H locs hP hD hS => ?_)
  have hP : va_P D xcl [(h_8, .inr (6, [.null, .ref (h_9), .ref (h_10), .null])), (h_2, .inr (7, [.ref (h_3), .ref (h_4), .ref (h_5), .ref (h_6), .ref (h_7)])), (h_3, .inl (cyI, 536, .inl v7_rows)), (h_4, .inl (cyI, 67, .inl v7_lengths)), (h_5, .inl (cyI, 67, .inl v7_sizes)), (h_6, .inl (cyI, 67, .inl v7_rests)), (h_7, .inl (cyI, 67, .inl v7_orders)), (h_9, .inl (cyI, 536, .inl (fun _ => 0))), (h_10, .inl (cyI, 536, .inl (fun _ => 0)))] H := hP
  have hD : va_D A [(h_8, .inr (6, [.null, .ref (h_9), .ref (h_10), .null])), (h_2, .inr (7, [.ref (h_3), .ref (h_4), .ref (h_5), .ref (h_6), .ref (h_7)])), (h_3, .inl (cyI, 536, .inl v7_rows)), (h_4, .inl (cyI, 67, .inl v7_lengths)), (h_5, .inl (cyI, 67, .inl v7_sizes)), (h_6, .inl (cyI, 67, .inl v7_rests)), (h_7, .inl (cyI, 67, .inl v7_orders)), (h_9, .inl (cyI, 536, .inl (fun _ => 0))), (h_10, .inl (cyI, 536, .inl (fun _ => 0)))] := hD
  refine lv_aload_n hx hb dX6_init_22 rfl (lv_at hl 0 rfl) ?_
  refine lv_sipush (v := (536 : Int32)) hx hb dX6_init_23 (by decide) ?_
  refine va_newa (atype := .int) (ty := .int) (a0 := (536, .inl (fun _ => 0))) (N' := 536) hx hb (hts _ mw_1_104) rfl hK hP hD hS hA (fun _ => rfl) (by decide) (by decide) (Nat.le_of_ble_eq_true rfl) (Nat.le_of_ble_eq_true rfl) (Nat.le_of_ble_eq_true rfl) dX6_init_26 (fun h_11 cA H hK1 hP hD hS => ?_)
  have eA := x_sameI hK hK1
  rw [eA] at hP hD
  have hP : va_P D xcl [(h_8, .inr (6, [.null, .ref (h_9), .ref (h_10), .null])), (h_2, .inr (7, [.ref (h_3), .ref (h_4), .ref (h_5), .ref (h_6), .ref (h_7)])), (h_3, .inl (cyI, 536, .inl v7_rows)), (h_4, .inl (cyI, 67, .inl v7_lengths)), (h_5, .inl (cyI, 67, .inl v7_sizes)), (h_6, .inl (cyI, 67, .inl v7_rests)), (h_7, .inl (cyI, 67, .inl v7_orders)), (h_9, .inl (cyI, 536, .inl (fun _ => 0))), (h_10, .inl (cyI, 536, .inl (fun _ => 0))), (h_11, .inl (cyI, 536, .inl (fun _ => 0)))] H := hP
  have hD : va_D A [(h_8, .inr (6, [.null, .ref (h_9), .ref (h_10), .null])), (h_2, .inr (7, [.ref (h_3), .ref (h_4), .ref (h_5), .ref (h_6), .ref (h_7)])), (h_3, .inl (cyI, 536, .inl v7_rows)), (h_4, .inl (cyI, 67, .inl v7_lengths)), (h_5, .inl (cyI, 67, .inl v7_sizes)), (h_6, .inl (cyI, 67, .inl v7_rests)), (h_7, .inl (cyI, 67, .inl v7_orders)), (h_9, .inl (cyI, 536, .inl (fun _ => 0))), (h_10, .inl (cyI, 536, .inl (fun _ => 0))), (h_11, .inl (cyI, 536, .inl (fun _ => 0)))] := hD
  refine va_putF (ci := 6) (v := .ref (h_11)) (ty := (.array .int)) hx hb hts wX6_in tyX6 tyX6_ok nmX6 hown hK hP hD hS 0 rfl rfl 3 (by decide) (hts _ mw_1_140) (fun _ h9 => h9) rfl (hin rfl) rfl (by decide +kernel) rfl rfl (Nat.le_of_ble_eq_true rfl) dX6_init_28 (fun H locs hP hD hS => ?_)
  have hP : va_P D xcl [(h_8, .inr (6, [.null, .ref (h_9), .ref (h_10), .ref (h_11)])), (h_2, .inr (7, [.ref (h_3), .ref (h_4), .ref (h_5), .ref (h_6), .ref (h_7)])), (h_3, .inl (cyI, 536, .inl v7_rows)), (h_4, .inl (cyI, 67, .inl v7_lengths)), (h_5, .inl (cyI, 67, .inl v7_sizes)), (h_6, .inl (cyI, 67, .inl v7_rests)), (h_7, .inl (cyI, 67, .inl v7_orders)), (h_9, .inl (cyI, 536, .inl (fun _ => 0))), (h_10, .inl (cyI, 536, .inl (fun _ => 0))), (h_11, .inl (cyI, 536, .inl (fun _ => 0)))] H := hP
  have hD : va_D A [(h_8, .inr (6, [.null, .ref (h_9), .ref (h_10), .ref (h_11)])), (h_2, .inr (7, [.ref (h_3), .ref (h_4), .ref (h_5), .ref (h_6), .ref (h_7)])), (h_3, .inl (cyI, 536, .inl v7_rows)), (h_4, .inl (cyI, 67, .inl v7_lengths)), (h_5, .inl (cyI, 67, .inl v7_sizes)), (h_6, .inl (cyI, 67, .inl v7_rests)), (h_7, .inl (cyI, 67, .inl v7_orders)), (h_9, .inl (cyI, 536, .inl (fun _ => 0))), (h_10, .inl (cyI, 536, .inl (fun _ => 0))), (h_11, .inl (cyI, 536, .inl (fun _ => 0)))] := hD
  refine lv_aload_n hx hb dX6_init_31 rfl (lv_at hl 0 rfl) ?_
  refine lv_aload_n hx hb dX6_init_32 rfl (lv_at hl 1 rfl) ?_
  refine va_putF (ci := 6) (v := .ref (h_2)) (ty := (.object "CharactersMultiplied$Shapes")) hx hb hts wX6_in tyX6 tyX6_ok nmX6 hown hK hP hD hS 0 rfl rfl 0 (by decide) (hts _ mw_1_137) (fun _ h9 => h9) rfl (hin rfl) rfl (by decide +kernel) rfl rfl (Nat.le_of_ble_eq_true rfl) dX6_init_33 (fun H locs hP hD hS => ?_)
  have hP : va_P D xcl [(h_8, .inr (6, [.ref (h_2), .ref (h_9), .ref (h_10), .ref (h_11)])), (h_2, .inr (7, [.ref (h_3), .ref (h_4), .ref (h_5), .ref (h_6), .ref (h_7)])), (h_3, .inl (cyI, 536, .inl v7_rows)), (h_4, .inl (cyI, 67, .inl v7_lengths)), (h_5, .inl (cyI, 67, .inl v7_sizes)), (h_6, .inl (cyI, 67, .inl v7_rests)), (h_7, .inl (cyI, 67, .inl v7_orders)), (h_9, .inl (cyI, 536, .inl (fun _ => 0))), (h_10, .inl (cyI, 536, .inl (fun _ => 0))), (h_11, .inl (cyI, 536, .inl (fun _ => 0)))] H := hP
  have hD : va_D A [(h_8, .inr (6, [.ref (h_2), .ref (h_9), .ref (h_10), .ref (h_11)])), (h_2, .inr (7, [.ref (h_3), .ref (h_4), .ref (h_5), .ref (h_6), .ref (h_7)])), (h_3, .inl (cyI, 536, .inl v7_rows)), (h_4, .inl (cyI, 67, .inl v7_lengths)), (h_5, .inl (cyI, 67, .inl v7_sizes)), (h_6, .inl (cyI, 67, .inl v7_rests)), (h_7, .inl (cyI, 67, .inl v7_orders)), (h_9, .inl (cyI, 536, .inl (fun _ => 0))), (h_10, .inl (cyI, 536, .inl (fun _ => 0))), (h_11, .inl (cyI, 536, .inl (fun _ => 0)))] := hD
  refine lv_iconst (v := (0 : Int32)) hx hb dX6_init_36 (by decide) ?_
  refine lv_istore_n (lv' := [(2, .int (0 : Int32)), (0, .ref (h_8)), (1, .ref (h_2))]) hx hb dX6_init_37 rfl hl (by decide) rfl (fun ls hl => ?_)
  have hP : va_P D xcl (wd_X6 (x_ad [0, 0, h_2, h_3, h_4, h_5, h_6, h_7, h_8, h_9, h_10, h_11]) cyI cyJ (fun _ => 0) (fun _ => 0) (fun _ => 0) v7_rows v7_lengths v7_sizes v7_rests v7_orders) H := xq_pick hP [0, 7, 8, 9, 1, 2, 3, 4, 5, 6] rfl
  have hD : va_D A (wd_X6 (x_ad [0, 0, h_2, h_3, h_4, h_5, h_6, h_7, h_8, h_9, h_10, h_11]) cyI cyJ (fun _ => 0) (fun _ => 0) (fun _ => 0) v7_rows v7_lengths v7_sizes v7_rests v7_orders) := hD.sub [0, 7, 8, 9, 1, 2, 3, 4, 5, 6] rfl rfl
  refine W.widen (k := 3) (n := 1608) (Nat.le_of_ble_eq_true rfl) (Nat.le_of_ble_eq_true rfl) ?_
  have w_38 : ∀ (n_38 : Nat) (v6_hooks : Nat → Int32) (v6_lefts : Nat → Int32) (v6_heights : Nat → Int32) (y2 : Int32) (H : Heap) (locs : List Loc) (ls : Array Slot), (f_X6_init_38 v7_rows v7_lengths) n_38 v6_hooks v6_lefts v6_heights y2 = some (ov6_hooks, ov6_lefts, ov6_heights) → va_P D xcl (wd_X6 (x_ad [0, 0, h_2, h_3, h_4, h_5, h_6, h_7, h_8, h_9, h_10, h_11]) cyI cyJ v6_hooks v6_lefts v6_heights v7_rows v7_lengths v7_sizes v7_rests v7_orders) H → va_D A (wd_X6 (x_ad [0, 0, h_2, h_3, h_4, h_5, h_6, h_7, h_8, h_9, h_10, h_11]) cyI cyJ v6_hooks v6_lefts v6_heights v7_rows v7_lengths v7_sizes v7_rests v7_orders) → va_S A s.heap H locs → lv_has ls 6 [(0, .ref (h_8)), (1, .ref (h_2)), (2, .int y2)] → W p l e { frames := 5, cells := 3, slots := 1608, locals := 118 } s m args below meth c H locs 3 1608 Q (F0 m 38 ls []) := by
    intro n_38
    induction n_38 with
    | zero => intro v6_hooks v6_lefts v6_heights y2 H locs ls hf; exact absurd hf (by intro h9; cases h9)
    | succ n_38 w_38 =>
      intro v6_hooks v6_lefts v6_heights y2 H locs ls hf hP hD hS hl
      have hf : gf_X6_init_38 ((f_X6_init_38 v7_rows v7_lengths) n_38) v7_rows v7_lengths v6_hooks v6_lefts v6_heights y2 = some (ov6_hooks, ov6_lefts, ov6_heights) := hf
      unfold gf_X6_init_38 at hf
      have w_49 : ∀ (n_49 : Nat) (v6_hooks : Nat → Int32) (v6_lefts : Nat → Int32) (v6_heights : Nat → Int32) (y2 : Int32) (y3 : Int32) (y4 : Int32) (H : Heap) (locs : List Loc) (ls : Array Slot), (f_X6_init_49 ((f_X6_init_38 v7_rows v7_lengths) n_38) v7_rows v7_lengths) n_49 v6_hooks v6_lefts v6_heights y2 y3 y4 = some (ov6_hooks, ov6_lefts, ov6_heights) → va_P D xcl (wd_X6 (x_ad [0, 0, h_2, h_3, h_4, h_5, h_6, h_7, h_8, h_9, h_10, h_11]) cyI cyJ v6_hooks v6_lefts v6_heights v7_rows v7_lengths v7_sizes v7_rests v7_orders) H → va_D A (wd_X6 (x_ad [0, 0, h_2, h_3, h_4, h_5, h_6, h_7, h_8, h_9, h_10, h_11]) cyI cyJ v6_hooks v6_lefts v6_heights v7_rows v7_lengths v7_sizes v7_rests v7_orders) → va_S A s.heap H locs → lv_has ls 6 [(0, .ref (h_8)), (1, .ref (h_2)), (2, .int y2), (3, .int y3), (4, .int y4)] → W p l e { frames := 5, cells := 3, slots := 1608, locals := 118 } s m args below meth c H locs 3 1608 Q (F0 m 49 ls []) := by
        intro n_49
        induction n_49 with
        | zero => intro v6_hooks v6_lefts v6_heights y2 y3 y4 H locs ls hf; exact absurd hf (by intro h9; cases h9)
        | succ n_49 w_49 =>
          intro v6_hooks v6_lefts v6_heights y2 y3 y4 H locs ls hf hP hD hS hl
          have hf : gf_X6_init_49 ((f_X6_init_49 ((f_X6_init_38 v7_rows v7_lengths) n_38) v7_rows v7_lengths) n_49) ((f_X6_init_38 v7_rows v7_lengths) n_38) v7_rows v7_lengths v6_hooks v6_lefts v6_heights y2 y3 y4 = some (ov6_hooks, ov6_lefts, ov6_heights) := hf
          unfold gf_X6_init_49 at hf
          have w_62 : ∀ (n_62 : Nat) (v6_hooks : Nat → Int32) (v6_lefts : Nat → Int32) (v6_heights : Nat → Int32) (y2 : Int32) (y3 : Int32) (y4 : Int32) (y5 : Int32) (H : Heap) (locs : List Loc) (ls : Array Slot), (f_X6_init_62 ((f_X6_init_49 ((f_X6_init_38 v7_rows v7_lengths) n_38) v7_rows v7_lengths) n_49) v7_rows v7_lengths) n_62 v6_hooks v6_lefts v6_heights y2 y3 y4 y5 = some (ov6_hooks, ov6_lefts, ov6_heights) → va_P D xcl (wd_X6 (x_ad [0, 0, h_2, h_3, h_4, h_5, h_6, h_7, h_8, h_9, h_10, h_11]) cyI cyJ v6_hooks v6_lefts v6_heights v7_rows v7_lengths v7_sizes v7_rests v7_orders) H → va_D A (wd_X6 (x_ad [0, 0, h_2, h_3, h_4, h_5, h_6, h_7, h_8, h_9, h_10, h_11]) cyI cyJ v6_hooks v6_lefts v6_heights v7_rows v7_lengths v7_sizes v7_rests v7_orders) → va_S A s.heap H locs → lv_has ls 6 [(0, .ref (h_8)), (1, .ref (h_2)), (2, .int y2), (3, .int y3), (4, .int y4), (5, .int y5)] → W p l e { frames := 5, cells := 3, slots := 1608, locals := 118 } s m args below meth c H locs 3 1608 Q (F0 m 62 ls []) := by
            intro n_62
            induction n_62 with
            | zero => intro v6_hooks v6_lefts v6_heights y2 y3 y4 y5 H locs ls hf; exact absurd hf (by intro h9; cases h9)
            | succ n_62 w_62 =>
              intro v6_hooks v6_lefts v6_heights y2 y3 y4 y5 H locs ls hf hP hD hS hl
              have hf : gf_X6_init_62 ((f_X6_init_62 ((f_X6_init_49 ((f_X6_init_38 v7_rows v7_lengths) n_38) v7_rows v7_lengths) n_49) v7_rows v7_lengths) n_62) ((f_X6_init_49 ((f_X6_init_38 v7_rows v7_lengths) n_38) v7_rows v7_lengths) n_49) v7_rows v7_lengths v6_hooks v6_lefts v6_heights y2 y3 y4 y5 = some (ov6_hooks, ov6_lefts, ov6_heights) := hf
              unfold gf_X6_init_62 at hf
              refine lv_iload hx hb dX6_init_62 (lv_at hl 5 rfl) ?_
              refine lv_aload_n hx hb dX6_init_64 rfl (lv_at hl 1 rfl) ?_
              refine lv_iload_n hx hb dX6_init_65 rfl (lv_at hl 2 rfl) ?_
              refine lv_iload hx hb dX6_init_66 (lv_at hl 4 rfl) ?_
              obtain ⟨r_12, hk_13, hf⟩ := pe_1 hf
              refine xv_i (As := [.int y2, .int y4]) (rest := [.int y5]) (q0 := 0) (ci := 7) Cx hP hD hS hl (pl_X6_X7 (x_ad [0, 0, h_2, h_3, h_4, h_5, h_6, h_7, h_8, h_9, h_10, h_11]) cyI cyJ v6_hooks v6_lefts v6_heights v7_rows v7_lengths v7_sizes v7_rests v7_orders v7_rows v7_lengths v7_sizes v7_rests v7_orders) (c_X7_row l D cyI cyJ G (x_ad [0, 0, h_2, h_3, h_4, h_5, h_6, h_7, h_8, h_9, h_10, h_11]) H.size v7_rows v7_lengths v7_sizes v7_rests v7_orders y2 y4 r_12 hk_13) pk_X7_row mw_1_112 ⟨rfl, rfl, Nat.le_of_ble_eq_true rfl, Nat.le_of_ble_eq_true rfl⟩ rfl rfl rfl rfl rfl (Nat.le_of_ble_eq_true rfl) ⟨Nat.le_of_ble_eq_true rfl, Nat.le_of_ble_eq_true rfl⟩ dX6_init_68 (fun H locs hP hD hS => ?_)
              refine lv_icmp_ge (tgt := 93) hx hb dX6_init_71 (by decide) (fun hc_14 => ?_) (fun hc_14 => ?_)
              · have hf := pe_t hf hc_14
                refine lv_iinc (v := (y4 + (1 : Int32))) (lv' := [(4, .int (y4 + (1 : Int32))), (0, .ref (h_8)), (1, .ref (h_2)), (2, .int y2), (3, .int y3), (5, .int y5)]) hx hb dX6_init_93 hl (k := 4) rfl rfl (by decide) rfl (fun ls hl => ?_)
                refine lv_goto (tgt := 49) hx hb dX6_init_96 (by decide) ?_
                exact w_49 v6_hooks v6_lefts v6_heights y2 y3 (y4 + (1 : Int32)) H locs ls hf hP hD hS (lv_sub hl [1, 2, 3, 4, 0] rfl)
              · have hf := pe_f hf hc_14
                refine lv_aload_n hx hb dX6_init_74 rfl (lv_at hl 0 rfl) ?_
                refine lv_iload_n hx hb dX6_init_75 rfl (lv_at hl 2 rfl) ?_
                refine lv_iload_n hx hb dX6_init_76 rfl (lv_at hl 3 rfl) ?_
                refine lv_iload hx hb dX6_init_77 (lv_at hl 4 rfl) ?_
                refine lv_iload hx hb dX6_init_79 (lv_at hl 5 rfl) ?_
                obtain ⟨v6_hooks_15, v6_lefts_16, v6_heights_17, hk_18, hf⟩ := pe_3 hf
                refine xv_v (As := [.int y2, .int y3, .int y4, .int y5]) (rest := []) (q0 := 0) (ci := 6) Cx hP hD hS hl (pl_X6_X6 (x_ad [0, 0, h_2, h_3, h_4, h_5, h_6, h_7, h_8, h_9, h_10, h_11]) cyI cyJ v6_hooks v6_lefts v6_heights v7_rows v7_lengths v7_sizes v7_rests v7_orders v6_hooks_15 v6_lefts_16 v6_heights_17 v7_rows v7_lengths v7_sizes v7_rests v7_orders) (c_X6_note l D cyI cyJ G (x_ad [0, 0, h_2, h_3, h_4, h_5, h_6, h_7, h_8, h_9, h_10, h_11]) H.size v6_hooks v6_lefts v6_heights v7_rows v7_lengths v7_sizes v7_rests v7_orders y2 y3 y4 y5 v6_hooks_15 v6_lefts_16 v6_heights_17 hk_18) pk_X6_note mw_1_113 ⟨rfl, rfl, Nat.le_of_ble_eq_true rfl, Nat.le_of_ble_eq_true rfl⟩ rfl rfl rfl rfl rfl (Nat.le_of_ble_eq_true rfl) ⟨Nat.le_of_ble_eq_true rfl, Nat.le_of_ble_eq_true rfl⟩ dX6_init_81 (fun H locs hP hD hS => ?_)
                refine lv_iinc (v := (y3 + (1 : Int32))) (lv' := [(3, .int (y3 + (1 : Int32))), (0, .ref (h_8)), (1, .ref (h_2)), (2, .int y2), (4, .int y4), (5, .int y5)]) hx hb dX6_init_84 hl (k := 3) rfl rfl (by decide) rfl (fun ls hl => ?_)
                refine lv_iinc (v := (y5 + (1 : Int32))) (lv' := [(5, .int (y5 + (1 : Int32))), (3, .int (y3 + (1 : Int32))), (0, .ref (h_8)), (1, .ref (h_2)), (2, .int y2), (4, .int y4)]) hx hb dX6_init_87 hl (k := 5) rfl rfl (by decide) rfl (fun ls hl => ?_)
                refine lv_goto (tgt := 62) hx hb dX6_init_90 (by decide) ?_
                exact w_62 v6_hooks_15 v6_lefts_16 v6_heights_17 y2 (y3 + (1 : Int32)) y4 (y5 + (1 : Int32)) H locs ls hf hP hD hS (lv_sub hl [2, 3, 4, 1, 5, 0] rfl)
          refine lv_iload hx hb dX6_init_49 (lv_at hl 4 rfl) ?_
          refine lv_aload_n hx hb dX6_init_51 rfl (lv_at hl 1 rfl) ?_
          refine lv_iload_n hx hb dX6_init_52 rfl (lv_at hl 2 rfl) ?_
          obtain ⟨r_19, hk_20, hf⟩ := pe_1 hf
          refine xv_i (As := [.int y2]) (rest := [.int y4]) (q0 := 0) (ci := 7) Cx hP hD hS hl (pl_X6_X7 (x_ad [0, 0, h_2, h_3, h_4, h_5, h_6, h_7, h_8, h_9, h_10, h_11]) cyI cyJ v6_hooks v6_lefts v6_heights v7_rows v7_lengths v7_sizes v7_rests v7_orders v7_rows v7_lengths v7_sizes v7_rests v7_orders) (c_X7_lengthOf l D cyI cyJ G (x_ad [0, 0, h_2, h_3, h_4, h_5, h_6, h_7, h_8, h_9, h_10, h_11]) H.size v7_rows v7_lengths v7_sizes v7_rests v7_orders y2 r_19 hk_20) pk_X7_lengthOf mw_1_111 ⟨rfl, rfl, Nat.le_of_ble_eq_true rfl, Nat.le_of_ble_eq_true rfl⟩ rfl rfl rfl rfl rfl (Nat.le_of_ble_eq_true rfl) ⟨Nat.le_of_ble_eq_true rfl, Nat.le_of_ble_eq_true rfl⟩ dX6_init_53 (fun H locs hP hD hS => ?_)
          refine lv_icmp_ge (tgt := 99) hx hb dX6_init_56 (by decide) (fun hc_21 => ?_) (fun hc_21 => ?_)
          · have hf := pe_t hf hc_21
            refine lv_iinc (v := (y2 + (1 : Int32))) (lv' := [(2, .int (y2 + (1 : Int32))), (0, .ref (h_8)), (1, .ref (h_2)), (3, .int y3), (4, .int y4)]) hx hb dX6_init_99 hl (k := 2) rfl rfl (by decide) rfl (fun ls hl => ?_)
            refine lv_goto (tgt := 38) hx hb dX6_init_102 (by decide) ?_
            exact w_38 v6_hooks v6_lefts v6_heights (y2 + (1 : Int32)) H locs ls hf hP hD hS (lv_sub hl [1, 2, 0] rfl)
          · have hf := pe_f hf hc_21
            refine lv_iconst (v := (0 : Int32)) hx hb dX6_init_59 (by decide) ?_
            refine lv_istore (lv' := [(5, .int (0 : Int32)), (0, .ref (h_8)), (1, .ref (h_2)), (2, .int y2), (3, .int y3), (4, .int y4)]) hx hb dX6_init_60 hl (by decide) rfl (fun ls hl => ?_)
            exact w_62 1000 v6_hooks v6_lefts v6_heights y2 y3 y4 (0 : Int32) H locs ls hf hP hD hS (lv_sub hl [1, 2, 3, 4, 5, 0] rfl)
      refine lv_iload_n hx hb dX6_init_38 rfl (lv_at hl 2 rfl) ?_
      refine lv_bipush (v := (67 : Int32)) hx hb dX6_init_39 (by decide) ?_
      refine lv_icmp_ge (tgt := 105) hx hb dX6_init_41 (by decide) (fun hc_22 => ?_) (fun hc_22 => ?_)
      · have hf := pe_t hf hc_22
        obtain ⟨rfl, rfl, rfl⟩ := po_3 hf
        rw [← hQ]; exact xe_nret (h_9, h_10, h_11) Cx hP hD hS dX6_init_105
      · have hf := pe_f hf hc_22
        refine lv_iconst (v := (0 : Int32)) hx hb dX6_init_44 (by decide) ?_
        refine lv_istore_n (lv' := [(3, .int (0 : Int32)), (0, .ref (h_8)), (1, .ref (h_2)), (2, .int y2)]) hx hb dX6_init_45 rfl hl (by decide) rfl (fun ls hl => ?_)
        refine lv_iconst (v := (0 : Int32)) hx hb dX6_init_46 (by decide) ?_
        refine lv_istore (lv' := [(4, .int (0 : Int32)), (3, .int (0 : Int32)), (0, .ref (h_8)), (1, .ref (h_2)), (2, .int y2)]) hx hb dX6_init_47 hl (by decide) rfl (fun ls hl => ?_)
        exact w_49 1000 v6_hooks v6_lefts v6_heights y2 (0 : Int32) (0 : Int32) H locs ls hf hP hD hS (lv_sub hl [2, 3, 4, 1, 0] rfl)
  exact w_38 1000 (fun _ => 0) (fun _ => 0) (fun _ => 0) (0 : Int32) H locs ls hf hP hD hS (lv_sub hl [1, 2, 0] rfl)
def f_X2_init : Option (Unit) := some ()
set_option maxHeartbeats 8000000 in
set_option maxRecDepth 20000 in
theorem c_X2_init (l : Launch) (D : va_G) (cyI cyJ : ClassId) (G : Nat → Nat) (h_12 : Nat) (h_2 : Nat) (h_3 : Nat) (h_4 : Nat) (h_5 : Nat) (h_6 : Nat) (h_7 : Nat) (sz : Nat) (v7_rows : Nat → Int32) (v7_lengths : Nat → Int32) (v7_sizes : Nat → Int32) (v7_rests : Nat → Int32) (v7_orders : Nat → Int32) (hf : f_X2_init = some ()) : xm_n l yX2_init (Cond.code yX2_init cX2_init 2 none :: xg_tbl) { frames := 1, cells := 0, slots := 0, locals := 20 } D xcl [(cyI, .int), (cyJ, .long)] G sz [.ref (h_12), .ref (h_2)] [(h_12, .inr (2, [.null])), (h_2, .inr (7, [.ref (h_3), .ref (h_4), .ref (h_5), .ref (h_6), .ref (h_7)])), (h_3, .inl (cyI, 536, .inl v7_rows)), (h_4, .inl (cyI, 67, .inl v7_lengths)), (h_5, .inl (cyI, 67, .inl v7_sizes)), (h_6, .inl (cyI, 67, .inl v7_rests)), (h_7, .inl (cyI, 67, .inl v7_orders))] (fun u : Unit => (wd_X2 (x_ad [0, 0, h_2, h_3, h_4, h_5, h_6, h_7, 0, 0, 0, 0, h_12]) cyI cyJ v7_rows v7_lengths v7_sizes v7_rests v7_orders)) 0 0 := by
  refine xm_of_n (own := RX2) (by decide) rfl rfl (Nat.le_of_ble_eq_true rfl) ?_
  intro p e s m args below meth c ls Q A hQ hAe hin Cx hsz hP hD hS hl
  have Cx1 := Cx
  obtain ⟨⟨hx, hb, hml, hown, hts⟩, hr, hlocks, hK, hA, hT⟩ := Cx1
  have hl : lv_has ls 2 [(0, .ref (h_12)), (1, .ref (h_2))] := hl
  obtain ⟨H, eH⟩ : ∃ H, H = s.heap := ⟨_, rfl⟩
  obtain ⟨locs, eL⟩ : ∃ L : List Loc, L = [] := ⟨_, rfl⟩
  rw [← eH] at hP
  have hS : va_S A s.heap H locs := by rw [eH, eL]; exact hS
  suffices hgo : W p l e { frames := 1, cells := 0, slots := 0, locals := 20 } s m args below meth c H locs 0 0 Q (F0 m 0 ls []) by rw [eH, eL] at hgo; exact hgo
  clear eH eL
  unfold f_X2_init at hf
  refine lv_aload_n hx hb dX2_init_0 rfl (lv_at hl 0 rfl) ?_
  refine W.objInit hx hb hown (hts _ mw_2_5) (hts _ mw_1_28) (hts _ mw_1_29) rfl (by rw [hml]; exact hl.1) rfl dX2_init_1 (Nat.le_of_ble_eq_true rfl) (Nat.le_of_ble_eq_true rfl) ?_
  refine W.eq (g2 := F0 m 4 ls []) rfl ?_
  refine lv_aload_n hx hb dX2_init_4 rfl (lv_at hl 0 rfl) ?_
  refine lv_aload_n hx hb dX2_init_5 rfl (lv_at hl 1 rfl) ?_
  refine va_putF (ci := 2) (v := .ref (h_2)) (ty := (.object "CharactersMultiplied$Shapes")) hx hb hts wX2_in tyX2 tyX2_ok nmX2 hown hK hP hD hS 0 rfl rfl 0 (by decide) (hts _ mw_2_6) (fun _ h9 => h9) rfl (hin rfl) rfl (by decide +kernel) rfl rfl (Nat.le_of_ble_eq_true rfl) dX2_init_6 (fun H locs hP hD hS => ?_)
  have hP : va_P D xcl [(h_12, .inr (2, [.ref (h_2)])), (h_2, .inr (7, [.ref (h_3), .ref (h_4), .ref (h_5), .ref (h_6), .ref (h_7)])), (h_3, .inl (cyI, 536, .inl v7_rows)), (h_4, .inl (cyI, 67, .inl v7_lengths)), (h_5, .inl (cyI, 67, .inl v7_sizes)), (h_6, .inl (cyI, 67, .inl v7_rests)), (h_7, .inl (cyI, 67, .inl v7_orders))] H := hP
  have hD : va_D A [(h_12, .inr (2, [.ref (h_2)])), (h_2, .inr (7, [.ref (h_3), .ref (h_4), .ref (h_5), .ref (h_6), .ref (h_7)])), (h_3, .inl (cyI, 536, .inl v7_rows)), (h_4, .inl (cyI, 67, .inl v7_lengths)), (h_5, .inl (cyI, 67, .inl v7_sizes)), (h_6, .inl (cyI, 67, .inl v7_rests)), (h_7, .inl (cyI, 67, .inl v7_orders))] := hD
  have hP : va_P D xcl (wd_X2 (x_ad [0, 0, h_2, h_3, h_4, h_5, h_6, h_7, 0, 0, 0, 0, h_12]) cyI cyJ v7_rows v7_lengths v7_sizes v7_rests v7_orders) H := xq_pick hP [0, 1, 2, 3, 4, 5, 6] rfl
  have hD : va_D A (wd_X2 (x_ad [0, 0, h_2, h_3, h_4, h_5, h_6, h_7, 0, 0, 0, 0, h_12]) cyI cyJ v7_rows v7_lengths v7_sizes v7_rests v7_orders) := hD.sub [0, 1, 2, 3, 4, 5, 6] rfl rfl
  refine W.widen (k := 0) (n := 0) (Nat.le_of_ble_eq_true rfl) (Nat.le_of_ble_eq_true rfl) ?_
  rw [← hQ]; exact xe_nret () Cx hP hD hS dX2_init_9
def f_X1_init_63 (K_36 : (Nat → Int32) → Int32 → Int32 → Option ((Nat → Int32))) (v7_rows : Nat → Int32) (v7_sizes : Nat → Int32) (v7_rests : Nat → Int32) (v6_hooks : Nat → Int32) (v6_lefts : Nat → Int32) (v6_heights : Nat → Int32) (v1_table : Nat → Int32) (y3 : Int32) (y4 : Int32) (z0 : Int32) : Option ((Nat → Int32)) := p_b1 (f_X6_hookBy v6_hooks y3 y4) (fun r_1 => p_b1 (f_X6_leftBy v6_lefts y3 y4) (fun r_3 => p_b1 (f_X1_addRim v7_rows v7_sizes v7_rests v1_table y3 r_1 r_3 z0) (fun v1_table_5 => K_36 v1_table_5 y3 (y4 + (1 : Int32)))))
def gf_X1_init_36 (K_36 : (Nat → Int32) → Int32 → Int32 → Option ((Nat → Int32))) (K_27 : (Nat → Int32) → Int32 → Option ((Nat → Int32))) (v7_rows : Nat → Int32) (v7_sizes : Nat → Int32) (v7_rests : Nat → Int32) (v6_hooks : Nat → Int32) (v6_lefts : Nat → Int32) (v6_heights : Nat → Int32) (v1_table : Nat → Int32) (y3 : Int32) (y4 : Int32) : Option ((Nat → Int32)) := p_b1 (f_X7_sizeOf v7_sizes y3) (fun r_7 => if r_7 ≤ y4 then (K_27 v1_table (y3 + (1 : Int32))) else (p_b1 (f_X6_heightBy v6_heights y3 y4) (fun r_10 => p_nz (2 : Int32) (if (r_10 - r_10 / (2 : Int32) * (2 : Int32)) = 0 then ((f_X1_init_63 K_36 v7_rows v7_sizes v7_rests v6_hooks v6_lefts v6_heights) v1_table y3 y4 (1 : Int32)) else ((f_X1_init_63 K_36 v7_rows v7_sizes v7_rests v6_hooks v6_lefts v6_heights) v1_table y3 y4 (-1 : Int32))))))
def f_X1_init_36 (K_27 : (Nat → Int32) → Int32 → Option ((Nat → Int32))) (v7_rows : Nat → Int32) (v7_sizes : Nat → Int32) (v7_rests : Nat → Int32) (v6_hooks : Nat → Int32) (v6_lefts : Nat → Int32) (v6_heights : Nat → Int32) : Nat → (Nat → Int32) → Int32 → Int32 → Option ((Nat → Int32))
  | 0 => fun _ _ _ => none
  | n + 1 => gf_X1_init_36 (f_X1_init_36 K_27 v7_rows v7_sizes v7_rests v6_hooks v6_lefts v6_heights n) K_27 v7_rows v7_sizes v7_rests v6_hooks v6_lefts v6_heights
def gf_X1_init_27 (K_27 : (Nat → Int32) → Int32 → Option ((Nat → Int32))) (v7_rows : Nat → Int32) (v7_sizes : Nat → Int32) (v7_rests : Nat → Int32) (v6_hooks : Nat → Int32) (v6_lefts : Nat → Int32) (v6_heights : Nat → Int32) (v1_table : Nat → Int32) (y3 : Int32) : Option ((Nat → Int32)) := if (67 : Int32) ≤ y3 then (some (v1_table)) else ((f_X1_init_36 K_27 v7_rows v7_sizes v7_rests v6_hooks v6_lefts v6_heights 1000) v1_table y3 (0 : Int32))
def f_X1_init_27 (v7_rows : Nat → Int32) (v7_sizes : Nat → Int32) (v7_rests : Nat → Int32) (v6_hooks : Nat → Int32) (v6_lefts : Nat → Int32) (v6_heights : Nat → Int32) : Nat → (Nat → Int32) → Int32 → Option ((Nat → Int32))
  | 0 => fun _ _ => none
  | n + 1 => gf_X1_init_27 (f_X1_init_27 v7_rows v7_sizes v7_rests v6_hooks v6_lefts v6_heights n) v7_rows v7_sizes v7_rests v6_hooks v6_lefts v6_heights
def f_X1_init (v7_rows : Nat → Int32) (v7_sizes : Nat → Int32) (v7_rests : Nat → Int32) (v6_hooks : Nat → Int32) (v6_lefts : Nat → Int32) (v6_heights : Nat → Int32) : Option ((Nat → Int32)) := p_in (0 : Int32) 1474 ((f_X1_init_27 v7_rows v7_sizes v7_rests v6_hooks v6_lefts v6_heights 1000) (upd (fun _ => 0) (Int32.toNatClampNeg (0 : Int32)) (1 : Int32)) (1 : Int32))
set_option maxHeartbeats 8000000 in
set_option maxRecDepth 20000 in
theorem c_X1_init (l : Launch) (D : va_G) (cyI cyJ : ClassId) (G : Nat → Nat) (h_13 : Nat) (h_2 : Nat) (h_3 : Nat) (h_4 : Nat) (h_5 : Nat) (h_6 : Nat) (h_7 : Nat) (h_8 : Nat) (h_9 : Nat) (h_10 : Nat) (h_11 : Nat) (sz : Nat) (v7_rows : Nat → Int32) (v7_lengths : Nat → Int32) (v7_sizes : Nat → Int32) (v7_rests : Nat → Int32) (v7_orders : Nat → Int32) (v6_hooks : Nat → Int32) (v6_lefts : Nat → Int32) (v6_heights : Nat → Int32) (ov1_table : Nat → Int32) (hf : f_X1_init v7_rows v7_sizes v7_rests v6_hooks v6_lefts v6_heights = some ov1_table) : xm_n l yX1_init (Cond.code yX1_init cX1_init 6 none :: xg_tbl) { frames := 5, cells := 1, slots := 1474, locals := 112 } D xcl [(cyI, .int), (cyJ, .long)] G sz [.ref (h_13), .ref (h_2), .ref (h_8)] [(h_13, .inr (1, [.null, .null])), (h_2, .inr (7, [.ref (h_3), .ref (h_4), .ref (h_5), .ref (h_6), .ref (h_7)])), (h_3, .inl (cyI, 536, .inl v7_rows)), (h_4, .inl (cyI, 67, .inl v7_lengths)), (h_5, .inl (cyI, 67, .inl v7_sizes)), (h_6, .inl (cyI, 67, .inl v7_rests)), (h_7, .inl (cyI, 67, .inl v7_orders)), (h_8, .inr (6, [.ref (h_2), .ref (h_9), .ref (h_10), .ref (h_11)])), (h_9, .inl (cyI, 536, .inl v6_hooks)), (h_10, .inl (cyI, 536, .inl v6_lefts)), (h_11, .inl (cyI, 536, .inl v6_heights))] (fun u : Nat => (wd_X101 (x_ad [0, 0, h_2, h_3, h_4, h_5, h_6, h_7, h_8, h_9, h_10, h_11, 0, h_13, u]) cyI cyJ ov1_table v7_rows v7_lengths v7_sizes v7_rests v7_orders v6_hooks v6_lefts v6_heights)) 1 1474 := by
  refine xm_of_n (own := RX1) (by decide) rfl rfl (Nat.le_of_ble_eq_true rfl) ?_
  intro p e s m args below meth c ls Q A hQ hAe hin Cx hsz hP hD hS hl
  have Cx1 := Cx
  obtain ⟨⟨hx, hb, hml, hown, hts⟩, hr, hlocks, hK, hA, hT⟩ := Cx1
  have hl : lv_has ls 6 [(0, .ref (h_13)), (1, .ref (h_2)), (2, .ref (h_8))] := hl
  obtain ⟨H, eH⟩ : ∃ H, H = s.heap := ⟨_, rfl⟩
  obtain ⟨locs, eL⟩ : ∃ L : List Loc, L = [] := ⟨_, rfl⟩
  rw [← eH] at hP
  have hS : va_S A s.heap H locs := by rw [eH, eL]; exact hS
  suffices hgo : W p l e { frames := 5, cells := 1, slots := 1474, locals := 112 } s m args below meth c H locs 0 0 Q (F0 m 0 ls []) by rw [eH, eL] at hgo; exact hgo
  clear eH eL
  unfold f_X1_init at hf
  refine lv_aload_n hx hb dX1_init_0 rfl (lv_at hl 0 rfl) ?_
  refine W.objInit hx hb hown (hts _ mw_1_155) (hts _ mw_1_28) (hts _ mw_1_29) rfl (by rw [hml]; exact hl.1) rfl dX1_init_1 (Nat.le_of_ble_eq_true rfl) (Nat.le_of_ble_eq_true rfl) ?_
  refine W.eq (g2 := F0 m 4 ls []) rfl ?_
  refine lv_aload_n hx hb dX1_init_4 rfl (lv_at hl 0 rfl) ?_
  refine lv_sipush (v := (1474 : Int32)) hx hb dX1_init_5 (by decide) ?_
  refine va_newa (atype := .int) (ty := .int) (a0 := (1474, .inl (fun _ => 0))) (N' := 1474) hx hb (hts _ mw_1_104) rfl hK hP hD hS hA (fun _ => rfl) (by decide) (by decide) (Nat.le_of_ble_eq_true rfl) (Nat.le_of_ble_eq_true rfl) (Nat.le_of_ble_eq_true rfl) dX1_init_8 (fun h_14 cA H hK1 hP hD hS => ?_)
  have eA := x_sameI hK hK1
  rw [eA] at hP hD
  have hP : va_P D xcl [(h_13, .inr (1, [.null, .null])), (h_2, .inr (7, [.ref (h_3), .ref (h_4), .ref (h_5), .ref (h_6), .ref (h_7)])), (h_3, .inl (cyI, 536, .inl v7_rows)), (h_4, .inl (cyI, 67, .inl v7_lengths)), (h_5, .inl (cyI, 67, .inl v7_sizes)), (h_6, .inl (cyI, 67, .inl v7_rests)), (h_7, .inl (cyI, 67, .inl v7_orders)), (h_8, .inr (6, [.ref (h_2), .ref (h_9), .ref (h_10), .ref (h_11)])), (h_9, .inl (cyI, 536, .inl v6_hooks)), (h_10, .inl (cyI, 536, .inl v6_lefts)), (h_11, .inl (cyI, 536, .inl v6_heights)), (h_14, .inl (cyI, 1474, .inl (fun _ => 0)))] H := hP
  have hD : va_D A [(h_13, .inr (1, [.null, .null])), (h_2, .inr (7, [.ref (h_3), .ref (h_4), .ref (h_5), .ref (h_6), .ref (h_7)])), (h_3, .inl (cyI, 536, .inl v7_rows)), (h_4, .inl (cyI, 67, .inl v7_lengths)), (h_5, .inl (cyI, 67, .inl v7_sizes)), (h_6, .inl (cyI, 67, .inl v7_rests)), (h_7, .inl (cyI, 67, .inl v7_orders)), (h_8, .inr (6, [.ref (h_2), .ref (h_9), .ref (h_10), .ref (h_11)])), (h_9, .inl (cyI, 536, .inl v6_hooks)), (h_10, .inl (cyI, 536, .inl v6_lefts)), (h_11, .inl (cyI, 536, .inl v6_heights)), (h_14, .inl (cyI, 1474, .inl (fun _ => 0)))] := hD
  refine va_putF (ci := 1) (v := .ref (h_14)) (ty := (.array .int)) hx hb hts wX1_in tyX1 tyX1_ok nmX1 hown hK hP hD hS 0 rfl rfl 1 (by decide) (hts _ mw_1_194) (fun _ h9 => h9) rfl (hin rfl) rfl (by decide +kernel) rfl rfl (Nat.le_of_ble_eq_true rfl) dX1_init_10 (fun H locs hP hD hS => ?_)
  have hP : va_P D xcl [(h_13, .inr (1, [.null, .ref (h_14)])), (h_2, .inr (7, [.ref (h_3), .ref (h_4), .ref (h_5), .ref (h_6), .ref (h_7)])), (h_3, .inl (cyI, 536, .inl v7_rows)), (h_4, .inl (cyI, 67, .inl v7_lengths)), (h_5, .inl (cyI, 67, .inl v7_sizes)), (h_6, .inl (cyI, 67, .inl v7_rests)), (h_7, .inl (cyI, 67, .inl v7_orders)), (h_8, .inr (6, [.ref (h_2), .ref (h_9), .ref (h_10), .ref (h_11)])), (h_9, .inl (cyI, 536, .inl v6_hooks)), (h_10, .inl (cyI, 536, .inl v6_lefts)), (h_11, .inl (cyI, 536, .inl v6_heights)), (h_14, .inl (cyI, 1474, .inl (fun _ => 0)))] H := hP
  have hD : va_D A [(h_13, .inr (1, [.null, .ref (h_14)])), (h_2, .inr (7, [.ref (h_3), .ref (h_4), .ref (h_5), .ref (h_6), .ref (h_7)])), (h_3, .inl (cyI, 536, .inl v7_rows)), (h_4, .inl (cyI, 67, .inl v7_lengths)), (h_5, .inl (cyI, 67, .inl v7_sizes)), (h_6, .inl (cyI, 67, .inl v7_rests)), (h_7, .inl (cyI, 67, .inl v7_orders)), (h_8, .inr (6, [.ref (h_2), .ref (h_9), .ref (h_10), .ref (h_11)])), (h_9, .inl (cyI, 536, .inl v6_hooks)), (h_10, .inl (cyI, 536, .inl v6_lefts)), (h_11, .inl (cyI, 536, .inl v6_heights)), (h_14, .inl (cyI, 1474, .inl (fun _ => 0)))] := hD
  refine lv_aload_n hx hb dX1_init_13 rfl (lv_at hl 0 rfl) ?_
  refine lv_aload_n hx hb dX1_init_14 rfl (lv_at hl 1 rfl) ?_
  refine va_putF (ci := 1) (v := .ref (h_2)) (ty := (.object "CharactersMultiplied$Shapes")) hx hb hts wX1_in tyX1 tyX1_ok nmX1 hown hK hP hD hS 0 rfl rfl 0 (by decide) (hts _ mw_1_193) (fun _ h9 => h9) rfl (hin rfl) rfl (by decide +kernel) rfl rfl (Nat.le_of_ble_eq_true rfl) dX1_init_15 (fun H locs hP hD hS => ?_)
  have hP : va_P D xcl [(h_13, .inr (1, [.ref (h_2), .ref (h_14)])), (h_2, .inr (7, [.ref (h_3), .ref (h_4), .ref (h_5), .ref (h_6), .ref (h_7)])), (h_3, .inl (cyI, 536, .inl v7_rows)), (h_4, .inl (cyI, 67, .inl v7_lengths)), (h_5, .inl (cyI, 67, .inl v7_sizes)), (h_6, .inl (cyI, 67, .inl v7_rests)), (h_7, .inl (cyI, 67, .inl v7_orders)), (h_8, .inr (6, [.ref (h_2), .ref (h_9), .ref (h_10), .ref (h_11)])), (h_9, .inl (cyI, 536, .inl v6_hooks)), (h_10, .inl (cyI, 536, .inl v6_lefts)), (h_11, .inl (cyI, 536, .inl v6_heights)), (h_14, .inl (cyI, 1474, .inl (fun _ => 0)))] H := hP
  have hD : va_D A [(h_13, .inr (1, [.ref (h_2), .ref (h_14)])), (h_2, .inr (7, [.ref (h_3), .ref (h_4), .ref (h_5), .ref (h_6), .ref (h_7)])), (h_3, .inl (cyI, 536, .inl v7_rows)), (h_4, .inl (cyI, 67, .inl v7_lengths)), (h_5, .inl (cyI, 67, .inl v7_sizes)), (h_6, .inl (cyI, 67, .inl v7_rests)), (h_7, .inl (cyI, 67, .inl v7_orders)), (h_8, .inr (6, [.ref (h_2), .ref (h_9), .ref (h_10), .ref (h_11)])), (h_9, .inl (cyI, 536, .inl v6_hooks)), (h_10, .inl (cyI, 536, .inl v6_lefts)), (h_11, .inl (cyI, 536, .inl v6_heights)), (h_14, .inl (cyI, 1474, .inl (fun _ => 0)))] := hD
  refine lv_aload_n hx hb dX1_init_18 rfl (lv_at hl 0 rfl) ?_
  have hP : va_P D xcl (wd_X101 (x_ad [0, 0, h_2, h_3, h_4, h_5, h_6, h_7, h_8, h_9, h_10, h_11, 0, h_13, h_14]) cyI cyJ (fun _ => 0) v7_rows v7_lengths v7_sizes v7_rests v7_orders v6_hooks v6_lefts v6_heights) H := xq_pick hP [0, 11, 1, 2, 3, 4, 5, 6, 7, 8, 9, 10] rfl
  have hD : va_D A (wd_X101 (x_ad [0, 0, h_2, h_3, h_4, h_5, h_6, h_7, h_8, h_9, h_10, h_11, 0, h_13, h_14]) cyI cyJ (fun _ => 0) v7_rows v7_lengths v7_sizes v7_rests v7_orders v6_hooks v6_lefts v6_heights) := hD.sub [0, 11, 1, 2, 3, 4, 5, 6, 7, 8, 9, 10] rfl rfl
  refine W.widen (k := 1) (n := 1474) (Nat.le_of_ble_eq_true rfl) (Nat.le_of_ble_eq_true rfl) ?_
  have w_27 : ∀ (n_27 : Nat) (v1_table : Nat → Int32) (y3 : Int32) (H : Heap) (locs : List Loc) (ls : Array Slot), (f_X1_init_27 v7_rows v7_sizes v7_rests v6_hooks v6_lefts v6_heights) n_27 v1_table y3 = some ov1_table → va_P D xcl (wd_X101 (x_ad [0, 0, h_2, h_3, h_4, h_5, h_6, h_7, h_8, h_9, h_10, h_11, 0, h_13, h_14]) cyI cyJ v1_table v7_rows v7_lengths v7_sizes v7_rests v7_orders v6_hooks v6_lefts v6_heights) H → va_D A (wd_X101 (x_ad [0, 0, h_2, h_3, h_4, h_5, h_6, h_7, h_8, h_9, h_10, h_11, 0, h_13, h_14]) cyI cyJ v1_table v7_rows v7_lengths v7_sizes v7_rests v7_orders v6_hooks v6_lefts v6_heights) → va_S A s.heap H locs → lv_has ls 6 [(0, .ref (h_13)), (1, .ref (h_2)), (2, .ref (h_8)), (3, .int y3)] → W p l e { frames := 5, cells := 1, slots := 1474, locals := 112 } s m args below meth c H locs 1 1474 Q (F0 m 27 ls []) := by
    intro n_27
    induction n_27 with
    | zero => intro v1_table y3 H locs ls hf; exact absurd hf (by intro h9; cases h9)
    | succ n_27 w_27 =>
      intro v1_table y3 H locs ls hf hP hD hS hl
      have hf : gf_X1_init_27 ((f_X1_init_27 v7_rows v7_sizes v7_rests v6_hooks v6_lefts v6_heights) n_27) v7_rows v7_sizes v7_rests v6_hooks v6_lefts v6_heights v1_table y3 = some ov1_table := hf
      unfold gf_X1_init_27 at hf
      have w_36 : ∀ (n_36 : Nat) (v1_table : Nat → Int32) (y3 : Int32) (y4 : Int32) (H : Heap) (locs : List Loc) (ls : Array Slot), (f_X1_init_36 ((f_X1_init_27 v7_rows v7_sizes v7_rests v6_hooks v6_lefts v6_heights) n_27) v7_rows v7_sizes v7_rests v6_hooks v6_lefts v6_heights) n_36 v1_table y3 y4 = some ov1_table → va_P D xcl (wd_X101 (x_ad [0, 0, h_2, h_3, h_4, h_5, h_6, h_7, h_8, h_9, h_10, h_11, 0, h_13, h_14]) cyI cyJ v1_table v7_rows v7_lengths v7_sizes v7_rests v7_orders v6_hooks v6_lefts v6_heights) H → va_D A (wd_X101 (x_ad [0, 0, h_2, h_3, h_4, h_5, h_6, h_7, h_8, h_9, h_10, h_11, 0, h_13, h_14]) cyI cyJ v1_table v7_rows v7_lengths v7_sizes v7_rests v7_orders v6_hooks v6_lefts v6_heights) → va_S A s.heap H locs → lv_has ls 6 [(0, .ref (h_13)), (1, .ref (h_2)), (2, .ref (h_8)), (3, .int y3), (4, .int y4)] → W p l e { frames := 5, cells := 1, slots := 1474, locals := 112 } s m args below meth c H locs 1 1474 Q (F0 m 36 ls []) := by
        intro n_36
        induction n_36 with
        | zero => intro v1_table y3 y4 H locs ls hf; exact absurd hf (by intro h9; cases h9)
        | succ n_36 w_36 =>
          intro v1_table y3 y4 H locs ls hf hP hD hS hl
          have hf : gf_X1_init_36 ((f_X1_init_36 ((f_X1_init_27 v7_rows v7_sizes v7_rests v6_hooks v6_lefts v6_heights) n_27) v7_rows v7_sizes v7_rests v6_hooks v6_lefts v6_heights) n_36) ((f_X1_init_27 v7_rows v7_sizes v7_rests v6_hooks v6_lefts v6_heights) n_27) v7_rows v7_sizes v7_rests v6_hooks v6_lefts v6_heights v1_table y3 y4 = some ov1_table := hf
          unfold gf_X1_init_36 at hf
          have w_63 : ∀ (v1_table : Nat → Int32) (y3 : Int32) (y4 : Int32) (z0 : Int32) (H : Heap) (locs : List Loc) (ls : Array Slot), (f_X1_init_63 ((f_X1_init_36 ((f_X1_init_27 v7_rows v7_sizes v7_rests v6_hooks v6_lefts v6_heights) n_27) v7_rows v7_sizes v7_rests v6_hooks v6_lefts v6_heights) n_36) v7_rows v7_sizes v7_rests v6_hooks v6_lefts v6_heights) v1_table y3 y4 z0 = some ov1_table → va_P D xcl (wd_X101 (x_ad [0, 0, h_2, h_3, h_4, h_5, h_6, h_7, h_8, h_9, h_10, h_11, 0, h_13, h_14]) cyI cyJ v1_table v7_rows v7_lengths v7_sizes v7_rests v7_orders v6_hooks v6_lefts v6_heights) H → va_D A (wd_X101 (x_ad [0, 0, h_2, h_3, h_4, h_5, h_6, h_7, h_8, h_9, h_10, h_11, 0, h_13, h_14]) cyI cyJ v1_table v7_rows v7_lengths v7_sizes v7_rests v7_orders v6_hooks v6_lefts v6_heights) → va_S A s.heap H locs → lv_has ls 6 [(0, .ref (h_13)), (1, .ref (h_2)), (2, .ref (h_8)), (3, .int y3), (4, .int y4)] → W p l e { frames := 5, cells := 1, slots := 1474, locals := 112 } s m args below meth c H locs 1 1474 Q (F0 m 63 ls [.int z0]) := by
            intro v1_table y3 y4 z0 H locs ls hf hP hD hS hl
            unfold f_X1_init_63 at hf
            refine lv_istore (lv' := [(5, .int z0), (0, .ref (h_13)), (1, .ref (h_2)), (2, .ref (h_8)), (3, .int y3), (4, .int y4)]) hx hb dX1_init_63 hl (by decide) rfl (fun ls hl => ?_)
            refine lv_aload_n hx hb dX1_init_65 rfl (lv_at hl 1 rfl) ?_
            refine lv_iload_n hx hb dX1_init_66 rfl (lv_at hl 4 rfl) ?_
            refine lv_aload_n hx hb dX1_init_67 rfl (lv_at hl 3 rfl) ?_
            refine lv_iload_n hx hb dX1_init_68 rfl (lv_at hl 4 rfl) ?_
            refine lv_iload hx hb dX1_init_69 (lv_at hl 5 rfl) ?_
            obtain ⟨r_17, hk_18, hf⟩ := pe_1 hf
            refine xv_i (As := [.int y3, .int y4]) (rest := [.int y3, .ref (h_13)]) (q0 := 0) (ci := 6) Cx hP hD hS hl (pl_X101_X6 (x_ad [0, 0, h_2, h_3, h_4, h_5, h_6, h_7, h_8, h_9, h_10, h_11, 0, h_13, h_14]) cyI cyJ v1_table v7_rows v7_lengths v7_sizes v7_rests v7_orders v6_hooks v6_lefts v6_heights v6_hooks v6_lefts v6_heights v7_rows v7_lengths v7_sizes v7_rests v7_orders) (c_X6_hookBy l D cyI cyJ G (x_ad [0, 0, h_2, h_3, h_4, h_5, h_6, h_7, h_8, h_9, h_10, h_11, 0, h_13, h_14]) H.size v6_hooks v6_lefts v6_heights v7_rows v7_lengths v7_sizes v7_rests v7_orders y3 y4 r_17 hk_18) pk_X6_hookBy mw_1_161 ⟨rfl, rfl, Nat.le_of_ble_eq_true rfl, Nat.le_of_ble_eq_true rfl⟩ rfl rfl rfl rfl rfl (Nat.le_of_ble_eq_true rfl) ⟨Nat.le_of_ble_eq_true rfl, Nat.le_of_ble_eq_true rfl⟩ dX1_init_71 (fun H locs hP hD hS => ?_)
            refine lv_aload_n hx hb dX1_init_74 rfl (lv_at hl 3 rfl) ?_
            refine lv_iload_n hx hb dX1_init_75 rfl (lv_at hl 4 rfl) ?_
            refine lv_iload hx hb dX1_init_76 (lv_at hl 5 rfl) ?_
            obtain ⟨r_19, hk_20, hf⟩ := pe_1 hf
            refine xv_i (As := [.int y3, .int y4]) (rest := [.int r_17, .int y3, .ref (h_13)]) (q0 := 0) (ci := 6) Cx hP hD hS hl (pl_X101_X6 (x_ad [0, 0, h_2, h_3, h_4, h_5, h_6, h_7, h_8, h_9, h_10, h_11, 0, h_13, h_14]) cyI cyJ v1_table v7_rows v7_lengths v7_sizes v7_rests v7_orders v6_hooks v6_lefts v6_heights v6_hooks v6_lefts v6_heights v7_rows v7_lengths v7_sizes v7_rests v7_orders) (c_X6_leftBy l D cyI cyJ G (x_ad [0, 0, h_2, h_3, h_4, h_5, h_6, h_7, h_8, h_9, h_10, h_11, 0, h_13, h_14]) H.size v6_hooks v6_lefts v6_heights v7_rows v7_lengths v7_sizes v7_rests v7_orders y3 y4 r_19 hk_20) pk_X6_leftBy mw_1_165 ⟨rfl, rfl, Nat.le_of_ble_eq_true rfl, Nat.le_of_ble_eq_true rfl⟩ rfl rfl rfl rfl rfl (Nat.le_of_ble_eq_true rfl) ⟨Nat.le_of_ble_eq_true rfl, Nat.le_of_ble_eq_true rfl⟩ dX1_init_78 (fun H locs hP hD hS => ?_)
            refine lv_iload hx hb dX1_init_81 (lv_at hl 0 rfl) ?_
            obtain ⟨v1_table_21, hk_22, hf⟩ := pe_1 hf
            refine xv_v (As := [.int y3, .int r_17, .int r_19, .int z0]) (rest := []) (q0 := 0) (ci := 1) Cx hP hD hS hl (pl_X101_X1 (x_ad [0, 0, h_2, h_3, h_4, h_5, h_6, h_7, h_8, h_9, h_10, h_11, 0, h_13, h_14]) cyI cyJ v1_table v7_rows v7_lengths v7_sizes v7_rests v7_orders v6_hooks v6_lefts v6_heights v1_table_21 v7_rows v7_lengths v7_sizes v7_rests v7_orders) (c_X1_addRim l D cyI cyJ G (x_ad [0, 0, h_2, h_3, h_4, h_5, h_6, h_7, h_8, h_9, h_10, h_11, 0, h_13, h_14]) H.size v1_table v7_rows v7_lengths v7_sizes v7_rests v7_orders y3 r_17 r_19 z0 v1_table_21 hk_22) pk_X1_addRim mw_1_169 ⟨rfl, rfl, Nat.le_of_ble_eq_true rfl, Nat.le_of_ble_eq_true rfl⟩ rfl rfl rfl rfl rfl (Nat.le_of_ble_eq_true rfl) ⟨Nat.le_of_ble_eq_true rfl, Nat.le_of_ble_eq_true rfl⟩ dX1_init_83 (fun H locs hP hD hS => ?_)
            refine lv_iinc (v := (y4 + (1 : Int32))) (lv' := [(4, .int (y4 + (1 : Int32))), (5, .int z0), (0, .ref (h_13)), (1, .ref (h_2)), (2, .ref (h_8)), (3, .int y3)]) hx hb dX1_init_86 hl (k := 5) rfl rfl (by decide) rfl (fun ls hl => ?_)
            refine lv_goto (tgt := 36) hx hb dX1_init_89 (by decide) ?_
            exact w_36 v1_table_21 y3 (y4 + (1 : Int32)) H locs ls hf hP hD hS (lv_sub hl [2, 3, 4, 5, 0] rfl)
          refine lv_iload hx hb dX1_init_36 (lv_at hl 4 rfl) ?_
          refine lv_aload_n hx hb dX1_init_38 rfl (lv_at hl 1 rfl) ?_
          refine lv_iload_n hx hb dX1_init_39 rfl (lv_at hl 3 rfl) ?_
          obtain ⟨r_23, hk_24, hf⟩ := pe_1 hf
          refine xv_i (As := [.int y3]) (rest := [.int y4]) (q0 := 0) (ci := 7) Cx hP hD hS hl (pl_X101_X7 (x_ad [0, 0, h_2, h_3, h_4, h_5, h_6, h_7, h_8, h_9, h_10, h_11, 0, h_13, h_14]) cyI cyJ v1_table v7_rows v7_lengths v7_sizes v7_rests v7_orders v6_hooks v6_lefts v6_heights v7_rows v7_lengths v7_sizes v7_rests v7_orders) (c_X7_sizeOf l D cyI cyJ G (x_ad [0, 0, h_2, h_3, h_4, h_5, h_6, h_7, h_8, h_9, h_10, h_11, 0, h_13, h_14]) H.size v7_rows v7_lengths v7_sizes v7_rests v7_orders y3 r_23 hk_24) pk_X7_sizeOf mw_1_156 ⟨rfl, rfl, Nat.le_of_ble_eq_true rfl, Nat.le_of_ble_eq_true rfl⟩ rfl rfl rfl rfl rfl (Nat.le_of_ble_eq_true rfl) ⟨Nat.le_of_ble_eq_true rfl, Nat.le_of_ble_eq_true rfl⟩ dX1_init_40 (fun H locs hP hD hS => ?_)
          refine lv_icmp_ge (tgt := 92) hx hb dX1_init_43 (by decide) (fun hc_25 => ?_) (fun hc_25 => ?_)
          · have hf := pe_t hf hc_25
            refine lv_iinc (v := (y3 + (1 : Int32))) (lv' := [(3, .int (y3 + (1 : Int32))), (0, .ref (h_13)), (1, .ref (h_2)), (2, .ref (h_8)), (4, .int y4)]) hx hb dX1_init_92 hl (k := 3) rfl rfl (by decide) rfl (fun ls hl => ?_)
            refine lv_goto (tgt := 27) hx hb dX1_init_95 (by decide) ?_
            exact w_27 v1_table (y3 + (1 : Int32)) H locs ls hf hP hD hS (lv_sub hl [1, 2, 3, 0] rfl)
          · have hf := pe_f hf hc_25
            refine lv_aload_n hx hb dX1_init_46 rfl (lv_at hl 2 rfl) ?_
            refine lv_iload_n hx hb dX1_init_47 rfl (lv_at hl 3 rfl) ?_
            refine lv_iload hx hb dX1_init_48 (lv_at hl 4 rfl) ?_
            obtain ⟨r_26, hk_27, hf⟩ := pe_1 hf
            refine xv_i (As := [.int y3, .int y4]) (rest := []) (q0 := 0) (ci := 6) Cx hP hD hS hl (pl_X101_X6 (x_ad [0, 0, h_2, h_3, h_4, h_5, h_6, h_7, h_8, h_9, h_10, h_11, 0, h_13, h_14]) cyI cyJ v1_table v7_rows v7_lengths v7_sizes v7_rests v7_orders v6_hooks v6_lefts v6_heights v6_hooks v6_lefts v6_heights v7_rows v7_lengths v7_sizes v7_rests v7_orders) (c_X6_heightBy l D cyI cyJ G (x_ad [0, 0, h_2, h_3, h_4, h_5, h_6, h_7, h_8, h_9, h_10, h_11, 0, h_13, h_14]) H.size v6_hooks v6_lefts v6_heights v7_rows v7_lengths v7_sizes v7_rests v7_orders y3 y4 r_26 hk_27) pk_X6_heightBy mw_1_157 ⟨rfl, rfl, Nat.le_of_ble_eq_true rfl, Nat.le_of_ble_eq_true rfl⟩ rfl rfl rfl rfl rfl (Nat.le_of_ble_eq_true rfl) ⟨Nat.le_of_ble_eq_true rfl, Nat.le_of_ble_eq_true rfl⟩ dX1_init_50 (fun H locs hP hD hS => ?_)
            refine lv_iconst (v := (2 : Int32)) hx hb dX1_init_53 (by decide) ?_
            obtain ⟨hz_28, hf⟩ := pe_nz hf
            refine lv_irem hx hb dX1_init_54 hz_28 ?_
            refine lv_if_ne (tgt := 62) hx hb dX1_init_55 (by decide) (fun hc_29 => ?_) (fun hc_29 => ?_)
            · have hf := pe_f hf hc_29
              refine lv_iconst (v := (-1 : Int32)) hx hb dX1_init_62 (by decide) ?_
              exact w_63 v1_table y3 y4 (-1 : Int32) H locs ls hf hP hD hS (lv_sub hl [0, 1, 2, 3, 4] rfl)
            · have hf := pe_t hf hc_29
              refine lv_iconst (v := (1 : Int32)) hx hb dX1_init_58 (by decide) ?_
              refine lv_goto (tgt := 63) hx hb dX1_init_59 (by decide) ?_
              exact w_63 v1_table y3 y4 (1 : Int32) H locs ls hf hP hD hS (lv_sub hl [0, 1, 2, 3, 4] rfl)
      refine lv_iload_n hx hb dX1_init_27 rfl (lv_at hl 3 rfl) ?_
      refine lv_bipush (v := (67 : Int32)) hx hb dX1_init_28 (by decide) ?_
      refine lv_icmp_ge (tgt := 98) hx hb dX1_init_30 (by decide) (fun hc_30 => ?_) (fun hc_30 => ?_)
      · have hf := pe_t hf hc_30
        obtain rfl := po_1 hf
        rw [← hQ]; exact xe_nret h_14 Cx hP hD hS dX1_init_98
      · have hf := pe_f hf hc_30
        refine lv_iconst (v := (0 : Int32)) hx hb dX1_init_33 (by decide) ?_
        refine lv_istore (lv' := [(4, .int (0 : Int32)), (0, .ref (h_13)), (1, .ref (h_2)), (2, .ref (h_8)), (3, .int y3)]) hx hb dX1_init_34 hl (by decide) rfl (fun ls hl => ?_)
        exact w_36 1000 v1_table y3 (0 : Int32) H locs ls hf hP hD hS (lv_sub hl [1, 2, 3, 4, 0] rfl)
  refine va_get (ci := 1) (v := .ref (h_14)) hx hb hts wX1_in hown hK hP 0 rfl rfl 1 (by decide) (hts _ mw_1_194) (fun _ h9 => h9) rfl dX1_init_19 ?_
  refine lv_iconst (v := (0 : Int32)) hx hb dX1_init_22 (by decide) ?_
  refine lv_iconst (v := (1 : Int32)) hx hb dX1_init_23 (by decide) ?_
  obtain ⟨hi_16, hf⟩ := pe_in hf
  refine va_iast hx hb hK hP hD hS 1 0 rfl rfl hi_16 dX1_init_24 (fun H locs hP hD hS => ?_)
  have hP : va_P D xcl (wd_X101 (x_ad [0, 0, h_2, h_3, h_4, h_5, h_6, h_7, h_8, h_9, h_10, h_11, 0, h_13, h_14]) cyI cyJ (upd (fun _ => 0) (Int32.toNatClampNeg (0 : Int32)) (1 : Int32)) v7_rows v7_lengths v7_sizes v7_rests v7_orders v6_hooks v6_lefts v6_heights) H := hP
  have hD : va_D A (wd_X101 (x_ad [0, 0, h_2, h_3, h_4, h_5, h_6, h_7, h_8, h_9, h_10, h_11, 0, h_13, h_14]) cyI cyJ (upd (fun _ => 0) (Int32.toNatClampNeg (0 : Int32)) (1 : Int32)) v7_rows v7_lengths v7_sizes v7_rests v7_orders v6_hooks v6_lefts v6_heights) := hD
  refine lv_iconst (v := (1 : Int32)) hx hb dX1_init_25 (by decide) ?_
  refine lv_istore_n (lv' := [(3, .int (1 : Int32)), (0, .ref (h_13)), (1, .ref (h_2)), (2, .ref (h_8))]) hx hb dX1_init_26 rfl hl (by decide) rfl (fun ls hl => ?_)
  exact w_27 1000 (upd (fun _ => 0) (Int32.toNatClampNeg (0 : Int32)) (1 : Int32)) (1 : Int32) H locs ls hf hP hD hS (lv_sub hl [1, 2, 3, 0] rfl)
def f_X5_init : Option ((Nat → Int32)) := some ((fun _ => 0))
set_option maxHeartbeats 8000000 in
set_option maxRecDepth 20000 in
theorem c_X5_init (l : Launch) (D : va_G) (cyI cyJ : ClassId) (G : Nat → Nat) (h_15 : Nat) (h_2 : Nat) (h_3 : Nat) (h_4 : Nat) (h_5 : Nat) (h_6 : Nat) (h_7 : Nat) (h_13 : Nat) (h_14 : Nat) (sz : Nat) (v1_table : Nat → Int32) (v7_rows : Nat → Int32) (v7_lengths : Nat → Int32) (v7_sizes : Nat → Int32) (v7_rests : Nat → Int32) (v7_orders : Nat → Int32) (ov5_known : Nat → Int32) (hf : f_X5_init = some ov5_known) : xm_n l yX5_init (Cond.code yX5_init cX5_init 3 none :: xg_tbl) { frames := 1, cells := 1, slots := 3125, locals := 20 } D xcl [(cyI, .int), (cyJ, .long)] G sz [.ref (h_15), .ref (h_2), .ref (h_13)] [(h_15, .inr (5, [.null, .null, .null])), (h_2, .inr (7, [.ref (h_3), .ref (h_4), .ref (h_5), .ref (h_6), .ref (h_7)])), (h_3, .inl (cyI, 536, .inl v7_rows)), (h_4, .inl (cyI, 67, .inl v7_lengths)), (h_5, .inl (cyI, 67, .inl v7_sizes)), (h_6, .inl (cyI, 67, .inl v7_rests)), (h_7, .inl (cyI, 67, .inl v7_orders)), (h_13, .inr (1, [.ref (h_2), .ref (h_14)])), (h_14, .inl (cyI, 1474, .inl v1_table))] (fun u : Nat => (wd_X5 (x_ad [0, 0, h_2, h_3, h_4, h_5, h_6, h_7, 0, 0, 0, 0, 0, h_13, h_14, h_15, u]) cyI cyJ ov5_known v1_table v7_rows v7_lengths v7_sizes v7_rests v7_orders)) 1 3125 := by
  refine xm_of_n (own := RX5) (by decide) rfl rfl (Nat.le_of_ble_eq_true rfl) ?_
  intro p e s m args below meth c ls Q A hQ hAe hin Cx hsz hP hD hS hl
  have Cx1 := Cx
  obtain ⟨⟨hx, hb, hml, hown, hts⟩, hr, hlocks, hK, hA, hT⟩ := Cx1
  have hl : lv_has ls 3 [(0, .ref (h_15)), (1, .ref (h_2)), (2, .ref (h_13))] := hl
  obtain ⟨H, eH⟩ : ∃ H, H = s.heap := ⟨_, rfl⟩
  obtain ⟨locs, eL⟩ : ∃ L : List Loc, L = [] := ⟨_, rfl⟩
  rw [← eH] at hP
  have hS : va_S A s.heap H locs := by rw [eH, eL]; exact hS
  suffices hgo : W p l e { frames := 1, cells := 1, slots := 3125, locals := 20 } s m args below meth c H locs 0 0 Q (F0 m 0 ls []) by rw [eH, eL] at hgo; exact hgo
  clear eH eL
  unfold f_X5_init at hf
  refine lv_aload_n hx hb dX5_init_0 rfl (lv_at hl 0 rfl) ?_
  refine W.objInit hx hb hown (hts _ mw_1_205) (hts _ mw_1_28) (hts _ mw_1_29) rfl (by rw [hml]; exact hl.1) rfl dX5_init_1 (Nat.le_of_ble_eq_true rfl) (Nat.le_of_ble_eq_true rfl) ?_
  refine W.eq (g2 := F0 m 4 ls []) rfl ?_
  refine lv_aload_n hx hb dX5_init_4 rfl (lv_at hl 0 rfl) ?_
  refine lv_sipush (v := (3125 : Int32)) hx hb dX5_init_5 (by decide) ?_
  refine va_newa (atype := .int) (ty := .int) (a0 := (3125, .inl (fun _ => 0))) (N' := 3125) hx hb (hts _ mw_1_104) rfl hK hP hD hS hA (fun _ => rfl) (by decide) (by decide) (Nat.le_of_ble_eq_true rfl) (Nat.le_of_ble_eq_true rfl) (Nat.le_of_ble_eq_true rfl) dX5_init_8 (fun h_16 cA H hK1 hP hD hS => ?_)
  have eA := x_sameI hK hK1
  rw [eA] at hP hD
  have hP : va_P D xcl [(h_15, .inr (5, [.null, .null, .null])), (h_2, .inr (7, [.ref (h_3), .ref (h_4), .ref (h_5), .ref (h_6), .ref (h_7)])), (h_3, .inl (cyI, 536, .inl v7_rows)), (h_4, .inl (cyI, 67, .inl v7_lengths)), (h_5, .inl (cyI, 67, .inl v7_sizes)), (h_6, .inl (cyI, 67, .inl v7_rests)), (h_7, .inl (cyI, 67, .inl v7_orders)), (h_13, .inr (1, [.ref (h_2), .ref (h_14)])), (h_14, .inl (cyI, 1474, .inl v1_table)), (h_16, .inl (cyI, 3125, .inl (fun _ => 0)))] H := hP
  have hD : va_D A [(h_15, .inr (5, [.null, .null, .null])), (h_2, .inr (7, [.ref (h_3), .ref (h_4), .ref (h_5), .ref (h_6), .ref (h_7)])), (h_3, .inl (cyI, 536, .inl v7_rows)), (h_4, .inl (cyI, 67, .inl v7_lengths)), (h_5, .inl (cyI, 67, .inl v7_sizes)), (h_6, .inl (cyI, 67, .inl v7_rests)), (h_7, .inl (cyI, 67, .inl v7_orders)), (h_13, .inr (1, [.ref (h_2), .ref (h_14)])), (h_14, .inl (cyI, 1474, .inl v1_table)), (h_16, .inl (cyI, 3125, .inl (fun _ => 0)))] := hD
  refine va_putF (ci := 5) (v := .ref (h_16)) (ty := (.array .int)) hx hb hts wX5_in tyX5 tyX5_ok nmX5 hown hK hP hD hS 0 rfl rfl 2 (by decide) (hts _ mw_1_208) (fun _ h9 => h9) rfl (hin rfl) rfl (by decide +kernel) rfl rfl (Nat.le_of_ble_eq_true rfl) dX5_init_10 (fun H locs hP hD hS => ?_)
  have hP : va_P D xcl [(h_15, .inr (5, [.null, .null, .ref (h_16)])), (h_2, .inr (7, [.ref (h_3), .ref (h_4), .ref (h_5), .ref (h_6), .ref (h_7)])), (h_3, .inl (cyI, 536, .inl v7_rows)), (h_4, .inl (cyI, 67, .inl v7_lengths)), (h_5, .inl (cyI, 67, .inl v7_sizes)), (h_6, .inl (cyI, 67, .inl v7_rests)), (h_7, .inl (cyI, 67, .inl v7_orders)), (h_13, .inr (1, [.ref (h_2), .ref (h_14)])), (h_14, .inl (cyI, 1474, .inl v1_table)), (h_16, .inl (cyI, 3125, .inl (fun _ => 0)))] H := hP
  have hD : va_D A [(h_15, .inr (5, [.null, .null, .ref (h_16)])), (h_2, .inr (7, [.ref (h_3), .ref (h_4), .ref (h_5), .ref (h_6), .ref (h_7)])), (h_3, .inl (cyI, 536, .inl v7_rows)), (h_4, .inl (cyI, 67, .inl v7_lengths)), (h_5, .inl (cyI, 67, .inl v7_sizes)), (h_6, .inl (cyI, 67, .inl v7_rests)), (h_7, .inl (cyI, 67, .inl v7_orders)), (h_13, .inr (1, [.ref (h_2), .ref (h_14)])), (h_14, .inl (cyI, 1474, .inl v1_table)), (h_16, .inl (cyI, 3125, .inl (fun _ => 0)))] := hD
  refine lv_aload_n hx hb dX5_init_13 rfl (lv_at hl 0 rfl) ?_
  refine lv_aload_n hx hb dX5_init_14 rfl (lv_at hl 1 rfl) ?_
  refine va_putF (ci := 5) (v := .ref (h_2)) (ty := (.object "CharactersMultiplied$Shapes")) hx hb hts wX5_in tyX5 tyX5_ok nmX5 hown hK hP hD hS 0 rfl rfl 0 (by decide) (hts _ mw_1_206) (fun _ h9 => h9) rfl (hin rfl) rfl (by decide +kernel) rfl rfl (Nat.le_of_ble_eq_true rfl) dX5_init_15 (fun H locs hP hD hS => ?_)
  have hP : va_P D xcl [(h_15, .inr (5, [.ref (h_2), .null, .ref (h_16)])), (h_2, .inr (7, [.ref (h_3), .ref (h_4), .ref (h_5), .ref (h_6), .ref (h_7)])), (h_3, .inl (cyI, 536, .inl v7_rows)), (h_4, .inl (cyI, 67, .inl v7_lengths)), (h_5, .inl (cyI, 67, .inl v7_sizes)), (h_6, .inl (cyI, 67, .inl v7_rests)), (h_7, .inl (cyI, 67, .inl v7_orders)), (h_13, .inr (1, [.ref (h_2), .ref (h_14)])), (h_14, .inl (cyI, 1474, .inl v1_table)), (h_16, .inl (cyI, 3125, .inl (fun _ => 0)))] H := hP
  have hD : va_D A [(h_15, .inr (5, [.ref (h_2), .null, .ref (h_16)])), (h_2, .inr (7, [.ref (h_3), .ref (h_4), .ref (h_5), .ref (h_6), .ref (h_7)])), (h_3, .inl (cyI, 536, .inl v7_rows)), (h_4, .inl (cyI, 67, .inl v7_lengths)), (h_5, .inl (cyI, 67, .inl v7_sizes)), (h_6, .inl (cyI, 67, .inl v7_rests)), (h_7, .inl (cyI, 67, .inl v7_orders)), (h_13, .inr (1, [.ref (h_2), .ref (h_14)])), (h_14, .inl (cyI, 1474, .inl v1_table)), (h_16, .inl (cyI, 3125, .inl (fun _ => 0)))] := hD
  refine lv_aload_n hx hb dX5_init_18 rfl (lv_at hl 0 rfl) ?_
  refine lv_aload_n hx hb dX5_init_19 rfl (lv_at hl 2 rfl) ?_
  refine va_putF (ci := 5) (v := .ref (h_13)) (ty := (.object "CharactersMultiplied$Characters")) hx hb hts wX5_in tyX5 tyX5_ok nmX5 hown hK hP hD hS 0 rfl rfl 1 (by decide) (hts _ mw_1_207) (fun _ h9 => h9) rfl (hin rfl) rfl (by decide +kernel) rfl rfl (Nat.le_of_ble_eq_true rfl) dX5_init_20 (fun H locs hP hD hS => ?_)
  have hP : va_P D xcl [(h_15, .inr (5, [.ref (h_2), .ref (h_13), .ref (h_16)])), (h_2, .inr (7, [.ref (h_3), .ref (h_4), .ref (h_5), .ref (h_6), .ref (h_7)])), (h_3, .inl (cyI, 536, .inl v7_rows)), (h_4, .inl (cyI, 67, .inl v7_lengths)), (h_5, .inl (cyI, 67, .inl v7_sizes)), (h_6, .inl (cyI, 67, .inl v7_rests)), (h_7, .inl (cyI, 67, .inl v7_orders)), (h_13, .inr (1, [.ref (h_2), .ref (h_14)])), (h_14, .inl (cyI, 1474, .inl v1_table)), (h_16, .inl (cyI, 3125, .inl (fun _ => 0)))] H := hP
  have hD : va_D A [(h_15, .inr (5, [.ref (h_2), .ref (h_13), .ref (h_16)])), (h_2, .inr (7, [.ref (h_3), .ref (h_4), .ref (h_5), .ref (h_6), .ref (h_7)])), (h_3, .inl (cyI, 536, .inl v7_rows)), (h_4, .inl (cyI, 67, .inl v7_lengths)), (h_5, .inl (cyI, 67, .inl v7_sizes)), (h_6, .inl (cyI, 67, .inl v7_rests)), (h_7, .inl (cyI, 67, .inl v7_orders)), (h_13, .inr (1, [.ref (h_2), .ref (h_14)])), (h_14, .inl (cyI, 1474, .inl v1_table)), (h_16, .inl (cyI, 3125, .inl (fun _ => 0)))] := hD
  have hP : va_P D xcl (wd_X5 (x_ad [0, 0, h_2, h_3, h_4, h_5, h_6, h_7, 0, 0, 0, 0, 0, h_13, h_14, h_15, h_16]) cyI cyJ (fun _ => 0) v1_table v7_rows v7_lengths v7_sizes v7_rests v7_orders) H := xq_pick hP [0, 9, 7, 8, 1, 2, 3, 4, 5, 6] rfl
  have hD : va_D A (wd_X5 (x_ad [0, 0, h_2, h_3, h_4, h_5, h_6, h_7, 0, 0, 0, 0, 0, h_13, h_14, h_15, h_16]) cyI cyJ (fun _ => 0) v1_table v7_rows v7_lengths v7_sizes v7_rests v7_orders) := hD.sub [0, 9, 7, 8, 1, 2, 3, 4, 5, 6] rfl rfl
  refine W.widen (k := 1) (n := 3125) (Nat.le_of_ble_eq_true rfl) (Nat.le_of_ble_eq_true rfl) ?_
  obtain rfl := po_1 hf
  rw [← hQ]; exact xe_nret h_16 Cx hP hD hS dX5_init_23
def gf_X8_init_31 (K_31 : (Nat → Int32) → (Nat → Int32) → (Nat → Int32) → Int32 → Int32 → Int32 → Int32 → Option ((Nat → Int32) × (Nat → Int32) × (Nat → Int32) × Int32 × Int32 × Int32)) (v8_sizes : Nat → Int32) (v8_coefficients : Nat → Int32) (v8_undoneSums : Nat → Int32) (v8_undos : Int32) (v8_nextUndo : Int32) (v8_imageTaken : Int32) (y1 : Int32) : Option ((Nat → Int32) × (Nat → Int32) × (Nat → Int32) × Int32 × Int32 × Int32) := if (17 : Int32) ≤ y1 then (some (v8_sizes, v8_coefficients, v8_undoneSums, v8_undos, v8_nextUndo, v8_imageTaken)) else (p_in y1 17 (K_31 (upd v8_sizes (Int32.toNatClampNeg y1) (-1 : Int32)) v8_coefficients v8_undoneSums v8_undos v8_nextUndo v8_imageTaken (y1 + (1 : Int32))))
def f_X8_init_31 : Nat → (Nat → Int32) → (Nat → Int32) → (Nat → Int32) → Int32 → Int32 → Int32 → Int32 → Option ((Nat → Int32) × (Nat → Int32) × (Nat → Int32) × Int32 × Int32 × Int32)
  | 0 => fun _ _ _ _ _ _ _ => none
  | n + 1 => gf_X8_init_31 (f_X8_init_31 n)
def f_X8_init : Option ((Nat → Int32) × (Nat → Int32) × (Nat → Int32) × Int32 × Int32 × Int32) := (f_X8_init_31 1000) (fun _ => 0) (fun _ => 0) (fun _ => 0) (0 : Int32) (0 : Int32) (0 : Int32) (0 : Int32)
set_option maxHeartbeats 8000000 in
set_option maxRecDepth 20000 in
theorem c_X8_init (l : Launch) (D : va_G) (cyI cyJ : ClassId) (G : Nat → Nat) (h_17 : Nat) (sz : Nat) (ov8_sizes : Nat → Int32) (ov8_coefficients : Nat → Int32) (ov8_undoneSums : Nat → Int32) (ov8_undos : Int32) (ov8_nextUndo : Int32) (ov8_imageTaken : Int32) (hf : f_X8_init = some (ov8_sizes, ov8_coefficients, ov8_undoneSums, ov8_undos, ov8_nextUndo, ov8_imageTaken)) : xm_n l yX8_init (Cond.code yX8_init cX8_init 2 none :: xg_tbl) { frames := 1, cells := 3, slots := 399, locals := 20 } D xcl [(cyI, .int), (cyJ, .long)] G sz [.ref (h_17)] [(h_17, .inr (8, [.null, .null, .null, .int (0 : Int32), .int (0 : Int32), .int (0 : Int32)]))] (fun u : Nat × Nat × Nat => (wd_X8 (x_ad [0, 0, 0, 0, 0, 0, 0, 0, 0, 0, 0, 0, 0, 0, 0, 0, 0, h_17, u.1, u.2.1, u.2.2]) cyI cyJ ov8_sizes ov8_coefficients ov8_undoneSums ov8_undos ov8_nextUndo ov8_imageTaken)) 3 399 := by
  refine xm_of_n (own := RX8) (by decide) rfl rfl (Nat.le_of_ble_eq_true rfl) ?_
  intro p e s m args below meth c ls Q A hQ hAe hin Cx hsz hP hD hS hl
  have Cx1 := Cx
  obtain ⟨⟨hx, hb, hml, hown, hts⟩, hr, hlocks, hK, hA, hT⟩ := Cx1
  have hl : lv_has ls 2 [(0, .ref (h_17))] := hl
  obtain ⟨H, eH⟩ : ∃ H, H = s.heap := ⟨_, rfl⟩
  obtain ⟨locs, eL⟩ : ∃ L : List Loc, L = [] := ⟨_, rfl⟩
  rw [← eH] at hP
  have hS : va_S A s.heap H locs := by rw [eH, eL]; exact hS
  suffices hgo : W p l e { frames := 1, cells := 3, slots := 399, locals := 20 } s m args below meth c H locs 0 0 Q (F0 m 0 ls []) by rw [eH, eL] at hgo; exact hgo
  clear eH eL
  unfold f_X8_init at hf
  refine lv_aload_n hx hb dX8_init_0 rfl (lv_at hl 0 rfl) ?_
  refine W.objInit hx hb hown (hts _ mw_1_221) (hts _ mw_1_28) (hts _ mw_1_29) rfl (by rw [hml]; exact hl.1) rfl dX8_init_1 (Nat.le_of_ble_eq_true rfl) (Nat.le_of_ble_eq_true rfl) ?_
  refine W.eq (g2 := F0 m 4 ls []) rfl ?_
  refine lv_aload_n hx hb dX8_init_4 rfl (lv_at hl 0 rfl) ?_
  refine lv_bipush (v := (17 : Int32)) hx hb dX8_init_5 (by decide) ?_
  refine va_newa (atype := .int) (ty := .int) (a0 := (17, .inl (fun _ => 0))) (N' := 17) hx hb (hts _ mw_1_104) rfl hK hP hD hS hA (fun _ => rfl) (by decide) (by decide) (Nat.le_of_ble_eq_true rfl) (Nat.le_of_ble_eq_true rfl) (Nat.le_of_ble_eq_true rfl) dX8_init_7 (fun h_18 cA H hK1 hP hD hS => ?_)
  have eA := x_sameI hK hK1
  rw [eA] at hP hD
  have hP : va_P D xcl [(h_17, .inr (8, [.null, .null, .null, .int (0 : Int32), .int (0 : Int32), .int (0 : Int32)])), (h_18, .inl (cyI, 17, .inl (fun _ => 0)))] H := hP
  have hD : va_D A [(h_17, .inr (8, [.null, .null, .null, .int (0 : Int32), .int (0 : Int32), .int (0 : Int32)])), (h_18, .inl (cyI, 17, .inl (fun _ => 0)))] := hD
  refine va_putF (ci := 8) (v := .ref (h_18)) (ty := (.array .int)) hx hb hts wX8_in tyX8 tyX8_ok nmX8 hown hK hP hD hS 0 rfl rfl 0 (by decide) (hts _ mw_1_222) (fun _ h9 => h9) rfl (hin rfl) rfl (by decide +kernel) rfl rfl (Nat.le_of_ble_eq_true rfl) dX8_init_9 (fun H locs hP hD hS => ?_)
  have hP : va_P D xcl [(h_17, .inr (8, [.ref (h_18), .null, .null, .int (0 : Int32), .int (0 : Int32), .int (0 : Int32)])), (h_18, .inl (cyI, 17, .inl (fun _ => 0)))] H := hP
  have hD : va_D A [(h_17, .inr (8, [.ref (h_18), .null, .null, .int (0 : Int32), .int (0 : Int32), .int (0 : Int32)])), (h_18, .inl (cyI, 17, .inl (fun _ => 0)))] := hD
  refine lv_aload_n hx hb dX8_init_12 rfl (lv_at hl 0 rfl) ?_
  refine lv_sipush (v := (374 : Int32)) hx hb dX8_init_13 (by decide) ?_
  refine va_newa (atype := .int) (ty := .int) (a0 := (374, .inl (fun _ => 0))) (N' := 374) hx hb (hts _ mw_1_104) rfl hK hP hD hS hA (fun _ => rfl) (by decide) (by decide) (Nat.le_of_ble_eq_true rfl) (Nat.le_of_ble_eq_true rfl) (Nat.le_of_ble_eq_true rfl) dX8_init_16 (fun h_19 cA H hK1 hP hD hS => ?_)
  have eA := x_sameI hK hK1
  rw [eA] at hP hD
  have hP : va_P D xcl [(h_17, .inr (8, [.ref (h_18), .null, .null, .int (0 : Int32), .int (0 : Int32), .int (0 : Int32)])), (h_18, .inl (cyI, 17, .inl (fun _ => 0))), (h_19, .inl (cyI, 374, .inl (fun _ => 0)))] H := hP
  have hD : va_D A [(h_17, .inr (8, [.ref (h_18), .null, .null, .int (0 : Int32), .int (0 : Int32), .int (0 : Int32)])), (h_18, .inl (cyI, 17, .inl (fun _ => 0))), (h_19, .inl (cyI, 374, .inl (fun _ => 0)))] := hD
  refine va_putF (ci := 8) (v := .ref (h_19)) (ty := (.array .int)) hx hb hts wX8_in tyX8 tyX8_ok nmX8 hown hK hP hD hS 0 rfl rfl 1 (by decide) (hts _ mw_1_223) (fun _ h9 => h9) rfl (hin rfl) rfl (by decide +kernel) rfl rfl (Nat.le_of_ble_eq_true rfl) dX8_init_18 (fun H locs hP hD hS => ?_)
  have hP : va_P D xcl [(h_17, .inr (8, [.ref (h_18), .ref (h_19), .null, .int (0 : Int32), .int (0 : Int32), .int (0 : Int32)])), (h_18, .inl (cyI, 17, .inl (fun _ => 0))), (h_19, .inl (cyI, 374, .inl (fun _ => 0)))] H := hP
  have hD : va_D A [(h_17, .inr (8, [.ref (h_18), .ref (h_19), .null, .int (0 : Int32), .int (0 : Int32), .int (0 : Int32)])), (h_18, .inl (cyI, 17, .inl (fun _ => 0))), (h_19, .inl (cyI, 374, .inl (fun _ => 0)))] := hD
  refine lv_aload_n hx hb dX8_init_21 rfl (lv_at hl 0 rfl) ?_
  refine lv_bipush (v := (8 : Int32)) hx hb dX8_init_22 (by decide) ?_
  refine va_newa (atype := .int) (ty := .int) (a0 := (8, .inl (fun _ => 0))) (N' := 8) hx hb (hts _ mw_1_104) rfl hK hP hD hS hA (fun _ => rfl) (by decide) (by decide) (Nat.le_of_ble_eq_true rfl) (Nat.le_of_ble_eq_true rfl) (Nat.le_of_ble_eq_true rfl) dX8_init_24 (fun h_20 cA H hK1 hP hD hS => ?_)
  have eA := x_sameI hK hK1
  rw [eA] at hP hD
  have hP : va_P D xcl [(h_17, .inr (8, [.ref (h_18), .ref (h_19), .null, .int (0 : Int32), .int (0 : Int32), .int (0 : Int32)])), (h_18, .inl (cyI, 17, .inl (fun _ => 0))), (h_19, .inl (cyI, 374, .inl (fun _ => 0))), (h_20, .inl (cyI, 8, .inl (fun _ => 0)))] H := hP
  have hD : va_D A [(h_17, .inr (8, [.ref (h_18), .ref (h_19), .null, .int (0 : Int32), .int (0 : Int32), .int (0 : Int32)])), (h_18, .inl (cyI, 17, .inl (fun _ => 0))), (h_19, .inl (cyI, 374, .inl (fun _ => 0))), (h_20, .inl (cyI, 8, .inl (fun _ => 0)))] := hD
  refine va_putF (ci := 8) (v := .ref (h_20)) (ty := (.array .int)) hx hb hts wX8_in tyX8 tyX8_ok nmX8 hown hK hP hD hS 0 rfl rfl 2 (by decide) (hts _ mw_1_224) (fun _ h9 => h9) rfl (hin rfl) rfl (by decide +kernel) rfl rfl (Nat.le_of_ble_eq_true rfl) dX8_init_26 (fun H locs hP hD hS => ?_)
  have hP : va_P D xcl [(h_17, .inr (8, [.ref (h_18), .ref (h_19), .ref (h_20), .int (0 : Int32), .int (0 : Int32), .int (0 : Int32)])), (h_18, .inl (cyI, 17, .inl (fun _ => 0))), (h_19, .inl (cyI, 374, .inl (fun _ => 0))), (h_20, .inl (cyI, 8, .inl (fun _ => 0)))] H := hP
  have hD : va_D A [(h_17, .inr (8, [.ref (h_18), .ref (h_19), .ref (h_20), .int (0 : Int32), .int (0 : Int32), .int (0 : Int32)])), (h_18, .inl (cyI, 17, .inl (fun _ => 0))), (h_19, .inl (cyI, 374, .inl (fun _ => 0))), (h_20, .inl (cyI, 8, .inl (fun _ => 0)))] := hD
  refine lv_iconst (v := (0 : Int32)) hx hb dX8_init_29 (by decide) ?_
  refine lv_istore_n (lv' := [(1, .int (0 : Int32)), (0, .ref (h_17))]) hx hb dX8_init_30 rfl hl (by decide) rfl (fun ls hl => ?_)
  have hP : va_P D xcl (wd_X8 (x_ad [0, 0, 0, 0, 0, 0, 0, 0, 0, 0, 0, 0, 0, 0, 0, 0, 0, h_17, h_18, h_19, h_20]) cyI cyJ (fun _ => 0) (fun _ => 0) (fun _ => 0) (0 : Int32) (0 : Int32) (0 : Int32)) H := xq_pick hP [0, 1, 2, 3] rfl
  have hD : va_D A (wd_X8 (x_ad [0, 0, 0, 0, 0, 0, 0, 0, 0, 0, 0, 0, 0, 0, 0, 0, 0, h_17, h_18, h_19, h_20]) cyI cyJ (fun _ => 0) (fun _ => 0) (fun _ => 0) (0 : Int32) (0 : Int32) (0 : Int32)) := hD.sub [0, 1, 2, 3] rfl rfl
  refine W.widen (k := 3) (n := 399) (Nat.le_of_ble_eq_true rfl) (Nat.le_of_ble_eq_true rfl) ?_
  have w_31 : ∀ (n_31 : Nat) (v8_sizes : Nat → Int32) (v8_coefficients : Nat → Int32) (v8_undoneSums : Nat → Int32) (v8_undos : Int32) (v8_nextUndo : Int32) (v8_imageTaken : Int32) (y1 : Int32) (H : Heap) (locs : List Loc) (ls : Array Slot), f_X8_init_31 n_31 v8_sizes v8_coefficients v8_undoneSums v8_undos v8_nextUndo v8_imageTaken y1 = some (ov8_sizes, ov8_coefficients, ov8_undoneSums, ov8_undos, ov8_nextUndo, ov8_imageTaken) → va_P D xcl (wd_X8 (x_ad [0, 0, 0, 0, 0, 0, 0, 0, 0, 0, 0, 0, 0, 0, 0, 0, 0, h_17, h_18, h_19, h_20]) cyI cyJ v8_sizes v8_coefficients v8_undoneSums v8_undos v8_nextUndo v8_imageTaken) H → va_D A (wd_X8 (x_ad [0, 0, 0, 0, 0, 0, 0, 0, 0, 0, 0, 0, 0, 0, 0, 0, 0, h_17, h_18, h_19, h_20]) cyI cyJ v8_sizes v8_coefficients v8_undoneSums v8_undos v8_nextUndo v8_imageTaken) → va_S A s.heap H locs → lv_has ls 2 [(0, .ref (h_17)), (1, .int y1)] → W p l e { frames := 1, cells := 3, slots := 399, locals := 20 } s m args below meth c H locs 3 399 Q (F0 m 31 ls []) := by
    intro n_31
    induction n_31 with
    | zero => intro v8_sizes v8_coefficients v8_undoneSums v8_undos v8_nextUndo v8_imageTaken y1 H locs ls hf; exact absurd hf (by intro h9; cases h9)
    | succ n_31 w_31 =>
      intro v8_sizes v8_coefficients v8_undoneSums v8_undos v8_nextUndo v8_imageTaken y1 H locs ls hf hP hD hS hl
      have hf : gf_X8_init_31 (f_X8_init_31 n_31) v8_sizes v8_coefficients v8_undoneSums v8_undos v8_nextUndo v8_imageTaken y1 = some (ov8_sizes, ov8_coefficients, ov8_undoneSums, ov8_undos, ov8_nextUndo, ov8_imageTaken) := hf
      unfold gf_X8_init_31 at hf
      refine lv_iload_n hx hb dX8_init_31 rfl (lv_at hl 1 rfl) ?_
      refine lv_bipush (v := (17 : Int32)) hx hb dX8_init_32 (by decide) ?_
      refine lv_icmp_ge (tgt := 50) hx hb dX8_init_34 (by decide) (fun hc_3 => ?_) (fun hc_3 => ?_)
      · have hf := pe_t hf hc_3
        obtain ⟨rfl, rfl, rfl, rfl, rfl, rfl⟩ := po_6 hf
        rw [← hQ]; exact xe_nret (h_18, h_19, h_20) Cx hP hD hS dX8_init_50
      · have hf := pe_f hf hc_3
        refine lv_aload_n hx hb dX8_init_37 rfl (lv_at hl 0 rfl) ?_
        refine va_get (ci := 8) (v := .ref (h_18)) hx hb hts wX8_in hown hK hP 0 rfl rfl 0 (by decide) (hts _ mw_1_222) (fun _ h9 => h9) rfl dX8_init_38 ?_
        refine lv_iload_n hx hb dX8_init_41 rfl (lv_at hl 1 rfl) ?_
        refine lv_iconst (v := (-1 : Int32)) hx hb dX8_init_42 (by decide) ?_
        obtain ⟨hi_4, hf⟩ := pe_in hf
        refine va_iast hx hb hK hP hD hS 1 0 rfl rfl hi_4 dX8_init_43 (fun H locs hP hD hS => ?_)
        have hP : va_P D xcl (wd_X8 (x_ad [0, 0, 0, 0, 0, 0, 0, 0, 0, 0, 0, 0, 0, 0, 0, 0, 0, h_17, h_18, h_19, h_20]) cyI cyJ (upd v8_sizes (Int32.toNatClampNeg y1) (-1 : Int32)) v8_coefficients v8_undoneSums v8_undos v8_nextUndo v8_imageTaken) H := hP
        have hD : va_D A (wd_X8 (x_ad [0, 0, 0, 0, 0, 0, 0, 0, 0, 0, 0, 0, 0, 0, 0, 0, 0, h_17, h_18, h_19, h_20]) cyI cyJ (upd v8_sizes (Int32.toNatClampNeg y1) (-1 : Int32)) v8_coefficients v8_undoneSums v8_undos v8_nextUndo v8_imageTaken) := hD
        refine lv_iinc (v := (y1 + (1 : Int32))) (lv' := [(1, .int (y1 + (1 : Int32))), (0, .ref (h_17))]) hx hb dX8_init_44 hl (k := 1) rfl rfl (by decide) rfl (fun ls hl => ?_)
        refine lv_goto (tgt := 31) hx hb dX8_init_47 (by decide) ?_
        exact w_31 (upd v8_sizes (Int32.toNatClampNeg y1) (-1 : Int32)) v8_coefficients v8_undoneSums v8_undos v8_nextUndo v8_imageTaken (y1 + (1 : Int32)) H locs ls hf hP hD hS (lv_sub hl [1, 0] rfl)
  exact w_31 1000 (fun _ => 0) (fun _ => 0) (fun _ => 0) (0 : Int32) (0 : Int32) (0 : Int32) (0 : Int32) H locs ls hf hP hD hS (lv_sub hl [1, 0] rfl)
def f_X0_init : Option ((Nat → Int64)) := some ((fun _ => 0))
set_option maxHeartbeats 8000000 in
set_option maxRecDepth 20000 in
theorem c_X0_init (l : Launch) (D : va_G) (cyI cyJ : ClassId) (G : Nat → Nat) (h_21 : Nat) (h_2 : Nat) (h_3 : Nat) (h_4 : Nat) (h_5 : Nat) (h_6 : Nat) (h_7 : Nat) (h_8 : Nat) (h_9 : Nat) (h_10 : Nat) (h_11 : Nat) (h_13 : Nat) (h_14 : Nat) (h_15 : Nat) (h_16 : Nat) (h_17 : Nat) (h_18 : Nat) (h_19 : Nat) (h_20 : Nat) (sz : Nat) (v7_rows : Nat → Int32) (v7_lengths : Nat → Int32) (v7_sizes : Nat → Int32) (v7_rests : Nat → Int32) (v7_orders : Nat → Int32) (v6_hooks : Nat → Int32) (v6_lefts : Nat → Int32) (v6_heights : Nat → Int32) (v1_table : Nat → Int32) (v5_known : Nat → Int32) (v8_sizes : Nat → Int32) (v8_coefficients : Nat → Int32) (v8_undoneSums : Nat → Int32) (v8_undos : Int32) (v8_nextUndo : Int32) (v8_imageTaken : Int32) (ov0_totals : Nat → Int64) (hf : f_X0_init = some ov0_totals) : xm_n l yX0_init (Cond.code yX0_init cX0_init 6 none :: xg_tbl) { frames := 1, cells := 1, slots := 22, locals := 20 } D xcl [(cyI, .int), (cyJ, .long)] G sz [.ref (h_21), .ref (h_2), .ref (h_8), .ref (h_13), .ref (h_15), .ref (h_17)] [(h_21, .inr (0, [.null, .null, .null, .null, .null, .null])), (h_2, .inr (7, [.ref (h_3), .ref (h_4), .ref (h_5), .ref (h_6), .ref (h_7)])), (h_3, .inl (cyI, 536, .inl v7_rows)), (h_4, .inl (cyI, 67, .inl v7_lengths)), (h_5, .inl (cyI, 67, .inl v7_sizes)), (h_6, .inl (cyI, 67, .inl v7_rests)), (h_7, .inl (cyI, 67, .inl v7_orders)), (h_8, .inr (6, [.ref (h_2), .ref (h_9), .ref (h_10), .ref (h_11)])), (h_9, .inl (cyI, 536, .inl v6_hooks)), (h_10, .inl (cyI, 536, .inl v6_lefts)), (h_11, .inl (cyI, 536, .inl v6_heights)), (h_13, .inr (1, [.ref (h_2), .ref (h_14)])), (h_14, .inl (cyI, 1474, .inl v1_table)), (h_15, .inr (5, [.ref (h_2), .ref (h_13), .ref (h_16)])), (h_16, .inl (cyI, 3125, .inl v5_known)), (h_17, .inr (8, [.ref (h_18), .ref (h_19), .ref (h_20), .int v8_undos, .int v8_nextUndo, .int v8_imageTaken])), (h_18, .inl (cyI, 17, .inl v8_sizes)), (h_19, .inl (cyI, 374, .inl v8_coefficients)), (h_20, .inl (cyI, 8, .inl v8_undoneSums))] (fun u : Nat => (wd_X0 (x_ad [0, 0, h_2, h_3, h_4, h_5, h_6, h_7, h_8, h_9, h_10, h_11, 0, h_13, h_14, h_15, h_16, h_17, h_18, h_19, h_20, h_21, u]) cyI cyJ ov0_totals v7_rows v7_lengths v7_sizes v7_rests v7_orders v6_hooks v6_lefts v6_heights v1_table v5_known v8_sizes v8_coefficients v8_undoneSums v8_undos v8_nextUndo v8_imageTaken)) 1 22 := by
  refine xm_of_n (own := RX0) (by decide) rfl rfl (Nat.le_of_ble_eq_true rfl) ?_
  intro p e s m args below meth c ls Q A hQ hAe hin Cx hsz hP hD hS hl
  have Cx1 := Cx
  obtain ⟨⟨hx, hb, hml, hown, hts⟩, hr, hlocks, hK, hA, hT⟩ := Cx1
  have hl : lv_has ls 6 [(0, .ref (h_21)), (1, .ref (h_2)), (2, .ref (h_8)), (3, .ref (h_13)), (4, .ref (h_15)), (5, .ref (h_17))] := hl
  obtain ⟨H, eH⟩ : ∃ H, H = s.heap := ⟨_, rfl⟩
  obtain ⟨locs, eL⟩ : ∃ L : List Loc, L = [] := ⟨_, rfl⟩
  rw [← eH] at hP
  have hS : va_S A s.heap H locs := by rw [eH, eL]; exact hS
  suffices hgo : W p l e { frames := 1, cells := 1, slots := 22, locals := 20 } s m args below meth c H locs 0 0 Q (F0 m 0 ls []) by rw [eH, eL] at hgo; exact hgo
  clear eH eL
  unfold f_X0_init at hf
  refine lv_aload_n hx hb dX0_init_0 rfl (lv_at hl 0 rfl) ?_
  refine W.objInit hx hb hown (hts _ mw_2_15) (hts _ mw_1_28) (hts _ mw_1_29) rfl (by rw [hml]; exact hl.1) rfl dX0_init_1 (Nat.le_of_ble_eq_true rfl) (Nat.le_of_ble_eq_true rfl) ?_
  refine W.eq (g2 := F0 m 4 ls []) rfl ?_
  refine lv_aload_n hx hb dX0_init_4 rfl (lv_at hl 0 rfl) ?_
  refine lv_bipush (v := (22 : Int32)) hx hb dX0_init_5 (by decide) ?_
  refine va_newa (atype := .long) (ty := .long) (a0 := (22, .inr (.inl (fun _ => 0)))) (N' := 22) hx hb (hts _ mw_2_35) rfl hK hP hD hS hA (fun _ => rfl) (by decide) (by decide) (Nat.le_of_ble_eq_true rfl) (Nat.le_of_ble_eq_true rfl) (Nat.le_of_ble_eq_true rfl) dX0_init_7 (fun h_22 cA H hK1 hP hD hS => ?_)
  have eA := x_sameJ hK hK1
  rw [eA] at hP hD
  have hP : va_P D xcl [(h_21, .inr (0, [.null, .null, .null, .null, .null, .null])), (h_2, .inr (7, [.ref (h_3), .ref (h_4), .ref (h_5), .ref (h_6), .ref (h_7)])), (h_3, .inl (cyI, 536, .inl v7_rows)), (h_4, .inl (cyI, 67, .inl v7_lengths)), (h_5, .inl (cyI, 67, .inl v7_sizes)), (h_6, .inl (cyI, 67, .inl v7_rests)), (h_7, .inl (cyI, 67, .inl v7_orders)), (h_8, .inr (6, [.ref (h_2), .ref (h_9), .ref (h_10), .ref (h_11)])), (h_9, .inl (cyI, 536, .inl v6_hooks)), (h_10, .inl (cyI, 536, .inl v6_lefts)), (h_11, .inl (cyI, 536, .inl v6_heights)), (h_13, .inr (1, [.ref (h_2), .ref (h_14)])), (h_14, .inl (cyI, 1474, .inl v1_table)), (h_15, .inr (5, [.ref (h_2), .ref (h_13), .ref (h_16)])), (h_16, .inl (cyI, 3125, .inl v5_known)), (h_17, .inr (8, [.ref (h_18), .ref (h_19), .ref (h_20), .int v8_undos, .int v8_nextUndo, .int v8_imageTaken])), (h_18, .inl (cyI, 17, .inl v8_sizes)), (h_19, .inl (cyI, 374, .inl v8_coefficients)), (h_20, .inl (cyI, 8, .inl v8_undoneSums)), (h_22, .inl (cyJ, 22, .inr (.inl (fun _ => 0))))] H := hP
  have hD : va_D A [(h_21, .inr (0, [.null, .null, .null, .null, .null, .null])), (h_2, .inr (7, [.ref (h_3), .ref (h_4), .ref (h_5), .ref (h_6), .ref (h_7)])), (h_3, .inl (cyI, 536, .inl v7_rows)), (h_4, .inl (cyI, 67, .inl v7_lengths)), (h_5, .inl (cyI, 67, .inl v7_sizes)), (h_6, .inl (cyI, 67, .inl v7_rests)), (h_7, .inl (cyI, 67, .inl v7_orders)), (h_8, .inr (6, [.ref (h_2), .ref (h_9), .ref (h_10), .ref (h_11)])), (h_9, .inl (cyI, 536, .inl v6_hooks)), (h_10, .inl (cyI, 536, .inl v6_lefts)), (h_11, .inl (cyI, 536, .inl v6_heights)), (h_13, .inr (1, [.ref (h_2), .ref (h_14)])), (h_14, .inl (cyI, 1474, .inl v1_table)), (h_15, .inr (5, [.ref (h_2), .ref (h_13), .ref (h_16)])), (h_16, .inl (cyI, 3125, .inl v5_known)), (h_17, .inr (8, [.ref (h_18), .ref (h_19), .ref (h_20), .int v8_undos, .int v8_nextUndo, .int v8_imageTaken])), (h_18, .inl (cyI, 17, .inl v8_sizes)), (h_19, .inl (cyI, 374, .inl v8_coefficients)), (h_20, .inl (cyI, 8, .inl v8_undoneSums)), (h_22, .inl (cyJ, 22, .inr (.inl (fun _ => 0))))] := hD
  refine va_putF (ci := 0) (v := .ref (h_22)) (ty := (.array .long)) hx hb hts wX0_in tyX0 tyX0_ok nmX0 hown hK hP hD hS 0 rfl rfl 5 (by decide) (hts _ mw_2_21) (fun _ h9 => h9) rfl (hin rfl) rfl (by decide +kernel) rfl rfl (Nat.le_of_ble_eq_true rfl) dX0_init_9 (fun H locs hP hD hS => ?_)
  have hP : va_P D xcl [(h_21, .inr (0, [.null, .null, .null, .null, .null, .ref (h_22)])), (h_2, .inr (7, [.ref (h_3), .ref (h_4), .ref (h_5), .ref (h_6), .ref (h_7)])), (h_3, .inl (cyI, 536, .inl v7_rows)), (h_4, .inl (cyI, 67, .inl v7_lengths)), (h_5, .inl (cyI, 67, .inl v7_sizes)), (h_6, .inl (cyI, 67, .inl v7_rests)), (h_7, .inl (cyI, 67, .inl v7_orders)), (h_8, .inr (6, [.ref (h_2), .ref (h_9), .ref (h_10), .ref (h_11)])), (h_9, .inl (cyI, 536, .inl v6_hooks)), (h_10, .inl (cyI, 536, .inl v6_lefts)), (h_11, .inl (cyI, 536, .inl v6_heights)), (h_13, .inr (1, [.ref (h_2), .ref (h_14)])), (h_14, .inl (cyI, 1474, .inl v1_table)), (h_15, .inr (5, [.ref (h_2), .ref (h_13), .ref (h_16)])), (h_16, .inl (cyI, 3125, .inl v5_known)), (h_17, .inr (8, [.ref (h_18), .ref (h_19), .ref (h_20), .int v8_undos, .int v8_nextUndo, .int v8_imageTaken])), (h_18, .inl (cyI, 17, .inl v8_sizes)), (h_19, .inl (cyI, 374, .inl v8_coefficients)), (h_20, .inl (cyI, 8, .inl v8_undoneSums)), (h_22, .inl (cyJ, 22, .inr (.inl (fun _ => 0))))] H := hP
  have hD : va_D A [(h_21, .inr (0, [.null, .null, .null, .null, .null, .ref (h_22)])), (h_2, .inr (7, [.ref (h_3), .ref (h_4), .ref (h_5), .ref (h_6), .ref (h_7)])), (h_3, .inl (cyI, 536, .inl v7_rows)), (h_4, .inl (cyI, 67, .inl v7_lengths)), (h_5, .inl (cyI, 67, .inl v7_sizes)), (h_6, .inl (cyI, 67, .inl v7_rests)), (h_7, .inl (cyI, 67, .inl v7_orders)), (h_8, .inr (6, [.ref (h_2), .ref (h_9), .ref (h_10), .ref (h_11)])), (h_9, .inl (cyI, 536, .inl v6_hooks)), (h_10, .inl (cyI, 536, .inl v6_lefts)), (h_11, .inl (cyI, 536, .inl v6_heights)), (h_13, .inr (1, [.ref (h_2), .ref (h_14)])), (h_14, .inl (cyI, 1474, .inl v1_table)), (h_15, .inr (5, [.ref (h_2), .ref (h_13), .ref (h_16)])), (h_16, .inl (cyI, 3125, .inl v5_known)), (h_17, .inr (8, [.ref (h_18), .ref (h_19), .ref (h_20), .int v8_undos, .int v8_nextUndo, .int v8_imageTaken])), (h_18, .inl (cyI, 17, .inl v8_sizes)), (h_19, .inl (cyI, 374, .inl v8_coefficients)), (h_20, .inl (cyI, 8, .inl v8_undoneSums)), (h_22, .inl (cyJ, 22, .inr (.inl (fun _ => 0))))] := hD
  refine lv_aload_n hx hb dX0_init_12 rfl (lv_at hl 0 rfl) ?_
  refine lv_aload_n hx hb dX0_init_13 rfl (lv_at hl 1 rfl) ?_
  refine va_putF (ci := 0) (v := .ref (h_2)) (ty := (.object "CharactersMultiplied$Shapes")) hx hb hts wX0_in tyX0 tyX0_ok nmX0 hown hK hP hD hS 0 rfl rfl 0 (by decide) (hts _ mw_2_16) (fun _ h9 => h9) rfl (hin rfl) rfl (by decide +kernel) rfl rfl (Nat.le_of_ble_eq_true rfl) dX0_init_14 (fun H locs hP hD hS => ?_)
  have hP : va_P D xcl [(h_21, .inr (0, [.ref (h_2), .null, .null, .null, .null, .ref (h_22)])), (h_2, .inr (7, [.ref (h_3), .ref (h_4), .ref (h_5), .ref (h_6), .ref (h_7)])), (h_3, .inl (cyI, 536, .inl v7_rows)), (h_4, .inl (cyI, 67, .inl v7_lengths)), (h_5, .inl (cyI, 67, .inl v7_sizes)), (h_6, .inl (cyI, 67, .inl v7_rests)), (h_7, .inl (cyI, 67, .inl v7_orders)), (h_8, .inr (6, [.ref (h_2), .ref (h_9), .ref (h_10), .ref (h_11)])), (h_9, .inl (cyI, 536, .inl v6_hooks)), (h_10, .inl (cyI, 536, .inl v6_lefts)), (h_11, .inl (cyI, 536, .inl v6_heights)), (h_13, .inr (1, [.ref (h_2), .ref (h_14)])), (h_14, .inl (cyI, 1474, .inl v1_table)), (h_15, .inr (5, [.ref (h_2), .ref (h_13), .ref (h_16)])), (h_16, .inl (cyI, 3125, .inl v5_known)), (h_17, .inr (8, [.ref (h_18), .ref (h_19), .ref (h_20), .int v8_undos, .int v8_nextUndo, .int v8_imageTaken])), (h_18, .inl (cyI, 17, .inl v8_sizes)), (h_19, .inl (cyI, 374, .inl v8_coefficients)), (h_20, .inl (cyI, 8, .inl v8_undoneSums)), (h_22, .inl (cyJ, 22, .inr (.inl (fun _ => 0))))] H := hP
  have hD : va_D A [(h_21, .inr (0, [.ref (h_2), .null, .null, .null, .null, .ref (h_22)])), (h_2, .inr (7, [.ref (h_3), .ref (h_4), .ref (h_5), .ref (h_6), .ref (h_7)])), (h_3, .inl (cyI, 536, .inl v7_rows)), (h_4, .inl (cyI, 67, .inl v7_lengths)), (h_5, .inl (cyI, 67, .inl v7_sizes)), (h_6, .inl (cyI, 67, .inl v7_rests)), (h_7, .inl (cyI, 67, .inl v7_orders)), (h_8, .inr (6, [.ref (h_2), .ref (h_9), .ref (h_10), .ref (h_11)])), (h_9, .inl (cyI, 536, .inl v6_hooks)), (h_10, .inl (cyI, 536, .inl v6_lefts)), (h_11, .inl (cyI, 536, .inl v6_heights)), (h_13, .inr (1, [.ref (h_2), .ref (h_14)])), (h_14, .inl (cyI, 1474, .inl v1_table)), (h_15, .inr (5, [.ref (h_2), .ref (h_13), .ref (h_16)])), (h_16, .inl (cyI, 3125, .inl v5_known)), (h_17, .inr (8, [.ref (h_18), .ref (h_19), .ref (h_20), .int v8_undos, .int v8_nextUndo, .int v8_imageTaken])), (h_18, .inl (cyI, 17, .inl v8_sizes)), (h_19, .inl (cyI, 374, .inl v8_coefficients)), (h_20, .inl (cyI, 8, .inl v8_undoneSums)), (h_22, .inl (cyJ, 22, .inr (.inl (fun _ => 0))))] := hD
  refine lv_aload_n hx hb dX0_init_17 rfl (lv_at hl 0 rfl) ?_
  refine lv_aload_n hx hb dX0_init_18 rfl (lv_at hl 2 rfl) ?_
  refine va_putF (ci := 0) (v := .ref (h_8)) (ty := (.object "CharactersMultiplied$Rims")) hx hb hts wX0_in tyX0 tyX0_ok nmX0 hown hK hP hD hS 0 rfl rfl 1 (by decide) (hts _ mw_2_17) (fun _ h9 => h9) rfl (hin rfl) rfl (by decide +kernel) rfl rfl (Nat.le_of_ble_eq_true rfl) dX0_init_19 (fun H locs hP hD hS => ?_)
  have hP : va_P D xcl [(h_21, .inr (0, [.ref (h_2), .ref (h_8), .null, .null, .null, .ref (h_22)])), (h_2, .inr (7, [.ref (h_3), .ref (h_4), .ref (h_5), .ref (h_6), .ref (h_7)])), (h_3, .inl (cyI, 536, .inl v7_rows)), (h_4, .inl (cyI, 67, .inl v7_lengths)), (h_5, .inl (cyI, 67, .inl v7_sizes)), (h_6, .inl (cyI, 67, .inl v7_rests)), (h_7, .inl (cyI, 67, .inl v7_orders)), (h_8, .inr (6, [.ref (h_2), .ref (h_9), .ref (h_10), .ref (h_11)])), (h_9, .inl (cyI, 536, .inl v6_hooks)), (h_10, .inl (cyI, 536, .inl v6_lefts)), (h_11, .inl (cyI, 536, .inl v6_heights)), (h_13, .inr (1, [.ref (h_2), .ref (h_14)])), (h_14, .inl (cyI, 1474, .inl v1_table)), (h_15, .inr (5, [.ref (h_2), .ref (h_13), .ref (h_16)])), (h_16, .inl (cyI, 3125, .inl v5_known)), (h_17, .inr (8, [.ref (h_18), .ref (h_19), .ref (h_20), .int v8_undos, .int v8_nextUndo, .int v8_imageTaken])), (h_18, .inl (cyI, 17, .inl v8_sizes)), (h_19, .inl (cyI, 374, .inl v8_coefficients)), (h_20, .inl (cyI, 8, .inl v8_undoneSums)), (h_22, .inl (cyJ, 22, .inr (.inl (fun _ => 0))))] H := hP
  have hD : va_D A [(h_21, .inr (0, [.ref (h_2), .ref (h_8), .null, .null, .null, .ref (h_22)])), (h_2, .inr (7, [.ref (h_3), .ref (h_4), .ref (h_5), .ref (h_6), .ref (h_7)])), (h_3, .inl (cyI, 536, .inl v7_rows)), (h_4, .inl (cyI, 67, .inl v7_lengths)), (h_5, .inl (cyI, 67, .inl v7_sizes)), (h_6, .inl (cyI, 67, .inl v7_rests)), (h_7, .inl (cyI, 67, .inl v7_orders)), (h_8, .inr (6, [.ref (h_2), .ref (h_9), .ref (h_10), .ref (h_11)])), (h_9, .inl (cyI, 536, .inl v6_hooks)), (h_10, .inl (cyI, 536, .inl v6_lefts)), (h_11, .inl (cyI, 536, .inl v6_heights)), (h_13, .inr (1, [.ref (h_2), .ref (h_14)])), (h_14, .inl (cyI, 1474, .inl v1_table)), (h_15, .inr (5, [.ref (h_2), .ref (h_13), .ref (h_16)])), (h_16, .inl (cyI, 3125, .inl v5_known)), (h_17, .inr (8, [.ref (h_18), .ref (h_19), .ref (h_20), .int v8_undos, .int v8_nextUndo, .int v8_imageTaken])), (h_18, .inl (cyI, 17, .inl v8_sizes)), (h_19, .inl (cyI, 374, .inl v8_coefficients)), (h_20, .inl (cyI, 8, .inl v8_undoneSums)), (h_22, .inl (cyJ, 22, .inr (.inl (fun _ => 0))))] := hD
  refine lv_aload_n hx hb dX0_init_22 rfl (lv_at hl 0 rfl) ?_
  refine lv_aload_n hx hb dX0_init_23 rfl (lv_at hl 3 rfl) ?_
  refine va_putF (ci := 0) (v := .ref (h_13)) (ty := (.object "CharactersMultiplied$Characters")) hx hb hts wX0_in tyX0 tyX0_ok nmX0 hown hK hP hD hS 0 rfl rfl 2 (by decide) (hts _ mw_2_18) (fun _ h9 => h9) rfl (hin rfl) rfl (by decide +kernel) rfl rfl (Nat.le_of_ble_eq_true rfl) dX0_init_24 (fun H locs hP hD hS => ?_)
  have hP : va_P D xcl [(h_21, .inr (0, [.ref (h_2), .ref (h_8), .ref (h_13), .null, .null, .ref (h_22)])), (h_2, .inr (7, [.ref (h_3), .ref (h_4), .ref (h_5), .ref (h_6), .ref (h_7)])), (h_3, .inl (cyI, 536, .inl v7_rows)), (h_4, .inl (cyI, 67, .inl v7_lengths)), (h_5, .inl (cyI, 67, .inl v7_sizes)), (h_6, .inl (cyI, 67, .inl v7_rests)), (h_7, .inl (cyI, 67, .inl v7_orders)), (h_8, .inr (6, [.ref (h_2), .ref (h_9), .ref (h_10), .ref (h_11)])), (h_9, .inl (cyI, 536, .inl v6_hooks)), (h_10, .inl (cyI, 536, .inl v6_lefts)), (h_11, .inl (cyI, 536, .inl v6_heights)), (h_13, .inr (1, [.ref (h_2), .ref (h_14)])), (h_14, .inl (cyI, 1474, .inl v1_table)), (h_15, .inr (5, [.ref (h_2), .ref (h_13), .ref (h_16)])), (h_16, .inl (cyI, 3125, .inl v5_known)), (h_17, .inr (8, [.ref (h_18), .ref (h_19), .ref (h_20), .int v8_undos, .int v8_nextUndo, .int v8_imageTaken])), (h_18, .inl (cyI, 17, .inl v8_sizes)), (h_19, .inl (cyI, 374, .inl v8_coefficients)), (h_20, .inl (cyI, 8, .inl v8_undoneSums)), (h_22, .inl (cyJ, 22, .inr (.inl (fun _ => 0))))] H := hP
  have hD : va_D A [(h_21, .inr (0, [.ref (h_2), .ref (h_8), .ref (h_13), .null, .null, .ref (h_22)])), (h_2, .inr (7, [.ref (h_3), .ref (h_4), .ref (h_5), .ref (h_6), .ref (h_7)])), (h_3, .inl (cyI, 536, .inl v7_rows)), (h_4, .inl (cyI, 67, .inl v7_lengths)), (h_5, .inl (cyI, 67, .inl v7_sizes)), (h_6, .inl (cyI, 67, .inl v7_rests)), (h_7, .inl (cyI, 67, .inl v7_orders)), (h_8, .inr (6, [.ref (h_2), .ref (h_9), .ref (h_10), .ref (h_11)])), (h_9, .inl (cyI, 536, .inl v6_hooks)), (h_10, .inl (cyI, 536, .inl v6_lefts)), (h_11, .inl (cyI, 536, .inl v6_heights)), (h_13, .inr (1, [.ref (h_2), .ref (h_14)])), (h_14, .inl (cyI, 1474, .inl v1_table)), (h_15, .inr (5, [.ref (h_2), .ref (h_13), .ref (h_16)])), (h_16, .inl (cyI, 3125, .inl v5_known)), (h_17, .inr (8, [.ref (h_18), .ref (h_19), .ref (h_20), .int v8_undos, .int v8_nextUndo, .int v8_imageTaken])), (h_18, .inl (cyI, 17, .inl v8_sizes)), (h_19, .inl (cyI, 374, .inl v8_coefficients)), (h_20, .inl (cyI, 8, .inl v8_undoneSums)), (h_22, .inl (cyJ, 22, .inr (.inl (fun _ => 0))))] := hD
  refine lv_aload_n hx hb dX0_init_27 rfl (lv_at hl 0 rfl) ?_
  refine lv_aload hx hb dX0_init_28 (lv_at hl 4 rfl) ?_
  refine va_putF (ci := 0) (v := .ref (h_15)) (ty := (.object "CharactersMultiplied$Numbers")) hx hb hts wX0_in tyX0 tyX0_ok nmX0 hown hK hP hD hS 0 rfl rfl 3 (by decide) (hts _ mw_2_19) (fun _ h9 => h9) rfl (hin rfl) rfl (by decide +kernel) rfl rfl (Nat.le_of_ble_eq_true rfl) dX0_init_30 (fun H locs hP hD hS => ?_)
  have hP : va_P D xcl [(h_21, .inr (0, [.ref (h_2), .ref (h_8), .ref (h_13), .ref (h_15), .null, .ref (h_22)])), (h_2, .inr (7, [.ref (h_3), .ref (h_4), .ref (h_5), .ref (h_6), .ref (h_7)])), (h_3, .inl (cyI, 536, .inl v7_rows)), (h_4, .inl (cyI, 67, .inl v7_lengths)), (h_5, .inl (cyI, 67, .inl v7_sizes)), (h_6, .inl (cyI, 67, .inl v7_rests)), (h_7, .inl (cyI, 67, .inl v7_orders)), (h_8, .inr (6, [.ref (h_2), .ref (h_9), .ref (h_10), .ref (h_11)])), (h_9, .inl (cyI, 536, .inl v6_hooks)), (h_10, .inl (cyI, 536, .inl v6_lefts)), (h_11, .inl (cyI, 536, .inl v6_heights)), (h_13, .inr (1, [.ref (h_2), .ref (h_14)])), (h_14, .inl (cyI, 1474, .inl v1_table)), (h_15, .inr (5, [.ref (h_2), .ref (h_13), .ref (h_16)])), (h_16, .inl (cyI, 3125, .inl v5_known)), (h_17, .inr (8, [.ref (h_18), .ref (h_19), .ref (h_20), .int v8_undos, .int v8_nextUndo, .int v8_imageTaken])), (h_18, .inl (cyI, 17, .inl v8_sizes)), (h_19, .inl (cyI, 374, .inl v8_coefficients)), (h_20, .inl (cyI, 8, .inl v8_undoneSums)), (h_22, .inl (cyJ, 22, .inr (.inl (fun _ => 0))))] H := hP
  have hD : va_D A [(h_21, .inr (0, [.ref (h_2), .ref (h_8), .ref (h_13), .ref (h_15), .null, .ref (h_22)])), (h_2, .inr (7, [.ref (h_3), .ref (h_4), .ref (h_5), .ref (h_6), .ref (h_7)])), (h_3, .inl (cyI, 536, .inl v7_rows)), (h_4, .inl (cyI, 67, .inl v7_lengths)), (h_5, .inl (cyI, 67, .inl v7_sizes)), (h_6, .inl (cyI, 67, .inl v7_rests)), (h_7, .inl (cyI, 67, .inl v7_orders)), (h_8, .inr (6, [.ref (h_2), .ref (h_9), .ref (h_10), .ref (h_11)])), (h_9, .inl (cyI, 536, .inl v6_hooks)), (h_10, .inl (cyI, 536, .inl v6_lefts)), (h_11, .inl (cyI, 536, .inl v6_heights)), (h_13, .inr (1, [.ref (h_2), .ref (h_14)])), (h_14, .inl (cyI, 1474, .inl v1_table)), (h_15, .inr (5, [.ref (h_2), .ref (h_13), .ref (h_16)])), (h_16, .inl (cyI, 3125, .inl v5_known)), (h_17, .inr (8, [.ref (h_18), .ref (h_19), .ref (h_20), .int v8_undos, .int v8_nextUndo, .int v8_imageTaken])), (h_18, .inl (cyI, 17, .inl v8_sizes)), (h_19, .inl (cyI, 374, .inl v8_coefficients)), (h_20, .inl (cyI, 8, .inl v8_undoneSums)), (h_22, .inl (cyJ, 22, .inr (.inl (fun _ => 0))))] := hD
  refine lv_aload_n hx hb dX0_init_33 rfl (lv_at hl 0 rfl) ?_
  refine lv_aload hx hb dX0_init_34 (lv_at hl 5 rfl) ?_
  refine va_putF (ci := 0) (v := .ref (h_17)) (ty := (.object "CharactersMultiplied$Sums")) hx hb hts wX0_in tyX0 tyX0_ok nmX0 hown hK hP hD hS 0 rfl rfl 4 (by decide) (hts _ mw_2_20) (fun _ h9 => h9) rfl (hin rfl) rfl (by decide +kernel) rfl rfl (Nat.le_of_ble_eq_true rfl) dX0_init_36 (fun H locs hP hD hS => ?_)
  have hP : va_P D xcl [(h_21, .inr (0, [.ref (h_2), .ref (h_8), .ref (h_13), .ref (h_15), .ref (h_17), .ref (h_22)])), (h_2, .inr (7, [.ref (h_3), .ref (h_4), .ref (h_5), .ref (h_6), .ref (h_7)])), (h_3, .inl (cyI, 536, .inl v7_rows)), (h_4, .inl (cyI, 67, .inl v7_lengths)), (h_5, .inl (cyI, 67, .inl v7_sizes)), (h_6, .inl (cyI, 67, .inl v7_rests)), (h_7, .inl (cyI, 67, .inl v7_orders)), (h_8, .inr (6, [.ref (h_2), .ref (h_9), .ref (h_10), .ref (h_11)])), (h_9, .inl (cyI, 536, .inl v6_hooks)), (h_10, .inl (cyI, 536, .inl v6_lefts)), (h_11, .inl (cyI, 536, .inl v6_heights)), (h_13, .inr (1, [.ref (h_2), .ref (h_14)])), (h_14, .inl (cyI, 1474, .inl v1_table)), (h_15, .inr (5, [.ref (h_2), .ref (h_13), .ref (h_16)])), (h_16, .inl (cyI, 3125, .inl v5_known)), (h_17, .inr (8, [.ref (h_18), .ref (h_19), .ref (h_20), .int v8_undos, .int v8_nextUndo, .int v8_imageTaken])), (h_18, .inl (cyI, 17, .inl v8_sizes)), (h_19, .inl (cyI, 374, .inl v8_coefficients)), (h_20, .inl (cyI, 8, .inl v8_undoneSums)), (h_22, .inl (cyJ, 22, .inr (.inl (fun _ => 0))))] H := hP
  have hD : va_D A [(h_21, .inr (0, [.ref (h_2), .ref (h_8), .ref (h_13), .ref (h_15), .ref (h_17), .ref (h_22)])), (h_2, .inr (7, [.ref (h_3), .ref (h_4), .ref (h_5), .ref (h_6), .ref (h_7)])), (h_3, .inl (cyI, 536, .inl v7_rows)), (h_4, .inl (cyI, 67, .inl v7_lengths)), (h_5, .inl (cyI, 67, .inl v7_sizes)), (h_6, .inl (cyI, 67, .inl v7_rests)), (h_7, .inl (cyI, 67, .inl v7_orders)), (h_8, .inr (6, [.ref (h_2), .ref (h_9), .ref (h_10), .ref (h_11)])), (h_9, .inl (cyI, 536, .inl v6_hooks)), (h_10, .inl (cyI, 536, .inl v6_lefts)), (h_11, .inl (cyI, 536, .inl v6_heights)), (h_13, .inr (1, [.ref (h_2), .ref (h_14)])), (h_14, .inl (cyI, 1474, .inl v1_table)), (h_15, .inr (5, [.ref (h_2), .ref (h_13), .ref (h_16)])), (h_16, .inl (cyI, 3125, .inl v5_known)), (h_17, .inr (8, [.ref (h_18), .ref (h_19), .ref (h_20), .int v8_undos, .int v8_nextUndo, .int v8_imageTaken])), (h_18, .inl (cyI, 17, .inl v8_sizes)), (h_19, .inl (cyI, 374, .inl v8_coefficients)), (h_20, .inl (cyI, 8, .inl v8_undoneSums)), (h_22, .inl (cyJ, 22, .inr (.inl (fun _ => 0))))] := hD
  have hP : va_P D xcl (wd_X0 (x_ad [0, 0, h_2, h_3, h_4, h_5, h_6, h_7, h_8, h_9, h_10, h_11, 0, h_13, h_14, h_15, h_16, h_17, h_18, h_19, h_20, h_21, h_22]) cyI cyJ (fun _ => 0) v7_rows v7_lengths v7_sizes v7_rests v7_orders v6_hooks v6_lefts v6_heights v1_table v5_known v8_sizes v8_coefficients v8_undoneSums v8_undos v8_nextUndo v8_imageTaken) H := xq_pick hP [0, 19, 1, 2, 3, 4, 5, 6, 7, 8, 9, 10, 11, 12, 13, 14, 15, 16, 17, 18] rfl
  have hD : va_D A (wd_X0 (x_ad [0, 0, h_2, h_3, h_4, h_5, h_6, h_7, h_8, h_9, h_10, h_11, 0, h_13, h_14, h_15, h_16, h_17, h_18, h_19, h_20, h_21, h_22]) cyI cyJ (fun _ => 0) v7_rows v7_lengths v7_sizes v7_rests v7_orders v6_hooks v6_lefts v6_heights v1_table v5_known v8_sizes v8_coefficients v8_undoneSums v8_undos v8_nextUndo v8_imageTaken) := hD.sub [0, 19, 1, 2, 3, 4, 5, 6, 7, 8, 9, 10, 11, 12, 13, 14, 15, 16, 17, 18] rfl rfl
  refine W.widen (k := 1) (n := 22) (Nat.le_of_ble_eq_true rfl) (Nat.le_of_ble_eq_true rfl) ?_
  obtain rfl := po_1 hf
  rw [← hQ]; exact xe_nret h_22 Cx hP hD hS dX0_init_39
def f_X3_init : Option ((Nat → Int32) × Int32 × Int32 × Int32) := some ((fun _ => 0), (0 : Int32), (0 : Int32), (0 : Int32))
set_option maxHeartbeats 8000000 in
set_option maxRecDepth 20000 in
theorem c_X3_init (l : Launch) (D : va_G) (cyI cyJ : ClassId) (G : Nat → Nat) (h_23 : Nat) (h_2 : Nat) (h_3 : Nat) (h_4 : Nat) (h_5 : Nat) (h_6 : Nat) (h_7 : Nat) (h_17 : Nat) (h_18 : Nat) (h_19 : Nat) (h_20 : Nat) (sz : Nat) (v7_rows : Nat → Int32) (v7_lengths : Nat → Int32) (v7_sizes : Nat → Int32) (v7_rests : Nat → Int32) (v7_orders : Nat → Int32) (v8_sizes : Nat → Int32) (v8_coefficients : Nat → Int32) (v8_undoneSums : Nat → Int32) (v8_undos : Int32) (v8_nextUndo : Int32) (v8_imageTaken : Int32) (ov3_letters : Nat → Int32) (ov3_count : Int32) (ov3_next : Int32) (ov3_size : Int32) (hf : f_X3_init = some (ov3_letters, ov3_count, ov3_next, ov3_size)) : xm_n l yX3_init (Cond.code yX3_init cX3_init 3 none :: xg_tbl) { frames := 1, cells := 1, slots := 72, locals := 20 } D xcl [(cyI, .int), (cyJ, .long)] G sz [.ref (h_23), .ref (h_2), .ref (h_17)] [(h_23, .inr (3, [.null, .null, .null, .int (0 : Int32), .int (0 : Int32), .int (0 : Int32)])), (h_2, .inr (7, [.ref (h_3), .ref (h_4), .ref (h_5), .ref (h_6), .ref (h_7)])), (h_3, .inl (cyI, 536, .inl v7_rows)), (h_4, .inl (cyI, 67, .inl v7_lengths)), (h_5, .inl (cyI, 67, .inl v7_sizes)), (h_6, .inl (cyI, 67, .inl v7_rests)), (h_7, .inl (cyI, 67, .inl v7_orders)), (h_17, .inr (8, [.ref (h_18), .ref (h_19), .ref (h_20), .int v8_undos, .int v8_nextUndo, .int v8_imageTaken])), (h_18, .inl (cyI, 17, .inl v8_sizes)), (h_19, .inl (cyI, 374, .inl v8_coefficients)), (h_20, .inl (cyI, 8, .inl v8_undoneSums))] (fun u : Nat => (wd_X3 (x_ad [0, 0, h_2, h_3, h_4, h_5, h_6, h_7, 0, 0, 0, 0, 0, 0, 0, 0, 0, h_17, h_18, h_19, h_20, 0, 0, h_23, u]) cyI cyJ ov3_letters ov3_count ov3_next ov3_size v7_rows v7_lengths v7_sizes v7_rests v7_orders v8_sizes v8_coefficients v8_undoneSums v8_undos v8_nextUndo v8_imageTaken)) 1 72 := by
  refine xm_of_n (own := RX3) (by decide) rfl rfl (Nat.le_of_ble_eq_true rfl) ?_
  intro p e s m args below meth c ls Q A hQ hAe hin Cx hsz hP hD hS hl
  have Cx1 := Cx
  obtain ⟨⟨hx, hb, hml, hown, hts⟩, hr, hlocks, hK, hA, hT⟩ := Cx1
  have hl : lv_has ls 3 [(0, .ref (h_23)), (1, .ref (h_2)), (2, .ref (h_17))] := hl
  obtain ⟨H, eH⟩ : ∃ H, H = s.heap := ⟨_, rfl⟩
  obtain ⟨locs, eL⟩ : ∃ L : List Loc, L = [] := ⟨_, rfl⟩
  rw [← eH] at hP
  have hS : va_S A s.heap H locs := by rw [eH, eL]; exact hS
  suffices hgo : W p l e { frames := 1, cells := 1, slots := 72, locals := 20 } s m args below meth c H locs 0 0 Q (F0 m 0 ls []) by rw [eH, eL] at hgo; exact hgo
  clear eH eL
  unfold f_X3_init at hf
  refine lv_aload_n hx hb dX3_init_0 rfl (lv_at hl 0 rfl) ?_
  refine W.objInit hx hb hown (hts _ mw_2_41) (hts _ mw_1_28) (hts _ mw_1_29) rfl (by rw [hml]; exact hl.1) rfl dX3_init_1 (Nat.le_of_ble_eq_true rfl) (Nat.le_of_ble_eq_true rfl) ?_
  refine W.eq (g2 := F0 m 4 ls []) rfl ?_
  refine lv_aload_n hx hb dX3_init_4 rfl (lv_at hl 0 rfl) ?_
  refine lv_bipush (v := (72 : Int32)) hx hb dX3_init_5 (by decide) ?_
  refine va_newa (atype := .int) (ty := .int) (a0 := (72, .inl (fun _ => 0))) (N' := 72) hx hb (hts _ mw_1_104) rfl hK hP hD hS hA (fun _ => rfl) (by decide) (by decide) (Nat.le_of_ble_eq_true rfl) (Nat.le_of_ble_eq_true rfl) (Nat.le_of_ble_eq_true rfl) dX3_init_7 (fun h_24 cA H hK1 hP hD hS => ?_)
  have eA := x_sameI hK hK1
  rw [eA] at hP hD
  have hP : va_P D xcl [(h_23, .inr (3, [.null, .null, .null, .int (0 : Int32), .int (0 : Int32), .int (0 : Int32)])), (h_2, .inr (7, [.ref (h_3), .ref (h_4), .ref (h_5), .ref (h_6), .ref (h_7)])), (h_3, .inl (cyI, 536, .inl v7_rows)), (h_4, .inl (cyI, 67, .inl v7_lengths)), (h_5, .inl (cyI, 67, .inl v7_sizes)), (h_6, .inl (cyI, 67, .inl v7_rests)), (h_7, .inl (cyI, 67, .inl v7_orders)), (h_17, .inr (8, [.ref (h_18), .ref (h_19), .ref (h_20), .int v8_undos, .int v8_nextUndo, .int v8_imageTaken])), (h_18, .inl (cyI, 17, .inl v8_sizes)), (h_19, .inl (cyI, 374, .inl v8_coefficients)), (h_20, .inl (cyI, 8, .inl v8_undoneSums)), (h_24, .inl (cyI, 72, .inl (fun _ => 0)))] H := hP
  have hD : va_D A [(h_23, .inr (3, [.null, .null, .null, .int (0 : Int32), .int (0 : Int32), .int (0 : Int32)])), (h_2, .inr (7, [.ref (h_3), .ref (h_4), .ref (h_5), .ref (h_6), .ref (h_7)])), (h_3, .inl (cyI, 536, .inl v7_rows)), (h_4, .inl (cyI, 67, .inl v7_lengths)), (h_5, .inl (cyI, 67, .inl v7_sizes)), (h_6, .inl (cyI, 67, .inl v7_rests)), (h_7, .inl (cyI, 67, .inl v7_orders)), (h_17, .inr (8, [.ref (h_18), .ref (h_19), .ref (h_20), .int v8_undos, .int v8_nextUndo, .int v8_imageTaken])), (h_18, .inl (cyI, 17, .inl v8_sizes)), (h_19, .inl (cyI, 374, .inl v8_coefficients)), (h_20, .inl (cyI, 8, .inl v8_undoneSums)), (h_24, .inl (cyI, 72, .inl (fun _ => 0)))] := hD
  refine va_putF (ci := 3) (v := .ref (h_24)) (ty := (.array .int)) hx hb hts wX3_in tyX3 tyX3_ok nmX3 hown hK hP hD hS 0 rfl rfl 2 (by decide) (hts _ mw_2_44) (fun _ h9 => h9) rfl (hin rfl) rfl (by decide +kernel) rfl rfl (Nat.le_of_ble_eq_true rfl) dX3_init_9 (fun H locs hP hD hS => ?_)
  have hP : va_P D xcl [(h_23, .inr (3, [.null, .null, .ref (h_24), .int (0 : Int32), .int (0 : Int32), .int (0 : Int32)])), (h_2, .inr (7, [.ref (h_3), .ref (h_4), .ref (h_5), .ref (h_6), .ref (h_7)])), (h_3, .inl (cyI, 536, .inl v7_rows)), (h_4, .inl (cyI, 67, .inl v7_lengths)), (h_5, .inl (cyI, 67, .inl v7_sizes)), (h_6, .inl (cyI, 67, .inl v7_rests)), (h_7, .inl (cyI, 67, .inl v7_orders)), (h_17, .inr (8, [.ref (h_18), .ref (h_19), .ref (h_20), .int v8_undos, .int v8_nextUndo, .int v8_imageTaken])), (h_18, .inl (cyI, 17, .inl v8_sizes)), (h_19, .inl (cyI, 374, .inl v8_coefficients)), (h_20, .inl (cyI, 8, .inl v8_undoneSums)), (h_24, .inl (cyI, 72, .inl (fun _ => 0)))] H := hP
  have hD : va_D A [(h_23, .inr (3, [.null, .null, .ref (h_24), .int (0 : Int32), .int (0 : Int32), .int (0 : Int32)])), (h_2, .inr (7, [.ref (h_3), .ref (h_4), .ref (h_5), .ref (h_6), .ref (h_7)])), (h_3, .inl (cyI, 536, .inl v7_rows)), (h_4, .inl (cyI, 67, .inl v7_lengths)), (h_5, .inl (cyI, 67, .inl v7_sizes)), (h_6, .inl (cyI, 67, .inl v7_rests)), (h_7, .inl (cyI, 67, .inl v7_orders)), (h_17, .inr (8, [.ref (h_18), .ref (h_19), .ref (h_20), .int v8_undos, .int v8_nextUndo, .int v8_imageTaken])), (h_18, .inl (cyI, 17, .inl v8_sizes)), (h_19, .inl (cyI, 374, .inl v8_coefficients)), (h_20, .inl (cyI, 8, .inl v8_undoneSums)), (h_24, .inl (cyI, 72, .inl (fun _ => 0)))] := hD
  refine lv_aload_n hx hb dX3_init_12 rfl (lv_at hl 0 rfl) ?_
  refine lv_aload_n hx hb dX3_init_13 rfl (lv_at hl 1 rfl) ?_
  refine va_putF (ci := 3) (v := .ref (h_2)) (ty := (.object "CharactersMultiplied$Shapes")) hx hb hts wX3_in tyX3 tyX3_ok nmX3 hown hK hP hD hS 0 rfl rfl 0 (by decide) (hts _ mw_2_42) (fun _ h9 => h9) rfl (hin rfl) rfl (by decide +kernel) rfl rfl (Nat.le_of_ble_eq_true rfl) dX3_init_14 (fun H locs hP hD hS => ?_)
  have hP : va_P D xcl [(h_23, .inr (3, [.ref (h_2), .null, .ref (h_24), .int (0 : Int32), .int (0 : Int32), .int (0 : Int32)])), (h_2, .inr (7, [.ref (h_3), .ref (h_4), .ref (h_5), .ref (h_6), .ref (h_7)])), (h_3, .inl (cyI, 536, .inl v7_rows)), (h_4, .inl (cyI, 67, .inl v7_lengths)), (h_5, .inl (cyI, 67, .inl v7_sizes)), (h_6, .inl (cyI, 67, .inl v7_rests)), (h_7, .inl (cyI, 67, .inl v7_orders)), (h_17, .inr (8, [.ref (h_18), .ref (h_19), .ref (h_20), .int v8_undos, .int v8_nextUndo, .int v8_imageTaken])), (h_18, .inl (cyI, 17, .inl v8_sizes)), (h_19, .inl (cyI, 374, .inl v8_coefficients)), (h_20, .inl (cyI, 8, .inl v8_undoneSums)), (h_24, .inl (cyI, 72, .inl (fun _ => 0)))] H := hP
  have hD : va_D A [(h_23, .inr (3, [.ref (h_2), .null, .ref (h_24), .int (0 : Int32), .int (0 : Int32), .int (0 : Int32)])), (h_2, .inr (7, [.ref (h_3), .ref (h_4), .ref (h_5), .ref (h_6), .ref (h_7)])), (h_3, .inl (cyI, 536, .inl v7_rows)), (h_4, .inl (cyI, 67, .inl v7_lengths)), (h_5, .inl (cyI, 67, .inl v7_sizes)), (h_6, .inl (cyI, 67, .inl v7_rests)), (h_7, .inl (cyI, 67, .inl v7_orders)), (h_17, .inr (8, [.ref (h_18), .ref (h_19), .ref (h_20), .int v8_undos, .int v8_nextUndo, .int v8_imageTaken])), (h_18, .inl (cyI, 17, .inl v8_sizes)), (h_19, .inl (cyI, 374, .inl v8_coefficients)), (h_20, .inl (cyI, 8, .inl v8_undoneSums)), (h_24, .inl (cyI, 72, .inl (fun _ => 0)))] := hD
  refine lv_aload_n hx hb dX3_init_17 rfl (lv_at hl 0 rfl) ?_
  refine lv_aload_n hx hb dX3_init_18 rfl (lv_at hl 2 rfl) ?_
  refine va_putF (ci := 3) (v := .ref (h_17)) (ty := (.object "CharactersMultiplied$Sums")) hx hb hts wX3_in tyX3 tyX3_ok nmX3 hown hK hP hD hS 0 rfl rfl 1 (by decide) (hts _ mw_2_43) (fun _ h9 => h9) rfl (hin rfl) rfl (by decide +kernel) rfl rfl (Nat.le_of_ble_eq_true rfl) dX3_init_19 (fun H locs hP hD hS => ?_)
  have hP : va_P D xcl [(h_23, .inr (3, [.ref (h_2), .ref (h_17), .ref (h_24), .int (0 : Int32), .int (0 : Int32), .int (0 : Int32)])), (h_2, .inr (7, [.ref (h_3), .ref (h_4), .ref (h_5), .ref (h_6), .ref (h_7)])), (h_3, .inl (cyI, 536, .inl v7_rows)), (h_4, .inl (cyI, 67, .inl v7_lengths)), (h_5, .inl (cyI, 67, .inl v7_sizes)), (h_6, .inl (cyI, 67, .inl v7_rests)), (h_7, .inl (cyI, 67, .inl v7_orders)), (h_17, .inr (8, [.ref (h_18), .ref (h_19), .ref (h_20), .int v8_undos, .int v8_nextUndo, .int v8_imageTaken])), (h_18, .inl (cyI, 17, .inl v8_sizes)), (h_19, .inl (cyI, 374, .inl v8_coefficients)), (h_20, .inl (cyI, 8, .inl v8_undoneSums)), (h_24, .inl (cyI, 72, .inl (fun _ => 0)))] H := hP
  have hD : va_D A [(h_23, .inr (3, [.ref (h_2), .ref (h_17), .ref (h_24), .int (0 : Int32), .int (0 : Int32), .int (0 : Int32)])), (h_2, .inr (7, [.ref (h_3), .ref (h_4), .ref (h_5), .ref (h_6), .ref (h_7)])), (h_3, .inl (cyI, 536, .inl v7_rows)), (h_4, .inl (cyI, 67, .inl v7_lengths)), (h_5, .inl (cyI, 67, .inl v7_sizes)), (h_6, .inl (cyI, 67, .inl v7_rests)), (h_7, .inl (cyI, 67, .inl v7_orders)), (h_17, .inr (8, [.ref (h_18), .ref (h_19), .ref (h_20), .int v8_undos, .int v8_nextUndo, .int v8_imageTaken])), (h_18, .inl (cyI, 17, .inl v8_sizes)), (h_19, .inl (cyI, 374, .inl v8_coefficients)), (h_20, .inl (cyI, 8, .inl v8_undoneSums)), (h_24, .inl (cyI, 72, .inl (fun _ => 0)))] := hD
  have hP : va_P D xcl (wd_X3 (x_ad [0, 0, h_2, h_3, h_4, h_5, h_6, h_7, 0, 0, 0, 0, 0, 0, 0, 0, 0, h_17, h_18, h_19, h_20, 0, 0, h_23, h_24]) cyI cyJ (fun _ => 0) (0 : Int32) (0 : Int32) (0 : Int32) v7_rows v7_lengths v7_sizes v7_rests v7_orders v8_sizes v8_coefficients v8_undoneSums v8_undos v8_nextUndo v8_imageTaken) H := xq_pick hP [0, 11, 1, 2, 3, 4, 5, 6, 7, 8, 9, 10] rfl
  have hD : va_D A (wd_X3 (x_ad [0, 0, h_2, h_3, h_4, h_5, h_6, h_7, 0, 0, 0, 0, 0, 0, 0, 0, 0, h_17, h_18, h_19, h_20, 0, 0, h_23, h_24]) cyI cyJ (fun _ => 0) (0 : Int32) (0 : Int32) (0 : Int32) v7_rows v7_lengths v7_sizes v7_rests v7_orders v8_sizes v8_coefficients v8_undoneSums v8_undos v8_nextUndo v8_imageTaken) := hD.sub [0, 11, 1, 2, 3, 4, 5, 6, 7, 8, 9, 10] rfl rfl
  refine W.widen (k := 1) (n := 72) (Nat.le_of_ble_eq_true rfl) (Nat.le_of_ble_eq_true rfl) ?_
  obtain ⟨rfl, rfl, rfl, rfl⟩ := po_4 hf
  rw [← hQ]; exact xe_nret h_24 Cx hP hD hS dX3_init_22
def gf_X4_init_21 (K_21 : (Nat → Int32) → (Nat → Int32) → Int32 → Option ((Nat → Int32) × (Nat → Int32))) (v4_values : Nat → Int32) (v4_lengths : Nat → Int32) (y1 : Int32) : Option ((Nat → Int32) × (Nat → Int32)) := if (3 : Int32) ≤ y1 then (some (v4_values, v4_lengths)) else (p_in y1 3 (K_21 v4_values (upd v4_lengths (Int32.toNatClampNeg y1) (-1 : Int32)) (y1 + (1 : Int32))))
def f_X4_init_21 : Nat → (Nat → Int32) → (Nat → Int32) → Int32 → Option ((Nat → Int32) × (Nat → Int32))
  | 0 => fun _ _ _ => none
  | n + 1 => gf_X4_init_21 (f_X4_init_21 n)
def f_X4_init : Option ((Nat → Int32) × (Nat → Int32)) := (f_X4_init_21 1000) (fun _ => 0) (fun _ => 0) (0 : Int32)
set_option maxHeartbeats 8000000 in
set_option maxRecDepth 20000 in
theorem c_X4_init (l : Launch) (D : va_G) (cyI cyJ : ClassId) (G : Nat → Nat) (h_25 : Nat) (sz : Nat) (ov4_values : Nat → Int32) (ov4_lengths : Nat → Int32) (hf : f_X4_init = some (ov4_values, ov4_lengths)) : xm_n l yX4_init (Cond.code yX4_init cX4_init 2 none :: xg_tbl) { frames := 1, cells := 2, slots := 123, locals := 20 } D xcl [(cyI, .int), (cyJ, .long)] G sz [.ref (h_25)] [(h_25, .inr (4, [.null, .null]))] (fun u : Nat × Nat => (wd_X4 (x_ad [0, 0, 0, 0, 0, 0, 0, 0, 0, 0, 0, 0, 0, 0, 0, 0, 0, 0, 0, 0, 0, 0, 0, 0, 0, h_25, u.1, u.2]) cyI cyJ ov4_values ov4_lengths)) 2 123 := by
  refine xm_of_n (own := RX4) (by decide) rfl rfl (Nat.le_of_ble_eq_true rfl) ?_
  intro p e s m args below meth c ls Q A hQ hAe hin Cx hsz hP hD hS hl
  have Cx1 := Cx
  obtain ⟨⟨hx, hb, hml, hown, hts⟩, hr, hlocks, hK, hA, hT⟩ := Cx1
  have hl : lv_has ls 2 [(0, .ref (h_25))] := hl
  obtain ⟨H, eH⟩ : ∃ H, H = s.heap := ⟨_, rfl⟩
  obtain ⟨locs, eL⟩ : ∃ L : List Loc, L = [] := ⟨_, rfl⟩
  rw [← eH] at hP
  have hS : va_S A s.heap H locs := by rw [eH, eL]; exact hS
  suffices hgo : W p l e { frames := 1, cells := 2, slots := 123, locals := 20 } s m args below meth c H locs 0 0 Q (F0 m 0 ls []) by rw [eH, eL] at hgo; exact hgo
  clear eH eL
  unfold f_X4_init at hf
  refine lv_aload_n hx hb dX4_init_0 rfl (lv_at hl 0 rfl) ?_
  refine W.objInit hx hb hown (hts _ mw_2_66) (hts _ mw_1_28) (hts _ mw_1_29) rfl (by rw [hml]; exact hl.1) rfl dX4_init_1 (Nat.le_of_ble_eq_true rfl) (Nat.le_of_ble_eq_true rfl) ?_
  refine W.eq (g2 := F0 m 4 ls []) rfl ?_
  refine lv_aload_n hx hb dX4_init_4 rfl (lv_at hl 0 rfl) ?_
  refine lv_bipush (v := (120 : Int32)) hx hb dX4_init_5 (by decide) ?_
  refine va_newa (atype := .int) (ty := .int) (a0 := (120, .inl (fun _ => 0))) (N' := 120) hx hb (hts _ mw_1_104) rfl hK hP hD hS hA (fun _ => rfl) (by decide) (by decide) (Nat.le_of_ble_eq_true rfl) (Nat.le_of_ble_eq_true rfl) (Nat.le_of_ble_eq_true rfl) dX4_init_7 (fun h_26 cA H hK1 hP hD hS => ?_)
  have eA := x_sameI hK hK1
  rw [eA] at hP hD
  have hP : va_P D xcl [(h_25, .inr (4, [.null, .null])), (h_26, .inl (cyI, 120, .inl (fun _ => 0)))] H := hP
  have hD : va_D A [(h_25, .inr (4, [.null, .null])), (h_26, .inl (cyI, 120, .inl (fun _ => 0)))] := hD
  refine va_putF (ci := 4) (v := .ref (h_26)) (ty := (.array .int)) hx hb hts wX4_in tyX4 tyX4_ok nmX4 hown hK hP hD hS 0 rfl rfl 0 (by decide) (hts _ mw_2_67) (fun _ h9 => h9) rfl (hin rfl) rfl (by decide +kernel) rfl rfl (Nat.le_of_ble_eq_true rfl) dX4_init_9 (fun H locs hP hD hS => ?_)
  have hP : va_P D xcl [(h_25, .inr (4, [.ref (h_26), .null])), (h_26, .inl (cyI, 120, .inl (fun _ => 0)))] H := hP
  have hD : va_D A [(h_25, .inr (4, [.ref (h_26), .null])), (h_26, .inl (cyI, 120, .inl (fun _ => 0)))] := hD
  refine lv_aload_n hx hb dX4_init_12 rfl (lv_at hl 0 rfl) ?_
  refine lv_iconst (v := (3 : Int32)) hx hb dX4_init_13 (by decide) ?_
  refine va_newa (atype := .int) (ty := .int) (a0 := (3, .inl (fun _ => 0))) (N' := 3) hx hb (hts _ mw_1_104) rfl hK hP hD hS hA (fun _ => rfl) (by decide) (by decide) (Nat.le_of_ble_eq_true rfl) (Nat.le_of_ble_eq_true rfl) (Nat.le_of_ble_eq_true rfl) dX4_init_14 (fun h_27 cA H hK1 hP hD hS => ?_)
  have eA := x_sameI hK hK1
  rw [eA] at hP hD
  have hP : va_P D xcl [(h_25, .inr (4, [.ref (h_26), .null])), (h_26, .inl (cyI, 120, .inl (fun _ => 0))), (h_27, .inl (cyI, 3, .inl (fun _ => 0)))] H := hP
  have hD : va_D A [(h_25, .inr (4, [.ref (h_26), .null])), (h_26, .inl (cyI, 120, .inl (fun _ => 0))), (h_27, .inl (cyI, 3, .inl (fun _ => 0)))] := hD
  refine va_putF (ci := 4) (v := .ref (h_27)) (ty := (.array .int)) hx hb hts wX4_in tyX4 tyX4_ok nmX4 hown hK hP hD hS 0 rfl rfl 1 (by decide) (hts _ mw_2_68) (fun _ h9 => h9) rfl (hin rfl) rfl (by decide +kernel) rfl rfl (Nat.le_of_ble_eq_true rfl) dX4_init_16 (fun H locs hP hD hS => ?_)
  have hP : va_P D xcl [(h_25, .inr (4, [.ref (h_26), .ref (h_27)])), (h_26, .inl (cyI, 120, .inl (fun _ => 0))), (h_27, .inl (cyI, 3, .inl (fun _ => 0)))] H := hP
  have hD : va_D A [(h_25, .inr (4, [.ref (h_26), .ref (h_27)])), (h_26, .inl (cyI, 120, .inl (fun _ => 0))), (h_27, .inl (cyI, 3, .inl (fun _ => 0)))] := hD
  refine lv_iconst (v := (0 : Int32)) hx hb dX4_init_19 (by decide) ?_
  refine lv_istore_n (lv' := [(1, .int (0 : Int32)), (0, .ref (h_25))]) hx hb dX4_init_20 rfl hl (by decide) rfl (fun ls hl => ?_)
  have hP : va_P D xcl (wd_X4 (x_ad [0, 0, 0, 0, 0, 0, 0, 0, 0, 0, 0, 0, 0, 0, 0, 0, 0, 0, 0, 0, 0, 0, 0, 0, 0, h_25, h_26, h_27]) cyI cyJ (fun _ => 0) (fun _ => 0)) H := xq_pick hP [0, 1, 2] rfl
  have hD : va_D A (wd_X4 (x_ad [0, 0, 0, 0, 0, 0, 0, 0, 0, 0, 0, 0, 0, 0, 0, 0, 0, 0, 0, 0, 0, 0, 0, 0, 0, h_25, h_26, h_27]) cyI cyJ (fun _ => 0) (fun _ => 0)) := hD.sub [0, 1, 2] rfl rfl
  refine W.widen (k := 2) (n := 123) (Nat.le_of_ble_eq_true rfl) (Nat.le_of_ble_eq_true rfl) ?_
  have w_21 : ∀ (n_21 : Nat) (v4_values : Nat → Int32) (v4_lengths : Nat → Int32) (y1 : Int32) (H : Heap) (locs : List Loc) (ls : Array Slot), f_X4_init_21 n_21 v4_values v4_lengths y1 = some (ov4_values, ov4_lengths) → va_P D xcl (wd_X4 (x_ad [0, 0, 0, 0, 0, 0, 0, 0, 0, 0, 0, 0, 0, 0, 0, 0, 0, 0, 0, 0, 0, 0, 0, 0, 0, h_25, h_26, h_27]) cyI cyJ v4_values v4_lengths) H → va_D A (wd_X4 (x_ad [0, 0, 0, 0, 0, 0, 0, 0, 0, 0, 0, 0, 0, 0, 0, 0, 0, 0, 0, 0, 0, 0, 0, 0, 0, h_25, h_26, h_27]) cyI cyJ v4_values v4_lengths) → va_S A s.heap H locs → lv_has ls 2 [(0, .ref (h_25)), (1, .int y1)] → W p l e { frames := 1, cells := 2, slots := 123, locals := 20 } s m args below meth c H locs 2 123 Q (F0 m 21 ls []) := by
    intro n_21
    induction n_21 with
    | zero => intro v4_values v4_lengths y1 H locs ls hf; exact absurd hf (by intro h9; cases h9)
    | succ n_21 w_21 =>
      intro v4_values v4_lengths y1 H locs ls hf hP hD hS hl
      have hf : gf_X4_init_21 (f_X4_init_21 n_21) v4_values v4_lengths y1 = some (ov4_values, ov4_lengths) := hf
      unfold gf_X4_init_21 at hf
      refine lv_iload_n hx hb dX4_init_21 rfl (lv_at hl 1 rfl) ?_
      refine lv_iconst (v := (3 : Int32)) hx hb dX4_init_22 (by decide) ?_
      refine lv_icmp_ge (tgt := 39) hx hb dX4_init_23 (by decide) (fun hc_3 => ?_) (fun hc_3 => ?_)
      · have hf := pe_t hf hc_3
        obtain ⟨rfl, rfl⟩ := po_2 hf
        rw [← hQ]; exact xe_nret (h_26, h_27) Cx hP hD hS dX4_init_39
      · have hf := pe_f hf hc_3
        refine lv_aload_n hx hb dX4_init_26 rfl (lv_at hl 0 rfl) ?_
        refine va_get (ci := 4) (v := .ref (h_27)) hx hb hts wX4_in hown hK hP 0 rfl rfl 1 (by decide) (hts _ mw_2_68) (fun _ h9 => h9) rfl dX4_init_27 ?_
        refine lv_iload_n hx hb dX4_init_30 rfl (lv_at hl 1 rfl) ?_
        refine lv_iconst (v := (-1 : Int32)) hx hb dX4_init_31 (by decide) ?_
        obtain ⟨hi_4, hf⟩ := pe_in hf
        refine va_iast hx hb hK hP hD hS 2 0 rfl rfl hi_4 dX4_init_32 (fun H locs hP hD hS => ?_)
        have hP : va_P D xcl (wd_X4 (x_ad [0, 0, 0, 0, 0, 0, 0, 0, 0, 0, 0, 0, 0, 0, 0, 0, 0, 0, 0, 0, 0, 0, 0, 0, 0, h_25, h_26, h_27]) cyI cyJ v4_values (upd v4_lengths (Int32.toNatClampNeg y1) (-1 : Int32))) H := hP
        have hD : va_D A (wd_X4 (x_ad [0, 0, 0, 0, 0, 0, 0, 0, 0, 0, 0, 0, 0, 0, 0, 0, 0, 0, 0, 0, 0, 0, 0, 0, 0, h_25, h_26, h_27]) cyI cyJ v4_values (upd v4_lengths (Int32.toNatClampNeg y1) (-1 : Int32))) := hD
        refine lv_iinc (v := (y1 + (1 : Int32))) (lv' := [(1, .int (y1 + (1 : Int32))), (0, .ref (h_25))]) hx hb dX4_init_33 hl (k := 1) rfl rfl (by decide) rfl (fun ls hl => ?_)
        refine lv_goto (tgt := 21) hx hb dX4_init_36 (by decide) ?_
        exact w_21 v4_values (upd v4_lengths (Int32.toNatClampNeg y1) (-1 : Int32)) (y1 + (1 : Int32)) H locs ls hf hP hD hS (lv_sub hl [1, 0] rfl)
  exact w_21 1000 (fun _ => 0) (fun _ => 0) (0 : Int32) H locs ls hf hP hD hS (lv_sub hl [1, 0] rfl)
