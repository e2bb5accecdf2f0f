theorem ofV_row (k r : Nat) : ofV k (10 + r) = tz_R (8 * k + r) := by
  unfold ofV
  rw [if_neg (by omega), if_neg (by omega), if_neg (by omega), if_neg (by omega), if_neg (by omega), Nat.add_sub_cancel_left]
set_option maxHeartbeats 16000000 in
set_option maxRecDepth 20000 in
theorem law_345 {p0 : Program} {l : Launch} {e : Env} {s : State} {m : MethodId} {below : List Frame} {meth : Method} {c : Code} {b : Nat} {D : va_G} {cyI cyJ cyB cyQ : ClassId} {G a g kk kv B : Nat → Nat} {al tq L n : Nat} {xs : Nat → Int32} {A : Nat → Prop} {H0 : Heap} (C0 : LCx p0 s m b meth c D cyI cyJ cyB cyQ G g kk kv B al tq L n xs A H0) {σ : CS} {S : Nat → SV} (hR : Rc σ S []) {E1 : va_W}  {H : Heap} {locs : List Loc} {ls : Array Slot} (hP : va_P D xcl (wdS a cyI cyJ σ ++ ([] ++ E1)) H) (hD : va_D A (wdS a cyI cyJ σ ++ ([] ++ E1))) (hS : va_S A H0 H locs) (hl : lv_has ls 28 [(0, .ref b), (1, .ref (a 0)), (2, .ref al), (3, .int (nI n)), (4, .int (nI (qz_D n))), (5, .int (nI (qz_N n))), (6, .ref tq), (7, .long (Int32.toInt64 (xi_FACTORIALS n)))]) : W p0 l e room_1 s m #[Value.ref b] below meth c H locs 930 20400 (lw_Z below #[Value.ref b] s) (F0 m 345 ls []) := by
  have C1 := C0
  obtain ⟨Cx, hAs, hn, hL⟩ := C1
  have Cx1 := Cx
  obtain ⟨⟨hx, hb, hml, hown, hts⟩, hr, hlocks, hK, hA, hT⟩ := Cx1
  obtain ⟨hD1, hD2, hD3⟩ := D_small n hn
  have hN1 : 0 < qz_N n := by show 0 < qz_D (n + 1) - qz_D n; omega
  have hN2 : qz_N n ≤ 15 := hD2
  have hN3 : qz_D n + qz_N n ≤ 45 := by show qz_D n + (qz_D (n + 1) - qz_D n) ≤ 45; omega
  refine lv_iconst (v := (0 : Int32)) hx hb dL_law_345 (by decide) ?_
  refine lv_istore (lv' := [(9, .int (0 : Int32)), (0, .ref b), (1, .ref (a 0)), (2, .ref al), (3, .int (nI n)), (4, .int (nI (qz_D n))), (5, .int (nI (qz_N n))), (6, .ref tq), (7, .long (Int32.toInt64 (xi_FACTORIALS n)))]) hx hb dL_law_346 hl (by decide) rfl (fun ls hl => ?_)
  have w_348 : ∀ (d : Nat) (t : Nat) (τ : CS) (H : Heap) (locs : List Loc) (ls : Array Slot), Rc τ S [] → t + d = 4 → va_P D xcl (wdS a cyI cyJ τ ++ ([] ++ E1)) H → va_D A (wdS a cyI cyJ τ ++ ([] ++ E1)) → va_S A H0 H locs → lv_has ls 28 [(9, .int (nI t)), (0, .ref b), (1, .ref (a 0)), (2, .ref al), (3, .int (nI n)), (4, .int (nI (qz_D n))), (5, .int (nI (qz_N n))), (6, .ref tq), (7, .long (Int32.toInt64 (xi_FACTORIALS n)))] → W p0 l e room_1 s m #[Value.ref b] below meth c H locs 930 20400 (lw_Z below #[Value.ref b] s) (F0 m 348 ls []) := by
    intro d
    induction d with
    | zero =>
      intro t τ H locs ls hR_252 ht hP hD hS hl
      obtain rfl : t = 4 := by omega
      refine lv_iload hx hb dL_law_348 (lv_at hl 0 rfl) ?_
      refine lv_iconst (v := (4 : Int32)) hx hb dL_law_350 (by decide) ?_
      refine lv_icmp_ge (tgt := 766) hx hb dL_law_351 (by decide) (fun _ => ?_) (fun hc => absurd (Int32.le_refl (4 : Int32)) hc)
      exact law_766 C0 hR_252 hP hD hS (lv_sub hl [1, 2, 3, 4, 5, 6, 7] rfl)
    | succ d ih_348 =>
      intro t τ H locs ls hR_253 ht hP hD hS hl
      refine lv_iload hx hb dL_law_348 (lv_at hl 0 rfl) ?_
      refine lv_iconst (v := (4 : Int32)) hx hb dL_law_350 (by decide) ?_
      refine lv_icmp_ge (tgt := 766) hx hb dL_law_351 (by decide) (fun hc => absurd hc (show ¬ (4 : Int32) ≤ nI t from nI_ge (b := 4) (by omega) (by decide))) (fun _ => ?_)
      refine lv_aload_n hx hb dL_law_354 rfl (lv_at hl 1 rfl) ?_
      refine lv_iconst (v := (1 : Int32)) hx hb dL_law_355 (by decide) ?_
      refine lv_iload hx hb dL_law_356 (lv_at hl 0 rfl) ?_
      refine lv_iadd hx hb dL_law_358 ?_
      rw [show ((1 : Int32) + (nI t)) = (nI (1 + t)) from nI_add 1 t]
      refine yr_i Cx hP hD hS (yq_none (S := Unit) (wdS a cyI cyJ τ ++ ([] ++ E1))) (yx_S (n := 2) (As := [.ref b, .int (nI (1 + t))]) (rest := []) Cx hP hD hS hl (yq_none (S := Unit) (wdS a cyI cyJ τ ++ ([] ++ E1))) hK (fz_ZI b L xs) (fun hF => (fz_give (fz_ZI b L xs) hT.2.2.2.2.1 hS hF)) (c_L_cell l D cyI cyJ cyB cyQ H.size b L xs (1 + t) (by omega) (by omega)) pk_L_cell mw_3_159 ⟨rfl, rfl, Nat.le_of_ble_eq_true rfl, Nat.le_of_ble_eq_true rfl⟩ rfl rfl (Nat.le_of_ble_eq_true rfl) ⟨Nat.le_of_ble_eq_true rfl, Nat.le_of_ble_eq_true rfl⟩ dL_law_359) (fun r_1 u_254 H locs hp hP hD hS => ?_)
      have hP : va_P D xcl (wdS a cyI cyJ τ ++ ([] ++ E1)) H := hP
      have hD : va_D A (wdS a cyI cyJ τ ++ ([] ++ E1)) := hD
      rw [show r_1 = (cel L xs (1 + t)) from hp]
      refine lv_iconst (v := (1 : Int32)) hx hb dL_law_362 (by decide) ?_
      refine lv_iushr (v := (((Int32.toUInt32 (cel L xs (1 + t))) >>> ((Int32.toUInt32 (1 : Int32)) &&& Int32.toUInt32 31)).toInt32)) hx hb dL_law_363 rfl ?_
      rw [show (((Int32.toUInt32 (cel L xs (1 + t))) >>> ((Int32.toUInt32 (1 : Int32)) &&& Int32.toUInt32 31)).toInt32) = (nI (hlf (cel L xs (1 + t)))) from hlf_eq _]
      have hh := hlf_lt (cel L xs (1 + t))
      refine lv_istore (lv' := [(10, .int (nI (hlf (cel L xs (1 + t))))), (9, .int (nI t)), (0, .ref b), (1, .ref (a 0)), (2, .ref al), (3, .int (nI n)), (4, .int (nI (qz_D n))), (5, .int (nI (qz_N n))), (6, .ref tq), (7, .long (Int32.toInt64 (xi_FACTORIALS n)))]) hx hb dL_law_364 hl (by decide) rfl (fun ls hl => ?_)
      refine lv_iload hx hb dL_law_366 (lv_at hl 0 rfl) ?_
      refine lv_iload hx hb dL_law_368 (lv_at hl 7 rfl) ?_
      refine lv_irem hx hb dL_law_370 (nI_ne0 hN1 (by omega)) ?_
      rw [show ((nI (hlf (cel L xs (1 + t)))) - (nI (hlf (cel L xs (1 + t)))) / (nI (qz_N n)) * (nI (qz_N n))) = (nI ((hlf (cel L xs (1 + t))) % (qz_N n))) from pk_rem (a := (hlf (cel L xs (1 + t)))) (d := (qz_N n)) (by omega) (by omega) (by omega)]
      obtain ⟨x, hxe⟩ : ∃ x, x = (hlf (cel L xs (1 + t))) % qz_N n := ⟨_, rfl⟩
      rw [← hxe]
      have hx9 : x < qz_N n := by rw [hxe]; exact Nat.mod_lt _ hN1
      refine lv_istore (lv' := [(11, .int (nI x)), (10, .int (nI (hlf (cel L xs (1 + t))))), (9, .int (nI t)), (0, .ref b), (1, .ref (a 0)), (2, .ref al), (3, .int (nI n)), (4, .int (nI (qz_D n))), (5, .int (nI (qz_N n))), (6, .ref tq), (7, .long (Int32.toInt64 (xi_FACTORIALS n)))]) hx hb dL_law_371 hl (by decide) rfl (fun ls hl => ?_)
      refine lv_iload hx hb dL_law_373 (lv_at hl 1 rfl) ?_
      refine lv_bipush (v := (8 : Int32)) hx hb dL_law_375 (by decide) ?_
      refine lv_iushr (v := (((Int32.toUInt32 (nI (hlf (cel L xs (1 + t))))) >>> ((Int32.toUInt32 (8 : Int32)) &&& Int32.toUInt32 31)).toInt32)) hx hb dL_law_377 rfl ?_
      refine lv_iload hx hb dL_law_378 (lv_at hl 8 rfl) ?_
      rw [show (((Int32.toUInt32 (nI (hlf (cel L xs (1 + t))))) >>> ((Int32.toUInt32 (8 : Int32)) &&& Int32.toUInt32 31)).toInt32) = nI ((hlf (cel L xs (1 + t))) / 2 ^ 8) from pk_ushrN (n := (hlf (cel L xs (1 + t)))) (by omega) 8 8 (by decide)]
      refine lv_irem hx hb dL_law_380 (nI_ne0 hN1 (by omega)) ?_
      rw [show ((nI ((hlf (cel L xs (1 + t))) / 2 ^ 8)) - (nI ((hlf (cel L xs (1 + t))) / 2 ^ 8)) / (nI (qz_N n)) * (nI (qz_N n))) = (nI (((hlf (cel L xs (1 + t))) / 2 ^ 8) % (qz_N n))) from pk_rem (a := ((hlf (cel L xs (1 + t))) / 2 ^ 8)) (d := (qz_N n)) (by omega) (by omega) (by omega)]
      obtain ⟨y, hye⟩ : ∃ y, y = (hlf (cel L xs (1 + t))) / 2 ^ 8 % qz_N n := ⟨_, rfl⟩
      rw [← hye]
      have hy9 : y < qz_N n := by rw [hye]; exact Nat.mod_lt _ hN1
      refine lv_istore (lv' := [(12, .int (nI y)), (11, .int (nI x)), (10, .int (nI (hlf (cel L xs (1 + t))))), (9, .int (nI t)), (0, .ref b), (1, .ref (a 0)), (2, .ref al), (3, .int (nI n)), (4, .int (nI (qz_D n))), (5, .int (nI (qz_N n))), (6, .ref tq), (7, .long (Int32.toInt64 (xi_FACTORIALS n)))]) hx hb dL_law_381 hl (by decide) rfl (fun ls hl => ?_)
      refine lv_iconst (v := (0 : Int32)) hx hb dL_law_383 (by decide) ?_
      refine lv_istore (lv' := [(13, .int (0 : Int32)), (12, .int (nI y)), (11, .int (nI x)), (10, .int (nI (hlf (cel L xs (1 + t))))), (9, .int (nI t)), (0, .ref b), (1, .ref (a 0)), (2, .ref al), (3, .int (nI n)), (4, .int (nI (qz_D n))), (5, .int (nI (qz_N n))), (6, .ref tq), (7, .long (Int32.toInt64 (xi_FACTORIALS n)))]) hx hb dL_law_384 hl (by decide) rfl (fun ls hl => ?_)
      refine lv_iconst (v := (0 : Int32)) hx hb dL_law_386 (by decide) ?_
      refine lv_istore (lv' := [(14, .int (0 : Int32)), (13, .int (0 : Int32)), (12, .int (nI y)), (11, .int (nI x)), (10, .int (nI (hlf (cel L xs (1 + t))))), (9, .int (nI t)), (0, .ref b), (1, .ref (a 0)), (2, .ref al), (3, .int (nI n)), (4, .int (nI (qz_D n))), (5, .int (nI (qz_N n))), (6, .ref tq), (7, .long (Int32.toInt64 (xi_FACTORIALS n)))]) hx hb dL_law_387 hl (by decide) rfl (fun ls hl => ?_)
      refine lv_lconst (v := (0 : Int64)) hx hb dL_law_389 (by decide) ?_
      refine lv_lstore (lv' := [(15, .long (0 : Int64)), (14, .int (0 : Int32)), (13, .int (0 : Int32)), (12, .int (nI y)), (11, .int (nI x)), (10, .int (nI (hlf (cel L xs (1 + t))))), (9, .int (nI t)), (0, .ref b), (1, .ref (a 0)), (2, .ref al), (3, .int (nI n)), (4, .int (nI (qz_D n))), (5, .int (nI (qz_N n))), (6, .ref tq), (7, .long (Int32.toInt64 (xi_FACTORIALS n)))]) hx hb dL_law_390 hl (by decide) rfl (fun ls hl => ?_)
      refine lv_iconst (v := (0 : Int32)) hx hb dL_law_392 (by decide) ?_
      refine lv_istore (lv' := [(17, .int (0 : Int32)), (15, .long (0 : Int64)), (14, .int (0 : Int32)), (13, .int (0 : Int32)), (12, .int (nI y)), (11, .int (nI x)), (10, .int (nI (hlf (cel L xs (1 + t))))), (9, .int (nI t)), (0, .ref b), (1, .ref (a 0)), (2, .ref al), (3, .int (nI n)), (4, .int (nI (qz_D n))), (5, .int (nI (qz_N n))), (6, .ref tq), (7, .long (Int32.toInt64 (xi_FACTORIALS n)))]) hx hb dL_law_393 hl (by decide) rfl (fun ls hl => ?_)
      have w_395 : ∀ (d2 : Nat) (c1 : Nat) (ρ : CS) (H : Heap) (locs : List Loc) (ls : Array Slot), Rc ρ S [] → c1 + d2 = qz_N n → va_P D xcl (wdS a cyI cyJ ρ ++ ([] ++ E1)) H → va_D A (wdS a cyI cyJ ρ ++ ([] ++ E1)) → va_S A H0 H locs → lv_has ls 28 [(17, .int (nI c1)), (13, .int (nI (prC n x y c1))), (14, .int (mxC n x y c1)), (15, .long (dSum n x y c1)), (11, .int (nI x)), (12, .int (nI y)), (9, .int (nI t)), (0, .ref b), (1, .ref (a 0)), (2, .ref al), (3, .int (nI n)), (4, .int (nI (qz_D n))), (5, .int (nI (qz_N n))), (6, .ref tq), (7, .long (Int32.toInt64 (xi_FACTORIALS n)))] → W p0 l e room_1 s m #[Value.ref b] below meth c H locs 930 20400 (lw_Z below #[Value.ref b] s) (F0 m 395 ls []) := by
        intro d2
        induction d2 with
        | zero =>
          intro c1 ρ H locs ls hR_255 hc2 hP hD hS hl
          obtain rfl : c1 = qz_N n := by omega
          refine lv_iload hx hb dL_law_395 (lv_at hl 0 rfl) ?_
          refine lv_iload hx hb dL_law_397 (lv_at hl 12 rfl) ?_
          refine lv_icmp_ge (tgt := 669) hx hb dL_law_399 (by decide) (fun _ => ?_) (fun hc => absurd (Int32.le_refl _) hc)
          refine lv_aload_n hx hb dL_law_669 rfl (lv_at hl 8 rfl) ?_
          refine lv_iload hx hb dL_law_670 (lv_at hl 11 rfl) ?_
          refine lv_iload hx hb dL_law_672 (lv_at hl 4 rfl) ?_
          refine lv_iadd hx hb dL_law_674 ?_
          rw [show ((nI (qz_D n)) + (nI x)) = (nI (qz_D n + x)) from nI_add (qz_D n) x]
          refine lv_iload hx hb dL_law_675 (lv_at hl 11 rfl) ?_
          refine lv_iload hx hb dL_law_677 (lv_at hl 5 rfl) ?_
          refine lv_iadd hx hb dL_law_679 ?_
          rw [show ((nI (qz_D n)) + (nI y)) = (nI (qz_D n + y)) from nI_add (qz_D n) y]
          refine lv_iconst (v := (-1 : Int32)) hx hb dL_law_680 (by decide) ?_
          obtain ⟨τ_256, hR_258, hM_257⟩ := mm_productLen l D cyI cyJ G a H.size hR_255 (show n < 9 by omega) hx9 hy9
          refine yr_i Cx hP hD hS (yq_front (S := Unit) (wdS a cyI cyJ ρ) ([] ++ E1) (fun _ => wdS a cyI cyJ τ_256) 28 (fun _ => rfl)) (yx_V (n := 3) (As := [.int (nI (qz_D n + x)), .int (nI (qz_D n + y)), .int (-1 : Int32)]) (rest := []) Cx hP hD hS hl (yq_front (S := Unit) (wdS a cyI cyJ ρ) ([] ++ E1) (fun _ => wdS a cyI cyJ τ_256) 28 (fun _ => rfl)) (y_K2 hK) (fz_xs G) (fun hF => (fz_give (fz_xs G) hT.1 hS hF)) (ym_xi hM_257) pk_X9_product mw_2_196 ⟨rfl, rfl, Nat.le_of_ble_eq_true rfl, Nat.le_of_ble_eq_true rfl⟩ (va_recv (ci := 9) hK hP rfl (q0 := 0) rfl) rfl rfl (Nat.le_of_ble_eq_true rfl) ⟨Nat.le_of_ble_eq_true rfl, Nat.le_of_ble_eq_true rfl⟩ dL_law_681) (fun r_1 u_259 H locs hp hP hD hS => ?_)
          have hP : va_P D xcl (wdS a cyI cyJ τ_256 ++ ([] ++ E1)) H := hP
          have hD : va_D A (wdS a cyI cyJ τ_256 ++ ([] ++ E1)) := hD
          rw [show r_1 = (nI (prC n x y (qz_N n))) from hp]
          refine lv_iload hx hb dL_law_684 (lv_at hl 1 rfl) ?_
          refine lv_icmp_ne (tgt := 758) hx hb dL_law_686 (by decide) (fun hc => absurd rfl hc) (fun _ => ?_)
          refine lv_aload_n hx hb dL_law_689 rfl (lv_at hl 8 rfl) ?_
          refine lv_iload hx hb dL_law_690 (lv_at hl 11 rfl) ?_
          refine lv_iload hx hb dL_law_692 (lv_at hl 4 rfl) ?_
          refine lv_iadd hx hb dL_law_694 ?_
          rw [show ((nI (qz_D n)) + (nI x)) = (nI (qz_D n + x)) from nI_add (qz_D n) x]
          refine lv_iload hx hb dL_law_695 (lv_at hl 11 rfl) ?_
          refine lv_iload hx hb dL_law_697 (lv_at hl 5 rfl) ?_
          refine lv_iadd hx hb dL_law_699 ?_
          rw [show ((nI (qz_D n)) + (nI y)) = (nI (qz_D n + y)) from nI_add (qz_D n) y]
          refine lv_iload hx hb dL_law_700 (lv_at hl 1 rfl) ?_
          obtain ⟨τ_260, hR_262, hM_261⟩ := mm_productEnd l D cyI cyJ G a H.size hR_258 (show n < 9 by omega) hx9 hy9
          refine yr_i Cx hP hD hS (yq_front (S := Unit) (wdS a cyI cyJ τ_256) ([] ++ E1) (fun _ => wdS a cyI cyJ τ_260) 28 (fun _ => rfl)) (yx_V (n := 3) (As := [.int (nI (qz_D n + x)), .int (nI (qz_D n + y)), .int (nI (prC n x y (qz_N n)))]) (rest := []) Cx hP hD hS hl (yq_front (S := Unit) (wdS a cyI cyJ τ_256) ([] ++ E1) (fun _ => wdS a cyI cyJ τ_260) 28 (fun _ => rfl)) (y_K2 hK) (fz_xs G) (fun hF => (fz_give (fz_xs G) hT.1 hS hF)) (ym_xi hM_261) pk_X9_product mw_2_196 ⟨rfl, rfl, Nat.le_of_ble_eq_true rfl, Nat.le_of_ble_eq_true rfl⟩ (va_recv (ci := 9) hK hP rfl (q0 := 0) rfl) rfl rfl (Nat.le_of_ble_eq_true rfl) ⟨Nat.le_of_ble_eq_true rfl, Nat.le_of_ble_eq_true rfl⟩ dL_law_702) (fun r_2 u_263 H locs hp hP hD hS => ?_)
          have hP : va_P D xcl (wdS a cyI cyJ τ_260 ++ ([] ++ E1)) H := hP
          have hD : va_D A (wdS a cyI cyJ τ_260 ++ ([] ++ E1)) := hD
          rw [show r_2 = (-9 : Int32) from hp]
          refine lv_bipush (v := (-9 : Int32)) hx hb dL_law_705 (by decide) ?_
          refine lv_icmp_ne (tgt := 758) hx hb dL_law_707 (by decide) (fun hc => absurd rfl hc) (fun _ => ?_)
          refine lv_aload_n hx hb dL_law_710 rfl (lv_at hl 8 rfl) ?_
          refine lv_iload hx hb dL_law_711 (lv_at hl 11 rfl) ?_
          refine lv_iload hx hb dL_law_713 (lv_at hl 4 rfl) ?_
          refine lv_iadd hx hb dL_law_715 ?_
          rw [show ((nI (qz_D n)) + (nI x)) = (nI (qz_D n + x)) from nI_add (qz_D n) x]
          refine lv_iload hx hb dL_law_716 (lv_at hl 11 rfl) ?_
          refine lv_iload hx hb dL_law_718 (lv_at hl 5 rfl) ?_
          refine lv_iadd hx hb dL_law_720 ?_
          rw [show ((nI (qz_D n)) + (nI y)) = (nI (qz_D n + y)) from nI_add (qz_D n) y]
          obtain ⟨τ_264, hR_266, hM_265⟩ := mm_greatest l D cyI cyJ G a H.size hR_262 (show n < 9 by omega) hx9 hy9
          refine yr_i Cx hP hD hS (yq_front (S := Unit) (wdS a cyI cyJ τ_260) ([] ++ E1) (fun _ => wdS a cyI cyJ τ_264) 28 (fun _ => rfl)) (yx_V (n := 2) (As := [.int (nI (qz_D n + x)), .int (nI (qz_D n + y))]) (rest := []) Cx hP hD hS hl (yq_front (S := Unit) (wdS a cyI cyJ τ_260) ([] ++ E1) (fun _ => wdS a cyI cyJ τ_264) 28 (fun _ => rfl)) (y_K2 hK) (fz_xs G) (fun hF => (fz_give (fz_xs G) hT.1 hS hF)) (ym_xi hM_265) pk_X9_greatest mw_2_217 ⟨rfl, rfl, Nat.le_of_ble_eq_true rfl, Nat.le_of_ble_eq_true rfl⟩ (va_recv (ci := 9) hK hP rfl (q0 := 0) rfl) rfl rfl (Nat.le_of_ble_eq_true rfl) ⟨Nat.le_of_ble_eq_true rfl, Nat.le_of_ble_eq_true rfl⟩ dL_law_721) (fun r_3 u_267 H locs hp hP hD hS => ?_)
          have hP : va_P D xcl (wdS a cyI cyJ τ_264 ++ ([] ++ E1)) H := hP
          have hD : va_D A (wdS a cyI cyJ τ_264 ++ ([] ++ E1)) := hD
          rw [show r_3 = (mxC n x y (qz_N n)) from hp]
          refine lv_iload hx hb dL_law_724 (lv_at hl 2 rfl) ?_
          refine lv_icmp_ne (tgt := 758) hx hb dL_law_726 (by decide) (fun hc => absurd rfl hc) (fun _ => ?_)
          refine lv_lload hx hb dL_law_729 (lv_at hl 3 rfl) ?_
          refine lv_aload hx hb dL_law_731 (lv_at hl 13 rfl) ?_
          refine lv_iload hx hb dL_law_733 (lv_at hl 4 rfl) ?_
          refine yf_qld hx hb (va_T.kept hT.2.2.2.2.2.1 hS.2.1) rfl (vp_in_nI (show x < (qz_N n) by omega) (by omega)) dL_law_735 ?_
          rw [nI_clamp (show x < 2 ^ 31 by omega)]
          refine lv_iload hx hb dL_law_736 (lv_at hl 12 rfl) ?_
          refine lv_iconst (v := (1 : Int32)) hx hb dL_law_738 (by decide) ?_
          refine lv_isub hx hb dL_law_739 ?_
          rw [show ((nI (qz_N n)) - (1 : Int32)) = (nI (qz_N n - 1)) from nI_subN (a := qz_N n) (b := 1) (by omega)]
          refine yf_ild hx hb (va_T.kept (hT.2.2.2.2.2.2 x (by omega)) hS.2.1) (vp_in_nI (show (qz_N n - 1) < (qz_N n) by omega) (by omega)) (v := (tc n x (qz_N n - 1))) (by rw [nI_clamp (show (qz_N n - 1) < 2 ^ 31 by omega)]; exact lp_tb n hn x hx9 (qz_N n - 1) (by omega)) dL_law_740 ?_
          refine lv_i2l (v := Int32.toInt64 (tc n x (qz_N n - 1))) hx hb dL_law_741 rfl ?_
          refine lv_aload hx hb dL_law_742 (lv_at hl 13 rfl) ?_
          refine lv_iload hx hb dL_law_744 (lv_at hl 5 rfl) ?_
          refine yf_qld hx hb (va_T.kept hT.2.2.2.2.2.1 hS.2.1) rfl (vp_in_nI (show y < (qz_N n) by omega) (by omega)) dL_law_746 ?_
          rw [nI_clamp (show y < 2 ^ 31 by omega)]
          refine lv_iload hx hb dL_law_747 (lv_at hl 12 rfl) ?_
          refine lv_iconst (v := (1 : Int32)) hx hb dL_law_749 (by decide) ?_
          refine lv_isub hx hb dL_law_750 ?_
          rw [show ((nI (qz_N n)) - (1 : Int32)) = (nI (qz_N n - 1)) from nI_subN (a := qz_N n) (b := 1) (by omega)]
          refine yf_ild hx hb (va_T.kept (hT.2.2.2.2.2.2 y (by omega)) hS.2.1) (vp_in_nI (show (qz_N n - 1) < (qz_N n) by omega) (by omega)) (v := (tc n y (qz_N n - 1))) (by rw [nI_clamp (show (qz_N n - 1) < 2 ^ 31 by omega)]; exact lp_tb n hn y hy9 (qz_N n - 1) (by omega)) dL_law_751 ?_
          refine lv_i2l (v := Int32.toInt64 (tc n y (qz_N n - 1))) hx hb dL_law_752 rfl ?_
          refine lv_lmul hx hb dL_law_753 ?_
          refine W.lcmp hx hb dL_law_754 ?_
          refine lv_if_eq (tgt := 760) hx hb dL_law_755 (by decide) (fun _ => ?_) (fun hc => absurd (lg0 (lp_dims n hn x hx9 y hy9)) hc)
          refine lv_iinc (v := ((nI t) + (1 : Int32))) (lv' := [(9, .int ((nI t) + (1 : Int32))), (17, .int (nI (qz_N n))), (13, .int (nI (prC n x y (qz_N n)))), (14, .int (mxC n x y (qz_N n))), (15, .long (dSum n x y (qz_N n))), (11, .int (nI x)), (12, .int (nI y)), (0, .ref b), (1, .ref (a 0)), (2, .ref al), (3, .int (nI n)), (4, .int (nI (qz_D n))), (5, .int (nI (qz_N n))), (6, .ref tq), (7, .long (Int32.toInt64 (xi_FACTORIALS n)))]) hx hb dL_law_760 hl (k := 6) rfl rfl (by decide) rfl (fun ls hl => ?_)
          refine lv_goto (tgt := 348) hx hb dL_law_763 (by decide) ?_
          rw [show ((nI t) + (1 : Int32)) = (nI (t + 1)) from (nI_1 t)] at hl
          exact ih_348 (t + 1) τ_264 H _ ls hR_266 (by omega) hP hD hS (lv_sub hl [0, 7, 8, 9, 10, 11, 12, 13, 14] rfl)
        | succ d2 ih_395 =>
          intro c1 ρ H locs ls hR_268 hc2 hP hD hS hl
          have hc9 : c1 < qz_N n := by omega
          refine lv_iload hx hb dL_law_395 (lv_at hl 0 rfl) ?_
          refine lv_iload hx hb dL_law_397 (lv_at hl 12 rfl) ?_
          refine lv_icmp_ge (tgt := 669) hx hb dL_law_399 (by decide) (fun hc => absurd hc (nI_ge (by omega) (by omega))) (fun _ => ?_)
          refine lv_lconst (v := (0 : Int64)) hx hb dL_law_402 (by decide) ?_
          refine lv_lstore (lv' := [(18, .long (0 : Int64)), (17, .int (nI c1)), (13, .int (nI (prC n x y c1))), (14, .int (mxC n x y c1)), (15, .long (dSum n x y c1)), (11, .int (nI x)), (12, .int (nI y)), (9, .int (nI t)), (0, .ref b), (1, .ref (a 0)), (2, .ref al), (3, .int (nI n)), (4, .int (nI (qz_D n))), (5, .int (nI (qz_N n))), (6, .ref tq), (7, .long (Int32.toInt64 (xi_FACTORIALS n)))]) hx hb dL_law_403 hl (by decide) rfl (fun ls hl => ?_)
          refine lv_iconst (v := (0 : Int32)) hx hb dL_law_405 (by decide) ?_
          refine lv_istore (lv' := [(20, .int (0 : Int32)), (18, .long (0 : Int64)), (17, .int (nI c1)), (13, .int (nI (prC n x y c1))), (14, .int (mxC n x y c1)), (15, .long (dSum n x y c1)), (11, .int (nI x)), (12, .int (nI y)), (9, .int (nI t)), (0, .ref b), (1, .ref (a 0)), (2, .ref al), (3, .int (nI n)), (4, .int (nI (qz_D n))), (5, .int (nI (qz_N n))), (6, .ref tq), (7, .long (Int32.toInt64 (xi_FACTORIALS n)))]) hx hb dL_law_406 hl (by decide) rfl (fun ls hl => ?_)
          have w_408 : ∀ (d3 : Nat) (p : Nat) (κ : CS) (H : Heap) (locs : List Loc) (ls : Array Slot), Rc κ S [] → p + d3 = qz_N n → va_P D xcl (wdS a cyI cyJ κ ++ ([] ++ E1)) H → va_D A (wdS a cyI cyJ κ ++ ([] ++ E1)) → va_S A H0 H locs → lv_has ls 28 [(20, .int (nI p)), (18, .long (nuS n x y c1 p)), (17, .int (nI c1)), (13, .int (nI (prC n x y c1))), (14, .int (mxC n x y c1)), (15, .long (dSum n x y c1)), (11, .int (nI x)), (12, .int (nI y)), (9, .int (nI t)), (0, .ref b), (1, .ref (a 0)), (2, .ref al), (3, .int (nI n)), (4, .int (nI (qz_D n))), (5, .int (nI (qz_N n))), (6, .ref tq), (7, .long (Int32.toInt64 (xi_FACTORIALS n)))] → W p0 l e room_1 s m #[Value.ref b] below meth c H locs 930 20400 (lw_Z below #[Value.ref b] s) (F0 m 408 ls []) := by
            intro d3
            induction d3 with
            | zero =>
              intro p κ H locs ls hR_269 hp2 hP hD hS hl
              obtain rfl : p = qz_N n := by omega
              have hnu := lp_nu n hn x hx9 y hy9 c1 hc9
              have hsy := lp_nuS n hn x hx9 y hy9 c1 hc9
              refine lv_iload hx hb dL_law_408 (lv_at hl 0 rfl) ?_
              refine lv_iload hx hb dL_law_410 (lv_at hl 14 rfl) ?_
              refine lv_icmp_ge (tgt := 467) hx hb dL_law_412 (by decide) (fun _ => ?_) (fun hc => absurd (Int32.le_refl _) hc)
              refine lv_aload_n hx hb dL_law_467 rfl (lv_at hl 10 rfl) ?_
              refine lv_iload hx hb dL_law_468 (lv_at hl 13 rfl) ?_
              refine lv_iload hx hb dL_law_470 (lv_at hl 6 rfl) ?_
              refine lv_iadd hx hb dL_law_472 ?_
              rw [show ((nI (qz_D n)) + (nI x)) = (nI (qz_D n + x)) from nI_add (qz_D n) x]
              refine lv_iload hx hb dL_law_473 (lv_at hl 13 rfl) ?_
              refine lv_iload hx hb dL_law_475 (lv_at hl 7 rfl) ?_
              refine lv_iadd hx hb dL_law_477 ?_
              rw [show ((nI (qz_D n)) + (nI y)) = (nI (qz_D n + y)) from nI_add (qz_D n) y]
              refine lv_iload hx hb dL_law_478 (lv_at hl 13 rfl) ?_
              refine lv_iload hx hb dL_law_480 (lv_at hl 2 rfl) ?_
              refine lv_iadd hx hb dL_law_482 ?_
              rw [show ((nI (qz_D n)) + (nI c1)) = (nI (qz_D n + c1)) from nI_add (qz_D n) c1]
              obtain ⟨τ_270, hR_272, hM_271⟩ := mm_number l D cyI cyJ G a H.size hR_269 (show n < 9 by omega) hx9 hy9 hc9
              refine yr_i Cx hP hD hS (yq_front (S := Unit) (wdS a cyI cyJ κ) ([] ++ E1) (fun _ => wdS a cyI cyJ τ_270) 28 (fun _ => rfl)) (yx_V (n := 3) (As := [.int (nI (qz_D n + x)), .int (nI (qz_D n + y)), .int (nI (qz_D n + c1))]) (rest := []) Cx hP hD hS hl (yq_front (S := Unit) (wdS a cyI cyJ κ) ([] ++ E1) (fun _ => wdS a cyI cyJ τ_270) 28 (fun _ => rfl)) (y_K2 hK) (fz_xs G) (fun hF => (fz_give (fz_xs G) hT.1 hS hF)) (ym_xi hM_271) pk_X9_number mw_2_161 ⟨rfl, rfl, Nat.le_of_ble_eq_true rfl, Nat.le_of_ble_eq_true rfl⟩ (va_recv (ci := 9) hK hP rfl (q0 := 0) rfl) rfl rfl (Nat.le_of_ble_eq_true rfl) ⟨Nat.le_of_ble_eq_true rfl, Nat.le_of_ble_eq_true rfl⟩ dL_law_483) (fun r_1 u_273 H locs hp hP hD hS => ?_)
              have hP : va_P D xcl (wdS a cyI cyJ τ_270 ++ ([] ++ E1)) H := hP
              have hD : va_D A (wdS a cyI cyJ τ_270 ++ ([] ++ E1)) := hD
              rw [show r_1 = (nuV n x y c1) from hp]
              refine lv_istore (lv' := [(20, .int (nuV n x y c1)), (18, .long (nuS n x y c1 (qz_N n))), (17, .int (nI c1)), (13, .int (nI (prC n x y c1))), (14, .int (mxC n x y c1)), (15, .long (dSum n x y c1)), (11, .int (nI x)), (12, .int (nI y)), (9, .int (nI t)), (0, .ref b), (1, .ref (a 0)), (2, .ref al), (3, .int (nI n)), (4, .int (nI (qz_D n))), (5, .int (nI (qz_N n))), (6, .ref tq), (7, .long (Int32.toInt64 (xi_FACTORIALS n)))]) hx hb dL_law_486 hl (by decide) rfl (fun ls hl => ?_)
              refine lv_lload hx hb dL_law_488 (lv_at hl 1 rfl) ?_
              refine lv_iload hx hb dL_law_490 (lv_at hl 0 rfl) ?_
              refine lv_i2l (v := Int32.toInt64 (nuV n x y c1)) hx hb dL_law_492 rfl ?_
              refine lv_lload hx hb dL_law_493 (lv_at hl 16 rfl) ?_
              refine lv_lmul hx hb dL_law_495 ?_
              refine W.lcmp hx hb dL_law_496 ?_
              refine lv_if_ne (tgt := 505) hx hb dL_law_497 (by decide) (fun hc => absurd (lg0 hnu.1) hc) (fun _ => ?_)
              refine lv_iload hx hb dL_law_500 (lv_at hl 0 rfl) ?_
              refine lv_if_ge (tgt := 507) hx hb dL_law_502 (by decide) (fun _ => ?_) (fun hc => absurd (Int32.not_lt.mp hnu.2) hc)
              refine lv_iload hx hb dL_law_507 (lv_at hl 0 rfl) ?_
              have w_541 : ∀ (κ2 : CS) (H : Heap) (locs : List Loc) (ls : Array Slot), Rc κ2 S [] → va_P D xcl (wdS a cyI cyJ κ2 ++ ([] ++ E1)) H → va_D A (wdS a cyI cyJ κ2 ++ ([] ++ E1)) → va_S A H0 H locs → lv_has ls 28 [(20, .int (nuV n x y c1)), (18, .long (nuS n x y c1 (qz_N n))), (17, .int (nI c1)), (13, .int (nI (prC n x y (c1 + 1)))), (14, .int (mxC n x y c1)), (15, .long (dSum n x y c1)), (11, .int (nI x)), (12, .int (nI y)), (9, .int (nI t)), (0, .ref b), (1, .ref (a 0)), (2, .ref al), (3, .int (nI n)), (4, .int (nI (qz_D n))), (5, .int (nI (qz_N n))), (6, .ref tq), (7, .long (Int32.toInt64 (xi_FACTORIALS n)))] → W p0 l e room_1 s m #[Value.ref b] below meth c H locs 930 20400 (lw_Z below #[Value.ref b] s) (F0 m 541 ls []) := by
                intro κ2 H locs ls hR_274 hP hD hS hl
                refine lv_iload hx hb dL_law_541 (lv_at hl 4 rfl) ?_
                refine lv_iload hx hb dL_law_543 (lv_at hl 0 rfl) ?_
                refine va_mmax hx hb (hml.trans hl.1.symm) hown (hts _ mw_5_55) (hts _ mw_2_180) (hts _ mw_1_12) (hts _ mw_2_181) (Nat.le_of_ble_eq_true rfl) (Nat.le_of_ble_eq_true rfl) (show 930 ≤ (600000 : Nat) by omega) (show 20400 ≤ (7302250 : Nat) by omega) dL_law_545 ?_
                rw [show (if mxC n x y c1 < (nuV n x y c1) then (nuV n x y c1) else mxC n x y c1) = mxC n x y (c1 + 1) from rfl]
                refine lv_istore (lv' := [(14, .int (mxC n x y (c1 + 1))), (20, .int (nuV n x y c1)), (18, .long (nuS n x y c1 (qz_N n))), (17, .int (nI c1)), (13, .int (nI (prC n x y (c1 + 1)))), (15, .long (dSum n x y c1)), (11, .int (nI x)), (12, .int (nI y)), (9, .int (nI t)), (0, .ref b), (1, .ref (a 0)), (2, .ref al), (3, .int (nI n)), (4, .int (nI (qz_D n))), (5, .int (nI (qz_N n))), (6, .ref tq), (7, .long (Int32.toInt64 (xi_FACTORIALS n)))]) hx hb dL_law_548 hl (by decide) rfl (fun ls hl => ?_)
                refine lv_lload hx hb dL_law_550 (lv_at hl 5 rfl) ?_
                refine lv_iload hx hb dL_law_552 (lv_at hl 1 rfl) ?_
                refine lv_i2l (v := Int32.toInt64 (nuV n x y c1)) hx hb dL_law_554 rfl ?_
                refine lv_aload hx hb dL_law_555 (lv_at hl 15 rfl) ?_
                refine lv_iload hx hb dL_law_557 (lv_at hl 3 rfl) ?_
                refine yf_qld hx hb (va_T.kept hT.2.2.2.2.2.1 hS.2.1) rfl (vp_in_nI (show c1 < (qz_N n) by omega) (by omega)) dL_law_559 ?_
                rw [nI_clamp (show c1 < 2 ^ 31 by omega)]
                refine lv_iload hx hb dL_law_560 (lv_at hl 14 rfl) ?_
                refine lv_iconst (v := (1 : Int32)) hx hb dL_law_562 (by decide) ?_
                refine lv_isub hx hb dL_law_563 ?_
                rw [show ((nI (qz_N n)) - (1 : Int32)) = (nI (qz_N n - 1)) from nI_subN (a := qz_N n) (b := 1) (by omega)]
                refine yf_ild hx hb (va_T.kept (hT.2.2.2.2.2.2 c1 (by omega)) hS.2.1) (vp_in_nI (show (qz_N n - 1) < (qz_N n) by omega) (by omega)) (v := (tc n c1 (qz_N n - 1))) (by rw [nI_clamp (show (qz_N n - 1) < 2 ^ 31 by omega)]; exact lp_tb n hn c1 hc9 (qz_N n - 1) (by omega)) dL_law_564 ?_
                refine lv_i2l (v := Int32.toInt64 (tc n c1 (qz_N n - 1))) hx hb dL_law_565 rfl ?_
                refine lv_lmul hx hb dL_law_566 ?_
                refine lv_ladd hx hb dL_law_567 ?_
                refine lv_lstore (lv' := [(15, .long ((dSum n x y c1) + ((Int32.toInt64 (nuV n x y c1)) * (Int32.toInt64 (tc n c1 (qz_N n - 1)))))), (14, .int (mxC n x y (c1 + 1))), (20, .int (nuV n x y c1)), (18, .long (nuS n x y c1 (qz_N n))), (17, .int (nI c1)), (13, .int (nI (prC n x y (c1 + 1)))), (11, .int (nI x)), (12, .int (nI y)), (9, .int (nI t)), (0, .ref b), (1, .ref (a 0)), (2, .ref al), (3, .int (nI n)), (4, .int (nI (qz_D n))), (5, .int (nI (qz_N n))), (6, .ref tq), (7, .long (Int32.toInt64 (xi_FACTORIALS n)))]) hx hb dL_law_568 hl (by decide) rfl (fun ls hl => ?_)
                refine lv_iload hx hb dL_law_570 (lv_at hl 4 rfl) ?_
                refine lv_iconst (v := (4 : Int32)) hx hb dL_law_572 (by decide) ?_
                have hl : lv_has ls 28 [(15, .long (dSum n x y (c1 + 1))), (14, .int (mxC n x y (c1 + 1))), (20, .int (nuV n x y c1)), (18, .long (nuS n x y c1 (qz_N n))), (17, .int (nI c1)), (13, .int (nI (prC n x y (c1 + 1)))), (11, .int (nI x)), (12, .int (nI y)), (9, .int (nI t)), (0, .ref b), (1, .ref (a 0)), (2, .ref al), (3, .int (nI n)), (4, .int (nI (qz_D n))), (5, .int (nI (qz_N n))), (6, .ref tq), (7, .long (Int32.toInt64 (xi_FACTORIALS n)))] := hl
                refine lv_irem hx hb dL_law_573 (by decide) ?_
                refine lv_iload hx hb dL_law_574 (lv_at hl 8 rfl) ?_
                have w_663 : ∀ (κ3 : CS) (H : Heap) (locs : List Loc) (ls : Array Slot), Rc κ3 S [] → va_P D xcl (wdS a cyI cyJ κ3 ++ ([] ++ E1)) H → va_D A (wdS a cyI cyJ κ3 ++ ([] ++ E1)) → va_S A H0 H locs → lv_has ls 28 [(15, .long (dSum n x y (c1 + 1))), (14, .int (mxC n x y (c1 + 1))), (20, .int (nuV n x y c1)), (18, .long (nuS n x y c1 (qz_N n))), (17, .int (nI c1)), (13, .int (nI (prC n x y (c1 + 1)))), (11, .int (nI x)), (12, .int (nI y)), (9, .int (nI t)), (0, .ref b), (1, .ref (a 0)), (2, .ref al), (3, .int (nI n)), (4, .int (nI (qz_D n))), (5, .int (nI (qz_N n))), (6, .ref tq), (7, .long (Int32.toInt64 (xi_FACTORIALS n)))] → W p0 l e room_1 s m #[Value.ref b] below meth c H locs 930 20400 (lw_Z below #[Value.ref b] s) (F0 m 663 ls []) := by
                  intro κ3 H locs ls hR_275 hP hD hS hl
                  refine lv_iinc (v := ((nI c1) + (1 : Int32))) (lv' := [(17, .int ((nI c1) + (1 : Int32))), (15, .long (dSum n x y (c1 + 1))), (14, .int (mxC n x y (c1 + 1))), (20, .int (nuV n x y c1)), (18, .long (nuS n x y c1 (qz_N n))), (13, .int (nI (prC n x y (c1 + 1)))), (11, .int (nI x)), (12, .int (nI y)), (9, .int (nI t)), (0, .ref b), (1, .ref (a 0)), (2, .ref al), (3, .int (nI n)), (4, .int (nI (qz_D n))), (5, .int (nI (qz_N n))), (6, .ref tq), (7, .long (Int32.toInt64 (xi_FACTORIALS n)))]) hx hb dL_law_663 hl (k := 4) rfl rfl (by decide) rfl (fun ls hl => ?_)
                  refine lv_goto (tgt := 395) hx hb dL_law_666 (by decide) ?_
                  rw [show ((nI c1) + (1 : Int32)) = (nI (c1 + 1)) from (nI_1 c1)] at hl
                  exact ih_395 (c1 + 1) κ3 H _ ls hR_275 (by omega) hP hD hS (lv_sub hl [0, 5, 2, 1, 6, 7, 8, 9, 10, 11, 12, 13, 14, 15, 16] rfl)
                refine lv_icmp_ne (tgt := 663) hx hb dL_law_576 (by decide) (fun hc => ?_) (fun hc => ?_)
                · exact w_663 κ2 H _ ls hR_274 hP hD hS hl
                · refine lv_aload_n hx hb dL_law_579 rfl (lv_at hl 10 rfl) ?_
                  refine lv_iload hx hb dL_law_580 (lv_at hl 13 rfl) ?_
                  refine lv_iload hx hb dL_law_582 (lv_at hl 4 rfl) ?_
                  refine lv_iadd hx hb dL_law_584 ?_
                  rw [show ((nI (qz_D n)) + (nI c1)) = (nI (qz_D n + c1)) from nI_add (qz_D n) c1]
                  refine lv_iload hx hb dL_law_585 (lv_at hl 13 rfl) ?_
                  refine lv_iload hx hb dL_law_587 (lv_at hl 6 rfl) ?_
                  refine lv_iadd hx hb dL_law_589 ?_
                  rw [show ((nI (qz_D n)) + (nI x)) = (nI (qz_D n + x)) from nI_add (qz_D n) x]
                  refine lv_iload hx hb dL_law_590 (lv_at hl 13 rfl) ?_
                  refine lv_iload hx hb dL_law_592 (lv_at hl 7 rfl) ?_
                  refine lv_iadd hx hb dL_law_594 ?_
                  rw [show ((nI (qz_D n)) + (nI y)) = (nI (qz_D n + y)) from nI_add (qz_D n) y]
                  obtain ⟨τ_276, hR_278, hM_277⟩ := mm_number l D cyI cyJ G a H.size hR_274 (show n < 9 by omega) hc9 hx9 hy9
                  refine yr_i Cx hP hD hS (yq_front (S := Unit) (wdS a cyI cyJ κ2) ([] ++ E1) (fun _ => wdS a cyI cyJ τ_276) 28 (fun _ => rfl)) (yx_V (n := 3) (As := [.int (nI (qz_D n + c1)), .int (nI (qz_D n + x)), .int (nI (qz_D n + y))]) (rest := []) Cx hP hD hS hl (yq_front (S := Unit) (wdS a cyI cyJ κ2) ([] ++ E1) (fun _ => wdS a cyI cyJ τ_276) 28 (fun _ => rfl)) (y_K2 hK) (fz_xs G) (fun hF => (fz_give (fz_xs G) hT.1 hS hF)) (ym_xi hM_277) pk_X9_number mw_2_161 ⟨rfl, rfl, Nat.le_of_ble_eq_true rfl, Nat.le_of_ble_eq_true rfl⟩ (va_recv (ci := 9) hK hP rfl (q0 := 0) rfl) rfl rfl (Nat.le_of_ble_eq_true rfl) ⟨Nat.le_of_ble_eq_true rfl, Nat.le_of_ble_eq_true rfl⟩ dL_law_595) (fun r_1 u_279 H locs hp hP hD hS => ?_)
                  have hP : va_P D xcl (wdS a cyI cyJ τ_276 ++ ([] ++ E1)) H := hP
                  have hD : va_D A (wdS a cyI cyJ τ_276 ++ ([] ++ E1)) := hD
                  rw [show r_1 = (nuV n c1 x y) from hp]
                  refine lv_iload hx hb dL_law_598 (lv_at hl 2 rfl) ?_
                  refine lv_icmp_ne (tgt := 661) hx hb dL_law_600 (by decide) (fun hc => absurd hsy.1 hc) (fun _ => ?_)
                  refine lv_aload_n hx hb dL_law_603 rfl (lv_at hl 10 rfl) ?_
                  refine lv_iload hx hb dL_law_604 (lv_at hl 13 rfl) ?_
                  refine lv_iload hx hb dL_law_606 (lv_at hl 7 rfl) ?_
                  refine lv_iadd hx hb dL_law_608 ?_
                  rw [show ((nI (qz_D n)) + (nI y)) = (nI (qz_D n + y)) from nI_add (qz_D n) y]
                  refine lv_iload hx hb dL_law_609 (lv_at hl 13 rfl) ?_
                  refine lv_iload hx hb dL_law_611 (lv_at hl 6 rfl) ?_
                  refine lv_iadd hx hb dL_law_613 ?_
                  rw [show ((nI (qz_D n)) + (nI x)) = (nI (qz_D n + x)) from nI_add (qz_D n) x]
                  refine lv_iload hx hb dL_law_614 (lv_at hl 13 rfl) ?_
                  refine lv_iload hx hb dL_law_616 (lv_at hl 4 rfl) ?_
                  refine lv_iadd hx hb dL_law_618 ?_
                  rw [show ((nI (qz_D n)) + (nI c1)) = (nI (qz_D n + c1)) from nI_add (qz_D n) c1]
                  obtain ⟨τ_280, hR_282, hM_281⟩ := mm_number l D cyI cyJ G a H.size hR_278 (show n < 9 by omega) hy9 hx9 hc9
                  refine yr_i Cx hP hD hS (yq_front (S := Unit) (wdS a cyI cyJ τ_276) ([] ++ E1) (fun _ => wdS a cyI cyJ τ_280) 28 (fun _ => rfl)) (yx_V (n := 3) (As := [.int (nI (qz_D n + y)), .int (nI (qz_D n + x)), .int (nI (qz_D n + c1))]) (rest := []) Cx hP hD hS hl (yq_front (S := Unit) (wdS a cyI cyJ τ_276) ([] ++ E1) (fun _ => wdS a cyI cyJ τ_280) 28 (fun _ => rfl)) (y_K2 hK) (fz_xs G) (fun hF => (fz_give (fz_xs G) hT.1 hS hF)) (ym_xi hM_281) pk_X9_number mw_2_161 ⟨rfl, rfl, Nat.le_of_ble_eq_true rfl, Nat.le_of_ble_eq_true rfl⟩ (va_recv (ci := 9) hK hP rfl (q0 := 0) rfl) rfl rfl (Nat.le_of_ble_eq_true rfl) ⟨Nat.le_of_ble_eq_true rfl, Nat.le_of_ble_eq_true rfl⟩ dL_law_619) (fun r_2 u_283 H locs hp hP hD hS => ?_)
                  have hP : va_P D xcl (wdS a cyI cyJ τ_280 ++ ([] ++ E1)) H := hP
                  have hD : va_D A (wdS a cyI cyJ τ_280 ++ ([] ++ E1)) := hD
                  rw [show r_2 = (nuV n y x c1) from hp]
                  refine lv_iload hx hb dL_law_622 (lv_at hl 2 rfl) ?_
                  refine lv_icmp_ne (tgt := 661) hx hb dL_law_624 (by decide) (fun hc => absurd hsy.2.1 hc) (fun _ => ?_)
                  refine lv_aload_n hx hb dL_law_627 rfl (lv_at hl 10 rfl) ?_
                  refine lv_aload_n hx hb dL_law_628 rfl (lv_at hl 10 rfl) ?_
                  refine lv_iload hx hb dL_law_629 (lv_at hl 13 rfl) ?_
                  refine lv_iload hx hb dL_law_631 (lv_at hl 6 rfl) ?_
                  refine lv_iadd hx hb dL_law_633 ?_
                  rw [show ((nI (qz_D n)) + (nI x)) = (nI (qz_D n + x)) from nI_add (qz_D n) x]
                  refine lv_iconst (v := (2 : Int32)) hx hb dL_law_634 (by decide) ?_
                  have htx := lp_tu n (by omega) x hx9
                  have htc := lp_tu n (by omega) c1 hc9
                  obtain ⟨τ_284, hR_286, hM_285⟩ := mm_of l D cyI cyJ G a H.size hR_282 (k := (qz_D n + x)) (w := 2) (by omega) (Or.inl (by decide))
                  refine yr_i Cx hP hD hS (yq_front (S := Unit) (wdS a cyI cyJ τ_280) ([] ++ E1) (fun _ => wdS a cyI cyJ τ_284) 28 (fun _ => rfl)) (yx_V (n := 2) (As := [.int (nI (qz_D n + x)), .int (2 : Int32)]) (rest := [.ref (a 0)]) Cx hP hD hS hl (yq_front (S := Unit) (wdS a cyI cyJ τ_280) ([] ++ E1) (fun _ => wdS a cyI cyJ τ_284) 28 (fun _ => rfl)) (y_K2 hK) (fz_xs G) (fun hF => (fz_give (fz_xs G) hT.1 hS hF)) (ym_xi hM_285) pk_X9_of mw_2_105 ⟨rfl, rfl, Nat.le_of_ble_eq_true rfl, Nat.le_of_ble_eq_true rfl⟩ (va_recv (ci := 9) hK hP rfl (q0 := 0) rfl) rfl rfl (Nat.le_of_ble_eq_true rfl) ⟨Nat.le_of_ble_eq_true rfl, Nat.le_of_ble_eq_true rfl⟩ dL_law_635) (fun r_3 u_287 H locs hp hP hD hS => ?_)
                  have hP : va_P D xcl (wdS a cyI cyJ τ_284 ++ ([] ++ E1)) H := hP
                  have hD : va_D A (wdS a cyI cyJ τ_284 ++ ([] ++ E1)) := hD
                  rw [show r_3 = (nI (qz_turn (qz_D n + x))) from hp]
                  rw [show (nI (qz_turn (qz_D n + x))) = (nI (qz_D n + tuP n x)) from congrArg nI htx.1]
                  refine lv_iload hx hb dL_law_638 (lv_at hl 13 rfl) ?_
                  refine lv_iload hx hb dL_law_640 (lv_at hl 7 rfl) ?_
                  refine lv_iadd hx hb dL_law_642 ?_
                  rw [show ((nI (qz_D n)) + (nI y)) = (nI (qz_D n + y)) from nI_add (qz_D n) y]
                  refine lv_aload_n hx hb dL_law_643 rfl (lv_at hl 10 rfl) ?_
                  refine lv_iload hx hb dL_law_644 (lv_at hl 13 rfl) ?_
                  refine lv_iload hx hb dL_law_646 (lv_at hl 4 rfl) ?_
                  refine lv_iadd hx hb dL_law_648 ?_
                  rw [show ((nI (qz_D n)) + (nI c1)) = (nI (qz_D n + c1)) from nI_add (qz_D n) c1]
                  refine lv_iconst (v := (2 : Int32)) hx hb dL_law_649 (by decide) ?_
                  obtain ⟨τ_288, hR_290, hM_289⟩ := mm_of l D cyI cyJ G a H.size hR_286 (k := (qz_D n + c1)) (w := 2) (by omega) (Or.inl (by decide))
                  refine yr_i Cx hP hD hS (yq_front (S := Unit) (wdS a cyI cyJ τ_284) ([] ++ E1) (fun _ => wdS a cyI cyJ τ_288) 28 (fun _ => rfl)) (yx_V (n := 2) (As := [.int (nI (qz_D n + c1)), .int (2 : Int32)]) (rest := [.int (nI (qz_D n + y)), .int (nI (qz_D n + tuP n x)), .ref (a 0)]) Cx hP hD hS hl (yq_front (S := Unit) (wdS a cyI cyJ τ_284) ([] ++ E1) (fun _ => wdS a cyI cyJ τ_288) 28 (fun _ => rfl)) (y_K2 hK) (fz_xs G) (fun hF => (fz_give (fz_xs G) hT.1 hS hF)) (ym_xi hM_289) pk_X9_of mw_2_105 ⟨rfl, rfl, Nat.le_of_ble_eq_true rfl, Nat.le_of_ble_eq_true rfl⟩ (va_recv (ci := 9) hK hP rfl (q0 := 0) rfl) rfl rfl (Nat.le_of_ble_eq_true rfl) ⟨Nat.le_of_ble_eq_true rfl, Nat.le_of_ble_eq_true rfl⟩ dL_law_650) (fun r_4 u_291 H locs hp hP hD hS => ?_)
                  have hP : va_P D xcl (wdS a cyI cyJ τ_288 ++ ([] ++ E1)) H := hP
                  have hD : va_D A (wdS a cyI cyJ τ_288 ++ ([] ++ E1)) := hD
                  rw [show r_4 = (nI (qz_turn (qz_D n + c1))) from hp]
                  rw [show (nI (qz_turn (qz_D n + c1))) = (nI (qz_D n + tuP n c1)) from congrArg nI htc.1]
                  obtain ⟨τ_292, hR_294, hM_293⟩ := mm_number l D cyI cyJ G a H.size hR_290 (show n < 9 by omega) htx.2 hy9 htc.2
                  refine yr_i Cx hP hD hS (yq_front (S := Unit) (wdS a cyI cyJ τ_288) ([] ++ E1) (fun _ => wdS a cyI cyJ τ_292) 28 (fun _ => rfl)) (yx_V (n := 3) (As := [.int (nI (qz_D n + tuP n x)), .int (nI (qz_D n + y)), .int (nI (qz_D n + tuP n c1))]) (rest := []) Cx hP hD hS hl (yq_front (S := Unit) (wdS a cyI cyJ τ_288) ([] ++ E1) (fun _ => wdS a cyI cyJ τ_292) 28 (fun _ => rfl)) (y_K2 hK) (fz_xs G) (fun hF => (fz_give (fz_xs G) hT.1 hS hF)) (ym_xi hM_293) pk_X9_number mw_2_161 ⟨rfl, rfl, Nat.le_of_ble_eq_true rfl, Nat.le_of_ble_eq_true rfl⟩ (va_recv (ci := 9) hK hP rfl (q0 := 0) rfl) rfl rfl (Nat.le_of_ble_eq_true rfl) ⟨Nat.le_of_ble_eq_true rfl, Nat.le_of_ble_eq_true rfl⟩ dL_law_653) (fun r_5 u_295 H locs hp hP hD hS => ?_)
                  have hP : va_P D xcl (wdS a cyI cyJ τ_292 ++ ([] ++ E1)) H := hP
                  have hD : va_D A (wdS a cyI cyJ τ_292 ++ ([] ++ E1)) := hD
                  rw [show r_5 = (nuV n (tuP n x) y (tuP n c1)) from hp]
                  refine lv_iload hx hb dL_law_656 (lv_at hl 2 rfl) ?_
                  refine lv_icmp_eq (tgt := 663) hx hb dL_law_658 (by decide) (fun _ => ?_) (fun hc => absurd hsy.2.2 hc)
                  exact w_663 τ_292 H _ ls hR_294 hP hD hS hl
              refine lv_if_le (tgt := 541) hx hb dL_law_509 (by decide) (fun hc => ?_) (fun hc => ?_)
              · have hpr : prC n x y c1 = prC n x y (c1 + 1) := (if_neg (Int32.not_lt.mpr hc)).symm
                rw [hpr] at hl
                exact w_541 τ_270 H _ ls hR_272 hP hD hS (lv_sub hl [0, 1, 2, 3, 4, 5, 6, 7, 8, 9, 10, 11, 12, 13, 14, 15, 16] rfl)
              · have hpos : 0 < (nuV n x y c1) := Int32.not_le.mp hc
                have hpr : prC n x y c1 + 1 = prC n x y (c1 + 1) := (if_pos hpos).symm
                refine lv_aload_n hx hb dL_law_512 rfl (lv_at hl 10 rfl) ?_
                refine lv_iload hx hb dL_law_513 (lv_at hl 13 rfl) ?_
                refine lv_iload hx hb dL_law_515 (lv_at hl 6 rfl) ?_
                refine lv_iadd hx hb dL_law_517 ?_
                rw [show ((nI (qz_D n)) + (nI x)) = (nI (qz_D n + x)) from nI_add (qz_D n) x]
                refine lv_iload hx hb dL_law_518 (lv_at hl 13 rfl) ?_
                refine lv_iload hx hb dL_law_520 (lv_at hl 7 rfl) ?_
                refine lv_iadd hx hb dL_law_522 ?_
                rw [show ((nI (qz_D n)) + (nI y)) = (nI (qz_D n + y)) from nI_add (qz_D n) y]
                refine lv_iload hx hb dL_law_523 (lv_at hl 3 rfl) ?_
                refine lv_iinc (v := ((nI (prC n x y c1)) + (1 : Int32))) (lv' := [(13, .int ((nI (prC n x y c1)) + (1 : Int32))), (20, .int (nuV n x y c1)), (18, .long (nuS n x y c1 (qz_N n))), (17, .int (nI c1)), (14, .int (mxC n x y c1)), (15, .long (dSum n x y c1)), (11, .int (nI x)), (12, .int (nI y)), (9, .int (nI t)), (0, .ref b), (1, .ref (a 0)), (2, .ref al), (3, .int (nI n)), (4, .int (nI (qz_D n))), (5, .int (nI (qz_N n))), (6, .ref tq), (7, .long (Int32.toInt64 (xi_FACTORIALS n)))]) hx hb dL_law_525 hl (k := 3) rfl rfl (by decide) rfl (fun ls hl => ?_)
                rw [show ((nI (prC n x y c1)) + (1 : Int32)) = (nI (prC n x y (c1 + 1))) from (nI_1 _).trans (congrArg nI hpr)] at hl
                obtain ⟨τ_296, hR_298, hM_297⟩ := mm_productAt l D cyI cyJ G a H.size hR_272 (show n < 9 by omega) hx9 hy9 hc9 hpos
                refine yr_i Cx hP hD hS (yq_front (S := Unit) (wdS a cyI cyJ τ_270) ([] ++ E1) (fun _ => wdS a cyI cyJ τ_296) 28 (fun _ => rfl)) (yx_V (n := 3) (As := [.int (nI (qz_D n + x)), .int (nI (qz_D n + y)), .int (nI (prC n x y c1))]) (rest := []) Cx hP hD hS hl (yq_front (S := Unit) (wdS a cyI cyJ τ_270) ([] ++ E1) (fun _ => wdS a cyI cyJ τ_296) 28 (fun _ => rfl)) (y_K2 hK) (fz_xs G) (fun hF => (fz_give (fz_xs G) hT.1 hS hF)) (ym_xi hM_297) pk_X9_product mw_2_196 ⟨rfl, rfl, Nat.le_of_ble_eq_true rfl, Nat.le_of_ble_eq_true rfl⟩ (va_recv (ci := 9) hK hP rfl (q0 := 0) rfl) rfl rfl (Nat.le_of_ble_eq_true rfl) ⟨Nat.le_of_ble_eq_true rfl, Nat.le_of_ble_eq_true rfl⟩ dL_law_528) (fun r_2 u_299 H locs hp hP hD hS => ?_)
                have hP : va_P D xcl (wdS a cyI cyJ τ_296 ++ ([] ++ E1)) H := hP
                have hD : va_D A (wdS a cyI cyJ τ_296 ++ ([] ++ E1)) := hD
                rw [show r_2 = (nI (qz_D n + c1)) from hp]
                refine lv_iload hx hb dL_law_531 (lv_at hl 13 rfl) ?_
                refine lv_iload hx hb dL_law_533 (lv_at hl 3 rfl) ?_
                refine lv_iadd hx hb dL_law_535 ?_
                rw [show ((nI (qz_D n)) + (nI c1)) = (nI (qz_D n + c1)) from nI_add (qz_D n) c1]
                refine lv_icmp_eq (tgt := 541) hx hb dL_law_536 (by decide) (fun _ => ?_) (fun hc => absurd rfl hc)
                exact w_541 τ_296 H _ ls hR_298 hP hD hS (lv_sub hl [1, 2, 3, 0, 4, 5, 6, 7, 8, 9, 10, 11, 12, 13, 14, 15, 16] rfl)
            | succ d3 ih_408 =>
              intro p κ H locs ls hR_300 hp2 hP hD hS hl
              refine lv_iload hx hb dL_law_408 (lv_at hl 0 rfl) ?_
              refine lv_iload hx hb dL_law_410 (lv_at hl 14 rfl) ?_
              refine lv_icmp_ge (tgt := 467) hx hb dL_law_412 (by decide) (fun hc => absurd hc (nI_ge (by omega) (by omega))) (fun _ => ?_)
              refine lv_lload hx hb dL_law_415 (lv_at hl 1 rfl) ?_
              refine lv_aload_n hx hb dL_law_417 rfl (lv_at hl 11 rfl) ?_
              refine lv_iload hx hb dL_law_418 (lv_at hl 13 rfl) ?_
              refine lv_iload hx hb dL_law_420 (lv_at hl 0 rfl) ?_
              refine lv_iadd hx hb dL_law_422 ?_
              rw [show ((nI (qz_D n)) + (nI p)) = (nI (qz_D n + p)) from nI_add (qz_D n) p]
              refine yf_qld hx hb (va_T.kept hT.2.1.1 hS.2.1) rfl (vp_in_nI (show (qz_D n + p) < 67 by omega) (by omega)) dL_law_423 ?_
              rw [nI_clamp (show (qz_D n + p) < 2 ^ 31 by omega)]
              refine yr_i Cx hP hD hS (yq_none (S := Unit) (wdS a cyI cyJ κ ++ ([] ++ E1))) (yx_S (n := 1) (As := [.ref (B (qz_D n + p))]) (rest := [.long (nuS n x y c1 p)]) Cx hP hD hS hl (yq_none (S := Unit) (wdS a cyI cyJ κ ++ ([] ++ E1))) hK (fz_ZI (B (qz_D n + p)) (sl (qz_D n + p)) (sr (qz_D n + p))) (fun hF => (fz_give (fz_ZI (B (qz_D n + p)) (sl (qz_D n + p)) (sr (qz_D n + p))) (hT.2.1.2 (qz_D n + p) (by omega)) hS hF)) (c_L_orders l D cyI cyJ cyB cyQ H.size (B (qz_D n + p)) (sl (qz_D n + p)) (qz_S (qz_D n + p)) (sr (qz_D n + p)) (by have := sl_small (qz_D n + p) (by omega); omega) (lp_ord (qz_D n + p) (by omega)).1 (lp_ord (qz_D n + p) (by omega)).2.1 (lp_ord (qz_D n + p) (by omega)).2.2.1) pk_L_orders mw_3_185 ⟨rfl, rfl, Nat.le_of_ble_eq_true rfl, Nat.le_of_ble_eq_true rfl⟩ rfl rfl (Nat.le_of_ble_eq_true rfl) ⟨Nat.le_of_ble_eq_true rfl, Nat.le_of_ble_eq_true rfl⟩ dL_law_424) (fun r_1 u_301 H locs hp hP hD hS => ?_)
              have hP : va_P D xcl (wdS a cyI cyJ κ ++ ([] ++ E1)) H := hP
              have hD : va_D A (wdS a cyI cyJ κ ++ ([] ++ E1)) := hD
              rw [show r_1 = tz_O (qz_D n + p) from hp.trans (lp_ord (qz_D n + p) (by omega)).2.2.2]
              refine lv_i2l (v := Int32.toInt64 (tz_O (qz_D n + p))) hx hb dL_law_427 rfl ?_
              refine lv_aload hx hb dL_law_428 (lv_at hl 15 rfl) ?_
              refine lv_iload hx hb dL_law_430 (lv_at hl 6 rfl) ?_
              refine yf_qld hx hb (va_T.kept hT.2.2.2.2.2.1 hS.2.1) rfl (vp_in_nI (show x < (qz_N n) by omega) (by omega)) dL_law_432 ?_
              rw [nI_clamp (show x < 2 ^ 31 by omega)]
              refine lv_iload hx hb dL_law_433 (lv_at hl 0 rfl) ?_
              refine yf_ild hx hb (va_T.kept (hT.2.2.2.2.2.2 x (by omega)) hS.2.1) (vp_in_nI (show p < (qz_N n) by omega) (by omega)) (v := (tc n x p)) (by rw [nI_clamp (show p < 2 ^ 31 by omega)]; exact lp_tb n hn x hx9 p (by omega)) dL_law_435 ?_
              refine lv_i2l (v := Int32.toInt64 (tc n x p)) hx hb dL_law_436 rfl ?_
              refine lv_lmul hx hb dL_law_437 ?_
              refine lv_aload hx hb dL_law_438 (lv_at hl 15 rfl) ?_
              refine lv_iload hx hb dL_law_440 (lv_at hl 7 rfl) ?_
              refine yf_qld hx hb (va_T.kept hT.2.2.2.2.2.1 hS.2.1) rfl (vp_in_nI (show y < (qz_N n) by omega) (by omega)) dL_law_442 ?_
              rw [nI_clamp (show y < 2 ^ 31 by omega)]
              refine lv_iload hx hb dL_law_443 (lv_at hl 0 rfl) ?_
              refine yf_ild hx hb (va_T.kept (hT.2.2.2.2.2.2 y (by omega)) hS.2.1) (vp_in_nI (show p < (qz_N n) by omega) (by omega)) (v := (tc n y p)) (by rw [nI_clamp (show p < 2 ^ 31 by omega)]; exact lp_tb n hn y hy9 p (by omega)) dL_law_445 ?_
              refine lv_i2l (v := Int32.toInt64 (tc n y p)) hx hb dL_law_446 rfl ?_
              refine lv_lmul hx hb dL_law_447 ?_
              refine lv_aload hx hb dL_law_448 (lv_at hl 15 rfl) ?_
              refine lv_iload hx hb dL_law_450 (lv_at hl 2 rfl) ?_
              refine yf_qld hx hb (va_T.kept hT.2.2.2.2.2.1 hS.2.1) rfl (vp_in_nI (show c1 < (qz_N n) by omega) (by omega)) dL_law_452 ?_
              rw [nI_clamp (show c1 < 2 ^ 31 by omega)]
              refine lv_iload hx hb dL_law_453 (lv_at hl 0 rfl) ?_
              refine yf_ild hx hb (va_T.kept (hT.2.2.2.2.2.2 c1 (by omega)) hS.2.1) (vp_in_nI (show p < (qz_N n) by omega) (by omega)) (v := (tc n c1 p)) (by rw [nI_clamp (show p < 2 ^ 31 by omega)]; exact lp_tb n hn c1 hc9 p (by omega)) dL_law_455 ?_
              refine lv_i2l (v := Int32.toInt64 (tc n c1 p)) hx hb dL_law_456 rfl ?_
              refine lv_lmul hx hb dL_law_457 ?_
              refine lv_ladd hx hb dL_law_458 ?_
              refine lv_lstore (lv' := [(18, .long ((nuS n x y c1 p) + ((((Int32.toInt64 (tz_O (qz_D n + p))) * (Int32.toInt64 (tc n x p))) * (Int32.toInt64 (tc n y p))) * (Int32.toInt64 (tc n c1 p))))), (20, .int (nI p)), (17, .int (nI c1)), (13, .int (nI (prC n x y c1))), (14, .int (mxC n x y c1)), (15, .long (dSum n x y c1)), (11, .int (nI x)), (12, .int (nI y)), (9, .int (nI t)), (0, .ref b), (1, .ref (a 0)), (2, .ref al), (3, .int (nI n)), (4, .int (nI (qz_D n))), (5, .int (nI (qz_N n))), (6, .ref tq), (7, .long (Int32.toInt64 (xi_FACTORIALS n)))]) hx hb dL_law_459 hl (by decide) rfl (fun ls hl => ?_)
              refine lv_iinc (v := ((nI p) + (1 : Int32))) (lv' := [(20, .int ((nI p) + (1 : Int32))), (18, .long ((nuS n x y c1 p) + ((((Int32.toInt64 (tz_O (qz_D n + p))) * (Int32.toInt64 (tc n x p))) * (Int32.toInt64 (tc n y p))) * (Int32.toInt64 (tc n c1 p))))), (17, .int (nI c1)), (13, .int (nI (prC n x y c1))), (14, .int (mxC n x y c1)), (15, .long (dSum n x y c1)), (11, .int (nI x)), (12, .int (nI y)), (9, .int (nI t)), (0, .ref b), (1, .ref (a 0)), (2, .ref al), (3, .int (nI n)), (4, .int (nI (qz_D n))), (5, .int (nI (qz_N n))), (6, .ref tq), (7, .long (Int32.toInt64 (xi_FACTORIALS n)))]) hx hb dL_law_461 hl (k := 1) rfl rfl (by decide) rfl (fun ls hl => ?_)
              refine lv_goto (tgt := 408) hx hb dL_law_464 (by decide) ?_
              rw [show ((nI p) + (1 : Int32)) = (nI (p + 1)) from (nI_1 p)] at hl
              have hl : lv_has ls 28 [(20, .int (nI (p + 1))), (18, .long (nuS n x y c1 (p + 1))), (17, .int (nI c1)), (13, .int (nI (prC n x y c1))), (14, .int (mxC n x y c1)), (15, .long (dSum n x y c1)), (11, .int (nI x)), (12, .int (nI y)), (9, .int (nI t)), (0, .ref b), (1, .ref (a 0)), (2, .ref al), (3, .int (nI n)), (4, .int (nI (qz_D n))), (5, .int (nI (qz_N n))), (6, .ref tq), (7, .long (Int32.toInt64 (xi_FACTORIALS n)))] := hl
              exact ih_408 (p + 1) κ H _ ls hR_300 (by omega) hP hD hS (lv_sub hl [0, 1, 2, 3, 4, 5, 6, 7, 8, 9, 10, 11, 12, 13, 14, 15, 16] rfl)
          exact w_408 (qz_N n) 0 ρ H _ ls hR_268 (by omega) hP hD hS (lv_sub hl [0, 1, 2, 3, 4, 5, 6, 7, 8, 9, 10, 11, 12, 13, 14, 15, 16] rfl)
      exact w_395 (qz_N n) 0 τ H _ ls hR_253 (by omega) hP hD hS (lv_sub hl [0, 3, 2, 1, 5, 4, 7, 8, 9, 10, 11, 12, 13, 14, 15] rfl)
  exact w_348 4 0 σ H _ ls hR rfl hP hD hS (lv_sub hl [0, 1, 2, 3, 4, 5, 6, 7, 8] rfl)
set_option maxHeartbeats 16000000 in
set_option maxRecDepth 20000 in
theorem law_54 {p0 : Program} {l : Launch} {e : Env} {s : State} {m : MethodId} {below : List Frame} {meth : Method} {c : Code} {b : Nat} {D : va_G} {cyI cyJ cyB cyQ : ClassId} {G a g kk kv B : Nat → Nat} {al tq L n : Nat} {xs : Nat → Int32} {A : Nat → Prop} {H0 : Heap} (C0 : LCx p0 s m b meth c D cyI cyJ cyB cyQ G g kk kv B al tq L n xs A H0) {σ : CS} {S : Nat → SV} (hR : Rc σ S []) {E1 : va_W}  {H : Heap} {locs : List Loc} {ls : Array Slot} (hP : va_P D xcl (wdS a cyI cyJ σ ++ ([] ++ E1)) H) (hD : va_D A (wdS a cyI cyJ σ ++ ([] ++ E1))) (hS : va_S A H0 H locs) (hl : lv_has ls 28 [(0, .ref b), (1, .ref (a 0)), (2, .ref al), (3, .int (nI n)), (4, .int (nI (qz_D n))), (5, .int (nI (qz_N n))), (6, .ref tq), (7, .long (Int32.toInt64 (xi_FACTORIALS n)))]) : W p0 l e room_1 s m #[Value.ref b] below meth c H locs 800 20000 (lw_Z below #[Value.ref b] s) (F0 m 54 ls []) := by
  have C1 := C0
  obtain ⟨Cx, hAs, hn, hL⟩ := C1
  have Cx1 := Cx
  obtain ⟨⟨hx, hb, hml, hown, hts⟩, hr, hlocks, hK, hA, hT⟩ := Cx1
  obtain ⟨hD1, hD2, hD3⟩ := D_small n hn
  have hN1 : 0 < qz_N n := by show 0 < qz_D (n + 1) - qz_D n; omega
  have hN2 : qz_N n ≤ 15 := hD2
  have hN3 : qz_D n + qz_N n ≤ 45 := by show qz_D n + (qz_D (n + 1) - qz_D n) ≤ 45; omega
  refine lv_iconst (v := (0 : Int32)) hx hb dL_law_54 (by decide) ?_
  refine lv_istore (lv' := [(9, .int (0 : Int32)), (0, .ref b), (1, .ref (a 0)), (2, .ref al), (3, .int (nI n)), (4, .int (nI (qz_D n))), (5, .int (nI (qz_N n))), (6, .ref tq), (7, .long (Int32.toInt64 (xi_FACTORIALS n)))]) hx hb dL_law_55 hl (by decide) rfl (fun ls hl => ?_)
  have w_57 : ∀ (d : Nat) (i : Nat) (E2 : va_W) (τ : CS) (H : Heap) (locs : List Loc) (ls : Array Slot), Rc τ S [] → i + d = qz_N n → va_P D xcl (wdS a cyI cyJ τ ++ ([] ++ E2)) H → va_D A (wdS a cyI cyJ τ ++ ([] ++ E2)) → va_S A H0 H locs → lv_has ls 28 [(9, .int (nI i)), (0, .ref b), (1, .ref (a 0)), (2, .ref al), (3, .int (nI n)), (4, .int (nI (qz_D n))), (5, .int (nI (qz_N n))), (6, .ref tq), (7, .long (Int32.toInt64 (xi_FACTORIALS n)))] → W p0 l e room_1 s m #[Value.ref b] below meth c H locs (800 + 5 * i) (20000 + 20 * i) (lw_Z below #[Value.ref b] s) (F0 m 57 ls []) := by
    intro d
    induction d with
    | zero =>
      intro i E2 τ H locs ls hR_302 hi hP hD hS hl
      obtain rfl : i = qz_N n := by omega
      refine lv_iload hx hb dL_law_57 (lv_at hl 0 rfl) ?_
      refine lv_iload hx hb dL_law_59 (lv_at hl 6 rfl) ?_
      refine lv_icmp_ge (tgt := 345) hx hb dL_law_61 (by decide) (fun _ => ?_) (fun hc => absurd (Int32.le_refl _) hc)
      refine W.widen (k := 930) (n := 20400) (by omega) (by omega) ?_
      exact law_345 C0 hR_302 hP hD hS (lv_sub hl [1, 2, 3, 4, 5, 6, 7, 8] rfl)
    | succ d ih_57 =>
      intro i E2 τ H locs ls hR_303 hi hP hD hS hl
      have hi9 : i < qz_N n := by omega
      have hsl := sl_small (qz_D n + i) (by omega)
      have hfr := lp_fr (qz_D n + i) (by omega)
      refine lv_iload hx hb dL_law_57 (lv_at hl 0 rfl) ?_
      refine lv_iload hx hb dL_law_59 (lv_at hl 6 rfl) ?_
      refine lv_icmp_ge (tgt := 345) hx hb dL_law_61 (by decide) (fun hc => absurd hc (nI_ge (by omega) (by omega))) (fun _ => ?_)
      refine lv_aload_n hx hb dL_law_64 rfl (lv_at hl 3 rfl) ?_
      refine lv_iload hx hb dL_law_65 (lv_at hl 5 rfl) ?_
      refine lv_iload hx hb dL_law_67 (lv_at hl 0 rfl) ?_
      refine lv_iadd hx hb dL_law_69 ?_
      rw [show ((nI (qz_D n)) + (nI i)) = (nI (qz_D n + i)) from nI_add (qz_D n) i]
      refine yf_qld hx hb (va_T.kept hT.2.1.1 hS.2.1) rfl (vp_in_nI (show (qz_D n + i) < 67 by omega) (by omega)) dL_law_70 ?_
      rw [nI_clamp (show (qz_D n + i) < 2 ^ 31 by omega)]
      refine lv_astore (lv' := [(10, .ref (B (qz_D n + i))), (9, .int (nI i)), (0, .ref b), (1, .ref (a 0)), (2, .ref al), (3, .int (nI n)), (4, .int (nI (qz_D n))), (5, .int (nI (qz_N n))), (6, .ref tq), (7, .long (Int32.toInt64 (xi_FACTORIALS n)))]) hx hb dL_law_71 hl (by decide) rfl (fun ls hl => ?_)
      refine lv_aload_n hx hb dL_law_73 rfl (lv_at hl 3 rfl) ?_
      refine lv_iload hx hb dL_law_74 (lv_at hl 6 rfl) ?_
      refine lv_iload hx hb dL_law_76 (lv_at hl 1 rfl) ?_
      refine lv_iadd hx hb dL_law_78 ?_
      rw [show ((nI (qz_D n)) + (nI i)) = (nI (qz_D n + i)) from nI_add (qz_D n) i]
      refine lv_iconst (v := (0 : Int32)) hx hb dL_law_79 (by decide) ?_
      obtain ⟨τ_304, hR_306, hM_305⟩ := mm_of l D cyI cyJ G a H.size hR_303 (k := (qz_D n + i)) (w := 0) (by omega) (Or.inl (by decide))
      refine yr_i Cx hP hD hS (yq_front (S := Unit) (wdS a cyI cyJ τ) ([] ++ E2) (fun _ => wdS a cyI cyJ τ_304) 28 (fun _ => rfl)) (yx_V (n := 2) (As := [.int (nI (qz_D n + i)), .int (0 : Int32)]) (rest := []) Cx hP hD hS hl (yq_front (S := Unit) (wdS a cyI cyJ τ) ([] ++ E2) (fun _ => wdS a cyI cyJ τ_304) 28 (fun _ => rfl)) (y_K2 hK) (fz_xs G) (fun hF => (fz_give (fz_xs G) hT.1 hS hF)) (ym_xi hM_305) pk_X9_of mw_2_105 ⟨rfl, rfl, Nat.le_of_ble_eq_true rfl, Nat.le_of_ble_eq_true rfl⟩ (va_recv (ci := 9) hK hP rfl (q0 := 0) rfl) rfl rfl (Nat.le_of_ble_eq_true rfl) ⟨(show (800 + 5 * i) + 0 ≤ (600000 : Nat) by omega), (show (20000 + 20 * i) + 0 ≤ (7302250 : Nat) by omega)⟩ dL_law_80) (fun r_1 u_307 H locs hp hP hD hS => ?_)
      have hP : va_P D xcl (wdS a cyI cyJ τ_304 ++ ([] ++ E2)) H := hP
      have hD : va_D A (wdS a cyI cyJ τ_304 ++ ([] ++ E2)) := hD
      rw [show r_1 = (nI (qz_S (qz_D n + i))) from hp]
      rw [show (nI (qz_S (qz_D n + i))) = (nI n) from congrArg nI (lp_size n (by omega) i hi9)]
      refine lv_iload_n hx hb dL_law_83 rfl (lv_at hl 5 rfl) ?_
      refine lv_icmp_ne (tgt := 166) hx hb dL_law_84 (by decide) (fun hc => absurd rfl hc) (fun _ => ?_)
      refine lv_aload_n hx hb dL_law_87 rfl (lv_at hl 3 rfl) ?_
      refine lv_iload hx hb dL_law_88 (lv_at hl 6 rfl) ?_
      refine lv_iload hx hb dL_law_90 (lv_at hl 1 rfl) ?_
      refine lv_iadd hx hb dL_law_92 ?_
      rw [show ((nI (qz_D n)) + (nI i)) = (nI (qz_D n + i)) from nI_add (qz_D n) i]
      refine lv_iconst (v := (1 : Int32)) hx hb dL_law_93 (by decide) ?_
      obtain ⟨τ_308, hR_310, hM_309⟩ := mm_of l D cyI cyJ G a H.size hR_306 (k := (qz_D n + i)) (w := 1) (by omega) (Or.inl (by decide))
      refine yr_i Cx hP hD hS (yq_front (S := Unit) (wdS a cyI cyJ τ_304) ([] ++ E2) (fun _ => wdS a cyI cyJ τ_308) 28 (fun _ => rfl)) (yx_V (n := 2) (As := [.int (nI (qz_D n + i)), .int (1 : Int32)]) (rest := []) Cx hP hD hS hl (yq_front (S := Unit) (wdS a cyI cyJ τ_304) ([] ++ E2) (fun _ => wdS a cyI cyJ τ_308) 28 (fun _ => rfl)) (y_K2 hK) (fz_xs G) (fun hF => (fz_give (fz_xs G) hT.1 hS hF)) (ym_xi hM_309) pk_X9_of mw_2_105 ⟨rfl, rfl, Nat.le_of_ble_eq_true rfl, Nat.le_of_ble_eq_true rfl⟩ (va_recv (ci := 9) hK hP rfl (q0 := 0) rfl) rfl rfl (Nat.le_of_ble_eq_true rfl) ⟨(show (800 + 5 * i) + 0 ≤ (600000 : Nat) by omega), (show (20000 + 20 * i) + 0 ≤ (7302250 : Nat) by omega)⟩ dL_law_94) (fun r_2 u_311 H locs hp hP hD hS => ?_)
      have hP : va_P D xcl (wdS a cyI cyJ τ_308 ++ ([] ++ E2)) H := hP
      have hD : va_D A (wdS a cyI cyJ τ_308 ++ ([] ++ E2)) := hD
      rw [show r_2 = (nI (sl (qz_D n + i))) from hp]
      refine lv_aload hx hb dL_law_97 (lv_at hl 0 rfl) ?_
      refine yf_len hx hb (va_T.kept (hT.2.1.2 (qz_D n + i) (by omega)) hS.2.1) dL_law_99 ?_
      refine lv_icmp_ne (tgt := 166) hx hb dL_law_100 (by decide) (fun hc => absurd rfl hc) (fun _ => ?_)
      refine lv_aload_n hx hb dL_law_103 rfl (lv_at hl 3 rfl) ?_
      refine lv_iload hx hb dL_law_104 (lv_at hl 6 rfl) ?_
      refine lv_iload hx hb dL_law_106 (lv_at hl 1 rfl) ?_
      refine lv_iadd hx hb dL_law_108 ?_
      rw [show ((nI (qz_D n)) + (nI i)) = (nI (qz_D n + i)) from nI_add (qz_D n) i]
      refine lv_iconst (v := (2 : Int32)) hx hb dL_law_109 (by decide) ?_
      obtain ⟨τ_312, hR_314, hM_313⟩ := mm_of l D cyI cyJ G a H.size hR_310 (k := (qz_D n + i)) (w := 2) (by omega) (Or.inl (by decide))
      refine yr_i Cx hP hD hS (yq_front (S := Unit) (wdS a cyI cyJ τ_308) ([] ++ E2) (fun _ => wdS a cyI cyJ τ_312) 28 (fun _ => rfl)) (yx_V (n := 2) (As := [.int (nI (qz_D n + i)), .int (2 : Int32)]) (rest := []) Cx hP hD hS hl (yq_front (S := Unit) (wdS a cyI cyJ τ_308) ([] ++ E2) (fun _ => wdS a cyI cyJ τ_312) 28 (fun _ => rfl)) (y_K2 hK) (fz_xs G) (fun hF => (fz_give (fz_xs G) hT.1 hS hF)) (ym_xi hM_313) pk_X9_of mw_2_105 ⟨rfl, rfl, Nat.le_of_ble_eq_true rfl, Nat.le_of_ble_eq_true rfl⟩ (va_recv (ci := 9) hK hP rfl (q0 := 0) rfl) rfl rfl (Nat.le_of_ble_eq_true rfl) ⟨(show (800 + 5 * i) + 0 ≤ (600000 : Nat) by omega), (show (20000 + 20 * i) + 0 ≤ (7302250 : Nat) by omega)⟩ dL_law_110) (fun r_3 u_315 H locs hp hP hD hS => ?_)
      have hP : va_P D xcl (wdS a cyI cyJ τ_312 ++ ([] ++ E2)) H := hP
      have hD : va_D A (wdS a cyI cyJ τ_312 ++ ([] ++ E2)) := hD
      rw [show r_3 = (tz_turn (qz_D n + i)) from hp]
      refine lv_aload_n hx hb dL_law_113 rfl (lv_at hl 4 rfl) ?_
      refine lv_aload hx hb dL_law_114 (lv_at hl 0 rfl) ?_
      refine yr_r Cx hP hD hS (yq_new (S := Nat) (wdS a cyI cyJ τ_312 ++ ([] ++ E2)) (fun u => [ic cyI u (fr (qz_D n + i)) (tro (sr (qz_D n + i)) (sl (qz_D n + i)) (fr (qz_D n + i)))]) 1 (fun _ => rfl)) (yx_S (n := 1) (As := [.ref (B (qz_D n + i))]) (rest := [.ref al, .int (tz_turn (qz_D n + i))]) Cx hP hD hS hl (yq_new (S := Nat) (wdS a cyI cyJ τ_312 ++ ([] ++ E2)) (fun u => [ic cyI u (fr (qz_D n + i)) (tro (sr (qz_D n + i)) (sl (qz_D n + i)) (fr (qz_D n + i)))]) 1 (fun _ => rfl)) hK (fz_ZI (B (qz_D n + i)) (sl (qz_D n + i)) (sr (qz_D n + i))) (fun hF => (fz_give (fz_ZI (B (qz_D n + i)) (sl (qz_D n + i)) (sr (qz_D n + i))) (hT.2.1.2 (qz_D n + i) (by omega)) hS hF)) (c_L_turned l D cyI cyJ cyB cyQ H.size (B (qz_D n + i)) (sl (qz_D n + i)) (fr (qz_D n + i)) (sr (qz_D n + i)) (by omega) (by omega) (fun h9 => if_pos h9) hfr.2) pk_L_turned mw_3_200 ⟨rfl, rfl, Nat.le_of_ble_eq_true rfl, Nat.le_of_ble_eq_true rfl⟩ rfl rfl (Nat.le_of_ble_eq_true rfl) ⟨(show (800 + 5 * i) + 1 ≤ (600000 : Nat) by omega), (show (20000 + 20 * i) + 16 ≤ (7302250 : Nat) by omega)⟩ dL_law_116) (fun u H locs hp hP hD hS => ?_)
      have hP : va_P D xcl ((wdS a cyI cyJ τ_312 ++ ([] ++ E2)) ++ [ic cyI u (fr (qz_D n + i)) (tro (sr (qz_D n + i)) (sl (qz_D n + i)) (fr (qz_D n + i)))]) H := hP
      have hD : va_D A ((wdS a cyI cyJ τ_312 ++ ([] ++ E2)) ++ [ic cyI u (fr (qz_D n + i)) (tro (sr (qz_D n + i)) (sl (qz_D n + i)) (fr (qz_D n + i)))]) := hD
      have hPD : va_P D xcl (wdS a cyI cyJ τ_312 ++ ([] ++ (ic cyI u (fr (qz_D n + i)) (tro (sr (qz_D n + i)) (sl (qz_D n + i)) (fr (qz_D n + i))) :: E2))) H ∧ va_D A (wdS a cyI cyJ τ_312 ++ ([] ++ (ic cyI u (fr (qz_D n + i)) (tro (sr (qz_D n + i)) (sl (qz_D n + i)) (fr (qz_D n + i))) :: E2))) := y_perm hP hD (y_new_mid (wdS a cyI cyJ τ_312) [] E2 (ic cyI u (fr (qz_D n + i)) (tro (sr (qz_D n + i)) (sl (qz_D n + i)) (fr (qz_D n + i)))))
      obtain ⟨hP, hD⟩ := hPD
      refine yr_i Cx hP hD hS (yq_none (S := Unit) (wdS a cyI cyJ τ_312 ++ ([] ++ (ic cyI u (fr (qz_D n + i)) (tro (sr (qz_D n + i)) (sl (qz_D n + i)) (fr (qz_D n + i))) :: E2)))) (yx_S (n := 2) (As := [.ref al, .ref u]) (rest := [.int (tz_turn (qz_D n + i))]) Cx hP hD hS hl (yq_none (S := Unit) (wdS a cyI cyJ τ_312 ++ ([] ++ (ic cyI u (fr (qz_D n + i)) (tro (sr (qz_D n + i)) (sl (qz_D n + i)) (fr (qz_D n + i))) :: E2)))) hK (fz_and (fz_ZA al B) (fz_ZI u (fr (qz_D n + i)) (tro (sr (qz_D n + i)) (sl (qz_D n + i)) (fr (qz_D n + i))))) (fun hF => ⟨fz_give (fz_ZA al B) hT.2.1 hS hF, y_T hK hP 28 0 rfl rfl (y_out0 hP (q0 := 28) rfl)⟩) (c_L_find l D cyI cyJ cyB cyQ H.size al B u (fr (qz_D n + i)) (tro (sr (qz_D n + i)) (sl (qz_D n + i)) (fr (qz_D n + i))) (by omega)) pk_L_find mw_3_179 ⟨rfl, rfl, Nat.le_of_ble_eq_true rfl, Nat.le_of_ble_eq_true rfl⟩ rfl rfl (Nat.le_of_ble_eq_true rfl) ⟨(show ((800 + 5 * i) + 1) + 0 ≤ (600000 : Nat) by omega), (show ((20000 + 20 * i) + 16) + 0 ≤ (7302250 : Nat) by omega)⟩ dL_law_119) (fun r_5 u_316 H locs hp hP hD hS => ?_)
      have hP : va_P D xcl (wdS a cyI cyJ τ_312 ++ ([] ++ (ic cyI u (fr (qz_D n + i)) (tro (sr (qz_D n + i)) (sl (qz_D n + i)) (fr (qz_D n + i))) :: E2))) H := hP
      have hD : va_D A (wdS a cyI cyJ τ_312 ++ ([] ++ (ic cyI u (fr (qz_D n + i)) (tro (sr (qz_D n + i)) (sl (qz_D n + i)) (fr (qz_D n + i))) :: E2))) := hD
      rw [show r_5 = tz_turn (qz_D n + i) from hp.trans (lp_turn (qz_D n + i) (by omega))]
      refine lv_icmp_ne (tgt := 166) hx hb dL_law_122 (by decide) (fun hc => absurd rfl hc) (fun _ => ?_)
      refine lv_aload_n hx hb dL_law_125 rfl (lv_at hl 3 rfl) ?_
      refine lv_iload hx hb dL_law_126 (lv_at hl 6 rfl) ?_
      refine lv_iload hx hb dL_law_128 (lv_at hl 1 rfl) ?_
      refine lv_iadd hx hb dL_law_130 ?_
      rw [show ((nI (qz_D n)) + (nI i)) = (nI (qz_D n + i)) from nI_add (qz_D n) i]
      refine lv_iconst (v := (3 : Int32)) hx hb dL_law_131 (by decide) ?_
      obtain ⟨τ_317, hR_319, hM_318⟩ := mm_of l D cyI cyJ G a H.size hR_314 (k := (qz_D n + i)) (w := 3) (by omega) (Or.inl (by decide))
      refine yr_i Cx hP hD hS (yq_front (S := Unit) (wdS a cyI cyJ τ_312) ([] ++ (ic cyI u (fr (qz_D n + i)) (tro (sr (qz_D n + i)) (sl (qz_D n + i)) (fr (qz_D n + i))) :: E2)) (fun _ => wdS a cyI cyJ τ_317) 28 (fun _ => rfl)) (yx_V (n := 2) (As := [.int (nI (qz_D n + i)), .int (3 : Int32)]) (rest := []) Cx hP hD hS hl (yq_front (S := Unit) (wdS a cyI cyJ τ_312) ([] ++ (ic cyI u (fr (qz_D n + i)) (tro (sr (qz_D n + i)) (sl (qz_D n + i)) (fr (qz_D n + i))) :: E2)) (fun _ => wdS a cyI cyJ τ_317) 28 (fun _ => rfl)) (y_K2 hK) (fz_xs G) (fun hF => (fz_give (fz_xs G) hT.1 hS hF)) (ym_xi hM_318) pk_X9_of mw_2_105 ⟨rfl, rfl, Nat.le_of_ble_eq_true rfl, Nat.le_of_ble_eq_true rfl⟩ (va_recv (ci := 9) hK hP rfl (q0 := 0) rfl) rfl rfl (Nat.le_of_ble_eq_true rfl) ⟨(show ((800 + 5 * i) + 1) + 0 ≤ (600000 : Nat) by omega), (show ((20000 + 20 * i) + 16) + 0 ≤ (7302250 : Nat) by omega)⟩ dL_law_132) (fun r_6 u_320 H locs hp hP hD hS => ?_)
      have hP : va_P D xcl (wdS a cyI cyJ τ_317 ++ ([] ++ (ic cyI u (fr (qz_D n + i)) (tro (sr (qz_D n + i)) (sl (qz_D n + i)) (fr (qz_D n + i))) :: E2))) H := hP
      have hD : va_D A (wdS a cyI cyJ τ_317 ++ ([] ++ (ic cyI u (fr (qz_D n + i)) (tro (sr (qz_D n + i)) (sl (qz_D n + i)) (fr (qz_D n + i))) :: E2))) := hD
      rw [show r_6 = (tz_dim (qz_D n + i)) from hp]
      refine lv_aload hx hb dL_law_135 (lv_at hl 8 rfl) ?_
      refine lv_iload hx hb dL_law_137 (lv_at hl 1 rfl) ?_
      refine yf_qld hx hb (va_T.kept hT.2.2.2.2.2.1 hS.2.1) rfl (vp_in_nI (show i < (qz_N n) by omega) (by omega)) dL_law_139 ?_
      rw [nI_clamp (show i < 2 ^ 31 by omega)]
      refine lv_iload hx hb dL_law_140 (lv_at hl 7 rfl) ?_
      refine lv_iconst (v := (1 : Int32)) hx hb dL_law_142 (by decide) ?_
      refine lv_isub hx hb dL_law_143 ?_
      rw [show ((nI (qz_N n)) - (1 : Int32)) = (nI (qz_N n - 1)) from nI_subN (a := qz_N n) (b := 1) (by omega)]
      refine yf_ild hx hb (va_T.kept (hT.2.2.2.2.2.2 i (by omega)) hS.2.1) (vp_in_nI (show (qz_N n - 1) < (qz_N n) by omega) (by omega)) (v := (tc n i (qz_N n - 1))) (by rw [nI_clamp (show (qz_N n - 1) < 2 ^ 31 by omega)]; exact lp_tb n hn i hi9 (qz_N n - 1) (by omega)) dL_law_144 ?_
      refine lv_icmp_ne (tgt := 166) hx hb dL_law_145 (by decide) (fun hc => absurd (lp_dim n hn i hi9) hc) (fun _ => ?_)
      refine lv_aload_n hx hb dL_law_148 rfl (lv_at hl 3 rfl) ?_
      refine lv_iload hx hb dL_law_149 (lv_at hl 6 rfl) ?_
      refine lv_iload hx hb dL_law_151 (lv_at hl 1 rfl) ?_
      refine lv_iadd hx hb dL_law_153 ?_
      rw [show ((nI (qz_D n)) + (nI i)) = (nI (qz_D n + i)) from nI_add (qz_D n) i]
      refine lv_iconst (v := (4 : Int32)) hx hb dL_law_154 (by decide) ?_
      obtain ⟨τ_321, hR_323, hM_322⟩ := mm_of l D cyI cyJ G a H.size hR_319 (k := (qz_D n + i)) (w := 4) (by omega) (Or.inl (by decide))
      refine yr_i Cx hP hD hS (yq_front (S := Unit) (wdS a cyI cyJ τ_317) ([] ++ (ic cyI u (fr (qz_D n + i)) (tro (sr (qz_D n + i)) (sl (qz_D n + i)) (fr (qz_D n + i))) :: E2)) (fun _ => wdS a cyI cyJ τ_321) 28 (fun _ => rfl)) (yx_V (n := 2) (As := [.int (nI (qz_D n + i)), .int (4 : Int32)]) (rest := []) Cx hP hD hS hl (yq_front (S := Unit) (wdS a cyI cyJ τ_317) ([] ++ (ic cyI u (fr (qz_D n + i)) (tro (sr (qz_D n + i)) (sl (qz_D n + i)) (fr (qz_D n + i))) :: E2)) (fun _ => wdS a cyI cyJ τ_321) 28 (fun _ => rfl)) (y_K2 hK) (fz_xs G) (fun hF => (fz_give (fz_xs G) hT.1 hS hF)) (ym_xi hM_322) pk_X9_of mw_2_105 ⟨rfl, rfl, Nat.le_of_ble_eq_true rfl, Nat.le_of_ble_eq_true rfl⟩ (va_recv (ci := 9) hK hP rfl (q0 := 0) rfl) rfl rfl (Nat.le_of_ble_eq_true rfl) ⟨(show ((800 + 5 * i) + 1) + 0 ≤ (600000 : Nat) by omega), (show ((20000 + 20 * i) + 16) + 0 ≤ (7302250 : Nat) by omega)⟩ dL_law_155) (fun r_7 u_324 H locs hp hP hD hS => ?_)
      have hP : va_P D xcl (wdS a cyI cyJ τ_321 ++ ([] ++ (ic cyI u (fr (qz_D n + i)) (tro (sr (qz_D n + i)) (sl (qz_D n + i)) (fr (qz_D n + i))) :: E2))) H := hP
      have hD : va_D A (wdS a cyI cyJ τ_321 ++ ([] ++ (ic cyI u (fr (qz_D n + i)) (tro (sr (qz_D n + i)) (sl (qz_D n + i)) (fr (qz_D n + i))) :: E2))) := hD
      rw [show r_7 = (tz_O (qz_D n + i)) from hp]
      refine lv_aload hx hb dL_law_158 (lv_at hl 0 rfl) ?_
      refine yr_i Cx hP hD hS (yq_none (S := Unit) (wdS a cyI cyJ τ_321 ++ ([] ++ (ic cyI u (fr (qz_D n + i)) (tro (sr (qz_D n + i)) (sl (qz_D n + i)) (fr (qz_D n + i))) :: E2)))) (yx_S (n := 1) (As := [.ref (B (qz_D n + i))]) (rest := [.int (tz_O (qz_D n + i))]) Cx hP hD hS hl (yq_none (S := Unit) (wdS a cyI cyJ τ_321 ++ ([] ++ (ic cyI u (fr (qz_D n + i)) (tro (sr (qz_D n + i)) (sl (qz_D n + i)) (fr (qz_D n + i))) :: E2)))) hK (fz_ZI (B (qz_D n + i)) (sl (qz_D n + i)) (sr (qz_D n + i))) (fun hF => (fz_give (fz_ZI (B (qz_D n + i)) (sl (qz_D n + i)) (sr (qz_D n + i))) (hT.2.1.2 (qz_D n + i) (by omega)) hS hF)) (c_L_orders l D cyI cyJ cyB cyQ H.size (B (qz_D n + i)) (sl (qz_D n + i)) (qz_S (qz_D n + i)) (sr (qz_D n + i)) (by have := sl_small (qz_D n + i) (by omega); omega) (lp_ord (qz_D n + i) (by omega)).1 (lp_ord (qz_D n + i) (by omega)).2.1 (lp_ord (qz_D n + i) (by omega)).2.2.1) pk_L_orders mw_3_185 ⟨rfl, rfl, Nat.le_of_ble_eq_true rfl, Nat.le_of_ble_eq_true rfl⟩ rfl rfl (Nat.le_of_ble_eq_true rfl) ⟨(show ((800 + 5 * i) + 1) + 0 ≤ (600000 : Nat) by omega), (show ((20000 + 20 * i) + 16) + 0 ≤ (7302250 : Nat) by omega)⟩ dL_law_160) (fun r_8 u_325 H locs hp hP hD hS => ?_)
      have hP : va_P D xcl (wdS a cyI cyJ τ_321 ++ ([] ++ (ic cyI u (fr (qz_D n + i)) (tro (sr (qz_D n + i)) (sl (qz_D n + i)) (fr (qz_D n + i))) :: E2))) H := hP
      have hD : va_D A (wdS a cyI cyJ τ_321 ++ ([] ++ (ic cyI u (fr (qz_D n + i)) (tro (sr (qz_D n + i)) (sl (qz_D n + i)) (fr (qz_D n + i))) :: E2))) := hD
      rw [show r_8 = tz_O (qz_D n + i) from hp.trans (lp_ord (qz_D n + i) (by omega)).2.2.2]
      refine lv_icmp_eq (tgt := 168) hx hb dL_law_163 (by decide) (fun _ => ?_) (fun hc => absurd rfl hc)
      refine lv_iconst (v := (0 : Int32)) hx hb dL_law_168 (by decide) ?_
      refine lv_istore (lv' := [(11, .int (0 : Int32)), (10, .ref (B (qz_D n + i))), (9, .int (nI i)), (0, .ref b), (1, .ref (a 0)), (2, .ref al), (3, .int (nI n)), (4, .int (nI (qz_D n))), (5, .int (nI (qz_N n))), (6, .ref tq), (7, .long (Int32.toInt64 (xi_FACTORIALS n)))]) hx hb dL_law_169 hl (by decide) rfl (fun ls hl => ?_)
      refine W.widen (k := (800 + 5 * (i + 1))) (n := (20000 + 20 * (i + 1))) (by omega) (by omega) ?_
      have w_223 : ∀ (d2 : Nat) (j : Nat) (ρ : CS) (H : Heap) (locs : List Loc) (ls : Array Slot), Rc ρ S [] → j + d2 = qz_N n → va_P D xcl (wdS a cyI cyJ ρ ++ ([] ++ (ic cyI u (fr (qz_D n + i)) (tro (sr (qz_D n + i)) (sl (qz_D n + i)) (fr (qz_D n + i))) :: E2))) H → va_D A (wdS a cyI cyJ ρ ++ ([] ++ (ic cyI u (fr (qz_D n + i)) (tro (sr (qz_D n + i)) (sl (qz_D n + i)) (fr (qz_D n + i))) :: E2))) → va_S A H0 H locs → lv_has ls 28 [(11, .int (nI j)), (10, .ref (B (qz_D n + i))), (9, .int (nI i)), (0, .ref b), (1, .ref (a 0)), (2, .ref al), (3, .int (nI n)), (4, .int (nI (qz_D n))), (5, .int (nI (qz_N n))), (6, .ref tq), (7, .long (Int32.toInt64 (xi_FACTORIALS n)))] → W p0 l e room_1 s m #[Value.ref b] below meth c H locs ((800 + 5 * (i + 1))) ((20000 + 20 * (i + 1))) (lw_Z below #[Value.ref b] s) (F0 m 223 ls []) := by
        intro d2
        induction d2 with
        | zero =>
          intro j ρ H locs ls hR_326 hj2 hP hD hS hl
          obtain rfl : j = qz_N n := by omega
          refine lv_iload hx hb dL_law_223 (lv_at hl 0 rfl) ?_
          refine lv_iload hx hb dL_law_225 (lv_at hl 8 rfl) ?_
          refine lv_icmp_ge (tgt := 339) hx hb dL_law_227 (by decide) (fun _ => ?_) (fun hc => absurd (Int32.le_refl _) hc)
          refine lv_iinc (v := ((nI i) + (1 : Int32))) (lv' := [(9, .int ((nI i) + (1 : Int32))), (11, .int (nI (qz_N n))), (10, .ref (B (qz_D n + i))), (0, .ref b), (1, .ref (a 0)), (2, .ref al), (3, .int (nI n)), (4, .int (nI (qz_D n))), (5, .int (nI (qz_N n))), (6, .ref tq), (7, .long (Int32.toInt64 (xi_FACTORIALS n)))]) hx hb dL_law_339 hl (k := 2) rfl rfl (by decide) rfl (fun ls hl => ?_)
          refine lv_goto (tgt := 57) hx hb dL_law_342 (by decide) ?_
          rw [show ((nI i) + (1 : Int32)) = (nI (i + 1)) from (nI_1 i)] at hl
          exact ih_57 (i + 1) (ic cyI u (fr (qz_D n + i)) (tro (sr (qz_D n + i)) (sl (qz_D n + i)) (fr (qz_D n + i))) :: E2) ρ H _ ls hR_326 (by omega) hP hD hS (lv_sub hl [0, 3, 4, 5, 6, 7, 8, 9, 10] rfl)
        | succ d2 ih_223 =>
          intro j ρ H locs ls hR_327 hj2 hP hD hS hl
          have hj9 : j < qz_N n := by omega
          refine lv_iload hx hb dL_law_223 (lv_at hl 0 rfl) ?_
          refine lv_iload hx hb dL_law_225 (lv_at hl 8 rfl) ?_
          refine lv_icmp_ge (tgt := 339) hx hb dL_law_227 (by decide) (fun hc => absurd hc (nI_ge (by omega) (by omega))) (fun _ => ?_)
          refine lv_aload_n hx hb dL_law_230 rfl (lv_at hl 4 rfl) ?_
          refine lv_iload hx hb dL_law_231 (lv_at hl 7 rfl) ?_
          refine lv_iload hx hb dL_law_233 (lv_at hl 2 rfl) ?_
          refine lv_iadd hx hb dL_law_235 ?_
          rw [show ((nI (qz_D n)) + (nI i)) = (nI (qz_D n + i)) from nI_add (qz_D n) i]
          refine lv_iload hx hb dL_law_236 (lv_at hl 7 rfl) ?_
          refine lv_iload hx hb dL_law_238 (lv_at hl 0 rfl) ?_
          refine lv_iadd hx hb dL_law_240 ?_
          rw [show ((nI (qz_D n)) + (nI j)) = (nI (qz_D n + j)) from nI_add (qz_D n) j]
          obtain ⟨τ_328, hR_330, hM_329⟩ := mm_character l D cyI cyJ G a H.size hR_327 (show n < 9 by omega) hi9 hj9
          refine yr_i Cx hP hD hS (yq_front (S := Unit) (wdS a cyI cyJ ρ) ([] ++ (ic cyI u (fr (qz_D n + i)) (tro (sr (qz_D n + i)) (sl (qz_D n + i)) (fr (qz_D n + i))) :: E2)) (fun _ => wdS a cyI cyJ τ_328) 28 (fun _ => rfl)) (yx_V (n := 2) (As := [.int (nI (qz_D n + i)), .int (nI (qz_D n + j))]) (rest := []) Cx hP hD hS hl (yq_front (S := Unit) (wdS a cyI cyJ ρ) ([] ++ (ic cyI u (fr (qz_D n + i)) (tro (sr (qz_D n + i)) (sl (qz_D n + i)) (fr (qz_D n + i))) :: E2)) (fun _ => wdS a cyI cyJ τ_328) 28 (fun _ => rfl)) (y_K2 hK) (fz_xs G) (fun hF => (fz_give (fz_xs G) hT.1 hS hF)) (ym_xi hM_329) pk_X9_character mw_2_147 ⟨rfl, rfl, Nat.le_of_ble_eq_true rfl, Nat.le_of_ble_eq_true rfl⟩ (va_recv (ci := 9) hK hP rfl (q0 := 0) rfl) rfl rfl (Nat.le_of_ble_eq_true rfl) ⟨(show ((800 + 5 * (i + 1))) + 0 ≤ (600000 : Nat) by omega), (show ((20000 + 20 * (i + 1))) + 0 ≤ (7302250 : Nat) by omega)⟩ dL_law_241) (fun r_1 u_331 H locs hp hP hD hS => ?_)
          have hP : va_P D xcl (wdS a cyI cyJ τ_328 ++ ([] ++ (ic cyI u (fr (qz_D n + i)) (tro (sr (qz_D n + i)) (sl (qz_D n + i)) (fr (qz_D n + i))) :: E2))) H := hP
          have hD : va_D A (wdS a cyI cyJ τ_328 ++ ([] ++ (ic cyI u (fr (qz_D n + i)) (tro (sr (qz_D n + i)) (sl (qz_D n + i)) (fr (qz_D n + i))) :: E2))) := hD
          rw [show r_1 = (tc n i j) from hp]
          refine lv_aload hx hb dL_law_244 (lv_at hl 9 rfl) ?_
          refine lv_iload hx hb dL_law_246 (lv_at hl 2 rfl) ?_
          refine yf_qld hx hb (va_T.kept hT.2.2.2.2.2.1 hS.2.1) rfl (vp_in_nI (show i < (qz_N n) by omega) (by omega)) dL_law_248 ?_
          rw [nI_clamp (show i < 2 ^ 31 by omega)]
          refine lv_iload hx hb dL_law_249 (lv_at hl 0 rfl) ?_
          refine yf_ild hx hb (va_T.kept (hT.2.2.2.2.2.2 i (by omega)) hS.2.1) (vp_in_nI (show j < (qz_N n) by omega) (by omega)) (v := (tc n i j)) (by rw [nI_clamp (show j < 2 ^ 31 by omega)]; exact lp_tb n hn i hi9 j hj9) dL_law_251 ?_
          refine lv_icmp_eq (tgt := 257) hx hb dL_law_252 (by decide) (fun _ => ?_) (fun hc => absurd rfl hc)
          refine lv_lconst (v := (0 : Int64)) hx hb dL_law_257 (by decide) ?_
          refine lv_lstore (lv' := [(12, .long (0 : Int64)), (11, .int (nI j)), (10, .ref (B (qz_D n + i))), (9, .int (nI i)), (0, .ref b), (1, .ref (a 0)), (2, .ref al), (3, .int (nI n)), (4, .int (nI (qz_D n))), (5, .int (nI (qz_N n))), (6, .ref tq), (7, .long (Int32.toInt64 (xi_FACTORIALS n)))]) hx hb dL_law_258 hl (by decide) rfl (fun ls hl => ?_)
          refine lv_iconst (v := (0 : Int32)) hx hb dL_law_260 (by decide) ?_
          refine lv_istore (lv' := [(14, .int (0 : Int32)), (12, .long (0 : Int64)), (11, .int (nI j)), (10, .ref (B (qz_D n + i))), (9, .int (nI i)), (0, .ref b), (1, .ref (a 0)), (2, .ref al), (3, .int (nI n)), (4, .int (nI (qz_D n))), (5, .int (nI (qz_N n))), (6, .ref tq), (7, .long (Int32.toInt64 (xi_FACTORIALS n)))]) hx hb dL_law_261 hl (by decide) rfl (fun ls hl => ?_)
          have w_263 : ∀ (d3 : Nat) (c1 : Nat) (κ : CS) (H : Heap) (locs : List Loc) (ls : Array Slot), Rc κ S [] → c1 + d3 = qz_N n → va_P D xcl (wdS a cyI cyJ κ ++ ([] ++ (ic cyI u (fr (qz_D n + i)) (tro (sr (qz_D n + i)) (sl (qz_D n + i)) (fr (qz_D n + i))) :: E2))) H → va_D A (wdS a cyI cyJ κ ++ ([] ++ (ic cyI u (fr (qz_D n + i)) (tro (sr (qz_D n + i)) (sl (qz_D n + i)) (fr (qz_D n + i))) :: E2))) → va_S A H0 H locs → lv_has ls 28 [(14, .int (nI c1)), (12, .long (oSum n i j c1)), (11, .int (nI j)), (10, .ref (B (qz_D n + i))), (9, .int (nI i)), (0, .ref b), (1, .ref (a 0)), (2, .ref al), (3, .int (nI n)), (4, .int (nI (qz_D n))), (5, .int (nI (qz_N n))), (6, .ref tq), (7, .long (Int32.toInt64 (xi_FACTORIALS n)))] → W p0 l e room_1 s m #[Value.ref b] below meth c H locs ((800 + 5 * (i + 1))) ((20000 + 20 * (i + 1))) (lw_Z below #[Value.ref b] s) (F0 m 263 ls []) := by
            intro d3
            induction d3 with
            | zero =>
              intro c1 κ H locs ls hR_332 hc2 hP hD hS hl
              obtain rfl : c1 = qz_N n := by omega
              refine lv_iload hx hb dL_law_263 (lv_at hl 0 rfl) ?_
              refine lv_iload hx hb dL_law_265 (lv_at hl 10 rfl) ?_
              refine lv_icmp_ge (tgt := 312) hx hb dL_law_267 (by decide) (fun _ => ?_) (fun hc => absurd (Int32.le_refl _) hc)
              refine lv_lload hx hb dL_law_312 (lv_at hl 1 rfl) ?_
              refine lv_iload hx hb dL_law_314 (lv_at hl 4 rfl) ?_
              refine lv_iload hx hb dL_law_316 (lv_at hl 2 rfl) ?_
              have hor := lp_orth n hn i hi9 j hj9
              refine lv_icmp_ne (tgt := 326) hx hb dL_law_318 (by decide) (fun hc => ?_) (fun hc => ?_)
              · have hne : ¬ i = j := fun h9 => hc (by rw [h9])
                refine lv_lconst (v := (0 : Int64)) hx hb dL_law_326 (by decide) ?_
                refine W.lcmp hx hb dL_law_327 ?_
                refine lv_if_eq (tgt := 333) hx hb dL_law_328 (by decide) (fun _ => ?_) (fun hc => absurd (lg0 (hor.trans (if_neg hne))) hc)
                refine lv_iinc (v := ((nI j) + (1 : Int32))) (lv' := [(11, .int ((nI j) + (1 : Int32))), (14, .int (nI (qz_N n))), (12, .long (oSum n i j (qz_N n))), (10, .ref (B (qz_D n + i))), (9, .int (nI i)), (0, .ref b), (1, .ref (a 0)), (2, .ref al), (3, .int (nI n)), (4, .int (nI (qz_D n))), (5, .int (nI (qz_N n))), (6, .ref tq), (7, .long (Int32.toInt64 (xi_FACTORIALS n)))]) hx hb dL_law_333 hl (k := 2) rfl rfl (by decide) rfl (fun ls hl => ?_)
                refine lv_goto (tgt := 223) hx hb dL_law_336 (by decide) ?_
                rw [show ((nI j) + (1 : Int32)) = (nI (j + 1)) from (nI_1 j)] at hl
                exact ih_223 (j + 1) κ H _ ls hR_332 (by omega) hP hD hS (lv_sub hl [0, 3, 4, 5, 6, 7, 8, 9, 10, 11, 12] rfl)
              · have heq : i = j := (nI_eq (by omega) (by omega)).mp hc
                refine lv_lload hx hb dL_law_321 (lv_at hl 12 rfl) ?_
                refine lv_goto (tgt := 327) hx hb dL_law_323 (by decide) ?_
                refine W.lcmp hx hb dL_law_327 ?_
                refine lv_if_eq (tgt := 333) hx hb dL_law_328 (by decide) (fun _ => ?_) (fun hc => absurd (lg0 (hor.trans (if_pos heq))) hc)
                refine lv_iinc (v := ((nI j) + (1 : Int32))) (lv' := [(11, .int ((nI j) + (1 : Int32))), (14, .int (nI (qz_N n))), (12, .long (oSum n i j (qz_N n))), (10, .ref (B (qz_D n + i))), (9, .int (nI i)), (0, .ref b), (1, .ref (a 0)), (2, .ref al), (3, .int (nI n)), (4, .int (nI (qz_D n))), (5, .int (nI (qz_N n))), (6, .ref tq), (7, .long (Int32.toInt64 (xi_FACTORIALS n)))]) hx hb dL_law_333 hl (k := 2) rfl rfl (by decide) rfl (fun ls hl => ?_)
                refine lv_goto (tgt := 223) hx hb dL_law_336 (by decide) ?_
                rw [show ((nI j) + (1 : Int32)) = (nI (j + 1)) from (nI_1 j)] at hl
                exact ih_223 (j + 1) κ H _ ls hR_332 (by omega) hP hD hS (lv_sub hl [0, 3, 4, 5, 6, 7, 8, 9, 10, 11, 12] rfl)
            | succ d3 ih_263 =>
              intro c1 κ H locs ls hR_333 hc2 hP hD hS hl
              refine lv_iload hx hb dL_law_263 (lv_at hl 0 rfl) ?_
              refine lv_iload hx hb dL_law_265 (lv_at hl 10 rfl) ?_
              refine lv_icmp_ge (tgt := 312) hx hb dL_law_267 (by decide) (fun hc => absurd hc (nI_ge (by omega) (by omega))) (fun _ => ?_)
              refine lv_lload hx hb dL_law_270 (lv_at hl 1 rfl) ?_
              refine lv_aload_n hx hb dL_law_272 rfl (lv_at hl 7 rfl) ?_
              refine lv_iload hx hb dL_law_273 (lv_at hl 9 rfl) ?_
              refine lv_iload hx hb dL_law_275 (lv_at hl 0 rfl) ?_
              refine lv_iadd hx hb dL_law_277 ?_
              rw [show ((nI (qz_D n)) + (nI c1)) = (nI (qz_D n + c1)) from nI_add (qz_D n) c1]
              refine yf_qld hx hb (va_T.kept hT.2.1.1 hS.2.1) rfl (vp_in_nI (show (qz_D n + c1) < 67 by omega) (by omega)) dL_law_278 ?_
              rw [nI_clamp (show (qz_D n + c1) < 2 ^ 31 by omega)]
              refine yr_i Cx hP hD hS (yq_none (S := Unit) (wdS a cyI cyJ κ ++ ([] ++ (ic cyI u (fr (qz_D n + i)) (tro (sr (qz_D n + i)) (sl (qz_D n + i)) (fr (qz_D n + i))) :: E2)))) (yx_S (n := 1) (As := [.ref (B (qz_D n + c1))]) (rest := [.long (oSum n i j c1)]) Cx hP hD hS hl (yq_none (S := Unit) (wdS a cyI cyJ κ ++ ([] ++ (ic cyI u (fr (qz_D n + i)) (tro (sr (qz_D n + i)) (sl (qz_D n + i)) (fr (qz_D n + i))) :: E2)))) hK (fz_ZI (B (qz_D n + c1)) (sl (qz_D n + c1)) (sr (qz_D n + c1))) (fun hF => (fz_give (fz_ZI (B (qz_D n + c1)) (sl (qz_D n + c1)) (sr (qz_D n + c1))) (hT.2.1.2 (qz_D n + c1) (by omega)) hS hF)) (c_L_orders l D cyI cyJ cyB cyQ H.size (B (qz_D n + c1)) (sl (qz_D n + c1)) (qz_S (qz_D n + c1)) (sr (qz_D n + c1)) (by have := sl_small (qz_D n + c1) (by omega); omega) (lp_ord (qz_D n + c1) (by omega)).1 (lp_ord (qz_D n + c1) (by omega)).2.1 (lp_ord (qz_D n + c1) (by omega)).2.2.1) pk_L_orders mw_3_185 ⟨rfl, rfl, Nat.le_of_ble_eq_true rfl, Nat.le_of_ble_eq_true rfl⟩ rfl rfl (Nat.le_of_ble_eq_true rfl) ⟨(show ((800 + 5 * (i + 1))) + 0 ≤ (600000 : Nat) by omega), (show ((20000 + 20 * (i + 1))) + 0 ≤ (7302250 : Nat) by omega)⟩ dL_law_279) (fun r_1 u_334 H locs hp hP hD hS => ?_)
              have hP : va_P D xcl (wdS a cyI cyJ κ ++ ([] ++ (ic cyI u (fr (qz_D n + i)) (tro (sr (qz_D n + i)) (sl (qz_D n + i)) (fr (qz_D n + i))) :: E2))) H := hP
              have hD : va_D A (wdS a cyI cyJ κ ++ ([] ++ (ic cyI u (fr (qz_D n + i)) (tro (sr (qz_D n + i)) (sl (qz_D n + i)) (fr (qz_D n + i))) :: E2))) := hD
              rw [show r_1 = tz_O (qz_D n + c1) from hp.trans (lp_ord (qz_D n + c1) (by omega)).2.2.2]
              refine lv_i2l (v := Int32.toInt64 (tz_O (qz_D n + c1))) hx hb dL_law_282 rfl ?_
              refine lv_aload hx hb dL_law_283 (lv_at hl 11 rfl) ?_
              refine lv_iload hx hb dL_law_285 (lv_at hl 4 rfl) ?_
              refine yf_qld hx hb (va_T.kept hT.2.2.2.2.2.1 hS.2.1) rfl (vp_in_nI (show i < (qz_N n) by omega) (by omega)) dL_law_287 ?_
              rw [nI_clamp (show i < 2 ^ 31 by omega)]
              refine lv_iload hx hb dL_law_288 (lv_at hl 0 rfl) ?_
              refine yf_ild hx hb (va_T.kept (hT.2.2.2.2.2.2 i (by omega)) hS.2.1) (vp_in_nI (show c1 < (qz_N n) by omega) (by omega)) (v := (tc n i c1)) (by rw [nI_clamp (show c1 < 2 ^ 31 by omega)]; exact lp_tb n hn i hi9 c1 (by omega)) dL_law_290 ?_
              refine lv_i2l (v := Int32.toInt64 (tc n i c1)) hx hb dL_law_291 rfl ?_
              refine lv_lmul hx hb dL_law_292 ?_
              refine lv_aload hx hb dL_law_293 (lv_at hl 11 rfl) ?_
              refine lv_iload hx hb dL_law_295 (lv_at hl 2 rfl) ?_
              refine yf_qld hx hb (va_T.kept hT.2.2.2.2.2.1 hS.2.1) rfl (vp_in_nI (show j < (qz_N n) by omega) (by omega)) dL_law_297 ?_
              rw [nI_clamp (show j < 2 ^ 31 by omega)]
              refine lv_iload hx hb dL_law_298 (lv_at hl 0 rfl) ?_
              refine yf_ild hx hb (va_T.kept (hT.2.2.2.2.2.2 j (by omega)) hS.2.1) (vp_in_nI (show c1 < (qz_N n) by omega) (by omega)) (v := (tc n j c1)) (by rw [nI_clamp (show c1 < 2 ^ 31 by omega)]; exact lp_tb n hn j hj9 c1 (by omega)) dL_law_300 ?_
              refine lv_i2l (v := Int32.toInt64 (tc n j c1)) hx hb dL_law_301 rfl ?_
              refine lv_lmul hx hb dL_law_302 ?_
              refine lv_ladd hx hb dL_law_303 ?_
              refine lv_lstore (lv' := [(12, .long ((oSum n i j c1) + (((Int32.toInt64 (tz_O (qz_D n + c1))) * (Int32.toInt64 (tc n i c1))) * (Int32.toInt64 (tc n j c1))))), (14, .int (nI c1)), (11, .int (nI j)), (10, .ref (B (qz_D n + i))), (9, .int (nI i)), (0, .ref b), (1, .ref (a 0)), (2, .ref al), (3, .int (nI n)), (4, .int (nI (qz_D n))), (5, .int (nI (qz_N n))), (6, .ref tq), (7, .long (Int32.toInt64 (xi_FACTORIALS n)))]) hx hb dL_law_304 hl (by decide) rfl (fun ls hl => ?_)
              refine lv_iinc (v := ((nI c1) + (1 : Int32))) (lv' := [(14, .int ((nI c1) + (1 : Int32))), (12, .long ((oSum n i j c1) + (((Int32.toInt64 (tz_O (qz_D n + c1))) * (Int32.toInt64 (tc n i c1))) * (Int32.toInt64 (tc n j c1))))), (11, .int (nI j)), (10, .ref (B (qz_D n + i))), (9, .int (nI i)), (0, .ref b), (1, .ref (a 0)), (2, .ref al), (3, .int (nI n)), (4, .int (nI (qz_D n))), (5, .int (nI (qz_N n))), (6, .ref tq), (7, .long (Int32.toInt64 (xi_FACTORIALS n)))]) hx hb dL_law_306 hl (k := 1) rfl rfl (by decide) rfl (fun ls hl => ?_)
              refine lv_goto (tgt := 263) hx hb dL_law_309 (by decide) ?_
              rw [show ((nI c1) + (1 : Int32)) = (nI (c1 + 1)) from (nI_1 c1)] at hl
              have hl : lv_has ls 28 [(14, .int (nI (c1 + 1))), (12, .long (oSum n i j (c1 + 1))), (11, .int (nI j)), (10, .ref (B (qz_D n + i))), (9, .int (nI i)), (0, .ref b), (1, .ref (a 0)), (2, .ref al), (3, .int (nI n)), (4, .int (nI (qz_D n))), (5, .int (nI (qz_N n))), (6, .ref tq), (7, .long (Int32.toInt64 (xi_FACTORIALS n)))] := hl
              exact ih_263 (c1 + 1) κ H _ ls hR_333 (by omega) hP hD hS (lv_sub hl [0, 1, 2, 3, 4, 5, 6, 7, 8, 9, 10, 11, 12] rfl)
          exact w_263 (qz_N n) 0 τ_328 H _ ls hR_330 (by omega) hP hD hS (lv_sub hl [0, 1, 2, 3, 4, 5, 6, 7, 8, 9, 10, 11, 12] rfl)
      have w_171 : ∀ (d2 : Nat) (r : Nat) (ρ : CS) (H : Heap) (locs : List Loc) (ls : Array Slot), Rc ρ S [] → r + d2 = 8 → va_P D xcl (wdS a cyI cyJ ρ ++ ([] ++ (ic cyI u (fr (qz_D n + i)) (tro (sr (qz_D n + i)) (sl (qz_D n + i)) (fr (qz_D n + i))) :: E2))) H → va_D A (wdS a cyI cyJ ρ ++ ([] ++ (ic cyI u (fr (qz_D n + i)) (tro (sr (qz_D n + i)) (sl (qz_D n + i)) (fr (qz_D n + i))) :: E2))) → va_S A H0 H locs → lv_has ls 28 [(11, .int (nI r)), (10, .ref (B (qz_D n + i))), (9, .int (nI i)), (0, .ref b), (1, .ref (a 0)), (2, .ref al), (3, .int (nI n)), (4, .int (nI (qz_D n))), (5, .int (nI (qz_N n))), (6, .ref tq), (7, .long (Int32.toInt64 (xi_FACTORIALS n)))] → W p0 l e room_1 s m #[Value.ref b] below meth c H locs ((800 + 5 * (i + 1))) ((20000 + 20 * (i + 1))) (lw_Z below #[Value.ref b] s) (F0 m 171 ls []) := by
        intro d2
        induction d2 with
        | zero =>
          intro r ρ H locs ls hR_335 hr2 hP hD hS hl
          obtain rfl : r = 8 := by omega
          refine lv_iload hx hb dL_law_171 (lv_at hl 0 rfl) ?_
          refine lv_bipush (v := (8 : Int32)) hx hb dL_law_173 (by decide) ?_
          refine lv_icmp_ge (tgt := 220) hx hb dL_law_175 (by decide) (fun _ => ?_) (fun hc => absurd (Int32.le_refl (8 : Int32)) hc)
          refine lv_iconst (v := (0 : Int32)) hx hb dL_law_220 (by decide) ?_
          refine lv_istore (lv' := [(11, .int (0 : Int32)), (10, .ref (B (qz_D n + i))), (9, .int (nI i)), (0, .ref b), (1, .ref (a 0)), (2, .ref al), (3, .int (nI n)), (4, .int (nI (qz_D n))), (5, .int (nI (qz_N n))), (6, .ref tq), (7, .long (Int32.toInt64 (xi_FACTORIALS n)))]) hx hb dL_law_221 hl (by decide) rfl (fun ls hl => ?_)
          exact w_223 (qz_N n) 0 ρ H _ ls hR_335 (by omega) hP hD hS (lv_sub hl [0, 1, 2, 3, 4, 5, 6, 7, 8, 9, 10] rfl)
        | succ d2 ih_171 =>
          intro r ρ H locs ls hR_336 hr2 hP hD hS hl
          refine lv_iload hx hb dL_law_171 (lv_at hl 0 rfl) ?_
          refine lv_bipush (v := (8 : Int32)) hx hb dL_law_173 (by decide) ?_
          refine lv_icmp_ge (tgt := 220) hx hb dL_law_175 (by decide) (fun hc => absurd hc (show ¬ (8 : Int32) ≤ nI r from nI_ge (b := 8) (by omega) (by decide))) (fun _ => ?_)
          refine lv_aload_n hx hb dL_law_178 rfl (lv_at hl 4 rfl) ?_
          refine lv_iload hx hb dL_law_179 (lv_at hl 7 rfl) ?_
          refine lv_iload hx hb dL_law_181 (lv_at hl 2 rfl) ?_
          refine lv_iadd hx hb dL_law_183 ?_
          rw [show ((nI (qz_D n)) + (nI i)) = (nI (qz_D n + i)) from nI_add (qz_D n) i]
          refine lv_bipush (v := (10 : Int32)) hx hb dL_law_184 (by decide) ?_
          refine lv_iload hx hb dL_law_186 (lv_at hl 0 rfl) ?_
          refine lv_iadd hx hb dL_law_188 ?_
          rw [show ((10 : Int32) + (nI r)) = (nI (10 + r)) from nI_add 10 r]
          obtain ⟨τ_337, hR_339, hM_338⟩ := mm_of l D cyI cyJ G a H.size hR_336 (k := (qz_D n + i)) (w := 10 + r) (by omega) (Or.inr ⟨by omega, by omega⟩)
          refine yr_i Cx hP hD hS (yq_front (S := Unit) (wdS a cyI cyJ ρ) ([] ++ (ic cyI u (fr (qz_D n + i)) (tro (sr (qz_D n + i)) (sl (qz_D n + i)) (fr (qz_D n + i))) :: E2)) (fun _ => wdS a cyI cyJ τ_337) 28 (fun _ => rfl)) (yx_V (n := 2) (As := [.int (nI (qz_D n + i)), .int (nI (10 + r))]) (rest := []) Cx hP hD hS hl (yq_front (S := Unit) (wdS a cyI cyJ ρ) ([] ++ (ic cyI u (fr (qz_D n + i)) (tro (sr (qz_D n + i)) (sl (qz_D n + i)) (fr (qz_D n + i))) :: E2)) (fun _ => wdS a cyI cyJ τ_337) 28 (fun _ => rfl)) (y_K2 hK) (fz_xs G) (fun hF => (fz_give (fz_xs G) hT.1 hS hF)) (ym_xi hM_338) pk_X9_of mw_2_105 ⟨rfl, rfl, Nat.le_of_ble_eq_true rfl, Nat.le_of_ble_eq_true rfl⟩ (va_recv (ci := 9) hK hP rfl (q0 := 0) rfl) rfl rfl (Nat.le_of_ble_eq_true rfl) ⟨(show ((800 + 5 * (i + 1))) + 0 ≤ (600000 : Nat) by omega), (show ((20000 + 20 * (i + 1))) + 0 ≤ (7302250 : Nat) by omega)⟩ dL_law_189) (fun r_1 u_340 H locs hp hP hD hS => ?_)
          have hP : va_P D xcl (wdS a cyI cyJ τ_337 ++ ([] ++ (ic cyI u (fr (qz_D n + i)) (tro (sr (qz_D n + i)) (sl (qz_D n + i)) (fr (qz_D n + i))) :: E2))) H := hP
          have hD : va_D A (wdS a cyI cyJ τ_337 ++ ([] ++ (ic cyI u (fr (qz_D n + i)) (tro (sr (qz_D n + i)) (sl (qz_D n + i)) (fr (qz_D n + i))) :: E2))) := hD
          rw [show r_1 = (ofV (qz_D n + i) (10 + r)) from hp]
          rw [show (ofV (qz_D n + i) (10 + r)) = (if r < sl (qz_D n + i) then sr (qz_D n + i) r else 0) from (ofV_row (qz_D n + i) r).trans (lp_row (qz_D n + i) (by omega) r (by omega))]
          refine lv_iload hx hb dL_law_192 (lv_at hl 0 rfl) ?_
          refine lv_aload hx hb dL_law_194 (lv_at hl 1 rfl) ?_
          refine yf_len hx hb (va_T.kept (hT.2.1.2 (qz_D n + i) (by omega)) hS.2.1) dL_law_196 ?_
          refine lv_icmp_ge (tgt := 208) hx hb dL_law_197 (by decide) (fun hc => ?_) (fun hc => ?_)
          · have hrs : ¬ r < sl (qz_D n + i) := by have := (nI_leI (by omega) (by omega)).mp hc; omega
            refine lv_iconst (v := (0 : Int32)) hx hb dL_law_208 (by decide) ?_
            refine lv_icmp_eq (tgt := 214) hx hb dL_law_209 (by decide) (fun _ => ?_) (fun hc => absurd (if_neg hrs) hc)
            refine lv_iinc (v := ((nI r) + (1 : Int32))) (lv' := [(11, .int ((nI r) + (1 : Int32))), (10, .ref (B (qz_D n + i))), (9, .int (nI i)), (0, .ref b), (1, .ref (a 0)), (2, .ref al), (3, .int (nI n)), (4, .int (nI (qz_D n))), (5, .int (nI (qz_N n))), (6, .ref tq), (7, .long (Int32.toInt64 (xi_FACTORIALS n)))]) hx hb dL_law_214 hl (k := 0) rfl rfl (by decide) rfl (fun ls hl => ?_)
            refine lv_goto (tgt := 171) hx hb dL_law_217 (by decide) ?_
            rw [show ((nI r) + (1 : Int32)) = (nI (r + 1)) from (nI_1 r)] at hl
            exact ih_171 (r + 1) τ_337 H _ ls hR_339 (by omega) hP hD hS (lv_sub hl [0, 1, 2, 3, 4, 5, 6, 7, 8, 9, 10] rfl)
          · have hrs : r < sl (qz_D n + i) := by rcases Nat.lt_or_ge r (sl (qz_D n + i)) with h9 | h9; exact h9; exact absurd (nI_le h9 (by omega)) hc
            refine lv_aload hx hb dL_law_200 (lv_at hl 1 rfl) ?_
            refine lv_iload hx hb dL_law_202 (lv_at hl 0 rfl) ?_
            refine yf_ild hx hb (va_T.kept (hT.2.1.2 (qz_D n + i) (by omega)) hS.2.1) (vp_in_nI (show r < (sl (qz_D n + i)) by omega) (by omega)) (v := (sr (qz_D n + i) r)) (by rw [nI_clamp (show r < 2 ^ 31 by omega)]) dL_law_204 ?_
            refine lv_goto (tgt := 209) hx hb dL_law_205 (by decide) ?_
            refine lv_icmp_eq (tgt := 214) hx hb dL_law_209 (by decide) (fun _ => ?_) (fun hc => absurd (if_pos hrs) hc)
            refine lv_iinc (v := ((nI r) + (1 : Int32))) (lv' := [(11, .int ((nI r) + (1 : Int32))), (10, .ref (B (qz_D n + i))), (9, .int (nI i)), (0, .ref b), (1, .ref (a 0)), (2, .ref al), (3, .int (nI n)), (4, .int (nI (qz_D n))), (5, .int (nI (qz_N n))), (6, .ref tq), (7, .long (Int32.toInt64 (xi_FACTORIALS n)))]) hx hb dL_law_214 hl (k := 0) rfl rfl (by decide) rfl (fun ls hl => ?_)
            refine lv_goto (tgt := 171) hx hb dL_law_217 (by decide) ?_
            rw [show ((nI r) + (1 : Int32)) = (nI (r + 1)) from (nI_1 r)] at hl
            exact ih_171 (r + 1) τ_337 H _ ls hR_339 (by omega) hP hD hS (lv_sub hl [0, 1, 2, 3, 4, 5, 6, 7, 8, 9, 10] rfl)
      exact w_171 8 0 τ_321 H _ ls hR_323 rfl hP hD hS (lv_sub hl [0, 1, 2, 3, 4, 5, 6, 7, 8, 9, 10] rfl)
  exact w_57 (qz_N n) 0 E1 σ H _ ls hR (by omega) hP hD hS (lv_sub hl [0, 1, 2, 3, 4, 5, 6, 7, 8] rfl)
