theorem moreC_ok (K j : Nat) (hj : j < sl K + 1) : upd (va_cpy (sr K) (fun _ => (0 : Int32)) 0 0 (sl K)) (sl K) 1 j = nI (moreC K j) := by
  unfold upd moreC va_cpy
  by_cases h9 : j = sl K
  · rw [if_pos h9, if_neg (by omega)]; rfl
  · rw [if_neg h9, if_pos ⟨Nat.zero_le _, by omega⟩, if_pos (by omega), Nat.zero_add, Nat.sub_zero]; rfl
theorem moreC_le {K : Nat} (hK : K < 67) : ∀ j, j < sl K + 1 → moreC K j ≤ 16 := by
  intro j hj
  unfold moreC
  by_cases h9 : j < sl K
  · rw [if_pos h9]; exact Nat.le_trans (sc_small K hK j h9) (by decide)
  · rw [if_neg h9]; decide
set_option maxHeartbeats 16000000 in
set_option maxRecDepth 20000 in
theorem law_1420 {p0 : Program} {l : Launch} {e : Env} {s : State} {m : MethodId} {below : List Frame} {meth : Method} {c : Code} {b : Nat} {D : va_G} {cyI cyJ cyB cyQ : ClassId} {G a g kk kv B : Nat → Nat} {al tq L n : Nat} {xs : Nat → Int32} {A : Nat → Prop} {H0 : Heap} (C0 : LCx p0 s m b meth c D cyI cyJ cyB cyQ G g kk kv B al tq L n xs A H0) {σ : CS} {S : Nat → SV} (hR : Rc σ S []) {E1 : va_W} {fv : Nat → Int32} (hv : okF n fv) (hS0 : S 0 = some (n, fv)) (hn0 : n = 0) {H : Heap} {locs : List Loc} {ls : Array Slot} (hP : va_P D xcl (wdS a cyI cyJ σ ++ ([] ++ E1)) H) (hD : va_D A (wdS a cyI cyJ σ ++ ([] ++ E1))) (hS : va_S A H0 H locs) (hl : lv_has ls 28 [(0, .ref b), (1, .ref (a 0)), (2, .ref al), (4, .int (nI (qz_D n))), (5, .int (nI (qz_N n)))]) : W p0 l e room_1 s m #[Value.ref b] below meth c H locs 5000 450000 (lw_Z below #[Value.ref b] s) (F0 m 1420 ls []) := by
  have C1 := C0
  obtain ⟨Cx, hAs, hn, hL⟩ := C1
  have Cx1 := Cx
  obtain ⟨⟨hx, hb, hml, hown, hts⟩, hr, hlocks, hK, hA, hT⟩ := Cx1
  obtain ⟨hD1, hD2, hD3⟩ := D_small n hn
  have hN1 : 0 < qz_N n := by show 0 < qz_D (n + 1) - qz_D n; omega
  have hN2 : qz_N n ≤ 15 := hD2
  have hN3 : qz_D n + qz_N n ≤ 45 := by show qz_D n + (qz_D (n + 1) - qz_D n) ≤ 45; omega
  refine lv_aload_n hx hb dL_law_1420 rfl (lv_at hl 1 rfl) ?_
  refine lv_iconst (v := (3 : Int32)) hx hb dL_law_1421 (by decide) ?_
  refine lv_iconst (v := (0 : Int32)) hx hb dL_law_1422 (by decide) ?_
  refine lv_iconst (v := (0 : Int32)) hx hb dL_law_1423 (by decide) ?_
  refine lv_iconst (v := (0 : Int32)) hx hb dL_law_1424 (by decide) ?_
  have ht22 := tmN_22 (dbF fv)
  obtain ⟨τ_135, hR_137, hM_136⟩ := mm_plus l D cyI cyJ G a H.size hR hS0 hv.1
  refine yr_i Cx hP hD hS (yq_front (S := Unit) (wdS a cyI cyJ σ) ([] ++ E1) (fun _ => wdS a cyI cyJ τ_135) 28 (fun _ => rfl)) (yx_V (n := 4) (As := [.int (3 : Int32), .int (0 : Int32), .int (0 : Int32), .int (0 : Int32)]) (rest := []) Cx hP hD hS hl (yq_front (S := Unit) (wdS a cyI cyJ σ) ([] ++ E1) (fun _ => wdS a cyI cyJ τ_135) 28 (fun _ => rfl)) (y_K2 hK) (fz_xs G) (fun hF => (fz_give (fz_xs G) hT.1 hS hF)) (ym_xi hM_136) pk_X9_makes mw_3_72 ⟨rfl, rfl, Nat.le_of_ble_eq_true rfl, Nat.le_of_ble_eq_true rfl⟩ (va_recv (ci := 9) hK hP rfl (q0 := 0) rfl) rfl rfl (Nat.le_of_ble_eq_true rfl) ⟨Nat.le_of_ble_eq_true rfl, Nat.le_of_ble_eq_true rfl⟩ dL_law_1425) (fun r_1 u_138 H locs hp hP hD hS => ?_)
  have hP : va_P D xcl (wdS a cyI cyJ τ_135 ++ ([] ++ E1)) H := hP
  have hD : va_D A (wdS a cyI cyJ τ_135 ++ ([] ++ E1)) := hD
  rw [show r_1 = (nI (tmN (dbF fv) 22)) from hp]
  refine lv_if_lt (tgt := 1442) hx hb dL_law_1428 (by decide) (fun hc => absurd hc (nI_pos (show tmN (dbF fv) 22 < 2 ^ 31 by omega))) (fun _ => ?_)
  refine lv_aload_n hx hb dL_law_1431 rfl (lv_at hl 1 rfl) ?_
  refine lv_iconst (v := (3 : Int32)) hx hb dL_law_1432 (by decide) ?_
  refine lv_iconst (v := (1 : Int32)) hx hb dL_law_1433 (by decide) ?_
  have hS3 : upS S 3 (some (n, dbF fv)) 3 = some (0, dbF fv) := by show (some (n, dbF fv) : SV) = _; rw [hn0]
  obtain ⟨τ_139, hR_141, hM_140⟩ := mm_restricted0 l D cyI cyJ G a H.size hR_137 hS3
  refine yr_i Cx hP hD hS (yq_front (S := Unit) (wdS a cyI cyJ τ_135) ([] ++ E1) (fun _ => wdS a cyI cyJ τ_139) 28 (fun _ => rfl)) (yx_V (n := 2) (As := [.int (3 : Int32), .int (1 : Int32)]) (rest := []) Cx hP hD hS hl (yq_front (S := Unit) (wdS a cyI cyJ τ_135) ([] ++ E1) (fun _ => wdS a cyI cyJ τ_139) 28 (fun _ => rfl)) (y_K2 hK) (fz_xs G) (fun hF => (fz_give (fz_xs G) hT.1 hS hF)) (ym_xi hM_140) pk_X9_changed mw_3_115 ⟨rfl, rfl, Nat.le_of_ble_eq_true rfl, Nat.le_of_ble_eq_true rfl⟩ (va_recv (ci := 9) hK hP rfl (q0 := 0) rfl) rfl rfl (Nat.le_of_ble_eq_true rfl) ⟨Nat.le_of_ble_eq_true rfl, Nat.le_of_ble_eq_true rfl⟩ dL_law_1434) (fun r_2 u_142 H locs hp hP hD hS => ?_)
  have hP : va_P D xcl (wdS a cyI cyJ τ_139 ++ ([] ++ E1)) H := hP
  have hD : va_D A (wdS a cyI cyJ τ_139 ++ ([] ++ E1)) := hD
  rw [show r_2 = (-3 : Int32) from hp]
  refine lv_bipush (v := (-3 : Int32)) hx hb dL_law_1437 (by decide) ?_
  refine lv_icmp_eq (tgt := 1444) hx hb dL_law_1439 (by decide) (fun _ => ?_) (fun hc => absurd rfl hc)
  exact law_1444 C0 hR_141 hv (show upS S 3 (some (n, dbF fv)) 0 = some (n, fv) from hS0) hP hD hS (lv_sub hl [0, 1, 2, 3, 4] rfl)
set_option maxHeartbeats 16000000 in
set_option maxRecDepth 20000 in
theorem law_1367 {p0 : Program} {l : Launch} {e : Env} {s : State} {m : MethodId} {below : List Frame} {meth : Method} {c : Code} {b : Nat} {D : va_G} {cyI cyJ cyB cyQ : ClassId} {G a g kk kv B : Nat → Nat} {al tq L k : Nat} {xs : Nat → Int32} {A : Nat → Prop} {H0 : Heap} (C0 : LCx p0 s m b meth c D cyI cyJ cyB cyQ G g kk kv B al tq L (k + 1) xs A H0) {σ : CS} {S : Nat → SV} (hR : Rc σ S [])  {v : Nat} {E1 : va_W} {fv fu : Nat → Int32} (hv : okF (k + 1) fv) (hu : okF k fu) (hS0 : S 0 = some (k + 1, fv)) (hS2 : S 2 = some (k, fu)) (hS3 : S 3 = some (k, (reF (k + 1) (dbF fv)))) {H : Heap} {locs : List Loc} {ls : Array Slot} (hP : va_P D xcl (wdS a cyI cyJ σ ++ ([ic cyI v (qz_N (k + 1)) fv] ++ E1)) H) (hD : va_D A (wdS a cyI cyJ σ ++ ([ic cyI v (qz_N (k + 1)) fv] ++ E1))) (hS : va_S A H0 H locs) (hl : lv_has ls 28 [(18, .long (inS fu (reF (k + 1) (dbF fv)) 22)), (0, .ref b), (1, .ref (a 0)), (2, .ref al), (3, .int (nI (k + 1))), (4, .int (nI (qz_D (k + 1)))), (5, .int (nI (qz_N (k + 1)))), (9, .ref v)]) : W p0 l e room_1 s m #[Value.ref b] below meth c H locs 4500 430000 (lw_Z below #[Value.ref b] s) (F0 m 1367 ls []) := by
  have C1 := C0
  obtain ⟨Cx, hAs, hn, hL⟩ := C1
  have Cx1 := Cx
  obtain ⟨⟨hx, hb, hml, hown, hts⟩, hr, hlocks, hK, hA, hT⟩ := Cx1
  obtain ⟨hD1, hD2, hD3⟩ := D_small (k + 1) hn
  have hN1 : 0 < qz_N (k + 1) := by show 0 < qz_D (k + 1 + 1) - qz_D (k + 1); omega
  have hN2 : qz_N (k + 1) ≤ 15 := hD2
  have hN3 : qz_D (k + 1) + qz_N (k + 1) ≤ 45 := by show qz_D (k + 1) + (qz_D (k + 1 + 1) - qz_D (k + 1)) ≤ 45; omega
  obtain ⟨hE1, hE2, hE3⟩ := D_small k (by omega)
  have hM1 : 0 < qz_N k := by show 0 < qz_D (k + 1) - qz_D k; omega
  have hM2 : qz_N k ≤ 15 := hE2
  have hM3 : qz_D k + qz_N k ≤ 45 := by show qz_D k + (qz_D (k + 1) - qz_D k) ≤ 45; omega
  refine lv_aload_n hx hb dL_law_1367 rfl (lv_at hl 2 rfl) ?_
  refine lv_iconst (v := (2 : Int32)) hx hb dL_law_1368 (by decide) ?_
  refine lv_iconst (v := (2 : Int32)) hx hb dL_law_1369 (by decide) ?_
  have ht22 := tmN_22 (idF (k + 1) fu)
  obtain ⟨τ_143, hR_145, hM_144⟩ := mm_induced l D cyI cyJ G a H.size hR (n := k + 1) hS2 (Nat.succ_pos k) (by omega) (pu_fitI hn hu)
  refine yr_i Cx hP hD hS (yq_front (S := Unit) (wdS a cyI cyJ σ) ([ic cyI v (qz_N (k + 1)) fv] ++ E1) (fun _ => wdS a cyI cyJ τ_143) 28 (fun _ => rfl)) (yx_V (n := 2) (As := [.int (2 : Int32), .int (2 : Int32)]) (rest := []) Cx hP hD hS hl (yq_front (S := Unit) (wdS a cyI cyJ σ) ([ic cyI v (qz_N (k + 1)) fv] ++ E1) (fun _ => wdS a cyI cyJ τ_143) 28 (fun _ => rfl)) (y_K2 hK) (fz_xs G) (fun hF => (fz_give (fz_xs G) hT.1 hS hF)) (ym_xi hM_144) pk_X9_changed mw_3_115 ⟨rfl, rfl, Nat.le_of_ble_eq_true rfl, Nat.le_of_ble_eq_true rfl⟩ (va_recv (ci := 9) hK hP rfl (q0 := 0) rfl) rfl rfl (Nat.le_of_ble_eq_true rfl) ⟨Nat.le_of_ble_eq_true rfl, Nat.le_of_ble_eq_true rfl⟩ dL_law_1370) (fun r_1 u_146 H locs hp hP hD hS => ?_)
  have hP : va_P D xcl (wdS a cyI cyJ τ_143 ++ ([ic cyI v (qz_N (k + 1)) fv] ++ E1)) H := hP
  have hD : va_D A (wdS a cyI cyJ τ_143 ++ ([ic cyI v (qz_N (k + 1)) fv] ++ E1)) := hD
  rw [show r_1 = (nI (tmN (idF (k + 1) fu) 22)) from hp]
  refine lv_aload_n hx hb dL_law_1373 rfl (lv_at hl 2 rfl) ?_
  refine lv_iconst (v := (2 : Int32)) hx hb dL_law_1374 (by decide) ?_
  refine lv_iconst (v := (1 : Int32)) hx hb dL_law_1375 (by decide) ?_
  have hS2b : (upS S 2 (some (k + 1, (idF (k + 1) fu)))) 2 = some (k + 1, (idF (k + 1) fu)) := rfl
  obtain ⟨τ_147, hR_149, hM_148⟩ := mm_sum1 l D cyI cyJ G a H.size hR_145 (s := 2) (by decide) hS2b
  refine yr_i Cx hP hD hS (yq_front (S := Unit) (wdS a cyI cyJ τ_143) ([ic cyI v (qz_N (k + 1)) fv] ++ E1) (fun _ => wdS a cyI cyJ τ_147) 28 (fun _ => rfl)) (yx_V (n := 2) (As := [.int (2 : Int32), .int (1 : Int32)]) (rest := [.int (nI (tmN (idF (k + 1) fu) 22))]) Cx hP hD hS hl (yq_front (S := Unit) (wdS a cyI cyJ τ_143) ([ic cyI v (qz_N (k + 1)) fv] ++ E1) (fun _ => wdS a cyI cyJ τ_147) 28 (fun _ => rfl)) (y_K2 hK) (fz_xs G) (fun hF => (fz_give (fz_xs G) hT.1 hS hF)) (ym_xi hM_148) pk_X9_sum mw_3_43 ⟨rfl, rfl, Nat.le_of_ble_eq_true rfl, Nat.le_of_ble_eq_true rfl⟩ (va_recv (ci := 9) hK hP rfl (q0 := 0) rfl) rfl rfl (Nat.le_of_ble_eq_true rfl) ⟨Nat.le_of_ble_eq_true rfl, Nat.le_of_ble_eq_true rfl⟩ dL_law_1376) (fun r_2 u_150 H locs hp hP hD hS => ?_)
  have hP : va_P D xcl (wdS a cyI cyJ τ_147 ++ ([ic cyI v (qz_N (k + 1)) fv] ++ E1)) H := hP
  have hD : va_D A (wdS a cyI cyJ τ_147 ++ ([ic cyI v (qz_N (k + 1)) fv] ++ E1)) := hD
  rw [show r_2 = (nI (tmN (idF (k + 1) fu) 22)) from hp]
  refine lv_icmp_ne (tgt := 1415) hx hb dL_law_1379 (by decide) (fun hc => absurd rfl hc) (fun _ => ?_)
  refine lv_aload_n hx hb dL_law_1382 rfl (lv_at hl 2 rfl) ?_
  refine lv_iconst (v := (2 : Int32)) hx hb dL_law_1383 (by decide) ?_
  refine lv_iconst (v := (0 : Int32)) hx hb dL_law_1384 (by decide) ?_
  obtain ⟨τ_151, hR_153, hM_152⟩ := mm_sum0 l D cyI cyJ G a H.size hR_149 (s := 2) (by decide) hS2b
  refine yr_i Cx hP hD hS (yq_front (S := Unit) (wdS a cyI cyJ τ_147) ([ic cyI v (qz_N (k + 1)) fv] ++ E1) (fun _ => wdS a cyI cyJ τ_151) 28 (fun _ => rfl)) (yx_V (n := 2) (As := [.int (2 : Int32), .int (0 : Int32)]) (rest := []) Cx hP hD hS hl (yq_front (S := Unit) (wdS a cyI cyJ τ_147) ([ic cyI v (qz_N (k + 1)) fv] ++ E1) (fun _ => wdS a cyI cyJ τ_151) 28 (fun _ => rfl)) (y_K2 hK) (fz_xs G) (fun hF => (fz_give (fz_xs G) hT.1 hS hF)) (ym_xi hM_152) pk_X9_sum mw_3_43 ⟨rfl, rfl, Nat.le_of_ble_eq_true rfl, Nat.le_of_ble_eq_true rfl⟩ (va_recv (ci := 9) hK hP rfl (q0 := 0) rfl) rfl rfl (Nat.le_of_ble_eq_true rfl) ⟨Nat.le_of_ble_eq_true rfl, Nat.le_of_ble_eq_true rfl⟩ dL_law_1385) (fun r_3 u_154 H locs hp hP hD hS => ?_)
  have hP : va_P D xcl (wdS a cyI cyJ τ_151 ++ ([ic cyI v (qz_N (k + 1)) fv] ++ E1)) H := hP
  have hD : va_D A (wdS a cyI cyJ τ_151 ++ ([ic cyI v (qz_N (k + 1)) fv] ++ E1)) := hD
  rw [show r_3 = (nI (k + 1)) from hp]
  refine lv_iload_n hx hb dL_law_1388 rfl (lv_at hl 4 rfl) ?_
  refine lv_icmp_ne (tgt := 1415) hx hb dL_law_1389 (by decide) (fun hc => absurd rfl hc) (fun _ => ?_)
  refine lv_aload_n hx hb dL_law_1392 rfl (lv_at hl 2 rfl) ?_
  refine lv_iconst (v := (3 : Int32)) hx hb dL_law_1393 (by decide) ?_
  refine lv_iconst (v := (0 : Int32)) hx hb dL_law_1394 (by decide) ?_
  refine lv_iconst (v := (0 : Int32)) hx hb dL_law_1395 (by decide) ?_
  refine lv_iconst (v := (0 : Int32)) hx hb dL_law_1396 (by decide) ?_
  have hS0b : (upS S 2 (some (k + 1, (idF (k + 1) fu)))) 0 = some (k + 1, fv) := hS0
  have ht22 := tmN_22 (dbF fv)
  obtain ⟨τ_155, hR_157, hM_156⟩ := mm_plus l D cyI cyJ G a H.size hR_153 hS0b hv.1
  refine yr_i Cx hP hD hS (yq_front (S := Unit) (wdS a cyI cyJ τ_151) ([ic cyI v (qz_N (k + 1)) fv] ++ E1) (fun _ => wdS a cyI cyJ τ_155) 28 (fun _ => rfl)) (yx_V (n := 4) (As := [.int (3 : Int32), .int (0 : Int32), .int (0 : Int32), .int (0 : Int32)]) (rest := []) Cx hP hD hS hl (yq_front (S := Unit) (wdS a cyI cyJ τ_151) ([ic cyI v (qz_N (k + 1)) fv] ++ E1) (fun _ => wdS a cyI cyJ τ_155) 28 (fun _ => rfl)) (y_K2 hK) (fz_xs G) (fun hF => (fz_give (fz_xs G) hT.1 hS hF)) (ym_xi hM_156) pk_X9_makes mw_3_72 ⟨rfl, rfl, Nat.le_of_ble_eq_true rfl, Nat.le_of_ble_eq_true rfl⟩ (va_recv (ci := 9) hK hP rfl (q0 := 0) rfl) rfl rfl (Nat.le_of_ble_eq_true rfl) ⟨Nat.le_of_ble_eq_true rfl, Nat.le_of_ble_eq_true rfl⟩ dL_law_1397) (fun r_4 u_158 H locs hp hP hD hS => ?_)
  have hP : va_P D xcl (wdS a cyI cyJ τ_155 ++ ([ic cyI v (qz_N (k + 1)) fv] ++ E1)) H := hP
  have hD : va_D A (wdS a cyI cyJ τ_155 ++ ([ic cyI v (qz_N (k + 1)) fv] ++ E1)) := hD
  rw [show r_4 = (nI (tmN (dbF fv) 22)) from hp]
  refine lv_if_lt (tgt := 1415) hx hb dL_law_1400 (by decide) (fun hc => absurd hc (nI_pos (show tmN (dbF fv) 22 < 2 ^ 31 by omega))) (fun _ => ?_)
  refine lv_aload_n hx hb dL_law_1403 rfl (lv_at hl 2 rfl) ?_
  refine lv_iconst (v := (2 : Int32)) hx hb dL_law_1404 (by decide) ?_
  refine lv_iconst (v := (3 : Int32)) hx hb dL_law_1405 (by decide) ?_
  obtain ⟨τ_159, hR_161, hM_160⟩ := mm_inner l D cyI cyJ G a H.size hR_157 (s := 2) (t := 3) (by decide) (by decide) (show (upS (upS S 2 (some (k + 1, (idF (k + 1) fu)))) 3 (some (k + 1, dbF fv))) 2 = some (k + 1, (idF (k + 1) fu)) from rfl) (show (upS (upS S 2 (some (k + 1, (idF (k + 1) fu)))) 3 (some (k + 1, dbF fv))) 3 = some (k + 1, dbF fv) from rfl)
  refine yr_l Cx hP hD hS (yq_front (S := Unit) (wdS a cyI cyJ τ_155) ([ic cyI v (qz_N (k + 1)) fv] ++ E1) (fun _ => wdS a cyI cyJ τ_159) 28 (fun _ => rfl)) (yx_V (n := 2) (As := [.int (2 : Int32), .int (3 : Int32)]) (rest := []) Cx hP hD hS hl (yq_front (S := Unit) (wdS a cyI cyJ τ_155) ([ic cyI v (qz_N (k + 1)) fv] ++ E1) (fun _ => wdS a cyI cyJ τ_159) 28 (fun _ => rfl)) (y_K2 hK) (fz_xs G) (fun hF => (fz_give (fz_xs G) hT.1 hS hF)) (ym_xl hM_160) pk_X9_inner mw_3_151 ⟨rfl, rfl, Nat.le_of_ble_eq_true rfl, Nat.le_of_ble_eq_true rfl⟩ (va_recv (ci := 9) hK hP rfl (q0 := 0) rfl) rfl rfl (Nat.le_of_ble_eq_true rfl) ⟨Nat.le_of_ble_eq_true rfl, Nat.le_of_ble_eq_true rfl⟩ dL_law_1406) (fun r_5 u_162 H locs hp hP hD hS => ?_)
  have hP : va_P D xcl (wdS a cyI cyJ τ_159 ++ ([ic cyI v (qz_N (k + 1)) fv] ++ E1)) H := hP
  have hD : va_D A (wdS a cyI cyJ τ_159 ++ ([ic cyI v (qz_N (k + 1)) fv] ++ E1)) := hD
  rw [show r_5 = (inS (idF (k + 1) fu) (dbF fv) 22) from hp]
  refine lv_lload hx hb dL_law_1409 (lv_at hl 0 rfl) ?_
  refine W.lcmp hx hb dL_law_1411 ?_
  refine lv_if_eq (tgt := 1417) hx hb dL_law_1412 (by decide) (fun _ => ?_) (fun hc => absurd (lg0 (pu_frob hn hv hu)) hc)
  refine lv_goto (tgt := 1444) hx hb dL_law_1417 (by decide) ?_
  refine W.widen (k := 5000) (n := 450000) (by omega) (by omega) ?_
  exact law_1444 (E1 := [ic cyI v (qz_N (k + 1)) fv] ++ E1) C0 hR_161 hv (show (upS (upS S 2 (some (k + 1, (idF (k + 1) fu)))) 3 (some (k + 1, dbF fv))) 0 = some (k + 1, fv) from hS0) hP hD hS (lv_sub hl [1, 2, 3, 5, 6] rfl)
set_option maxHeartbeats 16000000 in
set_option maxRecDepth 20000 in
theorem law_1240 {p0 : Program} {l : Launch} {e : Env} {s : State} {m : MethodId} {below : List Frame} {meth : Method} {c : Code} {b : Nat} {D : va_G} {cyI cyJ cyB cyQ : ClassId} {G a g kk kv B : Nat → Nat} {al tq L k : Nat} {xs : Nat → Int32} {A : Nat → Prop} {H0 : Heap} (C0 : LCx p0 s m b meth c D cyI cyJ cyB cyQ G g kk kv B al tq L (k + 1) xs A H0) {σ : CS} {S : Nat → SV} (hR : Rc σ S [])  {v : Nat} {E1 : va_W} {fv fu : Nat → Int32} (hv : okF (k + 1) fv) (hu : okF k fu) (hS0 : S 0 = some (k + 1, fv)) (hS2 : S 2 = some (k, fu)) (hS3 : S 3 = some (k, (reF (k + 1) (dbF fv)))) {H : Heap} {locs : List Loc} {ls : Array Slot} (hP : va_P D xcl (wdS a cyI cyJ σ ++ ([ic cyI v (qz_N (k + 1)) fv] ++ E1)) H) (hD : va_D A (wdS a cyI cyJ σ ++ ([ic cyI v (qz_N (k + 1)) fv] ++ E1))) (hS : va_S A H0 H locs) (hl : lv_has ls 28 [(18, .long (inS fu (reF (k + 1) (dbF fv)) 22)), (15, .int (nI (qz_N k))), (0, .ref b), (1, .ref (a 0)), (2, .ref al), (3, .int (nI (k + 1))), (4, .int (nI (qz_D (k + 1)))), (5, .int (nI (qz_N (k + 1)))), (9, .ref v)]) : W p0 l e room_1 s m #[Value.ref b] below meth c H locs 4040 426100 (lw_Z below #[Value.ref b] s) (F0 m 1240 ls []) := by
  have C1 := C0
  obtain ⟨Cx, hAs, hn, hL⟩ := C1
  have Cx1 := Cx
  obtain ⟨⟨hx, hb, hml, hown, hts⟩, hr, hlocks, hK, hA, hT⟩ := Cx1
  obtain ⟨hD1, hD2, hD3⟩ := D_small (k + 1) hn
  have hN1 : 0 < qz_N (k + 1) := by show 0 < qz_D (k + 1 + 1) - qz_D (k + 1); omega
  have hN2 : qz_N (k + 1) ≤ 15 := hD2
  have hN3 : qz_D (k + 1) + qz_N (k + 1) ≤ 45 := by show qz_D (k + 1) + (qz_D (k + 1 + 1) - qz_D (k + 1)) ≤ 45; omega
  obtain ⟨hE1, hE2, hE3⟩ := D_small k (by omega)
  have hM1 : 0 < qz_N k := by show 0 < qz_D (k + 1) - qz_D k; omega
  have hM2 : qz_N k ≤ 15 := hE2
  have hM3 : qz_D k + qz_N k ≤ 45 := by show qz_D k + (qz_D (k + 1) - qz_D k) ≤ 45; omega
  refine lv_iconst (v := (0 : Int32)) hx hb dL_law_1240 (by decide) ?_
  refine lv_istore (lv' := [(20, .int (0 : Int32)), (18, .long (inS fu (reF (k + 1) (dbF fv)) 22)), (15, .int (nI (qz_N k))), (0, .ref b), (1, .ref (a 0)), (2, .ref al), (3, .int (nI (k + 1))), (4, .int (nI (qz_D (k + 1)))), (5, .int (nI (qz_N (k + 1)))), (9, .ref v)]) hx hb dL_law_1241 hl (by decide) rfl (fun ls hl => ?_)
  have w_1243 : ∀ (d : Nat) (i : Nat) (E2 : va_W) (τ : CS) (H : Heap) (locs : List Loc) (ls : Array Slot), Rc τ S [] → i + d = qz_N k → va_P D xcl (wdS a cyI cyJ τ ++ ([ic cyI v (qz_N (k + 1)) fv] ++ E2)) H → va_D A (wdS a cyI cyJ τ ++ ([ic cyI v (qz_N (k + 1)) fv] ++ E2)) → va_S A H0 H locs → lv_has ls 28 [(20, .int (nI i)), (18, .long (inS fu (reF (k + 1) (dbF fv)) 22)), (15, .int (nI (qz_N k))), (0, .ref b), (1, .ref (a 0)), (2, .ref al), (3, .int (nI (k + 1))), (4, .int (nI (qz_D (k + 1)))), (5, .int (nI (qz_N (k + 1)))), (9, .ref v)] → W p0 l e room_1 s m #[Value.ref b] below meth c H locs (4040 + 5 * i) (426100 + 50 * i) (lw_Z below #[Value.ref b] s) (F0 m 1243 ls []) := by
    intro d
    induction d with
    | zero =>
      intro i E2 τ H locs ls hR_163 hi hP hD hS hl
      obtain rfl : i = qz_N k := by omega
      refine lv_iload hx hb dL_law_1243 (lv_at hl 0 rfl) ?_
      refine lv_iload hx hb dL_law_1245 (lv_at hl 2 rfl) ?_
      refine lv_icmp_ge (tgt := 1367) hx hb dL_law_1247 (by decide) (fun _ => ?_) (fun hc => absurd (Int32.le_refl _) hc)
      refine W.widen (k := 4500) (n := 430000) (by omega) (by omega) ?_
      exact law_1367 C0 hR_163 hv hu hS0 hS2 hS3 hP hD hS (lv_sub hl [1, 3, 4, 5, 6, 7, 8, 9] rfl)
    | succ d ih_1243 =>
      intro i E2 τ H locs ls hR_164 hi hP hD hS hl
      have hsl := sl_small (qz_D k + i) (by omega)
      refine lv_iload hx hb dL_law_1243 (lv_at hl 0 rfl) ?_
      refine lv_iload hx hb dL_law_1245 (lv_at hl 2 rfl) ?_
      refine lv_icmp_ge (tgt := 1367) hx hb dL_law_1247 (by decide) (fun hc => absurd hc (nI_ge (by omega) (by omega))) (fun _ => ?_)
      refine lv_aload_n hx hb dL_law_1250 rfl (lv_at hl 5 rfl) ?_
      refine lv_iload_n hx hb dL_law_1251 rfl (lv_at hl 6 rfl) ?_
      refine lv_iconst (v := (1 : Int32)) hx hb dL_law_1252 (by decide) ?_
      refine lv_isub hx hb dL_law_1253 ?_
      rw [show ((nI (k + 1)) - (1 : Int32)) = (nI k) from nI_pred k]
      refine yr_i Cx hP hD hS (yq_none (S := Unit) (wdS a cyI cyJ τ ++ ([ic cyI v (qz_N (k + 1)) fv] ++ E2))) (yx_S (n := 1) (As := [.int (nI k)]) (rest := [.ref al]) Cx hP hD hS hl (yq_none (S := Unit) (wdS a cyI cyJ τ ++ ([ic cyI v (qz_N (k + 1)) fv] ++ E2))) hK fz_0 (fun hF => trivial) (c_L_first l D cyI cyJ cyB cyQ H.size k (by omega)) pk_L_first mw_3_176 ⟨rfl, rfl, Nat.le_of_ble_eq_true rfl, Nat.le_of_ble_eq_true rfl⟩ rfl rfl (Nat.le_of_ble_eq_true rfl) ⟨(show (4040 + 5 * i) + 1 ≤ (600000 : Nat) by omega), (show (426100 + 50 * i) + 10 ≤ (7302250 : Nat) by omega)⟩ dL_law_1254) (fun r_1 u_165 H locs hp hP hD hS => ?_)
      have hP : va_P D xcl (wdS a cyI cyJ τ ++ ([ic cyI v (qz_N (k + 1)) fv] ++ E2)) H := hP
      have hD : va_D A (wdS a cyI cyJ τ ++ ([ic cyI v (qz_N (k + 1)) fv] ++ E2)) := hD
      rw [show r_1 = nI (qz_D k) from hp]
      refine lv_iload hx hb dL_law_1257 (lv_at hl 0 rfl) ?_
      refine lv_iadd hx hb dL_law_1259 ?_
      rw [show ((nI (qz_D k)) + (nI i)) = (nI (qz_D k + i)) from nI_add (qz_D k) i]
      refine yf_qld hx hb (va_T.kept hT.2.1.1 hS.2.1) rfl (vp_in_nI (show (qz_D k + i) < 67 by omega) (by omega)) dL_law_1260 ?_
      rw [nI_clamp (show (qz_D k + i) < 2 ^ 31 by omega)]
      refine lv_astore (lv' := [(21, .ref (B (qz_D k + i))), (20, .int (nI i)), (18, .long (inS fu (reF (k + 1) (dbF fv)) 22)), (15, .int (nI (qz_N k))), (0, .ref b), (1, .ref (a 0)), (2, .ref al), (3, .int (nI (k + 1))), (4, .int (nI (qz_D (k + 1)))), (5, .int (nI (qz_N (k + 1)))), (9, .ref v)]) hx hb dL_law_1261 hl (by decide) rfl (fun ls hl => ?_)
      refine lv_aload hx hb dL_law_1263 (lv_at hl 0 rfl) ?_
      refine yf_len hx hb (va_T.kept (hT.2.1.2 (qz_D k + i) (by omega)) hS.2.1) dL_law_1265 ?_
      refine lv_iconst (v := (1 : Int32)) hx hb dL_law_1266 (by decide) ?_
      refine lv_iadd hx hb dL_law_1267 ?_
      rw [show ((nI (sl (qz_D k + i))) + (1 : Int32)) = (nI (sl (qz_D k + i) + 1)) from nI_add (sl (qz_D k + i)) 1]
      refine va_newa (atype := .int) (ty := .int) (a0 := ((sl (qz_D k + i) + 1), .inl (fun _ => 0))) (N' := (sl (qz_D k + i) + 1)) hx hb (hts _ mw_1_104) rfl hK hP hD hS hA (fun _ => rfl) (nI_pos (show (sl (qz_D k + i) + 1) < 2 ^ 31 by omega)) (nI_clamp (show (sl (qz_D k + i) + 1) < 2 ^ 31 by omega)) (show (sl (qz_D k + i) + 1) * 4 ≤ 536870912 by omega) (show ((4040 + 5 * i) + 1) + 1 ≤ (600000 : Nat) by omega) (show ((426100 + 50 * i) + 10) + (sl (qz_D k + i) + 1) ≤ (7302250 : Nat) by omega) dL_law_1268 (fun u9 cA H hK1 hP hD hS => ?_)
      have eA := y_sameI hK hK1
      rw [eA] at hP hD
      clear hK1 eA
      have hPD : va_P D xcl (wdS a cyI cyJ τ ++ ([ic cyI v (qz_N (k + 1)) fv] ++ (ic cyI u9 (sl (qz_D k + i) + 1) (fun _ => (0 : Int32)) :: E2))) H ∧ va_D A (wdS a cyI cyJ τ ++ ([ic cyI v (qz_N (k + 1)) fv] ++ (ic cyI u9 (sl (qz_D k + i) + 1) (fun _ => (0 : Int32)) :: E2))) := y_perm hP hD (y_new_mid (wdS a cyI cyJ τ) [ic cyI v (qz_N (k + 1)) fv] E2 (ic cyI u9 (sl (qz_D k + i) + 1) (fun _ => (0 : Int32))))
      obtain ⟨hP, hD⟩ := hPD
      refine lv_astore (lv' := [(22, .ref u9), (21, .ref (B (qz_D k + i))), (20, .int (nI i)), (18, .long (inS fu (reF (k + 1) (dbF fv)) 22)), (15, .int (nI (qz_N k))), (0, .ref b), (1, .ref (a 0)), (2, .ref al), (3, .int (nI (k + 1))), (4, .int (nI (qz_D (k + 1)))), (5, .int (nI (qz_N (k + 1)))), (9, .ref v)]) hx hb dL_law_1270 hl (by decide) rfl (fun ls hl => ?_)
      refine lv_aload hx hb dL_law_1272 (lv_at hl 1 rfl) ?_
      refine lv_iconst (v := (0 : Int32)) hx hb dL_law_1274 (by decide) ?_
      refine lv_aload hx hb dL_law_1275 (lv_at hl 0 rfl) ?_
      refine lv_iconst (v := (0 : Int32)) hx hb dL_law_1277 (by decide) ?_
      refine lv_aload hx hb dL_law_1278 (lv_at hl 1 rfl) ?_
      refine yf_len hx hb (va_T.kept (hT.2.1.2 (qz_D k + i) (by omega)) hS.2.1) dL_law_1280 ?_
      refine y_copyT hx hb (hml.trans hl.1.symm) hown (hts _ mw_3_171) (hts _ mw_3_41) (hts _ mw_3_40) (hts _ mw_1_11) hK hP hD hS (va_T.kept (hT.2.1.2 (qz_D k + i) (by omega)) hS.2.1) 29 0 rfl rfl (by decide) (by decide) (nI_pos (by omega)) (by rw [nI_clamp (by omega), show Int32.toNatClampNeg (0 : Int32) = 0 by decide]; omega) (by rw [nI_clamp (by omega), show Int32.toNatClampNeg (0 : Int32) = 0 by decide]; omega) (Nat.le_of_ble_eq_true rfl) (Nat.le_of_ble_eq_true rfl) dL_law_1281 (fun H locs hP hD hS => ?_)
      rw [nI_clamp (show sl (qz_D k + i) < 2 ^ 31 by omega), show Int32.toNatClampNeg (0 : Int32) = 0 by decide] at hP hD
      have hP : va_P D xcl (wdS a cyI cyJ τ ++ ([ic cyI v (qz_N (k + 1)) fv] ++ (ic cyI u9 (sl (qz_D k + i) + 1) (va_cpy (sr (qz_D k + i)) (fun _ => (0 : Int32)) 0 0 (sl (qz_D k + i))) :: E2))) H := hP
      have hD : va_D A (wdS a cyI cyJ τ ++ ([ic cyI v (qz_N (k + 1)) fv] ++ (ic cyI u9 (sl (qz_D k + i) + 1) (va_cpy (sr (qz_D k + i)) (fun _ => (0 : Int32)) 0 0 (sl (qz_D k + i))) :: E2))) := hD
      refine lv_aload hx hb dL_law_1284 (lv_at hl 0 rfl) ?_
      refine lv_aload hx hb dL_law_1286 (lv_at hl 1 rfl) ?_
      refine yf_len hx hb (va_T.kept (hT.2.1.2 (qz_D k + i) (by omega)) hS.2.1) dL_law_1288 ?_
      refine lv_iconst (v := (1 : Int32)) hx hb dL_law_1289 (by decide) ?_
      refine va_iast hx hb hK hP hD hS 29 0 rfl rfl (vp_in_nI (show sl (qz_D k + i) < sl (qz_D k + i) + 1 by omega) (by omega)) dL_law_1290 (fun H locs hP hD hS => ?_)
      rw [nI_clamp (show sl (qz_D k + i) < 2 ^ 31 by omega)] at hP hD
      have hP : va_P D xcl (wdS a cyI cyJ τ ++ ([ic cyI v (qz_N (k + 1)) fv] ++ (ic cyI u9 (sl (qz_D k + i) + 1) (upd (va_cpy (sr (qz_D k + i)) (fun _ => (0 : Int32)) 0 0 (sl (qz_D k + i))) (sl (qz_D k + i)) 1) :: E2))) H := hP
      have hD : va_D A (wdS a cyI cyJ τ ++ ([ic cyI v (qz_N (k + 1)) fv] ++ (ic cyI u9 (sl (qz_D k + i) + 1) (upd (va_cpy (sr (qz_D k + i)) (fun _ => (0 : Int32)) 0 0 (sl (qz_D k + i))) (sl (qz_D k + i)) 1) :: E2))) := hD
      have hPD : va_P D xcl (wdS a cyI cyJ τ ++ ([ic cyI v (qz_N (k + 1)) fv] ++ (ic cyI u9 (sl (qz_D k + i) + 1) (fun j => nI (moreC (qz_D k + i) j)) :: E2))) H ∧ va_D A (wdS a cyI cyJ τ ++ ([ic cyI v (qz_N (k + 1)) fv] ++ (ic cyI u9 (sl (qz_D k + i) + 1) (fun j => nI (moreC (qz_D k + i) j)) :: E2))) := y_ext hP hD 29 (fun j => nI (moreC (qz_D k + i) j)) rfl (fun j hj => moreC_ok (qz_D k + i) j hj)
      obtain ⟨hP, hD⟩ := hPD
      refine lv_lconst (v := (0 : Int64)) hx hb dL_law_1291 (by decide) ?_
      refine lv_lstore (lv' := [(23, .long (0 : Int64)), (22, .ref u9), (21, .ref (B (qz_D k + i))), (20, .int (nI i)), (18, .long (inS fu (reF (k + 1) (dbF fv)) 22)), (15, .int (nI (qz_N k))), (0, .ref b), (1, .ref (a 0)), (2, .ref al), (3, .int (nI (k + 1))), (4, .int (nI (qz_D (k + 1)))), (5, .int (nI (qz_N (k + 1)))), (9, .ref v)]) hx hb dL_law_1292 hl (by decide) rfl (fun ls hl => ?_)
      refine lv_iconst (v := (0 : Int32)) hx hb dL_law_1294 (by decide) ?_
      refine lv_istore (lv' := [(25, .int (0 : Int32)), (23, .long (0 : Int64)), (22, .ref u9), (21, .ref (B (qz_D k + i))), (20, .int (nI i)), (18, .long (inS fu (reF (k + 1) (dbF fv)) 22)), (15, .int (nI (qz_N k))), (0, .ref b), (1, .ref (a 0)), (2, .ref al), (3, .int (nI (k + 1))), (4, .int (nI (qz_D (k + 1)))), (5, .int (nI (qz_N (k + 1)))), (9, .ref v)]) hx hb dL_law_1295 hl (by decide) rfl (fun ls hl => ?_)
      have w_1297 : ∀ (d2 : Nat) (j : Nat) (ρ : CS) (H : Heap) (locs : List Loc) (ls : Array Slot), Rc ρ S [] → j + d2 = qz_N (k + 1) → va_P D xcl (wdS a cyI cyJ ρ ++ ([ic cyI v (qz_N (k + 1)) fv] ++ (ic cyI u9 (sl (qz_D k + i) + 1) (fun j => nI (moreC (qz_D k + i) j)) :: E2))) H → va_D A (wdS a cyI cyJ ρ ++ ([ic cyI v (qz_N (k + 1)) fv] ++ (ic cyI u9 (sl (qz_D k + i) + 1) (fun j => nI (moreC (qz_D k + i) j)) :: E2))) → va_S A H0 H locs → lv_has ls 28 [(25, .int (nI j)), (23, .long (brS k fv i j)), (22, .ref u9), (20, .int (nI i)), (18, .long (inS fu (reF (k + 1) (dbF fv)) 22)), (15, .int (nI (qz_N k))), (0, .ref b), (1, .ref (a 0)), (2, .ref al), (3, .int (nI (k + 1))), (4, .int (nI (qz_D (k + 1)))), (5, .int (nI (qz_N (k + 1)))), (9, .ref v)] → W p0 l e room_1 s m #[Value.ref b] below meth c H locs (((4040 + 5 * i) + 1) + 1) (((426100 + 50 * i) + 10) + (sl (qz_D k + i) + 1)) (lw_Z below #[Value.ref b] s) (F0 m 1297 ls []) := by
        intro d2
        induction d2 with
        | zero =>
          intro j ρ H locs ls hR_166 hj2 hP hD hS hl
          obtain rfl : j = qz_N (k + 1) := by omega
          refine lv_iload hx hb dL_law_1297 (lv_at hl 0 rfl) ?_
          refine lv_iload hx hb dL_law_1299 (lv_at hl 11 rfl) ?_
          refine lv_icmp_ge (tgt := 1339) hx hb dL_law_1301 (by decide) (fun _ => ?_) (fun hc => absurd (Int32.le_refl _) hc)
          refine lv_aload_n hx hb dL_law_1339 rfl (lv_at hl 7 rfl) ?_
          refine lv_iconst (v := (3 : Int32)) hx hb dL_law_1340 (by decide) ?_
          refine lv_iload_n hx hb dL_law_1341 rfl (lv_at hl 9 rfl) ?_
          refine lv_iconst (v := (1 : Int32)) hx hb dL_law_1342 (by decide) ?_
          refine lv_isub hx hb dL_law_1343 ?_
          rw [show ((nI (k + 1)) - (1 : Int32)) = (nI k) from nI_pred k]
          refine yr_i Cx hP hD hS (yq_none (S := Unit) (wdS a cyI cyJ ρ ++ ([ic cyI v (qz_N (k + 1)) fv] ++ (ic cyI u9 (sl (qz_D k + i) + 1) (fun j => nI (moreC (qz_D k + i) j)) :: E2)))) (yx_S (n := 1) (As := [.int (nI k)]) (rest := [.int (3 : Int32), .ref (a 0)]) Cx hP hD hS hl (yq_none (S := Unit) (wdS a cyI cyJ ρ ++ ([ic cyI v (qz_N (k + 1)) fv] ++ (ic cyI u9 (sl (qz_D k + i) + 1) (fun j => nI (moreC (qz_D k + i) j)) :: E2)))) hK fz_0 (fun hF => trivial) (c_L_first l D cyI cyJ cyB cyQ H.size k (by omega)) pk_L_first mw_3_176 ⟨rfl, rfl, Nat.le_of_ble_eq_true rfl, Nat.le_of_ble_eq_true rfl⟩ rfl rfl (Nat.le_of_ble_eq_true rfl) ⟨(show (((4040 + 5 * i) + 1) + 1) + 1 ≤ (600000 : Nat) by omega), (show (((426100 + 50 * i) + 10) + (sl (qz_D k + i) + 1)) + 10 ≤ (7302250 : Nat) by omega)⟩ dL_law_1344) (fun r_1 u_167 H locs hp hP hD hS => ?_)
          have hP : va_P D xcl (wdS a cyI cyJ ρ ++ ([ic cyI v (qz_N (k + 1)) fv] ++ (ic cyI u9 (sl (qz_D k + i) + 1) (fun j => nI (moreC (qz_D k + i) j)) :: E2))) H := hP
          have hD : va_D A (wdS a cyI cyJ ρ ++ ([ic cyI v (qz_N (k + 1)) fv] ++ (ic cyI u9 (sl (qz_D k + i) + 1) (fun j => nI (moreC (qz_D k + i) j)) :: E2))) := hD
          rw [show r_1 = nI (qz_D k) from hp]
          refine lv_iload hx hb dL_law_1347 (lv_at hl 3 rfl) ?_
          refine lv_iadd hx hb dL_law_1349 ?_
          rw [show ((nI (qz_D k)) + (nI i)) = (nI (qz_D k + i)) from nI_add (qz_D k) i]
          obtain ⟨τ_168, hR_170, hM_169⟩ := mm_value l D cyI cyJ G a H.size hR_166 (s := 3) (by decide) hS3 (show i < qz_N k by omega)
          refine yr_l Cx hP hD hS (yq_front (S := Unit) (wdS a cyI cyJ ρ) ([ic cyI v (qz_N (k + 1)) fv] ++ (ic cyI u9 (sl (qz_D k + i) + 1) (fun j => nI (moreC (qz_D k + i) j)) :: E2)) (fun _ => wdS a cyI cyJ τ_168) 28 (fun _ => rfl)) (yx_V (n := 2) (As := [.int (3 : Int32), .int (nI (qz_D k + i))]) (rest := []) Cx hP hD hS hl (yq_front (S := Unit) (wdS a cyI cyJ ρ) ([ic cyI v (qz_N (k + 1)) fv] ++ (ic cyI u9 (sl (qz_D k + i) + 1) (fun j => nI (moreC (qz_D k + i) j)) :: E2)) (fun _ => wdS a cyI cyJ τ_168) 28 (fun _ => rfl)) (y_K2 hK) (fz_xs G) (fun hF => (fz_give (fz_xs G) hT.1 hS hF)) (ym_xl hM_169) pk_X9_value mw_3_136 ⟨rfl, rfl, Nat.le_of_ble_eq_true rfl, Nat.le_of_ble_eq_true rfl⟩ (va_recv (ci := 9) hK hP rfl (q0 := 0) rfl) rfl rfl (Nat.le_of_ble_eq_true rfl) ⟨(show ((((4040 + 5 * i) + 1) + 1) + 1) + 0 ≤ (600000 : Nat) by omega), (show ((((426100 + 50 * i) + 10) + (sl (qz_D k + i) + 1)) + 10) + 0 ≤ (7302250 : Nat) by omega)⟩ dL_law_1350) (fun r_2 u_171 H locs hp hP hD hS => ?_)
          have hP : va_P D xcl (wdS a cyI cyJ τ_168 ++ ([ic cyI v (qz_N (k + 1)) fv] ++ (ic cyI u9 (sl (qz_D k + i) + 1) (fun j => nI (moreC (qz_D k + i) j)) :: E2))) H := hP
          have hD : va_D A (wdS a cyI cyJ τ_168 ++ ([ic cyI v (qz_N (k + 1)) fv] ++ (ic cyI u9 (sl (qz_D k + i) + 1) (fun j => nI (moreC (qz_D k + i) j)) :: E2))) := hD
          rw [show r_2 = (vaS k (reF (k + 1) (dbF fv)) i (qz_N k)) from hp]
          refine lv_lload hx hb dL_law_1353 (lv_at hl 1 rfl) ?_
          refine W.lcmp hx hb dL_law_1355 ?_
          refine lv_if_eq (tgt := 1361) hx hb dL_law_1356 (by decide) (fun _ => ?_) (fun hc => absurd (lg0 (pu_restr hn hv (show i < qz_N k by omega))) hc)
          refine lv_iinc (v := ((nI i) + (1 : Int32))) (lv' := [(20, .int ((nI i) + (1 : Int32))), (25, .int (nI (qz_N (k + 1)))), (23, .long (brS k fv i (qz_N (k + 1)))), (22, .ref u9), (18, .long (inS fu (reF (k + 1) (dbF fv)) 22)), (15, .int (nI (qz_N k))), (0, .ref b), (1, .ref (a 0)), (2, .ref al), (3, .int (nI (k + 1))), (4, .int (nI (qz_D (k + 1)))), (5, .int (nI (qz_N (k + 1)))), (9, .ref v)]) hx hb dL_law_1361 hl (k := 3) rfl rfl (by decide) rfl (fun ls hl => ?_)
          refine lv_goto (tgt := 1243) hx hb dL_law_1364 (by decide) ?_
          rw [show ((nI i) + (1 : Int32)) = (nI (i + 1)) from (nI_1 i)] at hl
          refine W.widen (k := 4040 + 5 * (i + 1)) (n := 426100 + 50 * (i + 1)) (by omega) (by omega) ?_
          exact ih_1243 (i + 1) (ic cyI u9 (sl (qz_D k + i) + 1) (fun j => nI (moreC (qz_D k + i) j)) :: E2) τ_168 H _ ls hR_170 (by omega) hP hD hS (lv_sub hl [0, 4, 5, 6, 7, 8, 9, 10, 11, 12] rfl)
        | succ d2 ih_1297 =>
          intro j ρ H locs ls hR_172 hj2 hP hD hS hl
          have hsa := sl_small (qz_D (k + 1) + j) (by omega)
          refine lv_iload hx hb dL_law_1297 (lv_at hl 0 rfl) ?_
          refine lv_iload hx hb dL_law_1299 (lv_at hl 11 rfl) ?_
          refine lv_icmp_ge (tgt := 1339) hx hb dL_law_1301 (by decide) (fun hc => absurd hc (nI_ge (by omega) (by omega))) (fun _ => ?_)
          refine lv_lload hx hb dL_law_1304 (lv_at hl 1 rfl) ?_
          refine lv_ldc2 (v := (2 : Int64)) hx hb hown (hts _ mw_5_56) dL_law_1306 ?_
          refine lv_aload hx hb dL_law_1309 (lv_at hl 12 rfl) ?_
          refine lv_iload hx hb dL_law_1311 (lv_at hl 0 rfl) ?_
          refine va_iald hx hb hK hP 28 0 rfl rfl (vp_in_nI (show j < (qz_N (k + 1)) by omega) (by omega)) dL_law_1313 ?_
          rw [nI_clamp (show j < 2 ^ 31 by omega)]
          refine lv_i2l (v := Int32.toInt64 (fv j)) hx hb dL_law_1314 rfl ?_
          refine lv_lmul hx hb dL_law_1315 ?_
          refine lv_aload_n hx hb dL_law_1316 rfl (lv_at hl 8 rfl) ?_
          refine lv_iload hx hb dL_law_1317 (lv_at hl 10 rfl) ?_
          refine lv_iload hx hb dL_law_1319 (lv_at hl 0 rfl) ?_
          refine lv_iadd hx hb dL_law_1321 ?_
          rw [show ((nI (qz_D (k + 1))) + (nI j)) = (nI (qz_D (k + 1) + j)) from nI_add (qz_D (k + 1)) j]
          refine yf_qld hx hb (va_T.kept hT.2.1.1 hS.2.1) rfl (vp_in_nI (show (qz_D (k + 1) + j) < 67 by omega) (by omega)) dL_law_1322 ?_
          rw [nI_clamp (show (qz_D (k + 1) + j) < 2 ^ 31 by omega)]
          refine lv_aload hx hb dL_law_1323 (lv_at hl 2 rfl) ?_
          refine yr_i Cx hP hD hS (yq_none (S := Unit) (wdS a cyI cyJ ρ ++ ([ic cyI v (qz_N (k + 1)) fv] ++ (ic cyI u9 (sl (qz_D k + i) + 1) (fun j => nI (moreC (qz_D k + i) j)) :: E2)))) (yx_S (n := 2) (As := [.ref (B (qz_D (k + 1) + j)), .ref u9]) (rest := [.long ((2 : Int64) * (Int32.toInt64 (fv j))), .long (brS k fv i j)]) Cx hP hD hS hl (yq_none (S := Unit) (wdS a cyI cyJ ρ ++ ([ic cyI v (qz_N (k + 1)) fv] ++ (ic cyI u9 (sl (qz_D k + i) + 1) (fun j => nI (moreC (qz_D k + i) j)) :: E2)))) hK (fz_and (fz_ZI (B (qz_D (k + 1) + j)) (sl (qz_D (k + 1) + j)) (sr (qz_D (k + 1) + j))) (fz_and (fz_ZI u9 (sl (qz_D k + i) + 1) (fun j => nI (moreC (qz_D k + i) j))) (fz_ZJ g))) (fun hF => ⟨fz_give (fz_ZI (B (qz_D (k + 1) + j)) (sl (qz_D (k + 1) + j)) (sr (qz_D (k + 1) + j))) (hT.2.1.2 (qz_D (k + 1) + j) (by omega)) hS hF, y_T hK hP 29 0 rfl rfl (y_out0 hP (q0 := 29) rfl), fz_give (fz_ZJ g) hT.2.2.1 hS hF⟩) (c_L_character_ l D cyI cyJ cyB cyQ H.size (B (qz_D (k + 1) + j)) (sl (qz_D (k + 1) + j)) u9 (sl (qz_D k + i) + 1) (sr (qz_D (k + 1) + j)) (moreC (qz_D k + i)) (by omega) (by omega) (moreC_le (by omega)) g) pk_L_character_ mw_3_188 ⟨rfl, rfl, Nat.le_of_ble_eq_true rfl, Nat.le_of_ble_eq_true rfl⟩ rfl rfl (Nat.le_of_ble_eq_true rfl) ⟨(show (((4040 + 5 * i) + 1) + 1) + 0 ≤ (600000 : Nat) by omega), (show (((426100 + 50 * i) + 10) + (sl (qz_D k + i) + 1)) + 0 ≤ (7302250 : Nat) by omega)⟩ dL_law_1325) (fun r_1 u_173 H locs hp hP hD hS => ?_)
          have hP : va_P D xcl (wdS a cyI cyJ ρ ++ ([ic cyI v (qz_N (k + 1)) fv] ++ (ic cyI u9 (sl (qz_D k + i) + 1) (fun j => nI (moreC (qz_D k + i) j)) :: E2))) H := hP
          have hD : va_D A (wdS a cyI cyJ ρ ++ ([ic cyI v (qz_N (k + 1)) fv] ++ (ic cyI u9 (sl (qz_D k + i) + 1) (fun j => nI (moreC (qz_D k + i) j)) :: E2))) := hD
          rw [show r_1 = (cha (sr (qz_D (k + 1) + j)) (sl (qz_D (k + 1) + j)) (moreC (qz_D k + i)) (sl (qz_D k + i) + 1)) from hp]
          refine lv_i2l (v := Int32.toInt64 (cha (sr (qz_D (k + 1) + j)) (sl (qz_D (k + 1) + j)) (moreC (qz_D k + i)) (sl (qz_D k + i) + 1))) hx hb dL_law_1328 rfl ?_
          refine lv_lmul hx hb dL_law_1329 ?_
          refine lv_ladd hx hb dL_law_1330 ?_
          refine lv_lstore (lv' := [(23, .long ((brS k fv i j) + (((2 : Int64) * (Int32.toInt64 (fv j))) * (Int32.toInt64 (cha (sr (qz_D (k + 1) + j)) (sl (qz_D (k + 1) + j)) (moreC (qz_D k + i)) (sl (qz_D k + i) + 1)))))), (25, .int (nI j)), (22, .ref u9), (20, .int (nI i)), (18, .long (inS fu (reF (k + 1) (dbF fv)) 22)), (15, .int (nI (qz_N k))), (0, .ref b), (1, .ref (a 0)), (2, .ref al), (3, .int (nI (k + 1))), (4, .int (nI (qz_D (k + 1)))), (5, .int (nI (qz_N (k + 1)))), (9, .ref v)]) hx hb dL_law_1331 hl (by decide) rfl (fun ls hl => ?_)
          refine lv_iinc (v := ((nI j) + (1 : Int32))) (lv' := [(25, .int ((nI j) + (1 : Int32))), (23, .long ((brS k fv i j) + (((2 : Int64) * (Int32.toInt64 (fv j))) * (Int32.toInt64 (cha (sr (qz_D (k + 1) + j)) (sl (qz_D (k + 1) + j)) (moreC (qz_D k + i)) (sl (qz_D k + i) + 1)))))), (22, .ref u9), (20, .int (nI i)), (18, .long (inS fu (reF (k + 1) (dbF fv)) 22)), (15, .int (nI (qz_N k))), (0, .ref b), (1, .ref (a 0)), (2, .ref al), (3, .int (nI (k + 1))), (4, .int (nI (qz_D (k + 1)))), (5, .int (nI (qz_N (k + 1)))), (9, .ref v)]) hx hb dL_law_1333 hl (k := 1) rfl rfl (by decide) rfl (fun ls hl => ?_)
          refine lv_goto (tgt := 1297) hx hb dL_law_1336 (by decide) ?_
          rw [show ((nI j) + (1 : Int32)) = (nI (j + 1)) from (nI_1 j)] at hl
          have hl : lv_has ls 28 [(25, .int (nI (j + 1))), (23, .long (brS k fv i (j + 1))), (22, .ref u9), (20, .int (nI i)), (18, .long (inS fu (reF (k + 1) (dbF fv)) 22)), (15, .int (nI (qz_N k))), (0, .ref b), (1, .ref (a 0)), (2, .ref al), (3, .int (nI (k + 1))), (4, .int (nI (qz_D (k + 1)))), (5, .int (nI (qz_N (k + 1)))), (9, .ref v)] := hl
          exact ih_1297 (j + 1) ρ H _ ls hR_172 (by omega) hP hD hS (lv_sub hl [0, 1, 2, 3, 4, 5, 6, 7, 8, 9, 10, 11, 12] rfl)
      exact w_1297 (qz_N (k + 1)) 0 τ H _ ls hR_164 (by omega) hP hD hS (lv_sub hl [0, 1, 2, 4, 5, 6, 7, 8, 9, 10, 11, 12, 13] rfl)
  exact w_1243 (qz_N k) 0 E1 σ H _ ls hR (by omega) hP hD hS (lv_sub hl [0, 1, 2, 3, 4, 5, 6, 7, 8, 9] rfl)
set_option maxHeartbeats 16000000 in
set_option maxRecDepth 20000 in
theorem law_1126 {p0 : Program} {l : Launch} {e : Env} {s : State} {m : MethodId} {below : List Frame} {meth : Method} {c : Code} {b : Nat} {D : va_G} {cyI cyJ cyB cyQ : ClassId} {G a g kk kv B : Nat → Nat} {al tq L k : Nat} {xs : Nat → Int32} {A : Nat → Prop} {H0 : Heap} (C0 : LCx p0 s m b meth c D cyI cyJ cyB cyQ G g kk kv B al tq L (k + 1) xs A H0) {σ : CS} {S : Nat → SV} (hR : Rc σ S [])  {v : Nat} {E1 : va_W} {fv : Nat → Int32} (hv : okF (k + 1) fv) (hS0 : S 0 = some (k + 1, fv)) {H : Heap} {locs : List Loc} {ls : Array Slot} (hP : va_P D xcl (wdS a cyI cyJ σ ++ ([ic cyI v (qz_N (k + 1)) fv] ++ E1)) H) (hD : va_D A (wdS a cyI cyJ σ ++ ([ic cyI v (qz_N (k + 1)) fv] ++ E1))) (hS : va_S A H0 H locs) (hl : lv_has ls 28 [(0, .ref b), (1, .ref (a 0)), (2, .ref al), (3, .int (nI (k + 1))), (4, .int (nI (qz_D (k + 1)))), (5, .int (nI (qz_N (k + 1)))), (9, .ref v)]) : W p0 l e room_1 s m #[Value.ref b] below meth c H locs 3000 291000 (lw_Z below #[Value.ref b] s) (F0 m 1126 ls []) := by
  have C1 := C0
  obtain ⟨Cx, hAs, hn, hL⟩ := C1
  have Cx1 := Cx
  obtain ⟨⟨hx, hb, hml, hown, hts⟩, hr, hlocks, hK, hA, hT⟩ := Cx1
  obtain ⟨hD1, hD2, hD3⟩ := D_small (k + 1) hn
  have hN1 : 0 < qz_N (k + 1) := by show 0 < qz_D (k + 1 + 1) - qz_D (k + 1); omega
  have hN2 : qz_N (k + 1) ≤ 15 := hD2
  have hN3 : qz_D (k + 1) + qz_N (k + 1) ≤ 45 := by show qz_D (k + 1) + (qz_D (k + 1 + 1) - qz_D (k + 1)) ≤ 45; omega
  obtain ⟨hE1, hE2, hE3⟩ := D_small k (by omega)
  have hM1 : 0 < qz_N k := by show 0 < qz_D (k + 1) - qz_D k; omega
  have hM2 : qz_N k ≤ 15 := hE2
  have hM3 : qz_D k + qz_N k ≤ 45 := by show qz_D k + (qz_D (k + 1) - qz_D k) ≤ 45; omega
  refine lv_iload_n hx hb dL_law_1126 rfl (lv_at hl 3 rfl) ?_
  refine yr_i Cx hP hD hS (yq_none (S := Unit) (wdS a cyI cyJ σ ++ ([ic cyI v (qz_N (k + 1)) fv] ++ E1))) (yx_S (n := 1) (As := [.int (nI (k + 1))]) (rest := []) Cx hP hD hS hl (yq_none (S := Unit) (wdS a cyI cyJ σ ++ ([ic cyI v (qz_N (k + 1)) fv] ++ E1))) hK fz_0 (fun hF => trivial) (c_L_first l D cyI cyJ cyB cyQ H.size (k + 1) (by omega)) pk_L_first mw_3_176 ⟨rfl, rfl, Nat.le_of_ble_eq_true rfl, Nat.le_of_ble_eq_true rfl⟩ rfl rfl (Nat.le_of_ble_eq_true rfl) ⟨Nat.le_of_ble_eq_true rfl, Nat.le_of_ble_eq_true rfl⟩ dL_law_1127) (fun r_1 u_174 H locs hp hP hD hS => ?_)
  have hP : va_P D xcl (wdS a cyI cyJ σ ++ ([ic cyI v (qz_N (k + 1)) fv] ++ E1)) H := hP
  have hD : va_D A (wdS a cyI cyJ σ ++ ([ic cyI v (qz_N (k + 1)) fv] ++ E1)) := hD
  rw [show r_1 = nI (qz_D (k + 1)) from hp]
  refine lv_iload_n hx hb dL_law_1130 rfl (lv_at hl 3 rfl) ?_
  refine lv_iconst (v := (1 : Int32)) hx hb dL_law_1131 (by decide) ?_
  refine lv_isub hx hb dL_law_1132 ?_
  rw [show ((nI (k + 1)) - (1 : Int32)) = (nI k) from nI_pred k]
  refine yr_i Cx hP hD hS (yq_none (S := Unit) (wdS a cyI cyJ σ ++ ([ic cyI v (qz_N (k + 1)) fv] ++ E1))) (yx_S (n := 1) (As := [.int (nI k)]) (rest := [.int (nI (qz_D (k + 1)))]) Cx hP hD hS hl (yq_none (S := Unit) (wdS a cyI cyJ σ ++ ([ic cyI v (qz_N (k + 1)) fv] ++ E1))) hK fz_0 (fun hF => trivial) (c_L_first l D cyI cyJ cyB cyQ H.size k (by omega)) pk_L_first mw_3_176 ⟨rfl, rfl, Nat.le_of_ble_eq_true rfl, Nat.le_of_ble_eq_true rfl⟩ rfl rfl (Nat.le_of_ble_eq_true rfl) ⟨(show (3000 + 1) + 1 ≤ (600000 : Nat) by omega), (show (291000 + 10) + 10 ≤ (7302250 : Nat) by omega)⟩ dL_law_1133) (fun r_2 u_175 H locs hp hP hD hS => ?_)
  have hP : va_P D xcl (wdS a cyI cyJ σ ++ ([ic cyI v (qz_N (k + 1)) fv] ++ E1)) H := hP
  have hD : va_D A (wdS a cyI cyJ σ ++ ([ic cyI v (qz_N (k + 1)) fv] ++ E1)) := hD
  rw [show r_2 = nI (qz_D k) from hp]
  refine lv_isub hx hb dL_law_1136 ?_
  rw [show ((nI (qz_D (k + 1))) - (nI (qz_D k))) = (nI (qz_D (k + 1) - qz_D k)) from nI_subN (a := qz_D (k + 1)) (b := qz_D k) (by omega)]
  rw [show (nI (qz_D (k + 1) - qz_D k)) = nI (qz_N k) from rfl]
  refine lv_istore (lv' := [(15, .int (nI (qz_N k))), (0, .ref b), (1, .ref (a 0)), (2, .ref al), (3, .int (nI (k + 1))), (4, .int (nI (qz_D (k + 1)))), (5, .int (nI (qz_N (k + 1)))), (9, .ref v)]) hx hb dL_law_1137 hl (by decide) rfl (fun ls hl => ?_)
  refine lv_aload_n hx hb dL_law_1139 rfl (lv_at hl 1 rfl) ?_
  refine lv_bipush (v := (13 : Int32)) hx hb dL_law_1140 (by decide) ?_
  refine lv_iload hx hb dL_law_1142 (lv_at hl 0 rfl) ?_
  refine yr_r Cx hP hD hS (yq_new (S := Nat) (wdS a cyI cyJ σ ++ ([ic cyI v (qz_N (k + 1)) fv] ++ E1)) (fun u => [ic cyI u (qz_N k) (dra L xs 13 (qz_N k) 4)]) 1 (fun _ => rfl)) (yx_S (n := 3) (As := [.ref b, .int (13 : Int32), .int (nI (qz_N k))]) (rest := []) Cx hP hD hS hl (yq_new (S := Nat) (wdS a cyI cyJ σ ++ ([ic cyI v (qz_N (k + 1)) fv] ++ E1)) (fun u => [ic cyI u (qz_N k) (dra L xs 13 (qz_N k) 4)]) 1 (fun _ => rfl)) hK (fz_ZI b L xs) (fun hF => (fz_give (fz_ZI b L xs) hT.2.2.2.2.1 hS hF)) (c_L_drawn l D cyI cyJ cyB cyQ H.size b L 13 (qz_N k) xs (by omega) (by decide) (by omega) (by omega)) pk_L_drawn mw_5_52 ⟨rfl, rfl, Nat.le_of_ble_eq_true rfl, Nat.le_of_ble_eq_true rfl⟩ rfl rfl (Nat.le_of_ble_eq_true rfl) ⟨(show ((3000 + 1) + 1) + 1 ≤ (600000 : Nat) by omega), (show ((291000 + 10) + 10) + 16 ≤ (7302250 : Nat) by omega)⟩ dL_law_1144) (fun u H locs hp hP hD hS => ?_)
  have hP : va_P D xcl ((wdS a cyI cyJ σ ++ ([ic cyI v (qz_N (k + 1)) fv] ++ E1)) ++ [ic cyI u (qz_N k) (dra L xs 13 (qz_N k) 4)]) H := hP
  have hD : va_D A ((wdS a cyI cyJ σ ++ ([ic cyI v (qz_N (k + 1)) fv] ++ E1)) ++ [ic cyI u (qz_N k) (dra L xs 13 (qz_N k) 4)]) := hD
  have hPD : va_P D xcl (wdS a cyI cyJ σ ++ ([ic cyI v (qz_N (k + 1)) fv] ++ (ic cyI u (qz_N k) (dra L xs 13 (qz_N k) 4) :: E1))) H ∧ va_D A (wdS a cyI cyJ σ ++ ([ic cyI v (qz_N (k + 1)) fv] ++ (ic cyI u (qz_N k) (dra L xs 13 (qz_N k) 4) :: E1))) := y_perm hP hD (y_new_mid (wdS a cyI cyJ σ) [ic cyI v (qz_N (k + 1)) fv] E1 (ic cyI u (qz_N k) (dra L xs 13 (qz_N k) 4)))
  obtain ⟨hP, hD⟩ := hPD
  have hu : okF k (dra L xs 13 (qz_N k) 4) := ok_dra L 13 k xs (by omega)
  refine lv_astore (lv' := [(16, .ref u), (15, .int (nI (qz_N k))), (0, .ref b), (1, .ref (a 0)), (2, .ref al), (3, .int (nI (k + 1))), (4, .int (nI (qz_D (k + 1)))), (5, .int (nI (qz_N (k + 1)))), (9, .ref v)]) hx hb dL_law_1147 hl (by decide) rfl (fun ls hl => ?_)
  refine lv_aload_n hx hb dL_law_1149 rfl (lv_at hl 3 rfl) ?_
  refine lv_iconst (v := (2 : Int32)) hx hb dL_law_1150 (by decide) ?_
  refine lv_aload_n hx hb dL_law_1151 rfl (lv_at hl 4 rfl) ?_
  refine lv_iload_n hx hb dL_law_1152 rfl (lv_at hl 5 rfl) ?_
  refine lv_iconst (v := (1 : Int32)) hx hb dL_law_1153 (by decide) ?_
  refine lv_isub hx hb dL_law_1154 ?_
  refine lv_aload hx hb dL_law_1155 (lv_at hl 0 rfl) ?_
  rw [show ((nI (k + 1)) - (1 : Int32)) = (nI k) from nI_pred k]
  refine yr_i Cx hP hD hS (yq_front (S := CS) (wdS a cyI cyJ σ) ([ic cyI v (qz_N (k + 1)) fv] ++ (ic cyI u (qz_N k) (dra L xs 13 (qz_N k) 4) :: E1)) (fun u => wdS a cyI cyJ u) 28 (fun _ => rfl)) (yx_S (n := 5) (As := [.ref (a 0), .int (2 : Int32), .ref al, .int (nI k), .ref u]) (rest := []) Cx hP hD hS hl (yq_front (S := CS) (wdS a cyI cyJ σ) ([ic cyI v (qz_N (k + 1)) fv] ++ (ic cyI u (qz_N k) (dra L xs 13 (qz_N k) 4) :: E1)) (fun u => wdS a cyI cyJ u) 28 (fun _ => rfl)) hK (fz_and (fz_xs G) (fz_and (fz_ZA al B) (fz_and (fz_ZJ g) (fz_and (fz_ZK kk kv) (fz_ZI u (qz_N k) ((dra L xs 13 (qz_N k) 4))))))) (fun hF => ⟨fz_give (fz_xs G) hT.1 hS hF, fz_give (fz_ZA al B) hT.2.1 hS hF, fz_give (fz_ZJ g) hT.2.2.1 hS hF, fz_give (fz_ZK kk kv) hT.2.2.2.1 hS hF, y_T hK hP 29 0 rfl rfl (va_A_tail hP hD (List.mem_cons_of_mem _ List.mem_cons_self))⟩) (c_L_told l D cyI cyJ cyB cyQ G a g kk kv B al u k 2 H.size ((dra L xs 13 (qz_N k) 4)) σ _ hR (by decide) (by omega) (fun p _ => hu.1 p) hu.2.2) pk_L_told mw_3_207 ⟨rfl, rfl, Nat.le_of_ble_eq_true rfl, Nat.le_of_ble_eq_true rfl⟩ rfl rfl (Nat.le_of_ble_eq_true rfl) ⟨(show (((3000 + 1) + 1) + 1) + 1030 ≤ (600000 : Nat) by omega), (show (((291000 + 10) + 10) + 16) + 135000 ≤ (7302250 : Nat) by omega)⟩ dL_law_1157) (fun r_4 τ_176 H locs hp hP hD hS => ?_)
  have hP : va_P D xcl (wdS a cyI cyJ τ_176 ++ ([ic cyI v (qz_N (k + 1)) fv] ++ (ic cyI u (qz_N k) (dra L xs 13 (qz_N k) 4) :: E1))) H := hP
  have hD : va_D A (wdS a cyI cyJ τ_176 ++ ([ic cyI v (qz_N (k + 1)) fv] ++ (ic cyI u (qz_N k) (dra L xs 13 (qz_N k) 4) :: E1))) := hD
  obtain ⟨hp, hR_177⟩ := hp
  rw [ok_cut hu] at hR_177
  rw [show r_4 = nI (tmN ((dra L xs 13 (qz_N k) 4)) (qz_N k)) from hp]
  have ht4 := hu.2.2
  refine lv_istore (lv' := [(17, .int (nI (tmN ((dra L xs 13 (qz_N k) 4)) (qz_N k)))), (16, .ref u), (15, .int (nI (qz_N k))), (0, .ref b), (1, .ref (a 0)), (2, .ref al), (3, .int (nI (k + 1))), (4, .int (nI (qz_D (k + 1)))), (5, .int (nI (qz_N (k + 1)))), (9, .ref v)]) hx hb dL_law_1160 hl (by decide) rfl (fun ls hl => ?_)
  refine lv_iload hx hb dL_law_1162 (lv_at hl 0 rfl) ?_
  refine lv_bipush (v := (-2 : Int32)) hx hb dL_law_1164 (by decide) ?_
  refine lv_icmp_ne (tgt := 1187) hx hb dL_law_1166 (by decide) (fun _ => ?_) (fun hc => absurd hc (nI_ne_m2 (by omega)))
  refine lv_iload hx hb dL_law_1187 (lv_at hl 0 rfl) ?_
  refine lv_if_lt (tgt := 1230) hx hb dL_law_1189 (by decide) (fun hc => absurd hc (nI_pos (by omega))) (fun _ => ?_)
  refine lv_aload_n hx hb dL_law_1192 rfl (lv_at hl 4 rfl) ?_
  refine lv_iconst (v := (3 : Int32)) hx hb dL_law_1193 (by decide) ?_
  refine lv_iconst (v := (0 : Int32)) hx hb dL_law_1194 (by decide) ?_
  refine lv_iconst (v := (0 : Int32)) hx hb dL_law_1195 (by decide) ?_
  refine lv_iconst (v := (0 : Int32)) hx hb dL_law_1196 (by decide) ?_
  have hS0b : (upS S 2 (some (k, (dra L xs 13 (qz_N k) 4)))) 0 = some (k + 1, fv) := hS0
  have ht22 := tmN_22 (dbF fv)
  obtain ⟨τ_178, hR_180, hM_179⟩ := mm_plus l D cyI cyJ G a H.size hR_177 hS0b hv.1
  refine yr_i Cx hP hD hS (yq_front (S := Unit) (wdS a cyI cyJ τ_176) ([ic cyI v (qz_N (k + 1)) fv] ++ (ic cyI u (qz_N k) (dra L xs 13 (qz_N k) 4) :: E1)) (fun _ => wdS a cyI cyJ τ_178) 28 (fun _ => rfl)) (yx_V (n := 4) (As := [.int (3 : Int32), .int (0 : Int32), .int (0 : Int32), .int (0 : Int32)]) (rest := []) Cx hP hD hS hl (yq_front (S := Unit) (wdS a cyI cyJ τ_176) ([ic cyI v (qz_N (k + 1)) fv] ++ (ic cyI u (qz_N k) (dra L xs 13 (qz_N k) 4) :: E1)) (fun _ => wdS a cyI cyJ τ_178) 28 (fun _ => rfl)) (y_K2 hK) (fz_xs G) (fun hF => (fz_give (fz_xs G) hT.1 hS hF)) (ym_xi hM_179) pk_X9_makes mw_3_72 ⟨rfl, rfl, Nat.le_of_ble_eq_true rfl, Nat.le_of_ble_eq_true rfl⟩ (va_recv (ci := 9) hK hP rfl (q0 := 0) rfl) rfl rfl (Nat.le_of_ble_eq_true rfl) ⟨(show ((((3000 + 1) + 1) + 1) + 1030) + 0 ≤ (600000 : Nat) by omega), (show ((((291000 + 10) + 10) + 16) + 135000) + 0 ≤ (7302250 : Nat) by omega)⟩ dL_law_1197) (fun r_5 u_181 H locs hp hP hD hS => ?_)
  have hP : va_P D xcl (wdS a cyI cyJ τ_178 ++ ([ic cyI v (qz_N (k + 1)) fv] ++ (ic cyI u (qz_N k) (dra L xs 13 (qz_N k) 4) :: E1))) H := hP
  have hD : va_D A (wdS a cyI cyJ τ_178 ++ ([ic cyI v (qz_N (k + 1)) fv] ++ (ic cyI u (qz_N k) (dra L xs 13 (qz_N k) 4) :: E1))) := hD
  rw [show r_5 = (nI (tmN (dbF fv) 22)) from hp]
  refine lv_if_lt (tgt := 1230) hx hb dL_law_1200 (by decide) (fun hc => absurd hc (nI_pos (show tmN (dbF fv) 22 < 2 ^ 31 by omega))) (fun _ => ?_)
  refine lv_aload_n hx hb dL_law_1203 rfl (lv_at hl 4 rfl) ?_
  refine lv_iconst (v := (3 : Int32)) hx hb dL_law_1204 (by decide) ?_
  refine lv_iconst (v := (1 : Int32)) hx hb dL_law_1205 (by decide) ?_
  obtain ⟨τ_182, hR_184, hM_183⟩ := mm_restricted l D cyI cyJ G a H.size hR_180 (n := k + 1) (show (upS (upS S 2 (some (k, (dra L xs 13 (qz_N k) 4)))) 3 (some (k + 1, dbF fv))) 3 = some (k + 1, dbF fv) from rfl) (Nat.succ_pos k) (pu_fitR hn hv)
  refine yr_i Cx hP hD hS (yq_front (S := Unit) (wdS a cyI cyJ τ_178) ([ic cyI v (qz_N (k + 1)) fv] ++ (ic cyI u (qz_N k) (dra L xs 13 (qz_N k) 4) :: E1)) (fun _ => wdS a cyI cyJ τ_182) 28 (fun _ => rfl)) (yx_V (n := 2) (As := [.int (3 : Int32), .int (1 : Int32)]) (rest := []) Cx hP hD hS hl (yq_front (S := Unit) (wdS a cyI cyJ τ_178) ([ic cyI v (qz_N (k + 1)) fv] ++ (ic cyI u (qz_N k) (dra L xs 13 (qz_N k) 4) :: E1)) (fun _ => wdS a cyI cyJ τ_182) 28 (fun _ => rfl)) (y_K2 hK) (fz_xs G) (fun hF => (fz_give (fz_xs G) hT.1 hS hF)) (ym_xi hM_183) pk_X9_changed mw_3_115 ⟨rfl, rfl, Nat.le_of_ble_eq_true rfl, Nat.le_of_ble_eq_true rfl⟩ (va_recv (ci := 9) hK hP rfl (q0 := 0) rfl) rfl rfl (Nat.le_of_ble_eq_true rfl) ⟨(show ((((3000 + 1) + 1) + 1) + 1030) + 0 ≤ (600000 : Nat) by omega), (show ((((291000 + 10) + 10) + 16) + 135000) + 0 ≤ (7302250 : Nat) by omega)⟩ dL_law_1206) (fun r_6 u_185 H locs hp hP hD hS => ?_)
  have hP : va_P D xcl (wdS a cyI cyJ τ_182 ++ ([ic cyI v (qz_N (k + 1)) fv] ++ (ic cyI u (qz_N k) (dra L xs 13 (qz_N k) 4) :: E1))) H := hP
  have hD : va_D A (wdS a cyI cyJ τ_182 ++ ([ic cyI v (qz_N (k + 1)) fv] ++ (ic cyI u (qz_N k) (dra L xs 13 (qz_N k) 4) :: E1))) := hD
  rw [show r_6 = (nI (tmN (reF (k + 1) (dbF fv)) 22)) from hp]
  refine lv_aload_n hx hb dL_law_1209 rfl (lv_at hl 4 rfl) ?_
  refine lv_iconst (v := (3 : Int32)) hx hb dL_law_1210 (by decide) ?_
  refine lv_iconst (v := (1 : Int32)) hx hb dL_law_1211 (by decide) ?_
  have hS3c : (upS (upS (upS S 2 (some (k, (dra L xs 13 (qz_N k) 4)))) 3 (some (k + 1, dbF fv))) 3 (some (k, (reF (k + 1) (dbF fv))))) 3 = some (k, (reF (k + 1) (dbF fv))) := rfl
  obtain ⟨τ_186, hR_188, hM_187⟩ := mm_sum1 l D cyI cyJ G a H.size hR_184 (s := 3) (by decide) hS3c
  refine yr_i Cx hP hD hS (yq_front (S := Unit) (wdS a cyI cyJ τ_182) ([ic cyI v (qz_N (k + 1)) fv] ++ (ic cyI u (qz_N k) (dra L xs 13 (qz_N k) 4) :: E1)) (fun _ => wdS a cyI cyJ τ_186) 28 (fun _ => rfl)) (yx_V (n := 2) (As := [.int (3 : Int32), .int (1 : Int32)]) (rest := [.int (nI (tmN (reF (k + 1) (dbF fv)) 22))]) Cx hP hD hS hl (yq_front (S := Unit) (wdS a cyI cyJ τ_182) ([ic cyI v (qz_N (k + 1)) fv] ++ (ic cyI u (qz_N k) (dra L xs 13 (qz_N k) 4) :: E1)) (fun _ => wdS a cyI cyJ τ_186) 28 (fun _ => rfl)) (y_K2 hK) (fz_xs G) (fun hF => (fz_give (fz_xs G) hT.1 hS hF)) (ym_xi hM_187) pk_X9_sum mw_3_43 ⟨rfl, rfl, Nat.le_of_ble_eq_true rfl, Nat.le_of_ble_eq_true rfl⟩ (va_recv (ci := 9) hK hP rfl (q0 := 0) rfl) rfl rfl (Nat.le_of_ble_eq_true rfl) ⟨(show ((((3000 + 1) + 1) + 1) + 1030) + 0 ≤ (600000 : Nat) by omega), (show ((((291000 + 10) + 10) + 16) + 135000) + 0 ≤ (7302250 : Nat) by omega)⟩ dL_law_1212) (fun r_7 u_189 H locs hp hP hD hS => ?_)
  have hP : va_P D xcl (wdS a cyI cyJ τ_186 ++ ([ic cyI v (qz_N (k + 1)) fv] ++ (ic cyI u (qz_N k) (dra L xs 13 (qz_N k) 4) :: E1))) H := hP
  have hD : va_D A (wdS a cyI cyJ τ_186 ++ ([ic cyI v (qz_N (k + 1)) fv] ++ (ic cyI u (qz_N k) (dra L xs 13 (qz_N k) 4) :: E1))) := hD
  rw [show r_7 = (nI (tmN (reF (k + 1) (dbF fv)) 22)) from hp]
  refine lv_icmp_ne (tgt := 1230) hx hb dL_law_1215 (by decide) (fun hc => absurd rfl hc) (fun _ => ?_)
  refine lv_aload_n hx hb dL_law_1218 rfl (lv_at hl 4 rfl) ?_
  refine lv_iconst (v := (3 : Int32)) hx hb dL_law_1219 (by decide) ?_
  refine lv_iconst (v := (0 : Int32)) hx hb dL_law_1220 (by decide) ?_
  obtain ⟨τ_190, hR_192, hM_191⟩ := mm_sum0 l D cyI cyJ G a H.size hR_188 (s := 3) (by decide) hS3c
  refine yr_i Cx hP hD hS (yq_front (S := Unit) (wdS a cyI cyJ τ_186) ([ic cyI v (qz_N (k + 1)) fv] ++ (ic cyI u (qz_N k) (dra L xs 13 (qz_N k) 4) :: E1)) (fun _ => wdS a cyI cyJ τ_190) 28 (fun _ => rfl)) (yx_V (n := 2) (As := [.int (3 : Int32), .int (0 : Int32)]) (rest := []) Cx hP hD hS hl (yq_front (S := Unit) (wdS a cyI cyJ τ_186) ([ic cyI v (qz_N (k + 1)) fv] ++ (ic cyI u (qz_N k) (dra L xs 13 (qz_N k) 4) :: E1)) (fun _ => wdS a cyI cyJ τ_190) 28 (fun _ => rfl)) (y_K2 hK) (fz_xs G) (fun hF => (fz_give (fz_xs G) hT.1 hS hF)) (ym_xi hM_191) pk_X9_sum mw_3_43 ⟨rfl, rfl, Nat.le_of_ble_eq_true rfl, Nat.le_of_ble_eq_true rfl⟩ (va_recv (ci := 9) hK hP rfl (q0 := 0) rfl) rfl rfl (Nat.le_of_ble_eq_true rfl) ⟨(show ((((3000 + 1) + 1) + 1) + 1030) + 0 ≤ (600000 : Nat) by omega), (show ((((291000 + 10) + 10) + 16) + 135000) + 0 ≤ (7302250 : Nat) by omega)⟩ dL_law_1221) (fun r_8 u_193 H locs hp hP hD hS => ?_)
  have hP : va_P D xcl (wdS a cyI cyJ τ_190 ++ ([ic cyI v (qz_N (k + 1)) fv] ++ (ic cyI u (qz_N k) (dra L xs 13 (qz_N k) 4) :: E1))) H := hP
  have hD : va_D A (wdS a cyI cyJ τ_190 ++ ([ic cyI v (qz_N (k + 1)) fv] ++ (ic cyI u (qz_N k) (dra L xs 13 (qz_N k) 4) :: E1))) := hD
  rw [show r_8 = (nI k) from hp]
  refine lv_iload_n hx hb dL_law_1224 rfl (lv_at hl 6 rfl) ?_
  refine lv_iconst (v := (1 : Int32)) hx hb dL_law_1225 (by decide) ?_
  refine lv_isub hx hb dL_law_1226 ?_
  rw [show ((nI (k + 1)) - (1 : Int32)) = (nI k) from nI_pred k]
  refine lv_icmp_eq (tgt := 1232) hx hb dL_law_1227 (by decide) (fun _ => ?_) (fun hc => absurd rfl hc)
  refine lv_aload_n hx hb dL_law_1232 rfl (lv_at hl 4 rfl) ?_
  refine lv_iconst (v := (2 : Int32)) hx hb dL_law_1233 (by decide) ?_
  refine lv_iconst (v := (3 : Int32)) hx hb dL_law_1234 (by decide) ?_
  have hS2c : (upS (upS (upS S 2 (some (k, (dra L xs 13 (qz_N k) 4)))) 3 (some (k + 1, dbF fv))) 3 (some (k, (reF (k + 1) (dbF fv))))) 2 = some (k, (dra L xs 13 (qz_N k) 4)) := rfl
  obtain ⟨τ_194, hR_196, hM_195⟩ := mm_inner l D cyI cyJ G a H.size hR_192 (s := 2) (t := 3) (by decide) (by decide) hS2c hS3c
  refine yr_l Cx hP hD hS (yq_front (S := Unit) (wdS a cyI cyJ τ_190) ([ic cyI v (qz_N (k + 1)) fv] ++ (ic cyI u (qz_N k) (dra L xs 13 (qz_N k) 4) :: E1)) (fun _ => wdS a cyI cyJ τ_194) 28 (fun _ => rfl)) (yx_V (n := 2) (As := [.int (2 : Int32), .int (3 : Int32)]) (rest := []) Cx hP hD hS hl (yq_front (S := Unit) (wdS a cyI cyJ τ_190) ([ic cyI v (qz_N (k + 1)) fv] ++ (ic cyI u (qz_N k) (dra L xs 13 (qz_N k) 4) :: E1)) (fun _ => wdS a cyI cyJ τ_194) 28 (fun _ => rfl)) (y_K2 hK) (fz_xs G) (fun hF => (fz_give (fz_xs G) hT.1 hS hF)) (ym_xl hM_195) pk_X9_inner mw_3_151 ⟨rfl, rfl, Nat.le_of_ble_eq_true rfl, Nat.le_of_ble_eq_true rfl⟩ (va_recv (ci := 9) hK hP rfl (q0 := 0) rfl) rfl rfl (Nat.le_of_ble_eq_true rfl) ⟨(show ((((3000 + 1) + 1) + 1) + 1030) + 0 ≤ (600000 : Nat) by omega), (show ((((291000 + 10) + 10) + 16) + 135000) + 0 ≤ (7302250 : Nat) by omega)⟩ dL_law_1235) (fun r_9 u_197 H locs hp hP hD hS => ?_)
  have hP : va_P D xcl (wdS a cyI cyJ τ_194 ++ ([ic cyI v (qz_N (k + 1)) fv] ++ (ic cyI u (qz_N k) (dra L xs 13 (qz_N k) 4) :: E1))) H := hP
  have hD : va_D A (wdS a cyI cyJ τ_194 ++ ([ic cyI v (qz_N (k + 1)) fv] ++ (ic cyI u (qz_N k) (dra L xs 13 (qz_N k) 4) :: E1))) := hD
  rw [show r_9 = (inS (dra L xs 13 (qz_N k) 4) (reF (k + 1) (dbF fv)) 22) from hp]
  refine lv_lstore (lv' := [(18, .long (inS (dra L xs 13 (qz_N k) 4) (reF (k + 1) (dbF fv)) 22)), (17, .int (nI (tmN ((dra L xs 13 (qz_N k) 4)) (qz_N k)))), (16, .ref u), (15, .int (nI (qz_N k))), (0, .ref b), (1, .ref (a 0)), (2, .ref al), (3, .int (nI (k + 1))), (4, .int (nI (qz_D (k + 1)))), (5, .int (nI (qz_N (k + 1)))), (9, .ref v)]) hx hb dL_law_1238 hl (by decide) rfl (fun ls hl => ?_)
  refine W.widen (k := 4040) (n := 426100) (by omega) (by omega) ?_
  exact law_1240 (E1 := (ic cyI u (qz_N k) (dra L xs 13 (qz_N k) 4)) :: E1) C0 hR_196 hv hu (show (upS (upS (upS S 2 (some (k, (dra L xs 13 (qz_N k) 4)))) 3 (some (k + 1, dbF fv))) 3 (some (k, (reF (k + 1) (dbF fv))))) 0 = some (k + 1, fv) from hS0) hS2c hS3c hP hD hS (lv_sub hl [0, 3, 4, 5, 6, 7, 8, 9, 10] rfl)
set_option maxHeartbeats 16000000 in
set_option maxRecDepth 20000 in
theorem law_1104 {p0 : Program} {l : Launch} {e : Env} {s : State} {m : MethodId} {below : List Frame} {meth : Method} {c : Code} {b : Nat} {D : va_G} {cyI cyJ cyB cyQ : ClassId} {G a g kk kv B : Nat → Nat} {al tq L n : Nat} {xs : Nat → Int32} {A : Nat → Prop} {H0 : Heap} (C0 : LCx p0 s m b meth c D cyI cyJ cyB cyQ G g kk kv B al tq L n xs A H0) {σ : CS} {S : Nat → SV} (hR : Rc σ S []) {v : Nat} {E1 : va_W} {fv : Nat → Int32} (hv : okF n fv) (hS0 : S 0 = some (n, fv)) {H : Heap} {locs : List Loc} {ls : Array Slot} (hP : va_P D xcl (wdS a cyI cyJ σ ++ ([ic cyI v (qz_N n) fv] ++ E1)) H) (hD : va_D A (wdS a cyI cyJ σ ++ ([ic cyI v (qz_N n) fv] ++ E1))) (hS : va_S A H0 H locs) (hl : lv_has ls 28 [(0, .ref b), (1, .ref (a 0)), (2, .ref al), (3, .int (nI n)), (4, .int (nI (qz_D n))), (5, .int (nI (qz_N n))), (9, .ref v)]) : W p0 l e room_1 s m #[Value.ref b] below meth c H locs 3000 291000 (lw_Z below #[Value.ref b] s) (F0 m 1104 ls []) := by
  have C1 := C0
  obtain ⟨Cx, hAs, hn, hL⟩ := C1
  have Cx1 := Cx
  obtain ⟨⟨hx, hb, hml, hown, hts⟩, hr, hlocks, hK, hA, hT⟩ := Cx1
  obtain ⟨hD1, hD2, hD3⟩ := D_small n hn
  have hN1 : 0 < qz_N n := by show 0 < qz_D (n + 1) - qz_D n; omega
  have hN2 : qz_N n ≤ 15 := hD2
  have hN3 : qz_D n + qz_N n ≤ 45 := by show qz_D n + (qz_D (n + 1) - qz_D n) ≤ 45; omega
  refine lv_aload_n hx hb dL_law_1104 rfl (lv_at hl 1 rfl) ?_
  refine lv_iconst (v := (3 : Int32)) hx hb dL_law_1105 (by decide) ?_
  obtain ⟨τ_198, rr_199, hR_200, hr_201, hM_202⟩ := mm_clear l D cyI cyJ G a H.size hR (s := 3) (by decide)
  refine yr_i Cx hP hD hS (yq_front (S := Unit) (wdS a cyI cyJ σ) ([ic cyI v (qz_N n) fv] ++ E1) (fun _ => wdS a cyI cyJ τ_198) 28 (fun _ => rfl)) (yx_V (n := 1) (As := [.int (3 : Int32)]) (rest := []) Cx hP hD hS hl (yq_front (S := Unit) (wdS a cyI cyJ σ) ([ic cyI v (qz_N n) fv] ++ E1) (fun _ => wdS a cyI cyJ τ_198) 28 (fun _ => rfl)) (y_K2 hK) (fz_xs G) (fun hF => (fz_give (fz_xs G) hT.1 hS hF)) (ym_xi hM_202) pk_X9_clear mw_3_6 ⟨rfl, rfl, Nat.le_of_ble_eq_true rfl, Nat.le_of_ble_eq_true rfl⟩ (va_recv (ci := 9) hK hP rfl (q0 := 0) rfl) rfl rfl (Nat.le_of_ble_eq_true rfl) ⟨Nat.le_of_ble_eq_true rfl, Nat.le_of_ble_eq_true rfl⟩ dL_law_1106) (fun r_1 u_203 H locs hp hP hD hS => ?_)
  have hP : va_P D xcl (wdS a cyI cyJ τ_198 ++ ([ic cyI v (qz_N n) fv] ++ E1)) H := hP
  have hD : va_D A (wdS a cyI cyJ τ_198 ++ ([ic cyI v (qz_N n) fv] ++ E1)) := hD
  rw [show r_1 = rr_199 from hp]
  refine lv_if_lt (tgt := 1120) hx hb dL_law_1109 (by decide) (fun hc => absurd hc hr_201) (fun _ => ?_)
  refine lv_aload_n hx hb dL_law_1112 rfl (lv_at hl 1 rfl) ?_
  refine lv_iconst (v := (2 : Int32)) hx hb dL_law_1113 (by decide) ?_
  obtain ⟨τ_204, rr_205, hR_206, hr_207, hM_208⟩ := mm_clear l D cyI cyJ G a H.size hR_200 (s := 2) (by decide)
  refine yr_i Cx hP hD hS (yq_front (S := Unit) (wdS a cyI cyJ τ_198) ([ic cyI v (qz_N n) fv] ++ E1) (fun _ => wdS a cyI cyJ τ_204) 28 (fun _ => rfl)) (yx_V (n := 1) (As := [.int (2 : Int32)]) (rest := []) Cx hP hD hS hl (yq_front (S := Unit) (wdS a cyI cyJ τ_198) ([ic cyI v (qz_N n) fv] ++ E1) (fun _ => wdS a cyI cyJ τ_204) 28 (fun _ => rfl)) (y_K2 hK) (fz_xs G) (fun hF => (fz_give (fz_xs G) hT.1 hS hF)) (ym_xi hM_208) pk_X9_clear mw_3_6 ⟨rfl, rfl, Nat.le_of_ble_eq_true rfl, Nat.le_of_ble_eq_true rfl⟩ (va_recv (ci := 9) hK hP rfl (q0 := 0) rfl) rfl rfl (Nat.le_of_ble_eq_true rfl) ⟨Nat.le_of_ble_eq_true rfl, Nat.le_of_ble_eq_true rfl⟩ dL_law_1114) (fun r_2 u_209 H locs hp hP hD hS => ?_)
  have hP : va_P D xcl (wdS a cyI cyJ τ_204 ++ ([ic cyI v (qz_N n) fv] ++ E1)) H := hP
  have hD : va_D A (wdS a cyI cyJ τ_204 ++ ([ic cyI v (qz_N n) fv] ++ E1)) := hD
  rw [show r_2 = rr_205 from hp]
  refine lv_if_ge (tgt := 1122) hx hb dL_law_1117 (by decide) (fun _ => ?_) (fun hc => absurd (Int32.not_lt.mp hr_207) hc)
  refine lv_iload_n hx hb dL_law_1122 rfl (lv_at hl 3 rfl) ?_
  refine lv_if_le (tgt := 1420) hx hb dL_law_1123 (by decide) (fun hc => ?_) (fun hc => ?_)
  · have hn0 : n = 0 := by rcases Nat.eq_zero_or_pos n with h9 | h9; exact h9; exact absurd hc (nI_nle h9 (by omega))
    refine W.widen (k := 5000) (n := 450000) (by omega) (by omega) ?_
    exact law_1420 (E1 := [ic cyI v (qz_N n) fv] ++ E1) C0 hR_206 hv (show (upS (upS S 3 none) 2 none) 0 = some (n, fv) from hS0) hn0 hP hD hS (lv_sub hl [0, 1, 2, 4, 5] rfl)
  · have hn1 : ∃ k, n = k + 1 := by rcases Nat.eq_zero_or_pos n with h9 | h9; exact absurd (by rw [h9]; decide) hc; exact ⟨n - 1, by omega⟩
    obtain ⟨k, rfl⟩ := hn1
    exact law_1126 C0 hR_206 hv (show (upS (upS S 3 none) 2 none) 0 = some (k + 1, fv) from hS0) hP hD hS (lv_sub hl [0, 1, 2, 3, 4, 5, 6] rfl)
