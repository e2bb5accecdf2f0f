set_option maxHeartbeats 16000000 in
set_option maxRecDepth 20000 in
theorem law_971 {p0 : Program} {l : Launch} {e : Env} {s : State} {m : MethodId} {below : List Frame} {meth : Method} {c : Code} {b : Nat} {D : va_G} {cyI cyJ cyB cyQ : ClassId} {G a g kk kv B : Nat → Nat} {al tq L n : Nat} {xs : Nat → Int32} {A : Nat → Prop} {H0 : Heap} (C0 : LCx p0 s m b meth c D cyI cyJ cyB cyQ G g kk kv B al tq L n xs A H0) {σ : CS} {S : Nat → SV} (hR : Rc σ S [])  {v w : Nat} {E1 : va_W} {fv fw : Nat → Int32} (hv : okF n fv) (hw : okF n fw) (hS0 : S 0 = some (n, fv)) (hS1 : S 1 = some (n, fw)) (hS2 : S 2 = some (n, tmF n fv fw)) {H : Heap} {locs : List Loc} {ls : Array Slot} (hP : va_P D xcl (wdS a cyI cyJ σ ++ ([ic cyI v (qz_N n) fv, ic cyI w (qz_N n) fw] ++ E1)) H) (hD : va_D A (wdS a cyI cyJ σ ++ ([ic cyI v (qz_N n) fv, ic cyI w (qz_N n) fw] ++ E1))) (hS : va_S A H0 H locs) (hl : lv_has ls 28 [(0, .ref b), (1, .ref (a 0)), (2, .ref al), (3, .int (nI n)), (4, .int (nI (qz_D n))), (5, .int (nI (qz_N n))), (9, .ref v), (10, .ref w), (6, .ref tq)]) : W p0 l e room_1 s m #[Value.ref b] below meth c H locs 3000 291000 (lw_Z below #[Value.ref b] s) (F0 m 971 ls []) := by
  have C1 := C0
  obtain ⟨Cx, hAs, hn, hL⟩ := C1
  have Cx1 := Cx
  obtain ⟨⟨hx, hb, hml, hown, hts⟩, hr, hlocks, hK, hA, hT⟩ := Cx1
  obtain ⟨hD1, hD2, hD3⟩ := D_small n hn
  have hN1 : 0 < qz_N n := by show 0 < qz_D (n + 1) - qz_D n; omega
  have hN2 : qz_N n ≤ 15 := hD2
  have hN3 : qz_D n + qz_N n ≤ 45 := by show qz_D n + (qz_D (n + 1) - qz_D n) ≤ 45; omega
  refine lv_iconst (v := (0 : Int32)) hx hb dL_law_971 (by decide) ?_
  refine lv_istore (lv' := [(15, .int (0 : Int32)), (0, .ref b), (1, .ref (a 0)), (2, .ref al), (3, .int (nI n)), (4, .int (nI (qz_D n))), (5, .int (nI (qz_N n))), (9, .ref v), (10, .ref w), (6, .ref tq)]) hx hb dL_law_972 hl (by decide) rfl (fun ls hl => ?_)
  have w_974 : ∀ (d : Nat) (i : Nat) (τ : CS) (H : Heap) (locs : List Loc) (ls : Array Slot), Rc τ S [] → i + d = qz_N n → va_P D xcl (wdS a cyI cyJ τ ++ ([ic cyI v (qz_N n) fv, ic cyI w (qz_N n) fw] ++ E1)) H → va_D A (wdS a cyI cyJ τ ++ ([ic cyI v (qz_N n) fv, ic cyI w (qz_N n) fw] ++ E1)) → va_S A H0 H locs → lv_has ls 28 [(15, .int (nI i)), (0, .ref b), (1, .ref (a 0)), (2, .ref al), (3, .int (nI n)), (4, .int (nI (qz_D n))), (5, .int (nI (qz_N n))), (9, .ref v), (10, .ref w), (6, .ref tq)] → W p0 l e room_1 s m #[Value.ref b] below meth c H locs 3000 291000 (lw_Z below #[Value.ref b] s) (F0 m 974 ls []) := by
    intro d
    induction d with
    | zero =>
      intro i τ H locs ls hR_210 hi hP hD hS hl
      obtain rfl : i = qz_N n := by omega
      refine lv_iload hx hb dL_law_974 (lv_at hl 0 rfl) ?_
      refine lv_iload hx hb dL_law_976 (lv_at hl 6 rfl) ?_
      refine lv_icmp_ge (tgt := 1104) hx hb dL_law_978 (by decide) (fun _ => ?_) (fun hc => absurd (Int32.le_refl _) hc)
      exact law_1104 (E1 := ic cyI w (qz_N n) fw :: E1) C0 hR_210 hv hS0 hP hD hS (lv_sub hl [1, 2, 3, 4, 5, 6, 7] rfl)
    | succ d ih_974 =>
      intro i τ H locs ls hR_211 hi hP hD hS hl
      refine lv_iload hx hb dL_law_974 (lv_at hl 0 rfl) ?_
      refine lv_iload hx hb dL_law_976 (lv_at hl 6 rfl) ?_
      refine lv_icmp_ge (tgt := 1104) hx hb dL_law_978 (by decide) (fun hc => absurd hc (nI_ge (by omega) (by omega))) (fun _ => ?_)
      refine lv_lconst (v := (0 : Int64)) hx hb dL_law_981 (by decide) ?_
      refine lv_lstore (lv' := [(16, .long (0 : Int64)), (15, .int (nI i)), (0, .ref b), (1, .ref (a 0)), (2, .ref al), (3, .int (nI n)), (4, .int (nI (qz_D n))), (5, .int (nI (qz_N n))), (9, .ref v), (10, .ref w), (6, .ref tq)]) hx hb dL_law_982 hl (by decide) rfl (fun ls hl => ?_)
      refine lv_lconst (v := (0 : Int64)) hx hb dL_law_984 (by decide) ?_
      refine lv_lstore (lv' := [(18, .long (0 : Int64)), (16, .long (0 : Int64)), (15, .int (nI i)), (0, .ref b), (1, .ref (a 0)), (2, .ref al), (3, .int (nI n)), (4, .int (nI (qz_D n))), (5, .int (nI (qz_N n))), (9, .ref v), (10, .ref w), (6, .ref tq)]) hx hb dL_law_985 hl (by decide) rfl (fun ls hl => ?_)
      refine lv_iconst (v := (0 : Int32)) hx hb dL_law_987 (by decide) ?_
      refine lv_istore (lv' := [(20, .int (0 : Int32)), (18, .long (0 : Int64)), (16, .long (0 : Int64)), (15, .int (nI i)), (0, .ref b), (1, .ref (a 0)), (2, .ref al), (3, .int (nI n)), (4, .int (nI (qz_D n))), (5, .int (nI (qz_N n))), (9, .ref v), (10, .ref w), (6, .ref tq)]) hx hb dL_law_988 hl (by decide) rfl (fun ls hl => ?_)
      have w_990 : ∀ (d2 : Nat) (p : Nat) (ρ : CS) (H : Heap) (locs : List Loc) (ls : Array Slot), Rc ρ S [] → p + d2 = qz_N n → va_P D xcl (wdS a cyI cyJ ρ ++ ([ic cyI v (qz_N n) fv, ic cyI w (qz_N n) fw] ++ E1)) H → va_D A (wdS a cyI cyJ ρ ++ ([ic cyI v (qz_N n) fv, ic cyI w (qz_N n) fw] ++ E1)) → va_S A H0 H locs → lv_has ls 28 [(20, .int (nI p)), (18, .long (vaS n fw i p)), (16, .long (vaS n fv i p)), (15, .int (nI i)), (0, .ref b), (1, .ref (a 0)), (2, .ref al), (3, .int (nI n)), (4, .int (nI (qz_D n))), (5, .int (nI (qz_N n))), (9, .ref v), (10, .ref w), (6, .ref tq)] → W p0 l e room_1 s m #[Value.ref b] below meth c H locs 3000 291000 (lw_Z below #[Value.ref b] s) (F0 m 990 ls []) := by
        intro d2
        induction d2 with
        | zero =>
          intro p ρ H locs ls hR_212 hp2 hP hD hS hl
          obtain rfl : p = qz_N n := by omega
          have hi9 : i < qz_N n := by omega
          refine lv_iload hx hb dL_law_990 (lv_at hl 0 rfl) ?_
          refine lv_iload hx hb dL_law_992 (lv_at hl 9 rfl) ?_
          refine lv_icmp_ge (tgt := 1045) hx hb dL_law_994 (by decide) (fun _ => ?_) (fun hc => absurd (Int32.le_refl _) hc)
          refine lv_aload_n hx hb dL_law_1045 rfl (lv_at hl 5 rfl) ?_
          refine lv_iconst (v := (0 : Int32)) hx hb dL_law_1046 (by decide) ?_
          refine lv_iload hx hb dL_law_1047 (lv_at hl 8 rfl) ?_
          refine lv_iload hx hb dL_law_1049 (lv_at hl 3 rfl) ?_
          refine lv_iadd hx hb dL_law_1051 ?_
          rw [show ((nI (qz_D n)) + (nI i)) = (nI (qz_D n + i)) from nI_add (qz_D n) i]
          obtain ⟨τ_213, hR_215, hM_214⟩ := mm_value l D cyI cyJ G a H.size hR_212 (s := 0) (by decide) hS0 hi9
          refine yr_l Cx hP hD hS (yq_front (S := Unit) (wdS a cyI cyJ ρ) ([ic cyI v (qz_N n) fv, ic cyI w (qz_N n) fw] ++ E1) (fun _ => wdS a cyI cyJ τ_213) 28 (fun _ => rfl)) (yx_V (n := 2) (As := [.int (0 : Int32), .int (nI (qz_D n + i))]) (rest := []) Cx hP hD hS hl (yq_front (S := Unit) (wdS a cyI cyJ ρ) ([ic cyI v (qz_N n) fv, ic cyI w (qz_N n) fw] ++ E1) (fun _ => wdS a cyI cyJ τ_213) 28 (fun _ => rfl)) (y_K2 hK) (fz_xs G) (fun hF => (fz_give (fz_xs G) hT.1 hS hF)) (ym_xl hM_214) pk_X9_value mw_3_136 ⟨rfl, rfl, Nat.le_of_ble_eq_true rfl, Nat.le_of_ble_eq_true rfl⟩ (va_recv (ci := 9) hK hP rfl (q0 := 0) rfl) rfl rfl (Nat.le_of_ble_eq_true rfl) ⟨Nat.le_of_ble_eq_true rfl, Nat.le_of_ble_eq_true rfl⟩ dL_law_1052) (fun r_1 u_216 H locs hp hP hD hS => ?_)
          have hP : va_P D xcl (wdS a cyI cyJ τ_213 ++ ([ic cyI v (qz_N n) fv, ic cyI w (qz_N n) fw] ++ E1)) H := hP
          have hD : va_D A (wdS a cyI cyJ τ_213 ++ ([ic cyI v (qz_N n) fv, ic cyI w (qz_N n) fw] ++ E1)) := hD
          rw [show r_1 = (vaS n fv i (qz_N n)) from hp]
          refine lv_lload hx hb dL_law_1055 (lv_at hl 2 rfl) ?_
          refine W.lcmp hx hb dL_law_1057 ?_
          refine lv_if_ne (tgt := 1096) hx hb dL_law_1058 (by decide) (fun hc => absurd (lg0 rfl) hc) (fun _ => ?_)
          refine lv_aload_n hx hb dL_law_1061 rfl (lv_at hl 5 rfl) ?_
          refine lv_iconst (v := (1 : Int32)) hx hb dL_law_1062 (by decide) ?_
          refine lv_iload hx hb dL_law_1063 (lv_at hl 8 rfl) ?_
          refine lv_iload hx hb dL_law_1065 (lv_at hl 3 rfl) ?_
          refine lv_iadd hx hb dL_law_1067 ?_
          rw [show ((nI (qz_D n)) + (nI i)) = (nI (qz_D n + i)) from nI_add (qz_D n) i]
          obtain ⟨τ_217, hR_219, hM_218⟩ := mm_value l D cyI cyJ G a H.size hR_215 (s := 1) (by decide) hS1 hi9
          refine yr_l Cx hP hD hS (yq_front (S := Unit) (wdS a cyI cyJ τ_213) ([ic cyI v (qz_N n) fv, ic cyI w (qz_N n) fw] ++ E1) (fun _ => wdS a cyI cyJ τ_217) 28 (fun _ => rfl)) (yx_V (n := 2) (As := [.int (1 : Int32), .int (nI (qz_D n + i))]) (rest := []) Cx hP hD hS hl (yq_front (S := Unit) (wdS a cyI cyJ τ_213) ([ic cyI v (qz_N n) fv, ic cyI w (qz_N n) fw] ++ E1) (fun _ => wdS a cyI cyJ τ_217) 28 (fun _ => rfl)) (y_K2 hK) (fz_xs G) (fun hF => (fz_give (fz_xs G) hT.1 hS hF)) (ym_xl hM_218) pk_X9_value mw_3_136 ⟨rfl, rfl, Nat.le_of_ble_eq_true rfl, Nat.le_of_ble_eq_true rfl⟩ (va_recv (ci := 9) hK hP rfl (q0 := 0) rfl) rfl rfl (Nat.le_of_ble_eq_true rfl) ⟨Nat.le_of_ble_eq_true rfl, Nat.le_of_ble_eq_true rfl⟩ dL_law_1068) (fun r_2 u_220 H locs hp hP hD hS => ?_)
          have hP : va_P D xcl (wdS a cyI cyJ τ_217 ++ ([ic cyI v (qz_N n) fv, ic cyI w (qz_N n) fw] ++ E1)) H := hP
          have hD : va_D A (wdS a cyI cyJ τ_217 ++ ([ic cyI v (qz_N n) fv, ic cyI w (qz_N n) fw] ++ E1)) := hD
          rw [show r_2 = (vaS n fw i (qz_N n)) from hp]
          refine lv_lload hx hb dL_law_1071 (lv_at hl 1 rfl) ?_
          refine W.lcmp hx hb dL_law_1073 ?_
          refine lv_if_ne (tgt := 1096) hx hb dL_law_1074 (by decide) (fun hc => absurd (lg0 rfl) hc) (fun _ => ?_)
          refine lv_aload_n hx hb dL_law_1077 rfl (lv_at hl 5 rfl) ?_
          refine lv_iconst (v := (2 : Int32)) hx hb dL_law_1078 (by decide) ?_
          refine lv_iload hx hb dL_law_1079 (lv_at hl 8 rfl) ?_
          refine lv_iload hx hb dL_law_1081 (lv_at hl 3 rfl) ?_
          refine lv_iadd hx hb dL_law_1083 ?_
          rw [show ((nI (qz_D n)) + (nI i)) = (nI (qz_D n + i)) from nI_add (qz_D n) i]
          obtain ⟨τ_221, hR_223, hM_222⟩ := mm_value l D cyI cyJ G a H.size hR_219 (s := 2) (by decide) hS2 hi9
          refine yr_l Cx hP hD hS (yq_front (S := Unit) (wdS a cyI cyJ τ_217) ([ic cyI v (qz_N n) fv, ic cyI w (qz_N n) fw] ++ E1) (fun _ => wdS a cyI cyJ τ_221) 28 (fun _ => rfl)) (yx_V (n := 2) (As := [.int (2 : Int32), .int (nI (qz_D n + i))]) (rest := []) Cx hP hD hS hl (yq_front (S := Unit) (wdS a cyI cyJ τ_217) ([ic cyI v (qz_N n) fv, ic cyI w (qz_N n) fw] ++ E1) (fun _ => wdS a cyI cyJ τ_221) 28 (fun _ => rfl)) (y_K2 hK) (fz_xs G) (fun hF => (fz_give (fz_xs G) hT.1 hS hF)) (ym_xl hM_222) pk_X9_value mw_3_136 ⟨rfl, rfl, Nat.le_of_ble_eq_true rfl, Nat.le_of_ble_eq_true rfl⟩ (va_recv (ci := 9) hK hP rfl (q0 := 0) rfl) rfl rfl (Nat.le_of_ble_eq_true rfl) ⟨Nat.le_of_ble_eq_true rfl, Nat.le_of_ble_eq_true rfl⟩ dL_law_1084) (fun r_3 u_224 H locs hp hP hD hS => ?_)
          have hP : va_P D xcl (wdS a cyI cyJ τ_221 ++ ([ic cyI v (qz_N n) fv, ic cyI w (qz_N n) fw] ++ E1)) H := hP
          have hD : va_D A (wdS a cyI cyJ τ_221 ++ ([ic cyI v (qz_N n) fv, ic cyI w (qz_N n) fw] ++ E1)) := hD
          rw [show r_3 = (vaS n (tmF n fv fw) i (qz_N n)) from hp]
          refine lv_lload hx hb dL_law_1087 (lv_at hl 2 rfl) ?_
          refine lv_lload hx hb dL_law_1089 (lv_at hl 1 rfl) ?_
          refine lv_lmul hx hb dL_law_1091 ?_
          refine W.lcmp hx hb dL_law_1092 ?_
          refine lv_if_eq (tgt := 1098) hx hb dL_law_1093 (by decide) (fun _ => ?_) (fun hc => absurd (lg0 (pu_times hn hv hw hi9)) hc)
          refine lv_iinc (v := ((nI i) + (1 : Int32))) (lv' := [(15, .int ((nI i) + (1 : Int32))), (20, .int (nI (qz_N n))), (18, .long (vaS n fw i (qz_N n))), (16, .long (vaS n fv i (qz_N n))), (0, .ref b), (1, .ref (a 0)), (2, .ref al), (3, .int (nI n)), (4, .int (nI (qz_D n))), (5, .int (nI (qz_N n))), (9, .ref v), (10, .ref w), (6, .ref tq)]) hx hb dL_law_1098 hl (k := 3) rfl rfl (by decide) rfl (fun ls hl => ?_)
          refine lv_goto (tgt := 974) hx hb dL_law_1101 (by decide) ?_
          rw [show ((nI i) + (1 : Int32)) = (nI (i + 1)) from (nI_1 i)] at hl
          exact ih_974 (i + 1) τ_221 H _ ls hR_223 (by omega) hP hD hS (lv_sub hl [0, 4, 5, 6, 7, 8, 9, 10, 11, 12] rfl)
        | succ d2 ih_990 =>
          intro p ρ H locs ls hR_225 hp2 hP hD hS hl
          refine lv_iload hx hb dL_law_990 (lv_at hl 0 rfl) ?_
          refine lv_iload hx hb dL_law_992 (lv_at hl 9 rfl) ?_
          refine lv_icmp_ge (tgt := 1045) hx hb dL_law_994 (by decide) (fun hc => absurd hc (nI_ge (by omega) (by omega))) (fun _ => ?_)
          refine lv_lload hx hb dL_law_997 (lv_at hl 2 rfl) ?_
          refine lv_aload hx hb dL_law_999 (lv_at hl 10 rfl) ?_
          refine lv_iload hx hb dL_law_1001 (lv_at hl 0 rfl) ?_
          refine va_iald hx hb hK hP 28 0 rfl rfl (vp_in_nI (show p < (qz_N n) by omega) (by omega)) dL_law_1003 ?_
          rw [nI_clamp (show p < 2 ^ 31 by omega)]
          refine lv_i2l (v := Int32.toInt64 (fv p)) hx hb dL_law_1004 rfl ?_
          refine lv_aload hx hb dL_law_1005 (lv_at hl 12 rfl) ?_
          refine lv_iload hx hb dL_law_1007 (lv_at hl 0 rfl) ?_
          refine yf_qld hx hb (va_T.kept hT.2.2.2.2.2.1 hS.2.1) rfl (vp_in_nI (show p < (qz_N n) by omega) (by omega)) dL_law_1009 ?_
          rw [nI_clamp (show p < 2 ^ 31 by omega)]
          refine lv_iload hx hb dL_law_1010 (lv_at hl 3 rfl) ?_
          refine yf_ild hx hb (va_T.kept (hT.2.2.2.2.2.2 p (by omega)) hS.2.1) (vp_in_nI (show i < (qz_N n) by omega) (by omega)) (v := (tc n p i)) (by rw [nI_clamp (show i < 2 ^ 31 by omega)]; exact lp_tb n hn p (by omega) i (by omega)) dL_law_1012 ?_
          refine lv_i2l (v := Int32.toInt64 (tc n p i)) hx hb dL_law_1013 rfl ?_
          refine lv_lmul hx hb dL_law_1014 ?_
          refine lv_ladd hx hb dL_law_1015 ?_
          refine lv_lstore (lv' := [(16, .long ((vaS n fv i p) + ((Int32.toInt64 (fv p)) * (Int32.toInt64 (tc n p i))))), (20, .int (nI p)), (18, .long (vaS n fw i p)), (15, .int (nI i)), (0, .ref b), (1, .ref (a 0)), (2, .ref al), (3, .int (nI n)), (4, .int (nI (qz_D n))), (5, .int (nI (qz_N n))), (9, .ref v), (10, .ref w), (6, .ref tq)]) hx hb dL_law_1016 hl (by decide) rfl (fun ls hl => ?_)
          refine lv_lload hx hb dL_law_1018 (lv_at hl 2 rfl) ?_
          refine lv_aload hx hb dL_law_1020 (lv_at hl 11 rfl) ?_
          refine lv_iload hx hb dL_law_1022 (lv_at hl 1 rfl) ?_
          refine va_iald hx hb hK hP 29 0 rfl rfl (vp_in_nI (show p < (qz_N n) by omega) (by omega)) dL_law_1024 ?_
          rw [nI_clamp (show p < 2 ^ 31 by omega)]
          refine lv_i2l (v := Int32.toInt64 (fw p)) hx hb dL_law_1025 rfl ?_
          refine lv_aload hx hb dL_law_1026 (lv_at hl 12 rfl) ?_
          refine lv_iload hx hb dL_law_1028 (lv_at hl 1 rfl) ?_
          refine yf_qld hx hb (va_T.kept hT.2.2.2.2.2.1 hS.2.1) rfl (vp_in_nI (show p < (qz_N n) by omega) (by omega)) dL_law_1030 ?_
          rw [nI_clamp (show p < 2 ^ 31 by omega)]
          refine lv_iload hx hb dL_law_1031 (lv_at hl 3 rfl) ?_
          refine yf_ild hx hb (va_T.kept (hT.2.2.2.2.2.2 p (by omega)) hS.2.1) (vp_in_nI (show i < (qz_N n) by omega) (by omega)) (v := (tc n p i)) (by rw [nI_clamp (show i < 2 ^ 31 by omega)]; exact lp_tb n hn p (by omega) i (by omega)) dL_law_1033 ?_
          refine lv_i2l (v := Int32.toInt64 (tc n p i)) hx hb dL_law_1034 rfl ?_
          refine lv_lmul hx hb dL_law_1035 ?_
          refine lv_ladd hx hb dL_law_1036 ?_
          refine lv_lstore (lv' := [(18, .long ((vaS n fw i p) + ((Int32.toInt64 (fw p)) * (Int32.toInt64 (tc n p i))))), (16, .long ((vaS n fv i p) + ((Int32.toInt64 (fv p)) * (Int32.toInt64 (tc n p i))))), (20, .int (nI p)), (15, .int (nI i)), (0, .ref b), (1, .ref (a 0)), (2, .ref al), (3, .int (nI n)), (4, .int (nI (qz_D n))), (5, .int (nI (qz_N n))), (9, .ref v), (10, .ref w), (6, .ref tq)]) hx hb dL_law_1037 hl (by decide) rfl (fun ls hl => ?_)
          refine lv_iinc (v := ((nI p) + (1 : Int32))) (lv' := [(20, .int ((nI p) + (1 : Int32))), (18, .long ((vaS n fw i p) + ((Int32.toInt64 (fw p)) * (Int32.toInt64 (tc n p i))))), (16, .long ((vaS n fv i p) + ((Int32.toInt64 (fv p)) * (Int32.toInt64 (tc n p i))))), (15, .int (nI i)), (0, .ref b), (1, .ref (a 0)), (2, .ref al), (3, .int (nI n)), (4, .int (nI (qz_D n))), (5, .int (nI (qz_N n))), (9, .ref v), (10, .ref w), (6, .ref tq)]) hx hb dL_law_1039 hl (k := 2) rfl rfl (by decide) rfl (fun ls hl => ?_)
          refine lv_goto (tgt := 990) hx hb dL_law_1042 (by decide) ?_
          rw [show ((nI p) + (1 : Int32)) = (nI (p + 1)) from (nI_1 p)] at hl
          have hl : lv_has ls 28 [(20, .int (nI (p + 1))), (18, .long (vaS n fw i (p + 1))), (16, .long (vaS n fv i (p + 1))), (15, .int (nI i)), (0, .ref b), (1, .ref (a 0)), (2, .ref al), (3, .int (nI n)), (4, .int (nI (qz_D n))), (5, .int (nI (qz_N n))), (9, .ref v), (10, .ref w), (6, .ref tq)] := hl
          exact ih_990 (p + 1) ρ H _ ls hR_225 (by omega) hP hD hS (lv_sub hl [0, 1, 2, 3, 4, 5, 6, 7, 8, 9, 10, 11, 12] rfl)
      exact w_990 (qz_N n) 0 τ H _ ls hR_211 (by omega) hP hD hS (lv_sub hl [0, 1, 2, 3, 4, 5, 6, 7, 8, 9, 10, 11, 12] rfl)
  exact w_974 (qz_N n) 0 σ H _ ls hR (by omega) hP hD hS (lv_sub hl [0, 1, 2, 3, 4, 5, 6, 7, 8, 9] rfl)
set_option maxHeartbeats 16000000 in
set_option maxRecDepth 20000 in
theorem law_865 {p0 : Program} {l : Launch} {e : Env} {s : State} {m : MethodId} {below : List Frame} {meth : Method} {c : Code} {b : Nat} {D : va_G} {cyI cyJ cyB cyQ : ClassId} {G a g kk kv B : Nat → Nat} {al tq L n : Nat} {xs : Nat → Int32} {A : Nat → Prop} {H0 : Heap} (C0 : LCx p0 s m b meth c D cyI cyJ cyB cyQ G g kk kv B al tq L n xs A H0) {σ : CS} {S : Nat → SV} (hR : Rc σ S [])  {v w : Nat} {E1 : va_W} {fv fw : Nat → Int32} (hv : okF n fv) (hw : okF n fw) (hS0 : S 0 = some (n, fv)) (hS1 : S 1 = some (n, fw)) {H : Heap} {locs : List Loc} {ls : Array Slot} (hP : va_P D xcl (wdS a cyI cyJ σ ++ ([ic cyI v (qz_N n) fv, ic cyI w (qz_N n) fw] ++ E1)) H) (hD : va_D A (wdS a cyI cyJ σ ++ ([ic cyI v (qz_N n) fv, ic cyI w (qz_N n) fw] ++ E1))) (hS : va_S A H0 H locs) (hl : lv_has ls 28 [(0, .ref b), (1, .ref (a 0)), (2, .ref al), (3, .int (nI n)), (4, .int (nI (qz_D n))), (5, .int (nI (qz_N n))), (9, .ref v), (10, .ref w), (6, .ref tq)]) : W p0 l e room_1 s m #[Value.ref b] below meth c H locs 3000 291000 (lw_Z below #[Value.ref b] s) (F0 m 865 ls []) := by
  have C1 := C0
  obtain ⟨Cx, hAs, hn, hL⟩ := C1
  have Cx1 := Cx
  obtain ⟨⟨hx, hb, hml, hown, hts⟩, hr, hlocks, hK, hA, hT⟩ := Cx1
  obtain ⟨hD1, hD2, hD3⟩ := D_small n hn
  have hN1 : 0 < qz_N n := by show 0 < qz_D (n + 1) - qz_D n; omega
  have hN2 : qz_N n ≤ 15 := hD2
  have hN3 : qz_D n + qz_N n ≤ 45 := by show qz_D n + (qz_D (n + 1) - qz_D n) ≤ 45; omega
  refine lv_lconst (v := (0 : Int64)) hx hb dL_law_865 (by decide) ?_
  refine lv_lstore (lv' := [(13, .long (0 : Int64)), (0, .ref b), (1, .ref (a 0)), (2, .ref al), (3, .int (nI n)), (4, .int (nI (qz_D n))), (5, .int (nI (qz_N n))), (9, .ref v), (10, .ref w), (6, .ref tq)]) hx hb dL_law_866 hl (by decide) rfl (fun ls hl => ?_)
  refine lv_iconst (v := (0 : Int32)) hx hb dL_law_868 (by decide) ?_
  refine lv_istore (lv' := [(15, .int (0 : Int32)), (13, .long (0 : Int64)), (0, .ref b), (1, .ref (a 0)), (2, .ref al), (3, .int (nI n)), (4, .int (nI (qz_D n))), (5, .int (nI (qz_N n))), (9, .ref v), (10, .ref w), (6, .ref tq)]) hx hb dL_law_869 hl (by decide) rfl (fun ls hl => ?_)
  have w_871 : ∀ (d : Nat) (i : Nat) (τ : CS) (H : Heap) (locs : List Loc) (ls : Array Slot), Rc τ S [] → i + d = qz_N n → va_P D xcl (wdS a cyI cyJ τ ++ ([ic cyI v (qz_N n) fv, ic cyI w (qz_N n) fw] ++ E1)) H → va_D A (wdS a cyI cyJ τ ++ ([ic cyI v (qz_N n) fv, ic cyI w (qz_N n) fw] ++ E1)) → va_S A H0 H locs → lv_has ls 28 [(15, .int (nI i)), (13, .long (inS fv fw i)), (0, .ref b), (1, .ref (a 0)), (2, .ref al), (3, .int (nI n)), (4, .int (nI (qz_D n))), (5, .int (nI (qz_N n))), (9, .ref v), (10, .ref w), (6, .ref tq)] → W p0 l e room_1 s m #[Value.ref b] below meth c H locs 3000 291000 (lw_Z below #[Value.ref b] s) (F0 m 871 ls []) := by
    intro d
    induction d with
    | zero =>
      intro i τ H locs ls hR_226 hi hP hD hS hl
      obtain rfl : i = qz_N n := by omega
      refine lv_iload hx hb dL_law_871 (lv_at hl 0 rfl) ?_
      refine lv_iload hx hb dL_law_873 (lv_at hl 7 rfl) ?_
      refine lv_icmp_ge (tgt := 940) hx hb dL_law_875 (by decide) (fun _ => ?_) (fun hc => absurd (Int32.le_refl _) hc)
      refine lv_aload_n hx hb dL_law_940 rfl (lv_at hl 3 rfl) ?_
      refine lv_iconst (v := (0 : Int32)) hx hb dL_law_941 (by decide) ?_
      refine lv_iconst (v := (1 : Int32)) hx hb dL_law_942 (by decide) ?_
      obtain ⟨τ_227, hR_229, hM_228⟩ := mm_inner l D cyI cyJ G a H.size hR_226 (s := 0) (t := 1) (by decide) (by decide) hS0 hS1
      refine yr_l Cx hP hD hS (yq_front (S := Unit) (wdS a cyI cyJ τ) ([ic cyI v (qz_N n) fv, ic cyI w (qz_N n) fw] ++ E1) (fun _ => wdS a cyI cyJ τ_227) 28 (fun _ => rfl)) (yx_V (n := 2) (As := [.int (0 : Int32), .int (1 : Int32)]) (rest := []) Cx hP hD hS hl (yq_front (S := Unit) (wdS a cyI cyJ τ) ([ic cyI v (qz_N n) fv, ic cyI w (qz_N n) fw] ++ E1) (fun _ => wdS a cyI cyJ τ_227) 28 (fun _ => rfl)) (y_K2 hK) (fz_xs G) (fun hF => (fz_give (fz_xs G) hT.1 hS hF)) (ym_xl hM_228) pk_X9_inner mw_3_151 ⟨rfl, rfl, Nat.le_of_ble_eq_true rfl, Nat.le_of_ble_eq_true rfl⟩ (va_recv (ci := 9) hK hP rfl (q0 := 0) rfl) rfl rfl (Nat.le_of_ble_eq_true rfl) ⟨Nat.le_of_ble_eq_true rfl, Nat.le_of_ble_eq_true rfl⟩ dL_law_943) (fun r_1 u_230 H locs hp hP hD hS => ?_)
      have hP : va_P D xcl (wdS a cyI cyJ τ_227 ++ ([ic cyI v (qz_N n) fv, ic cyI w (qz_N n) fw] ++ E1)) H := hP
      have hD : va_D A (wdS a cyI cyJ τ_227 ++ ([ic cyI v (qz_N n) fv, ic cyI w (qz_N n) fw] ++ E1)) := hD
      rw [show r_1 = (inS fv fw 22) from hp]
      refine lv_lload hx hb dL_law_946 (lv_at hl 1 rfl) ?_
      refine W.lcmp hx hb dL_law_948 ?_
      refine lv_if_ne (tgt := 969) hx hb dL_law_949 (by decide) (fun hc => absurd (lg0 (pu_in hn hv)) hc) (fun _ => ?_)
      refine lv_aload_n hx hb dL_law_952 rfl (lv_at hl 3 rfl) ?_
      refine lv_iconst (v := (2 : Int32)) hx hb dL_law_953 (by decide) ?_
      refine lv_iconst (v := (0 : Int32)) hx hb dL_law_954 (by decide) ?_
      refine lv_iconst (v := (1 : Int32)) hx hb dL_law_955 (by decide) ?_
      refine lv_iconst (v := (2 : Int32)) hx hb dL_law_956 (by decide) ?_
      obtain ⟨τ_231, hR_233, hM_232⟩ := mm_times l D cyI cyJ G a H.size hR_229 hS0 hS1 (pu_fitT hn hv hw)
      refine yr_i Cx hP hD hS (yq_front (S := Unit) (wdS a cyI cyJ τ_227) ([ic cyI v (qz_N n) fv, ic cyI w (qz_N n) fw] ++ E1) (fun _ => wdS a cyI cyJ τ_231) 28 (fun _ => rfl)) (yx_V (n := 4) (As := [.int (2 : Int32), .int (0 : Int32), .int (1 : Int32), .int (2 : Int32)]) (rest := []) Cx hP hD hS hl (yq_front (S := Unit) (wdS a cyI cyJ τ_227) ([ic cyI v (qz_N n) fv, ic cyI w (qz_N n) fw] ++ E1) (fun _ => wdS a cyI cyJ τ_231) 28 (fun _ => rfl)) (y_K2 hK) (fz_xs G) (fun hF => (fz_give (fz_xs G) hT.1 hS hF)) (ym_xi hM_232) pk_X9_makes mw_3_72 ⟨rfl, rfl, Nat.le_of_ble_eq_true rfl, Nat.le_of_ble_eq_true rfl⟩ (va_recv (ci := 9) hK hP rfl (q0 := 0) rfl) rfl rfl (Nat.le_of_ble_eq_true rfl) ⟨Nat.le_of_ble_eq_true rfl, Nat.le_of_ble_eq_true rfl⟩ dL_law_957) (fun r_2 u_234 H locs hp hP hD hS => ?_)
      have hP : va_P D xcl (wdS a cyI cyJ τ_231 ++ ([ic cyI v (qz_N n) fv, ic cyI w (qz_N n) fw] ++ E1)) H := hP
      have hD : va_D A (wdS a cyI cyJ τ_231 ++ ([ic cyI v (qz_N n) fv, ic cyI w (qz_N n) fw] ++ E1)) := hD
      rw [show r_2 = (nI (tmN (tmF n fv fw) 22)) from hp]
      refine lv_aload_n hx hb dL_law_960 rfl (lv_at hl 3 rfl) ?_
      refine lv_iconst (v := (2 : Int32)) hx hb dL_law_961 (by decide) ?_
      refine lv_iconst (v := (1 : Int32)) hx hb dL_law_962 (by decide) ?_
      obtain ⟨τ_235, hR_237, hM_236⟩ := mm_sum1 l D cyI cyJ G a H.size hR_233 (s := 2) (by decide) (show (upS S 2 (some (n, (tmF n fv fw)))) 2 = some (n, (tmF n fv fw)) from rfl)
      refine yr_i Cx hP hD hS (yq_front (S := Unit) (wdS a cyI cyJ τ_231) ([ic cyI v (qz_N n) fv, ic cyI w (qz_N n) fw] ++ E1) (fun _ => wdS a cyI cyJ τ_235) 28 (fun _ => rfl)) (yx_V (n := 2) (As := [.int (2 : Int32), .int (1 : Int32)]) (rest := [.int (nI (tmN (tmF n fv fw) 22))]) Cx hP hD hS hl (yq_front (S := Unit) (wdS a cyI cyJ τ_231) ([ic cyI v (qz_N n) fv, ic cyI w (qz_N n) fw] ++ E1) (fun _ => wdS a cyI cyJ τ_235) 28 (fun _ => rfl)) (y_K2 hK) (fz_xs G) (fun hF => (fz_give (fz_xs G) hT.1 hS hF)) (ym_xi hM_236) pk_X9_sum mw_3_43 ⟨rfl, rfl, Nat.le_of_ble_eq_true rfl, Nat.le_of_ble_eq_true rfl⟩ (va_recv (ci := 9) hK hP rfl (q0 := 0) rfl) rfl rfl (Nat.le_of_ble_eq_true rfl) ⟨Nat.le_of_ble_eq_true rfl, Nat.le_of_ble_eq_true rfl⟩ dL_law_963) (fun r_3 u_238 H locs hp hP hD hS => ?_)
      have hP : va_P D xcl (wdS a cyI cyJ τ_235 ++ ([ic cyI v (qz_N n) fv, ic cyI w (qz_N n) fw] ++ E1)) H := hP
      have hD : va_D A (wdS a cyI cyJ τ_235 ++ ([ic cyI v (qz_N n) fv, ic cyI w (qz_N n) fw] ++ E1)) := hD
      rw [show r_3 = (nI (tmN (tmF n fv fw) 22)) from hp]
      refine lv_icmp_eq (tgt := 971) hx hb dL_law_966 (by decide) (fun _ => ?_) (fun hc => absurd rfl hc)
      exact law_971 C0 hR_237 hv hw (show (upS S 2 (some (n, (tmF n fv fw)))) 0 = some (n, fv) from hS0) (show (upS S 2 (some (n, (tmF n fv fw)))) 1 = some (n, fw) from hS1) (show (upS S 2 (some (n, (tmF n fv fw)))) 2 = some (n, (tmF n fv fw)) from rfl) hP hD hS (lv_sub hl [2, 3, 4, 5, 6, 7, 8, 9, 10] rfl)
    | succ d ih_871 =>
      intro i τ H locs ls hR_239 hi hP hD hS hl
      refine lv_iload hx hb dL_law_871 (lv_at hl 0 rfl) ?_
      refine lv_iload hx hb dL_law_873 (lv_at hl 7 rfl) ?_
      refine lv_icmp_ge (tgt := 940) hx hb dL_law_875 (by decide) (fun hc => absurd hc (nI_ge (by omega) (by omega))) (fun _ => ?_)
      refine lv_lload hx hb dL_law_878 (lv_at hl 1 rfl) ?_
      refine lv_aload hx hb dL_law_880 (lv_at hl 8 rfl) ?_
      refine lv_iload hx hb dL_law_882 (lv_at hl 0 rfl) ?_
      refine va_iald hx hb hK hP 28 0 rfl rfl (vp_in_nI (show i < (qz_N n) by omega) (by omega)) dL_law_884 ?_
      rw [nI_clamp (show i < 2 ^ 31 by omega)]
      refine lv_i2l (v := Int32.toInt64 (fv i)) hx hb dL_law_885 rfl ?_
      refine lv_aload hx hb dL_law_886 (lv_at hl 9 rfl) ?_
      refine lv_iload hx hb dL_law_888 (lv_at hl 0 rfl) ?_
      refine va_iald hx hb hK hP 29 0 rfl rfl (vp_in_nI (show i < (qz_N n) by omega) (by omega)) dL_law_890 ?_
      rw [nI_clamp (show i < 2 ^ 31 by omega)]
      refine lv_i2l (v := Int32.toInt64 (fw i)) hx hb dL_law_891 rfl ?_
      refine lv_lmul hx hb dL_law_892 ?_
      refine lv_ladd hx hb dL_law_893 ?_
      refine lv_lstore (lv' := [(13, .long ((inS fv fw i) + ((Int32.toInt64 (fv i)) * (Int32.toInt64 (fw i))))), (15, .int (nI i)), (0, .ref b), (1, .ref (a 0)), (2, .ref al), (3, .int (nI n)), (4, .int (nI (qz_D n))), (5, .int (nI (qz_N n))), (9, .ref v), (10, .ref w), (6, .ref tq)]) hx hb dL_law_894 hl (by decide) rfl (fun ls hl => ?_)
      refine lv_aload_n hx hb dL_law_896 rfl (lv_at hl 3 rfl) ?_
      refine lv_iconst (v := (0 : Int32)) hx hb dL_law_897 (by decide) ?_
      refine lv_iload hx hb dL_law_898 (lv_at hl 6 rfl) ?_
      refine lv_iload hx hb dL_law_900 (lv_at hl 1 rfl) ?_
      refine lv_iadd hx hb dL_law_902 ?_
      rw [show ((nI (qz_D n)) + (nI i)) = (nI (qz_D n + i)) from nI_add (qz_D n) i]
      obtain ⟨τ_240, hR_242, hM_241⟩ := mm_coefficient l D cyI cyJ G a H.size hR_239 (s := 0) (by decide) hS0 (show i < qz_N n by omega)
      refine yr_i Cx hP hD hS (yq_front (S := Unit) (wdS a cyI cyJ τ) ([ic cyI v (qz_N n) fv, ic cyI w (qz_N n) fw] ++ E1) (fun _ => wdS a cyI cyJ τ_240) 28 (fun _ => rfl)) (yx_V (n := 2) (As := [.int (0 : Int32), .int (nI (qz_D n + i))]) (rest := []) Cx hP hD hS hl (yq_front (S := Unit) (wdS a cyI cyJ τ) ([ic cyI v (qz_N n) fv, ic cyI w (qz_N n) fw] ++ E1) (fun _ => wdS a cyI cyJ τ_240) 28 (fun _ => rfl)) (y_K2 hK) (fz_xs G) (fun hF => (fz_give (fz_xs G) hT.1 hS hF)) (ym_xi hM_241) pk_X9_coefficient mw_3_65 ⟨rfl, rfl, Nat.le_of_ble_eq_true rfl, Nat.le_of_ble_eq_true rfl⟩ (va_recv (ci := 9) hK hP rfl (q0 := 0) rfl) rfl rfl (Nat.le_of_ble_eq_true rfl) ⟨Nat.le_of_ble_eq_true rfl, Nat.le_of_ble_eq_true rfl⟩ dL_law_903) (fun r_1 u_243 H locs hp hP hD hS => ?_)
      have hP : va_P D xcl (wdS a cyI cyJ τ_240 ++ ([ic cyI v (qz_N n) fv, ic cyI w (qz_N n) fw] ++ E1)) H := hP
      have hD : va_D A (wdS a cyI cyJ τ_240 ++ ([ic cyI v (qz_N n) fv, ic cyI w (qz_N n) fw] ++ E1)) := hD
      rw [show r_1 = (fv i) from hp]
      refine lv_aload hx hb dL_law_906 (lv_at hl 8 rfl) ?_
      refine lv_iload hx hb dL_law_908 (lv_at hl 1 rfl) ?_
      refine va_iald hx hb hK hP 28 0 rfl rfl (vp_in_nI (show i < (qz_N n) by omega) (by omega)) dL_law_910 ?_
      rw [nI_clamp (show i < 2 ^ 31 by omega)]
      refine lv_icmp_ne (tgt := 932) hx hb dL_law_911 (by decide) (fun hc => absurd rfl hc) (fun _ => ?_)
      refine lv_aload_n hx hb dL_law_914 rfl (lv_at hl 3 rfl) ?_
      refine lv_iconst (v := (1 : Int32)) hx hb dL_law_915 (by decide) ?_
      refine lv_iload hx hb dL_law_916 (lv_at hl 6 rfl) ?_
      refine lv_iload hx hb dL_law_918 (lv_at hl 1 rfl) ?_
      refine lv_iadd hx hb dL_law_920 ?_
      rw [show ((nI (qz_D n)) + (nI i)) = (nI (qz_D n + i)) from nI_add (qz_D n) i]
      obtain ⟨τ_244, hR_246, hM_245⟩ := mm_coefficient l D cyI cyJ G a H.size hR_242 (s := 1) (by decide) hS1 (show i < qz_N n by omega)
      refine yr_i Cx hP hD hS (yq_front (S := Unit) (wdS a cyI cyJ τ_240) ([ic cyI v (qz_N n) fv, ic cyI w (qz_N n) fw] ++ E1) (fun _ => wdS a cyI cyJ τ_244) 28 (fun _ => rfl)) (yx_V (n := 2) (As := [.int (1 : Int32), .int (nI (qz_D n + i))]) (rest := []) Cx hP hD hS hl (yq_front (S := Unit) (wdS a cyI cyJ τ_240) ([ic cyI v (qz_N n) fv, ic cyI w (qz_N n) fw] ++ E1) (fun _ => wdS a cyI cyJ τ_244) 28 (fun _ => rfl)) (y_K2 hK) (fz_xs G) (fun hF => (fz_give (fz_xs G) hT.1 hS hF)) (ym_xi hM_245) pk_X9_coefficient mw_3_65 ⟨rfl, rfl, Nat.le_of_ble_eq_true rfl, Nat.le_of_ble_eq_true rfl⟩ (va_recv (ci := 9) hK hP rfl (q0 := 0) rfl) rfl rfl (Nat.le_of_ble_eq_true rfl) ⟨Nat.le_of_ble_eq_true rfl, Nat.le_of_ble_eq_true rfl⟩ dL_law_921) (fun r_2 u_247 H locs hp hP hD hS => ?_)
      have hP : va_P D xcl (wdS a cyI cyJ τ_244 ++ ([ic cyI v (qz_N n) fv, ic cyI w (qz_N n) fw] ++ E1)) H := hP
      have hD : va_D A (wdS a cyI cyJ τ_244 ++ ([ic cyI v (qz_N n) fv, ic cyI w (qz_N n) fw] ++ E1)) := hD
      rw [show r_2 = (fw i) from hp]
      refine lv_aload hx hb dL_law_924 (lv_at hl 9 rfl) ?_
      refine lv_iload hx hb dL_law_926 (lv_at hl 1 rfl) ?_
      refine va_iald hx hb hK hP 29 0 rfl rfl (vp_in_nI (show i < (qz_N n) by omega) (by omega)) dL_law_928 ?_
      rw [nI_clamp (show i < 2 ^ 31 by omega)]
      refine lv_icmp_eq (tgt := 934) hx hb dL_law_929 (by decide) (fun _ => ?_) (fun hc => absurd rfl hc)
      refine lv_iinc (v := ((nI i) + (1 : Int32))) (lv' := [(15, .int ((nI i) + (1 : Int32))), (13, .long ((inS fv fw i) + ((Int32.toInt64 (fv i)) * (Int32.toInt64 (fw i))))), (0, .ref b), (1, .ref (a 0)), (2, .ref al), (3, .int (nI n)), (4, .int (nI (qz_D n))), (5, .int (nI (qz_N n))), (9, .ref v), (10, .ref w), (6, .ref tq)]) hx hb dL_law_934 hl (k := 1) rfl rfl (by decide) rfl (fun ls hl => ?_)
      refine lv_goto (tgt := 871) hx hb dL_law_937 (by decide) ?_
      rw [show ((nI i) + (1 : Int32)) = (nI (i + 1)) from (nI_1 i)] at hl
      have hl : lv_has ls 28 [(15, .int (nI (i + 1))), (13, .long (inS fv fw (i + 1))), (0, .ref b), (1, .ref (a 0)), (2, .ref al), (3, .int (nI n)), (4, .int (nI (qz_D n))), (5, .int (nI (qz_N n))), (9, .ref v), (10, .ref w), (6, .ref tq)] := hl
      exact ih_871 (i + 1) τ_244 H _ ls hR_246 (by omega) hP hD hS (lv_sub hl [0, 1, 2, 3, 4, 5, 6, 7, 8, 9, 10] rfl)
  exact w_871 (qz_N n) 0 σ H _ ls hR (by omega) hP hD hS (lv_sub hl [0, 1, 2, 3, 4, 5, 6, 7, 8, 9, 10] rfl)
set_option maxHeartbeats 16000000 in
set_option maxRecDepth 20000 in
theorem law_766 {p0 : Program} {l : Launch} {e : Env} {s : State} {m : MethodId} {below : List Frame} {meth : Method} {c : Code} {b : Nat} {D : va_G} {cyI cyJ cyB cyQ : ClassId} {G a g kk kv B : Nat → Nat} {al tq L n : Nat} {xs : Nat → Int32} {A : Nat → Prop} {H0 : Heap} (C0 : LCx p0 s m b meth c D cyI cyJ cyB cyQ G g kk kv B al tq L n xs A H0) {σ : CS} {S : Nat → SV} (hR : Rc σ S []) {E1 : va_W}  {H : Heap} {locs : List Loc} {ls : Array Slot} (hP : va_P D xcl (wdS a cyI cyJ σ ++ ([] ++ E1)) H) (hD : va_D A (wdS a cyI cyJ σ ++ ([] ++ E1))) (hS : va_S A H0 H locs) (hl : lv_has ls 28 [(0, .ref b), (1, .ref (a 0)), (2, .ref al), (3, .int (nI n)), (4, .int (nI (qz_D n))), (5, .int (nI (qz_N n))), (6, .ref tq)]) : W p0 l e room_1 s m #[Value.ref b] below meth c H locs 930 20400 (lw_Z below #[Value.ref b] s) (F0 m 766 ls []) := by
  have C1 := C0
  obtain ⟨Cx, hAs, hn, hL⟩ := C1
  have Cx1 := Cx
  obtain ⟨⟨hx, hb, hml, hown, hts⟩, hr, hlocks, hK, hA, hT⟩ := Cx1
  obtain ⟨hD1, hD2, hD3⟩ := D_small n hn
  have hN1 : 0 < qz_N n := by show 0 < qz_D (n + 1) - qz_D n; omega
  have hN2 : qz_N n ≤ 15 := hD2
  have hN3 : qz_D n + qz_N n ≤ 45 := by show qz_D n + (qz_D (n + 1) - qz_D n) ≤ 45; omega
  refine lv_aload_n hx hb dL_law_766 rfl (lv_at hl 0 rfl) ?_
  refine lv_iconst (v := (5 : Int32)) hx hb dL_law_767 (by decide) ?_
  refine lv_iload hx hb dL_law_768 (lv_at hl 5 rfl) ?_
  refine yr_r Cx hP hD hS (yq_new (S := Nat) (wdS a cyI cyJ σ ++ ([] ++ E1)) (fun v => [ic cyI v (qz_N n) (dra L xs 5 (qz_N n) 4)]) 1 (fun _ => rfl)) (yx_S (n := 3) (As := [.ref b, .int (5 : Int32), .int (nI (qz_N n))]) (rest := []) Cx hP hD hS hl (yq_new (S := Nat) (wdS a cyI cyJ σ ++ ([] ++ E1)) (fun v => [ic cyI v (qz_N n) (dra L xs 5 (qz_N n) 4)]) 1 (fun _ => rfl)) hK (fz_ZI b L xs) (fun hF => (fz_give (fz_ZI b L xs) hT.2.2.2.2.1 hS hF)) (c_L_drawn l D cyI cyJ cyB cyQ H.size b L 5 (qz_N n) xs (by omega) (by decide) (by omega) (by omega)) pk_L_drawn mw_5_52 ⟨rfl, rfl, Nat.le_of_ble_eq_true rfl, Nat.le_of_ble_eq_true rfl⟩ rfl rfl (Nat.le_of_ble_eq_true rfl) ⟨Nat.le_of_ble_eq_true rfl, Nat.le_of_ble_eq_true rfl⟩ dL_law_770) (fun v H locs hp hP hD hS => ?_)
  have hP : va_P D xcl ((wdS a cyI cyJ σ ++ ([] ++ E1)) ++ [ic cyI v (qz_N n) (dra L xs 5 (qz_N n) 4)]) H := hP
  have hD : va_D A ((wdS a cyI cyJ σ ++ ([] ++ E1)) ++ [ic cyI v (qz_N n) (dra L xs 5 (qz_N n) 4)]) := hD
  have hPD : va_P D xcl (wdS a cyI cyJ σ ++ ([] ++ (ic cyI v (qz_N n) (dra L xs 5 (qz_N n) 4) :: E1))) H ∧ va_D A (wdS a cyI cyJ σ ++ ([] ++ (ic cyI v (qz_N n) (dra L xs 5 (qz_N n) 4) :: E1))) := y_perm hP hD (y_new_mid (wdS a cyI cyJ σ) [] E1 (ic cyI v (qz_N n) (dra L xs 5 (qz_N n) 4)))
  obtain ⟨hP, hD⟩ := hPD
  refine lv_astore (lv' := [(9, .ref v), (0, .ref b), (1, .ref (a 0)), (2, .ref al), (3, .int (nI n)), (4, .int (nI (qz_D n))), (5, .int (nI (qz_N n))), (6, .ref tq)]) hx hb dL_law_773 hl (by decide) rfl (fun ls hl => ?_)
  refine lv_aload_n hx hb dL_law_775 rfl (lv_at hl 1 rfl) ?_
  refine lv_bipush (v := (9 : Int32)) hx hb dL_law_776 (by decide) ?_
  refine lv_iload hx hb dL_law_778 (lv_at hl 6 rfl) ?_
  refine yr_r Cx hP hD hS (yq_new (S := Nat) (wdS a cyI cyJ σ ++ ([] ++ (ic cyI v (qz_N n) (dra L xs 5 (qz_N n) 4) :: E1))) (fun w => [ic cyI w (qz_N n) (dra L xs 9 (qz_N n) 4)]) 1 (fun _ => rfl)) (yx_S (n := 3) (As := [.ref b, .int (9 : Int32), .int (nI (qz_N n))]) (rest := []) Cx hP hD hS hl (yq_new (S := Nat) (wdS a cyI cyJ σ ++ ([] ++ (ic cyI v (qz_N n) (dra L xs 5 (qz_N n) 4) :: E1))) (fun w => [ic cyI w (qz_N n) (dra L xs 9 (qz_N n) 4)]) 1 (fun _ => rfl)) hK (fz_ZI b L xs) (fun hF => (fz_give (fz_ZI b L xs) hT.2.2.2.2.1 hS hF)) (c_L_drawn l D cyI cyJ cyB cyQ H.size b L 9 (qz_N n) xs (by omega) (by decide) (by omega) (by omega)) pk_L_drawn mw_5_52 ⟨rfl, rfl, Nat.le_of_ble_eq_true rfl, Nat.le_of_ble_eq_true rfl⟩ rfl rfl (Nat.le_of_ble_eq_true rfl) ⟨(show (930 + 1) + 1 ≤ (600000 : Nat) by omega), (show (20400 + 16) + 16 ≤ (7302250 : Nat) by omega)⟩ dL_law_780) (fun w H locs hp hP hD hS => ?_)
  have hP : va_P D xcl ((wdS a cyI cyJ σ ++ ([] ++ (ic cyI v (qz_N n) (dra L xs 5 (qz_N n) 4) :: E1))) ++ [ic cyI w (qz_N n) (dra L xs 9 (qz_N n) 4)]) H := hP
  have hD : va_D A ((wdS a cyI cyJ σ ++ ([] ++ (ic cyI v (qz_N n) (dra L xs 5 (qz_N n) 4) :: E1))) ++ [ic cyI w (qz_N n) (dra L xs 9 (qz_N n) 4)]) := hD
  have hPD : va_P D xcl (wdS a cyI cyJ σ ++ ([ic cyI v (qz_N n) (dra L xs 5 (qz_N n) 4)] ++ (ic cyI w (qz_N n) (dra L xs 9 (qz_N n) 4) :: E1))) H ∧ va_D A (wdS a cyI cyJ σ ++ ([ic cyI v (qz_N n) (dra L xs 5 (qz_N n) 4)] ++ (ic cyI w (qz_N n) (dra L xs 9 (qz_N n) 4) :: E1))) := y_perm hP hD (y_new_mid (wdS a cyI cyJ σ) [ic cyI v (qz_N n) (dra L xs 5 (qz_N n) 4)] E1 (ic cyI w (qz_N n) (dra L xs 9 (qz_N n) 4)))
  obtain ⟨hP, hD⟩ := hPD
  have hv : okF n (dra L xs 5 (qz_N n) 4) := ok_dra L 5 n xs hn
  have hw : okF n (dra L xs 9 (qz_N n) 4) := ok_dra L 9 n xs hn
  have hv4 := hv.2.2
  have hw4 := hw.2.2
  refine lv_astore (lv' := [(10, .ref w), (9, .ref v), (0, .ref b), (1, .ref (a 0)), (2, .ref al), (3, .int (nI n)), (4, .int (nI (qz_D n))), (5, .int (nI (qz_N n))), (6, .ref tq)]) hx hb dL_law_783 hl (by decide) rfl (fun ls hl => ?_)
  refine lv_aload_n hx hb dL_law_785 rfl (lv_at hl 3 rfl) ?_
  refine lv_iconst (v := (0 : Int32)) hx hb dL_law_786 (by decide) ?_
  refine lv_aload_n hx hb dL_law_787 rfl (lv_at hl 4 rfl) ?_
  refine lv_iload_n hx hb dL_law_788 rfl (lv_at hl 5 rfl) ?_
  refine lv_aload hx hb dL_law_789 (lv_at hl 1 rfl) ?_
  refine yr_i Cx hP hD hS (yq_front (S := CS) (wdS a cyI cyJ σ) ([ic cyI v (qz_N n) (dra L xs 5 (qz_N n) 4)] ++ (ic cyI w (qz_N n) (dra L xs 9 (qz_N n) 4) :: E1)) (fun u => wdS a cyI cyJ u) 28 (fun _ => rfl)) (yx_S (n := 5) (As := [.ref (a 0), .int (0 : Int32), .ref al, .int (nI n), .ref v]) (rest := []) Cx hP hD hS hl (yq_front (S := CS) (wdS a cyI cyJ σ) ([ic cyI v (qz_N n) (dra L xs 5 (qz_N n) 4)] ++ (ic cyI w (qz_N n) (dra L xs 9 (qz_N n) 4) :: E1)) (fun u => wdS a cyI cyJ u) 28 (fun _ => rfl)) hK (fz_and (fz_xs G) (fz_and (fz_ZA al B) (fz_and (fz_ZJ g) (fz_and (fz_ZK kk kv) (fz_ZI v (qz_N n) ((dra L xs 5 (qz_N n) 4))))))) (fun hF => ⟨fz_give (fz_xs G) hT.1 hS hF, fz_give (fz_ZA al B) hT.2.1 hS hF, fz_give (fz_ZJ g) hT.2.2.1 hS hF, fz_give (fz_ZK kk kv) hT.2.2.2.1 hS hF, y_T hK hP 28 0 rfl rfl (va_A_tail hP hD List.mem_cons_self)⟩) (c_L_told l D cyI cyJ cyB cyQ G a g kk kv B al v n 0 H.size ((dra L xs 5 (qz_N n) 4)) σ _ hR (by decide) hn (fun p _ => hv.1 p) hv.2.2) pk_L_told mw_3_207 ⟨rfl, rfl, Nat.le_of_ble_eq_true rfl, Nat.le_of_ble_eq_true rfl⟩ rfl rfl (Nat.le_of_ble_eq_true rfl) ⟨(show ((930 + 1) + 1) + 1030 ≤ (600000 : Nat) by omega), (show ((20400 + 16) + 16) + 135000 ≤ (7302250 : Nat) by omega)⟩ dL_law_791) (fun r_3 τ_248 H locs hp hP hD hS => ?_)
  have hP : va_P D xcl (wdS a cyI cyJ τ_248 ++ ([ic cyI v (qz_N n) (dra L xs 5 (qz_N n) 4)] ++ (ic cyI w (qz_N n) (dra L xs 9 (qz_N n) 4) :: E1))) H := hP
  have hD : va_D A (wdS a cyI cyJ τ_248 ++ ([ic cyI v (qz_N n) (dra L xs 5 (qz_N n) 4)] ++ (ic cyI w (qz_N n) (dra L xs 9 (qz_N n) 4) :: E1))) := hD
  obtain ⟨hp, hR_249⟩ := hp
  rw [ok_cut hv] at hR_249
  rw [show r_3 = nI (tmN ((dra L xs 5 (qz_N n) 4)) (qz_N n)) from hp]
  refine lv_istore (lv' := [(11, .int (nI (tmN ((dra L xs 5 (qz_N n) 4)) (qz_N n)))), (10, .ref w), (9, .ref v), (0, .ref b), (1, .ref (a 0)), (2, .ref al), (3, .int (nI n)), (4, .int (nI (qz_D n))), (5, .int (nI (qz_N n))), (6, .ref tq)]) hx hb dL_law_794 hl (by decide) rfl (fun ls hl => ?_)
  refine lv_iload hx hb dL_law_796 (lv_at hl 0 rfl) ?_
  refine lv_bipush (v := (-2 : Int32)) hx hb dL_law_798 (by decide) ?_
  refine lv_icmp_ne (tgt := 819) hx hb dL_law_800 (by decide) (fun _ => ?_) (fun hc => absurd hc (nI_ne_m2 (by omega)))
  refine lv_aload_n hx hb dL_law_819 rfl (lv_at hl 4 rfl) ?_
  refine lv_iconst (v := (1 : Int32)) hx hb dL_law_820 (by decide) ?_
  refine lv_aload_n hx hb dL_law_821 rfl (lv_at hl 5 rfl) ?_
  refine lv_iload_n hx hb dL_law_822 rfl (lv_at hl 6 rfl) ?_
  refine lv_aload hx hb dL_law_823 (lv_at hl 1 rfl) ?_
  refine yr_i Cx hP hD hS (yq_front (S := CS) (wdS a cyI cyJ τ_248) ([ic cyI v (qz_N n) (dra L xs 5 (qz_N n) 4)] ++ (ic cyI w (qz_N n) (dra L xs 9 (qz_N n) 4) :: E1)) (fun u => wdS a cyI cyJ u) 28 (fun _ => rfl)) (yx_S (n := 5) (As := [.ref (a 0), .int (1 : Int32), .ref al, .int (nI n), .ref w]) (rest := []) Cx hP hD hS hl (yq_front (S := CS) (wdS a cyI cyJ τ_248) ([ic cyI v (qz_N n) (dra L xs 5 (qz_N n) 4)] ++ (ic cyI w (qz_N n) (dra L xs 9 (qz_N n) 4) :: E1)) (fun u => wdS a cyI cyJ u) 28 (fun _ => rfl)) hK (fz_and (fz_xs G) (fz_and (fz_ZA al B) (fz_and (fz_ZJ g) (fz_and (fz_ZK kk kv) (fz_ZI w (qz_N n) ((dra L xs 9 (qz_N n) 4))))))) (fun hF => ⟨fz_give (fz_xs G) hT.1 hS hF, fz_give (fz_ZA al B) hT.2.1 hS hF, fz_give (fz_ZJ g) hT.2.2.1 hS hF, fz_give (fz_ZK kk kv) hT.2.2.2.1 hS hF, y_T hK hP 29 0 rfl rfl (va_A_tail hP hD (List.mem_cons_of_mem _ List.mem_cons_self))⟩) (c_L_told l D cyI cyJ cyB cyQ G a g kk kv B al w n 1 H.size ((dra L xs 9 (qz_N n) 4)) τ_248 _ hR_249 (by decide) hn (fun p _ => hw.1 p) hw.2.2) pk_L_told mw_3_207 ⟨rfl, rfl, Nat.le_of_ble_eq_true rfl, Nat.le_of_ble_eq_true rfl⟩ rfl rfl (Nat.le_of_ble_eq_true rfl) ⟨(show (((930 + 1) + 1) + 1030) + 1030 ≤ (600000 : Nat) by omega), (show (((20400 + 16) + 16) + 135000) + 135000 ≤ (7302250 : Nat) by omega)⟩ dL_law_825) (fun r_4 τ_250 H locs hp hP hD hS => ?_)
  have hP : va_P D xcl (wdS a cyI cyJ τ_250 ++ ([ic cyI v (qz_N n) (dra L xs 5 (qz_N n) 4)] ++ (ic cyI w (qz_N n) (dra L xs 9 (qz_N n) 4) :: E1))) H := hP
  have hD : va_D A (wdS a cyI cyJ τ_250 ++ ([ic cyI v (qz_N n) (dra L xs 5 (qz_N n) 4)] ++ (ic cyI w (qz_N n) (dra L xs 9 (qz_N n) 4) :: E1))) := hD
  obtain ⟨hp, hR_251⟩ := hp
  rw [ok_cut hw] at hR_251
  rw [show r_4 = nI (tmN ((dra L xs 9 (qz_N n) 4)) (qz_N n)) from hp]
  refine lv_istore (lv' := [(12, .int (nI (tmN ((dra L xs 9 (qz_N n) 4)) (qz_N n)))), (11, .int (nI (tmN ((dra L xs 5 (qz_N n) 4)) (qz_N n)))), (10, .ref w), (9, .ref v), (0, .ref b), (1, .ref (a 0)), (2, .ref al), (3, .int (nI n)), (4, .int (nI (qz_D n))), (5, .int (nI (qz_N n))), (6, .ref tq)]) hx hb dL_law_828 hl (by decide) rfl (fun ls hl => ?_)
  refine lv_iload hx hb dL_law_830 (lv_at hl 0 rfl) ?_
  refine lv_bipush (v := (-2 : Int32)) hx hb dL_law_832 (by decide) ?_
  refine lv_icmp_ne (tgt := 853) hx hb dL_law_834 (by decide) (fun _ => ?_) (fun hc => absurd hc (nI_ne_m2 (by omega)))
  refine lv_iload hx hb dL_law_853 (lv_at hl 1 rfl) ?_
  refine lv_if_lt (tgt := 863) hx hb dL_law_855 (by decide) (fun hc => absurd hc (nI_pos (by omega))) (fun _ => ?_)
  refine lv_iload hx hb dL_law_858 (lv_at hl 0 rfl) ?_
  refine lv_if_ge (tgt := 865) hx hb dL_law_860 (by decide) (fun _ => ?_) (fun hc => absurd (nI_pos' (by omega)) hc)
  refine W.widen (k := 3000) (n := 291000) (by omega) (by omega) ?_
  exact law_865 (E1 := E1) C0 hR_251 hv hw (show (upS (upS S 0 (some (n, (dra L xs 5 (qz_N n) 4)))) 1 (some (n, (dra L xs 9 (qz_N n) 4)))) 0 = some (n, (dra L xs 5 (qz_N n) 4)) from rfl) (show (upS (upS S 0 (some (n, (dra L xs 5 (qz_N n) 4)))) 1 (some (n, (dra L xs 9 (qz_N n) 4)))) 1 = some (n, (dra L xs 9 (qz_N n) 4)) from rfl) hP hD hS (lv_sub hl [4, 5, 6, 7, 8, 9, 3, 2, 10] rfl)
