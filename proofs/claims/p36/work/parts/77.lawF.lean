set_option maxHeartbeats 16000000 in
set_option maxRecDepth 20000 in
theorem law_1927 {p0 : Program} {l : Launch} {e : Env} {s : State} {m : MethodId} {below : List Frame} {meth : Method} {c : Code} {b : Nat} {D : va_G} {cyI cyJ cyB cyQ : ClassId} {G a g kk kv B : Nat → Nat} {al tq L n : Nat} {xs : Nat → Int32} {A : Nat → Prop} {H0 : Heap} (C0 : LCx p0 s m b meth c D cyI cyJ cyB cyQ G g kk kv B al tq L n xs A H0) {σ : CS} {S : Nat → SV} (hR : Rc σ S []) {x0 x1 x2 : Nat} (hx0 : x0 < 12) (hx1 : x1 < 12) (hx2 : x2 < 12) {th : Nat} {E1 : va_W}  {H : Heap} {locs : List Loc} {ls : Array Slot} (hP : va_P D xcl (wdS a cyI cyJ σ ++ ([ic cyI th 3 (th3 x0 x1 x2)] ++ E1)) H) (hD : va_D A (wdS a cyI cyJ σ ++ ([ic cyI th 3 (th3 x0 x1 x2)] ++ E1))) (hS : va_S A H0 H locs) (hl : lv_has ls 28 [(17, .int (nI (stq x0 x1 x2 9 8))), (18, .int (grN x0 x1 x2 8)), (15, .ref th), (1, .ref (a 0))]) : W p0 l e room_1 s m #[Value.ref b] below meth c H locs 5100 451000 (lw_Z below #[Value.ref b] s) (F0 m 1927 ls []) := by
  have C1 := C0
  obtain ⟨Cx, hAs, hn, hL⟩ := C1
  have Cx1 := Cx
  obtain ⟨⟨hx, hb, hml, hown, hts⟩, hr, hlocks, hK, hA, hT⟩ := Cx1
  obtain ⟨hD1, hD2, hD3⟩ := D_small n hn
  have hN1 : 0 < qz_N n := by show 0 < qz_D (n + 1) - qz_D n; omega
  have hN2 : qz_N n ≤ 15 := hD2
  have hN3 : qz_D n + qz_N n ≤ 45 := by show qz_D n + (qz_D (n + 1) - qz_D n) ≤ 45; omega
  refine lv_aload_n hx hb dL_law_1927 rfl (lv_at hl 3 rfl) ?_
  refine lv_aload hx hb dL_law_1928 (lv_at hl 2 rfl) ?_
  refine lv_iconst (v := (0 : Int32)) hx hb dL_law_1930 (by decide) ?_
  refine va_iald hx hb hK hP 28 0 rfl rfl (by unfold vp_in; decide) dL_law_1931 ?_
  rw [show (th3 x0 x1 x2 (Int32.toNatClampNeg (0 : Int32))) = (nI x0) by rw [show Int32.toNatClampNeg (0 : Int32) = 0 by decide]; rfl]
  refine lv_aload hx hb dL_law_1932 (lv_at hl 2 rfl) ?_
  refine lv_iconst (v := (1 : Int32)) hx hb dL_law_1934 (by decide) ?_
  refine va_iald hx hb hK hP 28 0 rfl rfl (by unfold vp_in; decide) dL_law_1935 ?_
  rw [show (th3 x0 x1 x2 (Int32.toNatClampNeg (1 : Int32))) = (nI x1) by rw [show Int32.toNatClampNeg (1 : Int32) = 1 by decide]; rfl]
  refine lv_aload hx hb dL_law_1936 (lv_at hl 2 rfl) ?_
  refine lv_iconst (v := (2 : Int32)) hx hb dL_law_1938 (by decide) ?_
  refine va_iald hx hb hK hP 28 0 rfl rfl (by unfold vp_in; decide) dL_law_1939 ?_
  rw [show (th3 x0 x1 x2 (Int32.toNatClampNeg (2 : Int32))) = (nI x2) by rw [show Int32.toNatClampNeg (2 : Int32) = 2 by decide]; rfl]
  refine lv_iconst (v := (0 : Int32)) hx hb dL_law_1940 (by decide) ?_
  obtain ⟨τ_69, hR_71, hM_70⟩ := mm_settled0 l D cyI cyJ G a H.size hR hx0 hx1 hx2
  refine yr_i Cx hP hD hS (yq_front (S := Unit) (wdS a cyI cyJ σ) ([ic cyI th 3 (th3 x0 x1 x2)] ++ E1) (fun _ => wdS a cyI cyJ τ_69) 28 (fun _ => rfl)) (yx_V (n := 4) (As := [.int (nI x0), .int (nI x1), .int (nI x2), .int (0 : Int32)]) (rest := []) Cx hP hD hS hl (yq_front (S := Unit) (wdS a cyI cyJ σ) ([ic cyI th 3 (th3 x0 x1 x2)] ++ E1) (fun _ => wdS a cyI cyJ τ_69) 28 (fun _ => rfl)) (y_K2 hK) (fz_xs G) (fun hF => (fz_give (fz_xs G) hT.1 hS hF)) (ym_xi hM_70) pk_X9_settled mw_2_237 ⟨rfl, rfl, Nat.le_of_ble_eq_true rfl, Nat.le_of_ble_eq_true rfl⟩ (va_recv (ci := 9) hK hP rfl (q0 := 0) rfl) rfl rfl (Nat.le_of_ble_eq_true rfl) ⟨Nat.le_of_ble_eq_true rfl, Nat.le_of_ble_eq_true rfl⟩ dL_law_1941) (fun r_1 u_72 H locs hp hP hD hS => ?_)
  have hP : va_P D xcl (wdS a cyI cyJ τ_69 ++ ([ic cyI th 3 (th3 x0 x1 x2)] ++ E1)) H := hP
  have hD : va_D A (wdS a cyI cyJ τ_69 ++ ([ic cyI th 3 (th3 x0 x1 x2)] ++ E1)) := hD
  rw [show r_1 = (nI (stq x0 x1 x2 9 8)) from hp]
  refine lv_iload hx hb dL_law_1944 (lv_at hl 0 rfl) ?_
  refine lv_icmp_ne (tgt := 1975) hx hb dL_law_1946 (by decide) (fun hc => absurd rfl hc) (fun _ => ?_)
  refine lv_aload_n hx hb dL_law_1949 rfl (lv_at hl 3 rfl) ?_
  refine lv_aload hx hb dL_law_1950 (lv_at hl 2 rfl) ?_
  refine lv_iconst (v := (2 : Int32)) hx hb dL_law_1952 (by decide) ?_
  refine va_iald hx hb hK hP 28 0 rfl rfl (by unfold vp_in; decide) dL_law_1953 ?_
  rw [show (th3 x0 x1 x2 (Int32.toNatClampNeg (2 : Int32))) = (nI x2) by rw [show Int32.toNatClampNeg (2 : Int32) = 2 by decide]; rfl]
  refine lv_aload hx hb dL_law_1954 (lv_at hl 2 rfl) ?_
  refine lv_iconst (v := (0 : Int32)) hx hb dL_law_1956 (by decide) ?_
  refine va_iald hx hb hK hP 28 0 rfl rfl (by unfold vp_in; decide) dL_law_1957 ?_
  rw [show (th3 x0 x1 x2 (Int32.toNatClampNeg (0 : Int32))) = (nI x0) by rw [show Int32.toNatClampNeg (0 : Int32) = 0 by decide]; rfl]
  refine lv_aload hx hb dL_law_1958 (lv_at hl 2 rfl) ?_
  refine lv_iconst (v := (1 : Int32)) hx hb dL_law_1960 (by decide) ?_
  refine va_iald hx hb hK hP 28 0 rfl rfl (by unfold vp_in; decide) dL_law_1961 ?_
  rw [show (th3 x0 x1 x2 (Int32.toNatClampNeg (1 : Int32))) = (nI x1) by rw [show Int32.toNatClampNeg (1 : Int32) = 1 by decide]; rfl]
  refine lv_iconst (v := (1 : Int32)) hx hb dL_law_1962 (by decide) ?_
  obtain ⟨τ_73, hR_75, hM_74⟩ := mm_settled1 l D cyI cyJ G a H.size hR_71 hx0 hx1 hx2
  refine yr_i Cx hP hD hS (yq_front (S := Unit) (wdS a cyI cyJ τ_69) ([ic cyI th 3 (th3 x0 x1 x2)] ++ E1) (fun _ => wdS a cyI cyJ τ_73) 28 (fun _ => rfl)) (yx_V (n := 4) (As := [.int (nI x2), .int (nI x0), .int (nI x1), .int (1 : Int32)]) (rest := []) Cx hP hD hS hl (yq_front (S := Unit) (wdS a cyI cyJ τ_69) ([ic cyI th 3 (th3 x0 x1 x2)] ++ E1) (fun _ => wdS a cyI cyJ τ_73) 28 (fun _ => rfl)) (y_K2 hK) (fz_xs G) (fun hF => (fz_give (fz_xs G) hT.1 hS hF)) (ym_xi hM_74) pk_X9_settled mw_2_237 ⟨rfl, rfl, Nat.le_of_ble_eq_true rfl, Nat.le_of_ble_eq_true rfl⟩ (va_recv (ci := 9) hK hP rfl (q0 := 0) rfl) rfl rfl (Nat.le_of_ble_eq_true rfl) ⟨Nat.le_of_ble_eq_true rfl, Nat.le_of_ble_eq_true rfl⟩ dL_law_1963) (fun r_2 u_76 H locs hp hP hD hS => ?_)
  have hP : va_P D xcl (wdS a cyI cyJ τ_73 ++ ([ic cyI th 3 (th3 x0 x1 x2)] ++ E1)) H := hP
  have hD : va_D A (wdS a cyI cyJ τ_73 ++ ([ic cyI th 3 (th3 x0 x1 x2)] ++ E1)) := hD
  rw [show r_2 = (grN x0 x1 x2 8) from hp]
  refine lv_iload hx hb dL_law_1966 (lv_at hl 1 rfl) ?_
  refine lv_icmp_ne (tgt := 1975) hx hb dL_law_1968 (by decide) (fun hc => absurd rfl hc) (fun _ => ?_)
  refine lv_iconst (v := (1 : Int32)) hx hb dL_law_1971 (by decide) ?_
  refine lv_goto (tgt := 1976) hx hb dL_law_1972 (by decide) ?_
  refine va_forget (fun q hq => hAs _ (hS.2.2 q hq)) ?_
  refine W.widen (k := 600000) (n := 7302250) (by omega) (by omega) ?_
  exact lw_ret hx hb hr hlocks dL_law_1976
set_option maxHeartbeats 16000000 in
set_option maxRecDepth 20000 in
theorem law_1774 {p0 : Program} {l : Launch} {e : Env} {s : State} {m : MethodId} {below : List Frame} {meth : Method} {c : Code} {b : Nat} {D : va_G} {cyI cyJ cyB cyQ : ClassId} {G a g kk kv B : Nat → Nat} {al tq L n : Nat} {xs : Nat → Int32} {A : Nat → Prop} {H0 : Heap} (C0 : LCx p0 s m b meth c D cyI cyJ cyB cyQ G g kk kv B al tq L n xs A H0) {σ : CS} {S : Nat → SV} (hR : Rc σ S []) {x0 x1 x2 : Nat} (hx0 : x0 < 12) (hx1 : x1 < 12) (hx2 : x2 < 12) {th : Nat} {E1 : va_W}  {H : Heap} {locs : List Loc} {ls : Array Slot} (hP : va_P D xcl (wdS a cyI cyJ σ ++ ([ic cyI th 3 (th3 x0 x1 x2)] ++ E1)) H) (hD : va_D A (wdS a cyI cyJ σ ++ ([ic cyI th 3 (th3 x0 x1 x2)] ++ E1))) (hS : va_S A H0 H locs) (hl : lv_has ls 28 [(17, .int (nI (stq x0 x1 x2 9 8))), (18, .int (grN x0 x1 x2 8)), (15, .ref th), (1, .ref (a 0)), (2, .ref al)]) : W p0 l e room_1 s m #[Value.ref b] below meth c H locs 5010 450010 (lw_Z below #[Value.ref b] s) (F0 m 1774 ls []) := by
  have C1 := C0
  obtain ⟨Cx, hAs, hn, hL⟩ := C1
  have Cx1 := Cx
  obtain ⟨⟨hx, hb, hml, hown, hts⟩, hr, hlocks, hK, hA, hT⟩ := Cx1
  obtain ⟨hD1, hD2, hD3⟩ := D_small n hn
  have hN1 : 0 < qz_N n := by show 0 < qz_D (n + 1) - qz_D n; omega
  have hN2 : qz_N n ≤ 15 := hD2
  have hN3 : qz_D n + qz_N n ≤ 45 := by show qz_D n + (qz_D (n + 1) - qz_D n) ≤ 45; omega
  refine lv_aload hx hb dL_law_1774 (lv_at hl 2 rfl) ?_
  refine lv_astore (lv' := [(19, .ref th), (17, .int (nI (stq x0 x1 x2 9 8))), (18, .int (grN x0 x1 x2 8)), (15, .ref th), (1, .ref (a 0)), (2, .ref al)]) hx hb dL_law_1776 hl (by decide) rfl (fun ls hl => ?_)
  refine lv_aload hx hb dL_law_1778 (lv_at hl 0 rfl) ?_
  refine va_alen hx hb hK hP 28 0 rfl rfl (v := (nI 3)) rfl dL_law_1780 ?_
  refine lv_istore (lv' := [(20, .int (nI 3)), (19, .ref th), (17, .int (nI (stq x0 x1 x2 9 8))), (18, .int (grN x0 x1 x2 8)), (15, .ref th), (1, .ref (a 0)), (2, .ref al)]) hx hb dL_law_1781 hl (by decide) rfl (fun ls hl => ?_)
  refine lv_iconst (v := (0 : Int32)) hx hb dL_law_1783 (by decide) ?_
  refine lv_istore (lv' := [(21, .int (0 : Int32)), (20, .int (nI 3)), (19, .ref th), (17, .int (nI (stq x0 x1 x2 9 8))), (18, .int (grN x0 x1 x2 8)), (15, .ref th), (1, .ref (a 0)), (2, .ref al)]) hx hb dL_law_1784 hl (by decide) rfl (fun ls hl => ?_)
  have w_1786 : ∀ (d : Nat) (i : Nat) (E2 : va_W) (τ : CS) (H : Heap) (locs : List Loc) (ls : Array Slot), Rc τ S [] → i + d = 3 → va_P D xcl (wdS a cyI cyJ τ ++ ([ic cyI th 3 (th3 x0 x1 x2)] ++ E2)) H → va_D A (wdS a cyI cyJ τ ++ ([ic cyI th 3 (th3 x0 x1 x2)] ++ E2)) → va_S A H0 H locs → lv_has ls 28 [(21, .int (nI i)), (20, .int (nI 3)), (19, .ref th), (17, .int (nI (stq x0 x1 x2 9 8))), (18, .int (grN x0 x1 x2 8)), (15, .ref th), (1, .ref (a 0)), (2, .ref al)] → W p0 l e room_1 s m #[Value.ref b] below meth c H locs (5010 + 10 * i) (450010 + 90 * i) (lw_Z below #[Value.ref b] s) (F0 m 1786 ls []) := by
    intro d
    induction d with
    | zero =>
      intro i E2 τ H locs ls hR_77 hi hP hD hS hl
      obtain rfl : i = 3 := by omega
      refine lv_iload hx hb dL_law_1786 (lv_at hl 0 rfl) ?_
      refine lv_iload hx hb dL_law_1788 (lv_at hl 1 rfl) ?_
      refine lv_icmp_ge (tgt := 1927) hx hb dL_law_1790 (by decide) (fun _ => ?_) (fun hc => absurd (Int32.le_refl _) hc)
      refine W.widen (k := 5100) (n := 451000) (by omega) (by omega) ?_
      exact law_1927 C0 hR_77 hx0 hx1 hx2 hP hD hS (lv_sub hl [3, 4, 5, 6] rfl)
    | succ d ih_1786 =>
      intro i E2 τ H locs ls hR_78 hi hP hD hS hl
      have hK12 : (tx x0 x1 x2 i) < 12 := tx_lt hx0 hx1 hx2 i
      refine lv_iload hx hb dL_law_1786 (lv_at hl 0 rfl) ?_
      refine lv_iload hx hb dL_law_1788 (lv_at hl 1 rfl) ?_
      refine lv_icmp_ge (tgt := 1927) hx hb dL_law_1790 (by decide) (fun hc => absurd hc (nI_ge (by omega) (by omega))) (fun _ => ?_)
      refine lv_aload hx hb dL_law_1793 (lv_at hl 2 rfl) ?_
      refine lv_iload hx hb dL_law_1795 (lv_at hl 0 rfl) ?_
      refine va_iald hx hb hK hP 28 0 rfl rfl (vp_in_nI (show i < 3 by omega) (by omega)) dL_law_1797 ?_
      rw [nI_clamp (show i < 2 ^ 31 by omega)]
      rw [show (th3 x0 x1 x2 i) = (nI (tx x0 x1 x2 i)) from rfl]
      refine lv_istore (lv' := [(22, .int (nI (tx x0 x1 x2 i))), (21, .int (nI i)), (20, .int (nI 3)), (19, .ref th), (17, .int (nI (stq x0 x1 x2 9 8))), (18, .int (grN x0 x1 x2 8)), (15, .ref th), (1, .ref (a 0)), (2, .ref al)]) hx hb dL_law_1798 hl (by decide) rfl (fun ls hl => ?_)
      refine lv_iconst (v := (0 : Int32)) hx hb dL_law_1800 (by decide) ?_
      refine lv_istore (lv' := [(23, .int (0 : Int32)), (22, .int (nI (tx x0 x1 x2 i))), (21, .int (nI i)), (20, .int (nI 3)), (19, .ref th), (17, .int (nI (stq x0 x1 x2 9 8))), (18, .int (grN x0 x1 x2 8)), (15, .ref th), (1, .ref (a 0)), (2, .ref al)]) hx hb dL_law_1801 hl (by decide) rfl (fun ls hl => ?_)
      have w_1803 : ∀ (d2 : Nat) (k : Nat) (E2 : va_W) (ρ : CS) (H : Heap) (locs : List Loc) (ls : Array Slot), Rc ρ S [] → k + d2 = 9 → va_P D xcl (wdS a cyI cyJ ρ ++ ([ic cyI th 3 (th3 x0 x1 x2)] ++ E2)) H → va_D A (wdS a cyI cyJ ρ ++ ([ic cyI th 3 (th3 x0 x1 x2)] ++ E2)) → va_S A H0 H locs → lv_has ls 28 [(23, .int (nI k)), (22, .int (nI (tx x0 x1 x2 i))), (21, .int (nI i)), (20, .int (nI 3)), (19, .ref th), (17, .int (nI (stq x0 x1 x2 9 8))), (18, .int (grN x0 x1 x2 8)), (15, .ref th), (1, .ref (a 0)), (2, .ref al)] → W p0 l e room_1 s m #[Value.ref b] below meth c H locs (5010 + 10 * i + k) (450010 + 90 * i + 9 * k) (lw_Z below #[Value.ref b] s) (F0 m 1803 ls []) := by
        intro d2
        induction d2 with
        | zero =>
          intro k E2 ρ H locs ls hR_79 hk hP hD hS hl
          obtain rfl : k = 9 := by omega
          refine lv_iload hx hb dL_law_1803 (lv_at hl 0 rfl) ?_
          refine lv_bipush (v := (9 : Int32)) hx hb dL_law_1805 (by decide) ?_
          refine lv_icmp_ge (tgt := 1921) hx hb dL_law_1807 (by decide) (fun _ => ?_) (fun hc => absurd (Int32.le_refl (9 : Int32)) hc)
          refine lv_iinc (v := ((nI i) + (1 : Int32))) (lv' := [(21, .int ((nI i) + (1 : Int32))), (23, .int (nI 9)), (22, .int (nI (tx x0 x1 x2 i))), (20, .int (nI 3)), (19, .ref th), (17, .int (nI (stq x0 x1 x2 9 8))), (18, .int (grN x0 x1 x2 8)), (15, .ref th), (1, .ref (a 0)), (2, .ref al)]) hx hb dL_law_1921 hl (k := 2) rfl rfl (by decide) rfl (fun ls hl => ?_)
          refine lv_goto (tgt := 1786) hx hb dL_law_1924 (by decide) ?_
          rw [show ((nI i) + (1 : Int32)) = (nI (i + 1)) from (nI_1 i)] at hl
          refine W.widen (k := 5010 + 10 * (i + 1)) (n := 450010 + 90 * (i + 1)) (by omega) (by omega) ?_
          exact ih_1786 (i + 1) E2 ρ H _ ls hR_79 (by omega) hP hD hS (lv_sub hl [0, 3, 4, 5, 6, 7, 8, 9] rfl)
        | succ d2 ih_1803 =>
          intro k E2 ρ H locs ls hR_80 hk hP hD hS hl
          refine lv_iload hx hb dL_law_1803 (lv_at hl 0 rfl) ?_
          refine lv_bipush (v := (9 : Int32)) hx hb dL_law_1805 (by decide) ?_
          refine lv_icmp_ge (tgt := 1921) hx hb dL_law_1807 (by decide) (fun hc => absurd hc (show ¬ (9 : Int32) ≤ nI k from nI_ge (b := 9) (by omega) (by decide))) (fun _ => ?_)
          refine lv_aload_n hx hb dL_law_1810 rfl (lv_at hl 9 rfl) ?_
          refine lv_iload hx hb dL_law_1811 (lv_at hl 1 rfl) ?_
          have hsl := sl_small (tx x0 x1 x2 i) (by omega)
          refine yf_qld hx hb (va_T.kept hT.2.1.1 hS.2.1) rfl (vp_in_nI (show (tx x0 x1 x2 i) < 67 by omega) (by omega)) dL_law_1813 ?_
          rw [nI_clamp (show (tx x0 x1 x2 i) < 2 ^ 31 by omega)]
          refine lv_astore (lv' := [(24, .ref (B (tx x0 x1 x2 i))), (23, .int (nI k)), (22, .int (nI (tx x0 x1 x2 i))), (21, .int (nI i)), (20, .int (nI 3)), (19, .ref th), (17, .int (nI (stq x0 x1 x2 9 8))), (18, .int (grN x0 x1 x2 8)), (15, .ref th), (1, .ref (a 0)), (2, .ref al)]) hx hb dL_law_1814 hl (by decide) rfl (fun ls hl => ?_)
          refine lv_iload hx hb dL_law_1816 (lv_at hl 1 rfl) ?_
          refine lv_aload hx hb dL_law_1818 (lv_at hl 0 rfl) ?_
          refine yr_i Cx hP hD hS (yq_none (S := Unit) (wdS a cyI cyJ ρ ++ ([ic cyI th 3 (th3 x0 x1 x2)] ++ E2))) (yx_S (n := 1) (As := [.ref (B (tx x0 x1 x2 i))]) (rest := [.int (nI k)]) Cx hP hD hS hl (yq_none (S := Unit) (wdS a cyI cyJ ρ ++ ([ic cyI th 3 (th3 x0 x1 x2)] ++ E2))) hK (fz_ZI (B (tx x0 x1 x2 i)) (sl (tx x0 x1 x2 i)) (sr (tx x0 x1 x2 i))) (fun hF => (fz_give (fz_ZI (B (tx x0 x1 x2 i)) (sl (tx x0 x1 x2 i)) (sr (tx x0 x1 x2 i))) (hT.2.1.2 (tx x0 x1 x2 i) (by omega)) hS hF)) (c_L_size l D cyI cyJ cyB cyQ H.size (B (tx x0 x1 x2 i)) (sl (tx x0 x1 x2 i)) (sr (tx x0 x1 x2 i)) (by have := sl_small (tx x0 x1 x2 i) (by omega); omega)) pk_L_size mw_3_173 ⟨rfl, rfl, Nat.le_of_ble_eq_true rfl, Nat.le_of_ble_eq_true rfl⟩ rfl rfl (Nat.le_of_ble_eq_true rfl) ⟨(show (5010 + 10 * i + k) + 0 ≤ (600000 : Nat) by omega), (show (450010 + 90 * i + 9 * k) + 0 ≤ (7302250 : Nat) by omega)⟩ dL_law_1820) (fun r_1 u_81 H locs hp hP hD hS => ?_)
          have hP : va_P D xcl (wdS a cyI cyJ ρ ++ ([ic cyI th 3 (th3 x0 x1 x2)] ++ E2)) H := hP
          have hD : va_D A (wdS a cyI cyJ ρ ++ ([ic cyI th 3 (th3 x0 x1 x2)] ++ E2)) := hD
          rw [show r_1 = nI (qz_S (tx x0 x1 x2 i)) from hp.trans (lp_ord (tx x0 x1 x2 i) (by omega)).1]
          refine lv_isub hx hb dL_law_1823 ?_
          refine lv_istore (lv' := [(25, .int ((nI k) - (nI (qz_S (tx x0 x1 x2 i))))), (24, .ref (B (tx x0 x1 x2 i))), (23, .int (nI k)), (22, .int (nI (tx x0 x1 x2 i))), (21, .int (nI i)), (20, .int (nI 3)), (19, .ref th), (17, .int (nI (stq x0 x1 x2 9 8))), (18, .int (grN x0 x1 x2 8)), (15, .ref th), (1, .ref (a 0)), (2, .ref al)]) hx hb dL_law_1824 hl (by decide) rfl (fun ls hl => ?_)
          refine lv_aload hx hb dL_law_1826 (lv_at hl 1 rfl) ?_
          refine yf_len hx hb (va_T.kept (hT.2.1.2 (tx x0 x1 x2 i) (by omega)) hS.2.1) dL_law_1828 ?_
          refine lv_iconst (v := (1 : Int32)) hx hb dL_law_1829 (by decide) ?_
          refine lv_iadd hx hb dL_law_1830 ?_
          rw [show ((nI (sl (tx x0 x1 x2 i))) + (1 : Int32)) = (nI (sl (tx x0 x1 x2 i) + 1)) from nI_add (sl (tx x0 x1 x2 i)) 1]
          refine va_newa (atype := .int) (ty := .int) (a0 := ((sl (tx x0 x1 x2 i) + 1), .inl (fun _ => 0))) (N' := (sl (tx x0 x1 x2 i) + 1)) hx hb (hts _ mw_1_104) rfl hK hP hD hS hA (fun _ => rfl) (nI_pos (show (sl (tx x0 x1 x2 i) + 1) < 2 ^ 31 by omega)) (nI_clamp (show (sl (tx x0 x1 x2 i) + 1) < 2 ^ 31 by omega)) (show (sl (tx x0 x1 x2 i) + 1) * 4 ≤ 536870912 by omega) (show (5010 + 10 * i + k) + 1 ≤ (600000 : Nat) by omega) (show (450010 + 90 * i + 9 * k) + (sl (tx x0 x1 x2 i) + 1) ≤ (7302250 : Nat) by omega) dL_law_1831 (fun u9 cA H hK1 hP hD hS => ?_)
          have eA := y_sameI hK hK1
          rw [eA] at hP hD
          clear hK1 eA
          have hPD : va_P D xcl (wdS a cyI cyJ ρ ++ ([ic cyI th 3 (th3 x0 x1 x2)] ++ (ic cyI u9 (sl (tx x0 x1 x2 i) + 1) (fun _ => (0 : Int32)) :: E2))) H ∧ va_D A (wdS a cyI cyJ ρ ++ ([ic cyI th 3 (th3 x0 x1 x2)] ++ (ic cyI u9 (sl (tx x0 x1 x2 i) + 1) (fun _ => (0 : Int32)) :: E2))) := y_perm hP hD (y_new_mid (wdS a cyI cyJ ρ) [ic cyI th 3 (th3 x0 x1 x2)] E2 (ic cyI u9 (sl (tx x0 x1 x2 i) + 1) (fun _ => (0 : Int32))))
          obtain ⟨hP, hD⟩ := hPD
          refine lv_astore (lv' := [(26, .ref u9), (25, .int ((nI k) - (nI (qz_S (tx x0 x1 x2 i))))), (24, .ref (B (tx x0 x1 x2 i))), (23, .int (nI k)), (22, .int (nI (tx x0 x1 x2 i))), (21, .int (nI i)), (20, .int (nI 3)), (19, .ref th), (17, .int (nI (stq x0 x1 x2 9 8))), (18, .int (grN x0 x1 x2 8)), (15, .ref th), (1, .ref (a 0)), (2, .ref al)]) hx hb dL_law_1833 hl (by decide) rfl (fun ls hl => ?_)
          refine lv_aload hx hb dL_law_1835 (lv_at hl 0 rfl) ?_
          refine lv_iconst (v := (0 : Int32)) hx hb dL_law_1837 (by decide) ?_
          refine lv_iload hx hb dL_law_1838 (lv_at hl 1 rfl) ?_
          have h00 : vp_in (0 : Int32) (sl (tx x0 x1 x2 i) + 1) := vp_in_nI (n := 0) (by omega) (by omega)
          refine va_iast hx hb hK hP hD hS 29 0 rfl rfl h00 dL_law_1840 (fun H locs hP hD hS => ?_)
          rw [show Int32.toNatClampNeg (0 : Int32) = 0 by decide] at hP hD
          have hP : va_P D xcl (wdS a cyI cyJ ρ ++ ([ic cyI th 3 (th3 x0 x1 x2)] ++ (ic cyI u9 (sl (tx x0 x1 x2 i) + 1) (upd (fun _ => (0 : Int32)) 0 (nI k - nI (qz_S (tx x0 x1 x2 i)))) :: E2))) H := hP
          have hD : va_D A (wdS a cyI cyJ ρ ++ ([ic cyI th 3 (th3 x0 x1 x2)] ++ (ic cyI u9 (sl (tx x0 x1 x2 i) + 1) (upd (fun _ => (0 : Int32)) 0 (nI k - nI (qz_S (tx x0 x1 x2 i)))) :: E2))) := hD
          refine lv_aload hx hb dL_law_1841 (lv_at hl 2 rfl) ?_
          refine lv_iconst (v := (0 : Int32)) hx hb dL_law_1843 (by decide) ?_
          refine lv_aload hx hb dL_law_1844 (lv_at hl 0 rfl) ?_
          refine lv_iconst (v := (1 : Int32)) hx hb dL_law_1846 (by decide) ?_
          refine lv_aload hx hb dL_law_1847 (lv_at hl 2 rfl) ?_
          refine yf_len hx hb (va_T.kept (hT.2.1.2 (tx x0 x1 x2 i) (by omega)) hS.2.1) dL_law_1849 ?_
          refine y_copyT hx hb (hml.trans hl.1.symm) hown (hts _ mw_3_171) (hts _ mw_3_41) (hts _ mw_3_40) (hts _ mw_1_11) hK hP hD hS (va_T.kept (hT.2.1.2 (tx x0 x1 x2 i) (by omega)) hS.2.1) 29 0 rfl rfl (by decide) (by decide) (nI_pos (by omega)) (by rw [nI_clamp (by omega), show Int32.toNatClampNeg (0 : Int32) = 0 by decide]; omega) (by rw [nI_clamp (by omega), show Int32.toNatClampNeg (1 : Int32) = 1 by decide]; omega) (Nat.le_of_ble_eq_true rfl) (Nat.le_of_ble_eq_true rfl) dL_law_1850 (fun H locs hP hD hS => ?_)
          rw [nI_clamp (show sl (tx x0 x1 x2 i) < 2 ^ 31 by omega), show Int32.toNatClampNeg (0 : Int32) = 0 by decide, show Int32.toNatClampNeg (1 : Int32) = 1 by decide] at hP hD
          have hP : va_P D xcl (wdS a cyI cyJ ρ ++ ([ic cyI th 3 (th3 x0 x1 x2)] ++ (ic cyI u9 (sl (tx x0 x1 x2 i) + 1) (va_cpy (sr (tx x0 x1 x2 i)) (upd (fun _ => (0 : Int32)) 0 (nI k - nI (qz_S (tx x0 x1 x2 i)))) 0 1 (sl (tx x0 x1 x2 i))) :: E2))) H := hP
          have hD : va_D A (wdS a cyI cyJ ρ ++ ([ic cyI th 3 (th3 x0 x1 x2)] ++ (ic cyI u9 (sl (tx x0 x1 x2 i) + 1) (va_cpy (sr (tx x0 x1 x2 i)) (upd (fun _ => (0 : Int32)) 0 (nI k - nI (qz_S (tx x0 x1 x2 i)))) 0 1 (sl (tx x0 x1 x2 i))) :: E2))) := hD
          have hPD : va_P D xcl (wdS a cyI cyJ ρ ++ ([ic cyI th 3 (th3 x0 x1 x2)] ++ (ic cyI u9 (sl (tx x0 x1 x2 i) + 1) (moreF (tx x0 x1 x2 i) k) :: E2))) H ∧ va_D A (wdS a cyI cyJ ρ ++ ([ic cyI th 3 (th3 x0 x1 x2)] ++ (ic cyI u9 (sl (tx x0 x1 x2 i) + 1) (moreF (tx x0 x1 x2 i) k) :: E2))) := y_ext hP hD 29 (moreF (tx x0 x1 x2 i) k) rfl (fun j hj => by unfold va_cpy moreF upd; by_cases h9 : j = 0; subst h9; rw [if_neg (by omega), if_pos rfl, if_pos rfl]; rfl; rw [if_pos ⟨by omega, by omega⟩, if_neg h9, Nat.zero_add])
          obtain ⟨hP, hD⟩ := hPD
          have w_1898 : ∀ (H : Heap) (locs : List Loc) (ls : Array Slot), va_P D xcl (wdS a cyI cyJ ρ ++ ([ic cyI th 3 (th3 x0 x1 x2)] ++ (ic cyI u9 (sl (tx x0 x1 x2 i) + 1) (moreF (tx x0 x1 x2 i) k) :: E2))) H → va_D A (wdS a cyI cyJ ρ ++ ([ic cyI th 3 (th3 x0 x1 x2)] ++ (ic cyI u9 (sl (tx x0 x1 x2 i) + 1) (moreF (tx x0 x1 x2 i) k) :: E2))) → va_S A H0 H locs → lv_has ls 28 [(26, .ref u9), (25, .int ((nI k) - (nI (qz_S (tx x0 x1 x2 i))))), (24, .ref (B (tx x0 x1 x2 i))), (23, .int (nI k)), (22, .int (nI (tx x0 x1 x2 i))), (21, .int (nI i)), (20, .int (nI 3)), (19, .ref th), (17, .int (nI (stq x0 x1 x2 9 8))), (18, .int (grN x0 x1 x2 8)), (15, .ref th), (1, .ref (a 0)), (2, .ref al)] → W p0 l e room_1 s m #[Value.ref b] below meth c H locs ((5010 + 10 * i + k) + 1) ((450010 + 90 * i + 9 * k) + (sl (tx x0 x1 x2 i) + 1)) (lw_Z below #[Value.ref b] s) (F0 m 1898 ls [.int (dueV (tx x0 x1 x2 i) k)]) := by
            intro H locs ls  hP hD hS hl
            refine lv_istore (lv' := [(27, .int (dueV (tx x0 x1 x2 i) k)), (26, .ref u9), (25, .int ((nI k) - (nI (qz_S (tx x0 x1 x2 i))))), (24, .ref (B (tx x0 x1 x2 i))), (23, .int (nI k)), (22, .int (nI (tx x0 x1 x2 i))), (21, .int (nI i)), (20, .int (nI 3)), (19, .ref th), (17, .int (nI (stq x0 x1 x2 9 8))), (18, .int (grN x0 x1 x2 8)), (15, .ref th), (1, .ref (a 0)), (2, .ref al)]) hx hb dL_law_1898 hl (by decide) rfl (fun ls hl => ?_)
            refine lv_aload_n hx hb dL_law_1900 rfl (lv_at hl 12 rfl) ?_
            refine lv_iload hx hb dL_law_1901 (lv_at hl 5 rfl) ?_
            refine lv_iload hx hb dL_law_1903 (lv_at hl 4 rfl) ?_
            obtain ⟨τ_82, hR_84, hM_83⟩ := mm_grown l D cyI cyJ G a H.size hR_80 hK12 (show k < 9 by omega)
            refine yr_i Cx hP hD hS (yq_front (S := Unit) (wdS a cyI cyJ ρ) ([ic cyI th 3 (th3 x0 x1 x2)] ++ (ic cyI u9 (sl (tx x0 x1 x2 i) + 1) (moreF (tx x0 x1 x2 i) k) :: E2)) (fun _ => wdS a cyI cyJ τ_82) 28 (fun _ => rfl)) (yx_V (n := 2) (As := [.int (nI (tx x0 x1 x2 i)), .int (nI k)]) (rest := []) Cx hP hD hS hl (yq_front (S := Unit) (wdS a cyI cyJ ρ) ([ic cyI th 3 (th3 x0 x1 x2)] ++ (ic cyI u9 (sl (tx x0 x1 x2 i) + 1) (moreF (tx x0 x1 x2 i) k) :: E2)) (fun _ => wdS a cyI cyJ τ_82) 28 (fun _ => rfl)) (y_K2 hK) (fz_xs G) (fun hF => (fz_give (fz_xs G) hT.1 hS hF)) (ym_xi hM_83) pk_X9_grown mw_2_225 ⟨rfl, rfl, Nat.le_of_ble_eq_true rfl, Nat.le_of_ble_eq_true rfl⟩ (va_recv (ci := 9) hK hP rfl (q0 := 0) rfl) rfl rfl (Nat.le_of_ble_eq_true rfl) ⟨(show ((5010 + 10 * i + k) + 1) + 0 ≤ (600000 : Nat) by omega), (show ((450010 + 90 * i + 9 * k) + (sl (tx x0 x1 x2 i) + 1)) + 0 ≤ (7302250 : Nat) by omega)⟩ dL_law_1905) (fun r_1 u_85 H locs hp hP hD hS => ?_)
            have hP : va_P D xcl (wdS a cyI cyJ τ_82 ++ ([ic cyI th 3 (th3 x0 x1 x2)] ++ (ic cyI u9 (sl (tx x0 x1 x2 i) + 1) (moreF (tx x0 x1 x2 i) k) :: E2))) H := hP
            have hD : va_D A (wdS a cyI cyJ τ_82 ++ ([ic cyI th 3 (th3 x0 x1 x2)] ++ (ic cyI u9 (sl (tx x0 x1 x2 i) + 1) (moreF (tx x0 x1 x2 i) k) :: E2))) := hD
            rw [show r_1 = (dueV (tx x0 x1 x2 i) k) from hp]
            refine lv_iload hx hb dL_law_1908 (lv_at hl 0 rfl) ?_
            refine lv_icmp_eq (tgt := 1915) hx hb dL_law_1910 (by decide) (fun _ => ?_) (fun hc => absurd rfl hc)
            refine lv_iinc (v := ((nI k) + (1 : Int32))) (lv' := [(23, .int ((nI k) + (1 : Int32))), (27, .int (dueV (tx x0 x1 x2 i) k)), (26, .ref u9), (25, .int ((nI k) - (nI (qz_S (tx x0 x1 x2 i))))), (24, .ref (B (tx x0 x1 x2 i))), (22, .int (nI (tx x0 x1 x2 i))), (21, .int (nI i)), (20, .int (nI 3)), (19, .ref th), (17, .int (nI (stq x0 x1 x2 9 8))), (18, .int (grN x0 x1 x2 8)), (15, .ref th), (1, .ref (a 0)), (2, .ref al)]) hx hb dL_law_1915 hl (k := 4) rfl rfl (by decide) rfl (fun ls hl => ?_)
            refine lv_goto (tgt := 1803) hx hb dL_law_1918 (by decide) ?_
            rw [show ((nI k) + (1 : Int32)) = (nI (k + 1)) from (nI_1 k)] at hl
            refine W.widen (k := 5010 + 10 * i + (k + 1)) (n := 450010 + 90 * i + 9 * (k + 1)) (by omega) (by omega) ?_
            exact ih_1803 (k + 1) (ic cyI u9 (sl (tx x0 x1 x2 i) + 1) (moreF (tx x0 x1 x2 i) k) :: E2) τ_82 H _ ls hR_84 (by omega) hP hD hS (lv_sub hl [0, 5, 6, 7, 8, 9, 10, 11, 12, 13] rfl)
          have w_1884 : ∀ (H : Heap) (locs : List Loc) (ls : Array Slot), ¬ (sl (tx x0 x1 x2 i) = 0 ∧ k = 0) → va_P D xcl (wdS a cyI cyJ ρ ++ ([ic cyI th 3 (th3 x0 x1 x2)] ++ (ic cyI u9 (sl (tx x0 x1 x2 i) + 1) (moreF (tx x0 x1 x2 i) k) :: E2))) H → va_D A (wdS a cyI cyJ ρ ++ ([ic cyI th 3 (th3 x0 x1 x2)] ++ (ic cyI u9 (sl (tx x0 x1 x2 i) + 1) (moreF (tx x0 x1 x2 i) k) :: E2))) → va_S A H0 H locs → lv_has ls 28 [(26, .ref u9), (25, .int ((nI k) - (nI (qz_S (tx x0 x1 x2 i))))), (24, .ref (B (tx x0 x1 x2 i))), (23, .int (nI k)), (22, .int (nI (tx x0 x1 x2 i))), (21, .int (nI i)), (20, .int (nI 3)), (19, .ref th), (17, .int (nI (stq x0 x1 x2 9 8))), (18, .int (grN x0 x1 x2 8)), (15, .ref th), (1, .ref (a 0)), (2, .ref al)] → W p0 l e room_1 s m #[Value.ref b] below meth c H locs ((5010 + 10 * i + k) + 1) ((450010 + 90 * i + 9 * k) + (sl (tx x0 x1 x2 i) + 1)) (lw_Z below #[Value.ref b] s) (F0 m 1884 ls [.int (nI (fr (tx x0 x1 x2 i))), .int (nI k - nI (qz_S (tx x0 x1 x2 i)))]) := by
            intro H locs ls hne hP hD hS hl
            refine lv_icmp_ge (tgt := 1892) hx hb dL_law_1884 (by decide) (fun hc => ?_) (fun hc => ?_)
            · refine lv_aload_n hx hb dL_law_1892 rfl (lv_at hl 12 rfl) ?_
              refine lv_aload hx hb dL_law_1893 (lv_at hl 0 rfl) ?_
              refine yr_i Cx hP hD hS (yq_none (S := Unit) (wdS a cyI cyJ ρ ++ ([ic cyI th 3 (th3 x0 x1 x2)] ++ (ic cyI u9 (sl (tx x0 x1 x2 i) + 1) (moreF (tx x0 x1 x2 i) k) :: E2)))) (yx_S (n := 2) (As := [.ref al, .ref u9]) (rest := []) Cx hP hD hS hl (yq_none (S := Unit) (wdS a cyI cyJ ρ ++ ([ic cyI th 3 (th3 x0 x1 x2)] ++ (ic cyI u9 (sl (tx x0 x1 x2 i) + 1) (moreF (tx x0 x1 x2 i) k) :: E2)))) hK (fz_and (fz_ZA al B) (fz_ZI u9 (sl (tx x0 x1 x2 i) + 1) (moreF (tx x0 x1 x2 i) k))) (fun hF => ⟨fz_give (fz_ZA al B) hT.2.1 hS hF, y_T hK hP 29 0 rfl rfl (y_out0 hP (q0 := 29) rfl)⟩) (c_L_find l D cyI cyJ cyB cyQ H.size al B u9 (sl (tx x0 x1 x2 i) + 1) (moreF (tx x0 x1 x2 i) k) (by omega)) pk_L_find mw_3_179 ⟨rfl, rfl, Nat.le_of_ble_eq_true rfl, Nat.le_of_ble_eq_true rfl⟩ rfl rfl (Nat.le_of_ble_eq_true rfl) ⟨(show ((5010 + 10 * i + k) + 1) + 0 ≤ (600000 : Nat) by omega), (show ((450010 + 90 * i + 9 * k) + (sl (tx x0 x1 x2 i) + 1)) + 0 ≤ (7302250 : Nat) by omega)⟩ dL_law_1895) (fun r_1 u_86 H locs hp hP hD hS => ?_)
              have hP : va_P D xcl (wdS a cyI cyJ ρ ++ ([ic cyI th 3 (th3 x0 x1 x2)] ++ (ic cyI u9 (sl (tx x0 x1 x2 i) + 1) (moreF (tx x0 x1 x2 i) k) :: E2))) H := hP
              have hD : va_D A (wdS a cyI cyJ ρ ++ ([ic cyI th 3 (th3 x0 x1 x2)] ++ (ic cyI u9 (sl (tx x0 x1 x2 i) + 1) (moreF (tx x0 x1 x2 i) k) :: E2))) := hD
              rw [show r_1 = (dueV (tx x0 x1 x2 i) k) from hp.trans (by unfold dueV; rw [if_neg hne, if_neg (show ¬ nI k - tz_S (tx x0 x1 x2 i) < nI (fr (tx x0 x1 x2 i)) from Int32.not_lt.mpr hc)])]
              exact w_1898 H _ ls hP hD hS hl
            · refine lv_bipush (v := (-9 : Int32)) hx hb dL_law_1887 (by decide) ?_
              refine lv_goto (tgt := 1898) hx hb dL_law_1889 (by decide) ?_
              rw [show (-9 : Int32) = (dueV (tx x0 x1 x2 i) k) by unfold dueV; rw [if_neg hne, if_pos (show nI k - tz_S (tx x0 x1 x2 i) < nI (fr (tx x0 x1 x2 i)) from Int32.not_le.mp hc)]]
              exact w_1898 H _ ls hP hD hS hl
          have w_1868 : ∀ (H : Heap) (locs : List Loc) (ls : Array Slot), ¬ (sl (tx x0 x1 x2 i) = 0 ∧ k = 0) → va_P D xcl (wdS a cyI cyJ ρ ++ ([ic cyI th 3 (th3 x0 x1 x2)] ++ (ic cyI u9 (sl (tx x0 x1 x2 i) + 1) (moreF (tx x0 x1 x2 i) k) :: E2))) H → va_D A (wdS a cyI cyJ ρ ++ ([ic cyI th 3 (th3 x0 x1 x2)] ++ (ic cyI u9 (sl (tx x0 x1 x2 i) + 1) (moreF (tx x0 x1 x2 i) k) :: E2))) → va_S A H0 H locs → lv_has ls 28 [(26, .ref u9), (25, .int ((nI k) - (nI (qz_S (tx x0 x1 x2 i))))), (24, .ref (B (tx x0 x1 x2 i))), (23, .int (nI k)), (22, .int (nI (tx x0 x1 x2 i))), (21, .int (nI i)), (20, .int (nI 3)), (19, .ref th), (17, .int (nI (stq x0 x1 x2 9 8))), (18, .int (grN x0 x1 x2 8)), (15, .ref th), (1, .ref (a 0)), (2, .ref al)] → W p0 l e room_1 s m #[Value.ref b] below meth c H locs ((5010 + 10 * i + k) + 1) ((450010 + 90 * i + 9 * k) + (sl (tx x0 x1 x2 i) + 1)) (lw_Z below #[Value.ref b] s) (F0 m 1868 ls []) := by
            intro H locs ls hne hP hD hS hl
            refine lv_iload hx hb dL_law_1868 (lv_at hl 1 rfl) ?_
            refine lv_aload hx hb dL_law_1870 (lv_at hl 2 rfl) ?_
            refine yf_len hx hb (va_T.kept (hT.2.1.2 (tx x0 x1 x2 i) (by omega)) hS.2.1) dL_law_1872 ?_
            refine lv_if_ne (tgt := 1880) hx hb dL_law_1873 (by decide) (fun hc => ?_) (fun hc => ?_)
            · have h0 : 0 < sl (tx x0 x1 x2 i) := by rcases Nat.eq_zero_or_pos (sl (tx x0 x1 x2 i)) with h9 | h9; exact absurd (by rw [h9]; rfl) hc; exact h9
              refine lv_aload hx hb dL_law_1880 (lv_at hl 2 rfl) ?_
              refine lv_iconst (v := (0 : Int32)) hx hb dL_law_1882 (by decide) ?_
              refine yf_ild hx hb (va_T.kept (hT.2.1.2 (tx x0 x1 x2 i) (by omega)) hS.2.1) (vp_in_nI (n := 0) (by omega) (by omega)) (v := (nI (fr (tx x0 x1 x2 i)))) (by rw [show Int32.toNatClampNeg (0 : Int32) = 0 by decide]; exact (lp_fr (tx x0 x1 x2 i) (by omega)).2 h0) dL_law_1883 ?_
              exact w_1884 H _ ls hne hP hD hS hl
            · have h0 : sl (tx x0 x1 x2 i) = 0 := (nI_eq (b := 0) (by omega) (by decide)).mp hc
              refine lv_iconst (v := (0 : Int32)) hx hb dL_law_1876 (by decide) ?_
              refine lv_goto (tgt := 1884) hx hb dL_law_1877 (by decide) ?_
              rw [show (0 : Int32) = nI (fr (tx x0 x1 x2 i)) by unfold fr; rw [if_pos h0]; rfl]
              exact w_1884 H _ ls hne hP hD hS hl
          refine lv_aload hx hb dL_law_1853 (lv_at hl 2 rfl) ?_
          refine yf_len hx hb (va_T.kept (hT.2.1.2 (tx x0 x1 x2 i) (by omega)) hS.2.1) dL_law_1855 ?_
          refine lv_if_ne (tgt := 1868) hx hb dL_law_1856 (by decide) (fun hc => ?_) (fun hc => ?_)
          · exact w_1868 H _ ls (fun h9 => hc (by rw [h9.1]; rfl)) hP hD hS hl
          · have h0 : sl (tx x0 x1 x2 i) = 0 := (nI_eq (b := 0) (by omega) (by decide)).mp hc
            refine lv_iload hx hb dL_law_1859 (lv_at hl 3 rfl) ?_
            refine lv_if_ne (tgt := 1868) hx hb dL_law_1861 (by decide) (fun hc2 => ?_) (fun hc2 => ?_)
            · exact w_1868 H _ ls (fun h9 => hc2 (by rw [h9.2]; rfl)) hP hD hS hl
            · have hk0 : k = 0 := (nI_eq (b := 0) (by omega) (by decide)).mp hc2
              refine lv_iconst (v := (0 : Int32)) hx hb dL_law_1864 (by decide) ?_
              refine lv_goto (tgt := 1898) hx hb dL_law_1865 (by decide) ?_
              rw [show (0 : Int32) = (dueV (tx x0 x1 x2 i) k) by unfold dueV; rw [if_pos ⟨h0, hk0⟩]]
              exact w_1898 H _ ls hP hD hS hl
      exact w_1803 9 0 E2 τ H _ ls hR_78 (by omega) hP hD hS (lv_sub hl [0, 1, 2, 3, 4, 5, 6, 7, 8, 9] rfl)
  exact w_1786 3 0 E1 σ H _ ls hR (by omega) hP hD hS (lv_sub hl [0, 1, 2, 3, 4, 5, 6, 7] rfl)
