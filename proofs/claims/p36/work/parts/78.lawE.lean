theorem lsP_le {x y z : Nat} (hx : x < 12) (hy : y < 12) (hz : z < 12) (i : Nat) : lsP x y z i ≤ 100 := by
  induction i with
  | zero => exact Nat.zero_le _
  | succ i ih =>
    have h1 := lp_least _ (tx_lt hx hy hz i)
    show max _ _ ≤ 100
    omega
set_option maxHeartbeats 16000000 in
set_option maxRecDepth 20000 in
theorem law_1689 {p0 : Program} {l : Launch} {e : Env} {s : State} {m : MethodId} {below : List Frame} {meth : Method} {c : Code} {b : Nat} {D : va_G} {cyI cyJ cyB cyQ : ClassId} {G a g kk kv B : Nat → Nat} {al tq L n : Nat} {xs : Nat → Int32} {A : Nat → Prop} {H0 : Heap} (C0 : LCx p0 s m b meth c D cyI cyJ cyB cyQ G g kk kv B al tq L n xs A H0) {σ : CS} {S : Nat → SV} (hR : Rc σ S []) {x0 x1 x2 : Nat} (hx0 : x0 < 12) (hx1 : x1 < 12) (hx2 : x2 < 12) {th : Nat} {E1 : va_W}  {H : Heap} {locs : List Loc} {ls : Array Slot} (hP : va_P D xcl (wdS a cyI cyJ σ ++ ([ic cyI th 3 (th3 x0 x1 x2)] ++ E1)) H) (hD : va_D A (wdS a cyI cyJ σ ++ ([ic cyI th 3 (th3 x0 x1 x2)] ++ E1))) (hS : va_S A H0 H locs) (hl : lv_has ls 28 [(16, .int (nI (leastN x0 x1 x2))), (15, .ref th), (1, .ref (a 0)), (2, .ref al)]) : W p0 l e room_1 s m #[Value.ref b] below meth c H locs 5005 450005 (lw_Z below #[Value.ref b] s) (F0 m 1689 ls []) := by
  have C1 := C0
  obtain ⟨Cx, hAs, hn, hL⟩ := C1
  have Cx1 := Cx
  obtain ⟨⟨hx, hb, hml, hown, hts⟩, hr, hlocks, hK, hA, hT⟩ := Cx1
  obtain ⟨hD1, hD2, hD3⟩ := D_small n hn
  have hN1 : 0 < qz_N n := by show 0 < qz_D (n + 1) - qz_D n; omega
  have hN2 : qz_N n ≤ 15 := hD2
  have hN3 : qz_D n + qz_N n ≤ 45 := by show qz_D n + (qz_D (n + 1) - qz_D n) ≤ 45; omega
  have hlN := least_le hx0 hx1 hx2
  refine lv_bipush (v := (8 : Int32)) hx hb dL_law_1689 (by decide) ?_
  refine lv_istore (lv' := [(17, .int (8 : Int32)), (16, .int (nI (leastN x0 x1 x2))), (15, .ref th), (1, .ref (a 0)), (2, .ref al)]) hx hb dL_law_1691 hl (by decide) rfl (fun ls hl => ?_)
  refine lv_iconst (v := (0 : Int32)) hx hb dL_law_1693 (by decide) ?_
  refine lv_istore (lv' := [(18, .int (0 : Int32)), (17, .int (8 : Int32)), (16, .int (nI (leastN x0 x1 x2))), (15, .ref th), (1, .ref (a 0)), (2, .ref al)]) hx hb dL_law_1694 hl (by decide) rfl (fun ls hl => ?_)
  refine lv_bipush (v := (8 : Int32)) hx hb dL_law_1696 (by decide) ?_
  refine lv_istore (lv' := [(19, .int (8 : Int32)), (18, .int (0 : Int32)), (17, .int (8 : Int32)), (16, .int (nI (leastN x0 x1 x2))), (15, .ref th), (1, .ref (a 0)), (2, .ref al)]) hx hb dL_law_1698 hl (by decide) rfl (fun ls hl => ?_)
  have w_1700 : ∀ (d : Nat) (cur : Nat) (lst : Int32) (τ : CS) (H : Heap) (locs : List Loc) (ls : Array Slot), Rc τ S [] → d ≤ 9 → (d = 9 ∧ lst = 0) ∨ (d < 9 ∧ lst = (grN x0 x1 x2 8)) → stq x0 x1 x2 d cur = stq x0 x1 x2 9 8 → va_P D xcl (wdS a cyI cyJ τ ++ ([ic cyI th 3 (th3 x0 x1 x2)] ++ E1)) H → va_D A (wdS a cyI cyJ τ ++ ([ic cyI th 3 (th3 x0 x1 x2)] ++ E1)) → va_S A H0 H locs → lv_has ls 28 [(19, .int (nI d - 1)), (17, .int (nI cur)), (18, .int lst), (16, .int (nI (leastN x0 x1 x2))), (15, .ref th), (1, .ref (a 0)), (2, .ref al)] → W p0 l e room_1 s m #[Value.ref b] below meth c H locs 5005 450005 (lw_Z below #[Value.ref b] s) (F0 m 1700 ls []) := by
    intro d
    induction d with
    | zero =>
      intro cur lst τ H locs ls hR_87 hd9 hlst hst hP hD hS hl
      refine lv_iload hx hb dL_law_1700 (lv_at hl 0 rfl) ?_
      refine lv_iload hx hb dL_law_1702 (lv_at hl 3 rfl) ?_
      refine lv_icmp_lt (tgt := 1774) hx hb dL_law_1704 (by decide) (fun _ => ?_) (fun hc => absurd (m1_lt (by omega)) hc)
      have hl8 : lst = (grN x0 x1 x2 8) := by rcases hlst with ⟨h9, -⟩ | ⟨-, h9⟩; exact absurd h9 (by decide); exact h9
      subst hl8
      have hcur : nI cur = nI (stq x0 x1 x2 9 8) := congrArg nI hst
      rw [hcur] at hl
      refine W.widen (k := 5010) (n := 450010) (by omega) (by omega) ?_
      exact law_1774 C0 hR_87 hx0 hx1 hx2 hP hD hS (lv_sub hl [1, 2, 4, 5, 6] rfl)
    | succ d ih_1700 =>
      intro cur lst τ H locs ls hR_88 hd9 hlst hst hP hD hS hl
      rw [show (nI (d + 1) - 1) = (nI d) from (nI_pred d)] at hl
      refine lv_iload hx hb dL_law_1700 (lv_at hl 0 rfl) ?_
      refine lv_iload hx hb dL_law_1702 (lv_at hl 3 rfl) ?_
      refine lv_icmp_lt (tgt := 1774) hx hb dL_law_1704 (by decide) (fun hc => ?_) (fun hc => ?_)
      · have hlt : d < leastN x0 x1 x2 := (nI_ltI (by omega) (by omega)).mp hc
        have hl8 : lst = (grN x0 x1 x2 8) := by rcases hlst with ⟨h9, -⟩ | ⟨-, h9⟩; omega; exact h9
        subst hl8
        have hcur : nI cur = nI (stq x0 x1 x2 9 8) := congrArg nI ((if_neg (by omega) : stq x0 x1 x2 (d + 1) cur = cur).symm.trans hst)
        rw [hcur] at hl
        refine W.widen (k := 5010) (n := 450010) (by omega) (by omega) ?_
        exact law_1774 C0 hR_88 hx0 hx1 hx2 hP hD hS (lv_sub hl [1, 2, 4, 5, 6] rfl)
      · have hle : leastN x0 x1 x2 ≤ d := (nI_leI (by omega) (by omega)).mp (Int32.not_lt.mp hc)
        have hle3 := hle
        unfold leastN at hle3
        have hg0 := lp_grown x0 hx0 d (by omega) (by omega)
        have hg1 := lp_grown x1 hx1 d (by omega) (by omega)
        have hg2 := lp_grown x2 hx2 d (by omega) (by omega)
        refine lv_aload_n hx hb dL_law_1707 rfl (lv_at hl 5 rfl) ?_
        refine lv_aload_n hx hb dL_law_1708 rfl (lv_at hl 5 rfl) ?_
        refine lv_aload hx hb dL_law_1709 (lv_at hl 4 rfl) ?_
        refine lv_iconst (v := (0 : Int32)) hx hb dL_law_1711 (by decide) ?_
        refine va_iald hx hb hK hP 28 0 rfl rfl (by unfold vp_in; decide) dL_law_1712 ?_
        rw [show (th3 x0 x1 x2 (Int32.toNatClampNeg (0 : Int32))) = (nI x0) by rw [show Int32.toNatClampNeg (0 : Int32) = 0 by decide]; rfl]
        refine lv_iload hx hb dL_law_1713 (lv_at hl 0 rfl) ?_
        obtain ⟨τ_89, hR_91, hM_90⟩ := mm_grown l D cyI cyJ G a H.size hR_88 hx0 (show d < 9 by omega)
        refine yr_i Cx hP hD hS (yq_front (S := Unit) (wdS a cyI cyJ τ) ([ic cyI th 3 (th3 x0 x1 x2)] ++ E1) (fun _ => wdS a cyI cyJ τ_89) 28 (fun _ => rfl)) (yx_V (n := 2) (As := [.int (nI x0), .int (nI d)]) (rest := [.ref (a 0)]) Cx hP hD hS hl (yq_front (S := Unit) (wdS a cyI cyJ τ) ([ic cyI th 3 (th3 x0 x1 x2)] ++ E1) (fun _ => wdS a cyI cyJ τ_89) 28 (fun _ => rfl)) (y_K2 hK) (fz_xs G) (fun hF => (fz_give (fz_xs G) hT.1 hS hF)) (ym_xi hM_90) pk_X9_grown mw_2_225 ⟨rfl, rfl, Nat.le_of_ble_eq_true rfl, Nat.le_of_ble_eq_true rfl⟩ (va_recv (ci := 9) hK hP rfl (q0 := 0) rfl) rfl rfl (Nat.le_of_ble_eq_true rfl) ⟨Nat.le_of_ble_eq_true rfl, Nat.le_of_ble_eq_true rfl⟩ dL_law_1715) (fun r_1 u_92 H locs hp hP hD hS => ?_)
        have hP : va_P D xcl (wdS a cyI cyJ τ_89 ++ ([ic cyI th 3 (th3 x0 x1 x2)] ++ E1)) H := hP
        have hD : va_D A (wdS a cyI cyJ τ_89 ++ ([ic cyI th 3 (th3 x0 x1 x2)] ++ E1)) := hD
        rw [show r_1 = (dueV x0 d) from hp]
        rw [show (dueV x0 d) = (nI (qz_D d + (gn x0 d - qz_D d))) from hg0.1]
        refine lv_aload_n hx hb dL_law_1718 rfl (lv_at hl 5 rfl) ?_
        refine lv_aload hx hb dL_law_1719 (lv_at hl 4 rfl) ?_
        refine lv_iconst (v := (1 : Int32)) hx hb dL_law_1721 (by decide) ?_
        refine va_iald hx hb hK hP 28 0 rfl rfl (by unfold vp_in; decide) dL_law_1722 ?_
        rw [show (th3 x0 x1 x2 (Int32.toNatClampNeg (1 : Int32))) = (nI x1) by rw [show Int32.toNatClampNeg (1 : Int32) = 1 by decide]; rfl]
        refine lv_iload hx hb dL_law_1723 (lv_at hl 0 rfl) ?_
        obtain ⟨τ_93, hR_95, hM_94⟩ := mm_grown l D cyI cyJ G a H.size hR_91 hx1 (show d < 9 by omega)
        refine yr_i Cx hP hD hS (yq_front (S := Unit) (wdS a cyI cyJ τ_89) ([ic cyI th 3 (th3 x0 x1 x2)] ++ E1) (fun _ => wdS a cyI cyJ τ_93) 28 (fun _ => rfl)) (yx_V (n := 2) (As := [.int (nI x1), .int (nI d)]) (rest := [.int (nI (qz_D d + (gn x0 d - qz_D d))), .ref (a 0)]) Cx hP hD hS hl (yq_front (S := Unit) (wdS a cyI cyJ τ_89) ([ic cyI th 3 (th3 x0 x1 x2)] ++ E1) (fun _ => wdS a cyI cyJ τ_93) 28 (fun _ => rfl)) (y_K2 hK) (fz_xs G) (fun hF => (fz_give (fz_xs G) hT.1 hS hF)) (ym_xi hM_94) pk_X9_grown mw_2_225 ⟨rfl, rfl, Nat.le_of_ble_eq_true rfl, Nat.le_of_ble_eq_true rfl⟩ (va_recv (ci := 9) hK hP rfl (q0 := 0) rfl) rfl rfl (Nat.le_of_ble_eq_true rfl) ⟨Nat.le_of_ble_eq_true rfl, Nat.le_of_ble_eq_true rfl⟩ dL_law_1725) (fun r_2 u_96 H locs hp hP hD hS => ?_)
        have hP : va_P D xcl (wdS a cyI cyJ τ_93 ++ ([ic cyI th 3 (th3 x0 x1 x2)] ++ E1)) H := hP
        have hD : va_D A (wdS a cyI cyJ τ_93 ++ ([ic cyI th 3 (th3 x0 x1 x2)] ++ E1)) := hD
        rw [show r_2 = (dueV x1 d) from hp]
        rw [show (dueV x1 d) = (nI (qz_D d + (gn x1 d - qz_D d))) from hg1.1]
        refine lv_aload_n hx hb dL_law_1728 rfl (lv_at hl 5 rfl) ?_
        refine lv_aload hx hb dL_law_1729 (lv_at hl 4 rfl) ?_
        refine lv_iconst (v := (2 : Int32)) hx hb dL_law_1731 (by decide) ?_
        refine va_iald hx hb hK hP 28 0 rfl rfl (by unfold vp_in; decide) dL_law_1732 ?_
        rw [show (th3 x0 x1 x2 (Int32.toNatClampNeg (2 : Int32))) = (nI x2) by rw [show Int32.toNatClampNeg (2 : Int32) = 2 by decide]; rfl]
        refine lv_iload hx hb dL_law_1733 (lv_at hl 0 rfl) ?_
        obtain ⟨τ_97, hR_99, hM_98⟩ := mm_grown l D cyI cyJ G a H.size hR_95 hx2 (show d < 9 by omega)
        refine yr_i Cx hP hD hS (yq_front (S := Unit) (wdS a cyI cyJ τ_93) ([ic cyI th 3 (th3 x0 x1 x2)] ++ E1) (fun _ => wdS a cyI cyJ τ_97) 28 (fun _ => rfl)) (yx_V (n := 2) (As := [.int (nI x2), .int (nI d)]) (rest := [.int (nI (qz_D d + (gn x1 d - qz_D d))), .int (nI (qz_D d + (gn x0 d - qz_D d))), .ref (a 0)]) Cx hP hD hS hl (yq_front (S := Unit) (wdS a cyI cyJ τ_93) ([ic cyI th 3 (th3 x0 x1 x2)] ++ E1) (fun _ => wdS a cyI cyJ τ_97) 28 (fun _ => rfl)) (y_K2 hK) (fz_xs G) (fun hF => (fz_give (fz_xs G) hT.1 hS hF)) (ym_xi hM_98) pk_X9_grown mw_2_225 ⟨rfl, rfl, Nat.le_of_ble_eq_true rfl, Nat.le_of_ble_eq_true rfl⟩ (va_recv (ci := 9) hK hP rfl (q0 := 0) rfl) rfl rfl (Nat.le_of_ble_eq_true rfl) ⟨Nat.le_of_ble_eq_true rfl, Nat.le_of_ble_eq_true rfl⟩ dL_law_1735) (fun r_3 u_100 H locs hp hP hD hS => ?_)
        have hP : va_P D xcl (wdS a cyI cyJ τ_97 ++ ([ic cyI th 3 (th3 x0 x1 x2)] ++ E1)) H := hP
        have hD : va_D A (wdS a cyI cyJ τ_97 ++ ([ic cyI th 3 (th3 x0 x1 x2)] ++ E1)) := hD
        rw [show r_3 = (dueV x2 d) from hp]
        rw [show (dueV x2 d) = (nI (qz_D d + (gn x2 d - qz_D d))) from hg2.1]
        obtain ⟨τ_101, hR_103, hM_102⟩ := mm_number l D cyI cyJ G a H.size hR_99 (show d < 9 by omega) hg0.2 hg1.2 hg2.2
        refine yr_i Cx hP hD hS (yq_front (S := Unit) (wdS a cyI cyJ τ_97) ([ic cyI th 3 (th3 x0 x1 x2)] ++ E1) (fun _ => wdS a cyI cyJ τ_101) 28 (fun _ => rfl)) (yx_V (n := 3) (As := [.int (nI (qz_D d + (gn x0 d - qz_D d))), .int (nI (qz_D d + (gn x1 d - qz_D d))), .int (nI (qz_D d + (gn x2 d - qz_D d)))]) (rest := []) Cx hP hD hS hl (yq_front (S := Unit) (wdS a cyI cyJ τ_97) ([ic cyI th 3 (th3 x0 x1 x2)] ++ E1) (fun _ => wdS a cyI cyJ τ_101) 28 (fun _ => rfl)) (y_K2 hK) (fz_xs G) (fun hF => (fz_give (fz_xs G) hT.1 hS hF)) (ym_xi hM_102) pk_X9_number mw_2_161 ⟨rfl, rfl, Nat.le_of_ble_eq_true rfl, Nat.le_of_ble_eq_true rfl⟩ (va_recv (ci := 9) hK hP rfl (q0 := 0) rfl) rfl rfl (Nat.le_of_ble_eq_true rfl) ⟨Nat.le_of_ble_eq_true rfl, Nat.le_of_ble_eq_true rfl⟩ dL_law_1738) (fun r_4 u_104 H locs hp hP hD hS => ?_)
        have hP : va_P D xcl (wdS a cyI cyJ τ_101 ++ ([ic cyI th 3 (th3 x0 x1 x2)] ++ E1)) H := hP
        have hD : va_D A (wdS a cyI cyJ τ_101 ++ ([ic cyI th 3 (th3 x0 x1 x2)] ++ E1)) := hD
        rw [show r_4 = (grN x0 x1 x2 d) from hp]
        refine lv_istore (lv' := [(20, .int (grN x0 x1 x2 d)), (19, .int (nI d)), (17, .int (nI cur)), (18, .int lst), (16, .int (nI (leastN x0 x1 x2))), (15, .ref th), (1, .ref (a 0)), (2, .ref al)]) hx hb dL_law_1741 hl (by decide) rfl (fun ls hl => ?_)
        refine lv_iload hx hb dL_law_1743 (lv_at hl 1 rfl) ?_
        refine lv_bipush (v := (8 : Int32)) hx hb dL_law_1745 (by decide) ?_
        have w_1754 : ∀ (H : Heap) (locs : List Loc) (ls : Array Slot), va_P D xcl (wdS a cyI cyJ τ_101 ++ ([ic cyI th 3 (th3 x0 x1 x2)] ++ E1)) H → va_D A (wdS a cyI cyJ τ_101 ++ ([ic cyI th 3 (th3 x0 x1 x2)] ++ E1)) → va_S A H0 H locs → lv_has ls 28 [(20, .int (grN x0 x1 x2 d)), (19, .int (nI d)), (17, .int (nI cur)), (18, .int (grN x0 x1 x2 8)), (16, .int (nI (leastN x0 x1 x2))), (15, .ref th), (1, .ref (a 0)), (2, .ref al)] → W p0 l e room_1 s m #[Value.ref b] below meth c H locs 5005 450005 (lw_Z below #[Value.ref b] s) (F0 m 1754 ls []) := by
          intro H locs ls  hP hD hS hl
          refine lv_iload hx hb dL_law_1754 (lv_at hl 0 rfl) ?_
          refine lv_iload hx hb dL_law_1756 (lv_at hl 3 rfl) ?_
          refine lv_icmp_eq (tgt := 1764) hx hb dL_law_1758 (by decide) (fun hc2 => ?_) (fun hc2 => ?_)
          · have hst2 : stq x0 x1 x2 d d = stq x0 x1 x2 9 8 := by rw [← hst]; show _ = if leastN x0 x1 x2 ≤ d then (if grN x0 x1 x2 d = (grN x0 x1 x2 8) then stq x0 x1 x2 d d else cur) else cur; rw [if_pos hle, if_pos hc2]
            refine lv_iload hx hb dL_law_1764 (lv_at hl 1 rfl) ?_
            refine lv_istore (lv' := [(17, .int (nI d)), (20, .int (grN x0 x1 x2 d)), (19, .int (nI d)), (18, .int (grN x0 x1 x2 8)), (16, .int (nI (leastN x0 x1 x2))), (15, .ref th), (1, .ref (a 0)), (2, .ref al)]) hx hb dL_law_1766 hl (by decide) rfl (fun ls hl => ?_)
            refine lv_iinc (v := ((nI d) + (-1 : Int32))) (lv' := [(19, .int ((nI d) + (-1 : Int32))), (17, .int (nI d)), (20, .int (grN x0 x1 x2 d)), (18, .int (grN x0 x1 x2 8)), (16, .int (nI (leastN x0 x1 x2))), (15, .ref th), (1, .ref (a 0)), (2, .ref al)]) hx hb dL_law_1768 hl (k := 2) rfl rfl (by decide) rfl (fun ls hl => ?_)
            refine lv_goto (tgt := 1700) hx hb dL_law_1771 (by decide) ?_
            rw [show ((nI d) + (-1 : Int32)) = (nI d - 1) from (Int32.sub_eq_add_neg (nI d) 1).symm] at hl
            exact ih_1700 d (grN x0 x1 x2 8) τ_101 H _ ls hR_103 (by omega) (Or.inr ⟨by omega, rfl⟩) hst2 hP hD hS (lv_sub hl [0, 1, 3, 4, 5, 6, 7] rfl)
          · have hcur : nI cur = nI (stq x0 x1 x2 9 8) := by refine congrArg nI (Eq.trans ?_ hst); show _ = if leastN x0 x1 x2 ≤ d then (if grN x0 x1 x2 d = (grN x0 x1 x2 8) then stq x0 x1 x2 d d else cur) else cur; rw [if_pos hle, if_neg hc2]
            rw [hcur] at hl
            refine lv_goto (tgt := 1774) hx hb dL_law_1761 (by decide) ?_
            refine W.widen (k := 5010) (n := 450010) (by omega) (by omega) ?_
            exact law_1774 C0 hR_103 hx0 hx1 hx2 hP hD hS (lv_sub hl [2, 3, 5, 6, 7] rfl)
        refine lv_icmp_ne (tgt := 1754) hx hb dL_law_1747 (by decide) (fun hc3 => ?_) (fun hc3 => ?_)
        · have hl8 : lst = (grN x0 x1 x2 8) := by rcases hlst with ⟨h9, -⟩ | ⟨-, h9⟩; exact absurd (congrArg nI (show d = 8 by omega)) hc3; exact h9
          subst hl8
          exact w_1754 H _ ls hP hD hS (lv_sub hl [0, 1, 2, 3, 4, 5, 6, 7] rfl)
        · have h8 : d = 8 := (nI_eq (b := 8) (by omega) (by decide)).mp hc3
          refine lv_iload hx hb dL_law_1750 (lv_at hl 0 rfl) ?_
          refine lv_istore (lv' := [(18, .int (grN x0 x1 x2 d)), (20, .int (grN x0 x1 x2 d)), (19, .int (nI d)), (17, .int (nI cur)), (16, .int (nI (leastN x0 x1 x2))), (15, .ref th), (1, .ref (a 0)), (2, .ref al)]) hx hb dL_law_1752 hl (by decide) rfl (fun ls hl => ?_)
          have hg8 : grN x0 x1 x2 d = (grN x0 x1 x2 8) := by rw [h8]
          exact w_1754 H _ ls hP hD hS (by rw [← hg8]; exact lv_sub hl [1, 2, 3, 0, 4, 5, 6, 7] rfl)
  exact w_1700 9 8 (0 : Int32) σ H _ ls hR (Nat.le_refl _) (Or.inl ⟨rfl, rfl⟩) rfl hP hD hS (by rw [show nI 9 - 1 = nI 8 from nI_pred 8]; exact lv_sub hl [0, 2, 1, 3, 4, 5, 6] rfl)
set_option maxHeartbeats 16000000 in
set_option maxRecDepth 20000 in
theorem law_1621 {p0 : Program} {l : Launch} {e : Env} {s : State} {m : MethodId} {below : List Frame} {meth : Method} {c : Code} {b : Nat} {D : va_G} {cyI cyJ cyB cyQ : ClassId} {G a g kk kv B : Nat → Nat} {al tq L n : Nat} {xs : Nat → Int32} {A : Nat → Prop} {H0 : Heap} (C0 : LCx p0 s m b meth c D cyI cyJ cyB cyQ G g kk kv B al tq L n xs A H0) {σ : CS} {S : Nat → SV} (hR : Rc σ S []) {x0 x1 x2 : Nat} (hx0 : x0 < 12) (hx1 : x1 < 12) (hx2 : x2 < 12) {th : Nat} {E1 : va_W}  {H : Heap} {locs : List Loc} {ls : Array Slot} (hP : va_P D xcl (wdS a cyI cyJ σ ++ ([ic cyI th 3 (th3 x0 x1 x2)] ++ E1)) H) (hD : va_D A (wdS a cyI cyJ σ ++ ([ic cyI th 3 (th3 x0 x1 x2)] ++ E1))) (hS : va_S A H0 H locs) (hl : lv_has ls 28 [(15, .ref th), (1, .ref (a 0)), (2, .ref al)]) : W p0 l e room_1 s m #[Value.ref b] below meth c H locs 5005 450005 (lw_Z below #[Value.ref b] s) (F0 m 1621 ls []) := by
  have C1 := C0
  obtain ⟨Cx, hAs, hn, hL⟩ := C1
  have Cx1 := Cx
  obtain ⟨⟨hx, hb, hml, hown, hts⟩, hr, hlocks, hK, hA, hT⟩ := Cx1
  obtain ⟨hD1, hD2, hD3⟩ := D_small n hn
  have hN1 : 0 < qz_N n := by show 0 < qz_D (n + 1) - qz_D n; omega
  have hN2 : qz_N n ≤ 15 := hD2
  have hN3 : qz_D n + qz_N n ≤ 45 := by show qz_D n + (qz_D (n + 1) - qz_D n) ≤ 45; omega
  refine lv_iconst (v := (0 : Int32)) hx hb dL_law_1621 (by decide) ?_
  refine lv_istore (lv' := [(16, .int (0 : Int32)), (15, .ref th), (1, .ref (a 0)), (2, .ref al)]) hx hb dL_law_1622 hl (by decide) rfl (fun ls hl => ?_)
  refine lv_aload hx hb dL_law_1624 (lv_at hl 1 rfl) ?_
  refine lv_astore (lv' := [(17, .ref th), (16, .int (0 : Int32)), (15, .ref th), (1, .ref (a 0)), (2, .ref al)]) hx hb dL_law_1626 hl (by decide) rfl (fun ls hl => ?_)
  refine lv_aload hx hb dL_law_1628 (lv_at hl 0 rfl) ?_
  refine va_alen hx hb hK hP 28 0 rfl rfl (v := (nI 3)) rfl dL_law_1630 ?_
  refine lv_istore (lv' := [(18, .int (nI 3)), (17, .ref th), (16, .int (0 : Int32)), (15, .ref th), (1, .ref (a 0)), (2, .ref al)]) hx hb dL_law_1631 hl (by decide) rfl (fun ls hl => ?_)
  refine lv_iconst (v := (0 : Int32)) hx hb dL_law_1633 (by decide) ?_
  refine lv_istore (lv' := [(19, .int (0 : Int32)), (18, .int (nI 3)), (17, .ref th), (16, .int (0 : Int32)), (15, .ref th), (1, .ref (a 0)), (2, .ref al)]) hx hb dL_law_1634 hl (by decide) rfl (fun ls hl => ?_)
  have w_1636 : ∀ (d : Nat) (i : Nat) (τ : CS) (H : Heap) (locs : List Loc) (ls : Array Slot), Rc τ S [] → i + d = 3 → va_P D xcl (wdS a cyI cyJ τ ++ ([ic cyI th 3 (th3 x0 x1 x2)] ++ E1)) H → va_D A (wdS a cyI cyJ τ ++ ([ic cyI th 3 (th3 x0 x1 x2)] ++ E1)) → va_S A H0 H locs → lv_has ls 28 [(19, .int (nI i)), (16, .int (nI (lsP x0 x1 x2 i))), (18, .int (nI 3)), (17, .ref th), (15, .ref th), (1, .ref (a 0)), (2, .ref al)] → W p0 l e room_1 s m #[Value.ref b] below meth c H locs 5005 450005 (lw_Z below #[Value.ref b] s) (F0 m 1636 ls []) := by
    intro d
    induction d with
    | zero =>
      intro i τ H locs ls hR_105 hi hP hD hS hl
      obtain rfl : i = 3 := by omega
      refine lv_iload hx hb dL_law_1636 (lv_at hl 0 rfl) ?_
      refine lv_iload hx hb dL_law_1638 (lv_at hl 2 rfl) ?_
      refine lv_icmp_ge (tgt := 1689) hx hb dL_law_1640 (by decide) (fun _ => ?_) (fun hc => absurd (Int32.le_refl _) hc)
      rw [lsP_3] at hl
      exact law_1689 C0 hR_105 hx0 hx1 hx2 hP hD hS (lv_sub hl [1, 4, 5, 6] rfl)
    | succ d ih_1636 =>
      intro i τ H locs ls hR_106 hi hP hD hS hl
      have hK12 : (tx x0 x1 x2 i) < 12 := tx_lt hx0 hx1 hx2 i
      have hlp : lsP x0 x1 x2 i ≤ 100 := lsP_le hx0 hx1 hx2 i
      have hsl := sl_small (tx x0 x1 x2 i) (by omega)
      have hS8 := (lp_ord (tx x0 x1 x2 i) (by omega)).2.1
      have hfr := lp_fr (tx x0 x1 x2 i) (by omega)
      refine lv_iload hx hb dL_law_1636 (lv_at hl 0 rfl) ?_
      refine lv_iload hx hb dL_law_1638 (lv_at hl 2 rfl) ?_
      refine lv_icmp_ge (tgt := 1689) hx hb dL_law_1640 (by decide) (fun hc => absurd hc (nI_ge (by omega) (by omega))) (fun _ => ?_)
      refine lv_aload hx hb dL_law_1643 (lv_at hl 3 rfl) ?_
      refine lv_iload hx hb dL_law_1645 (lv_at hl 0 rfl) ?_
      refine va_iald hx hb hK hP 28 0 rfl rfl (vp_in_nI (show i < 3 by omega) (by omega)) dL_law_1647 ?_
      rw [nI_clamp (show i < 2 ^ 31 by omega)]
      rw [show (th3 x0 x1 x2 i) = (nI (tx x0 x1 x2 i)) from rfl]
      refine lv_istore (lv' := [(20, .int (nI (tx x0 x1 x2 i))), (19, .int (nI i)), (16, .int (nI (lsP x0 x1 x2 i))), (18, .int (nI 3)), (17, .ref th), (15, .ref th), (1, .ref (a 0)), (2, .ref al)]) hx hb dL_law_1648 hl (by decide) rfl (fun ls hl => ?_)
      refine lv_iload hx hb dL_law_1650 (lv_at hl 2 rfl) ?_
      refine lv_aload_n hx hb dL_law_1652 rfl (lv_at hl 7 rfl) ?_
      refine lv_iload hx hb dL_law_1653 (lv_at hl 0 rfl) ?_
      refine yf_qld hx hb (va_T.kept hT.2.1.1 hS.2.1) rfl (vp_in_nI (show (tx x0 x1 x2 i) < 67 by omega) (by omega)) dL_law_1655 ?_
      rw [nI_clamp (show (tx x0 x1 x2 i) < 2 ^ 31 by omega)]
      refine yr_i Cx hP hD hS (yq_none (S := Unit) (wdS a cyI cyJ τ ++ ([ic cyI th 3 (th3 x0 x1 x2)] ++ E1))) (yx_S (n := 1) (As := [.ref (B (tx x0 x1 x2 i))]) (rest := [.int (nI (lsP x0 x1 x2 i))]) Cx hP hD hS hl (yq_none (S := Unit) (wdS a cyI cyJ τ ++ ([ic cyI th 3 (th3 x0 x1 x2)] ++ E1))) hK (fz_ZI (B (tx x0 x1 x2 i)) (sl (tx x0 x1 x2 i)) (sr (tx x0 x1 x2 i))) (fun hF => (fz_give (fz_ZI (B (tx x0 x1 x2 i)) (sl (tx x0 x1 x2 i)) (sr (tx x0 x1 x2 i))) (hT.2.1.2 (tx x0 x1 x2 i) (by omega)) hS hF)) (c_L_size l D cyI cyJ cyB cyQ H.size (B (tx x0 x1 x2 i)) (sl (tx x0 x1 x2 i)) (sr (tx x0 x1 x2 i)) (by have := sl_small (tx x0 x1 x2 i) (by omega); omega)) pk_L_size mw_3_173 ⟨rfl, rfl, Nat.le_of_ble_eq_true rfl, Nat.le_of_ble_eq_true rfl⟩ rfl rfl (Nat.le_of_ble_eq_true rfl) ⟨Nat.le_of_ble_eq_true rfl, Nat.le_of_ble_eq_true rfl⟩ dL_law_1656) (fun r_1 u_107 H locs hp hP hD hS => ?_)
      have hP : va_P D xcl (wdS a cyI cyJ τ ++ ([ic cyI th 3 (th3 x0 x1 x2)] ++ E1)) H := hP
      have hD : va_D A (wdS a cyI cyJ τ ++ ([ic cyI th 3 (th3 x0 x1 x2)] ++ E1)) := hD
      rw [show r_1 = nI (qz_S (tx x0 x1 x2 i)) from hp.trans (lp_ord (tx x0 x1 x2 i) (by omega)).1]
      refine lv_aload_n hx hb dL_law_1659 rfl (lv_at hl 7 rfl) ?_
      refine lv_iload hx hb dL_law_1660 (lv_at hl 0 rfl) ?_
      refine yf_qld hx hb (va_T.kept hT.2.1.1 hS.2.1) rfl (vp_in_nI (show (tx x0 x1 x2 i) < 67 by omega) (by omega)) dL_law_1662 ?_
      rw [nI_clamp (show (tx x0 x1 x2 i) < 2 ^ 31 by omega)]
      refine yf_len hx hb (va_T.kept (hT.2.1.2 (tx x0 x1 x2 i) (by omega)) hS.2.1) dL_law_1663 ?_
      have w_1677 : ∀ (H : Heap) (locs : List Loc) (ls : Array Slot), va_P D xcl (wdS a cyI cyJ τ ++ ([ic cyI th 3 (th3 x0 x1 x2)] ++ E1)) H → va_D A (wdS a cyI cyJ τ ++ ([ic cyI th 3 (th3 x0 x1 x2)] ++ E1)) → va_S A H0 H locs → lv_has ls 28 [(20, .int (nI (tx x0 x1 x2 i))), (19, .int (nI i)), (16, .int (nI (lsP x0 x1 x2 i))), (18, .int (nI 3)), (17, .ref th), (15, .ref th), (1, .ref (a 0)), (2, .ref al)] → W p0 l e room_1 s m #[Value.ref b] below meth c H locs 5005 450005 (lw_Z below #[Value.ref b] s) (F0 m 1677 ls [.int (nI (fr (tx x0 x1 x2 i))), .int (nI (qz_S (tx x0 x1 x2 i))), .int (nI (lsP x0 x1 x2 i))]) := by
        intro H locs ls  hP hD hS hl
        refine lv_iadd hx hb dL_law_1677 ?_
        rw [show ((nI (qz_S (tx x0 x1 x2 i))) + (nI (fr (tx x0 x1 x2 i)))) = (nI (qz_S (tx x0 x1 x2 i) + fr (tx x0 x1 x2 i))) from nI_add (qz_S (tx x0 x1 x2 i)) (fr (tx x0 x1 x2 i))]
        refine va_mmax hx hb (hml.trans hl.1.symm) hown (hts _ mw_5_55) (hts _ mw_2_180) (hts _ mw_1_12) (hts _ mw_2_181) (Nat.le_of_ble_eq_true rfl) (Nat.le_of_ble_eq_true rfl) (show 5005 ≤ (600000 : Nat) by omega) (show 450005 ≤ (7302250 : Nat) by omega) dL_law_1678 ?_
        rw [nI_max (a := lsP x0 x1 x2 i) (b := qz_S (tx x0 x1 x2 i) + fr (tx x0 x1 x2 i)) (by omega) (by omega)]
        refine lv_istore (lv' := [(16, .int (nI (max (lsP x0 x1 x2 i) (qz_S (tx x0 x1 x2 i) + fr (tx x0 x1 x2 i))))), (20, .int (nI (tx x0 x1 x2 i))), (19, .int (nI i)), (18, .int (nI 3)), (17, .ref th), (15, .ref th), (1, .ref (a 0)), (2, .ref al)]) hx hb dL_law_1681 hl (by decide) rfl (fun ls hl => ?_)
        refine lv_iinc (v := ((nI i) + (1 : Int32))) (lv' := [(19, .int ((nI i) + (1 : Int32))), (16, .int (nI (max (lsP x0 x1 x2 i) (qz_S (tx x0 x1 x2 i) + fr (tx x0 x1 x2 i))))), (20, .int (nI (tx x0 x1 x2 i))), (18, .int (nI 3)), (17, .ref th), (15, .ref th), (1, .ref (a 0)), (2, .ref al)]) hx hb dL_law_1683 hl (k := 2) rfl rfl (by decide) rfl (fun ls hl => ?_)
        refine lv_goto (tgt := 1636) hx hb dL_law_1686 (by decide) ?_
        rw [show ((nI i) + (1 : Int32)) = (nI (i + 1)) from (nI_1 i)] at hl
        have hl : lv_has ls 28 [(19, .int (nI (i + 1))), (16, .int (nI (lsP x0 x1 x2 (i + 1)))), (20, .int (nI (tx x0 x1 x2 i))), (18, .int (nI 3)), (17, .ref th), (15, .ref th), (1, .ref (a 0)), (2, .ref al)] := hl
        exact ih_1636 (i + 1) τ H _ ls hR_106 (by omega) hP hD hS (lv_sub hl [0, 1, 3, 4, 5, 6, 7] rfl)
      refine lv_if_ne (tgt := 1671) hx hb dL_law_1664 (by decide) (fun hc => ?_) (fun hc => ?_)
      · have h0 : 0 < sl (tx x0 x1 x2 i) := by rcases Nat.eq_zero_or_pos (sl (tx x0 x1 x2 i)) with h9 | h9; exact absurd (by rw [h9]; rfl) hc; exact h9
        refine lv_aload_n hx hb dL_law_1671 rfl (lv_at hl 7 rfl) ?_
        refine lv_iload hx hb dL_law_1672 (lv_at hl 0 rfl) ?_
        refine yf_qld hx hb (va_T.kept hT.2.1.1 hS.2.1) rfl (vp_in_nI (show (tx x0 x1 x2 i) < 67 by omega) (by omega)) dL_law_1674 ?_
        rw [nI_clamp (show (tx x0 x1 x2 i) < 2 ^ 31 by omega)]
        refine lv_iconst (v := (0 : Int32)) hx hb dL_law_1675 (by decide) ?_
        refine yf_ild hx hb (va_T.kept (hT.2.1.2 (tx x0 x1 x2 i) (by omega)) hS.2.1) (vp_in_nI (n := 0) (by omega) (by omega)) (v := (nI (fr (tx x0 x1 x2 i)))) (by rw [show Int32.toNatClampNeg (0 : Int32) = 0 by decide]; exact hfr.2 h0) dL_law_1676 ?_
        exact w_1677 H _ ls hP hD hS hl
      · have h0 : sl (tx x0 x1 x2 i) = 0 := (nI_eq (b := 0) (by omega) (by decide)).mp hc
        refine lv_iconst (v := (0 : Int32)) hx hb dL_law_1667 (by decide) ?_
        refine lv_goto (tgt := 1677) hx hb dL_law_1668 (by decide) ?_
        rw [show (0 : Int32) = nI (fr (tx x0 x1 x2 i)) by unfold fr; rw [if_pos h0]; rfl]
        exact w_1677 H _ ls hP hD hS hl
  exact w_1636 3 0 σ H _ ls hR rfl hP hD hS (lv_sub hl [0, 3, 1, 2, 4, 5, 6] rfl)
set_option maxHeartbeats 16000000 in
set_option maxRecDepth 20000 in
theorem law_1582 {p0 : Program} {l : Launch} {e : Env} {s : State} {m : MethodId} {below : List Frame} {meth : Method} {c : Code} {b : Nat} {D : va_G} {cyI cyJ cyB cyQ : ClassId} {G a g kk kv B : Nat → Nat} {al tq L n : Nat} {xs : Nat → Int32} {A : Nat → Prop} {H0 : Heap} (C0 : LCx p0 s m b meth c D cyI cyJ cyB cyQ G g kk kv B al tq L n xs A H0) {σ : CS} {S : Nat → SV} (hR : Rc σ S []) {E1 : va_W}  {H : Heap} {locs : List Loc} {ls : Array Slot} (hP : va_P D xcl (wdS a cyI cyJ σ ++ ([] ++ E1)) H) (hD : va_D A (wdS a cyI cyJ σ ++ ([] ++ E1))) (hS : va_S A H0 H locs) (hl : lv_has ls 28 [(0, .ref b), (1, .ref (a 0)), (2, .ref al)]) : W p0 l e room_1 s m #[Value.ref b] below meth c H locs 5000 450000 (lw_Z below #[Value.ref b] s) (F0 m 1582 ls []) := by
  have C1 := C0
  obtain ⟨Cx, hAs, hn, hL⟩ := C1
  have Cx1 := Cx
  obtain ⟨⟨hx, hb, hml, hown, hts⟩, hr, hlocks, hK, hA, hT⟩ := Cx1
  obtain ⟨hD1, hD2, hD3⟩ := D_small n hn
  have hN1 : 0 < qz_N n := by show 0 < qz_D (n + 1) - qz_D n; omega
  have hN2 : qz_N n ≤ 15 := hD2
  have hN3 : qz_D n + qz_N n ≤ 45 := by show qz_D n + (qz_D (n + 1) - qz_D n) ≤ 45; omega
  refine lv_iconst (v := (3 : Int32)) hx hb dL_law_1582 (by decide) ?_
  refine va_newa (atype := .int) (ty := .int) (a0 := (3, .inl (fun _ => 0))) (N' := 3) hx hb (hts _ mw_1_104) rfl hK hP hD hS hA (fun _ => rfl) (nI_pos (show 3 < 2 ^ 31 by omega)) (nI_clamp (show 3 < 2 ^ 31 by omega)) (show 3 * 4 ≤ 536870912 by omega) (show 5000 + 1 ≤ (600000 : Nat) by omega) (show 450000 + 3 ≤ (7302250 : Nat) by omega) dL_law_1583 (fun th cA H hK1 hP hD hS => ?_)
  have eA := y_sameI hK hK1
  rw [eA] at hP hD
  clear hK1 eA
  have hPD : va_P D xcl (wdS a cyI cyJ σ ++ ([] ++ (ic cyI th 3 (fun _ => (0 : Int32)) :: E1))) H ∧ va_D A (wdS a cyI cyJ σ ++ ([] ++ (ic cyI th 3 (fun _ => (0 : Int32)) :: E1))) := y_perm hP hD (y_new_mid (wdS a cyI cyJ σ) [] E1 (ic cyI th 3 (fun _ => (0 : Int32))))
  obtain ⟨hP, hD⟩ := hPD
  have hPD : va_P D xcl (wdS a cyI cyJ σ ++ ([] ++ (ic cyI th 3 (thp L xs 0) :: E1))) H ∧ va_D A (wdS a cyI cyJ σ ++ ([] ++ (ic cyI th 3 (thp L xs 0) :: E1))) := y_ext hP hD 28 (thp L xs 0) rfl (fun j hj => (if_neg (Nat.not_lt_zero j)).symm)
  obtain ⟨hP, hD⟩ := hPD
  refine lv_astore (lv' := [(15, .ref th), (0, .ref b), (1, .ref (a 0)), (2, .ref al)]) hx hb dL_law_1585 hl (by decide) rfl (fun ls hl => ?_)
  refine lv_iconst (v := (0 : Int32)) hx hb dL_law_1587 (by decide) ?_
  refine lv_istore (lv' := [(16, .int (0 : Int32)), (15, .ref th), (0, .ref b), (1, .ref (a 0)), (2, .ref al)]) hx hb dL_law_1588 hl (by decide) rfl (fun ls hl => ?_)
  refine W.widen (k := 5004) (n := 450004) (by omega) (by omega) ?_
  have w_1590 : ∀ (d : Nat) (k : Nat) (τ : CS) (H : Heap) (locs : List Loc) (ls : Array Slot), Rc τ S [] → k + d = 3 → va_P D xcl (wdS a cyI cyJ τ ++ ([] ++ (ic cyI th 3 (thp L xs k) :: E1))) H → va_D A (wdS a cyI cyJ τ ++ ([] ++ (ic cyI th 3 (thp L xs k) :: E1))) → va_S A H0 H locs → lv_has ls 28 [(16, .int (nI k)), (15, .ref th), (0, .ref b), (1, .ref (a 0)), (2, .ref al)] → W p0 l e room_1 s m #[Value.ref b] below meth c H locs 5004 450004 (lw_Z below #[Value.ref b] s) (F0 m 1590 ls []) := by
    intro d
    induction d with
    | zero =>
      intro k τ H locs ls hR_108 hk hP hD hS hl
      obtain rfl : k = 3 := by omega
      refine lv_iload hx hb dL_law_1590 (lv_at hl 0 rfl) ?_
      refine lv_iconst (v := (3 : Int32)) hx hb dL_law_1592 (by decide) ?_
      refine lv_icmp_ge (tgt := 1621) hx hb dL_law_1593 (by decide) (fun _ => ?_) (fun hc => absurd (Int32.le_refl _) hc)
      have hPD : va_P D xcl (wdS a cyI cyJ τ ++ ([ic cyI th 3 (th3 (xv L xs 0) (xv L xs 1) (xv L xs 2))] ++ E1)) H ∧ va_D A (wdS a cyI cyJ τ ++ ([ic cyI th 3 (th3 (xv L xs 0) (xv L xs 1) (xv L xs 2))] ++ E1)) := y_ext hP hD 28 (th3 (xv L xs 0) (xv L xs 1) (xv L xs 2)) rfl (thp_3 L xs)
      obtain ⟨hP, hD⟩ := hPD
      refine W.widen (k := 5005) (n := 450005) (by omega) (by omega) ?_
      exact law_1621 C0 hR_108 (Nat.mod_lt _ (by decide)) (Nat.mod_lt _ (by decide)) (Nat.mod_lt _ (by decide)) hP hD hS (lv_sub hl [1, 3, 4] rfl)
    | succ d ih_1590 =>
      intro k τ H locs ls hR_109 hk hP hD hS hl
      refine lv_iload hx hb dL_law_1590 (lv_at hl 0 rfl) ?_
      refine lv_iconst (v := (3 : Int32)) hx hb dL_law_1592 (by decide) ?_
      refine lv_icmp_ge (tgt := 1621) hx hb dL_law_1593 (by decide) (fun hc => absurd hc (show ¬ (3 : Int32) ≤ nI k from nI_ge (b := 3) (by omega) (by decide))) (fun _ => ?_)
      refine lv_aload hx hb dL_law_1596 (lv_at hl 1 rfl) ?_
      refine lv_iload hx hb dL_law_1598 (lv_at hl 0 rfl) ?_
      refine lv_aload_n hx hb dL_law_1600 rfl (lv_at hl 2 rfl) ?_
      refine lv_bipush (v := (17 : Int32)) hx hb dL_law_1601 (by decide) ?_
      refine lv_iload hx hb dL_law_1603 (lv_at hl 0 rfl) ?_
      refine lv_iadd hx hb dL_law_1605 ?_
      rw [show ((17 : Int32) + (nI k)) = (nI (17 + k)) from nI_add 17 k]
      refine yr_i Cx hP hD hS (yq_none (S := Unit) (wdS a cyI cyJ τ ++ ([] ++ (ic cyI th 3 (thp L xs k) :: E1)))) (yx_S (n := 2) (As := [.ref b, .int (nI (17 + k))]) (rest := [.int (nI k), .ref th]) Cx hP hD hS hl (yq_none (S := Unit) (wdS a cyI cyJ τ ++ ([] ++ (ic cyI th 3 (thp L xs k) :: E1)))) hK (fz_ZI b L xs) (fun hF => (fz_give (fz_ZI b L xs) hT.2.2.2.2.1 hS hF)) (c_L_cell l D cyI cyJ cyB cyQ H.size b L xs (17 + k) (by omega) (by omega)) pk_L_cell mw_3_159 ⟨rfl, rfl, Nat.le_of_ble_eq_true rfl, Nat.le_of_ble_eq_true rfl⟩ rfl rfl (Nat.le_of_ble_eq_true rfl) ⟨Nat.le_of_ble_eq_true rfl, Nat.le_of_ble_eq_true rfl⟩ dL_law_1606) (fun r_1 u_110 H locs hp hP hD hS => ?_)
      have hP : va_P D xcl (wdS a cyI cyJ τ ++ ([] ++ (ic cyI th 3 (thp L xs k) :: E1))) H := hP
      have hD : va_D A (wdS a cyI cyJ τ ++ ([] ++ (ic cyI th 3 (thp L xs k) :: E1))) := hD
      rw [show r_1 = (cel L xs (17 + k)) from hp]
      refine lv_iconst (v := (1 : Int32)) hx hb dL_law_1609 (by decide) ?_
      refine lv_iushr (v := (((Int32.toUInt32 (cel L xs (17 + k))) >>> ((Int32.toUInt32 (1 : Int32)) &&& Int32.toUInt32 31)).toInt32)) hx hb dL_law_1610 rfl ?_
      rw [show (((Int32.toUInt32 (cel L xs (17 + k))) >>> ((Int32.toUInt32 (1 : Int32)) &&& Int32.toUInt32 31)).toInt32) = (nI (hlf (cel L xs (17 + k)))) from hlf_eq _]
      have hh := hlf_lt (cel L xs (17 + k))
      refine lv_bipush (v := (12 : Int32)) hx hb dL_law_1611 (by decide) ?_
      refine lv_irem hx hb dL_law_1613 (by decide) ?_
      rw [show ((nI (hlf (cel L xs (17 + k)))) - (nI (hlf (cel L xs (17 + k)))) / (12 : Int32) * (12 : Int32)) = (nI (xv L xs k)) from pk_rem (a := hlf (cel L xs (17 + k))) (d := 12) (by omega) (by decide) (by decide)]
      refine va_iast hx hb hK hP hD hS 28 0 rfl rfl (vp_in_nI (show k < 3 by omega) (by decide)) dL_law_1614 (fun H locs hP hD hS => ?_)
      rw [nI_clamp (show k < 2 ^ 31 by omega), thp_s] at hP hD
      have hP : va_P D xcl (wdS a cyI cyJ τ ++ ([] ++ (ic cyI th 3 (thp L xs (k + 1)) :: E1))) H := hP
      have hD : va_D A (wdS a cyI cyJ τ ++ ([] ++ (ic cyI th 3 (thp L xs (k + 1)) :: E1))) := hD
      refine lv_iinc (v := ((nI k) + (1 : Int32))) (lv' := [(16, .int ((nI k) + (1 : Int32))), (15, .ref th), (0, .ref b), (1, .ref (a 0)), (2, .ref al)]) hx hb dL_law_1615 hl (k := 0) rfl rfl (by decide) rfl (fun ls hl => ?_)
      refine lv_goto (tgt := 1590) hx hb dL_law_1618 (by decide) ?_
      rw [show ((nI k) + (1 : Int32)) = (nI (k + 1)) from (nI_1 k)] at hl
      exact ih_1590 (k + 1) τ H _ ls hR_109 (by omega) hP hD hS (lv_sub hl [0, 1, 2, 3, 4] rfl)
  exact w_1590 3 0 σ H _ ls hR rfl hP hD hS (lv_sub hl [0, 1, 2, 3, 4] rfl)
set_option maxHeartbeats 16000000 in
set_option maxRecDepth 20000 in
theorem law_1472 {p0 : Program} {l : Launch} {e : Env} {s : State} {m : MethodId} {below : List Frame} {meth : Method} {c : Code} {b : Nat} {D : va_G} {cyI cyJ cyB cyQ : ClassId} {G a g kk kv B : Nat → Nat} {al tq L n : Nat} {xs : Nat → Int32} {A : Nat → Prop} {H0 : Heap} (C0 : LCx p0 s m b meth c D cyI cyJ cyB cyQ G g kk kv B al tq L n xs A H0) {σ : CS} {S : Nat → SV} (hR : Rc σ S []) {E1 : va_W} {fv : Nat → Int32} (hv : okF n fv) (hS0 : S 0 = some (n, fv)) (hS3 : S 3 = some (n, (tuF n (dbF fv)))) {H : Heap} {locs : List Loc} {ls : Array Slot} (hP : va_P D xcl (wdS a cyI cyJ σ ++ ([] ++ E1)) H) (hD : va_D A (wdS a cyI cyJ σ ++ ([] ++ E1))) (hS : va_S A H0 H locs) (hl : lv_has ls 28 [(0, .ref b), (1, .ref (a 0)), (2, .ref al), (4, .int (nI (qz_D n))), (5, .int (nI (qz_N n)))]) : W p0 l e room_1 s m #[Value.ref b] below meth c H locs 5000 450000 (lw_Z below #[Value.ref b] s) (F0 m 1472 ls []) := by
  have C1 := C0
  obtain ⟨Cx, hAs, hn, hL⟩ := C1
  have Cx1 := Cx
  obtain ⟨⟨hx, hb, hml, hown, hts⟩, hr, hlocks, hK, hA, hT⟩ := Cx1
  obtain ⟨hD1, hD2, hD3⟩ := D_small n hn
  have hN1 : 0 < qz_N n := by show 0 < qz_D (n + 1) - qz_D n; omega
  have hN2 : qz_N n ≤ 15 := hD2
  have hN3 : qz_D n + qz_N n ≤ 45 := by show qz_D n + (qz_D (n + 1) - qz_D n) ≤ 45; omega
  refine lv_iconst (v := (0 : Int32)) hx hb dL_law_1472 (by decide) ?_
  refine lv_istore (lv' := [(15, .int (0 : Int32)), (0, .ref b), (1, .ref (a 0)), (2, .ref al), (4, .int (nI (qz_D n))), (5, .int (nI (qz_N n)))]) hx hb dL_law_1473 hl (by decide) rfl (fun ls hl => ?_)
  have w_1475 : ∀ (d : Nat) (i : Nat) (τ : CS) (H : Heap) (locs : List Loc) (ls : Array Slot), Rc τ S [] → i + d = qz_N n → va_P D xcl (wdS a cyI cyJ τ ++ ([] ++ E1)) H → va_D A (wdS a cyI cyJ τ ++ ([] ++ E1)) → va_S A H0 H locs → lv_has ls 28 [(15, .int (nI i)), (0, .ref b), (1, .ref (a 0)), (2, .ref al), (4, .int (nI (qz_D n))), (5, .int (nI (qz_N n)))] → W p0 l e room_1 s m #[Value.ref b] below meth c H locs 5000 450000 (lw_Z below #[Value.ref b] s) (F0 m 1475 ls []) := by
    intro d
    induction d with
    | zero =>
      intro i τ H locs ls hR_111 hi hP hD hS hl
      obtain rfl : i = qz_N n := by omega
      refine lv_iload hx hb dL_law_1475 (lv_at hl 0 rfl) ?_
      refine lv_iload hx hb dL_law_1477 (lv_at hl 5 rfl) ?_
      refine lv_icmp_ge (tgt := 1582) hx hb dL_law_1479 (by decide) (fun _ => ?_) (fun hc => absurd (Int32.le_refl _) hc)
      exact law_1582 C0 hR_111 hP hD hS (lv_sub hl [1, 2, 3] rfl)
    | succ d ih_1475 =>
      intro i τ H locs ls hR_112 hi hP hD hS hl
      have hsl := sl_small (qz_D n + i) (by omega)
      refine lv_iload hx hb dL_law_1475 (lv_at hl 0 rfl) ?_
      refine lv_iload hx hb dL_law_1477 (lv_at hl 5 rfl) ?_
      refine lv_icmp_ge (tgt := 1582) hx hb dL_law_1479 (by decide) (fun hc => absurd hc (nI_ge (by omega) (by omega))) (fun _ => ?_)
      refine lv_iconst (v := (0 : Int32)) hx hb dL_law_1482 (by decide) ?_
      refine lv_istore (lv' := [(16, .int (0 : Int32)), (15, .int (nI i)), (0, .ref b), (1, .ref (a 0)), (2, .ref al), (4, .int (nI (qz_D n))), (5, .int (nI (qz_N n)))]) hx hb dL_law_1483 hl (by decide) rfl (fun ls hl => ?_)
      refine lv_aload_n hx hb dL_law_1485 rfl (lv_at hl 4 rfl) ?_
      refine lv_iload hx hb dL_law_1486 (lv_at hl 5 rfl) ?_
      refine lv_iload hx hb dL_law_1488 (lv_at hl 1 rfl) ?_
      refine lv_iadd hx hb dL_law_1490 ?_
      rw [show ((nI (qz_D n)) + (nI i)) = (nI (qz_D n + i)) from nI_add (qz_D n) i]
      refine yf_qld hx hb (va_T.kept hT.2.1.1 hS.2.1) rfl (vp_in_nI (show (qz_D n + i) < 67 by omega) (by omega)) dL_law_1491 ?_
      rw [nI_clamp (show (qz_D n + i) < 2 ^ 31 by omega)]
      refine lv_astore (lv' := [(17, .ref (B (qz_D n + i))), (16, .int (0 : Int32)), (15, .int (nI i)), (0, .ref b), (1, .ref (a 0)), (2, .ref al), (4, .int (nI (qz_D n))), (5, .int (nI (qz_N n)))]) hx hb dL_law_1492 hl (by decide) rfl (fun ls hl => ?_)
      refine lv_aload hx hb dL_law_1494 (lv_at hl 0 rfl) ?_
      refine yf_len hx hb (va_T.kept (hT.2.1.2 (qz_D n + i) (by omega)) hS.2.1) dL_law_1496 ?_
      refine lv_istore (lv' := [(18, .int (nI (sl (qz_D n + i)))), (17, .ref (B (qz_D n + i))), (16, .int (0 : Int32)), (15, .int (nI i)), (0, .ref b), (1, .ref (a 0)), (2, .ref al), (4, .int (nI (qz_D n))), (5, .int (nI (qz_N n)))]) hx hb dL_law_1497 hl (by decide) rfl (fun ls hl => ?_)
      refine lv_iconst (v := (0 : Int32)) hx hb dL_law_1499 (by decide) ?_
      refine lv_istore (lv' := [(19, .int (0 : Int32)), (18, .int (nI (sl (qz_D n + i)))), (17, .ref (B (qz_D n + i))), (16, .int (0 : Int32)), (15, .int (nI i)), (0, .ref b), (1, .ref (a 0)), (2, .ref al), (4, .int (nI (qz_D n))), (5, .int (nI (qz_N n)))]) hx hb dL_law_1500 hl (by decide) rfl (fun ls hl => ?_)
      have w_1502 : ∀ (d2 : Nat) (r : Nat) (ρ : CS) (H : Heap) (locs : List Loc) (ls : Array Slot), Rc ρ S [] → r + d2 = sl (qz_D n + i) → va_P D xcl (wdS a cyI cyJ ρ ++ ([] ++ E1)) H → va_D A (wdS a cyI cyJ ρ ++ ([] ++ E1)) → va_S A H0 H locs → lv_has ls 28 [(19, .int (nI r)), (16, .int (odF (qz_D n + i) r)), (18, .int (nI (sl (qz_D n + i)))), (17, .ref (B (qz_D n + i))), (15, .int (nI i)), (0, .ref b), (1, .ref (a 0)), (2, .ref al), (4, .int (nI (qz_D n))), (5, .int (nI (qz_N n)))] → W p0 l e room_1 s m #[Value.ref b] below meth c H locs 5000 450000 (lw_Z below #[Value.ref b] s) (F0 m 1502 ls []) := by
        intro d2
        induction d2 with
        | zero =>
          intro r ρ H locs ls hR_113 hr2 hP hD hS hl
          obtain rfl : r = sl (qz_D n + i) := by omega
          refine lv_iload hx hb dL_law_1502 (lv_at hl 0 rfl) ?_
          refine lv_iload hx hb dL_law_1504 (lv_at hl 2 rfl) ?_
          refine lv_icmp_ge (tgt := 1531) hx hb dL_law_1506 (by decide) (fun _ => ?_) (fun hc => absurd (Int32.le_refl _) hc)
          refine lv_aload_n hx hb dL_law_1531 rfl (lv_at hl 6 rfl) ?_
          refine lv_iconst (v := (3 : Int32)) hx hb dL_law_1532 (by decide) ?_
          refine lv_iload hx hb dL_law_1533 (lv_at hl 8 rfl) ?_
          refine lv_iload hx hb dL_law_1535 (lv_at hl 4 rfl) ?_
          refine lv_iadd hx hb dL_law_1537 ?_
          rw [show ((nI (qz_D n)) + (nI i)) = (nI (qz_D n + i)) from nI_add (qz_D n) i]
          obtain ⟨τ_114, hR_116, hM_115⟩ := mm_value l D cyI cyJ G a H.size hR_113 (s := 3) (by decide) hS3 (show i < qz_N n by omega)
          refine yr_l Cx hP hD hS (yq_front (S := Unit) (wdS a cyI cyJ ρ) ([] ++ E1) (fun _ => wdS a cyI cyJ τ_114) 28 (fun _ => rfl)) (yx_V (n := 2) (As := [.int (3 : Int32), .int (nI (qz_D n + i))]) (rest := []) Cx hP hD hS hl (yq_front (S := Unit) (wdS a cyI cyJ ρ) ([] ++ E1) (fun _ => wdS a cyI cyJ τ_114) 28 (fun _ => rfl)) (y_K2 hK) (fz_xs G) (fun hF => (fz_give (fz_xs G) hT.1 hS hF)) (ym_xl hM_115) pk_X9_value mw_3_136 ⟨rfl, rfl, Nat.le_of_ble_eq_true rfl, Nat.le_of_ble_eq_true rfl⟩ (va_recv (ci := 9) hK hP rfl (q0 := 0) rfl) rfl rfl (Nat.le_of_ble_eq_true rfl) ⟨Nat.le_of_ble_eq_true rfl, Nat.le_of_ble_eq_true rfl⟩ dL_law_1538) (fun r_1 u_117 H locs hp hP hD hS => ?_)
          have hP : va_P D xcl (wdS a cyI cyJ τ_114 ++ ([] ++ E1)) H := hP
          have hD : va_D A (wdS a cyI cyJ τ_114 ++ ([] ++ E1)) := hD
          rw [show r_1 = (vaS n (tuF n (dbF fv)) i (qz_N n)) from hp]
          refine lv_ldc2 (v := (2 : Int64)) hx hb hown (hts _ mw_5_56) dL_law_1541 ?_
          refine lv_aload_n hx hb dL_law_1544 rfl (lv_at hl 6 rfl) ?_
          refine lv_iconst (v := (0 : Int32)) hx hb dL_law_1545 (by decide) ?_
          refine lv_iload hx hb dL_law_1546 (lv_at hl 8 rfl) ?_
          refine lv_iload hx hb dL_law_1548 (lv_at hl 4 rfl) ?_
          refine lv_iadd hx hb dL_law_1550 ?_
          rw [show ((nI (qz_D n)) + (nI i)) = (nI (qz_D n + i)) from nI_add (qz_D n) i]
          obtain ⟨τ_118, hR_120, hM_119⟩ := mm_value l D cyI cyJ G a H.size hR_116 (s := 0) (by decide) hS0 (show i < qz_N n by omega)
          refine yr_l Cx hP hD hS (yq_front (S := Unit) (wdS a cyI cyJ τ_114) ([] ++ E1) (fun _ => wdS a cyI cyJ τ_118) 28 (fun _ => rfl)) (yx_V (n := 2) (As := [.int (0 : Int32), .int (nI (qz_D n + i))]) (rest := [.long (2 : Int64), .long (vaS n (tuF n (dbF fv)) i (qz_N n))]) Cx hP hD hS hl (yq_front (S := Unit) (wdS a cyI cyJ τ_114) ([] ++ E1) (fun _ => wdS a cyI cyJ τ_118) 28 (fun _ => rfl)) (y_K2 hK) (fz_xs G) (fun hF => (fz_give (fz_xs G) hT.1 hS hF)) (ym_xl hM_119) pk_X9_value mw_3_136 ⟨rfl, rfl, Nat.le_of_ble_eq_true rfl, Nat.le_of_ble_eq_true rfl⟩ (va_recv (ci := 9) hK hP rfl (q0 := 0) rfl) rfl rfl (Nat.le_of_ble_eq_true rfl) ⟨Nat.le_of_ble_eq_true rfl, Nat.le_of_ble_eq_true rfl⟩ dL_law_1551) (fun r_2 u_121 H locs hp hP hD hS => ?_)
          have hP : va_P D xcl (wdS a cyI cyJ τ_118 ++ ([] ++ E1)) H := hP
          have hD : va_D A (wdS a cyI cyJ τ_118 ++ ([] ++ E1)) := hD
          rw [show r_2 = (vaS n fv i (qz_N n)) from hp]
          refine lv_lmul hx hb dL_law_1554 ?_
          refine lv_iload hx hb dL_law_1555 (lv_at hl 1 rfl) ?_
          refine lv_iconst (v := (2 : Int32)) hx hb dL_law_1557 (by decide) ?_
          refine lv_irem hx hb dL_law_1558 (by decide) ?_
          refine lv_iconst (v := (1 : Int32)) hx hb dL_law_1559 (by decide) ?_
          have w_1568 : ∀ (H : Heap) (locs : List Loc) (ls : Array Slot), va_P D xcl (wdS a cyI cyJ τ_118 ++ ([] ++ E1)) H → va_D A (wdS a cyI cyJ τ_118 ++ ([] ++ E1)) → va_S A H0 H locs → lv_has ls 28 [(19, .int (nI (sl (qz_D n + i)))), (16, .int (odF (qz_D n + i) (sl (qz_D n + i)))), (18, .int (nI (sl (qz_D n + i)))), (17, .ref (B (qz_D n + i))), (15, .int (nI i)), (0, .ref b), (1, .ref (a 0)), (2, .ref al), (4, .int (nI (qz_D n))), (5, .int (nI (qz_N n)))] → W p0 l e room_1 s m #[Value.ref b] below meth c H locs 5000 450000 (lw_Z below #[Value.ref b] s) (F0 m 1568 ls [.int (sgn (qz_D n + i)), .long ((2 : Int64) * (vaS n fv i (qz_N n))), .long (vaS n (tuF n (dbF fv)) i (qz_N n))]) := by
            intro H locs ls  hP hD hS hl
            refine lv_i2l (v := Int32.toInt64 (sgn (qz_D n + i))) hx hb dL_law_1568 rfl ?_
            refine lv_lmul hx hb dL_law_1569 ?_
            refine W.lcmp hx hb dL_law_1570 ?_
            refine lv_if_eq (tgt := 1576) hx hb dL_law_1571 (by decide) (fun _ => ?_) (fun hc => absurd (lg0 (pu_turn hn hv (show i < qz_N n by omega))) hc)
            refine lv_iinc (v := ((nI i) + (1 : Int32))) (lv' := [(15, .int ((nI i) + (1 : Int32))), (19, .int (nI (sl (qz_D n + i)))), (16, .int (odF (qz_D n + i) (sl (qz_D n + i)))), (18, .int (nI (sl (qz_D n + i)))), (17, .ref (B (qz_D n + i))), (0, .ref b), (1, .ref (a 0)), (2, .ref al), (4, .int (nI (qz_D n))), (5, .int (nI (qz_N n)))]) hx hb dL_law_1576 hl (k := 4) rfl rfl (by decide) rfl (fun ls hl => ?_)
            refine lv_goto (tgt := 1475) hx hb dL_law_1579 (by decide) ?_
            rw [show ((nI i) + (1 : Int32)) = (nI (i + 1)) from (nI_1 i)] at hl
            exact ih_1475 (i + 1) τ_118 H _ ls hR_120 (by omega) hP hD hS (lv_sub hl [0, 5, 6, 7, 8, 9] rfl)
          refine lv_icmp_ne (tgt := 1567) hx hb dL_law_1560 (by decide) (fun hc => ?_) (fun hc => ?_)
          · refine lv_iconst (v := (1 : Int32)) hx hb dL_law_1567 (by decide) ?_
            have hsg : sgn (qz_D n + i) = 1 := if_neg hc
            rw [hsg] at w_1568
            exact w_1568 H _ ls hP hD hS hl
          · refine lv_iconst (v := (-1 : Int32)) hx hb dL_law_1563 (by decide) ?_
            refine lv_goto (tgt := 1568) hx hb dL_law_1564 (by decide) ?_
            have hsg : sgn (qz_D n + i) = -1 := if_pos hc
            rw [hsg] at w_1568
            exact w_1568 H _ ls hP hD hS hl
        | succ d2 ih_1502 =>
          intro r ρ H locs ls hR_122 hr2 hP hD hS hl
          refine lv_iload hx hb dL_law_1502 (lv_at hl 0 rfl) ?_
          refine lv_iload hx hb dL_law_1504 (lv_at hl 2 rfl) ?_
          refine lv_icmp_ge (tgt := 1531) hx hb dL_law_1506 (by decide) (fun hc => absurd hc (nI_ge (by omega) (by omega))) (fun _ => ?_)
          refine lv_aload hx hb dL_law_1509 (lv_at hl 3 rfl) ?_
          refine lv_iload hx hb dL_law_1511 (lv_at hl 0 rfl) ?_
          refine yf_ild hx hb (va_T.kept (hT.2.1.2 (qz_D n + i) (by omega)) hS.2.1) (vp_in_nI (show r < (sl (qz_D n + i)) by omega) (by omega)) (v := (sr (qz_D n + i) r)) (by rw [nI_clamp (show r < 2 ^ 31 by omega)]) dL_law_1513 ?_
          refine lv_istore (lv' := [(20, .int (sr (qz_D n + i) r)), (19, .int (nI r)), (16, .int (odF (qz_D n + i) r)), (18, .int (nI (sl (qz_D n + i)))), (17, .ref (B (qz_D n + i))), (15, .int (nI i)), (0, .ref b), (1, .ref (a 0)), (2, .ref al), (4, .int (nI (qz_D n))), (5, .int (nI (qz_N n)))]) hx hb dL_law_1514 hl (by decide) rfl (fun ls hl => ?_)
          refine lv_iload hx hb dL_law_1516 (lv_at hl 2 rfl) ?_
          refine lv_iload hx hb dL_law_1518 (lv_at hl 0 rfl) ?_
          refine lv_iconst (v := (1 : Int32)) hx hb dL_law_1520 (by decide) ?_
          refine lv_isub hx hb dL_law_1521 ?_
          refine lv_iadd hx hb dL_law_1522 ?_
          refine lv_istore (lv' := [(16, .int ((odF (qz_D n + i) r) + ((sr (qz_D n + i) r) - (1 : Int32)))), (20, .int (sr (qz_D n + i) r)), (19, .int (nI r)), (18, .int (nI (sl (qz_D n + i)))), (17, .ref (B (qz_D n + i))), (15, .int (nI i)), (0, .ref b), (1, .ref (a 0)), (2, .ref al), (4, .int (nI (qz_D n))), (5, .int (nI (qz_N n)))]) hx hb dL_law_1523 hl (by decide) rfl (fun ls hl => ?_)
          refine lv_iinc (v := ((nI r) + (1 : Int32))) (lv' := [(19, .int ((nI r) + (1 : Int32))), (16, .int ((odF (qz_D n + i) r) + ((sr (qz_D n + i) r) - (1 : Int32)))), (20, .int (sr (qz_D n + i) r)), (18, .int (nI (sl (qz_D n + i)))), (17, .ref (B (qz_D n + i))), (15, .int (nI i)), (0, .ref b), (1, .ref (a 0)), (2, .ref al), (4, .int (nI (qz_D n))), (5, .int (nI (qz_N n)))]) hx hb dL_law_1525 hl (k := 2) rfl rfl (by decide) rfl (fun ls hl => ?_)
          refine lv_goto (tgt := 1502) hx hb dL_law_1528 (by decide) ?_
          rw [show ((nI r) + (1 : Int32)) = (nI (r + 1)) from (nI_1 r)] at hl
          have hl : lv_has ls 28 [(19, .int (nI (r + 1))), (16, .int (odF (qz_D n + i) (r + 1))), (20, .int (sr (qz_D n + i) r)), (18, .int (nI (sl (qz_D n + i)))), (17, .ref (B (qz_D n + i))), (15, .int (nI i)), (0, .ref b), (1, .ref (a 0)), (2, .ref al), (4, .int (nI (qz_D n))), (5, .int (nI (qz_N n)))] := hl
          exact ih_1502 (r + 1) ρ H _ ls hR_122 (by omega) hP hD hS (lv_sub hl [0, 1, 3, 4, 5, 6, 7, 8, 9, 10] rfl)
      exact w_1502 (sl (qz_D n + i)) 0 τ H _ ls hR_112 (by omega) hP hD hS (lv_sub hl [0, 3, 1, 2, 4, 5, 6, 7, 8, 9] rfl)
  exact w_1475 (qz_N n) 0 σ H _ ls hR (by omega) hP hD hS (lv_sub hl [0, 1, 2, 3, 4, 5] rfl)
set_option maxHeartbeats 16000000 in
set_option maxRecDepth 20000 in
theorem law_1444 {p0 : Program} {l : Launch} {e : Env} {s : State} {m : MethodId} {below : List Frame} {meth : Method} {c : Code} {b : Nat} {D : va_G} {cyI cyJ cyB cyQ : ClassId} {G a g kk kv B : Nat → Nat} {al tq L n : Nat} {xs : Nat → Int32} {A : Nat → Prop} {H0 : Heap} (C0 : LCx p0 s m b meth c D cyI cyJ cyB cyQ G g kk kv B al tq L n xs A H0) {σ : CS} {S : Nat → SV} (hR : Rc σ S []) {E1 : va_W} {fv : Nat → Int32} (hv : okF n fv) (hS0 : S 0 = some (n, fv)) {H : Heap} {locs : List Loc} {ls : Array Slot} (hP : va_P D xcl (wdS a cyI cyJ σ ++ ([] ++ E1)) H) (hD : va_D A (wdS a cyI cyJ σ ++ ([] ++ E1))) (hS : va_S A H0 H locs) (hl : lv_has ls 28 [(0, .ref b), (1, .ref (a 0)), (2, .ref al), (4, .int (nI (qz_D n))), (5, .int (nI (qz_N n)))]) : W p0 l e room_1 s m #[Value.ref b] below meth c H locs 5000 450000 (lw_Z below #[Value.ref b] s) (F0 m 1444 ls []) := by
  have C1 := C0
  obtain ⟨Cx, hAs, hn, hL⟩ := C1
  have Cx1 := Cx
  obtain ⟨⟨hx, hb, hml, hown, hts⟩, hr, hlocks, hK, hA, hT⟩ := Cx1
  obtain ⟨hD1, hD2, hD3⟩ := D_small n hn
  have hN1 : 0 < qz_N n := by show 0 < qz_D (n + 1) - qz_D n; omega
  have hN2 : qz_N n ≤ 15 := hD2
  have hN3 : qz_D n + qz_N n ≤ 45 := by show qz_D n + (qz_D (n + 1) - qz_D n) ≤ 45; omega
  refine lv_aload_n hx hb dL_law_1444 rfl (lv_at hl 1 rfl) ?_
  refine lv_iconst (v := (3 : Int32)) hx hb dL_law_1445 (by decide) ?_
  refine lv_iconst (v := (0 : Int32)) hx hb dL_law_1446 (by decide) ?_
  refine lv_iconst (v := (0 : Int32)) hx hb dL_law_1447 (by decide) ?_
  refine lv_iconst (v := (0 : Int32)) hx hb dL_law_1448 (by decide) ?_
  have ht22 := tmN_22 (dbF fv)
  obtain ⟨τ_123, hR_125, hM_124⟩ := mm_plus l D cyI cyJ G a H.size hR hS0 hv.1
  refine yr_i Cx hP hD hS (yq_front (S := Unit) (wdS a cyI cyJ σ) ([] ++ E1) (fun _ => wdS a cyI cyJ τ_123) 28 (fun _ => rfl)) (yx_V (n := 4) (As := [.int (3 : Int32), .int (0 : Int32), .int (0 : Int32), .int (0 : Int32)]) (rest := []) Cx hP hD hS hl (yq_front (S := Unit) (wdS a cyI cyJ σ) ([] ++ E1) (fun _ => wdS a cyI cyJ τ_123) 28 (fun _ => rfl)) (y_K2 hK) (fz_xs G) (fun hF => (fz_give (fz_xs G) hT.1 hS hF)) (ym_xi hM_124) pk_X9_makes mw_3_72 ⟨rfl, rfl, Nat.le_of_ble_eq_true rfl, Nat.le_of_ble_eq_true rfl⟩ (va_recv (ci := 9) hK hP rfl (q0 := 0) rfl) rfl rfl (Nat.le_of_ble_eq_true rfl) ⟨Nat.le_of_ble_eq_true rfl, Nat.le_of_ble_eq_true rfl⟩ dL_law_1449) (fun r_1 u_126 H locs hp hP hD hS => ?_)
  have hP : va_P D xcl (wdS a cyI cyJ τ_123 ++ ([] ++ E1)) H := hP
  have hD : va_D A (wdS a cyI cyJ τ_123 ++ ([] ++ E1)) := hD
  rw [show r_1 = (nI (tmN (dbF fv) 22)) from hp]
  refine lv_if_lt (tgt := 1470) hx hb dL_law_1452 (by decide) (fun hc => absurd hc (nI_pos (show tmN (dbF fv) 22 < 2 ^ 31 by omega))) (fun _ => ?_)
  refine lv_aload_n hx hb dL_law_1455 rfl (lv_at hl 1 rfl) ?_
  refine lv_iconst (v := (3 : Int32)) hx hb dL_law_1456 (by decide) ?_
  refine lv_iconst (v := (0 : Int32)) hx hb dL_law_1457 (by decide) ?_
  have hS3 : upS S 3 (some (n, dbF fv)) 3 = some (n, dbF fv) := rfl
  obtain ⟨τ_127, hR_129, hM_128⟩ := mm_turned l D cyI cyJ G a H.size hR_125 hS3
  refine yr_i Cx hP hD hS (yq_front (S := Unit) (wdS a cyI cyJ τ_123) ([] ++ E1) (fun _ => wdS a cyI cyJ τ_127) 28 (fun _ => rfl)) (yx_V (n := 2) (As := [.int (3 : Int32), .int (0 : Int32)]) (rest := []) Cx hP hD hS hl (yq_front (S := Unit) (wdS a cyI cyJ τ_123) ([] ++ E1) (fun _ => wdS a cyI cyJ τ_127) 28 (fun _ => rfl)) (y_K2 hK) (fz_xs G) (fun hF => (fz_give (fz_xs G) hT.1 hS hF)) (ym_xi hM_128) pk_X9_changed mw_3_115 ⟨rfl, rfl, Nat.le_of_ble_eq_true rfl, Nat.le_of_ble_eq_true rfl⟩ (va_recv (ci := 9) hK hP rfl (q0 := 0) rfl) rfl rfl (Nat.le_of_ble_eq_true rfl) ⟨Nat.le_of_ble_eq_true rfl, Nat.le_of_ble_eq_true rfl⟩ dL_law_1458) (fun r_2 u_130 H locs hp hP hD hS => ?_)
  have hP : va_P D xcl (wdS a cyI cyJ τ_127 ++ ([] ++ E1)) H := hP
  have hD : va_D A (wdS a cyI cyJ τ_127 ++ ([] ++ E1)) := hD
  rw [show r_2 = (nI (tmN (tuF n (dbF fv)) 22)) from hp]
  refine lv_aload_n hx hb dL_law_1461 rfl (lv_at hl 1 rfl) ?_
  refine lv_iconst (v := (3 : Int32)) hx hb dL_law_1462 (by decide) ?_
  refine lv_iconst (v := (1 : Int32)) hx hb dL_law_1463 (by decide) ?_
  have hS3 : upS (upS S 3 (some (n, dbF fv))) 3 (some (n, (tuF n (dbF fv)))) 3 = some (n, (tuF n (dbF fv))) := rfl
  obtain ⟨τ_131, hR_133, hM_132⟩ := mm_sum1 l D cyI cyJ G a H.size hR_129 (s := 3) (by decide) hS3
  refine yr_i Cx hP hD hS (yq_front (S := Unit) (wdS a cyI cyJ τ_127) ([] ++ E1) (fun _ => wdS a cyI cyJ τ_131) 28 (fun _ => rfl)) (yx_V (n := 2) (As := [.int (3 : Int32), .int (1 : Int32)]) (rest := [.int (nI (tmN (tuF n (dbF fv)) 22))]) Cx hP hD hS hl (yq_front (S := Unit) (wdS a cyI cyJ τ_127) ([] ++ E1) (fun _ => wdS a cyI cyJ τ_131) 28 (fun _ => rfl)) (y_K2 hK) (fz_xs G) (fun hF => (fz_give (fz_xs G) hT.1 hS hF)) (ym_xi hM_132) pk_X9_sum mw_3_43 ⟨rfl, rfl, Nat.le_of_ble_eq_true rfl, Nat.le_of_ble_eq_true rfl⟩ (va_recv (ci := 9) hK hP rfl (q0 := 0) rfl) rfl rfl (Nat.le_of_ble_eq_true rfl) ⟨Nat.le_of_ble_eq_true rfl, Nat.le_of_ble_eq_true rfl⟩ dL_law_1464) (fun r_3 u_134 H locs hp hP hD hS => ?_)
  have hP : va_P D xcl (wdS a cyI cyJ τ_131 ++ ([] ++ E1)) H := hP
  have hD : va_D A (wdS a cyI cyJ τ_131 ++ ([] ++ E1)) := hD
  rw [show r_3 = (nI (tmN (tuF n (dbF fv)) 22)) from hp]
  refine lv_icmp_eq (tgt := 1472) hx hb dL_law_1467 (by decide) (fun _ => ?_) (fun hc => absurd rfl hc)
  exact law_1472 C0 hR_133 hv (show upS (upS S 3 (some (n, dbF fv))) 3 (some (n, (tuF n (dbF fv)))) 0 = some (n, fv) from hS0) hS3 hP hD hS (lv_sub hl [0, 1, 2, 3, 4] rfl)
