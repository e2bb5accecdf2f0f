/-! from the entry to the law's base -/
def Z8 (G g kk kv : Nat → Nat) (b L : Nat) (xs : Nat → Int32) : yZ := fun A U H => xs_T G A U H ∧ (ZO A U H ∧ (ZJ g A U H ∧ (ZK kk kv A U H ∧ (ZI b L xs A U H ∧ ZO A U H))))
def LC8 (p : Program) (s : State) (m : MethodId) (b : Nat) (meth : Method) (c : Code) (D : va_G) (cyI cyJ cyB cyQ : ClassId) (G g kk kv : Nat → Nat) (L : Nat) (xs : Nat → Int32) (A : Nat → Prop) : Prop :=
  yc_C p s m #[Value.ref b] meth c code 28 RL ret D xcl (ytys cyI cyJ cyB cyQ) (Z8 G g kk kv b L xs) A s.heap ∧ (∀ q, A q → s.heap.size ≤ q) ∧ L ≤ 260
/-- all shapes, as cells of the world -/
def EA (cyI cyQ : ClassId) (al : Nat) (B : Nat → Nat) : va_W := [qc cyQ al 67 (rfB 67 B)] ++ pw cyI B 0 (SH 9)
/-- the table of characters, as cells of the world -/
def ET (cyI cyQ : ClassId) (tq n : Nat) : va_W := [qc cyQ tq (qz_N n) (grB tq (qz_N n))] ++ gw cyI tq (qz_N n) (qz_N n) (tb n)
theorem ET_len (cyI cyQ : ClassId) (tq n : Nat) : (ET cyI cyQ tq n).length = qz_N n + 1 := by
  unfold ET gw
  simp
theorem y_out00 {D : va_G} {cl : List vw_C} {ws : va_W} {H : Heap} (hP : va_P D cl ws H) {x : Nat × va_E} (hx : x ∈ ws) : ¬ va_A [] H.size x.1 := by
  obtain ⟨i, hi⟩ := List.getElem?_of_mem hx
  exact y_out0 hP hi
theorem SH_row : ∀ j, j < 67 → ∃ q, (SH 9)[j]? = some q ∧ q.length = sl j ∧ ∀ k, k < sl j → lf q k = sr j k := by
  have h : ∀ j, j < 67 → ((SH 9)[j]?.map (fun q => decide (q.length = sl j) && (List.range (sl j)).all (fun k => decide (lf q k = sr j k)))) = some true := by decide +kernel
  intro j hj
  have h1 := h j hj
  cases hq : (SH 9)[j]? with
  | none => rw [hq] at h1; cases h1
  | some q =>
    rw [hq] at h1
    have h2 := Bool.and_eq_true_iff.mp (Option.some.inj h1)
    exact ⟨q, rfl, of_decide_eq_true h2.1, fun k hk => of_decide_eq_true (List.all_eq_true.mp h2.2 k (List.mem_range.mpr hk))⟩
theorem zA_of {D : va_G} {cyI cyJ cyB cyQ : ClassId} {s : State} {H : Heap} {W E1 : va_W} {ws : va_W} {al : Nat} {B : Nat → Nat} {A1 : Nat → Prop} (hK : va_K D xcl (ytys cyI cyJ cyB cyQ) s) (hP : va_P D xcl ws H) (he : ws = W ++ (EA cyI cyQ al B ++ E1)) (hn : ∀ x ∈ EA cyI cyQ al B, ¬ A1 x.1) : ZA al B A1 s H := by
  have mem : ∀ x ∈ EA cyI cyQ al B, ∃ i : Nat, ws[i]? = some x := fun x hx => List.getElem?_of_mem (by rw [he]; exact List.mem_append_right _ (List.mem_append_left _ hx))
  refine ⟨?_, fun j hj => ?_⟩
  · have hm : qc cyQ al 67 (rfB 67 B) ∈ EA cyI cyQ al B := List.mem_append_left _ List.mem_cons_self
    obtain ⟨i, hi⟩ := mem _ hm
    exact (y_Tq hK hP i 3 hi rfl (hn _ hm)).cong (fun j hj => by show va_rf (rfB 67 B j) = _; unfold rfB; rw [if_pos hj]; rfl)
  · obtain ⟨q, hq, hlen, hrow⟩ := SH_row j hj
    have hm : ic cyI (B j) q.length (lf q) ∈ EA cyI cyQ al B := by
      refine List.mem_append_right _ (List.mem_of_getElem? (i := j) ?_)
      have := pw_get cyI B (SH 9) 0 j q hq
      rw [Nat.zero_add] at this
      exact this
    obtain ⟨i, hi⟩ := mem _ hm
    have h := y_T hK hP i 0 hi rfl (hn _ hm)
    rw [hlen] at h
    exact h.cong (fun k hk => congrArg Value.int (hrow k hk))
theorem zG_of {D : va_G} {cyI cyJ cyB cyQ : ClassId} {s : State} {H : Heap} {W E0 : va_W} {ws : va_W} {tq n : Nat} {A1 : Nat → Prop} (hK : va_K D xcl (ytys cyI cyJ cyB cyQ) s) (hP : va_P D xcl ws H) (he : ws = W ++ (E0 ++ ET cyI cyQ tq n)) (hn : ∀ x ∈ ET cyI cyQ tq n, ¬ A1 x.1) : ZG tq (qz_N n) (tb n) A1 s H := by
  have mem : ∀ x ∈ ET cyI cyQ tq n, ∃ i : Nat, ws[i]? = some x := fun x hx => List.getElem?_of_mem (by rw [he]; exact List.mem_append_right _ (List.mem_append_right _ hx))
  refine ⟨?_, fun j hj => ?_⟩
  · have hm : qc cyQ tq (qz_N n) (grB tq (qz_N n)) ∈ ET cyI cyQ tq n := List.mem_append_left _ List.mem_cons_self
    obtain ⟨i, hi⟩ := mem _ hm
    exact (y_Tq hK hP i 3 hi rfl (hn _ hm)).cong (fun j hj => by show va_rf (grB tq (qz_N n) j) = _; unfold grB; rw [if_pos hj]; rfl)
  · have hm : ic cyI (tq + 1 + j) (qz_N n) (tb n j) ∈ ET cyI cyQ tq n := List.mem_append_right _ (List.mem_map.mpr ⟨j, List.mem_range.mpr hj, rfl⟩)
    obtain ⟨i, hi⟩ := mem _ hm
    exact y_T hK hP i 0 hi rfl (hn _ hm)
theorem y_base {D : va_G} {A : Nat → Prop} {W E : va_W} {H : Heap} (hP : va_P D xcl (W ++ E) H) (hD : va_D A (W ++ E)) : va_P D xcl (W ++ ([] ++ [])) H ∧ va_D (va_A W H.size) (W ++ ([] ++ [])) := by
  have h := y_sub hP hD (List.sublist_append_left W E)
  have hD2 : va_D (va_A W H.size) W := ⟨h.2.1, fun k q hq => Or.inl ⟨k, q.2, hq⟩⟩
  rw [show W ++ (([] : va_W) ++ []) = W from List.append_nil W]
  exact ⟨h.1, hD2⟩
set_option maxHeartbeats 16000000 in
set_option maxRecDepth 20000 in
theorem law_8 {p0 : Program} {l : Launch} {e : Env} {s : State} {m : MethodId} {below : List Frame} {meth : Method} {c : Code} {b : Nat} {D : va_G} {cyI cyJ cyB cyQ : ClassId} {G a g kk kv : Nat → Nat} {L : Nat} {xs : Nat → Int32} {A : Nat → Prop} (C0 : LC8 p0 s m b meth c D cyI cyJ cyB cyQ G g kk kv L xs A) {σ : CS} (hR : Rc σ (fun _ => none) []) {H : Heap} {locs : List Loc} {ls : Array Slot} (hP : va_P D xcl (wdS a cyI cyJ σ ++ []) H) (hD : va_D A (wdS a cyI cyJ σ ++ [])) (hS : va_S A s.heap H locs) (hl : lv_has ls 28 [(0, .ref b), (1, .ref (a 0))]) : W p0 l e room_1 s m #[Value.ref b] below meth c H locs 28 7679 (lw_Z below #[Value.ref b] s) (F0 m 8 ls []) := by
  have C1 := C0
  obtain ⟨Cx, hAs, hL⟩ := C1
  have Cx1 := Cx
  obtain ⟨⟨hx, hb, hml, hown, hts⟩, hr, hlocks, hK, hA, hT⟩ := Cx1
  refine yr_r Cx hP hD hS (yq_new (S := Nat × (Nat → Nat)) (wdS a cyI cyJ σ ++ []) (fun u => [qc cyQ u.1 67 (rfB 67 u.2)] ++ pw cyI u.2 0 (SH 9)) 68 (fun u => by rw [List.length_append, pw_len, SH_9]; rfl)) (yx_S (n := 0) (As := []) (rest := []) Cx hP hD hS hl (yq_new (S := Nat × (Nat → Nat)) (wdS a cyI cyJ σ ++ []) (fun u => [qc cyQ u.1 67 (rfB 67 u.2)] ++ pw cyI u.2 0 (SH 9)) 68 (fun u => by rw [List.length_append, pw_len, SH_9]; rfl)) hK fz_ZO (fun hF => (fz_give fz_ZO hT.2.1 hS hF)) (c_L_shapes l D cyI cyJ cyB cyQ H.size) pk_L_shapes mw_3_163 ⟨rfl, rfl, Nat.le_of_ble_eq_true rfl, Nat.le_of_ble_eq_true rfl⟩ rfl rfl (Nat.le_of_ble_eq_true rfl) ⟨Nat.le_of_ble_eq_true rfl, Nat.le_of_ble_eq_true rfl⟩ dL_law_8) (fun u0 H locs hp hP hD hS => ?_)
  have hP : va_P D xcl ((wdS a cyI cyJ σ ++ []) ++ ([qc cyQ u0.1 67 (rfB 67 u0.2)] ++ pw cyI u0.2 0 (SH 9))) H := hP
  have hD : va_D A ((wdS a cyI cyJ σ ++ []) ++ ([qc cyQ u0.1 67 (rfB 67 u0.2)] ++ pw cyI u0.2 0 (SH 9))) := hD
  obtain ⟨al, B⟩ := u0
  have hP : va_P D xcl (wdS a cyI cyJ σ ++ EA cyI cyQ al B) H := by rw [List.append_nil] at hP; exact hP
  have hD : va_D A (wdS a cyI cyJ σ ++ EA cyI cyQ al B) := by rw [List.append_nil] at hD; exact hD
  refine lv_astore_n (lv' := [(2, .ref al), (0, .ref b), (1, .ref (a 0))]) hx hb dL_law_11 rfl hl (by decide) rfl (fun ls hl => ?_)
  refine lv_aload_n hx hb dL_law_12 rfl (lv_at hl 1 rfl) ?_
  refine lv_iconst (v := (0 : Int32)) hx hb dL_law_13 (by decide) ?_
  refine yr_i Cx hP hD hS (yq_none (S := Unit) (wdS a cyI cyJ σ ++ (EA cyI cyQ al B))) (yx_S (n := 2) (As := [.ref b, .int (0 : Int32)]) (rest := []) Cx hP hD hS hl (yq_none (S := Unit) (wdS a cyI cyJ σ ++ (EA cyI cyQ al B))) hK (fz_ZI b L xs) (fun hF => (fz_give (fz_ZI b L xs) hT.2.2.2.2.1 hS hF)) (c_L_cell l D cyI cyJ cyB cyQ H.size b L xs 0 (by omega) (by omega)) pk_L_cell mw_3_159 ⟨rfl, rfl, Nat.le_of_ble_eq_true rfl, Nat.le_of_ble_eq_true rfl⟩ rfl rfl (Nat.le_of_ble_eq_true rfl) ⟨(show (28 + 77) + 0 ≤ (600000 : Nat) by omega), (show (7679 + 683) + 0 ≤ (7302250 : Nat) by omega)⟩ dL_law_14) (fun r_2 u_341 H locs hp hP hD hS => ?_)
  have hP : va_P D xcl (wdS a cyI cyJ σ ++ (EA cyI cyQ al B)) H := hP
  have hD : va_D A (wdS a cyI cyJ σ ++ (EA cyI cyQ al B)) := hD
  rw [show r_2 = (cel L xs 0) from hp]
  refine lv_iconst (v := (1 : Int32)) hx hb dL_law_17 (by decide) ?_
  refine lv_iushr (v := (((Int32.toUInt32 (cel L xs 0)) >>> ((Int32.toUInt32 (1 : Int32)) &&& Int32.toUInt32 31)).toInt32)) hx hb dL_law_18 rfl ?_
  rw [show (((Int32.toUInt32 (cel L xs 0)) >>> ((Int32.toUInt32 (1 : Int32)) &&& Int32.toUInt32 31)).toInt32) = (nI (hlf (cel L xs 0))) from hlf_eq _]
  have hh := hlf_lt (cel L xs 0)
  refine lv_bipush (v := (8 : Int32)) hx hb dL_law_19 (by decide) ?_
  refine lv_irem hx hb dL_law_21 (by decide) ?_
  rw [show ((nI (hlf (cel L xs 0))) - (nI (hlf (cel L xs 0))) / (8 : Int32) * (8 : Int32)) = (nI ((hlf (cel L xs 0)) % 8)) from pk_rem (a := (hlf (cel L xs 0))) (d := 8) (by omega) (by decide) (by decide)]
  obtain ⟨n, hne⟩ : ∃ n, n = (hlf (cel L xs 0)) % 8 := ⟨_, rfl⟩
  rw [← hne]
  have hn : n < 8 := by rw [hne]; exact Nat.mod_lt _ (by decide)
  obtain ⟨hD1, hD2, hD3⟩ := D_small n hn
  refine lv_istore_n (lv' := [(3, .int (nI n)), (2, .ref al), (0, .ref b), (1, .ref (a 0))]) hx hb dL_law_22 rfl hl (by decide) rfl (fun ls hl => ?_)
  refine lv_iload_n hx hb dL_law_23 rfl (lv_at hl 0 rfl) ?_
  refine yr_i Cx hP hD hS (yq_none (S := Unit) (wdS a cyI cyJ σ ++ (EA cyI cyQ al B))) (yx_S (n := 1) (As := [.int (nI n)]) (rest := []) Cx hP hD hS hl (yq_none (S := Unit) (wdS a cyI cyJ σ ++ (EA cyI cyQ al B))) hK fz_0 (fun hF => trivial) (c_L_first l D cyI cyJ cyB cyQ H.size n (by omega)) pk_L_first mw_3_176 ⟨rfl, rfl, Nat.le_of_ble_eq_true rfl, Nat.le_of_ble_eq_true rfl⟩ rfl rfl (Nat.le_of_ble_eq_true rfl) ⟨(show (28 + 77) + 1 ≤ (600000 : Nat) by omega), (show (7679 + 683) + 10 ≤ (7302250 : Nat) by omega)⟩ dL_law_24) (fun r_3 u_342 H locs hp hP hD hS => ?_)
  have hP : va_P D xcl (wdS a cyI cyJ σ ++ (EA cyI cyQ al B)) H := hP
  have hD : va_D A (wdS a cyI cyJ σ ++ (EA cyI cyQ al B)) := hD
  rw [show r_3 = nI (qz_D n) from hp]
  refine lv_istore (lv' := [(4, .int (nI (qz_D n))), (3, .int (nI n)), (2, .ref al), (0, .ref b), (1, .ref (a 0))]) hx hb dL_law_27 hl (by decide) rfl (fun ls hl => ?_)
  refine lv_iload_n hx hb dL_law_29 rfl (lv_at hl 1 rfl) ?_
  refine lv_iconst (v := (1 : Int32)) hx hb dL_law_30 (by decide) ?_
  refine lv_iadd hx hb dL_law_31 ?_
  rw [show ((nI n) + (1 : Int32)) = (nI (n + 1)) from nI_add n 1]
  refine yr_i Cx hP hD hS (yq_none (S := Unit) (wdS a cyI cyJ σ ++ (EA cyI cyQ al B))) (yx_S (n := 1) (As := [.int (nI (n + 1))]) (rest := []) Cx hP hD hS hl (yq_none (S := Unit) (wdS a cyI cyJ σ ++ (EA cyI cyQ al B))) hK fz_0 (fun hF => trivial) (c_L_first l D cyI cyJ cyB cyQ H.size (n + 1) (by omega)) pk_L_first mw_3_176 ⟨rfl, rfl, Nat.le_of_ble_eq_true rfl, Nat.le_of_ble_eq_true rfl⟩ rfl rfl (Nat.le_of_ble_eq_true rfl) ⟨(show ((28 + 77) + 1) + 1 ≤ (600000 : Nat) by omega), (show ((7679 + 683) + 10) + 10 ≤ (7302250 : Nat) by omega)⟩ dL_law_32) (fun r_4 u_343 H locs hp hP hD hS => ?_)
  have hP : va_P D xcl (wdS a cyI cyJ σ ++ (EA cyI cyQ al B)) H := hP
  have hD : va_D A (wdS a cyI cyJ σ ++ (EA cyI cyQ al B)) := hD
  rw [show r_4 = nI (qz_D (n + 1)) from hp]
  refine lv_iload hx hb dL_law_35 (lv_at hl 0 rfl) ?_
  refine lv_isub hx hb dL_law_37 ?_
  rw [show ((nI (qz_D (n + 1))) - (nI (qz_D n))) = (nI (qz_D (n + 1) - qz_D n)) from nI_subN (a := qz_D (n + 1)) (b := qz_D n) (by omega)]
  rw [show (nI (qz_D (n + 1) - qz_D n)) = nI (qz_N n) from rfl]
  refine lv_istore (lv' := [(5, .int (nI (qz_N n))), (4, .int (nI (qz_D n))), (3, .int (nI n)), (2, .ref al), (0, .ref b), (1, .ref (a 0))]) hx hb dL_law_38 hl (by decide) rfl (fun ls hl => ?_)
  refine lv_aload_n hx hb dL_law_40 rfl (lv_at hl 3 rfl) ?_
  refine lv_iload_n hx hb dL_law_41 rfl (lv_at hl 2 rfl) ?_
  refine yr_r Cx hP hD hS (yq_new (S := Nat) (wdS a cyI cyJ σ ++ EA cyI cyQ al B) (fun u => ET cyI cyQ u n) (qz_N n + 1) (fun u => ET_len cyI cyQ u n)) (yx_S (n := 2) (As := [.ref al, .int (nI n)]) (rest := []) Cx hP hD hS hl (yq_new (S := Nat) (wdS a cyI cyJ σ ++ EA cyI cyQ al B) (fun u => ET cyI cyQ u n) (qz_N n + 1) (fun u => ET_len cyI cyQ u n)) hK (fz_and (fz_ZA al B) (fz_and (fz_ZJ g) fz_ZO)) (fun hF => ⟨zA_of hK hP (E1 := []) rfl (fun x hx => y_out00 hP (List.mem_append_right _ hx)), fz_give (fz_ZJ g) hT.2.2.1 hS hF, fz_give fz_ZO hT.2.1 hS hF⟩) (c_L_table l D cyI cyJ cyB cyQ H.size al n B g hn) pk_L_table mw_3_203 ⟨rfl, rfl, Nat.le_of_ble_eq_true rfl, Nat.le_of_ble_eq_true rfl⟩ rfl rfl (Nat.le_of_ble_eq_true rfl) ⟨(show (((28 + 77) + 1) + 1) + 620 ≤ (600000 : Nat) by omega), (show (((7679 + 683) + 10) + 10) + 6300 ≤ (7302250 : Nat) by omega)⟩ dL_law_42) (fun tq H locs hp hP hD hS => ?_)
  have hP : va_P D xcl ((wdS a cyI cyJ σ ++ EA cyI cyQ al B) ++ ET cyI cyQ tq n) H := hP
  have hD : va_D A ((wdS a cyI cyJ σ ++ EA cyI cyQ al B) ++ ET cyI cyQ tq n) := hD
  rw [List.append_assoc] at hP hD
  have hP : va_P D xcl (wdS a cyI cyJ σ ++ (EA cyI cyQ al B ++ ET cyI cyQ tq n)) H := hP
  have hD : va_D A (wdS a cyI cyJ σ ++ (EA cyI cyQ al B ++ ET cyI cyQ tq n)) := hD
  refine lv_astore (lv' := [(6, .ref tq), (5, .int (nI (qz_N n))), (4, .int (nI (qz_D n))), (3, .int (nI n)), (2, .ref al), (0, .ref b), (1, .ref (a 0))]) hx hb dL_law_45 hl (by decide) rfl (fun ls hl => ?_)
  refine lv_iload_n hx hb dL_law_47 rfl (lv_at hl 3 rfl) ?_
  refine yr_i Cx hP hD hS (yq_none (S := Unit) (wdS a cyI cyJ σ ++ (EA cyI cyQ al B ++ ET cyI cyQ tq n))) (yx_S (n := 1) (As := [.int (nI n)]) (rest := []) Cx hP hD hS hl (yq_none (S := Unit) (wdS a cyI cyJ σ ++ (EA cyI cyQ al B ++ ET cyI cyQ tq n))) hK fz_0 (fun hF => trivial) (c_L_times l D cyI cyJ cyB cyQ 8 n H.size (by omega) (by omega)) pk_L_times mw_3_182 ⟨rfl, rfl, Nat.le_of_ble_eq_true rfl, Nat.le_of_ble_eq_true rfl⟩ rfl rfl (Nat.le_of_ble_eq_true rfl) ⟨(show ((((28 + 77) + 1) + 1) + 620) + 0 ≤ (600000 : Nat) by omega), (show ((((7679 + 683) + 10) + 10) + 6300) + 0 ≤ (7302250 : Nat) by omega)⟩ dL_law_48) (fun r_6 u_344 H locs hp hP hD hS => ?_)
  have hP : va_P D xcl (wdS a cyI cyJ σ ++ (EA cyI cyQ al B ++ ET cyI cyQ tq n)) H := hP
  have hD : va_D A (wdS a cyI cyJ σ ++ (EA cyI cyQ al B ++ ET cyI cyQ tq n)) := hD
  rw [show r_6 = xi_FACTORIALS n from hp]
  refine lv_i2l (v := Int32.toInt64 (xi_FACTORIALS n)) hx hb dL_law_51 rfl ?_
  refine lv_lstore (lv' := [(7, .long (Int32.toInt64 (xi_FACTORIALS n))), (6, .ref tq), (5, .int (nI (qz_N n))), (4, .int (nI (qz_D n))), (3, .int (nI n)), (2, .ref al), (0, .ref b), (1, .ref (a 0))]) hx hb dL_law_52 hl (by decide) rfl (fun ls hl => ?_)
  refine W.widen (k := 800) (n := 20000) (by omega) (by omega) ?_
  refine va_forget (fun q hq => hAs _ (hS.2.2 q hq)) ?_
  have hF : ∀ q, va_A (wdS a cyI cyJ σ) H.size q → A q := va_A_front (D := D) (cl := xcl) hD hS hA
  have hX : LCx p0 s m b meth c D cyI cyJ cyB cyQ G g kk kv B al tq L n xs (va_A (wdS a cyI cyJ σ) H.size) H := ⟨⟨⟨hx, hb, hml, hown, hts⟩, hr, hlocks, hK, fun q hq => Or.inr hq, ⟨fz_give (fz_xs G) hT.1 hS hF, zA_of hK hP (E1 := ET cyI cyQ tq n) rfl (fun x hx => va_A_tail hP hD (List.mem_append_left _ hx)), fz_give (fz_ZJ g) hT.2.2.1 hS hF, fz_give (fz_ZK kk kv) hT.2.2.2.1 hS hF, fz_give (fz_ZI b L xs) hT.2.2.2.2.1 hS hF, zG_of hK hP rfl (fun x hx => va_A_tail hP hD (List.mem_append_right _ hx))⟩⟩, fun q hq => hAs _ (hF q hq), hn, hL⟩
  have hPD := y_base (W := wdS a cyI cyJ σ) hP hD
  obtain ⟨hP, hD⟩ := hPD
  exact law_54 (E1 := []) hX hR hP hD va_S.rf (lv_sub hl [6, 7, 5, 4, 3, 2, 1, 0] rfl)
