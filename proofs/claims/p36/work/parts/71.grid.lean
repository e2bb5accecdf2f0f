/-! grids: rows of one length, one behind another -/
def gw (cyI : ClassId) (q N M : Nat) (F : Nat → Nat → Int32) : va_W := (List.range N).map (fun j => ic cyI (q + 1 + j) M (F j))
theorem gw_get (cyI : ClassId) (q N M : Nat) (F : Nat → Nat → Int32) {a : Nat} (h : a < N) : (gw cyI q N M F)[a]? = some (ic cyI (q + 1 + a) M (F a)) := by
  unfold gw
  rw [List.getElem?_map, List.getElem?_range h]
  rfl
theorem gw_set (cyI : ClassId) (q N M : Nat) (F : Nat → Nat → Int32) {a : Nat} (h : a < N) (g : Nat → Int32) : (gw cyI q N M F).set a (ic cyI (q + 1 + a) M g) = gw cyI q N M (fun j => if j = a then g else F j) := by
  refine List.ext_getElem? fun i => ?_
  rw [List.getElem?_set]
  by_cases e : a = i
  · subst e
    rw [if_pos rfl, if_pos (by unfold gw; simpa using h), gw_get cyI q N M _ h, if_pos rfl]
  · rw [if_neg e]
    by_cases hi : i < N
    · rw [gw_get cyI q N M _ hi, gw_get cyI q N M _ hi, if_neg (fun q => e q.symm)]
    · unfold gw
      rw [List.getElem?_eq_none (by simpa using hi), List.getElem?_eq_none (by simpa using hi)]
def grB (q N : Nat) : Nat → Option Nat := fun j => if j < N then some (q + 1 + j) else none
/-- the table of characters of size n, and as far as it has been filled -/
def tb (n a b : Nat) : Int32 := cha (sr (qz_D n + a)) (sl (qz_D n + a)) (sc (qz_D n + b)) (sl (qz_D n + b))
def tbF (n a b : Nat) : Nat → Nat → Int32 := fun i j => if i < a ∨ (i = a ∧ j < b) then tb n i j else 0
theorem tbF_upd (n a b : Nat) : (fun i => if i = a then upd (tbF n a b a) b (tb n a b) else tbF n a b i) = tbF n a (b + 1) := by
  funext i j
  by_cases e : i = a
  · subst e
    show (if i = i then _ else _ : Nat → Int32) j = _
    rw [if_pos rfl]
    unfold upd tbF
    by_cases ej : j = b
    · subst ej
      rw [if_pos rfl, if_pos (Or.inr ⟨rfl, Nat.lt_succ_self _⟩)]
    · rw [if_neg ej]
      by_cases hj : j < b
      · rw [if_pos (Or.inr ⟨rfl, hj⟩), if_pos (Or.inr ⟨rfl, by omega⟩)]
      · rw [if_neg (by omega), if_neg (by omega)]
  · show (if i = a then _ else _ : Nat → Int32) j = _
    rw [if_neg e]
    unfold tbF
    by_cases hi : i < a
    · rw [if_pos (Or.inl hi), if_pos (Or.inl hi)]
    · rw [if_neg (by omega), if_neg (by omega)]
theorem tbF_0 (n : Nat) : tbF n 0 0 = fun _ _ => 0 := by
  funext i j
  exact if_neg (by omega)
theorem gw_cong (cyI : ClassId) (q N M : Nat) {F F' : Nat → Nat → Int32} (h : ∀ j, j < N → F j = F' j) : gw cyI q N M F = gw cyI q N M F' := by
  unfold gw
  refine List.map_congr_left fun j hj => ?_
  rw [h j (by simpa using hj)]
theorem gw_ext {D : va_G} {cl : List vw_C} {A : Nat → Prop} {cyI : ClassId} {c : Nat × va_E} {q N M : Nat} {F F' : Nat → Nat → Int32} {H : Heap} (h : va_P D cl (c :: gw cyI q N M F) H ∧ va_D A (c :: gw cyI q N M F)) (e : ∀ i j, i < N → j < M → F i j = F' i j) : va_P D cl (c :: gw cyI q N M F') H ∧ va_D A (c :: gw cyI q N M F') := by
  obtain ⟨hP, hD⟩ := h
  constructor
  · intro k x hk
    cases k with
    | zero => exact hP 0 x hk
    | succ k =>
      have hk' : (gw cyI q N M F')[k]? = some x := hk
      have hlt : k < N := by
        have := (List.getElem?_eq_some_iff.mp hk').1
        unfold gw at this
        simpa using this
      rw [gw_get cyI q N M F' hlt] at hk'
      cases hk'
      have h1 : H[q + 1 + k]? = some (vp_cell cyI (M, .inl (F k))) := hP (k + 1) _ (gw_get cyI q N M F hlt)
      rw [y_iext (fun j hj => e k j hlt hj)] at h1
      exact h1
  · rw [y_D_iff] at hD ⊢
    have e2 : (c :: gw cyI q N M F).map (fun x => x.1) = (c :: gw cyI q N M F').map (fun x => x.1) := by
      unfold gw
      rw [List.map_cons, List.map_cons, List.map_map, List.map_map]
      rfl
    refine ⟨by rw [← e2]; exact hD.1, fun x hx => ?_⟩
    have hm : x.1 ∈ (c :: gw cyI q N M F).map (fun x => x.1) := by rw [e2]; exact List.mem_map_of_mem hx
    obtain ⟨y, hy, ey⟩ := List.mem_map.mp hm
    rw [← ey]
    exact hD.2 y hy
section YG
variable {p : Program} {l : Launch} {e : Env} {R : Room} {s : State} {m : MethodId} {args : Array Value} {below : List Frame} {meth : Method} {c : Code} {H H0 : Heap} {locs : List Loc} {cells slots : Nat} {Q : State → Prop}
variable {cc : ByteArray} {pc : Nat} {ls : Array Slot} {rest : List Value} {D : va_G} {cl : List vw_C} {A : Nat → Prop} {a : Nat} {tys : List (ClassId × FieldType)} {ws : va_W}
theorem y_aldA (hexec : p.tables.exec = Jvm.exec) (hb : c.code = cc) (hK : va_K D cl tys s) (hP : va_P D cl ws H) (q0 t0 : Nat) {cA : ClassId} {n v : Nat} {f : Nat → Option Nat} (ha : ws[q0]? = some (qc cA a n f)) (ht : tys[t0]? = some (cA, .array .int)) {i : Int32} (hin : vp_in i n) (hv : f i.toNatClampNeg = some v) (hdg : decode cc pc = .ok (.aaload, 1))
    (kk : W p l e R s m args below meth c H locs cells slots Q (F0 m (pc + 1) ls (.ref v :: rest))) : W p l e R s m args below meth c H locs cells slots Q (F0 m pc ls (.int i :: .ref a :: rest)) := by
  have hlt : i.toNatClampNeg < n := Nat.not_le.mp fun q => hin (Or.inr q)
  exact W.aald (v := .ref v) (ty := .array .int) hexec hb (hP q0 _ ha) ((hK.2 t0 _ ht).1 n (fun j => va_rf (f j))) rfl (fun q => by cases q) (by show ¬ (i < 0 ∨ (arrV _ _ _).slots.size ≤ _); rw [arrV_size]; exact hin) (by show (arrV _ _ _).slots[_]? = _; rw [arrV_read _ _ hlt, hv]; rfl) rfl rfl hdg kk
end YG
theorem dL_shapes_0 : decode cL_shapes 0 = .ok (.bipush 67, 2) := by decide +kernel
theorem dL_shapes_2 : decode cL_shapes 2 = .ok (.anewarray 26, 3) := by decide +kernel
theorem dL_shapes_5 : decode cL_shapes 5 = .ok (.astore_n 0, 1) := by decide +kernel
theorem dL_shapes_6 : decode cL_shapes 6 = .ok (.iconst 0, 1) := by decide +kernel
theorem dL_shapes_7 : decode cL_shapes 7 = .ok (.istore_n 1, 1) := by decide +kernel
theorem dL_shapes_8 : decode cL_shapes 8 = .ok (.iconst 0, 1) := by decide +kernel
theorem dL_shapes_9 : decode cL_shapes 9 = .ok (.istore_n 2, 1) := by decide +kernel
theorem dL_shapes_10 : decode cL_shapes 10 = .ok (.iload_n 2, 1) := by decide +kernel
theorem dL_shapes_11 : decode cL_shapes 11 = .ok (.bipush 9, 2) := by decide +kernel
theorem dL_shapes_13 : decode cL_shapes 13 = .ok (.if_icmp .ge 22, 3) := by decide +kernel
theorem dL_shapes_16 : decode cL_shapes 16 = .ok (.aload_n 0, 1) := by decide +kernel
theorem dL_shapes_17 : decode cL_shapes 17 = .ok (.iload_n 1, 1) := by decide +kernel
theorem dL_shapes_18 : decode cL_shapes 18 = .ok (.bipush 8, 2) := by decide +kernel
theorem dL_shapes_20 : decode cL_shapes 20 = .ok (.newarray .int, 2) := by decide +kernel
theorem dL_shapes_22 : decode cL_shapes 22 = .ok (.iconst 0, 1) := by decide +kernel
theorem dL_shapes_23 : decode cL_shapes 23 = .ok (.iload_n 2, 1) := by decide +kernel
theorem dL_shapes_24 : decode cL_shapes 24 = .ok (.iload_n 2, 1) := by decide +kernel
theorem dL_shapes_25 : decode cL_shapes 25 = .ok (.invokestatic 20, 3) := by decide +kernel
theorem dL_shapes_28 : decode cL_shapes 28 = .ok (.istore_n 1, 1) := by decide +kernel
theorem dL_shapes_29 : decode cL_shapes 29 = .ok (.iinc 2 1, 3) := by decide +kernel
theorem dL_shapes_32 : decode cL_shapes 32 = .ok (.goto (-22), 3) := by decide +kernel
theorem dL_shapes_35 : decode cL_shapes 35 = .ok (.aload_n 0, 1) := by decide +kernel
theorem dL_shapes_36 : decode cL_shapes 36 = .ok (.areturn, 1) := by decide +kernel
theorem dL_table_0 : decode cL_table 0 = .ok (.iload_n 1, 1) := by decide +kernel
theorem dL_table_1 : decode cL_table 1 = .ok (.iconst 1, 1) := by decide +kernel
theorem dL_table_2 : decode cL_table 2 = .ok (.iadd, 1) := by decide +kernel
theorem dL_table_3 : decode cL_table 3 = .ok (.invokestatic 45, 3) := by decide +kernel
theorem dL_table_6 : decode cL_table 6 = .ok (.iload_n 1, 1) := by decide +kernel
theorem dL_table_7 : decode cL_table 7 = .ok (.invokestatic 45, 3) := by decide +kernel
theorem dL_table_10 : decode cL_table 10 = .ok (.isub, 1) := by decide +kernel
theorem dL_table_11 : decode cL_table 11 = .ok (.istore_n 2, 1) := by decide +kernel
theorem dL_table_12 : decode cL_table 12 = .ok (.iload_n 2, 1) := by decide +kernel
theorem dL_table_13 : decode cL_table 13 = .ok (.iload_n 2, 1) := by decide +kernel
theorem dL_table_14 : decode cL_table 14 = .ok (.multianewarray 48 2, 4) := by decide +kernel
theorem dL_table_18 : decode cL_table 18 = .ok (.astore_n 3, 1) := by decide +kernel
theorem dL_table_19 : decode cL_table 19 = .ok (.iconst 0, 1) := by decide +kernel
theorem dL_table_20 : decode cL_table 20 = .ok (.istore 4, 2) := by decide +kernel
theorem dL_table_22 : decode cL_table 22 = .ok (.iload 4, 2) := by decide +kernel
theorem dL_table_24 : decode cL_table 24 = .ok (.iload_n 2, 1) := by decide +kernel
theorem dL_table_25 : decode cL_table 25 = .ok (.if_icmp .ge 52, 3) := by decide +kernel
theorem dL_table_28 : decode cL_table 28 = .ok (.iconst 0, 1) := by decide +kernel
theorem dL_table_29 : decode cL_table 29 = .ok (.istore 5, 2) := by decide +kernel
theorem dL_table_31 : decode cL_table 31 = .ok (.iload 5, 2) := by decide +kernel
theorem dL_table_33 : decode cL_table 33 = .ok (.iload_n 2, 1) := by decide +kernel
theorem dL_table_34 : decode cL_table 34 = .ok (.if_icmp .ge 37, 3) := by decide +kernel
theorem dL_table_37 : decode cL_table 37 = .ok (.aload_n 3, 1) := by decide +kernel
theorem dL_table_38 : decode cL_table 38 = .ok (.iload 4, 2) := by decide +kernel
theorem dL_table_40 : decode cL_table 40 = .ok (.aaload, 1) := by decide +kernel
theorem dL_table_41 : decode cL_table 41 = .ok (.iload 5, 2) := by decide +kernel
theorem dL_table_43 : decode cL_table 43 = .ok (.aload_n 0, 1) := by decide +kernel
theorem dL_table_44 : decode cL_table 44 = .ok (.iload_n 1, 1) := by decide +kernel
theorem dL_table_45 : decode cL_table 45 = .ok (.invokestatic 45, 3) := by decide +kernel
theorem dL_table_48 : decode cL_table 48 = .ok (.iload 4, 2) := by decide +kernel
theorem dL_table_50 : decode cL_table 50 = .ok (.iadd, 1) := by decide +kernel
theorem dL_table_51 : decode cL_table 51 = .ok (.aaload, 1) := by decide +kernel
theorem dL_table_52 : decode cL_table 52 = .ok (.aload_n 0, 1) := by decide +kernel
theorem dL_table_53 : decode cL_table 53 = .ok (.iload_n 1, 1) := by decide +kernel
theorem dL_table_54 : decode cL_table 54 = .ok (.invokestatic 45, 3) := by decide +kernel
theorem dL_table_57 : decode cL_table 57 = .ok (.iload 5, 2) := by decide +kernel
theorem dL_table_59 : decode cL_table 59 = .ok (.iadd, 1) := by decide +kernel
theorem dL_table_60 : decode cL_table 60 = .ok (.aaload, 1) := by decide +kernel
theorem dL_table_61 : decode cL_table 61 = .ok (.invokestatic 50, 3) := by decide +kernel
theorem dL_table_64 : decode cL_table 64 = .ok (.iastore, 1) := by decide +kernel
theorem dL_table_65 : decode cL_table 65 = .ok (.iinc 5 1, 3) := by decide +kernel
theorem dL_table_68 : decode cL_table 68 = .ok (.goto (-37), 3) := by decide +kernel
theorem dL_table_71 : decode cL_table 71 = .ok (.iinc 4 1, 3) := by decide +kernel
theorem dL_table_74 : decode cL_table 74 = .ok (.goto (-52), 3) := by decide +kernel
theorem dL_table_77 : decode cL_table 77 = .ok (.aload_n 3, 1) := by decide +kernel
theorem dL_table_78 : decode cL_table 78 = .ok (.areturn, 1) := by decide +kernel
theorem pk_L_shapes : xk_S yL_shapes cL_shapes 3 (some (.array (.array .int))) 0 := ⟨mw_3_164, mw_1_0, mw_3_165, by decide +kernel⟩
theorem pk_L_table : xk_S yL_table cL_table 6 (some (.array (.array .int))) 2 := ⟨mw_3_204, mw_1_0, mw_3_205, by decide +kernel⟩
set_option maxHeartbeats 8000000 in
set_option maxRecDepth 20000 in
theorem c_L_shapes (l : Launch) (D : va_G) (cyI cyJ cyB cyQ : ClassId) (sz : Nat) : ym_r (S := Nat × (Nat → Nat)) l yL_shapes (Cond.code yL_shapes cL_shapes 3 (some (.array (.array .int))) :: xg_tbl) { frames := 10, cells := 77, slots := 683, locals := 400 } D xcl (ytys cyI cyJ cyB cyQ) ZO sz [] [] (fun _ => True) (fun u => u.1) (fun u => [(qc cyQ u.1 67 (rfB 67 u.2))] ++ pw cyI u.2 0 (SH 9)) 77 683 := by
  refine ym_of (own := RL) (by decide) rfl rfl (Nat.le_of_ble_eq_true rfl) ?_
  intro p0 e s m args below meth c ls Q A H hQ hAe hH hin Cx hsz hP hD hS hl
  have Cx1 := Cx
  obtain ⟨⟨hx, hb, hml, hown, hts⟩, hr, hlocks, hK, hA, hT⟩ := Cx1
  have hl : lv_has ls 3 [] := hl
  refine lv_bipush (v := (67 : Int32)) hx hb dL_shapes_0 (by decide) ?_
  refine y_newA (N' := 67) hx hb hown (hts _ mw_3_166) (ZO_use hT) hK hP hD hS hA (by decide) (by decide) (by decide) (show 0 + 1 ≤ (77 : Nat) by omega) (show 0 + 67 ≤ (683 : Nat) by omega) dL_shapes_2 (fun al H hP hD hS => ?_)
  refine lv_astore_n (lv' := [(0, .ref al)]) hx hb dL_shapes_5 rfl hl (by decide) rfl (fun ls hl => ?_)
  refine lv_iconst (v := (0 : Int32)) hx hb dL_shapes_6 (by decide) ?_
  refine lv_istore_n (lv' := [(1, .int (0 : Int32)), (0, .ref al)]) hx hb dL_shapes_7 rfl hl (by decide) rfl (fun ls hl => ?_)
  refine lv_iconst (v := (0 : Int32)) hx hb dL_shapes_8 (by decide) ?_
  refine lv_istore_n (lv' := [(2, .int (0 : Int32)), (1, .int (0 : Int32)), (0, .ref al)]) hx hb dL_shapes_9 rfl hl (by decide) rfl (fun ls hl => ?_)
  have w_10 : ∀ (d n : Nat) (B : Nat → Nat) (H : Heap) (locs : List Loc) (ls : Array Slot), n + d = 9 → va_P D xcl ([(qc cyQ al 67 (rfB (SH n).length B))] ++ pw cyI B 0 (SH n)) H → va_D A ([(qc cyQ al 67 (rfB (SH n).length B))] ++ pw cyI B 0 (SH n)) → va_S A s.heap H locs → lv_has ls 3 [(2, .int (nI n)), (1, .int (nI (SH n).length)), (0, .ref al)] → W p0 l e { frames := 10, cells := 77, slots := 683, locals := 400 } s m args below meth c H locs (1 + n + (SH n).length) (67 + 8 * n + 8 * (SH n).length) Q (F0 m 10 ls []) := by
    intro d
    induction d with
    | zero =>
      intro n B H locs ls hn hP hD hS hl
      obtain rfl : n = 9 := by omega
      refine lv_iload_n hx hb dL_shapes_10 rfl (lv_at hl 0 rfl) ?_
      refine lv_bipush (v := (9 : Int32)) hx hb dL_shapes_11 (by decide) ?_
      refine lv_icmp_ge (tgt := 35) hx hb dL_shapes_13 (by decide) (fun _ => ?_) (fun hc => absurd (show (9 : Int32) ≤ nI 9 by decide) hc)
      refine lv_aload_n hx hb dL_shapes_35 rfl (lv_at hl 2 rfl) ?_
      have hl9 := SH_9
      rw [hl9] at hP hD
      refine W.widen (k := 77) (n := 683) (by omega) (by omega) ?_
      subst hAe
      rw [← hQ]
      exact ye_aret (post := (fun _ => True)) (ad := fun u => u.1) (w1 := (fun u => [(qc cyQ u.1 67 (rfB 67 u.2))] ++ pw cyI u.2 0 (SH 9))) (al, B) Cx (Or.inr ⟨_, rfl⟩) trivial rfl hP hD hS dL_shapes_36
    | succ d ihd =>
      intro n B H locs ls hn hP hD hS hl
      have hle := SH_le n (by omega)
      have hle8 : (SH n).length ≤ 67 := by omega
      refine lv_iload_n hx hb dL_shapes_10 rfl (lv_at hl 0 rfl) ?_
      refine lv_bipush (v := (9 : Int32)) hx hb dL_shapes_11 (by decide) ?_
      refine lv_icmp_ge (tgt := 35) hx hb dL_shapes_13 (by decide) (fun hc => absurd hc (show ¬ (9 : Int32) ≤ nI n from nI_ge (b := 9) (by omega) (by decide))) (fun _ => ?_)
      refine lv_aload_n hx hb dL_shapes_16 rfl (lv_at hl 2 rfl) ?_
      refine lv_iload_n hx hb dL_shapes_17 rfl (lv_at hl 1 rfl) ?_
      refine lv_bipush (v := (8 : Int32)) hx hb dL_shapes_18 (by decide) ?_
      refine va_newa (atype := .int) (ty := .int) (a0 := (8, .inl (fun _ => 0))) (N' := 8) hx hb (hts _ mw_1_104) rfl hK hP hD hS hA (fun _ => rfl) (by decide) (by decide) (Nat.le_of_ble_eq_true rfl) (show 1 + n + (SH n).length + 1 ≤ (77 : Nat) by omega) (show 67 + 8 * n + 8 * (SH n).length + 8 ≤ (683 : Nat) by omega) dL_shapes_20 (fun u cA H hK1 hP hD hS => ?_)
      have eA := y_sameI hK hK1
      rw [eA] at hP hD
      have hPD : va_P D xcl ([(qc cyQ al 67 (rfB (SH n).length B)), (ic cyI u (8) (fun _ => (0 : Int32)))] ++ pw cyI B 0 (SH n)) H ∧ va_D A ([(qc cyQ al 67 (rfB (SH n).length B)), (ic cyI u (8) (fun _ => (0 : Int32)))] ++ pw cyI B 0 (SH n)) := y_perm hP hD (by show ([(qc cyQ al 67 (rfB (SH n).length B))] ++ pw cyI B 0 (SH n) ++ [(ic cyI u (8) (fun _ => (0 : Int32)))]).Perm ([(qc cyQ al 67 (rfB (SH n).length B))] ++ ([(ic cyI u (8) (fun _ => (0 : Int32)))] ++ pw cyI B 0 (SH n))); rw [List.append_assoc]; exact List.Perm.append_left _ List.perm_append_comm)
      obtain ⟨hP, hD⟩ := hPD
      refine lv_iconst (v := (0 : Int32)) hx hb dL_shapes_22 (by decide) ?_
      refine lv_iload_n hx hb dL_shapes_23 rfl (lv_at hl 0 rfl) ?_
      refine lv_iload_n hx hb dL_shapes_24 rfl (lv_at hl 0 rfl) ?_
      rw [show (0 : Int32) = nI ([] : List Nat).length from rfl]
      refine yr_i Cx hP hD hS (yq_front (S := (Nat → Nat) × (Nat → Int32)) [(qc cyQ al 67 (rfB (SH n).length B)), (ic cyI u (8) (fun _ => (0 : Int32)))] (pw cyI B 0 (SH n)) (fun (v : (Nat → Nat) × (Nat → Int32)) => [(qc cyQ al 67 (rfB ((SH n).length + (pt n n n).length) v.1)), (ic cyI u (8) (v.2))] ++ pw cyI v.1 (SH n).length ((pt n n n).map (fun q => [] ++ q))) (2 + (pt n n n).length) (fun v => by rw [List.length_append, pw_len, List.length_map]; rfl)) (yx_S (n := 6) (As := [.ref al, .int (nI (SH n).length), .ref u, .int (nI ([] : List Nat).length), .int (nI n), .int (nI n)]) (rest := []) Cx hP hD hS hl (yq_front (S := (Nat → Nat) × (Nat → Int32)) [(qc cyQ al 67 (rfB (SH n).length B)), (ic cyI u (8) (fun _ => (0 : Int32)))] (pw cyI B 0 (SH n)) (fun (v : (Nat → Nat) × (Nat → Int32)) => [(qc cyQ al 67 (rfB ((SH n).length + (pt n n n).length) v.1)), (ic cyI u (8) (v.2))] ++ pw cyI v.1 (SH n).length ((pt n n n).map (fun q => [] ++ q))) (2 + (pt n n n).length) (fun v => by rw [List.length_append, pw_len, List.length_map]; rfl)) hK fz_ZO (fun hF => fz_give fz_ZO hT hS hF) (c_L_fill l D cyI cyJ cyB cyQ al u n (SH n).length n n H.size [] B (fun _ => 0) (Nat.le_refl _) (by show 0 + n ≤ 8; omega) (by omega) hle (fun j hj => absurd hj (Nat.not_lt_zero j))) pk_L_fill mw_3_168 ⟨rfl, rfl, (show n + 1 + 1 ≤ 10 by omega), (show 8 + (8 + 11) + (70 + 30 * n) ≤ 400 by omega)⟩ rfl rfl (Nat.le_of_ble_eq_true rfl) ⟨(show 1 + n + (SH n).length + 1 + (pt n n n).length ≤ (77 : Nat) by omega), (show 67 + 8 * n + 8 * (SH n).length + 8 + 8 * (pt n n n).length ≤ (683 : Nat) by omega)⟩ dL_shapes_25) (fun r_1 v H locs hp hP hD hS => ?_)
      obtain ⟨hp1, hp2, hp3⟩ := hp
      subst hp1
      have eS : SH (n + 1) = SH n ++ pt n n n := rfl
      have eL : (SH (n + 1)).length = (SH n).length + (pt n n n).length := by rw [eS, List.length_append]
      rw [← eL]
      have hPD : va_P D xcl ([(qc cyQ al 67 (rfB (SH (n + 1)).length v.1))] ++ pw cyI v.1 0 (SH (n + 1))) H ∧ va_D A ([(qc cyQ al 67 (rfB (SH (n + 1)).length v.1))] ++ pw cyI v.1 0 (SH (n + 1))) := by
        have eW : pw cyI v.1 0 (SH (n + 1)) = pw cyI B 0 (SH n) ++ pw cyI v.1 (SH n).length ((pt n n n).map (fun q => [] ++ q)) := by
          rw [eS, pw_app, Nat.zero_add, show (pt n n n).map (fun q => [] ++ q) = pt n n n from List.map_id _]
          congr 1
          exact pw_cong cyI _ _ (fun j _ h2 => hp2 j (by omega))
        rw [eW, eL]
        have h9 := y_sub hP hD (ws' := [(qc cyQ al 67 (rfB ((SH n).length + (pt n n n).length) v.1))] ++ (pw cyI v.1 (SH n).length ((pt n n n).map (fun q => [] ++ q)) ++ pw cyI B 0 (SH n))) (List.Sublist.cons_cons _ (List.Sublist.cons _ (List.Sublist.refl _)))
        exact y_perm h9.1 h9.2 (List.Perm.append_left _ List.perm_append_comm)
      obtain ⟨hP, hD⟩ := hPD
      refine lv_istore_n (lv' := [(1, .int (nI (SH (n + 1)).length)), (2, .int (nI n)), (0, .ref al)]) hx hb dL_shapes_28 rfl hl (by decide) rfl (fun ls hl => ?_)
      refine lv_iinc (v := ((nI n) + (1 : Int32))) (lv' := [(2, .int ((nI n) + (1 : Int32))), (1, .int (nI (SH (n + 1)).length)), (0, .ref al)]) hx hb dL_shapes_29 hl (k := 1) rfl rfl (by decide) rfl (fun ls hl => ?_)
      refine lv_goto (tgt := 10) hx hb dL_shapes_32 (by decide) ?_
      rw [show ((nI n) + (1 : Int32)) = (nI (n + 1)) from (nI_1 n)] at hl
      refine W.widen (k := 1 + (n + 1) + (SH (n + 1)).length) (n := 67 + 8 * (n + 1) + 8 * (SH (n + 1)).length) (by omega) (by omega) ?_
      exact ihd (n + 1) v.1 H _ ls (by omega) hP hD hS (lv_sub hl [0, 1, 2] rfl)
  exact w_10 9 0 (fun _ => 0) H _ ls rfl hP hD hS (lv_sub hl [0, 1, 2] rfl)
theorem D_small : ∀ n, n < 8 → qz_D n < qz_D (n + 1) ∧ qz_D (n + 1) - qz_D n ≤ 15 ∧ qz_D (n + 1) ≤ 45 := by decide +kernel
theorem sl_small : ∀ j, j < 67 → sl j ≤ 8 := by decide +kernel
theorem sc_small : ∀ j, j < 67 → ∀ k, k < sl j → sc j k ≤ 8 := by decide +kernel
set_option maxHeartbeats 8000000 in
set_option maxRecDepth 20000 in
theorem c_L_table (l : Launch) (D : va_G) (cyI cyJ cyB cyQ : ClassId) (sz : Nat) (al n : Nat) (B : Nat → Nat) (g : Nat → Nat) (hn : n < 8) : ym_r (S := Nat) l yL_table (Cond.code yL_table cL_table 6 (some (.array (.array .int))) :: xg_tbl) { frames := 19, cells := 620, slots := 6300, locals := 493 } D xcl (ytys cyI cyJ cyB cyQ) (fun A U H => ZA al B A U H ∧ (ZJ g A U H ∧ ZO A U H)) sz [.ref al, .int (nI n)] [] (fun _ => True) (fun u => u) (fun u => [qc cyQ u (qz_D (n + 1) - qz_D n) (grB u (qz_D (n + 1) - qz_D n))] ++ gw cyI u (qz_D (n + 1) - qz_D n) (qz_D (n + 1) - qz_D n) (tb n)) 620 6300 := by
  refine ym_of (own := RL) (by decide) rfl rfl (Nat.le_of_ble_eq_true rfl) ?_
  intro p0 e s m args below meth c ls Q A H hQ hAe hH hin Cx hsz hP hD hS hl
  have Cx1 := Cx
  obtain ⟨⟨hx, hb, hml, hown, hts⟩, hr, hlocks, hK, hA, hT⟩ := Cx1
  have hl : lv_has ls 6 [(0, .ref al), (1, .int (nI n))] := hl
  obtain ⟨hD1, hD2, hD3⟩ := D_small n hn
  obtain ⟨many, hmany⟩ : ∃ many, many = (qz_D (n + 1) - qz_D n) := ⟨_, rfl⟩
  rw [← hmany] at hD2
  refine lv_iload_n hx hb dL_table_0 rfl (lv_at hl 1 rfl) ?_
  refine lv_iconst (v := (1 : Int32)) hx hb dL_table_1 (by decide) ?_
  refine lv_iadd hx hb dL_table_2 ?_
  rw [show ((nI n) + (1 : Int32)) = (nI (n + 1)) from (nI_1 n)]
  refine yr_i Cx hP hD hS (yq_none (S := Unit) []) (yx_S (n := 1) (As := [.int (nI (n + 1))]) (rest := []) Cx hP hD hS hl (yq_none (S := Unit) []) hK fz_0 (fun hF => trivial) (c_L_first l D cyI cyJ cyB cyQ H.size (n + 1) (by omega)) pk_L_first mw_3_176 ⟨rfl, rfl, Nat.le_of_ble_eq_true rfl, Nat.le_of_ble_eq_true rfl⟩ rfl rfl (Nat.le_of_ble_eq_true rfl) ⟨Nat.le_of_ble_eq_true rfl, Nat.le_of_ble_eq_true rfl⟩ dL_table_3) (fun r_1 u_1 H locs hp hP hD hS => ?_)
  have hP : va_P D xcl [] H := hP
  have hD : va_D A [] := hD
  rw [hp]
  refine lv_iload_n hx hb dL_table_6 rfl (lv_at hl 1 rfl) ?_
  refine yr_i Cx hP hD hS (yq_none (S := Unit) []) (yx_S (n := 1) (As := [.int (nI n)]) (rest := [.int (nI (qz_D (n + 1)))]) Cx hP hD hS hl (yq_none (S := Unit) []) hK fz_0 (fun hF => trivial) (c_L_first l D cyI cyJ cyB cyQ H.size n (by omega)) pk_L_first mw_3_176 ⟨rfl, rfl, Nat.le_of_ble_eq_true rfl, Nat.le_of_ble_eq_true rfl⟩ rfl rfl (Nat.le_of_ble_eq_true rfl) ⟨(show (0 + 1) + 1 ≤ (620 : Nat) by omega), (show (0 + 10) + 10 ≤ (6300 : Nat) by omega)⟩ dL_table_7) (fun r_2 u_2 H locs hp hP hD hS => ?_)
  have hP : va_P D xcl [] H := hP
  have hD : va_D A [] := hD
  rw [hp]
  refine lv_isub hx hb dL_table_10 ?_
  rw [show nI (qz_D (n + 1)) - nI (qz_D n) = nI many by rw [hmany]; exact nI_subN (by omega)]
  refine lv_istore_n (lv' := [(2, .int (nI many)), (0, .ref al), (1, .int (nI n))]) hx hb dL_table_11 rfl hl (by decide) rfl (fun ls hl => ?_)
  refine lv_iload_n hx hb dL_table_12 rfl (lv_at hl 0 rfl) ?_
  refine lv_iload_n hx hb dL_table_13 rfl (lv_at hl 0 rfl) ?_
  have hmm : many * many ≤ 15 * 15 := Nat.mul_le_mul hD2 hD2
  refine y_newM (N := many) (M := many) hx hb hown (hts _ mw_3_206) (ZO_use hT.2.2) (hts _ mw_1_104) hK hP hD hS hA (nI_pos (by omega)) (nI_pos (by omega)) (nI_clamp (by omega)) (nI_clamp (by omega)) (by omega) (by omega) (show 0 + 1 + 1 + (1 + many) ≤ (620 : Nat) by omega) (show 0 + 10 + 10 + (many + many * many) ≤ (6300 : Nat) by omega) dL_table_14 (fun q H locs hP hD hS => ?_)
  refine W.widen (k := 20) (n := 300) (show 0 + 1 + 1 + (1 + many) ≤ (20 : Nat) by omega) (show 0 + 10 + 10 + (many + many * many) ≤ (300 : Nat) by omega) ?_
  have hP : va_P D xcl ([qc cyQ q many (grB q many)] ++ gw cyI q many many (tbF n 0 0)) H := by rw [tbF_0]; exact hP
  have hD : va_D A ([qc cyQ q many (grB q many)] ++ gw cyI q many many (tbF n 0 0)) := by rw [tbF_0]; exact hD
  refine lv_astore_n (lv' := [(3, .ref q), (2, .int (nI many)), (0, .ref al), (1, .int (nI n))]) hx hb dL_table_18 rfl hl (by decide) rfl (fun ls hl => ?_)
  refine lv_iconst (v := (0 : Int32)) hx hb dL_table_19 (by decide) ?_
  refine lv_istore (lv' := [(4, .int (0 : Int32)), (3, .ref q), (2, .int (nI many)), (0, .ref al), (1, .int (nI n))]) hx hb dL_table_20 hl (by decide) rfl (fun ls hl => ?_)
  have w_22 : ∀ (d a : Nat) (H : Heap) (locs : List Loc) (ls : Array Slot), a + d = many → va_P D xcl ([qc cyQ q many (grB q many)] ++ gw cyI q many many (tbF n a 0)) H → va_D A ([qc cyQ q many (grB q many)] ++ gw cyI q many many (tbF n a 0)) → va_S A s.heap H locs → lv_has ls 6 [(4, .int (nI a)), (3, .ref q), (2, .int (nI many)), (0, .ref al), (1, .int (nI n))] → W p0 l e { frames := 19, cells := 620, slots := 6300, locals := 493 } s m args below meth c H locs (20 + 40 * a) (300 + 400 * a) Q (F0 m 22 ls []) := by
    intro d
    induction d with
    | zero =>
      intro a H locs ls ha hP hD hS hl
      obtain rfl : a = many := by omega
      refine lv_iload hx hb dL_table_22 (lv_at hl 0 rfl) ?_
      refine lv_iload_n hx hb dL_table_24 rfl (lv_at hl 2 rfl) ?_
      refine lv_icmp_ge (tgt := 77) hx hb dL_table_25 (by decide) (fun _ => ?_) (fun hc => absurd (Int32.le_refl _) hc)
      refine lv_aload_n hx hb dL_table_77 rfl (lv_at hl 1 rfl) ?_
      have hPD := gw_ext (F' := tb n) ⟨hP, hD⟩ (fun i j hi hj => if_pos (Or.inl hi))
      obtain ⟨hP, hD⟩ := hPD
      refine W.widen (k := 620) (n := 6300) (by omega) (by omega) ?_
      subst hmany
      subst hAe
      rw [← hQ]
      exact ye_aret (post := fun _ => True) (ad := fun u => u) (w1 := (fun u => [qc cyQ u (qz_D (n + 1) - qz_D n) (grB u (qz_D (n + 1) - qz_D n))] ++ gw cyI u (qz_D (n + 1) - qz_D n) (qz_D (n + 1) - qz_D n) (tb n))) q Cx (Or.inr ⟨_, rfl⟩) trivial rfl hP hD hS dL_table_78
    | succ d ihd =>
      intro a H locs ls ha hP hD hS hl
      refine lv_iload hx hb dL_table_22 (lv_at hl 0 rfl) ?_
      refine lv_iload_n hx hb dL_table_24 rfl (lv_at hl 2 rfl) ?_
      refine lv_icmp_ge (tgt := 77) hx hb dL_table_25 (by decide) (fun hc => absurd hc (nI_ge (by omega) (by omega))) (fun _ => ?_)
      refine lv_iconst (v := (0 : Int32)) hx hb dL_table_28 (by decide) ?_
      refine lv_istore (lv' := [(5, .int (0 : Int32)), (4, .int (nI a)), (3, .ref q), (2, .int (nI many)), (0, .ref al), (1, .int (nI n))]) hx hb dL_table_29 hl (by decide) rfl (fun ls hl => ?_)
      have w_31 : ∀ (d2 b : Nat) (H : Heap) (locs : List Loc) (ls : Array Slot), b + d2 = many → va_P D xcl ([qc cyQ q many (grB q many)] ++ gw cyI q many many (tbF n a b)) H → va_D A ([qc cyQ q many (grB q many)] ++ gw cyI q many many (tbF n a b)) → va_S A s.heap H locs → lv_has ls 6 [(5, .int (nI b)), (4, .int (nI a)), (3, .ref q), (2, .int (nI many)), (0, .ref al), (1, .int (nI n))] → W p0 l e { frames := 19, cells := 620, slots := 6300, locals := 493 } s m args below meth c H locs (20 + 40 * a + 2 * b) (300 + 400 * a + 20 * b) Q (F0 m 31 ls []) := by
        intro d2
        induction d2 with
        | zero =>
          intro b H locs ls hb2 hP hD hS hl
          obtain rfl : b = many := by omega
          refine lv_iload hx hb dL_table_31 (lv_at hl 0 rfl) ?_
          refine lv_iload_n hx hb dL_table_33 rfl (lv_at hl 3 rfl) ?_
          refine lv_icmp_ge (tgt := 71) hx hb dL_table_34 (by decide) (fun _ => ?_) (fun hc => absurd (Int32.le_refl _) hc)
          refine lv_iinc (v := ((nI a) + (1 : Int32))) (lv' := [(4, .int ((nI a) + (1 : Int32))), (5, .int (nI b)), (3, .ref q), (2, .int (nI b)), (0, .ref al), (1, .int (nI n))]) hx hb dL_table_71 hl (k := 1) rfl rfl (by decide) rfl (fun ls hl => ?_)
          have hPD := gw_ext (F' := tbF n (a + 1) 0) ⟨hP, hD⟩ (fun i j hi hj => by unfold tbF; by_cases h9 : i < a + 1; rw [if_pos (by omega), if_pos (by omega)]; rw [if_neg (by omega), if_neg (by omega)])
          obtain ⟨hP, hD⟩ := hPD
          refine lv_goto (tgt := 22) hx hb dL_table_74 (by decide) ?_
          rw [show ((nI a) + (1 : Int32)) = (nI (a + 1)) from (nI_1 a)] at hl
          refine W.widen (k := 20 + 40 * (a + 1)) (n := 300 + 400 * (a + 1)) (by omega) (by omega) ?_
          exact ihd (a + 1) H _ ls (by omega) hP hD hS (lv_sub hl [0, 2, 3, 4, 5] rfl)
        | succ d2 ihd2 =>
          intro b H locs ls hb2 hP hD hS hl
          refine lv_iload hx hb dL_table_31 (lv_at hl 0 rfl) ?_
          refine lv_iload_n hx hb dL_table_33 rfl (lv_at hl 3 rfl) ?_
          refine lv_icmp_ge (tgt := 71) hx hb dL_table_34 (by decide) (fun hc => absurd hc (nI_ge (by omega) (by omega))) (fun _ => ?_)
          refine lv_aload_n hx hb dL_table_37 rfl (lv_at hl 2 rfl) ?_
          refine lv_iload hx hb dL_table_38 (lv_at hl 1 rfl) ?_
          refine y_aldA hx hb hK hP 0 3 rfl rfl (vp_in_nI (by omega) (by omega)) (v := q + 1 + a) (by rw [nI_clamp (by omega)]; exact if_pos (by omega)) dL_table_40 ?_
          refine lv_iload hx hb dL_table_41 (lv_at hl 0 rfl) ?_
          refine lv_aload_n hx hb dL_table_43 rfl (lv_at hl 4 rfl) ?_
          refine lv_iload_n hx hb dL_table_44 rfl (lv_at hl 5 rfl) ?_
          refine yr_i Cx hP hD hS (yq_none (S := Unit) ([qc cyQ q many (grB q many)] ++ gw cyI q many many (tbF n a b))) (yx_S (n := 1) (As := [.int (nI n)]) (rest := [.ref al, .int (nI b), .ref (q + 1 + a)]) Cx hP hD hS hl (yq_none (S := Unit) ([qc cyQ q many (grB q many)] ++ gw cyI q many many (tbF n a b))) hK fz_0 (fun hF => trivial) (c_L_first l D cyI cyJ cyB cyQ H.size n (by omega)) pk_L_first mw_3_176 ⟨rfl, rfl, Nat.le_of_ble_eq_true rfl, Nat.le_of_ble_eq_true rfl⟩ rfl rfl (Nat.le_of_ble_eq_true rfl) ⟨(show (20 + 40 * a + 2 * b) + 1 ≤ (620 : Nat) by omega), (show (300 + 400 * a + 20 * b) + 10 ≤ (6300 : Nat) by omega)⟩ dL_table_45) (fun r_3 u_a H locs hp hP hD hS => ?_)
          have hP : va_P D xcl ([qc cyQ q many (grB q many)] ++ gw cyI q many many (tbF n a b)) H := hP
          have hD : va_D A ([qc cyQ q many (grB q many)] ++ gw cyI q many many (tbF n a b)) := hD
          rw [hp]
          refine lv_iload hx hb dL_table_48 (lv_at hl 1 rfl) ?_
          refine lv_iadd hx hb dL_table_50 ?_
          rw [nI_add (qz_D n) a]
          refine yf_qld hx hb (va_T.kept hT.1.1 hS.2.1) rfl (vp_in_nI (by omega) (by omega)) dL_table_51 ?_
          rw [nI_clamp (by omega)]
          refine lv_aload_n hx hb dL_table_52 rfl (lv_at hl 4 rfl) ?_
          refine lv_iload_n hx hb dL_table_53 rfl (lv_at hl 5 rfl) ?_
          refine yr_i Cx hP hD hS (yq_none (S := Unit) ([qc cyQ q many (grB q many)] ++ gw cyI q many many (tbF n a b))) (yx_S (n := 1) (As := [.int (nI n)]) (rest := [.ref al, .ref (B (qz_D n + a)), .int (nI b), .ref (q + 1 + a)]) Cx hP hD hS hl (yq_none (S := Unit) ([qc cyQ q many (grB q many)] ++ gw cyI q many many (tbF n a b))) hK fz_0 (fun hF => trivial) (c_L_first l D cyI cyJ cyB cyQ H.size n (by omega)) pk_L_first mw_3_176 ⟨rfl, rfl, Nat.le_of_ble_eq_true rfl, Nat.le_of_ble_eq_true rfl⟩ rfl rfl (Nat.le_of_ble_eq_true rfl) ⟨(show ((20 + 40 * a + 2 * b) + 1) + 1 ≤ (620 : Nat) by omega), (show ((300 + 400 * a + 20 * b) + 10) + 10 ≤ (6300 : Nat) by omega)⟩ dL_table_54) (fun r_4 u_b H locs hp hP hD hS => ?_)
          have hP : va_P D xcl ([qc cyQ q many (grB q many)] ++ gw cyI q many many (tbF n a b)) H := hP
          have hD : va_D A ([qc cyQ q many (grB q many)] ++ gw cyI q many many (tbF n a b)) := hD
          rw [hp]
          refine lv_iload hx hb dL_table_57 (lv_at hl 0 rfl) ?_
          refine lv_iadd hx hb dL_table_59 ?_
          rw [nI_add (qz_D n) b]
          refine yf_qld hx hb (va_T.kept hT.1.1 hS.2.1) rfl (vp_in_nI (by omega) (by omega)) dL_table_60 ?_
          rw [nI_clamp (by omega)]
          have hs1 := sl_small (qz_D n + a) (by omega)
          have hs2 := sl_small (qz_D n + b) (by omega)
          refine yr_i Cx hP hD hS (yq_none (S := Unit) ([qc cyQ q many (grB q many)] ++ gw cyI q many many (tbF n a b))) (yx_S (n := 2) (As := [.ref (B (qz_D n + a)), .ref (B (qz_D n + b))]) (rest := [.int (nI b), .ref (q + 1 + a)]) Cx hP hD hS hl (yq_none (S := Unit) ([qc cyQ q many (grB q many)] ++ gw cyI q many many (tbF n a b))) hK (fz_and (fz_ZI (B (qz_D n + a)) (sl (qz_D n + a)) (sr (qz_D n + a))) (fz_and (fz_ZI (B (qz_D n + b)) (sl (qz_D n + b)) (fun k => nI (sc (qz_D n + b) k))) (fz_ZJ g))) (fun hF => (fz_give (fz_and (fz_ZI (B (qz_D n + a)) (sl (qz_D n + a)) (sr (qz_D n + a))) (fz_and (fz_ZI (B (qz_D n + b)) (sl (qz_D n + b)) (fun k => nI (sc (qz_D n + b) k))) (fz_ZJ g))) ⟨(hT.1.2 (qz_D n + a) (by omega)), (hT.1.2 (qz_D n + b) (by omega)), hT.2.1⟩ hS hF)) (c_L_character_ l D cyI cyJ cyB cyQ H.size (B (qz_D n + a)) (sl (qz_D n + a)) (B (qz_D n + b)) (sl (qz_D n + b)) (sr (qz_D n + a)) (sc (qz_D n + b)) (by omega) (by omega) (fun k hk => Nat.le_trans (sc_small (qz_D n + b) (by omega) k hk) (by decide)) g) pk_L_character_ mw_3_188 ⟨rfl, rfl, Nat.le_of_ble_eq_true rfl, Nat.le_of_ble_eq_true rfl⟩ rfl rfl (Nat.le_of_ble_eq_true rfl) ⟨(show (((20 + 40 * a + 2 * b) + 1) + 1) + 0 ≤ (620 : Nat) by omega), (show (((300 + 400 * a + 20 * b) + 10) + 10) + 0 ≤ (6300 : Nat) by omega)⟩ dL_table_61) (fun r_5 u_9 H locs hp hP hD hS => ?_)
          have hP : va_P D xcl ([qc cyQ q many (grB q many)] ++ gw cyI q many many (tbF n a b)) H := hP
          have hD : va_D A ([qc cyQ q many (grB q many)] ++ gw cyI q many many (tbF n a b)) := hD
          rw [show r_5 = tb n a b from hp]
          refine va_iast hx hb hK hP hD hS (a + 1) 0 (gw_get cyI q many many (tbF n a b) (show a < many by omega)) rfl (vp_in_nI (by omega) (by omega)) dL_table_64 (fun H locs hP hD hS => ?_)
          have eG : (qc cyQ q many (grB q many) :: gw cyI q many many (tbF n a b)).set (a + 1) (ic cyI (q + 1 + a) many (upd (tbF n a b a) (nI b).toNatClampNeg (tb n a b))) = ([qc cyQ q many (grB q many)] ++ gw cyI q many many (tbF n a (b + 1))) := by
            rw [nI_clamp (by omega), List.set_cons_succ, gw_set cyI q many many _ (show a < many by omega), tbF_upd]; rfl
          have hP : va_P D xcl ([qc cyQ q many (grB q many)] ++ gw cyI q many many (tbF n a (b + 1))) H := by rw [← eG]; exact hP
          have hD : va_D A ([qc cyQ q many (grB q many)] ++ gw cyI q many many (tbF n a (b + 1))) := by rw [← eG]; exact hD
          refine lv_iinc (v := ((nI b) + (1 : Int32))) (lv' := [(5, .int ((nI b) + (1 : Int32))), (4, .int (nI a)), (3, .ref q), (2, .int (nI many)), (0, .ref al), (1, .int (nI n))]) hx hb dL_table_65 hl (k := 0) rfl rfl (by decide) rfl (fun ls hl => ?_)
          refine lv_goto (tgt := 31) hx hb dL_table_68 (by decide) ?_
          rw [show ((nI b) + (1 : Int32)) = (nI (b + 1)) from (nI_1 b)] at hl
          refine W.widen (k := 20 + 40 * a + 2 * (b + 1)) (n := 300 + 400 * a + 20 * (b + 1)) (by omega) (by omega) ?_
          exact ihd2 (b + 1) H _ ls (by omega) hP hD hS (lv_sub hl [0, 1, 2, 3, 4, 5] rfl)
      exact w_31 many 0 H _ ls (by omega) hP hD hS (lv_sub hl [0, 1, 2, 3, 4, 5] rfl)
  exact w_22 many 0 H _ ls (by omega) hP hD hS (lv_sub hl [0, 1, 2, 3, 4] rfl)
