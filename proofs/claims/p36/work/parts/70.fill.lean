/-! worlds whose tail is a list of many cells; all falling rows, as lists -/
theorem y_P_mem {D : va_G} {cl : List vw_C} {ws ws' : va_W} {H : Heap} (h : va_P D cl ws H) (hs : ∀ x ∈ ws', x ∈ ws) : va_P D cl ws' H := by
  intro k q hk
  obtain ⟨i, hi⟩ := List.getElem?_of_mem (hs q (List.mem_of_getElem? hk))
  exact h i q hi
theorem y_D_iff {A : Nat → Prop} {ws : va_W} : va_D A ws ↔ (ws.map (fun x => x.1)).Nodup ∧ ∀ x ∈ ws, A x.1 := by
  constructor
  · intro h
    refine ⟨?_, fun x hx => ?_⟩
    · rw [List.nodup_iff_pairwise_ne, List.pairwise_iff_getElem]
      intro i j hi hj hij e
      have hi' : i < ws.length := by simpa using hi
      have hj' : j < ws.length := by simpa using hj
      rw [List.getElem_map, List.getElem_map] at e
      have := h.1 i j _ _ (List.getElem?_eq_getElem hi') (List.getElem?_eq_getElem hj') e
      omega
    · obtain ⟨i, hi⟩ := List.getElem?_of_mem hx
      exact h.2 i x hi
  · intro h
    refine ⟨fun i j p q hp hq e => ?_, fun k q hk => h.2 q (List.mem_of_getElem? hk)⟩
    obtain ⟨hi, ei⟩ := List.getElem?_eq_some_iff.mp hp
    obtain ⟨hj, ej⟩ := List.getElem?_eq_some_iff.mp hq
    have h1 := h.1
    rw [List.nodup_iff_pairwise_ne, List.pairwise_iff_getElem] at h1
    refine Nat.le_antisymm (Nat.le_of_not_lt fun c => ?_) (Nat.le_of_not_lt fun c => ?_)
    · refine h1 j i (by simpa using hj) (by simpa using hi) c ?_
      rw [List.getElem_map, List.getElem_map, ei, ej, e]
    · refine h1 i j (by simpa using hi) (by simpa using hj) c ?_
      rw [List.getElem_map, List.getElem_map, ei, ej, e]
theorem y_perm {D : va_G} {cl : List vw_C} {A : Nat → Prop} {ws ws' : va_W} {H : Heap} (hP : va_P D cl ws H) (hD : va_D A ws) (h : ws.Perm ws') : va_P D cl ws' H ∧ va_D A ws' := by
  refine ⟨y_P_mem hP (fun x hx => h.mem_iff.mpr hx), ?_⟩
  obtain ⟨h1, h2⟩ := y_D_iff.mp hD
  exact y_D_iff.mpr ⟨(h.map _).nodup_iff.mp h1, fun x hx => h2 x (h.mem_iff.mpr hx)⟩
theorem y_sub {D : va_G} {cl : List vw_C} {A : Nat → Prop} {ws ws' : va_W} {H : Heap} (hP : va_P D cl ws H) (hD : va_D A ws) (h : ws'.Sublist ws) : va_P D cl ws' H ∧ va_D A ws' := by
  refine ⟨y_P_mem hP (fun x hx => h.mem hx), ?_⟩
  obtain ⟨h1, h2⟩ := y_D_iff.mp hD
  exact y_D_iff.mpr ⟨h1.sublist (h.map _), fun x hx => h2 x (h.mem hx)⟩
theorem y_iext {c : ClassId} {N : Nat} {f g : Nat → Int32} (e : ∀ j, j < N → f j = g j) : vp_cell c (N, .inl f) = vp_cell c (N, .inl g) := by
  rw [vp_cell_i, vp_cell_i]
  unfold arrV
  congr 1
  refine congrArg Array.ofFn (funext fun j => ?_)
  show Value.int (f j.val) = Value.int (g j.val)
  rw [e j.val j.isLt]
/-- an array of the world, its content told otherwise -/
theorem y_ext {D : va_G} {cl : List vw_C} {A : Nat → Prop} {ws : va_W} {H : Heap} (hP : va_P D cl ws H) (hD : va_D A ws) (q0 : Nat) {a : Nat} {c : ClassId} {N : Nat} {f : Nat → Int32} (g : Nat → Int32) (ha : ws[q0]? = some (a, .inl (c, N, .inl f))) (e : ∀ j, j < N → f j = g j) : va_P D cl (ws.set q0 (a, .inl (c, N, .inl g))) H ∧ va_D A (ws.set q0 (a, .inl (c, N, .inl g))) := by
  have h0 : H[a]? = some (vp_cell c (N, .inl f)) := hP q0 _ ha
  rw [y_iext e] at h0
  exact ⟨hP.set hD ha h0 (fun _ _ => rfl), hD.set ha⟩
/-- the class of arrays of int arrays has been made -/
def ZO : yZ := fun _ U _ => (Cond.arrayOver (.array .int)).before #[] U = true
theorem ZO_moved {u U : State} (hvm : u.vm.Alike U.vm) (h : (Cond.arrayOver (.array .int)).before #[] u = true) : (Cond.arrayOver (.array .int)).before #[] U = true := by
  obtain ⟨comp, c, k, h1, h2, h3, h4, h5⟩ := arrayOverA_spec h
  obtain ⟨k', hk', he⟩ := hvm.2.2 _ _ h3
  have hi : (U.vm.classes.findIdx? fun x => match x.kind with | .array component _ => component == comp | _ => false) = some c := by
    rw [hvm.findIdx?_eq _ (fun _ => rfl)]
    exact h2
  have f1 : U.vm.findClass (FieldType.array .int).toString = some comp := by rw [hvm.findClass]; exact h1
  have f2 : U.vm.findClass ("[" ++ (FieldType.array .int).toString) = some c := by rw [hvm.findClass]; exact h5
  have hkind : k'.kind = .array comp (.array .int) := by rw [he]; exact h4
  simp only [Cond.before, Cond.holds, Cond.value, f1, Option.bind_some]
  refine (congrArg (fun o : Option Nat => (o.bind (fun c => (U.vm.classes[c]?).map fun (k : Class) => match k.kind with | .array _ ty => decide (ty = FieldType.array .int) && decide (U.vm.findClass ("[" ++ (FieldType.array .int).toString) = some c) | _ => false) == some true)) hi).trans ?_
  simp [hk', hkind, f2]
theorem fz_ZO : fz ZO := ⟨fun _ _ _ _ q h => ZO_moved (fz_al q) h, fun _ _ _ _ _ h => h, fun _ _ _ _ _ h => h⟩
theorem ZO_use {A : Nat → Prop} {U : State} {H : Heap} {args : Array Value} (h : ZO A U H) : (Cond.arrayOver (.array .int)).before args U = true := h
abbrev qc (cyQ : ClassId) (a n : Nat) (f : Nat → Option Nat) : Nat × va_E := (a, .inl (cyQ, n, .inr (.inr (.inr (.inr f)))))
abbrev ic (cyI : ClassId) (a n : Nat) (f : Nat → Int32) : Nat × va_E := (a, .inl (cyI, n, .inl f))
def lf (q : List Nat) : Nat → Int32 := fun j => nI (q.getD j 0)
def pw (cyI : ClassId) (B : Nat → Nat) : Nat → List (List Nat) → va_W
  | _, [] => []
  | o, q :: L => ic cyI (B o) q.length (lf q) :: pw cyI B (o + 1) L
theorem pw_app (cyI : ClassId) (B : Nat → Nat) (L2 : List (List Nat)) : ∀ (L1 : List (List Nat)) (o : Nat), pw cyI B o (L1 ++ L2) = pw cyI B o L1 ++ pw cyI B (o + L1.length) L2
  | [], o => rfl
  | q :: L, o => by
    show _ :: pw cyI B (o + 1) (L ++ L2) = _ :: (pw cyI B (o + 1) L ++ pw cyI B (o + (L.length + 1)) L2)
    rw [pw_app cyI B L2 L (o + 1), show o + 1 + L.length = o + (L.length + 1) by omega]
theorem pw_len (cyI : ClassId) (B : Nat → Nat) : ∀ (L : List (List Nat)) (o : Nat), (pw cyI B o L).length = L.length
  | [], o => rfl
  | q :: L, o => congrArg (· + 1) (pw_len cyI B L (o + 1))
theorem pw_cong (cyI : ClassId) {B B' : Nat → Nat} : ∀ (L : List (List Nat)) (o : Nat), (∀ j, o ≤ j → j < o + L.length → B j = B' j) → pw cyI B o L = pw cyI B' o L
  | [], o, _ => rfl
  | q :: L, o, h => by
    show _ :: _ = _ :: _
    rw [h o (Nat.le_refl _) (by rw [List.length_cons]; omega), pw_cong cyI L (o + 1) (fun j h1 h2 => h j (by omega) (by rw [List.length_cons]; omega))]
theorem pw_get (cyI : ClassId) (B : Nat → Nat) : ∀ (L : List (List Nat)) (o i : Nat) (q : List Nat), L[i]? = some q → (pw cyI B o L)[i]? = some (ic cyI (B (o + i)) q.length (lf q))
  | [], o, i, q, h => by simp at h
  | x :: L, o, 0, q, h => by
    cases h
    rfl
  | x :: L, o, i + 1, q, h => by
    show (pw cyI B (o + 1) L)[i]? = _
    rw [pw_get cyI B L (o + 1) i q h, show o + 1 + i = o + (i + 1) by omega]
def rfB (n : Nat) (B : Nat → Nat) : Nat → Option Nat := fun j => if j < n then some (B j) else none
def uB (B : Nat → Nat) (k x : Nat) : Nat → Nat := fun j => if j = k then x else B j
theorem rfB_up (n : Nat) (B : Nat → Nat) (u : Nat) : va_up (rfB n B) n (some u) = rfB (n + 1) (uB B n u) := by
  funext j
  unfold va_up rfB uB
  by_cases e : j = n
  · subst e; rw [if_pos rfl, if_pos (Nat.lt_succ_self j), if_pos rfl]
  · rw [if_neg e, if_neg e]
    by_cases q : j < n
    · rw [if_pos q, if_pos (by omega)]
    · rw [if_neg q, if_neg (by omega)]
theorem rfB_cong {n : Nat} {B B' : Nat → Nat} (h : ∀ j, j < n → B j = B' j) : rfB n B = rfB n B' := by
  funext j
  unfold rfB
  by_cases q : j < n
  · rw [if_pos q, if_pos q, h j q]
  · rw [if_neg q, if_neg q]
def ptl (rec : Nat → Nat → List (List Nat)) (left : Nat) : Nat → List (List Nat)
  | 0 => []
  | v + 1 => (rec (left - (v + 1)) (v + 1)).map (fun q => (v + 1) :: q) ++ ptl rec left v
def pt : Nat → Nat → Nat → List (List Nat)
  | 0, _, _ => [[]]
  | d + 1, left, most => if left = 0 then [[]] else ptl (pt d) left (min left most)
theorem pt_0 (d most : Nat) : pt d 0 most = [[]] := by
  cases d with
  | zero => rfl
  | succ d => exact if_pos rfl
theorem nI_subN {a b : Nat} (h : b ≤ a) : nI a - nI b = nI (a - b) := by
  have e := nI_add (a - b) b
  rw [show a - b + b = a by omega] at e
  rw [← e, Int32.add_sub_cancel]
theorem nI_dec (v : Nat) : nI (v + 1) + (-1 : Int32) = nI v := by
  rw [nI_succ, Int32.add_assoc, show (1 : Int32) + (-1) = 0 by decide, Int32.add_zero]
theorem nI_min {a b : Nat} (ha : a < 2 ^ 31) (hb : b < 2 ^ 31) : (if nI b < nI a then nI b else nI a) = nI (min a b) := by
  by_cases h : b < a
  · rw [if_pos (nI_lt h ha), Nat.min_eq_right (by omega)]
  · rw [if_neg (nI_nlt (by omega) hb), Nat.min_eq_left (by omega)]
theorem lf_app (p : List Nat) (v j : Nat) (h : j < (p ++ [v]).length) (r : Nat → Int32) (hr : ∀ i, i < p.length → r i = lf p i) : upd r p.length (nI v) j = lf (p ++ [v]) j := by
  unfold upd
  by_cases e : j = p.length
  · subst e
    rw [if_pos rfl]
    show nI v = nI ((p ++ [v]).getD p.length 0)
    simp
  · rw [if_neg e]
    have hj : j < p.length := by
      rw [List.length_append, List.length_singleton] at h
      omega
    rw [hr j hj]
    show nI (p.getD j 0) = nI ((p ++ [v]).getD j 0)
    simp [List.getD, List.getElem?_append_left hj]
def l_rf (d n : Nat) : Room := { frames := d + 1, cells := n, slots := 8 * n, locals := 70 + 30 * d }
def SH : Nat → List (List Nat)
  | 0 => []
  | n + 1 => SH n ++ pt n n n
theorem SH_le : ∀ n, n < 9 → (SH n).length + (pt n n n).length ≤ 67 := by decide +kernel
theorem SH_9 : (SH 9).length = 67 := by decide +kernel
theorem dL_fill_0 : decode cL_fill 0 = .ok (.iload 4, 2) := by decide +kernel
theorem dL_fill_2 : decode cL_fill 2 = .ok (.ifCond .ne 26, 3) := by decide +kernel
theorem dL_fill_5 : decode cL_fill 5 = .ok (.iload_n 3, 1) := by decide +kernel
theorem dL_fill_6 : decode cL_fill 6 = .ok (.newarray .int, 2) := by decide +kernel
theorem dL_fill_8 : decode cL_fill 8 = .ok (.astore 6, 2) := by decide +kernel
theorem dL_fill_10 : decode cL_fill 10 = .ok (.aload_n 2, 1) := by decide +kernel
theorem dL_fill_11 : decode cL_fill 11 = .ok (.iconst 0, 1) := by decide +kernel
theorem dL_fill_12 : decode cL_fill 12 = .ok (.aload 6, 2) := by decide +kernel
theorem dL_fill_14 : decode cL_fill 14 = .ok (.iconst 0, 1) := by decide +kernel
theorem dL_fill_15 : decode cL_fill 15 = .ok (.iload_n 3, 1) := by decide +kernel
theorem dL_fill_16 : decode cL_fill 16 = .ok (.invokestatic 8, 3) := by decide +kernel
theorem dL_fill_19 : decode cL_fill 19 = .ok (.aload_n 0, 1) := by decide +kernel
theorem dL_fill_20 : decode cL_fill 20 = .ok (.iload_n 1, 1) := by decide +kernel
theorem dL_fill_21 : decode cL_fill 21 = .ok (.aload 6, 2) := by decide +kernel
theorem dL_fill_23 : decode cL_fill 23 = .ok (.aastore, 1) := by decide +kernel
theorem dL_fill_24 : decode cL_fill 24 = .ok (.iload_n 1, 1) := by decide +kernel
theorem dL_fill_25 : decode cL_fill 25 = .ok (.iconst 1, 1) := by decide +kernel
theorem dL_fill_26 : decode cL_fill 26 = .ok (.iadd, 1) := by decide +kernel
theorem dL_fill_27 : decode cL_fill 27 = .ok (.ireturn, 1) := by decide +kernel
theorem dL_fill_28 : decode cL_fill 28 = .ok (.iload_n 1, 1) := by decide +kernel
theorem dL_fill_29 : decode cL_fill 29 = .ok (.istore 6, 2) := by decide +kernel
theorem dL_fill_31 : decode cL_fill 31 = .ok (.iload 4, 2) := by decide +kernel
theorem dL_fill_33 : decode cL_fill 33 = .ok (.iload 5, 2) := by decide +kernel
theorem dL_fill_35 : decode cL_fill 35 = .ok (.invokestatic 14, 3) := by decide +kernel
theorem dL_fill_38 : decode cL_fill 38 = .ok (.istore 7, 2) := by decide +kernel
theorem dL_fill_40 : decode cL_fill 40 = .ok (.iload 7, 2) := by decide +kernel
theorem dL_fill_42 : decode cL_fill 42 = .ok (.ifCond .le 33, 3) := by decide +kernel
theorem dL_fill_45 : decode cL_fill 45 = .ok (.aload_n 2, 1) := by decide +kernel
theorem dL_fill_46 : decode cL_fill 46 = .ok (.iload_n 3, 1) := by decide +kernel
theorem dL_fill_47 : decode cL_fill 47 = .ok (.iload 7, 2) := by decide +kernel
theorem dL_fill_49 : decode cL_fill 49 = .ok (.iastore, 1) := by decide +kernel
theorem dL_fill_50 : decode cL_fill 50 = .ok (.aload_n 0, 1) := by decide +kernel
theorem dL_fill_51 : decode cL_fill 51 = .ok (.iload 6, 2) := by decide +kernel
theorem dL_fill_53 : decode cL_fill 53 = .ok (.aload_n 2, 1) := by decide +kernel
theorem dL_fill_54 : decode cL_fill 54 = .ok (.iload_n 3, 1) := by decide +kernel
theorem dL_fill_55 : decode cL_fill 55 = .ok (.iconst 1, 1) := by decide +kernel
theorem dL_fill_56 : decode cL_fill 56 = .ok (.iadd, 1) := by decide +kernel
theorem dL_fill_57 : decode cL_fill 57 = .ok (.iload 4, 2) := by decide +kernel
theorem dL_fill_59 : decode cL_fill 59 = .ok (.iload 7, 2) := by decide +kernel
theorem dL_fill_61 : decode cL_fill 61 = .ok (.isub, 1) := by decide +kernel
theorem dL_fill_62 : decode cL_fill 62 = .ok (.iload 7, 2) := by decide +kernel
theorem dL_fill_64 : decode cL_fill 64 = .ok (.invokestatic 20, 3) := by decide +kernel
theorem dL_fill_67 : decode cL_fill 67 = .ok (.istore 6, 2) := by decide +kernel
theorem dL_fill_69 : decode cL_fill 69 = .ok (.iinc 7 (-1), 3) := by decide +kernel
theorem dL_fill_72 : decode cL_fill 72 = .ok (.goto (-32), 3) := by decide +kernel
theorem dL_fill_75 : decode cL_fill 75 = .ok (.iload 6, 2) := by decide +kernel
theorem dL_fill_77 : decode cL_fill 77 = .ok (.ireturn, 1) := by decide +kernel
theorem pk_L_fill : xk_S yL_fill cL_fill 8 (some .int) 6 := ⟨mw_3_169, mw_1_0, mw_3_170, by decide +kernel⟩
set_option maxHeartbeats 4000000 in
set_option maxRecDepth 20000 in
theorem c_L_fill0 (l : Launch) (D : va_G) (cyI cyJ cyB cyQ : ClassId) (al rw : Nat) (d many most sz : Nat) (p : List Nat) (B : Nat → Nat) (r : Nat → Int32) (hp8 : p.length ≤ 8) (hmany : many + 1 ≤ 67) (hr0 : ∀ j, j < p.length → r j = lf p j) : ym_i (S := (Nat → Nat) × (Nat → Int32)) l yL_fill (Cond.code yL_fill cL_fill 8 (some .int) :: xg_tbl) (l_rf d 1) D xcl (ytys cyI cyJ cyB cyQ) ZO sz [.ref al, .int (nI many), .ref rw, .int (nI p.length), .int (nI 0), .int (nI most)] [(qc cyQ al 67 (rfB many B)), (ic cyI rw (8) (r))] (fun x u => x = nI (many + 1) ∧ (∀ j, j < many → u.1 j = B j) ∧ ∀ j, j < p.length → u.2 j = r j) (fun u => [(qc cyQ al 67 (rfB (many + 1) u.1)), (ic cyI rw (8) (u.2))] ++ pw cyI u.1 many [p ++ []]) 1 (8 * 1) := by
  refine ym_of (own := RL) (by decide) rfl rfl (Nat.le_of_ble_eq_true rfl) ?_
  intro p0 e s m args below meth c ls Q A H hQ hAe hH hin Cx hsz hP hD hS hl
  have Cx1 := Cx
  obtain ⟨⟨hx, hb, hml, hown, hts⟩, hr, hlocks, hK, hA, hT⟩ := Cx1
  have hl : lv_has ls 8 [(0, .ref al), (1, .int (nI many)), (2, .ref rw), (3, .int (nI p.length)), (4, .int (nI 0)), (5, .int (nI most))] := hl
  refine lv_iload hx hb dL_fill_0 (lv_at hl 4 rfl) ?_
  refine lv_if_ne (tgt := 28) hx hb dL_fill_2 (by decide) (fun hc => absurd (show nI 0 = 0 from rfl) hc) (fun _ => ?_)
  refine lv_iload_n hx hb dL_fill_5 rfl (lv_at hl 3 rfl) ?_
  refine va_newa (atype := .int) (ty := .int) (a0 := (p.length, .inl (fun _ => 0))) (N' := p.length) hx hb (hts _ mw_1_104) rfl hK hP hD hS hA (fun _ => rfl) (nI_pos (by omega)) (nI_clamp (by omega)) (show p.length * 4 ≤ 536870912 by omega) (show 0 + 1 ≤ (1 : Nat) by omega) (show 0 + p.length ≤ (8 : Nat) by omega) dL_fill_6 (fun u cA H hK1 hP hD hS => ?_)
  have eA := y_sameI hK hK1
  rw [eA] at hP hD
  have hP : va_P D xcl [(qc cyQ al 67 (rfB many B)), (ic cyI rw (8) (r)), (ic cyI u (p.length) (fun _ => (0 : Int32)))] H := hP
  have hD : va_D A [(qc cyQ al 67 (rfB many B)), (ic cyI rw (8) (r)), (ic cyI u (p.length) (fun _ => (0 : Int32)))] := hD
  refine lv_astore (lv' := [(6, .ref u), (0, .ref al), (1, .int (nI many)), (2, .ref rw), (3, .int (nI p.length)), (4, .int (nI 0)), (5, .int (nI most))]) hx hb dL_fill_8 hl (by decide) rfl (fun ls hl => ?_)
  refine lv_aload_n hx hb dL_fill_10 rfl (lv_at hl 3 rfl) ?_
  refine lv_iconst (v := (0 : Int32)) hx hb dL_fill_11 (by decide) ?_
  refine lv_aload hx hb dL_fill_12 (lv_at hl 0 rfl) ?_
  refine lv_iconst (v := (0 : Int32)) hx hb dL_fill_14 (by decide) ?_
  refine lv_iload_n hx hb dL_fill_15 rfl (lv_at hl 4 rfl) ?_
  refine va_copyi hx hb (hml.trans hl.1.symm) hown (hts _ mw_3_171) (hts _ mw_3_41) (hts _ mw_3_40) (hts _ mw_1_11) hK hP hD hS 1 2 0 0 rfl rfl rfl rfl rfl (by decide) (by decide) (nI_pos (by omega)) (by rw [nI_clamp (by omega), show Int32.toNatClampNeg (0 : Int32) = 0 by decide]; omega) (by rw [nI_clamp (by omega), show Int32.toNatClampNeg (0 : Int32) = 0 by decide]; omega) (fun _ _ => rfl) (show 1 ≤ _ from by show 1 ≤ d + 1; omega) (show _ ≤ 70 + 30 * d from Nat.le_trans (Nat.le_of_ble_eq_true rfl : _ ≤ 70) (by omega)) dL_fill_16 (fun H locs hP hD hS => ?_)
  rw [nI_clamp (by omega), show Int32.toNatClampNeg (0 : Int32) = 0 by decide] at hP hD
  have hP : va_P D xcl [(qc cyQ al 67 (rfB many B)), (ic cyI rw (8) (r)), (ic cyI u (p.length) (va_cpy r (fun _ => (0 : Int32)) 0 0 p.length))] H := hP
  have hD : va_D A [(qc cyQ al 67 (rfB many B)), (ic cyI rw (8) (r)), (ic cyI u (p.length) (va_cpy r (fun _ => (0 : Int32)) 0 0 p.length))] := hD
  have hPD : va_P D xcl [(qc cyQ al 67 (rfB many B)), (ic cyI rw (8) (r)), (ic cyI u (p.length) (lf p))] H ∧ va_D A [(qc cyQ al 67 (rfB many B)), (ic cyI rw (8) (r)), (ic cyI u (p.length) (lf p))] := y_ext hP hD 2 (lf p) rfl (fun j hj => by unfold va_cpy; rw [if_pos ⟨Nat.zero_le _, by omega⟩, Nat.zero_add, Nat.sub_zero]; exact hr0 j hj)
  obtain ⟨hP, hD⟩ := hPD
  refine lv_aload_n hx hb dL_fill_19 rfl (lv_at hl 1 rfl) ?_
  refine lv_iload_n hx hb dL_fill_20 rfl (lv_at hl 2 rfl) ?_
  refine lv_aload hx hb dL_fill_21 (lv_at hl 0 rfl) ?_
  refine y_astA hx hb (ZO_use hT) hK hP hD hS 0 2 rfl rfl (vp_in_nI (by omega) (by omega)) dL_fill_23 (fun H locs hP hD hS => ?_)
  rw [nI_clamp (by omega), rfB_up] at hP hD
  have hP : va_P D xcl [(qc cyQ al 67 (rfB (many + 1) (uB B many u))), (ic cyI rw (8) (r)), (ic cyI u (p.length) (lf p))] H := hP
  have hD : va_D A [(qc cyQ al 67 (rfB (many + 1) (uB B many u))), (ic cyI rw (8) (r)), (ic cyI u (p.length) (lf p))] := hD
  have eW : ([(qc cyQ al 67 (rfB (many + 1) (uB B many u))), (ic cyI rw (8) (r)), (ic cyI u (p.length) (lf p))] : va_W) = ([(qc cyQ al 67 (rfB (many + 1) (uB B many u))), (ic cyI rw (8) (r))] ++ pw cyI (uB B many u) many [p ++ []]) := by
    show _ = [_, _, ((uB B many u) many, _)]
    rw [List.append_nil, show uB B many u many = u from if_pos rfl]
  rw [eW] at hP hD
  refine lv_iload_n hx hb dL_fill_24 rfl (lv_at hl 2 rfl) ?_
  refine lv_iconst (v := (1 : Int32)) hx hb dL_fill_25 (by decide) ?_
  refine lv_iadd hx hb dL_fill_26 ?_
  rw [show ((nI many) + (1 : Int32)) = (nI (many + 1)) from (nI_1 many)]
  refine W.widen (k := 1) (n := 8 * 1) (show 0 + 1 ≤ 1 by omega) (show 0 + p.length ≤ 8 * 1 by omega) ?_
  subst hAe
  rw [← hQ]
  exact ye_iret (post := (fun x u => x = nI (many + 1) ∧ (∀ j, j < many → u.1 j = B j) ∧ ∀ j, j < p.length → u.2 j = r j)) (w1 := (fun u => [(qc cyQ al 67 (rfB (many + 1) u.1)), (ic cyI rw (8) (u.2))] ++ pw cyI u.1 many [p ++ []])) (uB B many u, r) Cx ⟨rfl, fun j hj => if_neg (by omega), fun _ _ => rfl⟩ rfl hP hD hS dL_fill_27
set_option maxHeartbeats 8000000 in
set_option maxRecDepth 20000 in
theorem c_L_fill (l : Launch) (D : va_G) (cyI cyJ cyB cyQ : ClassId) (al rw : Nat) : ∀ (d many left most sz : Nat) (p : List Nat) (B : Nat → Nat) (r : Nat → Int32), left ≤ d → p.length + left ≤ 8 → most ≤ 8 → many + (pt d left most).length ≤ 67 → (∀ j, j < p.length → r j = lf p j) → ym_i (S := (Nat → Nat) × (Nat → Int32)) l yL_fill (Cond.code yL_fill cL_fill 8 (some .int) :: xg_tbl) (l_rf d (pt d left most).length) D xcl (ytys cyI cyJ cyB cyQ) ZO sz [.ref al, .int (nI many), .ref rw, .int (nI p.length), .int (nI left), .int (nI most)] [(qc cyQ al 67 (rfB many B)), (ic cyI rw (8) (r))] (fun x u => x = nI (many + (pt d left most).length) ∧ (∀ j, j < many → u.1 j = B j) ∧ ∀ j, j < p.length → u.2 j = r j) (fun u => [(qc cyQ al 67 (rfB (many + (pt d left most).length) u.1)), (ic cyI rw (8) (u.2))] ++ pw cyI u.1 many ((pt d left most).map (fun q => p ++ q))) (pt d left most).length (8 * (pt d left most).length) := by
  intro d
  induction d with
  | zero =>
    intro many left most sz p B r hd hp8 hm8 hmany hr0
    obtain rfl : left = 0 := by omega
    exact c_L_fill0 l D cyI cyJ cyB cyQ al rw 0 many most sz p B r (by omega) hmany hr0
  | succ d ih =>
    intro many left most sz p B r hd hp8 hm8 hmany hr0
    by_cases h0 : left = 0
    · subst h0
      rw [pt_0] at hmany ⊢
      exact c_L_fill0 l D cyI cyJ cyB cyQ al rw (d + 1) many most sz p B r (by omega) hmany hr0
    · have eT : pt (d + 1) left most = ptl (pt d) left (min left most) := if_neg h0
      rw [eT] at hmany ⊢
      refine ym_of (own := RL) (by decide) rfl rfl (Nat.le_of_ble_eq_true rfl) ?_
      intro p0 e s m args below meth c ls Q A H hQ hAe hH hin Cx hsz hP hD hS hl
      have Cx1 := Cx
      obtain ⟨⟨hx, hb, hml, hown, hts⟩, hr, hlocks, hK, hA, hT⟩ := Cx1
      have hl : lv_has ls 8 [(0, .ref al), (1, .int (nI many)), (2, .ref rw), (3, .int (nI p.length)), (4, .int (nI left)), (5, .int (nI most))] := hl
      refine lv_iload hx hb dL_fill_0 (lv_at hl 4 rfl) ?_
      refine lv_if_ne (tgt := 28) hx hb dL_fill_2 (by decide) (fun _ => ?_) (fun hc => absurd hc (nI_ne0 (by omega) (by omega)))
      refine lv_iload_n hx hb dL_fill_28 rfl (lv_at hl 1 rfl) ?_
      refine lv_istore (lv' := [(6, .int (nI many)), (0, .ref al), (1, .int (nI many)), (2, .ref rw), (3, .int (nI p.length)), (4, .int (nI left)), (5, .int (nI most))]) hx hb dL_fill_29 hl (by decide) rfl (fun ls hl => ?_)
      refine lv_iload hx hb dL_fill_31 (lv_at hl 5 rfl) ?_
      refine lv_iload hx hb dL_fill_33 (lv_at hl 6 rfl) ?_
      refine va_mmin hx hb (hml.trans hl.1.symm) hown (hts _ mw_3_172) (hts _ mw_2_183) (hts _ mw_1_12) (hts _ mw_2_184) (show 1 ≤ d + 1 + 1 by omega) (show _ ≤ 70 + 30 * (d + 1) from Nat.le_trans (Nat.le_of_ble_eq_true rfl : _ ≤ 70) (by omega)) (Nat.zero_le _) (Nat.zero_le _) dL_fill_35 ?_
      rw [nI_min (by omega) (by omega)]
      refine lv_istore (lv' := [(7, .int (nI (min left most))), (6, .int (nI many)), (0, .ref al), (1, .int (nI many)), (2, .ref rw), (3, .int (nI p.length)), (4, .int (nI left)), (5, .int (nI most))]) hx hb dL_fill_38 hl (by decide) rfl (fun ls hl => ?_)
      have w_40 : ∀ (v : Nat) (X : List (List Nat)) (B1 : Nat → Nat) (r1 : Nat → Int32) (H : Heap) (locs : List Loc) (ls : Array Slot), X ++ ptl (pt d) left v = ptl (pt d) left (min left most) → v ≤ left → (∀ j, j < many → B1 j = B j) → (∀ j, j < p.length → r1 j = r j) → va_P D xcl ([(qc cyQ al 67 (rfB (many + X.length) B1)), (ic cyI rw (8) (r1))] ++ pw cyI B1 many (X.map (fun q => p ++ q))) H → va_D A ([(qc cyQ al 67 (rfB (many + X.length) B1)), (ic cyI rw (8) (r1))] ++ pw cyI B1 many (X.map (fun q => p ++ q))) → va_S A s.heap H locs → lv_has ls 8 [(7, .int (nI v)), (6, .int (nI (many + X.length))), (0, .ref al), (1, .int (nI many)), (2, .ref rw), (3, .int (nI p.length)), (4, .int (nI left)), (5, .int (nI most))] → W p0 l e (l_rf (d + 1) (ptl (pt d) left (min left most)).length) s m args below meth c H locs X.length (8 * X.length) Q (F0 m 40 ls []) := by
        intro v
        induction v with
        | zero =>
          intro X B1 r1 H locs ls hX hv hB1 hr1 hP hD hS hl
          obtain rfl : X = ptl (pt d) left (min left most) := by rw [← hX]; exact (List.append_nil X).symm
          refine lv_iload hx hb dL_fill_40 (lv_at hl 0 rfl) ?_
          refine lv_if_le (tgt := 75) hx hb dL_fill_42 (by decide) (fun _ => ?_) (fun hc => absurd (show nI 0 ≤ 0 by decide) hc)
          refine lv_iload hx hb dL_fill_75 (lv_at hl 1 rfl) ?_
          subst hAe
          rw [← hQ]
          exact ye_iret (post := (fun x u => x = nI (many + (ptl (pt d) left (min left most)).length) ∧ (∀ j, j < many → u.1 j = B j) ∧ ∀ j, j < p.length → u.2 j = r j)) (w1 := (fun u => [(qc cyQ al 67 (rfB (many + (ptl (pt d) left (min left most)).length) u.1)), (ic cyI rw (8) (u.2))] ++ pw cyI u.1 many ((ptl (pt d) left (min left most)).map (fun q => p ++ q)))) (B1, r1) Cx ⟨rfl, hB1, hr1⟩ rfl hP hD hS dL_fill_77
        | succ v ihv =>
          intro X B1 r1 H locs ls hX hv hB1 hr1 hP hD hS hl
          have hX2 : X ++ ((pt d (left - (v + 1)) (v + 1)).map (fun q => (v + 1) :: q) ++ ptl (pt d) left v) = ptl (pt d) left (min left most) := hX
          have hcnt := congrArg List.length hX2
          rw [List.length_append, List.length_append, List.length_map] at hcnt
          refine lv_iload hx hb dL_fill_40 (lv_at hl 0 rfl) ?_
          refine lv_if_le (tgt := 75) hx hb dL_fill_42 (by decide) (fun hc => absurd hc (nI_nle (by omega) (by omega))) (fun _ => ?_)
          refine lv_aload_n hx hb dL_fill_45 rfl (lv_at hl 4 rfl) ?_
          refine lv_iload_n hx hb dL_fill_46 rfl (lv_at hl 5 rfl) ?_
          refine lv_iload hx hb dL_fill_47 (lv_at hl 0 rfl) ?_
          refine va_iast hx hb hK hP hD hS 1 0 rfl rfl (vp_in_nI (by omega) (by omega)) dL_fill_49 (fun H locs hP hD hS => ?_)
          rw [nI_clamp (by omega)] at hP hD
          have hP : va_P D xcl ([(qc cyQ al 67 (rfB (many + X.length) B1)), (ic cyI rw (8) (upd r1 p.length (nI (v + 1))))] ++ pw cyI B1 many (X.map (fun q => p ++ q))) H := hP
          have hD : va_D A ([(qc cyQ al 67 (rfB (many + X.length) B1)), (ic cyI rw (8) (upd r1 p.length (nI (v + 1))))] ++ pw cyI B1 many (X.map (fun q => p ++ q))) := hD
          refine lv_aload_n hx hb dL_fill_50 rfl (lv_at hl 2 rfl) ?_
          refine lv_iload hx hb dL_fill_51 (lv_at hl 1 rfl) ?_
          refine lv_aload_n hx hb dL_fill_53 rfl (lv_at hl 4 rfl) ?_
          refine lv_iload_n hx hb dL_fill_54 rfl (lv_at hl 5 rfl) ?_
          refine lv_iconst (v := (1 : Int32)) hx hb dL_fill_55 (by decide) ?_
          refine lv_iadd hx hb dL_fill_56 ?_
          rw [show ((nI p.length) + (1 : Int32)) = (nI (p.length + 1)) from (nI_1 p.length)]
          refine lv_iload hx hb dL_fill_57 (lv_at hl 6 rfl) ?_
          refine lv_iload hx hb dL_fill_59 (lv_at hl 0 rfl) ?_
          refine lv_isub hx hb dL_fill_61 ?_
          refine lv_iload hx hb dL_fill_62 (lv_at hl 0 rfl) ?_
          rw [show (nI left - nI (v + 1)) = nI (left - (v + 1)) from nI_subN (by omega)]
          rw [show nI (p.length + 1) = nI (p ++ [v + 1]).length by rw [List.length_append]; rfl]
          have hr2 : ∀ j, j < (p ++ [v + 1]).length → upd r1 p.length (nI (v + 1)) j = lf (p ++ [v + 1]) j := fun j hj => lf_app p (v + 1) j hj r1 (fun i hi => (hr1 i hi).trans (hr0 i hi))
          have hlen2 : (p ++ [v + 1]).length = p.length + 1 := by rw [List.length_append]; rfl
          refine yr_i Cx hP hD hS (yq_front (S := (Nat → Nat) × (Nat → Int32)) [(qc cyQ al 67 (rfB (many + X.length) B1)), (ic cyI rw (8) (upd r1 p.length (nI (v + 1))))] (pw cyI B1 many (X.map (fun q => p ++ q))) (fun (u : (Nat → Nat) × (Nat → Int32)) => [(qc cyQ al 67 (rfB (many + X.length + (pt d (left - (v + 1)) (v + 1)).length) u.1)), (ic cyI rw (8) (u.2))] ++ pw cyI u.1 (many + X.length) ((pt d (left - (v + 1)) (v + 1)).map (fun q => (p ++ [v + 1]) ++ q))) (2 + (pt d (left - (v + 1)) (v + 1)).length) (fun u => by rw [List.length_append, pw_len, List.length_map]; rfl)) (yx_S (n := 6) (As := [.ref al, .int (nI (many + X.length)), .ref rw, .int (nI (p ++ [v + 1]).length), .int (nI (left - (v + 1))), .int (nI (v + 1))]) (rest := []) Cx hP hD hS hl (yq_front (S := (Nat → Nat) × (Nat → Int32)) [(qc cyQ al 67 (rfB (many + X.length) B1)), (ic cyI rw (8) (upd r1 p.length (nI (v + 1))))] (pw cyI B1 many (X.map (fun q => p ++ q))) (fun (u : (Nat → Nat) × (Nat → Int32)) => [(qc cyQ al 67 (rfB (many + X.length + (pt d (left - (v + 1)) (v + 1)).length) u.1)), (ic cyI rw (8) (u.2))] ++ pw cyI u.1 (many + X.length) ((pt d (left - (v + 1)) (v + 1)).map (fun q => (p ++ [v + 1]) ++ q))) (2 + (pt d (left - (v + 1)) (v + 1)).length) (fun u => by rw [List.length_append, pw_len, List.length_map]; rfl)) hK fz_ZO (fun hF => fz_give fz_ZO hT hS hF) (ih (many + X.length) (left - (v + 1)) (v + 1) H.size (p ++ [v + 1]) B1 (upd r1 p.length (nI (v + 1))) (by omega) (by omega) (by omega) (by omega) hr2) pk_L_fill mw_3_168 ⟨rfl, rfl, (show d + 1 + 1 ≤ d + 1 + 1 from Nat.le_refl _), (show 8 + (8 + 11) + (70 + 30 * d) ≤ 70 + 30 * (d + 1) by omega)⟩ rfl rfl (Nat.le_of_ble_eq_true rfl) ⟨(show X.length + (pt d (left - (v + 1)) (v + 1)).length ≤ (ptl (pt d) left (min left most)).length by omega), (show 8 * X.length + 8 * (pt d (left - (v + 1)) (v + 1)).length ≤ 8 * (ptl (pt d) left (min left most)).length by omega)⟩ dL_fill_64) (fun r_1 u H locs hp hP hD hS => ?_)
          obtain ⟨hp1, hp2, hp3⟩ := hp
          subst hp1
          have eN : nI (many + X.length + (pt d (left - (v + 1)) (v + 1)).length) = nI (many + (X ++ (pt d (left - (v + 1)) (v + 1)).map (fun q => (v + 1) :: q)).length) := by rw [List.length_append, List.length_map, Nat.add_assoc]
          rw [eN]
          have eW : pw cyI u.1 many ((X ++ (pt d (left - (v + 1)) (v + 1)).map (fun q => (v + 1) :: q)).map (fun q => p ++ q)) = pw cyI B1 many (X.map (fun q => p ++ q)) ++ pw cyI u.1 (many + X.length) ((pt d (left - (v + 1)) (v + 1)).map (fun q => (p ++ [v + 1]) ++ q)) := by
            rw [List.map_append, pw_app, List.map_map, List.length_map]
            congr 1
            · refine pw_cong cyI _ _ (fun j h1 h2 => hp2 j ?_)
              rw [List.length_map] at h2; exact h2
            · congr 1
              refine List.map_congr_left (fun q _ => ?_)
              show p ++ ((v + 1) :: q) = (p ++ [v + 1]) ++ q
              rw [List.append_assoc]; rfl
          have hPD : va_P D xcl ([(qc cyQ al 67 (rfB (many + (X ++ (pt d (left - (v + 1)) (v + 1)).map (fun q => (v + 1) :: q)).length) u.1)), (ic cyI rw (8) (u.2))] ++ pw cyI u.1 many ((X ++ (pt d (left - (v + 1)) (v + 1)).map (fun q => (v + 1) :: q)).map (fun q => p ++ q))) H ∧ va_D A ([(qc cyQ al 67 (rfB (many + (X ++ (pt d (left - (v + 1)) (v + 1)).map (fun q => (v + 1) :: q)).length) u.1)), (ic cyI rw (8) (u.2))] ++ pw cyI u.1 many ((X ++ (pt d (left - (v + 1)) (v + 1)).map (fun q => (v + 1) :: q)).map (fun q => p ++ q))) := by
            rw [eW, List.length_append, List.length_map, ← Nat.add_assoc]
            refine y_perm hP hD ?_
            rw [List.append_assoc]
            exact List.Perm.append_left _ List.perm_append_comm
          obtain ⟨hP, hD⟩ := hPD
          refine lv_istore (lv' := [(6, .int (nI (many + (X ++ (pt d (left - (v + 1)) (v + 1)).map (fun q => (v + 1) :: q)).length))), (7, .int (nI (v + 1))), (0, .ref al), (1, .int (nI many)), (2, .ref rw), (3, .int (nI p.length)), (4, .int (nI left)), (5, .int (nI most))]) hx hb dL_fill_67 hl (by decide) rfl (fun ls hl => ?_)
          refine lv_iinc (v := ((nI (v + 1)) + (-1 : Int32))) (lv' := [(7, .int ((nI (v + 1)) + (-1 : Int32))), (6, .int (nI (many + (X ++ (pt d (left - (v + 1)) (v + 1)).map (fun q => (v + 1) :: q)).length))), (0, .ref al), (1, .int (nI many)), (2, .ref rw), (3, .int (nI p.length)), (4, .int (nI left)), (5, .int (nI most))]) hx hb dL_fill_69 hl (k := 1) rfl rfl (by decide) rfl (fun ls hl => ?_)
          refine lv_goto (tgt := 40) hx hb dL_fill_72 (by decide) ?_
          rw [show ((nI (v + 1)) + (-1 : Int32)) = (nI v) from (nI_dec v)] at hl
          refine W.widen (k := (X ++ (pt d (left - (v + 1)) (v + 1)).map (fun q => (v + 1) :: q)).length) (n := 8 * (X ++ (pt d (left - (v + 1)) (v + 1)).map (fun q => (v + 1) :: q)).length) (by rw [List.length_append, List.length_map]; omega) (by rw [List.length_append, List.length_map]; omega) ?_
          exact ihv (X ++ (pt d (left - (v + 1)) (v + 1)).map (fun q => (v + 1) :: q)) u.1 u.2 H _ ls (by rw [List.append_assoc]; exact hX2) (by omega) (fun j hj => (hp2 j (by omega)).trans (hB1 j hj)) (fun j hj => (hp3 j (by omega)).trans ((if_neg (by omega)).trans (hr1 j hj))) hP hD hS (lv_sub hl [0, 1, 2, 3, 4, 5, 6, 7] rfl)
      have hw := w_40 (min left most) [] B r H
      rw [show many + ([] : List (List Nat)).length = many from rfl, show 8 * ([] : List (List Nat)).length = 0 from rfl, show ([] : List (List Nat)).length = 0 from rfl] at hw
      exact hw _ ls rfl (Nat.min_le_left _ _) (fun _ _ => rfl) (fun _ _ => rfl) hP hD hS (lv_sub hl [0, 1, 2, 3, 4, 5, 6, 7] rfl)
