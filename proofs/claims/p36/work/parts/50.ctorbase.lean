/-! constructors: contracts whose new cells' addresses come with the end -/
def x_ad (L : List Nat) (k : Nat) : Nat := L.getD k 0
theorem x_sameI {D : va_G} {cl : List vw_C} {cyI cyJ cA : ClassId} {s : State} (hK : va_K D cl [(cyI, .int), (cyJ, .long)] s) (hK1 : va_K D cl ([(cyI, .int), (cyJ, .long)] ++ [(cA, .int)]) s) : cA = cyI := by
  have h1 : s.vm.findClass ("[" ++ FieldType.int.toString) = some cyI := (hK.2 0 _ rfl).2
  have h2 : s.vm.findClass ("[" ++ FieldType.int.toString) = some cA := (hK1.2 2 _ rfl).2
  exact Option.some.inj (h2.symm.trans h1)
theorem x_sameJ {D : va_G} {cl : List vw_C} {cyI cyJ cA : ClassId} {s : State} (hK : va_K D cl [(cyI, .int), (cyJ, .long)] s) (hK1 : va_K D cl ([(cyI, .int), (cyJ, .long)] ++ [(cA, .long)]) s) : cA = cyJ := by
  have h1 : s.vm.findClass ("[" ++ FieldType.long.toString) = some cyJ := (hK.2 1 _ rfl).2
  have h2 : s.vm.findClass ("[" ++ FieldType.long.toString) = some cA := (hK1.2 2 _ rfl).2
  exact Option.some.inj (h2.symm.trans h1)
abbrev xc_Qn {S : Type} (D : va_G) (cl : List vw_C) (tys : List (ClassId × FieldType)) (A : Nat → Prop) (w1 : S → va_W) : Array Value → State → Outcome → State → Prop := va_Qv (fun (_ : S) => True) (fun u t => xc_Post D cl tys A (w1 u) t) A
def xm_n {S : Type} (l : Launch) (y : MethodName) (ws : List Cond) (rm : Room) (D : va_G) (cl : List vw_C) (tys : List (ClassId × FieldType)) (G : Nat → Nat) (sz : Nat) (av : List Value) (wd : va_W) (w1 : S → va_W) (mc ms : Nat) : Prop :=
  Met l y ws rm (va_Pc av (xc_Pre D cl tys G wd sz)) (xc_Qn D cl tys (va_A wd sz) w1) mc ms (va_A wd sz)
theorem xm_of_n {S : Type} {l : Launch} {y : MethodName} {ws : List Cond} {rm : Room} {D : va_G} {cl : List vw_C} {tys : List (ClassId × FieldType)} {G : Nat → Nat} {sz mc ms : Nat} {av : List Value} {wd : va_W} {w1 : S → va_W} {cc : ByteArray} {maxL : Nat} {own : String}
    (hy : plainName y.cls = true) (hw : ws = Cond.code y cc maxL none :: xg_tbl) (hown : y.cls = own) (hn : (lg_sl av).length ≤ maxL)
    (body : ∀ (p : Program) (e : Env) (s : State) (m : MethodId) (args : Array Value) (below : List Frame) (meth : Method) (c : Code) (ls : Array Slot) (Q : State → Prop) (A : Nat → Prop), MQ below (xc_Qn D cl tys A w1) args s mc ms A = Q → va_A wd sz = A → (y.name = "<init>" → meth.name = "<init>") → xc_C p s m args meth c cc maxL own none D cl tys G A → s.heap.size = sz → va_P D cl wd s.heap → va_D A wd → va_S A s.heap s.heap [] → lv_has ls maxL (lv_args 0 av) → W p l e rm s m args below meth c s.heap [] 0 0 Q (F0 m 0 ls [])) :
    xm_n l y ws rm D cl tys G sz av wd w1 mc ms :=
  xm_of hy hw hown hn (fun p e s m args below meth c ls h1 Cx h2 h3 h4 h5 h6 => body p e s m args below meth c ls _ _ rfl rfl h1 Cx h2 h3 h4 h5 h6)
def xq_PlN {S : Type} (ws wc : va_W) (w1 ws1 : S → va_W) : Prop := ∃ (wr : va_W) (isC isR isB : List Nat), isC.map (fun i => ws[i]?) = wc.map some ∧ isR.map (fun i => ws[i]?) = wr.map some ∧ va_nd isC = true ∧ va_nd isR = true ∧ (∀ i ∈ isR, i ∉ isC) ∧ (∀ u, isB.map (fun i => (wr ++ w1 u)[i]?) = (ws1 u).map some) ∧ va_nd isB = true
def xk_I (y : MethodName) (cb : ByteArray) (maxL n : Nat) : Prop := Cond.instanceMethod y ∈ xg_tbl ∧ Cond.initialized y.cls ∈ xg_tbl ∧ Cond.code y cb maxL none ∈ xg_tbl ∧ y.name = "<init>" ∧ (y.cls ≠ "java/lang/invoke/MethodHandle" ∧ y.cls ≠ "java/lang/invoke/VarHandle" ∧ (parseMethodDescriptor y.desc).map (fun d => d.parameters.length) = some n)
section XN
variable {p : Program} {l : Launch} {e : Env} {R : Room} {s : State} {m : MethodId} {args : Array Value} {below : List Frame} {meth : Method} {c : Code} {H : Heap} {locs : List Loc} {cells slots : Nat} {Q : State → Prop}
variable {cc cb : ByteArray} {nL maxL pc n index : Nat} {own : String} {D : va_G} {cl : List vw_C} {tys : List (ClassId × FieldType)} {G : Nat → Nat} {A : Nat → Prop} {ws wc : va_W} {ls : Array Slot} {st rest As : List Value} {y : MethodName} {rm : Room} {b : Nat} {rt : Option FieldType} {lv0 : List (Nat × Value)}
theorem xe_nret {S : Type} {w1 : S → va_W} (u : S) (Cx : xc_C p s m args meth c cc nL own none D cl tys G A) (hP : va_P D cl (w1 u) H) (hD : va_D A (w1 u)) (hS : va_S A s.heap H locs) (hdg : decode cc pc = .ok (.return_, 1)) : W p l e R s m args below meth c H locs cells slots (MQ below (xc_Qn D cl tys A w1) args s cells slots A) (F0 m pc ls []) := by
  obtain ⟨⟨hx, hb, hml, hown, hts⟩, hr, hlocks, hK, hA, hT⟩ := Cx
  exact W.vret hx hb hr (fun t ht hW => ⟨⟨u, rfl, trivial, by rw [ht]; exact hP, va_K.moved hW.alike hK, hD⟩, hS.F ht⟩) hS.2.2 hdg hlocks
theorem xn_v {S : Type} {w1 ws1 : S → va_W} {mc ms : Nat} (Cx : xc_C p s m args meth c cc nL own rt D cl tys G A) (hP : va_P D cl ws H) (hD : va_D A ws) (hS : va_S A s.heap H locs) (hv : lv_has ls nL lv0) (hl : xq_PlN ws wc w1 ws1) (hM : xm_n l y (Cond.code y cb maxL none :: xg_tbl) rm D cl tys G H.size (.ref b :: As) wc w1 mc ms)
    (hV : xk_I y cb maxL n) (hlink : Cond.methodLink own index y ∈ xg_tbl) (hrm : rm.cells = mc ∧ rm.slots = ms ∧ rm.frames + 1 ≤ R.frames ∧ 8 + (maxL + 11) + rm.locals ≤ R.locals) (hn : As.length = n) (hst : st = As.reverse ++ .ref b :: rest) (hW : (rest.map fun v => v.category).sum ≤ 8) (hc : cells + mc ≤ R.cells ∧ slots + ms ≤ R.slots) (hdg : decode cc pc = .ok (.invokespecial index, 3))
    (kk : ∀ (u : S) (H1 : Heap) (locs1 : List Loc), va_P D cl (ws1 u) H1 → va_D A (ws1 u) → va_S A s.heap H1 locs1 → W p l e R s m args below meth c H1 locs1 (cells + mc) (slots + ms) Q (F0 m (pc + 3) ls rest)) : W p l e R s m args below meth c H locs cells slots Q (F0 m pc ls st) := by
  subst hst
  obtain ⟨hC, hr, hlocks, hK, hA, hT⟩ := Cx
  obtain ⟨wr, isC, isR, isB, e1, e2, n1, n2, n3, e3, n4⟩ := hl
  have hPc := xq_pick hP isC e1
  have hDc := hD.sub isC n1 e1
  have hFc := va_free hD hS hA isC e1
  refine va_callv (va_runI hC hM (cwI n hC.2.2.2.2 (xg_code hV.2.2.1) rfl hrm.1 hrm.2.1 (hC.2.2.2.2 _ hV.2.1) (hC.2.2.2.2 _ hlink) (hC.2.2.2.2 _ hV.1) hV.2.2.2.1 hV.2.2.2.2 hrm.2.2) ⟨xk_blind, fun U hU hW => ⟨rfl, by rw [hU], by rw [hU]; exact hPc, va_K.moved hW.alike hK, hDc.weaken (fun _ _ _ _ => trivial), by rw [hU]; exact ((hT.kept (fun a h1 h2 => hS.2.1 a h1 h2)).narrow hFc).moved hW.alike⟩⟩ rfl hn hv.1 rfl (lv_room hW) hdg hc) hS (fun q _ h => hFc q h) hFc (fun u t H1 locs1 ht hvm hw hB hz1 hk1 hS1 => ?_)
  obtain ⟨hP1, hK1, hD1⟩ := hB
  rw [ht] at hP1
  obtain ⟨hP2, hD2⟩ := va_join hP hD isC isR e1 e2 n2 n3 hk1 hFc hP1 hD1
  exact kk u H1 locs1 (xq_pick hP2 isB (e3 u)) (hD2.sub isB n4 (e3 u)) hS1
end XN

def wd_X101 (a : Nat → Nat) (cyI cyJ : ClassId) (v1_table : Nat → Int32) (v7_rows : Nat → Int32) (v7_lengths : Nat → Int32) (v7_sizes : Nat → Int32) (v7_rests : Nat → Int32) (v7_orders : Nat → Int32) (v6_hooks : Nat → Int32) (v6_lefts : Nat → Int32) (v6_heights : Nat → Int32) : va_W := [(a 13, .inr (1, [.ref (a 2), .ref (a 14)])), (a 14, .inl (cyI, 1474, .inl v1_table)), (a 2, .inr (7, [.ref (a 3), .ref (a 4), .ref (a 5), .ref (a 6), .ref (a 7)])), (a 3, .inl (cyI, 536, .inl v7_rows)), (a 4, .inl (cyI, 67, .inl v7_lengths)), (a 5, .inl (cyI, 67, .inl v7_sizes)), (a 6, .inl (cyI, 67, .inl v7_rests)), (a 7, .inl (cyI, 67, .inl v7_orders)), (a 8, .inr (6, [.ref (a 2), .ref (a 9), .ref (a 10), .ref (a 11)])), (a 9, .inl (cyI, 536, .inl v6_hooks)), (a 10, .inl (cyI, 536, .inl v6_lefts)), (a 11, .inl (cyI, 536, .inl v6_heights))]
set_option maxRecDepth 20000 in
theorem pl_X101_X7 (a : Nat → Nat) (cyI cyJ : ClassId) (v1_table : Nat → Int32) (v7_rows : Nat → Int32) (v7_lengths : Nat → Int32) (v7_sizes : Nat → Int32) (v7_rests : Nat → Int32) (v7_orders : Nat → Int32) (v6_hooks : Nat → Int32) (v6_lefts : Nat → Int32) (v6_heights : Nat → Int32) (nv7_rows : Nat → Int32) (nv7_lengths : Nat → Int32) (nv7_sizes : Nat → Int32) (nv7_rests : Nat → Int32) (nv7_orders : Nat → Int32) : xq_Pl (wd_X101 a cyI cyJ v1_table v7_rows v7_lengths v7_sizes v7_rests v7_orders v6_hooks v6_lefts v6_heights) (wd_X7 a cyI cyJ v7_rows v7_lengths v7_sizes v7_rests v7_orders) (wd_X7 a cyI cyJ nv7_rows nv7_lengths nv7_sizes nv7_rests nv7_orders) (wd_X101 a cyI cyJ v1_table nv7_rows nv7_lengths nv7_sizes nv7_rests nv7_orders v6_hooks v6_lefts v6_heights) :=
  ⟨[(a 13, .inr (1, [.ref (a 2), .ref (a 14)])), (a 14, .inl (cyI, 1474, .inl v1_table)), (a 8, .inr (6, [.ref (a 2), .ref (a 9), .ref (a 10), .ref (a 11)])), (a 9, .inl (cyI, 536, .inl v6_hooks)), (a 10, .inl (cyI, 536, .inl v6_lefts)), (a 11, .inl (cyI, 536, .inl v6_heights))], [2, 3, 4, 5, 6, 7], [0, 1, 8, 9, 10, 11], [0, 1, 6, 7, 8, 9, 10, 11, 2, 3, 4, 5], rfl, rfl, rfl, rfl, by decide, rfl, rfl⟩
set_option maxRecDepth 20000 in
theorem pl_X101_X6 (a : Nat → Nat) (cyI cyJ : ClassId) (v1_table : Nat → Int32) (v7_rows : Nat → Int32) (v7_lengths : Nat → Int32) (v7_sizes : Nat → Int32) (v7_rests : Nat → Int32) (v7_orders : Nat → Int32) (v6_hooks : Nat → Int32) (v6_lefts : Nat → Int32) (v6_heights : Nat → Int32) (nv6_hooks : Nat → Int32) (nv6_lefts : Nat → Int32) (nv6_heights : Nat → Int32) (nv7_rows : Nat → Int32) (nv7_lengths : Nat → Int32) (nv7_sizes : Nat → Int32) (nv7_rests : Nat → Int32) (nv7_orders : Nat → Int32) : xq_Pl (wd_X101 a cyI cyJ v1_table v7_rows v7_lengths v7_sizes v7_rests v7_orders v6_hooks v6_lefts v6_heights) (wd_X6 a cyI cyJ v6_hooks v6_lefts v6_heights v7_rows v7_lengths v7_sizes v7_rests v7_orders) (wd_X6 a cyI cyJ nv6_hooks nv6_lefts nv6_heights nv7_rows nv7_lengths nv7_sizes nv7_rests nv7_orders) (wd_X101 a cyI cyJ v1_table nv7_rows nv7_lengths nv7_sizes nv7_rests nv7_orders nv6_hooks nv6_lefts nv6_heights) :=
  ⟨[(a 13, .inr (1, [.ref (a 2), .ref (a 14)])), (a 14, .inl (cyI, 1474, .inl v1_table))], [8, 9, 10, 11, 2, 3, 4, 5, 6, 7], [0, 1], [0, 1, 6, 7, 8, 9, 10, 11, 2, 3, 4, 5], rfl, rfl, rfl, rfl, by decide, rfl, rfl⟩
set_option maxRecDepth 20000 in
theorem pl_X101_X1 (a : Nat → Nat) (cyI cyJ : ClassId) (v1_table : Nat → Int32) (v7_rows : Nat → Int32) (v7_lengths : Nat → Int32) (v7_sizes : Nat → Int32) (v7_rests : Nat → Int32) (v7_orders : Nat → Int32) (v6_hooks : Nat → Int32) (v6_lefts : Nat → Int32) (v6_heights : Nat → Int32) (nv1_table : Nat → Int32) (nv7_rows : Nat → Int32) (nv7_lengths : Nat → Int32) (nv7_sizes : Nat → Int32) (nv7_rests : Nat → Int32) (nv7_orders : Nat → Int32) : xq_Pl (wd_X101 a cyI cyJ v1_table v7_rows v7_lengths v7_sizes v7_rests v7_orders v6_hooks v6_lefts v6_heights) (wd_X1 a cyI cyJ v1_table v7_rows v7_lengths v7_sizes v7_rests v7_orders) (wd_X1 a cyI cyJ nv1_table nv7_rows nv7_lengths nv7_sizes nv7_rests nv7_orders) (wd_X101 a cyI cyJ nv1_table nv7_rows nv7_lengths nv7_sizes nv7_rests nv7_orders v6_hooks v6_lefts v6_heights) :=
  ⟨[(a 8, .inr (6, [.ref (a 2), .ref (a 9), .ref (a 10), .ref (a 11)])), (a 9, .inl (cyI, 536, .inl v6_hooks)), (a 10, .inl (cyI, 536, .inl v6_lefts)), (a 11, .inl (cyI, 536, .inl v6_heights))], [0, 1, 2, 3, 4, 5, 6, 7], [8, 9, 10, 11], [4, 5, 6, 7, 8, 9, 10, 11, 0, 1, 2, 3], rfl, rfl, rfl, rfl, by decide, rfl, rfl⟩
theorem pk_X7_init : xk_I yX7_init cX7_init 2 0 := ⟨mw_1_33, mw_1_2, mw_1_34, rfl, by decide +kernel⟩
theorem pk_X6_init : xk_I yX6_init cX6_init 6 1 := ⟨mw_1_108, mw_1_3, mw_1_109, rfl, by decide +kernel⟩
theorem pk_X2_init : xk_I yX2_init cX2_init 2 1 := ⟨mw_2_3, mw_1_7, mw_2_4, rfl, by decide +kernel⟩
theorem pk_X1_init : xk_I yX1_init cX1_init 6 2 := ⟨mw_1_153, mw_1_4, mw_1_154, rfl, by decide +kernel⟩
theorem pk_X5_init : xk_I yX5_init cX5_init 3 2 := ⟨mw_1_203, mw_1_5, mw_1_204, rfl, by decide +kernel⟩
theorem pk_X8_init : xk_I yX8_init cX8_init 2 0 := ⟨mw_1_219, mw_1_6, mw_1_220, rfl, by decide +kernel⟩
theorem pk_X0_init : xk_I yX0_init cX0_init 6 5 := ⟨mw_2_13, mw_1_8, mw_2_14, rfl, by decide +kernel⟩
theorem pk_X3_init : xk_I yX3_init cX3_init 3 2 := ⟨mw_2_39, mw_1_9, mw_2_40, rfl, by decide +kernel⟩
theorem pk_X4_init : xk_I yX4_init cX4_init 2 0 := ⟨mw_2_64, mw_1_10, mw_2_65, rfl, by decide +kernel⟩
theorem pk_X9_init : xk_I yX9_init cX9_init 6 0 := ⟨mw_1_25, mw_1_1, mw_1_26, rfl, by decide +kernel⟩
