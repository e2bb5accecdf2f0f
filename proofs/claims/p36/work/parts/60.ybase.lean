/-! a second kind of contracts: what a method reads and never writes stands in Z (cells that nobody writes), its answer and its new cells come with a value of S -/
abbrev yZ : Type := (Nat → Prop) → State → Heap → Prop
/-- Z speaks of tables and of cells outside A alone -/
def fz (Z : yZ) : Prop := (∀ (A : Nat → Prop) (u U : State) (H : Heap), (u.WarmedH U.vm ∨ U.vm = u.vm) → Z A u H → Z A U H) ∧ (∀ (A : Nat → Prop) (u : State) (H H1 : Heap), (∀ a : Nat, a < H.size → ¬ A a → H1[a]? = H[a]?) → Z A u H → Z A u H1) ∧ (∀ (A B : Nat → Prop) (u : State) (H : Heap), (∀ q, B q → A q) → Z A u H → Z B u H)
def yc_Pre (D : va_G) (cl : List vw_C) (tys : List (ClassId × FieldType)) (Z : yZ) (ws : va_W) (sz : Nat) (U : State) : Prop :=
  U.heap.size = sz ∧ va_P D cl ws U.heap ∧ va_K D cl tys U ∧ va_D (fun _ => True) ws ∧ Z (va_A ws sz) U U.heap
theorem fz_al {u U : State} (h : u.WarmedH U.vm ∨ U.vm = u.vm) : u.vm.Alike U.vm := by
  rcases h with h | h
  · exact h.alike
  · rw [h]; exact Vm.Alike.refl u.vm
theorem fz_xs (G : Nat → Nat) : fz (xs_T G) := ⟨fun _ _ _ _ h1 h2 => h2.moved (fz_al h1), fun _ _ _ _ h1 h2 => h2.kept h1, fun _ _ _ _ h1 h2 => h2.narrow h1⟩
theorem fz_T (ty : FieldType) (t N : Nat) (f : Nat → Value) : fz (fun A U H => va_T ty t N f A U H) := ⟨fun _ _ _ _ h1 h2 => h2.moved (fz_al h1), fun _ _ _ _ h1 h2 => h2.kept h1, fun _ _ _ _ h1 h2 => h2.narrow h1⟩
theorem fz_0 : fz (fun _ _ _ => True) := ⟨fun _ _ _ _ _ _ => trivial, fun _ _ _ _ _ _ => trivial, fun _ _ _ _ _ _ => trivial⟩
theorem fz_and {Z1 Z2 : yZ} (h1 : fz Z1) (h2 : fz Z2) : fz (fun A U H => Z1 A U H ∧ Z2 A U H) :=
  ⟨fun _ _ _ _ q h => ⟨h1.1 _ _ _ _ q h.1, h2.1 _ _ _ _ q h.2⟩, fun _ _ _ _ q h => ⟨h1.2.1 _ _ _ _ q h.1, h2.2.1 _ _ _ _ q h.2⟩, fun _ _ _ _ q h => ⟨h1.2.2 _ _ _ _ q h.1, h2.2.2 _ _ _ _ q h.2⟩⟩
theorem fz_all {ι : Type} {P : ι → Prop} {Z : ι → yZ} (h : ∀ i, fz (Z i)) : fz (fun A U H => ∀ i, P i → Z i A U H) :=
  ⟨fun _ _ _ _ q g i hi => (h i).1 _ _ _ _ q (g i hi), fun _ _ _ _ q g i hi => (h i).2.1 _ _ _ _ q (g i hi), fun _ _ _ _ q g i hi => (h i).2.2 _ _ _ _ q (g i hi)⟩
def ym_i {S : Type} (l : Launch) (y : MethodName) (ws : List Cond) (rm : Room) (D : va_G) (cl : List vw_C) (tys : List (ClassId × FieldType)) (Z : yZ) (sz : Nat) (av : List Value) (wd : va_W) (post : Int32 → S → Prop) (w1 : S → va_W) (mc ms : Nat) : Prop :=
  Met l y ws rm (va_Pc av (yc_Pre D cl tys Z wd sz)) (va_Qi post (fun u t => xc_Post D cl tys (va_A wd sz) (w1 u) t) (va_A wd sz)) mc ms (va_A wd sz)
def ym_l {S : Type} (l : Launch) (y : MethodName) (ws : List Cond) (rm : Room) (D : va_G) (cl : List vw_C) (tys : List (ClassId × FieldType)) (Z : yZ) (sz : Nat) (av : List Value) (wd : va_W) (post : Int64 → S → Prop) (w1 : S → va_W) (mc ms : Nat) : Prop :=
  Met l y ws rm (va_Pc av (yc_Pre D cl tys Z wd sz)) (va_Ql post (fun u t => xc_Post D cl tys (va_A wd sz) (w1 u) t) (va_A wd sz)) mc ms (va_A wd sz)
def ym_v {S : Type} (l : Launch) (y : MethodName) (ws : List Cond) (rm : Room) (D : va_G) (cl : List vw_C) (tys : List (ClassId × FieldType)) (Z : yZ) (sz : Nat) (av : List Value) (wd : va_W) (post : S → Prop) (w1 : S → va_W) (mc ms : Nat) : Prop :=
  Met l y ws rm (va_Pc av (yc_Pre D cl tys Z wd sz)) (va_Qv post (fun u t => xc_Post D cl tys (va_A wd sz) (w1 u) t) (va_A wd sz)) mc ms (va_A wd sz)
def ym_r {S : Type} (l : Launch) (y : MethodName) (ws : List Cond) (rm : Room) (D : va_G) (cl : List vw_C) (tys : List (ClassId × FieldType)) (Z : yZ) (sz : Nat) (av : List Value) (wd : va_W) (post : S → Prop) (ad : S → Nat) (w1 : S → va_W) (mc ms : Nat) : Prop :=
  Met l y ws rm (va_Pc av (yc_Pre D cl tys Z wd sz)) (va_Qr post (fun u a t => a = ad u ∧ xc_Post D cl tys (va_A wd sz) (w1 u) t) (va_A wd sz)) mc ms (va_A wd sz)
theorem ym_xi {l : Launch} {y : MethodName} {ws : List Cond} {rm : Room} {D : va_G} {cl : List vw_C} {tys : List (ClassId × FieldType)} {G : Nat → Nat} {sz : Nat} {av : List Value} {wd w1 : va_W} {r : Int32} (h : xm_i l y ws rm D cl tys G sz av wd w1 r) : ym_i (S := Unit) l y ws rm D cl tys (xs_T G) sz av wd (fun r' _ => r' = r) (fun _ => w1) 0 0 := h
theorem ym_xl {l : Launch} {y : MethodName} {ws : List Cond} {rm : Room} {D : va_G} {cl : List vw_C} {tys : List (ClassId × FieldType)} {G : Nat → Nat} {sz : Nat} {av : List Value} {wd w1 : va_W} {r : Int64} (h : xm_l l y ws rm D cl tys G sz av wd w1 r) : ym_l (S := Unit) l y ws rm D cl tys (xs_T G) sz av wd (fun r' _ => r' = r) (fun _ => w1) 0 0 := h
theorem ym_xn {S : Type} {l : Launch} {y : MethodName} {ws : List Cond} {rm : Room} {D : va_G} {cl : List vw_C} {tys : List (ClassId × FieldType)} {G : Nat → Nat} {sz mc ms : Nat} {av : List Value} {wd : va_W} {w1 : S → va_W} (h : xm_n l y ws rm D cl tys G sz av wd w1 mc ms) : ym_v l y ws rm D cl tys (xs_T G) sz av wd (fun _ => True) w1 mc ms := h
/-- what stays true all through a method, since heap H0 -/
def yc_C (p : Program) (s : State) (m : MethodId) (args : Array Value) (meth : Method) (c : Code) (cc : ByteArray) (nL : Nat) (own : String) (ret : Option FieldType) (D : va_G) (cl : List vw_C) (tys : List (ClassId × FieldType)) (Z : yZ) (A : Nat → Prop) (H0 : Heap) : Prop :=
  CallFix p m c cc nL s args xg_tbl own ∧ meth.sig.returnType = ret ∧ meth.locks = false ∧ va_K D cl tys s ∧ (∀ q, H0.size ≤ q → A q) ∧ Z A s H0
theorem ym_of {l : Launch} {y : MethodName} {ws : List Cond} {rm : Room} {D : va_G} {cl : List vw_C} {tys : List (ClassId × FieldType)} {Z : yZ} {sz mc ms : Nat} {av : List Value} {wd : va_W} {ret : Option FieldType} {cc : ByteArray} {maxL : Nat} {own : String} {Qc : Array Value → State → Outcome → State → Prop}
    (hy : plainName y.cls = true) (hw : ws = Cond.code y cc maxL ret :: xg_tbl) (hown : y.cls = own) (hn : (lg_sl av).length ≤ maxL)
    (body : ∀ (p : Program) (e : Env) (s : State) (m : MethodId) (args : Array Value) (below : List Frame) (meth : Method) (c : Code) (ls : Array Slot) (Q : State → Prop) (A : Nat → Prop) (H : Heap), MQ below Qc args s mc ms A = Q → va_A wd sz = A → s.heap = H → (y.name = "<init>" → meth.name = "<init>") → yc_C p s m args meth c cc maxL own ret D cl tys Z A s.heap → s.heap.size = sz → va_P D cl wd H → va_D A wd → va_S A s.heap H [] → lv_has ls maxL (lv_args 0 av) → W p l e rm s m args below meth c H [] 0 0 Q (F0 m 0 ls [])) :
    Met l y ws rm (va_Pc av (yc_Pre D cl tys Z wd sz)) Qc mc ms (va_A wd sz) := by
  refine Met.ofW (cc := cc) (maxL := maxL) (ret := ret) hy hw ?_
  intro p e s m args below meth c s₁ B hml hv
  obtain ⟨rfl, hsz, hP, hK, hD0, hT⟩ := hv
  have hts0 := atoms_spec (ws := ws) B.pre
  have hts : ∀ w ∈ xg_tbl, w.before av.toArray s = true := fun w h => hts0 w (by rw [hw]; exact List.mem_cons_of_mem _ h)
  have hcls : s.vm.findClass own = some m.cls := by rw [← hown]; exact findClass_of_methodNamed B.named
  have hl := lv_entry av (n := maxL) hn
  rw [lg_entry_eq]
  refine body p e s m av.toArray below meth c _ _ _ s.heap rfl rfl rfl (fun h => (name_of_methodNamed B.named B.method).1.trans h) ⟨⟨B.exec, B.bytes, hml, hcls, hts⟩, B.returns, B.notSynchronized, hK, fun q h => Or.inr (by rw [← hsz]; exact h), hT⟩ hsz hP hD0.self va_S.rf hl
theorem y_blind {D : va_G} {cl : List vw_C} {tys : List (ClassId × FieldType)} {Z : yZ} (hf : fz Z) {av : List Value} {ws : va_W} {sz : Nat} : FrameBlind (va_Pc av (yc_Pre D cl tys Z ws sz)) := fun a U g mk q => by
  obtain ⟨q1, q2, q3, q4, q5, q6⟩ := q
  exact ⟨q1, q2, q3, va_K.moved (u := U) (U := U.calling g mk a) (Vm.Alike.refl U.vm) q4, q5, hf.1 _ U (U.calling g mk a) _ (Or.inr rfl) q6⟩
/-! places -/
theorem yq_none {S : Type} (ws : va_W) : xq_PlN (S := S) ws [] (fun _ => []) (fun _ => ws) := by
  obtain ⟨wr, a, b, c, h1, h2, h3, h4, h5, h6, h7⟩ := xq_none ws
  exact ⟨wr, a, b, c, h1, h2, h3, h4, h5, fun _ => h6, h7⟩
theorem yq_of {S : Type} {ws wc : va_W} {w1 ws1 : S → va_W} (wr : va_W) (isC isR isB : List Nat) (h1 : isC.map (fun i => ws[i]?) = wc.map some) (h2 : isR.map (fun i => ws[i]?) = wr.map some) (h3 : va_nd isC = true) (h4 : va_nd isR = true) (h5 : ∀ i ∈ isR, i ∉ isC) (h6 : ∀ u, isB.map (fun i => (wr ++ w1 u)[i]?) = (ws1 u).map some) (h7 : va_nd isB = true) : xq_PlN ws wc w1 ws1 := ⟨wr, isC, isR, isB, h1, h2, h3, h4, h5, h6, h7⟩
theorem yq_map_range (ws : va_W) : (List.range ws.length).map (fun i => ws[i]?) = ws.map some := List.ext_getElem (by simp) (fun i h1 h2 => by simp)
theorem yq_map_left (a b : va_W) : (List.range a.length).map (fun i => (a ++ b)[i]?) = a.map some := List.ext_getElem (by simp) (fun i h1 h2 => by
  have h3 : i < a.length := by simpa using h1
  simp [List.getElem?_append_left h3])
theorem yq_map_right (a b : va_W) : ((List.range b.length).map (a.length + ·)).map (fun i => (a ++ b)[i]?) = b.map some := List.ext_getElem (by simp) (fun i h1 h2 => by
  have h3 : i < b.length := by simpa using h2
  simp [List.getElem?_append_right, h3])
theorem yq_nd_right (n k : Nat) : va_nd ((List.range n).map (k + ·)) = true := xq_nd (by
  refine List.Pairwise.map _ (fun a b h => ?_) List.nodup_range
  show ¬ k + a = k + b
  omega)
/-- the callee's cells stand first; a list of cells stays behind them -/
theorem yq_front {S : Type} (wc E : va_W) (w1 : S → va_W) (n : Nat) (hn : ∀ u, (w1 u).length = n) : xq_PlN (S := S) (wc ++ E) wc w1 (fun u => w1 u ++ E) := by
  refine ⟨E, List.range wc.length, (List.range E.length).map (wc.length + ·), (List.range n).map (E.length + ·) ++ List.range E.length, yq_map_left wc E, yq_map_right wc E, xq_nd_range _, yq_nd_right _ _, ?_, fun u => ?_, ?_⟩
  · intro i hi h
    simp only [List.mem_map, List.mem_range] at hi h
    obtain ⟨a, _, rfl⟩ := hi
    omega
  · have h1 := yq_map_right E (w1 u)
    rw [hn] at h1
    rw [List.map_append, h1, yq_map_left E (w1 u), List.map_append]
  · refine xq_nd ?_
    rw [List.nodup_append]
    refine ⟨?_, List.nodup_range, fun a ha b hb e => ?_⟩
    · refine List.Pairwise.map _ (fun a b h => ?_) List.nodup_range
      show ¬ E.length + a = E.length + b
      omega
    · simp only [List.mem_map, List.mem_range] at ha hb
      obtain ⟨q, _, rfl⟩ := ha
      omega
/-- a callee with no cells of its own that makes some: they come behind -/
theorem yq_new {S : Type} (E : va_W) (w1 : S → va_W) (n : Nat) (hn : ∀ u, (w1 u).length = n) : xq_PlN (S := S) E [] w1 (fun u => E ++ w1 u) := by
  refine ⟨E, [], List.range E.length, List.range (E.length + n), rfl, yq_map_range E, rfl, xq_nd_range _, (fun i _ h => by cases h), fun u => ?_, xq_nd_range _⟩
  have h1 := yq_map_range (E ++ w1 u)
  rw [List.length_append, hn] at h1
  exact h1
section YC
variable {p : Program} {l : Launch} {e : Env} {R : Room} {s : State} {m : MethodId} {args : Array Value} {below : List Frame} {meth : Method} {c : Code} {H H0 : Heap} {locs : List Loc} {cells slots : Nat} {Q : State → Prop}
variable {cc cb : ByteArray} {nL maxL pc n index mc ms : Nat} {own C : String} {D : va_G} {cl : List vw_C} {tys tysc : List (ClassId × FieldType)} {Z Zc : yZ} {A : Nat → Prop} {ws wc : va_W} {ls : Array Slot} {st rest As : List Value} {y : MethodName} {rm : Room} {b ci q0 : Nat} {fs : List Value} {kq : vw_C} {ret rt : Option FieldType} {lv0 : List (Nat × Value)}
variable {Pc : Array Value → State → Prop} {Qc : Array Value → State → Outcome → State → Prop}
/-! ends -/
theorem ye_iret {S : Type} {post : Int32 → S → Prop} {w1 : S → va_W} {v : Int32} {ty : FieldType} (u : S) (Cx : yc_C p s m args meth c cc nL own (some ty) D cl tys Z A s.heap) (hv : post v u) (hn : narrow ty (.int v) = .int v) (hP : va_P D cl (w1 u) H) (hD : va_D A (w1 u)) (hS : va_S A s.heap H locs) (hdg : decode cc pc = .ok (.ireturn, 1)) : W p l e R s m args below meth c H locs cells slots (MQ below (va_Qi post (fun u t => xc_Post D cl tys A (w1 u) t) A) args s cells slots A) (F0 m pc ls [.int v]) := by
  obtain ⟨⟨hx, hb, hml, hown, hts⟩, hr, hlocks, hK, hA, hT⟩ := Cx
  exact W.zret hx hb hr hn (fun t ht hW => ⟨⟨v, u, rfl, hv, by rw [ht]; exact hP, va_K.moved hW.alike hK, hD⟩, hS.F ht⟩) hS.2.2 hdg hlocks
theorem ye_lret {S : Type} {post : Int64 → S → Prop} {w1 : S → va_W} {v : Int64} (u : S) (Cx : yc_C p s m args meth c cc nL own (some .long) D cl tys Z A s.heap) (hv : post v u) (hP : va_P D cl (w1 u) H) (hD : va_D A (w1 u)) (hS : va_S A s.heap H locs) (hdg : decode cc pc = .ok (.lreturn, 1)) : W p l e R s m args below meth c H locs cells slots (MQ below (va_Ql post (fun u t => xc_Post D cl tys A (w1 u) t) A) args s cells slots A) (F0 m pc ls [.long v]) := by
  obtain ⟨⟨hx, hb, hml, hown, hts⟩, hr, hlocks, hK, hA, hT⟩ := Cx
  exact W.lret hx hb hr (fun t ht hW => ⟨⟨v, u, rfl, hv, by rw [ht]; exact hP, va_K.moved hW.alike hK, hD⟩, hS.F ht⟩) hS.2.2 hdg hlocks
theorem ye_vret {S : Type} {post : S → Prop} {w1 : S → va_W} (u : S) (Cx : yc_C p s m args meth c cc nL own none D cl tys Z A s.heap) (hv : post u) (hP : va_P D cl (w1 u) H) (hD : va_D A (w1 u)) (hS : va_S A s.heap H locs) (hdg : decode cc pc = .ok (.return_, 1)) : W p l e R s m args below meth c H locs cells slots (MQ below (va_Qv post (fun u t => xc_Post D cl tys A (w1 u) t) A) args s cells slots A) (F0 m pc ls []) := by
  obtain ⟨⟨hx, hb, hml, hown, hts⟩, hr, hlocks, hK, hA, hT⟩ := Cx
  exact W.vret hx hb hr (fun t ht hW => ⟨⟨u, rfl, hv, by rw [ht]; exact hP, va_K.moved hW.alike hK, hD⟩, hS.F ht⟩) hS.2.2 hdg hlocks
theorem ye_aret {S : Type} {post : S → Prop} {ad : S → Nat} {w1 : S → va_W} {a : Nat} {ty : FieldType} (u : S) (Cx : yc_C p s m args meth c cc nL own (some ty) D cl tys Z A s.heap) (hty : (∃ n, ty = .object n) ∨ ∃ t, ty = .array t) (hv : post u) (ha : a = ad u) (hP : va_P D cl (w1 u) H) (hD : va_D A (w1 u)) (hS : va_S A s.heap H locs) (hdg : decode cc pc = .ok (.areturn, 1)) : W p l e R s m args below meth c H locs cells slots (MQ below (va_Qr post (fun u a t => a = ad u ∧ xc_Post D cl tys A (w1 u) t) A) args s cells slots A) (F0 m pc ls [.ref a]) := by
  obtain ⟨⟨hx, hb, hml, hown, hts⟩, hr, hlocks, hK, hA, hT⟩ := Cx
  exact W.aret hx hb hr hty (Or.inr ⟨_, rfl⟩) (fun t ht hW => ⟨⟨u, a, rfl, hv, ha, by rw [ht]; exact hP, va_K.moved hW.alike hK, hD⟩, hS.F ht⟩) hS.2.2 hdg hlocks
/-! calls: what the callee is told -/
theorem yk_pre {S : Type} {w1 ws1 : S → va_W} (Cx : yc_C p s m args meth c cc nL own rt D cl tys Z A H0) (hP : va_P D cl ws H) (hD : va_D A ws) (hS : va_S A H0 H locs) (hl : xq_PlN ws wc w1 ws1) (hKc : va_K D cl tysc s) (hf : fz Zc) (hz : (∀ q, va_A wc H.size q → A q) → Zc (va_A wc H.size) s H) (U : State) (hU : U.heap = H) (hW : s.WarmedH U.vm) : yc_Pre D cl tysc Zc wc H.size U := by
  obtain ⟨⟨hx, hb, hml, hown, hts⟩, hr, hlocks, hK, hA, hT⟩ := Cx
  obtain ⟨wr, isC, isR, isB, e1, e2, n1, n2, n3, e3, n4⟩ := hl
  have hPc := xq_pick hP isC e1
  have hDc := hD.sub isC n1 e1
  have hFc := va_free hD hS hA isC e1
  exact ⟨by rw [hU], by rw [hU]; exact hPc, va_K.moved hW.alike hKc, hDc.weaken (fun _ _ _ _ => trivial), by rw [hU]; exact hf.1 _ s U H (Or.inl hW) (hz hFc)⟩
theorem yx_S {S : Type} {w1 ws1 : S → va_W} (Cx : yc_C p s m args meth c cc nL own rt D cl tys Z A H0) (hP : va_P D cl ws H) (hD : va_D A ws) (hS : va_S A H0 H locs) (hv : lv_has ls nL lv0) (hl : xq_PlN ws wc w1 ws1) (hKc : va_K D cl tysc s) (hf : fz Zc) (hz : (∀ q, va_A wc H.size q → A q) → Zc (va_A wc H.size) s H)
    (hM : Met l y (Cond.code y cb maxL ret :: xg_tbl) rm (va_Pc As (yc_Pre D cl tysc Zc wc H.size)) Qc mc ms (va_A wc H.size)) (hV : xk_S y cb maxL ret n) (hlink : Cond.methodLink own index y ∈ xg_tbl) (hrm : rm.cells = mc ∧ rm.slots = ms ∧ rm.frames + 1 ≤ R.frames ∧ 8 + (maxL + 11) + rm.locals ≤ R.locals) (hn : As.length = n) (hst : st = As.reverse ++ rest) (hW : (rest.map fun v => v.category).sum ≤ 8) (hc : cells + mc ≤ R.cells ∧ slots + ms ≤ R.slots) (hdg : decode cc pc = .ok (.invokestatic index, 3)) :
    va_Run p l e R s m args below meth c H locs cells slots mc ms (F0 m pc ls st) rest (Qc As.toArray) (va_A wc H.size) := by
  subst hst
  have hpre := yk_pre Cx hP hD hS hl hKc hf hz
  exact va_runS Cx.1 hM (va_cwS n Cx.1.2.2.2.2 (xg_S hlink hV.1 hV.2.1 hV.2.2.1) rfl hrm.1 hrm.2.1 hV.2.2.2 hrm.2.2) ⟨y_blind hf, fun U hU hW => ⟨rfl, hpre U hU hW⟩⟩ rfl hn hv.1 rfl (lv_room hW) hdg hc
theorem yx_V {S : Type} {w1 ws1 : S → va_W} (Cx : yc_C p s m args meth c cc nL own rt D cl tys Z A H0) (hP : va_P D cl ws H) (hD : va_D A ws) (hS : va_S A H0 H locs) (hv : lv_has ls nL lv0) (hl : xq_PlN ws wc w1 ws1) (hKc : va_K D cl tysc s) (hf : fz Zc) (hz : (∀ q, va_A wc H.size q → A q) → Zc (va_A wc H.size) s H)
    (hM : Met l y (Cond.code y cb maxL ret :: xg_tbl) rm (va_Pc (.ref b :: As) (yc_Pre D cl tysc Zc wc H.size)) Qc mc ms (va_A wc H.size)) (hV : xk_V C y cb maxL ret n) (hlink : Cond.methodLink own index y ∈ xg_tbl) (hrm : rm.cells = mc ∧ rm.slots = ms ∧ rm.frames + 1 ≤ R.frames ∧ 8 + (maxL + 11) + rm.locals ≤ R.locals) (hre : ∃ cell : Cell, H[b]? = some cell ∧ cell.vm.isStatics = false ∧ s.vm.findClass C = some cell.cls) (hn : As.length = n) (hst : st = As.reverse ++ .ref b :: rest) (hW : (rest.map fun v => v.category).sum ≤ 8) (hc : cells + mc ≤ R.cells ∧ slots + ms ≤ R.slots) (hdg : decode cc pc = .ok (.invokevirtual index, 3)) :
    va_Run p l e R s m args below meth c H locs cells slots mc ms (F0 m pc ls st) rest (Qc (Value.ref b :: As).toArray) (va_A wc H.size) := by
  subst hst
  have hpre := yk_pre Cx hP hD hS hl hKc hf hz
  exact va_runV (C := C) Cx.1 hM (cwV n Cx.1.2.2.2.2 (xg_V hlink hV.1 hV.2.1 hV.2.2.1 hV.2.2.2.1) rfl hrm.1 hrm.2.1 hV.2.2.2.2 hrm.2.2) ⟨y_blind hf, hre, fun U hU hW => ⟨rfl, hpre U hU hW⟩⟩ rfl hn hv.1 rfl (lv_room hW) hdg hc
theorem yx_I {S : Type} {w1 ws1 : S → va_W} (Cx : yc_C p s m args meth c cc nL own rt D cl tys Z A H0) (hP : va_P D cl ws H) (hD : va_D A ws) (hS : va_S A H0 H locs) (hv : lv_has ls nL lv0) (hl : xq_PlN ws wc w1 ws1) (hKc : va_K D cl tysc s) (hf : fz Zc) (hz : (∀ q, va_A wc H.size q → A q) → Zc (va_A wc H.size) s H)
    (hM : Met l y (Cond.code y cb maxL none :: xg_tbl) rm (va_Pc (.ref b :: As) (yc_Pre D cl tysc Zc wc H.size)) Qc mc ms (va_A wc H.size)) (hV : xk_I y cb maxL n) (hlink : Cond.methodLink own index y ∈ xg_tbl) (hrm : rm.cells = mc ∧ rm.slots = ms ∧ rm.frames + 1 ≤ R.frames ∧ 8 + (maxL + 11) + rm.locals ≤ R.locals) (hn : As.length = n) (hst : st = As.reverse ++ .ref b :: rest) (hW : (rest.map fun v => v.category).sum ≤ 8) (hc : cells + mc ≤ R.cells ∧ slots + ms ≤ R.slots) (hdg : decode cc pc = .ok (.invokespecial index, 3)) :
    va_Run p l e R s m args below meth c H locs cells slots mc ms (F0 m pc ls st) rest (Qc (Value.ref b :: As).toArray) (va_A wc H.size) := by
  subst hst
  have hpre := yk_pre Cx hP hD hS hl hKc hf hz
  have hC := Cx.1
  exact va_runI hC hM (cwI n hC.2.2.2.2 (xg_code hV.2.2.1) rfl hrm.1 hrm.2.1 (hC.2.2.2.2 _ hV.2.1) (hC.2.2.2.2 _ hlink) (hC.2.2.2.2 _ hV.1) hV.2.2.2.1 hV.2.2.2.2 hrm.2.2) ⟨y_blind hf, fun U hU hW => ⟨rfl, hpre U hU hW⟩⟩ rfl hn hv.1 rfl (lv_room hW) hdg hc
/-- an inherited method, named through the receiver's class or another -/
theorem yx_U {S : Type} {w1 ws1 : S → va_W} {x : MethodName} {owner : String} (Cx : yc_C p s m args meth c cc nL own rt D cl tys Z A H0) (hP : va_P D cl ws H) (hD : va_D A ws) (hS : va_S A H0 H locs) (hv : lv_has ls nL lv0) (hl : xq_PlN ws wc w1 ws1) (hKc : va_K D cl tysc s) (hf : fz Zc) (hz : (∀ q, va_A wc H.size q → A q) → Zc (va_A wc H.size) s H)
    (hM : Met l y (Cond.code y cb maxL ret :: xg_tbl) rm (va_Pc (.ref b :: As) (yc_Pre D cl tysc Zc wc H.size)) Qc mc ms (va_A wc H.size)) (h1 : Cond.methodLink own index x ∈ xg_tbl) (h2 : Cond.sameMethod x.cls owner x.name x.desc ∈ xg_tbl) (h3 : Cond.selects C x y ∈ xg_tbl) (h4 : Cond.instanceMethod y ∈ xg_tbl) (h5 : Cond.initialized y.cls ∈ xg_tbl) (h6 : Cond.code y cb maxL ret ∈ xg_tbl) (hyx : y = ⟨owner, x.name, x.desc⟩) (hd : owner ≠ "java/lang/invoke/MethodHandle" ∧ owner ≠ "java/lang/invoke/VarHandle" ∧ (parseMethodDescriptor x.desc).map (fun d => d.parameters.length) = some n) (hrm : rm.cells = mc ∧ rm.slots = ms ∧ rm.frames + 1 ≤ R.frames ∧ 8 + (maxL + 11) + rm.locals ≤ R.locals) (hre : ∃ cell : Cell, H[b]? = some cell ∧ cell.vm.isStatics = false ∧ s.vm.findClass C = some cell.cls) (hn : As.length = n) (hst : st = As.reverse ++ .ref b :: rest) (hW : (rest.map fun v => v.category).sum ≤ 8) (hc : cells + mc ≤ R.cells ∧ slots + ms ≤ R.slots) (hdg : decode cc pc = .ok (.invokevirtual index, 3)) :
    va_Run p l e R s m args below meth c H locs cells slots mc ms (F0 m pc ls st) rest (Qc (Value.ref b :: As).toArray) (va_A wc H.size) := by
  subst hst
  have hpre := yk_pre Cx hP hD hS hl hKc hf hz
  have hG : GoodIn xg_tbl (va_wsU own index C owner x y (Cond.code y cb maxL ret :: xg_tbl)) := by
    intro w hw
    rcases List.mem_append.mp hw with hw | hw
    · have hm : w ∈ xg_tbl := by
        simp only [List.mem_cons, List.not_mem_nil, or_false] at hw
        rcases hw with rfl | rfl | rfl | rfl | rfl <;> assumption
      exact ⟨hm, xg_ok hm⟩
    · exact xg_code h6 w hw
  exact va_runU (C := C) Cx.1 hM (va_cwU n Cx.1.2.2.2.2 hG rfl hrm.1 hrm.2.1 hyx hd hrm.2.2) ⟨y_blind hf, hre, fun U hU hW => ⟨rfl, hpre U hU hW⟩⟩ rfl hn hv.1 rfl (lv_room hW) hdg hc
/-- a method of the superclass, called by super -/
theorem yx_P {S : Type} {w1 ws1 : S → va_W} {cC : ClassId} (Cx : yc_C p s m args meth c cc nL own rt D cl tys Z A H0) (hP : va_P D cl ws H) (hD : va_D A ws) (hS : va_S A H0 H locs) (hv : lv_has ls nL lv0) (hl : xq_PlN ws wc w1 ws1) (hKc : va_K D cl tysc s) (hf : fz Zc) (hz : (∀ q, va_A wc H.size q → A q) → Zc (va_A wc H.size) s H)
    (hM : Met l y (Cond.code y cb maxL ret :: xg_tbl) rm (va_Pc (.ref b :: As) (yc_Pre D cl tysc Zc wc H.size)) Qc mc ms (va_A wc H.size)) (h1 : Cond.methodLink own index y ∈ xg_tbl) (h2 : Cond.sameMethod y.cls y.cls y.name y.desc ∈ xg_tbl) (h3 : Cond.superclass own y.cls ∈ xg_tbl) (h4 : Cond.instanceMethod y ∈ xg_tbl) (h5 : Cond.initialized y.cls ∈ xg_tbl) (h6 : Cond.code y cb maxL ret ∈ xg_tbl) (hd : y.name ≠ "<init>" ∧ (parseMethodDescriptor y.desc).map (fun d => d.parameters.length) = some n) (hrm : rm.cells = mc ∧ rm.slots = ms ∧ rm.frames + 1 ≤ R.frames ∧ 8 + (maxL + 11) + rm.locals ≤ R.locals) (hat : ClassAt s C cC) (hre : ∃ cell : Cell, H[b]? = some cell ∧ cell.vm.isStatics = false ∧ s.vm.findClass C = some cell.cls) (hn : As.length = n) (hst : st = As.reverse ++ .ref b :: rest) (hW : (rest.map fun v => v.category).sum ≤ 8) (hc : cells + mc ≤ R.cells ∧ slots + ms ≤ R.slots) (hdg : decode cc pc = .ok (.invokespecial index, 3)) :
    va_Run p l e R s m args below meth c H locs cells slots mc ms (F0 m pc ls st) rest (Qc (Value.ref b :: As).toArray) (va_A wc H.size) := by
  subst hst
  have hpre := yk_pre Cx hP hD hS hl hKc hf hz
  have hG : GoodIn xg_tbl (va_wsSU own index y (Cond.code y cb maxL ret :: xg_tbl)) := by
    intro w hw
    rcases List.mem_append.mp hw with hw | hw
    · have hm : w ∈ xg_tbl := by
        simp only [List.mem_cons, List.not_mem_nil, or_false] at hw
        rcases hw with rfl | rfl | rfl | rfl | rfl <;> assumption
      exact ⟨hm, xg_ok hm⟩
    · exact xg_code h6 w hw
  exact va_runSU (C := C) hat Cx.1 hM (va_cwSU n Cx.1.2.2.2.2 hG rfl hrm.1 hrm.2.1 hd hrm.2.2) ⟨y_blind hf, hre, fun U hU hW => ⟨rfl, hpre U hU hW⟩⟩ rfl hn hv.1 rfl (lv_room hW) hdg hc
/-! calls: behind them -/
theorem yk_join {S : Type} {w1 ws1 : S → va_W} (hA : ∀ q, H0.size ≤ q → A q) (hP : va_P D cl ws H) (hD : va_D A ws) (hS : va_S A H0 H locs) (hl : xq_PlN ws wc w1 ws1) {P : Prop}
    (k : (∀ q, va_A wc H.size q → A q) → (∀ (u : S) (t : State) (H1 : Heap), t.heap = H1 → xc_Post D cl tysc (va_A wc H.size) (w1 u) t → (∀ q : Nat, q < H.size → ¬ va_A wc H.size q → H1[q]? = H[q]?) → va_P D cl (ws1 u) H1 ∧ va_D A (ws1 u)) → P) : P := by
  obtain ⟨wr, isC, isR, isB, e1, e2, n1, n2, n3, e3, n4⟩ := hl
  have hFc := va_free hD hS hA isC e1
  refine k hFc (fun u t H1 ht hB hk1 => ?_)
  obtain ⟨hP1, hK1, hD1⟩ := hB
  rw [ht] at hP1
  obtain ⟨hP2, hD2⟩ := va_join hP hD isC isR e1 e2 n2 n3 hk1 hFc hP1 hD1
  exact ⟨xq_pick hP2 isB (e3 u), hD2.sub isB n4 (e3 u)⟩
theorem yr_i {S : Type} {post : Int32 → S → Prop} {w1 ws1 : S → va_W} {av : Array Value} (Cx : yc_C p s m args meth c cc nL own rt D cl tys Z A H0) (hP : va_P D cl ws H) (hD : va_D A ws) (hS : va_S A H0 H locs) (hl : xq_PlN ws wc w1 ws1)
    (hr : va_Run p l e R s m args below meth c H locs cells slots mc ms (F0 m pc ls st) rest (va_Qi post (fun u t => xc_Post D cl tysc (va_A wc H.size) (w1 u) t) (va_A wc H.size) av) (va_A wc H.size))
    (kk : ∀ (r : Int32) (u : S) (H1 : Heap) (locs1 : List Loc), post r u → va_P D cl (ws1 u) H1 → va_D A (ws1 u) → va_S A H0 H1 locs1 → W p l e R s m args below meth c H1 locs1 (cells + mc) (slots + ms) Q (F0 m (pc + 3) ls (.int r :: rest))) : W p l e R s m args below meth c H locs cells slots Q (F0 m pc ls st) := by
  refine yk_join (tysc := tysc) Cx.2.2.2.2.1 hP hD hS hl (fun hFc hjoin => ?_)
  refine va_calli hr hS (fun q _ h => hFc q h) hFc (fun r u t H1 locs1 ht hvm hw hB hz1 hk1 hS1 => ?_)
  obtain ⟨h1, h2⟩ := hjoin u t H1 ht hB hk1
  exact kk r u H1 locs1 hw h1 h2 hS1
theorem yr_l {S : Type} {post : Int64 → S → Prop} {w1 ws1 : S → va_W} {av : Array Value} (Cx : yc_C p s m args meth c cc nL own rt D cl tys Z A H0) (hP : va_P D cl ws H) (hD : va_D A ws) (hS : va_S A H0 H locs) (hl : xq_PlN ws wc w1 ws1)
    (hr : va_Run p l e R s m args below meth c H locs cells slots mc ms (F0 m pc ls st) rest (va_Ql post (fun u t => xc_Post D cl tysc (va_A wc H.size) (w1 u) t) (va_A wc H.size) av) (va_A wc H.size))
    (kk : ∀ (r : Int64) (u : S) (H1 : Heap) (locs1 : List Loc), post r u → va_P D cl (ws1 u) H1 → va_D A (ws1 u) → va_S A H0 H1 locs1 → W p l e R s m args below meth c H1 locs1 (cells + mc) (slots + ms) Q (F0 m (pc + 3) ls (.long r :: rest))) : W p l e R s m args below meth c H locs cells slots Q (F0 m pc ls st) := by
  refine yk_join (tysc := tysc) Cx.2.2.2.2.1 hP hD hS hl (fun hFc hjoin => ?_)
  refine va_calll hr hS (fun q _ h => hFc q h) hFc (fun r u t H1 locs1 ht hvm hw hB hz1 hk1 hS1 => ?_)
  obtain ⟨h1, h2⟩ := hjoin u t H1 ht hB hk1
  exact kk r u H1 locs1 hw h1 h2 hS1
theorem yr_v {S : Type} {post : S → Prop} {w1 ws1 : S → va_W} {av : Array Value} (Cx : yc_C p s m args meth c cc nL own rt D cl tys Z A H0) (hP : va_P D cl ws H) (hD : va_D A ws) (hS : va_S A H0 H locs) (hl : xq_PlN ws wc w1 ws1)
    (hr : va_Run p l e R s m args below meth c H locs cells slots mc ms (F0 m pc ls st) rest (va_Qv post (fun u t => xc_Post D cl tysc (va_A wc H.size) (w1 u) t) (va_A wc H.size) av) (va_A wc H.size))
    (kk : ∀ (u : S) (H1 : Heap) (locs1 : List Loc), post u → va_P D cl (ws1 u) H1 → va_D A (ws1 u) → va_S A H0 H1 locs1 → W p l e R s m args below meth c H1 locs1 (cells + mc) (slots + ms) Q (F0 m (pc + 3) ls rest)) : W p l e R s m args below meth c H locs cells slots Q (F0 m pc ls st) := by
  refine yk_join (tysc := tysc) Cx.2.2.2.2.1 hP hD hS hl (fun hFc hjoin => ?_)
  refine va_callv hr hS (fun q _ h => hFc q h) hFc (fun u t H1 locs1 ht hvm hw hB hz1 hk1 hS1 => ?_)
  obtain ⟨h1, h2⟩ := hjoin u t H1 ht hB hk1
  exact kk u H1 locs1 hw h1 h2 hS1
theorem yr_r {S : Type} {post : S → Prop} {ad : S → Nat} {w1 ws1 : S → va_W} {av : Array Value} (Cx : yc_C p s m args meth c cc nL own rt D cl tys Z A H0) (hP : va_P D cl ws H) (hD : va_D A ws) (hS : va_S A H0 H locs) (hl : xq_PlN ws wc w1 ws1)
    (hr : va_Run p l e R s m args below meth c H locs cells slots mc ms (F0 m pc ls st) rest (va_Qr post (fun u a t => a = ad u ∧ xc_Post D cl tysc (va_A wc H.size) (w1 u) t) (va_A wc H.size) av) (va_A wc H.size))
    (kk : ∀ (u : S) (H1 : Heap) (locs1 : List Loc), post u → va_P D cl (ws1 u) H1 → va_D A (ws1 u) → va_S A H0 H1 locs1 → W p l e R s m args below meth c H1 locs1 (cells + mc) (slots + ms) Q (F0 m (pc + 3) ls (.ref (ad u) :: rest))) : W p l e R s m args below meth c H locs cells slots Q (F0 m pc ls st) := by
  refine yk_join (tysc := tysc) Cx.2.2.2.2.1 hP hD hS hl (fun hFc hjoin => ?_)
  refine va_callr hr hS (fun q _ h => hFc q h) hFc (fun u ra t H1 locs1 ht hvm hw hB hz1 hk1 hS1 => ?_)
  obtain ⟨rfl, hB⟩ := hB
  obtain ⟨h1, h2⟩ := hjoin u t H1 ht hB hk1
  exact kk u H1 locs1 hw h1 h2 hS1
/-! arrays that nobody writes, as they stand now -/
theorem yf_ild {t N : Nat} {f : Nat → Int32} (hexec : p.tables.exec = Jvm.exec) (hb : c.code = cc) (hT : va_T .int t N (fun j => .int (f j)) A s H) {i : Int32} (hin : vp_in i N) {v : Int32} (hv : f i.toNatClampNeg = v) (hdg : decode cc pc = .ok (.iaload, 1))
    (kk : W p l e R s m args below meth c H locs cells slots Q (F0 m (pc + 1) ls (.int v :: rest))) : W p l e R s m args below meth c H locs cells slots Q (F0 m pc ls (.int i :: .ref t :: rest)) := by
  obtain ⟨cell, h1, h2, h3, h4, h5, h6, h7⟩ := hT
  have hlt : i.toNatClampNeg < N := Nat.not_le.mp fun q => hin (Or.inr q)
  have hin' : ¬ (i < 0 ∨ cell.slots.size ≤ i.toNatClampNeg) := by
    intro q
    rcases q with q | q
    · exact hin (Or.inl q)
    · omega
  exact W.iald (v := .int v) hexec hb h1 h2 h3 hin' (by rw [h6 _ hlt]; exact congrArg (fun z => some (Value.int z)) hv) rfl rfl hdg kk
theorem yf_qld {t N : Nat} {f : Nat → Nat} {ty : FieldType} (hexec : p.tables.exec = Jvm.exec) (hb : c.code = cc) (hT : va_T ty t N (fun j => .ref (f j)) A s H) (hty : ty.isReference = true) {i : Int32} (hin : vp_in i N) (hdg : decode cc pc = .ok (.aaload, 1))
    (kk : W p l e R s m args below meth c H locs cells slots Q (F0 m (pc + 1) ls (.ref (f i.toNatClampNeg) :: rest))) : W p l e R s m args below meth c H locs cells slots Q (F0 m pc ls (.int i :: .ref t :: rest)) := by
  obtain ⟨cell, h1, h2, h3, h4, h5, h6, h7⟩ := hT
  have hlt : i.toNatClampNeg < N := Nat.not_le.mp fun q => hin (Or.inr q)
  have hin' : ¬ (i < 0 ∨ cell.slots.size ≤ i.toNatClampNeg) := by
    intro q
    rcases q with q | q
    · exact hin (Or.inl q)
    · omega
  exact W.aald (v := .ref (f i.toNatClampNeg)) hexec hb h1 h2 hty h3 hin' (h6 _ hlt) rfl rfl hdg kk
theorem yf_len {ty : FieldType} {t N : Nat} {f : Nat → Value} (hexec : p.tables.exec = Jvm.exec) (hb : c.code = cc) (hT : va_T ty t N f A s H) (hdg : decode cc pc = .ok (.arraylength, 1))
    (kk : W p l e R s m args below meth c H locs cells slots Q (F0 m (pc + 1) ls (.int (nI N) :: rest))) : W p l e R s m args below meth c H locs cells slots Q (F0 m pc ls (.ref t :: rest)) := by
  obtain ⟨cell, h1, h2, h3, h4, h5, h6, h7⟩ := hT
  exact W.alen (n := Int32.ofNat N) hexec hb h1 h2 h5 rfl rfl hdg kk
end YC
/-- a cell of the world that a callee doesn't get -/
theorem y_out {D : va_G} {cl : List vw_C} {A : Nat → Prop} {ws wc : va_W} {H : Heap} (hP : va_P D cl ws H) (hD : va_D A ws) (isC : List Nat) (e1 : isC.map (fun i => ws[i]?) = wc.map some) {q0 : Nat} {x : Nat × va_E} (he : ws[q0]? = some x) (hq : q0 ∉ isC) : ¬ va_A wc H.size x.1 := by
  intro h
  rcases h with ⟨k, e, h⟩ | h
  · have h1 : (isC.map (fun i => ws[i]?))[k]? = some (some (x.1, e)) := by rw [e1, List.getElem?_map, h]; rfl
    rw [List.getElem?_map] at h1
    cases hi : isC[k]? with
    | none => rw [hi] at h1; cases h1
    | some i =>
      rw [hi] at h1
      have h2 : ws[i]? = some (x.1, e) := Option.some.inj h1
      have h3 := hD.1 q0 i x (x.1, e) he h2 rfl
      subst h3
      exact hq (List.mem_of_getElem? hi)
  · have := (hP q0 x he).lt
    omega
theorem y_out0 {D : va_G} {cl : List vw_C} {ws : va_W} {H : Heap} (hP : va_P D cl ws H) {q0 : Nat} {x : Nat × va_E} (he : ws[q0]? = some x) : ¬ va_A [] H.size x.1 := by
  intro h
  rcases h with ⟨k, e, h⟩ | h
  · simp at h
  · have := (hP q0 x he).lt
    omega
/-- .. is an array that it only reads -/
theorem y_T {D : va_G} {cl : List vw_C} {tys : List (ClassId × FieldType)} {ws : va_W} {H : Heap} {s : State} {B : Nat → Prop} (hK : va_K D cl tys s) (hP : va_P D cl ws H) (q0 t0 : Nat) {a N : Nat} {f : Nat → Int32} {cI : ClassId} {ty : FieldType} (he : ws[q0]? = some (a, .inl (cI, N, .inl f))) (ht : tys[t0]? = some (cI, ty)) (hB : ¬ B a) : va_T ty a N (fun j => .int (f j)) B s H := by
  have h1 : H[a]? = some (vp_cell cI (N, .inl f)) := hP q0 _ he
  rw [vp_cell_i] at h1
  exact ⟨_, h1, (hK.2 t0 _ ht).1 N _, (fun h => by cases h), by rw [arrV_size]; exact Nat.le_refl _, by rw [arrV_size], fun j hj => arrV_read _ _ hj, hB⟩
theorem y_Tq {D : va_G} {cl : List vw_C} {tys : List (ClassId × FieldType)} {ws : va_W} {H : Heap} {s : State} {B : Nat → Prop} (hK : va_K D cl tys s) (hP : va_P D cl ws H) (q0 t0 : Nat) {a N : Nat} {f : Nat → Option Nat} {cI : ClassId} {ty : FieldType} (he : ws[q0]? = some (a, .inl (cI, N, .inr (.inr (.inr (.inr f)))))) (ht : tys[t0]? = some (cI, ty)) (hB : ¬ B a) : va_T ty a N (fun j => va_rf (f j)) B s H := by
  have h1 : H[a]? = some (vp_cell cI (N, .inr (.inr (.inr (.inr f))))) := hP q0 _ he
  rw [vp_cell_q] at h1
  exact ⟨_, h1, (hK.2 t0 _ ht).1 N _, (fun h => by cases h), by rw [arrV_size]; exact Nat.le_refl _, by rw [arrV_size], fun j hj => arrV_read _ _ hj, hB⟩
theorem va_T.cong {ty : FieldType} {t N : Nat} {f g : Nat → Value} {A : Nat → Prop} {U : State} {H : Heap} (h : va_T ty t N f A U H) (e : ∀ j, j < N → f j = g j) : va_T ty t N g A U H := by
  obtain ⟨cell, h1, h2, h3, h4, h5, h6, h7⟩ := h
  exact ⟨cell, h1, h2, h3, h4, h5, fun j hj => (h6 j hj).trans (by rw [e j hj]), h7⟩
