/-! texts and statics that nobody writes; an overriding method; a private method of a superclass -/
abbrev ytys (cyI cyJ cyB cyQ : ClassId) : List (ClassId × FieldType) := [(cyI, .int), (cyJ, .long), (cyB, .byte), (cyQ, .array .int)]
theorem y_sameI {D : va_G} {cl : List vw_C} {cyI cyJ cyB cyQ cA : ClassId} {s : State} (hK : va_K D cl (ytys cyI cyJ cyB cyQ) s) (hK1 : va_K D cl (ytys cyI cyJ cyB cyQ ++ [(cA, .int)]) s) : cA = cyI := by
  have h1 : s.vm.findClass ("[" ++ FieldType.int.toString) = some cyI := (hK.2 0 _ rfl).2
  have h2 : s.vm.findClass ("[" ++ FieldType.int.toString) = some cA := (hK1.2 4 _ rfl).2
  exact Option.some.inj (h2.symm.trans h1)
theorem y_sameB {D : va_G} {cl : List vw_C} {cyI cyJ cyB cyQ cA : ClassId} {s : State} (hK : va_K D cl (ytys cyI cyJ cyB cyQ) s) (hK1 : va_K D cl (ytys cyI cyJ cyB cyQ ++ [(cA, .byte)]) s) : cA = cyB := by
  have h1 : s.vm.findClass ("[" ++ FieldType.byte.toString) = some cyB := (hK.2 2 _ rfl).2
  have h2 : s.vm.findClass ("[" ++ FieldType.byte.toString) = some cA := (hK1.2 4 _ rfl).2
  exact Option.some.inj (h2.symm.trans h1)
theorem y_K2 {D : va_G} {cl : List vw_C} {cyI cyJ cyB cyQ : ClassId} {s : State} (hK : va_K D cl (ytys cyI cyJ cyB cyQ) s) : va_K D cl [(cyI, .int), (cyJ, .long)] s := va_K.sub hK [0, 1] rfl
def jd1 (j : Nat) : Int32 := nI (48 + j % 10)
def jd10 (j : Nat) : Int32 := nI (48 + j / 10)
/-- a text that nobody writes: the String at a, its bytes at v -/
def ZS (a v n : Nat) (f : Nat → Int32) : yZ := fun A U H => va_O "java/lang/String" a A U H ∧ va_OF "java/lang/String" "coder" "B" (.int 0) a A U H ∧ va_OF "java/lang/String" "value" "[B" (.ref v) a A U H ∧ va_T .byte v n (fun j => .int (f j)) A U H
def ZJ (g : Nat → Nat) : yZ := fun A U H => va_Z "java/lang/String" "COMPACT_STRINGS" "Z" (.int 1) A U H ∧ va_Z "java/lang/Integer" "DigitOnes" "[B" (.ref (g 0)) A U H ∧ va_T .byte (g 0) 100 (fun j => .int (jd1 j)) A U H ∧ va_Z "java/lang/Integer" "DigitTens" "[B" (.ref (g 1)) A U H ∧ va_T .byte (g 1) 100 (fun j => .int (jd10 j)) A U H ∧ va_Zq "jdk/internal/util/Preconditions" "SIOOBE_FORMATTER" "Ljava/util/function/BiFunction;" A U H ∧ va_Nw (.castable "[B" "java/lang/Cloneable") U
theorem fz_ZS (a v n : Nat) (f : Nat → Int32) : fz (ZS a v n f) :=
  ⟨fun _ _ _ _ h1 h => ⟨h.1.moved (fz_al h1), h.2.1.moved (fz_al h1), h.2.2.1.moved (fz_al h1), h.2.2.2.moved (fz_al h1)⟩,
   fun _ _ _ _ h1 h => ⟨h.1.kept h1, h.2.1.kept h1, h.2.2.1.kept h1, h.2.2.2.kept h1⟩,
   fun _ _ _ _ h1 h => ⟨h.1.narrow h1, h.2.1.narrow h1, h.2.2.1.narrow h1, h.2.2.2.narrow h1⟩⟩
theorem fz_ZJ (g : Nat → Nat) : fz (ZJ g) :=
  ⟨fun _ u U _ h1 h => ⟨h.1.moved (fz_al h1), h.2.1.moved (fz_al h1), h.2.2.1.moved (fz_al h1), h.2.2.2.1.moved (fz_al h1), h.2.2.2.2.1.moved (fz_al h1), h.2.2.2.2.2.1.moved (fz_al h1), va_tabs rfl (rfl : (u.setVm U.vm).vm = U.vm) (by rw [Cond.castable_setVm (fz_al h1)]; exact h.2.2.2.2.2.2)⟩,
   fun _ _ _ _ h1 h => ⟨h.1.kept h1, h.2.1.kept h1, h.2.2.1.kept h1, h.2.2.2.1.kept h1, h.2.2.2.2.1.kept h1, h.2.2.2.2.2.1.kept h1, h.2.2.2.2.2.2⟩,
   fun _ _ _ _ h1 h => ⟨h.1.narrow h1, h.2.1.narrow h1, h.2.2.1.narrow h1, h.2.2.2.1.narrow h1, h.2.2.2.2.1.narrow h1, h.2.2.2.2.2.1.narrow h1, h.2.2.2.2.2.2⟩⟩
/-- what a caller has of such cells, for a callee -/
theorem fz_give {Z : yZ} (hf : fz Z) {A B : Nat → Prop} {s : State} {H0 H : Heap} {locs : List Loc} (h : Z A s H0) (hS : va_S A H0 H locs) (hF : ∀ q, B q → A q) : Z B s H := hf.2.2 _ _ _ _ hF (hf.2.1 _ _ _ _ hS.2.1 h)
theorem fz_now {Z : yZ} (hf : fz Z) {A : Nat → Prop} {s : State} {H0 H : Heap} {locs : List Loc} (h : Z A s H0) (hS : va_S A H0 H locs) : Z A s H := hf.2.1 _ _ _ _ hS.2.1 h
theorem y_recvO {E : String} {t : Nat} {A : Nat → Prop} {s : State} {H : Heap} (h : va_O E t A s H) : ∃ cell : Cell, H[t]? = some cell ∧ cell.vm.isStatics = false ∧ s.vm.findClass E = some cell.cls := by
  obtain ⟨cell, h1, h2, h3, -⟩ := h
  exact ⟨cell, h1, h2, h3⟩
section YJ
variable {p : Program} {l : Launch} {e : Env} {R : Room} {s : State} {m : MethodId} {args : Array Value} {below : List Frame} {meth : Method} {c : Code} {H H0 : Heap} {locs : List Loc} {cells slots : Nat} {Q : State → Prop}
variable {cc cb : ByteArray} {nL maxL pc n index mc ms : Nat} {own C : String} {D : va_G} {cl : List vw_C} {tys tysc : List (ClassId × FieldType)} {Z Zc : yZ} {A : Nat → Prop} {ws wc : va_W} {ls : Array Slot} {st rest As : List Value} {y : MethodName} {rm : Room} {b ci q0 : Nat} {ret rt : Option FieldType} {lv0 : List (Nat × Value)}
variable {Qc : Array Value → State → Outcome → State → Prop}
theorem yf_get {o nn d ref : String} {q : Nat} {v : Value} (hexec : p.tables.exec = Jvm.exec) (hb : c.code = cc) (hE : va_OF o nn d v q A s H) (hown : s.vm.findClass own = some m.cls) (hlink : (Cond.fieldLink own index ref nn d).before args s = true) (hsame : ∀ x, s.fieldFound? o nn d = some x → s.fieldFound? ref nn d = some x) (hdg : decode cc pc = .ok (.getfield index, 3))
    (kk : W p l e R s m args below meth c H locs cells slots Q (F0 m (pc + 3) ls (v :: rest))) : W p l e R s m args below meth c H locs cells slots Q (F0 m pc ls (.ref q :: rest)) := by
  obtain ⟨cf, k, fi, f, cell, h1, h2, h3, h4, h5, h6⟩ := hE
  exact W.getf hexec hb hown hlink (hsame _ h1) h2 h3 h4 (v := v) h5 rfl rfl hdg kk
/-- an overriding method, named through the superclass -/
theorem yx_O {S : Type} {w1 ws1 : S → va_W} {x : MethodName} {owner : String} {b0 : ByteArray} {m0 : Nat} {r0 : Option FieldType} (Cx : yc_C p s m args meth c cc nL own rt D cl tys Z A H0) (hP : va_P D cl ws H) (hD : va_D A ws) (hS : va_S A H0 H locs) (hv : lv_has ls nL lv0) (hl : xq_PlN ws wc w1 ws1) (hKc : va_K D cl tysc s) (hf : fz Zc) (hz : (∀ q, va_A wc H.size q → A q) → Zc (va_A wc H.size) s H)
    (hM : Met l y (Cond.code y cb maxL ret :: xg_tbl) rm (va_Pc (.ref b :: As) (yc_Pre D cl tysc Zc wc H.size)) Qc mc ms (va_A wc H.size)) (h1 : Cond.methodLink own index x ∈ xg_tbl) (h2 : Cond.sameMethod x.cls owner x.name x.desc ∈ xg_tbl) (h2' : Cond.instanceMethod ⟨owner, x.name, x.desc⟩ ∈ xg_tbl) (h3 : Cond.selects C x y ∈ xg_tbl) (h4 : Cond.instanceMethod y ∈ xg_tbl) (h5 : Cond.initialized y.cls ∈ xg_tbl) (h6 : Cond.code y cb maxL ret ∈ xg_tbl) (h0 : Cond.code ⟨owner, x.name, x.desc⟩ b0 m0 r0 ∈ xg_tbl) (hd : owner ≠ "java/lang/invoke/MethodHandle" ∧ owner ≠ "java/lang/invoke/VarHandle" ∧ (parseMethodDescriptor x.desc).map (fun d => d.parameters.length) = some n) (hrm : rm.cells = mc ∧ rm.slots = ms ∧ rm.frames + 1 ≤ R.frames ∧ 8 + (maxL + 11) + rm.locals ≤ R.locals) (hre : ∃ cell : Cell, H[b]? = some cell ∧ cell.vm.isStatics = false ∧ s.vm.findClass C = some cell.cls) (hn : As.length = n) (hst : st = As.reverse ++ .ref b :: rest) (hW : (rest.map fun v => v.category).sum ≤ 8) (hc : cells + mc ≤ R.cells ∧ slots + ms ≤ R.slots) (hdg : decode cc pc = .ok (.invokevirtual index, 3)) :
    va_Run p l e R s m args below meth c H locs cells slots mc ms (F0 m pc ls st) rest (Qc (Value.ref b :: As).toArray) (va_A wc H.size) := by
  subst hst
  have hpre := yk_pre Cx hP hD hS hl hKc hf hz
  have hG : GoodIn xg_tbl (va_wsO own index C owner x y (Cond.code y cb maxL ret :: xg_tbl)) := by
    intro w hw
    rcases List.mem_append.mp hw with hw | hw
    · have hm : w ∈ xg_tbl := by
        simp only [List.mem_cons, List.not_mem_nil, or_false] at hw
        rcases hw with rfl | rfl | rfl | rfl | rfl | rfl <;> assumption
      exact ⟨hm, xg_ok hm⟩
    · exact xg_code h6 w hw
  exact va_runU (C := C) Cx.1 hM (va_cwO n Cx.1.2.2.2.2 hG rfl hrm.1 hrm.2.1 h0 hd hrm.2.2) ⟨y_blind hf, hre, fun U hU hW => ⟨rfl, hpre U hU hW⟩⟩ rfl hn hv.1 rfl (lv_room hW) hdg hc
end YJ
/-- a private method, called on an object of a subclass that can be made -/
theorem x_selpriv {C : String} {y : MethodName} {s : State} {args : Array Value} {n : Nat} (hy : y.cls ≠ "java/lang/invoke/MethodHandle" ∧ y.cls ≠ "java/lang/invoke/VarHandle") (hins : (Cond.instantiable C n).before args s = true) (hpriv : (Cond.privateMethod y).before args s = true) (hinst : (Cond.instanceMethod y).before args s = true) (hsame : (Cond.sameMethod y.cls y.cls y.name y.desc).before args s = true) : (Cond.selects C y y).before args s = true := by
  obtain ⟨c, k, hc, hk, -⟩ := Cond.instantiable_spec hins
  obtain ⟨mk, methM, hnamed, hmethM, -, -⟩ := Cond.instanceMethod_spec hinst
  obtain ⟨cn, ck, r1, hcn, hck, hni, -, -⟩ := Cond.sameMethod_found hsame
  have hfound : s.methodFound? y.cls y.name y.desc = some mk := State.methodFound?_of_named hnamed hy
  have hcls : mk.cls = cn := Option.some.inj ((findClass_of_methodNamed hnamed).symm.trans hcn)
  have hsel : selectMethod {} s.vm c mk = .method mk := selectMethod_private hmethM (Cond.privateMethod_at hpriv mk methM hnamed hmethM)
  simp only [Cond.before, Cond.holds, Cond.value, hc, hfound, hnamed, hsel, hcls, hck]
  simp; exact hni
