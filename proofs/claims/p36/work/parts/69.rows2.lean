/-! arrays of arrays of ints: made, stored into; a grid of two lengths made at once -/
theorem y_comp {D : va_G} {cl : List vw_C} {cyI cyJ cyB cyQ : ClassId} {s : State} {args : Array Value} (hover : (Cond.arrayOver (.array .int)).before args s = true) (hK : va_K D cl (ytys cyI cyJ cyB cyQ) s) : ∃ k kI : Class, s.vm.classes[cyQ]? = some k ∧ k.kind = .array cyI (.array .int) ∧ s.vm.classes[cyI]? = some kI ∧ s.vm.findClass ("[" ++ (FieldType.array .int).toString) = some cyQ := by
  obtain ⟨comp, c, k, h1, -, h3, h4, h5⟩ := arrayOverA_spec hover
  have e1 : comp = cyI := Option.some.inj (h1.symm.trans (hK.2 0 _ rfl).2)
  have e2 : c = cyQ := Option.some.inj (h5.symm.trans (hK.2 3 _ rfl).2)
  rw [e1] at h1 h4
  rw [e2] at h3 h5
  obtain ⟨kI, hkI, -⟩ := Vm.findClass_spec h1
  exact ⟨k, kI, h3, h4, hkI, h5⟩
def ymC (h i : Nat) : Nat → Value := fun j => if j < i then .ref (h + 1 + j) else .null
theorem ymC_0 (h : Nat) : ymC h 0 = fun _ => .null := by
  funext j
  exact if_neg (Nat.not_lt_zero j)
theorem ymC_s (h i : Nat) : updV (ymC h i) i (.ref (h + 1 + i)) = ymC h (i + 1) := by
  funext j
  unfold updV ymC
  by_cases e : j = i
  · subst e; rw [if_pos rfl, if_pos (Nat.lt_succ_self j)]
  · rw [if_neg e]
    by_cases q : j < i
    · rw [if_pos q, if_pos (by omega)]
    · rw [if_neg q, if_neg (by omega)]
def ymS (s : State) (cQ cI : ClassId) (N M : Nat) : Nat → State
  | 0 => s.pushCell (arrV cQ N (ymC s.heap.size 0))
  | i + 1 => ((ymS s cQ cI N M i).pushCell (arrV cI M (fun _ => .int 0))).setCell s.heap.size (arrV cQ N (ymC s.heap.size (i + 1)))
theorem ymS_top (s : State) (f : JFrame) (cQ cI : ClassId) (N M : Nat) : ∀ i, ymS (s.setTop f) cQ cI N M i = (ymS s cQ cI N M i).setTop f
  | 0 => rfl
  | i + 1 => by
    show ((ymS (s.setTop f) cQ cI N M i).pushCell _).setCell _ _ = _
    rw [ymS_top s f cQ cI N M i]
    rfl
theorem ymS_at (s : State) (cQ cI : ClassId) (N M : Nat) : ∀ i, (ymS s cQ cI N M i).heap.size = s.heap.size + 1 + i ∧ (ymS s cQ cI N M i).heap[s.heap.size]? = some (arrV cQ N (ymC s.heap.size i)) ∧ (ymS s cQ cI N M i).vm = s.vm ∧ (ymS s cQ cI N M i).slotsUsed = s.slotsUsed + N + i * M ∧ (∀ a : Nat, a < s.heap.size → (ymS s cQ cI N M i).heap[a]? = s.heap[a]?) ∧ ∀ j : Nat, j < i → (ymS s cQ cI N M i).heap[s.heap.size + 1 + j]? = some (arrV cI M (fun _ => .int 0))
  | 0 => by
    refine ⟨by simp [ymS], by simp [ymS], rfl, by simp [ymS, arrV_size], fun a ha => ?_, fun j h => absurd h (Nat.not_lt_zero j)⟩
    show (s.pushCell _).heap[a]? = _
    exact State.heap_pushCell_of_lt _ _ ha
  | i + 1 => by
    obtain ⟨h1, h2, h3, h4, h5, h6⟩ := ymS_at s cQ cI N M i
    generalize hU : ymS s cQ cI N M i = U at h1 h2 h3 h4 h5 h6
    have hlt : s.heap.size < U.heap.size := by omega
    have e2 : (U.pushCell (arrV cI M (fun _ => .int 0))).heap[s.heap.size]? = some (arrV cQ N (ymC s.heap.size i)) := by rw [State.heap_pushCell_of_lt (h := hlt)]; exact h2
    have eS : ymS s cQ cI N M (i + 1) = (U.pushCell (arrV cI M (fun _ => .int 0))).setCell s.heap.size (arrV cQ N (ymC s.heap.size (i + 1))) := by rw [← hU]; rfl
    rw [eS]
    refine ⟨?_, State.heap_setCell_self e2, by simp [h3], ?_, fun a ha => ?_, fun j hj => ?_⟩
    · simp [State.setCell, h1]; omega
    · simp [h4, arrV_size, Nat.succ_mul]; omega
    · rw [State.heap_setCell_other (Nat.ne_of_gt ha), State.heap_pushCell_of_lt (h := Nat.lt_trans ha hlt)]
      exact h5 a ha
    · rw [State.heap_setCell_other (show s.heap.size ≠ s.heap.size + 1 + j by omega)]
      by_cases q : j < i
      · rw [State.heap_pushCell_of_lt (h := (show s.heap.size + 1 + j < U.heap.size by omega))]
        exact h6 j q
      · have e : s.heap.size + 1 + j = U.heap.size := by omega
        rw [e]
        exact State.heap_pushCell_size _ _
section YW
variable {E : CtlPost} {e : Env} {d : Bool} {acts : List Action} {s : State}
theorem ym_in {cI cc : ClassId} {kI : Class} {k : Int32} (hk : s.vm.classes[cI]? = some kI) (hkind : kI.kind = .array cc .int) (h0 : ¬ k < 0) (hl : ¬ k.toNatClampNeg > e.platform.arrayLengthLimit) (hh : ¬ k.toNatClampNeg * componentBytes .int > e.platform.maxHeapBytes)
    (h1 : s.heap.size < e.platform.maxCells) (h2 : s.slotsUsed + k.toNatClampNeg ≤ e.platform.maxSlots) {Q : Addr → Pre} (hq : ∀ acts', Q s.heap.size d acts' (s.pushCell (arrV cI k.toNatClampNeg (fun _ => .int 0)))) : wp (multianewarray.make cI [k]) Q E e d acts s := by
  rw [multianewarray.make]
  simp only [wp_bind', W.ite, h0, if_false, wp_pure', W.theClass, hk, hkind, Option.some.injEq, exists_eq_left']
  refine W.newArray_of hk hkind hl hh h1 h2 rfl fun acts' => ?_
  have h := hq acts'
  rw [← arrV_new] at h
  exact h
theorem ym_two {cQ cI cc : ClassId} {kQ kI : Class} {n k : Int32} (hkQ : s.vm.classes[cQ]? = some kQ) (hkindQ : kQ.kind = .array cI (.array .int)) (hkI : s.vm.classes[cI]? = some kI) (hkindI : kI.kind = .array cc .int) (hn : ¬ n < 0) (h0 : ¬ k < 0)
    (hl1 : ¬ n.toNatClampNeg > e.platform.arrayLengthLimit) (hh1 : ¬ n.toNatClampNeg * componentBytes (.array .int) > e.platform.maxHeapBytes) (hl : ¬ k.toNatClampNeg > e.platform.arrayLengthLimit) (hh : ¬ k.toNatClampNeg * componentBytes .int > e.platform.maxHeapBytes)
    (hc : s.heap.size + 1 + n.toNatClampNeg ≤ e.platform.maxCells) (hs : s.slotsUsed + n.toNatClampNeg + n.toNatClampNeg * k.toNatClampNeg ≤ e.platform.maxSlots)
    {Q : Addr → Pre} (hq : ∀ d' acts', Q s.heap.size d' acts' (ymS s cQ cI n.toNatClampNeg k.toNatClampNeg n.toNatClampNeg)) : wp (multianewarray.make cQ [n, k]) Q E e d acts s := by
  have hno : ([k].find? (· < 0)) = none := by simp [h0]
  rw [multianewarray.make]
  simp only [wp_bind', W.ite, hn, if_false, wp_pure', W.theClass, hkQ, hkindQ, Option.some.injEq, exists_eq_left']
  refine W.newArray_of hkQ hkindQ hl1 hh1 (by omega) (by have := Nat.zero_le (n.toNatClampNeg * k.toNatClampNeg); omega) rfl fun acts1 => ?_
  simp only [hno]
  rw [ite_self, wp_bind', Std.Legacy.Range.forIn_eq_forIn_range']
  rw [show ([:n.toNatClampNeg] : Std.Legacy.Range).size = n.toNatClampNeg by simp [Std.Legacy.Range.size]]
  show wp (forIn (List.range' 0 n.toNatClampNeg 1) PUnit.unit _) _ E e d acts1 _
  have e0 : s.pushCell { cls := cQ, slots := Array.replicate n.toNatClampNeg .null } = ymS s cQ cI n.toNatClampNeg k.toNatClampNeg 0 := by
    show s.pushCell ({ cls := cQ, slots := Array.replicate n.toNatClampNeg .null, vm := .none } : Cell) = s.pushCell _
    rw [ymC_0, arrV_new]
  rw [e0]
  refine wp_forIn_inv (fun left U => ∃ i, i ≤ n.toNatClampNeg ∧ left = List.range' i (n.toNatClampNeg - i) ∧ U = ymS s cQ cI n.toNatClampNeg k.toNatClampNeg i) _ _ ⟨0, Nat.zero_le _, rfl, rfl⟩ ?_ ?_
  · rintro x left U d' acts' Q' ⟨i, hi, hleft, rfl⟩ hgo
    have hlt : i < n.toNatClampNeg := by
      refine Nat.lt_of_not_le fun q => ?_
      rw [show n.toNatClampNeg - i = 0 by omega] at hleft
      cases hleft
    rw [show n.toNatClampNeg - i = (n.toNatClampNeg - (i + 1)) + 1 by omega, List.range'_succ] at hleft
    obtain ⟨rfl, hl2⟩ := List.cons.inj hleft
    obtain ⟨h1, h2, h3, h4, h5, h6⟩ := ymS_at s cQ cI n.toNatClampNeg k.toNatClampNeg x
    have hmul : x * k.toNatClampNeg + k.toNatClampNeg ≤ n.toNatClampNeg * k.toNatClampNeg := by
      have := Nat.mul_le_mul_right k.toNatClampNeg (show x + 1 ≤ n.toNatClampNeg from hlt)
      rw [Nat.succ_mul] at this
      exact this
    have hlt0 : s.heap.size < (ymS s cQ cI n.toNatClampNeg k.toNatClampNeg x).heap.size := by omega
    simp only [wp_bind']
    refine ym_in (by rw [h3]; exact hkI) hkindI h0 hl hh (by omega) (by omega) fun acts2 => ?_
    simp only [wp_bind', W.writeLoc, wp_pure']
    refine ⟨arrV cQ n.toNatClampNeg (ymC s.heap.size x), by rw [State.heap_pushCell_of_lt (h := hlt0)]; exact h2, (fun q => by cases q), by rw [arrV_size]; exact hlt, ?_, hgo _ _ _ ⟨x + 1, hlt, hl2, ?_⟩⟩
    · show State.fitsSlot _ cQ .none x _ = true
      simp [State.fitsSlot, State.slotType?, h3, hkQ, hkindQ]
      rfl
    · rw [arrV_store, h1, ymC_s]
      rfl
  · rintro U d' acts' ⟨i, hi, hleft, rfl⟩
    obtain rfl : i = n.toNatClampNeg := by
      refine Nat.le_antisymm hi (Nat.le_of_not_lt fun q => ?_)
      rw [show n.toNatClampNeg - i = (n.toNatClampNeg - (i + 1)) + 1 by omega, List.range'_succ] at hleft
      cases hleft
    simp only [wp_pure']
    exact hq _ _
end YW
section YN
variable {p : Program} {l : Launch} {e : Env} {R : Room} {s : State} {m : MethodId} {args : Array Value} {below : List Frame} {meth : Method} {c : Code} {H H0 : Heap} {locs : List Loc} {cells slots : Nat} {Q : State → Prop}
variable {cc : ByteArray} {pc : Nat} {ls : Array Slot} {rest : List Value} {D : va_G} {cl : List vw_C} {A : Nat → Prop} {a : Nat} {ws : va_W} {cyI cyJ cyB cyQ : ClassId} {own : String} {index : Nat}
theorem ymS_stand {T : State} (X : Stand p l e R s m args below meth c T locs cells slots) (cQ cI : ClassId) (N M : Nat) : ∀ i, Stand p l e R s m args below meth c (ymS T cQ cI N M i) (locs ++ (List.range i).map fun j => ⟨T.heap.size, j⟩) (cells + 1 + i) (slots + N + i * M)
  | 0 => by
    have h := X.pushed (arrV cQ N (ymC T.heap.size 0))
    rw [arrV_size] at h
    simpa [ymS] using h
  | i + 1 => by
    have Xi := ymS_stand X cQ cI N M i
    obtain ⟨h1, h2, h3, h4, h5, h6⟩ := ymS_at T cQ cI N M i
    have hlt0 : T.heap.size < (ymS T cQ cI N M i).heap.size := by omega
    have h := (Xi.pushed (arrV cI M (fun _ => .int 0))).stored (a := T.heap.size) (cell := arrV cQ N (ymC T.heap.size i)) (by rw [State.heap_pushCell_of_lt (h := hlt0)]; exact h2) i (.ref (T.heap.size + 1 + i))
    rw [arrV_size, arrV_store, ymC_s] at h
    have e2 : (locs ++ (List.range (i + 1)).map fun j => (⟨T.heap.size, j⟩ : Loc)) = (locs ++ (List.range i).map fun j => (⟨T.heap.size, j⟩ : Loc)) ++ [⟨T.heap.size, i⟩] := by simp [List.range_succ]
    rw [e2]
    have e3 : slots + N + (i + 1) * M = slots + N + i * M + M := by rw [Nat.succ_mul]; omega
    rw [e3]
    exact h
theorem y_astA (hexec : p.tables.exec = Jvm.exec) (hb : c.code = cc) (hover : (Cond.arrayOver (.array .int)).before args s = true) (hK : va_K D cl (ytys cyI cyJ cyB cyQ) s) (hP : va_P D cl ws H) (hD : va_D A ws) (hS : va_S A H0 H locs) (q0 qk : Nat) {n v N : Nat} {g : Nat → Int32} {f : Nat → Option Nat} (ha : ws[q0]? = some (a, .inl (cyQ, n, .inr (.inr (.inr (.inr f)))))) (hv : ws[qk]? = some (v, .inl (cyI, N, .inl g))) {i : Int32} (hin : vp_in i n) (hdg : decode cc pc = .ok (.aastore, 1))
    (kk : ∀ (H1 : Heap) (locs1 : List Loc), va_P D cl (ws.set q0 (a, .inl (cyQ, n, .inr (.inr (.inr (.inr (va_up f i.toNatClampNeg (some v)))))))) H1 → va_D A (ws.set q0 (a, .inl (cyQ, n, .inr (.inr (.inr (.inr (va_up f i.toNatClampNeg (some v)))))))) → va_S A H0 H1 locs1 → W p l e R s m args below meth c H1 locs1 cells slots Q (F0 m (pc + 1) ls rest)) : W p l e R s m args below meth c H locs cells slots Q (F0 m pc ls (.ref v :: .int i :: .ref a :: rest)) := by
  have hlt : i.toNatClampNeg < n := Nat.not_le.mp fun q => hin (Or.inr q)
  have h0 : ¬ i < 0 := fun q => hin (Or.inl q)
  obtain ⟨k, kI, k1, k2, k3, -⟩ := y_comp hover hK
  have hcv : H[v]? = some (arrV cyI N (fun j => .int (g j))) := hP qk _ hv
  refine W.aast hexec hb (hP q0 _ ha) (fun q h => by cases h) (fun h => by cases h) k1 k2 rfl k3 ⟨h0, by show _ < (arrV _ _ _).slots.size; rw [arrV_size]; exact hlt⟩ hcv (fun q h => by cases h) k3 (va_asg s.vm cyI) rfl rfl hdg fun H1 e z oq => ?_
  refine kk H1 _ (hP.set hD ha ?_ oq) (hD.set ha) (hS.put z oq (hD.2 q0 _ ha))
  show H1[a]? = some (vp_cell _ _)
  rw [e]
  rw [vp_cell_q, vp_cell_q, arrV_store]
  congr 2
  funext q
  by_cases hq : q = i.toNatClampNeg
  · subst hq
    simp [updV, va_up, va_rf]
  · simp [updV, va_up, hq]
theorem y_newA (hexec : p.tables.exec = Jvm.exec) (hb : c.code = cc) (hown : s.vm.findClass own = some m.cls) (hclink : (Cond.classLink own index (FieldType.array .int).toString).before args s = true) (hover : (Cond.arrayOver (.array .int)).before args s = true) (hK : va_K D cl (ytys cyI cyJ cyB cyQ) s) (hP : va_P D cl ws H) (hD : va_D A ws) (hS : va_S A H0 H locs) (hA : ∀ q, H0.size ≤ q → A q)
    {n : Int32} {N' : Nat} (hn : ¬ n < 0) (hN : n.toNatClampNeg = N') (hbytes : N' * 4 ≤ 536870912) (hcells : cells + 1 ≤ R.cells) (hslots : slots + N' ≤ R.slots) (hdg : decode cc pc = .ok (.anewarray index, 3))
    (kk : ∀ (q : Nat) (H1 : Heap), va_P D cl (ws ++ [(q, .inl (cyQ, N', .inr (.inr (.inr (.inr (fun _ => none))))))]) H1 → va_D A (ws ++ [(q, .inl (cyQ, N', .inr (.inr (.inr (.inr (fun _ => none))))))]) → va_S A H0 H1 locs →
      W p l e R s m args below meth c H1 locs (cells + 1) (slots + N') Q (F0 m (pc + 3) ls (.ref q :: rest))) : W p l e R s m args below meth c H locs cells slots Q (F0 m pc ls (.int n :: rest)) := by
  subst hN
  refine W.anewA hexec hb hown hclink hover rfl hdg rfl hn hbytes hcells hslots fun cA kA comp f1 f2 f3 f4 => ?_
  obtain ⟨k, kI, k1, k2, k3, k4⟩ := y_comp hover hK
  obtain rfl : cA = cyQ := Option.some.inj (f1.symm.trans k4)
  generalize hH1 : H.push ({ cls := cA, slots := Array.replicate n.toNatClampNeg .null, vm := .none } : Cell) = H1
  have z1 : H1.size = H.size + 1 := by rw [← hH1, Array.size_push]
  have e1 : H1[H.size]? = some (arrV cA n.toNatClampNeg (fun _ => .null)) := by rw [← hH1, Array.getElem?_push_size, ← arrV_new]
  have o1 : ∀ q : Nat, q < H.size → H1[q]? = H[q]? := fun q hq => by rw [← hH1, Array.getElem?_push, if_neg (Nat.ne_of_lt hq)]
  have hk : ∀ (k : Nat) (x : Nat × va_E), ws[k]? = some x → H1[x.1]? = H[x.1]? := fun k x hx => o1 x.1 ((hP k x hx).lt)
  refine kk H.size H1 ((hP.kept hk).app (fun k x hx => ?_)) (hD.push hP rfl (hA _ hS.1)) ⟨Nat.le_trans hS.1 (by omega), fun x h1 h2 => (o1 x (Nat.lt_of_lt_of_le h1 hS.1)).trans (hS.2.1 x h1 h2), hS.2.2⟩
  have hz : k < 1 := (List.getElem?_eq_some_iff.mp hx).1
  rw [show k = 0 by omega] at hx
  cases hx
  exact e1
theorem y_newM (hexec : p.tables.exec = Jvm.exec) (hb : c.code = cc) (hown : s.vm.findClass own = some m.cls) (hclink : (Cond.classLink own index ("[" ++ (FieldType.array .int).toString)).before args s = true) (hover : (Cond.arrayOver (.array .int)).before args s = true) (harr : (Cond.arrayClass .int).before args s = true) (hK : va_K D cl (ytys cyI cyJ cyB cyQ) s) (hP : va_P D cl ws H) (hD : va_D A ws) (hS : va_S A H0 H locs) (hA : ∀ q, H0.size ≤ q → A q)
    {n k : Int32} {N M : Nat} (hn : ¬ n < 0) (hk : ¬ k < 0) (hN : n.toNatClampNeg = N) (hM : k.toNatClampNeg = M) (hb1 : N ≤ 1000000) (hb2 : M ≤ 1000000) (hcells : cells + (1 + N) ≤ R.cells) (hslots : slots + (N + N * M) ≤ R.slots) (hdg : decode cc pc = .ok (.multianewarray index 2, 4))
    (kk : ∀ (q : Nat) (H1 : Heap) (locs1 : List Loc), va_P D cl (ws ++ (q, .inl (cyQ, N, .inr (.inr (.inr (.inr (fun j => if j < N then some (q + 1 + j) else none)))))) :: (List.range N).map (fun j => (q + 1 + j, .inl (cyI, M, .inl (fun _ => (0 : Int32)))))) H1 → va_D A (ws ++ (q, .inl (cyQ, N, .inr (.inr (.inr (.inr (fun j => if j < N then some (q + 1 + j) else none)))))) :: (List.range N).map (fun j => (q + 1 + j, .inl (cyI, M, .inl (fun _ => (0 : Int32)))))) → va_S A H0 H1 locs1 →
      W p l e R s m args below meth c H1 locs1 (cells + (1 + N)) (slots + (N + N * M)) Q (F0 m (pc + 4) ls (.ref q :: rest))) : W p l e R s m args below meth c H locs cells slots Q (F0 m pc ls (.int k :: .int n :: rest)) := by
  subst hN hM
  intro T hT X
  subst hT; subst hb
  have hpl : e.platform.magicAccessors = ({} : Platform).magicAccessors := by rw [X.admits.platform]
  obtain ⟨kQ, kI, g1, g2, g3, g4⟩ := y_comp hover hK
  obtain ⟨cI', kI', cc', f1, f2, f3⟩ := Cond.arrayClass_spec harr
  obtain rfl : cI' = cyI := Option.some.inj (f1.symm.trans (hK.2 0 _ rfl).2)
  obtain ⟨c0, hfc0, hcl⟩ := Cond.classLink_spec hown hclink e.platform hpl
  obtain rfl : c0 = cyQ := Option.some.inj (hfc0.symm.trans g4)
  obtain ⟨hg₁, hwarm₁, hready₁⟩ := State.classEntry (e := e) X.warmed hcl
  generalize T.vm.noted m.cls index (.cls c0) = vm₁ at hg₁ hwarm₁ hready₁
  have hal : s.vm.Alike vm₁ := hwarm₁.alike
  obtain ⟨kQ₁, hkQ₁, heQ⟩ := hal.2.2 _ _ g1
  obtain ⟨kI₁, hkI₁, heI⟩ := hal.2.2 _ _ f2
  have hkindQ₁ : kQ₁.kind = .array cI' (.array .int) := by rw [heQ]; exact g2
  have hkindI₁ : kI₁.kind = .array cc' .int := by rw [heI]; exact f3
  obtain ⟨hr1, hr2⟩ := X.roomAbove hcells hslots
  have XF := ymS_stand (X.noted hwarm₁) c0 cI' n.toNatClampNeg k.toNatClampNeg n.toNatClampNeg
  obtain ⟨h1, h2, h3, h4, h5, h6⟩ := ymS_at (T.setVm vm₁) c0 cI' n.toNatClampNeg k.toNatClampNeg n.toNatClampNeg
  have hsz : (T.setVm vm₁).heap.size = T.heap.size := rfl
  rw [hsz] at h1 h2 h5 h6
  rw [show cells + 1 + n.toNatClampNeg = cells + (1 + n.toNatClampNeg) by omega, show slots + n.toNatClampNeg + n.toNatClampNeg * k.toNatClampNeg = slots + (n.toNatClampNeg + n.toNatClampNeg * k.toNatClampNeg) by omega] at XF
  have hk1 : ∀ (j : Nat) (x : Nat × va_E), ws[j]? = some x → (ymS (T.setVm vm₁) c0 cI' n.toNatClampNeg k.toNatClampNeg n.toNatClampNeg).heap[x.1]? = T.heap[x.1]? := fun j x hx => h5 x.1 ((hP j x hx).lt)
  have hall : ∀ (j : Nat) (x : Nat × va_E), ((T.heap.size, (.inl (c0, n.toNatClampNeg, .inr (.inr (.inr (.inr (fun j => if j < n.toNatClampNeg then some (T.heap.size + 1 + j) else none))))) : va_E)) :: (List.range n.toNatClampNeg).map (fun j => (T.heap.size + 1 + j, (.inl (cI', k.toNatClampNeg, .inl (fun _ => (0 : Int32))) : va_E))))[j]? = some x → x.1 = T.heap.size + j ∧ va_at D cl x (ymS (T.setVm vm₁) c0 cI' n.toNatClampNeg k.toNatClampNeg n.toNatClampNeg).heap := by
    intro j x hx
    cases j with
    | zero =>
      cases hx
      refine ⟨rfl, ?_⟩
      show _ = some (vp_cell _ _)
      rw [vp_cell_q, h2]
      congr 2
      funext q
      unfold ymC
      by_cases hq : q < n.toNatClampNeg
      · rw [if_pos hq, if_pos hq]; rfl
      · rw [if_neg hq, if_neg hq]; rfl
    | succ j =>
      rw [List.getElem?_cons_succ, List.getElem?_map] at hx
      cases hj : (List.range n.toNatClampNeg)[j]? with
      | none => rw [hj] at hx; cases hx
      | some q =>
        rw [hj] at hx
        cases hx
        obtain ⟨hlt, he⟩ := List.getElem?_eq_some_iff.mp hj
        rw [List.getElem_range] at he
        subst he
        exact ⟨by show T.heap.size + 1 + j = T.heap.size + (j + 1); omega, h6 j (by simpa using hlt)⟩
  have hDn : va_D A (ws ++ (T.heap.size, (.inl (c0, n.toNatClampNeg, .inr (.inr (.inr (.inr (fun j => if j < n.toNatClampNeg then some (T.heap.size + 1 + j) else none))))) : va_E)) :: (List.range n.toNatClampNeg).map (fun j => (T.heap.size + 1 + j, (.inl (cI', k.toNatClampNeg, .inl (fun _ => (0 : Int32))) : va_E)))) := by
    refine ⟨fun i j p q hp hq hpq => ?_, fun j x hx => ?_⟩
    · rcases Nat.lt_or_ge i ws.length with hi | hi <;> rcases Nat.lt_or_ge j ws.length with hj | hj
      · rw [List.getElem?_append_left hi] at hp
        rw [List.getElem?_append_left hj] at hq
        exact hD.1 i j p q hp hq hpq
      · rw [List.getElem?_append_left hi] at hp
        rw [List.getElem?_append_right hj] at hq
        have := (hP i p hp).lt
        have := (hall _ _ hq).1
        omega
      · rw [List.getElem?_append_right hi] at hp
        rw [List.getElem?_append_left hj] at hq
        have := (hP j q hq).lt
        have := (hall _ _ hp).1
        omega
      · rw [List.getElem?_append_right hi] at hp
        rw [List.getElem?_append_right hj] at hq
        have := (hall _ _ hp).1
        have := (hall _ _ hq).1
        omega
    · rcases Nat.lt_or_ge j ws.length with hj | hj
      · rw [List.getElem?_append_left hj] at hx
        exact hD.2 j x hx
      · rw [List.getElem?_append_right hj] at hx
        have h9 := (hall _ _ hx).1
        exact hA _ (by have := hS.1; omega)
  have hSn : va_S A H0 (ymS (T.setVm vm₁) c0 cI' n.toNatClampNeg k.toNatClampNeg n.toNatClampNeg).heap (locs ++ (List.range n.toNatClampNeg).map fun j => ⟨T.heap.size, j⟩) := by
    refine ⟨Nat.le_trans hS.1 (by omega), fun x y1 y2 => (h5 x (Nat.lt_of_lt_of_le y1 hS.1)).trans (hS.2.1 x y1 y2), fun x hx => ?_⟩
    rcases List.mem_append.mp hx with hx | hx
    · exact hS.2.2 x hx
    · obtain ⟨q, -, rfl⟩ := List.mem_map.mp hx
      exact hA _ hS.1
  obtain ⟨t, a1, b1⟩ := kk T.heap.size _ _ ((hP.kept hk1).app (fun j x hx => (hall j x hx).2)) hDn hSn _ rfl XF
  refine ⟨t, ?_, b1⟩
  jvm_step X.here [hexec, hdg]
  simp only [multianewarray.sem, wp_bind', W.resolveClassAt_links (State.method?_setTop (F0 m pc ls (.int k :: .int n :: rest)) X.here.top) hg₁]
  rw [W.popN, if_neg (by decide)]
  refine ⟨F0 m pc ls (.int k :: .int n :: rest), State.topJava?_setTop' (s := T.setVm vm₁) (F0 m pc ls (.int k :: .int n :: rest)) X.here.top, [.int n, .int k], rest, rfl, rfl, ?_⟩
  simp only [List.mapM_cons, List.mapM_nil, wp_bind', wp_pure']
  have hl1 : ¬ n.toNatClampNeg > e.platform.arrayLengthLimit := by rw [Launch.admits_arrayLengthLimit X.admits]; omega
  have hl2 : ¬ k.toNatClampNeg > e.platform.arrayLengthLimit := by rw [Launch.admits_arrayLengthLimit X.admits]; omega
  have hh1 : ¬ n.toNatClampNeg * componentBytes (.array .int) > e.platform.maxHeapBytes := by rw [Launch.admits_maxHeapBytes X.admits]; show ¬ n.toNatClampNeg * 4 > 536870912; omega
  have hh2 : ¬ k.toNatClampNeg * componentBytes .int > e.platform.maxHeapBytes := by rw [Launch.admits_maxHeapBytes X.admits]; show ¬ k.toNatClampNeg * 4 > 536870912; omega
  refine ym_two (kQ := kQ₁) (kI := kI₁) (cI := cI') (cc := cc') hkQ₁ hkindQ₁ hkI₁ hkindI₁ hn hk hl1 hh1 hl2 hh2 (by show T.heap.size + 1 + _ ≤ _; omega) (by show T.slotsUsed + _ + _ ≤ _; omega) (fun d' acts' => ?_)
  have eS : ((T.setTop (F0 m pc ls (.int k :: .int n :: rest))).setVm vm₁).setTop { F0 m pc ls (.int k :: .int n :: rest) with stack := rest } = (T.setVm vm₁).setTop { F0 m pc ls (.int k :: .int n :: rest) with stack := rest } := by
    show ((T.setVm vm₁).setTop _).setTop _ = _
    rw [State.setTop_setTop]
  rw [eS, ymS_top]
  simp only [wp_bind', W.mark, W.pushRef, State.topJava?_setTop' _ XF.here.top, Option.some.injEq, exists_eq_left', State.setTop_setTop, State.heap_setTop]
  intro acts1
  simp [jvm, XF.here.top]
  exact a1
end YN
