/-! base: the pure language's few words, worlds' standard contracts, calls and ends in one row each -/
def p_in {α : Type} (i : Int32) (n : Nat) (k : Option α) : Option α := if i < 0 ∨ n ≤ i.toNatClampNeg then none else k
def p_nz {α : Type} (y : Int32) (k : Option α) : Option α := if y = 0 then none else k
def p_nzl {α : Type} (y : Int64) (k : Option α) : Option α := if y = 0 then none else k
def p_b1 {α β : Type} (x : Option α) (k : α → Option β) : Option β := match x with | none => none | some a => k a
def p_b2 {α₁ α₂ β : Type} (x : Option (α₁ × α₂)) (k : α₁ → α₂ → Option β) : Option β := match x with | none => none | some q => k q.1 q.2
def p_b3 {α₁ α₂ α₃ β : Type} (x : Option (α₁ × α₂ × α₃)) (k : α₁ → α₂ → α₃ → Option β) : Option β := match x with | none => none | some q => k q.1 q.2.1 q.2.2
def p_b4 {α₁ α₂ α₃ α₄ β : Type} (x : Option (α₁ × α₂ × α₃ × α₄)) (k : α₁ → α₂ → α₃ → α₄ → Option β) : Option β := match x with | none => none | some q => k q.1 q.2.1 q.2.2.1 q.2.2.2
def p_b5 {α₁ α₂ α₃ α₄ α₅ β : Type} (x : Option (α₁ × α₂ × α₃ × α₄ × α₅)) (k : α₁ → α₂ → α₃ → α₄ → α₅ → Option β) : Option β := match x with | none => none | some q => k q.1 q.2.1 q.2.2.1 q.2.2.2.1 q.2.2.2.2
def p_b6 {α₁ α₂ α₃ α₄ α₅ α₆ β : Type} (x : Option (α₁ × α₂ × α₃ × α₄ × α₅ × α₆)) (k : α₁ → α₂ → α₃ → α₄ → α₅ → α₆ → Option β) : Option β := match x with | none => none | some q => k q.1 q.2.1 q.2.2.1 q.2.2.2.1 q.2.2.2.2.1 q.2.2.2.2.2
def p_b7 {α₁ α₂ α₃ α₄ α₅ α₆ α₇ β : Type} (x : Option (α₁ × α₂ × α₃ × α₄ × α₅ × α₆ × α₇)) (k : α₁ → α₂ → α₃ → α₄ → α₅ → α₆ → α₇ → Option β) : Option β := match x with | none => none | some q => k q.1 q.2.1 q.2.2.1 q.2.2.2.1 q.2.2.2.2.1 q.2.2.2.2.2.1 q.2.2.2.2.2.2
def p_b8 {α₁ α₂ α₃ α₄ α₅ α₆ α₇ α₈ β : Type} (x : Option (α₁ × α₂ × α₃ × α₄ × α₅ × α₆ × α₇ × α₈)) (k : α₁ → α₂ → α₃ → α₄ → α₅ → α₆ → α₇ → α₈ → Option β) : Option β := match x with | none => none | some q => k q.1 q.2.1 q.2.2.1 q.2.2.2.1 q.2.2.2.2.1 q.2.2.2.2.2.1 q.2.2.2.2.2.2.1 q.2.2.2.2.2.2.2
def p_b9 {α₁ α₂ α₃ α₄ α₅ α₆ α₇ α₈ α₉ β : Type} (x : Option (α₁ × α₂ × α₃ × α₄ × α₅ × α₆ × α₇ × α₈ × α₉)) (k : α₁ → α₂ → α₃ → α₄ → α₅ → α₆ → α₇ → α₈ → α₉ → Option β) : Option β := match x with | none => none | some q => k q.1 q.2.1 q.2.2.1 q.2.2.2.1 q.2.2.2.2.1 q.2.2.2.2.2.1 q.2.2.2.2.2.2.1 q.2.2.2.2.2.2.2.1 q.2.2.2.2.2.2.2.2
theorem pe_in {α : Type} {i : Int32} {n : Nat} {k : Option α} {o : α} (h : p_in i n k = some o) : vp_in i n ∧ k = some o := by
  unfold p_in at h
  by_cases hc : i < 0 ∨ n ≤ i.toNatClampNeg
  · rw [if_pos hc] at h; cases h
  · rw [if_neg hc] at h; exact ⟨hc, h⟩
theorem pe_nz {α : Type} {y : Int32} {k : Option α} {o : α} (h : p_nz y k = some o) : ¬ y = 0 ∧ k = some o := by
  unfold p_nz at h
  by_cases hc : y = 0
  · rw [if_pos hc] at h; cases h
  · rw [if_neg hc] at h; exact ⟨hc, h⟩
theorem pe_nzl {α : Type} {y : Int64} {k : Option α} {o : α} (h : p_nzl y k = some o) : ¬ y = 0 ∧ k = some o := by
  unfold p_nzl at h
  by_cases hc : y = 0
  · rw [if_pos hc] at h; cases h
  · rw [if_neg hc] at h; exact ⟨hc, h⟩
theorem pe_t {α : Type} {c : Prop} {i : Decidable c} {a b : Option α} {o : α} (h : (@ite _ c i a b) = some o) (hc : c) : a = some o := by rwa [if_pos hc] at h
theorem pe_f {α : Type} {c : Prop} {i : Decidable c} {a b : Option α} {o : α} (h : (@ite _ c i a b) = some o) (hc : ¬ c) : b = some o := by rwa [if_neg hc] at h
theorem pe_1 {α β : Type} {x : Option α} {k : α → Option β} {o : β} (h : p_b1 x k = some o) : ∃ a, x = some a ∧ k a = some o := by
  cases x with
  | none => cases h
  | some a => exact ⟨a, rfl, h⟩
theorem pe_2 {α₁ α₂ β : Type} {x : Option (α₁ × α₂)} {k : α₁ → α₂ → Option β} {o : β} (h : p_b2 x k = some o) : ∃ a b, x = some (a, b) ∧ k a b = some o := by
  cases x with
  | none => cases h
  | some a => exact ⟨_, _, rfl, h⟩
theorem pe_3 {α₁ α₂ α₃ β : Type} {x : Option (α₁ × α₂ × α₃)} {k : α₁ → α₂ → α₃ → Option β} {o : β} (h : p_b3 x k = some o) : ∃ a b c, x = some (a, b, c) ∧ k a b c = some o := by
  cases x with
  | none => cases h
  | some a => exact ⟨_, _, _, rfl, h⟩
theorem pe_4 {α₁ α₂ α₃ α₄ β : Type} {x : Option (α₁ × α₂ × α₃ × α₄)} {k : α₁ → α₂ → α₃ → α₄ → Option β} {o : β} (h : p_b4 x k = some o) : ∃ a b c d, x = some (a, b, c, d) ∧ k a b c d = some o := by
  cases x with
  | none => cases h
  | some a => exact ⟨_, _, _, _, rfl, h⟩
theorem pe_5 {α₁ α₂ α₃ α₄ α₅ β : Type} {x : Option (α₁ × α₂ × α₃ × α₄ × α₅)} {k : α₁ → α₂ → α₃ → α₄ → α₅ → Option β} {o : β} (h : p_b5 x k = some o) : ∃ a b c d e, x = some (a, b, c, d, e) ∧ k a b c d e = some o := by
  cases x with
  | none => cases h
  | some a => exact ⟨_, _, _, _, _, rfl, h⟩
theorem pe_6 {α₁ α₂ α₃ α₄ α₅ α₆ β : Type} {x : Option (α₁ × α₂ × α₃ × α₄ × α₅ × α₆)} {k : α₁ → α₂ → α₃ → α₄ → α₅ → α₆ → Option β} {o : β} (h : p_b6 x k = some o) : ∃ a b c d e f, x = some (a, b, c, d, e, f) ∧ k a b c d e f = some o := by
  cases x with
  | none => cases h
  | some a => exact ⟨_, _, _, _, _, _, rfl, h⟩
theorem pe_7 {α₁ α₂ α₃ α₄ α₅ α₆ α₇ β : Type} {x : Option (α₁ × α₂ × α₃ × α₄ × α₅ × α₆ × α₇)} {k : α₁ → α₂ → α₃ → α₄ → α₅ → α₆ → α₇ → Option β} {o : β} (h : p_b7 x k = some o) : ∃ a b c d e f g, x = some (a, b, c, d, e, f, g) ∧ k a b c d e f g = some o := by
  cases x with
  | none => cases h
  | some a => exact ⟨_, _, _, _, _, _, _, rfl, h⟩
theorem pe_8 {α₁ α₂ α₃ α₄ α₅ α₆ α₇ α₈ β : Type} {x : Option (α₁ × α₂ × α₃ × α₄ × α₅ × α₆ × α₇ × α₈)} {k : α₁ → α₂ → α₃ → α₄ → α₅ → α₆ → α₇ → α₈ → Option β} {o : β} (h : p_b8 x k = some o) : ∃ a b c d e f g i, x = some (a, b, c, d, e, f, g, i) ∧ k a b c d e f g i = some o := by
  cases x with
  | none => cases h
  | some a => exact ⟨_, _, _, _, _, _, _, _, rfl, h⟩
theorem pe_9 {α₁ α₂ α₃ α₄ α₅ α₆ α₇ α₈ α₉ β : Type} {x : Option (α₁ × α₂ × α₃ × α₄ × α₅ × α₆ × α₇ × α₈ × α₉)} {k : α₁ → α₂ → α₃ → α₄ → α₅ → α₆ → α₇ → α₈ → α₉ → Option β} {o : β} (h : p_b9 x k = some o) : ∃ a b c d e f g i j, x = some (a, b, c, d, e, f, g, i, j) ∧ k a b c d e f g i j = some o := by
  cases x with
  | none => cases h
  | some a => exact ⟨_, _, _, _, _, _, _, _, _, rfl, h⟩
def p_cp {α : Type} (sp dp n : Int32) (N : Nat) (k : Option α) : Option α := if sp < 0 ∨ dp < 0 ∨ n < 0 ∨ N < sp.toNatClampNeg + n.toNatClampNeg ∨ N < dp.toNatClampNeg + n.toNatClampNeg then none else k
theorem pe_cp {α : Type} {sp dp n : Int32} {N : Nat} {k : Option α} {o : α} (h : p_cp sp dp n N k = some o) : ¬ sp < 0 ∧ ¬ dp < 0 ∧ ¬ n < 0 ∧ sp.toNatClampNeg + n.toNatClampNeg ≤ N ∧ dp.toNatClampNeg + n.toNatClampNeg ≤ N ∧ k = some o := by
  unfold p_cp at h
  by_cases hc : sp < 0 ∨ dp < 0 ∨ n < 0 ∨ N < sp.toNatClampNeg + n.toNatClampNeg ∨ N < dp.toNatClampNeg + n.toNatClampNeg
  · rw [if_pos hc] at h; cases h
  · rw [if_neg hc] at h
    exact ⟨fun q => hc (Or.inl q), fun q => hc (Or.inr (Or.inl q)), fun q => hc (Or.inr (Or.inr (Or.inl q))), Nat.le_of_not_lt fun q => hc (Or.inr (Or.inr (Or.inr (Or.inl q)))), Nat.le_of_not_lt fun q => hc (Or.inr (Or.inr (Or.inr (Or.inr q)))), h⟩
theorem xh_ne {x k : Int32} {z : Int} (hk : k.toInt = z) (h : ¬ x = k) : x.toInt ≠ z := fun e => h (Int32.toInt_inj.mp (e.trans hk.symm))
theorem po_1 {α : Type} {a b : α} (h : some a = some b) : a = b := Option.some.inj h
theorem po_2 {α β : Type} {a b : α} {c d : β} (h : some (a, c) = some (b, d)) : a = b ∧ c = d := by cases h; exact ⟨rfl, rfl⟩
theorem po_3 {α₁ α₂ α₃ : Type} {a1 b1 : α₁} {a2 b2 : α₂} {a3 b3 : α₃} (h : some (a1, a2, a3) = some (b1, b2, b3)) : a1 = b1 ∧ a2 = b2 ∧ a3 = b3 := by cases h; exact ⟨rfl, rfl, rfl⟩
theorem po_4 {α₁ α₂ α₃ α₄ : Type} {a1 b1 : α₁} {a2 b2 : α₂} {a3 b3 : α₃} {a4 b4 : α₄} (h : some (a1, a2, a3, a4) = some (b1, b2, b3, b4)) : a1 = b1 ∧ a2 = b2 ∧ a3 = b3 ∧ a4 = b4 := by cases h; exact ⟨rfl, rfl, rfl, rfl⟩
theorem po_5 {α₁ α₂ α₃ α₄ α₅ : Type} {a1 b1 : α₁} {a2 b2 : α₂} {a3 b3 : α₃} {a4 b4 : α₄} {a5 b5 : α₅} (h : some (a1, a2, a3, a4, a5) = some (b1, b2, b3, b4, b5)) : a1 = b1 ∧ a2 = b2 ∧ a3 = b3 ∧ a4 = b4 ∧ a5 = b5 := by cases h; exact ⟨rfl, rfl, rfl, rfl, rfl⟩
theorem po_6 {α₁ α₂ α₃ α₄ α₅ α₆ : Type} {a1 b1 : α₁} {a2 b2 : α₂} {a3 b3 : α₃} {a4 b4 : α₄} {a5 b5 : α₅} {a6 b6 : α₆} (h : some (a1, a2, a3, a4, a5, a6) = some (b1, b2, b3, b4, b5, b6)) : a1 = b1 ∧ a2 = b2 ∧ a3 = b3 ∧ a4 = b4 ∧ a5 = b5 ∧ a6 = b6 := by cases h; exact ⟨rfl, rfl, rfl, rfl, rfl, rfl⟩
theorem po_7 {α₁ α₂ α₃ α₄ α₅ α₆ α₇ : Type} {a1 b1 : α₁} {a2 b2 : α₂} {a3 b3 : α₃} {a4 b4 : α₄} {a5 b5 : α₅} {a6 b6 : α₆} {a7 b7 : α₇} (h : some (a1, a2, a3, a4, a5, a6, a7) = some (b1, b2, b3, b4, b5, b6, b7)) : a1 = b1 ∧ a2 = b2 ∧ a3 = b3 ∧ a4 = b4 ∧ a5 = b5 ∧ a6 = b6 ∧ a7 = b7 := by cases h; exact ⟨rfl, rfl, rfl, rfl, rfl, rfl, rfl⟩
theorem po_8 {α₁ α₂ α₃ α₄ α₅ α₆ α₇ α₈ : Type} {a1 b1 : α₁} {a2 b2 : α₂} {a3 b3 : α₃} {a4 b4 : α₄} {a5 b5 : α₅} {a6 b6 : α₆} {a7 b7 : α₇} {a8 b8 : α₈} (h : some (a1, a2, a3, a4, a5, a6, a7, a8) = some (b1, b2, b3, b4, b5, b6, b7, b8)) : a1 = b1 ∧ a2 = b2 ∧ a3 = b3 ∧ a4 = b4 ∧ a5 = b5 ∧ a6 = b6 ∧ a7 = b7 ∧ a8 = b8 := by cases h; exact ⟨rfl, rfl, rfl, rfl, rfl, rfl, rfl, rfl⟩
theorem po_9 {α₁ α₂ α₃ α₄ α₅ α₆ α₇ α₈ α₉ : Type} {a1 b1 : α₁} {a2 b2 : α₂} {a3 b3 : α₃} {a4 b4 : α₄} {a5 b5 : α₅} {a6 b6 : α₆} {a7 b7 : α₇} {a8 b8 : α₈} {a9 b9 : α₉} (h : some (a1, a2, a3, a4, a5, a6, a7, a8, a9) = some (b1, b2, b3, b4, b5, b6, b7, b8, b9)) : a1 = b1 ∧ a2 = b2 ∧ a3 = b3 ∧ a4 = b4 ∧ a5 = b5 ∧ a6 = b6 ∧ a7 = b7 ∧ a8 = b8 ∧ a9 = b9 := by cases h; exact ⟨rfl, rfl, rfl, rfl, rfl, rfl, rfl, rfl, rfl⟩
/-! words of the one table -/
theorem xg_ok {w : Cond} (h : w ∈ xg_tbl) : (w.onTables && w.keeps) = true ∨ ∃ ty, w = .arrayClass ty := good_of_word (List.mem_filter.mp h).2
theorem xg_code {y : MethodName} {cc : ByteArray} {mL : Nat} {r : Option FieldType} (h5 : Cond.code y cc mL r ∈ xg_tbl) : GoodIn xg_tbl (Cond.code y cc mL r :: xg_tbl) := by
  intro w hw
  rcases List.mem_cons.mp hw with rfl | hw
  · exact ⟨h5, xg_ok h5⟩
  · exact ⟨hw, xg_ok hw⟩
theorem xg_V {own C : String} {idx : Nat} {y : MethodName} {cc : ByteArray} {mL : Nat} {r : Option FieldType} (h1 : Cond.methodLink own idx y ∈ xg_tbl) (h2 : Cond.instanceMethod y ∈ xg_tbl) (h3 : Cond.selects C y y ∈ xg_tbl) (h4 : Cond.initialized C ∈ xg_tbl) (h5 : Cond.code y cc mL r ∈ xg_tbl) : GoodIn xg_tbl (wsV own idx C y (Cond.code y cc mL r :: xg_tbl)) := by
  intro w hw
  rcases List.mem_append.mp hw with hw | hw
  · have hm : w ∈ xg_tbl := by
      simp only [List.mem_cons, List.not_mem_nil, or_false] at hw
      rcases hw with rfl | rfl | rfl | rfl <;> assumption
    exact ⟨hm, xg_ok hm⟩
  · exact xg_code h5 w hw
theorem xg_S {own : String} {idx : Nat} {y : MethodName} {cc : ByteArray} {mL : Nat} {r : Option FieldType} (h1 : Cond.methodLink own idx y ∈ xg_tbl) (h2 : Cond.static y ∈ xg_tbl) (h4 : Cond.initialized y.cls ∈ xg_tbl) (h5 : Cond.code y cc mL r ∈ xg_tbl) : GoodIn xg_tbl (va_wsS own idx y (Cond.code y cc mL r :: xg_tbl)) := by
  intro w hw
  rcases List.mem_append.mp hw with hw | hw
  · have hm : w ∈ xg_tbl := by
      simp only [List.mem_cons, List.not_mem_nil, or_false] at hw
      rcases hw with rfl | rfl | rfl <;> assumption
    exact ⟨hm, xg_ok hm⟩
  · exact xg_code h5 w hw
/-! statics -/
def xt_KEYS : List Int32 := [0x0, 0x1, 0x2, 0x11, 0x3, 0x21, 0x111, 0x4, 0x31, 0x22, 0x211, 0x1111, 0x5, 0x41, 0x32, 0x311, 0x221, 0x2111, 0x11111, 0x6, 0x51, 0x42, 0x411, 0x33, 0x321, 0x3111, 0x222, 0x2211, 0x21111, 0x111111, 0x7, 0x61, 0x52, 0x511, 0x43, 0x421, 0x4111, 0x331, 0x322, 0x3211, 0x31111, 0x2221, 0x22111, 0x211111, 0x1111111, 0x8, 0x71, 0x62, 0x611, 0x53, 0x521, 0x5111, 0x44, 0x431, 0x422, 0x4211, 0x41111, 0x332, 0x3311, 0x3221, 0x32111, 0x311111, 0x2222, 0x22211, 0x221111, 0x2111111, 0x11111111]
def xt_FIRST : List Int32 := [0, 1, 2, 4, 7, 12, 19, 30, 45, 67]
def xt_FACTORIALS : List Int32 := [1, 1, 2, 6, 24, 120, 720, 5040, 40320]
def xt_STARTS : List Int32 := [0, 1, 2, 6, 16, 51, 135, 421, 1101]
def xi_KEYS (j : Nat) : Int32 := xt_KEYS.getD j 0
def xi_FIRST (j : Nat) : Int32 := xt_FIRST.getD j 0
def xi_FACTORIALS (j : Nat) : Int32 := xt_FACTORIALS.getD j 0
def xi_STARTS (j : Nat) : Int32 := xt_STARTS.getD j 0
def xs_1 (C n : String) (t N : Nat) (f : Nat → Int32) (A : Nat → Prop) (U : State) (H : Heap) : Prop := va_Z C n "[I" (.ref t) A U H ∧ va_T .int t N (fun j => .int (f j)) A U H
def xs_T (G : Nat → Nat) (A : Nat → Prop) (U : State) (H : Heap) : Prop :=
  xs_1 "CharactersMultiplied$Shapes" "KEYS" (G 0) 67 xi_KEYS A U H ∧ xs_1 "CharactersMultiplied$Shapes" "FIRST" (G 1) 10 xi_FIRST A U H ∧ xs_1 "CharactersMultiplied$Shapes" "FACTORIALS" (G 2) 9 xi_FACTORIALS A U H ∧ xs_1 "CharactersMultiplied$Numbers" "STARTS" (G 3) 9 xi_STARTS A U H
theorem xs_1.moved {C n : String} {t N : Nat} {f : Nat → Int32} {A : Nat → Prop} {u U : State} {H : Heap} (hvm : u.vm.Alike U.vm) (h : xs_1 C n t N f A u H) : xs_1 C n t N f A U H := ⟨h.1.moved hvm, h.2.moved hvm⟩
theorem xs_1.kept {C n : String} {t N : Nat} {f : Nat → Int32} {A : Nat → Prop} {U : State} {H H1 : Heap} (h : xs_1 C n t N f A U H) (hq : ∀ a : Nat, a < H.size → ¬ A a → H1[a]? = H[a]?) : xs_1 C n t N f A U H1 := ⟨h.1.kept hq, h.2.kept hq⟩
theorem xs_1.narrow {C n : String} {t N : Nat} {f : Nat → Int32} {A B : Nat → Prop} {U : State} {H : Heap} (h : xs_1 C n t N f A U H) (hq : ∀ q, B q → A q) : xs_1 C n t N f B U H := ⟨h.1.narrow hq, h.2.narrow hq⟩
theorem xs_T.moved {G : Nat → Nat} {A : Nat → Prop} {u U : State} {H : Heap} (hvm : u.vm.Alike U.vm) (h : xs_T G A u H) : xs_T G A U H := ⟨h.1.moved hvm, h.2.1.moved hvm, h.2.2.1.moved hvm, h.2.2.2.moved hvm⟩
theorem xs_T.kept {G : Nat → Nat} {A : Nat → Prop} {U : State} {H H1 : Heap} (h : xs_T G A U H) (hq : ∀ a : Nat, a < H.size → ¬ A a → H1[a]? = H[a]?) : xs_T G A U H1 := ⟨h.1.kept hq, h.2.1.kept hq, h.2.2.1.kept hq, h.2.2.2.kept hq⟩
theorem xs_T.narrow {G : Nat → Nat} {A B : Nat → Prop} {U : State} {H : Heap} (h : xs_T G A U H) (hq : ∀ q, B q → A q) : xs_T G B U H := ⟨h.1.narrow hq, h.2.1.narrow hq, h.2.2.1.narrow hq, h.2.2.2.narrow hq⟩
/-! worlds -/
theorem xq_pick {D : va_G} {cl : List vw_C} {ws ws' : va_W} {H : Heap} (h : va_P D cl ws H) (is : List Nat) (hs : is.map (fun i => ws[i]?) = ws'.map some) : va_P D cl ws' H := by
  intro k q hk
  have h1 : (is.map (fun i => ws[i]?))[k]? = some (some q) := by rw [hs, List.getElem?_map, hk]; rfl
  rw [List.getElem?_map] at h1
  cases hi : is[k]? with
  | none => rw [hi] at h1; cases h1
  | some i => rw [hi] at h1; exact h i q (Option.some.inj h1)
theorem xq_nd {l : List Nat} (h : l.Nodup) : va_nd l = true := by
  induction l with
  | nil => rfl
  | cons a l ih =>
    rw [List.nodup_cons] at h
    simp only [va_nd, Bool.and_eq_true, decide_eq_true_eq]
    exact ⟨h.1, ih h.2⟩
theorem xq_nd_range (n : Nat) : va_nd (List.range n) = true := xq_nd List.nodup_range
/-- places: the callee's cells (wc) and the rest of ws; behind the call the callee's are w1, and the whole ws1 -/
def xq_Pl (ws wc w1 ws1 : va_W) : Prop := ∃ (wr : va_W) (isC isR isB : List Nat), isC.map (fun i => ws[i]?) = wc.map some ∧ isR.map (fun i => ws[i]?) = wr.map some ∧ va_nd isC = true ∧ va_nd isR = true ∧ (∀ i ∈ isR, i ∉ isC) ∧ isB.map (fun i => (wr ++ w1)[i]?) = ws1.map some ∧ va_nd isB = true
theorem xq_none (ws : va_W) : xq_Pl ws [] [] ws := by
  refine ⟨ws, [], List.range ws.length, List.range ws.length, rfl, ?_, rfl, ?_, (fun i _ h => by cases h), ?_, ?_⟩
  · exact List.ext_getElem (by simp) (fun i h1 h2 => by simp)
  · exact xq_nd_range _
  · exact List.ext_getElem (by simp) (fun i h1 h2 => by simp)
  · exact xq_nd_range _
/-! contracts -/
def xc_Pre (D : va_G) (cl : List vw_C) (tys : List (ClassId × FieldType)) (G : Nat → Nat) (ws : va_W) (sz : Nat) (U : State) : Prop :=
  U.heap.size = sz ∧ va_P D cl ws U.heap ∧ va_K D cl tys U ∧ va_D (fun _ => True) ws ∧ xs_T G (va_A ws sz) U U.heap
def xc_Post (D : va_G) (cl : List vw_C) (tys : List (ClassId × FieldType)) (A : Nat → Prop) (ws : va_W) (t : State) : Prop := va_P D cl ws t.heap ∧ va_K D cl tys t ∧ va_D A ws
abbrev xc_Qi (D : va_G) (cl : List vw_C) (tys : List (ClassId × FieldType)) (A : Nat → Prop) (w1 : va_W) (r : Int32) : Array Value → State → Outcome → State → Prop := va_Qi (fun r' (_ : Unit) => r' = r) (fun _ t => xc_Post D cl tys A w1 t) A
abbrev xc_Qz (D : va_G) (cl : List vw_C) (tys : List (ClassId × FieldType)) (A : Nat → Prop) (w1 : va_W) (r : Int32) : Array Value → State → Outcome → State → Prop := va_Qi (fun r' (_ : Unit) => r' = r ∧ narrow .boolean (.int r) = .int r) (fun _ t => xc_Post D cl tys A w1 t) A
abbrev xc_Ql (D : va_G) (cl : List vw_C) (tys : List (ClassId × FieldType)) (A : Nat → Prop) (w1 : va_W) (r : Int64) : Array Value → State → Outcome → State → Prop := va_Ql (fun r' (_ : Unit) => r' = r) (fun _ t => xc_Post D cl tys A w1 t) A
abbrev xc_Qv (D : va_G) (cl : List vw_C) (tys : List (ClassId × FieldType)) (A : Nat → Prop) (w1 : va_W) : Array Value → State → Outcome → State → Prop := va_Qv (fun (_ : Unit) => True) (fun _ t => xc_Post D cl tys A w1 t) A
def xm_i (l : Launch) (y : MethodName) (ws : List Cond) (rm : Room) (D : va_G) (cl : List vw_C) (tys : List (ClassId × FieldType)) (G : Nat → Nat) (sz : Nat) (av : List Value) (wd w1 : va_W) (r : Int32) : Prop :=
  Met l y ws rm (va_Pc av (xc_Pre D cl tys G wd sz)) (xc_Qi D cl tys (va_A wd sz) w1 r) 0 0 (va_A wd sz)
def xm_z (l : Launch) (y : MethodName) (ws : List Cond) (rm : Room) (D : va_G) (cl : List vw_C) (tys : List (ClassId × FieldType)) (G : Nat → Nat) (sz : Nat) (av : List Value) (wd w1 : va_W) (r : Int32) : Prop :=
  Met l y ws rm (va_Pc av (xc_Pre D cl tys G wd sz)) (xc_Qz D cl tys (va_A wd sz) w1 r) 0 0 (va_A wd sz)
def xm_l (l : Launch) (y : MethodName) (ws : List Cond) (rm : Room) (D : va_G) (cl : List vw_C) (tys : List (ClassId × FieldType)) (G : Nat → Nat) (sz : Nat) (av : List Value) (wd w1 : va_W) (r : Int64) : Prop :=
  Met l y ws rm (va_Pc av (xc_Pre D cl tys G wd sz)) (xc_Ql D cl tys (va_A wd sz) w1 r) 0 0 (va_A wd sz)
def xm_v (l : Launch) (y : MethodName) (ws : List Cond) (rm : Room) (D : va_G) (cl : List vw_C) (tys : List (ClassId × FieldType)) (G : Nat → Nat) (sz : Nat) (av : List Value) (wd w1 : va_W) : Prop :=
  Met l y ws rm (va_Pc av (xc_Pre D cl tys G wd sz)) (xc_Qv D cl tys (va_A wd sz) w1) 0 0 (va_A wd sz)
/-- what stays true all through a method -/
def xc_C (p : Program) (s : State) (m : MethodId) (args : Array Value) (meth : Method) (c : Code) (cc : ByteArray) (nL : Nat) (own : String) (ret : Option FieldType) (D : va_G) (cl : List vw_C) (tys : List (ClassId × FieldType)) (G : Nat → Nat) (A : Nat → Prop) : Prop :=
  CallFix p m c cc nL s args xg_tbl own ∧ meth.sig.returnType = ret ∧ meth.locks = false ∧ va_K D cl tys s ∧ (∀ q, s.heap.size ≤ q → A q) ∧ xs_T G A s s.heap
theorem xm_of {l : Launch} {y : MethodName} {ws : List Cond} {rm : Room} {D : va_G} {cl : List vw_C} {tys : List (ClassId × FieldType)} {G : Nat → Nat} {sz mc ms : Nat} {av : List Value} {wd : va_W} {ret : Option FieldType} {cc : ByteArray} {maxL : Nat} {own : String} {Qc : Array Value → State → Outcome → State → Prop}
    (hy : plainName y.cls = true) (hw : ws = Cond.code y cc maxL ret :: xg_tbl) (hown : y.cls = own) (hn : (lg_sl av).length ≤ maxL)
    (body : ∀ (p : Program) (e : Env) (s : State) (m : MethodId) (args : Array Value) (below : List Frame) (meth : Method) (c : Code) (ls : Array Slot), (y.name = "<init>" → meth.name = "<init>") → xc_C p s m args meth c cc maxL own ret D cl tys G (va_A wd sz) → s.heap.size = sz → va_P D cl wd s.heap → va_D (va_A wd sz) wd → va_S (va_A wd sz) s.heap s.heap [] → lv_has ls maxL (lv_args 0 av) → W p l e rm s m args below meth c s.heap [] 0 0 (MQ below Qc args s mc ms (va_A wd sz)) (F0 m 0 ls [])) :
    Met l y ws rm (va_Pc av (xc_Pre D cl tys G wd sz)) Qc mc ms (va_A wd sz) := by
  refine Met.ofW (cc := cc) (maxL := maxL) (ret := ret) hy hw ?_
  intro p e s m args below meth c s₁ B hml hv
  obtain ⟨rfl, hsz, hP, hK, hD0, hT⟩ := hv
  have hts0 := atoms_spec (ws := ws) B.pre
  have hts : ∀ w ∈ xg_tbl, w.before av.toArray s = true := fun w h => hts0 w (by rw [hw]; exact List.mem_cons_of_mem _ h)
  have hcls : s.vm.findClass own = some m.cls := by rw [← hown]; exact findClass_of_methodNamed B.named
  have hl := lv_entry av (n := maxL) hn
  rw [lg_entry_eq]
  refine body p e s m av.toArray below meth c _ (fun h => (name_of_methodNamed B.named B.method).1.trans h) ⟨⟨B.exec, B.bytes, hml, hcls, hts⟩, B.returns, B.notSynchronized, hK, fun q h => Or.inr (by rw [← hsz]; exact h), hT⟩ hsz hP hD0.self va_S.rf hl
theorem xm_of_i {l : Launch} {y : MethodName} {ws : List Cond} {rm : Room} {D : va_G} {cl : List vw_C} {tys : List (ClassId × FieldType)} {G : Nat → Nat} {sz : Nat} {av : List Value} {wd w1 : va_W} {r : Int32} {cc : ByteArray} {maxL : Nat} {own : String}
    (hy : plainName y.cls = true) (hw : ws = Cond.code y cc maxL (some .int) :: xg_tbl) (hown : y.cls = own) (hn : (lg_sl av).length ≤ maxL)
    (body : ∀ (p : Program) (e : Env) (s : State) (m : MethodId) (args : Array Value) (below : List Frame) (meth : Method) (c : Code) (ls : Array Slot) (Q : State → Prop) (A : Nat → Prop), MQ below (xc_Qi D cl tys A w1 r) args s 0 0 A = Q → va_A wd sz = A → (y.name = "<init>" → meth.name = "<init>") → xc_C p s m args meth c cc maxL own (some .int) D cl tys G A → s.heap.size = sz → va_P D cl wd s.heap → va_D A wd → va_S A s.heap s.heap [] → lv_has ls maxL (lv_args 0 av) → W p l e rm s m args below meth c s.heap [] 0 0 Q (F0 m 0 ls [])) :
    xm_i l y ws rm D cl tys G sz av wd w1 r :=
  xm_of hy hw hown hn (fun p e s m args below meth c ls h1 Cx h2 h3 h4 h5 h6 => body p e s m args below meth c ls _ _ rfl rfl h1 Cx h2 h3 h4 h5 h6)
theorem xm_of_z {l : Launch} {y : MethodName} {ws : List Cond} {rm : Room} {D : va_G} {cl : List vw_C} {tys : List (ClassId × FieldType)} {G : Nat → Nat} {sz : Nat} {av : List Value} {wd w1 : va_W} {r : Int32} {cc : ByteArray} {maxL : Nat} {own : String}
    (hy : plainName y.cls = true) (hw : ws = Cond.code y cc maxL (some .boolean) :: xg_tbl) (hown : y.cls = own) (hn : (lg_sl av).length ≤ maxL)
    (body : ∀ (p : Program) (e : Env) (s : State) (m : MethodId) (args : Array Value) (below : List Frame) (meth : Method) (c : Code) (ls : Array Slot) (Q : State → Prop) (A : Nat → Prop), MQ below (xc_Qz D cl tys A w1 r) args s 0 0 A = Q → va_A wd sz = A → (y.name = "<init>" → meth.name = "<init>") → xc_C p s m args meth c cc maxL own (some .boolean) D cl tys G A → s.heap.size = sz → va_P D cl wd s.heap → va_D A wd → va_S A s.heap s.heap [] → lv_has ls maxL (lv_args 0 av) → W p l e rm s m args below meth c s.heap [] 0 0 Q (F0 m 0 ls [])) :
    xm_z l y ws rm D cl tys G sz av wd w1 r :=
  xm_of hy hw hown hn (fun p e s m args below meth c ls h1 Cx h2 h3 h4 h5 h6 => body p e s m args below meth c ls _ _ rfl rfl h1 Cx h2 h3 h4 h5 h6)
theorem xm_of_l {l : Launch} {y : MethodName} {ws : List Cond} {rm : Room} {D : va_G} {cl : List vw_C} {tys : List (ClassId × FieldType)} {G : Nat → Nat} {sz : Nat} {av : List Value} {wd w1 : va_W} {r : Int64} {cc : ByteArray} {maxL : Nat} {own : String}
    (hy : plainName y.cls = true) (hw : ws = Cond.code y cc maxL (some .long) :: xg_tbl) (hown : y.cls = own) (hn : (lg_sl av).length ≤ maxL)
    (body : ∀ (p : Program) (e : Env) (s : State) (m : MethodId) (args : Array Value) (below : List Frame) (meth : Method) (c : Code) (ls : Array Slot) (Q : State → Prop) (A : Nat → Prop), MQ below (xc_Ql D cl tys A w1 r) args s 0 0 A = Q → va_A wd sz = A → (y.name = "<init>" → meth.name = "<init>") → xc_C p s m args meth c cc maxL own (some .long) D cl tys G A → s.heap.size = sz → va_P D cl wd s.heap → va_D A wd → va_S A s.heap s.heap [] → lv_has ls maxL (lv_args 0 av) → W p l e rm s m args below meth c s.heap [] 0 0 Q (F0 m 0 ls [])) :
    xm_l l y ws rm D cl tys G sz av wd w1 r :=
  xm_of hy hw hown hn (fun p e s m args below meth c ls h1 Cx h2 h3 h4 h5 h6 => body p e s m args below meth c ls _ _ rfl rfl h1 Cx h2 h3 h4 h5 h6)
theorem xm_of_v {l : Launch} {y : MethodName} {ws : List Cond} {rm : Room} {D : va_G} {cl : List vw_C} {tys : List (ClassId × FieldType)} {G : Nat → Nat} {sz : Nat} {av : List Value} {wd w1 : va_W} {cc : ByteArray} {maxL : Nat} {own : String}
    (hy : plainName y.cls = true) (hw : ws = Cond.code y cc maxL none :: xg_tbl) (hown : y.cls = own) (hn : (lg_sl av).length ≤ maxL)
    (body : ∀ (p : Program) (e : Env) (s : State) (m : MethodId) (args : Array Value) (below : List Frame) (meth : Method) (c : Code) (ls : Array Slot) (Q : State → Prop) (A : Nat → Prop), MQ below (xc_Qv D cl tys A w1) args s 0 0 A = Q → va_A wd sz = A → (y.name = "<init>" → meth.name = "<init>") → xc_C p s m args meth c cc maxL own none D cl tys G A → s.heap.size = sz → va_P D cl wd s.heap → va_D A wd → va_S A s.heap s.heap [] → lv_has ls maxL (lv_args 0 av) → W p l e rm s m args below meth c s.heap [] 0 0 Q (F0 m 0 ls [])) :
    xm_v l y ws rm D cl tys G sz av wd w1 :=
  xm_of hy hw hown hn (fun p e s m args below meth c ls h1 Cx h2 h3 h4 h5 h6 => body p e s m args below meth c ls _ _ rfl rfl h1 Cx h2 h3 h4 h5 h6)
section XC
variable {p : Program} {l : Launch} {e : Env} {R : Room} {s : State} {m : MethodId} {args : Array Value} {below : List Frame} {meth : Method} {c : Code} {H : Heap} {locs : List Loc} {cells slots : Nat} {Q : State → Prop}
variable {cc cb : ByteArray} {nL maxL pc n index : Nat} {own C : String} {D : va_G} {cl : List vw_C} {tys : List (ClassId × FieldType)} {G : Nat → Nat} {A : Nat → Prop} {ws wc w1 ws1 : va_W} {ls : Array Slot} {st rest As : List Value} {y : MethodName} {rm : Room} {b ci q0 : Nat} {fs : List Value} {kq : vw_C} {ret rt : Option FieldType} {lv0 : List (Nat × Value)}
theorem xe_iret {v r : Int32} (Cx : xc_C p s m args meth c cc nL own (some .int) D cl tys G A) (hv : v = r) (hP : va_P D cl w1 H) (hD : va_D A w1) (hS : va_S A s.heap H locs) (hdg : decode cc pc = .ok (.ireturn, 1)) : W p l e R s m args below meth c H locs cells slots (MQ below (xc_Qi D cl tys A w1 r) args s cells slots A) (F0 m pc ls [.int v]) := by
  obtain ⟨⟨hx, hb, hml, hown, hts⟩, hr, hlocks, hK, hA, hT⟩ := Cx
  exact W.iret hx hb hr (fun t ht hW => ⟨⟨v, (), rfl, hv, by rw [ht]; exact hP, va_K.moved hW.alike hK, hD⟩, hS.F ht⟩) hS.2.2 hdg hlocks
theorem xe_zret {v r : Int32} (Cx : xc_C p s m args meth c cc nL own (some .boolean) D cl tys G A) (hv : v = r) (hn : narrow .boolean (.int v) = .int v) (hP : va_P D cl w1 H) (hD : va_D A w1) (hS : va_S A s.heap H locs) (hdg : decode cc pc = .ok (.ireturn, 1)) : W p l e R s m args below meth c H locs cells slots (MQ below (xc_Qz D cl tys A w1 r) args s cells slots A) (F0 m pc ls [.int v]) := by
  obtain ⟨⟨hx, hb, hml, hown, hts⟩, hr, hlocks, hK, hA, hT⟩ := Cx
  exact W.zret hx hb hr hn (fun t ht hW => ⟨⟨v, (), rfl, ⟨hv, hv ▸ hn⟩, by rw [ht]; exact hP, va_K.moved hW.alike hK, hD⟩, hS.F ht⟩) hS.2.2 hdg hlocks
theorem xe_lret {v r : Int64} (Cx : xc_C p s m args meth c cc nL own (some .long) D cl tys G A) (hv : v = r) (hP : va_P D cl w1 H) (hD : va_D A w1) (hS : va_S A s.heap H locs) (hdg : decode cc pc = .ok (.lreturn, 1)) : W p l e R s m args below meth c H locs cells slots (MQ below (xc_Ql D cl tys A w1 r) args s cells slots A) (F0 m pc ls [.long v]) := by
  obtain ⟨⟨hx, hb, hml, hown, hts⟩, hr, hlocks, hK, hA, hT⟩ := Cx
  exact W.lret hx hb hr (fun t ht hW => ⟨⟨v, (), rfl, hv, by rw [ht]; exact hP, va_K.moved hW.alike hK, hD⟩, hS.F ht⟩) hS.2.2 hdg hlocks
theorem xe_vret (Cx : xc_C p s m args meth c cc nL own none D cl tys G A) (hP : va_P D cl w1 H) (hD : va_D A w1) (hS : va_S A s.heap H locs) (hdg : decode cc pc = .ok (.return_, 1)) : W p l e R s m args below meth c H locs cells slots (MQ below (xc_Qv D cl tys A w1) args s cells slots A) (F0 m pc ls []) := by
  obtain ⟨⟨hx, hb, hml, hown, hts⟩, hr, hlocks, hK, hA, hT⟩ := Cx
  exact W.vret hx hb hr (fun t ht hW => ⟨⟨(), rfl, trivial, by rw [ht]; exact hP, va_K.moved hW.alike hK, hD⟩, hS.F ht⟩) hS.2.2 hdg hlocks
/-- the worlds round a call -/
theorem xk_go {Qc : Array Value → State → Outcome → State → Prop} {P : Prop} (Cx : xc_C p s m args meth c cc nL own rt D cl tys G A) (hP : va_P D cl ws H) (hD : va_D A ws) (hS : va_S A s.heap H locs) (hl : xq_Pl ws wc w1 ws1)
    (k : va_P D cl wc H → (∀ q, va_A wc H.size q → A q) → (∀ U : State, U.heap = H → s.WarmedH U.vm → xc_Pre D cl tys G wc H.size U) → (∀ (t : State) (H1 : Heap), t.heap = H1 → xc_Post D cl tys (va_A wc H.size) w1 t → (∀ q : Nat, q < H.size → ¬ va_A wc H.size q → H1[q]? = H[q]?) → va_P D cl ws1 H1 ∧ va_D A ws1) → P) : P := by
  obtain ⟨⟨hx, hb, hml, hown, hts⟩, hr, hlocks, hK, hA, hT⟩ := Cx
  obtain ⟨wr, isC, isR, isB, e1, e2, n1, n2, n3, e3, n4⟩ := hl
  have hPc := xq_pick hP isC e1
  have hDc := hD.sub isC n1 e1
  have hFc := va_free hD hS hA isC e1
  refine k hPc hFc (fun U hU hW => ⟨by rw [hU], by rw [hU]; exact hPc, va_K.moved hW.alike hK, hDc.weaken (fun _ _ _ _ => trivial), ?_⟩) (fun t H1 ht hB hk1 => ?_)
  · rw [hU]
    exact ((hT.kept (fun a h1 h2 => hS.2.1 a h1 h2)).narrow hFc).moved hW.alike
  · obtain ⟨hP1, hK1, hD1⟩ := hB
    rw [ht] at hP1
    obtain ⟨hP2, hD2⟩ := va_join hP hD isC isR e1 e2 n2 n3 hk1 hFc hP1 hD1
    exact ⟨xq_pick hP2 isB e3, hD2.sub isB n4 e3⟩
theorem xk_blind {av : List Value} {ws : va_W} {sz : Nat} : FrameBlind (va_Pc av (xc_Pre D cl tys G ws sz)) := fun a U g mk q => by
  obtain ⟨q1, q2, q3, q4, q5, q6⟩ := q
  exact ⟨q1, q2, q3, va_K.moved (u := U) (U := U.calling g mk a) (Vm.Alike.refl U.vm) q4, q5, xs_T.moved (u := U) (U := U.calling g mk a) (Vm.Alike.refl U.vm) q6⟩
theorem xk_fits (hc : cells ≤ R.cells ∧ slots ≤ R.slots) : cells + 0 ≤ R.cells ∧ slots + 0 ≤ R.slots := hc
/-- what a callee asks of the tables, once a method -/
def xk_V (C : String) (y : MethodName) (cb : ByteArray) (maxL : Nat) (ret : Option FieldType) (n : Nat) : Prop := Cond.instanceMethod y ∈ xg_tbl ∧ Cond.selects C y y ∈ xg_tbl ∧ Cond.initialized C ∈ xg_tbl ∧ Cond.code y cb maxL ret ∈ xg_tbl ∧ (y.cls = C ∧ y.cls ≠ "java/lang/invoke/MethodHandle" ∧ y.cls ≠ "java/lang/invoke/VarHandle" ∧ (parseMethodDescriptor y.desc).map (fun d => d.parameters.length) = some n)
def xk_S (y : MethodName) (cb : ByteArray) (maxL : Nat) (ret : Option FieldType) (n : Nat) : Prop := Cond.static y ∈ xg_tbl ∧ Cond.initialized y.cls ∈ xg_tbl ∧ Cond.code y cb maxL ret ∈ xg_tbl ∧ (y.cls ≠ "java/lang/invoke/MethodHandle" ∧ y.cls ≠ "java/lang/invoke/VarHandle" ∧ (parseMethodDescriptor y.desc).map (fun d => d.parameters.length) = some n)
theorem xv_i {r : Int32} (Cx : xc_C p s m args meth c cc nL own rt D cl tys G A) (hP : va_P D cl ws H) (hD : va_D A ws) (hS : va_S A s.heap H locs) (hv : lv_has ls nL lv0) (hl : xq_Pl ws wc w1 ws1) (hM : xm_i l y (Cond.code y cb maxL ret :: xg_tbl) rm D cl tys G H.size (.ref b :: As) wc w1 r)
    (hV : xk_V C y cb maxL ret n) (hlink : Cond.methodLink own index y ∈ xg_tbl) (hrm : rm.cells = 0 ∧ rm.slots = 0 ∧ rm.frames + 1 ≤ R.frames ∧ 8 + (maxL + 11) + rm.locals ≤ R.locals) (he : wc[q0]? = some (b, .inr (ci, fs))) (hci : cl[ci]? = some kq) (hq : kq.1 = C) (hn : As.length = n) (hst : st = As.reverse ++ .ref b :: rest) (hW : (rest.map fun v => v.category).sum ≤ 8) (hc : cells ≤ R.cells ∧ slots ≤ R.slots) (hdg : decode cc pc = .ok (.invokevirtual index, 3))
    (kk : ∀ (H1 : Heap) (locs1 : List Loc), va_P D cl ws1 H1 → va_D A ws1 → va_S A s.heap H1 locs1 → W p l e R s m args below meth c H1 locs1 cells slots Q (F0 m (pc + 3) ls (.int r :: rest))) : W p l e R s m args below meth c H locs cells slots Q (F0 m pc ls st) := by
  subst hst
  refine xk_go (Qc := fun _ _ _ _ => True) Cx hP hD hS hl (fun hPc hFc hpre hjoin => ?_)
  have Cx' := Cx
  obtain ⟨hC, hr, hlocks, hK, hA, hT⟩ := Cx'
  refine va_calli (va_runV (C := C) hC hM (cwV n hC.2.2.2.2 (xg_V hlink hV.1 hV.2.1 hV.2.2.1 hV.2.2.2.1) rfl hrm.1 hrm.2.1 hV.2.2.2.2 hrm.2.2) ⟨xk_blind, hq ▸ va_recv hK hPc hci he, fun U hU hW => ⟨rfl, hpre U hU hW⟩⟩ rfl hn hv.1 rfl (lv_room hW) hdg (xk_fits hc)) hS (fun q _ h => hFc q h) hFc (fun r' u t H1 locs1 ht hvm hw hB hz1 hk1 hS1 => ?_)
  subst hw
  obtain ⟨h1, h2⟩ := hjoin t H1 ht hB hk1
  exact kk H1 locs1 h1 h2 hS1
theorem xv_z {r : Int32} (Cx : xc_C p s m args meth c cc nL own rt D cl tys G A) (hP : va_P D cl ws H) (hD : va_D A ws) (hS : va_S A s.heap H locs) (hv : lv_has ls nL lv0) (hl : xq_Pl ws wc w1 ws1) (hM : xm_z l y (Cond.code y cb maxL ret :: xg_tbl) rm D cl tys G H.size (.ref b :: As) wc w1 r)
    (hV : xk_V C y cb maxL ret n) (hlink : Cond.methodLink own index y ∈ xg_tbl) (hrm : rm.cells = 0 ∧ rm.slots = 0 ∧ rm.frames + 1 ≤ R.frames ∧ 8 + (maxL + 11) + rm.locals ≤ R.locals) (he : wc[q0]? = some (b, .inr (ci, fs))) (hci : cl[ci]? = some kq) (hq : kq.1 = C) (hn : As.length = n) (hst : st = As.reverse ++ .ref b :: rest) (hW : (rest.map fun v => v.category).sum ≤ 8) (hc : cells ≤ R.cells ∧ slots ≤ R.slots) (hdg : decode cc pc = .ok (.invokevirtual index, 3))
    (kk : ∀ (H1 : Heap) (locs1 : List Loc), narrow .boolean (.int r) = .int r → va_P D cl ws1 H1 → va_D A ws1 → va_S A s.heap H1 locs1 → W p l e R s m args below meth c H1 locs1 cells slots Q (F0 m (pc + 3) ls (.int r :: rest))) : W p l e R s m args below meth c H locs cells slots Q (F0 m pc ls st) := by
  subst hst
  refine xk_go (Qc := fun _ _ _ _ => True) Cx hP hD hS hl (fun hPc hFc hpre hjoin => ?_)
  have Cx' := Cx
  obtain ⟨hC, hr, hlocks, hK, hA, hT⟩ := Cx'
  refine va_calli (va_runV (C := C) hC hM (cwV n hC.2.2.2.2 (xg_V hlink hV.1 hV.2.1 hV.2.2.1 hV.2.2.2.1) rfl hrm.1 hrm.2.1 hV.2.2.2.2 hrm.2.2) ⟨xk_blind, hq ▸ va_recv hK hPc hci he, fun U hU hW => ⟨rfl, hpre U hU hW⟩⟩ rfl hn hv.1 rfl (lv_room hW) hdg (xk_fits hc)) hS (fun q _ h => hFc q h) hFc (fun r' u t H1 locs1 ht hvm hw hB hz1 hk1 hS1 => ?_)
  obtain ⟨rfl, hnar⟩ := hw
  obtain ⟨h1, h2⟩ := hjoin t H1 ht hB hk1
  exact kk H1 locs1 hnar h1 h2 hS1
theorem xv_l {r : Int64} (Cx : xc_C p s m args meth c cc nL own rt D cl tys G A) (hP : va_P D cl ws H) (hD : va_D A ws) (hS : va_S A s.heap H locs) (hv : lv_has ls nL lv0) (hl : xq_Pl ws wc w1 ws1) (hM : xm_l l y (Cond.code y cb maxL ret :: xg_tbl) rm D cl tys G H.size (.ref b :: As) wc w1 r)
    (hV : xk_V C y cb maxL ret n) (hlink : Cond.methodLink own index y ∈ xg_tbl) (hrm : rm.cells = 0 ∧ rm.slots = 0 ∧ rm.frames + 1 ≤ R.frames ∧ 8 + (maxL + 11) + rm.locals ≤ R.locals) (he : wc[q0]? = some (b, .inr (ci, fs))) (hci : cl[ci]? = some kq) (hq : kq.1 = C) (hn : As.length = n) (hst : st = As.reverse ++ .ref b :: rest) (hW : (rest.map fun v => v.category).sum ≤ 8) (hc : cells ≤ R.cells ∧ slots ≤ R.slots) (hdg : decode cc pc = .ok (.invokevirtual index, 3))
    (kk : ∀ (H1 : Heap) (locs1 : List Loc), va_P D cl ws1 H1 → va_D A ws1 → va_S A s.heap H1 locs1 → W p l e R s m args below meth c H1 locs1 cells slots Q (F0 m (pc + 3) ls (.long r :: rest))) : W p l e R s m args below meth c H locs cells slots Q (F0 m pc ls st) := by
  subst hst
  refine xk_go (Qc := fun _ _ _ _ => True) Cx hP hD hS hl (fun hPc hFc hpre hjoin => ?_)
  have Cx' := Cx
  obtain ⟨hC, hr, hlocks, hK, hA, hT⟩ := Cx'
  refine va_calll (va_runV (C := C) hC hM (cwV n hC.2.2.2.2 (xg_V hlink hV.1 hV.2.1 hV.2.2.1 hV.2.2.2.1) rfl hrm.1 hrm.2.1 hV.2.2.2.2 hrm.2.2) ⟨xk_blind, hq ▸ va_recv hK hPc hci he, fun U hU hW => ⟨rfl, hpre U hU hW⟩⟩ rfl hn hv.1 rfl (lv_room hW) hdg (xk_fits hc)) hS (fun q _ h => hFc q h) hFc (fun r' u t H1 locs1 ht hvm hw hB hz1 hk1 hS1 => ?_)
  subst hw
  obtain ⟨h1, h2⟩ := hjoin t H1 ht hB hk1
  exact kk H1 locs1 h1 h2 hS1
theorem xv_v (Cx : xc_C p s m args meth c cc nL own rt D cl tys G A) (hP : va_P D cl ws H) (hD : va_D A ws) (hS : va_S A s.heap H locs) (hv : lv_has ls nL lv0) (hl : xq_Pl ws wc w1 ws1) (hM : xm_v l y (Cond.code y cb maxL ret :: xg_tbl) rm D cl tys G H.size (.ref b :: As) wc w1)
    (hV : xk_V C y cb maxL ret n) (hlink : Cond.methodLink own index y ∈ xg_tbl) (hrm : rm.cells = 0 ∧ rm.slots = 0 ∧ rm.frames + 1 ≤ R.frames ∧ 8 + (maxL + 11) + rm.locals ≤ R.locals) (he : wc[q0]? = some (b, .inr (ci, fs))) (hci : cl[ci]? = some kq) (hq : kq.1 = C) (hn : As.length = n) (hst : st = As.reverse ++ .ref b :: rest) (hW : (rest.map fun v => v.category).sum ≤ 8) (hc : cells ≤ R.cells ∧ slots ≤ R.slots) (hdg : decode cc pc = .ok (.invokevirtual index, 3))
    (kk : ∀ (H1 : Heap) (locs1 : List Loc), va_P D cl ws1 H1 → va_D A ws1 → va_S A s.heap H1 locs1 → W p l e R s m args below meth c H1 locs1 cells slots Q (F0 m (pc + 3) ls rest)) : W p l e R s m args below meth c H locs cells slots Q (F0 m pc ls st) := by
  subst hst
  refine xk_go (Qc := fun _ _ _ _ => True) Cx hP hD hS hl (fun hPc hFc hpre hjoin => ?_)
  have Cx' := Cx
  obtain ⟨hC, hr, hlocks, hK, hA, hT⟩ := Cx'
  refine va_callv (va_runV (C := C) hC hM (cwV n hC.2.2.2.2 (xg_V hlink hV.1 hV.2.1 hV.2.2.1 hV.2.2.2.1) rfl hrm.1 hrm.2.1 hV.2.2.2.2 hrm.2.2) ⟨xk_blind, hq ▸ va_recv hK hPc hci he, fun U hU hW => ⟨rfl, hpre U hU hW⟩⟩ rfl hn hv.1 rfl (lv_room hW) hdg (xk_fits hc)) hS (fun q _ h => hFc q h) hFc (fun u t H1 locs1 ht hvm hw hB hz1 hk1 hS1 => ?_)
  obtain ⟨h1, h2⟩ := hjoin t H1 ht hB hk1
  exact kk H1 locs1 h1 h2 hS1
theorem xw_i {r : Int32} (Cx : xc_C p s m args meth c cc nL own rt D cl tys G A) (hP : va_P D cl ws H) (hD : va_D A ws) (hS : va_S A s.heap H locs) (hv : lv_has ls nL lv0) (hl : xq_Pl ws wc w1 ws1) (hM : xm_i l y (Cond.code y cb maxL ret :: xg_tbl) rm D cl tys G H.size As wc w1 r)
    (hV : xk_S y cb maxL ret n) (hlink : Cond.methodLink own index y ∈ xg_tbl) (hrm : rm.cells = 0 ∧ rm.slots = 0 ∧ rm.frames + 1 ≤ R.frames ∧ 8 + (maxL + 11) + rm.locals ≤ R.locals) (hn : As.length = n) (hst : st = As.reverse ++ rest) (hW : (rest.map fun v => v.category).sum ≤ 8) (hc : cells ≤ R.cells ∧ slots ≤ R.slots) (hdg : decode cc pc = .ok (.invokestatic index, 3))
    (kk : ∀ (H1 : Heap) (locs1 : List Loc), va_P D cl ws1 H1 → va_D A ws1 → va_S A s.heap H1 locs1 → W p l e R s m args below meth c H1 locs1 cells slots Q (F0 m (pc + 3) ls (.int r :: rest))) : W p l e R s m args below meth c H locs cells slots Q (F0 m pc ls st) := by
  subst hst
  refine xk_go (Qc := fun _ _ _ _ => True) Cx hP hD hS hl (fun hPc hFc hpre hjoin => ?_)
  have Cx' := Cx
  obtain ⟨hC, hr, hlocks, hK, hA, hT⟩ := Cx'
  refine va_calli (va_runS hC hM (va_cwS n hC.2.2.2.2 (xg_S hlink hV.1 hV.2.1 hV.2.2.1) rfl hrm.1 hrm.2.1 hV.2.2.2 hrm.2.2) ⟨xk_blind, fun U hU hW => ⟨rfl, hpre U hU hW⟩⟩ rfl hn hv.1 rfl (lv_room hW) hdg (xk_fits hc)) hS (fun q _ h => hFc q h) hFc (fun r' u t H1 locs1 ht hvm hw hB hz1 hk1 hS1 => ?_)
  subst hw
  obtain ⟨h1, h2⟩ := hjoin t H1 ht hB hk1
  exact kk H1 locs1 h1 h2 hS1
theorem xw_z {r : Int32} (Cx : xc_C p s m args meth c cc nL own rt D cl tys G A) (hP : va_P D cl ws H) (hD : va_D A ws) (hS : va_S A s.heap H locs) (hv : lv_has ls nL lv0) (hl : xq_Pl ws wc w1 ws1) (hM : xm_z l y (Cond.code y cb maxL ret :: xg_tbl) rm D cl tys G H.size As wc w1 r)
    (hV : xk_S y cb maxL ret n) (hlink : Cond.methodLink own index y ∈ xg_tbl) (hrm : rm.cells = 0 ∧ rm.slots = 0 ∧ rm.frames + 1 ≤ R.frames ∧ 8 + (maxL + 11) + rm.locals ≤ R.locals) (hn : As.length = n) (hst : st = As.reverse ++ rest) (hW : (rest.map fun v => v.category).sum ≤ 8) (hc : cells ≤ R.cells ∧ slots ≤ R.slots) (hdg : decode cc pc = .ok (.invokestatic index, 3))
    (kk : ∀ (H1 : Heap) (locs1 : List Loc), narrow .boolean (.int r) = .int r → va_P D cl ws1 H1 → va_D A ws1 → va_S A s.heap H1 locs1 → W p l e R s m args below meth c H1 locs1 cells slots Q (F0 m (pc + 3) ls (.int r :: rest))) : W p l e R s m args below meth c H locs cells slots Q (F0 m pc ls st) := by
  subst hst
  refine xk_go (Qc := fun _ _ _ _ => True) Cx hP hD hS hl (fun hPc hFc hpre hjoin => ?_)
  have Cx' := Cx
  obtain ⟨hC, hr, hlocks, hK, hA, hT⟩ := Cx'
  refine va_calli (va_runS hC hM (va_cwS n hC.2.2.2.2 (xg_S hlink hV.1 hV.2.1 hV.2.2.1) rfl hrm.1 hrm.2.1 hV.2.2.2 hrm.2.2) ⟨xk_blind, fun U hU hW => ⟨rfl, hpre U hU hW⟩⟩ rfl hn hv.1 rfl (lv_room hW) hdg (xk_fits hc)) hS (fun q _ h => hFc q h) hFc (fun r' u t H1 locs1 ht hvm hw hB hz1 hk1 hS1 => ?_)
  obtain ⟨rfl, hnar⟩ := hw
  obtain ⟨h1, h2⟩ := hjoin t H1 ht hB hk1
  exact kk H1 locs1 hnar h1 h2 hS1
theorem xw_l {r : Int64} (Cx : xc_C p s m args meth c cc nL own rt D cl tys G A) (hP : va_P D cl ws H) (hD : va_D A ws) (hS : va_S A s.heap H locs) (hv : lv_has ls nL lv0) (hl : xq_Pl ws wc w1 ws1) (hM : xm_l l y (Cond.code y cb maxL ret :: xg_tbl) rm D cl tys G H.size As wc w1 r)
    (hV : xk_S y cb maxL ret n) (hlink : Cond.methodLink own index y ∈ xg_tbl) (hrm : rm.cells = 0 ∧ rm.slots = 0 ∧ rm.frames + 1 ≤ R.frames ∧ 8 + (maxL + 11) + rm.locals ≤ R.locals) (hn : As.length = n) (hst : st = As.reverse ++ rest) (hW : (rest.map fun v => v.category).sum ≤ 8) (hc : cells ≤ R.cells ∧ slots ≤ R.slots) (hdg : decode cc pc = .ok (.invokestatic index, 3))
    (kk : ∀ (H1 : Heap) (locs1 : List Loc), va_P D cl ws1 H1 → va_D A ws1 → va_S A s.heap H1 locs1 → W p l e R s m args below meth c H1 locs1 cells slots Q (F0 m (pc + 3) ls (.long r :: rest))) : W p l e R s m args below meth c H locs cells slots Q (F0 m pc ls st) := by
  subst hst
  refine xk_go (Qc := fun _ _ _ _ => True) Cx hP hD hS hl (fun hPc hFc hpre hjoin => ?_)
  have Cx' := Cx
  obtain ⟨hC, hr, hlocks, hK, hA, hT⟩ := Cx'
  refine va_calll (va_runS hC hM (va_cwS n hC.2.2.2.2 (xg_S hlink hV.1 hV.2.1 hV.2.2.1) rfl hrm.1 hrm.2.1 hV.2.2.2 hrm.2.2) ⟨xk_blind, fun U hU hW => ⟨rfl, hpre U hU hW⟩⟩ rfl hn hv.1 rfl (lv_room hW) hdg (xk_fits hc)) hS (fun q _ h => hFc q h) hFc (fun r' u t H1 locs1 ht hvm hw hB hz1 hk1 hS1 => ?_)
  subst hw
  obtain ⟨h1, h2⟩ := hjoin t H1 ht hB hk1
  exact kk H1 locs1 h1 h2 hS1
theorem xw_v (Cx : xc_C p s m args meth c cc nL own rt D cl tys G A) (hP : va_P D cl ws H) (hD : va_D A ws) (hS : va_S A s.heap H locs) (hv : lv_has ls nL lv0) (hl : xq_Pl ws wc w1 ws1) (hM : xm_v l y (Cond.code y cb maxL ret :: xg_tbl) rm D cl tys G H.size As wc w1)
    (hV : xk_S y cb maxL ret n) (hlink : Cond.methodLink own index y ∈ xg_tbl) (hrm : rm.cells = 0 ∧ rm.slots = 0 ∧ rm.frames + 1 ≤ R.frames ∧ 8 + (maxL + 11) + rm.locals ≤ R.locals) (hn : As.length = n) (hst : st = As.reverse ++ rest) (hW : (rest.map fun v => v.category).sum ≤ 8) (hc : cells ≤ R.cells ∧ slots ≤ R.slots) (hdg : decode cc pc = .ok (.invokestatic index, 3))
    (kk : ∀ (H1 : Heap) (locs1 : List Loc), va_P D cl ws1 H1 → va_D A ws1 → va_S A s.heap H1 locs1 → W p l e R s m args below meth c H1 locs1 cells slots Q (F0 m (pc + 3) ls rest)) : W p l e R s m args below meth c H locs cells slots Q (F0 m pc ls st) := by
  subst hst
  refine xk_go (Qc := fun _ _ _ _ => True) Cx hP hD hS hl (fun hPc hFc hpre hjoin => ?_)
  have Cx' := Cx
  obtain ⟨hC, hr, hlocks, hK, hA, hT⟩ := Cx'
  refine va_callv (va_runS hC hM (va_cwS n hC.2.2.2.2 (xg_S hlink hV.1 hV.2.1 hV.2.2.1) rfl hrm.1 hrm.2.1 hV.2.2.2 hrm.2.2) ⟨xk_blind, fun U hU hW => ⟨rfl, hpre U hU hW⟩⟩ rfl hn hv.1 rfl (lv_room hW) hdg (xk_fits hc)) hS (fun q _ h => hFc q h) hFc (fun u t H1 locs1 ht hvm hw hB hz1 hk1 hS1 => ?_)
  obtain ⟨h1, h2⟩ := hjoin t H1 ht hB hk1
  exact kk H1 locs1 h1 h2 hS1
end XC
