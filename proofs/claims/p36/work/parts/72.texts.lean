/-! texts of the world and of the pool; the class's state in one value; the text of a sum -/
abbrev sbc (a b : Nat) (ml : Int32) (k : Nat) : Nat × va_E := (a, .inr (11, [.ref b, .int (0 : Int32), .int ml, .int (nI k)]))
abbrev byc (cyB : ClassId) (b N : Nat) (f : Nat → Int32) : Nat × va_E := (b, .inl (cyB, N, .inl f))
abbrev stc (a v : Nat) : Nat × va_E := (a, .inr (10, [.ref v, .int (0 : Int32), .int (0 : Int32), .int (0 : Int32)]))
def tf (T : List Nat) : Nat → Int32 := fun j => sb_b (T.getD j 0)
theorem tf_fit (T : List Nat) : sb_Fit (tf T) := fun j => sb_fitB _
def blOK (N : Nat) (f : Nat → Int32) (T : List Nat) : Prop := T.length ≤ N ∧ N ≤ 242 ∧ sb_Fit f ∧ ∀ j, j < T.length → f j = tf T j
theorem blOK_0 : blOK 16 (fun _ => (0 : Int32)) [] := ⟨by decide, by decide, sb_fit0, fun j hj => absurd hj (Nat.not_lt_zero j)⟩
theorem blOK_app {f g : Nat → Int32} {N N' : Nat} {T T1 : List Nat} (h : blOK N f T) (h1 : T.length + T1.length ≤ N') (h2 : N' ≤ 242) (h3 : sb_Fit g) (h4 : ∀ j, j < T.length → g j = f j) (h5 : ∀ j, j < T1.length → g (T.length + j) = tf T1 j) : blOK N' g (T ++ T1) := by
  refine ⟨by rw [List.length_append]; exact h1, h2, h3, fun j hj => ?_⟩
  rw [List.length_append] at hj
  unfold tf at h5 ⊢
  by_cases c : j < T.length
  · rw [h4 j c, h.2.2.2 j c]
    unfold tf
    simp [List.getD, List.getElem?_append_left c]
  · obtain ⟨i, rfl⟩ : ∃ i, j = T.length + i := ⟨j - T.length, by omega⟩
    rw [h5 i (by omega)]
    simp [List.getD, List.getElem?_append_right]
theorem y_ZSw {D : va_G} {cyI cyJ cyB cyQ : ClassId} {s : State} {args : Array Value} {H : Heap} {ws : va_W} {B : Nat → Prop} (hts : ∀ w ∈ xg_tbl, w.before args s = true) (hK : va_K D xcl (ytys cyI cyJ cyB cyQ) s) (hP : va_P D xcl ws H) {a v n : Nat} {f : Nat → Int32} (h1 : stc a v ∈ ws) (h2 : byc cyB v n f ∈ ws) (ha : ¬ B a) (hv : ¬ B v) : ZS a v n f B s H := by
  obtain ⟨i, hi⟩ := List.getElem?_of_mem h1
  obtain ⟨j, hj⟩ := List.getElem?_of_mem h2
  obtain ⟨r, hr, cell, q1, q2, q3, q4⟩ := hP i _ hi
  have er : r = (RJ0, TJ0, 4) := Option.some.inj (hr.symm.trans rfl)
  subst er
  obtain ⟨hS, hfc, kC, hkC, hkind⟩ := hK.1 10 _ rfl
  have fld : ∀ (k : Nat) (hk : k < 4) (x : Value), vp_V [.ref v, .int (0 : Int32), .int (0 : Int32), .int (0 : Int32)] k = x → va_OF (TJ0 k).1 (TJ0 k).2.1 (TJ0 k).2.2.1 x a B s H := by
    intro k hk x hx
    obtain ⟨cf, kf, fi, f0, hi0, hsl⟩ := hS k hk
    exact ⟨cf, kf, fi, f0, cell, hi0, (u_facts hfc hkC (u_lays hts wJ0_in hk) hi0).1, q1, by rw [q3]; exact (fun h => by cases h), by rw [hsl, q4 k hk, hx], ha⟩
  exact ⟨⟨cell, q1, by rw [q3]; rfl, by rw [q2]; exact hfc, ha⟩, fld 1 (by decide) _ rfl, fld 0 (by decide) _ rfl, y_T hK hP j 2 hj rfl hv⟩
/-- the pool's texts -/
def kx : List Nat := [58, 74, 82, 87, 89, 91]
def kt : List String := ["", "-", "+", "[", "]", "0["]
def kT : List (List Nat) := [[], [45], [43], [91], [93], [48, 91]]
def ZK (kk kv : Nat → Nat) : yZ := fun A U H => ∀ i, i < 6 → ZS (kk i) (kv i) (kT.getD i []).length (tf (kT.getD i [])) A U H ∧ vk_R RL (kx.getD i 0) (kt.getD i "") (kk i) U
theorem fz_ZK (kk kv : Nat → Nat) : fz (ZK kk kv) :=
  ⟨fun A u U H q h i hi => ⟨(fz_ZS _ _ _ _).1 A u U H q (h i hi).1, by
    rcases q with q | q
    · exact (h i hi).2.warm q
    · exact (h i hi).2.same q⟩, fun A u H H1 q h i hi => ⟨(fz_ZS _ _ _ _).2.1 A u H H1 q (h i hi).1, (h i hi).2⟩, fun A B u H q h i hi => ⟨(fz_ZS _ _ _ _).2.2 A B u H q (h i hi).1, (h i hi).2⟩⟩
/-- a text: the pool's empty one, or one of the world's -/
def SOK (cyB : ClassId) (E : va_W) (e0 a : Nat) (T : List Nat) : Prop := (a = e0 ∧ T = []) ∨ ∃ v, stc a v ∈ E ∧ byc cyB v T.length (tf T) ∈ E
theorem SOK.more {cyB : ClassId} {E : va_W} {e0 a : Nat} {T : List Nat} (h : SOK cyB E e0 a T) (E1 : va_W) : SOK cyB (E1 ++ E) e0 a T := by
  rcases h with h | ⟨v, h1, h2⟩
  · exact Or.inl h
  · exact Or.inr ⟨v, List.mem_append_right _ h1, List.mem_append_right _ h2⟩
theorem va_A_front {D : va_G} {cl : List vw_C} {A : Nat → Prop} {wc E : va_W} {H H0 : Heap} {locs : List Loc} (hD : va_D A (wc ++ E)) (hS : va_S A H0 H locs) (hA : ∀ q, H0.size ≤ q → A q) : ∀ q, va_A wc H.size q → A q := by
  intro q h
  rcases h with ⟨k, e, h⟩ | h
  · exact (y_D_iff.mp hD).2 (q, e) (List.mem_append_left _ (List.mem_of_getElem? h))
  · exact hA q (Nat.le_trans hS.1 h)
theorem va_A_tail {D : va_G} {cl : List vw_C} {A : Nat → Prop} {wc E : va_W} {H : Heap} (hP : va_P D cl (wc ++ E) H) (hD : va_D A (wc ++ E)) {x : Nat × va_E} (hx : x ∈ E) : ¬ va_A wc H.size x.1 := by
  intro h
  rcases h with ⟨k, e, h⟩ | h
  · have hd := (y_D_iff.mp hD).1
    rw [List.map_append, List.nodup_append] at hd
    exact hd.2.2 x.1 (List.mem_map.mpr ⟨(x.1, e), List.mem_of_getElem? h, rfl⟩) x.1 (List.mem_map_of_mem hx) rfl
  · obtain ⟨i, hi⟩ := List.getElem?_of_mem (List.mem_append_right wc hx)
    have := (hP i x hi).lt
    omega
theorem sok_give {D : va_G} {cyI cyJ cyB cyQ : ClassId} {s : State} {args : Array Value} {H H0 : Heap} {A : Nat → Prop} {wc C E : va_W} {locs : List Loc} {e0 v0 a : Nat} {T : List Nat} (hts : ∀ w ∈ xg_tbl, w.before args s = true) (hK : va_K D xcl (ytys cyI cyJ cyB cyQ) s) (hP : va_P D xcl (wc ++ (C ++ E)) H) (hD : va_D A (wc ++ (C ++ E))) (hS : va_S A H0 H locs) (hA : ∀ q, H0.size ≤ q → A q) (hk : ZS e0 v0 0 (tf []) A s H0) (h : SOK cyB E e0 a T) : ∃ v, ZS a v T.length (tf T) (va_A wc H.size) s H := by
  rcases h with ⟨rfl, rfl⟩ | ⟨v, h1, h2⟩
  · exact ⟨v0, fz_give (fz_ZS _ _ _ _) hk hS (va_A_front (D := D) (cl := xcl) hD hS hA)⟩
  · exact ⟨v, y_ZSw hts hK hP (List.mem_append_right _ (List.mem_append_right _ h1)) (List.mem_append_right _ (List.mem_append_right _ h2)) (va_A_tail hP hD (List.mem_append_right _ h1)) (va_A_tail hP hD (List.mem_append_right _ h2))⟩
theorem yb_str {D : va_G} {cyB : ClassId} {H : Heap} {A : Nat → Prop} {C E : va_W} {a b N q v : Nat} {ml : Int32} {f f' : Nat → Int32} {T : List Nat} (hP : va_P D xcl ([sbc a b ml T.length, byc cyB b N f, stc q v, byc cyB v T.length f'] ++ (C ++ E)) H) (hD : va_D A ([sbc a b ml T.length, byc cyB b N f, stc q v, byc cyB v T.length f'] ++ (C ++ E))) (hB : blOK N f T) (hf : ∀ j, j < T.length → f' j = f j) : va_P D xcl (C ++ ([stc q v, byc cyB v T.length (tf T)] ++ E)) H ∧ va_D A (C ++ ([stc q v, byc cyB v T.length (tf T)] ++ E)) := by
  obtain ⟨h1, h2⟩ := y_ext hP hD 3 (tf T) rfl (fun j hj => (hf j hj).trans (hB.2.2.2 j hj))
  have h3 := y_sub h1 h2 (ws' := [stc q v, byc cyB v T.length (tf T)] ++ (C ++ E)) (List.Sublist.cons _ (List.Sublist.cons _ (List.Sublist.refl _)))
  exact y_perm h3.1 h3.2 (List.perm_append_comm_assoc _ _ _)
/-! the class's state -/
abbrev CS : Type := (Nat → Int32) × (Nat → Int32) × (Nat → Int32) × (Nat → Int32) × (Nat → Int32) × Int32 × Int32 × Int32 × (Nat → Int64) × (Nat → Int32) × Int32 × Int32 × Int32 × (Nat → Int32) × (Nat → Int32)
def wdS (a : Nat → Nat) (cyI cyJ : ClassId) (σ : CS) : va_W := wd_X9 a cyI cyJ σ.1 tz_R tz_L tz_S tz_T tz_O tz_H tz_F tz_E tz_C σ.2.1 σ.2.2.1 σ.2.2.2.1 σ.2.2.2.2.1 σ.2.2.2.2.2.1 σ.2.2.2.2.2.2.1 σ.2.2.2.2.2.2.2.1 σ.2.2.2.2.2.2.2.2.1 σ.2.2.2.2.2.2.2.2.2.1 σ.2.2.2.2.2.2.2.2.2.2.1 σ.2.2.2.2.2.2.2.2.2.2.2.1 σ.2.2.2.2.2.2.2.2.2.2.2.2.1 σ.2.2.2.2.2.2.2.2.2.2.2.2.2.1 σ.2.2.2.2.2.2.2.2.2.2.2.2.2.2
/-- the number of three shapes (by their places) of a size, in the class's arithmetic -/
def nuT (n i j k : Nat) (p : Nat) : Int64 := (tz_O (qz_D n + p)).toInt64 * (tz_C (22 * (qz_D n + i) + p)).toInt64 * (tz_C (22 * (qz_D n + j) + p)).toInt64 * (tz_C (22 * (qz_D n + k) + p)).toInt64
def nuS (n i j k : Nat) : Nat → Int64
  | 0 => 0
  | p + 1 => nuS n i j k p + nuT n i j k p
def nuV (n i j k : Nat) : Int32 := (nuS n i j k (qz_N n) / (xi_FACTORIALS n).toInt64).toInt32
def qidx (n h m l : Nat) : Nat := [0, 1, 2, 6, 16, 51, 135, 421, 1101].getD n 0 + h * (h + 1) * (h + 2) / 6 + m * (m + 1) / 2 + l
def Kn (known : Nat → Int32) : Prop := ∀ n, n < 9 → ∀ h, h < qz_N n → ∀ m, m ≤ h → ∀ l, l ≤ m → known (qidx n h m l) = 0 ∨ known (qidx n h m l) = nuV n h m l + 1
/-- what a sum holds: nothing, or coefficients by places of a size -/
abbrev SV : Type := Option (Nat × (Nat → Int32))
def Rsm (sizes coefs : Nat → Int32) (s : Nat) : SV → Prop
  | none => sizes s = -1 ∧ ∀ p, p < 22 → coefs (22 * s + p) = 0
  | some q => q.1 < 9 ∧ sizes s = nI q.1 ∧ (∀ p, p < 22 → coefs (22 * s + p) = q.2 p) ∧ (∀ p, qz_N q.1 ≤ p → q.2 p = 0) ∧ ∀ p, -1000000 ≤ (q.2 p).toInt ∧ (q.2 p).toInt ≤ 1000000
def upS (S : Nat → SV) (s : Nat) (x : SV) : Nat → SV := fun j => if j = s then x else S j
def Rc (σ : CS) (S : Nat → SV) (L : List Nat) : Prop :=
  Kn σ.2.1 ∧ (∀ s, s < 4 → Rsm σ.2.2.1 σ.2.2.2.1 s (S s)) ∧ (∃ u next, u ≤ 8 ∧ next < 8 ∧ σ.2.2.2.2.2.1 = nI u ∧ σ.2.2.2.2.2.2.1 = nI next) ∧ σ.2.2.2.2.2.2.2.2.2.2.1 = nI L.length ∧ L.length ≤ 72 ∧ ∀ j, j < L.length → σ.2.2.2.2.2.2.2.2.2.1 j = nI (L.getD j 0)
/-! the text of a sum -/
def absN (x : Int32) : Nat := x.toInt.natAbs
def rwT (k : Nat) : List Nat := (List.range (sl k)).map (fun j => 48 + sc k j)
def sgT (T : List Nat) (x : Int32) : List Nat := if x < 0 then [45] else if T.length = 0 then [] else [43]
def tmT (T : List Nat) (x : Int32) (k : Nat) : List Nat := T ++ sgT T x ++ jdg (absN x) ++ [91] ++ rwT k ++ [93]
def txP (D0 : Nat) (f : Nat → Int32) : Nat → List Nat
  | 0 => []
  | k + 1 => if f k = 0 then txP D0 f k else tmT (txP D0 f k) (f k) (D0 + k)
def tmN (f : Nat → Int32) : Nat → Nat
  | 0 => 0
  | k + 1 => if f k = 0 then tmN f k else tmN f k + 1
def txF (n : Nat) (f : Nat → Int32) : List Nat := if tmN f (qz_N n) = 0 then [48, 91] ++ rwT (qz_D n) ++ [93] else txP (qz_D n) f (qz_N n)
def cutF (n : Nat) (f : Nat → Int32) : Nat → Int32 := fun p => if p < qz_N n then f p else 0
theorem abs_20 : ∀ z, z < 41 → absN (nI z - 20) ≤ 20 ∧ (if (0 : Int32) ≤ nI z - 20 then nI z - 20 else 0 - (nI z - 20)) = nI (absN (nI z - 20)) := by decide +kernel
theorem small_of {x : Int32} (h1 : -20 ≤ x.toInt) (h2 : x.toInt ≤ 20) : ∃ z, z < 41 ∧ x = nI z - 20 := by
  refine ⟨(x.toInt + 20).toNat, by omega, ?_⟩
  refine Int32.toInt_inj.mp ?_
  rw [Int32.toInt_sub, nI_toInt (by omega), Int.toNat_of_nonneg (by omega), show (20 : Int32).toInt = 20 by decide]
  rw [show x.toInt + 20 - 20 = x.toInt by omega]
  refine (Int.bmod_eq_of_le (by omega) (by omega)).symm
theorem abs_ok {x : Int32} (h1 : -20 ≤ x.toInt) (h2 : x.toInt ≤ 20) : absN x ≤ 20 ∧ (if (0 : Int32) ≤ x then x else 0 - x) = nI (absN x) := by
  obtain ⟨z, hz, rfl⟩ := small_of h1 h2
  exact abs_20 z hz
theorem jdg_le (x : Nat) : (jdg x).length ≤ 2 := by rw [jdg_len]; split <;> omega
theorem rwT_len (k : Nat) : (rwT k).length = sl k := by unfold rwT; simp
theorem sgT_le (T : List Nat) (x : Int32) : (sgT T x).length ≤ 1 := by
  unfold sgT
  split
  · exact Nat.le_refl _
  · split
    · exact Nat.zero_le _
    · exact Nat.le_refl _
theorem tmT_le (T : List Nat) (x : Int32) (k : Nat) (hk : sl k ≤ 8) : (tmT T x k).length ≤ T.length + 13 := by
  unfold tmT
  have h1 := jdg_le (absN x)
  have h2 := sgT_le T x
  simp only [List.length_append, rwT_len, List.length_singleton]
  omega
theorem txP_le (D0 : Nat) (f : Nat → Int32) : ∀ k, (∀ j, j < k → sl (D0 + j) ≤ 8) → (txP D0 f k).length ≤ 13 * tmN f k
  | 0, _ => Nat.le_refl _
  | k + 1, h => by
    have ih := txP_le D0 f k (fun j hj => h j (by omega))
    show (if f k = 0 then txP D0 f k else tmT (txP D0 f k) (f k) (D0 + k)).length ≤ 13 * (if f k = 0 then tmN f k else tmN f k + 1)
    by_cases c : f k = 0
    · rw [if_pos c, if_pos c]; exact ih
    · rw [if_neg c, if_neg c]
      have := tmT_le (txP D0 f k) (f k) (D0 + k) (h k (by omega))
      omega
theorem tmN_mono (f : Nat → Int32) : ∀ k d, tmN f k ≤ tmN f (k + d)
  | k, 0 => Nat.le_refl _
  | k, d + 1 => by
    refine Nat.le_trans (tmN_mono f k d) ?_
    show tmN f (k + d) ≤ if f (k + d) = 0 then tmN f (k + d) else tmN f (k + d) + 1
    split <;> omega
theorem tmN_le (f : Nat → Int32) : ∀ k, tmN f k ≤ k
  | 0 => Nat.le_refl _
  | k + 1 => by
    have := tmN_le f k
    show (if f k = 0 then tmN f k else tmN f k + 1) ≤ k + 1
    split <;> omega
