/-! rims of the model -/
theorem ag_tk47 {L R : Nat → Int32} (K : (Nat → Int32) → Int32 → Int32 → Int32 → Int32 → Int32 → Int32 → Int32 → Option ((Nat → Int32) × Int32 × Int32))
    (hK : ∀ (t t0 : Nat → Int32) (l h l0 h0 y1 y2 y3 y4 y5 : Int32) (t0' : Nat → Int32) (l' h' : Int32), ag t t0 → K t0 l0 h0 y1 y2 y3 y4 y5 = some (t0', l', h') → ∃ t', K t l h y1 y2 y3 y4 y5 = some (t', l', h'))
    (t t0 : Nat → Int32) (l h l0 h0 y1 y2 y3 y4 y5 z0 : Int32) (t0' : Nat → Int32) (l' h' : Int32) (ha : ag t t0) (hf : f_X10_takesOff_47 K L R t0 l0 h0 y1 y2 y3 y4 y5 z0 = some (t0', l', h')) : ∃ t', f_X10_takesOff_47 K L R t l h y1 y2 y3 y4 y5 z0 = some (t', l', h') := by
  unfold f_X10_takesOff_47 at hf ⊢
  obtain ⟨q, e1, hf⟩ := pe_1 hf
  rw [e1]
  obtain ⟨e2, hf⟩ := pe_in hf
  obtain ⟨t', e3⟩ := hK _ _ l h l0 h0 _ _ _ _ _ _ _ _ (ag_upd ha _ _) hf
  refine ⟨t', ?_⟩
  show p_in z0 9 _ = _
  unfold p_in
  rw [if_neg e2]
  exact e3
theorem ag_tk17 {L R : Nat → Int32} : ∀ (n : Nat) (t t0 : Nat → Int32) (l h l0 h0 y1 y2 y3 y4 y5 : Int32) (t0' : Nat → Int32) (l' h' : Int32), ag t t0 → f_X10_takesOff_17 L R n t0 l0 h0 y1 y2 y3 y4 y5 = some (t0', l', h') → ∃ t', f_X10_takesOff_17 L R n t l h y1 y2 y3 y4 y5 = some (t', l', h') := by
  intro n
  induction n with
  | zero => intro t t0 l h l0 h0 y1 y2 y3 y4 y5 t0' l' h' ha hf; cases hf
  | succ n ih =>
    intro t t0 l h l0 h0 y1 y2 y3 y4 y5 t0' l' h' ha hf
    have hf : gf_X10_takesOff_17 (f_X10_takesOff_17 L R n) L R t0 l0 h0 y1 y2 y3 y4 y5 = some (t0', l', h') := hf
    show ∃ t', gf_X10_takesOff_17 (f_X10_takesOff_17 L R n) L R t l h y1 y2 y3 y4 y5 = some (t', l', h')
    unfold gf_X10_takesOff_17 at hf ⊢
    obtain ⟨e0, hf⟩ := pe_in hf
    unfold p_in
    rw [if_neg e0]
    by_cases c1 : L y1.toNatClampNeg ≤ y5
    · rw [if_pos c1] at hf ⊢
      rw [ag_shapeTried ha]
      obtain ⟨q, e1, hf⟩ := pe_1 hf
      rw [e1]
      obtain ⟨rfl, rfl, rfl⟩ := po_3 hf
      exact ⟨_, rfl⟩
    · rw [if_neg c1] at hf ⊢
      by_cases c2 : y5 < y2
      · rw [if_pos c2] at hf ⊢
        exact ag_tk47 _ ih _ _ l h l0 h0 _ _ _ _ _ _ _ _ _ ha hf
      · rw [if_neg c2] at hf ⊢
        by_cases c3 : y5 ≤ y4
        · rw [if_pos c3] at hf ⊢
          by_cases c4 : y5 = y4
          · rw [if_pos c4] at hf ⊢
            obtain ⟨e2, hf⟩ := pe_in hf
            unfold p_in at *
            rw [if_neg e2]
            exact ih _ _ l h l0 h0 _ _ _ _ _ _ _ _ (ag_upd ha _ _) hf
          · rw [if_neg c4] at hf ⊢
            obtain ⟨q, e1, hf⟩ := pe_1 hf
            rw [e1]
            obtain ⟨e2, hf⟩ := pe_in hf
            obtain ⟨t', e3⟩ := ih _ _ l h l0 h0 _ _ _ _ _ _ _ _ (ag_upd ha _ _) hf
            refine ⟨t', ?_⟩
            show (if y5 < 0 ∨ 9 ≤ y5.toNatClampNeg then none else _) = _
            rw [if_neg e2]
            exact e3
        · rw [if_neg c3] at hf ⊢
          exact ag_tk47 _ ih _ _ l h l0 h0 _ _ _ _ _ _ _ _ _ ha hf
theorem ag_takesOff {L R : Nat → Int32} (t : Nat → Int32) (l h x1 x2 x3 : Int32) (t0 t0' : Nat → Int32) (l0 h0 l' h' : Int32) (hf : f_X10_takesOff L R t0 l0 h0 x1 x2 x3 = some (t0', l', h')) : ∃ t', f_X10_takesOff L R t l h x1 x2 x3 = some (t', l', h') := by
  unfold f_X10_takesOff at hf ⊢
  obtain ⟨q, e1, hf⟩ := pe_1 hf
  rw [e1]
  obtain ⟨u, e2, hf⟩ := pe_1 hf
  obtain ⟨u1, e3, a1⟩ := m_triesNone t
  obtain ⟨u9, e4, a2⟩ := m_triesNone t0
  have e9 : u = u9 := Option.some.inj (e2.symm.trans e4)
  subst e9
  obtain ⟨t', e5⟩ := ag_tk17 1000 u1 u l h l0 h0 _ _ _ _ _ _ _ _ (fun j hj => (a1 j hj).trans (a2 j hj).symm) hf
  refine ⟨t', ?_⟩
  rw [pb1, e3, pb1]
  exact e5
def rmR (l' h' l h l0' h0' l0 h0 : Int32) : Prop := (l' = l0' ∧ h' = h0') ∨ (l' = l ∧ h' = h ∧ l0' = l0 ∧ h0' = h0)
theorem ag_rim20 {L R : Nat → Int32} (K : (Nat → Int32) → Int32 → Int32 → Int32 → Int32 → Int32 → Int32 → Int32 → Option (Int32 × (Nat → Int32) × Int32 × Int32)) (t t0 : Nat → Int32) (l h l0 h0 : Int32)
    (hK : ∀ (y1 y2 y3 y4 y5 r : Int32) (t0' : Nat → Int32) (l0' h0' : Int32), K t0 l0 h0 y1 y2 y3 y4 y5 = some (r, t0', l0', h0') → ∃ t' l' h', K t l h y1 y2 y3 y4 y5 = some (r, t', l', h') ∧ rmR l' h' l h l0' h0' l0 h0) :
    ∀ (n : Nat) (y1 y2 y3 y4 y5 y6 r : Int32) (t0' : Nat → Int32) (l0' h0' : Int32), f_X10_rimOf_20 K L R n t0 l0 h0 y1 y2 y3 y4 y5 y6 = some (r, t0', l0', h0') → ∃ t' l' h', f_X10_rimOf_20 K L R n t l h y1 y2 y3 y4 y5 y6 = some (r, t', l', h') ∧ rmR l' h' l h l0' h0' l0 h0 := by
  intro n
  induction n with
  | zero => intro y1 y2 y3 y4 y5 y6 r t0' l0' h0' hf; cases hf
  | succ n ih =>
    intro y1 y2 y3 y4 y5 y6 r t0' l0' h0' hf
    have hf : gf_X10_rimOf_20 (f_X10_rimOf_20 K L R n) K L R t0 l0 h0 y1 y2 y3 y4 y5 y6 = some (r, t0', l0', h0') := hf
    show ∃ t' l' h', gf_X10_rimOf_20 (f_X10_rimOf_20 K L R n) K L R t l h y1 y2 y3 y4 y5 y6 = some (r, t', l', h') ∧ rmR l' h' l h l0' h0' l0 h0
    unfold gf_X10_rimOf_20 at hf ⊢
    obtain ⟨q, e1, hf⟩ := pe_1 hf
    rw [e1]
    show ∃ t' l' h', (if q ≤ y6 then _ else _) = some (r, t', l', h') ∧ rmR l' h' l h l0' h0' l0 h0
    by_cases c1 : q ≤ y6
    · rw [if_pos c1] at hf ⊢
      exact hK _ _ _ _ _ _ _ _ _ hf
    · rw [if_neg c1] at hf ⊢
      obtain ⟨q2, e2, hf⟩ := pe_1 hf
      rw [e2]
      show ∃ t' l' h', (if q2 = y2 then _ else _) = some (r, t', l', h') ∧ rmR l' h' l h l0' h0' l0 h0
      by_cases c2 : q2 = y2
      · rw [if_pos c2] at hf ⊢
        by_cases c3 : y4 = y3
        · rw [if_pos c3] at hf ⊢
          obtain ⟨a1, a2, a3, e3, hf⟩ := pe_3 hf
          obtain ⟨t', e4⟩ := ag_takesOff t l h _ _ _ _ _ _ _ _ _ e3
          rw [e4]
          obtain ⟨rfl, rfl, rfl, rfl⟩ := po_4 hf
          exact ⟨_, _, _, rfl, Or.inl ⟨rfl, rfl⟩⟩
        · rw [if_neg c3] at hf ⊢
          exact ih _ _ _ _ _ _ _ _ _ _ hf
      · rw [if_neg c2] at hf ⊢
        exact ih _ _ _ _ _ _ _ _ _ _ hf
theorem ag_rim6 {L R : Nat → Int32} (t t0 : Nat → Int32) (l h l0 h0 : Int32) : ∀ (n : Nat) (y1 y2 y3 y4 y5 r : Int32) (t0' : Nat → Int32) (l0' h0' : Int32), f_X10_rimOf_6 L R n t0 l0 h0 y1 y2 y3 y4 y5 = some (r, t0', l0', h0') → ∃ t' l' h', f_X10_rimOf_6 L R n t l h y1 y2 y3 y4 y5 = some (r, t', l', h') ∧ rmR l' h' l h l0' h0' l0 h0 := by
  intro n
  induction n with
  | zero => intro y1 y2 y3 y4 y5 r t0' l0' h0' hf; cases hf
  | succ n ih =>
    intro y1 y2 y3 y4 y5 r t0' l0' h0' hf
    have hf : gf_X10_rimOf_6 (f_X10_rimOf_6 L R n) L R t0 l0 h0 y1 y2 y3 y4 y5 = some (r, t0', l0', h0') := hf
    show ∃ t' l' h', gf_X10_rimOf_6 (f_X10_rimOf_6 L R n) L R t l h y1 y2 y3 y4 y5 = some (r, t', l', h') ∧ rmR l' h' l h l0' h0' l0 h0
    unfold gf_X10_rimOf_6 at hf ⊢
    obtain ⟨e0, hf⟩ := pe_in hf
    unfold p_in
    rw [if_neg e0]
    by_cases c1 : L y1.toNatClampNeg ≤ y5
    · rw [if_pos c1] at hf ⊢
      obtain ⟨rfl, rfl, rfl, rfl⟩ := po_4 hf
      exact ⟨_, _, _, rfl, Or.inr ⟨rfl, rfl, rfl, rfl⟩⟩
    · rw [if_neg c1] at hf ⊢
      exact ag_rim20 _ t t0 l h l0 h0 ih _ _ _ _ _ _ _ _ _ _ _ hf
def qcells (s k : Nat) : List Nat := (List.range (qz_S s)).filter (fun q => qz_H (8 * s + q) == k)
def qcnt (s k : Nat) : Nat := (qcells s k).length
def qcell (s k i : Nat) : Nat := (qcells s k).getD i 0
theorem m_rim_all : ∀ s, s < 67 → ∀ k, k < 9 → 1 ≤ k → (f_X10_rimOf tz_L tz_R (fun _ => 0) (-5) (-5) (nI s) (nI k) (-1)).map (·.1) = some (nI (qcnt s k)) := by decide +kernel
def ck_rim (s k i : Nat) : Bool := match f_X10_rimOf tz_L tz_R (fun _ => 0) (-5) (-5) (nI s) (nI k) (nI i) with
  | some (a, _, b, c) => a == nI i && (b == tz_F (8 * s + qcell s k i) && c == tz_E (8 * s + qcell s k i))
  | none => false
theorem ck_rim_all : ∀ s, s < 67 → ∀ k, k < 9 → 1 ≤ k → ∀ i, i < qcnt s k → ck_rim s k i = true := by decide +kernel
theorem qF_lt : ∀ s, s < 67 → ∀ q, q < 8 → tz_F (8 * s + q) ≠ -5 := by decide +kernel
theorem qcell_lt : ∀ s, s < 67 → ∀ k, k < 9 → ∀ i, i < qcnt s k → qcell s k i < qz_S s := by decide +kernel
theorem qS_le : ∀ s, s < 67 → qz_S s ≤ 8 := by decide +kernel
theorem qcnt_le : ∀ s, s < 67 → ∀ k, k < 9 → qcnt s k ≤ 8 := by decide +kernel
theorem m_rimOf_all : ∀ s, s < 67 → ∀ k, k < 9 → 1 ≤ k → ∀ t l h, ∃ t' l' h', f_X10_rimOf tz_L tz_R t l h (nI s) (nI k) (-1) = some (nI (qcnt s k), t', l', h') := by
  intro s hs k hk hk1 t l h
  have k1 := m_rim_all s hs k hk hk1
  cases e : f_X10_rimOf tz_L tz_R (fun _ => 0) (-5) (-5) (nI s) (nI k) (-1) with
  | none => rw [e] at k1; cases k1
  | some q =>
    rw [e] at k1
    obtain ⟨r, t0', l0', h0'⟩ := q
    have k2 : r = nI (qcnt s k) := Option.some.inj k1
    subst k2
    obtain ⟨t', l', h', e1, -⟩ := ag_rim6 t _ l h _ _ _ _ _ _ _ _ _ _ _ _ e
    exact ⟨t', l', h', e1⟩
theorem m_rimOf_one : ∀ s, s < 67 → ∀ k, k < 9 → 1 ≤ k → ∀ i, i < qcnt s k → ∀ t l h, ∃ t', f_X10_rimOf tz_L tz_R t l h (nI s) (nI k) (nI i) = some (nI i, t', tz_F (8 * s + qcell s k i), tz_E (8 * s + qcell s k i)) := by
  intro s hs k hk hk1 i hi t l h
  have k1 := ck_rim_all s hs k hk hk1 i hi
  unfold ck_rim at k1
  cases e : f_X10_rimOf tz_L tz_R (fun _ => 0) (-5) (-5) (nI s) (nI k) (nI i) with
  | none => rw [e] at k1; cases k1
  | some q =>
    rw [e] at k1
    obtain ⟨r, t0', l0', h0'⟩ := q
    simp only [Bool.and_eq_true, beq_iff_eq] at k1
    obtain ⟨rfl, rfl, rfl⟩ := k1
    obtain ⟨t', l', h', e1, hr⟩ := ag_rim6 t _ l h _ _ _ _ _ _ _ _ _ _ _ _ e
    rcases hr with ⟨rfl, rfl⟩ | ⟨-, -, h3, -⟩
    · exact ⟨t', e1⟩
    · exact absurd h3 (qF_lt s hs _ (Nat.lt_of_lt_of_le (qcell_lt s hs k hk i hi) (qS_le s hs)))
