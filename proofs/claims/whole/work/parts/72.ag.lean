/-! tried: only its first nine places count -/
def ag (t t0 : Nat → Int32) : Prop := ∀ j, j < 9 → t j = t0 j
theorem ag_upd {t t0 : Nat → Int32} (h : ag t t0) (k : Nat) (x : Int32) : ag (upd t k x) (upd t0 k x) := by
  intro j hj
  unfold upd
  by_cases e : j = k
  · rw [if_pos e, if_pos e]
  · rw [if_neg e, if_neg e]; exact h j hj
theorem in_lt {i : Int32} {n : Nat} (h : ¬ (i < 0 ∨ n ≤ i.toNatClampNeg)) : i.toNatClampNeg < n := Nat.lt_of_not_le fun q => h (Or.inr q)
theorem ag_sT12 {R t t0 : Nat → Int32} (h : ag t t0) (K : Int32 → Option Int32) : ∀ (n : Nat) (y1 y2 y3 : Int32), f_X10_shapeTried_12 K R t n y1 y2 y3 = f_X10_shapeTried_12 K R t0 n y1 y2 y3 := by
  intro n
  induction n with
  | zero => intros; rfl
  | succ n ih =>
    intro y1 y2 y3
    have e : f_X10_shapeTried_12 K R t n = f_X10_shapeTried_12 K R t0 n := by funext a b c; exact ih a b c
    show gf_X10_shapeTried_12 (f_X10_shapeTried_12 K R t n) K R t y1 y2 y3 = gf_X10_shapeTried_12 (f_X10_shapeTried_12 K R t0 n) K R t0 y1 y2 y3
    rw [e]
    unfold gf_X10_shapeTried_12 f_X10_shapeTried_41 p_in
    by_cases hi : y3 < 0 ∨ 9 ≤ y3.toNatClampNeg
    · simp only [if_pos hi]
    · simp only [if_neg hi]
      rw [h _ (in_lt hi)]
theorem ag_shapeTried {R t t0 : Nat → Int32} (h : ag t t0) : f_X10_shapeTried R t = f_X10_shapeTried R t0 := by
  have key : ∀ (n : Nat) (y : Int32), f_X10_shapeTried_2 R t n y = f_X10_shapeTried_2 R t0 n y := by
    intro n
    induction n with
    | zero => intros; rfl
    | succ n ih =>
      intro y
      have e : f_X10_shapeTried_2 R t n = f_X10_shapeTried_2 R t0 n := by funext a; exact ih a
      show gf_X10_shapeTried_2 (f_X10_shapeTried_2 R t n) R t y = gf_X10_shapeTried_2 (f_X10_shapeTried_2 R t0 n) R t0 y
      rw [e]
      unfold gf_X10_shapeTried_2
      rw [ag_sT12 h]
  exact key _ _
def tn (t : Nat → Int32) : Nat → Int32 := fun j => if j < 9 then 0 else t j
theorem ag_tn (t t0 : Nat → Int32) : ag (tn t) (tn t0) := fun j hj => by unfold tn; rw [if_pos hj, if_pos hj]
theorem m_triesNone (t : Nat → Int32) : ∃ t', f_X10_triesNone t = some t' ∧ ag t' (fun _ => 0) := by
  refine ⟨upd (upd (upd (upd (upd (upd (upd (upd (upd t 0 0) 1 0) 2 0) 3 0) 4 0) 5 0) 6 0) 7 0) 8 0, rfl, ?_⟩
  intro j hj
  unfold upd
  rcases (show j = 0 ∨ j = 1 ∨ j = 2 ∨ j = 3 ∨ j = 4 ∨ j = 5 ∨ j = 6 ∨ j = 7 ∨ j = 8 by omega) with rfl | rfl | rfl | rfl | rfl | rfl | rfl | rfl | rfl <;> rfl
theorem ag_turnedOf6 {L R : Nat → Int32} : ∀ (n : Nat) (t t0 : Nat → Int32) (y1 y2 r : Int32) (t0' : Nat → Int32), ag t t0 → f_X10_turnedOf_6 L R n t0 y1 y2 = some (r, t0') → ∃ t', f_X10_turnedOf_6 L R n t y1 y2 = some (r, t') := by
  intro n
  induction n with
  | zero => intro t t0 y1 y2 r t0' h hf; cases hf
  | succ n ih =>
    intro t t0 y1 y2 r t0' h hf
    have hf : gf_X10_turnedOf_6 (f_X10_turnedOf_6 L R n) L R t0 y1 y2 = some (r, t0') := hf
    show ∃ t', gf_X10_turnedOf_6 (f_X10_turnedOf_6 L R n) L R t y1 y2 = some (r, t')
    unfold gf_X10_turnedOf_6 at hf ⊢
    by_cases c : (8 : Int32) ≤ y2
    · rw [if_pos c] at hf ⊢
      rw [ag_shapeTried h]
      obtain ⟨q, e1, e2⟩ := pe_1 hf
      rw [e1]
      obtain ⟨rfl, rfl⟩ := po_2 e2
      exact ⟨_, rfl⟩
    · rw [if_neg c] at hf ⊢
      obtain ⟨q, e1, hf⟩ := pe_1 hf
      rw [e1]
      obtain ⟨e2, hf⟩ := pe_in hf
      obtain ⟨t', e3⟩ := ih _ _ _ _ _ _ (ag_upd h _ _) hf
      refine ⟨t', ?_⟩
      show p_in y2 9 _ = _
      unfold p_in
      rw [if_neg e2]
      exact e3
theorem m_turnedOf : ∀ s, s < 67 → ∀ t, ∃ t', f_X10_turnedOf tz_L tz_R t (nI s) = some (tz_turn s, t') := by
  intro s hs t
  obtain ⟨t1, e1, a1⟩ := m_triesNone t
  unfold f_X10_turnedOf
  rw [e1]
  have key : ∀ s, s < 67 → (f_X10_turnedOf_6 tz_L tz_R 1000 (fun _ => 0) (nI s) 0).map (·.1) = some (tz_turn s) := by decide +kernel
  have k1 := key s hs
  cases h : f_X10_turnedOf_6 tz_L tz_R 1000 (fun _ => 0) (nI s) 0 with
  | none => rw [h] at k1; cases k1
  | some q =>
    rw [h] at k1
    obtain ⟨r, t0'⟩ := q
    have k2 : r = tz_turn s := Option.some.inj k1
    subst k2
    exact ag_turnedOf6 _ _ _ _ _ _ _ a1 h
