theorem st_he0 : ∀ j : Nat, j < 67 → Cond.eq (.elem (.static "CharactersMultiplied$Shapes" "KEYS" "[I") (.int (Int32.ofNat j))) (.int (xi_KEYS j)) ∈ flatC (Jvm.Cond.and given_1 narrow_1) := by decide +kernel
theorem st_he1 : ∀ j : Nat, j < 10 → Cond.eq (.elem (.static "CharactersMultiplied$Shapes" "FIRST" "[I") (.int (Int32.ofNat j))) (.int (xi_FIRST j)) ∈ flatC (Jvm.Cond.and given_1 narrow_1) := by decide +kernel
theorem st_he2 : ∀ j : Nat, j < 9 → Cond.eq (.elem (.static "CharactersMultiplied$Shapes" "FACTORIALS" "[I") (.int (Int32.ofNat j))) (.int (xi_FACTORIALS j)) ∈ flatC (Jvm.Cond.and given_1 narrow_1) := by decide +kernel
theorem st_he3 : ∀ j : Nat, j < 9 → Cond.eq (.elem (.static "CharactersMultiplied$Numbers" "STARTS" "[I") (.int (Int32.ofNat j))) (.int (xi_STARTS j)) ∈ flatC (Jvm.Cond.and given_1 narrow_1) := by decide +kernel
theorem st_he4_0 : ∀ j : Nat, j < 20 → (flatC (Jvm.Cond.and given_1 narrow_1))[119 + j]? = some (Cond.eq (.elem (.static "java/lang/Integer" "DigitOnes" "[B") (.int (Int32.ofNat (0 + j)))) (.int (jd1 (0 + j)))) := by decide +kernel
theorem st_he4_1 : ∀ j : Nat, j < 20 → (flatC (Jvm.Cond.and given_1 narrow_1))[139 + j]? = some (Cond.eq (.elem (.static "java/lang/Integer" "DigitOnes" "[B") (.int (Int32.ofNat (20 + j)))) (.int (jd1 (20 + j)))) := by decide +kernel
theorem st_he4_2 : ∀ j : Nat, j < 20 → (flatC (Jvm.Cond.and given_1 narrow_1))[159 + j]? = some (Cond.eq (.elem (.static "java/lang/Integer" "DigitOnes" "[B") (.int (Int32.ofNat (40 + j)))) (.int (jd1 (40 + j)))) := by decide +kernel
theorem st_he4_3 : ∀ j : Nat, j < 20 → (flatC (Jvm.Cond.and given_1 narrow_1))[179 + j]? = some (Cond.eq (.elem (.static "java/lang/Integer" "DigitOnes" "[B") (.int (Int32.ofNat (60 + j)))) (.int (jd1 (60 + j)))) := by decide +kernel
theorem st_he4_4 : ∀ j : Nat, j < 20 → (flatC (Jvm.Cond.and given_1 narrow_1))[199 + j]? = some (Cond.eq (.elem (.static "java/lang/Integer" "DigitOnes" "[B") (.int (Int32.ofNat (80 + j)))) (.int (jd1 (80 + j)))) := by decide +kernel
theorem st_he4 (j : Nat) (hj : j < 100) : Cond.eq (.elem (.static "java/lang/Integer" "DigitOnes" "[B") (.int (Int32.ofNat j))) (.int (jd1 j)) ∈ flatC (Jvm.Cond.and given_1 narrow_1) := by
  rcases (show (∃ r, r < 20 ∧ j = 0 + r) ∨ (∃ r, r < 20 ∧ j = 20 + r) ∨ (∃ r, r < 20 ∧ j = 40 + r) ∨ (∃ r, r < 20 ∧ j = 60 + r) ∨ (∃ r, r < 20 ∧ j = 80 + r) from by
    rcases (show j < 20 ∨ (20 ≤ j ∧ j < 40) ∨ (40 ≤ j ∧ j < 60) ∨ (60 ≤ j ∧ j < 80) ∨ 80 ≤ j by omega) with h | h | h | h | h
    · exact Or.inl (⟨j - 0, by omega, by omega⟩)
    · exact Or.inr (Or.inl (⟨j - 20, by omega, by omega⟩))
    · exact Or.inr (Or.inr (Or.inl (⟨j - 40, by omega, by omega⟩)))
    · exact Or.inr (Or.inr (Or.inr (Or.inl (⟨j - 60, by omega, by omega⟩))))
    · exact Or.inr (Or.inr (Or.inr (Or.inr (⟨j - 80, by omega, by omega⟩))))
    ) with ⟨r, hr, rfl⟩ | ⟨r, hr, rfl⟩ | ⟨r, hr, rfl⟩ | ⟨r, hr, rfl⟩ | ⟨r, hr, rfl⟩
  · exact List.mem_of_getElem? (st_he4_0 r hr)
  · exact List.mem_of_getElem? (st_he4_1 r hr)
  · exact List.mem_of_getElem? (st_he4_2 r hr)
  · exact List.mem_of_getElem? (st_he4_3 r hr)
  · exact List.mem_of_getElem? (st_he4_4 r hr)
theorem st_he5_0 : ∀ j : Nat, j < 20 → (flatC (Jvm.Cond.and given_1 narrow_1))[222 + j]? = some (Cond.eq (.elem (.static "java/lang/Integer" "DigitTens" "[B") (.int (Int32.ofNat (0 + j)))) (.int (jd10 (0 + j)))) := by decide +kernel
theorem st_he5_1 : ∀ j : Nat, j < 20 → (flatC (Jvm.Cond.and given_1 narrow_1))[242 + j]? = some (Cond.eq (.elem (.static "java/lang/Integer" "DigitTens" "[B") (.int (Int32.ofNat (20 + j)))) (.int (jd10 (20 + j)))) := by decide +kernel
theorem st_he5_2 : ∀ j : Nat, j < 20 → (flatC (Jvm.Cond.and given_1 narrow_1))[262 + j]? = some (Cond.eq (.elem (.static "java/lang/Integer" "DigitTens" "[B") (.int (Int32.ofNat (40 + j)))) (.int (jd10 (40 + j)))) := by decide +kernel
theorem st_he5_3 : ∀ j : Nat, j < 20 → (flatC (Jvm.Cond.and given_1 narrow_1))[282 + j]? = some (Cond.eq (.elem (.static "java/lang/Integer" "DigitTens" "[B") (.int (Int32.ofNat (60 + j)))) (.int (jd10 (60 + j)))) := by decide +kernel
theorem st_he5_4 : ∀ j : Nat, j < 20 → (flatC (Jvm.Cond.and given_1 narrow_1))[302 + j]? = some (Cond.eq (.elem (.static "java/lang/Integer" "DigitTens" "[B") (.int (Int32.ofNat (80 + j)))) (.int (jd10 (80 + j)))) := by decide +kernel
theorem st_he5 (j : Nat) (hj : j < 100) : Cond.eq (.elem (.static "java/lang/Integer" "DigitTens" "[B") (.int (Int32.ofNat j))) (.int (jd10 j)) ∈ flatC (Jvm.Cond.and given_1 narrow_1) := by
  rcases (show (∃ r, r < 20 ∧ j = 0 + r) ∨ (∃ r, r < 20 ∧ j = 20 + r) ∨ (∃ r, r < 20 ∧ j = 40 + r) ∨ (∃ r, r < 20 ∧ j = 60 + r) ∨ (∃ r, r < 20 ∧ j = 80 + r) from by
    rcases (show j < 20 ∨ (20 ≤ j ∧ j < 40) ∨ (40 ≤ j ∧ j < 60) ∨ (60 ≤ j ∧ j < 80) ∨ 80 ≤ j by omega) with h | h | h | h | h
    · exact Or.inl (⟨j - 0, by omega, by omega⟩)
    · exact Or.inr (Or.inl (⟨j - 20, by omega, by omega⟩))
    · exact Or.inr (Or.inr (Or.inl (⟨j - 40, by omega, by omega⟩)))
    · exact Or.inr (Or.inr (Or.inr (Or.inl (⟨j - 60, by omega, by omega⟩))))
    · exact Or.inr (Or.inr (Or.inr (Or.inr (⟨j - 80, by omega, by omega⟩))))
    ) with ⟨r, hr, rfl⟩ | ⟨r, hr, rfl⟩ | ⟨r, hr, rfl⟩ | ⟨r, hr, rfl⟩ | ⟨r, hr, rfl⟩
  · exact List.mem_of_getElem? (st_he5_0 r hr)
  · exact List.mem_of_getElem? (st_he5_1 r hr)
  · exact List.mem_of_getElem? (st_he5_2 r hr)
  · exact List.mem_of_getElem? (st_he5_3 r hr)
  · exact List.mem_of_getElem? (st_he5_4 r hr)
theorem st_hlen : ∀ i, i < 6 → (kT.map List.length).getD i 0 < 2 ^ 31 := by decide
theorem st_hq1 : ∀ i, i < 6 → Cond.exactly (.string RL (kx.getD i 0)) "java/lang/String" ∈ flatC (Jvm.Cond.and given_1 narrow_1) := by decide +kernel
theorem st_hq2 : ∀ i, i < 6 → Cond.eq (.field (.string RL (kx.getD i 0)) "java/lang/String" "coder" "B") (.int 0) ∈ flatC (Jvm.Cond.and given_1 narrow_1) := by decide +kernel
theorem st_hq3 : ∀ i, i < 6 → Cond.arrayOf (.field (.string RL (kx.getD i 0)) "java/lang/String" "value" "[B") .byte ∈ flatC (Jvm.Cond.and given_1 narrow_1) := by decide +kernel
theorem st_hq4 : ∀ i, i < 6 → Cond.eq (.length (.field (.string RL (kx.getD i 0)) "java/lang/String" "value" "[B")) (.int (Int32.ofNat ((kT.map List.length).getD i 0))) ∈ flatC (Jvm.Cond.and given_1 narrow_1) := by decide +kernel
theorem st_hq5 : ∀ i, i < 6 → ∀ j, j < (kT.map List.length).getD i 0 → Cond.eq (.elem (.field (.string RL (kx.getD i 0)) "java/lang/String" "value" "[B") (.int (Int32.ofNat j))) (.int (((kT.map (fun T => T.map sb_b)).getD i []).getD j 0)) ∈ flatC (Jvm.Cond.and given_1 narrow_1) := by decide +kernel
theorem st_hq6 : ∀ i, i < 6 → ∀ j, j < 6 → i = j ∨ (Cond.not (Cond.eq (.string RL (kx.getD i 0)) (.string RL (kx.getD j 0)))) ∈ flatC (Jvm.Cond.and given_1 narrow_1) ∨ (Cond.not (Cond.eq (.string RL (kx.getD j 0)) (.string RL (kx.getD i 0)))) ∈ flatC (Jvm.Cond.and given_1 narrow_1) := by decide +kernel
