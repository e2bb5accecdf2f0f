theorem xg_more_ok {s : State} {args : Array Value} (hts : ∀ w ∈ lw_tbl, w.before args s = true) : ∀ w ∈ xg_more, w.before args s = true := by
  have hi : (Cond.instantiable RJ4 4).before args s = true := hts _ (List.mem_append_right _ (List.mem_append_right _ (List.mem_append_right _ (List.mem_append_left _ (List.mem_of_getElem? (i := 212) (by decide +kernel))))))
  intro w hw
  rcases List.mem_cons.mp hw with rfl | hw
  · exact x_selpriv (n := 4) ⟨by decide, by decide⟩ hi (hts _ (List.mem_append_right _ (List.mem_append_right _ (List.mem_append_right _ (List.mem_append_right _ (List.mem_append_left _ (List.mem_of_getElem? (i := 15) (by decide +kernel)))))))) (hts _ (List.mem_append_right _ (List.mem_append_right _ (List.mem_append_right _ (List.mem_append_right _ (List.mem_append_left _ (List.mem_of_getElem? (i := 16) (by decide +kernel)))))))) (hts _ (List.mem_append_right _ (List.mem_append_right _ (List.mem_append_right _ (List.mem_append_right _ (List.mem_append_right _ (List.mem_of_getElem? (i := 59) (by decide +kernel))))))))
  rcases List.mem_cons.mp hw with rfl | hw
  · exact x_selpriv (n := 4) ⟨by decide, by decide⟩ hi (hts _ (List.mem_append_right _ (List.mem_append_right _ (List.mem_append_right _ (List.mem_append_right _ (List.mem_append_left _ (List.mem_of_getElem? (i := 19) (by decide +kernel)))))))) (hts _ (List.mem_append_right _ (List.mem_append_right _ (List.mem_append_right _ (List.mem_append_right _ (List.mem_append_left _ (List.mem_of_getElem? (i := 20) (by decide +kernel)))))))) (hts _ (List.mem_append_right _ (List.mem_append_right _ (List.mem_append_right _ (List.mem_append_right _ (List.mem_append_right _ (List.mem_of_getElem? (i := 60) (by decide +kernel))))))))
  rcases List.mem_cons.mp hw with rfl | hw
  · exact x_selpriv (n := 4) ⟨by decide, by decide⟩ hi (hts _ (List.mem_append_right _ (List.mem_append_right _ (List.mem_append_right _ (List.mem_append_right _ (List.mem_append_left _ (List.mem_of_getElem? (i := 84) (by decide +kernel)))))))) (hts _ (List.mem_append_right _ (List.mem_append_right _ (List.mem_append_right _ (List.mem_append_right _ (List.mem_append_left _ (List.mem_of_getElem? (i := 85) (by decide +kernel)))))))) (hts _ (List.mem_append_right _ (List.mem_append_right _ (List.mem_append_right _ (List.mem_append_right _ (List.mem_append_right _ (List.mem_of_getElem? (i := 61) (by decide +kernel))))))))
  rcases List.mem_cons.mp hw with rfl | hw
  · exact x_selpriv (n := 4) ⟨by decide, by decide⟩ hi (hts _ (List.mem_append_right _ (List.mem_append_right _ (List.mem_append_right _ (List.mem_append_right _ (List.mem_append_left _ (List.mem_of_getElem? (i := 88) (by decide +kernel)))))))) (hts _ (List.mem_append_right _ (List.mem_append_right _ (List.mem_append_right _ (List.mem_append_right _ (List.mem_append_left _ (List.mem_of_getElem? (i := 89) (by decide +kernel)))))))) (hts _ (List.mem_append_right _ (List.mem_append_right _ (List.mem_append_right _ (List.mem_append_right _ (List.mem_append_right _ (List.mem_of_getElem? (i := 62) (by decide +kernel))))))))
  exact absurd hw List.not_mem_nil
set_option maxHeartbeats 16000000 in
set_option maxRecDepth 20000 in
theorem whole_start {p : Program} {e : Env} {s : State} {m : MethodId} {below : List Frame} {meth : Method} {c : Code} (l : Launch) (hflags : l.flags = flags0) {b L : Nat} {xs : Nat → Int32} (hL : L ≤ 260) (C0 : lw_At p s m meth c b L xs) : W p l e room_1 s m #[Value.ref b] below meth c s.heap [] 0 0 (lw_Z below #[Value.ref b] s) (entryFrame m ([Value.ref b] : List Value).toArray 28) := by
  obtain ⟨hx, hb, hr, hml, hown0, hts, hX, hbl, hlocks, hgv⟩ := id C0
  have hown : s.vm.findClass RL = some m.cls := hown0
  have htx : ∀ w ∈ xg_tbl, w.before #[Value.ref b] s = true := fun w h => (List.mem_append.mp (List.mem_filter.mp h).1).elim (hts w) (xg_more_ok hts w)
  have hA : ∀ q : Nat, s.heap.size ≤ q → (fun q : Nat => s.heap.size ≤ q) q := fun _ h => h
  have hA' : ∀ a : Nat, a < s.heap.size → ¬ (fun q : Nat => s.heap.size ≤ q) a := fun a h => Nat.not_le.mpr h
  have hs := flat_of_before _ hgv
  obtain ⟨σ, h9, hR⟩ := mm_init
  obtain ⟨c0, i0, k0⟩ := u_known (C := RX0) (T := TX0) (N := 6) (n := 6) htx wX0_in (htx _ mw_2_11)
  obtain ⟨c1, i1, k1⟩ := u_known (C := RX1) (T := TX1) (N := 2) (n := 2) htx wX1_in (htx _ mw_1_151)
  obtain ⟨c2, i2, k2⟩ := u_known (C := RX2) (T := TX2) (N := 1) (n := 1) htx wX2_in (htx _ mw_2_1)
  obtain ⟨c3, i3, k3⟩ := u_known (C := RX3) (T := TX3) (N := 6) (n := 6) htx wX3_in (htx _ mw_2_37)
  obtain ⟨c4, i4, k4⟩ := u_known (C := RX4) (T := TX4) (N := 2) (n := 2) htx wX4_in (htx _ mw_2_62)
  obtain ⟨c5, i5, k5⟩ := u_known (C := RX5) (T := TX5) (N := 3) (n := 3) htx wX5_in (htx _ mw_1_201)
  obtain ⟨c6, i6, k6⟩ := u_known (C := RX6) (T := TX6) (N := 4) (n := 4) htx wX6_in (htx _ mw_1_106)
  obtain ⟨c7, i7, k7⟩ := u_known (C := RX7) (T := TX7) (N := 5) (n := 5) htx wX7_in (htx _ mw_1_31)
  obtain ⟨c8, i8, k8⟩ := u_known (C := RX8) (T := TX8) (N := 6) (n := 6) htx wX8_in (htx _ mw_1_217)
  obtain ⟨c9, i9, k9⟩ := u_known (C := RX9) (T := TX9) (N := 10) (n := 10) htx wX9_in (htx _ mw_1_23)
  obtain ⟨c10, i10, k10⟩ := u_known (C := RJ0) (T := TJ0) (N := 4) (n := 4) htx wJ0_in (htx _ mw_4_147)
  obtain ⟨c11, i11, k11⟩ := u_known (C := RJ4) (T := TJ4) (N := 4) (n := 4) htx wJ4_in (htx _ mw_3_212)
  obtain ⟨D, hKc⟩ : ∃ D : va_G, ∀ (k : Nat) (q : vw_C), xcl[k]? = some q → u_Kn s q.1 q.2.1 q.2.2 (D.1 k) (D.2 k) := by
    refine ⟨(fun k => [c0, c1, c2, c3, c4, c5, c6, c7, c8, c9, c10, c11].getD k c0, fun k => [i0, i1, i2, i3, i4, i5, i6, i7, i8, i9, i10, i11].getD k i0), ?_⟩
    intro k q hq
    match k, hq with
    | 0, hq => cases hq; exact k0
    | 1, hq => cases hq; exact k1
    | 2, hq => cases hq; exact k2
    | 3, hq => cases hq; exact k3
    | 4, hq => cases hq; exact k4
    | 5, hq => cases hq; exact k5
    | 6, hq => cases hq; exact k6
    | 7, hq => cases hq; exact k7
    | 8, hq => cases hq; exact k8
    | 9, hq => cases hq; exact k9
    | 10, hq => cases hq; exact k10
    | 11, hq => cases hq; exact k11
    | k + 12, hq => simp [xcl] at hq
  obtain ⟨cyI, kI, pI, fI1, fI2, fI3⟩ := Cond.arrayClass_spec (htx _ mw_1_104)
  obtain ⟨cyJ, kJ, pJ, fJ1, fJ2, fJ3⟩ := Cond.arrayClass_spec (htx _ mw_2_35)
  obtain ⟨cyB, kB, pB, fB1, fB2, fB3⟩ := Cond.arrayClass_spec (htx _ mw_4_2)
  have hov : (Cond.arrayOver (.array .int)).before #[Value.ref b] s = true := (hts _ mw_3_167)
  obtain ⟨cmp, cyQ, kQ, fQ0, -, fQ2, fQ3, fQ1⟩ := arrayOverA_spec hov
  have hK4 : va_K D xcl (ytys cyI cyJ cyB cyQ) s := by
    refine ⟨hKc, fun k q h => ?_⟩
    match k, h with
    | 0, h => cases h; exact ⟨fun n z => ⟨fun k h => (by cases h), kI, fI2, pI, fI3⟩, fI1⟩
    | 1, h => cases h; exact ⟨fun n z => ⟨fun k h => (by cases h), kJ, fJ2, pJ, fJ3⟩, fJ1⟩
    | 2, h => cases h; exact ⟨fun n z => ⟨fun k h => (by cases h), kB, fB2, pB, fB3⟩, fB1⟩
    | 3, h => cases h; exact ⟨fun n z => ⟨fun k h => (by cases h), kQ, fQ2, cmp, fQ3⟩, fQ1⟩
    | k + 4, h => simp at h
  have hK := y_K2 hK4
  obtain ⟨t0, e0, z0⟩ := va_Tof (tm := (.static "CharactersMultiplied$Shapes" "KEYS" "[I")) (ty := .int) (N := 67) (f := fun j => .int (xi_KEYS j)) (A := fun q : Nat => s.heap.size ≤ q) (by decide) (hs (Cond.arrayOf (.static "CharactersMultiplied$Shapes" "KEYS" "[I") .int) (by decide +kernel)) (va_eqt (z := Int32.ofNat 67) (hs (Cond.eq (.length (.static "CharactersMultiplied$Shapes" "KEYS" "[I")) (.int (Int32.ofNat 67))) (by decide +kernel))) (fun j hj => va_eqt (hs _ (st_he0 j hj))) hA'
  have y0 := va_Zref (hts _ mw_1_41) (htx _ mw_1_2) e0 hA'
  obtain ⟨t1, e1, z1⟩ := va_Tof (tm := (.static "CharactersMultiplied$Shapes" "FIRST" "[I")) (ty := .int) (N := 10) (f := fun j => .int (xi_FIRST j)) (A := fun q : Nat => s.heap.size ≤ q) (by decide) (hs (Cond.arrayOf (.static "CharactersMultiplied$Shapes" "FIRST" "[I") .int) (by decide +kernel)) (va_eqt (z := Int32.ofNat 10) (hs (Cond.eq (.length (.static "CharactersMultiplied$Shapes" "FIRST" "[I")) (.int (Int32.ofNat 10))) (by decide +kernel))) (fun j hj => va_eqt (hs _ (st_he1 j hj))) hA'
  have y1 := va_Zref (hts _ mw_1_74) (htx _ mw_1_2) e1 hA'
  obtain ⟨t2, e2, z2⟩ := va_Tof (tm := (.static "CharactersMultiplied$Shapes" "FACTORIALS" "[I")) (ty := .int) (N := 9) (f := fun j => .int (xi_FACTORIALS j)) (A := fun q : Nat => s.heap.size ≤ q) (by decide) (hs (Cond.arrayOf (.static "CharactersMultiplied$Shapes" "FACTORIALS" "[I") .int) (by decide +kernel)) (va_eqt (z := Int32.ofNat 9) (hs (Cond.eq (.length (.static "CharactersMultiplied$Shapes" "FACTORIALS" "[I")) (.int (Int32.ofNat 9))) (by decide +kernel))) (fun j hj => va_eqt (hs _ (st_he2 j hj))) hA'
  have y2 := va_Zref (hts _ mw_1_87) (htx _ mw_1_2) e2 hA'
  obtain ⟨t3, e3, z3⟩ := va_Tof (tm := (.static "CharactersMultiplied$Numbers" "STARTS" "[I")) (ty := .int) (N := 9) (f := fun j => .int (xi_STARTS j)) (A := fun q : Nat => s.heap.size ≤ q) (by decide) (hs (Cond.arrayOf (.static "CharactersMultiplied$Numbers" "STARTS" "[I") .int) (by decide +kernel)) (va_eqt (z := Int32.ofNat 9) (hs (Cond.eq (.length (.static "CharactersMultiplied$Numbers" "STARTS" "[I")) (.int (Int32.ofNat 9))) (by decide +kernel))) (fun j hj => va_eqt (hs _ (st_he3 j hj))) hA'
  have y3 := va_Zref (hts _ mw_2_186) (htx _ mw_1_5) e3 hA'
  obtain ⟨t4, e4, z4⟩ := va_Tof (tm := (.static "java/lang/Integer" "DigitOnes" "[B")) (ty := .byte) (N := 100) (f := fun j => .int (jd1 j)) (A := fun q : Nat => s.heap.size ≤ q) (by decide) (hs (Cond.arrayOf (.static "java/lang/Integer" "DigitOnes" "[B") .byte) (by decide +kernel)) (va_eqt (z := Int32.ofNat 100) (hs (Cond.eq (.length (.static "java/lang/Integer" "DigitOnes" "[B")) (.int (Int32.ofNat 100))) (by decide +kernel))) (fun j hj => va_eqt (hs _ (st_he4 j hj))) hA'
  have y4 := va_Zref (hts _ mw_4_131) (htx _ mw_1_13) e4 hA'
  obtain ⟨t5, e5, z5⟩ := va_Tof (tm := (.static "java/lang/Integer" "DigitTens" "[B")) (ty := .byte) (N := 100) (f := fun j => .int (jd10 j)) (A := fun q : Nat => s.heap.size ≤ q) (by decide) (hs (Cond.arrayOf (.static "java/lang/Integer" "DigitTens" "[B") .byte) (by decide +kernel)) (va_eqt (z := Int32.ofNat 100) (hs (Cond.eq (.length (.static "java/lang/Integer" "DigitTens" "[B")) (.int (Int32.ofNat 100))) (by decide +kernel))) (fun j hj => va_eqt (hs _ (st_he5 j hj))) hA'
  have y5 := va_Zref (hts _ mw_4_133) (htx _ mw_1_13) e5 hA'
  have ycs := va_Zof (hts _ mw_3_221) (htx _ mw_1_16) (va_eqt (hs (Cond.eq (.static "java/lang/String" "COMPACT_STRINGS" "Z") (.int 1)) (by decide +kernel))) hA'
  have ysi := va_Zqof (hts _ mw_4_61) (htx _ mw_1_20) (hs (Cond.isRef (.static "jdk/internal/util/Preconditions" "SIOOBE_FORMATTER" "Ljava/util/function/BiFunction;")) (by decide +kernel)) hA'
  obtain ⟨G, hT⟩ : ∃ G : Nat → Nat, xs_T G (fun q : Nat => s.heap.size ≤ q) s s.heap := ⟨fun k => [t0, t1, t2, t3].getD k 0, ⟨y0, z0⟩, ⟨y1, z1⟩, ⟨y2, z2⟩, ⟨y3, z3⟩⟩
  obtain ⟨g, hJ⟩ : ∃ g : Nat → Nat, ZJ g (fun q : Nat => s.heap.size ≤ q) s s.heap := ⟨fun k => [t4, t5].getD k 0, ycs, y4, z4, y5, z5, ysi, va_Nw.of rfl (hts _ mw_4_39)⟩
  obtain ⟨kk, kv, hk1, hk2⟩ := vk_Sof (N := 6) (tm := fun i => .string RL (kx.getD i 0)) (len := kT.map List.length) (byt := kT.map (fun T => T.map sb_b)) (A := fun q : Nat => s.heap.size ≤ q) st_hlen (fun i hi => hs _ (st_hq1 i hi)) (fun i hi => hs _ (st_hq2 i hi)) (fun i hi => hs _ (st_hq3 i hi)) (fun i hi => hs _ (st_hq4 i hi)) (fun i hi j hj => hs _ (st_hq5 i hi j hj)) (fun i j hi hj hij => ((st_hq6 i hi j hj).resolve_left hij).elim (fun h => Or.inl (hs _ h)) (fun h => Or.inr (hs _ h))) hA'
  have hk3 : ∀ i, i < 6 → (kT.map List.length).getD i 0 = (kT.getD i []).length ∧ ∀ j, j < (kT.getD i []).length → ((kT.map (fun T => T.map sb_b)).getD i []).getD j 0 = tf (kT.getD i []) j := by decide +kernel
  have hk4 : ∀ i, i < 6 → (Cond.stringRef RL (kx.getD i 0) (kt.getD i "")).before #[Value.ref b] s = true := by
    intro i hi
    rcases (show i = 0 ∨ i = 1 ∨ i = 2 ∨ i = 3 ∨ i = 4 ∨ i = 5 by omega) with rfl | rfl | rfl | rfl | rfl | rfl
    · exact hts _ mw_3_210
    · exact hts _ mw_4_202
    · exact hts _ mw_4_204
    · exact hts _ mw_4_208
    · exact hts _ mw_4_209
    · exact hts _ mw_4_210
  have hKK : ZK kk kv (fun q : Nat => s.heap.size ≤ q) s s.heap := fun i hi => by
    obtain ⟨u1, u2, u3, u4⟩ := hk1.1 i hi
    rw [(hk3 i hi).1] at u4
    exact ⟨⟨u1, u2, u3, u4.cong (fun j hj => congrArg Value.int ((hk3 i hi).2 j hj))⟩, vk_R.of (hk4 i hi) (hk2 i hi)⟩
  have hZb : ZI b L xs (fun q : Nat => s.heap.size ≤ q) s s.heap := by
    obtain ⟨cell, x1, x2, x3, x4, x5⟩ := hX
    exact ⟨cell, x1, x2, x3, by rw [x4]; exact Nat.le_refl _, by rw [x4], x5, hA' b hbl⟩
  have hC8 : LC8 p s m b meth c D cyI cyJ cyB cyQ G g kk kv L xs (fun q : Nat => s.heap.size ≤ q) := ⟨⟨⟨hx, hb, hml, hown, htx⟩, hr, hlocks, hK4, hA, ⟨hT, hov, hJ, hKK, hZb, hov⟩⟩, fun q hq => hq, hL⟩
  have Cx : xc_C p s m #[Value.ref b] meth c code 28 RL ret D xcl [(cyI, .int), (cyJ, .long)] G (fun q : Nat => s.heap.size ≤ q) := ⟨⟨hx, hb, hml, hown, htx⟩, hr, hlocks, hK, hA, hT⟩
  have hS : va_S (fun q : Nat => s.heap.size ≤ q) s.heap s.heap [] := va_S.rf
  have hP : va_P D xcl [] s.heap := fun k q h => by simp at h
  have hD : va_D (fun q : Nat => s.heap.size ≤ q) [] := ⟨fun i j p q h => by simp at h, fun k q h => by simp at h⟩
  have hl := lv_entry ([.ref b]) (n := 28) (Nat.le_of_ble_eq_true rfl)
  rw [lg_entry_eq]
  generalize (lg_sl ([.ref b]) ++ List.replicate (28 - (lg_sl ([.ref b])).length) Slot.unset).toArray = ls at hl ⊢
  have hl : lv_has ls 28 [(0, .ref b)] := hl
  refine va_new (ci := 9) (fs := [.null, .null, .null, .null, .null, .null, .null, .null, .null, .null]) (C := RX9) (T := TX9) (N := 10) hx hb htx wX9_in tyX9 tyX9_ok hown (htx _ mw_1_22) (htx _ mw_1_23) (htx _ mw_1_1) hK hP hD hS hA rfl (fun j hj => by rcases (show j = 0 ∨ j = 1 ∨ j = 2 ∨ j = 3 ∨ j = 4 ∨ j = 5 ∨ j = 6 ∨ j = 7 ∨ j = 8 ∨ j = 9 by omega) with rfl | rfl | rfl | rfl | rfl | rfl | rfl | rfl | rfl | rfl <;> rfl) (Nat.le_of_ble_eq_true rfl) (Nat.le_of_ble_eq_true rfl) dL_law_0 (fun h_0 H hP hD hS => ?_)
  have hP : va_P D xcl [(h_0, .inr (9, [.null, .null, .null, .null, .null, .null, .null, .null, .null, .null]))] H := hP
  have hD : va_D (fun q : Nat => s.heap.size ≤ q) [(h_0, .inr (9, [.null, .null, .null, .null, .null, .null, .null, .null, .null, .null]))] := hD
  refine lv_dup hx hb dL_law_3 rfl ?_
  refine xn_v (S := Nat × Nat × Nat × Nat × Nat × Nat × Nat × Nat × Nat × Nat × Nat × Nat × Nat × Nat × Nat × Nat × Nat × Nat × Nat × Nat × Nat × Nat × Nat × Nat × Nat × Nat × Nat) (ws1 := fun u => [(h_0, .inr (9, [.ref (u.2.1), .ref (u.2.2.2.2.2.2.2.1), .ref (u.2.2.2.2.2.2.2.2.2.2.2.1), .ref (u.2.2.2.2.2.2.2.2.2.2.2.2.1), .ref (u.2.2.2.2.2.2.2.2.2.2.2.2.2.2.1), .ref (u.2.2.2.2.2.2.2.2.2.2.2.2.2.2.2.2.1), .ref (u.2.2.2.2.2.2.2.2.2.2.2.2.2.2.2.2.2.2.2.2.1), .ref (u.2.2.2.2.2.2.2.2.2.2.2.2.2.2.2.2.2.2.2.2.2.2.1), .ref (u.2.2.2.2.2.2.2.2.2.2.2.2.2.2.2.2.2.2.2.2.2.2.2.2.1), .ref (u.1)])), (u.1, .inl (cyI, 7, .inl (σ.1))), (u.2.1, .inr (7, [.ref (u.2.2.1), .ref (u.2.2.2.1), .ref (u.2.2.2.2.1), .ref (u.2.2.2.2.2.1), .ref (u.2.2.2.2.2.2.1)])), (u.2.2.1, .inl (cyI, 536, .inl (tz_R))), (u.2.2.2.1, .inl (cyI, 67, .inl (tz_L))), (u.2.2.2.2.1, .inl (cyI, 67, .inl (tz_S))), (u.2.2.2.2.2.1, .inl (cyI, 67, .inl (tz_T))), (u.2.2.2.2.2.2.1, .inl (cyI, 67, .inl (tz_O))), (u.2.2.2.2.2.2.2.1, .inr (6, [.ref (u.2.1), .ref (u.2.2.2.2.2.2.2.2.1), .ref (u.2.2.2.2.2.2.2.2.2.1), .ref (u.2.2.2.2.2.2.2.2.2.2.1)])), (u.2.2.2.2.2.2.2.2.1, .inl (cyI, 536, .inl (tz_H))), (u.2.2.2.2.2.2.2.2.2.1, .inl (cyI, 536, .inl (tz_F))), (u.2.2.2.2.2.2.2.2.2.2.1, .inl (cyI, 536, .inl (tz_E))), (u.2.2.2.2.2.2.2.2.2.2.2.1, .inr (2, [.ref (u.2.1)])), (u.2.2.2.2.2.2.2.2.2.2.2.2.1, .inr (1, [.ref (u.2.1), .ref (u.2.2.2.2.2.2.2.2.2.2.2.2.2.1)])), (u.2.2.2.2.2.2.2.2.2.2.2.2.2.1, .inl (cyI, 1474, .inl (tz_C))), (u.2.2.2.2.2.2.2.2.2.2.2.2.2.2.1, .inr (5, [.ref (u.2.1), .ref (u.2.2.2.2.2.2.2.2.2.2.2.2.1), .ref (u.2.2.2.2.2.2.2.2.2.2.2.2.2.2.2.1)])), (u.2.2.2.2.2.2.2.2.2.2.2.2.2.2.2.1, .inl (cyI, 3125, .inl (σ.2.1))), (u.2.2.2.2.2.2.2.2.2.2.2.2.2.2.2.2.1, .inr (8, [.ref (u.2.2.2.2.2.2.2.2.2.2.2.2.2.2.2.2.2.1), .ref (u.2.2.2.2.2.2.2.2.2.2.2.2.2.2.2.2.2.2.1), .ref (u.2.2.2.2.2.2.2.2.2.2.2.2.2.2.2.2.2.2.2.1), .int (σ.2.2.2.2.2.1), .int (σ.2.2.2.2.2.2.1), .int (σ.2.2.2.2.2.2.2.1)])), (u.2.2.2.2.2.2.2.2.2.2.2.2.2.2.2.2.2.1, .inl (cyI, 17, .inl (σ.2.2.1))), (u.2.2.2.2.2.2.2.2.2.2.2.2.2.2.2.2.2.2.1, .inl (cyI, 374, .inl (σ.2.2.2.1))), (u.2.2.2.2.2.2.2.2.2.2.2.2.2.2.2.2.2.2.2.1, .inl (cyI, 8, .inl (σ.2.2.2.2.1))), (u.2.2.2.2.2.2.2.2.2.2.2.2.2.2.2.2.2.2.2.2.1, .inr (0, [.ref (u.2.1), .ref (u.2.2.2.2.2.2.2.1), .ref (u.2.2.2.2.2.2.2.2.2.2.2.2.1), .ref (u.2.2.2.2.2.2.2.2.2.2.2.2.2.2.1), .ref (u.2.2.2.2.2.2.2.2.2.2.2.2.2.2.2.2.1), .ref (u.2.2.2.2.2.2.2.2.2.2.2.2.2.2.2.2.2.2.2.2.2.1)])), (u.2.2.2.2.2.2.2.2.2.2.2.2.2.2.2.2.2.2.2.2.2.1, .inl (cyJ, 22, .inr (.inl (σ.2.2.2.2.2.2.2.2.1)))), (u.2.2.2.2.2.2.2.2.2.2.2.2.2.2.2.2.2.2.2.2.2.2.1, .inr (3, [.ref (u.2.1), .ref (u.2.2.2.2.2.2.2.2.2.2.2.2.2.2.2.2.1), .ref (u.2.2.2.2.2.2.2.2.2.2.2.2.2.2.2.2.2.2.2.2.2.2.2.1), .int (σ.2.2.2.2.2.2.2.2.2.2.1), .int (σ.2.2.2.2.2.2.2.2.2.2.2.1), .int (σ.2.2.2.2.2.2.2.2.2.2.2.2.1)])), (u.2.2.2.2.2.2.2.2.2.2.2.2.2.2.2.2.2.2.2.2.2.2.2.1, .inl (cyI, 72, .inl (σ.2.2.2.2.2.2.2.2.2.1))), (u.2.2.2.2.2.2.2.2.2.2.2.2.2.2.2.2.2.2.2.2.2.2.2.2.1, .inr (4, [.ref (u.2.2.2.2.2.2.2.2.2.2.2.2.2.2.2.2.2.2.2.2.2.2.2.2.2.1), .ref (u.2.2.2.2.2.2.2.2.2.2.2.2.2.2.2.2.2.2.2.2.2.2.2.2.2.2)])), (u.2.2.2.2.2.2.2.2.2.2.2.2.2.2.2.2.2.2.2.2.2.2.2.2.2.1, .inl (cyI, 120, .inl (σ.2.2.2.2.2.2.2.2.2.2.2.2.2.1))), (u.2.2.2.2.2.2.2.2.2.2.2.2.2.2.2.2.2.2.2.2.2.2.2.2.2.2, .inl (cyI, 3, .inl (σ.2.2.2.2.2.2.2.2.2.2.2.2.2.2)))]) (As := []) (rest := [.ref h_0]) Cx hP hD hS hl ⟨[], [0], [], [0, 1, 2, 3, 4, 5, 6, 7, 8, 9, 10, 11, 12, 13, 14, 15, 16, 17, 18, 19, 20, 21, 22, 23, 24, 25, 26, 27], rfl, rfl, rfl, rfl, by decide, fun _ => rfl, rfl⟩ (c_X9_init l D cyI cyJ G h_0 H.size σ.1 tz_R tz_L tz_S tz_T tz_O tz_H tz_F tz_E tz_C σ.2.1 σ.2.2.1 σ.2.2.2.1 σ.2.2.2.2.1 σ.2.2.2.2.2.1 σ.2.2.2.2.2.2.1 σ.2.2.2.2.2.2.2.1 σ.2.2.2.2.2.2.2.2.1 σ.2.2.2.2.2.2.2.2.2.1 σ.2.2.2.2.2.2.2.2.2.2.1 σ.2.2.2.2.2.2.2.2.2.2.2.1 σ.2.2.2.2.2.2.2.2.2.2.2.2.1 σ.2.2.2.2.2.2.2.2.2.2.2.2.2.1 σ.2.2.2.2.2.2.2.2.2.2.2.2.2.2 h9) pk_X9_init mw_1_24 ⟨rfl, rfl, Nat.le_of_ble_eq_true rfl, Nat.le_of_ble_eq_true rfl⟩ rfl rfl (Nat.le_of_ble_eq_true rfl) ⟨Nat.le_of_ble_eq_true rfl, Nat.le_of_ble_eq_true rfl⟩ dL_law_4 (fun u_4 H locs hP hD hS => ?_)
  obtain ⟨h_1, h_2, h_3, h_4, h_5, h_6, h_7, h_8, h_9, h_10, h_11, h_12, h_13, h_14, h_15, h_16, h_17, h_18, h_19, h_20, h_21, h_22, h_23, h_24, h_25, h_26, h_27⟩ := u_4
  refine lv_astore_n (lv' := [(1, .ref h_0), (0, .ref b)]) hx hb dL_law_7 rfl hl (by decide) rfl (fun ls hl => ?_)
  have hP : va_P D xcl (wdS (x_ad [h_0, h_1, h_2, h_3, h_4, h_5, h_6, h_7, h_8, h_9, h_10, h_11, h_12, h_13, h_14, h_15, h_16, h_17, h_18, h_19, h_20, h_21, h_22, h_23, h_24, h_25, h_26, h_27]) cyI cyJ σ ++ []) H := by rw [List.append_nil]; exact xq_pick hP [0, 1, 2, 3, 4, 5, 6, 7, 8, 9, 10, 11, 12, 13, 14, 15, 16, 17, 18, 19, 20, 21, 22, 23, 24, 25, 26, 27] rfl
  have hD : va_D (fun q : Nat => s.heap.size ≤ q) (wdS (x_ad [h_0, h_1, h_2, h_3, h_4, h_5, h_6, h_7, h_8, h_9, h_10, h_11, h_12, h_13, h_14, h_15, h_16, h_17, h_18, h_19, h_20, h_21, h_22, h_23, h_24, h_25, h_26, h_27]) cyI cyJ σ ++ []) := by rw [List.append_nil]; exact hD.sub [0, 1, 2, 3, 4, 5, 6, 7, 8, 9, 10, 11, 12, 13, 14, 15, 16, 17, 18, 19, 20, 21, 22, 23, 24, 25, 26, 27] rfl rfl
  refine W.widen (k := 28) (n := 7679) (Nat.le_of_ble_eq_true rfl) (Nat.le_of_ble_eq_true rfl) ?_
  exact law_8 (a := (x_ad [h_0, h_1, h_2, h_3, h_4, h_5, h_6, h_7, h_8, h_9, h_10, h_11, h_12, h_13, h_14, h_15, h_16, h_17, h_18, h_19, h_20, h_21, h_22, h_23, h_24, h_25, h_26, h_27])) hC8 hR hP hD hS (lv_sub hl [1, 0] rfl)
