theorem pk_J0_coder_7d493 : xk_V RJ0 yJ0_coder_7d493 cJ0_coder_7d493 1 (some .byte) 0 := ⟨mw_4_79, mw_4_80, mw_1_16, mw_4_81, by decide +kernel⟩
theorem pk_J0_isLatin1_aae02 : xk_V RJ0 yJ0_isLatin1_aae02 cJ0_isLatin1_aae02 1 (some .boolean) 0 := ⟨mw_4_216, mw_4_217, mw_1_16, mw_4_218, by decide +kernel⟩
theorem pk_J0_length_8abf5 : xk_V RJ0 yJ0_length_8abf5 cJ0_length_8abf5 1 (some .int) 0 := ⟨mw_4_75, mw_4_76, mw_1_16, mw_4_77, by decide +kernel⟩
theorem pk_J3_checkIndex_8e157 : xk_S yJ3_checkIndex_8e157 cJ3_checkIndex_8e157 3 (some .int) 3 := ⟨mw_4_226, mw_1_20, mw_4_227, by decide +kernel⟩
theorem pk_J0_checkIndex_df160 : xk_S yJ0_checkIndex_df160 cJ0_checkIndex_df160 2 none 2 := ⟨mw_4_223, mw_1_16, mw_4_224, by decide +kernel⟩
theorem pk_J1_charAt_3b067 : xk_S yJ1_charAt_3b067 cJ1_charAt_3b067 2 (some .char) 2 := ⟨mw_4_220, mw_1_21, mw_4_221, by decide +kernel⟩
theorem pk_J0_charAt_5068e : xk_V RJ0 yJ0_charAt_5068e cJ0_charAt_5068e 2 (some .char) 1 := ⟨mw_4_212, mw_4_213, mw_1_16, mw_4_214, by decide +kernel⟩
theorem pk_J8_newLength_cabcc : xk_S yJ8_newLength_cabcc cJ8_newLength_cabcc 4 (some .int) 3 := ⟨mw_4_23, mw_1_18, mw_4_24, by decide +kernel⟩
theorem pk_J7_copyOf_9075b : xk_S yJ7_copyOf_9075b cJ7_copyOf_9075b 3 (some (.array .byte)) 2 := ⟨mw_4_32, mw_1_19, mw_4_33, by decide +kernel⟩
theorem pk_J0_getBytes_840e7 : xk_V RJ0 yJ0_getBytes_840e7 cJ0_getBytes_840e7 4 none 3 := ⟨mw_4_112, mw_4_113, mw_1_16, mw_4_114, by decide +kernel⟩
theorem pk_J4_append_15ec4 : xk_V RJ4 yJ4_append_15ec4 cJ4_append_15ec4 2 (some (.object "java/lang/StringBuilder")) 1 := ⟨mw_4_4, mw_4_5, mw_1_15, mw_4_6, by decide +kernel⟩
theorem pk_J6_stringSize_0f7a4 : xk_S yJ6_stringSize_0f7a4 cJ6_stringSize_0f7a4 4 (some .int) 1 := ⟨mw_4_125, mw_1_13, mw_4_126, by decide +kernel⟩
theorem pk_J6_getChars_ba4f3 : xk_S yJ6_getChars_ba4f3 cJ6_getChars_ba4f3 7 (some .int) 3 := ⟨mw_4_128, mw_1_13, mw_4_129, by decide +kernel⟩
theorem pk_J4_append_bf812 : xk_V RJ4 yJ4_append_bf812 cJ4_append_bf812 2 (some (.object "java/lang/StringBuilder")) 1 := ⟨mw_4_118, mw_4_119, mw_1_15, mw_4_120, by decide +kernel⟩
theorem pk_J5_init_d00df : xk_I yJ5_init_d00df cJ5_init_d00df 2 1 := ⟨mw_3_217, mw_1_14, mw_3_218, rfl, by decide +kernel⟩
theorem pk_J4_init_da8c8 : xk_I yJ4_init_da8c8 cJ4_init_da8c8 1 0 := ⟨mw_3_214, mw_1_15, mw_3_215, rfl, by decide +kernel⟩
theorem pk_J7_checkLength_df160 : xk_S yJ7_checkLength_df160 cJ7_checkLength_df160 2 none 2 := ⟨mw_4_176, mw_1_19, mw_4_177, by decide +kernel⟩
theorem pk_J7_copyOfRangeByte_39247 : xk_S yJ7_copyOfRangeByte_39247 cJ7_copyOfRangeByte_39247 5 (some (.array .byte)) 3 := ⟨mw_4_173, mw_1_19, mw_4_174, by decide +kernel⟩
theorem pk_J7_copyOfRange_39247 : xk_S yJ7_copyOfRange_39247 cJ7_copyOfRange_39247 3 (some (.array .byte)) 3 := ⟨mw_4_170, mw_1_19, mw_4_171, by decide +kernel⟩
theorem pk_J0_init_db425 : xk_I yJ0_init_db425 cJ0_init_db425 5 2 := ⟨mw_4_152, mw_1_16, mw_4_153, rfl, by decide +kernel⟩
theorem pk_J0_init_81219 : xk_I yJ0_init_81219 cJ0_init_81219 2 1 := ⟨mw_4_149, mw_1_16, mw_4_150, rfl, by decide +kernel⟩
theorem pk_J4_toString_0e30d : xk_V RJ4 yJ4_toString_0e30d cJ4_toString_0e30d 1 (some (.object "java/lang/String")) 0 := ⟨mw_4_143, mw_4_144, mw_1_15, mw_4_145, by decide +kernel⟩
theorem pk_J6_bitCount_0f7a4 : xk_S yJ6_bitCount_0f7a4 cJ6_bitCount_0f7a4 1 (some .int) 1 := ⟨mw_3_195, mw_1_13, mw_3_196, by decide +kernel⟩
set_option maxHeartbeats 4000000 in
set_option maxRecDepth 20000 in
theorem c_J0_coder_7d493 (l : Launch) (D : va_G) (cyI cyJ cyB cyQ : ClassId) (g : Nat → Nat) (sz : Nat) (a1 v1 n1 : Nat) (f1 : Nat → Int32) : ym_i (S := Unit) l yJ0_coder_7d493 (Cond.code yJ0_coder_7d493 cJ0_coder_7d493 1 (some .byte) :: xg_tbl) { frames := 0, cells := 0, slots := 0, locals := 0 } D xcl (ytys cyI cyJ cyB cyQ) (fun A U H => ZJ g A U H ∧ ZS a1 v1 n1 f1 A U H) sz [.ref a1] [] (fun r _ => r = 0) (fun _ => []) 0 0 := by
  refine ym_of (own := RJ0) (by decide) rfl rfl (Nat.le_of_ble_eq_true rfl) ?_
  intro p e s m args below meth c ls Q A H hQ hAe hH hin Cx hsz hP hD hS hl
  have Cx1 := Cx
  obtain ⟨⟨hx, hb, hml, hown, hts⟩, hr, hlocks, hK, hA, hT⟩ := Cx1
  have hl : lv_has ls 1 [(0, .ref a1)] := hl
  refine va_gets hx hb hT.1.1 hS hown (hts _ mw_4_82) (fun _ h9 => h9) dJ0_coder_7d493_0 ?_
  refine lv_if_eq (tgt := 13) hx hb dJ0_coder_7d493_3 (by decide) (fun hc => absurd hc (show ¬ (1 : Int32) = 0 by decide)) (fun _ => ?_)
  refine lv_aload_n hx hb dJ0_coder_7d493_6 rfl (lv_at hl 0 rfl) ?_
  refine yf_get hx hb (va_OF.kept hT.2.2.1 hS.2.1) hown (hts _ mw_4_192) (fun _ h9 => h9) dJ0_coder_7d493_7 ?_
  refine lv_goto (tgt := 14) hx hb dJ0_coder_7d493_10 (by decide) ?_
  subst hAe
  rw [← hQ]
  exact ye_iret (post := (fun r _ => r = 0)) (w1 := (fun _ => [])) () Cx (by exact rfl) rfl hP hD hS dJ0_coder_7d493_14
set_option maxHeartbeats 4000000 in
set_option maxRecDepth 20000 in
theorem c_J0_isLatin1_aae02 (l : Launch) (D : va_G) (cyI cyJ cyB cyQ : ClassId) (g : Nat → Nat) (sz : Nat) (a1 v1 n1 : Nat) (f1 : Nat → Int32) : ym_i (S := Unit) l yJ0_isLatin1_aae02 (Cond.code yJ0_isLatin1_aae02 cJ0_isLatin1_aae02 1 (some .boolean) :: xg_tbl) { frames := 0, cells := 0, slots := 0, locals := 0 } D xcl (ytys cyI cyJ cyB cyQ) (fun A U H => ZJ g A U H ∧ ZS a1 v1 n1 f1 A U H) sz [.ref a1] [] (fun r _ => r = 1) (fun _ => []) 0 0 := by
  refine ym_of (own := RJ0) (by decide) rfl rfl (Nat.le_of_ble_eq_true rfl) ?_
  intro p e s m args below meth c ls Q A H hQ hAe hH hin Cx hsz hP hD hS hl
  have Cx1 := Cx
  obtain ⟨⟨hx, hb, hml, hown, hts⟩, hr, hlocks, hK, hA, hT⟩ := Cx1
  have hl : lv_has ls 1 [(0, .ref a1)] := hl
  refine va_gets hx hb hT.1.1 hS hown (hts _ mw_4_82) (fun _ h9 => h9) dJ0_isLatin1_aae02_0 ?_
  refine lv_if_eq (tgt := 17) hx hb dJ0_isLatin1_aae02_3 (by decide) (fun hc => absurd hc (show ¬ (1 : Int32) = 0 by decide)) (fun _ => ?_)
  refine lv_aload_n hx hb dJ0_isLatin1_aae02_6 rfl (lv_at hl 0 rfl) ?_
  refine yf_get hx hb (va_OF.kept hT.2.2.1 hS.2.1) hown (hts _ mw_4_192) (fun _ h9 => h9) dJ0_isLatin1_aae02_7 ?_
  refine lv_if_ne (tgt := 17) hx hb dJ0_isLatin1_aae02_10 (by decide) (fun hc => absurd rfl hc) (fun _ => ?_)
  refine lv_iconst (v := (1 : Int32)) hx hb dJ0_isLatin1_aae02_13 (by decide) ?_
  refine lv_goto (tgt := 18) hx hb dJ0_isLatin1_aae02_14 (by decide) ?_
  subst hAe
  rw [← hQ]
  exact ye_iret (post := (fun r _ => r = 1)) (w1 := (fun _ => [])) () Cx (by exact rfl) rfl hP hD hS dJ0_isLatin1_aae02_18
set_option maxHeartbeats 4000000 in
set_option maxRecDepth 20000 in
theorem c_J0_length_8abf5 (l : Launch) (D : va_G) (cyI cyJ cyB cyQ : ClassId) (g : Nat → Nat) (sz : Nat) (a1 v1 n1 : Nat) (f1 : Nat → Int32) : ym_i (S := Unit) l yJ0_length_8abf5 (Cond.code yJ0_length_8abf5 cJ0_length_8abf5 1 (some .int) :: xg_tbl) { frames := 1, cells := 0, slots := 0, locals := 20 } D xcl (ytys cyI cyJ cyB cyQ) (fun A U H => ZJ g A U H ∧ ZS a1 v1 n1 f1 A U H) sz [.ref a1] [] (fun r _ => r = nI n1) (fun _ => []) 0 0 := by
  refine ym_of (own := RJ0) (by decide) rfl rfl (Nat.le_of_ble_eq_true rfl) ?_
  intro p e s m args below meth c ls Q A H hQ hAe hH hin Cx hsz hP hD hS hl
  have Cx1 := Cx
  obtain ⟨⟨hx, hb, hml, hown, hts⟩, hr, hlocks, hK, hA, hT⟩ := Cx1
  have hl : lv_has ls 1 [(0, .ref a1)] := hl
  refine lv_aload_n hx hb dJ0_length_8abf5_0 rfl (lv_at hl 0 rfl) ?_
  refine yf_get hx hb (va_OF.kept hT.2.2.2.1 hS.2.1) hown (hts _ mw_4_191) (fun _ h9 => h9) dJ0_length_8abf5_1 ?_
  refine yf_len hx hb (va_T.kept hT.2.2.2.2 hS.2.1) dJ0_length_8abf5_4 ?_
  refine lv_aload_n hx hb dJ0_length_8abf5_5 rfl (lv_at hl 0 rfl) ?_
  refine yr_i Cx hP hD hS (yq_none (S := Unit) []) (yx_V (n := 0) (As := []) (rest := [.int (nI n1)]) Cx hP hD hS hl (yq_none (S := Unit) []) hK (fz_and (fz_ZJ g) (fz_ZS a1 v1 n1 f1)) (fun hF => (fz_give (fz_and (fz_ZJ g) (fz_ZS a1 v1 n1 f1)) hT hS hF)) (c_J0_coder_7d493 l D cyI cyJ cyB cyQ g H.size a1 v1 n1 f1) pk_J0_coder_7d493 mw_4_78 ⟨rfl, rfl, Nat.le_of_ble_eq_true rfl, Nat.le_of_ble_eq_true rfl⟩ (y_recvO (va_O.kept hT.2.1 hS.2.1)) rfl rfl (Nat.le_of_ble_eq_true rfl) ⟨Nat.le_of_ble_eq_true rfl, Nat.le_of_ble_eq_true rfl⟩ dJ0_length_8abf5_6) (fun r_1 u H locs hp hP hD hS => ?_)
  have hP : va_P D xcl [] H := hP
  have hD : va_D A [] := hD
  subst hp
  refine lv_ishr hx hb dJ0_length_8abf5_9 ?_
  subst hAe
  rw [← hQ]
  exact ye_iret (post := (fun r _ => r = nI n1)) (w1 := (fun _ => [])) () Cx (by exact (sb_shr0 _)) rfl hP hD hS dJ0_length_8abf5_10
set_option maxHeartbeats 4000000 in
set_option maxRecDepth 20000 in
theorem c_J3_checkIndex_8e157_n (l : Launch) (D : va_G) (cyI cyJ cyB cyQ : ClassId) (g : Nat → Nat) (sz : Nat) (x1 x2 : Int32) (h0 : ¬ x1 < 0) (h1 : x1 < x2) : ym_i (S := Unit) l yJ3_checkIndex_8e157 (Cond.code yJ3_checkIndex_8e157 cJ3_checkIndex_8e157 3 (some .int) :: xg_tbl) { frames := 0, cells := 0, slots := 0, locals := 0 } D xcl (ytys cyI cyJ cyB cyQ) (ZJ g) sz [.int x1, .int x2, .null] [] (fun r _ => r = x1) (fun _ => []) 0 0 := by
  refine ym_of (own := RJ3) (by decide) rfl rfl (Nat.le_of_ble_eq_true rfl) ?_
  intro p e s m args below meth c ls Q A H hQ hAe hH hin Cx hsz hP hD hS hl
  have Cx1 := Cx
  obtain ⟨⟨hx, hb, hml, hown, hts⟩, hr, hlocks, hK, hA, hT⟩ := Cx1
  have hl : lv_has ls 3 [(0, .int x1), (1, .int x2), (2, .null)] := hl
  refine lv_iload_n hx hb dJ3_checkIndex_8e157_0 rfl (lv_at hl 0 rfl) ?_
  refine lv_if_lt (tgt := 9) hx hb dJ3_checkIndex_8e157_1 (by decide) (fun hc => absurd hc h0) (fun _ => ?_)
  refine lv_iload_n hx hb dJ3_checkIndex_8e157_4 rfl (lv_at hl 0 rfl) ?_
  refine lv_iload_n hx hb dJ3_checkIndex_8e157_5 rfl (lv_at hl 1 rfl) ?_
  refine lv_icmp_lt (tgt := 16) hx hb dJ3_checkIndex_8e157_6 (by decide) (fun _ => ?_) (fun hc => absurd h1 hc)
  refine lv_iload_n hx hb dJ3_checkIndex_8e157_16 rfl (lv_at hl 0 rfl) ?_
  subst hAe
  rw [← hQ]
  exact ye_iret (post := (fun r _ => r = x1)) (w1 := (fun _ => [])) () Cx (by exact rfl) rfl hP hD hS dJ3_checkIndex_8e157_17
set_option maxHeartbeats 4000000 in
set_option maxRecDepth 20000 in
theorem c_J3_checkIndex_8e157_r (l : Launch) (D : va_G) (cyI cyJ cyB cyQ : ClassId) (g : Nat → Nat) (sz : Nat) (t9 : Nat) (x1 x2 : Int32) (h0 : ¬ x1 < 0) (h1 : x1 < x2) : ym_i (S := Unit) l yJ3_checkIndex_8e157 (Cond.code yJ3_checkIndex_8e157 cJ3_checkIndex_8e157 3 (some .int) :: xg_tbl) { frames := 0, cells := 0, slots := 0, locals := 0 } D xcl (ytys cyI cyJ cyB cyQ) (ZJ g) sz [.int x1, .int x2, (.ref t9)] [] (fun r _ => r = x1) (fun _ => []) 0 0 := by
  refine ym_of (own := RJ3) (by decide) rfl rfl (Nat.le_of_ble_eq_true rfl) ?_
  intro p e s m args below meth c ls Q A H hQ hAe hH hin Cx hsz hP hD hS hl
  have Cx1 := Cx
  obtain ⟨⟨hx, hb, hml, hown, hts⟩, hr, hlocks, hK, hA, hT⟩ := Cx1
  have hl : lv_has ls 3 [(0, .int x1), (1, .int x2), (2, (.ref t9))] := hl
  refine lv_iload_n hx hb dJ3_checkIndex_8e157_0 rfl (lv_at hl 0 rfl) ?_
  refine lv_if_lt (tgt := 9) hx hb dJ3_checkIndex_8e157_1 (by decide) (fun hc => absurd hc h0) (fun _ => ?_)
  refine lv_iload_n hx hb dJ3_checkIndex_8e157_4 rfl (lv_at hl 0 rfl) ?_
  refine lv_iload_n hx hb dJ3_checkIndex_8e157_5 rfl (lv_at hl 1 rfl) ?_
  refine lv_icmp_lt (tgt := 16) hx hb dJ3_checkIndex_8e157_6 (by decide) (fun _ => ?_) (fun hc => absurd h1 hc)
  refine lv_iload_n hx hb dJ3_checkIndex_8e157_16 rfl (lv_at hl 0 rfl) ?_
  subst hAe
  rw [← hQ]
  exact ye_iret (post := (fun r _ => r = x1)) (w1 := (fun _ => [])) () Cx (by exact rfl) rfl hP hD hS dJ3_checkIndex_8e157_17
set_option maxHeartbeats 4000000 in
set_option maxRecDepth 20000 in
theorem c_J0_checkIndex_df160 (l : Launch) (D : va_G) (cyI cyJ cyB cyQ : ClassId) (g : Nat → Nat) (sz : Nat) (x1 x2 : Int32) (h0 : ¬ x1 < 0) (h1 : x1 < x2) : ym_v (S := Unit) l yJ0_checkIndex_df160 (Cond.code yJ0_checkIndex_df160 cJ0_checkIndex_df160 2 none :: xg_tbl) { frames := 1, cells := 0, slots := 0, locals := 22 } D xcl (ytys cyI cyJ cyB cyQ) (ZJ g) sz [.int x1, .int x2] [] (fun _ => True) (fun _ => []) 0 0 := by
  refine ym_of (own := RJ0) (by decide) rfl rfl (Nat.le_of_ble_eq_true rfl) ?_
  intro p e s m args below meth c ls Q A H hQ hAe hH hin Cx hsz hP hD hS hl
  have Cx1 := Cx
  obtain ⟨⟨hx, hb, hml, hown, hts⟩, hr, hlocks, hK, hA, hT⟩ := Cx1
  have hl : lv_has ls 2 [(0, .int x1), (1, .int x2)] := hl
  refine lv_iload_n hx hb dJ0_checkIndex_df160_0 rfl (lv_at hl 0 rfl) ?_
  refine lv_iload_n hx hb dJ0_checkIndex_df160_1 rfl (lv_at hl 1 rfl) ?_
  rcases hT.2.2.2.2.2.1 with hz9 | ⟨t9, hz9⟩
  · refine va_gets hx hb hz9 hS hown (hts _ mw_4_60) (fun _ h9 => h9) dJ0_checkIndex_df160_2 ?_
    refine yr_i Cx hP hD hS (yq_none (S := Unit) []) (yx_S (n := 3) (As := [.int x1, .int x2, .null]) (rest := []) Cx hP hD hS hl (yq_none (S := Unit) []) hK (fz_ZJ g) (fun hF => (fz_give (fz_ZJ g) hT hS hF)) (c_J3_checkIndex_8e157_n l D cyI cyJ cyB cyQ g H.size x1 x2 h0 h1) pk_J3_checkIndex_8e157 mw_4_225 ⟨rfl, rfl, Nat.le_of_ble_eq_true rfl, Nat.le_of_ble_eq_true rfl⟩ rfl rfl (Nat.le_of_ble_eq_true rfl) ⟨Nat.le_of_ble_eq_true rfl, Nat.le_of_ble_eq_true rfl⟩ dJ0_checkIndex_df160_5) (fun r_1 u H locs hp hP hD hS => ?_)
    have hP : va_P D xcl [] H := hP
    have hD : va_D A [] := hD
    refine lv_pop hx hb dJ0_checkIndex_df160_8 rfl ?_
    subst hAe
    rw [← hQ]
    exact ye_vret (post := (fun _ => True)) (w1 := (fun _ => [])) () Cx (by exact trivial) hP hD hS dJ0_checkIndex_df160_9
  · refine va_gets hx hb hz9 hS hown (hts _ mw_4_60) (fun _ h9 => h9) dJ0_checkIndex_df160_2 ?_
    refine yr_i Cx hP hD hS (yq_none (S := Unit) []) (yx_S (n := 3) (As := [.int x1, .int x2, .ref t9]) (rest := []) Cx hP hD hS hl (yq_none (S := Unit) []) hK (fz_ZJ g) (fun hF => (fz_give (fz_ZJ g) hT hS hF)) (c_J3_checkIndex_8e157_r l D cyI cyJ cyB cyQ g H.size t9 x1 x2 h0 h1) pk_J3_checkIndex_8e157 mw_4_225 ⟨rfl, rfl, Nat.le_of_ble_eq_true rfl, Nat.le_of_ble_eq_true rfl⟩ rfl rfl (Nat.le_of_ble_eq_true rfl) ⟨Nat.le_of_ble_eq_true rfl, Nat.le_of_ble_eq_true rfl⟩ dJ0_checkIndex_df160_5) (fun r_1 u H locs hp hP hD hS => ?_)
    have hP : va_P D xcl [] H := hP
    have hD : va_D A [] := hD
    refine lv_pop hx hb dJ0_checkIndex_df160_8 rfl ?_
    subst hAe
    rw [← hQ]
    exact ye_vret (post := (fun _ => True)) (w1 := (fun _ => [])) () Cx (by exact trivial) hP hD hS dJ0_checkIndex_df160_9
set_option maxHeartbeats 4000000 in
set_option maxRecDepth 20000 in
theorem c_J1_charAt_3b067 (l : Launch) (D : va_G) (cyI cyJ cyB cyQ : ClassId) (g : Nat → Nat) (sz : Nat) (v1 n1 : Nat) (f1 : Nat → Int32) (k ch : Nat) (hk : k < n1) (hn : n1 < 65536) (hc : ch < 256) (hf : f1 k = sb_b ch) : ym_i (S := Unit) l yJ1_charAt_3b067 (Cond.code yJ1_charAt_3b067 cJ1_charAt_3b067 2 (some .char) :: xg_tbl) { frames := 2, cells := 0, slots := 0, locals := 43 } D xcl (ytys cyI cyJ cyB cyQ) (fun A U H => ZJ g A U H ∧ va_T .byte v1 n1 (fun j => .int (f1 j)) A U H) sz [.ref v1, .int (nI k)] [] (fun r _ => r = nI ch) (fun _ => []) 0 0 := by
  refine ym_of (own := RJ1) (by decide) rfl rfl (Nat.le_of_ble_eq_true rfl) ?_
  intro p e s m args below meth c ls Q A H hQ hAe hH hin Cx hsz hP hD hS hl
  have Cx1 := Cx
  obtain ⟨⟨hx, hb, hml, hown, hts⟩, hr, hlocks, hK, hA, hT⟩ := Cx1
  have hl : lv_has ls 2 [(0, .ref v1), (1, .int (nI k))] := hl
  refine lv_iload_n hx hb dJ1_charAt_3b067_0 rfl (lv_at hl 1 rfl) ?_
  refine lv_aload_n hx hb dJ1_charAt_3b067_1 rfl (lv_at hl 0 rfl) ?_
  refine yf_len hx hb (va_T.kept hT.2 hS.2.1) dJ1_charAt_3b067_2 ?_
  refine yr_v Cx hP hD hS (yq_none (S := Unit) []) (yx_S (n := 2) (As := [.int (nI k), .int (nI n1)]) (rest := []) Cx hP hD hS hl (yq_none (S := Unit) []) hK (fz_ZJ g) (fun hF => (fz_give (fz_ZJ g) hT.1 hS hF)) (c_J0_checkIndex_df160 l D cyI cyJ cyB cyQ g H.size (nI k) (nI n1) (nI_pos (by omega)) (nI_lt hk (by omega))) pk_J0_checkIndex_df160 mw_4_222 ⟨rfl, rfl, Nat.le_of_ble_eq_true rfl, Nat.le_of_ble_eq_true rfl⟩ rfl rfl (Nat.le_of_ble_eq_true rfl) ⟨Nat.le_of_ble_eq_true rfl, Nat.le_of_ble_eq_true rfl⟩ dJ1_charAt_3b067_3) (fun u H locs hp hP hD hS => ?_)
  have hP : va_P D xcl [] H := hP
  have hD : va_D A [] := hD
  refine lv_aload_n hx hb dJ1_charAt_3b067_6 rfl (lv_at hl 0 rfl) ?_
  refine lv_iload_n hx hb dJ1_charAt_3b067_7 rfl (lv_at hl 1 rfl) ?_
  refine va_tb hx hb hT.2 hS (vp_in_nI hk (by omega)) (v := .int (sb_b ch)) (by rw [nI_clamp (by omega), hf]) dJ1_charAt_3b067_8 ?_
  refine lv_sipush (v := (255 : Int32)) hx hb dJ1_charAt_3b067_9 (by decide) ?_
  refine lv_iand hx hb dJ1_charAt_3b067_12 ?_
  refine lv_i2c (v := nI ch) hx hb dJ1_charAt_3b067_13 (by rw [(sb_byte ch hc).1]; exact (sb_byte ch hc).2.1) ?_
  subst hAe
  rw [← hQ]
  exact ye_iret (post := (fun r _ => r = nI ch)) (w1 := (fun _ => [])) () Cx (by exact rfl) (pk_charN (q := ch) (by omega)).1 hP hD hS dJ1_charAt_3b067_14
set_option maxHeartbeats 4000000 in
set_option maxRecDepth 20000 in
theorem c_J0_charAt_5068e (l : Launch) (D : va_G) (cyI cyJ cyB cyQ : ClassId) (g : Nat → Nat) (sz : Nat) (a1 v1 n1 : Nat) (f1 : Nat → Int32) (k ch : Nat) (hk : k < n1) (hn : n1 < 65536) (hc : ch < 256) (hf : f1 k = sb_b ch) : ym_i (S := Unit) l yJ0_charAt_5068e (Cond.code yJ0_charAt_5068e cJ0_charAt_5068e 2 (some .char) :: xg_tbl) { frames := 3, cells := 0, slots := 0, locals := 64 } D xcl (ytys cyI cyJ cyB cyQ) (fun A U H => ZJ g A U H ∧ ZS a1 v1 n1 f1 A U H) sz [.ref a1, .int (nI k)] [] (fun r _ => r = nI ch) (fun _ => []) 0 0 := by
  refine ym_of (own := RJ0) (by decide) rfl rfl (Nat.le_of_ble_eq_true rfl) ?_
  intro p e s m args below meth c ls Q A H hQ hAe hH hin Cx hsz hP hD hS hl
  have Cx1 := Cx
  obtain ⟨⟨hx, hb, hml, hown, hts⟩, hr, hlocks, hK, hA, hT⟩ := Cx1
  have hl : lv_has ls 2 [(0, .ref a1), (1, .int (nI k))] := hl
  refine lv_aload_n hx hb dJ0_charAt_5068e_0 rfl (lv_at hl 0 rfl) ?_
  refine yr_i Cx hP hD hS (yq_none (S := Unit) []) (yx_V (n := 0) (As := []) (rest := []) Cx hP hD hS hl (yq_none (S := Unit) []) hK (fz_and (fz_ZJ g) (fz_ZS a1 v1 n1 f1)) (fun hF => (fz_give (fz_and (fz_ZJ g) (fz_ZS a1 v1 n1 f1)) hT hS hF)) (c_J0_isLatin1_aae02 l D cyI cyJ cyB cyQ g H.size a1 v1 n1 f1) pk_J0_isLatin1_aae02 mw_4_215 ⟨rfl, rfl, Nat.le_of_ble_eq_true rfl, Nat.le_of_ble_eq_true rfl⟩ (y_recvO (va_O.kept hT.2.1 hS.2.1)) rfl rfl (Nat.le_of_ble_eq_true rfl) ⟨Nat.le_of_ble_eq_true rfl, Nat.le_of_ble_eq_true rfl⟩ dJ0_charAt_5068e_1) (fun r_1 u H locs hp hP hD hS => ?_)
  have hP : va_P D xcl [] H := hP
  have hD : va_D A [] := hD
  subst hp
  refine lv_if_eq (tgt := 16) hx hb dJ0_charAt_5068e_4 (by decide) (fun hc => absurd hc (show ¬ (1 : Int32) = 0 by decide)) (fun _ => ?_)
  refine lv_aload_n hx hb dJ0_charAt_5068e_7 rfl (lv_at hl 0 rfl) ?_
  refine yf_get hx hb (va_OF.kept hT.2.2.2.1 hS.2.1) hown (hts _ mw_4_191) (fun _ h9 => h9) dJ0_charAt_5068e_8 ?_
  refine lv_iload_n hx hb dJ0_charAt_5068e_11 rfl (lv_at hl 1 rfl) ?_
  refine yr_i Cx hP hD hS (yq_none (S := Unit) []) (yx_S (n := 2) (As := [.ref v1, .int (nI k)]) (rest := []) Cx hP hD hS hl (yq_none (S := Unit) []) hK (fz_and (fz_ZJ g) (fz_T .byte v1 n1 (fun j => .int (f1 j)))) (fun hF => ⟨fz_give (fz_ZJ g) hT.1 hS hF, (va_T.kept hT.2.2.2.2 hS.2.1).narrow hF⟩) (c_J1_charAt_3b067 l D cyI cyJ cyB cyQ g H.size v1 n1 f1 k ch hk hn hc hf) pk_J1_charAt_3b067 mw_4_219 ⟨rfl, rfl, Nat.le_of_ble_eq_true rfl, Nat.le_of_ble_eq_true rfl⟩ rfl rfl (Nat.le_of_ble_eq_true rfl) ⟨Nat.le_of_ble_eq_true rfl, Nat.le_of_ble_eq_true rfl⟩ dJ0_charAt_5068e_12) (fun r_2 u H locs hp hP hD hS => ?_)
  have hP : va_P D xcl [] H := hP
  have hD : va_D A [] := hD
  subst hp
  subst hAe
  rw [← hQ]
  exact ye_iret (post := (fun r _ => r = nI ch)) (w1 := (fun _ => [])) () Cx (by exact rfl) (pk_charN (q := ch) (by omega)).1 hP hD hS dJ0_charAt_5068e_15
set_option maxHeartbeats 4000000 in
set_option maxRecDepth 20000 in
theorem c_J5_isLatin1_aae02 (l : Launch) (D : va_G) (cyI cyJ cyB cyQ : ClassId) (g : Nat → Nat) (sz : Nat) (a b : Nat) (ml cnt : Int32) : ym_i (S := Unit) l yJ5_isLatin1_aae02 (Cond.code yJ5_isLatin1_aae02 cJ5_isLatin1_aae02 1 (some .boolean) :: xg_tbl) { frames := 0, cells := 0, slots := 0, locals := 0 } D xcl (ytys cyI cyJ cyB cyQ) (ZJ g) sz [.ref a] [(a, .inr (11, [.ref b, .int (0 : Int32), .int ml, .int cnt]))] (fun r _ => r = 1) (fun _ => [(a, .inr (11, [.ref b, .int (0 : Int32), .int ml, .int cnt]))]) 0 0 := by
  refine ym_of (own := RJ5) (by decide) rfl rfl (Nat.le_of_ble_eq_true rfl) ?_
  intro p e s m args below meth c ls Q A H hQ hAe hH hin Cx hsz hP hD hS hl
  have Cx1 := Cx
  obtain ⟨⟨hx, hb, hml, hown, hts⟩, hr, hlocks, hK, hA, hT⟩ := Cx1
  have hl : lv_has ls 1 [(0, .ref a)] := hl
  refine va_gets hx hb hT.1 hS hown (hts _ mw_3_220) (fun _ h9 => h9) dJ5_isLatin1_aae02_0 ?_
  refine lv_if_eq (tgt := 17) hx hb dJ5_isLatin1_aae02_3 (by decide) (fun hc => absurd hc (show ¬ (1 : Int32) = 0 by decide)) (fun _ => ?_)
  refine lv_aload_n hx hb dJ5_isLatin1_aae02_6 rfl (lv_at hl 0 rfl) ?_
  refine va_get (ci := 11) (v := .int (0 : Int32)) hx hb hts wJ4_in hown hK hP 0 rfl rfl 1 (by decide) (hts _ mw_3_230) (fun _ h9 => h9) rfl dJ5_isLatin1_aae02_7 ?_
  refine lv_if_ne (tgt := 17) hx hb dJ5_isLatin1_aae02_10 (by decide) (fun hc => absurd rfl hc) (fun _ => ?_)
  refine lv_iconst (v := (1 : Int32)) hx hb dJ5_isLatin1_aae02_13 (by decide) ?_
  refine lv_goto (tgt := 18) hx hb dJ5_isLatin1_aae02_14 (by decide) ?_
  subst hAe
  rw [← hQ]
  exact ye_iret (post := (fun r _ => r = 1)) (w1 := (fun _ => [(a, .inr (11, [.ref b, .int (0 : Int32), .int ml, .int cnt]))])) () Cx (by exact rfl) rfl hP hD hS dJ5_isLatin1_aae02_18
set_option maxHeartbeats 4000000 in
set_option maxRecDepth 20000 in
theorem c_J5_length_8abf5 (l : Launch) (D : va_G) (cyI cyJ cyB cyQ : ClassId) (g : Nat → Nat) (sz : Nat) (a b : Nat) (ml cnt : Int32) : ym_i (S := Unit) l yJ5_length_8abf5 (Cond.code yJ5_length_8abf5 cJ5_length_8abf5 1 (some .int) :: xg_tbl) { frames := 0, cells := 0, slots := 0, locals := 0 } D xcl (ytys cyI cyJ cyB cyQ) (ZJ g) sz [.ref a] [(a, .inr (11, [.ref b, .int (0 : Int32), .int ml, .int cnt]))] (fun r _ => r = cnt) (fun _ => [(a, .inr (11, [.ref b, .int (0 : Int32), .int ml, .int cnt]))]) 0 0 := by
  refine ym_of (own := RJ5) (by decide) rfl rfl (Nat.le_of_ble_eq_true rfl) ?_
  intro p e s m args below meth c ls Q A H hQ hAe hH hin Cx hsz hP hD hS hl
  have Cx1 := Cx
  obtain ⟨⟨hx, hb, hml, hown, hts⟩, hr, hlocks, hK, hA, hT⟩ := Cx1
  have hl : lv_has ls 1 [(0, .ref a)] := hl
  refine lv_aload_n hx hb dJ5_length_8abf5_0 rfl (lv_at hl 0 rfl) ?_
  refine va_get (ci := 11) (v := .int cnt) hx hb hts wJ4_in hown hK hP 0 rfl rfl 3 (by decide) (hts _ mw_3_232) (fun _ h9 => h9) rfl dJ5_length_8abf5_1 ?_
  subst hAe
  rw [← hQ]
  exact ye_iret (post := (fun r _ => r = cnt)) (w1 := (fun _ => [(a, .inr (11, [.ref b, .int (0 : Int32), .int ml, .int cnt]))])) () Cx (by exact rfl) rfl hP hD hS dJ5_length_8abf5_4
set_option maxHeartbeats 4000000 in
set_option maxRecDepth 20000 in
theorem c_J4_length_8abf5 (l : Launch) (D : va_G) (cyI cyJ cyB cyQ : ClassId) (g : Nat → Nat) (sz : Nat) (a b : Nat) (ml cnt : Int32) : ym_i (S := Unit) l yJ4_length_8abf5 (Cond.code yJ4_length_8abf5 cJ4_length_8abf5 1 (some .int) :: xg_tbl) { frames := 1, cells := 0, slots := 0, locals := 20 } D xcl (ytys cyI cyJ cyB cyQ) (ZJ g) sz [.ref a] [(a, .inr (11, [.ref b, .int (0 : Int32), .int ml, .int cnt]))] (fun r _ => r = cnt) (fun _ => [(a, .inr (11, [.ref b, .int (0 : Int32), .int ml, .int cnt]))]) 0 0 := by
  refine ym_of (own := RJ4) (by decide) rfl rfl (Nat.le_of_ble_eq_true rfl) ?_
  intro p e s m args below meth c ls Q A H hQ hAe hH hin Cx hsz hP hD hS hl
  have Cx1 := Cx
  obtain ⟨⟨hx, hb, hml, hown, hts⟩, hr, hlocks, hK, hA, hT⟩ := Cx1
  have hl : lv_has ls 1 [(0, .ref a)] := hl
  refine lv_aload_n hx hb dJ4_length_8abf5_0 rfl (lv_at hl 0 rfl) ?_
  refine yr_i Cx hP hD hS (yq_of (S := Unit) (w1 := fun u => [(a, .inr (11, [.ref b, .int (0 : Int32), .int ml, .int cnt]))]) (ws1 := fun u => [(a, .inr (11, [.ref b, .int (0 : Int32), .int ml, .int cnt]))]) [] [0] [] [0] rfl rfl rfl rfl (by decide) (fun _ => rfl) rfl) (yx_P (C := RJ4) (n := 0) (As := []) (rest := []) Cx hP hD hS hl (yq_of (S := Unit) (w1 := fun u => [(a, .inr (11, [.ref b, .int (0 : Int32), .int ml, .int cnt]))]) (ws1 := fun u => [(a, .inr (11, [.ref b, .int (0 : Int32), .int ml, .int cnt]))]) [] [0] [] [0] rfl rfl rfl rfl (by decide) (fun _ => rfl) rfl) hK (fz_ZJ g) (fun hF => (fz_give (fz_ZJ g) hT hS hF)) (c_J5_length_8abf5 l D cyI cyJ cyB cyQ g H.size a b ml cnt) mw_4_166 mw_4_162 mw_4_1 mw_4_161 mw_1_14 mw_4_167 (by decide +kernel) ⟨rfl, rfl, Nat.le_of_ble_eq_true rfl, Nat.le_of_ble_eq_true rfl⟩ (hK.1 11 _ rfl).2 (va_recv hK hP rfl (q0 := 0) rfl) rfl rfl (Nat.le_of_ble_eq_true rfl) ⟨Nat.le_of_ble_eq_true rfl, Nat.le_of_ble_eq_true rfl⟩ dJ4_length_8abf5_1) (fun r_1 u H locs hp hP hD hS => ?_)
  have hP : va_P D xcl [(a, .inr (11, [.ref b, .int (0 : Int32), .int ml, .int cnt]))] H := hP
  have hD : va_D A [(a, .inr (11, [.ref b, .int (0 : Int32), .int ml, .int cnt]))] := hD
  subst hAe
  rw [← hQ]
  exact ye_iret (post := (fun r _ => r = cnt)) (w1 := (fun _ => [(a, .inr (11, [.ref b, .int (0 : Int32), .int ml, .int cnt]))])) () Cx (by exact hp) rfl hP hD hS dJ4_length_8abf5_4
set_option maxHeartbeats 4000000 in
set_option maxRecDepth 20000 in
theorem c_J5_getValue_6d5f1 (l : Launch) (D : va_G) (cyI cyJ cyB cyQ : ClassId) (g : Nat → Nat) (sz : Nat) (a b : Nat) (ml cnt : Int32) : ym_r (S := Unit) l yJ5_getValue_6d5f1 (Cond.code yJ5_getValue_6d5f1 cJ5_getValue_6d5f1 1 (some (.array .byte)) :: xg_tbl) { frames := 0, cells := 0, slots := 0, locals := 0 } D xcl (ytys cyI cyJ cyB cyQ) (ZJ g) sz [.ref a] [(a, .inr (11, [.ref b, .int (0 : Int32), .int ml, .int cnt]))] (fun _ => True) (fun _ => b) (fun _ => [(a, .inr (11, [.ref b, .int (0 : Int32), .int ml, .int cnt]))]) 0 0 := by
  refine ym_of (own := RJ5) (by decide) rfl rfl (Nat.le_of_ble_eq_true rfl) ?_
  intro p e s m args below meth c ls Q A H hQ hAe hH hin Cx hsz hP hD hS hl
  have Cx1 := Cx
  obtain ⟨⟨hx, hb, hml, hown, hts⟩, hr, hlocks, hK, hA, hT⟩ := Cx1
  have hl : lv_has ls 1 [(0, .ref a)] := hl
  refine lv_aload_n hx hb dJ5_getValue_6d5f1_0 rfl (lv_at hl 0 rfl) ?_
  refine va_get (ci := 11) (v := .ref b) hx hb hts wJ4_in hown hK hP 0 rfl rfl 0 (by decide) (hts _ mw_3_229) (fun _ h9 => h9) rfl dJ5_getValue_6d5f1_1 ?_
  subst hAe
  rw [← hQ]
  exact ye_aret (post := (fun _ => True)) (ad := (fun _ => b)) (w1 := (fun _ => [(a, .inr (11, [.ref b, .int (0 : Int32), .int ml, .int cnt]))])) () Cx (by first | exact Or.inl ⟨_, rfl⟩ | exact Or.inr ⟨_, rfl⟩) (by exact trivial) rfl hP hD hS dJ5_getValue_6d5f1_4
set_option maxHeartbeats 4000000 in
set_option maxRecDepth 20000 in
theorem c_J8_newLength_cabcc (l : Launch) (D : va_G) (cyI cyJ cyB cyQ : ClassId) (g : Nat → Nat) (sz : Nat) (x1 x2 x3 : Int32) (o mn pf : Nat) (e1 : x1 = nI o) (e2 : x2 = nI mn) (e3 : x3 = nI pf) (h0 : 0 < o + max mn pf) (h1 : o + max mn pf < 65536) : ym_i (S := Unit) l yJ8_newLength_cabcc (Cond.code yJ8_newLength_cabcc cJ8_newLength_cabcc 4 (some .int) :: xg_tbl) { frames := 1, cells := 0, slots := 0, locals := 21 } D xcl (ytys cyI cyJ cyB cyQ) (ZJ g) sz [.int x1, .int x2, .int x3] [] (fun r _ => r = nI (o + max mn pf)) (fun _ => []) 0 0 := by
  refine ym_of (own := RJ8) (by decide) rfl rfl (Nat.le_of_ble_eq_true rfl) ?_
  intro p e s m args below meth c ls Q A H hQ hAe hH hin Cx hsz hP hD hS hl
  have Cx1 := Cx
  obtain ⟨⟨hx, hb, hml, hown, hts⟩, hr, hlocks, hK, hA, hT⟩ := Cx1
  have hl : lv_has ls 4 [(0, .int x1), (1, .int x2), (2, .int x3)] := hl
  refine lv_iload_n hx hb dJ8_newLength_cabcc_0 rfl (lv_at hl 0 rfl) ?_
  refine lv_iload_n hx hb dJ8_newLength_cabcc_1 rfl (lv_at hl 1 rfl) ?_
  refine lv_iload_n hx hb dJ8_newLength_cabcc_2 rfl (lv_at hl 2 rfl) ?_
  refine va_mmax hx hb (hml.trans hl.1.symm) hown (hts _ mw_4_25) (hts _ mw_2_180) (hts _ mw_1_12) (hts _ mw_2_181) (Nat.le_of_ble_eq_true rfl) (Nat.le_of_ble_eq_true rfl) (Nat.zero_le _) (Nat.zero_le _) dJ8_newLength_cabcc_3 ?_
  have em : (if x2 < x3 then x3 else x2) = nI (max mn pf) := by
    subst e2 e3
    by_cases c : mn < pf
    · rw [if_pos (nI_lt c (by omega)), Nat.max_eq_right (by omega)]
    · rw [if_neg (nI_nlt (by omega) (by omega)), Nat.max_eq_left (by omega)]
  rw [em]
  refine lv_iadd hx hb dJ8_newLength_cabcc_6 ?_
  rw [e1, nI_add]
  refine lv_istore_n (lv' := [(3, .int (nI (o + max mn pf))), (0, .int x1), (1, .int x2), (2, .int x3)]) hx hb dJ8_newLength_cabcc_7 rfl hl (by decide) rfl (fun ls hl => ?_)
  refine lv_iconst (v := (0 : Int32)) hx hb dJ8_newLength_cabcc_8 (by decide) ?_
  refine lv_iload_n hx hb dJ8_newLength_cabcc_9 rfl (lv_at hl 0 rfl) ?_
  refine lv_icmp_ge (tgt := 21) hx hb dJ8_newLength_cabcc_10 (by decide) (fun hc => absurd hc (nI_nle h0 (by omega))) (fun _ => ?_)
  refine lv_iload_n hx hb dJ8_newLength_cabcc_13 rfl (lv_at hl 0 rfl) ?_
  refine lv_ldc (v := (2147483639 : Int32)) hx hb hown (hts _ mw_4_26) dJ8_newLength_cabcc_14 ?_
  refine lv_icmp_gt (tgt := 21) hx hb dJ8_newLength_cabcc_16 (by decide) (fun hc => absurd hc (show ¬ (2147483639 : Int32) < nI (o + max mn pf) from nI_nlt (a := 2147483639) (by omega) (by decide))) (fun _ => ?_)
  refine lv_iload_n hx hb dJ8_newLength_cabcc_19 rfl (lv_at hl 0 rfl) ?_
  subst hAe
  rw [← hQ]
  exact ye_iret (post := (fun r _ => r = nI (o + max mn pf))) (w1 := (fun _ => [])) () Cx (by exact rfl) rfl hP hD hS dJ8_newLength_cabcc_20
set_option maxHeartbeats 4000000 in
set_option maxRecDepth 20000 in
theorem c_J5_newCapacity_0f7a4 (l : Launch) (D : va_G) (cyI cyJ cyB cyQ : ClassId) (g : Nat → Nat) (sz : Nat) (a b N : Nat) (f : Nat → Int32) (ml cnt : Int32) (q : Nat) (h1 : N < q) (h2 : q < 1000) : ym_i (S := Unit) l yJ5_newCapacity_0f7a4 (Cond.code yJ5_newCapacity_0f7a4 cJ5_newCapacity_0f7a4 6 (some .int) :: xg_tbl) { frames := 2, cells := 0, slots := 0, locals := 44 } D xcl (ytys cyI cyJ cyB cyQ) (ZJ g) sz [.ref a, .int (nI q)] [(a, .inr (11, [.ref b, .int (0 : Int32), .int ml, .int cnt])), (b, .inl (cyB, N, .inl f))] (fun r _ => r = nI (N + max (q - N) (N + 2))) (fun _ => [(a, .inr (11, [.ref b, .int (0 : Int32), .int ml, .int cnt])), (b, .inl (cyB, N, .inl f))]) 0 0 := by
  refine ym_of (own := RJ5) (by decide) rfl rfl (Nat.le_of_ble_eq_true rfl) ?_
  intro p e s m args below meth c ls Q A H hQ hAe hH hin Cx hsz hP hD hS hl
  have Cx1 := Cx
  obtain ⟨⟨hx, hb, hml, hown, hts⟩, hr, hlocks, hK, hA, hT⟩ := Cx1
  have hl : lv_has ls 6 [(0, .ref a), (1, .int (nI q))] := hl
  refine lv_aload_n hx hb dJ5_newCapacity_0f7a4_0 rfl (lv_at hl 0 rfl) ?_
  refine va_get (ci := 11) (v := .ref b) hx hb hts wJ4_in hown hK hP 0 rfl rfl 0 (by decide) (hts _ mw_3_229) (fun _ h9 => h9) rfl dJ5_newCapacity_0f7a4_1 ?_
  refine va_alen hx hb hK hP 1 2 rfl rfl (v := nI N) rfl dJ5_newCapacity_0f7a4_4 ?_
  refine lv_istore_n (lv' := [(2, .int (nI N)), (0, .ref a), (1, .int (nI q))]) hx hb dJ5_newCapacity_0f7a4_5 rfl hl (by decide) rfl (fun ls hl => ?_)
  refine lv_iload_n hx hb dJ5_newCapacity_0f7a4_6 rfl (lv_at hl 2 rfl) ?_
  refine lv_aload_n hx hb dJ5_newCapacity_0f7a4_7 rfl (lv_at hl 1 rfl) ?_
  refine va_get (ci := 11) (v := .int (0 : Int32)) hx hb hts wJ4_in hown hK hP 0 rfl rfl 1 (by decide) (hts _ mw_3_230) (fun _ h9 => h9) rfl dJ5_newCapacity_0f7a4_8 ?_
  refine lv_ishl hx hb dJ5_newCapacity_0f7a4_11 ?_
  refine lv_istore_n (lv' := [(3, .int ((nI q) <<< ((0 : Int32) &&& 31))), (2, .int (nI N)), (0, .ref a), (1, .int (nI q))]) hx hb dJ5_newCapacity_0f7a4_12 rfl hl (by decide) rfl (fun ls hl => ?_)
  refine lv_iload_n hx hb dJ5_newCapacity_0f7a4_13 rfl (lv_at hl 0 rfl) ?_
  refine lv_iload_n hx hb dJ5_newCapacity_0f7a4_14 rfl (lv_at hl 1 rfl) ?_
  refine lv_isub hx hb dJ5_newCapacity_0f7a4_15 ?_
  refine lv_istore (lv' := [(4, .int (((nI q) <<< ((0 : Int32) &&& 31)) - (nI N))), (3, .int ((nI q) <<< ((0 : Int32) &&& 31))), (2, .int (nI N)), (0, .ref a), (1, .int (nI q))]) hx hb dJ5_newCapacity_0f7a4_16 hl (by decide) rfl (fun ls hl => ?_)
  refine lv_iload_n hx hb dJ5_newCapacity_0f7a4_18 rfl (lv_at hl 2 rfl) ?_
  refine lv_iload hx hb dJ5_newCapacity_0f7a4_19 (lv_at hl 0 rfl) ?_
  refine lv_iload_n hx hb dJ5_newCapacity_0f7a4_21 rfl (lv_at hl 2 rfl) ?_
  refine lv_iconst (v := (2 : Int32)) hx hb dJ5_newCapacity_0f7a4_22 (by decide) ?_
  refine lv_aload_n hx hb dJ5_newCapacity_0f7a4_23 rfl (lv_at hl 3 rfl) ?_
  refine va_get (ci := 11) (v := .int (0 : Int32)) hx hb hts wJ4_in hown hK hP 0 rfl rfl 1 (by decide) (hts _ mw_3_230) (fun _ h9 => h9) rfl dJ5_newCapacity_0f7a4_24 ?_
  refine lv_ishl hx hb dJ5_newCapacity_0f7a4_27 ?_
  refine lv_iadd hx hb dJ5_newCapacity_0f7a4_28 ?_
  refine yr_i Cx hP hD hS (yq_of (S := Unit) (w1 := fun u => []) (ws1 := fun u => [(a, .inr (11, [.ref b, .int (0 : Int32), .int ml, .int cnt])), (b, .inl (cyB, N, .inl f))]) [(a, .inr (11, [.ref b, .int (0 : Int32), .int ml, .int cnt])), (b, .inl (cyB, N, .inl f))] [] [0, 1] [0, 1] rfl rfl rfl rfl (by decide) (fun _ => rfl) rfl) (yx_S (n := 3) (As := [.int (nI N), .int (((nI q) <<< ((0 : Int32) &&& 31)) - (nI N)), .int ((nI N) + ((2 : Int32) <<< ((0 : Int32) &&& 31)))]) (rest := []) Cx hP hD hS hl (yq_of (S := Unit) (w1 := fun u => []) (ws1 := fun u => [(a, .inr (11, [.ref b, .int (0 : Int32), .int ml, .int cnt])), (b, .inl (cyB, N, .inl f))]) [(a, .inr (11, [.ref b, .int (0 : Int32), .int ml, .int cnt])), (b, .inl (cyB, N, .inl f))] [] [0, 1] [0, 1] rfl rfl rfl rfl (by decide) (fun _ => rfl) rfl) hK (fz_ZJ g) (fun hF => (fz_give (fz_ZJ g) hT hS hF)) (c_J8_newLength_cabcc l D cyI cyJ cyB cyQ g H.size _ _ _ N (q - N) (N + 2) rfl (by rw [sb_shl0, pk_sub (by omega)]) (by rw [sb_shl0]; exact nI_add N 2) (by omega) (by omega)) pk_J8_newLength_cabcc mw_4_22 ⟨rfl, rfl, Nat.le_of_ble_eq_true rfl, Nat.le_of_ble_eq_true rfl⟩ rfl rfl (Nat.le_of_ble_eq_true rfl) ⟨Nat.le_of_ble_eq_true rfl, Nat.le_of_ble_eq_true rfl⟩ dJ5_newCapacity_0f7a4_29) (fun r_1 u H locs hp hP hD hS => ?_)
  have hP : va_P D xcl [(a, .inr (11, [.ref b, .int (0 : Int32), .int ml, .int cnt])), (b, .inl (cyB, N, .inl f))] H := hP
  have hD : va_D A [(a, .inr (11, [.ref b, .int (0 : Int32), .int ml, .int cnt])), (b, .inl (cyB, N, .inl f))] := hD
  subst hp
  refine lv_istore (lv' := [(5, .int (nI (N + max (q - N) (N + 2)))), (4, .int (((nI q) <<< ((0 : Int32) &&& 31)) - (nI N))), (3, .int ((nI q) <<< ((0 : Int32) &&& 31))), (2, .int (nI N)), (0, .ref a), (1, .int (nI q))]) hx hb dJ5_newCapacity_0f7a4_32 hl (by decide) rfl (fun ls hl => ?_)
  refine lv_iload hx hb dJ5_newCapacity_0f7a4_34 (lv_at hl 0 rfl) ?_
  refine lv_ldc (v := (2147483647 : Int32)) hx hb hown (hts _ mw_4_30) dJ5_newCapacity_0f7a4_36 ?_
  refine lv_icmp_ne (tgt := 51) hx hb dJ5_newCapacity_0f7a4_38 (by decide) (fun _ => ?_) (fun hc => absurd hc (show ¬ nI (N + max (q - N) (N + 2)) = (2147483647 : Int32) from fun h9 => by have := (nI_eq (b := 2147483647) (by omega) (by decide)).mp h9; omega))
  refine lv_iload hx hb dJ5_newCapacity_0f7a4_51 (lv_at hl 0 rfl) ?_
  refine lv_aload_n hx hb dJ5_newCapacity_0f7a4_53 rfl (lv_at hl 4 rfl) ?_
  refine va_get (ci := 11) (v := .int (0 : Int32)) hx hb hts wJ4_in hown hK hP 0 rfl rfl 1 (by decide) (hts _ mw_3_230) (fun _ h9 => h9) rfl dJ5_newCapacity_0f7a4_54 ?_
  refine lv_ishr hx hb dJ5_newCapacity_0f7a4_57 ?_
  subst hAe
  rw [← hQ]
  exact ye_iret (post := (fun r _ => r = nI (N + max (q - N) (N + 2)))) (w1 := (fun _ => [(a, .inr (11, [.ref b, .int (0 : Int32), .int ml, .int cnt])), (b, .inl (cyB, N, .inl f))])) () Cx (by exact (sb_shr0 _)) rfl hP hD hS dJ5_newCapacity_0f7a4_58
set_option maxHeartbeats 4000000 in
set_option maxRecDepth 20000 in
theorem c_J7_copyOf_9075b (l : Launch) (D : va_G) (cyI cyJ cyB cyQ : ClassId) (g : Nat → Nat) (sz : Nat) (v1 n1 : Nat) (f1 : Nat → Int32) (q : Nat) (h1 : n1 < q) (h2 : q ≤ 242) (hfit : sb_Fit f1) : ym_r (S := Nat) l yJ7_copyOf_9075b (Cond.code yJ7_copyOf_9075b cJ7_copyOf_9075b 3 (some (.array .byte)) :: xg_tbl) { frames := 1, cells := 1, slots := 242, locals := 70 } D xcl (ytys cyI cyJ cyB cyQ) (fun A U H => ZJ g A U H ∧ va_T .byte v1 n1 (fun j => .int (f1 j)) A U H) sz [.ref v1, .int (nI q)] [] (fun _ => True) (fun u => u) (fun u => [(u, .inl (cyB, q, .inl (va_cpy f1 (fun _ => 0) 0 0 n1)))]) 1 242 := by
  refine ym_of (own := RJ7) (by decide) rfl rfl (Nat.le_of_ble_eq_true rfl) ?_
  intro p e s m args below meth c ls Q A H hQ hAe hH hin Cx hsz hP hD hS hl
  have Cx1 := Cx
  obtain ⟨⟨hx, hb, hml, hown, hts⟩, hr, hlocks, hK, hA, hT⟩ := Cx1
  have hl : lv_has ls 3 [(0, .ref v1), (1, .int (nI q))] := hl
  refine lv_iload_n hx hb dJ7_copyOf_9075b_0 rfl (lv_at hl 1 rfl) ?_
  refine lv_aload_n hx hb dJ7_copyOf_9075b_1 rfl (lv_at hl 0 rfl) ?_
  refine yf_len hx hb (va_T.kept hT.2 hS.2.1) dJ7_copyOf_9075b_2 ?_
  refine lv_icmp_ne (tgt := 14) hx hb dJ7_copyOf_9075b_3 (by decide) (fun _ => ?_) (fun hc => absurd hc (show ¬ nI q = nI n1 from fun h9 => by have := (nI_eq (by omega) (by omega)).mp h9; omega))
  refine lv_iload_n hx hb dJ7_copyOf_9075b_14 rfl (lv_at hl 1 rfl) ?_
  refine va_newa (atype := .byte) (ty := .byte) (a0 := (q, .inl (fun _ => 0))) (N' := q) hx hb (hts _ mw_4_2) rfl hK hP hD hS hA (fun _ => rfl) (nI_pos (by omega)) (nI_clamp (by omega)) (by show q * 1 ≤ _; omega) (show 0 + 1 ≤ (1 : Nat) by omega) (show 0 + q ≤ (242 : Nat) by omega) dJ7_copyOf_9075b_15 (fun u cA H hK1 hP hD hS => ?_)
  have eA := y_sameB hK hK1
  rw [eA] at hP hD
  have hP : va_P D xcl [(u, .inl (cyB, q, .inl (fun _ => (0 : Int32))))] H := hP
  have hD : va_D A [(u, .inl (cyB, q, .inl (fun _ => (0 : Int32))))] := hD
  refine lv_astore_n (lv' := [(2, .ref u), (0, .ref v1), (1, .int (nI q))]) hx hb dJ7_copyOf_9075b_17 rfl hl (by decide) rfl (fun ls hl => ?_)
  refine lv_aload_n hx hb dJ7_copyOf_9075b_18 rfl (lv_at hl 1 rfl) ?_
  refine lv_iconst (v := (0 : Int32)) hx hb dJ7_copyOf_9075b_19 (by decide) ?_
  refine lv_aload_n hx hb dJ7_copyOf_9075b_20 rfl (lv_at hl 0 rfl) ?_
  refine lv_iconst (v := (0 : Int32)) hx hb dJ7_copyOf_9075b_21 (by decide) ?_
  refine lv_aload_n hx hb dJ7_copyOf_9075b_22 rfl (lv_at hl 1 rfl) ?_
  refine yf_len hx hb (va_T.kept hT.2 hS.2.1) dJ7_copyOf_9075b_23 ?_
  refine lv_iload_n hx hb dJ7_copyOf_9075b_24 rfl (lv_at hl 2 rfl) ?_
  refine va_mmin hx hb (hml.trans hl.1.symm) hown (hts _ mw_4_41) (hts _ mw_2_183) (hts _ mw_1_12) (hts _ mw_2_184) (Nat.le_of_ble_eq_true rfl) (Nat.le_of_ble_eq_true rfl) (show (0 + 1) ≤ (1 : Nat) by omega) (show (0 + q) ≤ (242 : Nat) by omega) dJ7_copyOf_9075b_25 ?_
  rw [show (if (nI q) < (nI n1) then (nI q) else (nI n1)) = (nI n1) from if_neg (nI_nlt (by omega) (by omega))]
  refine vk_copyt hx hb (hml.trans hl.1.symm) hown (hts _ mw_4_42) (hts _ mw_3_41) (hts _ mw_3_40) (hts _ mw_1_11) hK hP hD hS hT.2 0 2 rfl rfl (by decide) (by decide) (nI_pos (by omega)) (by rw [nI_clamp (by omega), sb_cl0]; omega) (by rw [nI_clamp (by omega), sb_cl0]; omega) (fun _ _ => hfit _) (Nat.le_of_ble_eq_true rfl) (Nat.le_of_ble_eq_true rfl) dJ7_copyOf_9075b_28 (fun H locs hP hD hS => ?_)
  rw [nI_clamp (by omega), sb_cl0] at hP hD
  have hP : va_P D xcl [(u, .inl (cyB, q, .inl (va_cpy f1 (fun _ => (0 : Int32)) 0 0 n1)))] H := hP
  have hD : va_D A [(u, .inl (cyB, q, .inl (va_cpy f1 (fun _ => (0 : Int32)) 0 0 n1)))] := hD
  refine lv_aload_n hx hb dJ7_copyOf_9075b_31 rfl (lv_at hl 0 rfl) ?_
  refine W.widen (k := 1) (n := 242) (show (0 + 1) ≤ 1 by omega) (show (0 + q) ≤ 242 by omega) ?_
  have hP : va_P D xcl [(u, .inl (cyB, q, .inl (va_cpy f1 (fun _ => 0) 0 0 n1)))] H := hP
  have hD : va_D A [(u, .inl (cyB, q, .inl (va_cpy f1 (fun _ => 0) 0 0 n1)))] := hD
  subst hAe
  rw [← hQ]
  exact ye_aret (post := (fun _ => True)) (ad := (fun u => u)) (w1 := (fun u => [(u, .inl (cyB, q, .inl (va_cpy f1 (fun _ => 0) 0 0 n1)))])) u Cx (by first | exact Or.inl ⟨_, rfl⟩ | exact Or.inr ⟨_, rfl⟩) (by exact trivial) rfl hP hD hS dJ7_copyOf_9075b_32
set_option maxHeartbeats 4000000 in
set_option maxRecDepth 20000 in
theorem c_J5_ensureCapacityInternal_d00df (l : Launch) (D : va_G) (cyI cyJ cyB cyQ : ClassId) (g : Nat → Nat) (sz : Nat) (a b N : Nat) (f : Nat → Int32) (ml cnt : Int32) (q : Nat) (hN : N ≤ 242) (hq : q ≤ 121) (hfit : sb_Fit f) : ym_v (S := (Nat × Nat × (Nat → Int32))) l yJ5_ensureCapacityInternal_d00df (Cond.code yJ5_ensureCapacityInternal_d00df cJ5_ensureCapacityInternal_d00df 3 none :: xg_tbl) { frames := 3, cells := 1, slots := 242, locals := 92 } D xcl (ytys cyI cyJ cyB cyQ) (ZJ g) sz [.ref a, .int (nI q)] [(a, .inr (11, [.ref b, .int (0 : Int32), .int ml, .int cnt])), (b, .inl (cyB, N, .inl f))] (fun u => q ≤ u.2.1 ∧ u.2.1 ≤ 242 ∧ sb_Fit u.2.2 ∧ ∀ j, j < N → u.2.2 j = f j) (fun u => [(a, .inr (11, [.ref u.1, .int (0 : Int32), .int ml, .int cnt])), (u.1, .inl (cyB, u.2.1, .inl u.2.2))]) 1 242 := by
  refine ym_of (own := RJ5) (by decide) rfl rfl (Nat.le_of_ble_eq_true rfl) ?_
  intro p e s m args below meth c ls Q A H hQ hAe hH hin Cx hsz hP hD hS hl
  have Cx1 := Cx
  obtain ⟨⟨hx, hb, hml, hown, hts⟩, hr, hlocks, hK, hA, hT⟩ := Cx1
  have hl : lv_has ls 3 [(0, .ref a), (1, .int (nI q))] := hl
  refine lv_aload_n hx hb dJ5_ensureCapacityInternal_d00df_0 rfl (lv_at hl 0 rfl) ?_
  refine va_get (ci := 11) (v := .ref b) hx hb hts wJ4_in hown hK hP 0 rfl rfl 0 (by decide) (hts _ mw_3_229) (fun _ h9 => h9) rfl dJ5_ensureCapacityInternal_d00df_1 ?_
  refine va_alen hx hb hK hP 1 2 rfl rfl (v := nI N) rfl dJ5_ensureCapacityInternal_d00df_4 ?_
  refine lv_aload_n hx hb dJ5_ensureCapacityInternal_d00df_5 rfl (lv_at hl 0 rfl) ?_
  refine va_get (ci := 11) (v := .int (0 : Int32)) hx hb hts wJ4_in hown hK hP 0 rfl rfl 1 (by decide) (hts _ mw_3_230) (fun _ h9 => h9) rfl dJ5_ensureCapacityInternal_d00df_6 ?_
  refine lv_ishr hx hb dJ5_ensureCapacityInternal_d00df_9 ?_
  refine lv_istore_n (lv' := [(2, .int ((nI N) >>> ((0 : Int32) &&& 31))), (0, .ref a), (1, .int (nI q))]) hx hb dJ5_ensureCapacityInternal_d00df_10 rfl hl (by decide) rfl (fun ls hl => ?_)
  refine lv_iload_n hx hb dJ5_ensureCapacityInternal_d00df_11 rfl (lv_at hl 2 rfl) ?_
  refine lv_iload_n hx hb dJ5_ensureCapacityInternal_d00df_12 rfl (lv_at hl 0 rfl) ?_
  refine lv_isub hx hb dJ5_ensureCapacityInternal_d00df_13 ?_
  have ec : ((nI q) - ((nI N) >>> ((0 : Int32) &&& 31))) ≤ 0 ↔ q ≤ N := by
    rw [sb_shr0, Int32.le_iff_toInt_le, pk_sub_toInt (by omega) (by omega), Int32.toInt_zero]; omega
  refine lv_if_le (tgt := 38) hx hb dJ5_ensureCapacityInternal_d00df_14 (by decide) (fun hc => ?_) (fun hc => ?_)
  · have hc := ec.mp hc
    refine W.widen (k := 1) (n := 242) (show 0 ≤ 1 by omega) (show 0 ≤ 242 by omega) ?_
    have hP : va_P D xcl [(a, .inr (11, [.ref b, .int (0 : Int32), .int ml, .int cnt])), (b, .inl (cyB, N, .inl f))] H := hP
    have hD : va_D A [(a, .inr (11, [.ref b, .int (0 : Int32), .int ml, .int cnt])), (b, .inl (cyB, N, .inl f))] := hD
    subst hAe
    rw [← hQ]
    exact ye_vret (post := (fun u => q ≤ u.2.1 ∧ u.2.1 ≤ 242 ∧ sb_Fit u.2.2 ∧ ∀ j, j < N → u.2.2 j = f j)) (w1 := (fun u => [(a, .inr (11, [.ref u.1, .int (0 : Int32), .int ml, .int cnt])), (u.1, .inl (cyB, u.2.1, .inl u.2.2))])) (b, N, f) Cx (by exact ⟨hc, hN, hfit, fun _ _ => rfl⟩) hP hD hS dJ5_ensureCapacityInternal_d00df_38
  · have hc := fun h9 => hc (ec.mpr h9)
    have hc : N < q := Nat.lt_of_not_le hc
    refine lv_aload_n hx hb dJ5_ensureCapacityInternal_d00df_17 rfl (lv_at hl 1 rfl) ?_
    refine lv_aload_n hx hb dJ5_ensureCapacityInternal_d00df_18 rfl (lv_at hl 1 rfl) ?_
    refine va_get (ci := 11) (v := .ref b) hx hb hts wJ4_in hown hK hP 0 rfl rfl 0 (by decide) (hts _ mw_3_229) (fun _ h9 => h9) rfl dJ5_ensureCapacityInternal_d00df_19 ?_
    refine lv_aload_n hx hb dJ5_ensureCapacityInternal_d00df_22 rfl (lv_at hl 1 rfl) ?_
    refine lv_iload_n hx hb dJ5_ensureCapacityInternal_d00df_23 rfl (lv_at hl 2 rfl) ?_
    refine yr_i Cx hP hD hS (yq_of (S := Unit) (w1 := fun u => [(a, .inr (11, [.ref b, .int (0 : Int32), .int ml, .int cnt])), (b, .inl (cyB, N, .inl f))]) (ws1 := fun u => [(a, .inr (11, [.ref b, .int (0 : Int32), .int ml, .int cnt])), (b, .inl (cyB, N, .inl f))]) [] [0, 1] [] [0, 1] rfl rfl rfl rfl (by decide) (fun _ => rfl) rfl) (yx_U (C := RJ4) (owner := "java/lang/AbstractStringBuilder") (n := 1) (As := [.int (nI q)]) (rest := [.ref b, .ref a]) Cx hP hD hS hl (yq_of (S := Unit) (w1 := fun u => [(a, .inr (11, [.ref b, .int (0 : Int32), .int ml, .int cnt])), (b, .inl (cyB, N, .inl f))]) (ws1 := fun u => [(a, .inr (11, [.ref b, .int (0 : Int32), .int ml, .int cnt])), (b, .inl (cyB, N, .inl f))]) [] [0, 1] [] [0, 1] rfl rfl rfl rfl (by decide) (fun _ => rfl) rfl) hK (fz_ZJ g) (fun hF => (fz_give (fz_ZJ g) hT hS hF)) (c_J5_newCapacity_0f7a4 l D cyI cyJ cyB cyQ g H.size a b N f ml cnt q hc (by omega)) mw_4_18 mw_5_60 mw_m_1 mw_4_20 mw_1_14 mw_4_21 rfl (by decide +kernel) ⟨rfl, rfl, Nat.le_of_ble_eq_true rfl, Nat.le_of_ble_eq_true rfl⟩ (va_recv hK hP rfl (q0 := 0) rfl) rfl rfl (Nat.le_of_ble_eq_true rfl) ⟨Nat.le_of_ble_eq_true rfl, Nat.le_of_ble_eq_true rfl⟩ dJ5_ensureCapacityInternal_d00df_24) (fun r_1 u H locs hp hP hD hS => ?_)
    have hP : va_P D xcl [(a, .inr (11, [.ref b, .int (0 : Int32), .int ml, .int cnt])), (b, .inl (cyB, N, .inl f))] H := hP
    have hD : va_D A [(a, .inr (11, [.ref b, .int (0 : Int32), .int ml, .int cnt])), (b, .inl (cyB, N, .inl f))] := hD
    subst hp
    refine lv_aload_n hx hb dJ5_ensureCapacityInternal_d00df_27 rfl (lv_at hl 1 rfl) ?_
    refine va_get (ci := 11) (v := .int (0 : Int32)) hx hb hts wJ4_in hown hK hP 0 rfl rfl 1 (by decide) (hts _ mw_3_230) (fun _ h9 => h9) rfl dJ5_ensureCapacityInternal_d00df_28 ?_
    refine lv_ishl hx hb dJ5_ensureCapacityInternal_d00df_31 ?_
    rw [sb_shl0]
    refine yr_r Cx hP hD hS (yq_of (S := Nat) (w1 := fun u9 => [(u9, .inl (cyB, (N + max (q - N) (N + 2)), .inl (va_cpy f (fun _ => 0) 0 0 N)))]) (ws1 := fun u9 => [(a, .inr (11, [.ref b, .int (0 : Int32), .int ml, .int cnt])), (b, .inl (cyB, N, .inl f)), (u9, .inl (cyB, (N + max (q - N) (N + 2)), .inl (va_cpy f (fun _ => 0) 0 0 N)))]) [(a, .inr (11, [.ref b, .int (0 : Int32), .int ml, .int cnt])), (b, .inl (cyB, N, .inl f))] [] [0, 1] [0, 1, 2] rfl rfl rfl rfl (by decide) (fun _ => rfl) rfl) (yx_S (n := 2) (As := [.ref b, .int (nI (N + max (q - N) (N + 2)))]) (rest := [.ref a]) Cx hP hD hS hl (yq_of (S := Nat) (w1 := fun u9 => [(u9, .inl (cyB, (N + max (q - N) (N + 2)), .inl (va_cpy f (fun _ => 0) 0 0 N)))]) (ws1 := fun u9 => [(a, .inr (11, [.ref b, .int (0 : Int32), .int ml, .int cnt])), (b, .inl (cyB, N, .inl f)), (u9, .inl (cyB, (N + max (q - N) (N + 2)), .inl (va_cpy f (fun _ => 0) 0 0 N)))]) [(a, .inr (11, [.ref b, .int (0 : Int32), .int ml, .int cnt])), (b, .inl (cyB, N, .inl f))] [] [0, 1] [0, 1, 2] rfl rfl rfl rfl (by decide) (fun _ => rfl) rfl) hK (fz_and (fz_ZJ g) (fz_T .byte b N (fun j => .int (f j)))) (fun hF => ⟨fz_give (fz_ZJ g) hT hS hF, y_T hK hP 1 2 rfl rfl (y_out0 hP (q0 := 1) rfl)⟩) (c_J7_copyOf_9075b l D cyI cyJ cyB cyQ g H.size b N f (N + max (q - N) (N + 2)) (by omega) (by omega) hfit) pk_J7_copyOf_9075b mw_4_31 ⟨rfl, rfl, Nat.le_of_ble_eq_true rfl, Nat.le_of_ble_eq_true rfl⟩ rfl rfl (Nat.le_of_ble_eq_true rfl) ⟨Nat.le_of_ble_eq_true rfl, Nat.le_of_ble_eq_true rfl⟩ dJ5_ensureCapacityInternal_d00df_32) (fun u9 H locs hp hP hD hS => ?_)
    have hP : va_P D xcl [(a, .inr (11, [.ref b, .int (0 : Int32), .int ml, .int cnt])), (b, .inl (cyB, N, .inl f)), (u9, .inl (cyB, (N + max (q - N) (N + 2)), .inl (va_cpy f (fun _ => 0) 0 0 N)))] H := hP
    have hD : va_D A [(a, .inr (11, [.ref b, .int (0 : Int32), .int ml, .int cnt])), (b, .inl (cyB, N, .inl f)), (u9, .inl (cyB, (N + max (q - N) (N + 2)), .inl (va_cpy f (fun _ => 0) 0 0 N)))] := hD
    refine va_put (ci := 11) (v := .ref u9) (ty := (.array .byte)) hx hb hts wJ4_in tyJ4 tyJ4_ok nmJ4 hown hK hP hD hS 0 rfl rfl 0 (by decide) (hts _ mw_3_229) (fun _ h9 => h9) rfl (by decide +kernel) rfl rfl (Nat.le_of_ble_eq_true rfl) dJ5_ensureCapacityInternal_d00df_35 (fun H locs hP hD hS => ?_)
    have hP : va_P D xcl [(a, .inr (11, [.ref u9, .int (0 : Int32), .int ml, .int cnt])), (b, .inl (cyB, N, .inl f)), (u9, .inl (cyB, (N + max (q - N) (N + 2)), .inl (va_cpy f (fun _ => 0) 0 0 N)))] H := hP
    have hD : va_D A [(a, .inr (11, [.ref u9, .int (0 : Int32), .int ml, .int cnt])), (b, .inl (cyB, N, .inl f)), (u9, .inl (cyB, (N + max (q - N) (N + 2)), .inl (va_cpy f (fun _ => 0) 0 0 N)))] := hD
    refine W.widen (k := 1) (n := 242) (show (0 + 1) ≤ 1 by omega) (show (0 + 242) ≤ 242 by omega) ?_
    have hP : va_P D xcl [(a, .inr (11, [.ref u9, .int (0 : Int32), .int ml, .int cnt])), (u9, .inl (cyB, (N + max (q - N) (N + 2)), .inl (va_cpy f (fun _ => 0) 0 0 N)))] H := xq_pick hP [0, 2] rfl
    have hD : va_D A [(a, .inr (11, [.ref u9, .int (0 : Int32), .int ml, .int cnt])), (u9, .inl (cyB, (N + max (q - N) (N + 2)), .inl (va_cpy f (fun _ => 0) 0 0 N)))] := hD.sub [0, 2] rfl rfl
    subst hAe
    rw [← hQ]
    exact ye_vret (post := (fun u => q ≤ u.2.1 ∧ u.2.1 ≤ 242 ∧ sb_Fit u.2.2 ∧ ∀ j, j < N → u.2.2 j = f j)) (w1 := (fun u => [(a, .inr (11, [.ref u.1, .int (0 : Int32), .int ml, .int cnt])), (u.1, .inl (cyB, u.2.1, .inl u.2.2))])) (u9, N + max (q - N) (N + 2), va_cpy f (fun _ => 0) 0 0 N) Cx (by exact ⟨(show q ≤ N + max (q - N) (N + 2) by omega), (show N + max (q - N) (N + 2) ≤ 242 by omega), sb_fitC hfit sb_fit0, fun j hj => (show va_cpy f (fun _ => 0) 0 0 N j = f j from sb_cpy0 hj)⟩) hP hD hS dJ5_ensureCapacityInternal_d00df_38
set_option maxHeartbeats 4000000 in
set_option maxRecDepth 20000 in
theorem c_J5_inflateIfNeededFor_a7421 (l : Launch) (D : va_G) (cyI cyJ cyB cyQ : ClassId) (g : Nat → Nat) (sz : Nat) (a b : Nat) (ml cnt : Int32) (a1 v1 n1 : Nat) (f1 : Nat → Int32) : ym_v (S := Unit) l yJ5_inflateIfNeededFor_a7421 (Cond.code yJ5_inflateIfNeededFor_a7421 cJ5_inflateIfNeededFor_a7421 2 none :: xg_tbl) { frames := 1, cells := 0, slots := 0, locals := 20 } D xcl (ytys cyI cyJ cyB cyQ) (fun A U H => ZJ g A U H ∧ ZS a1 v1 n1 f1 A U H) sz [.ref a, .ref a1] [(a, .inr (11, [.ref b, .int (0 : Int32), .int ml, .int cnt]))] (fun _ => True) (fun _ => [(a, .inr (11, [.ref b, .int (0 : Int32), .int ml, .int cnt]))]) 0 0 := by
  refine ym_of (own := RJ5) (by decide) rfl rfl (Nat.le_of_ble_eq_true rfl) ?_
  intro p e s m args below meth c ls Q A H hQ hAe hH hin Cx hsz hP hD hS hl
  have Cx1 := Cx
  obtain ⟨⟨hx, hb, hml, hown, hts⟩, hr, hlocks, hK, hA, hT⟩ := Cx1
  have hl : lv_has ls 2 [(0, .ref a), (1, .ref a1)] := hl
  refine va_gets hx hb hT.1.1 hS hown (hts _ mw_3_220) (fun _ h9 => h9) dJ5_inflateIfNeededFor_a7421_0 ?_
  refine lv_if_eq (tgt := 21) hx hb dJ5_inflateIfNeededFor_a7421_3 (by decide) (fun hc => absurd hc (show ¬ (1 : Int32) = 0 by decide)) (fun _ => ?_)
  refine lv_aload_n hx hb dJ5_inflateIfNeededFor_a7421_6 rfl (lv_at hl 0 rfl) ?_
  refine va_get (ci := 11) (v := .int (0 : Int32)) hx hb hts wJ4_in hown hK hP 0 rfl rfl 1 (by decide) (hts _ mw_3_230) (fun _ h9 => h9) rfl dJ5_inflateIfNeededFor_a7421_7 ?_
  refine lv_aload_n hx hb dJ5_inflateIfNeededFor_a7421_10 rfl (lv_at hl 1 rfl) ?_
  refine yr_i Cx hP hD hS (yq_of (S := Unit) (w1 := fun u => []) (ws1 := fun u => [(a, .inr (11, [.ref b, .int (0 : Int32), .int ml, .int cnt]))]) [(a, .inr (11, [.ref b, .int (0 : Int32), .int ml, .int cnt]))] [] [0] [0] rfl rfl rfl rfl (by decide) (fun _ => rfl) rfl) (yx_V (n := 0) (As := []) (rest := [.int (0 : Int32)]) Cx hP hD hS hl (yq_of (S := Unit) (w1 := fun u => []) (ws1 := fun u => [(a, .inr (11, [.ref b, .int (0 : Int32), .int ml, .int cnt]))]) [(a, .inr (11, [.ref b, .int (0 : Int32), .int ml, .int cnt]))] [] [0] [0] rfl rfl rfl rfl (by decide) (fun _ => rfl) rfl) hK (fz_and (fz_ZJ g) (fz_ZS a1 v1 n1 f1)) (fun hF => (fz_give (fz_and (fz_ZJ g) (fz_ZS a1 v1 n1 f1)) hT hS hF)) (c_J0_coder_7d493 l D cyI cyJ cyB cyQ g H.size a1 v1 n1 f1) pk_J0_coder_7d493 mw_4_91 ⟨rfl, rfl, Nat.le_of_ble_eq_true rfl, Nat.le_of_ble_eq_true rfl⟩ (y_recvO (va_O.kept hT.2.1 hS.2.1)) rfl rfl (Nat.le_of_ble_eq_true rfl) ⟨Nat.le_of_ble_eq_true rfl, Nat.le_of_ble_eq_true rfl⟩ dJ5_inflateIfNeededFor_a7421_11) (fun r_1 u H locs hp hP hD hS => ?_)
  have hP : va_P D xcl [(a, .inr (11, [.ref b, .int (0 : Int32), .int ml, .int cnt]))] H := hP
  have hD : va_D A [(a, .inr (11, [.ref b, .int (0 : Int32), .int ml, .int cnt]))] := hD
  subst hp
  refine lv_icmp_eq (tgt := 21) hx hb dJ5_inflateIfNeededFor_a7421_14 (by decide) (fun _ => ?_) (fun hc => absurd rfl hc)
  subst hAe
  rw [← hQ]
  exact ye_vret (post := (fun _ => True)) (w1 := (fun _ => [(a, .inr (11, [.ref b, .int (0 : Int32), .int ml, .int cnt]))])) () Cx (by exact trivial) hP hD hS dJ5_inflateIfNeededFor_a7421_21
set_option maxHeartbeats 4000000 in
set_option maxRecDepth 20000 in
theorem c_J0_getBytes_840e7 (l : Launch) (D : va_G) (cyI cyJ cyB cyQ : ClassId) (g : Nat → Nat) (sz : Nat) (a1 v1 n1 : Nat) (f1 : Nat → Int32) (b N : Nat) (f : Nat → Int32) (k : Nat) (hk : k + n1 ≤ N) (hN : N ≤ 242) (hfit : sb_Fit f1) : ym_v (S := Unit) l yJ0_getBytes_840e7 (Cond.code yJ0_getBytes_840e7 cJ0_getBytes_840e7 4 none :: xg_tbl) { frames := 1, cells := 0, slots := 0, locals := 70 } D xcl (ytys cyI cyJ cyB cyQ) (fun A U H => ZJ g A U H ∧ ZS a1 v1 n1 f1 A U H) sz [.ref a1, .ref b, .int (nI k), .int (0 : Int32)] [(b, .inl (cyB, N, .inl f))] (fun _ => True) (fun _ => [(b, .inl (cyB, N, .inl (va_cpy f1 f 0 k n1)))]) 0 0 := by
  refine ym_of (own := RJ0) (by decide) rfl rfl (Nat.le_of_ble_eq_true rfl) ?_
  intro p e s m args below meth c ls Q A H hQ hAe hH hin Cx hsz hP hD hS hl
  have Cx1 := Cx
  obtain ⟨⟨hx, hb, hml, hown, hts⟩, hr, hlocks, hK, hA, hT⟩ := Cx1
  have hl : lv_has ls 4 [(0, .ref a1), (1, .ref b), (2, .int (nI k)), (3, .int (0 : Int32))] := hl
  refine lv_aload_n hx hb dJ0_getBytes_840e7_0 rfl (lv_at hl 0 rfl) ?_
  refine yr_i Cx hP hD hS (yq_of (S := Unit) (w1 := fun u => []) (ws1 := fun u => [(b, .inl (cyB, N, .inl f))]) [(b, .inl (cyB, N, .inl f))] [] [0] [0] rfl rfl rfl rfl (by decide) (fun _ => rfl) rfl) (yx_V (n := 0) (As := []) (rest := []) Cx hP hD hS hl (yq_of (S := Unit) (w1 := fun u => []) (ws1 := fun u => [(b, .inl (cyB, N, .inl f))]) [(b, .inl (cyB, N, .inl f))] [] [0] [0] rfl rfl rfl rfl (by decide) (fun _ => rfl) rfl) hK (fz_and (fz_ZJ g) (fz_ZS a1 v1 n1 f1)) (fun hF => (fz_give (fz_and (fz_ZJ g) (fz_ZS a1 v1 n1 f1)) hT hS hF)) (c_J0_coder_7d493 l D cyI cyJ cyB cyQ g H.size a1 v1 n1 f1) pk_J0_coder_7d493 mw_4_78 ⟨rfl, rfl, Nat.le_of_ble_eq_true rfl, Nat.le_of_ble_eq_true rfl⟩ (y_recvO (va_O.kept hT.2.1 hS.2.1)) rfl rfl (Nat.le_of_ble_eq_true rfl) ⟨Nat.le_of_ble_eq_true rfl, Nat.le_of_ble_eq_true rfl⟩ dJ0_getBytes_840e7_1) (fun r_1 u H locs hp hP hD hS => ?_)
  have hP : va_P D xcl [(b, .inl (cyB, N, .inl f))] H := hP
  have hD : va_D A [(b, .inl (cyB, N, .inl f))] := hD
  subst hp
  refine lv_iload_n hx hb dJ0_getBytes_840e7_4 rfl (lv_at hl 3 rfl) ?_
  refine lv_icmp_ne (tgt := 28) hx hb dJ0_getBytes_840e7_5 (by decide) (fun hc => absurd rfl hc) (fun _ => ?_)
  refine lv_aload_n hx hb dJ0_getBytes_840e7_8 rfl (lv_at hl 0 rfl) ?_
  refine yf_get hx hb (va_OF.kept hT.2.2.2.1 hS.2.1) hown (hts _ mw_4_191) (fun _ h9 => h9) dJ0_getBytes_840e7_9 ?_
  refine lv_iconst (v := (0 : Int32)) hx hb dJ0_getBytes_840e7_12 (by decide) ?_
  refine lv_aload_n hx hb dJ0_getBytes_840e7_13 rfl (lv_at hl 1 rfl) ?_
  refine lv_iload_n hx hb dJ0_getBytes_840e7_14 rfl (lv_at hl 2 rfl) ?_
  refine lv_iload_n hx hb dJ0_getBytes_840e7_15 rfl (lv_at hl 3 rfl) ?_
  refine lv_ishl hx hb dJ0_getBytes_840e7_16 ?_
  refine lv_aload_n hx hb dJ0_getBytes_840e7_17 rfl (lv_at hl 0 rfl) ?_
  refine yf_get hx hb (va_OF.kept hT.2.2.2.1 hS.2.1) hown (hts _ mw_4_191) (fun _ h9 => h9) dJ0_getBytes_840e7_18 ?_
  refine yf_len hx hb (va_T.kept hT.2.2.2.2 hS.2.1) dJ0_getBytes_840e7_21 ?_
  refine vk_copyt hx hb (hml.trans hl.1.symm) hown (hts _ mw_4_115) (hts _ mw_3_41) (hts _ mw_3_40) (hts _ mw_1_11) hK hP hD hS hT.2.2.2.2 0 2 rfl rfl (by decide) (by rw [sb_shl0]; exact nI_pos (by omega)) (nI_pos (by omega)) (by rw [nI_clamp (by omega), sb_cl0]; omega) (by rw [sb_shl0, nI_clamp (by omega), nI_clamp (by omega)]; omega) (fun _ _ => hfit _) (Nat.le_of_ble_eq_true rfl) (Nat.le_of_ble_eq_true rfl) dJ0_getBytes_840e7_22 (fun H locs hP hD hS => ?_)
  rw [sb_shl0, nI_clamp (n := n1) (by omega), nI_clamp (n := k) (by omega), sb_cl0] at hP hD
  have hP : va_P D xcl [(b, .inl (cyB, N, .inl (va_cpy f1 f 0 k n1)))] H := hP
  have hD : va_D A [(b, .inl (cyB, N, .inl (va_cpy f1 f 0 k n1)))] := hD
  refine lv_goto (tgt := 43) hx hb dJ0_getBytes_840e7_25 (by decide) ?_
  subst hAe
  rw [← hQ]
  exact ye_vret (post := (fun _ => True)) (w1 := (fun _ => [(b, .inl (cyB, N, .inl (va_cpy f1 f 0 k n1)))])) () Cx (by exact trivial) hP hD hS dJ0_getBytes_840e7_43
set_option maxHeartbeats 4000000 in
set_option maxRecDepth 20000 in
theorem c_J5_putStringAt_47b60 (l : Launch) (D : va_G) (cyI cyJ cyB cyQ : ClassId) (g : Nat → Nat) (sz : Nat) (a b N : Nat) (f : Nat → Int32) (ml cnt : Int32) (a1 v1 n1 : Nat) (f1 : Nat → Int32) (k : Nat) (hk : k + n1 ≤ N) (hN : N ≤ 242) (hfit : sb_Fit f1) : ym_v (S := Unit) l yJ5_putStringAt_47b60 (Cond.code yJ5_putStringAt_47b60 cJ5_putStringAt_47b60 3 none :: xg_tbl) { frames := 2, cells := 0, slots := 0, locals := 93 } D xcl (ytys cyI cyJ cyB cyQ) (fun A U H => ZJ g A U H ∧ ZS a1 v1 n1 f1 A U H) sz [.ref a, .int (nI k), .ref a1] [(a, .inr (11, [.ref b, .int (0 : Int32), .int ml, .int cnt])), (b, .inl (cyB, N, .inl f))] (fun _ => True) (fun _ => [(a, .inr (11, [.ref b, .int (0 : Int32), .int ml, .int cnt])), (b, .inl (cyB, N, .inl (va_cpy f1 f 0 k n1)))]) 0 0 := by
  refine ym_of (own := RJ5) (by decide) rfl rfl (Nat.le_of_ble_eq_true rfl) ?_
  intro p e s m args below meth c ls Q A H hQ hAe hH hin Cx hsz hP hD hS hl
  have Cx1 := Cx
  obtain ⟨⟨hx, hb, hml, hown, hts⟩, hr, hlocks, hK, hA, hT⟩ := Cx1
  have hl : lv_has ls 3 [(0, .ref a), (1, .int (nI k)), (2, .ref a1)] := hl
  refine lv_aload_n hx hb dJ5_putStringAt_47b60_0 rfl (lv_at hl 0 rfl) ?_
  refine lv_aload_n hx hb dJ5_putStringAt_47b60_1 rfl (lv_at hl 2 rfl) ?_
  refine yr_v Cx hP hD hS (yq_of (S := Unit) (w1 := fun u => [(a, .inr (11, [.ref b, .int (0 : Int32), .int ml, .int cnt]))]) (ws1 := fun u => [(a, .inr (11, [.ref b, .int (0 : Int32), .int ml, .int cnt])), (b, .inl (cyB, N, .inl f))]) [(b, .inl (cyB, N, .inl f))] [0] [1] [1, 0] rfl rfl rfl rfl (by decide) (fun _ => rfl) rfl) (yx_U (C := RJ4) (owner := "java/lang/AbstractStringBuilder") (n := 1) (As := [.ref a1]) (rest := []) Cx hP hD hS hl (yq_of (S := Unit) (w1 := fun u => [(a, .inr (11, [.ref b, .int (0 : Int32), .int ml, .int cnt]))]) (ws1 := fun u => [(a, .inr (11, [.ref b, .int (0 : Int32), .int ml, .int cnt])), (b, .inl (cyB, N, .inl f))]) [(b, .inl (cyB, N, .inl f))] [0] [1] [1, 0] rfl rfl rfl rfl (by decide) (fun _ => rfl) rfl) hK (fz_and (fz_ZJ g) (fz_ZS a1 v1 n1 f1)) (fun hF => (fz_give (fz_and (fz_ZJ g) (fz_ZS a1 v1 n1 f1)) hT hS hF)) (c_J5_inflateIfNeededFor_a7421 l D cyI cyJ cyB cyQ g H.size a b ml cnt a1 v1 n1 f1) mw_4_87 mw_5_62 mw_m_3 mw_4_89 mw_1_14 mw_4_90 rfl (by decide +kernel) ⟨rfl, rfl, Nat.le_of_ble_eq_true rfl, Nat.le_of_ble_eq_true rfl⟩ (va_recv hK hP rfl (q0 := 0) rfl) rfl rfl (Nat.le_of_ble_eq_true rfl) ⟨Nat.le_of_ble_eq_true rfl, Nat.le_of_ble_eq_true rfl⟩ dJ5_putStringAt_47b60_2) (fun u H locs hp hP hD hS => ?_)
  have hP : va_P D xcl [(a, .inr (11, [.ref b, .int (0 : Int32), .int ml, .int cnt])), (b, .inl (cyB, N, .inl f))] H := hP
  have hD : va_D A [(a, .inr (11, [.ref b, .int (0 : Int32), .int ml, .int cnt])), (b, .inl (cyB, N, .inl f))] := hD
  refine lv_aload_n hx hb dJ5_putStringAt_47b60_5 rfl (lv_at hl 2 rfl) ?_
  refine lv_aload_n hx hb dJ5_putStringAt_47b60_6 rfl (lv_at hl 0 rfl) ?_
  refine va_get (ci := 11) (v := .ref b) hx hb hts wJ4_in hown hK hP 0 rfl rfl 0 (by decide) (hts _ mw_3_229) (fun _ h9 => h9) rfl dJ5_putStringAt_47b60_7 ?_
  refine lv_iload_n hx hb dJ5_putStringAt_47b60_10 rfl (lv_at hl 1 rfl) ?_
  refine lv_aload_n hx hb dJ5_putStringAt_47b60_11 rfl (lv_at hl 0 rfl) ?_
  refine va_get (ci := 11) (v := .int (0 : Int32)) hx hb hts wJ4_in hown hK hP 0 rfl rfl 1 (by decide) (hts _ mw_3_230) (fun _ h9 => h9) rfl dJ5_putStringAt_47b60_12 ?_
  refine yr_v Cx hP hD hS (yq_of (S := Unit) (w1 := fun u => [(b, .inl (cyB, N, .inl (va_cpy f1 f 0 k n1)))]) (ws1 := fun u => [(a, .inr (11, [.ref b, .int (0 : Int32), .int ml, .int cnt])), (b, .inl (cyB, N, .inl (va_cpy f1 f 0 k n1)))]) [(a, .inr (11, [.ref b, .int (0 : Int32), .int ml, .int cnt]))] [1] [0] [0, 1] rfl rfl rfl rfl (by decide) (fun _ => rfl) rfl) (yx_V (n := 3) (As := [.ref b, .int (nI k), .int (0 : Int32)]) (rest := []) Cx hP hD hS hl (yq_of (S := Unit) (w1 := fun u => [(b, .inl (cyB, N, .inl (va_cpy f1 f 0 k n1)))]) (ws1 := fun u => [(a, .inr (11, [.ref b, .int (0 : Int32), .int ml, .int cnt])), (b, .inl (cyB, N, .inl (va_cpy f1 f 0 k n1)))]) [(a, .inr (11, [.ref b, .int (0 : Int32), .int ml, .int cnt]))] [1] [0] [0, 1] rfl rfl rfl rfl (by decide) (fun _ => rfl) rfl) hK (fz_and (fz_ZJ g) (fz_ZS a1 v1 n1 f1)) (fun hF => (fz_give (fz_and (fz_ZJ g) (fz_ZS a1 v1 n1 f1)) hT hS hF)) (c_J0_getBytes_840e7 l D cyI cyJ cyB cyQ g H.size a1 v1 n1 f1 b N f k hk hN hfit) pk_J0_getBytes_840e7 mw_4_111 ⟨rfl, rfl, Nat.le_of_ble_eq_true rfl, Nat.le_of_ble_eq_true rfl⟩ (y_recvO (va_O.kept hT.2.1 hS.2.1)) rfl rfl (Nat.le_of_ble_eq_true rfl) ⟨Nat.le_of_ble_eq_true rfl, Nat.le_of_ble_eq_true rfl⟩ dJ5_putStringAt_47b60_15) (fun u H locs hp hP hD hS => ?_)
  have hP : va_P D xcl [(a, .inr (11, [.ref b, .int (0 : Int32), .int ml, .int cnt])), (b, .inl (cyB, N, .inl (va_cpy f1 f 0 k n1)))] H := hP
  have hD : va_D A [(a, .inr (11, [.ref b, .int (0 : Int32), .int ml, .int cnt])), (b, .inl (cyB, N, .inl (va_cpy f1 f 0 k n1)))] := hD
  subst hAe
  rw [← hQ]
  exact ye_vret (post := (fun _ => True)) (w1 := (fun _ => [(a, .inr (11, [.ref b, .int (0 : Int32), .int ml, .int cnt])), (b, .inl (cyB, N, .inl (va_cpy f1 f 0 k n1)))])) () Cx (by exact trivial) hP hD hS dJ5_putStringAt_47b60_18
set_option maxHeartbeats 4000000 in
set_option maxRecDepth 20000 in
theorem c_J5_append_cf1ce (l : Launch) (D : va_G) (cyI cyJ cyB cyQ : ClassId) (g : Nat → Nat) (sz : Nat) (a b N : Nat) (f : Nat → Int32) (ml : Int32) (k : Nat) (a1 v1 n1 : Nat) (f1 : Nat → Int32) (hN : N ≤ 242) (hk : k ≤ N) (hkn : k + n1 ≤ 121) (hfit : sb_Fit f) (hfit1 : sb_Fit f1) : ym_r (S := (Nat × Nat × (Nat → Int32))) l yJ5_append_cf1ce (Cond.code yJ5_append_cf1ce cJ5_append_cf1ce 3 (some (.object "java/lang/AbstractStringBuilder")) :: xg_tbl) { frames := 4, cells := 1, slots := 242, locals := 115 } D xcl (ytys cyI cyJ cyB cyQ) (fun A U H => ZJ g A U H ∧ ZS a1 v1 n1 f1 A U H) sz [.ref a, .ref a1] [(a, .inr (11, [.ref b, .int (0 : Int32), .int ml, .int (nI k)])), (b, .inl (cyB, N, .inl f))] (fun u => k + n1 ≤ u.2.1 ∧ u.2.1 ≤ 242 ∧ sb_Fit u.2.2 ∧ (∀ j, j < k → u.2.2 j = f j) ∧ ∀ j, j < n1 → u.2.2 (k + j) = f1 j) (fun _ => a) (fun u => [(a, .inr (11, [.ref u.1, .int (0 : Int32), .int ml, .int (nI (k + n1))])), (u.1, .inl (cyB, u.2.1, .inl u.2.2))]) 1 242 := by
  refine ym_of (own := RJ5) (by decide) rfl rfl (Nat.le_of_ble_eq_true rfl) ?_
  intro p e s m args below meth c ls Q A H hQ hAe hH hin Cx hsz hP hD hS hl
  have Cx1 := Cx
  obtain ⟨⟨hx, hb, hml, hown, hts⟩, hr, hlocks, hK, hA, hT⟩ := Cx1
  have hl : lv_has ls 3 [(0, .ref a), (1, .ref a1)] := hl
  refine lv_aload_n hx hb dJ5_append_cf1ce_0 rfl (lv_at hl 1 rfl) ?_
  refine lv_ifnonnull (tgt := 9) hx hb dJ5_append_cf1ce_1 (by decide) ?_
  refine lv_aload_n hx hb dJ5_append_cf1ce_9 rfl (lv_at hl 1 rfl) ?_
  refine yr_i Cx hP hD hS (yq_of (S := Unit) (w1 := fun u => []) (ws1 := fun u => [(a, .inr (11, [.ref b, .int (0 : Int32), .int ml, .int (nI k)])), (b, .inl (cyB, N, .inl f))]) [(a, .inr (11, [.ref b, .int (0 : Int32), .int ml, .int (nI k)])), (b, .inl (cyB, N, .inl f))] [] [0, 1] [0, 1] rfl rfl rfl rfl (by decide) (fun _ => rfl) rfl) (yx_V (n := 0) (As := []) (rest := []) Cx hP hD hS hl (yq_of (S := Unit) (w1 := fun u => []) (ws1 := fun u => [(a, .inr (11, [.ref b, .int (0 : Int32), .int ml, .int (nI k)])), (b, .inl (cyB, N, .inl f))]) [(a, .inr (11, [.ref b, .int (0 : Int32), .int ml, .int (nI k)])), (b, .inl (cyB, N, .inl f))] [] [0, 1] [0, 1] rfl rfl rfl rfl (by decide) (fun _ => rfl) rfl) hK (fz_and (fz_ZJ g) (fz_ZS a1 v1 n1 f1)) (fun hF => (fz_give (fz_and (fz_ZJ g) (fz_ZS a1 v1 n1 f1)) hT hS hF)) (c_J0_length_8abf5 l D cyI cyJ cyB cyQ g H.size a1 v1 n1 f1) pk_J0_length_8abf5 mw_4_74 ⟨rfl, rfl, Nat.le_of_ble_eq_true rfl, Nat.le_of_ble_eq_true rfl⟩ (y_recvO (va_O.kept hT.2.1 hS.2.1)) rfl rfl (Nat.le_of_ble_eq_true rfl) ⟨Nat.le_of_ble_eq_true rfl, Nat.le_of_ble_eq_true rfl⟩ dJ5_append_cf1ce_10) (fun r_1 u H locs hp hP hD hS => ?_)
  have hP : va_P D xcl [(a, .inr (11, [.ref b, .int (0 : Int32), .int ml, .int (nI k)])), (b, .inl (cyB, N, .inl f))] H := hP
  have hD : va_D A [(a, .inr (11, [.ref b, .int (0 : Int32), .int ml, .int (nI k)])), (b, .inl (cyB, N, .inl f))] := hD
  subst hp
  refine lv_istore_n (lv' := [(2, .int (nI n1)), (0, .ref a), (1, .ref a1)]) hx hb dJ5_append_cf1ce_13 rfl hl (by decide) rfl (fun ls hl => ?_)
  refine lv_aload_n hx hb dJ5_append_cf1ce_14 rfl (lv_at hl 1 rfl) ?_
  refine lv_aload_n hx hb dJ5_append_cf1ce_15 rfl (lv_at hl 1 rfl) ?_
  refine va_get (ci := 11) (v := .int (nI k)) hx hb hts wJ4_in hown hK hP 0 rfl rfl 3 (by decide) (hts _ mw_3_232) (fun _ h9 => h9) rfl dJ5_append_cf1ce_16 ?_
  refine lv_iload_n hx hb dJ5_append_cf1ce_19 rfl (lv_at hl 0 rfl) ?_
  refine lv_iadd hx hb dJ5_append_cf1ce_20 ?_
  rw [nI_add]
  refine yr_v Cx hP hD hS (yq_of (S := (Nat × Nat × (Nat → Int32))) (w1 := fun u1 => [(a, .inr (11, [.ref u1.1, .int (0 : Int32), .int ml, .int (nI k)])), (u1.1, .inl (cyB, u1.2.1, .inl u1.2.2))]) (ws1 := fun u1 => [(a, .inr (11, [.ref u1.1, .int (0 : Int32), .int ml, .int (nI k)])), (u1.1, .inl (cyB, u1.2.1, .inl u1.2.2))]) [] [0, 1] [] [0, 1] rfl rfl rfl rfl (by decide) (fun _ => rfl) rfl) (yx_U (C := RJ4) (owner := "java/lang/AbstractStringBuilder") (n := 1) (As := [.int (nI (k + n1))]) (rest := []) Cx hP hD hS hl (yq_of (S := (Nat × Nat × (Nat → Int32))) (w1 := fun u1 => [(a, .inr (11, [.ref u1.1, .int (0 : Int32), .int ml, .int (nI k)])), (u1.1, .inl (cyB, u1.2.1, .inl u1.2.2))]) (ws1 := fun u1 => [(a, .inr (11, [.ref u1.1, .int (0 : Int32), .int ml, .int (nI k)])), (u1.1, .inl (cyB, u1.2.1, .inl u1.2.2))]) [] [0, 1] [] [0, 1] rfl rfl rfl rfl (by decide) (fun _ => rfl) rfl) hK (fz_ZJ g) (fun hF => (fz_give (fz_ZJ g) hT.1 hS hF)) (c_J5_ensureCapacityInternal_d00df l D cyI cyJ cyB cyQ g H.size a b N f ml (nI k) (k + n1) hN (by omega) hfit) mw_4_14 mw_5_59 mw_m_0 mw_4_16 mw_1_14 mw_4_17 rfl (by decide +kernel) ⟨rfl, rfl, Nat.le_of_ble_eq_true rfl, Nat.le_of_ble_eq_true rfl⟩ (va_recv hK hP rfl (q0 := 0) rfl) rfl rfl (Nat.le_of_ble_eq_true rfl) ⟨Nat.le_of_ble_eq_true rfl, Nat.le_of_ble_eq_true rfl⟩ dJ5_append_cf1ce_21) (fun u1 H locs hp hP hD hS => ?_)
  have hP : va_P D xcl [(a, .inr (11, [.ref u1.1, .int (0 : Int32), .int ml, .int (nI k)])), (u1.1, .inl (cyB, u1.2.1, .inl u1.2.2))] H := hP
  have hD : va_D A [(a, .inr (11, [.ref u1.1, .int (0 : Int32), .int ml, .int (nI k)])), (u1.1, .inl (cyB, u1.2.1, .inl u1.2.2))] := hD
  obtain ⟨b2, N2, f2⟩ := u1
  obtain ⟨hp1, hp2, hp3, hp4⟩ := hp
  have hP : va_P D xcl [(a, .inr (11, [.ref b2, .int (0 : Int32), .int ml, .int (nI k)])), (b2, .inl (cyB, N2, .inl f2))] H := hP
  have hD : va_D A [(a, .inr (11, [.ref b2, .int (0 : Int32), .int ml, .int (nI k)])), (b2, .inl (cyB, N2, .inl f2))] := hD
  have hp1 : (k + n1) ≤ N2 := hp1
  have hp2 : N2 ≤ 242 := hp2
  have hp3 : sb_Fit f2 := hp3
  have hp4 : ∀ j, j < N → f2 j = f j := hp4
  refine lv_aload_n hx hb dJ5_append_cf1ce_24 rfl (lv_at hl 1 rfl) ?_
  refine lv_aload_n hx hb dJ5_append_cf1ce_25 rfl (lv_at hl 1 rfl) ?_
  refine va_get (ci := 11) (v := .int (nI k)) hx hb hts wJ4_in hown hK hP 0 rfl rfl 3 (by decide) (hts _ mw_3_232) (fun _ h9 => h9) rfl dJ5_append_cf1ce_26 ?_
  refine lv_aload_n hx hb dJ5_append_cf1ce_29 rfl (lv_at hl 2 rfl) ?_
  refine yr_v Cx hP hD hS (yq_of (S := Unit) (w1 := fun u => [(a, .inr (11, [.ref b2, .int (0 : Int32), .int ml, .int (nI k)])), (b2, .inl (cyB, N2, .inl (va_cpy f1 f2 0 k n1)))]) (ws1 := fun u => [(a, .inr (11, [.ref b2, .int (0 : Int32), .int ml, .int (nI k)])), (b2, .inl (cyB, N2, .inl (va_cpy f1 f2 0 k n1)))]) [] [0, 1] [] [0, 1] rfl rfl rfl rfl (by decide) (fun _ => rfl) rfl) (yx_U (C := RJ4) (owner := "java/lang/AbstractStringBuilder") (n := 2) (As := [.int (nI k), .ref a1]) (rest := []) Cx hP hD hS hl (yq_of (S := Unit) (w1 := fun u => [(a, .inr (11, [.ref b2, .int (0 : Int32), .int ml, .int (nI k)])), (b2, .inl (cyB, N2, .inl (va_cpy f1 f2 0 k n1)))]) (ws1 := fun u => [(a, .inr (11, [.ref b2, .int (0 : Int32), .int ml, .int (nI k)])), (b2, .inl (cyB, N2, .inl (va_cpy f1 f2 0 k n1)))]) [] [0, 1] [] [0, 1] rfl rfl rfl rfl (by decide) (fun _ => rfl) rfl) hK (fz_and (fz_ZJ g) (fz_ZS a1 v1 n1 f1)) (fun hF => (fz_give (fz_and (fz_ZJ g) (fz_ZS a1 v1 n1 f1)) hT hS hF)) (c_J5_putStringAt_47b60 l D cyI cyJ cyB cyQ g H.size a b2 N2 f2 ml (nI k) a1 v1 n1 f1 k hp1 hp2 hfit1) mw_4_83 mw_5_61 mw_m_2 mw_4_85 mw_1_14 mw_4_86 rfl (by decide +kernel) ⟨rfl, rfl, Nat.le_of_ble_eq_true rfl, Nat.le_of_ble_eq_true rfl⟩ (va_recv hK hP rfl (q0 := 0) rfl) rfl rfl (Nat.le_of_ble_eq_true rfl) ⟨(show (0 + 1) + 0 ≤ (1 : Nat) by omega), (show (0 + 242) + 0 ≤ (242 : Nat) by omega)⟩ dJ5_append_cf1ce_30) (fun u H locs hp hP hD hS => ?_)
  have hP : va_P D xcl [(a, .inr (11, [.ref b2, .int (0 : Int32), .int ml, .int (nI k)])), (b2, .inl (cyB, N2, .inl (va_cpy f1 f2 0 k n1)))] H := hP
  have hD : va_D A [(a, .inr (11, [.ref b2, .int (0 : Int32), .int ml, .int (nI k)])), (b2, .inl (cyB, N2, .inl (va_cpy f1 f2 0 k n1)))] := hD
  refine lv_aload_n hx hb dJ5_append_cf1ce_33 rfl (lv_at hl 1 rfl) ?_
  refine lv_dup hx hb dJ5_append_cf1ce_34 rfl ?_
  refine va_get (ci := 11) (v := .int (nI k)) hx hb hts wJ4_in hown hK hP 0 rfl rfl 3 (by decide) (hts _ mw_3_232) (fun _ h9 => h9) rfl dJ5_append_cf1ce_35 ?_
  refine lv_iload_n hx hb dJ5_append_cf1ce_38 rfl (lv_at hl 0 rfl) ?_
  refine lv_iadd hx hb dJ5_append_cf1ce_39 ?_
  rw [nI_add]
  refine va_put (ci := 11) (v := .int (nI (k + n1))) (ty := .int) hx hb hts wJ4_in tyJ4 tyJ4_ok nmJ4 hown hK hP hD hS 0 rfl rfl 3 (by decide) (hts _ mw_3_232) (fun _ h9 => h9) rfl (by decide +kernel) rfl rfl (Nat.le_of_ble_eq_true rfl) dJ5_append_cf1ce_40 (fun H locs hP hD hS => ?_)
  have hP : va_P D xcl [(a, .inr (11, [.ref b2, .int (0 : Int32), .int ml, .int (nI (k + n1))])), (b2, .inl (cyB, N2, .inl (va_cpy f1 f2 0 k n1)))] H := hP
  have hD : va_D A [(a, .inr (11, [.ref b2, .int (0 : Int32), .int ml, .int (nI (k + n1))])), (b2, .inl (cyB, N2, .inl (va_cpy f1 f2 0 k n1)))] := hD
  refine lv_aload_n hx hb dJ5_append_cf1ce_43 rfl (lv_at hl 1 rfl) ?_
  refine W.widen (k := 1) (n := 242) (show (0 + 1) ≤ 1 by omega) (show (0 + 242) ≤ 242 by omega) ?_
  have hP : va_P D xcl [(a, .inr (11, [.ref b2, .int (0 : Int32), .int ml, .int (nI (k + n1))])), (b2, .inl (cyB, N2, .inl (va_cpy f1 f2 0 k n1)))] H := hP
  have hD : va_D A [(a, .inr (11, [.ref b2, .int (0 : Int32), .int ml, .int (nI (k + n1))])), (b2, .inl (cyB, N2, .inl (va_cpy f1 f2 0 k n1)))] := hD
  subst hAe
  rw [← hQ]
  exact ye_aret (post := (fun u => k + n1 ≤ u.2.1 ∧ u.2.1 ≤ 242 ∧ sb_Fit u.2.2 ∧ (∀ j, j < k → u.2.2 j = f j) ∧ ∀ j, j < n1 → u.2.2 (k + j) = f1 j)) (ad := (fun _ => a)) (w1 := (fun u => [(a, .inr (11, [.ref u.1, .int (0 : Int32), .int ml, .int (nI (k + n1))])), (u.1, .inl (cyB, u.2.1, .inl u.2.2))])) (b2, N2, va_cpy f1 f2 0 k n1) Cx (by first | exact Or.inl ⟨_, rfl⟩ | exact Or.inr ⟨_, rfl⟩) (by exact ⟨hp1, hp2, sb_fitC hfit1 hp3, fun j hj => (pk_cpy_out (Or.inl hj)).trans (hp4 j (by omega)), fun j hj => (pk_cpy_in (by omega) (by omega)).trans (by rw [show 0 + (k + j - k) = j by omega])⟩) rfl hP hD hS dJ5_append_cf1ce_44
set_option maxHeartbeats 4000000 in
set_option maxRecDepth 20000 in
theorem c_J4_append_15ec4 (l : Launch) (D : va_G) (cyI cyJ cyB cyQ : ClassId) (g : Nat → Nat) (sz : Nat) (a b N : Nat) (f : Nat → Int32) (ml : Int32) (k : Nat) (a1 v1 n1 : Nat) (f1 : Nat → Int32) (hN : N ≤ 242) (hk : k ≤ N) (hkn : k + n1 ≤ 121) (hfit : sb_Fit f) (hfit1 : sb_Fit f1) : ym_r (S := (Nat × Nat × (Nat → Int32))) l yJ4_append_15ec4 (Cond.code yJ4_append_15ec4 cJ4_append_15ec4 2 (some (.object "java/lang/StringBuilder")) :: xg_tbl) { frames := 5, cells := 1, slots := 242, locals := 137 } D xcl (ytys cyI cyJ cyB cyQ) (fun A U H => ZJ g A U H ∧ ZS a1 v1 n1 f1 A U H) sz [.ref a, .ref a1] [(a, .inr (11, [.ref b, .int (0 : Int32), .int ml, .int (nI k)])), (b, .inl (cyB, N, .inl f))] (fun u => k + n1 ≤ u.2.1 ∧ u.2.1 ≤ 242 ∧ sb_Fit u.2.2 ∧ (∀ j, j < k → u.2.2 j = f j) ∧ ∀ j, j < n1 → u.2.2 (k + j) = f1 j) (fun _ => a) (fun u => [(a, .inr (11, [.ref u.1, .int (0 : Int32), .int ml, .int (nI (k + n1))])), (u.1, .inl (cyB, u.2.1, .inl u.2.2))]) 1 242 := by
  refine ym_of (own := RJ4) (by decide) rfl rfl (Nat.le_of_ble_eq_true rfl) ?_
  intro p e s m args below meth c ls Q A H hQ hAe hH hin Cx hsz hP hD hS hl
  have Cx1 := Cx
  obtain ⟨⟨hx, hb, hml, hown, hts⟩, hr, hlocks, hK, hA, hT⟩ := Cx1
  have hl : lv_has ls 2 [(0, .ref a), (1, .ref a1)] := hl
  refine lv_aload_n hx hb dJ4_append_15ec4_0 rfl (lv_at hl 0 rfl) ?_
  refine lv_aload_n hx hb dJ4_append_15ec4_1 rfl (lv_at hl 1 rfl) ?_
  refine yr_r Cx hP hD hS (yq_of (S := (Nat × Nat × (Nat → Int32))) (w1 := fun u1 => [(a, .inr (11, [.ref u1.1, .int (0 : Int32), .int ml, .int (nI (k + n1))])), (u1.1, .inl (cyB, u1.2.1, .inl u1.2.2))]) (ws1 := fun u1 => [(a, .inr (11, [.ref u1.1, .int (0 : Int32), .int ml, .int (nI (k + n1))])), (u1.1, .inl (cyB, u1.2.1, .inl u1.2.2))]) [] [0, 1] [] [0, 1] rfl rfl rfl rfl (by decide) (fun _ => rfl) rfl) (yx_P (C := RJ4) (n := 1) (As := [.ref a1]) (rest := []) Cx hP hD hS hl (yq_of (S := (Nat × Nat × (Nat → Int32))) (w1 := fun u1 => [(a, .inr (11, [.ref u1.1, .int (0 : Int32), .int ml, .int (nI (k + n1))])), (u1.1, .inl (cyB, u1.2.1, .inl u1.2.2))]) (ws1 := fun u1 => [(a, .inr (11, [.ref u1.1, .int (0 : Int32), .int ml, .int (nI (k + n1))])), (u1.1, .inl (cyB, u1.2.1, .inl u1.2.2))]) [] [0, 1] [] [0, 1] rfl rfl rfl rfl (by decide) (fun _ => rfl) rfl) hK (fz_and (fz_ZJ g) (fz_ZS a1 v1 n1 f1)) (fun hF => (fz_give (fz_and (fz_ZJ g) (fz_ZS a1 v1 n1 f1)) hT hS hF)) (c_J5_append_cf1ce l D cyI cyJ cyB cyQ g H.size a b N f ml k a1 v1 n1 f1 hN hk hkn hfit hfit1) mw_4_7 mw_5_57 mw_4_1 mw_4_8 mw_1_14 mw_4_9 (by decide +kernel) ⟨rfl, rfl, Nat.le_of_ble_eq_true rfl, Nat.le_of_ble_eq_true rfl⟩ (hK.1 11 _ rfl).2 (va_recv hK hP rfl (q0 := 0) rfl) rfl rfl (Nat.le_of_ble_eq_true rfl) ⟨Nat.le_of_ble_eq_true rfl, Nat.le_of_ble_eq_true rfl⟩ dJ4_append_15ec4_2) (fun u1 H locs hp hP hD hS => ?_)
  have hP : va_P D xcl [(a, .inr (11, [.ref u1.1, .int (0 : Int32), .int ml, .int (nI (k + n1))])), (u1.1, .inl (cyB, u1.2.1, .inl u1.2.2))] H := hP
  have hD : va_D A [(a, .inr (11, [.ref u1.1, .int (0 : Int32), .int ml, .int (nI (k + n1))])), (u1.1, .inl (cyB, u1.2.1, .inl u1.2.2))] := hD
  refine lv_pop hx hb dJ4_append_15ec4_5 rfl ?_
  refine lv_aload_n hx hb dJ4_append_15ec4_6 rfl (lv_at hl 0 rfl) ?_
  refine W.widen (k := 1) (n := 242) (show (0 + 1) ≤ 1 by omega) (show (0 + 242) ≤ 242 by omega) ?_
  subst hAe
  rw [← hQ]
  exact ye_aret (post := (fun u => k + n1 ≤ u.2.1 ∧ u.2.1 ≤ 242 ∧ sb_Fit u.2.2 ∧ (∀ j, j < k → u.2.2 j = f j) ∧ ∀ j, j < n1 → u.2.2 (k + j) = f1 j)) (ad := (fun _ => a)) (w1 := (fun u => [(a, .inr (11, [.ref u.1, .int (0 : Int32), .int ml, .int (nI (k + n1))])), (u.1, .inl (cyB, u.2.1, .inl u.2.2))])) u1 Cx (by first | exact Or.inl ⟨_, rfl⟩ | exact Or.inr ⟨_, rfl⟩) (by exact hp) rfl hP hD hS dJ4_append_15ec4_7
set_option maxHeartbeats 4000000 in
set_option maxRecDepth 20000 in
theorem c_J6_stringSize_0f7a4 (l : Launch) (D : va_G) (cyI cyJ cyB cyQ : ClassId) (g : Nat → Nat) (sz : Nat) (k : Nat) (hk : k < 100) : ym_i (S := Unit) l yJ6_stringSize_0f7a4 (Cond.code yJ6_stringSize_0f7a4 cJ6_stringSize_0f7a4 4 (some .int) :: xg_tbl) { frames := 0, cells := 0, slots := 0, locals := 0 } D xcl (ytys cyI cyJ cyB cyQ) (ZJ g) sz [.int (nI k)] [] (fun r _ => r = nI (if k < 10 then 1 else 2)) (fun _ => []) 0 0 := by
  refine ym_of (own := RJ6) (by decide) rfl rfl (Nat.le_of_ble_eq_true rfl) ?_
  intro p e s m args below meth c ls Q A H hQ hAe hH hin Cx hsz hP hD hS hl
  have Cx1 := Cx
  obtain ⟨⟨hx, hb, hml, hown, hts⟩, hr, hlocks, hK, hA, hT⟩ := Cx1
  have hl : lv_has ls 4 [(0, .int (nI k))] := hl
  refine lv_iconst (v := (1 : Int32)) hx hb dJ6_stringSize_0f7a4_0 (by decide) ?_
  refine lv_istore_n (lv' := [(1, .int (1 : Int32)), (0, .int (nI k))]) hx hb dJ6_stringSize_0f7a4_1 rfl hl (by decide) rfl (fun ls hl => ?_)
  refine lv_iload_n hx hb dJ6_stringSize_0f7a4_2 rfl (lv_at hl 1 rfl) ?_
  refine lv_if_lt (tgt := 11) hx hb dJ6_stringSize_0f7a4_3 (by decide) (fun hc => absurd hc (nI_pos (by omega))) (fun _ => ?_)
  refine lv_iconst (v := (0 : Int32)) hx hb dJ6_stringSize_0f7a4_6 (by decide) ?_
  refine lv_istore_n (lv' := [(1, .int (0 : Int32)), (0, .int (nI k))]) hx hb dJ6_stringSize_0f7a4_7 rfl hl (by decide) rfl (fun ls hl => ?_)
  refine lv_iload_n hx hb dJ6_stringSize_0f7a4_8 rfl (lv_at hl 1 rfl) ?_
  refine lv_ineg hx hb dJ6_stringSize_0f7a4_9 ?_
  refine lv_istore_n (lv' := [(0, .int (-(nI k))), (1, .int (0 : Int32))]) hx hb dJ6_stringSize_0f7a4_10 rfl hl (by decide) rfl (fun ls hl => ?_)
  refine lv_bipush (v := (-10 : Int32)) hx hb dJ6_stringSize_0f7a4_11 (by decide) ?_
  refine lv_istore_n (lv' := [(2, .int (-10 : Int32)), (0, .int (-(nI k))), (1, .int (0 : Int32))]) hx hb dJ6_stringSize_0f7a4_13 rfl hl (by decide) rfl (fun ls hl => ?_)
  refine lv_iconst (v := (1 : Int32)) hx hb dJ6_stringSize_0f7a4_14 (by decide) ?_
  refine lv_istore_n (lv' := [(3, .int (1 : Int32)), (2, .int (-10 : Int32)), (0, .int (-(nI k))), (1, .int (0 : Int32))]) hx hb dJ6_stringSize_0f7a4_15 rfl hl (by decide) rfl (fun ls hl => ?_)
  refine lv_iload_n hx hb dJ6_stringSize_0f7a4_16 rfl (lv_at hl 0 rfl) ?_
  refine lv_bipush (v := (10 : Int32)) hx hb dJ6_stringSize_0f7a4_17 (by decide) ?_
  refine lv_icmp_ge (tgt := 42) hx hb dJ6_stringSize_0f7a4_19 (by decide) (fun hc => absurd hc (by decide)) (fun _ => ?_)
  refine lv_iload_n hx hb dJ6_stringSize_0f7a4_22 rfl (lv_at hl 2 rfl) ?_
  refine lv_iload_n hx hb dJ6_stringSize_0f7a4_23 rfl (lv_at hl 1 rfl) ?_
  have e10 : -nI k ≤ (-10 : Int32) ↔ 10 ≤ k := sb_nle (b := 10) (by omega) (by decide)
  refine lv_icmp_le (tgt := 31) hx hb dJ6_stringSize_0f7a4_24 (by decide) (fun hc => ?_) (fun hc => ?_)
  · have hc := e10.mp hc
    refine lv_bipush (v := (10 : Int32)) hx hb dJ6_stringSize_0f7a4_31 (by decide) ?_
    refine lv_iload_n hx hb dJ6_stringSize_0f7a4_33 rfl (lv_at hl 1 rfl) ?_
    refine lv_imul hx hb dJ6_stringSize_0f7a4_34 ?_
    refine lv_istore_n (lv' := [(2, .int ((10 : Int32) * (-10 : Int32))), (3, .int (1 : Int32)), (0, .int (-(nI k))), (1, .int (0 : Int32))]) hx hb dJ6_stringSize_0f7a4_35 rfl hl (by decide) rfl (fun ls hl => ?_)
    refine lv_iinc (v := ((1 : Int32) + (1 : Int32))) (lv' := [(3, .int ((1 : Int32) + (1 : Int32))), (2, .int ((10 : Int32) * (-10 : Int32))), (0, .int (-(nI k))), (1, .int (0 : Int32))]) hx hb dJ6_stringSize_0f7a4_36 hl (k := 1) rfl rfl (by decide) rfl (fun ls hl => ?_)
    refine lv_goto (tgt := 16) hx hb dJ6_stringSize_0f7a4_39 (by decide) ?_
    refine lv_iload_n hx hb dJ6_stringSize_0f7a4_16 rfl (lv_at hl 0 rfl) ?_
    refine lv_bipush (v := (10 : Int32)) hx hb dJ6_stringSize_0f7a4_17 (by decide) ?_
    refine lv_icmp_ge (tgt := 42) hx hb dJ6_stringSize_0f7a4_19 (by decide) (fun hc => absurd hc (by decide)) (fun _ => ?_)
    refine lv_iload_n hx hb dJ6_stringSize_0f7a4_22 rfl (lv_at hl 2 rfl) ?_
    refine lv_iload_n hx hb dJ6_stringSize_0f7a4_23 rfl (lv_at hl 1 rfl) ?_
    refine lv_icmp_le (tgt := 31) hx hb dJ6_stringSize_0f7a4_24 (by decide) (fun hc => absurd hc (show ¬ -nI k ≤ (10 : Int32) * (-10 : Int32) from fun h9 => by have := (sb_nle (a := k) (b := 100) (by omega) (by decide)).mp h9; omega)) (fun _ => ?_)
    refine lv_iload_n hx hb dJ6_stringSize_0f7a4_27 rfl (lv_at hl 0 rfl) ?_
    refine lv_iload_n hx hb dJ6_stringSize_0f7a4_28 rfl (lv_at hl 3 rfl) ?_
    refine lv_iadd hx hb dJ6_stringSize_0f7a4_29 ?_
    subst hAe
    rw [← hQ]
    exact ye_iret (post := (fun r _ => r = nI (if k < 10 then 1 else 2))) (w1 := (fun _ => [])) () Cx (by exact (by rw [if_neg (by omega)]; rfl)) rfl hP hD hS dJ6_stringSize_0f7a4_30
  · have hc : ¬ 10 ≤ k := fun h9 => hc (e10.mpr h9)
    refine lv_iload_n hx hb dJ6_stringSize_0f7a4_27 rfl (lv_at hl 0 rfl) ?_
    refine lv_iload_n hx hb dJ6_stringSize_0f7a4_28 rfl (lv_at hl 3 rfl) ?_
    refine lv_iadd hx hb dJ6_stringSize_0f7a4_29 ?_
    subst hAe
    rw [← hQ]
    exact ye_iret (post := (fun r _ => r = nI (if k < 10 then 1 else 2))) (w1 := (fun _ => [])) () Cx (by exact (by rw [if_pos (by omega)]; rfl)) rfl hP hD hS dJ6_stringSize_0f7a4_30
def jgc (k q : Nat) (f : Nat → Int32) : Nat → Int32 := if k < 10 then upd f (q - 1) (sb_b (48 + k)) else upd (upd f (q - 1) (sb_b (48 + k % 10))) (q - 2) (sb_b (48 + k / 10))
theorem jd_b : ∀ k, k < 100 → vp_nar .byte (jd1 k) = sb_b (48 + k % 10) ∧ vp_nar .byte (jd10 k) = sb_b (48 + k / 10) := by decide +kernel
set_option maxHeartbeats 4000000 in
set_option maxRecDepth 20000 in
theorem c_J6_getChars_ba4f3 (l : Launch) (D : va_G) (cyI cyJ cyB cyQ : ClassId) (g : Nat → Nat) (sz : Nat) (k q b N : Nat) (f : Nat → Int32) (hk : k < 100) (hq : (if k < 10 then 1 else 2) ≤ q) (hN : q ≤ N) (hN2 : N ≤ 242) : ym_i (S := Unit) l yJ6_getChars_ba4f3 (Cond.code yJ6_getChars_ba4f3 cJ6_getChars_ba4f3 7 (some .int) :: xg_tbl) { frames := 0, cells := 0, slots := 0, locals := 0 } D xcl (ytys cyI cyJ cyB cyQ) (ZJ g) sz [.int (nI k), .int (nI q), .ref b] [(b, .inl (cyB, N, .inl f))] (fun _ _ => True) (fun _ => [(b, .inl (cyB, N, .inl (jgc k q f)))]) 0 0 := by
  refine ym_of (own := RJ6) (by decide) rfl rfl (Nat.le_of_ble_eq_true rfl) ?_
  intro p e s m args below meth c ls Q A H hQ hAe hH hin Cx hsz hP hD hS hl
  have Cx1 := Cx
  obtain ⟨⟨hx, hb, hml, hown, hts⟩, hr, hlocks, hK, hA, hT⟩ := Cx1
  have hl : lv_has ls 7 [(0, .int (nI k)), (1, .int (nI q)), (2, .ref b)] := hl
  refine lv_iload_n hx hb dJ6_getChars_ba4f3_0 rfl (lv_at hl 1 rfl) ?_
  refine lv_istore (lv' := [(5, .int (nI q)), (0, .int (nI k)), (1, .int (nI q)), (2, .ref b)]) hx hb dJ6_getChars_ba4f3_1 hl (by decide) rfl (fun ls hl => ?_)
  refine lv_iload_n hx hb dJ6_getChars_ba4f3_3 rfl (lv_at hl 1 rfl) ?_
  refine lv_if_ge (tgt := 11) hx hb dJ6_getChars_ba4f3_4 (by decide) (fun _ => ?_) (fun hc => absurd (nI_pos' (by omega)) hc)
  refine lv_iconst (v := (0 : Int32)) hx hb dJ6_getChars_ba4f3_11 (by decide) ?_
  refine lv_istore (lv' := [(6, .int (0 : Int32)), (5, .int (nI q)), (0, .int (nI k)), (1, .int (nI q)), (2, .ref b)]) hx hb dJ6_getChars_ba4f3_12 hl (by decide) rfl (fun ls hl => ?_)
  refine lv_iload hx hb dJ6_getChars_ba4f3_14 (lv_at hl 0 rfl) ?_
  refine lv_if_ne (tgt := 22) hx hb dJ6_getChars_ba4f3_16 (by decide) (fun hc => absurd rfl hc) (fun _ => ?_)
  refine lv_iload_n hx hb dJ6_getChars_ba4f3_19 rfl (lv_at hl 2 rfl) ?_
  refine lv_ineg hx hb dJ6_getChars_ba4f3_20 ?_
  refine lv_istore_n (lv' := [(0, .int (-(nI k))), (6, .int (0 : Int32)), (5, .int (nI q)), (1, .int (nI q)), (2, .ref b)]) hx hb dJ6_getChars_ba4f3_21 rfl hl (by decide) rfl (fun ls hl => ?_)
  refine lv_iload_n hx hb dJ6_getChars_ba4f3_22 rfl (lv_at hl 0 rfl) ?_
  refine lv_bipush (v := (-100 : Int32)) hx hb dJ6_getChars_ba4f3_23 (by decide) ?_
  refine lv_icmp_gt (tgt := 72) hx hb dJ6_getChars_ba4f3_25 (by decide) (fun _ => ?_) (fun hc => absurd (show (-100 : Int32) < -nI k from (sb_nlt (a := 100) (b := k) (by decide) (by omega)).mpr hk) hc)
  refine lv_aload_n hx hb dJ6_getChars_ba4f3_72 rfl (lv_at hl 4 rfl) ?_
  refine lv_iinc (v := ((nI q) + (-1 : Int32))) (lv' := [(5, .int ((nI q) + (-1 : Int32))), (0, .int (-(nI k))), (6, .int (0 : Int32)), (1, .int (nI q)), (2, .ref b)]) hx hb dJ6_getChars_ba4f3_73 hl (k := 2) rfl rfl (by decide) rfl (fun ls hl => ?_)
  refine lv_iload hx hb dJ6_getChars_ba4f3_76 (lv_at hl 0 rfl) ?_
  have hq1 : 1 ≤ q := by split at hq <;> omega
  have e1 : nI q + (-1 : Int32) = nI (q - 1) := sb_m1 (by omega)
  refine va_gets hx hb hT.2.1 hS hown (hts _ mw_4_130) (fun _ h9 => h9) dJ6_getChars_ba4f3_78 ?_
  refine lv_iload_n hx hb dJ6_getChars_ba4f3_81 rfl (lv_at hl 1 rfl) ?_
  refine lv_ineg hx hb dJ6_getChars_ba4f3_82 ?_
  rw [Int32.neg_neg]
  refine va_tb hx hb hT.2.2.1 hS (vp_in_nI hk (by decide)) (v := .int (jd1 k)) (by rw [nI_clamp (by omega)]) dJ6_getChars_ba4f3_83 ?_
  refine va_bast hx hb hK hP hD hS 0 2 rfl rfl (by rw [e1]; exact vp_in_nI (by omega) (by omega)) dJ6_getChars_ba4f3_84 (fun H locs hP hD hS => ?_)
  rw [e1, nI_clamp (by omega), (jd_b k hk).1] at hP hD
  have hP : va_P D xcl [(b, .inl (cyB, N, .inl (upd f (q - 1) (sb_b (48 + k % 10)))))] H := hP
  have hD : va_D A [(b, .inl (cyB, N, .inl (upd f (q - 1) (sb_b (48 + k % 10)))))] := hD
  refine lv_iload_n hx hb dJ6_getChars_ba4f3_85 rfl (lv_at hl 1 rfl) ?_
  refine lv_bipush (v := (-9 : Int32)) hx hb dJ6_getChars_ba4f3_86 (by decide) ?_
  have e9 : (-9 : Int32) ≤ -nI k ↔ k ≤ 9 := sb_nle (a := 9) (by decide) (by omega)
  refine lv_icmp_ge (tgt := 104) hx hb dJ6_getChars_ba4f3_88 (by decide) (fun hc => ?_) (fun hc => ?_)
  · have hc := e9.mp hc
    refine lv_iload hx hb dJ6_getChars_ba4f3_104 (lv_at hl 2 rfl) ?_
    refine lv_if_eq (tgt := 118) hx hb dJ6_getChars_ba4f3_106 (by decide) (fun _ => ?_) (fun hc => absurd rfl hc)
    refine lv_iload hx hb dJ6_getChars_ba4f3_118 (lv_at hl 0 rfl) ?_
    have eg : jgc k q f = upd f (q - 1) (sb_b (48 + k % 10)) := by unfold jgc; rw [if_pos (by omega), Nat.mod_eq_of_lt (by omega)]
    rw [← eg] at hP hD
    subst hAe
    rw [← hQ]
    exact ye_iret (post := (fun _ _ => True)) (w1 := (fun _ => [(b, .inl (cyB, N, .inl (jgc k q f)))])) () Cx (by exact trivial) rfl hP hD hS dJ6_getChars_ba4f3_120
  · have hc : ¬ k ≤ 9 := fun h9 => hc (e9.mpr h9)
    have hq2 : 2 ≤ q := by rw [if_neg (by omega)] at hq; exact hq
    have e2 : nI q + (-1 : Int32) + (-1 : Int32) = nI (q - 2) := by rw [e1, sb_m1 (by omega)]; rfl
    refine lv_aload_n hx hb dJ6_getChars_ba4f3_91 rfl (lv_at hl 4 rfl) ?_
    refine lv_iinc (v := (((nI q) + (-1 : Int32)) + (-1 : Int32))) (lv' := [(5, .int (((nI q) + (-1 : Int32)) + (-1 : Int32))), (0, .int (-(nI k))), (6, .int (0 : Int32)), (1, .int (nI q)), (2, .ref b)]) hx hb dJ6_getChars_ba4f3_92 hl (k := 0) rfl rfl (by decide) rfl (fun ls hl => ?_)
    refine lv_iload hx hb dJ6_getChars_ba4f3_95 (lv_at hl 0 rfl) ?_
    refine va_gets hx hb hT.2.2.2.1 hS hown (hts _ mw_4_132) (fun _ h9 => h9) dJ6_getChars_ba4f3_97 ?_
    refine lv_iload_n hx hb dJ6_getChars_ba4f3_100 rfl (lv_at hl 1 rfl) ?_
    refine lv_ineg hx hb dJ6_getChars_ba4f3_101 ?_
    rw [Int32.neg_neg]
    refine va_tb hx hb hT.2.2.2.2.1 hS (vp_in_nI hk (by decide)) (v := .int (jd10 k)) (by rw [nI_clamp (by omega)]) dJ6_getChars_ba4f3_102 ?_
    refine va_bast hx hb hK hP hD hS 0 2 rfl rfl (by rw [e2]; exact vp_in_nI (by omega) (by omega)) dJ6_getChars_ba4f3_103 (fun H locs hP hD hS => ?_)
    rw [e2, nI_clamp (by omega), (jd_b k hk).2] at hP hD
    have hP : va_P D xcl [(b, .inl (cyB, N, .inl (upd (upd f (q - 1) (sb_b (48 + k % 10))) (q - 2) (sb_b (48 + k / 10)))))] H := hP
    have hD : va_D A [(b, .inl (cyB, N, .inl (upd (upd f (q - 1) (sb_b (48 + k % 10))) (q - 2) (sb_b (48 + k / 10)))))] := hD
    refine lv_iload hx hb dJ6_getChars_ba4f3_104 (lv_at hl 2 rfl) ?_
    refine lv_if_eq (tgt := 118) hx hb dJ6_getChars_ba4f3_106 (by decide) (fun _ => ?_) (fun hc => absurd rfl hc)
    refine lv_iload hx hb dJ6_getChars_ba4f3_118 (lv_at hl 0 rfl) ?_
    have eg : jgc k q f = upd (upd f (q - 1) (sb_b (48 + k % 10))) (q - 2) (sb_b (48 + k / 10)) := by unfold jgc; rw [if_neg (by omega)]
    rw [← eg] at hP hD
    subst hAe
    rw [← hQ]
    exact ye_iret (post := (fun _ _ => True)) (w1 := (fun _ => [(b, .inl (cyB, N, .inl (jgc k q f)))])) () Cx (by exact trivial) rfl hP hD hS dJ6_getChars_ba4f3_120
/-- the letters of a number below a hundred -/
def jdg (k : Nat) : List Nat := if k < 10 then [48 + k] else [48 + k / 10, 48 + k % 10]
theorem jdg_len (k : Nat) : (jdg k).length = if k < 10 then 1 else 2 := by unfold jdg; split <;> rfl
theorem jgc_fit {k q : Nat} {f : Nat → Int32} (h : sb_Fit f) : sb_Fit (jgc k q f) := by
  unfold jgc
  split
  · exact sb_fitU h (sb_fitB _)
  · exact sb_fitU (sb_fitU h (sb_fitB _)) (sb_fitB _)
theorem jgc_old {k c j : Nat} {f : Nat → Int32} (h : j < c) : jgc k (c + (jdg k).length) f j = f j := by
  unfold jgc
  by_cases h1 : k < 10
  · rw [jdg_len, if_pos h1, if_pos h1, pk_un (by omega)]
  · rw [jdg_len, if_neg h1, if_neg h1, pk_un (by omega), pk_un (by omega)]
theorem jgc_new {k c : Nat} {f : Nat → Int32} : ∀ j, j < (jdg k).length → jgc k (c + (jdg k).length) f (c + j) = sb_b ((jdg k).getD j 0) := by
  intro j hj
  unfold jgc jdg at *
  by_cases h1 : k < 10
  · rw [if_pos h1] at hj ⊢
    rw [if_pos h1]
    have : j = 0 := by simpa using hj
    subst this
    exact pk_us
  · rw [if_neg h1] at hj ⊢
    rw [if_neg h1]
    have : j < 2 := by simpa using hj
    rcases (show j = 0 ∨ j = 1 by omega) with rfl | rfl
    · exact pk_us
    · refine (pk_un (show c + 1 ≠ c + 2 - 2 by omega)).trans ?_
      exact pk_us
set_option maxHeartbeats 4000000 in
set_option maxRecDepth 20000 in
theorem c_J5_append_c97b9 (l : Launch) (D : va_G) (cyI cyJ cyB cyQ : ClassId) (g : Nat → Nat) (sz : Nat) (a b N : Nat) (f : Nat → Int32) (ml : Int32) (k : Nat) (x : Nat) (hx1 : x < 100) (hN : N ≤ 242) (hk : k ≤ N) (hkn : k + (jdg x).length ≤ 121) (hfit : sb_Fit f) : ym_r (S := (Nat × Nat × (Nat → Int32))) l yJ5_append_c97b9 (Cond.code yJ5_append_c97b9 cJ5_append_c97b9 4 (some (.object "java/lang/AbstractStringBuilder")) :: xg_tbl) { frames := 4, cells := 1, slots := 242, locals := 114 } D xcl (ytys cyI cyJ cyB cyQ) (ZJ g) sz [.ref a, .int (nI x)] [(a, .inr (11, [.ref b, .int (0 : Int32), .int ml, .int (nI k)])), (b, .inl (cyB, N, .inl f))] (fun u => k + (jdg x).length ≤ u.2.1 ∧ u.2.1 ≤ 242 ∧ sb_Fit u.2.2 ∧ (∀ j, j < k → u.2.2 j = f j) ∧ ∀ j, j < (jdg x).length → u.2.2 (k + j) = sb_b ((jdg x).getD j 0)) (fun _ => a) (fun u => [(a, .inr (11, [.ref u.1, .int (0 : Int32), .int ml, .int (nI (k + (jdg x).length))])), (u.1, .inl (cyB, u.2.1, .inl u.2.2))]) 1 242 := by
  refine ym_of (own := RJ5) (by decide) rfl rfl (Nat.le_of_ble_eq_true rfl) ?_
  intro p e s m args below meth c ls Q A H hQ hAe hH hin Cx hsz hP hD hS hl
  have Cx1 := Cx
  obtain ⟨⟨hx, hb, hml, hown, hts⟩, hr, hlocks, hK, hA, hT⟩ := Cx1
  have hl : lv_has ls 4 [(0, .ref a), (1, .int (nI x))] := hl
  refine lv_aload_n hx hb dJ5_append_c97b9_0 rfl (lv_at hl 0 rfl) ?_
  refine va_get (ci := 11) (v := .int (nI k)) hx hb hts wJ4_in hown hK hP 0 rfl rfl 3 (by decide) (hts _ mw_3_232) (fun _ h9 => h9) rfl dJ5_append_c97b9_1 ?_
  refine lv_istore_n (lv' := [(2, .int (nI k)), (0, .ref a), (1, .int (nI x))]) hx hb dJ5_append_c97b9_4 rfl hl (by decide) rfl (fun ls hl => ?_)
  refine lv_iload_n hx hb dJ5_append_c97b9_5 rfl (lv_at hl 0 rfl) ?_
  refine lv_iload_n hx hb dJ5_append_c97b9_6 rfl (lv_at hl 2 rfl) ?_
  refine yr_i Cx hP hD hS (yq_of (S := Unit) (w1 := fun u => []) (ws1 := fun u => [(a, .inr (11, [.ref b, .int (0 : Int32), .int ml, .int (nI k)])), (b, .inl (cyB, N, .inl f))]) [(a, .inr (11, [.ref b, .int (0 : Int32), .int ml, .int (nI k)])), (b, .inl (cyB, N, .inl f))] [] [0, 1] [0, 1] rfl rfl rfl rfl (by decide) (fun _ => rfl) rfl) (yx_S (n := 1) (As := [.int (nI x)]) (rest := [.int (nI k)]) Cx hP hD hS hl (yq_of (S := Unit) (w1 := fun u => []) (ws1 := fun u => [(a, .inr (11, [.ref b, .int (0 : Int32), .int ml, .int (nI k)])), (b, .inl (cyB, N, .inl f))]) [(a, .inr (11, [.ref b, .int (0 : Int32), .int ml, .int (nI k)])), (b, .inl (cyB, N, .inl f))] [] [0, 1] [0, 1] rfl rfl rfl rfl (by decide) (fun _ => rfl) rfl) hK (fz_ZJ g) (fun hF => (fz_give (fz_ZJ g) hT hS hF)) (c_J6_stringSize_0f7a4 l D cyI cyJ cyB cyQ g H.size x hx1) pk_J6_stringSize_0f7a4 mw_4_124 ⟨rfl, rfl, Nat.le_of_ble_eq_true rfl, Nat.le_of_ble_eq_true rfl⟩ rfl rfl (Nat.le_of_ble_eq_true rfl) ⟨Nat.le_of_ble_eq_true rfl, Nat.le_of_ble_eq_true rfl⟩ dJ5_append_c97b9_7) (fun r_1 u H locs hp hP hD hS => ?_)
  have hP : va_P D xcl [(a, .inr (11, [.ref b, .int (0 : Int32), .int ml, .int (nI k)])), (b, .inl (cyB, N, .inl f))] H := hP
  have hD : va_D A [(a, .inr (11, [.ref b, .int (0 : Int32), .int ml, .int (nI k)])), (b, .inl (cyB, N, .inl f))] := hD
  rw [← jdg_len] at hp
  subst hp
  refine lv_iadd hx hb dJ5_append_c97b9_10 ?_
  rw [nI_add]
  refine lv_istore_n (lv' := [(3, .int (nI (k + (jdg x).length))), (2, .int (nI k)), (0, .ref a), (1, .int (nI x))]) hx hb dJ5_append_c97b9_11 rfl hl (by decide) rfl (fun ls hl => ?_)
  refine lv_aload_n hx hb dJ5_append_c97b9_12 rfl (lv_at hl 2 rfl) ?_
  refine lv_iload_n hx hb dJ5_append_c97b9_13 rfl (lv_at hl 0 rfl) ?_
  refine yr_v Cx hP hD hS (yq_of (S := (Nat × Nat × (Nat → Int32))) (w1 := fun u1 => [(a, .inr (11, [.ref u1.1, .int (0 : Int32), .int ml, .int (nI k)])), (u1.1, .inl (cyB, u1.2.1, .inl u1.2.2))]) (ws1 := fun u1 => [(a, .inr (11, [.ref u1.1, .int (0 : Int32), .int ml, .int (nI k)])), (u1.1, .inl (cyB, u1.2.1, .inl u1.2.2))]) [] [0, 1] [] [0, 1] rfl rfl rfl rfl (by decide) (fun _ => rfl) rfl) (yx_U (C := RJ4) (owner := "java/lang/AbstractStringBuilder") (n := 1) (As := [.int (nI (k + (jdg x).length))]) (rest := []) Cx hP hD hS hl (yq_of (S := (Nat × Nat × (Nat → Int32))) (w1 := fun u1 => [(a, .inr (11, [.ref u1.1, .int (0 : Int32), .int ml, .int (nI k)])), (u1.1, .inl (cyB, u1.2.1, .inl u1.2.2))]) (ws1 := fun u1 => [(a, .inr (11, [.ref u1.1, .int (0 : Int32), .int ml, .int (nI k)])), (u1.1, .inl (cyB, u1.2.1, .inl u1.2.2))]) [] [0, 1] [] [0, 1] rfl rfl rfl rfl (by decide) (fun _ => rfl) rfl) hK (fz_ZJ g) (fun hF => (fz_give (fz_ZJ g) hT hS hF)) (c_J5_ensureCapacityInternal_d00df l D cyI cyJ cyB cyQ g H.size a b N f ml (nI k) (k + (jdg x).length) hN (by omega) hfit) mw_4_14 mw_5_59 mw_m_0 mw_4_16 mw_1_14 mw_4_17 rfl (by decide +kernel) ⟨rfl, rfl, Nat.le_of_ble_eq_true rfl, Nat.le_of_ble_eq_true rfl⟩ (va_recv hK hP rfl (q0 := 0) rfl) rfl rfl (Nat.le_of_ble_eq_true rfl) ⟨Nat.le_of_ble_eq_true rfl, Nat.le_of_ble_eq_true rfl⟩ dJ5_append_c97b9_14) (fun u1 H locs hp hP hD hS => ?_)
  have hP : va_P D xcl [(a, .inr (11, [.ref u1.1, .int (0 : Int32), .int ml, .int (nI k)])), (u1.1, .inl (cyB, u1.2.1, .inl u1.2.2))] H := hP
  have hD : va_D A [(a, .inr (11, [.ref u1.1, .int (0 : Int32), .int ml, .int (nI k)])), (u1.1, .inl (cyB, u1.2.1, .inl u1.2.2))] := hD
  obtain ⟨b2, N2, f2⟩ := u1
  obtain ⟨hp1, hp2, hp3, hp4⟩ := hp
  have hP : va_P D xcl [(a, .inr (11, [.ref b2, .int (0 : Int32), .int ml, .int (nI k)])), (b2, .inl (cyB, N2, .inl f2))] H := hP
  have hD : va_D A [(a, .inr (11, [.ref b2, .int (0 : Int32), .int ml, .int (nI k)])), (b2, .inl (cyB, N2, .inl f2))] := hD
  have hp1 : (k + (jdg x).length) ≤ N2 := hp1
  have hp2 : N2 ≤ 242 := hp2
  have hp3 : sb_Fit f2 := hp3
  have hp4 : ∀ j, j < N → f2 j = f j := hp4
  refine lv_aload_n hx hb dJ5_append_c97b9_17 rfl (lv_at hl 2 rfl) ?_
  refine yr_i Cx hP hD hS (yq_of (S := Unit) (w1 := fun u => [(a, .inr (11, [.ref b2, .int (0 : Int32), .int ml, .int (nI k)]))]) (ws1 := fun u => [(a, .inr (11, [.ref b2, .int (0 : Int32), .int ml, .int (nI k)])), (b2, .inl (cyB, N2, .inl f2))]) [(b2, .inl (cyB, N2, .inl f2))] [0] [1] [1, 0] rfl rfl rfl rfl (by decide) (fun _ => rfl) rfl) (yx_U (C := RJ4) (owner := "java/lang/AbstractStringBuilder") (n := 0) (As := []) (rest := []) Cx hP hD hS hl (yq_of (S := Unit) (w1 := fun u => [(a, .inr (11, [.ref b2, .int (0 : Int32), .int ml, .int (nI k)]))]) (ws1 := fun u => [(a, .inr (11, [.ref b2, .int (0 : Int32), .int ml, .int (nI k)])), (b2, .inl (cyB, N2, .inl f2))]) [(b2, .inl (cyB, N2, .inl f2))] [0] [1] [1, 0] rfl rfl rfl rfl (by decide) (fun _ => rfl) rfl) hK (fz_ZJ g) (fun hF => (fz_give (fz_ZJ g) hT hS hF)) (c_J5_isLatin1_aae02 l D cyI cyJ cyB cyQ g H.size a b2 ml (nI k)) mw_4_43 mw_4_45 mw_4_46 mw_4_44 mw_1_14 mw_4_47 rfl (by decide +kernel) ⟨rfl, rfl, Nat.le_of_ble_eq_true rfl, Nat.le_of_ble_eq_true rfl⟩ (va_recv hK hP rfl (q0 := 0) rfl) rfl rfl (Nat.le_of_ble_eq_true rfl) ⟨(show (0 + 1) + 0 ≤ (1 : Nat) by omega), (show (0 + 242) + 0 ≤ (242 : Nat) by omega)⟩ dJ5_append_c97b9_18) (fun r_3 u H locs hp hP hD hS => ?_)
  have hP : va_P D xcl [(a, .inr (11, [.ref b2, .int (0 : Int32), .int ml, .int (nI k)])), (b2, .inl (cyB, N2, .inl f2))] H := hP
  have hD : va_D A [(a, .inr (11, [.ref b2, .int (0 : Int32), .int ml, .int (nI k)])), (b2, .inl (cyB, N2, .inl f2))] := hD
  subst hp
  refine lv_if_eq (tgt := 37) hx hb dJ5_append_c97b9_21 (by decide) (fun hc => absurd hc (show ¬ (1 : Int32) = 0 by decide)) (fun _ => ?_)
  refine lv_iload_n hx hb dJ5_append_c97b9_24 rfl (lv_at hl 3 rfl) ?_
  refine lv_iload_n hx hb dJ5_append_c97b9_25 rfl (lv_at hl 0 rfl) ?_
  refine lv_aload_n hx hb dJ5_append_c97b9_26 rfl (lv_at hl 2 rfl) ?_
  refine va_get (ci := 11) (v := .ref b2) hx hb hts wJ4_in hown hK hP 0 rfl rfl 0 (by decide) (hts _ mw_3_229) (fun _ h9 => h9) rfl dJ5_append_c97b9_27 ?_
  refine yr_i Cx hP hD hS (yq_of (S := Unit) (w1 := fun u => [(b2, .inl (cyB, N2, .inl (jgc x (k + (jdg x).length) f2)))]) (ws1 := fun u => [(a, .inr (11, [.ref b2, .int (0 : Int32), .int ml, .int (nI k)])), (b2, .inl (cyB, N2, .inl (jgc x (k + (jdg x).length) f2)))]) [(a, .inr (11, [.ref b2, .int (0 : Int32), .int ml, .int (nI k)]))] [1] [0] [0, 1] rfl rfl rfl rfl (by decide) (fun _ => rfl) rfl) (yx_S (n := 3) (As := [.int (nI x), .int (nI (k + (jdg x).length)), .ref b2]) (rest := []) Cx hP hD hS hl (yq_of (S := Unit) (w1 := fun u => [(b2, .inl (cyB, N2, .inl (jgc x (k + (jdg x).length) f2)))]) (ws1 := fun u => [(a, .inr (11, [.ref b2, .int (0 : Int32), .int ml, .int (nI k)])), (b2, .inl (cyB, N2, .inl (jgc x (k + (jdg x).length) f2)))]) [(a, .inr (11, [.ref b2, .int (0 : Int32), .int ml, .int (nI k)]))] [1] [0] [0, 1] rfl rfl rfl rfl (by decide) (fun _ => rfl) rfl) hK (fz_ZJ g) (fun hF => (fz_give (fz_ZJ g) hT hS hF)) (c_J6_getChars_ba4f3 l D cyI cyJ cyB cyQ g H.size x (k + (jdg x).length) b2 N2 f2 hx1 (by rw [← jdg_len]; omega) hp1 hp2) pk_J6_getChars_ba4f3 mw_4_127 ⟨rfl, rfl, Nat.le_of_ble_eq_true rfl, Nat.le_of_ble_eq_true rfl⟩ rfl rfl (Nat.le_of_ble_eq_true rfl) ⟨(show (0 + 1) + 0 ≤ (1 : Nat) by omega), (show (0 + 242) + 0 ≤ (242 : Nat) by omega)⟩ dJ5_append_c97b9_30) (fun r_4 u H locs hp hP hD hS => ?_)
  have hP : va_P D xcl [(a, .inr (11, [.ref b2, .int (0 : Int32), .int ml, .int (nI k)])), (b2, .inl (cyB, N2, .inl (jgc x (k + (jdg x).length) f2)))] H := hP
  have hD : va_D A [(a, .inr (11, [.ref b2, .int (0 : Int32), .int ml, .int (nI k)])), (b2, .inl (cyB, N2, .inl (jgc x (k + (jdg x).length) f2)))] := hD
  refine lv_pop hx hb dJ5_append_c97b9_33 rfl ?_
  refine lv_goto (tgt := 48) hx hb dJ5_append_c97b9_34 (by decide) ?_
  refine lv_aload_n hx hb dJ5_append_c97b9_48 rfl (lv_at hl 2 rfl) ?_
  refine lv_iload_n hx hb dJ5_append_c97b9_49 rfl (lv_at hl 0 rfl) ?_
  refine va_put (ci := 11) (v := .int (nI (k + (jdg x).length))) (ty := .int) hx hb hts wJ4_in tyJ4 tyJ4_ok nmJ4 hown hK hP hD hS 0 rfl rfl 3 (by decide) (hts _ mw_3_232) (fun _ h9 => h9) rfl (by decide +kernel) rfl rfl (Nat.le_of_ble_eq_true rfl) dJ5_append_c97b9_50 (fun H locs hP hD hS => ?_)
  have hP : va_P D xcl [(a, .inr (11, [.ref b2, .int (0 : Int32), .int ml, .int (nI (k + (jdg x).length))])), (b2, .inl (cyB, N2, .inl (jgc x (k + (jdg x).length) f2)))] H := hP
  have hD : va_D A [(a, .inr (11, [.ref b2, .int (0 : Int32), .int ml, .int (nI (k + (jdg x).length))])), (b2, .inl (cyB, N2, .inl (jgc x (k + (jdg x).length) f2)))] := hD
  refine lv_aload_n hx hb dJ5_append_c97b9_53 rfl (lv_at hl 2 rfl) ?_
  refine W.widen (k := 1) (n := 242) (show (0 + 1) ≤ 1 by omega) (show (0 + 242) ≤ 242 by omega) ?_
  have hP : va_P D xcl [(a, .inr (11, [.ref b2, .int (0 : Int32), .int ml, .int (nI (k + (jdg x).length))])), (b2, .inl (cyB, N2, .inl (jgc x (k + (jdg x).length) f2)))] H := hP
  have hD : va_D A [(a, .inr (11, [.ref b2, .int (0 : Int32), .int ml, .int (nI (k + (jdg x).length))])), (b2, .inl (cyB, N2, .inl (jgc x (k + (jdg x).length) f2)))] := hD
  subst hAe
  rw [← hQ]
  exact ye_aret (post := (fun u => k + (jdg x).length ≤ u.2.1 ∧ u.2.1 ≤ 242 ∧ sb_Fit u.2.2 ∧ (∀ j, j < k → u.2.2 j = f j) ∧ ∀ j, j < (jdg x).length → u.2.2 (k + j) = sb_b ((jdg x).getD j 0))) (ad := (fun _ => a)) (w1 := (fun u => [(a, .inr (11, [.ref u.1, .int (0 : Int32), .int ml, .int (nI (k + (jdg x).length))])), (u.1, .inl (cyB, u.2.1, .inl u.2.2))])) (b2, N2, jgc x (k + (jdg x).length) f2) Cx (by first | exact Or.inl ⟨_, rfl⟩ | exact Or.inr ⟨_, rfl⟩) (by exact ⟨hp1, hp2, jgc_fit hp3, fun j hj => (jgc_old hj).trans (hp4 j (by omega)), jgc_new⟩) rfl hP hD hS dJ5_append_c97b9_54
set_option maxHeartbeats 4000000 in
set_option maxRecDepth 20000 in
theorem c_J4_append_bf812 (l : Launch) (D : va_G) (cyI cyJ cyB cyQ : ClassId) (g : Nat → Nat) (sz : Nat) (a b N : Nat) (f : Nat → Int32) (ml : Int32) (k : Nat) (x : Nat) (hx1 : x < 100) (hN : N ≤ 242) (hk : k ≤ N) (hkn : k + (jdg x).length ≤ 121) (hfit : sb_Fit f) : ym_r (S := (Nat × Nat × (Nat → Int32))) l yJ4_append_bf812 (Cond.code yJ4_append_bf812 cJ4_append_bf812 2 (some (.object "java/lang/StringBuilder")) :: xg_tbl) { frames := 5, cells := 1, slots := 242, locals := 137 } D xcl (ytys cyI cyJ cyB cyQ) (ZJ g) sz [.ref a, .int (nI x)] [(a, .inr (11, [.ref b, .int (0 : Int32), .int ml, .int (nI k)])), (b, .inl (cyB, N, .inl f))] (fun u => k + (jdg x).length ≤ u.2.1 ∧ u.2.1 ≤ 242 ∧ sb_Fit u.2.2 ∧ (∀ j, j < k → u.2.2 j = f j) ∧ ∀ j, j < (jdg x).length → u.2.2 (k + j) = sb_b ((jdg x).getD j 0)) (fun _ => a) (fun u => [(a, .inr (11, [.ref u.1, .int (0 : Int32), .int ml, .int (nI (k + (jdg x).length))])), (u.1, .inl (cyB, u.2.1, .inl u.2.2))]) 1 242 := by
  refine ym_of (own := RJ4) (by decide) rfl rfl (Nat.le_of_ble_eq_true rfl) ?_
  intro p e s m args below meth c ls Q A H hQ hAe hH hin Cx hsz hP hD hS hl
  have Cx1 := Cx
  obtain ⟨⟨hx, hb, hml, hown, hts⟩, hr, hlocks, hK, hA, hT⟩ := Cx1
  have hl : lv_has ls 2 [(0, .ref a), (1, .int (nI x))] := hl
  refine lv_aload_n hx hb dJ4_append_bf812_0 rfl (lv_at hl 0 rfl) ?_
  refine lv_iload_n hx hb dJ4_append_bf812_1 rfl (lv_at hl 1 rfl) ?_
  refine yr_r Cx hP hD hS (yq_of (S := (Nat × Nat × (Nat → Int32))) (w1 := fun u1 => [(a, .inr (11, [.ref u1.1, .int (0 : Int32), .int ml, .int (nI (k + (jdg x).length))])), (u1.1, .inl (cyB, u1.2.1, .inl u1.2.2))]) (ws1 := fun u1 => [(a, .inr (11, [.ref u1.1, .int (0 : Int32), .int ml, .int (nI (k + (jdg x).length))])), (u1.1, .inl (cyB, u1.2.1, .inl u1.2.2))]) [] [0, 1] [] [0, 1] rfl rfl rfl rfl (by decide) (fun _ => rfl) rfl) (yx_P (C := RJ4) (n := 1) (As := [.int (nI x)]) (rest := []) Cx hP hD hS hl (yq_of (S := (Nat × Nat × (Nat → Int32))) (w1 := fun u1 => [(a, .inr (11, [.ref u1.1, .int (0 : Int32), .int ml, .int (nI (k + (jdg x).length))])), (u1.1, .inl (cyB, u1.2.1, .inl u1.2.2))]) (ws1 := fun u1 => [(a, .inr (11, [.ref u1.1, .int (0 : Int32), .int ml, .int (nI (k + (jdg x).length))])), (u1.1, .inl (cyB, u1.2.1, .inl u1.2.2))]) [] [0, 1] [] [0, 1] rfl rfl rfl rfl (by decide) (fun _ => rfl) rfl) hK (fz_ZJ g) (fun hF => (fz_give (fz_ZJ g) hT hS hF)) (c_J5_append_c97b9 l D cyI cyJ cyB cyQ g H.size a b N f ml k x hx1 hN hk hkn hfit) mw_4_121 mw_5_64 mw_4_1 mw_4_122 mw_1_14 mw_4_123 (by decide +kernel) ⟨rfl, rfl, Nat.le_of_ble_eq_true rfl, Nat.le_of_ble_eq_true rfl⟩ (hK.1 11 _ rfl).2 (va_recv hK hP rfl (q0 := 0) rfl) rfl rfl (Nat.le_of_ble_eq_true rfl) ⟨Nat.le_of_ble_eq_true rfl, Nat.le_of_ble_eq_true rfl⟩ dJ4_append_bf812_2) (fun u1 H locs hp hP hD hS => ?_)
  have hP : va_P D xcl [(a, .inr (11, [.ref u1.1, .int (0 : Int32), .int ml, .int (nI (k + (jdg x).length))])), (u1.1, .inl (cyB, u1.2.1, .inl u1.2.2))] H := hP
  have hD : va_D A [(a, .inr (11, [.ref u1.1, .int (0 : Int32), .int ml, .int (nI (k + (jdg x).length))])), (u1.1, .inl (cyB, u1.2.1, .inl u1.2.2))] := hD
  refine lv_pop hx hb dJ4_append_bf812_5 rfl ?_
  refine lv_aload_n hx hb dJ4_append_bf812_6 rfl (lv_at hl 0 rfl) ?_
  refine W.widen (k := 1) (n := 242) (show (0 + 1) ≤ 1 by omega) (show (0 + 242) ≤ 242 by omega) ?_
  subst hAe
  rw [← hQ]
  exact ye_aret (post := (fun u => k + (jdg x).length ≤ u.2.1 ∧ u.2.1 ≤ 242 ∧ sb_Fit u.2.2 ∧ (∀ j, j < k → u.2.2 j = f j) ∧ ∀ j, j < (jdg x).length → u.2.2 (k + j) = sb_b ((jdg x).getD j 0))) (ad := (fun _ => a)) (w1 := (fun u => [(a, .inr (11, [.ref u.1, .int (0 : Int32), .int ml, .int (nI (k + (jdg x).length))])), (u.1, .inl (cyB, u.2.1, .inl u.2.2))])) u1 Cx (by first | exact Or.inl ⟨_, rfl⟩ | exact Or.inr ⟨_, rfl⟩) (by exact hp) rfl hP hD hS dJ4_append_bf812_7
set_option maxHeartbeats 4000000 in
set_option maxRecDepth 20000 in
theorem c_J5_init_d00df (l : Launch) (D : va_G) (cyI cyJ cyB cyQ : ClassId) (g : Nat → Nat) (sz : Nat) (a : Nat) : ym_v (S := Nat) l yJ5_init_d00df (Cond.code yJ5_init_d00df cJ5_init_d00df 2 none :: xg_tbl) { frames := 1, cells := 1, slots := 16, locals := 20 } D xcl (ytys cyI cyJ cyB cyQ) (ZJ g) sz [.ref a, .int (16 : Int32)] [(a, .inr (11, [.null, .int (0 : Int32), .int (0 : Int32), .int (0 : Int32)]))] (fun _ => True) (fun u => [(a, .inr (11, [.ref u, .int (0 : Int32), .int (0 : Int32), .int (0 : Int32)])), (u, .inl (cyB, 16, .inl (fun _ => (0 : Int32))))]) 1 16 := by
  refine ym_of (own := RJ5) (by decide) rfl rfl (Nat.le_of_ble_eq_true rfl) ?_
  intro p e s m args below meth c ls Q A H hQ hAe hH hin Cx hsz hP hD hS hl
  have Cx1 := Cx
  obtain ⟨⟨hx, hb, hml, hown, hts⟩, hr, hlocks, hK, hA, hT⟩ := Cx1
  have hl : lv_has ls 2 [(0, .ref a), (1, .int (16 : Int32))] := hl
  refine lv_aload_n hx hb dJ5_init_d00df_0 rfl (lv_at hl 0 rfl) ?_
  refine W.objInit hx hb hown (hts _ mw_3_219) (hts _ mw_1_28) (hts _ mw_1_29) rfl (by rw [hml]; exact hl.1) rfl dJ5_init_d00df_1 (Nat.le_of_ble_eq_true rfl) (Nat.le_of_ble_eq_true rfl) ?_
  refine W.eq (g2 := F0 m 4 ls []) rfl ?_
  refine va_gets hx hb hT.1 hS hown (hts _ mw_3_220) (fun _ h9 => h9) dJ5_init_d00df_4 ?_
  refine lv_if_eq (tgt := 25) hx hb dJ5_init_d00df_7 (by decide) (fun hc => absurd hc (show ¬ (1 : Int32) = 0 by decide)) (fun _ => ?_)
  refine lv_aload_n hx hb dJ5_init_d00df_10 rfl (lv_at hl 0 rfl) ?_
  refine lv_iload_n hx hb dJ5_init_d00df_11 rfl (lv_at hl 1 rfl) ?_
  refine va_newa (atype := .byte) (ty := .byte) (a0 := (16, .inl (fun _ => 0))) (N' := 16) hx hb (hts _ mw_4_2) rfl hK hP hD hS hA (fun _ => rfl) (by decide) (by decide) (Nat.le_of_ble_eq_true rfl) (Nat.le_of_ble_eq_true rfl) (Nat.le_of_ble_eq_true rfl) dJ5_init_d00df_12 (fun u cA H hK1 hP hD hS => ?_)
  have eA := y_sameB hK hK1
  rw [eA] at hP hD
  have hP : va_P D xcl [(a, .inr (11, [.null, .int (0 : Int32), .int (0 : Int32), .int (0 : Int32)])), (u, .inl (cyB, 16, .inl (fun _ => (0 : Int32))))] H := hP
  have hD : va_D A [(a, .inr (11, [.null, .int (0 : Int32), .int (0 : Int32), .int (0 : Int32)])), (u, .inl (cyB, 16, .inl (fun _ => (0 : Int32))))] := hD
  refine va_put (ci := 11) (v := .ref u) (ty := (.array .byte)) hx hb hts wJ4_in tyJ4 tyJ4_ok nmJ4 hown hK hP hD hS 0 rfl rfl 0 (by decide) (hts _ mw_3_229) (fun _ h9 => h9) rfl (by decide +kernel) rfl rfl (Nat.le_of_ble_eq_true rfl) dJ5_init_d00df_14 (fun H locs hP hD hS => ?_)
  have hP : va_P D xcl [(a, .inr (11, [.ref u, .int (0 : Int32), .int (0 : Int32), .int (0 : Int32)])), (u, .inl (cyB, 16, .inl (fun _ => (0 : Int32))))] H := hP
  have hD : va_D A [(a, .inr (11, [.ref u, .int (0 : Int32), .int (0 : Int32), .int (0 : Int32)])), (u, .inl (cyB, 16, .inl (fun _ => (0 : Int32))))] := hD
  refine lv_aload_n hx hb dJ5_init_d00df_17 rfl (lv_at hl 0 rfl) ?_
  refine lv_iconst (v := (0 : Int32)) hx hb dJ5_init_d00df_18 (by decide) ?_
  refine va_put (ci := 11) (v := .int (0 : Int32)) (ty := .byte) hx hb hts wJ4_in tyJ4 tyJ4_ok nmJ4 hown hK hP hD hS 0 rfl rfl 1 (by decide) (hts _ mw_3_230) (fun _ h9 => h9) rfl (by decide +kernel) rfl rfl (Nat.le_of_ble_eq_true rfl) dJ5_init_d00df_19 (fun H locs hP hD hS => ?_)
  have hP : va_P D xcl [(a, .inr (11, [.ref u, .int (0 : Int32), .int (0 : Int32), .int (0 : Int32)])), (u, .inl (cyB, 16, .inl (fun _ => (0 : Int32))))] H := hP
  have hD : va_D A [(a, .inr (11, [.ref u, .int (0 : Int32), .int (0 : Int32), .int (0 : Int32)])), (u, .inl (cyB, 16, .inl (fun _ => (0 : Int32))))] := hD
  refine lv_goto (tgt := 38) hx hb dJ5_init_d00df_22 (by decide) ?_
  refine W.widen (k := 1) (n := 16) (show (0 + 1) ≤ 1 by omega) (show (0 + 16) ≤ 16 by omega) ?_
  subst hAe
  rw [← hQ]
  exact ye_vret (post := (fun _ => True)) (w1 := (fun u => [(a, .inr (11, [.ref u, .int (0 : Int32), .int (0 : Int32), .int (0 : Int32)])), (u, .inl (cyB, 16, .inl (fun _ => (0 : Int32))))])) u Cx (by exact trivial) hP hD hS dJ5_init_d00df_38
set_option maxHeartbeats 4000000 in
set_option maxRecDepth 20000 in
theorem c_J4_init_da8c8 (l : Launch) (D : va_G) (cyI cyJ cyB cyQ : ClassId) (g : Nat → Nat) (sz : Nat) (a : Nat) : ym_v (S := Nat) l yJ4_init_da8c8 (Cond.code yJ4_init_da8c8 cJ4_init_da8c8 1 none :: xg_tbl) { frames := 2, cells := 1, slots := 16, locals := 41 } D xcl (ytys cyI cyJ cyB cyQ) (ZJ g) sz [.ref a] [(a, .inr (11, [.null, .int (0 : Int32), .int (0 : Int32), .int (0 : Int32)]))] (fun _ => True) (fun u => [(a, .inr (11, [.ref u, .int (0 : Int32), .int (0 : Int32), .int (0 : Int32)])), (u, .inl (cyB, 16, .inl (fun _ => (0 : Int32))))]) 1 16 := by
  refine ym_of (own := RJ4) (by decide) rfl rfl (Nat.le_of_ble_eq_true rfl) ?_
  intro p e s m args below meth c ls Q A H hQ hAe hH hin Cx hsz hP hD hS hl
  have Cx1 := Cx
  obtain ⟨⟨hx, hb, hml, hown, hts⟩, hr, hlocks, hK, hA, hT⟩ := Cx1
  have hl : lv_has ls 1 [(0, .ref a)] := hl
  refine lv_aload_n hx hb dJ4_init_da8c8_0 rfl (lv_at hl 0 rfl) ?_
  refine lv_bipush (v := (16 : Int32)) hx hb dJ4_init_da8c8_1 (by decide) ?_
  refine yr_v Cx hP hD hS (yq_of (S := Nat) (w1 := fun u => [(a, .inr (11, [.ref u, .int (0 : Int32), .int (0 : Int32), .int (0 : Int32)])), (u, .inl (cyB, 16, .inl (fun _ => (0 : Int32))))]) (ws1 := fun u => [(a, .inr (11, [.ref u, .int (0 : Int32), .int (0 : Int32), .int (0 : Int32)])), (u, .inl (cyB, 16, .inl (fun _ => (0 : Int32))))]) [] [0] [] [0, 1] rfl rfl rfl rfl (by decide) (fun _ => rfl) rfl) (yx_I (n := 1) (As := [.int (16 : Int32)]) (rest := []) Cx hP hD hS hl (yq_of (S := Nat) (w1 := fun u => [(a, .inr (11, [.ref u, .int (0 : Int32), .int (0 : Int32), .int (0 : Int32)])), (u, .inl (cyB, 16, .inl (fun _ => (0 : Int32))))]) (ws1 := fun u => [(a, .inr (11, [.ref u, .int (0 : Int32), .int (0 : Int32), .int (0 : Int32)])), (u, .inl (cyB, 16, .inl (fun _ => (0 : Int32))))]) [] [0] [] [0, 1] rfl rfl rfl rfl (by decide) (fun _ => rfl) rfl) hK (fz_ZJ g) (fun hF => (fz_give (fz_ZJ g) hT hS hF)) (c_J5_init_d00df l D cyI cyJ cyB cyQ g H.size a) pk_J5_init_d00df mw_3_216 ⟨rfl, rfl, Nat.le_of_ble_eq_true rfl, Nat.le_of_ble_eq_true rfl⟩ rfl rfl (Nat.le_of_ble_eq_true rfl) ⟨Nat.le_of_ble_eq_true rfl, Nat.le_of_ble_eq_true rfl⟩ dJ4_init_da8c8_3) (fun u H locs hp hP hD hS => ?_)
  have hP : va_P D xcl [(a, .inr (11, [.ref u, .int (0 : Int32), .int (0 : Int32), .int (0 : Int32)])), (u, .inl (cyB, 16, .inl (fun _ => (0 : Int32))))] H := hP
  have hD : va_D A [(a, .inr (11, [.ref u, .int (0 : Int32), .int (0 : Int32), .int (0 : Int32)])), (u, .inl (cyB, 16, .inl (fun _ => (0 : Int32))))] := hD
  refine W.widen (k := 1) (n := 16) (show (0 + 1) ≤ 1 by omega) (show (0 + 16) ≤ 16 by omega) ?_
  subst hAe
  rw [← hQ]
  exact ye_vret (post := (fun _ => True)) (w1 := (fun u => [(a, .inr (11, [.ref u, .int (0 : Int32), .int (0 : Int32), .int (0 : Int32)])), (u, .inl (cyB, 16, .inl (fun _ => (0 : Int32))))])) u Cx (by exact trivial) hP hD hS dJ4_init_da8c8_6
set_option maxHeartbeats 4000000 in
set_option maxRecDepth 20000 in
theorem c_J7_checkLength_df160 (l : Launch) (D : va_G) (cyI cyJ cyB cyQ : ClassId) (g : Nat → Nat) (sz : Nat) (k : Nat) (hk : k < 65536) : ym_v (S := Unit) l yJ7_checkLength_df160 (Cond.code yJ7_checkLength_df160 cJ7_checkLength_df160 2 none :: xg_tbl) { frames := 0, cells := 0, slots := 0, locals := 0 } D xcl (ytys cyI cyJ cyB cyQ) (ZJ g) sz [.int (0 : Int32), .int (nI k)] [] (fun _ => True) (fun _ => []) 0 0 := by
  refine ym_of (own := RJ7) (by decide) rfl rfl (Nat.le_of_ble_eq_true rfl) ?_
  intro p e s m args below meth c ls Q A H hQ hAe hH hin Cx hsz hP hD hS hl
  have Cx1 := Cx
  obtain ⟨⟨hx, hb, hml, hown, hts⟩, hr, hlocks, hK, hA, hT⟩ := Cx1
  have hl : lv_has ls 2 [(0, .int (0 : Int32)), (1, .int (nI k))] := hl
  refine lv_iload_n hx hb dJ7_checkLength_df160_0 rfl (lv_at hl 1 rfl) ?_
  refine lv_iload_n hx hb dJ7_checkLength_df160_1 rfl (lv_at hl 0 rfl) ?_
  refine lv_icmp_ge (tgt := 37) hx hb dJ7_checkLength_df160_2 (by decide) (fun _ => ?_) (fun hc => absurd (nI_pos' (by omega)) hc)
  subst hAe
  rw [← hQ]
  exact ye_vret (post := (fun _ => True)) (w1 := (fun _ => [])) () Cx (by exact trivial) hP hD hS dJ7_checkLength_df160_37
set_option maxHeartbeats 4000000 in
set_option maxRecDepth 20000 in
theorem c_J7_copyOfRangeByte_39247 (l : Launch) (D : va_G) (cyI cyJ cyB cyQ : ClassId) (g : Nat → Nat) (sz : Nat) (v1 n1 : Nat) (f1 : Nat → Int32) (k : Nat) (hk : k ≤ n1) (h2 : n1 ≤ 242) (hfit : sb_Fit f1) : ym_r (S := Nat) l yJ7_copyOfRangeByte_39247 (Cond.code yJ7_copyOfRangeByte_39247 cJ7_copyOfRangeByte_39247 5 (some (.array .byte)) :: xg_tbl) { frames := 1, cells := 1, slots := 242, locals := 70 } D xcl (ytys cyI cyJ cyB cyQ) (fun A U H => ZJ g A U H ∧ va_T .byte v1 n1 (fun j => .int (f1 j)) A U H) sz [.ref v1, .int (0 : Int32), .int (nI k)] [] (fun _ => True) (fun u => u) (fun u => [(u, .inl (cyB, k, .inl (va_cpy f1 (fun _ => 0) 0 0 k)))]) 1 242 := by
  refine ym_of (own := RJ7) (by decide) rfl rfl (Nat.le_of_ble_eq_true rfl) ?_
  intro p e s m args below meth c ls Q A H hQ hAe hH hin Cx hsz hP hD hS hl
  have Cx1 := Cx
  obtain ⟨⟨hx, hb, hml, hown, hts⟩, hr, hlocks, hK, hA, hT⟩ := Cx1
  have hl : lv_has ls 5 [(0, .ref v1), (1, .int (0 : Int32)), (2, .int (nI k))] := hl
  refine lv_iload_n hx hb dJ7_copyOfRangeByte_39247_0 rfl (lv_at hl 1 rfl) ?_
  refine lv_iload_n hx hb dJ7_copyOfRangeByte_39247_1 rfl (lv_at hl 2 rfl) ?_
  refine yr_v Cx hP hD hS (yq_none (S := Unit) []) (yx_S (n := 2) (As := [.int (0 : Int32), .int (nI k)]) (rest := []) Cx hP hD hS hl (yq_none (S := Unit) []) hK (fz_ZJ g) (fun hF => (fz_give (fz_ZJ g) hT.1 hS hF)) (c_J7_checkLength_df160 l D cyI cyJ cyB cyQ g H.size k (by omega)) pk_J7_checkLength_df160 mw_4_175 ⟨rfl, rfl, Nat.le_of_ble_eq_true rfl, Nat.le_of_ble_eq_true rfl⟩ rfl rfl (Nat.le_of_ble_eq_true rfl) ⟨Nat.le_of_ble_eq_true rfl, Nat.le_of_ble_eq_true rfl⟩ dJ7_copyOfRangeByte_39247_2) (fun u_1 H locs hp hP hD hS => ?_)
  have hP : va_P D xcl [] H := hP
  have hD : va_D A [] := hD
  refine lv_iload_n hx hb dJ7_copyOfRangeByte_39247_5 rfl (lv_at hl 2 rfl) ?_
  refine lv_iload_n hx hb dJ7_copyOfRangeByte_39247_6 rfl (lv_at hl 1 rfl) ?_
  refine lv_isub hx hb dJ7_copyOfRangeByte_39247_7 ?_
  refine lv_istore_n (lv' := [(3, .int ((nI k) - (0 : Int32))), (0, .ref v1), (1, .int (0 : Int32)), (2, .int (nI k))]) hx hb dJ7_copyOfRangeByte_39247_8 rfl hl (by decide) rfl (fun ls hl => ?_)
  refine lv_iload_n hx hb dJ7_copyOfRangeByte_39247_9 rfl (lv_at hl 0 rfl) ?_
  have e3 : (nI k - (0 : Int32)) = nI k := pk_sub (a := k) (b := 0) (Nat.zero_le _)
  rw [e3] at hl
  rw [e3]
  refine va_newa (atype := .byte) (ty := .byte) (a0 := (k, .inl (fun _ => 0))) (N' := k) hx hb (hts _ mw_4_2) rfl hK hP hD hS hA (fun _ => rfl) (nI_pos (by omega)) (nI_clamp (by omega)) (by show k * 1 ≤ _; omega) (show 0 + 1 ≤ (1 : Nat) by omega) (show 0 + k ≤ (242 : Nat) by omega) dJ7_copyOfRangeByte_39247_10 (fun u cA H hK1 hP hD hS => ?_)
  have eA := y_sameB hK hK1
  rw [eA] at hP hD
  have hP : va_P D xcl [(u, .inl (cyB, k, .inl (fun _ => (0 : Int32))))] H := hP
  have hD : va_D A [(u, .inl (cyB, k, .inl (fun _ => (0 : Int32))))] := hD
  refine lv_astore (lv' := [(4, .ref u), (3, .int (nI k)), (0, .ref v1), (1, .int (0 : Int32)), (2, .int (nI k))]) hx hb dJ7_copyOfRangeByte_39247_12 hl (by decide) rfl (fun ls hl => ?_)
  refine lv_aload_n hx hb dJ7_copyOfRangeByte_39247_14 rfl (lv_at hl 2 rfl) ?_
  refine lv_iload_n hx hb dJ7_copyOfRangeByte_39247_15 rfl (lv_at hl 3 rfl) ?_
  refine lv_aload hx hb dJ7_copyOfRangeByte_39247_16 (lv_at hl 0 rfl) ?_
  refine lv_iconst (v := (0 : Int32)) hx hb dJ7_copyOfRangeByte_39247_18 (by decide) ?_
  refine lv_aload_n hx hb dJ7_copyOfRangeByte_39247_19 rfl (lv_at hl 2 rfl) ?_
  refine yf_len hx hb (va_T.kept hT.2 hS.2.1) dJ7_copyOfRangeByte_39247_20 ?_
  refine lv_iload_n hx hb dJ7_copyOfRangeByte_39247_21 rfl (lv_at hl 3 rfl) ?_
  refine lv_isub hx hb dJ7_copyOfRangeByte_39247_22 ?_
  refine lv_iload_n hx hb dJ7_copyOfRangeByte_39247_23 rfl (lv_at hl 1 rfl) ?_
  refine va_mmin hx hb (hml.trans hl.1.symm) hown (hts _ mw_4_41) (hts _ mw_2_183) (hts _ mw_1_12) (hts _ mw_2_184) (Nat.le_of_ble_eq_true rfl) (Nat.le_of_ble_eq_true rfl) (show (0 + 1) ≤ (1 : Nat) by omega) (show (0 + k) ≤ (242 : Nat) by omega) dJ7_copyOfRangeByte_39247_24 ?_
  rw [show (if (nI k) < ((nI n1) - (0 : Int32)) then (nI k) else ((nI n1) - (0 : Int32))) = (nI k) from (by rw [show nI n1 - (0 : Int32) = nI n1 from pk_sub (a := n1) (b := 0) (Nat.zero_le _)]; by_cases c9 : k < n1; exact if_pos (nI_lt c9 (by omega)); rw [if_neg (nI_nlt (by omega) (by omega)), show n1 = k by omega])]
  refine vk_copyt hx hb (hml.trans hl.1.symm) hown (hts _ mw_4_42) (hts _ mw_3_41) (hts _ mw_3_40) (hts _ mw_1_11) hK hP hD hS hT.2 0 2 rfl rfl (by decide) (by decide) (nI_pos (by omega)) (by rw [nI_clamp (by omega), sb_cl0]; omega) (by rw [nI_clamp (by omega), sb_cl0]; omega) (fun _ _ => hfit _) (Nat.le_of_ble_eq_true rfl) (Nat.le_of_ble_eq_true rfl) dJ7_copyOfRangeByte_39247_27 (fun H locs hP hD hS => ?_)
  rw [nI_clamp (by omega), sb_cl0] at hP hD
  have hP : va_P D xcl [(u, .inl (cyB, k, .inl (va_cpy f1 (fun _ => (0 : Int32)) 0 0 k)))] H := hP
  have hD : va_D A [(u, .inl (cyB, k, .inl (va_cpy f1 (fun _ => (0 : Int32)) 0 0 k)))] := hD
  refine lv_aload hx hb dJ7_copyOfRangeByte_39247_30 (lv_at hl 0 rfl) ?_
  refine W.widen (k := 1) (n := 242) (show (0 + 1) ≤ 1 by omega) (show (0 + k) ≤ 242 by omega) ?_
  have hP : va_P D xcl [(u, .inl (cyB, k, .inl (va_cpy f1 (fun _ => 0) 0 0 k)))] H := hP
  have hD : va_D A [(u, .inl (cyB, k, .inl (va_cpy f1 (fun _ => 0) 0 0 k)))] := hD
  subst hAe
  rw [← hQ]
  exact ye_aret (post := (fun _ => True)) (ad := (fun u => u)) (w1 := (fun u => [(u, .inl (cyB, k, .inl (va_cpy f1 (fun _ => 0) 0 0 k)))])) u Cx (by first | exact Or.inl ⟨_, rfl⟩ | exact Or.inr ⟨_, rfl⟩) (by exact trivial) rfl hP hD hS dJ7_copyOfRangeByte_39247_32
set_option maxHeartbeats 4000000 in
set_option maxRecDepth 20000 in
theorem c_J7_copyOfRange_39247 (l : Launch) (D : va_G) (cyI cyJ cyB cyQ : ClassId) (g : Nat → Nat) (sz : Nat) (b N : Nat) (f : Nat → Int32) (k : Nat) (hk : k ≤ N) (h2 : N ≤ 242) (hfit : sb_Fit f) : ym_r (S := (Nat × (Nat → Int32))) l yJ7_copyOfRange_39247 (Cond.code yJ7_copyOfRange_39247 cJ7_copyOfRange_39247 3 (some (.array .byte)) :: xg_tbl) { frames := 2, cells := 1, slots := 242, locals := 94 } D xcl (ytys cyI cyJ cyB cyQ) (ZJ g) sz [.ref b, .int (0 : Int32), .int (nI k)] [(b, .inl (cyB, N, .inl f))] (fun u => ∀ j, j < k → u.2 j = f j) (fun u => u.1) (fun u => [(b, .inl (cyB, N, .inl f)), (u.1, .inl (cyB, k, .inl u.2))]) 1 242 := by
  refine ym_of (own := RJ7) (by decide) rfl rfl (Nat.le_of_ble_eq_true rfl) ?_
  intro p e s m args below meth c ls Q A H hQ hAe hH hin Cx hsz hP hD hS hl
  have Cx1 := Cx
  obtain ⟨⟨hx, hb, hml, hown, hts⟩, hr, hlocks, hK, hA, hT⟩ := Cx1
  have hl : lv_has ls 3 [(0, .ref b), (1, .int (0 : Int32)), (2, .int (nI k))] := hl
  refine lv_iload_n hx hb dJ7_copyOfRange_39247_0 rfl (lv_at hl 1 rfl) ?_
  refine lv_if_ne (tgt := 10) hx hb dJ7_copyOfRange_39247_1 (by decide) (fun hc => absurd rfl hc) (fun _ => ?_)
  refine lv_iload_n hx hb dJ7_copyOfRange_39247_4 rfl (lv_at hl 2 rfl) ?_
  refine lv_aload_n hx hb dJ7_copyOfRange_39247_5 rfl (lv_at hl 0 rfl) ?_
  refine va_alen hx hb hK hP 0 2 rfl rfl (v := nI N) rfl dJ7_copyOfRange_39247_6 ?_
  refine lv_icmp_eq (tgt := 17) hx hb dJ7_copyOfRange_39247_7 (by decide) (fun hc => ?_) (fun hc => ?_)
  · have hc : N = k := ((nI_eq (by omega) (by omega)).mp hc).symm
    subst hc
    refine lv_aload_n hx hb dJ7_copyOfRange_39247_17 rfl (lv_at hl 0 rfl) ?_
    refine va_clone hx hb (hml.trans hl.1.symm) hown (hts _ mw_4_34) (hts _ mw_4_35) (hts _ mw_4_36) (hts _ mw_4_37) (hts _ mw_4_38) hT.2.2.2.2.2.2 hK hP hD hS hA 0 2 rfl rfl (va_nm_byte (hK.2 2 _ rfl).2) (fun i v hv => va_fit (fun _ _ => hfit _) i v hv) (Nat.le_of_ble_eq_true rfl) (Nat.le_of_ble_eq_true rfl) (Nat.le_of_ble_eq_true rfl) (show 0 + N ≤ (242 : Nat) by omega) dJ7_copyOfRange_39247_18 (fun u H hK1 hP hD hS => ?_)
    have hP : va_P D xcl [(b, .inl (cyB, N, .inl f)), (u, .inl (cyB, N, .inl f))] H := hP
    have hD : va_D A [(b, .inl (cyB, N, .inl f)), (u, .inl (cyB, N, .inl f))] := hD
    refine va_castA hx hb hown (hts _ mw_4_40) hP 1 rfl (va_nm_byte (hK.2 2 _ rfl).2) dJ7_copyOfRange_39247_21 ?_
    refine W.widen (k := 1) (n := 242) (show (0 + 1) ≤ 1 by omega) (show (0 + N) ≤ 242 by omega) ?_
    have hP : va_P D xcl [(b, .inl (cyB, N, .inl f)), (u, .inl (cyB, N, .inl f))] H := hP
    have hD : va_D A [(b, .inl (cyB, N, .inl f)), (u, .inl (cyB, N, .inl f))] := hD
    subst hAe
    rw [← hQ]
    exact ye_aret (post := (fun u => ∀ j, j < N → u.2 j = f j)) (ad := (fun u => u.1)) (w1 := (fun u => [(b, .inl (cyB, N, .inl f)), (u.1, .inl (cyB, N, .inl u.2))])) (u, f) Cx (by first | exact Or.inl ⟨_, rfl⟩ | exact Or.inr ⟨_, rfl⟩) (by exact (fun _ _ => rfl)) rfl hP hD hS dJ7_copyOfRange_39247_24
  · refine lv_aload_n hx hb dJ7_copyOfRange_39247_10 rfl (lv_at hl 0 rfl) ?_
    refine lv_iload_n hx hb dJ7_copyOfRange_39247_11 rfl (lv_at hl 1 rfl) ?_
    refine lv_iload_n hx hb dJ7_copyOfRange_39247_12 rfl (lv_at hl 2 rfl) ?_
    refine yr_r Cx hP hD hS (yq_of (S := Nat) (w1 := fun u => [(u, .inl (cyB, k, .inl (va_cpy f (fun _ => 0) 0 0 k)))]) (ws1 := fun u => [(b, .inl (cyB, N, .inl f)), (u, .inl (cyB, k, .inl (va_cpy f (fun _ => 0) 0 0 k)))]) [(b, .inl (cyB, N, .inl f))] [] [0] [0, 1] rfl rfl rfl rfl (by decide) (fun _ => rfl) rfl) (yx_S (n := 3) (As := [.ref b, .int (0 : Int32), .int (nI k)]) (rest := []) Cx hP hD hS hl (yq_of (S := Nat) (w1 := fun u => [(u, .inl (cyB, k, .inl (va_cpy f (fun _ => 0) 0 0 k)))]) (ws1 := fun u => [(b, .inl (cyB, N, .inl f)), (u, .inl (cyB, k, .inl (va_cpy f (fun _ => 0) 0 0 k)))]) [(b, .inl (cyB, N, .inl f))] [] [0] [0, 1] rfl rfl rfl rfl (by decide) (fun _ => rfl) rfl) hK (fz_and (fz_ZJ g) (fz_T .byte b N (fun j => .int (f j)))) (fun hF => ⟨fz_give (fz_ZJ g) hT hS hF, y_T hK hP 0 2 rfl rfl (y_out0 hP (q0 := 0) rfl)⟩) (c_J7_copyOfRangeByte_39247 l D cyI cyJ cyB cyQ g H.size b N f k hk h2 hfit) pk_J7_copyOfRangeByte_39247 mw_4_172 ⟨rfl, rfl, Nat.le_of_ble_eq_true rfl, Nat.le_of_ble_eq_true rfl⟩ rfl rfl (Nat.le_of_ble_eq_true rfl) ⟨Nat.le_of_ble_eq_true rfl, Nat.le_of_ble_eq_true rfl⟩ dJ7_copyOfRange_39247_13) (fun u H locs hp hP hD hS => ?_)
    have hP : va_P D xcl [(b, .inl (cyB, N, .inl f)), (u, .inl (cyB, k, .inl (va_cpy f (fun _ => 0) 0 0 k)))] H := hP
    have hD : va_D A [(b, .inl (cyB, N, .inl f)), (u, .inl (cyB, k, .inl (va_cpy f (fun _ => 0) 0 0 k)))] := hD
    refine W.widen (k := 1) (n := 242) (show (0 + 1) ≤ 1 by omega) (show (0 + 242) ≤ 242 by omega) ?_
    subst hAe
    rw [← hQ]
    exact ye_aret (post := (fun u => ∀ j, j < k → u.2 j = f j)) (ad := (fun u => u.1)) (w1 := (fun u => [(b, .inl (cyB, N, .inl f)), (u.1, .inl (cyB, k, .inl u.2))])) (u, va_cpy f (fun _ => 0) 0 0 k) Cx (by first | exact Or.inl ⟨_, rfl⟩ | exact Or.inr ⟨_, rfl⟩) (by exact (fun j hj => (show va_cpy f (fun _ => 0) 0 0 k j = f j from sb_cpy0 hj))) rfl hP hD hS dJ7_copyOfRange_39247_16
set_option maxHeartbeats 4000000 in
set_option maxRecDepth 20000 in
theorem c_J0_init_db425 (l : Launch) (D : va_G) (cyI cyJ cyB cyQ : ClassId) (g : Nat → Nat) (sz : Nat) (a0 : Nat) (a b N : Nat) (f : Nat → Int32) (ml : Int32) (k : Nat) (hk : k ≤ N) (h2 : N ≤ 242) (hfit : sb_Fit f) : ym_v (S := (Nat × (Nat → Int32))) l yJ0_init_db425 (Cond.code yJ0_init_db425 cJ0_init_db425 5 none :: xg_tbl) { frames := 3, cells := 1, slots := 242, locals := 116 } D xcl (ytys cyI cyJ cyB cyQ) (ZJ g) sz [.ref a0, .ref a, .null] [(a0, .inr (10, [.null, .int (0 : Int32), .int (0 : Int32), .int (0 : Int32)])), (a, .inr (11, [.ref b, .int (0 : Int32), .int ml, .int (nI k)])), (b, .inl (cyB, N, .inl f))] (fun u => ∀ j, j < k → u.2 j = f j) (fun u => [(a0, .inr (10, [.ref u.1, .int (0 : Int32), .int (0 : Int32), .int (0 : Int32)])), (a, .inr (11, [.ref b, .int (0 : Int32), .int ml, .int (nI k)])), (b, .inl (cyB, N, .inl f)), (u.1, .inl (cyB, k, .inl u.2))]) 1 242 := by
  refine ym_of (own := RJ0) (by decide) rfl rfl (Nat.le_of_ble_eq_true rfl) ?_
  intro p e s m args below meth c ls Q A H hQ hAe hH hin Cx hsz hP hD hS hl
  have Cx1 := Cx
  obtain ⟨⟨hx, hb, hml, hown, hts⟩, hr, hlocks, hK, hA, hT⟩ := Cx1
  have hl : lv_has ls 5 [(0, .ref a0), (1, .ref a), (2, .null)] := hl
  refine lv_aload_n hx hb dJ0_init_db425_0 rfl (lv_at hl 0 rfl) ?_
  refine W.objInit hx hb hown (hts _ mw_4_154) (hts _ mw_1_28) (hts _ mw_1_29) rfl (by rw [hml]; exact hl.1) rfl dJ0_init_db425_1 (Nat.le_of_ble_eq_true rfl) (Nat.le_of_ble_eq_true rfl) ?_
  refine W.eq (g2 := F0 m 4 ls []) rfl ?_
  refine lv_aload_n hx hb dJ0_init_db425_4 rfl (lv_at hl 1 rfl) ?_
  refine yr_r Cx hP hD hS (yq_of (S := Unit) (w1 := fun u_1 => [(a, .inr (11, [.ref b, .int (0 : Int32), .int ml, .int (nI k)]))]) (ws1 := fun u_1 => [(a0, .inr (10, [.null, .int (0 : Int32), .int (0 : Int32), .int (0 : Int32)])), (a, .inr (11, [.ref b, .int (0 : Int32), .int ml, .int (nI k)])), (b, .inl (cyB, N, .inl f))]) [(a0, .inr (10, [.null, .int (0 : Int32), .int (0 : Int32), .int (0 : Int32)])), (b, .inl (cyB, N, .inl f))] [1] [0, 2] [0, 2, 1] rfl rfl rfl rfl (by decide) (fun _ => rfl) rfl) (yx_U (C := RJ4) (owner := "java/lang/AbstractStringBuilder") (n := 0) (As := []) (rest := []) Cx hP hD hS hl (yq_of (S := Unit) (w1 := fun u_1 => [(a, .inr (11, [.ref b, .int (0 : Int32), .int ml, .int (nI k)]))]) (ws1 := fun u_1 => [(a0, .inr (10, [.null, .int (0 : Int32), .int (0 : Int32), .int (0 : Int32)])), (a, .inr (11, [.ref b, .int (0 : Int32), .int ml, .int (nI k)])), (b, .inl (cyB, N, .inl f))]) [(a0, .inr (10, [.null, .int (0 : Int32), .int (0 : Int32), .int (0 : Int32)])), (b, .inl (cyB, N, .inl f))] [1] [0, 2] [0, 2, 1] rfl rfl rfl rfl (by decide) (fun _ => rfl) rfl) hK (fz_ZJ g) (fun hF => (fz_give (fz_ZJ g) hT hS hF)) (c_J5_getValue_6d5f1 l D cyI cyJ cyB cyQ g H.size a b ml (nI k)) mw_4_155 mw_4_157 mw_4_158 mw_4_156 mw_1_14 mw_4_159 rfl (by decide +kernel) ⟨rfl, rfl, Nat.le_of_ble_eq_true rfl, Nat.le_of_ble_eq_true rfl⟩ (va_recv hK hP rfl (q0 := 1) rfl) rfl rfl (Nat.le_of_ble_eq_true rfl) ⟨Nat.le_of_ble_eq_true rfl, Nat.le_of_ble_eq_true rfl⟩ dJ0_init_db425_5) (fun u_1 H locs hp hP hD hS => ?_)
  have hP : va_P D xcl [(a0, .inr (10, [.null, .int (0 : Int32), .int (0 : Int32), .int (0 : Int32)])), (a, .inr (11, [.ref b, .int (0 : Int32), .int ml, .int (nI k)])), (b, .inl (cyB, N, .inl f))] H := hP
  have hD : va_D A [(a0, .inr (10, [.null, .int (0 : Int32), .int (0 : Int32), .int (0 : Int32)])), (a, .inr (11, [.ref b, .int (0 : Int32), .int ml, .int (nI k)])), (b, .inl (cyB, N, .inl f))] := hD
  refine lv_astore_n (lv' := [(3, .ref b), (0, .ref a0), (1, .ref a), (2, .null)]) hx hb dJ0_init_db425_8 rfl hl (by decide) rfl (fun ls hl => ?_)
  refine lv_aload_n hx hb dJ0_init_db425_9 rfl (lv_at hl 2 rfl) ?_
  refine yr_i Cx hP hD hS (yq_of (S := Unit) (w1 := fun u_2 => [(a, .inr (11, [.ref b, .int (0 : Int32), .int ml, .int (nI k)]))]) (ws1 := fun u_2 => [(a0, .inr (10, [.null, .int (0 : Int32), .int (0 : Int32), .int (0 : Int32)])), (a, .inr (11, [.ref b, .int (0 : Int32), .int ml, .int (nI k)])), (b, .inl (cyB, N, .inl f))]) [(a0, .inr (10, [.null, .int (0 : Int32), .int (0 : Int32), .int (0 : Int32)])), (b, .inl (cyB, N, .inl f))] [1] [0, 2] [0, 2, 1] rfl rfl rfl rfl (by decide) (fun _ => rfl) rfl) (yx_O (C := RJ4) (x := yJ5_length_8abf5) (owner := "java/lang/AbstractStringBuilder") (n := 0) (As := []) (rest := []) Cx hP hD hS hl (yq_of (S := Unit) (w1 := fun u_2 => [(a, .inr (11, [.ref b, .int (0 : Int32), .int ml, .int (nI k)]))]) (ws1 := fun u_2 => [(a0, .inr (10, [.null, .int (0 : Int32), .int (0 : Int32), .int (0 : Int32)])), (a, .inr (11, [.ref b, .int (0 : Int32), .int ml, .int (nI k)])), (b, .inl (cyB, N, .inl f))]) [(a0, .inr (10, [.null, .int (0 : Int32), .int (0 : Int32), .int (0 : Int32)])), (b, .inl (cyB, N, .inl f))] [1] [0, 2] [0, 2, 1] rfl rfl rfl rfl (by decide) (fun _ => rfl) rfl) hK (fz_ZJ g) (fun hF => (fz_give (fz_ZJ g) hT hS hF)) (c_J4_length_8abf5 l D cyI cyJ cyB cyQ g H.size a b ml (nI k)) mw_4_160 mw_4_162 mw_4_161 mw_4_163 mw_4_164 mw_1_15 mw_4_165 mw_4_167 (by decide +kernel) ⟨rfl, rfl, Nat.le_of_ble_eq_true rfl, Nat.le_of_ble_eq_true rfl⟩ (va_recv hK hP rfl (q0 := 1) rfl) rfl rfl (Nat.le_of_ble_eq_true rfl) ⟨Nat.le_of_ble_eq_true rfl, Nat.le_of_ble_eq_true rfl⟩ dJ0_init_db425_10) (fun r_2 u_2 H locs hp hP hD hS => ?_)
  have hP : va_P D xcl [(a0, .inr (10, [.null, .int (0 : Int32), .int (0 : Int32), .int (0 : Int32)])), (a, .inr (11, [.ref b, .int (0 : Int32), .int ml, .int (nI k)])), (b, .inl (cyB, N, .inl f))] H := hP
  have hD : va_D A [(a0, .inr (10, [.null, .int (0 : Int32), .int (0 : Int32), .int (0 : Int32)])), (a, .inr (11, [.ref b, .int (0 : Int32), .int ml, .int (nI k)])), (b, .inl (cyB, N, .inl f))] := hD
  rw [hp]
  refine lv_istore (lv' := [(4, .int (nI k)), (3, .ref b), (0, .ref a0), (1, .ref a), (2, .null)]) hx hb dJ0_init_db425_13 hl (by decide) rfl (fun ls hl => ?_)
  refine lv_aload_n hx hb dJ0_init_db425_15 rfl (lv_at hl 3 rfl) ?_
  refine yr_i Cx hP hD hS (yq_of (S := Unit) (w1 := fun u_3 => [(a, .inr (11, [.ref b, .int (0 : Int32), .int ml, .int (nI k)]))]) (ws1 := fun u_3 => [(a0, .inr (10, [.null, .int (0 : Int32), .int (0 : Int32), .int (0 : Int32)])), (a, .inr (11, [.ref b, .int (0 : Int32), .int ml, .int (nI k)])), (b, .inl (cyB, N, .inl f))]) [(a0, .inr (10, [.null, .int (0 : Int32), .int (0 : Int32), .int (0 : Int32)])), (b, .inl (cyB, N, .inl f))] [1] [0, 2] [0, 2, 1] rfl rfl rfl rfl (by decide) (fun _ => rfl) rfl) (yx_U (C := RJ4) (owner := "java/lang/AbstractStringBuilder") (n := 0) (As := []) (rest := []) Cx hP hD hS hl (yq_of (S := Unit) (w1 := fun u_3 => [(a, .inr (11, [.ref b, .int (0 : Int32), .int ml, .int (nI k)]))]) (ws1 := fun u_3 => [(a0, .inr (10, [.null, .int (0 : Int32), .int (0 : Int32), .int (0 : Int32)])), (a, .inr (11, [.ref b, .int (0 : Int32), .int ml, .int (nI k)])), (b, .inl (cyB, N, .inl f))]) [(a0, .inr (10, [.null, .int (0 : Int32), .int (0 : Int32), .int (0 : Int32)])), (b, .inl (cyB, N, .inl f))] [1] [0, 2] [0, 2, 1] rfl rfl rfl rfl (by decide) (fun _ => rfl) rfl) hK (fz_ZJ g) (fun hF => (fz_give (fz_ZJ g) hT hS hF)) (c_J5_isLatin1_aae02 l D cyI cyJ cyB cyQ g H.size a b ml (nI k)) mw_4_168 mw_4_45 mw_4_46 mw_4_44 mw_1_14 mw_4_47 rfl (by decide +kernel) ⟨rfl, rfl, Nat.le_of_ble_eq_true rfl, Nat.le_of_ble_eq_true rfl⟩ (va_recv hK hP rfl (q0 := 1) rfl) rfl rfl (Nat.le_of_ble_eq_true rfl) ⟨Nat.le_of_ble_eq_true rfl, Nat.le_of_ble_eq_true rfl⟩ dJ0_init_db425_16) (fun r_3 u_3 H locs hp hP hD hS => ?_)
  have hP : va_P D xcl [(a0, .inr (10, [.null, .int (0 : Int32), .int (0 : Int32), .int (0 : Int32)])), (a, .inr (11, [.ref b, .int (0 : Int32), .int ml, .int (nI k)])), (b, .inl (cyB, N, .inl f))] H := hP
  have hD : va_D A [(a0, .inr (10, [.null, .int (0 : Int32), .int (0 : Int32), .int (0 : Int32)])), (a, .inr (11, [.ref b, .int (0 : Int32), .int ml, .int (nI k)])), (b, .inl (cyB, N, .inl f))] := hD
  subst hp
  refine lv_if_eq (tgt := 41) hx hb dJ0_init_db425_19 (by decide) (fun hc => absurd hc (show ¬ (1 : Int32) = 0 by decide)) (fun _ => ?_)
  refine lv_aload_n hx hb dJ0_init_db425_22 rfl (lv_at hl 2 rfl) ?_
  refine lv_iconst (v := (0 : Int32)) hx hb dJ0_init_db425_23 (by decide) ?_
  refine va_putF (ci := 10) (v := .int (0 : Int32)) (ty := .byte) hx hb hts wJ0_in tyJ0 tyJ0_ok nmJ0 hown hK hP hD hS 0 rfl rfl 1 (by decide) (hts _ mw_4_192) (fun _ h9 => h9) rfl (hin rfl) rfl (by decide +kernel) rfl rfl (Nat.le_of_ble_eq_true rfl) dJ0_init_db425_24 (fun H locs hP hD hS => ?_)
  have hP : va_P D xcl [(a0, .inr (10, [.null, .int (0 : Int32), .int (0 : Int32), .int (0 : Int32)])), (a, .inr (11, [.ref b, .int (0 : Int32), .int ml, .int (nI k)])), (b, .inl (cyB, N, .inl f))] H := hP
  have hD : va_D A [(a0, .inr (10, [.null, .int (0 : Int32), .int (0 : Int32), .int (0 : Int32)])), (a, .inr (11, [.ref b, .int (0 : Int32), .int ml, .int (nI k)])), (b, .inl (cyB, N, .inl f))] := hD
  refine lv_aload_n hx hb dJ0_init_db425_27 rfl (lv_at hl 2 rfl) ?_
  refine lv_aload_n hx hb dJ0_init_db425_28 rfl (lv_at hl 1 rfl) ?_
  refine lv_iconst (v := (0 : Int32)) hx hb dJ0_init_db425_29 (by decide) ?_
  refine lv_iload hx hb dJ0_init_db425_30 (lv_at hl 0 rfl) ?_
  refine yr_r Cx hP hD hS (yq_of (S := (Nat × (Nat → Int32))) (w1 := fun u => [(b, .inl (cyB, N, .inl f)), (u.1, .inl (cyB, k, .inl u.2))]) (ws1 := fun u => [(a0, .inr (10, [.null, .int (0 : Int32), .int (0 : Int32), .int (0 : Int32)])), (a, .inr (11, [.ref b, .int (0 : Int32), .int ml, .int (nI k)])), (b, .inl (cyB, N, .inl f)), (u.1, .inl (cyB, k, .inl u.2))]) [(a0, .inr (10, [.null, .int (0 : Int32), .int (0 : Int32), .int (0 : Int32)])), (a, .inr (11, [.ref b, .int (0 : Int32), .int ml, .int (nI k)]))] [2] [0, 1] [0, 1, 2, 3] rfl rfl rfl rfl (by decide) (fun _ => rfl) rfl) (yx_S (n := 3) (As := [.ref b, .int (0 : Int32), .int (nI k)]) (rest := [.ref a0]) Cx hP hD hS hl (yq_of (S := (Nat × (Nat → Int32))) (w1 := fun u => [(b, .inl (cyB, N, .inl f)), (u.1, .inl (cyB, k, .inl u.2))]) (ws1 := fun u => [(a0, .inr (10, [.null, .int (0 : Int32), .int (0 : Int32), .int (0 : Int32)])), (a, .inr (11, [.ref b, .int (0 : Int32), .int ml, .int (nI k)])), (b, .inl (cyB, N, .inl f)), (u.1, .inl (cyB, k, .inl u.2))]) [(a0, .inr (10, [.null, .int (0 : Int32), .int (0 : Int32), .int (0 : Int32)])), (a, .inr (11, [.ref b, .int (0 : Int32), .int ml, .int (nI k)]))] [2] [0, 1] [0, 1, 2, 3] rfl rfl rfl rfl (by decide) (fun _ => rfl) rfl) hK (fz_ZJ g) (fun hF => (fz_give (fz_ZJ g) hT hS hF)) (c_J7_copyOfRange_39247 l D cyI cyJ cyB cyQ g H.size b N f k hk h2 hfit) pk_J7_copyOfRange_39247 mw_4_169 ⟨rfl, rfl, Nat.le_of_ble_eq_true rfl, Nat.le_of_ble_eq_true rfl⟩ rfl rfl (Nat.le_of_ble_eq_true rfl) ⟨Nat.le_of_ble_eq_true rfl, Nat.le_of_ble_eq_true rfl⟩ dJ0_init_db425_32) (fun u H locs hp hP hD hS => ?_)
  have hP : va_P D xcl [(a0, .inr (10, [.null, .int (0 : Int32), .int (0 : Int32), .int (0 : Int32)])), (a, .inr (11, [.ref b, .int (0 : Int32), .int ml, .int (nI k)])), (b, .inl (cyB, N, .inl f)), (u.1, .inl (cyB, k, .inl u.2))] H := hP
  have hD : va_D A [(a0, .inr (10, [.null, .int (0 : Int32), .int (0 : Int32), .int (0 : Int32)])), (a, .inr (11, [.ref b, .int (0 : Int32), .int ml, .int (nI k)])), (b, .inl (cyB, N, .inl f)), (u.1, .inl (cyB, k, .inl u.2))] := hD
  refine va_putF (ci := 10) (v := .ref u.1) (ty := (.array .byte)) hx hb hts wJ0_in tyJ0 tyJ0_ok nmJ0 hown hK hP hD hS 0 rfl rfl 0 (by decide) (hts _ mw_4_191) (fun _ h9 => h9) rfl (hin rfl) rfl (by decide +kernel) rfl rfl (Nat.le_of_ble_eq_true rfl) dJ0_init_db425_35 (fun H locs hP hD hS => ?_)
  have hP : va_P D xcl [(a0, .inr (10, [.ref u.1, .int (0 : Int32), .int (0 : Int32), .int (0 : Int32)])), (a, .inr (11, [.ref b, .int (0 : Int32), .int ml, .int (nI k)])), (b, .inl (cyB, N, .inl f)), (u.1, .inl (cyB, k, .inl u.2))] H := hP
  have hD : va_D A [(a0, .inr (10, [.ref u.1, .int (0 : Int32), .int (0 : Int32), .int (0 : Int32)])), (a, .inr (11, [.ref b, .int (0 : Int32), .int ml, .int (nI k)])), (b, .inl (cyB, N, .inl f)), (u.1, .inl (cyB, k, .inl u.2))] := hD
  refine lv_goto (tgt := 97) hx hb dJ0_init_db425_38 (by decide) ?_
  refine W.widen (k := 1) (n := 242) (show (0 + 1) ≤ 1 by omega) (show (0 + 242) ≤ 242 by omega) ?_
  subst hAe
  rw [← hQ]
  exact ye_vret (post := (fun u => ∀ j, j < k → u.2 j = f j)) (w1 := (fun u => [(a0, .inr (10, [.ref u.1, .int (0 : Int32), .int (0 : Int32), .int (0 : Int32)])), (a, .inr (11, [.ref b, .int (0 : Int32), .int ml, .int (nI k)])), (b, .inl (cyB, N, .inl f)), (u.1, .inl (cyB, k, .inl u.2))])) u Cx (by exact hp) hP hD hS dJ0_init_db425_97
set_option maxHeartbeats 4000000 in
set_option maxRecDepth 20000 in
theorem c_J0_init_81219 (l : Launch) (D : va_G) (cyI cyJ cyB cyQ : ClassId) (g : Nat → Nat) (sz : Nat) (a0 : Nat) (a b N : Nat) (f : Nat → Int32) (ml : Int32) (k : Nat) (hk : k ≤ N) (h2 : N ≤ 242) (hfit : sb_Fit f) : ym_v (S := (Nat × (Nat → Int32))) l yJ0_init_81219 (Cond.code yJ0_init_81219 cJ0_init_81219 2 none :: xg_tbl) { frames := 4, cells := 1, slots := 242, locals := 140 } D xcl (ytys cyI cyJ cyB cyQ) (ZJ g) sz [.ref a0, .ref a] [(a0, .inr (10, [.null, .int (0 : Int32), .int (0 : Int32), .int (0 : Int32)])), (a, .inr (11, [.ref b, .int (0 : Int32), .int ml, .int (nI k)])), (b, .inl (cyB, N, .inl f))] (fun u => ∀ j, j < k → u.2 j = f j) (fun u => [(a0, .inr (10, [.ref u.1, .int (0 : Int32), .int (0 : Int32), .int (0 : Int32)])), (a, .inr (11, [.ref b, .int (0 : Int32), .int ml, .int (nI k)])), (b, .inl (cyB, N, .inl f)), (u.1, .inl (cyB, k, .inl u.2))]) 1 242 := by
  refine ym_of (own := RJ0) (by decide) rfl rfl (Nat.le_of_ble_eq_true rfl) ?_
  intro p e s m args below meth c ls Q A H hQ hAe hH hin Cx hsz hP hD hS hl
  have Cx1 := Cx
  obtain ⟨⟨hx, hb, hml, hown, hts⟩, hr, hlocks, hK, hA, hT⟩ := Cx1
  have hl : lv_has ls 2 [(0, .ref a0), (1, .ref a)] := hl
  refine lv_aload_n hx hb dJ0_init_81219_0 rfl (lv_at hl 0 rfl) ?_
  refine lv_aload_n hx hb dJ0_init_81219_1 rfl (lv_at hl 1 rfl) ?_
  refine lv_null hx hb dJ0_init_81219_2 ?_
  refine yr_v Cx hP hD hS (yq_of (S := (Nat × (Nat → Int32))) (w1 := fun u => [(a0, .inr (10, [.ref u.1, .int (0 : Int32), .int (0 : Int32), .int (0 : Int32)])), (a, .inr (11, [.ref b, .int (0 : Int32), .int ml, .int (nI k)])), (b, .inl (cyB, N, .inl f)), (u.1, .inl (cyB, k, .inl u.2))]) (ws1 := fun u => [(a0, .inr (10, [.ref u.1, .int (0 : Int32), .int (0 : Int32), .int (0 : Int32)])), (a, .inr (11, [.ref b, .int (0 : Int32), .int ml, .int (nI k)])), (b, .inl (cyB, N, .inl f)), (u.1, .inl (cyB, k, .inl u.2))]) [] [0, 1, 2] [] [0, 1, 2, 3] rfl rfl rfl rfl (by decide) (fun _ => rfl) rfl) (yx_I (n := 2) (As := [.ref a, .null]) (rest := []) Cx hP hD hS hl (yq_of (S := (Nat × (Nat → Int32))) (w1 := fun u => [(a0, .inr (10, [.ref u.1, .int (0 : Int32), .int (0 : Int32), .int (0 : Int32)])), (a, .inr (11, [.ref b, .int (0 : Int32), .int ml, .int (nI k)])), (b, .inl (cyB, N, .inl f)), (u.1, .inl (cyB, k, .inl u.2))]) (ws1 := fun u => [(a0, .inr (10, [.ref u.1, .int (0 : Int32), .int (0 : Int32), .int (0 : Int32)])), (a, .inr (11, [.ref b, .int (0 : Int32), .int ml, .int (nI k)])), (b, .inl (cyB, N, .inl f)), (u.1, .inl (cyB, k, .inl u.2))]) [] [0, 1, 2] [] [0, 1, 2, 3] rfl rfl rfl rfl (by decide) (fun _ => rfl) rfl) hK (fz_ZJ g) (fun hF => (fz_give (fz_ZJ g) hT hS hF)) (c_J0_init_db425 l D cyI cyJ cyB cyQ g H.size a0 a b N f ml k hk h2 hfit) pk_J0_init_db425 mw_4_151 ⟨rfl, rfl, Nat.le_of_ble_eq_true rfl, Nat.le_of_ble_eq_true rfl⟩ rfl rfl (Nat.le_of_ble_eq_true rfl) ⟨Nat.le_of_ble_eq_true rfl, Nat.le_of_ble_eq_true rfl⟩ dJ0_init_81219_3) (fun u H locs hp hP hD hS => ?_)
  have hP : va_P D xcl [(a0, .inr (10, [.ref u.1, .int (0 : Int32), .int (0 : Int32), .int (0 : Int32)])), (a, .inr (11, [.ref b, .int (0 : Int32), .int ml, .int (nI k)])), (b, .inl (cyB, N, .inl f)), (u.1, .inl (cyB, k, .inl u.2))] H := hP
  have hD : va_D A [(a0, .inr (10, [.ref u.1, .int (0 : Int32), .int (0 : Int32), .int (0 : Int32)])), (a, .inr (11, [.ref b, .int (0 : Int32), .int ml, .int (nI k)])), (b, .inl (cyB, N, .inl f)), (u.1, .inl (cyB, k, .inl u.2))] := hD
  refine W.widen (k := 1) (n := 242) (show (0 + 1) ≤ 1 by omega) (show (0 + 242) ≤ 242 by omega) ?_
  subst hAe
  rw [← hQ]
  exact ye_vret (post := (fun u => ∀ j, j < k → u.2 j = f j)) (w1 := (fun u => [(a0, .inr (10, [.ref u.1, .int (0 : Int32), .int (0 : Int32), .int (0 : Int32)])), (a, .inr (11, [.ref b, .int (0 : Int32), .int ml, .int (nI k)])), (b, .inl (cyB, N, .inl f)), (u.1, .inl (cyB, k, .inl u.2))])) u Cx (by exact hp) hP hD hS dJ0_init_81219_6
set_option maxHeartbeats 4000000 in
set_option maxRecDepth 20000 in
theorem c_J4_toString_0e30d (l : Launch) (D : va_G) (cyI cyJ cyB cyQ : ClassId) (g : Nat → Nat) (sz : Nat) (a b N : Nat) (f : Nat → Int32) (ml : Int32) (k : Nat) (hk : k ≤ N) (h2 : N ≤ 242) (hfit : sb_Fit f) : ym_r (S := (Nat × Nat × (Nat → Int32))) l yJ4_toString_0e30d (Cond.code yJ4_toString_0e30d cJ4_toString_0e30d 1 (some (.object "java/lang/String")) :: xg_tbl) { frames := 5, cells := 2, slots := 246, locals := 161 } D xcl (ytys cyI cyJ cyB cyQ) (ZJ g) sz [.ref a] [(a, .inr (11, [.ref b, .int (0 : Int32), .int ml, .int (nI k)])), (b, .inl (cyB, N, .inl f))] (fun u => ∀ j, j < k → u.2.2 j = f j) (fun u => u.1) (fun u => [(a, .inr (11, [.ref b, .int (0 : Int32), .int ml, .int (nI k)])), (b, .inl (cyB, N, .inl f)), (u.1, .inr (10, [.ref u.2.1, .int (0 : Int32), .int (0 : Int32), .int (0 : Int32)])), (u.2.1, .inl (cyB, k, .inl u.2.2))]) 2 246 := by
  refine ym_of (own := RJ4) (by decide) rfl rfl (Nat.le_of_ble_eq_true rfl) ?_
  intro p e s m args below meth c ls Q A H hQ hAe hH hin Cx hsz hP hD hS hl
  have Cx1 := Cx
  obtain ⟨⟨hx, hb, hml, hown, hts⟩, hr, hlocks, hK, hA, hT⟩ := Cx1
  have hl : lv_has ls 1 [(0, .ref a)] := hl
  refine va_new (ci := 10) (fs := [.null, .int 0, .int 0, .int 0]) (C := RJ0) (T := TJ0) (N := 4) hx hb hts wJ0_in tyJ0 tyJ0_ok hown (hts _ mw_4_146) (hts _ mw_4_147) (hts _ mw_1_16) hK hP hD hS hA rfl (fun j hj => by rcases (show j = 0 ∨ j = 1 ∨ j = 2 ∨ j = 3 by omega) with rfl | rfl | rfl | rfl <;> rfl) (Nat.le_of_ble_eq_true rfl) (Nat.le_of_ble_eq_true rfl) dJ4_toString_0e30d_0 (fun a0 H hP hD hS => ?_)
  have hP : va_P D xcl [(a, .inr (11, [.ref b, .int (0 : Int32), .int ml, .int (nI k)])), (b, .inl (cyB, N, .inl f)), (a0, .inr (10, [.null, .int (0 : Int32), .int (0 : Int32), .int (0 : Int32)]))] H := hP
  have hD : va_D A [(a, .inr (11, [.ref b, .int (0 : Int32), .int ml, .int (nI k)])), (b, .inl (cyB, N, .inl f)), (a0, .inr (10, [.null, .int (0 : Int32), .int (0 : Int32), .int (0 : Int32)]))] := hD
  refine lv_dup hx hb dJ4_toString_0e30d_3 rfl ?_
  refine lv_aload_n hx hb dJ4_toString_0e30d_4 rfl (lv_at hl 0 rfl) ?_
  refine yr_v Cx hP hD hS (yq_of (S := (Nat × (Nat → Int32))) (w1 := fun u => [(a0, .inr (10, [.ref u.1, .int (0 : Int32), .int (0 : Int32), .int (0 : Int32)])), (a, .inr (11, [.ref b, .int (0 : Int32), .int ml, .int (nI k)])), (b, .inl (cyB, N, .inl f)), (u.1, .inl (cyB, k, .inl u.2))]) (ws1 := fun u => [(a, .inr (11, [.ref b, .int (0 : Int32), .int ml, .int (nI k)])), (b, .inl (cyB, N, .inl f)), (a0, .inr (10, [.ref u.1, .int (0 : Int32), .int (0 : Int32), .int (0 : Int32)])), (u.1, .inl (cyB, k, .inl u.2))]) [] [2, 0, 1] [] [1, 2, 0, 3] rfl rfl rfl rfl (by decide) (fun _ => rfl) rfl) (yx_I (n := 1) (As := [.ref a]) (rest := [.ref a0]) Cx hP hD hS hl (yq_of (S := (Nat × (Nat → Int32))) (w1 := fun u => [(a0, .inr (10, [.ref u.1, .int (0 : Int32), .int (0 : Int32), .int (0 : Int32)])), (a, .inr (11, [.ref b, .int (0 : Int32), .int ml, .int (nI k)])), (b, .inl (cyB, N, .inl f)), (u.1, .inl (cyB, k, .inl u.2))]) (ws1 := fun u => [(a, .inr (11, [.ref b, .int (0 : Int32), .int ml, .int (nI k)])), (b, .inl (cyB, N, .inl f)), (a0, .inr (10, [.ref u.1, .int (0 : Int32), .int (0 : Int32), .int (0 : Int32)])), (u.1, .inl (cyB, k, .inl u.2))]) [] [2, 0, 1] [] [1, 2, 0, 3] rfl rfl rfl rfl (by decide) (fun _ => rfl) rfl) hK (fz_ZJ g) (fun hF => (fz_give (fz_ZJ g) hT hS hF)) (c_J0_init_81219 l D cyI cyJ cyB cyQ g H.size a0 a b N f ml k hk h2 hfit) pk_J0_init_81219 mw_4_148 ⟨rfl, rfl, Nat.le_of_ble_eq_true rfl, Nat.le_of_ble_eq_true rfl⟩ rfl rfl (Nat.le_of_ble_eq_true rfl) ⟨(show (0 + 1) + 1 ≤ (2 : Nat) by omega), (show (0 + 4) + 242 ≤ (246 : Nat) by omega)⟩ dJ4_toString_0e30d_5) (fun u H locs hp hP hD hS => ?_)
  have hP : va_P D xcl [(a, .inr (11, [.ref b, .int (0 : Int32), .int ml, .int (nI k)])), (b, .inl (cyB, N, .inl f)), (a0, .inr (10, [.ref u.1, .int (0 : Int32), .int (0 : Int32), .int (0 : Int32)])), (u.1, .inl (cyB, k, .inl u.2))] H := hP
  have hD : va_D A [(a, .inr (11, [.ref b, .int (0 : Int32), .int ml, .int (nI k)])), (b, .inl (cyB, N, .inl f)), (a0, .inr (10, [.ref u.1, .int (0 : Int32), .int (0 : Int32), .int (0 : Int32)])), (u.1, .inl (cyB, k, .inl u.2))] := hD
  refine W.widen (k := 2) (n := 246) (show ((0 + 1) + 1) ≤ 2 by omega) (show ((0 + 4) + 242) ≤ 246 by omega) ?_
  subst hAe
  rw [← hQ]
  exact ye_aret (post := (fun u => ∀ j, j < k → u.2.2 j = f j)) (ad := (fun u => u.1)) (w1 := (fun u => [(a, .inr (11, [.ref b, .int (0 : Int32), .int ml, .int (nI k)])), (b, .inl (cyB, N, .inl f)), (u.1, .inr (10, [.ref u.2.1, .int (0 : Int32), .int (0 : Int32), .int (0 : Int32)])), (u.2.1, .inl (cyB, k, .inl u.2.2))])) (a0, u.1, u.2) Cx (by first | exact Or.inl ⟨_, rfl⟩ | exact Or.inr ⟨_, rfl⟩) (by exact hp) rfl hP hD hS dJ4_toString_0e30d_8
def f_J6_bitCount (x : Int32) : Int32 := ((((((((x - ((((Int32.toUInt32 x) >>> ((Int32.toUInt32 (1 : Int32)) &&& Int32.toUInt32 31)).toInt32) &&& (1431655765 : Int32))) &&& (858993459 : Int32)) + ((((Int32.toUInt32 (x - ((((Int32.toUInt32 x) >>> ((Int32.toUInt32 (1 : Int32)) &&& Int32.toUInt32 31)).toInt32) &&& (1431655765 : Int32)))) >>> ((Int32.toUInt32 (2 : Int32)) &&& Int32.toUInt32 31)).toInt32) &&& (858993459 : Int32))) + (((Int32.toUInt32 (((x - ((((Int32.toUInt32 x) >>> ((Int32.toUInt32 (1 : Int32)) &&& Int32.toUInt32 31)).toInt32) &&& (1431655765 : Int32))) &&& (858993459 : Int32)) + ((((Int32.toUInt32 (x - ((((Int32.toUInt32 x) >>> ((Int32.toUInt32 (1 : Int32)) &&& Int32.toUInt32 31)).toInt32) &&& (1431655765 : Int32)))) >>> ((Int32.toUInt32 (2 : Int32)) &&& Int32.toUInt32 31)).toInt32) &&& (858993459 : Int32)))) >>> ((Int32.toUInt32 (4 : Int32)) &&& Int32.toUInt32 31)).toInt32)) &&& (252645135 : Int32)) + (((Int32.toUInt32 (((((x - ((((Int32.toUInt32 x) >>> ((Int32.toUInt32 (1 : Int32)) &&& Int32.toUInt32 31)).toInt32) &&& (1431655765 : Int32))) &&& (858993459 : Int32)) + ((((Int32.toUInt32 (x - ((((Int32.toUInt32 x) >>> ((Int32.toUInt32 (1 : Int32)) &&& Int32.toUInt32 31)).toInt32) &&& (1431655765 : Int32)))) >>> ((Int32.toUInt32 (2 : Int32)) &&& Int32.toUInt32 31)).toInt32) &&& (858993459 : Int32))) + (((Int32.toUInt32 (((x - ((((Int32.toUInt32 x) >>> ((Int32.toUInt32 (1 : Int32)) &&& Int32.toUInt32 31)).toInt32) &&& (1431655765 : Int32))) &&& (858993459 : Int32)) + ((((Int32.toUInt32 (x - ((((Int32.toUInt32 x) >>> ((Int32.toUInt32 (1 : Int32)) &&& Int32.toUInt32 31)).toInt32) &&& (1431655765 : Int32)))) >>> ((Int32.toUInt32 (2 : Int32)) &&& Int32.toUInt32 31)).toInt32) &&& (858993459 : Int32)))) >>> ((Int32.toUInt32 (4 : Int32)) &&& Int32.toUInt32 31)).toInt32)) &&& (252645135 : Int32))) >>> ((Int32.toUInt32 (8 : Int32)) &&& Int32.toUInt32 31)).toInt32)) + (((Int32.toUInt32 ((((((x - ((((Int32.toUInt32 x) >>> ((Int32.toUInt32 (1 : Int32)) &&& Int32.toUInt32 31)).toInt32) &&& (1431655765 : Int32))) &&& (858993459 : Int32)) + ((((Int32.toUInt32 (x - ((((Int32.toUInt32 x) >>> ((Int32.toUInt32 (1 : Int32)) &&& Int32.toUInt32 31)).toInt32) &&& (1431655765 : Int32)))) >>> ((Int32.toUInt32 (2 : Int32)) &&& Int32.toUInt32 31)).toInt32) &&& (858993459 : Int32))) + (((Int32.toUInt32 (((x - ((((Int32.toUInt32 x) >>> ((Int32.toUInt32 (1 : Int32)) &&& Int32.toUInt32 31)).toInt32) &&& (1431655765 : Int32))) &&& (858993459 : Int32)) + ((((Int32.toUInt32 (x - ((((Int32.toUInt32 x) >>> ((Int32.toUInt32 (1 : Int32)) &&& Int32.toUInt32 31)).toInt32) &&& (1431655765 : Int32)))) >>> ((Int32.toUInt32 (2 : Int32)) &&& Int32.toUInt32 31)).toInt32) &&& (858993459 : Int32)))) >>> ((Int32.toUInt32 (4 : Int32)) &&& Int32.toUInt32 31)).toInt32)) &&& (252645135 : Int32)) + (((Int32.toUInt32 (((((x - ((((Int32.toUInt32 x) >>> ((Int32.toUInt32 (1 : Int32)) &&& Int32.toUInt32 31)).toInt32) &&& (1431655765 : Int32))) &&& (858993459 : Int32)) + ((((Int32.toUInt32 (x - ((((Int32.toUInt32 x) >>> ((Int32.toUInt32 (1 : Int32)) &&& Int32.toUInt32 31)).toInt32) &&& (1431655765 : Int32)))) >>> ((Int32.toUInt32 (2 : Int32)) &&& Int32.toUInt32 31)).toInt32) &&& (858993459 : Int32))) + (((Int32.toUInt32 (((x - ((((Int32.toUInt32 x) >>> ((Int32.toUInt32 (1 : Int32)) &&& Int32.toUInt32 31)).toInt32) &&& (1431655765 : Int32))) &&& (858993459 : Int32)) + ((((Int32.toUInt32 (x - ((((Int32.toUInt32 x) >>> ((Int32.toUInt32 (1 : Int32)) &&& Int32.toUInt32 31)).toInt32) &&& (1431655765 : Int32)))) >>> ((Int32.toUInt32 (2 : Int32)) &&& Int32.toUInt32 31)).toInt32) &&& (858993459 : Int32)))) >>> ((Int32.toUInt32 (4 : Int32)) &&& Int32.toUInt32 31)).toInt32)) &&& (252645135 : Int32))) >>> ((Int32.toUInt32 (8 : Int32)) &&& Int32.toUInt32 31)).toInt32))) >>> ((Int32.toUInt32 (16 : Int32)) &&& Int32.toUInt32 31)).toInt32)) &&& (63 : Int32))
set_option maxHeartbeats 4000000 in
set_option maxRecDepth 20000 in
theorem c_J6_bitCount_0f7a4 (l : Launch) (D : va_G) (cyI cyJ cyB cyQ : ClassId) (g : Nat → Nat) (sz : Nat) (x : Int32) : ym_i (S := Unit) l yJ6_bitCount_0f7a4 (Cond.code yJ6_bitCount_0f7a4 cJ6_bitCount_0f7a4 1 (some .int) :: xg_tbl) { frames := 0, cells := 0, slots := 0, locals := 0 } D xcl (ytys cyI cyJ cyB cyQ) (ZJ g) sz [.int x] [] (fun r _ => r = f_J6_bitCount x) (fun _ => []) 0 0 := by
  refine ym_of (own := RJ6) (by decide) rfl rfl (Nat.le_of_ble_eq_true rfl) ?_
  intro p e s m args below meth c ls Q A H hQ hAe hH hin Cx hsz hP hD hS hl
  have Cx1 := Cx
  obtain ⟨⟨hx, hb, hml, hown, hts⟩, hr, hlocks, hK, hA, hT⟩ := Cx1
  have hl : lv_has ls 1 [(0, .int x)] := hl
  refine lv_iload_n hx hb dJ6_bitCount_0f7a4_0 rfl (lv_at hl 0 rfl) ?_
  refine lv_iload_n hx hb dJ6_bitCount_0f7a4_1 rfl (lv_at hl 0 rfl) ?_
  refine lv_iconst (v := (1 : Int32)) hx hb dJ6_bitCount_0f7a4_2 (by decide) ?_
  refine lv_iushr (v := (((Int32.toUInt32 x) >>> ((Int32.toUInt32 (1 : Int32)) &&& Int32.toUInt32 31)).toInt32)) hx hb dJ6_bitCount_0f7a4_3 rfl ?_
  refine lv_ldcw (v := (1431655765 : Int32)) hx hb hown (hts _ mw_3_197) dJ6_bitCount_0f7a4_4 ?_
  refine lv_iand hx hb dJ6_bitCount_0f7a4_7 ?_
  refine lv_isub hx hb dJ6_bitCount_0f7a4_8 ?_
  refine lv_istore_n (lv' := [(0, .int (x - ((((Int32.toUInt32 x) >>> ((Int32.toUInt32 (1 : Int32)) &&& Int32.toUInt32 31)).toInt32) &&& (1431655765 : Int32))))]) hx hb dJ6_bitCount_0f7a4_9 rfl hl (by decide) rfl (fun ls hl => ?_)
  refine lv_iload_n hx hb dJ6_bitCount_0f7a4_10 rfl (lv_at hl 0 rfl) ?_
  refine lv_ldcw (v := (858993459 : Int32)) hx hb hown (hts _ mw_3_198) dJ6_bitCount_0f7a4_11 ?_
  refine lv_iand hx hb dJ6_bitCount_0f7a4_14 ?_
  refine lv_iload_n hx hb dJ6_bitCount_0f7a4_15 rfl (lv_at hl 0 rfl) ?_
  refine lv_iconst (v := (2 : Int32)) hx hb dJ6_bitCount_0f7a4_16 (by decide) ?_
  refine lv_iushr (v := (((Int32.toUInt32 (x - ((((Int32.toUInt32 x) >>> ((Int32.toUInt32 (1 : Int32)) &&& Int32.toUInt32 31)).toInt32) &&& (1431655765 : Int32)))) >>> ((Int32.toUInt32 (2 : Int32)) &&& Int32.toUInt32 31)).toInt32)) hx hb dJ6_bitCount_0f7a4_17 rfl ?_
  refine lv_ldcw (v := (858993459 : Int32)) hx hb hown (hts _ mw_3_198) dJ6_bitCount_0f7a4_18 ?_
  refine lv_iand hx hb dJ6_bitCount_0f7a4_21 ?_
  refine lv_iadd hx hb dJ6_bitCount_0f7a4_22 ?_
  refine lv_istore_n (lv' := [(0, .int (((x - ((((Int32.toUInt32 x) >>> ((Int32.toUInt32 (1 : Int32)) &&& Int32.toUInt32 31)).toInt32) &&& (1431655765 : Int32))) &&& (858993459 : Int32)) + ((((Int32.toUInt32 (x - ((((Int32.toUInt32 x) >>> ((Int32.toUInt32 (1 : Int32)) &&& Int32.toUInt32 31)).toInt32) &&& (1431655765 : Int32)))) >>> ((Int32.toUInt32 (2 : Int32)) &&& Int32.toUInt32 31)).toInt32) &&& (858993459 : Int32))))]) hx hb dJ6_bitCount_0f7a4_23 rfl hl (by decide) rfl (fun ls hl => ?_)
  refine lv_iload_n hx hb dJ6_bitCount_0f7a4_24 rfl (lv_at hl 0 rfl) ?_
  refine lv_iload_n hx hb dJ6_bitCount_0f7a4_25 rfl (lv_at hl 0 rfl) ?_
  refine lv_iconst (v := (4 : Int32)) hx hb dJ6_bitCount_0f7a4_26 (by decide) ?_
  refine lv_iushr (v := (((Int32.toUInt32 (((x - ((((Int32.toUInt32 x) >>> ((Int32.toUInt32 (1 : Int32)) &&& Int32.toUInt32 31)).toInt32) &&& (1431655765 : Int32))) &&& (858993459 : Int32)) + ((((Int32.toUInt32 (x - ((((Int32.toUInt32 x) >>> ((Int32.toUInt32 (1 : Int32)) &&& Int32.toUInt32 31)).toInt32) &&& (1431655765 : Int32)))) >>> ((Int32.toUInt32 (2 : Int32)) &&& Int32.toUInt32 31)).toInt32) &&& (858993459 : Int32)))) >>> ((Int32.toUInt32 (4 : Int32)) &&& Int32.toUInt32 31)).toInt32)) hx hb dJ6_bitCount_0f7a4_27 rfl ?_
  refine lv_iadd hx hb dJ6_bitCount_0f7a4_28 ?_
  refine lv_ldcw (v := (252645135 : Int32)) hx hb hown (hts _ mw_3_199) dJ6_bitCount_0f7a4_29 ?_
  refine lv_iand hx hb dJ6_bitCount_0f7a4_32 ?_
  refine lv_istore_n (lv' := [(0, .int (((((x - ((((Int32.toUInt32 x) >>> ((Int32.toUInt32 (1 : Int32)) &&& Int32.toUInt32 31)).toInt32) &&& (1431655765 : Int32))) &&& (858993459 : Int32)) + ((((Int32.toUInt32 (x - ((((Int32.toUInt32 x) >>> ((Int32.toUInt32 (1 : Int32)) &&& Int32.toUInt32 31)).toInt32) &&& (1431655765 : Int32)))) >>> ((Int32.toUInt32 (2 : Int32)) &&& Int32.toUInt32 31)).toInt32) &&& (858993459 : Int32))) + (((Int32.toUInt32 (((x - ((((Int32.toUInt32 x) >>> ((Int32.toUInt32 (1 : Int32)) &&& Int32.toUInt32 31)).toInt32) &&& (1431655765 : Int32))) &&& (858993459 : Int32)) + ((((Int32.toUInt32 (x - ((((Int32.toUInt32 x) >>> ((Int32.toUInt32 (1 : Int32)) &&& Int32.toUInt32 31)).toInt32) &&& (1431655765 : Int32)))) >>> ((Int32.toUInt32 (2 : Int32)) &&& Int32.toUInt32 31)).toInt32) &&& (858993459 : Int32)))) >>> ((Int32.toUInt32 (4 : Int32)) &&& Int32.toUInt32 31)).toInt32)) &&& (252645135 : Int32)))]) hx hb dJ6_bitCount_0f7a4_33 rfl hl (by decide) rfl (fun ls hl => ?_)
  refine lv_iload_n hx hb dJ6_bitCount_0f7a4_34 rfl (lv_at hl 0 rfl) ?_
  refine lv_iload_n hx hb dJ6_bitCount_0f7a4_35 rfl (lv_at hl 0 rfl) ?_
  refine lv_bipush (v := (8 : Int32)) hx hb dJ6_bitCount_0f7a4_36 (by decide) ?_
  refine lv_iushr (v := (((Int32.toUInt32 (((((x - ((((Int32.toUInt32 x) >>> ((Int32.toUInt32 (1 : Int32)) &&& Int32.toUInt32 31)).toInt32) &&& (1431655765 : Int32))) &&& (858993459 : Int32)) + ((((Int32.toUInt32 (x - ((((Int32.toUInt32 x) >>> ((Int32.toUInt32 (1 : Int32)) &&& Int32.toUInt32 31)).toInt32) &&& (1431655765 : Int32)))) >>> ((Int32.toUInt32 (2 : Int32)) &&& Int32.toUInt32 31)).toInt32) &&& (858993459 : Int32))) + (((Int32.toUInt32 (((x - ((((Int32.toUInt32 x) >>> ((Int32.toUInt32 (1 : Int32)) &&& Int32.toUInt32 31)).toInt32) &&& (1431655765 : Int32))) &&& (858993459 : Int32)) + ((((Int32.toUInt32 (x - ((((Int32.toUInt32 x) >>> ((Int32.toUInt32 (1 : Int32)) &&& Int32.toUInt32 31)).toInt32) &&& (1431655765 : Int32)))) >>> ((Int32.toUInt32 (2 : Int32)) &&& Int32.toUInt32 31)).toInt32) &&& (858993459 : Int32)))) >>> ((Int32.toUInt32 (4 : Int32)) &&& Int32.toUInt32 31)).toInt32)) &&& (252645135 : Int32))) >>> ((Int32.toUInt32 (8 : Int32)) &&& Int32.toUInt32 31)).toInt32)) hx hb dJ6_bitCount_0f7a4_38 rfl ?_
  refine lv_iadd hx hb dJ6_bitCount_0f7a4_39 ?_
  refine lv_istore_n (lv' := [(0, .int ((((((x - ((((Int32.toUInt32 x) >>> ((Int32.toUInt32 (1 : Int32)) &&& Int32.toUInt32 31)).toInt32) &&& (1431655765 : Int32))) &&& (858993459 : Int32)) + ((((Int32.toUInt32 (x - ((((Int32.toUInt32 x) >>> ((Int32.toUInt32 (1 : Int32)) &&& Int32.toUInt32 31)).toInt32) &&& (1431655765 : Int32)))) >>> ((Int32.toUInt32 (2 : Int32)) &&& Int32.toUInt32 31)).toInt32) &&& (858993459 : Int32))) + (((Int32.toUInt32 (((x - ((((Int32.toUInt32 x) >>> ((Int32.toUInt32 (1 : Int32)) &&& Int32.toUInt32 31)).toInt32) &&& (1431655765 : Int32))) &&& (858993459 : Int32)) + ((((Int32.toUInt32 (x - ((((Int32.toUInt32 x) >>> ((Int32.toUInt32 (1 : Int32)) &&& Int32.toUInt32 31)).toInt32) &&& (1431655765 : Int32)))) >>> ((Int32.toUInt32 (2 : Int32)) &&& Int32.toUInt32 31)).toInt32) &&& (858993459 : Int32)))) >>> ((Int32.toUInt32 (4 : Int32)) &&& Int32.toUInt32 31)).toInt32)) &&& (252645135 : Int32)) + (((Int32.toUInt32 (((((x - ((((Int32.toUInt32 x) >>> ((Int32.toUInt32 (1 : Int32)) &&& Int32.toUInt32 31)).toInt32) &&& (1431655765 : Int32))) &&& (858993459 : Int32)) + ((((Int32.toUInt32 (x - ((((Int32.toUInt32 x) >>> ((Int32.toUInt32 (1 : Int32)) &&& Int32.toUInt32 31)).toInt32) &&& (1431655765 : Int32)))) >>> ((Int32.toUInt32 (2 : Int32)) &&& Int32.toUInt32 31)).toInt32) &&& (858993459 : Int32))) + (((Int32.toUInt32 (((x - ((((Int32.toUInt32 x) >>> ((Int32.toUInt32 (1 : Int32)) &&& Int32.toUInt32 31)).toInt32) &&& (1431655765 : Int32))) &&& (858993459 : Int32)) + ((((Int32.toUInt32 (x - ((((Int32.toUInt32 x) >>> ((Int32.toUInt32 (1 : Int32)) &&& Int32.toUInt32 31)).toInt32) &&& (1431655765 : Int32)))) >>> ((Int32.toUInt32 (2 : Int32)) &&& Int32.toUInt32 31)).toInt32) &&& (858993459 : Int32)))) >>> ((Int32.toUInt32 (4 : Int32)) &&& Int32.toUInt32 31)).toInt32)) &&& (252645135 : Int32))) >>> ((Int32.toUInt32 (8 : Int32)) &&& Int32.toUInt32 31)).toInt32)))]) hx hb dJ6_bitCount_0f7a4_40 rfl hl (by decide) rfl (fun ls hl => ?_)
  refine lv_iload_n hx hb dJ6_bitCount_0f7a4_41 rfl (lv_at hl 0 rfl) ?_
  refine lv_iload_n hx hb dJ6_bitCount_0f7a4_42 rfl (lv_at hl 0 rfl) ?_
  refine lv_bipush (v := (16 : Int32)) hx hb dJ6_bitCount_0f7a4_43 (by decide) ?_
  refine lv_iushr (v := (((Int32.toUInt32 ((((((x - ((((Int32.toUInt32 x) >>> ((Int32.toUInt32 (1 : Int32)) &&& Int32.toUInt32 31)).toInt32) &&& (1431655765 : Int32))) &&& (858993459 : Int32)) + ((((Int32.toUInt32 (x - ((((Int32.toUInt32 x) >>> ((Int32.toUInt32 (1 : Int32)) &&& Int32.toUInt32 31)).toInt32) &&& (1431655765 : Int32)))) >>> ((Int32.toUInt32 (2 : Int32)) &&& Int32.toUInt32 31)).toInt32) &&& (858993459 : Int32))) + (((Int32.toUInt32 (((x - ((((Int32.toUInt32 x) >>> ((Int32.toUInt32 (1 : Int32)) &&& Int32.toUInt32 31)).toInt32) &&& (1431655765 : Int32))) &&& (858993459 : Int32)) + ((((Int32.toUInt32 (x - ((((Int32.toUInt32 x) >>> ((Int32.toUInt32 (1 : Int32)) &&& Int32.toUInt32 31)).toInt32) &&& (1431655765 : Int32)))) >>> ((Int32.toUInt32 (2 : Int32)) &&& Int32.toUInt32 31)).toInt32) &&& (858993459 : Int32)))) >>> ((Int32.toUInt32 (4 : Int32)) &&& Int32.toUInt32 31)).toInt32)) &&& (252645135 : Int32)) + (((Int32.toUInt32 (((((x - ((((Int32.toUInt32 x) >>> ((Int32.toUInt32 (1 : Int32)) &&& Int32.toUInt32 31)).toInt32) &&& (1431655765 : Int32))) &&& (858993459 : Int32)) + ((((Int32.toUInt32 (x - ((((Int32.toUInt32 x) >>> ((Int32.toUInt32 (1 : Int32)) &&& Int32.toUInt32 31)).toInt32) &&& (1431655765 : Int32)))) >>> ((Int32.toUInt32 (2 : Int32)) &&& Int32.toUInt32 31)).toInt32) &&& (858993459 : Int32))) + (((Int32.toUInt32 (((x - ((((Int32.toUInt32 x) >>> ((Int32.toUInt32 (1 : Int32)) &&& Int32.toUInt32 31)).toInt32) &&& (1431655765 : Int32))) &&& (858993459 : Int32)) + ((((Int32.toUInt32 (x - ((((Int32.toUInt32 x) >>> ((Int32.toUInt32 (1 : Int32)) &&& Int32.toUInt32 31)).toInt32) &&& (1431655765 : Int32)))) >>> ((Int32.toUInt32 (2 : Int32)) &&& Int32.toUInt32 31)).toInt32) &&& (858993459 : Int32)))) >>> ((Int32.toUInt32 (4 : Int32)) &&& Int32.toUInt32 31)).toInt32)) &&& (252645135 : Int32))) >>> ((Int32.toUInt32 (8 : Int32)) &&& Int32.toUInt32 31)).toInt32))) >>> ((Int32.toUInt32 (16 : Int32)) &&& Int32.toUInt32 31)).toInt32)) hx hb dJ6_bitCount_0f7a4_45 rfl ?_
  refine lv_iadd hx hb dJ6_bitCount_0f7a4_46 ?_
  refine lv_istore_n (lv' := [(0, .int (((((((x - ((((Int32.toUInt32 x) >>> ((Int32.toUInt32 (1 : Int32)) &&& Int32.toUInt32 31)).toInt32) &&& (1431655765 : Int32))) &&& (858993459 : Int32)) + ((((Int32.toUInt32 (x - ((((Int32.toUInt32 x) >>> ((Int32.toUInt32 (1 : Int32)) &&& Int32.toUInt32 31)).toInt32) &&& (1431655765 : Int32)))) >>> ((Int32.toUInt32 (2 : Int32)) &&& Int32.toUInt32 31)).toInt32) &&& (858993459 : Int32))) + (((Int32.toUInt32 (((x - ((((Int32.toUInt32 x) >>> ((Int32.toUInt32 (1 : Int32)) &&& Int32.toUInt32 31)).toInt32) &&& (1431655765 : Int32))) &&& (858993459 : Int32)) + ((((Int32.toUInt32 (x - ((((Int32.toUInt32 x) >>> ((Int32.toUInt32 (1 : Int32)) &&& Int32.toUInt32 31)).toInt32) &&& (1431655765 : Int32)))) >>> ((Int32.toUInt32 (2 : Int32)) &&& Int32.toUInt32 31)).toInt32) &&& (858993459 : Int32)))) >>> ((Int32.toUInt32 (4 : Int32)) &&& Int32.toUInt32 31)).toInt32)) &&& (252645135 : Int32)) + (((Int32.toUInt32 (((((x - ((((Int32.toUInt32 x) >>> ((Int32.toUInt32 (1 : Int32)) &&& Int32.toUInt32 31)).toInt32) &&& (1431655765 : Int32))) &&& (858993459 : Int32)) + ((((Int32.toUInt32 (x - ((((Int32.toUInt32 x) >>> ((Int32.toUInt32 (1 : Int32)) &&& Int32.toUInt32 31)).toInt32) &&& (1431655765 : Int32)))) >>> ((Int32.toUInt32 (2 : Int32)) &&& Int32.toUInt32 31)).toInt32) &&& (858993459 : Int32))) + (((Int32.toUInt32 (((x - ((((Int32.toUInt32 x) >>> ((Int32.toUInt32 (1 : Int32)) &&& Int32.toUInt32 31)).toInt32) &&& (1431655765 : Int32))) &&& (858993459 : Int32)) + ((((Int32.toUInt32 (x - ((((Int32.toUInt32 x) >>> ((Int32.toUInt32 (1 : Int32)) &&& Int32.toUInt32 31)).toInt32) &&& (1431655765 : Int32)))) >>> ((Int32.toUInt32 (2 : Int32)) &&& Int32.toUInt32 31)).toInt32) &&& (858993459 : Int32)))) >>> ((Int32.toUInt32 (4 : Int32)) &&& Int32.toUInt32 31)).toInt32)) &&& (252645135 : Int32))) >>> ((Int32.toUInt32 (8 : Int32)) &&& Int32.toUInt32 31)).toInt32)) + (((Int32.toUInt32 ((((((x - ((((Int32.toUInt32 x) >>> ((Int32.toUInt32 (1 : Int32)) &&& Int32.toUInt32 31)).toInt32) &&& (1431655765 : Int32))) &&& (858993459 : Int32)) + ((((Int32.toUInt32 (x - ((((Int32.toUInt32 x) >>> ((Int32.toUInt32 (1 : Int32)) &&& Int32.toUInt32 31)).toInt32) &&& (1431655765 : Int32)))) >>> ((Int32.toUInt32 (2 : Int32)) &&& Int32.toUInt32 31)).toInt32) &&& (858993459 : Int32))) + (((Int32.toUInt32 (((x - ((((Int32.toUInt32 x) >>> ((Int32.toUInt32 (1 : Int32)) &&& Int32.toUInt32 31)).toInt32) &&& (1431655765 : Int32))) &&& (858993459 : Int32)) + ((((Int32.toUInt32 (x - ((((Int32.toUInt32 x) >>> ((Int32.toUInt32 (1 : Int32)) &&& Int32.toUInt32 31)).toInt32) &&& (1431655765 : Int32)))) >>> ((Int32.toUInt32 (2 : Int32)) &&& Int32.toUInt32 31)).toInt32) &&& (858993459 : Int32)))) >>> ((Int32.toUInt32 (4 : Int32)) &&& Int32.toUInt32 31)).toInt32)) &&& (252645135 : Int32)) + (((Int32.toUInt32 (((((x - ((((Int32.toUInt32 x) >>> ((Int32.toUInt32 (1 : Int32)) &&& Int32.toUInt32 31)).toInt32) &&& (1431655765 : Int32))) &&& (858993459 : Int32)) + ((((Int32.toUInt32 (x - ((((Int32.toUInt32 x) >>> ((Int32.toUInt32 (1 : Int32)) &&& Int32.toUInt32 31)).toInt32) &&& (1431655765 : Int32)))) >>> ((Int32.toUInt32 (2 : Int32)) &&& Int32.toUInt32 31)).toInt32) &&& (858993459 : Int32))) + (((Int32.toUInt32 (((x - ((((Int32.toUInt32 x) >>> ((Int32.toUInt32 (1 : Int32)) &&& Int32.toUInt32 31)).toInt32) &&& (1431655765 : Int32))) &&& (858993459 : Int32)) + ((((Int32.toUInt32 (x - ((((Int32.toUInt32 x) >>> ((Int32.toUInt32 (1 : Int32)) &&& Int32.toUInt32 31)).toInt32) &&& (1431655765 : Int32)))) >>> ((Int32.toUInt32 (2 : Int32)) &&& Int32.toUInt32 31)).toInt32) &&& (858993459 : Int32)))) >>> ((Int32.toUInt32 (4 : Int32)) &&& Int32.toUInt32 31)).toInt32)) &&& (252645135 : Int32))) >>> ((Int32.toUInt32 (8 : Int32)) &&& Int32.toUInt32 31)).toInt32))) >>> ((Int32.toUInt32 (16 : Int32)) &&& Int32.toUInt32 31)).toInt32)))]) hx hb dJ6_bitCount_0f7a4_47 rfl hl (by decide) rfl (fun ls hl => ?_)
  refine lv_iload_n hx hb dJ6_bitCount_0f7a4_48 rfl (lv_at hl 0 rfl) ?_
  refine lv_bipush (v := (63 : Int32)) hx hb dJ6_bitCount_0f7a4_49 (by decide) ?_
  refine lv_iand hx hb dJ6_bitCount_0f7a4_51 ?_
  subst hAe
  rw [← hQ]
  exact ye_iret (post := (fun r _ => r = f_J6_bitCount x)) (w1 := (fun _ => [])) () Cx (by exact rfl) rfl hP hD hS dJ6_bitCount_0f7a4_52
