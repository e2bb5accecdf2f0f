theorem dL_character__0 : decode cL_character_ 0 = .ok (.iconst 0, 1) := by decide +kernel
theorem dL_character__1 : decode cL_character_ 1 = .ok (.istore_n 2, 1) := by decide +kernel
theorem dL_character__2 : decode cL_character_ 2 = .ok (.iconst 0, 1) := by decide +kernel
theorem dL_character__3 : decode cL_character_ 3 = .ok (.istore_n 3, 1) := by decide +kernel
theorem dL_character__4 : decode cL_character_ 4 = .ok (.iload_n 3, 1) := by decide +kernel
theorem dL_character__5 : decode cL_character_ 5 = .ok (.aload_n 0, 1) := by decide +kernel
theorem dL_character__6 : decode cL_character_ 6 = .ok (.arraylength, 1) := by decide +kernel
theorem dL_character__7 : decode cL_character_ 7 = .ok (.if_icmp .ge 24, 3) := by decide +kernel
theorem dL_character__10 : decode cL_character_ 10 = .ok (.iload_n 2, 1) := by decide +kernel
theorem dL_character__11 : decode cL_character_ 11 = .ok (.iconst 1, 1) := by decide +kernel
theorem dL_character__12 : decode cL_character_ 12 = .ok (.aload_n 0, 1) := by decide +kernel
theorem dL_character__13 : decode cL_character_ 13 = .ok (.iload_n 3, 1) := by decide +kernel
theorem dL_character__14 : decode cL_character_ 14 = .ok (.iaload, 1) := by decide +kernel
theorem dL_character__15 : decode cL_character_ 15 = .ok (.aload_n 0, 1) := by decide +kernel
theorem dL_character__16 : decode cL_character_ 16 = .ok (.arraylength, 1) := by decide +kernel
theorem dL_character__17 : decode cL_character_ 17 = .ok (.iadd, 1) := by decide +kernel
theorem dL_character__18 : decode cL_character_ 18 = .ok (.iconst 1, 1) := by decide +kernel
theorem dL_character__19 : decode cL_character_ 19 = .ok (.isub, 1) := by decide +kernel
theorem dL_character__20 : decode cL_character_ 20 = .ok (.iload_n 3, 1) := by decide +kernel
theorem dL_character__21 : decode cL_character_ 21 = .ok (.isub, 1) := by decide +kernel
theorem dL_character__22 : decode cL_character_ 22 = .ok (.ishl, 1) := by decide +kernel
theorem dL_character__23 : decode cL_character_ 23 = .ok (.ior, 1) := by decide +kernel
theorem dL_character__24 : decode cL_character_ 24 = .ok (.istore_n 2, 1) := by decide +kernel
theorem dL_character__25 : decode cL_character_ 25 = .ok (.iinc 3 1, 3) := by decide +kernel
theorem dL_character__28 : decode cL_character_ 28 = .ok (.goto (-24), 3) := by decide +kernel
theorem dL_character__31 : decode cL_character_ 31 = .ok (.iload_n 2, 1) := by decide +kernel
theorem dL_character__32 : decode cL_character_ 32 = .ok (.aload_n 1, 1) := by decide +kernel
theorem dL_character__33 : decode cL_character_ 33 = .ok (.iconst 0, 1) := by decide +kernel
theorem dL_character__34 : decode cL_character_ 34 = .ok (.invokestatic 41, 3) := by decide +kernel
theorem dL_character__37 : decode cL_character_ 37 = .ok (.ireturn, 1) := by decide +kernel
theorem dL_turned_0 : decode cL_turned 0 = .ok (.aload_n 0, 1) := by decide +kernel
theorem dL_turned_1 : decode cL_turned 1 = .ok (.arraylength, 1) := by decide +kernel
theorem dL_turned_2 : decode cL_turned 2 = .ok (.ifCond .ne 7, 3) := by decide +kernel
theorem dL_turned_5 : decode cL_turned 5 = .ok (.iconst 0, 1) := by decide +kernel
theorem dL_turned_6 : decode cL_turned 6 = .ok (.goto 6, 3) := by decide +kernel
theorem dL_turned_9 : decode cL_turned 9 = .ok (.aload_n 0, 1) := by decide +kernel
theorem dL_turned_10 : decode cL_turned 10 = .ok (.iconst 0, 1) := by decide +kernel
theorem dL_turned_11 : decode cL_turned 11 = .ok (.iaload, 1) := by decide +kernel
theorem dL_turned_12 : decode cL_turned 12 = .ok (.newarray .int, 2) := by decide +kernel
theorem dL_turned_14 : decode cL_turned 14 = .ok (.astore_n 1, 1) := by decide +kernel
theorem dL_turned_15 : decode cL_turned 15 = .ok (.iconst 0, 1) := by decide +kernel
theorem dL_turned_16 : decode cL_turned 16 = .ok (.istore_n 2, 1) := by decide +kernel
theorem dL_turned_17 : decode cL_turned 17 = .ok (.iload_n 2, 1) := by decide +kernel
theorem dL_turned_18 : decode cL_turned 18 = .ok (.aload_n 1, 1) := by decide +kernel
theorem dL_turned_19 : decode cL_turned 19 = .ok (.arraylength, 1) := by decide +kernel
theorem dL_turned_20 : decode cL_turned 20 = .ok (.if_icmp .ge 50, 3) := by decide +kernel
theorem dL_turned_23 : decode cL_turned 23 = .ok (.aload_n 0, 1) := by decide +kernel
theorem dL_turned_24 : decode cL_turned 24 = .ok (.astore_n 3, 1) := by decide +kernel
theorem dL_turned_25 : decode cL_turned 25 = .ok (.aload_n 3, 1) := by decide +kernel
theorem dL_turned_26 : decode cL_turned 26 = .ok (.arraylength, 1) := by decide +kernel
theorem dL_turned_27 : decode cL_turned 27 = .ok (.istore 4, 2) := by decide +kernel
theorem dL_turned_29 : decode cL_turned 29 = .ok (.iconst 0, 1) := by decide +kernel
theorem dL_turned_30 : decode cL_turned 30 = .ok (.istore 5, 2) := by decide +kernel
theorem dL_turned_32 : decode cL_turned 32 = .ok (.iload 5, 2) := by decide +kernel
theorem dL_turned_34 : decode cL_turned 34 = .ok (.iload 4, 2) := by decide +kernel
theorem dL_turned_36 : decode cL_turned 36 = .ok (.if_icmp .ge 28, 3) := by decide +kernel
theorem dL_turned_39 : decode cL_turned 39 = .ok (.aload_n 3, 1) := by decide +kernel
theorem dL_turned_40 : decode cL_turned 40 = .ok (.iload 5, 2) := by decide +kernel
theorem dL_turned_42 : decode cL_turned 42 = .ok (.iaload, 1) := by decide +kernel
theorem dL_turned_43 : decode cL_turned 43 = .ok (.istore 6, 2) := by decide +kernel
theorem dL_turned_45 : decode cL_turned 45 = .ok (.iload 6, 2) := by decide +kernel
theorem dL_turned_47 : decode cL_turned 47 = .ok (.iload_n 2, 1) := by decide +kernel
theorem dL_turned_48 : decode cL_turned 48 = .ok (.if_icmp .le 10, 3) := by decide +kernel
theorem dL_turned_51 : decode cL_turned 51 = .ok (.aload_n 1, 1) := by decide +kernel
theorem dL_turned_52 : decode cL_turned 52 = .ok (.iload_n 2, 1) := by decide +kernel
theorem dL_turned_53 : decode cL_turned 53 = .ok (.dup2, 1) := by decide +kernel
theorem dL_turned_54 : decode cL_turned 54 = .ok (.iaload, 1) := by decide +kernel
theorem dL_turned_55 : decode cL_turned 55 = .ok (.iconst 1, 1) := by decide +kernel
theorem dL_turned_56 : decode cL_turned 56 = .ok (.iadd, 1) := by decide +kernel
theorem dL_turned_57 : decode cL_turned 57 = .ok (.iastore, 1) := by decide +kernel
theorem dL_turned_58 : decode cL_turned 58 = .ok (.iinc 5 1, 3) := by decide +kernel
theorem dL_turned_61 : decode cL_turned 61 = .ok (.goto (-29), 3) := by decide +kernel
theorem dL_turned_64 : decode cL_turned 64 = .ok (.iinc 2 1, 3) := by decide +kernel
theorem dL_turned_67 : decode cL_turned 67 = .ok (.goto (-50), 3) := by decide +kernel
theorem dL_turned_70 : decode cL_turned 70 = .ok (.aload_n 1, 1) := by decide +kernel
theorem dL_turned_71 : decode cL_turned 71 = .ok (.areturn, 1) := by decide +kernel
theorem dL_find_0 : decode cL_find 0 = .ok (.iconst 0, 1) := by decide +kernel
theorem dL_find_1 : decode cL_find 1 = .ok (.istore_n 2, 1) := by decide +kernel
theorem dL_find_2 : decode cL_find 2 = .ok (.iload_n 2, 1) := by decide +kernel
theorem dL_find_3 : decode cL_find 3 = .ok (.aload_n 0, 1) := by decide +kernel
theorem dL_find_4 : decode cL_find 4 = .ok (.arraylength, 1) := by decide +kernel
theorem dL_find_5 : decode cL_find 5 = .ok (.if_icmp .ge 69, 3) := by decide +kernel
theorem dL_find_8 : decode cL_find 8 = .ok (.aload_n 0, 1) := by decide +kernel
theorem dL_find_9 : decode cL_find 9 = .ok (.iload_n 2, 1) := by decide +kernel
theorem dL_find_10 : decode cL_find 10 = .ok (.aaload, 1) := by decide +kernel
theorem dL_find_11 : decode cL_find 11 = .ok (.arraylength, 1) := by decide +kernel
theorem dL_find_12 : decode cL_find 12 = .ok (.aload_n 1, 1) := by decide +kernel
theorem dL_find_13 : decode cL_find 13 = .ok (.arraylength, 1) := by decide +kernel
theorem dL_find_14 : decode cL_find 14 = .ok (.if_icmp .ne 7, 3) := by decide +kernel
theorem dL_find_17 : decode cL_find 17 = .ok (.iconst 1, 1) := by decide +kernel
theorem dL_find_18 : decode cL_find 18 = .ok (.goto 4, 3) := by decide +kernel
theorem dL_find_21 : decode cL_find 21 = .ok (.iconst 0, 1) := by decide +kernel
theorem dL_find_22 : decode cL_find 22 = .ok (.istore_n 3, 1) := by decide +kernel
theorem dL_find_23 : decode cL_find 23 = .ok (.iconst 0, 1) := by decide +kernel
theorem dL_find_24 : decode cL_find 24 = .ok (.istore 4, 2) := by decide +kernel
theorem dL_find_26 : decode cL_find 26 = .ok (.iload 4, 2) := by decide +kernel
theorem dL_find_28 : decode cL_find 28 = .ok (.aload_n 1, 1) := by decide +kernel
theorem dL_find_29 : decode cL_find 29 = .ok (.arraylength, 1) := by decide +kernel
theorem dL_find_30 : decode cL_find 30 = .ok (.if_icmp .ge 32, 3) := by decide +kernel
theorem dL_find_33 : decode cL_find 33 = .ok (.iload_n 3, 1) := by decide +kernel
theorem dL_find_34 : decode cL_find 34 = .ok (.ifCond .eq 28, 3) := by decide +kernel
theorem dL_find_37 : decode cL_find 37 = .ok (.aload_n 0, 1) := by decide +kernel
theorem dL_find_38 : decode cL_find 38 = .ok (.iload_n 2, 1) := by decide +kernel
theorem dL_find_39 : decode cL_find 39 = .ok (.aaload, 1) := by decide +kernel
theorem dL_find_40 : decode cL_find 40 = .ok (.iload 4, 2) := by decide +kernel
theorem dL_find_42 : decode cL_find 42 = .ok (.iaload, 1) := by decide +kernel
theorem dL_find_43 : decode cL_find 43 = .ok (.aload_n 1, 1) := by decide +kernel
theorem dL_find_44 : decode cL_find 44 = .ok (.iload 4, 2) := by decide +kernel
theorem dL_find_46 : decode cL_find 46 = .ok (.iaload, 1) := by decide +kernel
theorem dL_find_47 : decode cL_find 47 = .ok (.if_icmp .ne 7, 3) := by decide +kernel
theorem dL_find_50 : decode cL_find 50 = .ok (.iconst 1, 1) := by decide +kernel
theorem dL_find_51 : decode cL_find 51 = .ok (.goto 4, 3) := by decide +kernel
theorem dL_find_54 : decode cL_find 54 = .ok (.iconst 0, 1) := by decide +kernel
theorem dL_find_55 : decode cL_find 55 = .ok (.istore_n 3, 1) := by decide +kernel
theorem dL_find_56 : decode cL_find 56 = .ok (.iinc 4 1, 3) := by decide +kernel
theorem dL_find_59 : decode cL_find 59 = .ok (.goto (-33), 3) := by decide +kernel
theorem dL_find_62 : decode cL_find 62 = .ok (.iload_n 3, 1) := by decide +kernel
theorem dL_find_63 : decode cL_find 63 = .ok (.ifCond .eq 5, 3) := by decide +kernel
theorem dL_find_66 : decode cL_find 66 = .ok (.iload_n 2, 1) := by decide +kernel
theorem dL_find_67 : decode cL_find 67 = .ok (.ireturn, 1) := by decide +kernel
theorem dL_find_68 : decode cL_find 68 = .ok (.iinc 2 1, 3) := by decide +kernel
theorem dL_find_71 : decode cL_find 71 = .ok (.goto (-69), 3) := by decide +kernel
theorem dL_find_74 : decode cL_find 74 = .ok (.bipush (-9), 2) := by decide +kernel
theorem dL_find_76 : decode cL_find 76 = .ok (.ireturn, 1) := by decide +kernel
theorem dL_drawn_0 : decode cL_drawn 0 = .ok (.iload_n 2, 1) := by decide +kernel
theorem dL_drawn_1 : decode cL_drawn 1 = .ok (.newarray .int, 2) := by decide +kernel
theorem dL_drawn_3 : decode cL_drawn 3 = .ok (.astore_n 3, 1) := by decide +kernel
theorem dL_drawn_4 : decode cL_drawn 4 = .ok (.iconst 0, 1) := by decide +kernel
theorem dL_drawn_5 : decode cL_drawn 5 = .ok (.istore 4, 2) := by decide +kernel
theorem dL_drawn_7 : decode cL_drawn 7 = .ok (.iload 4, 2) := by decide +kernel
theorem dL_drawn_9 : decode cL_drawn 9 = .ok (.iconst 4, 1) := by decide +kernel
theorem dL_drawn_10 : decode cL_drawn 10 = .ok (.if_icmp .ge 38, 3) := by decide +kernel
theorem dL_drawn_13 : decode cL_drawn 13 = .ok (.aload_n 0, 1) := by decide +kernel
theorem dL_drawn_14 : decode cL_drawn 14 = .ok (.iload_n 1, 1) := by decide +kernel
theorem dL_drawn_15 : decode cL_drawn 15 = .ok (.iload 4, 2) := by decide +kernel
theorem dL_drawn_17 : decode cL_drawn 17 = .ok (.iadd, 1) := by decide +kernel
theorem dL_drawn_18 : decode cL_drawn 18 = .ok (.invokestatic 103, 3) := by decide +kernel
theorem dL_drawn_21 : decode cL_drawn 21 = .ok (.iconst 1, 1) := by decide +kernel
theorem dL_drawn_22 : decode cL_drawn 22 = .ok (.iushr, 1) := by decide +kernel
theorem dL_drawn_23 : decode cL_drawn 23 = .ok (.istore 5, 2) := by decide +kernel
theorem dL_drawn_25 : decode cL_drawn 25 = .ok (.aload_n 3, 1) := by decide +kernel
theorem dL_drawn_26 : decode cL_drawn 26 = .ok (.iload 5, 2) := by decide +kernel
theorem dL_drawn_28 : decode cL_drawn 28 = .ok (.bipush 8, 2) := by decide +kernel
theorem dL_drawn_30 : decode cL_drawn 30 = .ok (.iushr, 1) := by decide +kernel
theorem dL_drawn_31 : decode cL_drawn 31 = .ok (.iload_n 2, 1) := by decide +kernel
theorem dL_drawn_32 : decode cL_drawn 32 = .ok (.irem, 1) := by decide +kernel
theorem dL_drawn_33 : decode cL_drawn 33 = .ok (.iload 5, 2) := by decide +kernel
theorem dL_drawn_35 : decode cL_drawn 35 = .ok (.bipush 41, 2) := by decide +kernel
theorem dL_drawn_37 : decode cL_drawn 37 = .ok (.irem, 1) := by decide +kernel
theorem dL_drawn_38 : decode cL_drawn 38 = .ok (.bipush 20, 2) := by decide +kernel
theorem dL_drawn_40 : decode cL_drawn 40 = .ok (.isub, 1) := by decide +kernel
theorem dL_drawn_41 : decode cL_drawn 41 = .ok (.iastore, 1) := by decide +kernel
theorem dL_drawn_42 : decode cL_drawn 42 = .ok (.iinc 4 1, 3) := by decide +kernel
theorem dL_drawn_45 : decode cL_drawn 45 = .ok (.goto (-38), 3) := by decide +kernel
theorem dL_drawn_48 : decode cL_drawn 48 = .ok (.aload_n 3, 1) := by decide +kernel
theorem dL_drawn_49 : decode cL_drawn 49 = .ok (.areturn, 1) := by decide +kernel
theorem pk_L_character_ : xk_S yL_character_ cL_character_ 4 (some .int) 2 := ⟨mw_3_189, mw_1_0, mw_3_190, by decide +kernel⟩
theorem pk_L_turned : xk_S yL_turned cL_turned 7 (some (.array .int)) 1 := ⟨mw_3_201, mw_1_0, mw_3_202, by decide +kernel⟩
theorem pk_L_find : xk_S yL_find cL_find 5 (some .int) 2 := ⟨mw_3_180, mw_1_0, mw_3_181, by decide +kernel⟩
theorem pk_L_drawn : xk_S yL_drawn cL_drawn 6 (some (.array .int)) 3 := ⟨mw_5_53, mw_1_0, mw_5_54, by decide +kernel⟩
set_option maxHeartbeats 4000000 in
set_option maxRecDepth 20000 in
theorem c_L_character_ (l : Launch) (D : va_G) (cyI cyJ cyB cyQ : ClassId) (sz : Nat) (a1 N a2 M : Nat) (f : Nat → Int32) (c0 : Nat → Nat) (hN : N < 1000) (hM : M ≤ 16) (hc1 : ∀ k, k < M → c0 k ≤ 16) (g : Nat → Nat) : ym_i (S := Unit) l yL_character_ (Cond.code yL_character_ cL_character_ 4 (some .int) :: xg_tbl) { frames := 18, cells := 0, slots := 0, locals := 470 } D xcl (ytys cyI cyJ cyB cyQ) (fun A U H => ZI a1 N f A U H ∧ (ZI a2 M (fun k => nI (c0 k)) A U H ∧ ZJ g A U H)) sz [.ref a1, .ref a2] [] (fun r _ => r = cha f N c0 M) (fun _ => []) 0 0 := by
  refine ym_of (own := RL) (by decide) rfl rfl (Nat.le_of_ble_eq_true rfl) ?_
  intro p e s m args below meth c ls Q A H hQ hAe hH hin Cx hsz hP hD hS hl
  have Cx1 := Cx
  obtain ⟨⟨hx, hb, hml, hown, hts⟩, hr, hlocks, hK, hA, hT⟩ := Cx1
  have hl : lv_has ls 4 [(0, .ref a1), (1, .ref a2)] := hl
  refine lv_iconst (v := (0 : Int32)) hx hb dL_character__0 (by decide) ?_
  refine lv_istore_n (lv' := [(2, .int (0 : Int32)), (0, .ref a1), (1, .ref a2)]) hx hb dL_character__1 rfl hl (by decide) rfl (fun ls hl => ?_)
  refine lv_iconst (v := (0 : Int32)) hx hb dL_character__2 (by decide) ?_
  refine lv_istore_n (lv' := [(3, .int (0 : Int32)), (2, .int (0 : Int32)), (0, .ref a1), (1, .ref a2)]) hx hb dL_character__3 rfl hl (by decide) rfl (fun ls hl => ?_)
  have w_4 : ∀ (d : Nat) (i : Nat) (H : Heap) (locs : List Loc) (ls : Array Slot), i + d = N →  va_P D xcl [] H → va_D A [] → va_S A s.heap H locs → lv_has ls 4 [(3, .int (nI i)), (2, .int (bdf f N i)), (0, .ref a1), (1, .ref a2)] → W p l e { frames := 18, cells := 0, slots := 0, locals := 470 } s m args below meth c H locs 0 0 Q (F0 m 4 ls []) := by
    intro d
    induction d with
    | zero =>
      intro i H locs ls hi hP hD hS hl
      obtain rfl : i = N := by omega
      refine lv_iload_n hx hb dL_character__4 rfl (lv_at hl 0 rfl) ?_
      refine lv_aload_n hx hb dL_character__5 rfl (lv_at hl 2 rfl) ?_
      refine yf_len hx hb (va_T.kept hT.1 hS.2.1) dL_character__6 ?_
      refine lv_icmp_ge (tgt := 31) hx hb dL_character__7 (by decide) (fun _ => ?_) (fun hc => absurd (Int32.le_refl _) hc)
      refine lv_iload_n hx hb dL_character__31 rfl (lv_at hl 1 rfl) ?_
      refine lv_aload_n hx hb dL_character__32 rfl (lv_at hl 3 rfl) ?_
      refine lv_iconst (v := (0 : Int32)) hx hb dL_character__33 (by decide) ?_
      refine yr_i Cx hP hD hS (yq_none (S := Unit) []) (yx_S (n := 3) (As := [.int (bdf f i i), .ref a2, .int (0 : Int32)]) (rest := []) Cx hP hD hS hl (yq_none (S := Unit) []) hK (fz_and (fz_ZI a2 M (fun k => nI (c0 k))) (fz_ZJ g)) (fun hF => (fz_give (fz_and (fz_ZI a2 M (fun k => nI (c0 k))) (fz_ZJ g)) hT.2 hS hF)) (c_L_character l D cyI cyJ cyB cyQ a2 M c0 (by omega) hc1 g M 0 H.size (bdf f i i) (by omega)) pk_L_character mw_3_191 ⟨rfl, rfl, (show M + 1 + 1 ≤ 18 by omega), (show 8 + (7 + 11) + (26 * M + 28) ≤ 470 by omega)⟩ rfl rfl (Nat.le_of_ble_eq_true rfl) ⟨Nat.le_of_ble_eq_true rfl, Nat.le_of_ble_eq_true rfl⟩ dL_character__34) (fun r_1 u H locs hp hP hD hS => ?_)
      have hP : va_P D xcl [] H := hP
      have hD : va_D A [] := hD
      subst hAe
      rw [← hQ]
      exact ye_iret (post := (fun r _ => r = cha f i c0 M)) (w1 := (fun _ => [])) () Cx (by exact hp) rfl hP hD hS dL_character__37
    | succ d ih_4 =>
      intro i H locs ls hi hP hD hS hl
      refine lv_iload_n hx hb dL_character__4 rfl (lv_at hl 0 rfl) ?_
      refine lv_aload_n hx hb dL_character__5 rfl (lv_at hl 2 rfl) ?_
      refine yf_len hx hb (va_T.kept hT.1 hS.2.1) dL_character__6 ?_
      refine lv_icmp_ge (tgt := 31) hx hb dL_character__7 (by decide) (fun hc => absurd hc (nI_ge (by omega) (by omega))) (fun _ => ?_)
      refine lv_iload_n hx hb dL_character__10 rfl (lv_at hl 1 rfl) ?_
      refine lv_iconst (v := (1 : Int32)) hx hb dL_character__11 (by decide) ?_
      refine lv_aload_n hx hb dL_character__12 rfl (lv_at hl 2 rfl) ?_
      refine lv_iload_n hx hb dL_character__13 rfl (lv_at hl 0 rfl) ?_
      refine yf_ild hx hb (va_T.kept hT.1 hS.2.1) (vp_in_nI (by omega) (by omega)) (v := (f i)) (by rw [nI_clamp (by omega)]) dL_character__14 ?_
      refine lv_aload_n hx hb dL_character__15 rfl (lv_at hl 2 rfl) ?_
      refine yf_len hx hb (va_T.kept hT.1 hS.2.1) dL_character__16 ?_
      refine lv_iadd hx hb dL_character__17 ?_
      refine lv_iconst (v := (1 : Int32)) hx hb dL_character__18 (by decide) ?_
      refine lv_isub hx hb dL_character__19 ?_
      refine lv_iload_n hx hb dL_character__20 rfl (lv_at hl 0 rfl) ?_
      refine lv_isub hx hb dL_character__21 ?_
      refine lv_ishl hx hb dL_character__22 ?_
      refine lv_ior hx hb dL_character__23 ?_
      refine lv_istore_n (lv' := [(2, .int ((bdf f N i) ||| ((1 : Int32) <<< (((((f i) + (nI N)) - (1 : Int32)) - (nI i)) &&& 31)))), (3, .int (nI i)), (0, .ref a1), (1, .ref a2)]) hx hb dL_character__24 rfl hl (by decide) rfl (fun ls hl => ?_)
      refine lv_iinc (v := ((nI i) + (1 : Int32))) (lv' := [(3, .int ((nI i) + (1 : Int32))), (2, .int ((bdf f N i) ||| ((1 : Int32) <<< (((((f i) + (nI N)) - (1 : Int32)) - (nI i)) &&& 31)))), (0, .ref a1), (1, .ref a2)]) hx hb dL_character__25 hl (k := 1) rfl rfl (by decide) rfl (fun ls hl => ?_)
      refine lv_goto (tgt := 4) hx hb dL_character__28 (by decide) ?_
      rw [show ((nI i) + (1 : Int32)) = (nI (i + 1)) from (nI_1 i)] at hl
      have hl : lv_has ls 4 [(3, .int (nI (i + 1))), (2, .int (bdf f N (i + 1))), (0, .ref a1), (1, .ref a2)] := hl
      exact ih_4  (i + 1) H _ ls (by omega) hP hD hS (lv_sub hl [0, 1, 2, 3] rfl)
  exact w_4 N 0 H _ ls (by omega) hP hD hS (lv_sub hl [0, 1, 2, 3] rfl)
set_option maxHeartbeats 4000000 in
set_option maxRecDepth 20000 in
theorem c_L_turned (l : Launch) (D : va_G) (cyI cyJ cyB cyQ : ClassId) (sz : Nat) (a1 N n1 : Nat) (f : Nat → Int32) (hN : N < 1000) (hn : n1 ≤ 16) (h0 : N = 0 → n1 = 0) (h1 : 0 < N → f 0 = nI n1) : ym_r (S := Nat) l yL_turned (Cond.code yL_turned cL_turned 7 (some (.array .int)) :: xg_tbl) { frames := 0, cells := 1, slots := 16, locals := 0 } D xcl (ytys cyI cyJ cyB cyQ) (ZI a1 N f) sz [.ref a1] [] (fun _ => True) (fun u => u) (fun u => [(u, .inl (cyI, n1, .inl (tro f N n1)))]) 1 16 := by
  refine ym_of (own := RL) (by decide) rfl rfl (Nat.le_of_ble_eq_true rfl) ?_
  intro p e s m args below meth c ls Q A H hQ hAe hH hin Cx hsz hP hD hS hl
  have Cx1 := Cx
  obtain ⟨⟨hx, hb, hml, hown, hts⟩, hr, hlocks, hK, hA, hT⟩ := Cx1
  have hl : lv_has ls 7 [(0, .ref a1)] := hl
  refine lv_aload_n hx hb dL_turned_0 rfl (lv_at hl 0 rfl) ?_
  refine yf_len hx hb (va_T.kept hT hS.2.1) dL_turned_1 ?_
  suffices hgo : W p l e { frames := 0, cells := 1, slots := 16, locals := 0 } s m args below meth c H [] 0 0 Q (F0 m 12 ls [.int (nI n1)]) by
    refine lv_if_ne (tgt := 9) hx hb dL_turned_2 (by decide) (fun hc => ?_) (fun hc => ?_)
    · have hN0 : 0 < N := by rcases Nat.eq_zero_or_pos N with h9 | h9; exact absurd (by rw [h9]; rfl) hc; exact h9
      refine lv_aload_n hx hb dL_turned_9 rfl (lv_at hl 0 rfl) ?_
      refine lv_iconst (v := (0 : Int32)) hx hb dL_turned_10 (by decide) ?_
      refine yf_ild hx hb (va_T.kept hT hS.2.1) (show vp_in (0 : Int32) N from vp_in_nI (n := 0) hN0 (by omega)) (v := (nI n1)) (by rw [show Int32.toNatClampNeg (0 : Int32) = 0 by decide]; exact h1 hN0) dL_turned_11 ?_
      exact hgo
    · refine lv_iconst (v := (0 : Int32)) hx hb dL_turned_5 (by decide) ?_
      refine lv_goto (tgt := 12) hx hb dL_turned_6 (by decide) ?_
      have hN0 : N = 0 := by have := (nI_eq (b := 0) (by omega) (by decide)).mp hc; exact this
      rw [h0 hN0] at hgo
      exact hgo
  refine va_newa (atype := .int) (ty := .int) (a0 := (n1, .inl (fun _ => 0))) (N' := n1) hx hb (hts _ mw_1_104) rfl hK hP hD hS hA (fun _ => rfl) (nI_pos (by omega)) (nI_clamp (by omega)) (show n1 * 4 ≤ 536870912 by omega) (show 0 + 1 ≤ (1 : Nat) by omega) (show 0 + n1 ≤ (16 : Nat) by omega) dL_turned_12 (fun u cA H hK1 hP hD hS => ?_)
  have eA := y_sameI hK hK1
  rw [eA] at hP hD
  have hP : va_P D xcl [(u, .inl (cyI, n1, .inl (fun _ => (0 : Int32))))] H := hP
  have hD : va_D A [(u, .inl (cyI, n1, .inl (fun _ => (0 : Int32))))] := hD
  refine lv_astore_n (lv' := [(1, .ref u), (0, .ref a1)]) hx hb dL_turned_14 rfl hl (by decide) rfl (fun ls hl => ?_)
  refine lv_iconst (v := (0 : Int32)) hx hb dL_turned_15 (by decide) ?_
  refine lv_istore_n (lv' := [(2, .int (0 : Int32)), (1, .ref u), (0, .ref a1)]) hx hb dL_turned_16 rfl hl (by decide) rfl (fun ls hl => ?_)
  have hP : va_P D xcl [(u, .inl (cyI, n1, .inl (tro f N 0)))] H := hP
  have hD : va_D A [(u, .inl (cyI, n1, .inl (tro f N 0)))] := hD
  refine W.widen (k := 1) (n := 16) (show 0 + 1 ≤ 1 from Nat.le_refl _) (show 0 + n1 ≤ 16 by omega) ?_
  have w_17 : ∀ (d : Nat) (c1 : Nat) (H : Heap) (locs : List Loc) (ls : Array Slot), c1 + d = n1 →  va_P D xcl [(u, .inl (cyI, n1, .inl (tro f N c1)))] H → va_D A [(u, .inl (cyI, n1, .inl (tro f N c1)))] → va_S A s.heap H locs → lv_has ls 7 [(2, .int (nI c1)), (1, .ref u), (0, .ref a1)] → W p l e { frames := 0, cells := 1, slots := 16, locals := 0 } s m args below meth c H locs 1 16 Q (F0 m 17 ls []) := by
    intro d
    induction d with
    | zero =>
      intro c1 H locs ls hc1 hP hD hS hl
      obtain rfl : c1 = n1 := by omega
      refine lv_iload_n hx hb dL_turned_17 rfl (lv_at hl 0 rfl) ?_
      refine lv_aload_n hx hb dL_turned_18 rfl (lv_at hl 1 rfl) ?_
      refine va_alen hx hb hK hP 0 0 rfl rfl (v := nI c1) rfl dL_turned_19 ?_
      refine lv_icmp_ge (tgt := 70) hx hb dL_turned_20 (by decide) (fun _ => ?_) (fun hc => absurd (Int32.le_refl _) hc)
      refine lv_aload_n hx hb dL_turned_70 rfl (lv_at hl 1 rfl) ?_
      refine W.widen (k := 1) (n := 16) (show 1 ≤ 1 by omega) (show 16 ≤ 16 by omega) ?_
      subst hAe
      rw [← hQ]
      exact ye_aret (post := (fun _ => True)) (ad := (fun u => u)) (w1 := (fun u => [(u, .inl (cyI, c1, .inl (tro f N c1)))])) u Cx (by first | exact Or.inl ⟨_, rfl⟩ | exact Or.inr ⟨_, rfl⟩) (by exact trivial) rfl hP hD hS dL_turned_71
    | succ d ih_17 =>
      intro c1 H locs ls hc1 hP hD hS hl
      refine lv_iload_n hx hb dL_turned_17 rfl (lv_at hl 0 rfl) ?_
      refine lv_aload_n hx hb dL_turned_18 rfl (lv_at hl 1 rfl) ?_
      refine va_alen hx hb hK hP 0 0 rfl rfl (v := nI n1) rfl dL_turned_19 ?_
      refine lv_icmp_ge (tgt := 70) hx hb dL_turned_20 (by decide) (fun hc => absurd hc (nI_ge (by omega) (by omega))) (fun _ => ?_)
      refine lv_aload_n hx hb dL_turned_23 rfl (lv_at hl 2 rfl) ?_
      refine lv_astore_n (lv' := [(3, .ref a1), (2, .int (nI c1)), (1, .ref u), (0, .ref a1)]) hx hb dL_turned_24 rfl hl (by decide) rfl (fun ls hl => ?_)
      refine lv_aload_n hx hb dL_turned_25 rfl (lv_at hl 0 rfl) ?_
      refine yf_len hx hb (va_T.kept hT hS.2.1) dL_turned_26 ?_
      refine lv_istore (lv' := [(4, .int (nI N)), (3, .ref a1), (2, .int (nI c1)), (1, .ref u), (0, .ref a1)]) hx hb dL_turned_27 hl (by decide) rfl (fun ls hl => ?_)
      refine lv_iconst (v := (0 : Int32)) hx hb dL_turned_29 (by decide) ?_
      refine lv_istore (lv' := [(5, .int (0 : Int32)), (4, .int (nI N)), (3, .ref a1), (2, .int (nI c1)), (1, .ref u), (0, .ref a1)]) hx hb dL_turned_30 hl (by decide) rfl (fun ls hl => ?_)
      have hP : va_P D xcl [(u, .inl (cyI, n1, .inl (tri f (tro f N c1) c1 0)))] H := hP
      have hD : va_D A [(u, .inl (cyI, n1, .inl (tri f (tro f N c1) c1 0)))] := hD
      have w_32 : ∀ (d2 : Nat) (i : Nat) (H : Heap) (locs : List Loc) (ls : Array Slot), i + d2 = N →  va_P D xcl [(u, .inl (cyI, n1, .inl (tri f (tro f N c1) c1 i)))] H → va_D A [(u, .inl (cyI, n1, .inl (tri f (tro f N c1) c1 i)))] → va_S A s.heap H locs → lv_has ls 7 [(5, .int (nI i)), (4, .int (nI N)), (3, .ref a1), (2, .int (nI c1)), (1, .ref u), (0, .ref a1)] → W p l e { frames := 0, cells := 1, slots := 16, locals := 0 } s m args below meth c H locs 1 16 Q (F0 m 32 ls []) := by
        intro d2
        induction d2 with
        | zero =>
          intro i H locs ls hi hP hD hS hl
          obtain rfl : i = N := by omega
          refine lv_iload hx hb dL_turned_32 (lv_at hl 0 rfl) ?_
          refine lv_iload hx hb dL_turned_34 (lv_at hl 1 rfl) ?_
          refine lv_icmp_ge (tgt := 64) hx hb dL_turned_36 (by decide) (fun _ => ?_) (fun hc => absurd (Int32.le_refl _) hc)
          refine lv_iinc (v := ((nI c1) + (1 : Int32))) (lv' := [(2, .int ((nI c1) + (1 : Int32))), (5, .int (nI i)), (4, .int (nI i)), (3, .ref a1), (1, .ref u), (0, .ref a1)]) hx hb dL_turned_64 hl (k := 3) rfl rfl (by decide) rfl (fun ls hl => ?_)
          refine lv_goto (tgt := 17) hx hb dL_turned_67 (by decide) ?_
          rw [show ((nI c1) + (1 : Int32)) = (nI (c1 + 1)) from (nI_1 c1)] at hl
          exact ih_17  (c1 + 1) H _ ls (by omega) hP hD hS (lv_sub hl [0, 4, 5] rfl)
        | succ d2 ih_32 =>
          intro i H locs ls hi hP hD hS hl
          refine lv_iload hx hb dL_turned_32 (lv_at hl 0 rfl) ?_
          refine lv_iload hx hb dL_turned_34 (lv_at hl 1 rfl) ?_
          refine lv_icmp_ge (tgt := 64) hx hb dL_turned_36 (by decide) (fun hc => absurd hc (nI_ge (by omega) (by omega))) (fun _ => ?_)
          refine lv_aload_n hx hb dL_turned_39 rfl (lv_at hl 2 rfl) ?_
          refine lv_iload hx hb dL_turned_40 (lv_at hl 0 rfl) ?_
          refine yf_ild hx hb (va_T.kept hT hS.2.1) (vp_in_nI (by omega) (by omega)) (v := (f i)) (by rw [nI_clamp (by omega)]) dL_turned_42 ?_
          refine lv_istore (lv' := [(6, .int (f i)), (5, .int (nI i)), (4, .int (nI N)), (3, .ref a1), (2, .int (nI c1)), (1, .ref u), (0, .ref a1)]) hx hb dL_turned_43 hl (by decide) rfl (fun ls hl => ?_)
          refine lv_iload hx hb dL_turned_45 (lv_at hl 0 rfl) ?_
          refine lv_iload_n hx hb dL_turned_47 rfl (lv_at hl 4 rfl) ?_
          refine lv_icmp_le (tgt := 58) hx hb dL_turned_48 (by decide) (fun hc => ?_) (fun hc => ?_)
          · have hc : ¬ nI c1 < f i := Int32.not_lt.mpr hc
            have et : tri f (tro f N c1) c1 i = tri f (tro f N c1) c1 (i + 1) := (if_neg hc).symm
            rw [et] at hP hD
            refine lv_iinc (v := ((nI i) + (1 : Int32))) (lv' := [(5, .int ((nI i) + (1 : Int32))), (6, .int (f i)), (4, .int (nI N)), (3, .ref a1), (2, .int (nI c1)), (1, .ref u), (0, .ref a1)]) hx hb dL_turned_58 hl (k := 1) rfl rfl (by decide) rfl (fun ls hl => ?_)
            refine lv_goto (tgt := 32) hx hb dL_turned_61 (by decide) ?_
            rw [show ((nI i) + (1 : Int32)) = (nI (i + 1)) from (nI_1 i)] at hl
            exact ih_32  (i + 1) H _ ls (by omega) hP hD hS (lv_sub hl [0, 2, 3, 4, 5, 6] rfl)
          · have hc : nI c1 < f i := Int32.not_le.mp hc
            refine lv_aload_n hx hb dL_turned_51 rfl (lv_at hl 5 rfl) ?_
            refine lv_iload_n hx hb dL_turned_52 rfl (lv_at hl 4 rfl) ?_
            refine lv_dup2_11 hx hb dL_turned_53 rfl rfl ?_
            refine va_iald hx hb hK hP 0 0 rfl rfl (vp_in_nI (by omega) (by omega)) dL_turned_54 ?_
            refine lv_iconst (v := (1 : Int32)) hx hb dL_turned_55 (by decide) ?_
            refine lv_iadd hx hb dL_turned_56 ?_
            refine va_iast hx hb hK hP hD hS 0 0 rfl rfl (vp_in_nI (by omega) (by omega)) dL_turned_57 (fun H locs hP hD hS => ?_)
            rw [nI_clamp (by omega)] at hP hD
            have et : upd (tri f (tro f N c1) c1 i) c1 (tri f (tro f N c1) c1 i c1 + (1 : Int32)) = tri f (tro f N c1) c1 (i + 1) := (if_pos hc).symm
            have hP : va_P D xcl [(u, .inl (cyI, n1, .inl (upd (tri f (tro f N c1) c1 i) c1 (tri f (tro f N c1) c1 i c1 + (1 : Int32)))))] H := hP
            have hD : va_D A [(u, .inl (cyI, n1, .inl (upd (tri f (tro f N c1) c1 i) c1 (tri f (tro f N c1) c1 i c1 + (1 : Int32)))))] := hD
            rw [et] at hP hD
            refine lv_iinc (v := ((nI i) + (1 : Int32))) (lv' := [(5, .int ((nI i) + (1 : Int32))), (6, .int (f i)), (4, .int (nI N)), (3, .ref a1), (2, .int (nI c1)), (1, .ref u), (0, .ref a1)]) hx hb dL_turned_58 hl (k := 1) rfl rfl (by decide) rfl (fun ls hl => ?_)
            refine lv_goto (tgt := 32) hx hb dL_turned_61 (by decide) ?_
            rw [show ((nI i) + (1 : Int32)) = (nI (i + 1)) from (nI_1 i)] at hl
            exact ih_32  (i + 1) H _ ls (by omega) hP hD hS (lv_sub hl [0, 2, 3, 4, 5, 6] rfl)
      exact w_32 N 0 H _ ls (by omega) hP hD hS (lv_sub hl [0, 1, 2, 3, 4, 5] rfl)
  exact w_17 n1 0 H _ ls (by omega) hP hD hS (lv_sub hl [0, 1, 2] rfl)
set_option maxHeartbeats 4000000 in
set_option maxRecDepth 20000 in
theorem c_L_find (l : Launch) (D : va_G) (cyI cyJ cyB cyQ : ClassId) (sz : Nat) (al : Nat) (B : Nat → Nat) (a1 N : Nat) (f : Nat → Int32) (hN : N < 1000) : ym_i (S := Unit) l yL_find (Cond.code yL_find cL_find 5 (some .int) :: xg_tbl) { frames := 0, cells := 0, slots := 0, locals := 0 } D xcl (ytys cyI cyJ cyB cyQ) (fun A U H => ZA al B A U H ∧ ZI a1 N f A U H) sz [.ref al, .ref a1] [] (fun r _ => r = fnd f N 67 0) (fun _ => []) 0 0 := by
  refine ym_of (own := RL) (by decide) rfl rfl (Nat.le_of_ble_eq_true rfl) ?_
  intro p e s m args below meth c ls Q A H hQ hAe hH hin Cx hsz hP hD hS hl
  have Cx1 := Cx
  obtain ⟨⟨hx, hb, hml, hown, hts⟩, hr, hlocks, hK, hA, hT⟩ := Cx1
  have hl : lv_has ls 5 [(0, .ref al), (1, .ref a1)] := hl
  have sl67 : ∀ j, j < 67 → sl j < 100 := by decide +kernel
  refine lv_iconst (v := (0 : Int32)) hx hb dL_find_0 (by decide) ?_
  refine lv_istore_n (lv' := [(2, .int (0 : Int32)), (0, .ref al), (1, .ref a1)]) hx hb dL_find_1 rfl hl (by decide) rfl (fun ls hl => ?_)
  have w_2 : ∀ (d : Nat) (k : Nat) (H : Heap) (locs : List Loc) (ls : Array Slot), k + d = 67 → fnd f N d k = fnd f N 67 0 →  va_P D xcl [] H → va_D A [] → va_S A s.heap H locs → lv_has ls 5 [(2, .int (nI k)), (0, .ref al), (1, .ref a1)] → W p l e { frames := 0, cells := 0, slots := 0, locals := 0 } s m args below meth c H locs 0 0 Q (F0 m 2 ls []) := by
    intro d
    induction d with
    | zero =>
      intro k H locs ls hk67 hf hP hD hS hl
      obtain rfl : k = 67 := by omega
      refine lv_iload_n hx hb dL_find_2 rfl (lv_at hl 0 rfl) ?_
      refine lv_aload_n hx hb dL_find_3 rfl (lv_at hl 1 rfl) ?_
      refine yf_len hx hb (va_T.kept hT.1.1 hS.2.1) dL_find_4 ?_
      refine lv_icmp_ge (tgt := 74) hx hb dL_find_5 (by decide) (fun _ => ?_) (fun hc => absurd (Int32.le_refl _) hc)
      refine lv_bipush (v := (-9 : Int32)) hx hb dL_find_74 (by decide) ?_
      rw [show fnd f N 0 67 = -9 from rfl] at hf
      subst hAe
      rw [← hQ]
      exact ye_iret (post := (fun r _ => r = fnd f N 67 0)) (w1 := (fun _ => [])) () Cx (by exact hf) rfl hP hD hS dL_find_76
    | succ d ih_2 =>
      intro k H locs ls hk67 hf hP hD hS hl
      have hk := sl67 k (by omega)
      refine lv_iload_n hx hb dL_find_2 rfl (lv_at hl 0 rfl) ?_
      refine lv_aload_n hx hb dL_find_3 rfl (lv_at hl 1 rfl) ?_
      refine yf_len hx hb (va_T.kept hT.1.1 hS.2.1) dL_find_4 ?_
      refine lv_icmp_ge (tgt := 74) hx hb dL_find_5 (by decide) (fun hc => absurd hc (nI_ge (by omega) (by decide))) (fun _ => ?_)
      refine lv_aload_n hx hb dL_find_8 rfl (lv_at hl 1 rfl) ?_
      refine lv_iload_n hx hb dL_find_9 rfl (lv_at hl 0 rfl) ?_
      refine yf_qld hx hb (va_T.kept hT.1.1 hS.2.1) rfl (vp_in_nI (by omega) (by decide)) dL_find_10 ?_
      rw [nI_clamp (by omega)]
      refine yf_len hx hb (va_T.kept (hT.1.2 k (by omega)) hS.2.1) dL_find_11 ?_
      refine lv_aload_n hx hb dL_find_12 rfl (lv_at hl 2 rfl) ?_
      refine yf_len hx hb (va_T.kept hT.2 hS.2.1) dL_find_13 ?_
      suffices hgo : ∀ (H : Heap) (locs : List Loc) (ls : Array Slot), va_P D xcl [] H → va_D A [] → va_S A s.heap H locs → lv_has ls 5 [(2, .int (nI k)), (0, .ref al), (1, .ref a1)] → W p l e { frames := 0, cells := 0, slots := 0, locals := 0 } s m args below meth c H locs 0 0 Q (F0 m 22 ls [.int (if mtc f N k 0 = true then (1 : Int32) else 0)]) by
        refine lv_icmp_ne (tgt := 21) hx hb dL_find_14 (by decide) (fun hc => ?_) (fun hc => ?_)
        · have hm : mtc f N k 0 = false := by show decide (qz_L k = N) = false; exact decide_eq_false (fun h9 => hc (congrArg nI h9))
          refine lv_iconst (v := (0 : Int32)) hx hb dL_find_21 (by decide) ?_
          rw [show (0 : Int32) = (if mtc f N k 0 = true then (1 : Int32) else 0) by rw [hm]; rfl]
          exact hgo H _ ls hP hD hS hl
        · have hm : mtc f N k 0 = true := by show decide (qz_L k = N) = true; exact decide_eq_true ((nI_eq (by show sl k < _; omega) (by omega)).mp hc)
          refine lv_iconst (v := (1 : Int32)) hx hb dL_find_17 (by decide) ?_
          refine lv_goto (tgt := 22) hx hb dL_find_18 (by decide) ?_
          rw [show (1 : Int32) = (if mtc f N k 0 = true then (1 : Int32) else 0) by rw [hm]; rfl]
          exact hgo H _ ls hP hD hS hl
      intro H locs ls hP hD hS hl
      refine lv_istore_n (lv' := [(3, .int (if mtc f N k 0 = true then (1 : Int32) else 0)), (2, .int (nI k)), (0, .ref al), (1, .ref a1)]) hx hb dL_find_22 rfl hl (by decide) rfl (fun ls hl => ?_)
      refine lv_iconst (v := (0 : Int32)) hx hb dL_find_23 (by decide) ?_
      refine lv_istore (lv' := [(4, .int (0 : Int32)), (3, .int (if mtc f N k 0 = true then (1 : Int32) else 0)), (2, .int (nI k)), (0, .ref al), (1, .ref a1)]) hx hb dL_find_24 hl (by decide) rfl (fun ls hl => ?_)
      have w_62 : ∀ (i : Nat) (H : Heap) (locs : List Loc) (ls : Array Slot), mtc f N k i = mtc f N k N → va_P D xcl [] H → va_D A [] → va_S A s.heap H locs → lv_has ls 5 [(4, .int (nI i)), (3, .int (if mtc f N k i = true then (1 : Int32) else 0)), (2, .int (nI k)), (0, .ref al), (1, .ref a1)] → W p l e { frames := 0, cells := 0, slots := 0, locals := 0 } s m args below meth c H locs 0 0 Q (F0 m 62 ls []) := by
        intro i H locs ls hm hP hD hS hl
        refine lv_iload_n hx hb dL_find_62 rfl (lv_at hl 1 rfl) ?_
        refine lv_if_eq (tgt := 68) hx hb dL_find_63 (by decide) (fun hc => ?_) (fun hc => ?_)
        · have hm9 : ¬ mtc f N k N = true := fun h9 => by rw [hm, if_pos h9] at hc; exact absurd hc (by decide)
          have hf : fnd f N d (k + 1) = fnd f N 67 0 := by rw [← hf]; exact (if_neg hm9).symm
          refine lv_iinc (v := ((nI k) + (1 : Int32))) (lv' := [(2, .int ((nI k) + (1 : Int32))), (4, .int (nI i)), (3, .int (if mtc f N k i = true then (1 : Int32) else 0)), (0, .ref al), (1, .ref a1)]) hx hb dL_find_68 hl (k := 2) rfl rfl (by decide) rfl (fun ls hl => ?_)
          refine lv_goto (tgt := 2) hx hb dL_find_71 (by decide) ?_
          rw [show ((nI k) + (1 : Int32)) = (nI (k + 1)) from (nI_1 k)] at hl
          exact ih_2  (k + 1) H _ ls (by omega) hf hP hD hS (lv_sub hl [0, 3, 4] rfl)
        · have hm9 : mtc f N k N = true := by rw [hm] at hc; by_cases h9 : mtc f N k N = true; exact h9; rw [if_neg h9] at hc; exact absurd rfl hc
          have hf : nI k = fnd f N 67 0 := by rw [← hf]; exact (if_pos hm9).symm
          refine lv_iload_n hx hb dL_find_66 rfl (lv_at hl 2 rfl) ?_
          subst hAe
          rw [← hQ]
          exact ye_iret (post := (fun r _ => r = fnd f N 67 0)) (w1 := (fun _ => [])) () Cx (by exact hf) rfl hP hD hS dL_find_67
      have w_26 : ∀ (d2 : Nat) (i : Nat) (H : Heap) (locs : List Loc) (ls : Array Slot), i + d2 = N →  va_P D xcl [] H → va_D A [] → va_S A s.heap H locs → lv_has ls 5 [(4, .int (nI i)), (3, .int (if mtc f N k i = true then (1 : Int32) else 0)), (2, .int (nI k)), (0, .ref al), (1, .ref a1)] → W p l e { frames := 0, cells := 0, slots := 0, locals := 0 } s m args below meth c H locs 0 0 Q (F0 m 26 ls []) := by
        intro d2
        induction d2 with
        | zero =>
          intro i H locs ls hi hP hD hS hl
          obtain rfl : i = N := by omega
          refine lv_iload hx hb dL_find_26 (lv_at hl 0 rfl) ?_
          refine lv_aload_n hx hb dL_find_28 rfl (lv_at hl 4 rfl) ?_
          refine yf_len hx hb (va_T.kept hT.2 hS.2.1) dL_find_29 ?_
          refine lv_icmp_ge (tgt := 62) hx hb dL_find_30 (by decide) (fun _ => ?_) (fun hc => absurd (Int32.le_refl _) hc)
          exact w_62  i H _ ls rfl hP hD hS (lv_sub hl [0, 1, 2, 3, 4] rfl)
        | succ d2 ih_26 =>
          intro i H locs ls hi hP hD hS hl
          refine lv_iload hx hb dL_find_26 (lv_at hl 0 rfl) ?_
          refine lv_aload_n hx hb dL_find_28 rfl (lv_at hl 4 rfl) ?_
          refine yf_len hx hb (va_T.kept hT.2 hS.2.1) dL_find_29 ?_
          refine lv_icmp_ge (tgt := 62) hx hb dL_find_30 (by decide) (fun hc => absurd hc (nI_ge (by omega) (by omega))) (fun _ => ?_)
          refine lv_iload_n hx hb dL_find_33 rfl (lv_at hl 1 rfl) ?_
          refine lv_if_eq (tgt := 62) hx hb dL_find_34 (by decide) (fun hc => ?_) (fun hc => ?_)
          · have hm9 : mtc f N k i = false := by by_cases h9 : mtc f N k i = true; rw [if_pos h9] at hc; exact absurd hc (by decide); exact Bool.eq_false_iff.mpr h9
            have hm : mtc f N k i = mtc f N k N := by
              rw [hm9]
              have key : ∀ q, mtc f N k (i + q) = false := by
                intro q; induction q with
                | zero => exact hm9
                | succ q ihq => show (mtc f N k (i + q) && _) = false; rw [ihq]; rfl
              have e9 := key (N - i)
              rw [show i + (N - i) = N by omega] at e9
              exact e9.symm
            exact w_62  i H _ ls hm hP hD hS (lv_sub hl [0, 1, 2, 3, 4] rfl)
          · have hm9 : mtc f N k i = true := by by_cases h9 : mtc f N k i = true; exact h9; rw [if_neg h9] at hc; exact absurd rfl hc
            have hsl : sl k = N := by
              have key : ∀ q, mtc f N k q = true → qz_L k = N := by
                intro q; induction q with
                | zero => intro h9; exact of_decide_eq_true h9
                | succ q ihq => intro h9; exact ihq (Bool.and_eq_true_iff.mp h9).1
              exact key i hm9
            refine lv_aload_n hx hb dL_find_37 rfl (lv_at hl 3 rfl) ?_
            refine lv_iload_n hx hb dL_find_38 rfl (lv_at hl 2 rfl) ?_
            refine yf_qld hx hb (va_T.kept hT.1.1 hS.2.1) rfl (vp_in_nI (by omega) (by decide)) dL_find_39 ?_
            rw [nI_clamp (by omega)]
            refine lv_iload hx hb dL_find_40 (lv_at hl 0 rfl) ?_
            refine yf_ild hx hb (va_T.kept (hT.1.2 k (by omega)) hS.2.1) (vp_in_nI (by omega) (by omega)) (v := (sr k i)) (by rw [nI_clamp (by omega)]) dL_find_42 ?_
            refine lv_aload_n hx hb dL_find_43 rfl (lv_at hl 4 rfl) ?_
            refine lv_iload hx hb dL_find_44 (lv_at hl 0 rfl) ?_
            refine yf_ild hx hb (va_T.kept hT.2 hS.2.1) (vp_in_nI (by omega) (by omega)) (v := (f i)) (by rw [nI_clamp (by omega)]) dL_find_46 ?_
            refine lv_icmp_ne (tgt := 54) hx hb dL_find_47 (by decide) (fun hc2 => ?_) (fun hc2 => ?_)
            · have hm2 : mtc f N k (i + 1) = false := by show (mtc f N k i && decide (tz_R (8 * k + i) = f i)) = false; rw [hm9]; exact decide_eq_false hc2
              refine lv_iconst (v := (0 : Int32)) hx hb dL_find_54 (by decide) ?_
              refine lv_istore_n (lv' := [(3, .int (0 : Int32)), (4, .int (nI i)), (2, .int (nI k)), (0, .ref al), (1, .ref a1)]) hx hb dL_find_55 rfl hl (by decide) rfl (fun ls hl => ?_)
              refine lv_iinc (v := ((nI i) + (1 : Int32))) (lv' := [(4, .int ((nI i) + (1 : Int32))), (3, .int (0 : Int32)), (2, .int (nI k)), (0, .ref al), (1, .ref a1)]) hx hb dL_find_56 hl (k := 1) rfl rfl (by decide) rfl (fun ls hl => ?_)
              refine lv_goto (tgt := 26) hx hb dL_find_59 (by decide) ?_
              rw [show ((nI i) + (1 : Int32)) = (nI (i + 1)) from (nI_1 i)] at hl
              rw [show (0 : Int32) = (if mtc f N k (i + 1) = true then (1 : Int32) else 0) by rw [hm2]; rfl] at hl
              exact ih_26  (i + 1) H _ ls (by omega) hP hD hS (lv_sub hl [0, 1, 2, 3, 4] rfl)
            · have hm2 : mtc f N k (i + 1) = true := by show (mtc f N k i && decide (tz_R (8 * k + i) = f i)) = true; rw [hm9]; exact decide_eq_true hc2
              refine lv_iconst (v := (1 : Int32)) hx hb dL_find_50 (by decide) ?_
              refine lv_goto (tgt := 55) hx hb dL_find_51 (by decide) ?_
              refine lv_istore_n (lv' := [(3, .int (1 : Int32)), (4, .int (nI i)), (2, .int (nI k)), (0, .ref al), (1, .ref a1)]) hx hb dL_find_55 rfl hl (by decide) rfl (fun ls hl => ?_)
              refine lv_iinc (v := ((nI i) + (1 : Int32))) (lv' := [(4, .int ((nI i) + (1 : Int32))), (3, .int (1 : Int32)), (2, .int (nI k)), (0, .ref al), (1, .ref a1)]) hx hb dL_find_56 hl (k := 1) rfl rfl (by decide) rfl (fun ls hl => ?_)
              refine lv_goto (tgt := 26) hx hb dL_find_59 (by decide) ?_
              rw [show ((nI i) + (1 : Int32)) = (nI (i + 1)) from (nI_1 i)] at hl
              rw [show (1 : Int32) = (if mtc f N k (i + 1) = true then (1 : Int32) else 0) by rw [hm2]; rfl] at hl
              exact ih_26  (i + 1) H _ ls (by omega) hP hD hS (lv_sub hl [0, 1, 2, 3, 4] rfl)
      exact w_26 N 0 H _ ls (by omega) hP hD hS (lv_sub hl [0, 1, 2, 3, 4] rfl)
  exact w_2 67 0 H _ ls rfl rfl hP hD hS (lv_sub hl [0, 1, 2] rfl)
set_option maxHeartbeats 4000000 in
set_option maxRecDepth 20000 in
theorem c_L_drawn (l : Launch) (D : va_G) (cyI cyJ cyB cyQ : ClassId) (sz : Nat) (a1 N at0 many : Nat) (f : Nat → Int32) (hN : N < 1000) (hat : at0 < 100) (hm : many ≤ 16) (hm0 : 0 < many) : ym_r (S := Nat) l yL_drawn (Cond.code yL_drawn cL_drawn 6 (some (.array .int)) :: xg_tbl) { frames := 1, cells := 1, slots := 16, locals := 21 } D xcl (ytys cyI cyJ cyB cyQ) (ZI a1 N f) sz [.ref a1, .int (nI at0), .int (nI many)] [] (fun _ => True) (fun u => u) (fun u => [(u, .inl (cyI, many, .inl (dra N f at0 many 4)))]) 1 16 := by
  refine ym_of (own := RL) (by decide) rfl rfl (Nat.le_of_ble_eq_true rfl) ?_
  intro p e s m args below meth c ls Q A H hQ hAe hH hin Cx hsz hP hD hS hl
  have Cx1 := Cx
  obtain ⟨⟨hx, hb, hml, hown, hts⟩, hr, hlocks, hK, hA, hT⟩ := Cx1
  have hl : lv_has ls 6 [(0, .ref a1), (1, .int (nI at0)), (2, .int (nI many))] := hl
  refine lv_iload_n hx hb dL_drawn_0 rfl (lv_at hl 2 rfl) ?_
  refine va_newa (atype := .int) (ty := .int) (a0 := (many, .inl (fun _ => 0))) (N' := many) hx hb (hts _ mw_1_104) rfl hK hP hD hS hA (fun _ => rfl) (nI_pos (by omega)) (nI_clamp (by omega)) (show many * 4 ≤ 536870912 by omega) (show 0 + 1 ≤ (1 : Nat) by omega) (show 0 + many ≤ (16 : Nat) by omega) dL_drawn_1 (fun u cA H hK1 hP hD hS => ?_)
  have eA := y_sameI hK hK1
  rw [eA] at hP hD
  have hP : va_P D xcl [(u, .inl (cyI, many, .inl (fun _ => (0 : Int32))))] H := hP
  have hD : va_D A [(u, .inl (cyI, many, .inl (fun _ => (0 : Int32))))] := hD
  refine lv_astore_n (lv' := [(3, .ref u), (0, .ref a1), (1, .int (nI at0)), (2, .int (nI many))]) hx hb dL_drawn_3 rfl hl (by decide) rfl (fun ls hl => ?_)
  refine lv_iconst (v := (0 : Int32)) hx hb dL_drawn_4 (by decide) ?_
  refine lv_istore (lv' := [(4, .int (0 : Int32)), (3, .ref u), (0, .ref a1), (1, .int (nI at0)), (2, .int (nI many))]) hx hb dL_drawn_5 hl (by decide) rfl (fun ls hl => ?_)
  have hP : va_P D xcl [(u, .inl (cyI, many, .inl (dra N f at0 many 0)))] H := hP
  have hD : va_D A [(u, .inl (cyI, many, .inl (dra N f at0 many 0)))] := hD
  refine W.widen (k := 1) (n := 16) (show 0 + 1 ≤ 1 from Nat.le_refl _) (show 0 + many ≤ 16 by omega) ?_
  have w_7 : ∀ (d : Nat) (i : Nat) (H : Heap) (locs : List Loc) (ls : Array Slot), i + d = 4 →  va_P D xcl [(u, .inl (cyI, many, .inl (dra N f at0 many i)))] H → va_D A [(u, .inl (cyI, many, .inl (dra N f at0 many i)))] → va_S A s.heap H locs → lv_has ls 6 [(4, .int (nI i)), (3, .ref u), (0, .ref a1), (1, .int (nI at0)), (2, .int (nI many))] → W p l e { frames := 1, cells := 1, slots := 16, locals := 21 } s m args below meth c H locs 1 16 Q (F0 m 7 ls []) := by
    intro d
    induction d with
    | zero =>
      intro i H locs ls hi hP hD hS hl
      obtain rfl : i = 4 := by omega
      refine lv_iload hx hb dL_drawn_7 (lv_at hl 0 rfl) ?_
      refine lv_iconst (v := (4 : Int32)) hx hb dL_drawn_9 (by decide) ?_
      refine lv_icmp_ge (tgt := 48) hx hb dL_drawn_10 (by decide) (fun _ => ?_) (fun hc => absurd (Int32.le_refl _) hc)
      refine lv_aload_n hx hb dL_drawn_48 rfl (lv_at hl 1 rfl) ?_
      refine W.widen (k := 1) (n := 16) (show 1 ≤ 1 by omega) (show 16 ≤ 16 by omega) ?_
      subst hAe
      rw [← hQ]
      exact ye_aret (post := (fun _ => True)) (ad := (fun u => u)) (w1 := (fun u => [(u, .inl (cyI, many, .inl (dra N f at0 many 4)))])) u Cx (by first | exact Or.inl ⟨_, rfl⟩ | exact Or.inr ⟨_, rfl⟩) (by exact trivial) rfl hP hD hS dL_drawn_49
    | succ d ih_7 =>
      intro i H locs ls hi hP hD hS hl
      refine lv_iload hx hb dL_drawn_7 (lv_at hl 0 rfl) ?_
      refine lv_iconst (v := (4 : Int32)) hx hb dL_drawn_9 (by decide) ?_
      refine lv_icmp_ge (tgt := 48) hx hb dL_drawn_10 (by decide) (fun hc => absurd hc (show ¬ (4 : Int32) ≤ nI i from nI_ge (b := 4) (by omega) (by decide))) (fun _ => ?_)
      refine lv_aload_n hx hb dL_drawn_13 rfl (lv_at hl 2 rfl) ?_
      refine lv_iload_n hx hb dL_drawn_14 rfl (lv_at hl 3 rfl) ?_
      refine lv_iload hx hb dL_drawn_15 (lv_at hl 0 rfl) ?_
      refine lv_iadd hx hb dL_drawn_17 ?_
      rw [show ((nI at0) + (nI i)) = (nI (at0 + i)) from (nI_add at0 i)]
      refine yr_i Cx hP hD hS (yq_of (S := Unit) (w1 := fun u_1 => []) (ws1 := fun u_1 => [(u, .inl (cyI, many, .inl (dra N f at0 many i)))]) [(u, .inl (cyI, many, .inl (dra N f at0 many i)))] [] [0] [0] rfl rfl rfl rfl (by decide) (fun _ => rfl) rfl) (yx_S (n := 2) (As := [.ref a1, .int (nI (at0 + i))]) (rest := []) Cx hP hD hS hl (yq_of (S := Unit) (w1 := fun u_1 => []) (ws1 := fun u_1 => [(u, .inl (cyI, many, .inl (dra N f at0 many i)))]) [(u, .inl (cyI, many, .inl (dra N f at0 many i)))] [] [0] [0] rfl rfl rfl rfl (by decide) (fun _ => rfl) rfl) hK (fz_ZI a1 N f) (fun hF => (fz_give (fz_ZI a1 N f) hT hS hF)) (c_L_cell l D cyI cyJ cyB cyQ H.size a1 N f (at0 + i) hN (by omega)) pk_L_cell mw_3_159 ⟨rfl, rfl, Nat.le_of_ble_eq_true rfl, Nat.le_of_ble_eq_true rfl⟩ rfl rfl (Nat.le_of_ble_eq_true rfl) ⟨Nat.le_of_ble_eq_true rfl, Nat.le_of_ble_eq_true rfl⟩ dL_drawn_18) (fun r_1 u_1 H locs hp hP hD hS => ?_)
      have hP : va_P D xcl [(u, .inl (cyI, many, .inl (dra N f at0 many i)))] H := hP
      have hD : va_D A [(u, .inl (cyI, many, .inl (dra N f at0 many i)))] := hD
      rw [hp]
      refine lv_iconst (v := (1 : Int32)) hx hb dL_drawn_21 (by decide) ?_
      refine lv_iushr (v := (((Int32.toUInt32 (cel N f (at0 + i))) >>> ((Int32.toUInt32 (1 : Int32)) &&& Int32.toUInt32 31)).toInt32)) hx hb dL_drawn_22 rfl ?_
      rw [show (((Int32.toUInt32 (cel N f (at0 + i))) >>> ((Int32.toUInt32 (1 : Int32)) &&& Int32.toUInt32 31)).toInt32) = (nI (hlf (cel N f (at0 + i)))) from (hlf_eq _)]
      have hh := hlf_lt (cel N f (at0 + i))
      refine lv_istore (lv' := [(5, .int (nI (hlf (cel N f (at0 + i))))), (4, .int (nI i)), (3, .ref u), (0, .ref a1), (1, .int (nI at0)), (2, .int (nI many))]) hx hb dL_drawn_23 hl (by decide) rfl (fun ls hl => ?_)
      refine lv_aload_n hx hb dL_drawn_25 rfl (lv_at hl 2 rfl) ?_
      refine lv_iload hx hb dL_drawn_26 (lv_at hl 0 rfl) ?_
      refine lv_bipush (v := (8 : Int32)) hx hb dL_drawn_28 (by decide) ?_
      refine lv_iushr (v := (((Int32.toUInt32 (nI (hlf (cel N f (at0 + i))))) >>> ((Int32.toUInt32 (8 : Int32)) &&& Int32.toUInt32 31)).toInt32)) hx hb dL_drawn_30 rfl ?_
      refine lv_iload_n hx hb dL_drawn_31 rfl (lv_at hl 5 rfl) ?_
      rw [show (((Int32.toUInt32 (nI (hlf (cel N f (at0 + i))))) >>> ((Int32.toUInt32 (8 : Int32)) &&& Int32.toUInt32 31)).toInt32) = (nI (hlf (cel N f (at0 + i)) / 2 ^ 8)) from (pk_ushrN (n := hlf (cel N f (at0 + i))) (by omega) 8 8 (by decide))]
      refine lv_irem hx hb dL_drawn_32 (nI_ne0 hm0 (by omega)) ?_
      rw [show ((nI (hlf (cel N f (at0 + i)) / 2 ^ 8)) - (nI (hlf (cel N f (at0 + i)) / 2 ^ 8)) / (nI many) * (nI many)) = (nI (hlf (cel N f (at0 + i)) / 2 ^ 8 % many)) from (pk_rem (by omega) hm0 (by omega))]
      refine lv_iload hx hb dL_drawn_33 (lv_at hl 0 rfl) ?_
      refine lv_bipush (v := (41 : Int32)) hx hb dL_drawn_35 (by decide) ?_
      refine lv_irem hx hb dL_drawn_37 (by decide) ?_
      rw [show ((nI (hlf (cel N f (at0 + i)))) - (nI (hlf (cel N f (at0 + i)))) / (41 : Int32) * (41 : Int32)) = (nI (hlf (cel N f (at0 + i)) % 41)) from (pk_rem (d := 41) (by omega) (by decide) (by decide))]
      refine lv_bipush (v := (20 : Int32)) hx hb dL_drawn_38 (by decide) ?_
      refine lv_isub hx hb dL_drawn_40 ?_
      have hr9 : hlf (cel N f (at0 + i)) / 2 ^ 8 % many < many := Nat.mod_lt _ hm0
      refine va_iast hx hb hK hP hD hS 0 0 rfl rfl (vp_in_nI hr9 (by omega)) dL_drawn_41 (fun H locs hP hD hS => ?_)
      rw [nI_clamp (by omega)] at hP hD
      have hP : va_P D xcl [(u, .inl (cyI, many, .inl (dra N f at0 many (i + 1))))] H := hP
      have hD : va_D A [(u, .inl (cyI, many, .inl (dra N f at0 many (i + 1))))] := hD
      refine lv_iinc (v := ((nI i) + (1 : Int32))) (lv' := [(4, .int ((nI i) + (1 : Int32))), (5, .int (nI (hlf (cel N f (at0 + i))))), (3, .ref u), (0, .ref a1), (1, .int (nI at0)), (2, .int (nI many))]) hx hb dL_drawn_42 hl (k := 1) rfl rfl (by decide) rfl (fun ls hl => ?_)
      refine lv_goto (tgt := 7) hx hb dL_drawn_45 (by decide) ?_
      rw [show ((nI i) + (1 : Int32)) = (nI (i + 1)) from (nI_1 i)] at hl
      exact ih_7  (i + 1) H _ ls (by omega) hP hD hS (lv_sub hl [0, 2, 3, 4, 5] rfl)
  exact w_7 4 0 H _ ls rfl hP hD hS (lv_sub hl [0, 1, 2, 3, 4] rfl)
