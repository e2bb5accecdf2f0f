theorem dX10_height_58 : decode cX10_height 58 = .ok (.iload_n 3, 1) := by decide +kernel
theorem dX10_height_59 : decode cX10_height 59 = .ok (.invokevirtual 111, 3) := by decide +kernel
theorem dX10_height_62 : decode cX10_height 62 = .ok (.istore 4, 2) := by decide +kernel
theorem dX10_height_64 : decode cX10_height 64 = .ok (.aload_n 0, 1) := by decide +kernel
theorem dX10_height_65 : decode cX10_height 65 = .ok (.getfield 108, 3) := by decide +kernel
theorem dX10_height_68 : decode cX10_height 68 = .ok (.ireturn, 1) := by decide +kernel
theorem dX10_character_0 : decode cX10_character 0 = .ok (.iload_n 1, 1) := by decide +kernel
theorem dX10_character_1 : decode cX10_character 1 = .ok (.invokestatic 117, 3) := by decide +kernel
theorem dX10_character_4 : decode cX10_character 4 = .ok (.ifCond .eq 10, 3) := by decide +kernel
theorem dX10_character_7 : decode cX10_character 7 = .ok (.iload_n 2, 1) := by decide +kernel
theorem dX10_character_8 : decode cX10_character 8 = .ok (.invokestatic 117, 3) := by decide +kernel
theorem dX10_character_11 : decode cX10_character 11 = .ok (.ifCond .ne 9, 3) := by decide +kernel
theorem dX10_character_14 : decode cX10_character 14 = .ok (.aload_n 0, 1) := by decide +kernel
theorem dX10_character_15 : decode cX10_character 15 = .ok (.iconst (-1), 1) := by decide +kernel
theorem dX10_character_16 : decode cX10_character 16 = .ok (.invokevirtual 140, 3) := by decide +kernel
theorem dX10_character_19 : decode cX10_character 19 = .ok (.ireturn, 1) := by decide +kernel
theorem dX10_character_20 : decode cX10_character 20 = .ok (.aload_n 0, 1) := by decide +kernel
theorem dX10_character_21 : decode cX10_character 21 = .ok (.getfield 13, 3) := by decide +kernel
theorem dX10_character_24 : decode cX10_character 24 = .ok (.iload_n 1, 1) := by decide +kernel
theorem dX10_character_25 : decode cX10_character 25 = .ok (.iaload, 1) := by decide +kernel
theorem dX10_character_26 : decode cX10_character 26 = .ok (.aload_n 0, 1) := by decide +kernel
theorem dX10_character_27 : decode cX10_character 27 = .ok (.getfield 13, 3) := by decide +kernel
theorem dX10_character_30 : decode cX10_character 30 = .ok (.iload_n 2, 1) := by decide +kernel
theorem dX10_character_31 : decode cX10_character 31 = .ok (.iaload, 1) := by decide +kernel
theorem dX10_character_32 : decode cX10_character 32 = .ok (.if_icmp .ne 17, 3) := by decide +kernel
theorem dX10_character_35 : decode cX10_character 35 = .ok (.aload_n 0, 1) := by decide +kernel
theorem dX10_character_36 : decode cX10_character 36 = .ok (.getfield 22, 3) := by decide +kernel
theorem dX10_character_39 : decode cX10_character 39 = .ok (.bipush 67, 2) := by decide +kernel
theorem dX10_character_41 : decode cX10_character 41 = .ok (.iload_n 1, 1) := by decide +kernel
theorem dX10_character_42 : decode cX10_character 42 = .ok (.imul, 1) := by decide +kernel
theorem dX10_character_43 : decode cX10_character 43 = .ok (.iload_n 2, 1) := by decide +kernel
theorem dX10_character_44 : decode cX10_character 44 = .ok (.iadd, 1) := by decide +kernel
theorem dX10_character_45 : decode cX10_character 45 = .ok (.iaload, 1) := by decide +kernel
theorem dX10_character_46 : decode cX10_character 46 = .ok (.goto 9, 3) := by decide +kernel
theorem dX10_character_49 : decode cX10_character 49 = .ok (.aload_n 0, 1) := by decide +kernel
theorem dX10_character_50 : decode cX10_character 50 = .ok (.bipush (-3), 2) := by decide +kernel
theorem dX10_character_52 : decode cX10_character 52 = .ok (.invokevirtual 140, 3) := by decide +kernel
theorem dX10_character_55 : decode cX10_character 55 = .ok (.ireturn, 1) := by decide +kernel
theorem dX10_asPart_0 : decode cX10_asPart 0 = .ok (.iload_n 0, 1) := by decide +kernel
theorem dX10_asPart_1 : decode cX10_asPart 1 = .ok (.istore_n 3, 1) := by decide +kernel
theorem dX10_asPart_2 : decode cX10_asPart 2 = .ok (.iload_n 1, 1) := by decide +kernel
theorem dX10_asPart_3 : decode cX10_asPart 3 = .ok (.istore 4, 2) := by decide +kernel
theorem dX10_asPart_5 : decode cX10_asPart 5 = .ok (.iload 4, 2) := by decide +kernel
theorem dX10_asPart_7 : decode cX10_asPart 7 = .ok (.ifCond .eq 19, 3) := by decide +kernel
theorem dX10_asPart_10 : decode cX10_asPart 10 = .ok (.iload_n 3, 1) := by decide +kernel
theorem dX10_asPart_11 : decode cX10_asPart 11 = .ok (.iload 4, 2) := by decide +kernel
theorem dX10_asPart_13 : decode cX10_asPart 13 = .ok (.irem, 1) := by decide +kernel
theorem dX10_asPart_14 : decode cX10_asPart 14 = .ok (.istore 5, 2) := by decide +kernel
theorem dX10_asPart_16 : decode cX10_asPart 16 = .ok (.iload 4, 2) := by decide +kernel
theorem dX10_asPart_18 : decode cX10_asPart 18 = .ok (.istore_n 3, 1) := by decide +kernel
theorem dX10_asPart_19 : decode cX10_asPart 19 = .ok (.iload 5, 2) := by decide +kernel
theorem dX10_asPart_21 : decode cX10_asPart 21 = .ok (.istore 4, 2) := by decide +kernel
theorem dX10_asPart_23 : decode cX10_asPart 23 = .ok (.goto (-18), 3) := by decide +kernel
theorem dX10_asPart_26 : decode cX10_asPart 26 = .ok (.iload_n 2, 1) := by decide +kernel
theorem dX10_asPart_27 : decode cX10_asPart 27 = .ok (.ifCond .ne 10, 3) := by decide +kernel
theorem dX10_asPart_30 : decode cX10_asPart 30 = .ok (.iload_n 0, 1) := by decide +kernel
theorem dX10_asPart_31 : decode cX10_asPart 31 = .ok (.iload_n 3, 1) := by decide +kernel
theorem dX10_asPart_32 : decode cX10_asPart 32 = .ok (.idiv, 1) := by decide +kernel
theorem dX10_asPart_33 : decode cX10_asPart 33 = .ok (.i2l, 1) := by decide +kernel
theorem dX10_asPart_34 : decode cX10_asPart 34 = .ok (.goto 7, 3) := by decide +kernel
theorem dX10_asPart_37 : decode cX10_asPart 37 = .ok (.iload_n 1, 1) := by decide +kernel
theorem dX10_asPart_38 : decode cX10_asPart 38 = .ok (.iload_n 3, 1) := by decide +kernel
theorem dX10_asPart_39 : decode cX10_asPart 39 = .ok (.idiv, 1) := by decide +kernel
theorem dX10_asPart_40 : decode cX10_asPart 40 = .ok (.i2l, 1) := by decide +kernel
theorem dX10_asPart_41 : decode cX10_asPart 41 = .ok (.lreturn, 1) := by decide +kernel
theorem dX10_odds_0 : decode cX10_odds 0 = .ok (.iload_n 1, 1) := by decide +kernel
theorem dX10_odds_1 : decode cX10_odds 1 = .ok (.ifCond .ge 10, 3) := by decide +kernel
theorem dX10_odds_4 : decode cX10_odds 4 = .ok (.aload_n 0, 1) := by decide +kernel
theorem dX10_odds_5 : decode cX10_odds 5 = .ok (.bipush (-4), 2) := by decide +kernel
theorem dX10_odds_7 : decode cX10_odds 7 = .ok (.invokevirtual 143, 3) := by decide +kernel
theorem dX10_odds_10 : decode cX10_odds 10 = .ok (.lreturn, 1) := by decide +kernel
theorem dX10_odds_11 : decode cX10_odds 11 = .ok (.iload_n 1, 1) := by decide +kernel
theorem dX10_odds_12 : decode cX10_odds 12 = .ok (.bipush 8, 2) := by decide +kernel
theorem dX10_odds_14 : decode cX10_odds 14 = .ok (.if_icmp .le 10, 3) := by decide +kernel
theorem dX10_odds_17 : decode cX10_odds 17 = .ok (.aload_n 0, 1) := by decide +kernel
theorem dX10_odds_18 : decode cX10_odds 18 = .ok (.bipush (-6), 2) := by decide +kernel
theorem dX10_odds_20 : decode cX10_odds 20 = .ok (.invokevirtual 143, 3) := by decide +kernel
theorem dX10_odds_23 : decode cX10_odds 23 = .ok (.lreturn, 1) := by decide +kernel
theorem dX10_odds_24 : decode cX10_odds 24 = .ok (.iload_n 2, 1) := by decide +kernel
theorem dX10_odds_25 : decode cX10_odds 25 = .ok (.iconst 0, 1) := by decide +kernel
theorem dX10_odds_26 : decode cX10_odds 26 = .ok (.bipush 6, 2) := by decide +kernel
theorem dX10_odds_28 : decode cX10_odds 28 = .ok (.invokestatic 72, 3) := by decide +kernel
theorem dX10_odds_31 : decode cX10_odds 31 = .ok (.ifCond .eq 12, 3) := by decide +kernel
theorem dX10_odds_34 : decode cX10_odds 34 = .ok (.iload_n 3, 1) := by decide +kernel
theorem dX10_odds_35 : decode cX10_odds 35 = .ok (.iconst 0, 1) := by decide +kernel
theorem dX10_odds_36 : decode cX10_odds 36 = .ok (.iconst 1, 1) := by decide +kernel
theorem dX10_odds_37 : decode cX10_odds 37 = .ok (.invokestatic 72, 3) := by decide +kernel
theorem dX10_odds_40 : decode cX10_odds 40 = .ok (.ifCond .ne 10, 3) := by decide +kernel
theorem dX10_odds_43 : decode cX10_odds 43 = .ok (.aload_n 0, 1) := by decide +kernel
theorem dX10_odds_44 : decode cX10_odds 44 = .ok (.bipush (-2), 2) := by decide +kernel
theorem dX10_odds_46 : decode cX10_odds 46 = .ok (.invokevirtual 143, 3) := by decide +kernel
theorem dX10_odds_49 : decode cX10_odds 49 = .ok (.lreturn, 1) := by decide +kernel
theorem dX10_odds_50 : decode cX10_odds 50 = .ok (.iconst 0, 1) := by decide +kernel
theorem dX10_odds_51 : decode cX10_odds 51 = .ok (.istore 4, 2) := by decide +kernel
theorem dX10_odds_53 : decode cX10_odds 53 = .ok (.aload_n 0, 1) := by decide +kernel
theorem dX10_odds_54 : decode cX10_odds 54 = .ok (.getfield 7, 3) := by decide +kernel
theorem dX10_odds_57 : decode cX10_odds 57 = .ok (.iload_n 1, 1) := by decide +kernel
theorem dX10_odds_58 : decode cX10_odds 58 = .ok (.iaload, 1) := by decide +kernel
theorem dX10_odds_59 : decode cX10_odds 59 = .ok (.istore 5, 2) := by decide +kernel
theorem dX10_odds_61 : decode cX10_odds 61 = .ok (.iload 5, 2) := by decide +kernel
theorem dX10_odds_63 : decode cX10_odds 63 = .ok (.aload_n 0, 1) := by decide +kernel
theorem dX10_odds_64 : decode cX10_odds 64 = .ok (.getfield 7, 3) := by decide +kernel
theorem dX10_odds_67 : decode cX10_odds 67 = .ok (.iload_n 1, 1) := by decide +kernel
theorem dX10_odds_68 : decode cX10_odds 68 = .ok (.iconst 1, 1) := by decide +kernel
theorem dX10_odds_69 : decode cX10_odds 69 = .ok (.iadd, 1) := by decide +kernel
theorem dX10_odds_70 : decode cX10_odds 70 = .ok (.iaload, 1) := by decide +kernel
theorem dX10_odds_71 : decode cX10_odds 71 = .ok (.if_icmp .ge 29, 3) := by decide +kernel
theorem dX10_odds_74 : decode cX10_odds 74 = .ok (.iload 4, 2) := by decide +kernel
theorem dX10_odds_76 : decode cX10_odds 76 = .ok (.aload_n 0, 1) := by decide +kernel
theorem dX10_odds_77 : decode cX10_odds 77 = .ok (.iload 5, 2) := by decide +kernel
theorem dX10_odds_79 : decode cX10_odds 79 = .ok (.iload_n 2, 1) := by decide +kernel
theorem dX10_odds_80 : decode cX10_odds 80 = .ok (.invokevirtual 127, 3) := by decide +kernel
theorem dX10_odds_83 : decode cX10_odds 83 = .ok (.ifCond .eq 7, 3) := by decide +kernel
theorem dX10_odds_86 : decode cX10_odds 86 = .ok (.iconst 1, 1) := by decide +kernel
theorem dX10_odds_87 : decode cX10_odds 87 = .ok (.goto 4, 3) := by decide +kernel
theorem dX10_odds_90 : decode cX10_odds 90 = .ok (.iconst 0, 1) := by decide +kernel
theorem dX10_odds_91 : decode cX10_odds 91 = .ok (.iadd, 1) := by decide +kernel
theorem dX10_odds_92 : decode cX10_odds 92 = .ok (.istore 4, 2) := by decide +kernel
theorem dX10_odds_94 : decode cX10_odds 94 = .ok (.iinc 5 1, 3) := by decide +kernel
theorem dX10_odds_97 : decode cX10_odds 97 = .ok (.goto (-36), 3) := by decide +kernel
theorem dX10_odds_100 : decode cX10_odds 100 = .ok (.iload 4, 2) := by decide +kernel
theorem dX10_odds_102 : decode cX10_odds 102 = .ok (.aload_n 0, 1) := by decide +kernel
theorem dX10_odds_103 : decode cX10_odds 103 = .ok (.iload_n 1, 1) := by decide +kernel
theorem dX10_odds_104 : decode cX10_odds 104 = .ok (.invokevirtual 134, 3) := by decide +kernel
theorem dX10_odds_107 : decode cX10_odds 107 = .ok (.iload_n 3, 1) := by decide +kernel
theorem dX10_odds_108 : decode cX10_odds 108 = .ok (.invokestatic 147, 3) := by decide +kernel
theorem dX10_odds_111 : decode cX10_odds 111 = .ok (.lreturn, 1) := by decide +kernel
theorem dX10_numberOf_0 : decode cX10_numberOf 0 = .ok (.aload_n 0, 1) := by decide +kernel
theorem dX10_numberOf_1 : decode cX10_numberOf 1 = .ok (.getfield 13, 3) := by decide +kernel
theorem dX10_numberOf_4 : decode cX10_numberOf 4 = .ok (.iload_n 1, 1) := by decide +kernel
theorem dX10_numberOf_5 : decode cX10_numberOf 5 = .ok (.iaload, 1) := by decide +kernel
theorem dX10_numberOf_6 : decode cX10_numberOf 6 = .ok (.istore 4, 2) := by decide +kernel
theorem dX10_numberOf_8 : decode cX10_numberOf 8 = .ok (.lconst 0, 1) := by decide +kernel
theorem dX10_numberOf_9 : decode cX10_numberOf 9 = .ok (.lstore 5, 2) := by decide +kernel
theorem dX10_numberOf_11 : decode cX10_numberOf 11 = .ok (.aload_n 0, 1) := by decide +kernel
theorem dX10_numberOf_12 : decode cX10_numberOf 12 = .ok (.getfield 7, 3) := by decide +kernel
theorem dX10_numberOf_15 : decode cX10_numberOf 15 = .ok (.iload 4, 2) := by decide +kernel
theorem dX10_numberOf_17 : decode cX10_numberOf 17 = .ok (.iaload, 1) := by decide +kernel
theorem dX10_numberOf_18 : decode cX10_numberOf 18 = .ok (.istore 7, 2) := by decide +kernel
theorem dX10_numberOf_20 : decode cX10_numberOf 20 = .ok (.iload 7, 2) := by decide +kernel
theorem dX10_numberOf_22 : decode cX10_numberOf 22 = .ok (.aload_n 0, 1) := by decide +kernel
theorem dX10_numberOf_23 : decode cX10_numberOf 23 = .ok (.getfield 7, 3) := by decide +kernel
theorem dX10_numberOf_26 : decode cX10_numberOf 26 = .ok (.iload 4, 2) := by decide +kernel
theorem dX10_numberOf_28 : decode cX10_numberOf 28 = .ok (.iconst 1, 1) := by decide +kernel
theorem dX10_numberOf_29 : decode cX10_numberOf 29 = .ok (.iadd, 1) := by decide +kernel
theorem dX10_numberOf_30 : decode cX10_numberOf 30 = .ok (.iaload, 1) := by decide +kernel
theorem dX10_numberOf_31 : decode cX10_numberOf 31 = .ok (.if_icmp .ge 63, 3) := by decide +kernel
theorem dX10_numberOf_34 : decode cX10_numberOf 34 = .ok (.lload 5, 2) := by decide +kernel
theorem dX10_numberOf_36 : decode cX10_numberOf 36 = .ok (.aload_n 0, 1) := by decide +kernel
theorem dX10_numberOf_37 : decode cX10_numberOf 37 = .ok (.iload 7, 2) := by decide +kernel
theorem dX10_numberOf_39 : decode cX10_numberOf 39 = .ok (.invokevirtual 124, 3) := by decide +kernel
theorem dX10_numberOf_42 : decode cX10_numberOf 42 = .ok (.i2l, 1) := by decide +kernel
theorem dX10_numberOf_43 : decode cX10_numberOf 43 = .ok (.aload_n 0, 1) := by decide +kernel
theorem dX10_numberOf_44 : decode cX10_numberOf 44 = .ok (.getfield 22, 3) := by decide +kernel
theorem dX10_numberOf_47 : decode cX10_numberOf 47 = .ok (.bipush 67, 2) := by decide +kernel
theorem dX10_numberOf_49 : decode cX10_numberOf 49 = .ok (.iload_n 1, 1) := by decide +kernel
theorem dX10_numberOf_50 : decode cX10_numberOf 50 = .ok (.imul, 1) := by decide +kernel
theorem dX10_numberOf_51 : decode cX10_numberOf 51 = .ok (.iload 7, 2) := by decide +kernel
theorem dX10_numberOf_53 : decode cX10_numberOf 53 = .ok (.iadd, 1) := by decide +kernel
theorem dX10_numberOf_54 : decode cX10_numberOf 54 = .ok (.iaload, 1) := by decide +kernel
theorem dX10_numberOf_55 : decode cX10_numberOf 55 = .ok (.i2l, 1) := by decide +kernel
theorem dX10_numberOf_56 : decode cX10_numberOf 56 = .ok (.lmul, 1) := by decide +kernel
theorem dX10_numberOf_57 : decode cX10_numberOf 57 = .ok (.aload_n 0, 1) := by decide +kernel
theorem dX10_numberOf_58 : decode cX10_numberOf 58 = .ok (.getfield 22, 3) := by decide +kernel
theorem dX10_numberOf_61 : decode cX10_numberOf 61 = .ok (.bipush 67, 2) := by decide +kernel
theorem dX10_numberOf_63 : decode cX10_numberOf 63 = .ok (.iload_n 2, 1) := by decide +kernel
theorem dX10_numberOf_64 : decode cX10_numberOf 64 = .ok (.imul, 1) := by decide +kernel
theorem dX10_numberOf_65 : decode cX10_numberOf 65 = .ok (.iload 7, 2) := by decide +kernel
theorem dX10_numberOf_67 : decode cX10_numberOf 67 = .ok (.iadd, 1) := by decide +kernel
theorem dX10_numberOf_68 : decode cX10_numberOf 68 = .ok (.iaload, 1) := by decide +kernel
theorem dX10_numberOf_69 : decode cX10_numberOf 69 = .ok (.i2l, 1) := by decide +kernel
theorem dX10_numberOf_70 : decode cX10_numberOf 70 = .ok (.lmul, 1) := by decide +kernel
theorem dX10_numberOf_71 : decode cX10_numberOf 71 = .ok (.aload_n 0, 1) := by decide +kernel
theorem dX10_numberOf_72 : decode cX10_numberOf 72 = .ok (.getfield 22, 3) := by decide +kernel
theorem dX10_numberOf_75 : decode cX10_numberOf 75 = .ok (.bipush 67, 2) := by decide +kernel
theorem dX10_numberOf_77 : decode cX10_numberOf 77 = .ok (.iload_n 3, 1) := by decide +kernel
theorem dX10_numberOf_78 : decode cX10_numberOf 78 = .ok (.imul, 1) := by decide +kernel
theorem dX10_numberOf_79 : decode cX10_numberOf 79 = .ok (.iload 7, 2) := by decide +kernel
theorem dX10_numberOf_81 : decode cX10_numberOf 81 = .ok (.iadd, 1) := by decide +kernel
theorem dX10_numberOf_82 : decode cX10_numberOf 82 = .ok (.iaload, 1) := by decide +kernel
theorem dX10_numberOf_83 : decode cX10_numberOf 83 = .ok (.i2l, 1) := by decide +kernel
theorem dX10_numberOf_84 : decode cX10_numberOf 84 = .ok (.lmul, 1) := by decide +kernel
theorem dX10_numberOf_85 : decode cX10_numberOf 85 = .ok (.ladd, 1) := by decide +kernel
theorem dX10_numberOf_86 : decode cX10_numberOf 86 = .ok (.lstore 5, 2) := by decide +kernel
theorem dX10_numberOf_88 : decode cX10_numberOf 88 = .ok (.iinc 7 1, 3) := by decide +kernel
theorem dX10_numberOf_91 : decode cX10_numberOf 91 = .ok (.goto (-71), 3) := by decide +kernel
theorem dX10_numberOf_94 : decode cX10_numberOf 94 = .ok (.lload 5, 2) := by decide +kernel
theorem dX10_numberOf_96 : decode cX10_numberOf 96 = .ok (.iload 4, 2) := by decide +kernel
theorem dX10_numberOf_98 : decode cX10_numberOf 98 = .ok (.invokestatic 93, 3) := by decide +kernel
theorem dX10_numberOf_101 : decode cX10_numberOf 101 = .ok (.i2l, 1) := by decide +kernel
theorem dX10_numberOf_102 : decode cX10_numberOf 102 = .ok (.ldiv, 1) := by decide +kernel
theorem dX10_numberOf_103 : decode cX10_numberOf 103 = .ok (.l2i, 1) := by decide +kernel
theorem dX10_numberOf_104 : decode cX10_numberOf 104 = .ok (.ireturn, 1) := by decide +kernel
theorem dX10_hinders_0 : decode cX10_hinders 0 = .ok (.iload_n 1, 1) := by decide +kernel
theorem dX10_hinders_1 : decode cX10_hinders 1 = .ok (.invokestatic 117, 3) := by decide +kernel
theorem dX10_hinders_4 : decode cX10_hinders 4 = .ok (.ifCond .eq 10, 3) := by decide +kernel
theorem dX10_hinders_7 : decode cX10_hinders 7 = .ok (.iload_n 2, 1) := by decide +kernel
theorem dX10_hinders_8 : decode cX10_hinders 8 = .ok (.invokestatic 117, 3) := by decide +kernel
theorem dX10_hinders_11 : decode cX10_hinders 11 = .ok (.ifCond .ne 7, 3) := by decide +kernel
theorem dX10_hinders_14 : decode cX10_hinders 14 = .ok (.iconst (-1), 1) := by decide +kernel
theorem dX10_hinders_15 : decode cX10_hinders 15 = .ok (.goto 24, 3) := by decide +kernel
theorem dX10_hinders_18 : decode cX10_hinders 18 = .ok (.aload_n 0, 1) := by decide +kernel
theorem dX10_hinders_19 : decode cX10_hinders 19 = .ok (.getfield 13, 3) := by decide +kernel
theorem dX10_hinders_22 : decode cX10_hinders 22 = .ok (.iload_n 1, 1) := by decide +kernel
theorem dX10_hinders_23 : decode cX10_hinders 23 = .ok (.iaload, 1) := by decide +kernel
theorem dX10_hinders_24 : decode cX10_hinders 24 = .ok (.aload_n 0, 1) := by decide +kernel
theorem dX10_hinders_25 : decode cX10_hinders 25 = .ok (.getfield 13, 3) := by decide +kernel
theorem dX10_hinders_28 : decode cX10_hinders 28 = .ok (.iload_n 2, 1) := by decide +kernel
theorem dX10_hinders_29 : decode cX10_hinders 29 = .ok (.iaload, 1) := by decide +kernel
theorem dX10_hinders_30 : decode cX10_hinders 30 = .ok (.if_icmp .eq 8, 3) := by decide +kernel
theorem dX10_hinders_33 : decode cX10_hinders 33 = .ok (.bipush (-3), 2) := by decide +kernel
theorem dX10_hinders_35 : decode cX10_hinders 35 = .ok (.goto 4, 3) := by decide +kernel
theorem dX10_hinders_38 : decode cX10_hinders 38 = .ok (.iconst 0, 1) := by decide +kernel
theorem dX10_hinders_39 : decode cX10_hinders 39 = .ok (.ireturn, 1) := by decide +kernel
theorem dX10_number_0 : decode cX10_number 0 = .ok (.iload_n 1, 1) := by decide +kernel
theorem dX10_number_1 : decode cX10_number 1 = .ok (.invokestatic 117, 3) := by decide +kernel
theorem dX10_number_4 : decode cX10_number 4 = .ok (.ifCond .eq 17, 3) := by decide +kernel
theorem dX10_number_7 : decode cX10_number 7 = .ok (.iload_n 2, 1) := by decide +kernel
theorem dX10_number_8 : decode cX10_number 8 = .ok (.invokestatic 117, 3) := by decide +kernel
theorem dX10_number_11 : decode cX10_number 11 = .ok (.ifCond .eq 10, 3) := by decide +kernel
theorem dX10_number_14 : decode cX10_number 14 = .ok (.iload_n 3, 1) := by decide +kernel
theorem dX10_number_15 : decode cX10_number 15 = .ok (.invokestatic 117, 3) := by decide +kernel
theorem dX10_number_18 : decode cX10_number 18 = .ok (.ifCond .ne 9, 3) := by decide +kernel
theorem dX10_number_21 : decode cX10_number 21 = .ok (.aload_n 0, 1) := by decide +kernel
theorem dX10_number_22 : decode cX10_number 22 = .ok (.iconst (-1), 1) := by decide +kernel
theorem dX10_number_23 : decode cX10_number 23 = .ok (.invokevirtual 77, 3) := by decide +kernel
theorem dX10_number_26 : decode cX10_number 26 = .ok (.ireturn, 1) := by decide +kernel
theorem dX10_number_27 : decode cX10_number 27 = .ok (.aload_n 0, 1) := by decide +kernel
theorem dX10_number_28 : decode cX10_number 28 = .ok (.iload_n 1, 1) := by decide +kernel
theorem dX10_number_29 : decode cX10_number 29 = .ok (.iload_n 2, 1) := by decide +kernel
theorem dX10_number_30 : decode cX10_number 30 = .ok (.invokevirtual 151, 3) := by decide +kernel
theorem dX10_number_33 : decode cX10_number 33 = .ok (.ifCond .lt 12, 3) := by decide +kernel
theorem dX10_number_36 : decode cX10_number 36 = .ok (.aload_n 0, 1) := by decide +kernel
theorem dX10_number_37 : decode cX10_number 37 = .ok (.iload_n 1, 1) := by decide +kernel
theorem dX10_number_38 : decode cX10_number 38 = .ok (.iload_n 3, 1) := by decide +kernel
theorem dX10_number_39 : decode cX10_number 39 = .ok (.invokevirtual 151, 3) := by decide +kernel
theorem dX10_number_42 : decode cX10_number 42 = .ok (.ifCond .ge 12, 3) := by decide +kernel
theorem dX10_number_45 : decode cX10_number 45 = .ok (.aload_n 0, 1) := by decide +kernel
theorem dX10_number_46 : decode cX10_number 46 = .ok (.bipush (-3), 2) := by decide +kernel
theorem dX10_number_48 : decode cX10_number 48 = .ok (.invokevirtual 77, 3) := by decide +kernel
theorem dX10_number_51 : decode cX10_number 51 = .ok (.goto 10, 3) := by decide +kernel
theorem dX10_number_54 : decode cX10_number 54 = .ok (.aload_n 0, 1) := by decide +kernel
theorem dX10_number_55 : decode cX10_number 55 = .ok (.iload_n 1, 1) := by decide +kernel
theorem dX10_number_56 : decode cX10_number 56 = .ok (.iload_n 2, 1) := by decide +kernel
theorem dX10_number_57 : decode cX10_number 57 = .ok (.iload_n 3, 1) := by decide +kernel
theorem dX10_number_58 : decode cX10_number 58 = .ok (.invokevirtual 154, 3) := by decide +kernel
theorem dX10_number_61 : decode cX10_number 61 = .ok (.ireturn, 1) := by decide +kernel
theorem dX10_product_0 : decode cX10_product 0 = .ok (.aload_n 0, 1) := by decide +kernel
theorem dX10_product_1 : decode cX10_product 1 = .ok (.iload_n 1, 1) := by decide +kernel
theorem dX10_product_2 : decode cX10_product 2 = .ok (.iload_n 2, 1) := by decide +kernel
theorem dX10_product_3 : decode cX10_product 3 = .ok (.invokevirtual 151, 3) := by decide +kernel
theorem dX10_product_6 : decode cX10_product 6 = .ok (.ifCond .ge 14, 3) := by decide +kernel
theorem dX10_product_9 : decode cX10_product 9 = .ok (.aload_n 0, 1) := by decide +kernel
theorem dX10_product_10 : decode cX10_product 10 = .ok (.aload_n 0, 1) := by decide +kernel
theorem dX10_product_11 : decode cX10_product 11 = .ok (.iload_n 1, 1) := by decide +kernel
theorem dX10_product_12 : decode cX10_product 12 = .ok (.iload_n 2, 1) := by decide +kernel
theorem dX10_product_13 : decode cX10_product 13 = .ok (.invokevirtual 151, 3) := by decide +kernel
theorem dX10_product_16 : decode cX10_product 16 = .ok (.invokevirtual 77, 3) := by decide +kernel
theorem dX10_product_19 : decode cX10_product 19 = .ok (.ireturn, 1) := by decide +kernel
theorem dX10_product_20 : decode cX10_product 20 = .ok (.iload_n 3, 1) := by decide +kernel
theorem dX10_product_21 : decode cX10_product 21 = .ok (.iconst (-1), 1) := by decide +kernel
theorem dX10_product_22 : decode cX10_product 22 = .ok (.if_icmp .ge 10, 3) := by decide +kernel
theorem dX10_product_25 : decode cX10_product 25 = .ok (.aload_n 0, 1) := by decide +kernel
theorem dX10_product_26 : decode cX10_product 26 = .ok (.bipush (-4), 2) := by decide +kernel
theorem dX10_product_28 : decode cX10_product 28 = .ok (.invokevirtual 77, 3) := by decide +kernel
theorem dX10_product_31 : decode cX10_product 31 = .ok (.ireturn, 1) := by decide +kernel
theorem dX10_product_32 : decode cX10_product 32 = .ok (.iconst 0, 1) := by decide +kernel
theorem dX10_product_33 : decode cX10_product 33 = .ok (.istore 4, 2) := by decide +kernel
theorem dX10_product_35 : decode cX10_product 35 = .ok (.aload_n 0, 1) := by decide +kernel
theorem dX10_product_36 : decode cX10_product 36 = .ok (.getfield 7, 3) := by decide +kernel
theorem dX10_product_39 : decode cX10_product 39 = .ok (.aload_n 0, 1) := by decide +kernel
theorem dX10_product_40 : decode cX10_product 40 = .ok (.getfield 13, 3) := by decide +kernel
theorem dX10_product_43 : decode cX10_product 43 = .ok (.iload_n 1, 1) := by decide +kernel
theorem dX10_product_44 : decode cX10_product 44 = .ok (.iaload, 1) := by decide +kernel
theorem dX10_product_45 : decode cX10_product 45 = .ok (.iaload, 1) := by decide +kernel
theorem dX10_product_46 : decode cX10_product 46 = .ok (.istore 5, 2) := by decide +kernel
theorem dX10_product_48 : decode cX10_product 48 = .ok (.iload 5, 2) := by decide +kernel
theorem dX10_product_50 : decode cX10_product 50 = .ok (.aload_n 0, 1) := by decide +kernel
theorem dX10_product_51 : decode cX10_product 51 = .ok (.getfield 7, 3) := by decide +kernel
theorem dX10_product_54 : decode cX10_product 54 = .ok (.aload_n 0, 1) := by decide +kernel
theorem dX10_product_55 : decode cX10_product 55 = .ok (.getfield 13, 3) := by decide +kernel
theorem dX10_product_58 : decode cX10_product 58 = .ok (.iload_n 1, 1) := by decide +kernel
theorem dX10_product_59 : decode cX10_product 59 = .ok (.iaload, 1) := by decide +kernel
theorem dX10_product_60 : decode cX10_product 60 = .ok (.iconst 1, 1) := by decide +kernel
theorem dX10_product_61 : decode cX10_product 61 = .ok (.iadd, 1) := by decide +kernel
theorem dX10_product_62 : decode cX10_product 62 = .ok (.iaload, 1) := by decide +kernel
theorem dX10_product_63 : decode cX10_product 63 = .ok (.if_icmp .ge 56, 3) := by decide +kernel
theorem dX10_product_66 : decode cX10_product 66 = .ok (.aload_n 0, 1) := by decide +kernel
theorem dX10_product_67 : decode cX10_product 67 = .ok (.iload_n 1, 1) := by decide +kernel
theorem dX10_product_68 : decode cX10_product 68 = .ok (.iload_n 2, 1) := by decide +kernel
theorem dX10_product_69 : decode cX10_product 69 = .ok (.iload 5, 2) := by decide +kernel
theorem dX10_product_71 : decode cX10_product 71 = .ok (.invokevirtual 154, 3) := by decide +kernel
theorem dX10_product_74 : decode cX10_product 74 = .ok (.ifCond .le 7, 3) := by decide +kernel
theorem dX10_product_77 : decode cX10_product 77 = .ok (.iconst 1, 1) := by decide +kernel
theorem dX10_product_78 : decode cX10_product 78 = .ok (.goto 4, 3) := by decide +kernel
theorem dX10_product_81 : decode cX10_product 81 = .ok (.iconst 0, 1) := by decide +kernel
theorem dX10_product_82 : decode cX10_product 82 = .ok (.istore 6, 2) := by decide +kernel
theorem dX10_product_84 : decode cX10_product 84 = .ok (.iload 6, 2) := by decide +kernel
theorem dX10_product_86 : decode cX10_product 86 = .ok (.ifCond .eq 12, 3) := by decide +kernel
theorem dX10_product_89 : decode cX10_product 89 = .ok (.iload 4, 2) := by decide +kernel
theorem dX10_product_91 : decode cX10_product 91 = .ok (.iload_n 3, 1) := by decide +kernel
theorem dX10_product_92 : decode cX10_product 92 = .ok (.if_icmp .ne 6, 3) := by decide +kernel
theorem dX10_product_95 : decode cX10_product 95 = .ok (.iload 5, 2) := by decide +kernel
theorem dX10_product_97 : decode cX10_product 97 = .ok (.ireturn, 1) := by decide +kernel
theorem dX10_product_98 : decode cX10_product 98 = .ok (.iload 4, 2) := by decide +kernel
theorem dX10_product_100 : decode cX10_product 100 = .ok (.iload 6, 2) := by decide +kernel
theorem dX10_product_102 : decode cX10_product 102 = .ok (.ifCond .eq 7, 3) := by decide +kernel
theorem dX10_product_105 : decode cX10_product 105 = .ok (.iconst 1, 1) := by decide +kernel
theorem dX10_product_106 : decode cX10_product 106 = .ok (.goto 4, 3) := by decide +kernel
theorem dX10_product_109 : decode cX10_product 109 = .ok (.iconst 0, 1) := by decide +kernel
theorem dX10_product_110 : decode cX10_product 110 = .ok (.iadd, 1) := by decide +kernel
theorem dX10_product_111 : decode cX10_product 111 = .ok (.istore 4, 2) := by decide +kernel
theorem dX10_product_113 : decode cX10_product 113 = .ok (.iinc 5 1, 3) := by decide +kernel
theorem dX10_product_116 : decode cX10_product 116 = .ok (.goto (-68), 3) := by decide +kernel
theorem dX10_product_119 : decode cX10_product 119 = .ok (.iload_n 3, 1) := by decide +kernel
theorem dX10_product_120 : decode cX10_product 120 = .ok (.iconst (-1), 1) := by decide +kernel
theorem dX10_product_121 : decode cX10_product 121 = .ok (.if_icmp .ne 8, 3) := by decide +kernel
theorem dX10_product_124 : decode cX10_product 124 = .ok (.iload 4, 2) := by decide +kernel
theorem dX10_product_126 : decode cX10_product 126 = .ok (.goto 5, 3) := by decide +kernel
theorem dX10_product_129 : decode cX10_product 129 = .ok (.bipush (-9), 2) := by decide +kernel
theorem dX10_product_131 : decode cX10_product 131 = .ok (.ireturn, 1) := by decide +kernel
theorem dX10_greatest_0 : decode cX10_greatest 0 = .ok (.aload_n 0, 1) := by decide +kernel
theorem dX10_greatest_1 : decode cX10_greatest 1 = .ok (.iload_n 1, 1) := by decide +kernel
theorem dX10_greatest_2 : decode cX10_greatest 2 = .ok (.iload_n 2, 1) := by decide +kernel
theorem dX10_greatest_3 : decode cX10_greatest 3 = .ok (.invokevirtual 151, 3) := by decide +kernel
theorem dX10_greatest_6 : decode cX10_greatest 6 = .ok (.ifCond .ge 14, 3) := by decide +kernel
theorem dX10_greatest_9 : decode cX10_greatest 9 = .ok (.aload_n 0, 1) := by decide +kernel
theorem dX10_greatest_10 : decode cX10_greatest 10 = .ok (.aload_n 0, 1) := by decide +kernel
theorem dX10_greatest_11 : decode cX10_greatest 11 = .ok (.iload_n 1, 1) := by decide +kernel
theorem dX10_greatest_12 : decode cX10_greatest 12 = .ok (.iload_n 2, 1) := by decide +kernel
theorem dX10_greatest_13 : decode cX10_greatest 13 = .ok (.invokevirtual 151, 3) := by decide +kernel
theorem dX10_greatest_16 : decode cX10_greatest 16 = .ok (.invokevirtual 77, 3) := by decide +kernel
theorem dX10_greatest_19 : decode cX10_greatest 19 = .ok (.ireturn, 1) := by decide +kernel
theorem dX10_greatest_20 : decode cX10_greatest 20 = .ok (.iconst 0, 1) := by decide +kernel
theorem dX10_greatest_21 : decode cX10_greatest 21 = .ok (.istore_n 3, 1) := by decide +kernel
theorem dX10_greatest_22 : decode cX10_greatest 22 = .ok (.aload_n 0, 1) := by decide +kernel
theorem dX10_greatest_23 : decode cX10_greatest 23 = .ok (.getfield 7, 3) := by decide +kernel
theorem dX10_greatest_26 : decode cX10_greatest 26 = .ok (.aload_n 0, 1) := by decide +kernel
theorem dX10_greatest_27 : decode cX10_greatest 27 = .ok (.getfield 13, 3) := by decide +kernel
theorem dX10_greatest_30 : decode cX10_greatest 30 = .ok (.iload_n 1, 1) := by decide +kernel
theorem dX10_greatest_31 : decode cX10_greatest 31 = .ok (.iaload, 1) := by decide +kernel
theorem dX10_greatest_32 : decode cX10_greatest 32 = .ok (.iaload, 1) := by decide +kernel
theorem dX10_greatest_33 : decode cX10_greatest 33 = .ok (.istore 4, 2) := by decide +kernel
theorem dX10_greatest_35 : decode cX10_greatest 35 = .ok (.iload 4, 2) := by decide +kernel
theorem dX10_greatest_37 : decode cX10_greatest 37 = .ok (.aload_n 0, 1) := by decide +kernel
theorem dX10_greatest_38 : decode cX10_greatest 38 = .ok (.getfield 7, 3) := by decide +kernel
theorem dX10_greatest_41 : decode cX10_greatest 41 = .ok (.aload_n 0, 1) := by decide +kernel
theorem dX10_greatest_42 : decode cX10_greatest 42 = .ok (.getfield 13, 3) := by decide +kernel
theorem dX10_greatest_45 : decode cX10_greatest 45 = .ok (.iload_n 1, 1) := by decide +kernel
theorem dX10_greatest_46 : decode cX10_greatest 46 = .ok (.iaload, 1) := by decide +kernel
theorem dX10_greatest_47 : decode cX10_greatest 47 = .ok (.iconst 1, 1) := by decide +kernel
theorem dX10_greatest_48 : decode cX10_greatest 48 = .ok (.iadd, 1) := by decide +kernel
theorem dX10_greatest_49 : decode cX10_greatest 49 = .ok (.iaload, 1) := by decide +kernel
theorem dX10_greatest_50 : decode cX10_greatest 50 = .ok (.if_icmp .ge 22, 3) := by decide +kernel
theorem dX10_greatest_53 : decode cX10_greatest 53 = .ok (.iload_n 3, 1) := by decide +kernel
theorem dX10_greatest_54 : decode cX10_greatest 54 = .ok (.aload_n 0, 1) := by decide +kernel
theorem dX10_greatest_55 : decode cX10_greatest 55 = .ok (.iload_n 1, 1) := by decide +kernel
theorem dX10_greatest_56 : decode cX10_greatest 56 = .ok (.iload_n 2, 1) := by decide +kernel
theorem dX10_greatest_57 : decode cX10_greatest 57 = .ok (.iload 4, 2) := by decide +kernel
theorem dX10_greatest_59 : decode cX10_greatest 59 = .ok (.invokevirtual 154, 3) := by decide +kernel
theorem dX10_greatest_62 : decode cX10_greatest 62 = .ok (.invokestatic 157, 3) := by decide +kernel
theorem dX10_greatest_65 : decode cX10_greatest 65 = .ok (.istore_n 3, 1) := by decide +kernel
theorem dX10_greatest_66 : decode cX10_greatest 66 = .ok (.iinc 4 1, 3) := by decide +kernel
theorem dX10_greatest_69 : decode cX10_greatest 69 = .ok (.goto (-34), 3) := by decide +kernel
theorem dX10_greatest_72 : decode cX10_greatest 72 = .ok (.iload_n 3, 1) := by decide +kernel
theorem dX10_greatest_73 : decode cX10_greatest 73 = .ok (.ireturn, 1) := by decide +kernel
theorem dX10_grownTo_0 : decode cX10_grownTo 0 = .ok (.iload_n 2, 1) := by decide +kernel
theorem dX10_grownTo_1 : decode cX10_grownTo 1 = .ok (.aload_n 0, 1) := by decide +kernel
theorem dX10_grownTo_2 : decode cX10_grownTo 2 = .ok (.getfield 13, 3) := by decide +kernel
theorem dX10_grownTo_5 : decode cX10_grownTo 5 = .ok (.iload_n 1, 1) := by decide +kernel
theorem dX10_grownTo_6 : decode cX10_grownTo 6 = .ok (.iaload, 1) := by decide +kernel
theorem dX10_grownTo_7 : decode cX10_grownTo 7 = .ok (.isub, 1) := by decide +kernel
theorem dX10_grownTo_8 : decode cX10_grownTo 8 = .ok (.istore_n 3, 1) := by decide +kernel
theorem dX10_grownTo_9 : decode cX10_grownTo 9 = .ok (.iload_n 3, 1) := by decide +kernel
theorem dX10_grownTo_10 : decode cX10_grownTo 10 = .ok (.aload_n 0, 1) := by decide +kernel
theorem dX10_grownTo_11 : decode cX10_grownTo 11 = .ok (.iload_n 1, 1) := by decide +kernel
theorem dX10_grownTo_12 : decode cX10_grownTo 12 = .ok (.iconst 0, 1) := by decide +kernel
theorem dX10_grownTo_13 : decode cX10_grownTo 13 = .ok (.invokevirtual 64, 3) := by decide +kernel
theorem dX10_grownTo_16 : decode cX10_grownTo 16 = .ok (.if_icmp .ge 6, 3) := by decide +kernel
theorem dX10_grownTo_19 : decode cX10_grownTo 19 = .ok (.bipush (-9), 2) := by decide +kernel
theorem dX10_grownTo_21 : decode cX10_grownTo 21 = .ok (.ireturn, 1) := by decide +kernel
theorem dX10_grownTo_22 : decode cX10_grownTo 22 = .ok (.aload_n 0, 1) := by decide +kernel
theorem dX10_grownTo_23 : decode cX10_grownTo 23 = .ok (.invokevirtual 83, 3) := by decide +kernel
theorem dX10_grownTo_26 : decode cX10_grownTo 26 = .ok (.aload_n 0, 1) := by decide +kernel
theorem dX10_grownTo_27 : decode cX10_grownTo 27 = .ok (.getfield 49, 3) := by decide +kernel
theorem dX10_grownTo_30 : decode cX10_grownTo 30 = .ok (.iconst 0, 1) := by decide +kernel
theorem dX10_grownTo_31 : decode cX10_grownTo 31 = .ok (.iload_n 3, 1) := by decide +kernel
theorem dX10_grownTo_32 : decode cX10_grownTo 32 = .ok (.iastore, 1) := by decide +kernel
theorem dX10_grownTo_33 : decode cX10_grownTo 33 = .ok (.iconst 0, 1) := by decide +kernel
theorem dX10_grownTo_34 : decode cX10_grownTo 34 = .ok (.istore 4, 2) := by decide +kernel
theorem dX10_grownTo_36 : decode cX10_grownTo 36 = .ok (.iload 4, 2) := by decide +kernel
theorem dX10_grownTo_38 : decode cX10_grownTo 38 = .ok (.aload_n 0, 1) := by decide +kernel
theorem dX10_grownTo_39 : decode cX10_grownTo 39 = .ok (.getfield 16, 3) := by decide +kernel
theorem dX10_grownTo_42 : decode cX10_grownTo 42 = .ok (.iload_n 1, 1) := by decide +kernel
theorem dX10_grownTo_43 : decode cX10_grownTo 43 = .ok (.iaload, 1) := by decide +kernel
theorem dX10_grownTo_44 : decode cX10_grownTo 44 = .ok (.if_icmp .ge 25, 3) := by decide +kernel
theorem dX10_grownTo_47 : decode cX10_grownTo 47 = .ok (.aload_n 0, 1) := by decide +kernel
theorem dX10_grownTo_48 : decode cX10_grownTo 48 = .ok (.getfield 49, 3) := by decide +kernel
theorem dX10_grownTo_51 : decode cX10_grownTo 51 = .ok (.iload 4, 2) := by decide +kernel
theorem dX10_grownTo_53 : decode cX10_grownTo 53 = .ok (.iconst 1, 1) := by decide +kernel
theorem dX10_grownTo_54 : decode cX10_grownTo 54 = .ok (.iadd, 1) := by decide +kernel
theorem dX10_grownTo_55 : decode cX10_grownTo 55 = .ok (.aload_n 0, 1) := by decide +kernel
theorem dX10_grownTo_56 : decode cX10_grownTo 56 = .ok (.iload_n 1, 1) := by decide +kernel
theorem dX10_grownTo_57 : decode cX10_grownTo 57 = .ok (.iload 4, 2) := by decide +kernel
theorem dX10_grownTo_59 : decode cX10_grownTo 59 = .ok (.invokevirtual 64, 3) := by decide +kernel
theorem dX10_grownTo_62 : decode cX10_grownTo 62 = .ok (.iastore, 1) := by decide +kernel
theorem dX10_grownTo_63 : decode cX10_grownTo 63 = .ok (.iinc 4 1, 3) := by decide +kernel
theorem dX10_grownTo_66 : decode cX10_grownTo 66 = .ok (.goto (-30), 3) := by decide +kernel
theorem dX10_grownTo_69 : decode cX10_grownTo 69 = .ok (.aload_n 0, 1) := by decide +kernel
theorem dX10_grownTo_70 : decode cX10_grownTo 70 = .ok (.invokevirtual 89, 3) := by decide +kernel
theorem dX10_grownTo_73 : decode cX10_grownTo 73 = .ok (.ireturn, 1) := by decide +kernel
theorem dX10_grown_0 : decode cX10_grown 0 = .ok (.iload_n 1, 1) := by decide +kernel
theorem dX10_grown_1 : decode cX10_grown 1 = .ok (.invokestatic 117, 3) := by decide +kernel
theorem dX10_grown_4 : decode cX10_grown 4 = .ok (.ifCond .ne 9, 3) := by decide +kernel
theorem dX10_grown_7 : decode cX10_grown 7 = .ok (.aload_n 0, 1) := by decide +kernel
theorem dX10_grown_8 : decode cX10_grown 8 = .ok (.iconst (-1), 1) := by decide +kernel
theorem dX10_grown_9 : decode cX10_grown 9 = .ok (.invokevirtual 77, 3) := by decide +kernel
theorem dX10_grown_12 : decode cX10_grown 12 = .ok (.ireturn, 1) := by decide +kernel
theorem dX10_grown_13 : decode cX10_grown 13 = .ok (.iload_n 2, 1) := by decide +kernel
theorem dX10_grown_14 : decode cX10_grown 14 = .ok (.ifCond .ge 10, 3) := by decide +kernel
theorem dX10_grown_17 : decode cX10_grown 17 = .ok (.aload_n 0, 1) := by decide +kernel
theorem dX10_grown_18 : decode cX10_grown 18 = .ok (.bipush (-4), 2) := by decide +kernel
theorem dX10_grown_20 : decode cX10_grown 20 = .ok (.invokevirtual 77, 3) := by decide +kernel
theorem dX10_grown_23 : decode cX10_grown 23 = .ok (.ireturn, 1) := by decide +kernel
theorem dX10_grown_24 : decode cX10_grown 24 = .ok (.iload_n 2, 1) := by decide +kernel
theorem dX10_grown_25 : decode cX10_grown 25 = .ok (.bipush 8, 2) := by decide +kernel
theorem dX10_grown_27 : decode cX10_grown 27 = .ok (.if_icmp .le 10, 3) := by decide +kernel
theorem dX10_grown_30 : decode cX10_grown 30 = .ok (.aload_n 0, 1) := by decide +kernel
theorem dX10_grown_31 : decode cX10_grown 31 = .ok (.bipush (-6), 2) := by decide +kernel
theorem dX10_grown_33 : decode cX10_grown 33 = .ok (.invokevirtual 77, 3) := by decide +kernel
theorem dX10_grown_36 : decode cX10_grown 36 = .ok (.ireturn, 1) := by decide +kernel
theorem dX10_grown_37 : decode cX10_grown 37 = .ok (.aload_n 0, 1) := by decide +kernel
theorem dX10_grown_38 : decode cX10_grown 38 = .ok (.getfield 13, 3) := by decide +kernel
theorem dX10_grown_41 : decode cX10_grown 41 = .ok (.iload_n 1, 1) := by decide +kernel
theorem dX10_grown_42 : decode cX10_grown 42 = .ok (.iaload, 1) := by decide +kernel
theorem dX10_grown_43 : decode cX10_grown 43 = .ok (.iconst 4, 1) := by decide +kernel
theorem dX10_grown_44 : decode cX10_grown 44 = .ok (.if_icmp .le 12, 3) := by decide +kernel
theorem dX10_grown_47 : decode cX10_grown 47 = .ok (.aload_n 0, 1) := by decide +kernel
theorem dX10_grown_48 : decode cX10_grown 48 = .ok (.bipush (-3), 2) := by decide +kernel
theorem dX10_grown_50 : decode cX10_grown 50 = .ok (.invokevirtual 77, 3) := by decide +kernel
theorem dX10_grown_53 : decode cX10_grown 53 = .ok (.goto 9, 3) := by decide +kernel
theorem dX10_grown_56 : decode cX10_grown 56 = .ok (.aload_n 0, 1) := by decide +kernel
theorem dX10_grown_57 : decode cX10_grown 57 = .ok (.iload_n 1, 1) := by decide +kernel
theorem dX10_grown_58 : decode cX10_grown 58 = .ok (.iload_n 2, 1) := by decide +kernel
theorem dX10_grown_59 : decode cX10_grown 59 = .ok (.invokevirtual 160, 3) := by decide +kernel
theorem dX10_grown_62 : decode cX10_grown 62 = .ok (.ireturn, 1) := by decide +kernel
theorem dX10_settled_0 : decode cX10_settled 0 = .ok (.iload_n 1, 1) := by decide +kernel
theorem dX10_settled_1 : decode cX10_settled 1 = .ok (.invokestatic 117, 3) := by decide +kernel
theorem dX10_settled_4 : decode cX10_settled 4 = .ok (.ifCond .eq 17, 3) := by decide +kernel
theorem dX10_settled_7 : decode cX10_settled 7 = .ok (.iload_n 2, 1) := by decide +kernel
theorem dX10_settled_8 : decode cX10_settled 8 = .ok (.invokestatic 117, 3) := by decide +kernel
theorem dX10_settled_11 : decode cX10_settled 11 = .ok (.ifCond .eq 10, 3) := by decide +kernel
theorem dX10_settled_14 : decode cX10_settled 14 = .ok (.iload_n 3, 1) := by decide +kernel
theorem dX10_settled_15 : decode cX10_settled 15 = .ok (.invokestatic 117, 3) := by decide +kernel
theorem dX10_settled_18 : decode cX10_settled 18 = .ok (.ifCond .ne 9, 3) := by decide +kernel
theorem dX10_settled_21 : decode cX10_settled 21 = .ok (.aload_n 0, 1) := by decide +kernel
theorem dX10_settled_22 : decode cX10_settled 22 = .ok (.iconst (-1), 1) := by decide +kernel
theorem dX10_settled_23 : decode cX10_settled 23 = .ok (.invokevirtual 77, 3) := by decide +kernel
theorem dX10_settled_26 : decode cX10_settled 26 = .ok (.ireturn, 1) := by decide +kernel
theorem dX10_settled_27 : decode cX10_settled 27 = .ok (.iload 4, 2) := by decide +kernel
theorem dX10_settled_29 : decode cX10_settled 29 = .ok (.iconst 0, 1) := by decide +kernel
theorem dX10_settled_30 : decode cX10_settled 30 = .ok (.iconst 1, 1) := by decide +kernel
theorem dX10_settled_31 : decode cX10_settled 31 = .ok (.invokestatic 72, 3) := by decide +kernel
theorem dX10_settled_34 : decode cX10_settled 34 = .ok (.ifCond .ne 10, 3) := by decide +kernel
theorem dX10_settled_37 : decode cX10_settled 37 = .ok (.aload_n 0, 1) := by decide +kernel
theorem dX10_settled_38 : decode cX10_settled 38 = .ok (.bipush (-2), 2) := by decide +kernel
theorem dX10_settled_40 : decode cX10_settled 40 = .ok (.invokevirtual 77, 3) := by decide +kernel
theorem dX10_settled_43 : decode cX10_settled 43 = .ok (.ireturn, 1) := by decide +kernel
theorem dX10_settled_44 : decode cX10_settled 44 = .ok (.aload_n 0, 1) := by decide +kernel
theorem dX10_settled_45 : decode cX10_settled 45 = .ok (.getfield 13, 3) := by decide +kernel
theorem dX10_settled_48 : decode cX10_settled 48 = .ok (.iload_n 1, 1) := by decide +kernel
theorem dX10_settled_49 : decode cX10_settled 49 = .ok (.iaload, 1) := by decide +kernel
theorem dX10_settled_50 : decode cX10_settled 50 = .ok (.iconst 4, 1) := by decide +kernel
theorem dX10_settled_51 : decode cX10_settled 51 = .ok (.if_icmp .gt 23, 3) := by decide +kernel
theorem dX10_settled_54 : decode cX10_settled 54 = .ok (.aload_n 0, 1) := by decide +kernel
theorem dX10_settled_55 : decode cX10_settled 55 = .ok (.getfield 13, 3) := by decide +kernel
theorem dX10_settled_58 : decode cX10_settled 58 = .ok (.iload_n 2, 1) := by decide +kernel
theorem dX10_settled_59 : decode cX10_settled 59 = .ok (.iaload, 1) := by decide +kernel
theorem dX10_settled_60 : decode cX10_settled 60 = .ok (.iconst 4, 1) := by decide +kernel
theorem dX10_settled_61 : decode cX10_settled 61 = .ok (.if_icmp .gt 13, 3) := by decide +kernel
theorem dX10_settled_64 : decode cX10_settled 64 = .ok (.aload_n 0, 1) := by decide +kernel
theorem dX10_settled_65 : decode cX10_settled 65 = .ok (.getfield 13, 3) := by decide +kernel
theorem dX10_settled_68 : decode cX10_settled 68 = .ok (.iload_n 3, 1) := by decide +kernel
theorem dX10_settled_69 : decode cX10_settled 69 = .ok (.iaload, 1) := by decide +kernel
theorem dX10_settled_70 : decode cX10_settled 70 = .ok (.iconst 4, 1) := by decide +kernel
theorem dX10_settled_71 : decode cX10_settled 71 = .ok (.if_icmp .le 10, 3) := by decide +kernel
theorem dX10_settled_74 : decode cX10_settled 74 = .ok (.aload_n 0, 1) := by decide +kernel
theorem dX10_settled_75 : decode cX10_settled 75 = .ok (.bipush (-3), 2) := by decide +kernel
theorem dX10_settled_77 : decode cX10_settled 77 = .ok (.invokevirtual 77, 3) := by decide +kernel
theorem dX10_settled_80 : decode cX10_settled 80 = .ok (.ireturn, 1) := by decide +kernel
theorem dX10_settled_81 : decode cX10_settled 81 = .ok (.aload_n 0, 1) := by decide +kernel
theorem dX10_settled_82 : decode cX10_settled 82 = .ok (.aload_n 0, 1) := by decide +kernel
theorem dX10_settled_83 : decode cX10_settled 83 = .ok (.iload_n 1, 1) := by decide +kernel
theorem dX10_settled_84 : decode cX10_settled 84 = .ok (.bipush 8, 2) := by decide +kernel
theorem dX10_settled_86 : decode cX10_settled 86 = .ok (.invokevirtual 160, 3) := by decide +kernel
theorem dX10_settled_89 : decode cX10_settled 89 = .ok (.aload_n 0, 1) := by decide +kernel
theorem dX10_settled_90 : decode cX10_settled 90 = .ok (.iload_n 2, 1) := by decide +kernel
theorem dX10_settled_91 : decode cX10_settled 91 = .ok (.bipush 8, 2) := by decide +kernel
theorem dX10_settled_93 : decode cX10_settled 93 = .ok (.invokevirtual 160, 3) := by decide +kernel
theorem dX10_settled_96 : decode cX10_settled 96 = .ok (.aload_n 0, 1) := by decide +kernel
theorem dX10_settled_97 : decode cX10_settled 97 = .ok (.iload_n 3, 1) := by decide +kernel
theorem dX10_settled_98 : decode cX10_settled 98 = .ok (.bipush 8, 2) := by decide +kernel
theorem dX10_settled_100 : decode cX10_settled 100 = .ok (.invokevirtual 160, 3) := by decide +kernel
theorem dX10_settled_103 : decode cX10_settled 103 = .ok (.invokevirtual 154, 3) := by decide +kernel
theorem dX10_settled_106 : decode cX10_settled 106 = .ok (.istore 5, 2) := by decide +kernel
theorem dX10_settled_108 : decode cX10_settled 108 = .ok (.bipush 8, 2) := by decide +kernel
theorem dX10_settled_110 : decode cX10_settled 110 = .ok (.istore 6, 2) := by decide +kernel
theorem dX10_settled_112 : decode cX10_settled 112 = .ok (.iload 4, 2) := by decide +kernel
theorem dX10_settled_114 : decode cX10_settled 114 = .ok (.ifCond .ne 7, 3) := by decide +kernel
theorem dX10_settled_117 : decode cX10_settled 117 = .ok (.iconst 1, 1) := by decide +kernel
theorem dX10_settled_118 : decode cX10_settled 118 = .ok (.goto 4, 3) := by decide +kernel
theorem dX10_settled_121 : decode cX10_settled 121 = .ok (.iconst 0, 1) := by decide +kernel
theorem dX10_settled_122 : decode cX10_settled 122 = .ok (.istore 7, 2) := by decide +kernel
theorem dX10_settled_124 : decode cX10_settled 124 = .ok (.iload 7, 2) := by decide +kernel
theorem dX10_settled_126 : decode cX10_settled 126 = .ok (.ifCond .eq 96, 3) := by decide +kernel
theorem dX10_settled_129 : decode cX10_settled 129 = .ok (.iload 6, 2) := by decide +kernel
theorem dX10_settled_131 : decode cX10_settled 131 = .ok (.ifCond .le 91, 3) := by decide +kernel
theorem dX10_settled_134 : decode cX10_settled 134 = .ok (.aload_n 0, 1) := by decide +kernel
theorem dX10_settled_135 : decode cX10_settled 135 = .ok (.iload_n 1, 1) := by decide +kernel
theorem dX10_settled_136 : decode cX10_settled 136 = .ok (.iload 6, 2) := by decide +kernel
theorem dX10_settled_138 : decode cX10_settled 138 = .ok (.iconst 1, 1) := by decide +kernel
theorem dX10_settled_139 : decode cX10_settled 139 = .ok (.isub, 1) := by decide +kernel
theorem dX10_settled_140 : decode cX10_settled 140 = .ok (.invokevirtual 160, 3) := by decide +kernel
theorem dX10_settled_143 : decode cX10_settled 143 = .ok (.istore 8, 2) := by decide +kernel
theorem dX10_settled_145 : decode cX10_settled 145 = .ok (.aload_n 0, 1) := by decide +kernel
theorem dX10_settled_146 : decode cX10_settled 146 = .ok (.iload_n 2, 1) := by decide +kernel
theorem dX10_settled_147 : decode cX10_settled 147 = .ok (.iload 6, 2) := by decide +kernel
theorem dX10_settled_149 : decode cX10_settled 149 = .ok (.iconst 1, 1) := by decide +kernel
theorem dX10_settled_150 : decode cX10_settled 150 = .ok (.isub, 1) := by decide +kernel
theorem dX10_settled_151 : decode cX10_settled 151 = .ok (.invokevirtual 160, 3) := by decide +kernel
theorem dX10_settled_154 : decode cX10_settled 154 = .ok (.istore 9, 2) := by decide +kernel
theorem dX10_settled_156 : decode cX10_settled 156 = .ok (.aload_n 0, 1) := by decide +kernel
theorem dX10_settled_157 : decode cX10_settled 157 = .ok (.iload_n 3, 1) := by decide +kernel
theorem dX10_settled_158 : decode cX10_settled 158 = .ok (.iload 6, 2) := by decide +kernel
theorem dX10_settled_160 : decode cX10_settled 160 = .ok (.iconst 1, 1) := by decide +kernel
theorem dX10_settled_161 : decode cX10_settled 161 = .ok (.isub, 1) := by decide +kernel
theorem dX10_settled_162 : decode cX10_settled 162 = .ok (.invokevirtual 160, 3) := by decide +kernel
theorem dX10_settled_165 : decode cX10_settled 165 = .ok (.istore 10, 2) := by decide +kernel
theorem dX10_settled_167 : decode cX10_settled 167 = .ok (.iload 8, 2) := by decide +kernel
theorem dX10_settled_169 : decode cX10_settled 169 = .ok (.ifCond .lt 32, 3) := by decide +kernel
theorem dX10_settled_172 : decode cX10_settled 172 = .ok (.iload 9, 2) := by decide +kernel
theorem dX10_settled_174 : decode cX10_settled 174 = .ok (.ifCond .lt 27, 3) := by decide +kernel
theorem dX10_settled_177 : decode cX10_settled 177 = .ok (.iload 10, 2) := by decide +kernel
theorem dX10_settled_179 : decode cX10_settled 179 = .ok (.ifCond .lt 22, 3) := by decide +kernel
theorem dX10_settled_182 : decode cX10_settled 182 = .ok (.aload_n 0, 1) := by decide +kernel
theorem dX10_settled_183 : decode cX10_settled 183 = .ok (.iload 8, 2) := by decide +kernel
theorem dX10_settled_185 : decode cX10_settled 185 = .ok (.iload 9, 2) := by decide +kernel
theorem dX10_settled_187 : decode cX10_settled 187 = .ok (.iload 10, 2) := by decide +kernel
theorem dX10_settled_189 : decode cX10_settled 189 = .ok (.invokevirtual 154, 3) := by decide +kernel
theorem dX10_settled_192 : decode cX10_settled 192 = .ok (.iload 5, 2) := by decide +kernel
theorem dX10_settled_194 : decode cX10_settled 194 = .ok (.if_icmp .ne 7, 3) := by decide +kernel
theorem dX10_settled_197 : decode cX10_settled 197 = .ok (.iconst 1, 1) := by decide +kernel
theorem dX10_settled_198 : decode cX10_settled 198 = .ok (.goto 4, 3) := by decide +kernel
theorem dX10_settled_201 : decode cX10_settled 201 = .ok (.iconst 0, 1) := by decide +kernel
theorem dX10_settled_202 : decode cX10_settled 202 = .ok (.istore 7, 2) := by decide +kernel
theorem dX10_settled_204 : decode cX10_settled 204 = .ok (.iload 6, 2) := by decide +kernel
theorem dX10_settled_206 : decode cX10_settled 206 = .ok (.iload 7, 2) := by decide +kernel
theorem dX10_settled_208 : decode cX10_settled 208 = .ok (.ifCond .eq 7, 3) := by decide +kernel
theorem dX10_settled_211 : decode cX10_settled 211 = .ok (.iconst 1, 1) := by decide +kernel
theorem dX10_settled_212 : decode cX10_settled 212 = .ok (.goto 4, 3) := by decide +kernel
theorem dX10_settled_215 : decode cX10_settled 215 = .ok (.iconst 0, 1) := by decide +kernel
theorem dX10_settled_216 : decode cX10_settled 216 = .ok (.isub, 1) := by decide +kernel
theorem dX10_settled_217 : decode cX10_settled 217 = .ok (.istore 6, 2) := by decide +kernel
theorem dX10_settled_219 : decode cX10_settled 219 = .ok (.goto (-95), 3) := by decide +kernel
theorem dX10_settled_222 : decode cX10_settled 222 = .ok (.iload 4, 2) := by decide +kernel
theorem dX10_settled_224 : decode cX10_settled 224 = .ok (.ifCond .ne 8, 3) := by decide +kernel
theorem dX10_settled_227 : decode cX10_settled 227 = .ok (.iload 6, 2) := by decide +kernel
theorem dX10_settled_229 : decode cX10_settled 229 = .ok (.goto 5, 3) := by decide +kernel
theorem dX10_settled_232 : decode cX10_settled 232 = .ok (.iload 5, 2) := by decide +kernel
theorem dX10_settled_234 : decode cX10_settled 234 = .ok (.ireturn, 1) := by decide +kernel
theorem dX10_lots_0 : decode cX10_lots 0 = .ok (.iload_n 1, 1) := by decide +kernel
theorem dX10_lots_1 : decode cX10_lots 1 = .ok (.iconst 1, 1) := by decide +kernel
theorem dX10_lots_2 : decode cX10_lots 2 = .ok (.if_icmp .lt 8, 3) := by decide +kernel
theorem dX10_lots_5 : decode cX10_lots 5 = .ok (.iload_n 2, 1) := by decide +kernel
theorem dX10_lots_6 : decode cX10_lots 6 = .ok (.iconst 1, 1) := by decide +kernel
theorem dX10_lots_7 : decode cX10_lots 7 = .ok (.if_icmp .ge 10, 3) := by decide +kernel
theorem dX10_lots_10 : decode cX10_lots 10 = .ok (.aload_n 0, 1) := by decide +kernel
theorem dX10_lots_11 : decode cX10_lots 11 = .ok (.bipush (-4), 2) := by decide +kernel
theorem dX10_lots_13 : decode cX10_lots 13 = .ok (.invokevirtual 77, 3) := by decide +kernel
theorem dX10_lots_16 : decode cX10_lots 16 = .ok (.ireturn, 1) := by decide +kernel
theorem dX10_lots_17 : decode cX10_lots 17 = .ok (.iload_n 1, 1) := by decide +kernel
theorem dX10_lots_18 : decode cX10_lots 18 = .ok (.bipush 8, 2) := by decide +kernel
theorem dX10_lots_20 : decode cX10_lots 20 = .ok (.if_icmp .gt 9, 3) := by decide +kernel
theorem dX10_lots_23 : decode cX10_lots 23 = .ok (.iload_n 2, 1) := by decide +kernel
theorem dX10_lots_24 : decode cX10_lots 24 = .ok (.bipush 50, 2) := by decide +kernel
theorem dX10_lots_26 : decode cX10_lots 26 = .ok (.if_icmp .le 10, 3) := by decide +kernel
theorem dX10_lots_29 : decode cX10_lots 29 = .ok (.aload_n 0, 1) := by decide +kernel
theorem dX10_lots_30 : decode cX10_lots 30 = .ok (.bipush (-6), 2) := by decide +kernel
theorem dX10_lots_32 : decode cX10_lots 32 = .ok (.invokevirtual 77, 3) := by decide +kernel
theorem dX10_lots_35 : decode cX10_lots 35 = .ok (.ireturn, 1) := by decide +kernel
theorem dX10_lots_36 : decode cX10_lots 36 = .ok (.iload 4, 2) := by decide +kernel
theorem dX10_lots_38 : decode cX10_lots 38 = .ok (.iconst 0, 1) := by decide +kernel
theorem dX10_lots_39 : decode cX10_lots 39 = .ok (.iconst 1, 1) := by decide +kernel
theorem dX10_lots_40 : decode cX10_lots 40 = .ok (.invokestatic 72, 3) := by decide +kernel
theorem dX10_lots_43 : decode cX10_lots 43 = .ok (.ifCond .ne 10, 3) := by decide +kernel
theorem dX10_lots_46 : decode cX10_lots 46 = .ok (.aload_n 0, 1) := by decide +kernel
theorem dX10_lots_47 : decode cX10_lots 47 = .ok (.bipush (-2), 2) := by decide +kernel
theorem dX10_lots_49 : decode cX10_lots 49 = .ok (.invokevirtual 77, 3) := by decide +kernel
theorem dX10_lots_52 : decode cX10_lots 52 = .ok (.ireturn, 1) := by decide +kernel
theorem dX10_lots_53 : decode cX10_lots 53 = .ok (.iload_n 3, 1) := by decide +kernel
theorem dX10_lots_54 : decode cX10_lots 54 = .ok (.istore 5, 2) := by decide +kernel
theorem dX10_lots_56 : decode cX10_lots 56 = .ok (.iconst 0, 1) := by decide +kernel
theorem dX10_lots_57 : decode cX10_lots 57 = .ok (.istore 6, 2) := by decide +kernel
theorem dX10_lots_59 : decode cX10_lots 59 = .ok (.iconst 0, 1) := by decide +kernel
theorem dX10_lots_60 : decode cX10_lots 60 = .ok (.istore 7, 2) := by decide +kernel
theorem dX10_lots_62 : decode cX10_lots 62 = .ok (.iconst 0, 1) := by decide +kernel
theorem dX10_lots_63 : decode cX10_lots 63 = .ok (.istore 8, 2) := by decide +kernel
theorem dX10_lots_65 : decode cX10_lots 65 = .ok (.iload 8, 2) := by decide +kernel
theorem dX10_lots_67 : decode cX10_lots 67 = .ok (.iload_n 2, 1) := by decide +kernel
theorem dX10_lots_68 : decode cX10_lots 68 = .ok (.if_icmp .ge 111, 3) := by decide +kernel
theorem dX10_lots_71 : decode cX10_lots 71 = .ok (.iload 5, 2) := by decide +kernel
theorem dX10_lots_73 : decode cX10_lots 73 = .ok (.ldc 163, 2) := by decide +kernel
theorem dX10_lots_75 : decode cX10_lots 75 = .ok (.imul, 1) := by decide +kernel
theorem dX10_lots_76 : decode cX10_lots 76 = .ok (.ldc 164, 2) := by decide +kernel
theorem dX10_lots_78 : decode cX10_lots 78 = .ok (.iadd, 1) := by decide +kernel
theorem dX10_lots_79 : decode cX10_lots 79 = .ok (.istore 5, 2) := by decide +kernel
theorem dX10_lots_81 : decode cX10_lots 81 = .ok (.aload_n 0, 1) := by decide +kernel
theorem dX10_lots_82 : decode cX10_lots 82 = .ok (.getfield 7, 3) := by decide +kernel
theorem dX10_lots_85 : decode cX10_lots 85 = .ok (.iload_n 1, 1) := by decide +kernel
theorem dX10_lots_86 : decode cX10_lots 86 = .ok (.iaload, 1) := by decide +kernel
theorem dX10_lots_87 : decode cX10_lots 87 = .ok (.iload 5, 2) := by decide +kernel
theorem dX10_lots_89 : decode cX10_lots 89 = .ok (.ldc 165, 2) := by decide +kernel
theorem dX10_lots_91 : decode cX10_lots 91 = .ok (.iand, 1) := by decide +kernel
theorem dX10_lots_92 : decode cX10_lots 92 = .ok (.sipush 256, 3) := by decide +kernel
theorem dX10_lots_95 : decode cX10_lots 95 = .ok (.idiv, 1) := by decide +kernel
theorem dX10_lots_96 : decode cX10_lots 96 = .ok (.aload_n 0, 1) := by decide +kernel
theorem dX10_lots_97 : decode cX10_lots 97 = .ok (.iload_n 1, 1) := by decide +kernel
theorem dX10_lots_98 : decode cX10_lots 98 = .ok (.invokevirtual 134, 3) := by decide +kernel
theorem dX10_lots_101 : decode cX10_lots 101 = .ok (.irem, 1) := by decide +kernel
theorem dX10_lots_102 : decode cX10_lots 102 = .ok (.iadd, 1) := by decide +kernel
theorem dX10_lots_103 : decode cX10_lots 103 = .ok (.istore 9, 2) := by decide +kernel
theorem dX10_lots_105 : decode cX10_lots 105 = .ok (.iload 5, 2) := by decide +kernel
theorem dX10_lots_107 : decode cX10_lots 107 = .ok (.ldc 163, 2) := by decide +kernel
theorem dX10_lots_109 : decode cX10_lots 109 = .ok (.imul, 1) := by decide +kernel
theorem dX10_lots_110 : decode cX10_lots 110 = .ok (.ldc 164, 2) := by decide +kernel
theorem dX10_lots_112 : decode cX10_lots 112 = .ok (.iadd, 1) := by decide +kernel
theorem dX10_lots_113 : decode cX10_lots 113 = .ok (.istore 5, 2) := by decide +kernel
theorem dX10_lots_115 : decode cX10_lots 115 = .ok (.aload_n 0, 1) := by decide +kernel
theorem dX10_lots_116 : decode cX10_lots 116 = .ok (.getfield 7, 3) := by decide +kernel
theorem dX10_lots_119 : decode cX10_lots 119 = .ok (.iload_n 1, 1) := by decide +kernel
theorem dX10_lots_120 : decode cX10_lots 120 = .ok (.iaload, 1) := by decide +kernel
theorem dX10_lots_121 : decode cX10_lots 121 = .ok (.iload 5, 2) := by decide +kernel
theorem dX10_lots_123 : decode cX10_lots 123 = .ok (.ldc 165, 2) := by decide +kernel
theorem dX10_lots_125 : decode cX10_lots 125 = .ok (.iand, 1) := by decide +kernel
theorem dX10_lots_126 : decode cX10_lots 126 = .ok (.sipush 256, 3) := by decide +kernel
theorem dX10_lots_129 : decode cX10_lots 129 = .ok (.idiv, 1) := by decide +kernel
theorem dX10_lots_130 : decode cX10_lots 130 = .ok (.aload_n 0, 1) := by decide +kernel
theorem dX10_lots_131 : decode cX10_lots 131 = .ok (.iload_n 1, 1) := by decide +kernel
theorem dX10_lots_132 : decode cX10_lots 132 = .ok (.invokevirtual 134, 3) := by decide +kernel
theorem dX10_lots_135 : decode cX10_lots 135 = .ok (.irem, 1) := by decide +kernel
theorem dX10_lots_136 : decode cX10_lots 136 = .ok (.iadd, 1) := by decide +kernel
theorem dX10_lots_137 : decode cX10_lots 137 = .ok (.istore 10, 2) := by decide +kernel
theorem dX10_lots_139 : decode cX10_lots 139 = .ok (.aload_n 0, 1) := by decide +kernel
theorem dX10_lots_140 : decode cX10_lots 140 = .ok (.iload 9, 2) := by decide +kernel
theorem dX10_lots_142 : decode cX10_lots 142 = .ok (.iload 9, 2) := by decide +kernel
theorem dX10_lots_144 : decode cX10_lots 144 = .ok (.iload 10, 2) := by decide +kernel
theorem dX10_lots_146 : decode cX10_lots 146 = .ok (.invokevirtual 154, 3) := by decide +kernel
theorem dX10_lots_149 : decode cX10_lots 149 = .ok (.istore 11, 2) := by decide +kernel
theorem dX10_lots_151 : decode cX10_lots 151 = .ok (.iload 6, 2) := by decide +kernel
theorem dX10_lots_153 : decode cX10_lots 153 = .ok (.iload 11, 2) := by decide +kernel
theorem dX10_lots_155 : decode cX10_lots 155 = .ok (.ifCond .le 7, 3) := by decide +kernel
theorem dX10_lots_158 : decode cX10_lots 158 = .ok (.iconst 1, 1) := by decide +kernel
theorem dX10_lots_159 : decode cX10_lots 159 = .ok (.goto 4, 3) := by decide +kernel
theorem dX10_lots_162 : decode cX10_lots 162 = .ok (.iconst 0, 1) := by decide +kernel
theorem dX10_lots_163 : decode cX10_lots 163 = .ok (.iadd, 1) := by decide +kernel
theorem dX10_lots_164 : decode cX10_lots 164 = .ok (.istore 6, 2) := by decide +kernel
theorem dX10_lots_166 : decode cX10_lots 166 = .ok (.iload 7, 2) := by decide +kernel
theorem dX10_lots_168 : decode cX10_lots 168 = .ok (.iload 11, 2) := by decide +kernel
theorem dX10_lots_170 : decode cX10_lots 170 = .ok (.iadd, 1) := by decide +kernel
theorem dX10_lots_171 : decode cX10_lots 171 = .ok (.istore 7, 2) := by decide +kernel
theorem dX10_lots_173 : decode cX10_lots 173 = .ok (.iinc 8 1, 3) := by decide +kernel
theorem dX10_lots_176 : decode cX10_lots 176 = .ok (.goto (-111), 3) := by decide +kernel
theorem dX10_lots_179 : decode cX10_lots 179 = .ok (.iload 4, 2) := by decide +kernel
theorem dX10_lots_181 : decode cX10_lots 181 = .ok (.ifCond .ne 8, 3) := by decide +kernel
theorem dX10_lots_184 : decode cX10_lots 184 = .ok (.iload 6, 2) := by decide +kernel
theorem dX10_lots_186 : decode cX10_lots 186 = .ok (.goto 5, 3) := by decide +kernel
theorem dX10_lots_189 : decode cX10_lots 189 = .ok (.iload 7, 2) := by decide +kernel
theorem dX10_lots_191 : decode cX10_lots 191 = .ok (.ireturn, 1) := by decide +kernel
theorem dX10_isSum_0 : decode cX10_isSum 0 = .ok (.iload_n 0, 1) := by decide +kernel
theorem dX10_isSum_1 : decode cX10_isSum 1 = .ok (.iconst 0, 1) := by decide +kernel
theorem dX10_isSum_2 : decode cX10_isSum 2 = .ok (.iconst 3, 1) := by decide +kernel
theorem dX10_isSum_3 : decode cX10_isSum 3 = .ok (.invokestatic 72, 3) := by decide +kernel
theorem dX10_isSum_6 : decode cX10_isSum 6 = .ok (.ireturn, 1) := by decide +kernel
theorem dX10_terms_0 : decode cX10_terms 0 = .ok (.iconst 0, 1) := by decide +kernel
theorem dX10_terms_1 : decode cX10_terms 1 = .ok (.istore_n 2, 1) := by decide +kernel
theorem dX10_terms_2 : decode cX10_terms 2 = .ok (.iconst 0, 1) := by decide +kernel
theorem dX10_terms_3 : decode cX10_terms 3 = .ok (.istore_n 3, 1) := by decide +kernel
theorem dX10_terms_4 : decode cX10_terms 4 = .ok (.aload_n 0, 1) := by decide +kernel
theorem dX10_terms_5 : decode cX10_terms 5 = .ok (.getfield 25, 3) := by decide +kernel
theorem dX10_terms_8 : decode cX10_terms 8 = .ok (.iload_n 1, 1) := by decide +kernel
theorem dX10_terms_9 : decode cX10_terms 9 = .ok (.iaload, 1) := by decide +kernel
theorem dX10_terms_10 : decode cX10_terms 10 = .ok (.ifCond .lt 45, 3) := by decide +kernel
theorem dX10_terms_13 : decode cX10_terms 13 = .ok (.iload_n 3, 1) := by decide +kernel
theorem dX10_terms_14 : decode cX10_terms 14 = .ok (.aload_n 0, 1) := by decide +kernel
theorem dX10_terms_15 : decode cX10_terms 15 = .ok (.aload_n 0, 1) := by decide +kernel
theorem dX10_terms_16 : decode cX10_terms 16 = .ok (.getfield 25, 3) := by decide +kernel
theorem dX10_terms_19 : decode cX10_terms 19 = .ok (.iload_n 1, 1) := by decide +kernel
theorem dX10_terms_20 : decode cX10_terms 20 = .ok (.iaload, 1) := by decide +kernel
theorem dX10_terms_21 : decode cX10_terms 21 = .ok (.invokevirtual 134, 3) := by decide +kernel
theorem dX10_terms_24 : decode cX10_terms 24 = .ok (.if_icmp .ge 31, 3) := by decide +kernel
theorem dX10_terms_27 : decode cX10_terms 27 = .ok (.iload_n 2, 1) := by decide +kernel
theorem dX10_terms_28 : decode cX10_terms 28 = .ok (.aload_n 0, 1) := by decide +kernel
theorem dX10_terms_29 : decode cX10_terms 29 = .ok (.getfield 28, 3) := by decide +kernel
theorem dX10_terms_32 : decode cX10_terms 32 = .ok (.bipush 22, 2) := by decide +kernel
theorem dX10_terms_34 : decode cX10_terms 34 = .ok (.iload_n 1, 1) := by decide +kernel
theorem dX10_terms_35 : decode cX10_terms 35 = .ok (.imul, 1) := by decide +kernel
theorem dX10_terms_36 : decode cX10_terms 36 = .ok (.iload_n 3, 1) := by decide +kernel
theorem dX10_terms_37 : decode cX10_terms 37 = .ok (.iadd, 1) := by decide +kernel
theorem dX10_terms_38 : decode cX10_terms 38 = .ok (.iaload, 1) := by decide +kernel
theorem dX10_terms_39 : decode cX10_terms 39 = .ok (.ifCond .eq 7, 3) := by decide +kernel
theorem dX10_terms_42 : decode cX10_terms 42 = .ok (.iconst 1, 1) := by decide +kernel
theorem dX10_terms_43 : decode cX10_terms 43 = .ok (.goto 4, 3) := by decide +kernel
theorem dX10_terms_46 : decode cX10_terms 46 = .ok (.iconst 0, 1) := by decide +kernel
theorem dX10_terms_47 : decode cX10_terms 47 = .ok (.iadd, 1) := by decide +kernel
theorem dX10_terms_48 : decode cX10_terms 48 = .ok (.istore_n 2, 1) := by decide +kernel
theorem dX10_terms_49 : decode cX10_terms 49 = .ok (.iinc 3 1, 3) := by decide +kernel
theorem dX10_terms_52 : decode cX10_terms 52 = .ok (.goto (-48), 3) := by decide +kernel
theorem dX10_terms_55 : decode cX10_terms 55 = .ok (.iload_n 2, 1) := by decide +kernel
theorem dX10_terms_56 : decode cX10_terms 56 = .ok (.ireturn, 1) := by decide +kernel
theorem dX10_keeps_0 : decode cX10_keeps 0 = .ok (.iconst 0, 1) := by decide +kernel
theorem dX10_keeps_1 : decode cX10_keeps 1 = .ok (.istore_n 2, 1) := by decide +kernel
theorem dX10_keeps_2 : decode cX10_keeps 2 = .ok (.iload_n 2, 1) := by decide +kernel
theorem dX10_keeps_3 : decode cX10_keeps 3 = .ok (.iconst 4, 1) := by decide +kernel
theorem dX10_keeps_4 : decode cX10_keeps 4 = .ok (.if_icmp .ge 25, 3) := by decide +kernel
theorem dX10_keeps_7 : decode cX10_keeps 7 = .ok (.aload_n 0, 1) := by decide +kernel
theorem dX10_keeps_8 : decode cX10_keeps 8 = .ok (.getfield 31, 3) := by decide +kernel
theorem dX10_keeps_11 : decode cX10_keeps 11 = .ok (.iconst 4, 1) := by decide +kernel
theorem dX10_keeps_12 : decode cX10_keeps 12 = .ok (.iload_n 1, 1) := by decide +kernel
theorem dX10_keeps_13 : decode cX10_keeps 13 = .ok (.imul, 1) := by decide +kernel
theorem dX10_keeps_14 : decode cX10_keeps 14 = .ok (.iload_n 2, 1) := by decide +kernel
theorem dX10_keeps_15 : decode cX10_keeps 15 = .ok (.iadd, 1) := by decide +kernel
theorem dX10_keeps_16 : decode cX10_keeps 16 = .ok (.aload_n 0, 1) := by decide +kernel
theorem dX10_keeps_17 : decode cX10_keeps 17 = .ok (.getfield 25, 3) := by decide +kernel
theorem dX10_keeps_20 : decode cX10_keeps 20 = .ok (.iload_n 2, 1) := by decide +kernel
theorem dX10_keeps_21 : decode cX10_keeps 21 = .ok (.iaload, 1) := by decide +kernel
theorem dX10_keeps_22 : decode cX10_keeps 22 = .ok (.iastore, 1) := by decide +kernel
theorem dX10_keeps_23 : decode cX10_keeps 23 = .ok (.iinc 2 1, 3) := by decide +kernel
theorem dX10_keeps_26 : decode cX10_keeps 26 = .ok (.goto (-24), 3) := by decide +kernel
theorem dX10_keeps_29 : decode cX10_keeps 29 = .ok (.iconst 0, 1) := by decide +kernel
theorem dX10_keeps_30 : decode cX10_keeps 30 = .ok (.istore_n 2, 1) := by decide +kernel
theorem dX10_keeps_31 : decode cX10_keeps 31 = .ok (.iload_n 2, 1) := by decide +kernel
theorem dX10_keeps_32 : decode cX10_keeps 32 = .ok (.bipush 88, 2) := by decide +kernel
theorem dX10_keeps_34 : decode cX10_keeps 34 = .ok (.if_icmp .ge 26, 3) := by decide +kernel
theorem dX10_keeps_37 : decode cX10_keeps 37 = .ok (.aload_n 0, 1) := by decide +kernel
theorem dX10_keeps_38 : decode cX10_keeps 38 = .ok (.getfield 34, 3) := by decide +kernel
theorem dX10_keeps_41 : decode cX10_keeps 41 = .ok (.bipush 88, 2) := by decide +kernel
theorem dX10_keeps_43 : decode cX10_keeps 43 = .ok (.iload_n 1, 1) := by decide +kernel
theorem dX10_keeps_44 : decode cX10_keeps 44 = .ok (.imul, 1) := by decide +kernel
theorem dX10_keeps_45 : decode cX10_keeps 45 = .ok (.iload_n 2, 1) := by decide +kernel
theorem dX10_keeps_46 : decode cX10_keeps 46 = .ok (.iadd, 1) := by decide +kernel
theorem dX10_keeps_47 : decode cX10_keeps 47 = .ok (.aload_n 0, 1) := by decide +kernel
theorem dX10_keeps_48 : decode cX10_keeps 48 = .ok (.getfield 28, 3) := by decide +kernel
theorem dX10_keeps_51 : decode cX10_keeps 51 = .ok (.iload_n 2, 1) := by decide +kernel
theorem dX10_keeps_52 : decode cX10_keeps 52 = .ok (.iaload, 1) := by decide +kernel
theorem dX10_keeps_53 : decode cX10_keeps 53 = .ok (.iastore, 1) := by decide +kernel
theorem dX10_keeps_54 : decode cX10_keeps 54 = .ok (.iinc 2 1, 3) := by decide +kernel
theorem dX10_keeps_57 : decode cX10_keeps 57 = .ok (.goto (-26), 3) := by decide +kernel
theorem dX10_keeps_60 : decode cX10_keeps 60 = .ok (.return_, 1) := by decide +kernel
theorem dX10_laysBack_0 : decode cX10_laysBack 0 = .ok (.iconst 0, 1) := by decide +kernel
theorem dX10_laysBack_1 : decode cX10_laysBack 1 = .ok (.istore_n 2, 1) := by decide +kernel
theorem dX10_laysBack_2 : decode cX10_laysBack 2 = .ok (.iload_n 2, 1) := by decide +kernel
theorem dX10_laysBack_3 : decode cX10_laysBack 3 = .ok (.iconst 4, 1) := by decide +kernel
theorem dX10_laysBack_4 : decode cX10_laysBack 4 = .ok (.if_icmp .ge 25, 3) := by decide +kernel
theorem dX10_laysBack_7 : decode cX10_laysBack 7 = .ok (.aload_n 0, 1) := by decide +kernel
theorem dX10_laysBack_8 : decode cX10_laysBack 8 = .ok (.getfield 25, 3) := by decide +kernel
theorem dX10_laysBack_11 : decode cX10_laysBack 11 = .ok (.iload_n 2, 1) := by decide +kernel
theorem dX10_laysBack_12 : decode cX10_laysBack 12 = .ok (.aload_n 0, 1) := by decide +kernel
theorem dX10_laysBack_13 : decode cX10_laysBack 13 = .ok (.getfield 31, 3) := by decide +kernel
theorem dX10_laysBack_16 : decode cX10_laysBack 16 = .ok (.iconst 4, 1) := by decide +kernel
theorem dX10_laysBack_17 : decode cX10_laysBack 17 = .ok (.iload_n 1, 1) := by decide +kernel
theorem dX10_laysBack_18 : decode cX10_laysBack 18 = .ok (.imul, 1) := by decide +kernel
theorem dX10_laysBack_19 : decode cX10_laysBack 19 = .ok (.iload_n 2, 1) := by decide +kernel
theorem dX10_laysBack_20 : decode cX10_laysBack 20 = .ok (.iadd, 1) := by decide +kernel
theorem dX10_laysBack_21 : decode cX10_laysBack 21 = .ok (.iaload, 1) := by decide +kernel
theorem dX10_laysBack_22 : decode cX10_laysBack 22 = .ok (.iastore, 1) := by decide +kernel
theorem dX10_laysBack_23 : decode cX10_laysBack 23 = .ok (.iinc 2 1, 3) := by decide +kernel
theorem dX10_laysBack_26 : decode cX10_laysBack 26 = .ok (.goto (-24), 3) := by decide +kernel
theorem dX10_laysBack_29 : decode cX10_laysBack 29 = .ok (.iconst 0, 1) := by decide +kernel
theorem dX10_laysBack_30 : decode cX10_laysBack 30 = .ok (.istore_n 2, 1) := by decide +kernel
theorem dX10_laysBack_31 : decode cX10_laysBack 31 = .ok (.iload_n 2, 1) := by decide +kernel
theorem dX10_laysBack_32 : decode cX10_laysBack 32 = .ok (.bipush 88, 2) := by decide +kernel
theorem dX10_laysBack_34 : decode cX10_laysBack 34 = .ok (.if_icmp .ge 26, 3) := by decide +kernel
theorem dX10_laysBack_37 : decode cX10_laysBack 37 = .ok (.aload_n 0, 1) := by decide +kernel
theorem dX10_laysBack_38 : decode cX10_laysBack 38 = .ok (.getfield 28, 3) := by decide +kernel
theorem dX10_laysBack_41 : decode cX10_laysBack 41 = .ok (.iload_n 2, 1) := by decide +kernel
theorem dX10_laysBack_42 : decode cX10_laysBack 42 = .ok (.aload_n 0, 1) := by decide +kernel
theorem dX10_laysBack_43 : decode cX10_laysBack 43 = .ok (.getfield 34, 3) := by decide +kernel
theorem dX10_laysBack_46 : decode cX10_laysBack 46 = .ok (.bipush 88, 2) := by decide +kernel
theorem dX10_laysBack_48 : decode cX10_laysBack 48 = .ok (.iload_n 1, 1) := by decide +kernel
theorem dX10_laysBack_49 : decode cX10_laysBack 49 = .ok (.imul, 1) := by decide +kernel
theorem dX10_laysBack_50 : decode cX10_laysBack 50 = .ok (.iload_n 2, 1) := by decide +kernel
theorem dX10_laysBack_51 : decode cX10_laysBack 51 = .ok (.iadd, 1) := by decide +kernel
theorem dX10_laysBack_52 : decode cX10_laysBack 52 = .ok (.iaload, 1) := by decide +kernel
theorem dX10_laysBack_53 : decode cX10_laysBack 53 = .ok (.iastore, 1) := by decide +kernel
theorem dX10_laysBack_54 : decode cX10_laysBack 54 = .ok (.iinc 2 1, 3) := by decide +kernel
theorem dX10_laysBack_57 : decode cX10_laysBack 57 = .ok (.goto (-26), 3) := by decide +kernel
theorem dX10_laysBack_60 : decode cX10_laysBack 60 = .ok (.return_, 1) := by decide +kernel
theorem dX10_canBeUndone_0 : decode cX10_canBeUndone 0 = .ok (.aload_n 0, 1) := by decide +kernel
theorem dX10_canBeUndone_1 : decode cX10_canBeUndone 1 = .ok (.getfield 166, 3) := by decide +kernel
theorem dX10_canBeUndone_4 : decode cX10_canBeUndone 4 = .ok (.bipush 8, 2) := by decide +kernel
theorem dX10_canBeUndone_6 : decode cX10_canBeUndone 6 = .ok (.if_icmp .ne 71, 3) := by decide +kernel
theorem dX10_canBeUndone_9 : decode cX10_canBeUndone 9 = .ok (.iconst 0, 1) := by decide +kernel
theorem dX10_canBeUndone_10 : decode cX10_canBeUndone 10 = .ok (.istore_n 1, 1) := by decide +kernel
theorem dX10_canBeUndone_11 : decode cX10_canBeUndone 11 = .ok (.iload_n 1, 1) := by decide +kernel
theorem dX10_canBeUndone_12 : decode cX10_canBeUndone 12 = .ok (.bipush 28, 2) := by decide +kernel
theorem dX10_canBeUndone_14 : decode cX10_canBeUndone 14 = .ok (.if_icmp .ge 23, 3) := by decide +kernel
theorem dX10_canBeUndone_17 : decode cX10_canBeUndone 17 = .ok (.aload_n 0, 1) := by decide +kernel
theorem dX10_canBeUndone_18 : decode cX10_canBeUndone 18 = .ok (.getfield 31, 3) := by decide +kernel
theorem dX10_canBeUndone_21 : decode cX10_canBeUndone 21 = .ok (.iload_n 1, 1) := by decide +kernel
theorem dX10_canBeUndone_22 : decode cX10_canBeUndone 22 = .ok (.aload_n 0, 1) := by decide +kernel
theorem dX10_canBeUndone_23 : decode cX10_canBeUndone 23 = .ok (.getfield 31, 3) := by decide +kernel
theorem dX10_canBeUndone_26 : decode cX10_canBeUndone 26 = .ok (.iload_n 1, 1) := by decide +kernel
theorem dX10_canBeUndone_27 : decode cX10_canBeUndone 27 = .ok (.iconst 4, 1) := by decide +kernel
theorem dX10_canBeUndone_28 : decode cX10_canBeUndone 28 = .ok (.iadd, 1) := by decide +kernel
theorem dX10_canBeUndone_29 : decode cX10_canBeUndone 29 = .ok (.iaload, 1) := by decide +kernel
theorem dX10_canBeUndone_30 : decode cX10_canBeUndone 30 = .ok (.iastore, 1) := by decide +kernel
theorem dX10_canBeUndone_31 : decode cX10_canBeUndone 31 = .ok (.iinc 1 1, 3) := by decide +kernel
theorem dX10_canBeUndone_34 : decode cX10_canBeUndone 34 = .ok (.goto (-23), 3) := by decide +kernel
theorem dX10_canBeUndone_37 : decode cX10_canBeUndone 37 = .ok (.iconst 0, 1) := by decide +kernel
theorem dX10_canBeUndone_38 : decode cX10_canBeUndone 38 = .ok (.istore_n 1, 1) := by decide +kernel
theorem dX10_canBeUndone_39 : decode cX10_canBeUndone 39 = .ok (.iload_n 1, 1) := by decide +kernel
theorem dX10_canBeUndone_40 : decode cX10_canBeUndone 40 = .ok (.sipush 616, 3) := by decide +kernel
theorem dX10_canBeUndone_43 : decode cX10_canBeUndone 43 = .ok (.if_icmp .ge 24, 3) := by decide +kernel
theorem dX10_canBeUndone_46 : decode cX10_canBeUndone 46 = .ok (.aload_n 0, 1) := by decide +kernel
theorem dX10_canBeUndone_47 : decode cX10_canBeUndone 47 = .ok (.getfield 34, 3) := by decide +kernel
theorem dX10_canBeUndone_50 : decode cX10_canBeUndone 50 = .ok (.iload_n 1, 1) := by decide +kernel
theorem dX10_canBeUndone_51 : decode cX10_canBeUndone 51 = .ok (.aload_n 0, 1) := by decide +kernel
theorem dX10_canBeUndone_52 : decode cX10_canBeUndone 52 = .ok (.getfield 34, 3) := by decide +kernel
theorem dX10_canBeUndone_55 : decode cX10_canBeUndone 55 = .ok (.iload_n 1, 1) := by decide +kernel
theorem dX10_canBeUndone_56 : decode cX10_canBeUndone 56 = .ok (.bipush 88, 2) := by decide +kernel
theorem dX10_canBeUndone_58 : decode cX10_canBeUndone 58 = .ok (.iadd, 1) := by decide +kernel
theorem dX10_canBeUndone_59 : decode cX10_canBeUndone 59 = .ok (.iaload, 1) := by decide +kernel
theorem dX10_canBeUndone_60 : decode cX10_canBeUndone 60 = .ok (.iastore, 1) := by decide +kernel
theorem dX10_canBeUndone_61 : decode cX10_canBeUndone 61 = .ok (.iinc 1 1, 3) := by decide +kernel
theorem dX10_canBeUndone_64 : decode cX10_canBeUndone 64 = .ok (.goto (-25), 3) := by decide +kernel
theorem dX10_canBeUndone_67 : decode cX10_canBeUndone 67 = .ok (.aload_n 0, 1) := by decide +kernel
theorem dX10_canBeUndone_68 : decode cX10_canBeUndone 68 = .ok (.dup, 1) := by decide +kernel
theorem dX10_canBeUndone_69 : decode cX10_canBeUndone 69 = .ok (.getfield 166, 3) := by decide +kernel
theorem dX10_canBeUndone_72 : decode cX10_canBeUndone 72 = .ok (.iconst 1, 1) := by decide +kernel
theorem dX10_canBeUndone_73 : decode cX10_canBeUndone 73 = .ok (.isub, 1) := by decide +kernel
theorem dX10_canBeUndone_74 : decode cX10_canBeUndone 74 = .ok (.putfield 166, 3) := by decide +kernel
theorem dX10_canBeUndone_77 : decode cX10_canBeUndone 77 = .ok (.aload_n 0, 1) := by decide +kernel
theorem dX10_canBeUndone_78 : decode cX10_canBeUndone 78 = .ok (.aload_n 0, 1) := by decide +kernel
theorem dX10_canBeUndone_79 : decode cX10_canBeUndone 79 = .ok (.getfield 166, 3) := by decide +kernel
theorem dX10_canBeUndone_82 : decode cX10_canBeUndone 82 = .ok (.invokevirtual 169, 3) := by decide +kernel
theorem dX10_canBeUndone_85 : decode cX10_canBeUndone 85 = .ok (.aload_n 0, 1) := by decide +kernel
theorem dX10_canBeUndone_86 : decode cX10_canBeUndone 86 = .ok (.dup, 1) := by decide +kernel
theorem dX10_canBeUndone_87 : decode cX10_canBeUndone 87 = .ok (.getfield 166, 3) := by decide +kernel
theorem dX10_canBeUndone_90 : decode cX10_canBeUndone 90 = .ok (.iconst 1, 1) := by decide +kernel
theorem dX10_canBeUndone_91 : decode cX10_canBeUndone 91 = .ok (.iadd, 1) := by decide +kernel
theorem dX10_canBeUndone_92 : decode cX10_canBeUndone 92 = .ok (.putfield 166, 3) := by decide +kernel
theorem dX10_canBeUndone_95 : decode cX10_canBeUndone 95 = .ok (.return_, 1) := by decide +kernel
theorem dX10_thenNone_0 : decode cX10_thenNone 0 = .ok (.iconst 0, 1) := by decide +kernel
theorem dX10_thenNone_1 : decode cX10_thenNone 1 = .ok (.istore_n 1, 1) := by decide +kernel
theorem dX10_thenNone_2 : decode cX10_thenNone 2 = .ok (.iload_n 1, 1) := by decide +kernel
theorem dX10_thenNone_3 : decode cX10_thenNone 3 = .ok (.bipush 22, 2) := by decide +kernel
theorem dX10_thenNone_5 : decode cX10_thenNone 5 = .ok (.if_icmp .ge 16, 3) := by decide +kernel
theorem dX10_thenNone_8 : decode cX10_thenNone 8 = .ok (.aload_n 0, 1) := by decide +kernel
theorem dX10_thenNone_9 : decode cX10_thenNone 9 = .ok (.getfield 52, 3) := by decide +kernel
theorem dX10_thenNone_12 : decode cX10_thenNone 12 = .ok (.iload_n 1, 1) := by decide +kernel
theorem dX10_thenNone_13 : decode cX10_thenNone 13 = .ok (.lconst 0, 1) := by decide +kernel
theorem dX10_thenNone_14 : decode cX10_thenNone 14 = .ok (.lastore, 1) := by decide +kernel
theorem dX10_thenNone_15 : decode cX10_thenNone 15 = .ok (.iinc 1 1, 3) := by decide +kernel
theorem dX10_thenNone_18 : decode cX10_thenNone 18 = .ok (.goto (-16), 3) := by decide +kernel
theorem dX10_thenNone_21 : decode cX10_thenNone 21 = .ok (.return_, 1) := by decide +kernel
theorem dX10_becomes_0 : decode cX10_becomes 0 = .ok (.iconst 0, 1) := by decide +kernel
theorem dX10_becomes_1 : decode cX10_becomes 1 = .ok (.istore_n 3, 1) := by decide +kernel
theorem dX10_becomes_2 : decode cX10_becomes 2 = .ok (.iload_n 3, 1) := by decide +kernel
theorem dX10_becomes_3 : decode cX10_becomes 3 = .ok (.bipush 22, 2) := by decide +kernel
theorem dX10_becomes_5 : decode cX10_becomes 5 = .ok (.if_icmp .ge 42, 3) := by decide +kernel
theorem dX10_becomes_8 : decode cX10_becomes 8 = .ok (.aload_n 0, 1) := by decide +kernel
theorem dX10_becomes_9 : decode cX10_becomes 9 = .ok (.getfield 52, 3) := by decide +kernel
theorem dX10_becomes_12 : decode cX10_becomes 12 = .ok (.iload_n 3, 1) := by decide +kernel
theorem dX10_becomes_13 : decode cX10_becomes 13 = .ok (.laload, 1) := by decide +kernel
theorem dX10_becomes_14 : decode cX10_becomes 14 = .ok (.ldc2_w 172, 3) := by decide +kernel
theorem dX10_becomes_17 : decode cX10_becomes 17 = .ok (.lcmp, 1) := by decide +kernel
theorem dX10_becomes_18 : decode cX10_becomes 18 = .ok (.ifCond .gt 16, 3) := by decide +kernel
theorem dX10_becomes_21 : decode cX10_becomes 21 = .ok (.aload_n 0, 1) := by decide +kernel
theorem dX10_becomes_22 : decode cX10_becomes 22 = .ok (.getfield 52, 3) := by decide +kernel
theorem dX10_becomes_25 : decode cX10_becomes 25 = .ok (.iload_n 3, 1) := by decide +kernel
theorem dX10_becomes_26 : decode cX10_becomes 26 = .ok (.laload, 1) := by decide +kernel
theorem dX10_becomes_27 : decode cX10_becomes 27 = .ok (.ldc2_w 174, 3) := by decide +kernel
theorem dX10_becomes_30 : decode cX10_becomes 30 = .ok (.lcmp, 1) := by decide +kernel
theorem dX10_becomes_31 : decode cX10_becomes 31 = .ok (.ifCond .ge 10, 3) := by decide +kernel
theorem dX10_becomes_34 : decode cX10_becomes 34 = .ok (.aload_n 0, 1) := by decide +kernel
theorem dX10_becomes_35 : decode cX10_becomes 35 = .ok (.bipush (-6), 2) := by decide +kernel
theorem dX10_becomes_37 : decode cX10_becomes 37 = .ok (.invokevirtual 77, 3) := by decide +kernel
theorem dX10_becomes_40 : decode cX10_becomes 40 = .ok (.ireturn, 1) := by decide +kernel
theorem dX10_becomes_41 : decode cX10_becomes 41 = .ok (.iinc 3 1, 3) := by decide +kernel
theorem dX10_becomes_44 : decode cX10_becomes 44 = .ok (.goto (-42), 3) := by decide +kernel
theorem dX10_becomes_47 : decode cX10_becomes 47 = .ok (.aload_n 0, 1) := by decide +kernel
theorem dX10_becomes_48 : decode cX10_becomes 48 = .ok (.invokevirtual 176, 3) := by decide +kernel
theorem dX10_becomes_51 : decode cX10_becomes 51 = .ok (.aload_n 0, 1) := by decide +kernel
theorem dX10_becomes_52 : decode cX10_becomes 52 = .ok (.getfield 25, 3) := by decide +kernel
theorem dX10_becomes_55 : decode cX10_becomes 55 = .ok (.iload_n 1, 1) := by decide +kernel
theorem dX10_becomes_56 : decode cX10_becomes 56 = .ok (.iload_n 2, 1) := by decide +kernel
theorem dX10_becomes_57 : decode cX10_becomes 57 = .ok (.iastore, 1) := by decide +kernel
theorem dX10_becomes_58 : decode cX10_becomes 58 = .ok (.iconst 0, 1) := by decide +kernel
theorem dX10_becomes_59 : decode cX10_becomes 59 = .ok (.istore_n 3, 1) := by decide +kernel
theorem dX10_becomes_60 : decode cX10_becomes 60 = .ok (.iload_n 3, 1) := by decide +kernel
theorem dX10_becomes_61 : decode cX10_becomes 61 = .ok (.bipush 22, 2) := by decide +kernel
theorem dX10_becomes_63 : decode cX10_becomes 63 = .ok (.if_icmp .ge 27, 3) := by decide +kernel
theorem dX10_becomes_66 : decode cX10_becomes 66 = .ok (.aload_n 0, 1) := by decide +kernel
theorem dX10_becomes_67 : decode cX10_becomes 67 = .ok (.getfield 28, 3) := by decide +kernel
theorem dX10_becomes_70 : decode cX10_becomes 70 = .ok (.bipush 22, 2) := by decide +kernel
theorem dX10_becomes_72 : decode cX10_becomes 72 = .ok (.iload_n 1, 1) := by decide +kernel
theorem dX10_becomes_73 : decode cX10_becomes 73 = .ok (.imul, 1) := by decide +kernel
theorem dX10_becomes_74 : decode cX10_becomes 74 = .ok (.iload_n 3, 1) := by decide +kernel
theorem dX10_becomes_75 : decode cX10_becomes 75 = .ok (.iadd, 1) := by decide +kernel
theorem dX10_becomes_76 : decode cX10_becomes 76 = .ok (.aload_n 0, 1) := by decide +kernel
theorem dX10_becomes_77 : decode cX10_becomes 77 = .ok (.getfield 52, 3) := by decide +kernel
theorem dX10_becomes_80 : decode cX10_becomes 80 = .ok (.iload_n 3, 1) := by decide +kernel
theorem dX10_becomes_81 : decode cX10_becomes 81 = .ok (.laload, 1) := by decide +kernel
theorem dX10_becomes_82 : decode cX10_becomes 82 = .ok (.l2i, 1) := by decide +kernel
theorem dX10_becomes_83 : decode cX10_becomes 83 = .ok (.iastore, 1) := by decide +kernel
theorem dX10_becomes_84 : decode cX10_becomes 84 = .ok (.iinc 3 1, 3) := by decide +kernel
theorem dX10_becomes_87 : decode cX10_becomes 87 = .ok (.goto (-27), 3) := by decide +kernel
theorem dX10_becomes_90 : decode cX10_becomes 90 = .ok (.aload_n 0, 1) := by decide +kernel
theorem dX10_becomes_91 : decode cX10_becomes 91 = .ok (.iload_n 1, 1) := by decide +kernel
theorem dX10_becomes_92 : decode cX10_becomes 92 = .ok (.invokevirtual 179, 3) := by decide +kernel
theorem dX10_becomes_95 : decode cX10_becomes 95 = .ok (.ireturn, 1) := by decide +kernel
theorem dX10_letter_0 : decode cX10_letter 0 = .ok (.iload_n 1, 1) := by decide +kernel
theorem dX10_letter_1 : decode cX10_letter 1 = .ok (.ifCond .ge 10, 3) := by decide +kernel
theorem dX10_letter_4 : decode cX10_letter 4 = .ok (.aload_n 0, 1) := by decide +kernel
theorem dX10_letter_5 : decode cX10_letter 5 = .ok (.bipush (-4), 2) := by decide +kernel
theorem dX10_letter_7 : decode cX10_letter 7 = .ok (.invokevirtual 77, 3) := by decide +kernel
theorem dX10_letter_10 : decode cX10_letter 10 = .ok (.ireturn, 1) := by decide +kernel
theorem dX10_letter_11 : decode cX10_letter 11 = .ok (.iload_n 1, 1) := by decide +kernel
theorem dX10_letter_12 : decode cX10_letter 12 = .ok (.sipush 255, 3) := by decide +kernel
theorem dX10_letter_15 : decode cX10_letter 15 = .ok (.if_icmp .gt 12, 3) := by decide +kernel
theorem dX10_letter_18 : decode cX10_letter 18 = .ok (.aload_n 0, 1) := by decide +kernel
theorem dX10_letter_19 : decode cX10_letter 19 = .ok (.getfield 182, 3) := by decide +kernel
theorem dX10_letter_22 : decode cX10_letter 22 = .ok (.bipush 72, 2) := by decide +kernel
theorem dX10_letter_24 : decode cX10_letter 24 = .ok (.if_icmp .ne 10, 3) := by decide +kernel
theorem dX10_letter_27 : decode cX10_letter 27 = .ok (.aload_n 0, 1) := by decide +kernel
theorem dX10_letter_28 : decode cX10_letter 28 = .ok (.bipush (-6), 2) := by decide +kernel
theorem dX10_letter_30 : decode cX10_letter 30 = .ok (.invokevirtual 77, 3) := by decide +kernel
theorem dX10_letter_33 : decode cX10_letter 33 = .ok (.ireturn, 1) := by decide +kernel
theorem dX10_letter_34 : decode cX10_letter 34 = .ok (.aload_n 0, 1) := by decide +kernel
theorem dX10_letter_35 : decode cX10_letter 35 = .ok (.getfield 37, 3) := by decide +kernel
theorem dX10_letter_38 : decode cX10_letter 38 = .ok (.aload_n 0, 1) := by decide +kernel
theorem dX10_letter_39 : decode cX10_letter 39 = .ok (.getfield 182, 3) := by decide +kernel
theorem dX10_letter_42 : decode cX10_letter 42 = .ok (.iload_n 1, 1) := by decide +kernel
theorem dX10_letter_43 : decode cX10_letter 43 = .ok (.iastore, 1) := by decide +kernel
theorem dX10_letter_44 : decode cX10_letter 44 = .ok (.aload_n 0, 1) := by decide +kernel
theorem dX10_letter_45 : decode cX10_letter 45 = .ok (.dup, 1) := by decide +kernel
theorem dX10_letter_46 : decode cX10_letter 46 = .ok (.getfield 182, 3) := by decide +kernel
theorem dX10_letter_49 : decode cX10_letter 49 = .ok (.iconst 1, 1) := by decide +kernel
theorem dX10_letter_50 : decode cX10_letter 50 = .ok (.iadd, 1) := by decide +kernel
theorem dX10_letter_51 : decode cX10_letter 51 = .ok (.putfield 182, 3) := by decide +kernel
theorem dX10_letter_54 : decode cX10_letter 54 = .ok (.aload_n 0, 1) := by decide +kernel
theorem dX10_letter_55 : decode cX10_letter 55 = .ok (.getfield 182, 3) := by decide +kernel
theorem dX10_letter_58 : decode cX10_letter 58 = .ok (.ireturn, 1) := by decide +kernel
theorem dX10_isHere_0 : decode cX10_isHere 0 = .ok (.aload_n 0, 1) := by decide +kernel
theorem dX10_isHere_1 : decode cX10_isHere 1 = .ok (.getfield 185, 3) := by decide +kernel
theorem dX10_isHere_4 : decode cX10_isHere 4 = .ok (.aload_n 0, 1) := by decide +kernel
theorem dX10_isHere_5 : decode cX10_isHere 5 = .ok (.getfield 182, 3) := by decide +kernel
theorem dX10_isHere_8 : decode cX10_isHere 8 = .ok (.if_icmp .ge 24, 3) := by decide +kernel
theorem dX10_isHere_11 : decode cX10_isHere 11 = .ok (.aload_n 0, 1) := by decide +kernel
theorem dX10_isHere_12 : decode cX10_isHere 12 = .ok (.getfield 37, 3) := by decide +kernel
theorem dX10_isHere_15 : decode cX10_isHere 15 = .ok (.aload_n 0, 1) := by decide +kernel
theorem dX10_isHere_16 : decode cX10_isHere 16 = .ok (.getfield 185, 3) := by decide +kernel
theorem dX10_isHere_19 : decode cX10_isHere 19 = .ok (.iaload, 1) := by decide +kernel
theorem dX10_isHere_20 : decode cX10_isHere 20 = .ok (.iload_n 1, 1) := by decide +kernel
theorem dX10_isHere_21 : decode cX10_isHere 21 = .ok (.iload_n 2, 1) := by decide +kernel
theorem dX10_isHere_22 : decode cX10_isHere 22 = .ok (.invokestatic 72, 3) := by decide +kernel
theorem dX10_isHere_25 : decode cX10_isHere 25 = .ok (.ifCond .eq 7, 3) := by decide +kernel
theorem dX10_isHere_28 : decode cX10_isHere 28 = .ok (.iconst 1, 1) := by decide +kernel
theorem dX10_isHere_29 : decode cX10_isHere 29 = .ok (.goto 4, 3) := by decide +kernel
theorem dX10_isHere_32 : decode cX10_isHere 32 = .ok (.iconst 0, 1) := by decide +kernel
theorem dX10_isHere_33 : decode cX10_isHere 33 = .ok (.ireturn, 1) := by decide +kernel
theorem dX10_readTerm_0 : decode cX10_readTerm 0 = .ok (.iconst 1, 1) := by decide +kernel
theorem dX10_readTerm_1 : decode cX10_readTerm 1 = .ok (.istore_n 3, 1) := by decide +kernel
theorem dX10_readTerm_2 : decode cX10_readTerm 2 = .ok (.aload_n 0, 1) := by decide +kernel
theorem dX10_readTerm_3 : decode cX10_readTerm 3 = .ok (.bipush 48, 2) := by decide +kernel
theorem dX10_readTerm_5 : decode cX10_readTerm 5 = .ok (.bipush 57, 2) := by decide +kernel
theorem dX10_readTerm_7 : decode cX10_readTerm 7 = .ok (.invokevirtual 188, 3) := by decide +kernel
theorem dX10_readTerm_10 : decode cX10_readTerm 10 = .ok (.ifCond .eq 59, 3) := by decide +kernel
theorem dX10_readTerm_13 : decode cX10_readTerm 13 = .ok (.iconst 0, 1) := by decide +kernel
theorem dX10_readTerm_14 : decode cX10_readTerm 14 = .ok (.istore_n 3, 1) := by decide +kernel
theorem dX10_readTerm_15 : decode cX10_readTerm 15 = .ok (.iconst 0, 1) := by decide +kernel
theorem dX10_readTerm_16 : decode cX10_readTerm 16 = .ok (.istore 4, 2) := by decide +kernel
theorem dX10_readTerm_18 : decode cX10_readTerm 18 = .ok (.iload 4, 2) := by decide +kernel
theorem dX10_readTerm_20 : decode cX10_readTerm 20 = .ok (.iconst 3, 1) := by decide +kernel
theorem dX10_readTerm_21 : decode cX10_readTerm 21 = .ok (.if_icmp .ge 48, 3) := by decide +kernel
theorem dX10_readTerm_24 : decode cX10_readTerm 24 = .ok (.aload_n 0, 1) := by decide +kernel
theorem dX10_readTerm_25 : decode cX10_readTerm 25 = .ok (.bipush 48, 2) := by decide +kernel
theorem dX10_readTerm_27 : decode cX10_readTerm 27 = .ok (.bipush 57, 2) := by decide +kernel
theorem dX10_readTerm_29 : decode cX10_readTerm 29 = .ok (.invokevirtual 188, 3) := by decide +kernel
theorem dX10_readTerm_32 : decode cX10_readTerm 32 = .ok (.ifCond .eq 37, 3) := by decide +kernel
theorem dX10_readTerm_35 : decode cX10_readTerm 35 = .ok (.bipush 10, 2) := by decide +kernel
theorem dX10_readTerm_37 : decode cX10_readTerm 37 = .ok (.iload_n 3, 1) := by decide +kernel
theorem dX10_readTerm_38 : decode cX10_readTerm 38 = .ok (.imul, 1) := by decide +kernel
theorem dX10_readTerm_39 : decode cX10_readTerm 39 = .ok (.aload_n 0, 1) := by decide +kernel
theorem dX10_readTerm_40 : decode cX10_readTerm 40 = .ok (.getfield 37, 3) := by decide +kernel
theorem dX10_readTerm_43 : decode cX10_readTerm 43 = .ok (.aload_n 0, 1) := by decide +kernel
theorem dX10_readTerm_44 : decode cX10_readTerm 44 = .ok (.getfield 185, 3) := by decide +kernel
theorem dX10_readTerm_47 : decode cX10_readTerm 47 = .ok (.iaload, 1) := by decide +kernel
theorem dX10_readTerm_48 : decode cX10_readTerm 48 = .ok (.iadd, 1) := by decide +kernel
theorem dX10_readTerm_49 : decode cX10_readTerm 49 = .ok (.bipush 48, 2) := by decide +kernel
theorem dX10_readTerm_51 : decode cX10_readTerm 51 = .ok (.isub, 1) := by decide +kernel
theorem dX10_readTerm_52 : decode cX10_readTerm 52 = .ok (.istore_n 3, 1) := by decide +kernel
theorem dX10_readTerm_53 : decode cX10_readTerm 53 = .ok (.aload_n 0, 1) := by decide +kernel
theorem dX10_readTerm_54 : decode cX10_readTerm 54 = .ok (.dup, 1) := by decide +kernel
theorem dX10_readTerm_55 : decode cX10_readTerm 55 = .ok (.getfield 185, 3) := by decide +kernel
theorem dX10_readTerm_58 : decode cX10_readTerm 58 = .ok (.iconst 1, 1) := by decide +kernel
theorem dX10_readTerm_59 : decode cX10_readTerm 59 = .ok (.iadd, 1) := by decide +kernel
theorem dX10_readTerm_60 : decode cX10_readTerm 60 = .ok (.putfield 185, 3) := by decide +kernel
theorem dX10_readTerm_63 : decode cX10_readTerm 63 = .ok (.iinc 4 1, 3) := by decide +kernel
theorem dX10_readTerm_66 : decode cX10_readTerm 66 = .ok (.goto (-48), 3) := by decide +kernel
theorem dX10_readTerm_69 : decode cX10_readTerm 69 = .ok (.aload_n 0, 1) := by decide +kernel
theorem dX10_readTerm_70 : decode cX10_readTerm 70 = .ok (.bipush 91, 2) := by decide +kernel
theorem dX10_readTerm_72 : decode cX10_readTerm 72 = .ok (.bipush 91, 2) := by decide +kernel
theorem dX10_readTerm_74 : decode cX10_readTerm 74 = .ok (.invokevirtual 188, 3) := by decide +kernel
theorem dX10_readTerm_77 : decode cX10_readTerm 77 = .ok (.ifCond .ne 5, 3) := by decide +kernel
theorem dX10_readTerm_80 : decode cX10_readTerm 80 = .ok (.iconst 0, 1) := by decide +kernel
theorem dX10_readTerm_81 : decode cX10_readTerm 81 = .ok (.ireturn, 1) := by decide +kernel
theorem dX10_readTerm_82 : decode cX10_readTerm 82 = .ok (.aload_n 0, 1) := by decide +kernel
theorem dX10_readTerm_83 : decode cX10_readTerm 83 = .ok (.dup, 1) := by decide +kernel
theorem dX10_readTerm_84 : decode cX10_readTerm 84 = .ok (.getfield 185, 3) := by decide +kernel
theorem dX10_readTerm_87 : decode cX10_readTerm 87 = .ok (.iconst 1, 1) := by decide +kernel
theorem dX10_readTerm_88 : decode cX10_readTerm 88 = .ok (.iadd, 1) := by decide +kernel
theorem dX10_readTerm_89 : decode cX10_readTerm 89 = .ok (.putfield 185, 3) := by decide +kernel
theorem dX10_readTerm_92 : decode cX10_readTerm 92 = .ok (.aload_n 0, 1) := by decide +kernel
theorem dX10_readTerm_93 : decode cX10_readTerm 93 = .ok (.invokevirtual 83, 3) := by decide +kernel
theorem dX10_readTerm_96 : decode cX10_readTerm 96 = .ok (.bipush 8, 2) := by decide +kernel
theorem dX10_readTerm_98 : decode cX10_readTerm 98 = .ok (.istore 4, 2) := by decide +kernel
theorem dX10_readTerm_100 : decode cX10_readTerm 100 = .ok (.iconst 0, 1) := by decide +kernel
theorem dX10_readTerm_101 : decode cX10_readTerm 101 = .ok (.istore 5, 2) := by decide +kernel
theorem dX10_readTerm_103 : decode cX10_readTerm 103 = .ok (.iconst 0, 1) := by decide +kernel
theorem dX10_readTerm_104 : decode cX10_readTerm 104 = .ok (.istore 6, 2) := by decide +kernel
theorem dX10_readTerm_106 : decode cX10_readTerm 106 = .ok (.iload_n 2, 1) := by decide +kernel
theorem dX10_readTerm_107 : decode cX10_readTerm 107 = .ok (.ifCond .eq 8, 3) := by decide +kernel
theorem dX10_readTerm_110 : decode cX10_readTerm 110 = .ok (.bipush 8, 2) := by decide +kernel
theorem dX10_readTerm_112 : decode cX10_readTerm 112 = .ok (.goto 7, 3) := by decide +kernel
theorem dX10_readTerm_115 : decode cX10_readTerm 115 = .ok (.aload_n 0, 1) := by decide +kernel
theorem dX10_readTerm_116 : decode cX10_readTerm 116 = .ok (.getfield 191, 3) := by decide +kernel
theorem dX10_readTerm_119 : decode cX10_readTerm 119 = .ok (.istore 7, 2) := by decide +kernel
theorem dX10_readTerm_121 : decode cX10_readTerm 121 = .ok (.aload_n 0, 1) := by decide +kernel
theorem dX10_readTerm_122 : decode cX10_readTerm 122 = .ok (.bipush 49, 2) := by decide +kernel
theorem dX10_readTerm_124 : decode cX10_readTerm 124 = .ok (.bipush 48, 2) := by decide +kernel
theorem dX10_readTerm_126 : decode cX10_readTerm 126 = .ok (.iload 4, 2) := by decide +kernel
theorem dX10_readTerm_128 : decode cX10_readTerm 128 = .ok (.iload 7, 2) := by decide +kernel
theorem dX10_readTerm_130 : decode cX10_readTerm 130 = .ok (.iload 5, 2) := by decide +kernel
theorem dX10_readTerm_132 : decode cX10_readTerm 132 = .ok (.isub, 1) := by decide +kernel
theorem dX10_readTerm_133 : decode cX10_readTerm 133 = .ok (.invokestatic 67, 3) := by decide +kernel
theorem dX10_readTerm_136 : decode cX10_readTerm 136 = .ok (.iadd, 1) := by decide +kernel
theorem dX10_readTerm_137 : decode cX10_readTerm 137 = .ok (.invokevirtual 188, 3) := by decide +kernel
theorem dX10_readTerm_140 : decode cX10_readTerm 140 = .ok (.ifCond .eq 49, 3) := by decide +kernel
theorem dX10_readTerm_143 : decode cX10_readTerm 143 = .ok (.aload_n 0, 1) := by decide +kernel
theorem dX10_readTerm_144 : decode cX10_readTerm 144 = .ok (.getfield 37, 3) := by decide +kernel
theorem dX10_readTerm_147 : decode cX10_readTerm 147 = .ok (.aload_n 0, 1) := by decide +kernel
theorem dX10_readTerm_148 : decode cX10_readTerm 148 = .ok (.getfield 185, 3) := by decide +kernel
theorem dX10_readTerm_151 : decode cX10_readTerm 151 = .ok (.iaload, 1) := by decide +kernel
theorem dX10_readTerm_152 : decode cX10_readTerm 152 = .ok (.bipush 48, 2) := by decide +kernel
theorem dX10_readTerm_154 : decode cX10_readTerm 154 = .ok (.isub, 1) := by decide +kernel
theorem dX10_readTerm_155 : decode cX10_readTerm 155 = .ok (.istore 4, 2) := by decide +kernel
theorem dX10_readTerm_157 : decode cX10_readTerm 157 = .ok (.iload 5, 2) := by decide +kernel
theorem dX10_readTerm_159 : decode cX10_readTerm 159 = .ok (.iload 4, 2) := by decide +kernel
theorem dX10_readTerm_161 : decode cX10_readTerm 161 = .ok (.iadd, 1) := by decide +kernel
theorem dX10_readTerm_162 : decode cX10_readTerm 162 = .ok (.istore 5, 2) := by decide +kernel
theorem dX10_readTerm_164 : decode cX10_readTerm 164 = .ok (.aload_n 0, 1) := by decide +kernel
theorem dX10_readTerm_165 : decode cX10_readTerm 165 = .ok (.getfield 49, 3) := by decide +kernel
theorem dX10_readTerm_168 : decode cX10_readTerm 168 = .ok (.iload 6, 2) := by decide +kernel
theorem dX10_readTerm_170 : decode cX10_readTerm 170 = .ok (.iload 4, 2) := by decide +kernel
theorem dX10_readTerm_172 : decode cX10_readTerm 172 = .ok (.iastore, 1) := by decide +kernel
theorem dX10_readTerm_173 : decode cX10_readTerm 173 = .ok (.iinc 6 1, 3) := by decide +kernel
theorem dX10_readTerm_176 : decode cX10_readTerm 176 = .ok (.aload_n 0, 1) := by decide +kernel
theorem dX10_readTerm_177 : decode cX10_readTerm 177 = .ok (.dup, 1) := by decide +kernel
theorem dX10_readTerm_178 : decode cX10_readTerm 178 = .ok (.getfield 185, 3) := by decide +kernel
theorem dX10_readTerm_181 : decode cX10_readTerm 181 = .ok (.iconst 1, 1) := by decide +kernel
theorem dX10_readTerm_182 : decode cX10_readTerm 182 = .ok (.iadd, 1) := by decide +kernel
theorem dX10_readTerm_183 : decode cX10_readTerm 183 = .ok (.putfield 185, 3) := by decide +kernel
theorem dX10_readTerm_186 : decode cX10_readTerm 186 = .ok (.goto (-65), 3) := by decide +kernel
theorem dX10_readTerm_189 : decode cX10_readTerm 189 = .ok (.aload_n 0, 1) := by decide +kernel
theorem dX10_readTerm_190 : decode cX10_readTerm 190 = .ok (.bipush 93, 2) := by decide +kernel
theorem dX10_readTerm_192 : decode cX10_readTerm 192 = .ok (.bipush 93, 2) := by decide +kernel
theorem dX10_readTerm_194 : decode cX10_readTerm 194 = .ok (.invokevirtual 188, 3) := by decide +kernel
theorem dX10_readTerm_197 : decode cX10_readTerm 197 = .ok (.ifCond .eq 16, 3) := by decide +kernel
theorem dX10_readTerm_200 : decode cX10_readTerm 200 = .ok (.iload_n 2, 1) := by decide +kernel
theorem dX10_readTerm_201 : decode cX10_readTerm 201 = .ok (.ifCond .ne 14, 3) := by decide +kernel
theorem dX10_readTerm_204 : decode cX10_readTerm 204 = .ok (.iload 5, 2) := by decide +kernel
theorem dX10_readTerm_206 : decode cX10_readTerm 206 = .ok (.aload_n 0, 1) := by decide +kernel
theorem dX10_readTerm_207 : decode cX10_readTerm 207 = .ok (.getfield 191, 3) := by decide +kernel
theorem dX10_readTerm_210 : decode cX10_readTerm 210 = .ok (.if_icmp .eq 5, 3) := by decide +kernel
theorem dX10_readTerm_213 : decode cX10_readTerm 213 = .ok (.iconst 0, 1) := by decide +kernel
theorem dX10_readTerm_214 : decode cX10_readTerm 214 = .ok (.ireturn, 1) := by decide +kernel
theorem dX10_readTerm_215 : decode cX10_readTerm 215 = .ok (.aload_n 0, 1) := by decide +kernel
theorem dX10_readTerm_216 : decode cX10_readTerm 216 = .ok (.dup, 1) := by decide +kernel
theorem dX10_readTerm_217 : decode cX10_readTerm 217 = .ok (.getfield 185, 3) := by decide +kernel
theorem dX10_readTerm_220 : decode cX10_readTerm 220 = .ok (.iconst 1, 1) := by decide +kernel
theorem dX10_readTerm_221 : decode cX10_readTerm 221 = .ok (.iadd, 1) := by decide +kernel
theorem dX10_readTerm_222 : decode cX10_readTerm 222 = .ok (.putfield 185, 3) := by decide +kernel
theorem dX10_readTerm_225 : decode cX10_readTerm 225 = .ok (.aload_n 0, 1) := by decide +kernel
theorem dX10_readTerm_226 : decode cX10_readTerm 226 = .ok (.iload 5, 2) := by decide +kernel
theorem dX10_readTerm_228 : decode cX10_readTerm 228 = .ok (.putfield 191, 3) := by decide +kernel
theorem dX10_readTerm_231 : decode cX10_readTerm 231 = .ok (.aload_n 0, 1) := by decide +kernel
theorem dX10_readTerm_232 : decode cX10_readTerm 232 = .ok (.getfield 52, 3) := by decide +kernel
theorem dX10_readTerm_235 : decode cX10_readTerm 235 = .ok (.aload_n 0, 1) := by decide +kernel
theorem dX10_readTerm_236 : decode cX10_readTerm 236 = .ok (.invokevirtual 89, 3) := by decide +kernel
theorem dX10_readTerm_239 : decode cX10_readTerm 239 = .ok (.aload_n 0, 1) := by decide +kernel
theorem dX10_readTerm_240 : decode cX10_readTerm 240 = .ok (.getfield 7, 3) := by decide +kernel
theorem dX10_readTerm_243 : decode cX10_readTerm 243 = .ok (.iload 5, 2) := by decide +kernel
theorem dX10_readTerm_245 : decode cX10_readTerm 245 = .ok (.iaload, 1) := by decide +kernel
theorem dX10_readTerm_246 : decode cX10_readTerm 246 = .ok (.isub, 1) := by decide +kernel
theorem dX10_readTerm_247 : decode cX10_readTerm 247 = .ok (.dup2, 1) := by decide +kernel
theorem dX10_readTerm_248 : decode cX10_readTerm 248 = .ok (.laload, 1) := by decide +kernel
theorem dX10_readTerm_249 : decode cX10_readTerm 249 = .ok (.iload_n 1, 1) := by decide +kernel
theorem dX10_readTerm_250 : decode cX10_readTerm 250 = .ok (.iload_n 3, 1) := by decide +kernel
theorem dX10_readTerm_251 : decode cX10_readTerm 251 = .ok (.imul, 1) := by decide +kernel
theorem dX10_readTerm_252 : decode cX10_readTerm 252 = .ok (.i2l, 1) := by decide +kernel
theorem dX10_readTerm_253 : decode cX10_readTerm 253 = .ok (.ladd, 1) := by decide +kernel
theorem dX10_readTerm_254 : decode cX10_readTerm 254 = .ok (.lastore, 1) := by decide +kernel
theorem dX10_readTerm_255 : decode cX10_readTerm 255 = .ok (.iconst 1, 1) := by decide +kernel
theorem dX10_readTerm_256 : decode cX10_readTerm 256 = .ok (.ireturn, 1) := by decide +kernel
theorem dX10_readTerms_0 : decode cX10_readTerms 0 = .ok (.aload_n 0, 1) := by decide +kernel
theorem dX10_readTerms_1 : decode cX10_readTerms 1 = .ok (.iconst 0, 1) := by decide +kernel
theorem dX10_readTerms_2 : decode cX10_readTerms 2 = .ok (.putfield 185, 3) := by decide +kernel
theorem dX10_readTerms_5 : decode cX10_readTerms 5 = .ok (.aload_n 0, 1) := by decide +kernel
theorem dX10_readTerms_6 : decode cX10_readTerms 6 = .ok (.invokevirtual 194, 3) := by decide +kernel
theorem dX10_readTerms_9 : decode cX10_readTerms 9 = .ok (.iconst 1, 1) := by decide +kernel
theorem dX10_readTerms_10 : decode cX10_readTerms 10 = .ok (.istore_n 1, 1) := by decide +kernel
theorem dX10_readTerms_11 : decode cX10_readTerms 11 = .ok (.aload_n 0, 1) := by decide +kernel
theorem dX10_readTerms_12 : decode cX10_readTerms 12 = .ok (.bipush 45, 2) := by decide +kernel
theorem dX10_readTerms_14 : decode cX10_readTerms 14 = .ok (.bipush 45, 2) := by decide +kernel
theorem dX10_readTerms_16 : decode cX10_readTerms 16 = .ok (.invokevirtual 188, 3) := by decide +kernel
theorem dX10_readTerms_19 : decode cX10_readTerms 19 = .ok (.ifCond .eq 15, 3) := by decide +kernel
theorem dX10_readTerms_22 : decode cX10_readTerms 22 = .ok (.iconst (-1), 1) := by decide +kernel
theorem dX10_readTerms_23 : decode cX10_readTerms 23 = .ok (.istore_n 1, 1) := by decide +kernel
theorem dX10_readTerms_24 : decode cX10_readTerms 24 = .ok (.aload_n 0, 1) := by decide +kernel
theorem dX10_readTerms_25 : decode cX10_readTerms 25 = .ok (.dup, 1) := by decide +kernel
theorem dX10_readTerms_26 : decode cX10_readTerms 26 = .ok (.getfield 185, 3) := by decide +kernel
theorem dX10_readTerms_29 : decode cX10_readTerms 29 = .ok (.iconst 1, 1) := by decide +kernel
theorem dX10_readTerms_30 : decode cX10_readTerms 30 = .ok (.iadd, 1) := by decide +kernel
theorem dX10_readTerms_31 : decode cX10_readTerms 31 = .ok (.putfield 185, 3) := by decide +kernel
theorem dX10_readTerms_34 : decode cX10_readTerms 34 = .ok (.aload_n 0, 1) := by decide +kernel
theorem dX10_readTerms_35 : decode cX10_readTerms 35 = .ok (.iload_n 1, 1) := by decide +kernel
theorem dX10_readTerms_36 : decode cX10_readTerms 36 = .ok (.iconst 1, 1) := by decide +kernel
theorem dX10_readTerms_37 : decode cX10_readTerms 37 = .ok (.invokevirtual 197, 3) := by decide +kernel
theorem dX10_readTerms_40 : decode cX10_readTerms 40 = .ok (.ifCond .ne 5, 3) := by decide +kernel
theorem dX10_readTerms_43 : decode cX10_readTerms 43 = .ok (.iconst 0, 1) := by decide +kernel
theorem dX10_readTerms_44 : decode cX10_readTerms 44 = .ok (.ireturn, 1) := by decide +kernel
theorem dX10_readTerms_45 : decode cX10_readTerms 45 = .ok (.aload_n 0, 1) := by decide +kernel
theorem dX10_readTerms_46 : decode cX10_readTerms 46 = .ok (.bipush 43, 2) := by decide +kernel
theorem dX10_readTerms_48 : decode cX10_readTerms 48 = .ok (.bipush 43, 2) := by decide +kernel
theorem dX10_readTerms_50 : decode cX10_readTerms 50 = .ok (.invokevirtual 188, 3) := by decide +kernel
theorem dX10_readTerms_53 : decode cX10_readTerms 53 = .ok (.ifCond .ne 14, 3) := by decide +kernel
theorem dX10_readTerms_56 : decode cX10_readTerms 56 = .ok (.aload_n 0, 1) := by decide +kernel
theorem dX10_readTerms_57 : decode cX10_readTerms 57 = .ok (.bipush 45, 2) := by decide +kernel
theorem dX10_readTerms_59 : decode cX10_readTerms 59 = .ok (.bipush 45, 2) := by decide +kernel
theorem dX10_readTerms_61 : decode cX10_readTerms 61 = .ok (.invokevirtual 188, 3) := by decide +kernel
theorem dX10_readTerms_64 : decode cX10_readTerms 64 = .ok (.ifCond .eq 44, 3) := by decide +kernel
theorem dX10_readTerms_67 : decode cX10_readTerms 67 = .ok (.aload_n 0, 1) := by decide +kernel
theorem dX10_readTerms_68 : decode cX10_readTerms 68 = .ok (.getfield 37, 3) := by decide +kernel
theorem dX10_readTerms_71 : decode cX10_readTerms 71 = .ok (.aload_n 0, 1) := by decide +kernel
theorem dX10_readTerms_72 : decode cX10_readTerms 72 = .ok (.getfield 185, 3) := by decide +kernel
theorem dX10_readTerms_75 : decode cX10_readTerms 75 = .ok (.iaload, 1) := by decide +kernel
theorem dX10_readTerms_76 : decode cX10_readTerms 76 = .ok (.bipush 45, 2) := by decide +kernel
theorem dX10_readTerms_78 : decode cX10_readTerms 78 = .ok (.if_icmp .ne 7, 3) := by decide +kernel
theorem dX10_readTerms_81 : decode cX10_readTerms 81 = .ok (.iconst (-1), 1) := by decide +kernel
theorem dX10_readTerms_82 : decode cX10_readTerms 82 = .ok (.goto 4, 3) := by decide +kernel
