theorem dX3_init_0 : decode cX3_init 0 = .ok (.aload_n 0, 1) := by decide +kernel
theorem dX3_init_1 : decode cX3_init 1 = .ok (.invokespecial 3, 3) := by decide +kernel
theorem dX3_init_4 : decode cX3_init 4 = .ok (.aload_n 0, 1) := by decide +kernel
theorem dX3_init_5 : decode cX3_init 5 = .ok (.bipush 72, 2) := by decide +kernel
theorem dX3_init_7 : decode cX3_init 7 = .ok (.newarray .int, 2) := by decide +kernel
theorem dX3_init_9 : decode cX3_init 9 = .ok (.putfield 11, 3) := by decide +kernel
theorem dX3_init_12 : decode cX3_init 12 = .ok (.aload_n 0, 1) := by decide +kernel
theorem dX3_init_13 : decode cX3_init 13 = .ok (.aload_n 1, 1) := by decide +kernel
theorem dX3_init_14 : decode cX3_init 14 = .ok (.putfield 15, 3) := by decide +kernel
theorem dX3_init_17 : decode cX3_init 17 = .ok (.aload_n 0, 1) := by decide +kernel
theorem dX3_init_18 : decode cX3_init 18 = .ok (.aload_n 2, 1) := by decide +kernel
theorem dX3_init_19 : decode cX3_init 19 = .ok (.putfield 19, 3) := by decide +kernel
theorem dX3_init_22 : decode cX3_init 22 = .ok (.return_, 1) := by decide +kernel
theorem dX3_areFull_0 : decode cX3_areFull 0 = .ok (.aload_n 0, 1) := by decide +kernel
theorem dX3_areFull_1 : decode cX3_areFull 1 = .ok (.getfield 23, 3) := by decide +kernel
theorem dX3_areFull_4 : decode cX3_areFull 4 = .ok (.bipush 72, 2) := by decide +kernel
theorem dX3_areFull_6 : decode cX3_areFull 6 = .ok (.if_icmp .lt 7, 3) := by decide +kernel
theorem dX3_areFull_9 : decode cX3_areFull 9 = .ok (.iconst 1, 1) := by decide +kernel
theorem dX3_areFull_10 : decode cX3_areFull 10 = .ok (.goto 4, 3) := by decide +kernel
theorem dX3_areFull_13 : decode cX3_areFull 13 = .ok (.iconst 0, 1) := by decide +kernel
theorem dX3_areFull_14 : decode cX3_areFull 14 = .ok (.ireturn, 1) := by decide +kernel
theorem dX3_howMany_0 : decode cX3_howMany 0 = .ok (.aload_n 0, 1) := by decide +kernel
theorem dX3_howMany_1 : decode cX3_howMany 1 = .ok (.getfield 23, 3) := by decide +kernel
theorem dX3_howMany_4 : decode cX3_howMany 4 = .ok (.ireturn, 1) := by decide +kernel
theorem dX3_add_0 : decode cX3_add 0 = .ok (.aload_n 0, 1) := by decide +kernel
theorem dX3_add_1 : decode cX3_add 1 = .ok (.getfield 23, 3) := by decide +kernel
theorem dX3_add_4 : decode cX3_add 4 = .ok (.ifCond .lt 32, 3) := by decide +kernel
theorem dX3_add_7 : decode cX3_add 7 = .ok (.aload_n 0, 1) := by decide +kernel
theorem dX3_add_8 : decode cX3_add 8 = .ok (.getfield 23, 3) := by decide +kernel
theorem dX3_add_11 : decode cX3_add 11 = .ok (.bipush 72, 2) := by decide +kernel
theorem dX3_add_13 : decode cX3_add 13 = .ok (.if_icmp .ge 23, 3) := by decide +kernel
theorem dX3_add_16 : decode cX3_add 16 = .ok (.aload_n 0, 1) := by decide +kernel
theorem dX3_add_17 : decode cX3_add 17 = .ok (.getfield 11, 3) := by decide +kernel
theorem dX3_add_20 : decode cX3_add 20 = .ok (.aload_n 0, 1) := by decide +kernel
theorem dX3_add_21 : decode cX3_add 21 = .ok (.getfield 23, 3) := by decide +kernel
theorem dX3_add_24 : decode cX3_add 24 = .ok (.iload_n 1, 1) := by decide +kernel
theorem dX3_add_25 : decode cX3_add 25 = .ok (.iastore, 1) := by decide +kernel
theorem dX3_add_26 : decode cX3_add 26 = .ok (.aload_n 0, 1) := by decide +kernel
theorem dX3_add_27 : decode cX3_add 27 = .ok (.dup, 1) := by decide +kernel
theorem dX3_add_28 : decode cX3_add 28 = .ok (.getfield 23, 3) := by decide +kernel
theorem dX3_add_31 : decode cX3_add 31 = .ok (.iconst 1, 1) := by decide +kernel
theorem dX3_add_32 : decode cX3_add 32 = .ok (.iadd, 1) := by decide +kernel
theorem dX3_add_33 : decode cX3_add 33 = .ok (.putfield 23, 3) := by decide +kernel
theorem dX3_add_36 : decode cX3_add 36 = .ok (.return_, 1) := by decide +kernel
theorem dX3_forget_0 : decode cX3_forget 0 = .ok (.aload_n 0, 1) := by decide +kernel
theorem dX3_forget_1 : decode cX3_forget 1 = .ok (.iconst 0, 1) := by decide +kernel
theorem dX3_forget_2 : decode cX3_forget 2 = .ok (.putfield 23, 3) := by decide +kernel
theorem dX3_forget_5 : decode cX3_forget 5 = .ok (.return_, 1) := by decide +kernel
theorem dX3_readToDraft_0 : decode cX3_readToDraft 0 = .ok (.aload_n 0, 1) := by decide +kernel
theorem dX3_readToDraft_1 : decode cX3_readToDraft 1 = .ok (.iconst 0, 1) := by decide +kernel
theorem dX3_readToDraft_2 : decode cX3_readToDraft 2 = .ok (.putfield 27, 3) := by decide +kernel
theorem dX3_readToDraft_5 : decode cX3_readToDraft 5 = .ok (.aload_n 0, 1) := by decide +kernel
theorem dX3_readToDraft_6 : decode cX3_readToDraft 6 = .ok (.iconst (-1), 1) := by decide +kernel
theorem dX3_readToDraft_7 : decode cX3_readToDraft 7 = .ok (.putfield 30, 3) := by decide +kernel
theorem dX3_readToDraft_10 : decode cX3_readToDraft 10 = .ok (.aload_n 0, 1) := by decide +kernel
theorem dX3_readToDraft_11 : decode cX3_readToDraft 11 = .ok (.bipush 45, 2) := by decide +kernel
theorem dX3_readToDraft_13 : decode cX3_readToDraft 13 = .ok (.invokevirtual 33, 3) := by decide +kernel
theorem dX3_readToDraft_16 : decode cX3_readToDraft 16 = .ok (.istore_n 1, 1) := by decide +kernel
theorem dX3_readToDraft_17 : decode cX3_readToDraft 17 = .ok (.iconst 0, 1) := by decide +kernel
theorem dX3_readToDraft_18 : decode cX3_readToDraft 18 = .ok (.istore_n 2, 1) := by decide +kernel
theorem dX3_readToDraft_19 : decode cX3_readToDraft 19 = .ok (.iload_n 2, 1) := by decide +kernel
theorem dX3_readToDraft_20 : decode cX3_readToDraft 20 = .ok (.bipush 72, 2) := by decide +kernel
theorem dX3_readToDraft_22 : decode cX3_readToDraft 22 = .ok (.if_icmp .ge 60, 3) := by decide +kernel
theorem dX3_readToDraft_25 : decode cX3_readToDraft 25 = .ok (.aload_n 0, 1) := by decide +kernel
theorem dX3_readToDraft_26 : decode cX3_readToDraft 26 = .ok (.iload_n 1, 1) := by decide +kernel
theorem dX3_readToDraft_27 : decode cX3_readToDraft 27 = .ok (.invokevirtual 37, 3) := by decide +kernel
theorem dX3_readToDraft_30 : decode cX3_readToDraft 30 = .ok (.ifCond .ne 8, 3) := by decide +kernel
theorem dX3_readToDraft_33 : decode cX3_readToDraft 33 = .ok (.aload_n 0, 1) := by decide +kernel
theorem dX3_readToDraft_34 : decode cX3_readToDraft 34 = .ok (.getfield 27, 3) := by decide +kernel
theorem dX3_readToDraft_37 : decode cX3_readToDraft 37 = .ok (.ireturn, 1) := by decide +kernel
theorem dX3_readToDraft_38 : decode cX3_readToDraft 38 = .ok (.aload_n 0, 1) := by decide +kernel
theorem dX3_readToDraft_39 : decode cX3_readToDraft 39 = .ok (.getfield 27, 3) := by decide +kernel
theorem dX3_readToDraft_42 : decode cX3_readToDraft 42 = .ok (.aload_n 0, 1) := by decide +kernel
theorem dX3_readToDraft_43 : decode cX3_readToDraft 43 = .ok (.getfield 23, 3) := by decide +kernel
theorem dX3_readToDraft_46 : decode cX3_readToDraft 46 = .ok (.if_icmp .ne 5, 3) := by decide +kernel
theorem dX3_readToDraft_49 : decode cX3_readToDraft 49 = .ok (.iconst (-1), 1) := by decide +kernel
theorem dX3_readToDraft_50 : decode cX3_readToDraft 50 = .ok (.ireturn, 1) := by decide +kernel
theorem dX3_readToDraft_51 : decode cX3_readToDraft 51 = .ok (.aload_n 0, 1) := by decide +kernel
theorem dX3_readToDraft_52 : decode cX3_readToDraft 52 = .ok (.bipush 45, 2) := by decide +kernel
theorem dX3_readToDraft_54 : decode cX3_readToDraft 54 = .ok (.invokevirtual 33, 3) := by decide +kernel
theorem dX3_readToDraft_57 : decode cX3_readToDraft 57 = .ok (.istore_n 1, 1) := by decide +kernel
theorem dX3_readToDraft_58 : decode cX3_readToDraft 58 = .ok (.iload_n 1, 1) := by decide +kernel
theorem dX3_readToDraft_59 : decode cX3_readToDraft 59 = .ok (.ifCond .ne 17, 3) := by decide +kernel
theorem dX3_readToDraft_62 : decode cX3_readToDraft 62 = .ok (.aload_n 0, 1) := by decide +kernel
theorem dX3_readToDraft_63 : decode cX3_readToDraft 63 = .ok (.bipush 43, 2) := by decide +kernel
theorem dX3_readToDraft_65 : decode cX3_readToDraft 65 = .ok (.invokevirtual 33, 3) := by decide +kernel
theorem dX3_readToDraft_68 : decode cX3_readToDraft 68 = .ok (.ifCond .ne 8, 3) := by decide +kernel
theorem dX3_readToDraft_71 : decode cX3_readToDraft 71 = .ok (.aload_n 0, 1) := by decide +kernel
theorem dX3_readToDraft_72 : decode cX3_readToDraft 72 = .ok (.getfield 27, 3) := by decide +kernel
theorem dX3_readToDraft_75 : decode cX3_readToDraft 75 = .ok (.ireturn, 1) := by decide +kernel
theorem dX3_readToDraft_76 : decode cX3_readToDraft 76 = .ok (.iinc 2 1, 3) := by decide +kernel
theorem dX3_readToDraft_79 : decode cX3_readToDraft 79 = .ok (.goto (-60), 3) := by decide +kernel
theorem dX3_readToDraft_82 : decode cX3_readToDraft 82 = .ok (.aload_n 0, 1) := by decide +kernel
theorem dX3_readToDraft_83 : decode cX3_readToDraft 83 = .ok (.getfield 27, 3) := by decide +kernel
theorem dX3_readToDraft_86 : decode cX3_readToDraft 86 = .ok (.ireturn, 1) := by decide +kernel
theorem dX3_nextLetter_0 : decode cX3_nextLetter 0 = .ok (.aload_n 0, 1) := by decide +kernel
theorem dX3_nextLetter_1 : decode cX3_nextLetter 1 = .ok (.getfield 27, 3) := by decide +kernel
theorem dX3_nextLetter_4 : decode cX3_nextLetter 4 = .ok (.ifCond .lt 35, 3) := by decide +kernel
theorem dX3_nextLetter_7 : decode cX3_nextLetter 7 = .ok (.aload_n 0, 1) := by decide +kernel
theorem dX3_nextLetter_8 : decode cX3_nextLetter 8 = .ok (.getfield 27, 3) := by decide +kernel
theorem dX3_nextLetter_11 : decode cX3_nextLetter 11 = .ok (.aload_n 0, 1) := by decide +kernel
theorem dX3_nextLetter_12 : decode cX3_nextLetter 12 = .ok (.getfield 23, 3) := by decide +kernel
theorem dX3_nextLetter_15 : decode cX3_nextLetter 15 = .ok (.if_icmp .ge 24, 3) := by decide +kernel
theorem dX3_nextLetter_18 : decode cX3_nextLetter 18 = .ok (.aload_n 0, 1) := by decide +kernel
theorem dX3_nextLetter_19 : decode cX3_nextLetter 19 = .ok (.getfield 27, 3) := by decide +kernel
theorem dX3_nextLetter_22 : decode cX3_nextLetter 22 = .ok (.bipush 72, 2) := by decide +kernel
theorem dX3_nextLetter_24 : decode cX3_nextLetter 24 = .ok (.if_icmp .ge 15, 3) := by decide +kernel
theorem dX3_nextLetter_27 : decode cX3_nextLetter 27 = .ok (.aload_n 0, 1) := by decide +kernel
theorem dX3_nextLetter_28 : decode cX3_nextLetter 28 = .ok (.getfield 11, 3) := by decide +kernel
theorem dX3_nextLetter_31 : decode cX3_nextLetter 31 = .ok (.aload_n 0, 1) := by decide +kernel
theorem dX3_nextLetter_32 : decode cX3_nextLetter 32 = .ok (.getfield 27, 3) := by decide +kernel
theorem dX3_nextLetter_35 : decode cX3_nextLetter 35 = .ok (.iaload, 1) := by decide +kernel
theorem dX3_nextLetter_36 : decode cX3_nextLetter 36 = .ok (.goto 4, 3) := by decide +kernel
theorem dX3_nextLetter_39 : decode cX3_nextLetter 39 = .ok (.iconst (-1), 1) := by decide +kernel
theorem dX3_nextLetter_40 : decode cX3_nextLetter 40 = .ok (.ireturn, 1) := by decide +kernel
theorem dX3_passes_0 : decode cX3_passes 0 = .ok (.aload_n 0, 1) := by decide +kernel
theorem dX3_passes_1 : decode cX3_passes 1 = .ok (.invokevirtual 41, 3) := by decide +kernel
theorem dX3_passes_4 : decode cX3_passes 4 = .ok (.iload_n 1, 1) := by decide +kernel
theorem dX3_passes_5 : decode cX3_passes 5 = .ok (.if_icmp .ne 7, 3) := by decide +kernel
theorem dX3_passes_8 : decode cX3_passes 8 = .ok (.iconst 1, 1) := by decide +kernel
theorem dX3_passes_9 : decode cX3_passes 9 = .ok (.goto 4, 3) := by decide +kernel
theorem dX3_passes_12 : decode cX3_passes 12 = .ok (.iconst 0, 1) := by decide +kernel
theorem dX3_passes_13 : decode cX3_passes 13 = .ok (.istore_n 2, 1) := by decide +kernel
theorem dX3_passes_14 : decode cX3_passes 14 = .ok (.iload_n 2, 1) := by decide +kernel
theorem dX3_passes_15 : decode cX3_passes 15 = .ok (.ifCond .eq 13, 3) := by decide +kernel
theorem dX3_passes_18 : decode cX3_passes 18 = .ok (.aload_n 0, 1) := by decide +kernel
theorem dX3_passes_19 : decode cX3_passes 19 = .ok (.dup, 1) := by decide +kernel
theorem dX3_passes_20 : decode cX3_passes 20 = .ok (.getfield 27, 3) := by decide +kernel
theorem dX3_passes_23 : decode cX3_passes 23 = .ok (.iconst 1, 1) := by decide +kernel
theorem dX3_passes_24 : decode cX3_passes 24 = .ok (.iadd, 1) := by decide +kernel
theorem dX3_passes_25 : decode cX3_passes 25 = .ok (.putfield 27, 3) := by decide +kernel
theorem dX3_passes_28 : decode cX3_passes 28 = .ok (.iload_n 2, 1) := by decide +kernel
theorem dX3_passes_29 : decode cX3_passes 29 = .ok (.ireturn, 1) := by decide +kernel
theorem dX3_passesTerm_0 : decode cX3_passesTerm 0 = .ok (.aload_n 0, 1) := by decide +kernel
theorem dX3_passesTerm_1 : decode cX3_passesTerm 1 = .ok (.invokevirtual 45, 3) := by decide +kernel
theorem dX3_passesTerm_4 : decode cX3_passesTerm 4 = .ok (.istore_n 2, 1) := by decide +kernel
theorem dX3_passesTerm_5 : decode cX3_passesTerm 5 = .ok (.aload_n 0, 1) := by decide +kernel
theorem dX3_passesTerm_6 : decode cX3_passesTerm 6 = .ok (.bipush 91, 2) := by decide +kernel
theorem dX3_passesTerm_8 : decode cX3_passesTerm 8 = .ok (.invokevirtual 33, 3) := by decide +kernel
theorem dX3_passesTerm_11 : decode cX3_passesTerm 11 = .ok (.ifCond .ne 5, 3) := by decide +kernel
theorem dX3_passesTerm_14 : decode cX3_passesTerm 14 = .ok (.iconst 0, 1) := by decide +kernel
theorem dX3_passesTerm_15 : decode cX3_passesTerm 15 = .ok (.ireturn, 1) := by decide +kernel
theorem dX3_passesTerm_16 : decode cX3_passesTerm 16 = .ok (.aload_n 0, 1) := by decide +kernel
theorem dX3_passesTerm_17 : decode cX3_passesTerm 17 = .ok (.invokevirtual 48, 3) := by decide +kernel
theorem dX3_passesTerm_20 : decode cX3_passesTerm 20 = .ok (.istore_n 3, 1) := by decide +kernel
theorem dX3_passesTerm_21 : decode cX3_passesTerm 21 = .ok (.aload_n 0, 1) := by decide +kernel
theorem dX3_passesTerm_22 : decode cX3_passesTerm 22 = .ok (.invokevirtual 41, 3) := by decide +kernel
theorem dX3_passesTerm_25 : decode cX3_passesTerm 25 = .ok (.bipush 93, 2) := by decide +kernel
theorem dX3_passesTerm_27 : decode cX3_passesTerm 27 = .ok (.if_icmp .ne 34, 3) := by decide +kernel
theorem dX3_passesTerm_30 : decode cX3_passesTerm 30 = .ok (.aload_n 0, 1) := by decide +kernel
theorem dX3_passesTerm_31 : decode cX3_passesTerm 31 = .ok (.getfield 30, 3) := by decide +kernel
theorem dX3_passesTerm_34 : decode cX3_passesTerm 34 = .ok (.iconst (-1), 1) := by decide +kernel
theorem dX3_passesTerm_35 : decode cX3_passesTerm 35 = .ok (.if_icmp .ne 26, 3) := by decide +kernel
theorem dX3_passesTerm_38 : decode cX3_passesTerm 38 = .ok (.aload_n 0, 1) := by decide +kernel
theorem dX3_passesTerm_39 : decode cX3_passesTerm 39 = .ok (.aload_n 0, 1) := by decide +kernel
theorem dX3_passesTerm_40 : decode cX3_passesTerm 40 = .ok (.getfield 15, 3) := by decide +kernel
theorem dX3_passesTerm_43 : decode cX3_passesTerm 43 = .ok (.iload_n 3, 1) := by decide +kernel
theorem dX3_passesTerm_44 : decode cX3_passesTerm 44 = .ok (.invokevirtual 51, 3) := by decide +kernel
theorem dX3_passesTerm_47 : decode cX3_passesTerm 47 = .ok (.putfield 30, 3) := by decide +kernel
theorem dX3_passesTerm_50 : decode cX3_passesTerm 50 = .ok (.aload_n 0, 1) := by decide +kernel
theorem dX3_passesTerm_51 : decode cX3_passesTerm 51 = .ok (.getfield 19, 3) := by decide +kernel
theorem dX3_passesTerm_54 : decode cX3_passesTerm 54 = .ok (.aload_n 0, 1) := by decide +kernel
theorem dX3_passesTerm_55 : decode cX3_passesTerm 55 = .ok (.getfield 30, 3) := by decide +kernel
theorem dX3_passesTerm_58 : decode cX3_passesTerm 58 = .ok (.invokevirtual 57, 3) := by decide +kernel
theorem dX3_passesTerm_61 : decode cX3_passesTerm 61 = .ok (.aload_n 0, 1) := by decide +kernel
theorem dX3_passesTerm_62 : decode cX3_passesTerm 62 = .ok (.getfield 15, 3) := by decide +kernel
theorem dX3_passesTerm_65 : decode cX3_passesTerm 65 = .ok (.iload_n 3, 1) := by decide +kernel
theorem dX3_passesTerm_66 : decode cX3_passesTerm 66 = .ok (.invokevirtual 51, 3) := by decide +kernel
theorem dX3_passesTerm_69 : decode cX3_passesTerm 69 = .ok (.aload_n 0, 1) := by decide +kernel
theorem dX3_passesTerm_70 : decode cX3_passesTerm 70 = .ok (.getfield 30, 3) := by decide +kernel
theorem dX3_passesTerm_73 : decode cX3_passesTerm 73 = .ok (.if_icmp .ne 12, 3) := by decide +kernel
theorem dX3_passesTerm_76 : decode cX3_passesTerm 76 = .ok (.aload_n 0, 1) := by decide +kernel
theorem dX3_passesTerm_77 : decode cX3_passesTerm 77 = .ok (.bipush 93, 2) := by decide +kernel
theorem dX3_passesTerm_79 : decode cX3_passesTerm 79 = .ok (.invokevirtual 33, 3) := by decide +kernel
theorem dX3_passesTerm_82 : decode cX3_passesTerm 82 = .ok (.ifCond .ne 5, 3) := by decide +kernel
theorem dX3_passesTerm_85 : decode cX3_passesTerm 85 = .ok (.iconst 0, 1) := by decide +kernel
theorem dX3_passesTerm_86 : decode cX3_passesTerm 86 = .ok (.ireturn, 1) := by decide +kernel
theorem dX3_passesTerm_87 : decode cX3_passesTerm 87 = .ok (.aload_n 0, 1) := by decide +kernel
theorem dX3_passesTerm_88 : decode cX3_passesTerm 88 = .ok (.getfield 19, 3) := by decide +kernel
theorem dX3_passesTerm_91 : decode cX3_passesTerm 91 = .ok (.aload_n 0, 1) := by decide +kernel
theorem dX3_passesTerm_92 : decode cX3_passesTerm 92 = .ok (.getfield 15, 3) := by decide +kernel
theorem dX3_passesTerm_95 : decode cX3_passesTerm 95 = .ok (.iload_n 3, 1) := by decide +kernel
theorem dX3_passesTerm_96 : decode cX3_passesTerm 96 = .ok (.invokevirtual 63, 3) := by decide +kernel
theorem dX3_passesTerm_99 : decode cX3_passesTerm 99 = .ok (.iload_n 1, 1) := by decide +kernel
theorem dX3_passesTerm_100 : decode cX3_passesTerm 100 = .ok (.ifCond .eq 8, 3) := by decide +kernel
theorem dX3_passesTerm_103 : decode cX3_passesTerm 103 = .ok (.iload_n 2, 1) := by decide +kernel
theorem dX3_passesTerm_104 : decode cX3_passesTerm 104 = .ok (.ineg, 1) := by decide +kernel
theorem dX3_passesTerm_105 : decode cX3_passesTerm 105 = .ok (.goto 4, 3) := by decide +kernel
theorem dX3_passesTerm_108 : decode cX3_passesTerm 108 = .ok (.iload_n 2, 1) := by decide +kernel
theorem dX3_passesTerm_109 : decode cX3_passesTerm 109 = .ok (.invokevirtual 66, 3) := by decide +kernel
theorem dX3_passesTerm_112 : decode cX3_passesTerm 112 = .ok (.iconst 1, 1) := by decide +kernel
theorem dX3_passesTerm_113 : decode cX3_passesTerm 113 = .ok (.ireturn, 1) := by decide +kernel
theorem dX3_passNumber_0 : decode cX3_passNumber 0 = .ok (.iconst 0, 1) := by decide +kernel
theorem dX3_passNumber_1 : decode cX3_passNumber 1 = .ok (.istore_n 1, 1) := by decide +kernel
theorem dX3_passNumber_2 : decode cX3_passNumber 2 = .ok (.iconst 0, 1) := by decide +kernel
theorem dX3_passNumber_3 : decode cX3_passNumber 3 = .ok (.istore_n 2, 1) := by decide +kernel
theorem dX3_passNumber_4 : decode cX3_passNumber 4 = .ok (.iload_n 2, 1) := by decide +kernel
theorem dX3_passNumber_5 : decode cX3_passNumber 5 = .ok (.iconst 3, 1) := by decide +kernel
theorem dX3_passNumber_6 : decode cX3_passNumber 6 = .ok (.if_icmp .ge 50, 3) := by decide +kernel
theorem dX3_passNumber_9 : decode cX3_passNumber 9 = .ok (.aload_n 0, 1) := by decide +kernel
theorem dX3_passNumber_10 : decode cX3_passNumber 10 = .ok (.invokevirtual 41, 3) := by decide +kernel
theorem dX3_passNumber_13 : decode cX3_passNumber 13 = .ok (.bipush 48, 2) := by decide +kernel
theorem dX3_passNumber_15 : decode cX3_passNumber 15 = .ok (.if_icmp .lt 41, 3) := by decide +kernel
theorem dX3_passNumber_18 : decode cX3_passNumber 18 = .ok (.aload_n 0, 1) := by decide +kernel
theorem dX3_passNumber_19 : decode cX3_passNumber 19 = .ok (.invokevirtual 41, 3) := by decide +kernel
theorem dX3_passNumber_22 : decode cX3_passNumber 22 = .ok (.bipush 57, 2) := by decide +kernel
theorem dX3_passNumber_24 : decode cX3_passNumber 24 = .ok (.if_icmp .gt 32, 3) := by decide +kernel
theorem dX3_passNumber_27 : decode cX3_passNumber 27 = .ok (.iload_n 1, 1) := by decide +kernel
theorem dX3_passNumber_28 : decode cX3_passNumber 28 = .ok (.bipush 10, 2) := by decide +kernel
theorem dX3_passNumber_30 : decode cX3_passNumber 30 = .ok (.imul, 1) := by decide +kernel
theorem dX3_passNumber_31 : decode cX3_passNumber 31 = .ok (.aload_n 0, 1) := by decide +kernel
theorem dX3_passNumber_32 : decode cX3_passNumber 32 = .ok (.invokevirtual 41, 3) := by decide +kernel
theorem dX3_passNumber_35 : decode cX3_passNumber 35 = .ok (.iadd, 1) := by decide +kernel
theorem dX3_passNumber_36 : decode cX3_passNumber 36 = .ok (.bipush 48, 2) := by decide +kernel
theorem dX3_passNumber_38 : decode cX3_passNumber 38 = .ok (.isub, 1) := by decide +kernel
theorem dX3_passNumber_39 : decode cX3_passNumber 39 = .ok (.istore_n 1, 1) := by decide +kernel
theorem dX3_passNumber_40 : decode cX3_passNumber 40 = .ok (.iinc 2 1, 3) := by decide +kernel
theorem dX3_passNumber_43 : decode cX3_passNumber 43 = .ok (.aload_n 0, 1) := by decide +kernel
theorem dX3_passNumber_44 : decode cX3_passNumber 44 = .ok (.dup, 1) := by decide +kernel
theorem dX3_passNumber_45 : decode cX3_passNumber 45 = .ok (.getfield 27, 3) := by decide +kernel
theorem dX3_passNumber_48 : decode cX3_passNumber 48 = .ok (.iconst 1, 1) := by decide +kernel
theorem dX3_passNumber_49 : decode cX3_passNumber 49 = .ok (.iadd, 1) := by decide +kernel
theorem dX3_passNumber_50 : decode cX3_passNumber 50 = .ok (.putfield 27, 3) := by decide +kernel
theorem dX3_passNumber_53 : decode cX3_passNumber 53 = .ok (.goto (-49), 3) := by decide +kernel
theorem dX3_passNumber_56 : decode cX3_passNumber 56 = .ok (.iload_n 2, 1) := by decide +kernel
theorem dX3_passNumber_57 : decode cX3_passNumber 57 = .ok (.ifCond .ne 7, 3) := by decide +kernel
theorem dX3_passNumber_60 : decode cX3_passNumber 60 = .ok (.iconst 1, 1) := by decide +kernel
theorem dX3_passNumber_61 : decode cX3_passNumber 61 = .ok (.goto 4, 3) := by decide +kernel
theorem dX3_passNumber_64 : decode cX3_passNumber 64 = .ok (.iload_n 1, 1) := by decide +kernel
theorem dX3_passNumber_65 : decode cX3_passNumber 65 = .ok (.ireturn, 1) := by decide +kernel
theorem dX3_passRows_0 : decode cX3_passRows 0 = .ok (.aload_n 0, 1) := by decide +kernel
theorem dX3_passRows_1 : decode cX3_passRows 1 = .ok (.getfield 30, 3) := by decide +kernel
theorem dX3_passRows_4 : decode cX3_passRows 4 = .ok (.iconst (-1), 1) := by decide +kernel
theorem dX3_passRows_5 : decode cX3_passRows 5 = .ok (.if_icmp .ne 8, 3) := by decide +kernel
theorem dX3_passRows_8 : decode cX3_passRows 8 = .ok (.bipush 8, 2) := by decide +kernel
theorem dX3_passRows_10 : decode cX3_passRows 10 = .ok (.goto 7, 3) := by decide +kernel
theorem dX3_passRows_13 : decode cX3_passRows 13 = .ok (.aload_n 0, 1) := by decide +kernel
theorem dX3_passRows_14 : decode cX3_passRows 14 = .ok (.getfield 30, 3) := by decide +kernel
theorem dX3_passRows_17 : decode cX3_passRows 17 = .ok (.istore_n 1, 1) := by decide +kernel
theorem dX3_passRows_18 : decode cX3_passRows 18 = .ok (.iload_n 1, 1) := by decide +kernel
theorem dX3_passRows_19 : decode cX3_passRows 19 = .ok (.istore_n 2, 1) := by decide +kernel
theorem dX3_passRows_20 : decode cX3_passRows 20 = .ok (.iconst 0, 1) := by decide +kernel
theorem dX3_passRows_21 : decode cX3_passRows 21 = .ok (.istore_n 3, 1) := by decide +kernel
theorem dX3_passRows_22 : decode cX3_passRows 22 = .ok (.iconst 0, 1) := by decide +kernel
theorem dX3_passRows_23 : decode cX3_passRows 23 = .ok (.istore 4, 2) := by decide +kernel
theorem dX3_passRows_25 : decode cX3_passRows 25 = .ok (.iconst 0, 1) := by decide +kernel
theorem dX3_passRows_26 : decode cX3_passRows 26 = .ok (.istore 5, 2) := by decide +kernel
theorem dX3_passRows_28 : decode cX3_passRows 28 = .ok (.iload 5, 2) := by decide +kernel
theorem dX3_passRows_30 : decode cX3_passRows 30 = .ok (.bipush 8, 2) := by decide +kernel
theorem dX3_passRows_32 : decode cX3_passRows 32 = .ok (.if_icmp .ge 68, 3) := by decide +kernel
theorem dX3_passRows_35 : decode cX3_passRows 35 = .ok (.aload_n 0, 1) := by decide +kernel
theorem dX3_passRows_36 : decode cX3_passRows 36 = .ok (.invokevirtual 41, 3) := by decide +kernel
theorem dX3_passRows_39 : decode cX3_passRows 39 = .ok (.bipush 48, 2) := by decide +kernel
theorem dX3_passRows_41 : decode cX3_passRows 41 = .ok (.isub, 1) := by decide +kernel
theorem dX3_passRows_42 : decode cX3_passRows 42 = .ok (.istore 6, 2) := by decide +kernel
theorem dX3_passRows_44 : decode cX3_passRows 44 = .ok (.iload 6, 2) := by decide +kernel
theorem dX3_passRows_46 : decode cX3_passRows 46 = .ok (.iconst 1, 1) := by decide +kernel
theorem dX3_passRows_47 : decode cX3_passRows 47 = .ok (.if_icmp .lt 53, 3) := by decide +kernel
theorem dX3_passRows_50 : decode cX3_passRows 50 = .ok (.iload 6, 2) := by decide +kernel
theorem dX3_passRows_52 : decode cX3_passRows 52 = .ok (.iload_n 2, 1) := by decide +kernel
theorem dX3_passRows_53 : decode cX3_passRows 53 = .ok (.if_icmp .gt 47, 3) := by decide +kernel
theorem dX3_passRows_56 : decode cX3_passRows 56 = .ok (.iload_n 3, 1) := by decide +kernel
theorem dX3_passRows_57 : decode cX3_passRows 57 = .ok (.iload 6, 2) := by decide +kernel
theorem dX3_passRows_59 : decode cX3_passRows 59 = .ok (.iadd, 1) := by decide +kernel
theorem dX3_passRows_60 : decode cX3_passRows 60 = .ok (.iload_n 1, 1) := by decide +kernel
theorem dX3_passRows_61 : decode cX3_passRows 61 = .ok (.if_icmp .le 6, 3) := by decide +kernel
theorem dX3_passRows_64 : decode cX3_passRows 64 = .ok (.goto 36, 3) := by decide +kernel
theorem dX3_passRows_67 : decode cX3_passRows 67 = .ok (.iload 4, 2) := by decide +kernel
theorem dX3_passRows_69 : decode cX3_passRows 69 = .ok (.iload 6, 2) := by decide +kernel
theorem dX3_passRows_71 : decode cX3_passRows 71 = .ok (.invokestatic 70, 3) := by decide +kernel
theorem dX3_passRows_74 : decode cX3_passRows 74 = .ok (.istore 4, 2) := by decide +kernel
theorem dX3_passRows_76 : decode cX3_passRows 76 = .ok (.iload_n 3, 1) := by decide +kernel
theorem dX3_passRows_77 : decode cX3_passRows 77 = .ok (.iload 6, 2) := by decide +kernel
theorem dX3_passRows_79 : decode cX3_passRows 79 = .ok (.iadd, 1) := by decide +kernel
theorem dX3_passRows_80 : decode cX3_passRows 80 = .ok (.istore_n 3, 1) := by decide +kernel
theorem dX3_passRows_81 : decode cX3_passRows 81 = .ok (.iload 6, 2) := by decide +kernel
theorem dX3_passRows_83 : decode cX3_passRows 83 = .ok (.istore_n 2, 1) := by decide +kernel
theorem dX3_passRows_84 : decode cX3_passRows 84 = .ok (.aload_n 0, 1) := by decide +kernel
theorem dX3_passRows_85 : decode cX3_passRows 85 = .ok (.dup, 1) := by decide +kernel
theorem dX3_passRows_86 : decode cX3_passRows 86 = .ok (.getfield 27, 3) := by decide +kernel
theorem dX3_passRows_89 : decode cX3_passRows 89 = .ok (.iconst 1, 1) := by decide +kernel
theorem dX3_passRows_90 : decode cX3_passRows 90 = .ok (.iadd, 1) := by decide +kernel
theorem dX3_passRows_91 : decode cX3_passRows 91 = .ok (.putfield 27, 3) := by decide +kernel
theorem dX3_passRows_94 : decode cX3_passRows 94 = .ok (.iinc 5 1, 3) := by decide +kernel
theorem dX3_passRows_97 : decode cX3_passRows 97 = .ok (.goto (-69), 3) := by decide +kernel
theorem dX3_passRows_100 : decode cX3_passRows 100 = .ok (.aload_n 0, 1) := by decide +kernel
theorem dX3_passRows_101 : decode cX3_passRows 101 = .ok (.getfield 15, 3) := by decide +kernel
theorem dX3_passRows_104 : decode cX3_passRows 104 = .ok (.iload_n 3, 1) := by decide +kernel
theorem dX3_passRows_105 : decode cX3_passRows 105 = .ok (.iload 4, 2) := by decide +kernel
theorem dX3_passRows_107 : decode cX3_passRows 107 = .ok (.invokevirtual 74, 3) := by decide +kernel
theorem dX3_passRows_110 : decode cX3_passRows 110 = .ok (.ireturn, 1) := by decide +kernel
