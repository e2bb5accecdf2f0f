theorem dX1_init_0 : decode cX1_init 0 = .ok (.aload_n 0, 1) := by decide +kernel
theorem dX1_init_1 : decode cX1_init 1 = .ok (.invokespecial 3, 3) := by decide +kernel
theorem dX1_init_4 : decode cX1_init 4 = .ok (.aload_n 0, 1) := by decide +kernel
theorem dX1_init_5 : decode cX1_init 5 = .ok (.sipush 1474, 3) := by decide +kernel
theorem dX1_init_8 : decode cX1_init 8 = .ok (.newarray .int, 2) := by decide +kernel
theorem dX1_init_10 : decode cX1_init 10 = .ok (.putfield 9, 3) := by decide +kernel
theorem dX1_init_13 : decode cX1_init 13 = .ok (.aload_n 0, 1) := by decide +kernel
theorem dX1_init_14 : decode cX1_init 14 = .ok (.aload_n 1, 1) := by decide +kernel
theorem dX1_init_15 : decode cX1_init 15 = .ok (.putfield 15, 3) := by decide +kernel
theorem dX1_init_18 : decode cX1_init 18 = .ok (.aload_n 0, 1) := by decide +kernel
theorem dX1_init_19 : decode cX1_init 19 = .ok (.getfield 9, 3) := by decide +kernel
theorem dX1_init_22 : decode cX1_init 22 = .ok (.iconst 0, 1) := by decide +kernel
theorem dX1_init_23 : decode cX1_init 23 = .ok (.iconst 1, 1) := by decide +kernel
theorem dX1_init_24 : decode cX1_init 24 = .ok (.iastore, 1) := by decide +kernel
theorem dX1_init_25 : decode cX1_init 25 = .ok (.iconst 1, 1) := by decide +kernel
theorem dX1_init_26 : decode cX1_init 26 = .ok (.istore_n 3, 1) := by decide +kernel
theorem dX1_init_27 : decode cX1_init 27 = .ok (.iload_n 3, 1) := by decide +kernel
theorem dX1_init_28 : decode cX1_init 28 = .ok (.bipush 67, 2) := by decide +kernel
theorem dX1_init_30 : decode cX1_init 30 = .ok (.if_icmp .ge 68, 3) := by decide +kernel
theorem dX1_init_33 : decode cX1_init 33 = .ok (.iconst 0, 1) := by decide +kernel
theorem dX1_init_34 : decode cX1_init 34 = .ok (.istore 4, 2) := by decide +kernel
theorem dX1_init_36 : decode cX1_init 36 = .ok (.iload 4, 2) := by decide +kernel
theorem dX1_init_38 : decode cX1_init 38 = .ok (.aload_n 1, 1) := by decide +kernel
theorem dX1_init_39 : decode cX1_init 39 = .ok (.iload_n 3, 1) := by decide +kernel
theorem dX1_init_40 : decode cX1_init 40 = .ok (.invokevirtual 19, 3) := by decide +kernel
theorem dX1_init_43 : decode cX1_init 43 = .ok (.if_icmp .ge 49, 3) := by decide +kernel
theorem dX1_init_46 : decode cX1_init 46 = .ok (.aload_n 2, 1) := by decide +kernel
theorem dX1_init_47 : decode cX1_init 47 = .ok (.iload_n 3, 1) := by decide +kernel
theorem dX1_init_48 : decode cX1_init 48 = .ok (.iload 4, 2) := by decide +kernel
theorem dX1_init_50 : decode cX1_init 50 = .ok (.invokevirtual 25, 3) := by decide +kernel
theorem dX1_init_53 : decode cX1_init 53 = .ok (.iconst 2, 1) := by decide +kernel
theorem dX1_init_54 : decode cX1_init 54 = .ok (.irem, 1) := by decide +kernel
theorem dX1_init_55 : decode cX1_init 55 = .ok (.ifCond .ne 7, 3) := by decide +kernel
theorem dX1_init_58 : decode cX1_init 58 = .ok (.iconst 1, 1) := by decide +kernel
theorem dX1_init_59 : decode cX1_init 59 = .ok (.goto 4, 3) := by decide +kernel
theorem dX1_init_62 : decode cX1_init 62 = .ok (.iconst (-1), 1) := by decide +kernel
theorem dX1_init_63 : decode cX1_init 63 = .ok (.istore 5, 2) := by decide +kernel
theorem dX1_init_65 : decode cX1_init 65 = .ok (.aload_n 0, 1) := by decide +kernel
theorem dX1_init_66 : decode cX1_init 66 = .ok (.iload_n 3, 1) := by decide +kernel
theorem dX1_init_67 : decode cX1_init 67 = .ok (.aload_n 2, 1) := by decide +kernel
theorem dX1_init_68 : decode cX1_init 68 = .ok (.iload_n 3, 1) := by decide +kernel
theorem dX1_init_69 : decode cX1_init 69 = .ok (.iload 4, 2) := by decide +kernel
theorem dX1_init_71 : decode cX1_init 71 = .ok (.invokevirtual 31, 3) := by decide +kernel
theorem dX1_init_74 : decode cX1_init 74 = .ok (.aload_n 2, 1) := by decide +kernel
theorem dX1_init_75 : decode cX1_init 75 = .ok (.iload_n 3, 1) := by decide +kernel
theorem dX1_init_76 : decode cX1_init 76 = .ok (.iload 4, 2) := by decide +kernel
theorem dX1_init_78 : decode cX1_init 78 = .ok (.invokevirtual 34, 3) := by decide +kernel
theorem dX1_init_81 : decode cX1_init 81 = .ok (.iload 5, 2) := by decide +kernel
theorem dX1_init_83 : decode cX1_init 83 = .ok (.invokevirtual 37, 3) := by decide +kernel
theorem dX1_init_86 : decode cX1_init 86 = .ok (.iinc 4 1, 3) := by decide +kernel
theorem dX1_init_89 : decode cX1_init 89 = .ok (.goto (-53), 3) := by decide +kernel
theorem dX1_init_92 : decode cX1_init 92 = .ok (.iinc 3 1, 3) := by decide +kernel
theorem dX1_init_95 : decode cX1_init 95 = .ok (.goto (-68), 3) := by decide +kernel
theorem dX1_init_98 : decode cX1_init 98 = .ok (.return_, 1) := by decide +kernel
theorem dX1_addRim_0 : decode cX1_addRim 0 = .ok (.aload_n 0, 1) := by decide +kernel
theorem dX1_addRim_1 : decode cX1_addRim 1 = .ok (.getfield 15, 3) := by decide +kernel
theorem dX1_addRim_4 : decode cX1_addRim 4 = .ok (.aload_n 0, 1) := by decide +kernel
theorem dX1_addRim_5 : decode cX1_addRim 5 = .ok (.getfield 15, 3) := by decide +kernel
theorem dX1_addRim_8 : decode cX1_addRim 8 = .ok (.iload_n 1, 1) := by decide +kernel
theorem dX1_addRim_9 : decode cX1_addRim 9 = .ok (.invokevirtual 19, 3) := by decide +kernel
theorem dX1_addRim_12 : decode cX1_addRim 12 = .ok (.invokevirtual 41, 3) := by decide +kernel
theorem dX1_addRim_15 : decode cX1_addRim 15 = .ok (.istore 5, 2) := by decide +kernel
theorem dX1_addRim_17 : decode cX1_addRim 17 = .ok (.aload_n 0, 1) := by decide +kernel
theorem dX1_addRim_18 : decode cX1_addRim 18 = .ok (.getfield 15, 3) := by decide +kernel
theorem dX1_addRim_21 : decode cX1_addRim 21 = .ok (.aload_n 0, 1) := by decide +kernel
theorem dX1_addRim_22 : decode cX1_addRim 22 = .ok (.getfield 15, 3) := by decide +kernel
theorem dX1_addRim_25 : decode cX1_addRim 25 = .ok (.iload_n 1, 1) := by decide +kernel
theorem dX1_addRim_26 : decode cX1_addRim 26 = .ok (.invokevirtual 19, 3) := by decide +kernel
theorem dX1_addRim_29 : decode cX1_addRim 29 = .ok (.invokevirtual 44, 3) := by decide +kernel
theorem dX1_addRim_32 : decode cX1_addRim 32 = .ok (.istore 6, 2) := by decide +kernel
theorem dX1_addRim_34 : decode cX1_addRim 34 = .ok (.iconst 0, 1) := by decide +kernel
theorem dX1_addRim_35 : decode cX1_addRim 35 = .ok (.istore 7, 2) := by decide +kernel
theorem dX1_addRim_37 : decode cX1_addRim 37 = .ok (.iload 7, 2) := by decide +kernel
theorem dX1_addRim_39 : decode cX1_addRim 39 = .ok (.iload 6, 2) := by decide +kernel
theorem dX1_addRim_41 : decode cX1_addRim 41 = .ok (.if_icmp .ge 68, 3) := by decide +kernel
theorem dX1_addRim_44 : decode cX1_addRim 44 = .ok (.iload 7, 2) := by decide +kernel
theorem dX1_addRim_46 : decode cX1_addRim 46 = .ok (.bipush 22, 2) := by decide +kernel
theorem dX1_addRim_48 : decode cX1_addRim 48 = .ok (.if_icmp .ge 61, 3) := by decide +kernel
theorem dX1_addRim_51 : decode cX1_addRim 51 = .ok (.aload_n 0, 1) := by decide +kernel
theorem dX1_addRim_52 : decode cX1_addRim 52 = .ok (.getfield 15, 3) := by decide +kernel
theorem dX1_addRim_55 : decode cX1_addRim 55 = .ok (.iload 5, 2) := by decide +kernel
theorem dX1_addRim_57 : decode cX1_addRim 57 = .ok (.iload 7, 2) := by decide +kernel
theorem dX1_addRim_59 : decode cX1_addRim 59 = .ok (.iadd, 1) := by decide +kernel
theorem dX1_addRim_60 : decode cX1_addRim 60 = .ok (.iconst 0, 1) := by decide +kernel
theorem dX1_addRim_61 : decode cX1_addRim 61 = .ok (.invokevirtual 47, 3) := by decide +kernel
theorem dX1_addRim_64 : decode cX1_addRim 64 = .ok (.iload_n 2, 1) := by decide +kernel
theorem dX1_addRim_65 : decode cX1_addRim 65 = .ok (.if_icmp .ne 38, 3) := by decide +kernel
theorem dX1_addRim_68 : decode cX1_addRim 68 = .ok (.aload_n 0, 1) := by decide +kernel
theorem dX1_addRim_69 : decode cX1_addRim 69 = .ok (.getfield 9, 3) := by decide +kernel
theorem dX1_addRim_72 : decode cX1_addRim 72 = .ok (.iload_n 1, 1) := by decide +kernel
theorem dX1_addRim_73 : decode cX1_addRim 73 = .ok (.bipush 22, 2) := by decide +kernel
theorem dX1_addRim_75 : decode cX1_addRim 75 = .ok (.imul, 1) := by decide +kernel
theorem dX1_addRim_76 : decode cX1_addRim 76 = .ok (.iload 7, 2) := by decide +kernel
theorem dX1_addRim_78 : decode cX1_addRim 78 = .ok (.iadd, 1) := by decide +kernel
theorem dX1_addRim_79 : decode cX1_addRim 79 = .ok (.dup2, 1) := by decide +kernel
theorem dX1_addRim_80 : decode cX1_addRim 80 = .ok (.iaload, 1) := by decide +kernel
theorem dX1_addRim_81 : decode cX1_addRim 81 = .ok (.iload 4, 2) := by decide +kernel
theorem dX1_addRim_83 : decode cX1_addRim 83 = .ok (.aload_n 0, 1) := by decide +kernel
theorem dX1_addRim_84 : decode cX1_addRim 84 = .ok (.iload_n 3, 1) := by decide +kernel
theorem dX1_addRim_85 : decode cX1_addRim 85 = .ok (.aload_n 0, 1) := by decide +kernel
theorem dX1_addRim_86 : decode cX1_addRim 86 = .ok (.getfield 15, 3) := by decide +kernel
theorem dX1_addRim_89 : decode cX1_addRim 89 = .ok (.iload 5, 2) := by decide +kernel
theorem dX1_addRim_91 : decode cX1_addRim 91 = .ok (.iload 7, 2) := by decide +kernel
theorem dX1_addRim_93 : decode cX1_addRim 93 = .ok (.iadd, 1) := by decide +kernel
theorem dX1_addRim_94 : decode cX1_addRim 94 = .ok (.invokevirtual 50, 3) := by decide +kernel
theorem dX1_addRim_97 : decode cX1_addRim 97 = .ok (.invokevirtual 53, 3) := by decide +kernel
theorem dX1_addRim_100 : decode cX1_addRim 100 = .ok (.imul, 1) := by decide +kernel
theorem dX1_addRim_101 : decode cX1_addRim 101 = .ok (.iadd, 1) := by decide +kernel
theorem dX1_addRim_102 : decode cX1_addRim 102 = .ok (.iastore, 1) := by decide +kernel
theorem dX1_addRim_103 : decode cX1_addRim 103 = .ok (.iinc 7 1, 3) := by decide +kernel
theorem dX1_addRim_106 : decode cX1_addRim 106 = .ok (.goto (-69), 3) := by decide +kernel
theorem dX1_addRim_109 : decode cX1_addRim 109 = .ok (.return_, 1) := by decide +kernel
theorem dX1_at_0 : decode cX1_at 0 = .ok (.aload_n 0, 1) := by decide +kernel
theorem dX1_at_1 : decode cX1_at 1 = .ok (.iload_n 1, 1) := by decide +kernel
theorem dX1_at_2 : decode cX1_at 2 = .ok (.aload_n 0, 1) := by decide +kernel
theorem dX1_at_3 : decode cX1_at 3 = .ok (.getfield 15, 3) := by decide +kernel
theorem dX1_at_6 : decode cX1_at 6 = .ok (.iload_n 2, 1) := by decide +kernel
theorem dX1_at_7 : decode cX1_at 7 = .ok (.invokevirtual 56, 3) := by decide +kernel
theorem dX1_at_10 : decode cX1_at 10 = .ok (.invokevirtual 59, 3) := by decide +kernel
theorem dX1_at_13 : decode cX1_at 13 = .ok (.ireturn, 1) := by decide +kernel
theorem dX1_atPlace_0 : decode cX1_atPlace 0 = .ok (.aload_n 0, 1) := by decide +kernel
theorem dX1_atPlace_1 : decode cX1_atPlace 1 = .ok (.getfield 15, 3) := by decide +kernel
theorem dX1_atPlace_4 : decode cX1_atPlace 4 = .ok (.iload_n 1, 1) := by decide +kernel
theorem dX1_atPlace_5 : decode cX1_atPlace 5 = .ok (.invokevirtual 62, 3) := by decide +kernel
theorem dX1_atPlace_8 : decode cX1_atPlace 8 = .ok (.ifCond .eq 17, 3) := by decide +kernel
theorem dX1_atPlace_11 : decode cX1_atPlace 11 = .ok (.iload_n 2, 1) := by decide +kernel
theorem dX1_atPlace_12 : decode cX1_atPlace 12 = .ok (.ifCond .lt 13, 3) := by decide +kernel
theorem dX1_atPlace_15 : decode cX1_atPlace 15 = .ok (.iload_n 2, 1) := by decide +kernel
theorem dX1_atPlace_16 : decode cX1_atPlace 16 = .ok (.bipush 22, 2) := by decide +kernel
theorem dX1_atPlace_18 : decode cX1_atPlace 18 = .ok (.if_icmp .ge 7, 3) := by decide +kernel
theorem dX1_atPlace_21 : decode cX1_atPlace 21 = .ok (.iconst 1, 1) := by decide +kernel
theorem dX1_atPlace_22 : decode cX1_atPlace 22 = .ok (.goto 4, 3) := by decide +kernel
theorem dX1_atPlace_25 : decode cX1_atPlace 25 = .ok (.iconst 0, 1) := by decide +kernel
theorem dX1_atPlace_26 : decode cX1_atPlace 26 = .ok (.istore_n 3, 1) := by decide +kernel
theorem dX1_atPlace_27 : decode cX1_atPlace 27 = .ok (.iload_n 3, 1) := by decide +kernel
theorem dX1_atPlace_28 : decode cX1_atPlace 28 = .ok (.ifCond .eq 17, 3) := by decide +kernel
theorem dX1_atPlace_31 : decode cX1_atPlace 31 = .ok (.aload_n 0, 1) := by decide +kernel
theorem dX1_atPlace_32 : decode cX1_atPlace 32 = .ok (.getfield 9, 3) := by decide +kernel
theorem dX1_atPlace_35 : decode cX1_atPlace 35 = .ok (.iload_n 1, 1) := by decide +kernel
theorem dX1_atPlace_36 : decode cX1_atPlace 36 = .ok (.bipush 22, 2) := by decide +kernel
theorem dX1_atPlace_38 : decode cX1_atPlace 38 = .ok (.imul, 1) := by decide +kernel
theorem dX1_atPlace_39 : decode cX1_atPlace 39 = .ok (.iload_n 2, 1) := by decide +kernel
theorem dX1_atPlace_40 : decode cX1_atPlace 40 = .ok (.iadd, 1) := by decide +kernel
theorem dX1_atPlace_41 : decode cX1_atPlace 41 = .ok (.iaload, 1) := by decide +kernel
theorem dX1_atPlace_42 : decode cX1_atPlace 42 = .ok (.goto 4, 3) := by decide +kernel
theorem dX1_atPlace_45 : decode cX1_atPlace 45 = .ok (.iconst 0, 1) := by decide +kernel
theorem dX1_atPlace_46 : decode cX1_atPlace 46 = .ok (.ireturn, 1) := by decide +kernel
