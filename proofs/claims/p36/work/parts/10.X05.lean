theorem dX5_init_0 : decode cX5_init 0 = .ok (.aload_n 0, 1) := by decide +kernel
theorem dX5_init_1 : decode cX5_init 1 = .ok (.invokespecial 3, 3) := by decide +kernel
theorem dX5_init_4 : decode cX5_init 4 = .ok (.aload_n 0, 1) := by decide +kernel
theorem dX5_init_5 : decode cX5_init 5 = .ok (.sipush 3125, 3) := by decide +kernel
theorem dX5_init_8 : decode cX5_init 8 = .ok (.newarray .int, 2) := by decide +kernel
theorem dX5_init_10 : decode cX5_init 10 = .ok (.putfield 11, 3) := by decide +kernel
theorem dX5_init_13 : decode cX5_init 13 = .ok (.aload_n 0, 1) := by decide +kernel
theorem dX5_init_14 : decode cX5_init 14 = .ok (.aload_n 1, 1) := by decide +kernel
theorem dX5_init_15 : decode cX5_init 15 = .ok (.putfield 15, 3) := by decide +kernel
theorem dX5_init_18 : decode cX5_init 18 = .ok (.aload_n 0, 1) := by decide +kernel
theorem dX5_init_19 : decode cX5_init 19 = .ok (.aload_n 2, 1) := by decide +kernel
theorem dX5_init_20 : decode cX5_init 20 = .ok (.putfield 19, 3) := by decide +kernel
theorem dX5_init_23 : decode cX5_init 23 = .ok (.return_, 1) := by decide +kernel
theorem dX5_at_0 : decode cX5_at 0 = .ok (.aload_n 0, 1) := by decide +kernel
theorem dX5_at_1 : decode cX5_at 1 = .ok (.getfield 15, 3) := by decide +kernel
theorem dX5_at_4 : decode cX5_at 4 = .ok (.iload_n 1, 1) := by decide +kernel
theorem dX5_at_5 : decode cX5_at 5 = .ok (.invokevirtual 23, 3) := by decide +kernel
theorem dX5_at_8 : decode cX5_at 8 = .ok (.istore 4, 2) := by decide +kernel
theorem dX5_at_10 : decode cX5_at 10 = .ok (.aload_n 0, 1) := by decide +kernel
theorem dX5_at_11 : decode cX5_at 11 = .ok (.iload 4, 2) := by decide +kernel
theorem dX5_at_13 : decode cX5_at 13 = .ok (.aload_n 0, 1) := by decide +kernel
theorem dX5_at_14 : decode cX5_at 14 = .ok (.getfield 15, 3) := by decide +kernel
theorem dX5_at_17 : decode cX5_at 17 = .ok (.iload_n 1, 1) := by decide +kernel
theorem dX5_at_18 : decode cX5_at 18 = .ok (.invokevirtual 29, 3) := by decide +kernel
theorem dX5_at_21 : decode cX5_at 21 = .ok (.aload_n 0, 1) := by decide +kernel
theorem dX5_at_22 : decode cX5_at 22 = .ok (.getfield 15, 3) := by decide +kernel
theorem dX5_at_25 : decode cX5_at 25 = .ok (.iload_n 2, 1) := by decide +kernel
theorem dX5_at_26 : decode cX5_at 26 = .ok (.invokevirtual 29, 3) := by decide +kernel
theorem dX5_at_29 : decode cX5_at 29 = .ok (.aload_n 0, 1) := by decide +kernel
theorem dX5_at_30 : decode cX5_at 30 = .ok (.getfield 15, 3) := by decide +kernel
theorem dX5_at_33 : decode cX5_at 33 = .ok (.iload_n 3, 1) := by decide +kernel
theorem dX5_at_34 : decode cX5_at 34 = .ok (.invokevirtual 29, 3) := by decide +kernel
theorem dX5_at_37 : decode cX5_at 37 = .ok (.invokevirtual 32, 3) := by decide +kernel
theorem dX5_at_40 : decode cX5_at 40 = .ok (.ireturn, 1) := by decide +kernel
theorem dX5_atPlaces_0 : decode cX5_atPlaces 0 = .ok (.aload_n 0, 1) := by decide +kernel
theorem dX5_atPlaces_1 : decode cX5_atPlaces 1 = .ok (.iload_n 1, 1) := by decide +kernel
theorem dX5_atPlaces_2 : decode cX5_atPlaces 2 = .ok (.iload_n 2, 1) := by decide +kernel
theorem dX5_atPlaces_3 : decode cX5_atPlaces 3 = .ok (.iload_n 3, 1) := by decide +kernel
theorem dX5_atPlaces_4 : decode cX5_atPlaces 4 = .ok (.iload 4, 2) := by decide +kernel
theorem dX5_atPlaces_6 : decode cX5_atPlaces 6 = .ok (.invokevirtual 36, 3) := by decide +kernel
theorem dX5_atPlaces_9 : decode cX5_atPlaces 9 = .ok (.istore 5, 2) := by decide +kernel
theorem dX5_atPlaces_11 : decode cX5_atPlaces 11 = .ok (.iload 5, 2) := by decide +kernel
theorem dX5_atPlaces_13 : decode cX5_atPlaces 13 = .ok (.ifCond .lt 11, 3) := by decide +kernel
theorem dX5_atPlaces_16 : decode cX5_atPlaces 16 = .ok (.iload 5, 2) := by decide +kernel
theorem dX5_atPlaces_18 : decode cX5_atPlaces 18 = .ok (.sipush 3125, 3) := by decide +kernel
theorem dX5_atPlaces_21 : decode cX5_atPlaces 21 = .ok (.if_icmp .lt 5, 3) := by decide +kernel
theorem dX5_atPlaces_24 : decode cX5_atPlaces 24 = .ok (.iconst 0, 1) := by decide +kernel
theorem dX5_atPlaces_25 : decode cX5_atPlaces 25 = .ok (.ireturn, 1) := by decide +kernel
theorem dX5_atPlaces_26 : decode cX5_atPlaces 26 = .ok (.aload_n 0, 1) := by decide +kernel
theorem dX5_atPlaces_27 : decode cX5_atPlaces 27 = .ok (.getfield 11, 3) := by decide +kernel
theorem dX5_atPlaces_30 : decode cX5_atPlaces 30 = .ok (.iload 5, 2) := by decide +kernel
theorem dX5_atPlaces_32 : decode cX5_atPlaces 32 = .ok (.iaload, 1) := by decide +kernel
theorem dX5_atPlaces_33 : decode cX5_atPlaces 33 = .ok (.ifCond .ne 21, 3) := by decide +kernel
theorem dX5_atPlaces_36 : decode cX5_atPlaces 36 = .ok (.aload_n 0, 1) := by decide +kernel
theorem dX5_atPlaces_37 : decode cX5_atPlaces 37 = .ok (.getfield 11, 3) := by decide +kernel
theorem dX5_atPlaces_40 : decode cX5_atPlaces 40 = .ok (.iload 5, 2) := by decide +kernel
theorem dX5_atPlaces_42 : decode cX5_atPlaces 42 = .ok (.aload_n 0, 1) := by decide +kernel
theorem dX5_atPlaces_43 : decode cX5_atPlaces 43 = .ok (.iload_n 1, 1) := by decide +kernel
theorem dX5_atPlaces_44 : decode cX5_atPlaces 44 = .ok (.iload_n 2, 1) := by decide +kernel
theorem dX5_atPlaces_45 : decode cX5_atPlaces 45 = .ok (.iload_n 3, 1) := by decide +kernel
theorem dX5_atPlaces_46 : decode cX5_atPlaces 46 = .ok (.iload 4, 2) := by decide +kernel
theorem dX5_atPlaces_48 : decode cX5_atPlaces 48 = .ok (.invokevirtual 39, 3) := by decide +kernel
theorem dX5_atPlaces_51 : decode cX5_atPlaces 51 = .ok (.iconst 1, 1) := by decide +kernel
theorem dX5_atPlaces_52 : decode cX5_atPlaces 52 = .ok (.iadd, 1) := by decide +kernel
theorem dX5_atPlaces_53 : decode cX5_atPlaces 53 = .ok (.iastore, 1) := by decide +kernel
theorem dX5_atPlaces_54 : decode cX5_atPlaces 54 = .ok (.aload_n 0, 1) := by decide +kernel
theorem dX5_atPlaces_55 : decode cX5_atPlaces 55 = .ok (.getfield 11, 3) := by decide +kernel
theorem dX5_atPlaces_58 : decode cX5_atPlaces 58 = .ok (.iload 5, 2) := by decide +kernel
theorem dX5_atPlaces_60 : decode cX5_atPlaces 60 = .ok (.iaload, 1) := by decide +kernel
theorem dX5_atPlaces_61 : decode cX5_atPlaces 61 = .ok (.iconst 1, 1) := by decide +kernel
theorem dX5_atPlaces_62 : decode cX5_atPlaces 62 = .ok (.isub, 1) := by decide +kernel
theorem dX5_atPlaces_63 : decode cX5_atPlaces 63 = .ok (.ireturn, 1) := by decide +kernel
theorem dX5_indexOf_0 : decode cX5_indexOf 0 = .ok (.iload_n 2, 1) := by decide +kernel
theorem dX5_indexOf_1 : decode cX5_indexOf 1 = .ok (.iload_n 3, 1) := by decide +kernel
theorem dX5_indexOf_2 : decode cX5_indexOf 2 = .ok (.iload 4, 2) := by decide +kernel
theorem dX5_indexOf_4 : decode cX5_indexOf 4 = .ok (.invokestatic 42, 3) := by decide +kernel
theorem dX5_indexOf_7 : decode cX5_indexOf 7 = .ok (.invokestatic 42, 3) := by decide +kernel
theorem dX5_indexOf_10 : decode cX5_indexOf 10 = .ok (.istore 5, 2) := by decide +kernel
theorem dX5_indexOf_12 : decode cX5_indexOf 12 = .ok (.iload_n 2, 1) := by decide +kernel
theorem dX5_indexOf_13 : decode cX5_indexOf 13 = .ok (.iload_n 3, 1) := by decide +kernel
theorem dX5_indexOf_14 : decode cX5_indexOf 14 = .ok (.iload 4, 2) := by decide +kernel
theorem dX5_indexOf_16 : decode cX5_indexOf 16 = .ok (.invokestatic 48, 3) := by decide +kernel
theorem dX5_indexOf_19 : decode cX5_indexOf 19 = .ok (.invokestatic 48, 3) := by decide +kernel
theorem dX5_indexOf_22 : decode cX5_indexOf 22 = .ok (.istore 6, 2) := by decide +kernel
theorem dX5_indexOf_24 : decode cX5_indexOf 24 = .ok (.iload_n 1, 1) := by decide +kernel
theorem dX5_indexOf_25 : decode cX5_indexOf 25 = .ok (.ifCond .lt 29, 3) := by decide +kernel
theorem dX5_indexOf_28 : decode cX5_indexOf 28 = .ok (.iload_n 1, 1) := by decide +kernel
theorem dX5_indexOf_29 : decode cX5_indexOf 29 = .ok (.getstatic 51, 3) := by decide +kernel
theorem dX5_indexOf_32 : decode cX5_indexOf 32 = .ok (.arraylength, 1) := by decide +kernel
theorem dX5_indexOf_33 : decode cX5_indexOf 33 = .ok (.if_icmp .ge 21, 3) := by decide +kernel
theorem dX5_indexOf_36 : decode cX5_indexOf 36 = .ok (.iload 6, 2) := by decide +kernel
theorem dX5_indexOf_38 : decode cX5_indexOf 38 = .ok (.ifCond .lt 16, 3) := by decide +kernel
theorem dX5_indexOf_41 : decode cX5_indexOf 41 = .ok (.iload 5, 2) := by decide +kernel
theorem dX5_indexOf_43 : decode cX5_indexOf 43 = .ok (.aload_n 0, 1) := by decide +kernel
theorem dX5_indexOf_44 : decode cX5_indexOf 44 = .ok (.getfield 15, 3) := by decide +kernel
theorem dX5_indexOf_47 : decode cX5_indexOf 47 = .ok (.iload_n 1, 1) := by decide +kernel
theorem dX5_indexOf_48 : decode cX5_indexOf 48 = .ok (.invokevirtual 54, 3) := by decide +kernel
theorem dX5_indexOf_51 : decode cX5_indexOf 51 = .ok (.if_icmp .lt 5, 3) := by decide +kernel
theorem dX5_indexOf_54 : decode cX5_indexOf 54 = .ok (.iconst (-1), 1) := by decide +kernel
theorem dX5_indexOf_55 : decode cX5_indexOf 55 = .ok (.ireturn, 1) := by decide +kernel
theorem dX5_indexOf_56 : decode cX5_indexOf 56 = .ok (.iload_n 2, 1) := by decide +kernel
theorem dX5_indexOf_57 : decode cX5_indexOf 57 = .ok (.iload_n 3, 1) := by decide +kernel
theorem dX5_indexOf_58 : decode cX5_indexOf 58 = .ok (.iadd, 1) := by decide +kernel
theorem dX5_indexOf_59 : decode cX5_indexOf 59 = .ok (.iload 4, 2) := by decide +kernel
theorem dX5_indexOf_61 : decode cX5_indexOf 61 = .ok (.iadd, 1) := by decide +kernel
theorem dX5_indexOf_62 : decode cX5_indexOf 62 = .ok (.iload 5, 2) := by decide +kernel
theorem dX5_indexOf_64 : decode cX5_indexOf 64 = .ok (.isub, 1) := by decide +kernel
theorem dX5_indexOf_65 : decode cX5_indexOf 65 = .ok (.iload 6, 2) := by decide +kernel
theorem dX5_indexOf_67 : decode cX5_indexOf 67 = .ok (.isub, 1) := by decide +kernel
theorem dX5_indexOf_68 : decode cX5_indexOf 68 = .ok (.istore 7, 2) := by decide +kernel
theorem dX5_indexOf_70 : decode cX5_indexOf 70 = .ok (.getstatic 51, 3) := by decide +kernel
theorem dX5_indexOf_73 : decode cX5_indexOf 73 = .ok (.iload_n 1, 1) := by decide +kernel
theorem dX5_indexOf_74 : decode cX5_indexOf 74 = .ok (.iaload, 1) := by decide +kernel
theorem dX5_indexOf_75 : decode cX5_indexOf 75 = .ok (.iload 5, 2) := by decide +kernel
theorem dX5_indexOf_77 : decode cX5_indexOf 77 = .ok (.iload 5, 2) := by decide +kernel
theorem dX5_indexOf_79 : decode cX5_indexOf 79 = .ok (.iconst 1, 1) := by decide +kernel
theorem dX5_indexOf_80 : decode cX5_indexOf 80 = .ok (.iadd, 1) := by decide +kernel
theorem dX5_indexOf_81 : decode cX5_indexOf 81 = .ok (.imul, 1) := by decide +kernel
theorem dX5_indexOf_82 : decode cX5_indexOf 82 = .ok (.iload 5, 2) := by decide +kernel
theorem dX5_indexOf_84 : decode cX5_indexOf 84 = .ok (.iconst 2, 1) := by decide +kernel
theorem dX5_indexOf_85 : decode cX5_indexOf 85 = .ok (.iadd, 1) := by decide +kernel
theorem dX5_indexOf_86 : decode cX5_indexOf 86 = .ok (.imul, 1) := by decide +kernel
theorem dX5_indexOf_87 : decode cX5_indexOf 87 = .ok (.bipush 6, 2) := by decide +kernel
theorem dX5_indexOf_89 : decode cX5_indexOf 89 = .ok (.idiv, 1) := by decide +kernel
theorem dX5_indexOf_90 : decode cX5_indexOf 90 = .ok (.iadd, 1) := by decide +kernel
theorem dX5_indexOf_91 : decode cX5_indexOf 91 = .ok (.iload 7, 2) := by decide +kernel
theorem dX5_indexOf_93 : decode cX5_indexOf 93 = .ok (.iload 7, 2) := by decide +kernel
theorem dX5_indexOf_95 : decode cX5_indexOf 95 = .ok (.iconst 1, 1) := by decide +kernel
theorem dX5_indexOf_96 : decode cX5_indexOf 96 = .ok (.iadd, 1) := by decide +kernel
theorem dX5_indexOf_97 : decode cX5_indexOf 97 = .ok (.imul, 1) := by decide +kernel
theorem dX5_indexOf_98 : decode cX5_indexOf 98 = .ok (.iconst 2, 1) := by decide +kernel
theorem dX5_indexOf_99 : decode cX5_indexOf 99 = .ok (.idiv, 1) := by decide +kernel
theorem dX5_indexOf_100 : decode cX5_indexOf 100 = .ok (.iadd, 1) := by decide +kernel
theorem dX5_indexOf_101 : decode cX5_indexOf 101 = .ok (.iload 6, 2) := by decide +kernel
theorem dX5_indexOf_103 : decode cX5_indexOf 103 = .ok (.iadd, 1) := by decide +kernel
theorem dX5_indexOf_104 : decode cX5_indexOf 104 = .ok (.ireturn, 1) := by decide +kernel
theorem dX5_workedOut_0 : decode cX5_workedOut 0 = .ok (.aload_n 0, 1) := by decide +kernel
theorem dX5_workedOut_1 : decode cX5_workedOut 1 = .ok (.getfield 15, 3) := by decide +kernel
theorem dX5_workedOut_4 : decode cX5_workedOut 4 = .ok (.iload_n 1, 1) := by decide +kernel
theorem dX5_workedOut_5 : decode cX5_workedOut 5 = .ok (.invokevirtual 57, 3) := by decide +kernel
theorem dX5_workedOut_8 : decode cX5_workedOut 8 = .ok (.istore 5, 2) := by decide +kernel
theorem dX5_workedOut_10 : decode cX5_workedOut 10 = .ok (.lconst 0, 1) := by decide +kernel
theorem dX5_workedOut_11 : decode cX5_workedOut 11 = .ok (.lstore 6, 2) := by decide +kernel
theorem dX5_workedOut_13 : decode cX5_workedOut 13 = .ok (.iconst 0, 1) := by decide +kernel
theorem dX5_workedOut_14 : decode cX5_workedOut 14 = .ok (.istore 8, 2) := by decide +kernel
theorem dX5_workedOut_16 : decode cX5_workedOut 16 = .ok (.iload 8, 2) := by decide +kernel
theorem dX5_workedOut_18 : decode cX5_workedOut 18 = .ok (.aload_n 0, 1) := by decide +kernel
theorem dX5_workedOut_19 : decode cX5_workedOut 19 = .ok (.getfield 15, 3) := by decide +kernel
theorem dX5_workedOut_22 : decode cX5_workedOut 22 = .ok (.iload_n 1, 1) := by decide +kernel
theorem dX5_workedOut_23 : decode cX5_workedOut 23 = .ok (.invokevirtual 54, 3) := by decide +kernel
theorem dX5_workedOut_26 : decode cX5_workedOut 26 = .ok (.if_icmp .ge 89, 3) := by decide +kernel
theorem dX5_workedOut_29 : decode cX5_workedOut 29 = .ok (.aload_n 0, 1) := by decide +kernel
theorem dX5_workedOut_30 : decode cX5_workedOut 30 = .ok (.getfield 15, 3) := by decide +kernel
theorem dX5_workedOut_33 : decode cX5_workedOut 33 = .ok (.iload 5, 2) := by decide +kernel
theorem dX5_workedOut_35 : decode cX5_workedOut 35 = .ok (.iload 8, 2) := by decide +kernel
theorem dX5_workedOut_37 : decode cX5_workedOut 37 = .ok (.iadd, 1) := by decide +kernel
theorem dX5_workedOut_38 : decode cX5_workedOut 38 = .ok (.invokevirtual 60, 3) := by decide +kernel
theorem dX5_workedOut_41 : decode cX5_workedOut 41 = .ok (.i2l, 1) := by decide +kernel
theorem dX5_workedOut_42 : decode cX5_workedOut 42 = .ok (.lstore 9, 2) := by decide +kernel
theorem dX5_workedOut_44 : decode cX5_workedOut 44 = .ok (.lload 9, 2) := by decide +kernel
theorem dX5_workedOut_46 : decode cX5_workedOut 46 = .ok (.aload_n 0, 1) := by decide +kernel
theorem dX5_workedOut_47 : decode cX5_workedOut 47 = .ok (.getfield 19, 3) := by decide +kernel
theorem dX5_workedOut_50 : decode cX5_workedOut 50 = .ok (.iload 5, 2) := by decide +kernel
theorem dX5_workedOut_52 : decode cX5_workedOut 52 = .ok (.iload_n 2, 1) := by decide +kernel
theorem dX5_workedOut_53 : decode cX5_workedOut 53 = .ok (.iadd, 1) := by decide +kernel
theorem dX5_workedOut_54 : decode cX5_workedOut 54 = .ok (.iload 8, 2) := by decide +kernel
theorem dX5_workedOut_56 : decode cX5_workedOut 56 = .ok (.invokevirtual 63, 3) := by decide +kernel
theorem dX5_workedOut_59 : decode cX5_workedOut 59 = .ok (.i2l, 1) := by decide +kernel
theorem dX5_workedOut_60 : decode cX5_workedOut 60 = .ok (.lmul, 1) := by decide +kernel
theorem dX5_workedOut_61 : decode cX5_workedOut 61 = .ok (.lstore 9, 2) := by decide +kernel
theorem dX5_workedOut_63 : decode cX5_workedOut 63 = .ok (.lload 9, 2) := by decide +kernel
theorem dX5_workedOut_65 : decode cX5_workedOut 65 = .ok (.aload_n 0, 1) := by decide +kernel
theorem dX5_workedOut_66 : decode cX5_workedOut 66 = .ok (.getfield 19, 3) := by decide +kernel
theorem dX5_workedOut_69 : decode cX5_workedOut 69 = .ok (.iload 5, 2) := by decide +kernel
theorem dX5_workedOut_71 : decode cX5_workedOut 71 = .ok (.iload_n 3, 1) := by decide +kernel
theorem dX5_workedOut_72 : decode cX5_workedOut 72 = .ok (.iadd, 1) := by decide +kernel
theorem dX5_workedOut_73 : decode cX5_workedOut 73 = .ok (.iload 8, 2) := by decide +kernel
theorem dX5_workedOut_75 : decode cX5_workedOut 75 = .ok (.invokevirtual 63, 3) := by decide +kernel
theorem dX5_workedOut_78 : decode cX5_workedOut 78 = .ok (.i2l, 1) := by decide +kernel
theorem dX5_workedOut_79 : decode cX5_workedOut 79 = .ok (.lmul, 1) := by decide +kernel
theorem dX5_workedOut_80 : decode cX5_workedOut 80 = .ok (.lstore 9, 2) := by decide +kernel
theorem dX5_workedOut_82 : decode cX5_workedOut 82 = .ok (.lload 9, 2) := by decide +kernel
theorem dX5_workedOut_84 : decode cX5_workedOut 84 = .ok (.aload_n 0, 1) := by decide +kernel
theorem dX5_workedOut_85 : decode cX5_workedOut 85 = .ok (.getfield 19, 3) := by decide +kernel
theorem dX5_workedOut_88 : decode cX5_workedOut 88 = .ok (.iload 5, 2) := by decide +kernel
theorem dX5_workedOut_90 : decode cX5_workedOut 90 = .ok (.iload 4, 2) := by decide +kernel
theorem dX5_workedOut_92 : decode cX5_workedOut 92 = .ok (.iadd, 1) := by decide +kernel
theorem dX5_workedOut_93 : decode cX5_workedOut 93 = .ok (.iload 8, 2) := by decide +kernel
theorem dX5_workedOut_95 : decode cX5_workedOut 95 = .ok (.invokevirtual 63, 3) := by decide +kernel
theorem dX5_workedOut_98 : decode cX5_workedOut 98 = .ok (.i2l, 1) := by decide +kernel
theorem dX5_workedOut_99 : decode cX5_workedOut 99 = .ok (.lmul, 1) := by decide +kernel
theorem dX5_workedOut_100 : decode cX5_workedOut 100 = .ok (.lstore 9, 2) := by decide +kernel
theorem dX5_workedOut_102 : decode cX5_workedOut 102 = .ok (.lload 6, 2) := by decide +kernel
theorem dX5_workedOut_104 : decode cX5_workedOut 104 = .ok (.lload 9, 2) := by decide +kernel
theorem dX5_workedOut_106 : decode cX5_workedOut 106 = .ok (.ladd, 1) := by decide +kernel
theorem dX5_workedOut_107 : decode cX5_workedOut 107 = .ok (.lstore 6, 2) := by decide +kernel
theorem dX5_workedOut_109 : decode cX5_workedOut 109 = .ok (.iinc 8 1, 3) := by decide +kernel
theorem dX5_workedOut_112 : decode cX5_workedOut 112 = .ok (.goto (-96), 3) := by decide +kernel
theorem dX5_workedOut_115 : decode cX5_workedOut 115 = .ok (.iload_n 1, 1) := by decide +kernel
theorem dX5_workedOut_116 : decode cX5_workedOut 116 = .ok (.invokestatic 68, 3) := by decide +kernel
theorem dX5_workedOut_119 : decode cX5_workedOut 119 = .ok (.istore 8, 2) := by decide +kernel
theorem dX5_workedOut_121 : decode cX5_workedOut 121 = .ok (.iload 8, 2) := by decide +kernel
theorem dX5_workedOut_123 : decode cX5_workedOut 123 = .ok (.ifCond .le 13, 3) := by decide +kernel
theorem dX5_workedOut_126 : decode cX5_workedOut 126 = .ok (.lload 6, 2) := by decide +kernel
theorem dX5_workedOut_128 : decode cX5_workedOut 128 = .ok (.iload 8, 2) := by decide +kernel
theorem dX5_workedOut_130 : decode cX5_workedOut 130 = .ok (.i2l, 1) := by decide +kernel
theorem dX5_workedOut_131 : decode cX5_workedOut 131 = .ok (.ldiv, 1) := by decide +kernel
theorem dX5_workedOut_132 : decode cX5_workedOut 132 = .ok (.l2i, 1) := by decide +kernel
theorem dX5_workedOut_133 : decode cX5_workedOut 133 = .ok (.goto 4, 3) := by decide +kernel
theorem dX5_workedOut_136 : decode cX5_workedOut 136 = .ok (.iconst 0, 1) := by decide +kernel
theorem dX5_workedOut_137 : decode cX5_workedOut 137 = .ok (.ireturn, 1) := by decide +kernel
theorem dX5_lengthOfProduct_0 : decode cX5_lengthOfProduct 0 = .ok (.iconst 0, 1) := by decide +kernel
theorem dX5_lengthOfProduct_1 : decode cX5_lengthOfProduct 1 = .ok (.istore_n 3, 1) := by decide +kernel
theorem dX5_lengthOfProduct_2 : decode cX5_lengthOfProduct 2 = .ok (.aload_n 0, 1) := by decide +kernel
theorem dX5_lengthOfProduct_3 : decode cX5_lengthOfProduct 3 = .ok (.iload_n 1, 1) := by decide +kernel
theorem dX5_lengthOfProduct_4 : decode cX5_lengthOfProduct 4 = .ok (.invokevirtual 71, 3) := by decide +kernel
theorem dX5_lengthOfProduct_7 : decode cX5_lengthOfProduct 7 = .ok (.istore 4, 2) := by decide +kernel
theorem dX5_lengthOfProduct_9 : decode cX5_lengthOfProduct 9 = .ok (.iload 4, 2) := by decide +kernel
theorem dX5_lengthOfProduct_11 : decode cX5_lengthOfProduct 11 = .ok (.aload_n 0, 1) := by decide +kernel
theorem dX5_lengthOfProduct_12 : decode cX5_lengthOfProduct 12 = .ok (.iload_n 1, 1) := by decide +kernel
theorem dX5_lengthOfProduct_13 : decode cX5_lengthOfProduct 13 = .ok (.invokevirtual 74, 3) := by decide +kernel
theorem dX5_lengthOfProduct_16 : decode cX5_lengthOfProduct 16 = .ok (.if_icmp .ge 23, 3) := by decide +kernel
theorem dX5_lengthOfProduct_19 : decode cX5_lengthOfProduct 19 = .ok (.aload_n 0, 1) := by decide +kernel
theorem dX5_lengthOfProduct_20 : decode cX5_lengthOfProduct 20 = .ok (.iload_n 1, 1) := by decide +kernel
theorem dX5_lengthOfProduct_21 : decode cX5_lengthOfProduct 21 = .ok (.iload_n 2, 1) := by decide +kernel
theorem dX5_lengthOfProduct_22 : decode cX5_lengthOfProduct 22 = .ok (.iload 4, 2) := by decide +kernel
theorem dX5_lengthOfProduct_24 : decode cX5_lengthOfProduct 24 = .ok (.invokevirtual 77, 3) := by decide +kernel
theorem dX5_lengthOfProduct_27 : decode cX5_lengthOfProduct 27 = .ok (.ifCond .le 6, 3) := by decide +kernel
theorem dX5_lengthOfProduct_30 : decode cX5_lengthOfProduct 30 = .ok (.iinc 3 1, 3) := by decide +kernel
theorem dX5_lengthOfProduct_33 : decode cX5_lengthOfProduct 33 = .ok (.iinc 4 1, 3) := by decide +kernel
theorem dX5_lengthOfProduct_36 : decode cX5_lengthOfProduct 36 = .ok (.goto (-27), 3) := by decide +kernel
theorem dX5_lengthOfProduct_39 : decode cX5_lengthOfProduct 39 = .ok (.iload_n 3, 1) := by decide +kernel
theorem dX5_lengthOfProduct_40 : decode cX5_lengthOfProduct 40 = .ok (.ireturn, 1) := by decide +kernel
theorem dX5_partOfProduct_0 : decode cX5_partOfProduct 0 = .ok (.iconst 0, 1) := by decide +kernel
theorem dX5_partOfProduct_1 : decode cX5_partOfProduct 1 = .ok (.istore 4, 2) := by decide +kernel
theorem dX5_partOfProduct_3 : decode cX5_partOfProduct 3 = .ok (.aload_n 0, 1) := by decide +kernel
theorem dX5_partOfProduct_4 : decode cX5_partOfProduct 4 = .ok (.iload_n 1, 1) := by decide +kernel
theorem dX5_partOfProduct_5 : decode cX5_partOfProduct 5 = .ok (.invokevirtual 71, 3) := by decide +kernel
theorem dX5_partOfProduct_8 : decode cX5_partOfProduct 8 = .ok (.istore 5, 2) := by decide +kernel
theorem dX5_partOfProduct_10 : decode cX5_partOfProduct 10 = .ok (.iload 5, 2) := by decide +kernel
theorem dX5_partOfProduct_12 : decode cX5_partOfProduct 12 = .ok (.aload_n 0, 1) := by decide +kernel
theorem dX5_partOfProduct_13 : decode cX5_partOfProduct 13 = .ok (.iload_n 1, 1) := by decide +kernel
theorem dX5_partOfProduct_14 : decode cX5_partOfProduct 14 = .ok (.invokevirtual 74, 3) := by decide +kernel
theorem dX5_partOfProduct_17 : decode cX5_partOfProduct 17 = .ok (.if_icmp .ge 32, 3) := by decide +kernel
theorem dX5_partOfProduct_20 : decode cX5_partOfProduct 20 = .ok (.aload_n 0, 1) := by decide +kernel
theorem dX5_partOfProduct_21 : decode cX5_partOfProduct 21 = .ok (.iload_n 1, 1) := by decide +kernel
theorem dX5_partOfProduct_22 : decode cX5_partOfProduct 22 = .ok (.iload_n 2, 1) := by decide +kernel
theorem dX5_partOfProduct_23 : decode cX5_partOfProduct 23 = .ok (.iload 5, 2) := by decide +kernel
theorem dX5_partOfProduct_25 : decode cX5_partOfProduct 25 = .ok (.invokevirtual 77, 3) := by decide +kernel
theorem dX5_partOfProduct_28 : decode cX5_partOfProduct 28 = .ok (.ifCond .le 15, 3) := by decide +kernel
theorem dX5_partOfProduct_31 : decode cX5_partOfProduct 31 = .ok (.iload 4, 2) := by decide +kernel
theorem dX5_partOfProduct_33 : decode cX5_partOfProduct 33 = .ok (.iload_n 3, 1) := by decide +kernel
theorem dX5_partOfProduct_34 : decode cX5_partOfProduct 34 = .ok (.if_icmp .ne 6, 3) := by decide +kernel
theorem dX5_partOfProduct_37 : decode cX5_partOfProduct 37 = .ok (.iload 5, 2) := by decide +kernel
theorem dX5_partOfProduct_39 : decode cX5_partOfProduct 39 = .ok (.ireturn, 1) := by decide +kernel
theorem dX5_partOfProduct_40 : decode cX5_partOfProduct 40 = .ok (.iinc 4 1, 3) := by decide +kernel
theorem dX5_partOfProduct_43 : decode cX5_partOfProduct 43 = .ok (.iinc 5 1, 3) := by decide +kernel
theorem dX5_partOfProduct_46 : decode cX5_partOfProduct 46 = .ok (.goto (-36), 3) := by decide +kernel
theorem dX5_partOfProduct_49 : decode cX5_partOfProduct 49 = .ok (.bipush (-9), 2) := by decide +kernel
theorem dX5_partOfProduct_51 : decode cX5_partOfProduct 51 = .ok (.ireturn, 1) := by decide +kernel
theorem dX5_greatestInProduct_0 : decode cX5_greatestInProduct 0 = .ok (.iconst 0, 1) := by decide +kernel
theorem dX5_greatestInProduct_1 : decode cX5_greatestInProduct 1 = .ok (.istore_n 3, 1) := by decide +kernel
theorem dX5_greatestInProduct_2 : decode cX5_greatestInProduct 2 = .ok (.aload_n 0, 1) := by decide +kernel
theorem dX5_greatestInProduct_3 : decode cX5_greatestInProduct 3 = .ok (.iload_n 1, 1) := by decide +kernel
theorem dX5_greatestInProduct_4 : decode cX5_greatestInProduct 4 = .ok (.invokevirtual 71, 3) := by decide +kernel
theorem dX5_greatestInProduct_7 : decode cX5_greatestInProduct 7 = .ok (.istore 4, 2) := by decide +kernel
theorem dX5_greatestInProduct_9 : decode cX5_greatestInProduct 9 = .ok (.iload 4, 2) := by decide +kernel
theorem dX5_greatestInProduct_11 : decode cX5_greatestInProduct 11 = .ok (.aload_n 0, 1) := by decide +kernel
theorem dX5_greatestInProduct_12 : decode cX5_greatestInProduct 12 = .ok (.iload_n 1, 1) := by decide +kernel
theorem dX5_greatestInProduct_13 : decode cX5_greatestInProduct 13 = .ok (.invokevirtual 74, 3) := by decide +kernel
theorem dX5_greatestInProduct_16 : decode cX5_greatestInProduct 16 = .ok (.if_icmp .ge 22, 3) := by decide +kernel
theorem dX5_greatestInProduct_19 : decode cX5_greatestInProduct 19 = .ok (.iload_n 3, 1) := by decide +kernel
theorem dX5_greatestInProduct_20 : decode cX5_greatestInProduct 20 = .ok (.aload_n 0, 1) := by decide +kernel
theorem dX5_greatestInProduct_21 : decode cX5_greatestInProduct 21 = .ok (.iload_n 1, 1) := by decide +kernel
theorem dX5_greatestInProduct_22 : decode cX5_greatestInProduct 22 = .ok (.iload_n 2, 1) := by decide +kernel
theorem dX5_greatestInProduct_23 : decode cX5_greatestInProduct 23 = .ok (.iload 4, 2) := by decide +kernel
theorem dX5_greatestInProduct_25 : decode cX5_greatestInProduct 25 = .ok (.invokevirtual 77, 3) := by decide +kernel
theorem dX5_greatestInProduct_28 : decode cX5_greatestInProduct 28 = .ok (.invokestatic 42, 3) := by decide +kernel
theorem dX5_greatestInProduct_31 : decode cX5_greatestInProduct 31 = .ok (.istore_n 3, 1) := by decide +kernel
theorem dX5_greatestInProduct_32 : decode cX5_greatestInProduct 32 = .ok (.iinc 4 1, 3) := by decide +kernel
theorem dX5_greatestInProduct_35 : decode cX5_greatestInProduct 35 = .ok (.goto (-26), 3) := by decide +kernel
theorem dX5_greatestInProduct_38 : decode cX5_greatestInProduct 38 = .ok (.iload_n 3, 1) := by decide +kernel
theorem dX5_greatestInProduct_39 : decode cX5_greatestInProduct 39 = .ok (.ireturn, 1) := by decide +kernel
theorem dX5_first_0 : decode cX5_first 0 = .ok (.aload_n 0, 1) := by decide +kernel
theorem dX5_first_1 : decode cX5_first 1 = .ok (.getfield 15, 3) := by decide +kernel
theorem dX5_first_4 : decode cX5_first 4 = .ok (.aload_n 0, 1) := by decide +kernel
theorem dX5_first_5 : decode cX5_first 5 = .ok (.getfield 15, 3) := by decide +kernel
theorem dX5_first_8 : decode cX5_first 8 = .ok (.iload_n 1, 1) := by decide +kernel
theorem dX5_first_9 : decode cX5_first 9 = .ok (.invokevirtual 23, 3) := by decide +kernel
theorem dX5_first_12 : decode cX5_first 12 = .ok (.invokevirtual 57, 3) := by decide +kernel
theorem dX5_first_15 : decode cX5_first 15 = .ok (.ireturn, 1) := by decide +kernel
theorem dX5_end_0 : decode cX5_end 0 = .ok (.aload_n 0, 1) := by decide +kernel
theorem dX5_end_1 : decode cX5_end 1 = .ok (.iload_n 1, 1) := by decide +kernel
theorem dX5_end_2 : decode cX5_end 2 = .ok (.invokevirtual 71, 3) := by decide +kernel
theorem dX5_end_5 : decode cX5_end 5 = .ok (.aload_n 0, 1) := by decide +kernel
theorem dX5_end_6 : decode cX5_end 6 = .ok (.getfield 15, 3) := by decide +kernel
theorem dX5_end_9 : decode cX5_end 9 = .ok (.aload_n 0, 1) := by decide +kernel
theorem dX5_end_10 : decode cX5_end 10 = .ok (.getfield 15, 3) := by decide +kernel
theorem dX5_end_13 : decode cX5_end 13 = .ok (.iload_n 1, 1) := by decide +kernel
theorem dX5_end_14 : decode cX5_end 14 = .ok (.invokevirtual 23, 3) := by decide +kernel
theorem dX5_end_17 : decode cX5_end 17 = .ok (.invokevirtual 54, 3) := by decide +kernel
theorem dX5_end_20 : decode cX5_end 20 = .ok (.iadd, 1) := by decide +kernel
theorem dX5_end_21 : decode cX5_end 21 = .ok (.ireturn, 1) := by decide +kernel
theorem dX5_grownTo_0 : decode cX5_grownTo 0 = .ok (.aload_n 0, 1) := by decide +kernel
theorem dX5_grownTo_1 : decode cX5_grownTo 1 = .ok (.getfield 15, 3) := by decide +kernel
theorem dX5_grownTo_4 : decode cX5_grownTo 4 = .ok (.iload_n 1, 1) := by decide +kernel
theorem dX5_grownTo_5 : decode cX5_grownTo 5 = .ok (.iload 4, 2) := by decide +kernel
theorem dX5_grownTo_7 : decode cX5_grownTo 7 = .ok (.invokevirtual 81, 3) := by decide +kernel
theorem dX5_grownTo_10 : decode cX5_grownTo 10 = .ok (.istore 5, 2) := by decide +kernel
theorem dX5_grownTo_12 : decode cX5_grownTo 12 = .ok (.aload_n 0, 1) := by decide +kernel
theorem dX5_grownTo_13 : decode cX5_grownTo 13 = .ok (.getfield 15, 3) := by decide +kernel
theorem dX5_grownTo_16 : decode cX5_grownTo 16 = .ok (.iload_n 2, 1) := by decide +kernel
theorem dX5_grownTo_17 : decode cX5_grownTo 17 = .ok (.iload 4, 2) := by decide +kernel
theorem dX5_grownTo_19 : decode cX5_grownTo 19 = .ok (.invokevirtual 81, 3) := by decide +kernel
theorem dX5_grownTo_22 : decode cX5_grownTo 22 = .ok (.istore 6, 2) := by decide +kernel
theorem dX5_grownTo_24 : decode cX5_grownTo 24 = .ok (.aload_n 0, 1) := by decide +kernel
theorem dX5_grownTo_25 : decode cX5_grownTo 25 = .ok (.getfield 15, 3) := by decide +kernel
theorem dX5_grownTo_28 : decode cX5_grownTo 28 = .ok (.iload_n 3, 1) := by decide +kernel
theorem dX5_grownTo_29 : decode cX5_grownTo 29 = .ok (.iload 4, 2) := by decide +kernel
theorem dX5_grownTo_31 : decode cX5_grownTo 31 = .ok (.invokevirtual 81, 3) := by decide +kernel
theorem dX5_grownTo_34 : decode cX5_grownTo 34 = .ok (.istore 7, 2) := by decide +kernel
theorem dX5_grownTo_36 : decode cX5_grownTo 36 = .ok (.iload 5, 2) := by decide +kernel
theorem dX5_grownTo_38 : decode cX5_grownTo 38 = .ok (.ifCond .lt 13, 3) := by decide +kernel
theorem dX5_grownTo_41 : decode cX5_grownTo 41 = .ok (.iload 6, 2) := by decide +kernel
theorem dX5_grownTo_43 : decode cX5_grownTo 43 = .ok (.ifCond .lt 8, 3) := by decide +kernel
theorem dX5_grownTo_46 : decode cX5_grownTo 46 = .ok (.iload 7, 2) := by decide +kernel
theorem dX5_grownTo_48 : decode cX5_grownTo 48 = .ok (.ifCond .ge 6, 3) := by decide +kernel
theorem dX5_grownTo_51 : decode cX5_grownTo 51 = .ok (.bipush (-9), 2) := by decide +kernel
theorem dX5_grownTo_53 : decode cX5_grownTo 53 = .ok (.ireturn, 1) := by decide +kernel
theorem dX5_grownTo_54 : decode cX5_grownTo 54 = .ok (.aload_n 0, 1) := by decide +kernel
theorem dX5_grownTo_55 : decode cX5_grownTo 55 = .ok (.iload 5, 2) := by decide +kernel
theorem dX5_grownTo_57 : decode cX5_grownTo 57 = .ok (.iload 6, 2) := by decide +kernel
theorem dX5_grownTo_59 : decode cX5_grownTo 59 = .ok (.iload 7, 2) := by decide +kernel
theorem dX5_grownTo_61 : decode cX5_grownTo 61 = .ok (.invokevirtual 77, 3) := by decide +kernel
theorem dX5_grownTo_64 : decode cX5_grownTo 64 = .ok (.ireturn, 1) := by decide +kernel
