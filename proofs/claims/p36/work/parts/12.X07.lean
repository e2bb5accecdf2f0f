theorem dX7_init_0 : decode cX7_init 0 = .ok (.aload_n 0, 1) := by decide +kernel
theorem dX7_init_1 : decode cX7_init 1 = .ok (.invokespecial 3, 3) := by decide +kernel
theorem dX7_init_4 : decode cX7_init 4 = .ok (.aload_n 0, 1) := by decide +kernel
theorem dX7_init_5 : decode cX7_init 5 = .ok (.sipush 536, 3) := by decide +kernel
theorem dX7_init_8 : decode cX7_init 8 = .ok (.newarray .int, 2) := by decide +kernel
theorem dX7_init_10 : decode cX7_init 10 = .ok (.putfield 9, 3) := by decide +kernel
theorem dX7_init_13 : decode cX7_init 13 = .ok (.aload_n 0, 1) := by decide +kernel
theorem dX7_init_14 : decode cX7_init 14 = .ok (.bipush 67, 2) := by decide +kernel
theorem dX7_init_16 : decode cX7_init 16 = .ok (.newarray .int, 2) := by decide +kernel
theorem dX7_init_18 : decode cX7_init 18 = .ok (.putfield 15, 3) := by decide +kernel
theorem dX7_init_21 : decode cX7_init 21 = .ok (.aload_n 0, 1) := by decide +kernel
theorem dX7_init_22 : decode cX7_init 22 = .ok (.bipush 67, 2) := by decide +kernel
theorem dX7_init_24 : decode cX7_init 24 = .ok (.newarray .int, 2) := by decide +kernel
theorem dX7_init_26 : decode cX7_init 26 = .ok (.putfield 18, 3) := by decide +kernel
theorem dX7_init_29 : decode cX7_init 29 = .ok (.aload_n 0, 1) := by decide +kernel
theorem dX7_init_30 : decode cX7_init 30 = .ok (.bipush 67, 2) := by decide +kernel
theorem dX7_init_32 : decode cX7_init 32 = .ok (.newarray .int, 2) := by decide +kernel
theorem dX7_init_34 : decode cX7_init 34 = .ok (.putfield 21, 3) := by decide +kernel
theorem dX7_init_37 : decode cX7_init 37 = .ok (.aload_n 0, 1) := by decide +kernel
theorem dX7_init_38 : decode cX7_init 38 = .ok (.bipush 67, 2) := by decide +kernel
theorem dX7_init_40 : decode cX7_init 40 = .ok (.newarray .int, 2) := by decide +kernel
theorem dX7_init_42 : decode cX7_init 42 = .ok (.putfield 24, 3) := by decide +kernel
theorem dX7_init_45 : decode cX7_init 45 = .ok (.iconst 0, 1) := by decide +kernel
theorem dX7_init_46 : decode cX7_init 46 = .ok (.istore_n 1, 1) := by decide +kernel
theorem dX7_init_47 : decode cX7_init 47 = .ok (.iload_n 1, 1) := by decide +kernel
theorem dX7_init_48 : decode cX7_init 48 = .ok (.bipush 67, 2) := by decide +kernel
theorem dX7_init_50 : decode cX7_init 50 = .ok (.if_icmp .ge 14, 3) := by decide +kernel
theorem dX7_init_53 : decode cX7_init 53 = .ok (.aload_n 0, 1) := by decide +kernel
theorem dX7_init_54 : decode cX7_init 54 = .ok (.iload_n 1, 1) := by decide +kernel
theorem dX7_init_55 : decode cX7_init 55 = .ok (.invokevirtual 27, 3) := by decide +kernel
theorem dX7_init_58 : decode cX7_init 58 = .ok (.iinc 1 1, 3) := by decide +kernel
theorem dX7_init_61 : decode cX7_init 61 = .ok (.goto (-14), 3) := by decide +kernel
theorem dX7_init_64 : decode cX7_init 64 = .ok (.iconst 0, 1) := by decide +kernel
theorem dX7_init_65 : decode cX7_init 65 = .ok (.istore_n 1, 1) := by decide +kernel
theorem dX7_init_66 : decode cX7_init 66 = .ok (.iload_n 1, 1) := by decide +kernel
theorem dX7_init_67 : decode cX7_init 67 = .ok (.bipush 67, 2) := by decide +kernel
theorem dX7_init_69 : decode cX7_init 69 = .ok (.if_icmp .ge 49, 3) := by decide +kernel
theorem dX7_init_72 : decode cX7_init 72 = .ok (.aload_n 0, 1) := by decide +kernel
theorem dX7_init_73 : decode cX7_init 73 = .ok (.getfield 21, 3) := by decide +kernel
theorem dX7_init_76 : decode cX7_init 76 = .ok (.iload_n 1, 1) := by decide +kernel
theorem dX7_init_77 : decode cX7_init 77 = .ok (.aload_n 0, 1) := by decide +kernel
theorem dX7_init_78 : decode cX7_init 78 = .ok (.aload_n 0, 1) := by decide +kernel
theorem dX7_init_79 : decode cX7_init 79 = .ok (.iload_n 1, 1) := by decide +kernel
theorem dX7_init_80 : decode cX7_init 80 = .ok (.invokevirtual 31, 3) := by decide +kernel
theorem dX7_init_83 : decode cX7_init 83 = .ok (.aload_n 0, 1) := by decide +kernel
theorem dX7_init_84 : decode cX7_init 84 = .ok (.iload_n 1, 1) := by decide +kernel
theorem dX7_init_85 : decode cX7_init 85 = .ok (.iconst 0, 1) := by decide +kernel
theorem dX7_init_86 : decode cX7_init 86 = .ok (.invokevirtual 35, 3) := by decide +kernel
theorem dX7_init_89 : decode cX7_init 89 = .ok (.isub, 1) := by decide +kernel
theorem dX7_init_90 : decode cX7_init 90 = .ok (.aload_n 0, 1) := by decide +kernel
theorem dX7_init_91 : decode cX7_init 91 = .ok (.iconst 0, 1) := by decide +kernel
theorem dX7_init_92 : decode cX7_init 92 = .ok (.iload_n 1, 1) := by decide +kernel
theorem dX7_init_93 : decode cX7_init 93 = .ok (.iconst 1, 1) := by decide +kernel
theorem dX7_init_94 : decode cX7_init 94 = .ok (.invokevirtual 39, 3) := by decide +kernel
theorem dX7_init_97 : decode cX7_init 97 = .ok (.invokevirtual 43, 3) := by decide +kernel
theorem dX7_init_100 : decode cX7_init 100 = .ok (.iastore, 1) := by decide +kernel
theorem dX7_init_101 : decode cX7_init 101 = .ok (.aload_n 0, 1) := by decide +kernel
theorem dX7_init_102 : decode cX7_init 102 = .ok (.getfield 24, 3) := by decide +kernel
theorem dX7_init_105 : decode cX7_init 105 = .ok (.iload_n 1, 1) := by decide +kernel
theorem dX7_init_106 : decode cX7_init 106 = .ok (.aload_n 0, 1) := by decide +kernel
theorem dX7_init_107 : decode cX7_init 107 = .ok (.iload_n 1, 1) := by decide +kernel
theorem dX7_init_108 : decode cX7_init 108 = .ok (.invokevirtual 46, 3) := by decide +kernel
theorem dX7_init_111 : decode cX7_init 111 = .ok (.iastore, 1) := by decide +kernel
theorem dX7_init_112 : decode cX7_init 112 = .ok (.iinc 1 1, 3) := by decide +kernel
theorem dX7_init_115 : decode cX7_init 115 = .ok (.goto (-49), 3) := by decide +kernel
theorem dX7_init_118 : decode cX7_init 118 = .ok (.return_, 1) := by decide +kernel
theorem dX7_readRows_0 : decode cX7_readRows 0 = .ok (.iload_n 1, 1) := by decide +kernel
theorem dX7_readRows_1 : decode cX7_readRows 1 = .ok (.bipush 8, 2) := by decide +kernel
theorem dX7_readRows_3 : decode cX7_readRows 3 = .ok (.imul, 1) := by decide +kernel
theorem dX7_readRows_4 : decode cX7_readRows 4 = .ok (.istore_n 2, 1) := by decide +kernel
theorem dX7_readRows_5 : decode cX7_readRows 5 = .ok (.iconst 0, 1) := by decide +kernel
theorem dX7_readRows_6 : decode cX7_readRows 6 = .ok (.istore_n 3, 1) := by decide +kernel
theorem dX7_readRows_7 : decode cX7_readRows 7 = .ok (.iconst 0, 1) := by decide +kernel
theorem dX7_readRows_8 : decode cX7_readRows 8 = .ok (.istore 4, 2) := by decide +kernel
theorem dX7_readRows_10 : decode cX7_readRows 10 = .ok (.bipush 7, 2) := by decide +kernel
theorem dX7_readRows_12 : decode cX7_readRows 12 = .ok (.istore 5, 2) := by decide +kernel
theorem dX7_readRows_14 : decode cX7_readRows 14 = .ok (.iload 5, 2) := by decide +kernel
theorem dX7_readRows_16 : decode cX7_readRows 16 = .ok (.ifCond .lt 55, 3) := by decide +kernel
theorem dX7_readRows_19 : decode cX7_readRows 19 = .ok (.getstatic 49, 3) := by decide +kernel
theorem dX7_readRows_22 : decode cX7_readRows 22 = .ok (.iload_n 1, 1) := by decide +kernel
theorem dX7_readRows_23 : decode cX7_readRows 23 = .ok (.iaload, 1) := by decide +kernel
theorem dX7_readRows_24 : decode cX7_readRows 24 = .ok (.iload 5, 2) := by decide +kernel
theorem dX7_readRows_26 : decode cX7_readRows 26 = .ok (.iconst 4, 1) := by decide +kernel
theorem dX7_readRows_27 : decode cX7_readRows 27 = .ok (.imul, 1) := by decide +kernel
theorem dX7_readRows_28 : decode cX7_readRows 28 = .ok (.ishr, 1) := by decide +kernel
theorem dX7_readRows_29 : decode cX7_readRows 29 = .ok (.bipush 15, 2) := by decide +kernel
theorem dX7_readRows_31 : decode cX7_readRows 31 = .ok (.iand, 1) := by decide +kernel
theorem dX7_readRows_32 : decode cX7_readRows 32 = .ok (.istore 6, 2) := by decide +kernel
theorem dX7_readRows_34 : decode cX7_readRows 34 = .ok (.iload 6, 2) := by decide +kernel
theorem dX7_readRows_36 : decode cX7_readRows 36 = .ok (.ifCond .le 29, 3) := by decide +kernel
theorem dX7_readRows_39 : decode cX7_readRows 39 = .ok (.iload_n 3, 1) := by decide +kernel
theorem dX7_readRows_40 : decode cX7_readRows 40 = .ok (.bipush 8, 2) := by decide +kernel
theorem dX7_readRows_42 : decode cX7_readRows 42 = .ok (.if_icmp .ge 23, 3) := by decide +kernel
theorem dX7_readRows_45 : decode cX7_readRows 45 = .ok (.aload_n 0, 1) := by decide +kernel
theorem dX7_readRows_46 : decode cX7_readRows 46 = .ok (.getfield 9, 3) := by decide +kernel
theorem dX7_readRows_49 : decode cX7_readRows 49 = .ok (.iload_n 2, 1) := by decide +kernel
theorem dX7_readRows_50 : decode cX7_readRows 50 = .ok (.iload_n 3, 1) := by decide +kernel
theorem dX7_readRows_51 : decode cX7_readRows 51 = .ok (.iadd, 1) := by decide +kernel
theorem dX7_readRows_52 : decode cX7_readRows 52 = .ok (.iload 6, 2) := by decide +kernel
theorem dX7_readRows_54 : decode cX7_readRows 54 = .ok (.iastore, 1) := by decide +kernel
theorem dX7_readRows_55 : decode cX7_readRows 55 = .ok (.iinc 3 1, 3) := by decide +kernel
theorem dX7_readRows_58 : decode cX7_readRows 58 = .ok (.iload 4, 2) := by decide +kernel
theorem dX7_readRows_60 : decode cX7_readRows 60 = .ok (.iload 6, 2) := by decide +kernel
theorem dX7_readRows_62 : decode cX7_readRows 62 = .ok (.iadd, 1) := by decide +kernel
theorem dX7_readRows_63 : decode cX7_readRows 63 = .ok (.istore 4, 2) := by decide +kernel
theorem dX7_readRows_65 : decode cX7_readRows 65 = .ok (.iinc 5 (-1), 3) := by decide +kernel
theorem dX7_readRows_68 : decode cX7_readRows 68 = .ok (.goto (-54), 3) := by decide +kernel
theorem dX7_readRows_71 : decode cX7_readRows 71 = .ok (.aload_n 0, 1) := by decide +kernel
theorem dX7_readRows_72 : decode cX7_readRows 72 = .ok (.getfield 15, 3) := by decide +kernel
theorem dX7_readRows_75 : decode cX7_readRows 75 = .ok (.iload_n 1, 1) := by decide +kernel
theorem dX7_readRows_76 : decode cX7_readRows 76 = .ok (.iload_n 3, 1) := by decide +kernel
theorem dX7_readRows_77 : decode cX7_readRows 77 = .ok (.iastore, 1) := by decide +kernel
theorem dX7_readRows_78 : decode cX7_readRows 78 = .ok (.aload_n 0, 1) := by decide +kernel
theorem dX7_readRows_79 : decode cX7_readRows 79 = .ok (.getfield 18, 3) := by decide +kernel
theorem dX7_readRows_82 : decode cX7_readRows 82 = .ok (.iload_n 1, 1) := by decide +kernel
theorem dX7_readRows_83 : decode cX7_readRows 83 = .ok (.iload 4, 2) := by decide +kernel
theorem dX7_readRows_85 : decode cX7_readRows 85 = .ok (.iastore, 1) := by decide +kernel
theorem dX7_readRows_86 : decode cX7_readRows 86 = .ok (.return_, 1) := by decide +kernel
theorem dX7_countOrders_0 : decode cX7_countOrders 0 = .ok (.iconst 1, 1) := by decide +kernel
theorem dX7_countOrders_1 : decode cX7_countOrders 1 = .ok (.istore_n 2, 1) := by decide +kernel
theorem dX7_countOrders_2 : decode cX7_countOrders 2 = .ok (.iconst 0, 1) := by decide +kernel
theorem dX7_countOrders_3 : decode cX7_countOrders 3 = .ok (.istore_n 3, 1) := by decide +kernel
theorem dX7_countOrders_4 : decode cX7_countOrders 4 = .ok (.iconst 0, 1) := by decide +kernel
theorem dX7_countOrders_5 : decode cX7_countOrders 5 = .ok (.istore 4, 2) := by decide +kernel
theorem dX7_countOrders_7 : decode cX7_countOrders 7 = .ok (.iload 4, 2) := by decide +kernel
theorem dX7_countOrders_9 : decode cX7_countOrders 9 = .ok (.aload_n 0, 1) := by decide +kernel
theorem dX7_countOrders_10 : decode cX7_countOrders 10 = .ok (.iload_n 1, 1) := by decide +kernel
theorem dX7_countOrders_11 : decode cX7_countOrders 11 = .ok (.invokevirtual 52, 3) := by decide +kernel
theorem dX7_countOrders_14 : decode cX7_countOrders 14 = .ok (.if_icmp .ge 53, 3) := by decide +kernel
theorem dX7_countOrders_17 : decode cX7_countOrders 17 = .ok (.iload 4, 2) := by decide +kernel
theorem dX7_countOrders_19 : decode cX7_countOrders 19 = .ok (.ifCond .le 28, 3) := by decide +kernel
theorem dX7_countOrders_22 : decode cX7_countOrders 22 = .ok (.aload_n 0, 1) := by decide +kernel
theorem dX7_countOrders_23 : decode cX7_countOrders 23 = .ok (.iload_n 1, 1) := by decide +kernel
theorem dX7_countOrders_24 : decode cX7_countOrders 24 = .ok (.iload 4, 2) := by decide +kernel
theorem dX7_countOrders_26 : decode cX7_countOrders 26 = .ok (.invokevirtual 35, 3) := by decide +kernel
theorem dX7_countOrders_29 : decode cX7_countOrders 29 = .ok (.aload_n 0, 1) := by decide +kernel
theorem dX7_countOrders_30 : decode cX7_countOrders 30 = .ok (.iload_n 1, 1) := by decide +kernel
theorem dX7_countOrders_31 : decode cX7_countOrders 31 = .ok (.iload 4, 2) := by decide +kernel
theorem dX7_countOrders_33 : decode cX7_countOrders 33 = .ok (.iconst 1, 1) := by decide +kernel
theorem dX7_countOrders_34 : decode cX7_countOrders 34 = .ok (.isub, 1) := by decide +kernel
theorem dX7_countOrders_35 : decode cX7_countOrders 35 = .ok (.invokevirtual 35, 3) := by decide +kernel
theorem dX7_countOrders_38 : decode cX7_countOrders 38 = .ok (.if_icmp .ne 9, 3) := by decide +kernel
theorem dX7_countOrders_41 : decode cX7_countOrders 41 = .ok (.iload_n 3, 1) := by decide +kernel
theorem dX7_countOrders_42 : decode cX7_countOrders 42 = .ok (.iconst 1, 1) := by decide +kernel
theorem dX7_countOrders_43 : decode cX7_countOrders 43 = .ok (.iadd, 1) := by decide +kernel
theorem dX7_countOrders_44 : decode cX7_countOrders 44 = .ok (.goto 4, 3) := by decide +kernel
theorem dX7_countOrders_47 : decode cX7_countOrders 47 = .ok (.iconst 1, 1) := by decide +kernel
theorem dX7_countOrders_48 : decode cX7_countOrders 48 = .ok (.istore_n 3, 1) := by decide +kernel
theorem dX7_countOrders_49 : decode cX7_countOrders 49 = .ok (.iload_n 2, 1) := by decide +kernel
theorem dX7_countOrders_50 : decode cX7_countOrders 50 = .ok (.aload_n 0, 1) := by decide +kernel
theorem dX7_countOrders_51 : decode cX7_countOrders 51 = .ok (.iload_n 1, 1) := by decide +kernel
theorem dX7_countOrders_52 : decode cX7_countOrders 52 = .ok (.iload 4, 2) := by decide +kernel
theorem dX7_countOrders_54 : decode cX7_countOrders 54 = .ok (.invokevirtual 35, 3) := by decide +kernel
theorem dX7_countOrders_57 : decode cX7_countOrders 57 = .ok (.iload_n 3, 1) := by decide +kernel
theorem dX7_countOrders_58 : decode cX7_countOrders 58 = .ok (.imul, 1) := by decide +kernel
theorem dX7_countOrders_59 : decode cX7_countOrders 59 = .ok (.imul, 1) := by decide +kernel
theorem dX7_countOrders_60 : decode cX7_countOrders 60 = .ok (.istore_n 2, 1) := by decide +kernel
theorem dX7_countOrders_61 : decode cX7_countOrders 61 = .ok (.iinc 4 1, 3) := by decide +kernel
theorem dX7_countOrders_64 : decode cX7_countOrders 64 = .ok (.goto (-57), 3) := by decide +kernel
theorem dX7_countOrders_67 : decode cX7_countOrders 67 = .ok (.iload_n 2, 1) := by decide +kernel
theorem dX7_countOrders_68 : decode cX7_countOrders 68 = .ok (.ifCond .le 16, 3) := by decide +kernel
theorem dX7_countOrders_71 : decode cX7_countOrders 71 = .ok (.aload_n 0, 1) := by decide +kernel
theorem dX7_countOrders_72 : decode cX7_countOrders 72 = .ok (.iload_n 1, 1) := by decide +kernel
theorem dX7_countOrders_73 : decode cX7_countOrders 73 = .ok (.invokevirtual 31, 3) := by decide +kernel
theorem dX7_countOrders_76 : decode cX7_countOrders 76 = .ok (.invokestatic 55, 3) := by decide +kernel
theorem dX7_countOrders_79 : decode cX7_countOrders 79 = .ok (.iload_n 2, 1) := by decide +kernel
theorem dX7_countOrders_80 : decode cX7_countOrders 80 = .ok (.idiv, 1) := by decide +kernel
theorem dX7_countOrders_81 : decode cX7_countOrders 81 = .ok (.goto 4, 3) := by decide +kernel
theorem dX7_countOrders_84 : decode cX7_countOrders 84 = .ok (.iconst 0, 1) := by decide +kernel
theorem dX7_countOrders_85 : decode cX7_countOrders 85 = .ok (.ireturn, 1) := by decide +kernel
theorem dX7_factorial_0 : decode cX7_factorial 0 = .ok (.iload_n 0, 1) := by decide +kernel
theorem dX7_factorial_1 : decode cX7_factorial 1 = .ok (.ifCond .lt 19, 3) := by decide +kernel
theorem dX7_factorial_4 : decode cX7_factorial 4 = .ok (.iload_n 0, 1) := by decide +kernel
theorem dX7_factorial_5 : decode cX7_factorial 5 = .ok (.getstatic 58, 3) := by decide +kernel
theorem dX7_factorial_8 : decode cX7_factorial 8 = .ok (.arraylength, 1) := by decide +kernel
theorem dX7_factorial_9 : decode cX7_factorial 9 = .ok (.if_icmp .ge 11, 3) := by decide +kernel
theorem dX7_factorial_12 : decode cX7_factorial 12 = .ok (.getstatic 58, 3) := by decide +kernel
theorem dX7_factorial_15 : decode cX7_factorial 15 = .ok (.iload_n 0, 1) := by decide +kernel
theorem dX7_factorial_16 : decode cX7_factorial 16 = .ok (.iaload, 1) := by decide +kernel
theorem dX7_factorial_17 : decode cX7_factorial 17 = .ok (.goto 4, 3) := by decide +kernel
theorem dX7_factorial_20 : decode cX7_factorial 20 = .ok (.iconst 0, 1) := by decide +kernel
theorem dX7_factorial_21 : decode cX7_factorial 21 = .ok (.ireturn, 1) := by decide +kernel
theorem dX7_keyWith_0 : decode cX7_keyWith 0 = .ok (.iload_n 0, 1) := by decide +kernel
theorem dX7_keyWith_1 : decode cX7_keyWith 1 = .ok (.iconst 4, 1) := by decide +kernel
theorem dX7_keyWith_2 : decode cX7_keyWith 2 = .ok (.ishl, 1) := by decide +kernel
theorem dX7_keyWith_3 : decode cX7_keyWith 3 = .ok (.iload_n 1, 1) := by decide +kernel
theorem dX7_keyWith_4 : decode cX7_keyWith 4 = .ok (.ior, 1) := by decide +kernel
theorem dX7_keyWith_5 : decode cX7_keyWith 5 = .ok (.ireturn, 1) := by decide +kernel
theorem dX7_keyWithRows_0 : decode cX7_keyWithRows 0 = .ok (.iload_n 1, 1) := by decide +kernel
theorem dX7_keyWithRows_1 : decode cX7_keyWithRows 1 = .ok (.istore 4, 2) := by decide +kernel
theorem dX7_keyWithRows_3 : decode cX7_keyWithRows 3 = .ok (.iload_n 3, 1) := by decide +kernel
theorem dX7_keyWithRows_4 : decode cX7_keyWithRows 4 = .ok (.istore 5, 2) := by decide +kernel
theorem dX7_keyWithRows_6 : decode cX7_keyWithRows 6 = .ok (.iload 5, 2) := by decide +kernel
theorem dX7_keyWithRows_8 : decode cX7_keyWithRows 8 = .ok (.aload_n 0, 1) := by decide +kernel
theorem dX7_keyWithRows_9 : decode cX7_keyWithRows 9 = .ok (.iload_n 2, 1) := by decide +kernel
theorem dX7_keyWithRows_10 : decode cX7_keyWithRows 10 = .ok (.invokevirtual 52, 3) := by decide +kernel
theorem dX7_keyWithRows_13 : decode cX7_keyWithRows 13 = .ok (.if_icmp .ge 23, 3) := by decide +kernel
theorem dX7_keyWithRows_16 : decode cX7_keyWithRows 16 = .ok (.iload 4, 2) := by decide +kernel
theorem dX7_keyWithRows_18 : decode cX7_keyWithRows 18 = .ok (.aload_n 0, 1) := by decide +kernel
theorem dX7_keyWithRows_19 : decode cX7_keyWithRows 19 = .ok (.iload_n 2, 1) := by decide +kernel
theorem dX7_keyWithRows_20 : decode cX7_keyWithRows 20 = .ok (.iload 5, 2) := by decide +kernel
theorem dX7_keyWithRows_22 : decode cX7_keyWithRows 22 = .ok (.invokevirtual 35, 3) := by decide +kernel
theorem dX7_keyWithRows_25 : decode cX7_keyWithRows 25 = .ok (.invokestatic 61, 3) := by decide +kernel
theorem dX7_keyWithRows_28 : decode cX7_keyWithRows 28 = .ok (.istore 4, 2) := by decide +kernel
theorem dX7_keyWithRows_30 : decode cX7_keyWithRows 30 = .ok (.iinc 5 1, 3) := by decide +kernel
theorem dX7_keyWithRows_33 : decode cX7_keyWithRows 33 = .ok (.goto (-27), 3) := by decide +kernel
theorem dX7_keyWithRows_36 : decode cX7_keyWithRows 36 = .ok (.iload 4, 2) := by decide +kernel
theorem dX7_keyWithRows_38 : decode cX7_keyWithRows 38 = .ok (.ireturn, 1) := by decide +kernel
theorem dX7_find_0 : decode cX7_find 0 = .ok (.aload_n 0, 1) := by decide +kernel
theorem dX7_find_1 : decode cX7_find 1 = .ok (.iload_n 1, 1) := by decide +kernel
theorem dX7_find_2 : decode cX7_find 2 = .ok (.invokevirtual 64, 3) := by decide +kernel
theorem dX7_find_5 : decode cX7_find 5 = .ok (.aload_n 0, 1) := by decide +kernel
theorem dX7_find_6 : decode cX7_find 6 = .ok (.iload_n 1, 1) := by decide +kernel
theorem dX7_find_7 : decode cX7_find 7 = .ok (.invokevirtual 67, 3) := by decide +kernel
theorem dX7_find_10 : decode cX7_find 10 = .ok (.iadd, 1) := by decide +kernel
theorem dX7_find_11 : decode cX7_find 11 = .ok (.istore_n 3, 1) := by decide +kernel
theorem dX7_find_12 : decode cX7_find 12 = .ok (.aload_n 0, 1) := by decide +kernel
theorem dX7_find_13 : decode cX7_find 13 = .ok (.iload_n 1, 1) := by decide +kernel
theorem dX7_find_14 : decode cX7_find 14 = .ok (.invokevirtual 64, 3) := by decide +kernel
theorem dX7_find_17 : decode cX7_find 17 = .ok (.istore 4, 2) := by decide +kernel
theorem dX7_find_19 : decode cX7_find 19 = .ok (.iload 4, 2) := by decide +kernel
theorem dX7_find_21 : decode cX7_find 21 = .ok (.iload_n 3, 1) := by decide +kernel
theorem dX7_find_22 : decode cX7_find 22 = .ok (.if_icmp .ge 22, 3) := by decide +kernel
theorem dX7_find_25 : decode cX7_find 25 = .ok (.getstatic 49, 3) := by decide +kernel
theorem dX7_find_28 : decode cX7_find 28 = .ok (.iload 4, 2) := by decide +kernel
theorem dX7_find_30 : decode cX7_find 30 = .ok (.iaload, 1) := by decide +kernel
theorem dX7_find_31 : decode cX7_find 31 = .ok (.iload_n 2, 1) := by decide +kernel
theorem dX7_find_32 : decode cX7_find 32 = .ok (.if_icmp .ne 6, 3) := by decide +kernel
theorem dX7_find_35 : decode cX7_find 35 = .ok (.iload 4, 2) := by decide +kernel
theorem dX7_find_37 : decode cX7_find 37 = .ok (.ireturn, 1) := by decide +kernel
theorem dX7_find_38 : decode cX7_find 38 = .ok (.iinc 4 1, 3) := by decide +kernel
theorem dX7_find_41 : decode cX7_find 41 = .ok (.goto (-22), 3) := by decide +kernel
theorem dX7_find_44 : decode cX7_find 44 = .ok (.iconst (-1), 1) := by decide +kernel
theorem dX7_find_45 : decode cX7_find 45 = .ok (.ireturn, 1) := by decide +kernel
theorem dX7_has_0 : decode cX7_has 0 = .ok (.iload_n 1, 1) := by decide +kernel
theorem dX7_has_1 : decode cX7_has 1 = .ok (.ifCond .lt 13, 3) := by decide +kernel
theorem dX7_has_4 : decode cX7_has 4 = .ok (.iload_n 1, 1) := by decide +kernel
theorem dX7_has_5 : decode cX7_has 5 = .ok (.bipush 67, 2) := by decide +kernel
theorem dX7_has_7 : decode cX7_has 7 = .ok (.if_icmp .ge 7, 3) := by decide +kernel
theorem dX7_has_10 : decode cX7_has 10 = .ok (.iconst 1, 1) := by decide +kernel
theorem dX7_has_11 : decode cX7_has 11 = .ok (.goto 4, 3) := by decide +kernel
theorem dX7_has_14 : decode cX7_has 14 = .ok (.iconst 0, 1) := by decide +kernel
theorem dX7_has_15 : decode cX7_has 15 = .ok (.ireturn, 1) := by decide +kernel
theorem dX7_sizeOf_0 : decode cX7_sizeOf 0 = .ok (.aload_n 0, 1) := by decide +kernel
theorem dX7_sizeOf_1 : decode cX7_sizeOf 1 = .ok (.iload_n 1, 1) := by decide +kernel
theorem dX7_sizeOf_2 : decode cX7_sizeOf 2 = .ok (.invokevirtual 70, 3) := by decide +kernel
theorem dX7_sizeOf_5 : decode cX7_sizeOf 5 = .ok (.ifCond .eq 12, 3) := by decide +kernel
theorem dX7_sizeOf_8 : decode cX7_sizeOf 8 = .ok (.aload_n 0, 1) := by decide +kernel
theorem dX7_sizeOf_9 : decode cX7_sizeOf 9 = .ok (.getfield 18, 3) := by decide +kernel
theorem dX7_sizeOf_12 : decode cX7_sizeOf 12 = .ok (.iload_n 1, 1) := by decide +kernel
theorem dX7_sizeOf_13 : decode cX7_sizeOf 13 = .ok (.iaload, 1) := by decide +kernel
theorem dX7_sizeOf_14 : decode cX7_sizeOf 14 = .ok (.goto 4, 3) := by decide +kernel
theorem dX7_sizeOf_17 : decode cX7_sizeOf 17 = .ok (.iconst 0, 1) := by decide +kernel
theorem dX7_sizeOf_18 : decode cX7_sizeOf 18 = .ok (.ireturn, 1) := by decide +kernel
theorem dX7_lengthOf_0 : decode cX7_lengthOf 0 = .ok (.aload_n 0, 1) := by decide +kernel
theorem dX7_lengthOf_1 : decode cX7_lengthOf 1 = .ok (.iload_n 1, 1) := by decide +kernel
theorem dX7_lengthOf_2 : decode cX7_lengthOf 2 = .ok (.invokevirtual 70, 3) := by decide +kernel
theorem dX7_lengthOf_5 : decode cX7_lengthOf 5 = .ok (.ifCond .eq 12, 3) := by decide +kernel
theorem dX7_lengthOf_8 : decode cX7_lengthOf 8 = .ok (.aload_n 0, 1) := by decide +kernel
theorem dX7_lengthOf_9 : decode cX7_lengthOf 9 = .ok (.getfield 15, 3) := by decide +kernel
theorem dX7_lengthOf_12 : decode cX7_lengthOf 12 = .ok (.iload_n 1, 1) := by decide +kernel
theorem dX7_lengthOf_13 : decode cX7_lengthOf 13 = .ok (.iaload, 1) := by decide +kernel
theorem dX7_lengthOf_14 : decode cX7_lengthOf 14 = .ok (.goto 4, 3) := by decide +kernel
theorem dX7_lengthOf_17 : decode cX7_lengthOf 17 = .ok (.iconst 0, 1) := by decide +kernel
theorem dX7_lengthOf_18 : decode cX7_lengthOf 18 = .ok (.ireturn, 1) := by decide +kernel
theorem dX7_restOf_0 : decode cX7_restOf 0 = .ok (.aload_n 0, 1) := by decide +kernel
theorem dX7_restOf_1 : decode cX7_restOf 1 = .ok (.iload_n 1, 1) := by decide +kernel
theorem dX7_restOf_2 : decode cX7_restOf 2 = .ok (.invokevirtual 70, 3) := by decide +kernel
theorem dX7_restOf_5 : decode cX7_restOf 5 = .ok (.ifCond .eq 12, 3) := by decide +kernel
theorem dX7_restOf_8 : decode cX7_restOf 8 = .ok (.aload_n 0, 1) := by decide +kernel
theorem dX7_restOf_9 : decode cX7_restOf 9 = .ok (.getfield 21, 3) := by decide +kernel
theorem dX7_restOf_12 : decode cX7_restOf 12 = .ok (.iload_n 1, 1) := by decide +kernel
theorem dX7_restOf_13 : decode cX7_restOf 13 = .ok (.iaload, 1) := by decide +kernel
theorem dX7_restOf_14 : decode cX7_restOf 14 = .ok (.goto 4, 3) := by decide +kernel
theorem dX7_restOf_17 : decode cX7_restOf 17 = .ok (.iconst 0, 1) := by decide +kernel
theorem dX7_restOf_18 : decode cX7_restOf 18 = .ok (.ireturn, 1) := by decide +kernel
theorem dX7_ordersOf_0 : decode cX7_ordersOf 0 = .ok (.aload_n 0, 1) := by decide +kernel
theorem dX7_ordersOf_1 : decode cX7_ordersOf 1 = .ok (.iload_n 1, 1) := by decide +kernel
theorem dX7_ordersOf_2 : decode cX7_ordersOf 2 = .ok (.invokevirtual 70, 3) := by decide +kernel
theorem dX7_ordersOf_5 : decode cX7_ordersOf 5 = .ok (.ifCond .eq 12, 3) := by decide +kernel
theorem dX7_ordersOf_8 : decode cX7_ordersOf 8 = .ok (.aload_n 0, 1) := by decide +kernel
theorem dX7_ordersOf_9 : decode cX7_ordersOf 9 = .ok (.getfield 24, 3) := by decide +kernel
theorem dX7_ordersOf_12 : decode cX7_ordersOf 12 = .ok (.iload_n 1, 1) := by decide +kernel
theorem dX7_ordersOf_13 : decode cX7_ordersOf 13 = .ok (.iaload, 1) := by decide +kernel
theorem dX7_ordersOf_14 : decode cX7_ordersOf 14 = .ok (.goto 4, 3) := by decide +kernel
theorem dX7_ordersOf_17 : decode cX7_ordersOf 17 = .ok (.iconst 0, 1) := by decide +kernel
theorem dX7_ordersOf_18 : decode cX7_ordersOf 18 = .ok (.ireturn, 1) := by decide +kernel
theorem dX7_alike_0 : decode cX7_alike 0 = .ok (.aload_n 0, 1) := by decide +kernel
theorem dX7_alike_1 : decode cX7_alike 1 = .ok (.iload_n 1, 1) := by decide +kernel
theorem dX7_alike_2 : decode cX7_alike 2 = .ok (.invokevirtual 31, 3) := by decide +kernel
theorem dX7_alike_5 : decode cX7_alike 5 = .ok (.aload_n 0, 1) := by decide +kernel
theorem dX7_alike_6 : decode cX7_alike 6 = .ok (.iload_n 2, 1) := by decide +kernel
theorem dX7_alike_7 : decode cX7_alike 7 = .ok (.invokevirtual 31, 3) := by decide +kernel
theorem dX7_alike_10 : decode cX7_alike 10 = .ok (.if_icmp .ne 7, 3) := by decide +kernel
theorem dX7_alike_13 : decode cX7_alike 13 = .ok (.iconst 1, 1) := by decide +kernel
theorem dX7_alike_14 : decode cX7_alike 14 = .ok (.goto 4, 3) := by decide +kernel
theorem dX7_alike_17 : decode cX7_alike 17 = .ok (.iconst 0, 1) := by decide +kernel
theorem dX7_alike_18 : decode cX7_alike 18 = .ok (.ireturn, 1) := by decide +kernel
theorem dX7_firstOf_0 : decode cX7_firstOf 0 = .ok (.iload_n 1, 1) := by decide +kernel
theorem dX7_firstOf_1 : decode cX7_firstOf 1 = .ok (.ifCond .lt 17, 3) := by decide +kernel
theorem dX7_firstOf_4 : decode cX7_firstOf 4 = .ok (.iload_n 1, 1) := by decide +kernel
theorem dX7_firstOf_5 : decode cX7_firstOf 5 = .ok (.bipush 8, 2) := by decide +kernel
theorem dX7_firstOf_7 : decode cX7_firstOf 7 = .ok (.if_icmp .gt 11, 3) := by decide +kernel
theorem dX7_firstOf_10 : decode cX7_firstOf 10 = .ok (.getstatic 74, 3) := by decide +kernel
theorem dX7_firstOf_13 : decode cX7_firstOf 13 = .ok (.iload_n 1, 1) := by decide +kernel
theorem dX7_firstOf_14 : decode cX7_firstOf 14 = .ok (.iaload, 1) := by decide +kernel
theorem dX7_firstOf_15 : decode cX7_firstOf 15 = .ok (.goto 4, 3) := by decide +kernel
theorem dX7_firstOf_18 : decode cX7_firstOf 18 = .ok (.iconst 0, 1) := by decide +kernel
theorem dX7_firstOf_19 : decode cX7_firstOf 19 = .ok (.ireturn, 1) := by decide +kernel
theorem dX7_countOf_0 : decode cX7_countOf 0 = .ok (.iload_n 1, 1) := by decide +kernel
theorem dX7_countOf_1 : decode cX7_countOf 1 = .ok (.ifCond .lt 25, 3) := by decide +kernel
theorem dX7_countOf_4 : decode cX7_countOf 4 = .ok (.iload_n 1, 1) := by decide +kernel
theorem dX7_countOf_5 : decode cX7_countOf 5 = .ok (.bipush 8, 2) := by decide +kernel
theorem dX7_countOf_7 : decode cX7_countOf 7 = .ok (.if_icmp .gt 19, 3) := by decide +kernel
theorem dX7_countOf_10 : decode cX7_countOf 10 = .ok (.getstatic 74, 3) := by decide +kernel
theorem dX7_countOf_13 : decode cX7_countOf 13 = .ok (.iload_n 1, 1) := by decide +kernel
theorem dX7_countOf_14 : decode cX7_countOf 14 = .ok (.iconst 1, 1) := by decide +kernel
theorem dX7_countOf_15 : decode cX7_countOf 15 = .ok (.iadd, 1) := by decide +kernel
theorem dX7_countOf_16 : decode cX7_countOf 16 = .ok (.iaload, 1) := by decide +kernel
theorem dX7_countOf_17 : decode cX7_countOf 17 = .ok (.getstatic 74, 3) := by decide +kernel
theorem dX7_countOf_20 : decode cX7_countOf 20 = .ok (.iload_n 1, 1) := by decide +kernel
theorem dX7_countOf_21 : decode cX7_countOf 21 = .ok (.iaload, 1) := by decide +kernel
theorem dX7_countOf_22 : decode cX7_countOf 22 = .ok (.isub, 1) := by decide +kernel
theorem dX7_countOf_23 : decode cX7_countOf 23 = .ok (.goto 4, 3) := by decide +kernel
theorem dX7_countOf_26 : decode cX7_countOf 26 = .ok (.iconst 0, 1) := by decide +kernel
theorem dX7_countOf_27 : decode cX7_countOf 27 = .ok (.ireturn, 1) := by decide +kernel
theorem dX7_placeOf_0 : decode cX7_placeOf 0 = .ok (.iload_n 1, 1) := by decide +kernel
theorem dX7_placeOf_1 : decode cX7_placeOf 1 = .ok (.aload_n 0, 1) := by decide +kernel
theorem dX7_placeOf_2 : decode cX7_placeOf 2 = .ok (.aload_n 0, 1) := by decide +kernel
theorem dX7_placeOf_3 : decode cX7_placeOf 3 = .ok (.iload_n 1, 1) := by decide +kernel
theorem dX7_placeOf_4 : decode cX7_placeOf 4 = .ok (.invokevirtual 31, 3) := by decide +kernel
theorem dX7_placeOf_7 : decode cX7_placeOf 7 = .ok (.invokevirtual 64, 3) := by decide +kernel
theorem dX7_placeOf_10 : decode cX7_placeOf 10 = .ok (.isub, 1) := by decide +kernel
theorem dX7_placeOf_11 : decode cX7_placeOf 11 = .ok (.ireturn, 1) := by decide +kernel
theorem dX7_row_0 : decode cX7_row 0 = .ok (.aload_n 0, 1) := by decide +kernel
theorem dX7_row_1 : decode cX7_row 1 = .ok (.iload_n 1, 1) := by decide +kernel
theorem dX7_row_2 : decode cX7_row 2 = .ok (.invokevirtual 70, 3) := by decide +kernel
theorem dX7_row_5 : decode cX7_row 5 = .ok (.ifCond .eq 17, 3) := by decide +kernel
theorem dX7_row_8 : decode cX7_row 8 = .ok (.iload_n 2, 1) := by decide +kernel
theorem dX7_row_9 : decode cX7_row 9 = .ok (.ifCond .lt 13, 3) := by decide +kernel
theorem dX7_row_12 : decode cX7_row 12 = .ok (.iload_n 2, 1) := by decide +kernel
theorem dX7_row_13 : decode cX7_row 13 = .ok (.bipush 8, 2) := by decide +kernel
theorem dX7_row_15 : decode cX7_row 15 = .ok (.if_icmp .ge 7, 3) := by decide +kernel
theorem dX7_row_18 : decode cX7_row 18 = .ok (.iconst 1, 1) := by decide +kernel
theorem dX7_row_19 : decode cX7_row 19 = .ok (.goto 4, 3) := by decide +kernel
theorem dX7_row_22 : decode cX7_row 22 = .ok (.iconst 0, 1) := by decide +kernel
theorem dX7_row_23 : decode cX7_row 23 = .ok (.istore_n 3, 1) := by decide +kernel
theorem dX7_row_24 : decode cX7_row 24 = .ok (.iload_n 3, 1) := by decide +kernel
theorem dX7_row_25 : decode cX7_row 25 = .ok (.ifCond .eq 17, 3) := by decide +kernel
theorem dX7_row_28 : decode cX7_row 28 = .ok (.aload_n 0, 1) := by decide +kernel
theorem dX7_row_29 : decode cX7_row 29 = .ok (.getfield 9, 3) := by decide +kernel
theorem dX7_row_32 : decode cX7_row 32 = .ok (.iload_n 1, 1) := by decide +kernel
theorem dX7_row_33 : decode cX7_row 33 = .ok (.bipush 8, 2) := by decide +kernel
theorem dX7_row_35 : decode cX7_row 35 = .ok (.imul, 1) := by decide +kernel
theorem dX7_row_36 : decode cX7_row 36 = .ok (.iload_n 2, 1) := by decide +kernel
theorem dX7_row_37 : decode cX7_row 37 = .ok (.iadd, 1) := by decide +kernel
theorem dX7_row_38 : decode cX7_row 38 = .ok (.iaload, 1) := by decide +kernel
theorem dX7_row_39 : decode cX7_row 39 = .ok (.goto 4, 3) := by decide +kernel
theorem dX7_row_42 : decode cX7_row 42 = .ok (.iconst 0, 1) := by decide +kernel
theorem dX7_row_43 : decode cX7_row 43 = .ok (.ireturn, 1) := by decide +kernel
theorem dX7_column_0 : decode cX7_column 0 = .ok (.iconst 0, 1) := by decide +kernel
theorem dX7_column_1 : decode cX7_column 1 = .ok (.istore_n 3, 1) := by decide +kernel
theorem dX7_column_2 : decode cX7_column 2 = .ok (.iload_n 3, 1) := by decide +kernel
theorem dX7_column_3 : decode cX7_column 3 = .ok (.bipush 8, 2) := by decide +kernel
theorem dX7_column_5 : decode cX7_column 5 = .ok (.if_icmp .ge 19, 3) := by decide +kernel
theorem dX7_column_8 : decode cX7_column 8 = .ok (.iload_n 2, 1) := by decide +kernel
theorem dX7_column_9 : decode cX7_column 9 = .ok (.aload_n 0, 1) := by decide +kernel
theorem dX7_column_10 : decode cX7_column 10 = .ok (.iload_n 1, 1) := by decide +kernel
theorem dX7_column_11 : decode cX7_column 11 = .ok (.iload_n 3, 1) := by decide +kernel
theorem dX7_column_12 : decode cX7_column 12 = .ok (.invokevirtual 35, 3) := by decide +kernel
theorem dX7_column_15 : decode cX7_column 15 = .ok (.if_icmp .ge 9, 3) := by decide +kernel
theorem dX7_column_18 : decode cX7_column 18 = .ok (.iinc 3 1, 3) := by decide +kernel
theorem dX7_column_21 : decode cX7_column 21 = .ok (.goto (-19), 3) := by decide +kernel
theorem dX7_column_24 : decode cX7_column 24 = .ok (.iload_n 3, 1) := by decide +kernel
theorem dX7_column_25 : decode cX7_column 25 = .ok (.ireturn, 1) := by decide +kernel
theorem dX7_hookAt_0 : decode cX7_hookAt 0 = .ok (.aload_n 0, 1) := by decide +kernel
theorem dX7_hookAt_1 : decode cX7_hookAt 1 = .ok (.iload_n 1, 1) := by decide +kernel
theorem dX7_hookAt_2 : decode cX7_hookAt 2 = .ok (.iload_n 2, 1) := by decide +kernel
theorem dX7_hookAt_3 : decode cX7_hookAt 3 = .ok (.invokevirtual 35, 3) := by decide +kernel
theorem dX7_hookAt_6 : decode cX7_hookAt 6 = .ok (.iconst 1, 1) := by decide +kernel
theorem dX7_hookAt_7 : decode cX7_hookAt 7 = .ok (.isub, 1) := by decide +kernel
theorem dX7_hookAt_8 : decode cX7_hookAt 8 = .ok (.iload_n 3, 1) := by decide +kernel
theorem dX7_hookAt_9 : decode cX7_hookAt 9 = .ok (.isub, 1) := by decide +kernel
theorem dX7_hookAt_10 : decode cX7_hookAt 10 = .ok (.istore 4, 2) := by decide +kernel
theorem dX7_hookAt_12 : decode cX7_hookAt 12 = .ok (.aload_n 0, 1) := by decide +kernel
theorem dX7_hookAt_13 : decode cX7_hookAt 13 = .ok (.iload_n 1, 1) := by decide +kernel
theorem dX7_hookAt_14 : decode cX7_hookAt 14 = .ok (.iload_n 3, 1) := by decide +kernel
theorem dX7_hookAt_15 : decode cX7_hookAt 15 = .ok (.invokevirtual 77, 3) := by decide +kernel
theorem dX7_hookAt_18 : decode cX7_hookAt 18 = .ok (.iconst 1, 1) := by decide +kernel
theorem dX7_hookAt_19 : decode cX7_hookAt 19 = .ok (.isub, 1) := by decide +kernel
theorem dX7_hookAt_20 : decode cX7_hookAt 20 = .ok (.iload_n 2, 1) := by decide +kernel
theorem dX7_hookAt_21 : decode cX7_hookAt 21 = .ok (.isub, 1) := by decide +kernel
theorem dX7_hookAt_22 : decode cX7_hookAt 22 = .ok (.istore 5, 2) := by decide +kernel
theorem dX7_hookAt_24 : decode cX7_hookAt 24 = .ok (.iload 4, 2) := by decide +kernel
theorem dX7_hookAt_26 : decode cX7_hookAt 26 = .ok (.iload 5, 2) := by decide +kernel
theorem dX7_hookAt_28 : decode cX7_hookAt 28 = .ok (.iadd, 1) := by decide +kernel
theorem dX7_hookAt_29 : decode cX7_hookAt 29 = .ok (.iconst 1, 1) := by decide +kernel
theorem dX7_hookAt_30 : decode cX7_hookAt 30 = .ok (.iadd, 1) := by decide +kernel
theorem dX7_hookAt_31 : decode cX7_hookAt 31 = .ok (.ireturn, 1) := by decide +kernel
theorem dX7_turnedOf_0 : decode cX7_turnedOf 0 = .ok (.iconst 0, 1) := by decide +kernel
theorem dX7_turnedOf_1 : decode cX7_turnedOf 1 = .ok (.istore_n 2, 1) := by decide +kernel
theorem dX7_turnedOf_2 : decode cX7_turnedOf 2 = .ok (.iconst 0, 1) := by decide +kernel
theorem dX7_turnedOf_3 : decode cX7_turnedOf 3 = .ok (.istore_n 3, 1) := by decide +kernel
theorem dX7_turnedOf_4 : decode cX7_turnedOf 4 = .ok (.iload_n 3, 1) := by decide +kernel
theorem dX7_turnedOf_5 : decode cX7_turnedOf 5 = .ok (.aload_n 0, 1) := by decide +kernel
theorem dX7_turnedOf_6 : decode cX7_turnedOf 6 = .ok (.iload_n 1, 1) := by decide +kernel
theorem dX7_turnedOf_7 : decode cX7_turnedOf 7 = .ok (.iconst 0, 1) := by decide +kernel
theorem dX7_turnedOf_8 : decode cX7_turnedOf 8 = .ok (.invokevirtual 35, 3) := by decide +kernel
theorem dX7_turnedOf_11 : decode cX7_turnedOf 11 = .ok (.if_icmp .ge 20, 3) := by decide +kernel
theorem dX7_turnedOf_14 : decode cX7_turnedOf 14 = .ok (.iload_n 2, 1) := by decide +kernel
theorem dX7_turnedOf_15 : decode cX7_turnedOf 15 = .ok (.aload_n 0, 1) := by decide +kernel
theorem dX7_turnedOf_16 : decode cX7_turnedOf 16 = .ok (.iload_n 1, 1) := by decide +kernel
theorem dX7_turnedOf_17 : decode cX7_turnedOf 17 = .ok (.iload_n 3, 1) := by decide +kernel
theorem dX7_turnedOf_18 : decode cX7_turnedOf 18 = .ok (.invokevirtual 77, 3) := by decide +kernel
theorem dX7_turnedOf_21 : decode cX7_turnedOf 21 = .ok (.invokestatic 61, 3) := by decide +kernel
theorem dX7_turnedOf_24 : decode cX7_turnedOf 24 = .ok (.istore_n 2, 1) := by decide +kernel
theorem dX7_turnedOf_25 : decode cX7_turnedOf 25 = .ok (.iinc 3 1, 3) := by decide +kernel
theorem dX7_turnedOf_28 : decode cX7_turnedOf 28 = .ok (.goto (-24), 3) := by decide +kernel
theorem dX7_turnedOf_31 : decode cX7_turnedOf 31 = .ok (.aload_n 0, 1) := by decide +kernel
theorem dX7_turnedOf_32 : decode cX7_turnedOf 32 = .ok (.aload_n 0, 1) := by decide +kernel
theorem dX7_turnedOf_33 : decode cX7_turnedOf 33 = .ok (.iload_n 1, 1) := by decide +kernel
theorem dX7_turnedOf_34 : decode cX7_turnedOf 34 = .ok (.invokevirtual 31, 3) := by decide +kernel
theorem dX7_turnedOf_37 : decode cX7_turnedOf 37 = .ok (.iload_n 2, 1) := by decide +kernel
theorem dX7_turnedOf_38 : decode cX7_turnedOf 38 = .ok (.invokevirtual 43, 3) := by decide +kernel
theorem dX7_turnedOf_41 : decode cX7_turnedOf 41 = .ok (.ireturn, 1) := by decide +kernel
theorem dX7_grownTo_0 : decode cX7_grownTo 0 = .ok (.iload_n 2, 1) := by decide +kernel
theorem dX7_grownTo_1 : decode cX7_grownTo 1 = .ok (.aload_n 0, 1) := by decide +kernel
theorem dX7_grownTo_2 : decode cX7_grownTo 2 = .ok (.iload_n 1, 1) := by decide +kernel
theorem dX7_grownTo_3 : decode cX7_grownTo 3 = .ok (.invokevirtual 31, 3) := by decide +kernel
theorem dX7_grownTo_6 : decode cX7_grownTo 6 = .ok (.isub, 1) := by decide +kernel
theorem dX7_grownTo_7 : decode cX7_grownTo 7 = .ok (.istore_n 3, 1) := by decide +kernel
theorem dX7_grownTo_8 : decode cX7_grownTo 8 = .ok (.iload_n 3, 1) := by decide +kernel
theorem dX7_grownTo_9 : decode cX7_grownTo 9 = .ok (.aload_n 0, 1) := by decide +kernel
theorem dX7_grownTo_10 : decode cX7_grownTo 10 = .ok (.iload_n 1, 1) := by decide +kernel
theorem dX7_grownTo_11 : decode cX7_grownTo 11 = .ok (.iconst 0, 1) := by decide +kernel
theorem dX7_grownTo_12 : decode cX7_grownTo 12 = .ok (.invokevirtual 35, 3) := by decide +kernel
theorem dX7_grownTo_15 : decode cX7_grownTo 15 = .ok (.if_icmp .lt 9, 3) := by decide +kernel
theorem dX7_grownTo_18 : decode cX7_grownTo 18 = .ok (.iload_n 2, 1) := by decide +kernel
theorem dX7_grownTo_19 : decode cX7_grownTo 19 = .ok (.bipush 8, 2) := by decide +kernel
theorem dX7_grownTo_21 : decode cX7_grownTo 21 = .ok (.if_icmp .le 6, 3) := by decide +kernel
theorem dX7_grownTo_24 : decode cX7_grownTo 24 = .ok (.bipush (-9), 2) := by decide +kernel
theorem dX7_grownTo_26 : decode cX7_grownTo 26 = .ok (.ireturn, 1) := by decide +kernel
theorem dX7_grownTo_27 : decode cX7_grownTo 27 = .ok (.aload_n 0, 1) := by decide +kernel
theorem dX7_grownTo_28 : decode cX7_grownTo 28 = .ok (.iload_n 2, 1) := by decide +kernel
theorem dX7_grownTo_29 : decode cX7_grownTo 29 = .ok (.aload_n 0, 1) := by decide +kernel
theorem dX7_grownTo_30 : decode cX7_grownTo 30 = .ok (.iload_n 3, 1) := by decide +kernel
theorem dX7_grownTo_31 : decode cX7_grownTo 31 = .ok (.iload_n 1, 1) := by decide +kernel
theorem dX7_grownTo_32 : decode cX7_grownTo 32 = .ok (.iconst 0, 1) := by decide +kernel
theorem dX7_grownTo_33 : decode cX7_grownTo 33 = .ok (.invokevirtual 39, 3) := by decide +kernel
theorem dX7_grownTo_36 : decode cX7_grownTo 36 = .ok (.invokevirtual 43, 3) := by decide +kernel
theorem dX7_grownTo_39 : decode cX7_grownTo 39 = .ok (.ireturn, 1) := by decide +kernel
