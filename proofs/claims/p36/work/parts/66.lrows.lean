theorem dL_cell_0 : decode cL_cell 0 = .ok (.iload_n 1, 1) := by decide +kernel
theorem dL_cell_1 : decode cL_cell 1 = .ok (.aload_n 0, 1) := by decide +kernel
theorem dL_cell_2 : decode cL_cell 2 = .ok (.arraylength, 1) := by decide +kernel
theorem dL_cell_3 : decode cL_cell 3 = .ok (.if_icmp .ge 9, 3) := by decide +kernel
theorem dL_cell_6 : decode cL_cell 6 = .ok (.aload_n 0, 1) := by decide +kernel
theorem dL_cell_7 : decode cL_cell 7 = .ok (.iload_n 1, 1) := by decide +kernel
theorem dL_cell_8 : decode cL_cell 8 = .ok (.iaload, 1) := by decide +kernel
theorem dL_cell_9 : decode cL_cell 9 = .ok (.goto 7, 3) := by decide +kernel
theorem dL_cell_12 : decode cL_cell 12 = .ok (.ldc 7, 2) := by decide +kernel
theorem dL_cell_14 : decode cL_cell 14 = .ok (.iload_n 1, 1) := by decide +kernel
theorem dL_cell_15 : decode cL_cell 15 = .ok (.imul, 1) := by decide +kernel
theorem dL_cell_16 : decode cL_cell 16 = .ok (.ireturn, 1) := by decide +kernel
theorem dL_first_0 : decode cL_first 0 = .ok (.bipush 10, 2) := by decide +kernel
theorem dL_first_2 : decode cL_first 2 = .ok (.newarray .int, 2) := by decide +kernel
theorem dL_first_4 : decode cL_first 4 = .ok (.dup, 1) := by decide +kernel
theorem dL_first_5 : decode cL_first 5 = .ok (.iconst 0, 1) := by decide +kernel
theorem dL_first_6 : decode cL_first 6 = .ok (.iconst 0, 1) := by decide +kernel
theorem dL_first_7 : decode cL_first 7 = .ok (.iastore, 1) := by decide +kernel
theorem dL_first_8 : decode cL_first 8 = .ok (.dup, 1) := by decide +kernel
theorem dL_first_9 : decode cL_first 9 = .ok (.iconst 1, 1) := by decide +kernel
theorem dL_first_10 : decode cL_first 10 = .ok (.iconst 1, 1) := by decide +kernel
theorem dL_first_11 : decode cL_first 11 = .ok (.iastore, 1) := by decide +kernel
theorem dL_first_12 : decode cL_first 12 = .ok (.dup, 1) := by decide +kernel
theorem dL_first_13 : decode cL_first 13 = .ok (.iconst 2, 1) := by decide +kernel
theorem dL_first_14 : decode cL_first 14 = .ok (.iconst 2, 1) := by decide +kernel
theorem dL_first_15 : decode cL_first 15 = .ok (.iastore, 1) := by decide +kernel
theorem dL_first_16 : decode cL_first 16 = .ok (.dup, 1) := by decide +kernel
theorem dL_first_17 : decode cL_first 17 = .ok (.iconst 3, 1) := by decide +kernel
theorem dL_first_18 : decode cL_first 18 = .ok (.iconst 4, 1) := by decide +kernel
theorem dL_first_19 : decode cL_first 19 = .ok (.iastore, 1) := by decide +kernel
theorem dL_first_20 : decode cL_first 20 = .ok (.dup, 1) := by decide +kernel
theorem dL_first_21 : decode cL_first 21 = .ok (.iconst 4, 1) := by decide +kernel
theorem dL_first_22 : decode cL_first 22 = .ok (.bipush 7, 2) := by decide +kernel
theorem dL_first_24 : decode cL_first 24 = .ok (.iastore, 1) := by decide +kernel
theorem dL_first_25 : decode cL_first 25 = .ok (.dup, 1) := by decide +kernel
theorem dL_first_26 : decode cL_first 26 = .ok (.iconst 5, 1) := by decide +kernel
theorem dL_first_27 : decode cL_first 27 = .ok (.bipush 12, 2) := by decide +kernel
theorem dL_first_29 : decode cL_first 29 = .ok (.iastore, 1) := by decide +kernel
theorem dL_first_30 : decode cL_first 30 = .ok (.dup, 1) := by decide +kernel
theorem dL_first_31 : decode cL_first 31 = .ok (.bipush 6, 2) := by decide +kernel
theorem dL_first_33 : decode cL_first 33 = .ok (.bipush 19, 2) := by decide +kernel
theorem dL_first_35 : decode cL_first 35 = .ok (.iastore, 1) := by decide +kernel
theorem dL_first_36 : decode cL_first 36 = .ok (.dup, 1) := by decide +kernel
theorem dL_first_37 : decode cL_first 37 = .ok (.bipush 7, 2) := by decide +kernel
theorem dL_first_39 : decode cL_first 39 = .ok (.bipush 30, 2) := by decide +kernel
theorem dL_first_41 : decode cL_first 41 = .ok (.iastore, 1) := by decide +kernel
theorem dL_first_42 : decode cL_first 42 = .ok (.dup, 1) := by decide +kernel
theorem dL_first_43 : decode cL_first 43 = .ok (.bipush 8, 2) := by decide +kernel
theorem dL_first_45 : decode cL_first 45 = .ok (.bipush 45, 2) := by decide +kernel
theorem dL_first_47 : decode cL_first 47 = .ok (.iastore, 1) := by decide +kernel
theorem dL_first_48 : decode cL_first 48 = .ok (.dup, 1) := by decide +kernel
theorem dL_first_49 : decode cL_first 49 = .ok (.bipush 9, 2) := by decide +kernel
theorem dL_first_51 : decode cL_first 51 = .ok (.bipush 67, 2) := by decide +kernel
theorem dL_first_53 : decode cL_first 53 = .ok (.iastore, 1) := by decide +kernel
theorem dL_first_54 : decode cL_first 54 = .ok (.iload_n 0, 1) := by decide +kernel
theorem dL_first_55 : decode cL_first 55 = .ok (.iaload, 1) := by decide +kernel
theorem dL_first_56 : decode cL_first 56 = .ok (.ireturn, 1) := by decide +kernel
theorem dL_times_0 : decode cL_times 0 = .ok (.iload_n 0, 1) := by decide +kernel
theorem dL_times_1 : decode cL_times 1 = .ok (.iconst 2, 1) := by decide +kernel
theorem dL_times_2 : decode cL_times 2 = .ok (.if_icmp .ge 7, 3) := by decide +kernel
theorem dL_times_5 : decode cL_times 5 = .ok (.iconst 1, 1) := by decide +kernel
theorem dL_times_6 : decode cL_times 6 = .ok (.goto 11, 3) := by decide +kernel
theorem dL_times_9 : decode cL_times 9 = .ok (.iload_n 0, 1) := by decide +kernel
theorem dL_times_10 : decode cL_times 10 = .ok (.iload_n 0, 1) := by decide +kernel
theorem dL_times_11 : decode cL_times 11 = .ok (.iconst 1, 1) := by decide +kernel
theorem dL_times_12 : decode cL_times 12 = .ok (.isub, 1) := by decide +kernel
theorem dL_times_13 : decode cL_times 13 = .ok (.invokestatic 28, 3) := by decide +kernel
theorem dL_times_16 : decode cL_times 16 = .ok (.imul, 1) := by decide +kernel
theorem dL_times_17 : decode cL_times 17 = .ok (.ireturn, 1) := by decide +kernel
theorem dL_size_0 : decode cL_size 0 = .ok (.iconst 0, 1) := by decide +kernel
theorem dL_size_1 : decode cL_size 1 = .ok (.istore_n 1, 1) := by decide +kernel
theorem dL_size_2 : decode cL_size 2 = .ok (.aload_n 0, 1) := by decide +kernel
theorem dL_size_3 : decode cL_size 3 = .ok (.astore_n 2, 1) := by decide +kernel
theorem dL_size_4 : decode cL_size 4 = .ok (.aload_n 2, 1) := by decide +kernel
theorem dL_size_5 : decode cL_size 5 = .ok (.arraylength, 1) := by decide +kernel
theorem dL_size_6 : decode cL_size 6 = .ok (.istore_n 3, 1) := by decide +kernel
theorem dL_size_7 : decode cL_size 7 = .ok (.iconst 0, 1) := by decide +kernel
theorem dL_size_8 : decode cL_size 8 = .ok (.istore 4, 2) := by decide +kernel
theorem dL_size_10 : decode cL_size 10 = .ok (.iload 4, 2) := by decide +kernel
theorem dL_size_12 : decode cL_size 12 = .ok (.iload_n 3, 1) := by decide +kernel
theorem dL_size_13 : decode cL_size 13 = .ok (.if_icmp .ge 20, 3) := by decide +kernel
theorem dL_size_16 : decode cL_size 16 = .ok (.aload_n 2, 1) := by decide +kernel
theorem dL_size_17 : decode cL_size 17 = .ok (.iload 4, 2) := by decide +kernel
theorem dL_size_19 : decode cL_size 19 = .ok (.iaload, 1) := by decide +kernel
theorem dL_size_20 : decode cL_size 20 = .ok (.istore 5, 2) := by decide +kernel
theorem dL_size_22 : decode cL_size 22 = .ok (.iload_n 1, 1) := by decide +kernel
theorem dL_size_23 : decode cL_size 23 = .ok (.iload 5, 2) := by decide +kernel
theorem dL_size_25 : decode cL_size 25 = .ok (.iadd, 1) := by decide +kernel
theorem dL_size_26 : decode cL_size 26 = .ok (.istore_n 1, 1) := by decide +kernel
theorem dL_size_27 : decode cL_size 27 = .ok (.iinc 4 1, 3) := by decide +kernel
theorem dL_size_30 : decode cL_size 30 = .ok (.goto (-20), 3) := by decide +kernel
theorem dL_size_33 : decode cL_size 33 = .ok (.iload_n 1, 1) := by decide +kernel
theorem dL_size_34 : decode cL_size 34 = .ok (.ireturn, 1) := by decide +kernel
theorem dL_orders_0 : decode cL_orders 0 = .ok (.iconst 1, 1) := by decide +kernel
theorem dL_orders_1 : decode cL_orders 1 = .ok (.istore_n 1, 1) := by decide +kernel
theorem dL_orders_2 : decode cL_orders 2 = .ok (.iconst 0, 1) := by decide +kernel
theorem dL_orders_3 : decode cL_orders 3 = .ok (.istore_n 2, 1) := by decide +kernel
theorem dL_orders_4 : decode cL_orders 4 = .ok (.iload_n 2, 1) := by decide +kernel
theorem dL_orders_5 : decode cL_orders 5 = .ok (.aload_n 0, 1) := by decide +kernel
theorem dL_orders_6 : decode cL_orders 6 = .ok (.arraylength, 1) := by decide +kernel
theorem dL_orders_7 : decode cL_orders 7 = .ok (.if_icmp .ge 47, 3) := by decide +kernel
theorem dL_orders_10 : decode cL_orders 10 = .ok (.iconst 0, 1) := by decide +kernel
theorem dL_orders_11 : decode cL_orders 11 = .ok (.istore_n 3, 1) := by decide +kernel
theorem dL_orders_12 : decode cL_orders 12 = .ok (.iconst 0, 1) := by decide +kernel
theorem dL_orders_13 : decode cL_orders 13 = .ok (.istore 4, 2) := by decide +kernel
theorem dL_orders_15 : decode cL_orders 15 = .ok (.iload 4, 2) := by decide +kernel
theorem dL_orders_17 : decode cL_orders 17 = .ok (.iload_n 2, 1) := by decide +kernel
theorem dL_orders_18 : decode cL_orders 18 = .ok (.if_icmp .gt 22, 3) := by decide +kernel
theorem dL_orders_21 : decode cL_orders 21 = .ok (.aload_n 0, 1) := by decide +kernel
theorem dL_orders_22 : decode cL_orders 22 = .ok (.iload 4, 2) := by decide +kernel
theorem dL_orders_24 : decode cL_orders 24 = .ok (.iaload, 1) := by decide +kernel
theorem dL_orders_25 : decode cL_orders 25 = .ok (.aload_n 0, 1) := by decide +kernel
theorem dL_orders_26 : decode cL_orders 26 = .ok (.iload_n 2, 1) := by decide +kernel
theorem dL_orders_27 : decode cL_orders 27 = .ok (.iaload, 1) := by decide +kernel
theorem dL_orders_28 : decode cL_orders 28 = .ok (.if_icmp .ne 6, 3) := by decide +kernel
theorem dL_orders_31 : decode cL_orders 31 = .ok (.iinc 3 1, 3) := by decide +kernel
theorem dL_orders_34 : decode cL_orders 34 = .ok (.iinc 4 1, 3) := by decide +kernel
theorem dL_orders_37 : decode cL_orders 37 = .ok (.goto (-22), 3) := by decide +kernel
theorem dL_orders_40 : decode cL_orders 40 = .ok (.iload_n 1, 1) := by decide +kernel
theorem dL_orders_41 : decode cL_orders 41 = .ok (.aload_n 0, 1) := by decide +kernel
theorem dL_orders_42 : decode cL_orders 42 = .ok (.iload_n 2, 1) := by decide +kernel
theorem dL_orders_43 : decode cL_orders 43 = .ok (.iaload, 1) := by decide +kernel
theorem dL_orders_44 : decode cL_orders 44 = .ok (.iload_n 3, 1) := by decide +kernel
theorem dL_orders_45 : decode cL_orders 45 = .ok (.imul, 1) := by decide +kernel
theorem dL_orders_46 : decode cL_orders 46 = .ok (.imul, 1) := by decide +kernel
theorem dL_orders_47 : decode cL_orders 47 = .ok (.istore_n 1, 1) := by decide +kernel
theorem dL_orders_48 : decode cL_orders 48 = .ok (.iinc 2 1, 3) := by decide +kernel
theorem dL_orders_51 : decode cL_orders 51 = .ok (.goto (-47), 3) := by decide +kernel
theorem dL_orders_54 : decode cL_orders 54 = .ok (.aload_n 0, 1) := by decide +kernel
theorem dL_orders_55 : decode cL_orders 55 = .ok (.invokestatic 32, 3) := by decide +kernel
theorem dL_orders_58 : decode cL_orders 58 = .ok (.invokestatic 28, 3) := by decide +kernel
theorem dL_orders_61 : decode cL_orders 61 = .ok (.iload_n 1, 1) := by decide +kernel
theorem dL_orders_62 : decode cL_orders 62 = .ok (.idiv, 1) := by decide +kernel
theorem dL_orders_63 : decode cL_orders 63 = .ok (.ireturn, 1) := by decide +kernel
theorem dL_character_0 : decode cL_character 0 = .ok (.iload_n 2, 1) := by decide +kernel
theorem dL_character_1 : decode cL_character 1 = .ok (.aload_n 1, 1) := by decide +kernel
theorem dL_character_2 : decode cL_character 2 = .ok (.arraylength, 1) := by decide +kernel
theorem dL_character_3 : decode cL_character 3 = .ok (.if_icmp .ne 5, 3) := by decide +kernel
theorem dL_character_6 : decode cL_character 6 = .ok (.iconst 1, 1) := by decide +kernel
theorem dL_character_7 : decode cL_character 7 = .ok (.ireturn, 1) := by decide +kernel
theorem dL_character_8 : decode cL_character 8 = .ok (.iconst 0, 1) := by decide +kernel
theorem dL_character_9 : decode cL_character 9 = .ok (.istore_n 3, 1) := by decide +kernel
theorem dL_character_10 : decode cL_character 10 = .ok (.aload_n 1, 1) := by decide +kernel
theorem dL_character_11 : decode cL_character 11 = .ok (.iload_n 2, 1) := by decide +kernel
theorem dL_character_12 : decode cL_character 12 = .ok (.iaload, 1) := by decide +kernel
theorem dL_character_13 : decode cL_character 13 = .ok (.istore 4, 2) := by decide +kernel
theorem dL_character_15 : decode cL_character 15 = .ok (.iload 4, 2) := by decide +kernel
theorem dL_character_17 : decode cL_character 17 = .ok (.bipush 16, 2) := by decide +kernel
theorem dL_character_19 : decode cL_character 19 = .ok (.if_icmp .ge 99, 3) := by decide +kernel
theorem dL_character_22 : decode cL_character 22 = .ok (.iload 4, 2) := by decide +kernel
theorem dL_character_24 : decode cL_character 24 = .ok (.aload_n 1, 1) := by decide +kernel
theorem dL_character_25 : decode cL_character 25 = .ok (.iload_n 2, 1) := by decide +kernel
theorem dL_character_26 : decode cL_character 26 = .ok (.iaload, 1) := by decide +kernel
theorem dL_character_27 : decode cL_character 27 = .ok (.isub, 1) := by decide +kernel
theorem dL_character_28 : decode cL_character 28 = .ok (.istore 5, 2) := by decide +kernel
theorem dL_character_30 : decode cL_character 30 = .ok (.iload_n 0, 1) := by decide +kernel
theorem dL_character_31 : decode cL_character 31 = .ok (.iload 4, 2) := by decide +kernel
theorem dL_character_33 : decode cL_character 33 = .ok (.ishr, 1) := by decide +kernel
theorem dL_character_34 : decode cL_character 34 = .ok (.iconst 1, 1) := by decide +kernel
theorem dL_character_35 : decode cL_character 35 = .ok (.iand, 1) := by decide +kernel
theorem dL_character_36 : decode cL_character 36 = .ok (.ifCond .eq 76, 3) := by decide +kernel
theorem dL_character_39 : decode cL_character 39 = .ok (.iload_n 0, 1) := by decide +kernel
theorem dL_character_40 : decode cL_character 40 = .ok (.iload 5, 2) := by decide +kernel
theorem dL_character_42 : decode cL_character 42 = .ok (.ishr, 1) := by decide +kernel
theorem dL_character_43 : decode cL_character 43 = .ok (.iconst 1, 1) := by decide +kernel
theorem dL_character_44 : decode cL_character 44 = .ok (.iand, 1) := by decide +kernel
theorem dL_character_45 : decode cL_character 45 = .ok (.iconst 1, 1) := by decide +kernel
theorem dL_character_46 : decode cL_character 46 = .ok (.if_icmp .ne 6, 3) := by decide +kernel
theorem dL_character_49 : decode cL_character 49 = .ok (.goto 63, 3) := by decide +kernel
theorem dL_character_52 : decode cL_character 52 = .ok (.iload_n 0, 1) := by decide +kernel
theorem dL_character_53 : decode cL_character 53 = .ok (.iload 5, 2) := by decide +kernel
theorem dL_character_55 : decode cL_character 55 = .ok (.iconst 1, 1) := by decide +kernel
theorem dL_character_56 : decode cL_character 56 = .ok (.iadd, 1) := by decide +kernel
theorem dL_character_57 : decode cL_character 57 = .ok (.ishr, 1) := by decide +kernel
theorem dL_character_58 : decode cL_character 58 = .ok (.iconst 1, 1) := by decide +kernel
theorem dL_character_59 : decode cL_character 59 = .ok (.iload 4, 2) := by decide +kernel
theorem dL_character_61 : decode cL_character 61 = .ok (.iload 5, 2) := by decide +kernel
theorem dL_character_63 : decode cL_character 63 = .ok (.isub, 1) := by decide +kernel
theorem dL_character_64 : decode cL_character 64 = .ok (.iconst 1, 1) := by decide +kernel
theorem dL_character_65 : decode cL_character 65 = .ok (.isub, 1) := by decide +kernel
theorem dL_character_66 : decode cL_character 66 = .ok (.ishl, 1) := by decide +kernel
theorem dL_character_67 : decode cL_character 67 = .ok (.iconst 1, 1) := by decide +kernel
theorem dL_character_68 : decode cL_character 68 = .ok (.isub, 1) := by decide +kernel
theorem dL_character_69 : decode cL_character 69 = .ok (.iand, 1) := by decide +kernel
theorem dL_character_70 : decode cL_character 70 = .ok (.invokestatic 36, 3) := by decide +kernel
theorem dL_character_73 : decode cL_character 73 = .ok (.istore 6, 2) := by decide +kernel
theorem dL_character_75 : decode cL_character 75 = .ok (.iload_n 3, 1) := by decide +kernel
theorem dL_character_76 : decode cL_character 76 = .ok (.iload 6, 2) := by decide +kernel
theorem dL_character_78 : decode cL_character 78 = .ok (.iconst 2, 1) := by decide +kernel
theorem dL_character_79 : decode cL_character 79 = .ok (.irem, 1) := by decide +kernel
theorem dL_character_80 : decode cL_character 80 = .ok (.iconst 1, 1) := by decide +kernel
theorem dL_character_81 : decode cL_character 81 = .ok (.if_icmp .ne 7, 3) := by decide +kernel
theorem dL_character_84 : decode cL_character 84 = .ok (.iconst (-1), 1) := by decide +kernel
theorem dL_character_85 : decode cL_character 85 = .ok (.goto 4, 3) := by decide +kernel
theorem dL_character_88 : decode cL_character 88 = .ok (.iconst 1, 1) := by decide +kernel
theorem dL_character_89 : decode cL_character 89 = .ok (.iload_n 0, 1) := by decide +kernel
theorem dL_character_90 : decode cL_character 90 = .ok (.iconst 1, 1) := by decide +kernel
theorem dL_character_91 : decode cL_character 91 = .ok (.iload 4, 2) := by decide +kernel
theorem dL_character_93 : decode cL_character 93 = .ok (.ishl, 1) := by decide +kernel
theorem dL_character_94 : decode cL_character 94 = .ok (.iconst (-1), 1) := by decide +kernel
theorem dL_character_95 : decode cL_character 95 = .ok (.ixor, 1) := by decide +kernel
theorem dL_character_96 : decode cL_character 96 = .ok (.iand, 1) := by decide +kernel
theorem dL_character_97 : decode cL_character 97 = .ok (.iconst 1, 1) := by decide +kernel
theorem dL_character_98 : decode cL_character 98 = .ok (.iload 5, 2) := by decide +kernel
theorem dL_character_100 : decode cL_character 100 = .ok (.ishl, 1) := by decide +kernel
theorem dL_character_101 : decode cL_character 101 = .ok (.ior, 1) := by decide +kernel
theorem dL_character_102 : decode cL_character 102 = .ok (.aload_n 1, 1) := by decide +kernel
theorem dL_character_103 : decode cL_character 103 = .ok (.iload_n 2, 1) := by decide +kernel
theorem dL_character_104 : decode cL_character 104 = .ok (.iconst 1, 1) := by decide +kernel
theorem dL_character_105 : decode cL_character 105 = .ok (.iadd, 1) := by decide +kernel
theorem dL_character_106 : decode cL_character 106 = .ok (.invokestatic 41, 3) := by decide +kernel
theorem dL_character_109 : decode cL_character 109 = .ok (.imul, 1) := by decide +kernel
theorem dL_character_110 : decode cL_character 110 = .ok (.iadd, 1) := by decide +kernel
theorem dL_character_111 : decode cL_character 111 = .ok (.istore_n 3, 1) := by decide +kernel
theorem dL_character_112 : decode cL_character 112 = .ok (.iinc 4 1, 3) := by decide +kernel
theorem dL_character_115 : decode cL_character 115 = .ok (.goto (-100), 3) := by decide +kernel
theorem dL_character_118 : decode cL_character 118 = .ok (.iload_n 3, 1) := by decide +kernel
theorem dL_character_119 : decode cL_character 119 = .ok (.ireturn, 1) := by decide +kernel
