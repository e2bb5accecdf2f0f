theorem dX10_readTerms_85 : decode cX10_readTerms 85 = .ok (.iconst 1, 1) := by decide +kernel
theorem dX10_readTerms_86 : decode cX10_readTerms 86 = .ok (.istore_n 1, 1) := by decide +kernel
theorem dX10_readTerms_87 : decode cX10_readTerms 87 = .ok (.aload_n 0, 1) := by decide +kernel
theorem dX10_readTerms_88 : decode cX10_readTerms 88 = .ok (.dup, 1) := by decide +kernel
theorem dX10_readTerms_89 : decode cX10_readTerms 89 = .ok (.getfield 185, 3) := by decide +kernel
theorem dX10_readTerms_92 : decode cX10_readTerms 92 = .ok (.iconst 1, 1) := by decide +kernel
theorem dX10_readTerms_93 : decode cX10_readTerms 93 = .ok (.iadd, 1) := by decide +kernel
theorem dX10_readTerms_94 : decode cX10_readTerms 94 = .ok (.putfield 185, 3) := by decide +kernel
theorem dX10_readTerms_97 : decode cX10_readTerms 97 = .ok (.aload_n 0, 1) := by decide +kernel
theorem dX10_readTerms_98 : decode cX10_readTerms 98 = .ok (.iload_n 1, 1) := by decide +kernel
theorem dX10_readTerms_99 : decode cX10_readTerms 99 = .ok (.iconst 0, 1) := by decide +kernel
theorem dX10_readTerms_100 : decode cX10_readTerms 100 = .ok (.invokevirtual 197, 3) := by decide +kernel
theorem dX10_readTerms_103 : decode cX10_readTerms 103 = .ok (.ifCond .ne (-58), 3) := by decide +kernel
theorem dX10_readTerms_106 : decode cX10_readTerms 106 = .ok (.iconst 0, 1) := by decide +kernel
theorem dX10_readTerms_107 : decode cX10_readTerms 107 = .ok (.ireturn, 1) := by decide +kernel
theorem dX10_readTerms_108 : decode cX10_readTerms 108 = .ok (.aload_n 0, 1) := by decide +kernel
theorem dX10_readTerms_109 : decode cX10_readTerms 109 = .ok (.getfield 185, 3) := by decide +kernel
theorem dX10_readTerms_112 : decode cX10_readTerms 112 = .ok (.aload_n 0, 1) := by decide +kernel
theorem dX10_readTerms_113 : decode cX10_readTerms 113 = .ok (.getfield 182, 3) := by decide +kernel
theorem dX10_readTerms_116 : decode cX10_readTerms 116 = .ok (.if_icmp .ne 7, 3) := by decide +kernel
theorem dX10_readTerms_119 : decode cX10_readTerms 119 = .ok (.iconst 1, 1) := by decide +kernel
theorem dX10_readTerms_120 : decode cX10_readTerms 120 = .ok (.goto 4, 3) := by decide +kernel
theorem dX10_readTerms_123 : decode cX10_readTerms 123 = .ok (.iconst 0, 1) := by decide +kernel
theorem dX10_readTerms_124 : decode cX10_readTerms 124 = .ok (.ireturn, 1) := by decide +kernel
theorem dX10_reads_0 : decode cX10_reads 0 = .ok (.iload_n 1, 1) := by decide +kernel
theorem dX10_reads_1 : decode cX10_reads 1 = .ok (.invokestatic 201, 3) := by decide +kernel
theorem dX10_reads_4 : decode cX10_reads 4 = .ok (.ifCond .ne 9, 3) := by decide +kernel
theorem dX10_reads_7 : decode cX10_reads 7 = .ok (.aload_n 0, 1) := by decide +kernel
theorem dX10_reads_8 : decode cX10_reads 8 = .ok (.iconst (-1), 1) := by decide +kernel
theorem dX10_reads_9 : decode cX10_reads 9 = .ok (.invokevirtual 77, 3) := by decide +kernel
theorem dX10_reads_12 : decode cX10_reads 12 = .ok (.ireturn, 1) := by decide +kernel
theorem dX10_reads_13 : decode cX10_reads 13 = .ok (.aload_n 0, 1) := by decide +kernel
theorem dX10_reads_14 : decode cX10_reads 14 = .ok (.invokevirtual 204, 3) := by decide +kernel
theorem dX10_reads_17 : decode cX10_reads 17 = .ok (.istore_n 2, 1) := by decide +kernel
theorem dX10_reads_18 : decode cX10_reads 18 = .ok (.aload_n 0, 1) := by decide +kernel
theorem dX10_reads_19 : decode cX10_reads 19 = .ok (.iconst 0, 1) := by decide +kernel
theorem dX10_reads_20 : decode cX10_reads 20 = .ok (.putfield 182, 3) := by decide +kernel
theorem dX10_reads_23 : decode cX10_reads 23 = .ok (.iload_n 2, 1) := by decide +kernel
theorem dX10_reads_24 : decode cX10_reads 24 = .ok (.ifCond .eq 15, 3) := by decide +kernel
theorem dX10_reads_27 : decode cX10_reads 27 = .ok (.aload_n 0, 1) := by decide +kernel
theorem dX10_reads_28 : decode cX10_reads 28 = .ok (.iload_n 1, 1) := by decide +kernel
theorem dX10_reads_29 : decode cX10_reads 29 = .ok (.aload_n 0, 1) := by decide +kernel
theorem dX10_reads_30 : decode cX10_reads 30 = .ok (.getfield 191, 3) := by decide +kernel
theorem dX10_reads_33 : decode cX10_reads 33 = .ok (.invokevirtual 208, 3) := by decide +kernel
theorem dX10_reads_36 : decode cX10_reads 36 = .ok (.goto 11, 3) := by decide +kernel
theorem dX10_reads_39 : decode cX10_reads 39 = .ok (.sipush (-1000), 3) := by decide +kernel
theorem dX10_reads_42 : decode cX10_reads 42 = .ok (.aload_n 0, 1) := by decide +kernel
theorem dX10_reads_43 : decode cX10_reads 43 = .ok (.getfield 185, 3) := by decide +kernel
theorem dX10_reads_46 : decode cX10_reads 46 = .ok (.isub, 1) := by decide +kernel
theorem dX10_reads_47 : decode cX10_reads 47 = .ok (.ireturn, 1) := by decide +kernel
theorem dX10_clear_0 : decode cX10_clear 0 = .ok (.iload_n 1, 1) := by decide +kernel
theorem dX10_clear_1 : decode cX10_clear 1 = .ok (.invokestatic 201, 3) := by decide +kernel
theorem dX10_clear_4 : decode cX10_clear 4 = .ok (.ifCond .ne 9, 3) := by decide +kernel
theorem dX10_clear_7 : decode cX10_clear 7 = .ok (.aload_n 0, 1) := by decide +kernel
theorem dX10_clear_8 : decode cX10_clear 8 = .ok (.iconst (-1), 1) := by decide +kernel
theorem dX10_clear_9 : decode cX10_clear 9 = .ok (.invokevirtual 77, 3) := by decide +kernel
theorem dX10_clear_12 : decode cX10_clear 12 = .ok (.ireturn, 1) := by decide +kernel
theorem dX10_clear_13 : decode cX10_clear 13 = .ok (.aload_n 0, 1) := by decide +kernel
theorem dX10_clear_14 : decode cX10_clear 14 = .ok (.invokevirtual 176, 3) := by decide +kernel
theorem dX10_clear_17 : decode cX10_clear 17 = .ok (.aload_n 0, 1) := by decide +kernel
theorem dX10_clear_18 : decode cX10_clear 18 = .ok (.getfield 25, 3) := by decide +kernel
theorem dX10_clear_21 : decode cX10_clear 21 = .ok (.iload_n 1, 1) := by decide +kernel
theorem dX10_clear_22 : decode cX10_clear 22 = .ok (.iaload, 1) := by decide +kernel
theorem dX10_clear_23 : decode cX10_clear 23 = .ok (.istore_n 2, 1) := by decide +kernel
theorem dX10_clear_24 : decode cX10_clear 24 = .ok (.aload_n 0, 1) := by decide +kernel
theorem dX10_clear_25 : decode cX10_clear 25 = .ok (.getfield 25, 3) := by decide +kernel
theorem dX10_clear_28 : decode cX10_clear 28 = .ok (.iload_n 1, 1) := by decide +kernel
theorem dX10_clear_29 : decode cX10_clear 29 = .ok (.iconst (-1), 1) := by decide +kernel
theorem dX10_clear_30 : decode cX10_clear 30 = .ok (.iastore, 1) := by decide +kernel
theorem dX10_clear_31 : decode cX10_clear 31 = .ok (.iload_n 2, 1) := by decide +kernel
theorem dX10_clear_32 : decode cX10_clear 32 = .ok (.ifCond .ge 7, 3) := by decide +kernel
theorem dX10_clear_35 : decode cX10_clear 35 = .ok (.iconst 0, 1) := by decide +kernel
theorem dX10_clear_36 : decode cX10_clear 36 = .ok (.goto 4, 3) := by decide +kernel
theorem dX10_clear_39 : decode cX10_clear 39 = .ok (.iconst 1, 1) := by decide +kernel
theorem dX10_clear_40 : decode cX10_clear 40 = .ok (.ireturn, 1) := by decide +kernel
theorem dX10_sum_0 : decode cX10_sum 0 = .ok (.iload_n 1, 1) := by decide +kernel
theorem dX10_sum_1 : decode cX10_sum 1 = .ok (.invokestatic 201, 3) := by decide +kernel
theorem dX10_sum_4 : decode cX10_sum 4 = .ok (.ifCond .ne 9, 3) := by decide +kernel
theorem dX10_sum_7 : decode cX10_sum 7 = .ok (.aload_n 0, 1) := by decide +kernel
theorem dX10_sum_8 : decode cX10_sum 8 = .ok (.iconst (-1), 1) := by decide +kernel
theorem dX10_sum_9 : decode cX10_sum 9 = .ok (.invokevirtual 77, 3) := by decide +kernel
theorem dX10_sum_12 : decode cX10_sum 12 = .ok (.ireturn, 1) := by decide +kernel
theorem dX10_sum_13 : decode cX10_sum 13 = .ok (.iload_n 2, 1) := by decide +kernel
theorem dX10_sum_14 : decode cX10_sum 14 = .ok (.iconst 0, 1) := by decide +kernel
theorem dX10_sum_15 : decode cX10_sum 15 = .ok (.iconst 2, 1) := by decide +kernel
theorem dX10_sum_16 : decode cX10_sum 16 = .ok (.invokestatic 72, 3) := by decide +kernel
theorem dX10_sum_19 : decode cX10_sum 19 = .ok (.ifCond .ne 10, 3) := by decide +kernel
theorem dX10_sum_22 : decode cX10_sum 22 = .ok (.aload_n 0, 1) := by decide +kernel
theorem dX10_sum_23 : decode cX10_sum 23 = .ok (.bipush (-2), 2) := by decide +kernel
theorem dX10_sum_25 : decode cX10_sum 25 = .ok (.invokevirtual 77, 3) := by decide +kernel
theorem dX10_sum_28 : decode cX10_sum 28 = .ok (.ireturn, 1) := by decide +kernel
theorem dX10_sum_29 : decode cX10_sum 29 = .ok (.aload_n 0, 1) := by decide +kernel
theorem dX10_sum_30 : decode cX10_sum 30 = .ok (.getfield 25, 3) := by decide +kernel
theorem dX10_sum_33 : decode cX10_sum 33 = .ok (.iload_n 1, 1) := by decide +kernel
theorem dX10_sum_34 : decode cX10_sum 34 = .ok (.iaload, 1) := by decide +kernel
theorem dX10_sum_35 : decode cX10_sum 35 = .ok (.ifCond .ge 6, 3) := by decide +kernel
theorem dX10_sum_38 : decode cX10_sum 38 = .ok (.bipush (-11), 2) := by decide +kernel
theorem dX10_sum_40 : decode cX10_sum 40 = .ok (.ireturn, 1) := by decide +kernel
theorem dX10_sum_41 : decode cX10_sum 41 = .ok (.iload_n 2, 1) := by decide +kernel
theorem dX10_sum_42 : decode cX10_sum 42 = .ok (.iconst 2, 1) := by decide +kernel
theorem dX10_sum_43 : decode cX10_sum 43 = .ok (.if_icmp .ge 22, 3) := by decide +kernel
theorem dX10_sum_46 : decode cX10_sum 46 = .ok (.iload_n 2, 1) := by decide +kernel
theorem dX10_sum_47 : decode cX10_sum 47 = .ok (.ifCond .ne 12, 3) := by decide +kernel
theorem dX10_sum_50 : decode cX10_sum 50 = .ok (.aload_n 0, 1) := by decide +kernel
theorem dX10_sum_51 : decode cX10_sum 51 = .ok (.getfield 25, 3) := by decide +kernel
theorem dX10_sum_54 : decode cX10_sum 54 = .ok (.iload_n 1, 1) := by decide +kernel
theorem dX10_sum_55 : decode cX10_sum 55 = .ok (.iaload, 1) := by decide +kernel
theorem dX10_sum_56 : decode cX10_sum 56 = .ok (.goto 8, 3) := by decide +kernel
theorem dX10_sum_59 : decode cX10_sum 59 = .ok (.aload_n 0, 1) := by decide +kernel
theorem dX10_sum_60 : decode cX10_sum 60 = .ok (.iload_n 1, 1) := by decide +kernel
theorem dX10_sum_61 : decode cX10_sum 61 = .ok (.invokevirtual 179, 3) := by decide +kernel
theorem dX10_sum_64 : decode cX10_sum 64 = .ok (.ireturn, 1) := by decide +kernel
theorem dX10_sum_65 : decode cX10_sum 65 = .ok (.iconst 0, 1) := by decide +kernel
theorem dX10_sum_66 : decode cX10_sum 66 = .ok (.istore_n 3, 1) := by decide +kernel
theorem dX10_sum_67 : decode cX10_sum 67 = .ok (.iload_n 3, 1) := by decide +kernel
theorem dX10_sum_68 : decode cX10_sum 68 = .ok (.aload_n 0, 1) := by decide +kernel
theorem dX10_sum_69 : decode cX10_sum 69 = .ok (.aload_n 0, 1) := by decide +kernel
theorem dX10_sum_70 : decode cX10_sum 70 = .ok (.getfield 25, 3) := by decide +kernel
theorem dX10_sum_73 : decode cX10_sum 73 = .ok (.iload_n 1, 1) := by decide +kernel
theorem dX10_sum_74 : decode cX10_sum 74 = .ok (.iaload, 1) := by decide +kernel
theorem dX10_sum_75 : decode cX10_sum 75 = .ok (.invokevirtual 134, 3) := by decide +kernel
theorem dX10_sum_78 : decode cX10_sum 78 = .ok (.if_icmp .ge 37, 3) := by decide +kernel
theorem dX10_sum_81 : decode cX10_sum 81 = .ok (.aload_n 0, 1) := by decide +kernel
theorem dX10_sum_82 : decode cX10_sum 82 = .ok (.getfield 28, 3) := by decide +kernel
theorem dX10_sum_85 : decode cX10_sum 85 = .ok (.bipush 22, 2) := by decide +kernel
theorem dX10_sum_87 : decode cX10_sum 87 = .ok (.iload_n 1, 1) := by decide +kernel
theorem dX10_sum_88 : decode cX10_sum 88 = .ok (.imul, 1) := by decide +kernel
theorem dX10_sum_89 : decode cX10_sum 89 = .ok (.iload_n 3, 1) := by decide +kernel
theorem dX10_sum_90 : decode cX10_sum 90 = .ok (.iadd, 1) := by decide +kernel
theorem dX10_sum_91 : decode cX10_sum 91 = .ok (.iaload, 1) := by decide +kernel
theorem dX10_sum_92 : decode cX10_sum 92 = .ok (.ifCond .eq 17, 3) := by decide +kernel
theorem dX10_sum_95 : decode cX10_sum 95 = .ok (.aload_n 0, 1) := by decide +kernel
theorem dX10_sum_96 : decode cX10_sum 96 = .ok (.getfield 7, 3) := by decide +kernel
theorem dX10_sum_99 : decode cX10_sum 99 = .ok (.aload_n 0, 1) := by decide +kernel
theorem dX10_sum_100 : decode cX10_sum 100 = .ok (.getfield 25, 3) := by decide +kernel
theorem dX10_sum_103 : decode cX10_sum 103 = .ok (.iload_n 1, 1) := by decide +kernel
theorem dX10_sum_104 : decode cX10_sum 104 = .ok (.iaload, 1) := by decide +kernel
theorem dX10_sum_105 : decode cX10_sum 105 = .ok (.iaload, 1) := by decide +kernel
theorem dX10_sum_106 : decode cX10_sum 106 = .ok (.iload_n 3, 1) := by decide +kernel
theorem dX10_sum_107 : decode cX10_sum 107 = .ok (.iadd, 1) := by decide +kernel
theorem dX10_sum_108 : decode cX10_sum 108 = .ok (.ireturn, 1) := by decide +kernel
theorem dX10_sum_109 : decode cX10_sum 109 = .ok (.iinc 3 1, 3) := by decide +kernel
theorem dX10_sum_112 : decode cX10_sum 112 = .ok (.goto (-45), 3) := by decide +kernel
theorem dX10_sum_115 : decode cX10_sum 115 = .ok (.bipush (-9), 2) := by decide +kernel
theorem dX10_sum_117 : decode cX10_sum 117 = .ok (.ireturn, 1) := by decide +kernel
theorem dX10_coefficientOf_0 : decode cX10_coefficientOf 0 = .ok (.aload_n 0, 1) := by decide +kernel
theorem dX10_coefficientOf_1 : decode cX10_coefficientOf 1 = .ok (.getfield 13, 3) := by decide +kernel
theorem dX10_coefficientOf_4 : decode cX10_coefficientOf 4 = .ok (.iload_n 2, 1) := by decide +kernel
theorem dX10_coefficientOf_5 : decode cX10_coefficientOf 5 = .ok (.iaload, 1) := by decide +kernel
theorem dX10_coefficientOf_6 : decode cX10_coefficientOf 6 = .ok (.aload_n 0, 1) := by decide +kernel
theorem dX10_coefficientOf_7 : decode cX10_coefficientOf 7 = .ok (.getfield 25, 3) := by decide +kernel
theorem dX10_coefficientOf_10 : decode cX10_coefficientOf 10 = .ok (.iload_n 1, 1) := by decide +kernel
theorem dX10_coefficientOf_11 : decode cX10_coefficientOf 11 = .ok (.iaload, 1) := by decide +kernel
theorem dX10_coefficientOf_12 : decode cX10_coefficientOf 12 = .ok (.if_icmp .ne 29, 3) := by decide +kernel
theorem dX10_coefficientOf_15 : decode cX10_coefficientOf 15 = .ok (.aload_n 0, 1) := by decide +kernel
theorem dX10_coefficientOf_16 : decode cX10_coefficientOf 16 = .ok (.getfield 28, 3) := by decide +kernel
theorem dX10_coefficientOf_19 : decode cX10_coefficientOf 19 = .ok (.bipush 22, 2) := by decide +kernel
theorem dX10_coefficientOf_21 : decode cX10_coefficientOf 21 = .ok (.iload_n 1, 1) := by decide +kernel
theorem dX10_coefficientOf_22 : decode cX10_coefficientOf 22 = .ok (.imul, 1) := by decide +kernel
theorem dX10_coefficientOf_23 : decode cX10_coefficientOf 23 = .ok (.iload_n 2, 1) := by decide +kernel
theorem dX10_coefficientOf_24 : decode cX10_coefficientOf 24 = .ok (.iadd, 1) := by decide +kernel
theorem dX10_coefficientOf_25 : decode cX10_coefficientOf 25 = .ok (.aload_n 0, 1) := by decide +kernel
theorem dX10_coefficientOf_26 : decode cX10_coefficientOf 26 = .ok (.getfield 7, 3) := by decide +kernel
theorem dX10_coefficientOf_29 : decode cX10_coefficientOf 29 = .ok (.aload_n 0, 1) := by decide +kernel
theorem dX10_coefficientOf_30 : decode cX10_coefficientOf 30 = .ok (.getfield 25, 3) := by decide +kernel
theorem dX10_coefficientOf_33 : decode cX10_coefficientOf 33 = .ok (.iload_n 1, 1) := by decide +kernel
theorem dX10_coefficientOf_34 : decode cX10_coefficientOf 34 = .ok (.iaload, 1) := by decide +kernel
theorem dX10_coefficientOf_35 : decode cX10_coefficientOf 35 = .ok (.iaload, 1) := by decide +kernel
theorem dX10_coefficientOf_36 : decode cX10_coefficientOf 36 = .ok (.isub, 1) := by decide +kernel
theorem dX10_coefficientOf_37 : decode cX10_coefficientOf 37 = .ok (.iaload, 1) := by decide +kernel
theorem dX10_coefficientOf_38 : decode cX10_coefficientOf 38 = .ok (.goto 4, 3) := by decide +kernel
theorem dX10_coefficientOf_41 : decode cX10_coefficientOf 41 = .ok (.iconst 0, 1) := by decide +kernel
theorem dX10_coefficientOf_42 : decode cX10_coefficientOf 42 = .ok (.ireturn, 1) := by decide +kernel
theorem dX10_coefficient_0 : decode cX10_coefficient 0 = .ok (.iload_n 1, 1) := by decide +kernel
theorem dX10_coefficient_1 : decode cX10_coefficient 1 = .ok (.invokestatic 201, 3) := by decide +kernel
theorem dX10_coefficient_4 : decode cX10_coefficient 4 = .ok (.ifCond .eq 10, 3) := by decide +kernel
theorem dX10_coefficient_7 : decode cX10_coefficient 7 = .ok (.iload_n 2, 1) := by decide +kernel
theorem dX10_coefficient_8 : decode cX10_coefficient 8 = .ok (.invokestatic 117, 3) := by decide +kernel
theorem dX10_coefficient_11 : decode cX10_coefficient 11 = .ok (.ifCond .ne 9, 3) := by decide +kernel
theorem dX10_coefficient_14 : decode cX10_coefficient 14 = .ok (.aload_n 0, 1) := by decide +kernel
theorem dX10_coefficient_15 : decode cX10_coefficient 15 = .ok (.iconst (-1), 1) := by decide +kernel
theorem dX10_coefficient_16 : decode cX10_coefficient 16 = .ok (.invokevirtual 140, 3) := by decide +kernel
theorem dX10_coefficient_19 : decode cX10_coefficient 19 = .ok (.ireturn, 1) := by decide +kernel
theorem dX10_coefficient_20 : decode cX10_coefficient 20 = .ok (.aload_n 0, 1) := by decide +kernel
theorem dX10_coefficient_21 : decode cX10_coefficient 21 = .ok (.getfield 25, 3) := by decide +kernel
theorem dX10_coefficient_24 : decode cX10_coefficient 24 = .ok (.iload_n 1, 1) := by decide +kernel
theorem dX10_coefficient_25 : decode cX10_coefficient 25 = .ok (.iaload, 1) := by decide +kernel
theorem dX10_coefficient_26 : decode cX10_coefficient 26 = .ok (.ifCond .ge 8, 3) := by decide +kernel
theorem dX10_coefficient_29 : decode cX10_coefficient 29 = .ok (.ldc 211, 2) := by decide +kernel
theorem dX10_coefficient_31 : decode cX10_coefficient 31 = .ok (.goto 9, 3) := by decide +kernel
theorem dX10_coefficient_34 : decode cX10_coefficient 34 = .ok (.aload_n 0, 1) := by decide +kernel
theorem dX10_coefficient_35 : decode cX10_coefficient 35 = .ok (.iload_n 1, 1) := by decide +kernel
theorem dX10_coefficient_36 : decode cX10_coefficient 36 = .ok (.iload_n 2, 1) := by decide +kernel
theorem dX10_coefficient_37 : decode cX10_coefficient 37 = .ok (.invokevirtual 212, 3) := by decide +kernel
theorem dX10_coefficient_40 : decode cX10_coefficient 40 = .ok (.ireturn, 1) := by decide +kernel
theorem dX10_multiplies_0 : decode cX10_multiplies 0 = .ok (.aload_n 0, 1) := by decide +kernel
theorem dX10_multiplies_1 : decode cX10_multiplies 1 = .ok (.getfield 25, 3) := by decide +kernel
theorem dX10_multiplies_4 : decode cX10_multiplies 4 = .ok (.iload_n 1, 1) := by decide +kernel
theorem dX10_multiplies_5 : decode cX10_multiplies 5 = .ok (.iaload, 1) := by decide +kernel
theorem dX10_multiplies_6 : decode cX10_multiplies 6 = .ok (.istore_n 3, 1) := by decide +kernel
theorem dX10_multiplies_7 : decode cX10_multiplies 7 = .ok (.aload_n 0, 1) := by decide +kernel
theorem dX10_multiplies_8 : decode cX10_multiplies 8 = .ok (.getfield 7, 3) := by decide +kernel
theorem dX10_multiplies_11 : decode cX10_multiplies 11 = .ok (.iload_n 3, 1) := by decide +kernel
theorem dX10_multiplies_12 : decode cX10_multiplies 12 = .ok (.iaload, 1) := by decide +kernel
theorem dX10_multiplies_13 : decode cX10_multiplies 13 = .ok (.istore 4, 2) := by decide +kernel
theorem dX10_multiplies_15 : decode cX10_multiplies 15 = .ok (.iload 4, 2) := by decide +kernel
theorem dX10_multiplies_17 : decode cX10_multiplies 17 = .ok (.aload_n 0, 1) := by decide +kernel
theorem dX10_multiplies_18 : decode cX10_multiplies 18 = .ok (.getfield 7, 3) := by decide +kernel
theorem dX10_multiplies_21 : decode cX10_multiplies 21 = .ok (.iload_n 3, 1) := by decide +kernel
theorem dX10_multiplies_22 : decode cX10_multiplies 22 = .ok (.iconst 1, 1) := by decide +kernel
theorem dX10_multiplies_23 : decode cX10_multiplies 23 = .ok (.iadd, 1) := by decide +kernel
theorem dX10_multiplies_24 : decode cX10_multiplies 24 = .ok (.iaload, 1) := by decide +kernel
theorem dX10_multiplies_25 : decode cX10_multiplies 25 = .ok (.if_icmp .ge 112, 3) := by decide +kernel
theorem dX10_multiplies_28 : decode cX10_multiplies 28 = .ok (.aload_n 0, 1) := by decide +kernel
theorem dX10_multiplies_29 : decode cX10_multiplies 29 = .ok (.getfield 7, 3) := by decide +kernel
theorem dX10_multiplies_32 : decode cX10_multiplies 32 = .ok (.iload_n 3, 1) := by decide +kernel
theorem dX10_multiplies_33 : decode cX10_multiplies 33 = .ok (.iaload, 1) := by decide +kernel
theorem dX10_multiplies_34 : decode cX10_multiplies 34 = .ok (.istore 5, 2) := by decide +kernel
theorem dX10_multiplies_36 : decode cX10_multiplies 36 = .ok (.iload 5, 2) := by decide +kernel
theorem dX10_multiplies_38 : decode cX10_multiplies 38 = .ok (.aload_n 0, 1) := by decide +kernel
theorem dX10_multiplies_39 : decode cX10_multiplies 39 = .ok (.getfield 7, 3) := by decide +kernel
theorem dX10_multiplies_42 : decode cX10_multiplies 42 = .ok (.iload_n 3, 1) := by decide +kernel
theorem dX10_multiplies_43 : decode cX10_multiplies 43 = .ok (.iconst 1, 1) := by decide +kernel
theorem dX10_multiplies_44 : decode cX10_multiplies 44 = .ok (.iadd, 1) := by decide +kernel
theorem dX10_multiplies_45 : decode cX10_multiplies 45 = .ok (.iaload, 1) := by decide +kernel
theorem dX10_multiplies_46 : decode cX10_multiplies 46 = .ok (.if_icmp .ge 85, 3) := by decide +kernel
theorem dX10_multiplies_49 : decode cX10_multiplies 49 = .ok (.aload_n 0, 1) := by decide +kernel
theorem dX10_multiplies_50 : decode cX10_multiplies 50 = .ok (.iload_n 1, 1) := by decide +kernel
theorem dX10_multiplies_51 : decode cX10_multiplies 51 = .ok (.iload 4, 2) := by decide +kernel
theorem dX10_multiplies_53 : decode cX10_multiplies 53 = .ok (.invokevirtual 212, 3) := by decide +kernel
theorem dX10_multiplies_56 : decode cX10_multiplies 56 = .ok (.i2l, 1) := by decide +kernel
theorem dX10_multiplies_57 : decode cX10_multiplies 57 = .ok (.aload_n 0, 1) := by decide +kernel
theorem dX10_multiplies_58 : decode cX10_multiplies 58 = .ok (.iload_n 2, 1) := by decide +kernel
theorem dX10_multiplies_59 : decode cX10_multiplies 59 = .ok (.iload 5, 2) := by decide +kernel
theorem dX10_multiplies_61 : decode cX10_multiplies 61 = .ok (.invokevirtual 212, 3) := by decide +kernel
theorem dX10_multiplies_64 : decode cX10_multiplies 64 = .ok (.i2l, 1) := by decide +kernel
theorem dX10_multiplies_65 : decode cX10_multiplies 65 = .ok (.lmul, 1) := by decide +kernel
theorem dX10_multiplies_66 : decode cX10_multiplies 66 = .ok (.lstore 6, 2) := by decide +kernel
theorem dX10_multiplies_68 : decode cX10_multiplies 68 = .ok (.iconst 0, 1) := by decide +kernel
theorem dX10_multiplies_69 : decode cX10_multiplies 69 = .ok (.istore 8, 2) := by decide +kernel
theorem dX10_multiplies_71 : decode cX10_multiplies 71 = .ok (.lload 6, 2) := by decide +kernel
theorem dX10_multiplies_73 : decode cX10_multiplies 73 = .ok (.lconst 0, 1) := by decide +kernel
theorem dX10_multiplies_74 : decode cX10_multiplies 74 = .ok (.lcmp, 1) := by decide +kernel
theorem dX10_multiplies_75 : decode cX10_multiplies 75 = .ok (.ifCond .eq 50, 3) := by decide +kernel
theorem dX10_multiplies_78 : decode cX10_multiplies 78 = .ok (.iload 8, 2) := by decide +kernel
theorem dX10_multiplies_80 : decode cX10_multiplies 80 = .ok (.aload_n 0, 1) := by decide +kernel
theorem dX10_multiplies_81 : decode cX10_multiplies 81 = .ok (.iload_n 3, 1) := by decide +kernel
theorem dX10_multiplies_82 : decode cX10_multiplies 82 = .ok (.invokevirtual 134, 3) := by decide +kernel
theorem dX10_multiplies_85 : decode cX10_multiplies 85 = .ok (.if_icmp .ge 40, 3) := by decide +kernel
theorem dX10_multiplies_88 : decode cX10_multiplies 88 = .ok (.aload_n 0, 1) := by decide +kernel
theorem dX10_multiplies_89 : decode cX10_multiplies 89 = .ok (.getfield 52, 3) := by decide +kernel
theorem dX10_multiplies_92 : decode cX10_multiplies 92 = .ok (.iload 8, 2) := by decide +kernel
theorem dX10_multiplies_94 : decode cX10_multiplies 94 = .ok (.dup2, 1) := by decide +kernel
theorem dX10_multiplies_95 : decode cX10_multiplies 95 = .ok (.laload, 1) := by decide +kernel
theorem dX10_multiplies_96 : decode cX10_multiplies 96 = .ok (.lload 6, 2) := by decide +kernel
theorem dX10_multiplies_98 : decode cX10_multiplies 98 = .ok (.aload_n 0, 1) := by decide +kernel
theorem dX10_multiplies_99 : decode cX10_multiplies 99 = .ok (.iload 4, 2) := by decide +kernel
theorem dX10_multiplies_101 : decode cX10_multiplies 101 = .ok (.iload 5, 2) := by decide +kernel
theorem dX10_multiplies_103 : decode cX10_multiplies 103 = .ok (.aload_n 0, 1) := by decide +kernel
theorem dX10_multiplies_104 : decode cX10_multiplies 104 = .ok (.getfield 7, 3) := by decide +kernel
theorem dX10_multiplies_107 : decode cX10_multiplies 107 = .ok (.iload_n 3, 1) := by decide +kernel
theorem dX10_multiplies_108 : decode cX10_multiplies 108 = .ok (.iaload, 1) := by decide +kernel
theorem dX10_multiplies_109 : decode cX10_multiplies 109 = .ok (.iload 8, 2) := by decide +kernel
theorem dX10_multiplies_111 : decode cX10_multiplies 111 = .ok (.iadd, 1) := by decide +kernel
theorem dX10_multiplies_112 : decode cX10_multiplies 112 = .ok (.invokevirtual 154, 3) := by decide +kernel
theorem dX10_multiplies_115 : decode cX10_multiplies 115 = .ok (.i2l, 1) := by decide +kernel
theorem dX10_multiplies_116 : decode cX10_multiplies 116 = .ok (.lmul, 1) := by decide +kernel
theorem dX10_multiplies_117 : decode cX10_multiplies 117 = .ok (.ladd, 1) := by decide +kernel
theorem dX10_multiplies_118 : decode cX10_multiplies 118 = .ok (.lastore, 1) := by decide +kernel
theorem dX10_multiplies_119 : decode cX10_multiplies 119 = .ok (.iinc 8 1, 3) := by decide +kernel
theorem dX10_multiplies_122 : decode cX10_multiplies 122 = .ok (.goto (-51), 3) := by decide +kernel
theorem dX10_multiplies_125 : decode cX10_multiplies 125 = .ok (.iinc 5 1, 3) := by decide +kernel
theorem dX10_multiplies_128 : decode cX10_multiplies 128 = .ok (.goto (-92), 3) := by decide +kernel
theorem dX10_multiplies_131 : decode cX10_multiplies 131 = .ok (.iinc 4 1, 3) := by decide +kernel
theorem dX10_multiplies_134 : decode cX10_multiplies 134 = .ok (.goto (-119), 3) := by decide +kernel
theorem dX10_multiplies_137 : decode cX10_multiplies 137 = .ok (.return_, 1) := by decide +kernel
theorem dX10_makes_0 : decode cX10_makes 0 = .ok (.iload_n 1, 1) := by decide +kernel
theorem dX10_makes_1 : decode cX10_makes 1 = .ok (.invokestatic 201, 3) := by decide +kernel
theorem dX10_makes_4 : decode cX10_makes 4 = .ok (.ifCond .eq 17, 3) := by decide +kernel
theorem dX10_makes_7 : decode cX10_makes 7 = .ok (.iload_n 2, 1) := by decide +kernel
theorem dX10_makes_8 : decode cX10_makes 8 = .ok (.invokestatic 201, 3) := by decide +kernel
theorem dX10_makes_11 : decode cX10_makes 11 = .ok (.ifCond .eq 10, 3) := by decide +kernel
theorem dX10_makes_14 : decode cX10_makes 14 = .ok (.iload_n 3, 1) := by decide +kernel
theorem dX10_makes_15 : decode cX10_makes 15 = .ok (.invokestatic 201, 3) := by decide +kernel
theorem dX10_makes_18 : decode cX10_makes 18 = .ok (.ifCond .ne 9, 3) := by decide +kernel
theorem dX10_makes_21 : decode cX10_makes 21 = .ok (.aload_n 0, 1) := by decide +kernel
theorem dX10_makes_22 : decode cX10_makes 22 = .ok (.iconst (-1), 1) := by decide +kernel
theorem dX10_makes_23 : decode cX10_makes 23 = .ok (.invokevirtual 77, 3) := by decide +kernel
theorem dX10_makes_26 : decode cX10_makes 26 = .ok (.ireturn, 1) := by decide +kernel
theorem dX10_makes_27 : decode cX10_makes 27 = .ok (.iload 4, 2) := by decide +kernel
theorem dX10_makes_29 : decode cX10_makes 29 = .ok (.iconst 0, 1) := by decide +kernel
theorem dX10_makes_30 : decode cX10_makes 30 = .ok (.iconst 2, 1) := by decide +kernel
theorem dX10_makes_31 : decode cX10_makes 31 = .ok (.invokestatic 72, 3) := by decide +kernel
theorem dX10_makes_34 : decode cX10_makes 34 = .ok (.ifCond .ne 10, 3) := by decide +kernel
theorem dX10_makes_37 : decode cX10_makes 37 = .ok (.aload_n 0, 1) := by decide +kernel
theorem dX10_makes_38 : decode cX10_makes 38 = .ok (.bipush (-2), 2) := by decide +kernel
theorem dX10_makes_40 : decode cX10_makes 40 = .ok (.invokevirtual 77, 3) := by decide +kernel
theorem dX10_makes_43 : decode cX10_makes 43 = .ok (.ireturn, 1) := by decide +kernel
theorem dX10_makes_44 : decode cX10_makes 44 = .ok (.aload_n 0, 1) := by decide +kernel
theorem dX10_makes_45 : decode cX10_makes 45 = .ok (.getfield 25, 3) := by decide +kernel
theorem dX10_makes_48 : decode cX10_makes 48 = .ok (.iload_n 2, 1) := by decide +kernel
theorem dX10_makes_49 : decode cX10_makes 49 = .ok (.iaload, 1) := by decide +kernel
theorem dX10_makes_50 : decode cX10_makes 50 = .ok (.ifCond .lt 12, 3) := by decide +kernel
theorem dX10_makes_53 : decode cX10_makes 53 = .ok (.aload_n 0, 1) := by decide +kernel
theorem dX10_makes_54 : decode cX10_makes 54 = .ok (.getfield 25, 3) := by decide +kernel
theorem dX10_makes_57 : decode cX10_makes 57 = .ok (.iload_n 3, 1) := by decide +kernel
theorem dX10_makes_58 : decode cX10_makes 58 = .ok (.iaload, 1) := by decide +kernel
theorem dX10_makes_59 : decode cX10_makes 59 = .ok (.ifCond .ge 6, 3) := by decide +kernel
theorem dX10_makes_62 : decode cX10_makes 62 = .ok (.bipush (-11), 2) := by decide +kernel
theorem dX10_makes_64 : decode cX10_makes 64 = .ok (.ireturn, 1) := by decide +kernel
theorem dX10_makes_65 : decode cX10_makes 65 = .ok (.aload_n 0, 1) := by decide +kernel
theorem dX10_makes_66 : decode cX10_makes 66 = .ok (.getfield 25, 3) := by decide +kernel
theorem dX10_makes_69 : decode cX10_makes 69 = .ok (.iload_n 2, 1) := by decide +kernel
theorem dX10_makes_70 : decode cX10_makes 70 = .ok (.iaload, 1) := by decide +kernel
theorem dX10_makes_71 : decode cX10_makes 71 = .ok (.aload_n 0, 1) := by decide +kernel
theorem dX10_makes_72 : decode cX10_makes 72 = .ok (.getfield 25, 3) := by decide +kernel
theorem dX10_makes_75 : decode cX10_makes 75 = .ok (.iload_n 3, 1) := by decide +kernel
theorem dX10_makes_76 : decode cX10_makes 76 = .ok (.iaload, 1) := by decide +kernel
theorem dX10_makes_77 : decode cX10_makes 77 = .ok (.if_icmp .eq 10, 3) := by decide +kernel
theorem dX10_makes_80 : decode cX10_makes 80 = .ok (.aload_n 0, 1) := by decide +kernel
theorem dX10_makes_81 : decode cX10_makes 81 = .ok (.bipush (-3), 2) := by decide +kernel
theorem dX10_makes_83 : decode cX10_makes 83 = .ok (.invokevirtual 77, 3) := by decide +kernel
theorem dX10_makes_86 : decode cX10_makes 86 = .ok (.ireturn, 1) := by decide +kernel
theorem dX10_makes_87 : decode cX10_makes 87 = .ok (.aload_n 0, 1) := by decide +kernel
theorem dX10_makes_88 : decode cX10_makes 88 = .ok (.invokevirtual 194, 3) := by decide +kernel
theorem dX10_makes_91 : decode cX10_makes 91 = .ok (.iload 4, 2) := by decide +kernel
theorem dX10_makes_93 : decode cX10_makes 93 = .ok (.iconst 2, 1) := by decide +kernel
theorem dX10_makes_94 : decode cX10_makes 94 = .ok (.if_icmp .ne 9, 3) := by decide +kernel
theorem dX10_makes_97 : decode cX10_makes 97 = .ok (.aload_n 0, 1) := by decide +kernel
theorem dX10_makes_98 : decode cX10_makes 98 = .ok (.iload_n 2, 1) := by decide +kernel
theorem dX10_makes_99 : decode cX10_makes 99 = .ok (.iload_n 3, 1) := by decide +kernel
theorem dX10_makes_100 : decode cX10_makes 100 = .ok (.invokevirtual 215, 3) := by decide +kernel
theorem dX10_makes_103 : decode cX10_makes 103 = .ok (.iconst 0, 1) := by decide +kernel
theorem dX10_makes_104 : decode cX10_makes 104 = .ok (.istore 5, 2) := by decide +kernel
theorem dX10_makes_106 : decode cX10_makes 106 = .ok (.iload 5, 2) := by decide +kernel
theorem dX10_makes_108 : decode cX10_makes 108 = .ok (.aload_n 0, 1) := by decide +kernel
theorem dX10_makes_109 : decode cX10_makes 109 = .ok (.aload_n 0, 1) := by decide +kernel
theorem dX10_makes_110 : decode cX10_makes 110 = .ok (.getfield 25, 3) := by decide +kernel
theorem dX10_makes_113 : decode cX10_makes 113 = .ok (.iload_n 2, 1) := by decide +kernel
theorem dX10_makes_114 : decode cX10_makes 114 = .ok (.iaload, 1) := by decide +kernel
theorem dX10_makes_115 : decode cX10_makes 115 = .ok (.invokevirtual 134, 3) := by decide +kernel
theorem dX10_makes_118 : decode cX10_makes 118 = .ok (.if_icmp .ge 62, 3) := by decide +kernel
theorem dX10_makes_121 : decode cX10_makes 121 = .ok (.iload 4, 2) := by decide +kernel
theorem dX10_makes_123 : decode cX10_makes 123 = .ok (.iconst 2, 1) := by decide +kernel
theorem dX10_makes_124 : decode cX10_makes 124 = .ok (.if_icmp .ge 56, 3) := by decide +kernel
theorem dX10_makes_127 : decode cX10_makes 127 = .ok (.aload_n 0, 1) := by decide +kernel
theorem dX10_makes_128 : decode cX10_makes 128 = .ok (.getfield 52, 3) := by decide +kernel
theorem dX10_makes_131 : decode cX10_makes 131 = .ok (.iload 5, 2) := by decide +kernel
theorem dX10_makes_133 : decode cX10_makes 133 = .ok (.aload_n 0, 1) := by decide +kernel
theorem dX10_makes_134 : decode cX10_makes 134 = .ok (.getfield 28, 3) := by decide +kernel
theorem dX10_makes_137 : decode cX10_makes 137 = .ok (.bipush 22, 2) := by decide +kernel
theorem dX10_makes_139 : decode cX10_makes 139 = .ok (.iload_n 2, 1) := by decide +kernel
theorem dX10_makes_140 : decode cX10_makes 140 = .ok (.imul, 1) := by decide +kernel
theorem dX10_makes_141 : decode cX10_makes 141 = .ok (.iload 5, 2) := by decide +kernel
theorem dX10_makes_143 : decode cX10_makes 143 = .ok (.iadd, 1) := by decide +kernel
theorem dX10_makes_144 : decode cX10_makes 144 = .ok (.iaload, 1) := by decide +kernel
theorem dX10_makes_145 : decode cX10_makes 145 = .ok (.i2l, 1) := by decide +kernel
theorem dX10_makes_146 : decode cX10_makes 146 = .ok (.iload 4, 2) := by decide +kernel
theorem dX10_makes_148 : decode cX10_makes 148 = .ok (.ifCond .ne 7, 3) := by decide +kernel
theorem dX10_makes_151 : decode cX10_makes 151 = .ok (.lconst 1, 1) := by decide +kernel
theorem dX10_makes_152 : decode cX10_makes 152 = .ok (.goto 6, 3) := by decide +kernel
theorem dX10_makes_155 : decode cX10_makes 155 = .ok (.ldc2_w 219, 3) := by decide +kernel
theorem dX10_makes_158 : decode cX10_makes 158 = .ok (.aload_n 0, 1) := by decide +kernel
theorem dX10_makes_159 : decode cX10_makes 159 = .ok (.getfield 28, 3) := by decide +kernel
theorem dX10_makes_162 : decode cX10_makes 162 = .ok (.bipush 22, 2) := by decide +kernel
theorem dX10_makes_164 : decode cX10_makes 164 = .ok (.iload_n 3, 1) := by decide +kernel
theorem dX10_makes_165 : decode cX10_makes 165 = .ok (.imul, 1) := by decide +kernel
theorem dX10_makes_166 : decode cX10_makes 166 = .ok (.iload 5, 2) := by decide +kernel
theorem dX10_makes_168 : decode cX10_makes 168 = .ok (.iadd, 1) := by decide +kernel
theorem dX10_makes_169 : decode cX10_makes 169 = .ok (.iaload, 1) := by decide +kernel
theorem dX10_makes_170 : decode cX10_makes 170 = .ok (.i2l, 1) := by decide +kernel
theorem dX10_makes_171 : decode cX10_makes 171 = .ok (.lmul, 1) := by decide +kernel
theorem dX10_makes_172 : decode cX10_makes 172 = .ok (.ladd, 1) := by decide +kernel
theorem dX10_makes_173 : decode cX10_makes 173 = .ok (.lastore, 1) := by decide +kernel
theorem dX10_makes_174 : decode cX10_makes 174 = .ok (.iinc 5 1, 3) := by decide +kernel
theorem dX10_makes_177 : decode cX10_makes 177 = .ok (.goto (-71), 3) := by decide +kernel
theorem dX10_makes_180 : decode cX10_makes 180 = .ok (.aload_n 0, 1) := by decide +kernel
theorem dX10_makes_181 : decode cX10_makes 181 = .ok (.iload_n 1, 1) := by decide +kernel
theorem dX10_makes_182 : decode cX10_makes 182 = .ok (.aload_n 0, 1) := by decide +kernel
theorem dX10_makes_183 : decode cX10_makes 183 = .ok (.getfield 25, 3) := by decide +kernel
theorem dX10_makes_186 : decode cX10_makes 186 = .ok (.iload_n 2, 1) := by decide +kernel
theorem dX10_makes_187 : decode cX10_makes 187 = .ok (.iaload, 1) := by decide +kernel
theorem dX10_makes_188 : decode cX10_makes 188 = .ok (.invokevirtual 208, 3) := by decide +kernel
theorem dX10_makes_191 : decode cX10_makes 191 = .ok (.ireturn, 1) := by decide +kernel
theorem dX10_changed_0 : decode cX10_changed 0 = .ok (.iload_n 1, 1) := by decide +kernel
theorem dX10_changed_1 : decode cX10_changed 1 = .ok (.invokestatic 201, 3) := by decide +kernel
theorem dX10_changed_4 : decode cX10_changed 4 = .ok (.ifCond .ne 9, 3) := by decide +kernel
theorem dX10_changed_7 : decode cX10_changed 7 = .ok (.aload_n 0, 1) := by decide +kernel
theorem dX10_changed_8 : decode cX10_changed 8 = .ok (.iconst (-1), 1) := by decide +kernel
theorem dX10_changed_9 : decode cX10_changed 9 = .ok (.invokevirtual 77, 3) := by decide +kernel
theorem dX10_changed_12 : decode cX10_changed 12 = .ok (.ireturn, 1) := by decide +kernel
theorem dX10_changed_13 : decode cX10_changed 13 = .ok (.iload_n 2, 1) := by decide +kernel
theorem dX10_changed_14 : decode cX10_changed 14 = .ok (.iconst 0, 1) := by decide +kernel
theorem dX10_changed_15 : decode cX10_changed 15 = .ok (.iconst 2, 1) := by decide +kernel
theorem dX10_changed_16 : decode cX10_changed 16 = .ok (.invokestatic 72, 3) := by decide +kernel
theorem dX10_changed_19 : decode cX10_changed 19 = .ok (.ifCond .ne 10, 3) := by decide +kernel
theorem dX10_changed_22 : decode cX10_changed 22 = .ok (.aload_n 0, 1) := by decide +kernel
theorem dX10_changed_23 : decode cX10_changed 23 = .ok (.bipush (-2), 2) := by decide +kernel
theorem dX10_changed_25 : decode cX10_changed 25 = .ok (.invokevirtual 77, 3) := by decide +kernel
theorem dX10_changed_28 : decode cX10_changed 28 = .ok (.ireturn, 1) := by decide +kernel
theorem dX10_changed_29 : decode cX10_changed 29 = .ok (.aload_n 0, 1) := by decide +kernel
theorem dX10_changed_30 : decode cX10_changed 30 = .ok (.getfield 25, 3) := by decide +kernel
theorem dX10_changed_33 : decode cX10_changed 33 = .ok (.iload_n 1, 1) := by decide +kernel
theorem dX10_changed_34 : decode cX10_changed 34 = .ok (.iaload, 1) := by decide +kernel
theorem dX10_changed_35 : decode cX10_changed 35 = .ok (.ifCond .ge 6, 3) := by decide +kernel
theorem dX10_changed_38 : decode cX10_changed 38 = .ok (.bipush (-11), 2) := by decide +kernel
theorem dX10_changed_40 : decode cX10_changed 40 = .ok (.ireturn, 1) := by decide +kernel
theorem dX10_changed_41 : decode cX10_changed 41 = .ok (.iload_n 2, 1) := by decide +kernel
theorem dX10_changed_42 : decode cX10_changed 42 = .ok (.ifCond .ne 12, 3) := by decide +kernel
theorem dX10_changed_45 : decode cX10_changed 45 = .ok (.aload_n 0, 1) := by decide +kernel
theorem dX10_changed_46 : decode cX10_changed 46 = .ok (.getfield 25, 3) := by decide +kernel
theorem dX10_changed_49 : decode cX10_changed 49 = .ok (.iload_n 1, 1) := by decide +kernel
theorem dX10_changed_50 : decode cX10_changed 50 = .ok (.iaload, 1) := by decide +kernel
theorem dX10_changed_51 : decode cX10_changed 51 = .ok (.goto 27, 3) := by decide +kernel
theorem dX10_changed_54 : decode cX10_changed 54 = .ok (.iload_n 2, 1) := by decide +kernel
theorem dX10_changed_55 : decode cX10_changed 55 = .ok (.iconst 1, 1) := by decide +kernel
theorem dX10_changed_56 : decode cX10_changed 56 = .ok (.if_icmp .ne 14, 3) := by decide +kernel
theorem dX10_changed_59 : decode cX10_changed 59 = .ok (.aload_n 0, 1) := by decide +kernel
theorem dX10_changed_60 : decode cX10_changed 60 = .ok (.getfield 25, 3) := by decide +kernel
theorem dX10_changed_63 : decode cX10_changed 63 = .ok (.iload_n 1, 1) := by decide +kernel
theorem dX10_changed_64 : decode cX10_changed 64 = .ok (.iaload, 1) := by decide +kernel
theorem dX10_changed_65 : decode cX10_changed 65 = .ok (.iconst 1, 1) := by decide +kernel
theorem dX10_changed_66 : decode cX10_changed 66 = .ok (.isub, 1) := by decide +kernel
theorem dX10_changed_67 : decode cX10_changed 67 = .ok (.goto 11, 3) := by decide +kernel
theorem dX10_changed_70 : decode cX10_changed 70 = .ok (.aload_n 0, 1) := by decide +kernel
theorem dX10_changed_71 : decode cX10_changed 71 = .ok (.getfield 25, 3) := by decide +kernel
theorem dX10_changed_74 : decode cX10_changed 74 = .ok (.iload_n 1, 1) := by decide +kernel
theorem dX10_changed_75 : decode cX10_changed 75 = .ok (.iaload, 1) := by decide +kernel
theorem dX10_changed_76 : decode cX10_changed 76 = .ok (.iconst 1, 1) := by decide +kernel
theorem dX10_changed_77 : decode cX10_changed 77 = .ok (.iadd, 1) := by decide +kernel
theorem dX10_changed_78 : decode cX10_changed 78 = .ok (.istore_n 3, 1) := by decide +kernel
theorem dX10_changed_79 : decode cX10_changed 79 = .ok (.iload_n 3, 1) := by decide +kernel
theorem dX10_changed_80 : decode cX10_changed 80 = .ok (.iconst 0, 1) := by decide +kernel
theorem dX10_changed_81 : decode cX10_changed 81 = .ok (.bipush 8, 2) := by decide +kernel
theorem dX10_changed_83 : decode cX10_changed 83 = .ok (.invokestatic 72, 3) := by decide +kernel
theorem dX10_changed_86 : decode cX10_changed 86 = .ok (.ifCond .ne 10, 3) := by decide +kernel
theorem dX10_changed_89 : decode cX10_changed 89 = .ok (.aload_n 0, 1) := by decide +kernel
theorem dX10_changed_90 : decode cX10_changed 90 = .ok (.bipush (-3), 2) := by decide +kernel
theorem dX10_changed_92 : decode cX10_changed 92 = .ok (.invokevirtual 77, 3) := by decide +kernel
theorem dX10_changed_95 : decode cX10_changed 95 = .ok (.ireturn, 1) := by decide +kernel
theorem dX10_changed_96 : decode cX10_changed 96 = .ok (.aload_n 0, 1) := by decide +kernel
theorem dX10_changed_97 : decode cX10_changed 97 = .ok (.invokevirtual 194, 3) := by decide +kernel
theorem dX10_changed_100 : decode cX10_changed 100 = .ok (.aload_n 0, 1) := by decide +kernel
theorem dX10_changed_101 : decode cX10_changed 101 = .ok (.getfield 7, 3) := by decide +kernel
theorem dX10_changed_104 : decode cX10_changed 104 = .ok (.iload_n 3, 1) := by decide +kernel
theorem dX10_changed_105 : decode cX10_changed 105 = .ok (.iaload, 1) := by decide +kernel
theorem dX10_changed_106 : decode cX10_changed 106 = .ok (.istore 4, 2) := by decide +kernel
theorem dX10_changed_108 : decode cX10_changed 108 = .ok (.iload 4, 2) := by decide +kernel
theorem dX10_changed_110 : decode cX10_changed 110 = .ok (.aload_n 0, 1) := by decide +kernel
theorem dX10_changed_111 : decode cX10_changed 111 = .ok (.getfield 7, 3) := by decide +kernel
theorem dX10_changed_114 : decode cX10_changed 114 = .ok (.iload_n 3, 1) := by decide +kernel
theorem dX10_changed_115 : decode cX10_changed 115 = .ok (.iconst 1, 1) := by decide +kernel
theorem dX10_changed_116 : decode cX10_changed 116 = .ok (.iadd, 1) := by decide +kernel
theorem dX10_changed_117 : decode cX10_changed 117 = .ok (.iaload, 1) := by decide +kernel
theorem dX10_changed_118 : decode cX10_changed 118 = .ok (.if_icmp .ge 39, 3) := by decide +kernel
theorem dX10_changed_121 : decode cX10_changed 121 = .ok (.iload_n 2, 1) := by decide +kernel
theorem dX10_changed_122 : decode cX10_changed 122 = .ok (.ifCond .ne 35, 3) := by decide +kernel
theorem dX10_changed_125 : decode cX10_changed 125 = .ok (.aload_n 0, 1) := by decide +kernel
theorem dX10_changed_126 : decode cX10_changed 126 = .ok (.getfield 52, 3) := by decide +kernel
theorem dX10_changed_129 : decode cX10_changed 129 = .ok (.aload_n 0, 1) := by decide +kernel
theorem dX10_changed_130 : decode cX10_changed 130 = .ok (.iload 4, 2) := by decide +kernel
theorem dX10_changed_132 : decode cX10_changed 132 = .ok (.invokevirtual 114, 3) := by decide +kernel
theorem dX10_changed_135 : decode cX10_changed 135 = .ok (.aload_n 0, 1) := by decide +kernel
theorem dX10_changed_136 : decode cX10_changed 136 = .ok (.getfield 7, 3) := by decide +kernel
theorem dX10_changed_139 : decode cX10_changed 139 = .ok (.iload_n 3, 1) := by decide +kernel
theorem dX10_changed_140 : decode cX10_changed 140 = .ok (.iaload, 1) := by decide +kernel
theorem dX10_changed_141 : decode cX10_changed 141 = .ok (.isub, 1) := by decide +kernel
theorem dX10_changed_142 : decode cX10_changed 142 = .ok (.aload_n 0, 1) := by decide +kernel
theorem dX10_changed_143 : decode cX10_changed 143 = .ok (.iload_n 1, 1) := by decide +kernel
theorem dX10_changed_144 : decode cX10_changed 144 = .ok (.iload 4, 2) := by decide +kernel
theorem dX10_changed_146 : decode cX10_changed 146 = .ok (.invokevirtual 212, 3) := by decide +kernel
theorem dX10_changed_149 : decode cX10_changed 149 = .ok (.i2l, 1) := by decide +kernel
theorem dX10_changed_150 : decode cX10_changed 150 = .ok (.lastore, 1) := by decide +kernel
theorem dX10_changed_151 : decode cX10_changed 151 = .ok (.iinc 4 1, 3) := by decide +kernel
theorem dX10_changed_154 : decode cX10_changed 154 = .ok (.goto (-46), 3) := by decide +kernel
theorem dX10_changed_157 : decode cX10_changed 157 = .ok (.aload_n 0, 1) := by decide +kernel
theorem dX10_changed_158 : decode cX10_changed 158 = .ok (.getfield 7, 3) := by decide +kernel
theorem dX10_changed_161 : decode cX10_changed 161 = .ok (.iload_n 2, 1) := by decide +kernel
theorem dX10_changed_162 : decode cX10_changed 162 = .ok (.iconst 1, 1) := by decide +kernel
theorem dX10_changed_163 : decode cX10_changed 163 = .ok (.if_icmp .ne 12, 3) := by decide +kernel
theorem dX10_changed_166 : decode cX10_changed 166 = .ok (.aload_n 0, 1) := by decide +kernel
theorem dX10_changed_167 : decode cX10_changed 167 = .ok (.getfield 25, 3) := by decide +kernel
theorem dX10_changed_170 : decode cX10_changed 170 = .ok (.iload_n 1, 1) := by decide +kernel
theorem dX10_changed_171 : decode cX10_changed 171 = .ok (.iaload, 1) := by decide +kernel
theorem dX10_changed_172 : decode cX10_changed 172 = .ok (.goto 4, 3) := by decide +kernel
theorem dX10_changed_175 : decode cX10_changed 175 = .ok (.iload_n 3, 1) := by decide +kernel
theorem dX10_changed_176 : decode cX10_changed 176 = .ok (.iaload, 1) := by decide +kernel
theorem dX10_changed_177 : decode cX10_changed 177 = .ok (.istore 4, 2) := by decide +kernel
theorem dX10_changed_179 : decode cX10_changed 179 = .ok (.aload_n 0, 1) := by decide +kernel
theorem dX10_changed_180 : decode cX10_changed 180 = .ok (.getfield 7, 3) := by decide +kernel
theorem dX10_changed_183 : decode cX10_changed 183 = .ok (.iload_n 2, 1) := by decide +kernel
theorem dX10_changed_184 : decode cX10_changed 184 = .ok (.iconst 1, 1) := by decide +kernel
theorem dX10_changed_185 : decode cX10_changed 185 = .ok (.if_icmp .ne 12, 3) := by decide +kernel
theorem dX10_changed_188 : decode cX10_changed 188 = .ok (.aload_n 0, 1) := by decide +kernel
theorem dX10_changed_189 : decode cX10_changed 189 = .ok (.getfield 25, 3) := by decide +kernel
theorem dX10_changed_192 : decode cX10_changed 192 = .ok (.iload_n 1, 1) := by decide +kernel
theorem dX10_changed_193 : decode cX10_changed 193 = .ok (.iaload, 1) := by decide +kernel
theorem dX10_changed_194 : decode cX10_changed 194 = .ok (.goto 4, 3) := by decide +kernel
theorem dX10_changed_197 : decode cX10_changed 197 = .ok (.iload_n 3, 1) := by decide +kernel
theorem dX10_changed_198 : decode cX10_changed 198 = .ok (.iconst 1, 1) := by decide +kernel
theorem dX10_changed_199 : decode cX10_changed 199 = .ok (.iadd, 1) := by decide +kernel
theorem dX10_changed_200 : decode cX10_changed 200 = .ok (.iaload, 1) := by decide +kernel
theorem dX10_changed_201 : decode cX10_changed 201 = .ok (.istore 5, 2) := by decide +kernel
theorem dX10_changed_203 : decode cX10_changed 203 = .ok (.iload 4, 2) := by decide +kernel
theorem dX10_changed_205 : decode cX10_changed 205 = .ok (.istore 6, 2) := by decide +kernel
theorem dX10_changed_207 : decode cX10_changed 207 = .ok (.iload 6, 2) := by decide +kernel
theorem dX10_changed_209 : decode cX10_changed 209 = .ok (.iload 5, 2) := by decide +kernel
theorem dX10_changed_211 : decode cX10_changed 211 = .ok (.if_icmp .ge 112, 3) := by decide +kernel
theorem dX10_changed_214 : decode cX10_changed 214 = .ok (.iload_n 2, 1) := by decide +kernel
theorem dX10_changed_215 : decode cX10_changed 215 = .ok (.ifCond .le 108, 3) := by decide +kernel
theorem dX10_changed_218 : decode cX10_changed 218 = .ok (.aload_n 0, 1) := by decide +kernel
theorem dX10_changed_219 : decode cX10_changed 219 = .ok (.iload 6, 2) := by decide +kernel
theorem dX10_changed_221 : decode cX10_changed 221 = .ok (.iconst 1, 1) := by decide +kernel
theorem dX10_changed_222 : decode cX10_changed 222 = .ok (.iconst (-1), 1) := by decide +kernel
theorem dX10_changed_223 : decode cX10_changed 223 = .ok (.invokevirtual 111, 3) := by decide +kernel
theorem dX10_changed_226 : decode cX10_changed 226 = .ok (.istore 7, 2) := by decide +kernel
theorem dX10_changed_228 : decode cX10_changed 228 = .ok (.iconst 0, 1) := by decide +kernel
theorem dX10_changed_229 : decode cX10_changed 229 = .ok (.istore 8, 2) := by decide +kernel
theorem dX10_changed_231 : decode cX10_changed 231 = .ok (.iload 8, 2) := by decide +kernel
theorem dX10_changed_233 : decode cX10_changed 233 = .ok (.iload 7, 2) := by decide +kernel
theorem dX10_changed_235 : decode cX10_changed 235 = .ok (.if_icmp .ge 82, 3) := by decide +kernel
theorem dX10_changed_238 : decode cX10_changed 238 = .ok (.aload_n 0, 1) := by decide +kernel
theorem dX10_changed_239 : decode cX10_changed 239 = .ok (.iload 6, 2) := by decide +kernel
theorem dX10_changed_241 : decode cX10_changed 241 = .ok (.iconst 1, 1) := by decide +kernel
theorem dX10_changed_242 : decode cX10_changed 242 = .ok (.iload 8, 2) := by decide +kernel
theorem dX10_changed_244 : decode cX10_changed 244 = .ok (.invokevirtual 111, 3) := by decide +kernel
theorem dX10_changed_247 : decode cX10_changed 247 = .ok (.istore 9, 2) := by decide +kernel
theorem dX10_changed_249 : decode cX10_changed 249 = .ok (.iload_n 2, 1) := by decide +kernel
theorem dX10_changed_250 : decode cX10_changed 250 = .ok (.iconst 1, 1) := by decide +kernel
theorem dX10_changed_251 : decode cX10_changed 251 = .ok (.if_icmp .ne 33, 3) := by decide +kernel
theorem dX10_changed_254 : decode cX10_changed 254 = .ok (.aload_n 0, 1) := by decide +kernel
theorem dX10_changed_255 : decode cX10_changed 255 = .ok (.getfield 52, 3) := by decide +kernel
theorem dX10_changed_258 : decode cX10_changed 258 = .ok (.aload_n 0, 1) := by decide +kernel
theorem dX10_changed_259 : decode cX10_changed 259 = .ok (.getfield 104, 3) := by decide +kernel
theorem dX10_changed_262 : decode cX10_changed 262 = .ok (.aload_n 0, 1) := by decide +kernel
theorem dX10_changed_263 : decode cX10_changed 263 = .ok (.getfield 7, 3) := by decide +kernel
theorem dX10_changed_266 : decode cX10_changed 266 = .ok (.iload_n 3, 1) := by decide +kernel
theorem dX10_changed_267 : decode cX10_changed 267 = .ok (.iaload, 1) := by decide +kernel
theorem dX10_changed_268 : decode cX10_changed 268 = .ok (.isub, 1) := by decide +kernel
theorem dX10_changed_269 : decode cX10_changed 269 = .ok (.dup2, 1) := by decide +kernel
theorem dX10_changed_270 : decode cX10_changed 270 = .ok (.laload, 1) := by decide +kernel
theorem dX10_changed_271 : decode cX10_changed 271 = .ok (.aload_n 0, 1) := by decide +kernel
theorem dX10_changed_272 : decode cX10_changed 272 = .ok (.iload_n 1, 1) := by decide +kernel
theorem dX10_changed_273 : decode cX10_changed 273 = .ok (.iload 6, 2) := by decide +kernel
theorem dX10_changed_275 : decode cX10_changed 275 = .ok (.invokevirtual 212, 3) := by decide +kernel
theorem dX10_changed_278 : decode cX10_changed 278 = .ok (.i2l, 1) := by decide +kernel
theorem dX10_changed_279 : decode cX10_changed 279 = .ok (.ladd, 1) := by decide +kernel
theorem dX10_changed_280 : decode cX10_changed 280 = .ok (.lastore, 1) := by decide +kernel
theorem dX10_changed_281 : decode cX10_changed 281 = .ok (.goto 30, 3) := by decide +kernel
theorem dX10_changed_284 : decode cX10_changed 284 = .ok (.aload_n 0, 1) := by decide +kernel
theorem dX10_changed_285 : decode cX10_changed 285 = .ok (.getfield 52, 3) := by decide +kernel
theorem dX10_changed_288 : decode cX10_changed 288 = .ok (.iload 6, 2) := by decide +kernel
theorem dX10_changed_290 : decode cX10_changed 290 = .ok (.aload_n 0, 1) := by decide +kernel
theorem dX10_changed_291 : decode cX10_changed 291 = .ok (.getfield 7, 3) := by decide +kernel
theorem dX10_changed_294 : decode cX10_changed 294 = .ok (.iload_n 3, 1) := by decide +kernel
theorem dX10_changed_295 : decode cX10_changed 295 = .ok (.iaload, 1) := by decide +kernel
theorem dX10_changed_296 : decode cX10_changed 296 = .ok (.isub, 1) := by decide +kernel
theorem dX10_changed_297 : decode cX10_changed 297 = .ok (.dup2, 1) := by decide +kernel
theorem dX10_changed_298 : decode cX10_changed 298 = .ok (.laload, 1) := by decide +kernel
theorem dX10_changed_299 : decode cX10_changed 299 = .ok (.aload_n 0, 1) := by decide +kernel
theorem dX10_changed_300 : decode cX10_changed 300 = .ok (.iload_n 1, 1) := by decide +kernel
theorem dX10_changed_301 : decode cX10_changed 301 = .ok (.aload_n 0, 1) := by decide +kernel
theorem dX10_changed_302 : decode cX10_changed 302 = .ok (.getfield 104, 3) := by decide +kernel
theorem dX10_changed_305 : decode cX10_changed 305 = .ok (.invokevirtual 212, 3) := by decide +kernel
theorem dX10_changed_308 : decode cX10_changed 308 = .ok (.i2l, 1) := by decide +kernel
theorem dX10_changed_309 : decode cX10_changed 309 = .ok (.ladd, 1) := by decide +kernel
theorem dX10_changed_310 : decode cX10_changed 310 = .ok (.lastore, 1) := by decide +kernel
theorem dX10_changed_311 : decode cX10_changed 311 = .ok (.iinc 8 1, 3) := by decide +kernel
theorem dX10_changed_314 : decode cX10_changed 314 = .ok (.goto (-83), 3) := by decide +kernel
theorem dX10_changed_317 : decode cX10_changed 317 = .ok (.iinc 6 1, 3) := by decide +kernel
theorem dX10_changed_320 : decode cX10_changed 320 = .ok (.goto (-113), 3) := by decide +kernel
theorem dX10_changed_323 : decode cX10_changed 323 = .ok (.aload_n 0, 1) := by decide +kernel
theorem dX10_changed_324 : decode cX10_changed 324 = .ok (.iload_n 1, 1) := by decide +kernel
theorem dX10_changed_325 : decode cX10_changed 325 = .ok (.iload_n 3, 1) := by decide +kernel
theorem dX10_changed_326 : decode cX10_changed 326 = .ok (.invokevirtual 208, 3) := by decide +kernel
theorem dX10_changed_329 : decode cX10_changed 329 = .ok (.ireturn, 1) := by decide +kernel
theorem dX10_value_0 : decode cX10_value 0 = .ok (.iload_n 1, 1) := by decide +kernel
theorem dX10_value_1 : decode cX10_value 1 = .ok (.invokestatic 201, 3) := by decide +kernel
theorem dX10_value_4 : decode cX10_value 4 = .ok (.ifCond .eq 10, 3) := by decide +kernel
theorem dX10_value_7 : decode cX10_value 7 = .ok (.iload_n 2, 1) := by decide +kernel
theorem dX10_value_8 : decode cX10_value 8 = .ok (.invokestatic 117, 3) := by decide +kernel
theorem dX10_value_11 : decode cX10_value 11 = .ok (.ifCond .ne 9, 3) := by decide +kernel
theorem dX10_value_14 : decode cX10_value 14 = .ok (.aload_n 0, 1) := by decide +kernel
theorem dX10_value_15 : decode cX10_value 15 = .ok (.iconst (-1), 1) := by decide +kernel
theorem dX10_value_16 : decode cX10_value 16 = .ok (.invokevirtual 143, 3) := by decide +kernel
theorem dX10_value_19 : decode cX10_value 19 = .ok (.lreturn, 1) := by decide +kernel
theorem dX10_value_20 : decode cX10_value 20 = .ok (.aload_n 0, 1) := by decide +kernel
theorem dX10_value_21 : decode cX10_value 21 = .ok (.getfield 25, 3) := by decide +kernel
theorem dX10_value_24 : decode cX10_value 24 = .ok (.iload_n 1, 1) := by decide +kernel
theorem dX10_value_25 : decode cX10_value 25 = .ok (.iaload, 1) := by decide +kernel
theorem dX10_value_26 : decode cX10_value 26 = .ok (.ifCond .ge 7, 3) := by decide +kernel
theorem dX10_value_29 : decode cX10_value 29 = .ok (.ldc2_w 221, 3) := by decide +kernel
theorem dX10_value_32 : decode cX10_value 32 = .ok (.lreturn, 1) := by decide +kernel
theorem dX10_value_33 : decode cX10_value 33 = .ok (.aload_n 0, 1) := by decide +kernel
theorem dX10_value_34 : decode cX10_value 34 = .ok (.getfield 13, 3) := by decide +kernel
theorem dX10_value_37 : decode cX10_value 37 = .ok (.iload_n 2, 1) := by decide +kernel
theorem dX10_value_38 : decode cX10_value 38 = .ok (.iaload, 1) := by decide +kernel
theorem dX10_value_39 : decode cX10_value 39 = .ok (.aload_n 0, 1) := by decide +kernel
theorem dX10_value_40 : decode cX10_value 40 = .ok (.getfield 25, 3) := by decide +kernel
theorem dX10_value_43 : decode cX10_value 43 = .ok (.iload_n 1, 1) := by decide +kernel
theorem dX10_value_44 : decode cX10_value 44 = .ok (.iaload, 1) := by decide +kernel
theorem dX10_value_45 : decode cX10_value 45 = .ok (.if_icmp .eq 10, 3) := by decide +kernel
theorem dX10_value_48 : decode cX10_value 48 = .ok (.aload_n 0, 1) := by decide +kernel
theorem dX10_value_49 : decode cX10_value 49 = .ok (.bipush (-3), 2) := by decide +kernel
theorem dX10_value_51 : decode cX10_value 51 = .ok (.invokevirtual 143, 3) := by decide +kernel
theorem dX10_value_54 : decode cX10_value 54 = .ok (.lreturn, 1) := by decide +kernel
theorem dX10_value_55 : decode cX10_value 55 = .ok (.lconst 0, 1) := by decide +kernel
theorem dX10_value_56 : decode cX10_value 56 = .ok (.lstore_n 3, 1) := by decide +kernel
theorem dX10_value_57 : decode cX10_value 57 = .ok (.iconst 0, 1) := by decide +kernel
theorem dX10_value_58 : decode cX10_value 58 = .ok (.istore 5, 2) := by decide +kernel
theorem dX10_value_60 : decode cX10_value 60 = .ok (.iload 5, 2) := by decide +kernel
theorem dX10_value_62 : decode cX10_value 62 = .ok (.aload_n 0, 1) := by decide +kernel
theorem dX10_value_63 : decode cX10_value 63 = .ok (.aload_n 0, 1) := by decide +kernel
theorem dX10_value_64 : decode cX10_value 64 = .ok (.getfield 25, 3) := by decide +kernel
theorem dX10_value_67 : decode cX10_value 67 = .ok (.iload_n 1, 1) := by decide +kernel
theorem dX10_value_68 : decode cX10_value 68 = .ok (.iaload, 1) := by decide +kernel
theorem dX10_value_69 : decode cX10_value 69 = .ok (.invokevirtual 134, 3) := by decide +kernel
theorem dX10_value_72 : decode cX10_value 72 = .ok (.if_icmp .ge 51, 3) := by decide +kernel
theorem dX10_value_75 : decode cX10_value 75 = .ok (.lload_n 3, 1) := by decide +kernel
theorem dX10_value_76 : decode cX10_value 76 = .ok (.aload_n 0, 1) := by decide +kernel
theorem dX10_value_77 : decode cX10_value 77 = .ok (.getfield 28, 3) := by decide +kernel
theorem dX10_value_80 : decode cX10_value 80 = .ok (.bipush 22, 2) := by decide +kernel
theorem dX10_value_82 : decode cX10_value 82 = .ok (.iload_n 1, 1) := by decide +kernel
theorem dX10_value_83 : decode cX10_value 83 = .ok (.imul, 1) := by decide +kernel
theorem dX10_value_84 : decode cX10_value 84 = .ok (.iload 5, 2) := by decide +kernel
theorem dX10_value_86 : decode cX10_value 86 = .ok (.iadd, 1) := by decide +kernel
theorem dX10_value_87 : decode cX10_value 87 = .ok (.iaload, 1) := by decide +kernel
theorem dX10_value_88 : decode cX10_value 88 = .ok (.i2l, 1) := by decide +kernel
theorem dX10_value_89 : decode cX10_value 89 = .ok (.aload_n 0, 1) := by decide +kernel
theorem dX10_value_90 : decode cX10_value 90 = .ok (.getfield 22, 3) := by decide +kernel
theorem dX10_value_93 : decode cX10_value 93 = .ok (.bipush 67, 2) := by decide +kernel
theorem dX10_value_95 : decode cX10_value 95 = .ok (.aload_n 0, 1) := by decide +kernel
theorem dX10_value_96 : decode cX10_value 96 = .ok (.getfield 7, 3) := by decide +kernel
theorem dX10_value_99 : decode cX10_value 99 = .ok (.aload_n 0, 1) := by decide +kernel
theorem dX10_value_100 : decode cX10_value 100 = .ok (.getfield 25, 3) := by decide +kernel
theorem dX10_value_103 : decode cX10_value 103 = .ok (.iload_n 1, 1) := by decide +kernel
theorem dX10_value_104 : decode cX10_value 104 = .ok (.iaload, 1) := by decide +kernel
theorem dX10_value_105 : decode cX10_value 105 = .ok (.iaload, 1) := by decide +kernel
theorem dX10_value_106 : decode cX10_value 106 = .ok (.iload 5, 2) := by decide +kernel
theorem dX10_value_108 : decode cX10_value 108 = .ok (.iadd, 1) := by decide +kernel
theorem dX10_value_109 : decode cX10_value 109 = .ok (.imul, 1) := by decide +kernel
theorem dX10_value_110 : decode cX10_value 110 = .ok (.iload_n 2, 1) := by decide +kernel
theorem dX10_value_111 : decode cX10_value 111 = .ok (.iadd, 1) := by decide +kernel
theorem dX10_value_112 : decode cX10_value 112 = .ok (.iaload, 1) := by decide +kernel
theorem dX10_value_113 : decode cX10_value 113 = .ok (.i2l, 1) := by decide +kernel
theorem dX10_value_114 : decode cX10_value 114 = .ok (.lmul, 1) := by decide +kernel
theorem dX10_value_115 : decode cX10_value 115 = .ok (.ladd, 1) := by decide +kernel
theorem dX10_value_116 : decode cX10_value 116 = .ok (.lstore_n 3, 1) := by decide +kernel
theorem dX10_value_117 : decode cX10_value 117 = .ok (.iinc 5 1, 3) := by decide +kernel
theorem dX10_value_120 : decode cX10_value 120 = .ok (.goto (-60), 3) := by decide +kernel
theorem dX10_value_123 : decode cX10_value 123 = .ok (.lload_n 3, 1) := by decide +kernel
theorem dX10_value_124 : decode cX10_value 124 = .ok (.lreturn, 1) := by decide +kernel
theorem dX10_inner_0 : decode cX10_inner 0 = .ok (.iload_n 1, 1) := by decide +kernel
theorem dX10_inner_1 : decode cX10_inner 1 = .ok (.invokestatic 201, 3) := by decide +kernel
theorem dX10_inner_4 : decode cX10_inner 4 = .ok (.ifCond .eq 10, 3) := by decide +kernel
theorem dX10_inner_7 : decode cX10_inner 7 = .ok (.iload_n 2, 1) := by decide +kernel
theorem dX10_inner_8 : decode cX10_inner 8 = .ok (.invokestatic 201, 3) := by decide +kernel
theorem dX10_inner_11 : decode cX10_inner 11 = .ok (.ifCond .ne 9, 3) := by decide +kernel
theorem dX10_inner_14 : decode cX10_inner 14 = .ok (.aload_n 0, 1) := by decide +kernel
theorem dX10_inner_15 : decode cX10_inner 15 = .ok (.iconst (-1), 1) := by decide +kernel
theorem dX10_inner_16 : decode cX10_inner 16 = .ok (.invokevirtual 143, 3) := by decide +kernel
theorem dX10_inner_19 : decode cX10_inner 19 = .ok (.lreturn, 1) := by decide +kernel
theorem dX10_inner_20 : decode cX10_inner 20 = .ok (.aload_n 0, 1) := by decide +kernel
theorem dX10_inner_21 : decode cX10_inner 21 = .ok (.getfield 25, 3) := by decide +kernel
theorem dX10_inner_24 : decode cX10_inner 24 = .ok (.iload_n 1, 1) := by decide +kernel
theorem dX10_inner_25 : decode cX10_inner 25 = .ok (.iaload, 1) := by decide +kernel
theorem dX10_inner_26 : decode cX10_inner 26 = .ok (.ifCond .lt 12, 3) := by decide +kernel
theorem dX10_inner_29 : decode cX10_inner 29 = .ok (.aload_n 0, 1) := by decide +kernel
theorem dX10_inner_30 : decode cX10_inner 30 = .ok (.getfield 25, 3) := by decide +kernel
theorem dX10_inner_33 : decode cX10_inner 33 = .ok (.iload_n 2, 1) := by decide +kernel
theorem dX10_inner_34 : decode cX10_inner 34 = .ok (.iaload, 1) := by decide +kernel
theorem dX10_inner_35 : decode cX10_inner 35 = .ok (.ifCond .ge 7, 3) := by decide +kernel
theorem dX10_inner_38 : decode cX10_inner 38 = .ok (.ldc2_w 221, 3) := by decide +kernel
theorem dX10_inner_41 : decode cX10_inner 41 = .ok (.lreturn, 1) := by decide +kernel
theorem dX10_inner_42 : decode cX10_inner 42 = .ok (.aload_n 0, 1) := by decide +kernel
theorem dX10_inner_43 : decode cX10_inner 43 = .ok (.getfield 25, 3) := by decide +kernel
theorem dX10_inner_46 : decode cX10_inner 46 = .ok (.iload_n 1, 1) := by decide +kernel
theorem dX10_inner_47 : decode cX10_inner 47 = .ok (.iaload, 1) := by decide +kernel
theorem dX10_inner_48 : decode cX10_inner 48 = .ok (.aload_n 0, 1) := by decide +kernel
theorem dX10_inner_49 : decode cX10_inner 49 = .ok (.getfield 25, 3) := by decide +kernel
theorem dX10_inner_52 : decode cX10_inner 52 = .ok (.iload_n 2, 1) := by decide +kernel
theorem dX10_inner_53 : decode cX10_inner 53 = .ok (.iaload, 1) := by decide +kernel
theorem dX10_inner_54 : decode cX10_inner 54 = .ok (.if_icmp .eq 10, 3) := by decide +kernel
theorem dX10_inner_57 : decode cX10_inner 57 = .ok (.aload_n 0, 1) := by decide +kernel
theorem dX10_inner_58 : decode cX10_inner 58 = .ok (.bipush (-3), 2) := by decide +kernel
theorem dX10_inner_60 : decode cX10_inner 60 = .ok (.invokevirtual 143, 3) := by decide +kernel
theorem dX10_inner_63 : decode cX10_inner 63 = .ok (.lreturn, 1) := by decide +kernel
theorem dX10_inner_64 : decode cX10_inner 64 = .ok (.lconst 0, 1) := by decide +kernel
theorem dX10_inner_65 : decode cX10_inner 65 = .ok (.lstore_n 3, 1) := by decide +kernel
theorem dX10_inner_66 : decode cX10_inner 66 = .ok (.iconst 0, 1) := by decide +kernel
theorem dX10_inner_67 : decode cX10_inner 67 = .ok (.istore 5, 2) := by decide +kernel
theorem dX10_inner_69 : decode cX10_inner 69 = .ok (.iload 5, 2) := by decide +kernel
theorem dX10_inner_71 : decode cX10_inner 71 = .ok (.aload_n 0, 1) := by decide +kernel
theorem dX10_inner_72 : decode cX10_inner 72 = .ok (.aload_n 0, 1) := by decide +kernel
theorem dX10_inner_73 : decode cX10_inner 73 = .ok (.getfield 25, 3) := by decide +kernel
theorem dX10_inner_76 : decode cX10_inner 76 = .ok (.iload_n 1, 1) := by decide +kernel
theorem dX10_inner_77 : decode cX10_inner 77 = .ok (.iaload, 1) := by decide +kernel
theorem dX10_inner_78 : decode cX10_inner 78 = .ok (.invokevirtual 134, 3) := by decide +kernel
theorem dX10_inner_81 : decode cX10_inner 81 = .ok (.if_icmp .ge 39, 3) := by decide +kernel
theorem dX10_inner_84 : decode cX10_inner 84 = .ok (.lload_n 3, 1) := by decide +kernel
theorem dX10_inner_85 : decode cX10_inner 85 = .ok (.aload_n 0, 1) := by decide +kernel
theorem dX10_inner_86 : decode cX10_inner 86 = .ok (.getfield 28, 3) := by decide +kernel
theorem dX10_inner_89 : decode cX10_inner 89 = .ok (.bipush 22, 2) := by decide +kernel
theorem dX10_inner_91 : decode cX10_inner 91 = .ok (.iload_n 1, 1) := by decide +kernel
theorem dX10_inner_92 : decode cX10_inner 92 = .ok (.imul, 1) := by decide +kernel
theorem dX10_inner_93 : decode cX10_inner 93 = .ok (.iload 5, 2) := by decide +kernel
theorem dX10_inner_95 : decode cX10_inner 95 = .ok (.iadd, 1) := by decide +kernel
theorem dX10_inner_96 : decode cX10_inner 96 = .ok (.iaload, 1) := by decide +kernel
theorem dX10_inner_97 : decode cX10_inner 97 = .ok (.i2l, 1) := by decide +kernel
theorem dX10_inner_98 : decode cX10_inner 98 = .ok (.aload_n 0, 1) := by decide +kernel
theorem dX10_inner_99 : decode cX10_inner 99 = .ok (.getfield 28, 3) := by decide +kernel
theorem dX10_inner_102 : decode cX10_inner 102 = .ok (.bipush 22, 2) := by decide +kernel
theorem dX10_inner_104 : decode cX10_inner 104 = .ok (.iload_n 2, 1) := by decide +kernel
theorem dX10_inner_105 : decode cX10_inner 105 = .ok (.imul, 1) := by decide +kernel
theorem dX10_inner_106 : decode cX10_inner 106 = .ok (.iload 5, 2) := by decide +kernel
theorem dX10_inner_108 : decode cX10_inner 108 = .ok (.iadd, 1) := by decide +kernel
theorem dX10_inner_109 : decode cX10_inner 109 = .ok (.iaload, 1) := by decide +kernel
theorem dX10_inner_110 : decode cX10_inner 110 = .ok (.i2l, 1) := by decide +kernel
theorem dX10_inner_111 : decode cX10_inner 111 = .ok (.lmul, 1) := by decide +kernel
theorem dX10_inner_112 : decode cX10_inner 112 = .ok (.ladd, 1) := by decide +kernel
theorem dX10_inner_113 : decode cX10_inner 113 = .ok (.lstore_n 3, 1) := by decide +kernel
theorem dX10_inner_114 : decode cX10_inner 114 = .ok (.iinc 5 1, 3) := by decide +kernel
theorem dX10_inner_117 : decode cX10_inner 117 = .ok (.goto (-48), 3) := by decide +kernel
theorem dX10_inner_120 : decode cX10_inner 120 = .ok (.lload_n 3, 1) := by decide +kernel
theorem dX10_inner_121 : decode cX10_inner 121 = .ok (.lreturn, 1) := by decide +kernel
theorem dX10_list_0 : decode cX10_list 0 = .ok (.iload_n 1, 1) := by decide +kernel
theorem dX10_list_1 : decode cX10_list 1 = .ok (.invokestatic 131, 3) := by decide +kernel
theorem dX10_list_4 : decode cX10_list 4 = .ok (.ifCond .ne 9, 3) := by decide +kernel
theorem dX10_list_7 : decode cX10_list 7 = .ok (.aload_n 0, 1) := by decide +kernel
theorem dX10_list_8 : decode cX10_list 8 = .ok (.iconst (-1), 1) := by decide +kernel
theorem dX10_list_9 : decode cX10_list 9 = .ok (.invokevirtual 77, 3) := by decide +kernel
theorem dX10_list_12 : decode cX10_list 12 = .ok (.ireturn, 1) := by decide +kernel
theorem dX10_list_13 : decode cX10_list 13 = .ok (.iload_n 2, 1) := by decide +kernel
theorem dX10_list_14 : decode cX10_list 14 = .ok (.bipush 40, 2) := by decide +kernel
theorem dX10_list_16 : decode cX10_list 16 = .ok (.if_icmp .le 10, 3) := by decide +kernel
theorem dX10_list_19 : decode cX10_list 19 = .ok (.aload_n 0, 1) := by decide +kernel
theorem dX10_list_20 : decode cX10_list 20 = .ok (.bipush (-6), 2) := by decide +kernel
theorem dX10_list_22 : decode cX10_list 22 = .ok (.invokevirtual 77, 3) := by decide +kernel
theorem dX10_list_25 : decode cX10_list 25 = .ok (.ireturn, 1) := by decide +kernel
theorem dX10_list_26 : decode cX10_list 26 = .ok (.iload_n 2, 1) := by decide +kernel
theorem dX10_list_27 : decode cX10_list 27 = .ok (.ifCond .ge 6, 3) := by decide +kernel
theorem dX10_list_30 : decode cX10_list 30 = .ok (.bipush (-14), 2) := by decide +kernel
theorem dX10_list_32 : decode cX10_list 32 = .ok (.ireturn, 1) := by decide +kernel
theorem dX10_list_33 : decode cX10_list 33 = .ok (.aload_n 0, 1) := by decide +kernel
theorem dX10_list_34 : decode cX10_list 34 = .ok (.getfield 40, 3) := by decide +kernel
theorem dX10_list_37 : decode cX10_list 37 = .ok (.iload_n 1, 1) := by decide +kernel
theorem dX10_list_38 : decode cX10_list 38 = .ok (.iload_n 2, 1) := by decide +kernel
theorem dX10_list_39 : decode cX10_list 39 = .ok (.iastore, 1) := by decide +kernel
theorem dX10_list_40 : decode cX10_list 40 = .ok (.iconst 0, 1) := by decide +kernel
theorem dX10_list_41 : decode cX10_list 41 = .ok (.istore_n 3, 1) := by decide +kernel
theorem dX10_list_42 : decode cX10_list 42 = .ok (.iload_n 3, 1) := by decide +kernel
theorem dX10_list_43 : decode cX10_list 43 = .ok (.iload_n 2, 1) := by decide +kernel
theorem dX10_list_44 : decode cX10_list 44 = .ok (.if_icmp .ge 21, 3) := by decide +kernel
theorem dX10_list_47 : decode cX10_list 47 = .ok (.aload_n 0, 1) := by decide +kernel
theorem dX10_list_48 : decode cX10_list 48 = .ok (.getfield 43, 3) := by decide +kernel
theorem dX10_list_51 : decode cX10_list 51 = .ok (.bipush 40, 2) := by decide +kernel
theorem dX10_list_53 : decode cX10_list 53 = .ok (.iload_n 1, 1) := by decide +kernel
theorem dX10_list_54 : decode cX10_list 54 = .ok (.imul, 1) := by decide +kernel
theorem dX10_list_55 : decode cX10_list 55 = .ok (.iload_n 3, 1) := by decide +kernel
theorem dX10_list_56 : decode cX10_list 56 = .ok (.iadd, 1) := by decide +kernel
theorem dX10_list_57 : decode cX10_list 57 = .ok (.iconst 0, 1) := by decide +kernel
theorem dX10_list_58 : decode cX10_list 58 = .ok (.iastore, 1) := by decide +kernel
theorem dX10_list_59 : decode cX10_list 59 = .ok (.iinc 3 1, 3) := by decide +kernel
theorem dX10_list_62 : decode cX10_list 62 = .ok (.goto (-20), 3) := by decide +kernel
theorem dX10_list_65 : decode cX10_list 65 = .ok (.iconst 1, 1) := by decide +kernel
theorem dX10_list_66 : decode cX10_list 66 = .ok (.ireturn, 1) := by decide +kernel
theorem dX10_put_0 : decode cX10_put 0 = .ok (.iload_n 1, 1) := by decide +kernel
theorem dX10_put_1 : decode cX10_put 1 = .ok (.invokestatic 131, 3) := by decide +kernel
theorem dX10_put_4 : decode cX10_put 4 = .ok (.ifCond .ne 9, 3) := by decide +kernel
theorem dX10_put_7 : decode cX10_put 7 = .ok (.aload_n 0, 1) := by decide +kernel
theorem dX10_put_8 : decode cX10_put 8 = .ok (.iconst (-1), 1) := by decide +kernel
theorem dX10_put_9 : decode cX10_put 9 = .ok (.invokevirtual 77, 3) := by decide +kernel
theorem dX10_put_12 : decode cX10_put 12 = .ok (.ireturn, 1) := by decide +kernel
theorem dX10_put_13 : decode cX10_put 13 = .ok (.aload_n 0, 1) := by decide +kernel
theorem dX10_put_14 : decode cX10_put 14 = .ok (.getfield 40, 3) := by decide +kernel
theorem dX10_put_17 : decode cX10_put 17 = .ok (.iload_n 1, 1) := by decide +kernel
theorem dX10_put_18 : decode cX10_put 18 = .ok (.iaload, 1) := by decide +kernel
theorem dX10_put_19 : decode cX10_put 19 = .ok (.ifCond .ge 6, 3) := by decide +kernel
theorem dX10_put_22 : decode cX10_put 22 = .ok (.bipush (-11), 2) := by decide +kernel
theorem dX10_put_24 : decode cX10_put 24 = .ok (.ireturn, 1) := by decide +kernel
theorem dX10_put_25 : decode cX10_put 25 = .ok (.iload_n 2, 1) := by decide +kernel
theorem dX10_put_26 : decode cX10_put 26 = .ok (.iconst 0, 1) := by decide +kernel
theorem dX10_put_27 : decode cX10_put 27 = .ok (.aload_n 0, 1) := by decide +kernel
theorem dX10_put_28 : decode cX10_put 28 = .ok (.getfield 40, 3) := by decide +kernel
theorem dX10_put_31 : decode cX10_put 31 = .ok (.iload_n 1, 1) := by decide +kernel
theorem dX10_put_32 : decode cX10_put 32 = .ok (.iaload, 1) := by decide +kernel
theorem dX10_put_33 : decode cX10_put 33 = .ok (.iconst 1, 1) := by decide +kernel
theorem dX10_put_34 : decode cX10_put 34 = .ok (.isub, 1) := by decide +kernel
theorem dX10_put_35 : decode cX10_put 35 = .ok (.invokestatic 72, 3) := by decide +kernel
theorem dX10_put_38 : decode cX10_put 38 = .ok (.ifCond .ne 6, 3) := by decide +kernel
theorem dX10_put_41 : decode cX10_put 41 = .ok (.bipush (-13), 2) := by decide +kernel
theorem dX10_put_43 : decode cX10_put 43 = .ok (.ireturn, 1) := by decide +kernel
theorem dX10_put_44 : decode cX10_put 44 = .ok (.aload_n 0, 1) := by decide +kernel
theorem dX10_put_45 : decode cX10_put 45 = .ok (.getfield 43, 3) := by decide +kernel
theorem dX10_put_48 : decode cX10_put 48 = .ok (.bipush 40, 2) := by decide +kernel
theorem dX10_put_50 : decode cX10_put 50 = .ok (.iload_n 1, 1) := by decide +kernel
theorem dX10_put_51 : decode cX10_put 51 = .ok (.imul, 1) := by decide +kernel
theorem dX10_put_52 : decode cX10_put 52 = .ok (.iload_n 2, 1) := by decide +kernel
theorem dX10_put_53 : decode cX10_put 53 = .ok (.iadd, 1) := by decide +kernel
theorem dX10_put_54 : decode cX10_put 54 = .ok (.iload_n 3, 1) := by decide +kernel
theorem dX10_put_55 : decode cX10_put 55 = .ok (.iastore, 1) := by decide +kernel
theorem dX10_put_56 : decode cX10_put 56 = .ok (.iconst 1, 1) := by decide +kernel
theorem dX10_put_57 : decode cX10_put 57 = .ok (.ireturn, 1) := by decide +kernel
theorem dX10_look_0 : decode cX10_look 0 = .ok (.iload_n 1, 1) := by decide +kernel
theorem dX10_look_1 : decode cX10_look 1 = .ok (.invokestatic 131, 3) := by decide +kernel
theorem dX10_look_4 : decode cX10_look 4 = .ok (.ifCond .ne 9, 3) := by decide +kernel
theorem dX10_look_7 : decode cX10_look 7 = .ok (.aload_n 0, 1) := by decide +kernel
theorem dX10_look_8 : decode cX10_look 8 = .ok (.iconst (-1), 1) := by decide +kernel
theorem dX10_look_9 : decode cX10_look 9 = .ok (.invokevirtual 143, 3) := by decide +kernel
theorem dX10_look_12 : decode cX10_look 12 = .ok (.lreturn, 1) := by decide +kernel
theorem dX10_look_13 : decode cX10_look 13 = .ok (.aload_n 0, 1) := by decide +kernel
theorem dX10_look_14 : decode cX10_look 14 = .ok (.getfield 40, 3) := by decide +kernel
theorem dX10_look_17 : decode cX10_look 17 = .ok (.iload_n 1, 1) := by decide +kernel
theorem dX10_look_18 : decode cX10_look 18 = .ok (.iaload, 1) := by decide +kernel
theorem dX10_look_19 : decode cX10_look 19 = .ok (.ifCond .ge 7, 3) := by decide +kernel
theorem dX10_look_22 : decode cX10_look 22 = .ok (.ldc2_w 221, 3) := by decide +kernel
theorem dX10_look_25 : decode cX10_look 25 = .ok (.lreturn, 1) := by decide +kernel
theorem dX10_look_26 : decode cX10_look 26 = .ok (.iload_n 2, 1) := by decide +kernel
theorem dX10_look_27 : decode cX10_look 27 = .ok (.iconst 0, 1) := by decide +kernel
theorem dX10_look_28 : decode cX10_look 28 = .ok (.aload_n 0, 1) := by decide +kernel
theorem dX10_look_29 : decode cX10_look 29 = .ok (.getfield 40, 3) := by decide +kernel
theorem dX10_look_32 : decode cX10_look 32 = .ok (.iload_n 1, 1) := by decide +kernel
theorem dX10_look_33 : decode cX10_look 33 = .ok (.iaload, 1) := by decide +kernel
theorem dX10_look_34 : decode cX10_look 34 = .ok (.iconst 1, 1) := by decide +kernel
theorem dX10_look_35 : decode cX10_look 35 = .ok (.isub, 1) := by decide +kernel
theorem dX10_look_36 : decode cX10_look 36 = .ok (.invokestatic 72, 3) := by decide +kernel
theorem dX10_look_39 : decode cX10_look 39 = .ok (.ifCond .eq 18, 3) := by decide +kernel
theorem dX10_look_42 : decode cX10_look 42 = .ok (.aload_n 0, 1) := by decide +kernel
theorem dX10_look_43 : decode cX10_look 43 = .ok (.getfield 43, 3) := by decide +kernel
theorem dX10_look_46 : decode cX10_look 46 = .ok (.bipush 40, 2) := by decide +kernel
theorem dX10_look_48 : decode cX10_look 48 = .ok (.iload_n 1, 1) := by decide +kernel
theorem dX10_look_49 : decode cX10_look 49 = .ok (.imul, 1) := by decide +kernel
theorem dX10_look_50 : decode cX10_look 50 = .ok (.iload_n 2, 1) := by decide +kernel
theorem dX10_look_51 : decode cX10_look 51 = .ok (.iadd, 1) := by decide +kernel
theorem dX10_look_52 : decode cX10_look 52 = .ok (.iaload, 1) := by decide +kernel
theorem dX10_look_53 : decode cX10_look 53 = .ok (.i2l, 1) := by decide +kernel
theorem dX10_look_54 : decode cX10_look 54 = .ok (.goto 6, 3) := by decide +kernel
theorem dX10_look_57 : decode cX10_look 57 = .ok (.ldc2_w 223, 3) := by decide +kernel
theorem dX10_look_60 : decode cX10_look 60 = .ok (.lreturn, 1) := by decide +kernel
theorem dX10_lays_0 : decode cX10_lays 0 = .ok (.iload_n 1, 1) := by decide +kernel
theorem dX10_lays_1 : decode cX10_lays 1 = .ok (.invokestatic 131, 3) := by decide +kernel
theorem dX10_lays_4 : decode cX10_lays 4 = .ok (.ifCond .eq 10, 3) := by decide +kernel
theorem dX10_lays_7 : decode cX10_lays 7 = .ok (.iload_n 3, 1) := by decide +kernel
theorem dX10_lays_8 : decode cX10_lays 8 = .ok (.invokestatic 117, 3) := by decide +kernel
theorem dX10_lays_11 : decode cX10_lays 11 = .ok (.ifCond .ne 9, 3) := by decide +kernel
theorem dX10_lays_14 : decode cX10_lays 14 = .ok (.aload_n 0, 1) := by decide +kernel
theorem dX10_lays_15 : decode cX10_lays 15 = .ok (.iconst (-1), 1) := by decide +kernel
theorem dX10_lays_16 : decode cX10_lays 16 = .ok (.invokevirtual 77, 3) := by decide +kernel
theorem dX10_lays_19 : decode cX10_lays 19 = .ok (.ireturn, 1) := by decide +kernel
theorem dX10_lays_20 : decode cX10_lays 20 = .ok (.aload_n 0, 1) := by decide +kernel
theorem dX10_lays_21 : decode cX10_lays 21 = .ok (.getfield 40, 3) := by decide +kernel
theorem dX10_lays_24 : decode cX10_lays 24 = .ok (.iload_n 1, 1) := by decide +kernel
theorem dX10_lays_25 : decode cX10_lays 25 = .ok (.iaload, 1) := by decide +kernel
theorem dX10_lays_26 : decode cX10_lays 26 = .ok (.ifCond .ge 6, 3) := by decide +kernel
theorem dX10_lays_29 : decode cX10_lays 29 = .ok (.bipush (-11), 2) := by decide +kernel
theorem dX10_lays_31 : decode cX10_lays 31 = .ok (.ireturn, 1) := by decide +kernel
theorem dX10_lays_32 : decode cX10_lays 32 = .ok (.aload_n 0, 1) := by decide +kernel
theorem dX10_lays_33 : decode cX10_lays 33 = .ok (.aload_n 0, 1) := by decide +kernel
theorem dX10_lays_34 : decode cX10_lays 34 = .ok (.getfield 13, 3) := by decide +kernel
theorem dX10_lays_37 : decode cX10_lays 37 = .ok (.iload_n 3, 1) := by decide +kernel
theorem dX10_lays_38 : decode cX10_lays 38 = .ok (.iaload, 1) := by decide +kernel
theorem dX10_lays_39 : decode cX10_lays 39 = .ok (.invokevirtual 134, 3) := by decide +kernel
theorem dX10_lays_42 : decode cX10_lays 42 = .ok (.istore 4, 2) := by decide +kernel
theorem dX10_lays_44 : decode cX10_lays 44 = .ok (.iload_n 2, 1) := by decide +kernel
theorem dX10_lays_45 : decode cX10_lays 45 = .ok (.ifCond .lt 16, 3) := by decide +kernel
theorem dX10_lays_48 : decode cX10_lays 48 = .ok (.iload_n 2, 1) := by decide +kernel
theorem dX10_lays_49 : decode cX10_lays 49 = .ok (.aload_n 0, 1) := by decide +kernel
theorem dX10_lays_50 : decode cX10_lays 50 = .ok (.getfield 40, 3) := by decide +kernel
theorem dX10_lays_53 : decode cX10_lays 53 = .ok (.iload_n 1, 1) := by decide +kernel
theorem dX10_lays_54 : decode cX10_lays 54 = .ok (.iaload, 1) := by decide +kernel
theorem dX10_lays_55 : decode cX10_lays 55 = .ok (.iload 4, 2) := by decide +kernel
theorem dX10_lays_57 : decode cX10_lays 57 = .ok (.isub, 1) := by decide +kernel
theorem dX10_lays_58 : decode cX10_lays 58 = .ok (.if_icmp .le 6, 3) := by decide +kernel
theorem dX10_lays_61 : decode cX10_lays 61 = .ok (.bipush (-13), 2) := by decide +kernel
theorem dX10_lays_63 : decode cX10_lays 63 = .ok (.ireturn, 1) := by decide +kernel
theorem dX10_lays_64 : decode cX10_lays 64 = .ok (.iconst 0, 1) := by decide +kernel
theorem dX10_lays_65 : decode cX10_lays 65 = .ok (.istore 5, 2) := by decide +kernel
theorem dX10_lays_67 : decode cX10_lays 67 = .ok (.iload 5, 2) := by decide +kernel
theorem dX10_lays_69 : decode cX10_lays 69 = .ok (.iload 4, 2) := by decide +kernel
theorem dX10_lays_71 : decode cX10_lays 71 = .ok (.if_icmp .ge 47, 3) := by decide +kernel
theorem dX10_lays_74 : decode cX10_lays 74 = .ok (.aload_n 0, 1) := by decide +kernel
theorem dX10_lays_75 : decode cX10_lays 75 = .ok (.getfield 43, 3) := by decide +kernel
theorem dX10_lays_78 : decode cX10_lays 78 = .ok (.bipush 40, 2) := by decide +kernel
theorem dX10_lays_80 : decode cX10_lays 80 = .ok (.iload_n 1, 1) := by decide +kernel
theorem dX10_lays_81 : decode cX10_lays 81 = .ok (.imul, 1) := by decide +kernel
theorem dX10_lays_82 : decode cX10_lays 82 = .ok (.iload_n 2, 1) := by decide +kernel
theorem dX10_lays_83 : decode cX10_lays 83 = .ok (.iadd, 1) := by decide +kernel
theorem dX10_lays_84 : decode cX10_lays 84 = .ok (.iload 5, 2) := by decide +kernel
theorem dX10_lays_86 : decode cX10_lays 86 = .ok (.iadd, 1) := by decide +kernel
theorem dX10_lays_87 : decode cX10_lays 87 = .ok (.aload_n 0, 1) := by decide +kernel
theorem dX10_lays_88 : decode cX10_lays 88 = .ok (.getfield 22, 3) := by decide +kernel
theorem dX10_lays_91 : decode cX10_lays 91 = .ok (.bipush 67, 2) := by decide +kernel
theorem dX10_lays_93 : decode cX10_lays 93 = .ok (.iload_n 3, 1) := by decide +kernel
theorem dX10_lays_94 : decode cX10_lays 94 = .ok (.imul, 1) := by decide +kernel
theorem dX10_lays_95 : decode cX10_lays 95 = .ok (.aload_n 0, 1) := by decide +kernel
theorem dX10_lays_96 : decode cX10_lays 96 = .ok (.getfield 7, 3) := by decide +kernel
theorem dX10_lays_99 : decode cX10_lays 99 = .ok (.aload_n 0, 1) := by decide +kernel
theorem dX10_lays_100 : decode cX10_lays 100 = .ok (.getfield 13, 3) := by decide +kernel
theorem dX10_lays_103 : decode cX10_lays 103 = .ok (.iload_n 3, 1) := by decide +kernel
theorem dX10_lays_104 : decode cX10_lays 104 = .ok (.iaload, 1) := by decide +kernel
theorem dX10_lays_105 : decode cX10_lays 105 = .ok (.iaload, 1) := by decide +kernel
theorem dX10_lays_106 : decode cX10_lays 106 = .ok (.iadd, 1) := by decide +kernel
theorem dX10_lays_107 : decode cX10_lays 107 = .ok (.iload 5, 2) := by decide +kernel
theorem dX10_lays_109 : decode cX10_lays 109 = .ok (.iadd, 1) := by decide +kernel
theorem dX10_lays_110 : decode cX10_lays 110 = .ok (.iaload, 1) := by decide +kernel
theorem dX10_lays_111 : decode cX10_lays 111 = .ok (.iastore, 1) := by decide +kernel
theorem dX10_lays_112 : decode cX10_lays 112 = .ok (.iinc 5 1, 3) := by decide +kernel
theorem dX10_lays_115 : decode cX10_lays 115 = .ok (.goto (-48), 3) := by decide +kernel
theorem dX10_lays_118 : decode cX10_lays 118 = .ok (.iload 4, 2) := by decide +kernel
theorem dX10_lays_120 : decode cX10_lays 120 = .ok (.ireturn, 1) := by decide +kernel
theorem dX10_otherBy_0 : decode cX10_otherBy 0 = .ok (.aload_n 0, 1) := by decide +kernel
theorem dX10_otherBy_1 : decode cX10_otherBy 1 = .ok (.getfield 13, 3) := by decide +kernel
theorem dX10_otherBy_4 : decode cX10_otherBy 4 = .ok (.iload_n 2, 1) := by decide +kernel
theorem dX10_otherBy_5 : decode cX10_otherBy 5 = .ok (.iaload, 1) := by decide +kernel
theorem dX10_otherBy_6 : decode cX10_otherBy 6 = .ok (.istore_n 3, 1) := by decide +kernel
theorem dX10_otherBy_7 : decode cX10_otherBy 7 = .ok (.iconst 0, 1) := by decide +kernel
theorem dX10_otherBy_8 : decode cX10_otherBy 8 = .ok (.istore 4, 2) := by decide +kernel
theorem dX10_otherBy_10 : decode cX10_otherBy 10 = .ok (.iload 4, 2) := by decide +kernel
theorem dX10_otherBy_12 : decode cX10_otherBy 12 = .ok (.aload_n 0, 1) := by decide +kernel
theorem dX10_otherBy_13 : decode cX10_otherBy 13 = .ok (.getfield 40, 3) := by decide +kernel
theorem dX10_otherBy_16 : decode cX10_otherBy 16 = .ok (.iload_n 1, 1) := by decide +kernel
theorem dX10_otherBy_17 : decode cX10_otherBy 17 = .ok (.iaload, 1) := by decide +kernel
theorem dX10_otherBy_18 : decode cX10_otherBy 18 = .ok (.if_icmp .ge 56, 3) := by decide +kernel
theorem dX10_otherBy_21 : decode cX10_otherBy 21 = .ok (.iload 4, 2) := by decide +kernel
theorem dX10_otherBy_23 : decode cX10_otherBy 23 = .ok (.aload_n 0, 1) := by decide +kernel
theorem dX10_otherBy_24 : decode cX10_otherBy 24 = .ok (.iload_n 3, 1) := by decide +kernel
theorem dX10_otherBy_25 : decode cX10_otherBy 25 = .ok (.invokevirtual 134, 3) := by decide +kernel
theorem dX10_otherBy_28 : decode cX10_otherBy 28 = .ok (.if_icmp .eq 37, 3) := by decide +kernel
theorem dX10_otherBy_31 : decode cX10_otherBy 31 = .ok (.aload_n 0, 1) := by decide +kernel
theorem dX10_otherBy_32 : decode cX10_otherBy 32 = .ok (.getfield 43, 3) := by decide +kernel
theorem dX10_otherBy_35 : decode cX10_otherBy 35 = .ok (.bipush 40, 2) := by decide +kernel
theorem dX10_otherBy_37 : decode cX10_otherBy 37 = .ok (.iload_n 1, 1) := by decide +kernel
theorem dX10_otherBy_38 : decode cX10_otherBy 38 = .ok (.imul, 1) := by decide +kernel
theorem dX10_otherBy_39 : decode cX10_otherBy 39 = .ok (.iload 4, 2) := by decide +kernel
theorem dX10_otherBy_41 : decode cX10_otherBy 41 = .ok (.iadd, 1) := by decide +kernel
theorem dX10_otherBy_42 : decode cX10_otherBy 42 = .ok (.iaload, 1) := by decide +kernel
theorem dX10_otherBy_43 : decode cX10_otherBy 43 = .ok (.aload_n 0, 1) := by decide +kernel
theorem dX10_otherBy_44 : decode cX10_otherBy 44 = .ok (.getfield 22, 3) := by decide +kernel
theorem dX10_otherBy_47 : decode cX10_otherBy 47 = .ok (.bipush 67, 2) := by decide +kernel
theorem dX10_otherBy_49 : decode cX10_otherBy 49 = .ok (.iload_n 2, 1) := by decide +kernel
theorem dX10_otherBy_50 : decode cX10_otherBy 50 = .ok (.imul, 1) := by decide +kernel
theorem dX10_otherBy_51 : decode cX10_otherBy 51 = .ok (.aload_n 0, 1) := by decide +kernel
theorem dX10_otherBy_52 : decode cX10_otherBy 52 = .ok (.getfield 7, 3) := by decide +kernel
theorem dX10_otherBy_55 : decode cX10_otherBy 55 = .ok (.iload_n 3, 1) := by decide +kernel
theorem dX10_otherBy_56 : decode cX10_otherBy 56 = .ok (.iaload, 1) := by decide +kernel
theorem dX10_otherBy_57 : decode cX10_otherBy 57 = .ok (.iadd, 1) := by decide +kernel
theorem dX10_otherBy_58 : decode cX10_otherBy 58 = .ok (.iload 4, 2) := by decide +kernel
theorem dX10_otherBy_60 : decode cX10_otherBy 60 = .ok (.iadd, 1) := by decide +kernel
theorem dX10_otherBy_61 : decode cX10_otherBy 61 = .ok (.iaload, 1) := by decide +kernel
theorem dX10_otherBy_62 : decode cX10_otherBy 62 = .ok (.if_icmp .eq 6, 3) := by decide +kernel
theorem dX10_otherBy_65 : decode cX10_otherBy 65 = .ok (.iload 4, 2) := by decide +kernel
theorem dX10_otherBy_67 : decode cX10_otherBy 67 = .ok (.ireturn, 1) := by decide +kernel
theorem dX10_otherBy_68 : decode cX10_otherBy 68 = .ok (.iinc 4 1, 3) := by decide +kernel
theorem dX10_otherBy_71 : decode cX10_otherBy 71 = .ok (.goto (-61), 3) := by decide +kernel
theorem dX10_otherBy_74 : decode cX10_otherBy 74 = .ok (.bipush (-9), 2) := by decide +kernel
theorem dX10_otherBy_76 : decode cX10_otherBy 76 = .ok (.ireturn, 1) := by decide +kernel
theorem dX10_judge_0 : decode cX10_judge 0 = .ok (.iload_n 1, 1) := by decide +kernel
theorem dX10_judge_1 : decode cX10_judge 1 = .ok (.invokestatic 131, 3) := by decide +kernel
theorem dX10_judge_4 : decode cX10_judge 4 = .ok (.ifCond .eq 10, 3) := by decide +kernel
theorem dX10_judge_7 : decode cX10_judge 7 = .ok (.iload_n 2, 1) := by decide +kernel
theorem dX10_judge_8 : decode cX10_judge 8 = .ok (.invokestatic 117, 3) := by decide +kernel
theorem dX10_judge_11 : decode cX10_judge 11 = .ok (.ifCond .ne 9, 3) := by decide +kernel
theorem dX10_judge_14 : decode cX10_judge 14 = .ok (.aload_n 0, 1) := by decide +kernel
theorem dX10_judge_15 : decode cX10_judge 15 = .ok (.iconst (-1), 1) := by decide +kernel
theorem dX10_judge_16 : decode cX10_judge 16 = .ok (.invokevirtual 77, 3) := by decide +kernel
theorem dX10_judge_19 : decode cX10_judge 19 = .ok (.ireturn, 1) := by decide +kernel
theorem dX10_judge_20 : decode cX10_judge 20 = .ok (.aload_n 0, 1) := by decide +kernel
theorem dX10_judge_21 : decode cX10_judge 21 = .ok (.getfield 40, 3) := by decide +kernel
theorem dX10_judge_24 : decode cX10_judge 24 = .ok (.iload_n 1, 1) := by decide +kernel
theorem dX10_judge_25 : decode cX10_judge 25 = .ok (.iaload, 1) := by decide +kernel
theorem dX10_judge_26 : decode cX10_judge 26 = .ok (.ifCond .ge 8, 3) := by decide +kernel
theorem dX10_judge_29 : decode cX10_judge 29 = .ok (.bipush (-11), 2) := by decide +kernel
theorem dX10_judge_31 : decode cX10_judge 31 = .ok (.goto 9, 3) := by decide +kernel
theorem dX10_judge_34 : decode cX10_judge 34 = .ok (.aload_n 0, 1) := by decide +kernel
theorem dX10_judge_35 : decode cX10_judge 35 = .ok (.iload_n 1, 1) := by decide +kernel
theorem dX10_judge_36 : decode cX10_judge 36 = .ok (.iload_n 2, 1) := by decide +kernel
theorem dX10_judge_37 : decode cX10_judge 37 = .ok (.invokevirtual 225, 3) := by decide +kernel
theorem dX10_judge_40 : decode cX10_judge 40 = .ok (.ireturn, 1) := by decide +kernel
theorem dX10_which_0 : decode cX10_which 0 = .ok (.iload_n 1, 1) := by decide +kernel
theorem dX10_which_1 : decode cX10_which 1 = .ok (.invokestatic 131, 3) := by decide +kernel
theorem dX10_which_4 : decode cX10_which 4 = .ok (.ifCond .ne 9, 3) := by decide +kernel
theorem dX10_which_7 : decode cX10_which 7 = .ok (.aload_n 0, 1) := by decide +kernel
theorem dX10_which_8 : decode cX10_which 8 = .ok (.iconst (-1), 1) := by decide +kernel
theorem dX10_which_9 : decode cX10_which 9 = .ok (.invokevirtual 77, 3) := by decide +kernel
theorem dX10_which_12 : decode cX10_which 12 = .ok (.ireturn, 1) := by decide +kernel
theorem dX10_which_13 : decode cX10_which 13 = .ok (.iload_n 2, 1) := by decide +kernel
theorem dX10_which_14 : decode cX10_which 14 = .ok (.ifCond .ge 10, 3) := by decide +kernel
theorem dX10_which_17 : decode cX10_which 17 = .ok (.aload_n 0, 1) := by decide +kernel
theorem dX10_which_18 : decode cX10_which 18 = .ok (.bipush (-4), 2) := by decide +kernel
theorem dX10_which_20 : decode cX10_which 20 = .ok (.invokevirtual 77, 3) := by decide +kernel
theorem dX10_which_23 : decode cX10_which 23 = .ok (.ireturn, 1) := by decide +kernel
theorem dX10_which_24 : decode cX10_which 24 = .ok (.iload_n 2, 1) := by decide +kernel
theorem dX10_which_25 : decode cX10_which 25 = .ok (.bipush 8, 2) := by decide +kernel
theorem dX10_which_27 : decode cX10_which 27 = .ok (.if_icmp .le 10, 3) := by decide +kernel
theorem dX10_which_30 : decode cX10_which 30 = .ok (.aload_n 0, 1) := by decide +kernel
theorem dX10_which_31 : decode cX10_which 31 = .ok (.bipush (-6), 2) := by decide +kernel
theorem dX10_which_33 : decode cX10_which 33 = .ok (.invokevirtual 77, 3) := by decide +kernel
theorem dX10_which_36 : decode cX10_which 36 = .ok (.ireturn, 1) := by decide +kernel
theorem dX10_which_37 : decode cX10_which 37 = .ok (.iload_n 3, 1) := by decide +kernel
theorem dX10_which_38 : decode cX10_which 38 = .ok (.iconst 0, 1) := by decide +kernel
theorem dX10_which_39 : decode cX10_which 39 = .ok (.iconst 1, 1) := by decide +kernel
theorem dX10_which_40 : decode cX10_which 40 = .ok (.invokestatic 72, 3) := by decide +kernel
theorem dX10_which_43 : decode cX10_which 43 = .ok (.ifCond .ne 10, 3) := by decide +kernel
theorem dX10_which_46 : decode cX10_which 46 = .ok (.aload_n 0, 1) := by decide +kernel
theorem dX10_which_47 : decode cX10_which 47 = .ok (.bipush (-2), 2) := by decide +kernel
theorem dX10_which_49 : decode cX10_which 49 = .ok (.invokevirtual 77, 3) := by decide +kernel
theorem dX10_which_52 : decode cX10_which 52 = .ok (.ireturn, 1) := by decide +kernel
theorem dX10_which_53 : decode cX10_which 53 = .ok (.aload_n 0, 1) := by decide +kernel
theorem dX10_which_54 : decode cX10_which 54 = .ok (.getfield 40, 3) := by decide +kernel
theorem dX10_which_57 : decode cX10_which 57 = .ok (.iload_n 1, 1) := by decide +kernel
theorem dX10_which_58 : decode cX10_which 58 = .ok (.iaload, 1) := by decide +kernel
theorem dX10_which_59 : decode cX10_which 59 = .ok (.ifCond .ge 6, 3) := by decide +kernel
theorem dX10_which_62 : decode cX10_which 62 = .ok (.bipush (-11), 2) := by decide +kernel
theorem dX10_which_64 : decode cX10_which 64 = .ok (.ireturn, 1) := by decide +kernel
theorem dX10_which_65 : decode cX10_which 65 = .ok (.iconst 0, 1) := by decide +kernel
theorem dX10_which_66 : decode cX10_which 66 = .ok (.istore 4, 2) := by decide +kernel
theorem dX10_which_68 : decode cX10_which 68 = .ok (.bipush (-9), 2) := by decide +kernel
theorem dX10_which_70 : decode cX10_which 70 = .ok (.istore 5, 2) := by decide +kernel
theorem dX10_which_72 : decode cX10_which 72 = .ok (.aload_n 0, 1) := by decide +kernel
theorem dX10_which_73 : decode cX10_which 73 = .ok (.getfield 7, 3) := by decide +kernel
theorem dX10_which_76 : decode cX10_which 76 = .ok (.iload_n 2, 1) := by decide +kernel
theorem dX10_which_77 : decode cX10_which 77 = .ok (.iconst 1, 1) := by decide +kernel
theorem dX10_which_78 : decode cX10_which 78 = .ok (.iadd, 1) := by decide +kernel
theorem dX10_which_79 : decode cX10_which 79 = .ok (.iaload, 1) := by decide +kernel
theorem dX10_which_80 : decode cX10_which 80 = .ok (.iconst 1, 1) := by decide +kernel
theorem dX10_which_81 : decode cX10_which 81 = .ok (.isub, 1) := by decide +kernel
theorem dX10_which_82 : decode cX10_which 82 = .ok (.istore 6, 2) := by decide +kernel
theorem dX10_which_84 : decode cX10_which 84 = .ok (.iload 6, 2) := by decide +kernel
theorem dX10_which_86 : decode cX10_which 86 = .ok (.aload_n 0, 1) := by decide +kernel
theorem dX10_which_87 : decode cX10_which 87 = .ok (.getfield 7, 3) := by decide +kernel
theorem dX10_which_90 : decode cX10_which 90 = .ok (.iload_n 2, 1) := by decide +kernel
theorem dX10_which_91 : decode cX10_which 91 = .ok (.iaload, 1) := by decide +kernel
theorem dX10_which_92 : decode cX10_which 92 = .ok (.if_icmp .lt 28, 3) := by decide +kernel
theorem dX10_which_95 : decode cX10_which 95 = .ok (.aload_n 0, 1) := by decide +kernel
theorem dX10_which_96 : decode cX10_which 96 = .ok (.iload_n 1, 1) := by decide +kernel
theorem dX10_which_97 : decode cX10_which 97 = .ok (.iload 6, 2) := by decide +kernel
theorem dX10_which_99 : decode cX10_which 99 = .ok (.invokevirtual 225, 3) := by decide +kernel
theorem dX10_which_102 : decode cX10_which 102 = .ok (.bipush (-9), 2) := by decide +kernel
theorem dX10_which_104 : decode cX10_which 104 = .ok (.if_icmp .ne 10, 3) := by decide +kernel
theorem dX10_which_107 : decode cX10_which 107 = .ok (.iinc 4 1, 3) := by decide +kernel
theorem dX10_which_110 : decode cX10_which 110 = .ok (.iload 6, 2) := by decide +kernel
theorem dX10_which_112 : decode cX10_which 112 = .ok (.istore 5, 2) := by decide +kernel
theorem dX10_which_114 : decode cX10_which 114 = .ok (.iinc 6 (-1), 3) := by decide +kernel
theorem dX10_which_117 : decode cX10_which 117 = .ok (.goto (-33), 3) := by decide +kernel
theorem dX10_which_120 : decode cX10_which 120 = .ok (.iload_n 3, 1) := by decide +kernel
theorem dX10_which_121 : decode cX10_which 121 = .ok (.ifCond .ne 8, 3) := by decide +kernel
theorem dX10_which_124 : decode cX10_which 124 = .ok (.iload 4, 2) := by decide +kernel
theorem dX10_which_126 : decode cX10_which 126 = .ok (.goto 5, 3) := by decide +kernel
theorem dX10_which_129 : decode cX10_which 129 = .ok (.iload 5, 2) := by decide +kernel
theorem dX10_which_131 : decode cX10_which 131 = .ok (.ireturn, 1) := by decide +kernel
theorem dX10_there_0 : decode cX10_there 0 = .ok (.iconst 0, 1) := by decide +kernel
theorem dX10_there_1 : decode cX10_there 1 = .ok (.istore_n 1, 1) := by decide +kernel
theorem dX10_there_2 : decode cX10_there 2 = .ok (.iconst 0, 1) := by decide +kernel
theorem dX10_there_3 : decode cX10_there 3 = .ok (.istore_n 2, 1) := by decide +kernel
theorem dX10_there_4 : decode cX10_there 4 = .ok (.iload_n 2, 1) := by decide +kernel
theorem dX10_there_5 : decode cX10_there 5 = .ok (.iconst 4, 1) := by decide +kernel
theorem dX10_there_6 : decode cX10_there 6 = .ok (.if_icmp .ge 26, 3) := by decide +kernel
theorem dX10_there_9 : decode cX10_there 9 = .ok (.iload_n 1, 1) := by decide +kernel
theorem dX10_there_10 : decode cX10_there 10 = .ok (.aload_n 0, 1) := by decide +kernel
theorem dX10_there_11 : decode cX10_there 11 = .ok (.getfield 25, 3) := by decide +kernel
theorem dX10_there_14 : decode cX10_there 14 = .ok (.iload_n 2, 1) := by decide +kernel
theorem dX10_there_15 : decode cX10_there 15 = .ok (.iaload, 1) := by decide +kernel
theorem dX10_there_16 : decode cX10_there 16 = .ok (.ifCond .lt 7, 3) := by decide +kernel
theorem dX10_there_19 : decode cX10_there 19 = .ok (.iconst 1, 1) := by decide +kernel
theorem dX10_there_20 : decode cX10_there 20 = .ok (.goto 4, 3) := by decide +kernel
theorem dX10_there_23 : decode cX10_there 23 = .ok (.iconst 0, 1) := by decide +kernel
theorem dX10_there_24 : decode cX10_there 24 = .ok (.iadd, 1) := by decide +kernel
theorem dX10_there_25 : decode cX10_there 25 = .ok (.istore_n 1, 1) := by decide +kernel
theorem dX10_there_26 : decode cX10_there 26 = .ok (.iinc 2 1, 3) := by decide +kernel
theorem dX10_there_29 : decode cX10_there 29 = .ok (.goto (-25), 3) := by decide +kernel
theorem dX10_there_32 : decode cX10_there 32 = .ok (.iload_n 1, 1) := by decide +kernel
theorem dX10_there_33 : decode cX10_there 33 = .ok (.ireturn, 1) := by decide +kernel
theorem dX10_undo_0 : decode cX10_undo 0 = .ok (.aload_n 0, 1) := by decide +kernel
theorem dX10_undo_1 : decode cX10_undo 1 = .ok (.getfield 166, 3) := by decide +kernel
theorem dX10_undo_4 : decode cX10_undo 4 = .ok (.ifCond .ne 10, 3) := by decide +kernel
theorem dX10_undo_7 : decode cX10_undo 7 = .ok (.aload_n 0, 1) := by decide +kernel
theorem dX10_undo_8 : decode cX10_undo 8 = .ok (.bipush (-3), 2) := by decide +kernel
theorem dX10_undo_10 : decode cX10_undo 10 = .ok (.invokevirtual 77, 3) := by decide +kernel
theorem dX10_undo_13 : decode cX10_undo 13 = .ok (.ireturn, 1) := by decide +kernel
theorem dX10_undo_14 : decode cX10_undo 14 = .ok (.aload_n 0, 1) := by decide +kernel
theorem dX10_undo_15 : decode cX10_undo 15 = .ok (.dup, 1) := by decide +kernel
theorem dX10_undo_16 : decode cX10_undo 16 = .ok (.getfield 166, 3) := by decide +kernel
theorem dX10_undo_19 : decode cX10_undo 19 = .ok (.iconst 1, 1) := by decide +kernel
theorem dX10_undo_20 : decode cX10_undo 20 = .ok (.isub, 1) := by decide +kernel
theorem dX10_undo_21 : decode cX10_undo 21 = .ok (.putfield 166, 3) := by decide +kernel
theorem dX10_undo_24 : decode cX10_undo 24 = .ok (.aload_n 0, 1) := by decide +kernel
theorem dX10_undo_25 : decode cX10_undo 25 = .ok (.aload_n 0, 1) := by decide +kernel
theorem dX10_undo_26 : decode cX10_undo 26 = .ok (.getfield 166, 3) := by decide +kernel
theorem dX10_undo_29 : decode cX10_undo 29 = .ok (.invokevirtual 228, 3) := by decide +kernel
theorem dX10_undo_32 : decode cX10_undo 32 = .ok (.aload_n 0, 1) := by decide +kernel
theorem dX10_undo_33 : decode cX10_undo 33 = .ok (.getfield 166, 3) := by decide +kernel
theorem dX10_undo_36 : decode cX10_undo 36 = .ok (.ireturn, 1) := by decide +kernel
theorem dX10_image_0 : decode cX10_image 0 = .ok (.aload_n 0, 1) := by decide +kernel
theorem dX10_image_1 : decode cX10_image 1 = .ok (.iconst 1, 1) := by decide +kernel
theorem dX10_image_2 : decode cX10_image 2 = .ok (.putfield 231, 3) := by decide +kernel
theorem dX10_image_5 : decode cX10_image 5 = .ok (.aload_n 0, 1) := by decide +kernel
theorem dX10_image_6 : decode cX10_image 6 = .ok (.bipush 8, 2) := by decide +kernel
theorem dX10_image_8 : decode cX10_image 8 = .ok (.invokevirtual 169, 3) := by decide +kernel
theorem dX10_image_11 : decode cX10_image 11 = .ok (.aload_n 0, 1) := by decide +kernel
theorem dX10_image_12 : decode cX10_image 12 = .ok (.invokevirtual 235, 3) := by decide +kernel
theorem dX10_image_15 : decode cX10_image 15 = .ok (.ireturn, 1) := by decide +kernel
theorem dX10_on_0 : decode cX10_on 0 = .ok (.aload_n 0, 1) := by decide +kernel
theorem dX10_on_1 : decode cX10_on 1 = .ok (.getfield 231, 3) := by decide +kernel
theorem dX10_on_4 : decode cX10_on 4 = .ok (.ifCond .ne 10, 3) := by decide +kernel
theorem dX10_on_7 : decode cX10_on 7 = .ok (.aload_n 0, 1) := by decide +kernel
theorem dX10_on_8 : decode cX10_on 8 = .ok (.bipush (-3), 2) := by decide +kernel
theorem dX10_on_10 : decode cX10_on 10 = .ok (.invokevirtual 77, 3) := by decide +kernel
theorem dX10_on_13 : decode cX10_on 13 = .ok (.ireturn, 1) := by decide +kernel
theorem dX10_on_14 : decode cX10_on 14 = .ok (.aload_n 0, 1) := by decide +kernel
theorem dX10_on_15 : decode cX10_on 15 = .ok (.bipush 8, 2) := by decide +kernel
theorem dX10_on_17 : decode cX10_on 17 = .ok (.invokevirtual 228, 3) := by decide +kernel
theorem dX10_on_20 : decode cX10_on 20 = .ok (.aload_n 0, 1) := by decide +kernel
theorem dX10_on_21 : decode cX10_on 21 = .ok (.iconst 0, 1) := by decide +kernel
theorem dX10_on_22 : decode cX10_on 22 = .ok (.putfield 166, 3) := by decide +kernel
theorem dX10_on_25 : decode cX10_on 25 = .ok (.aload_n 0, 1) := by decide +kernel
theorem dX10_on_26 : decode cX10_on 26 = .ok (.invokevirtual 235, 3) := by decide +kernel
theorem dX10_on_29 : decode cX10_on 29 = .ok (.ireturn, 1) := by decide +kernel
theorem dX10_count_0 : decode cX10_count 0 = .ok (.iload_n 1, 1) := by decide +kernel
theorem dX10_count_1 : decode cX10_count 1 = .ok (.bipush 11, 2) := by decide +kernel
theorem dX10_count_3 : decode cX10_count 3 = .ok (.bipush 16, 2) := by decide +kernel
theorem dX10_count_5 : decode cX10_count 5 = .ok (.invokestatic 72, 3) := by decide +kernel
theorem dX10_count_8 : decode cX10_count 8 = .ok (.ifCond .eq 13, 3) := by decide +kernel
theorem dX10_count_11 : decode cX10_count 11 = .ok (.aload_n 0, 1) := by decide +kernel
theorem dX10_count_12 : decode cX10_count 12 = .ok (.getfield 46, 3) := by decide +kernel
theorem dX10_count_15 : decode cX10_count 15 = .ok (.iload_n 1, 1) := by decide +kernel
theorem dX10_count_16 : decode cX10_count 16 = .ok (.bipush 10, 2) := by decide +kernel
theorem dX10_count_18 : decode cX10_count 18 = .ok (.isub, 1) := by decide +kernel
theorem dX10_count_19 : decode cX10_count 19 = .ok (.iaload, 1) := by decide +kernel
theorem dX10_count_20 : decode cX10_count 20 = .ok (.ireturn, 1) := by decide +kernel
theorem dX10_count_21 : decode cX10_count 21 = .ok (.iload_n 1, 1) := by decide +kernel
theorem dX10_count_22 : decode cX10_count 22 = .ok (.tableswitch 70 0 3 #[30, 35, 40, 65], 30) := by decide +kernel
theorem dX10_count_52 : decode cX10_count 52 = .ok (.aload_n 0, 1) := by decide +kernel
theorem dX10_count_53 : decode cX10_count 53 = .ok (.invokevirtual 235, 3) := by decide +kernel
theorem dX10_count_56 : decode cX10_count 56 = .ok (.ireturn, 1) := by decide +kernel
theorem dX10_count_57 : decode cX10_count 57 = .ok (.aload_n 0, 1) := by decide +kernel
theorem dX10_count_58 : decode cX10_count 58 = .ok (.getfield 182, 3) := by decide +kernel
theorem dX10_count_61 : decode cX10_count 61 = .ok (.ireturn, 1) := by decide +kernel
theorem dX10_count_62 : decode cX10_count 62 = .ok (.iconst 0, 1) := by decide +kernel
theorem dX10_count_63 : decode cX10_count 63 = .ok (.istore_n 2, 1) := by decide +kernel
theorem dX10_count_64 : decode cX10_count 64 = .ok (.iconst 0, 1) := by decide +kernel
theorem dX10_count_65 : decode cX10_count 65 = .ok (.istore_n 3, 1) := by decide +kernel
theorem dX10_count_66 : decode cX10_count 66 = .ok (.iload_n 3, 1) := by decide +kernel
theorem dX10_count_67 : decode cX10_count 67 = .ok (.iconst 4, 1) := by decide +kernel
theorem dX10_count_68 : decode cX10_count 68 = .ok (.if_icmp .ge 17, 3) := by decide +kernel
theorem dX10_count_71 : decode cX10_count 71 = .ok (.iload_n 2, 1) := by decide +kernel
theorem dX10_count_72 : decode cX10_count 72 = .ok (.aload_n 0, 1) := by decide +kernel
theorem dX10_count_73 : decode cX10_count 73 = .ok (.iload_n 3, 1) := by decide +kernel
theorem dX10_count_74 : decode cX10_count 74 = .ok (.invokevirtual 179, 3) := by decide +kernel
theorem dX10_count_77 : decode cX10_count 77 = .ok (.iadd, 1) := by decide +kernel
theorem dX10_count_78 : decode cX10_count 78 = .ok (.istore_n 2, 1) := by decide +kernel
theorem dX10_count_79 : decode cX10_count 79 = .ok (.iinc 3 1, 3) := by decide +kernel
theorem dX10_count_82 : decode cX10_count 82 = .ok (.goto (-16), 3) := by decide +kernel
theorem dX10_count_85 : decode cX10_count 85 = .ok (.iload_n 2, 1) := by decide +kernel
theorem dX10_count_86 : decode cX10_count 86 = .ok (.ireturn, 1) := by decide +kernel
theorem dX10_count_87 : decode cX10_count 87 = .ok (.aload_n 0, 1) := by decide +kernel
theorem dX10_count_88 : decode cX10_count 88 = .ok (.getfield 166, 3) := by decide +kernel
theorem dX10_count_91 : decode cX10_count 91 = .ok (.ireturn, 1) := by decide +kernel
theorem dX10_count_92 : decode cX10_count 92 = .ok (.bipush (-9), 2) := by decide +kernel
theorem dX10_count_94 : decode cX10_count 94 = .ok (.ireturn, 1) := by decide +kernel
