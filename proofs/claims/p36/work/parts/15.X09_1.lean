theorem dX9_grown_21 : decode cX9_grown 21 = .ok (.aload_n 0, 1) := by decide +kernel
theorem dX9_grown_22 : decode cX9_grown 22 = .ok (.bipush (-4), 2) := by decide +kernel
theorem dX9_grown_24 : decode cX9_grown 24 = .ok (.invokevirtual 90, 3) := by decide +kernel
theorem dX9_grown_27 : decode cX9_grown 27 = .ok (.ireturn, 1) := by decide +kernel
theorem dX9_grown_28 : decode cX9_grown 28 = .ok (.iload_n 2, 1) := by decide +kernel
theorem dX9_grown_29 : decode cX9_grown 29 = .ok (.bipush 8, 2) := by decide +kernel
theorem dX9_grown_31 : decode cX9_grown 31 = .ok (.if_icmp .le 10, 3) := by decide +kernel
theorem dX9_grown_34 : decode cX9_grown 34 = .ok (.aload_n 0, 1) := by decide +kernel
theorem dX9_grown_35 : decode cX9_grown 35 = .ok (.bipush (-6), 2) := by decide +kernel
theorem dX9_grown_37 : decode cX9_grown 37 = .ok (.invokevirtual 90, 3) := by decide +kernel
theorem dX9_grown_40 : decode cX9_grown 40 = .ok (.ireturn, 1) := by decide +kernel
theorem dX9_grown_41 : decode cX9_grown 41 = .ok (.aload_n 0, 1) := by decide +kernel
theorem dX9_grown_42 : decode cX9_grown 42 = .ok (.iload_n 1, 1) := by decide +kernel
theorem dX9_grown_43 : decode cX9_grown 43 = .ok (.invokevirtual 186, 3) := by decide +kernel
theorem dX9_grown_46 : decode cX9_grown 46 = .ok (.ifCond .eq 15, 3) := by decide +kernel
theorem dX9_grown_49 : decode cX9_grown 49 = .ok (.aload_n 0, 1) := by decide +kernel
theorem dX9_grown_50 : decode cX9_grown 50 = .ok (.getfield 28, 3) := by decide +kernel
theorem dX9_grown_53 : decode cX9_grown 53 = .ok (.iload_n 1, 1) := by decide +kernel
theorem dX9_grown_54 : decode cX9_grown 54 = .ok (.iload_n 2, 1) := by decide +kernel
theorem dX9_grown_55 : decode cX9_grown 55 = .ok (.invokevirtual 189, 3) := by decide +kernel
theorem dX9_grown_58 : decode cX9_grown 58 = .ok (.goto 9, 3) := by decide +kernel
theorem dX9_grown_61 : decode cX9_grown 61 = .ok (.aload_n 0, 1) := by decide +kernel
theorem dX9_grown_62 : decode cX9_grown 62 = .ok (.bipush (-3), 2) := by decide +kernel
theorem dX9_grown_64 : decode cX9_grown 64 = .ok (.invokevirtual 90, 3) := by decide +kernel
theorem dX9_grown_67 : decode cX9_grown 67 = .ok (.ireturn, 1) := by decide +kernel
theorem dX9_canGrow_0 : decode cX9_canGrow 0 = .ok (.aload_n 0, 1) := by decide +kernel
theorem dX9_canGrow_1 : decode cX9_canGrow 1 = .ok (.getfield 28, 3) := by decide +kernel
theorem dX9_canGrow_4 : decode cX9_canGrow 4 = .ok (.iload_n 1, 1) := by decide +kernel
theorem dX9_canGrow_5 : decode cX9_canGrow 5 = .ok (.invokevirtual 98, 3) := by decide +kernel
theorem dX9_canGrow_8 : decode cX9_canGrow 8 = .ok (.iconst 4, 1) := by decide +kernel
theorem dX9_canGrow_9 : decode cX9_canGrow 9 = .ok (.if_icmp .gt 7, 3) := by decide +kernel
theorem dX9_canGrow_12 : decode cX9_canGrow 12 = .ok (.iconst 1, 1) := by decide +kernel
theorem dX9_canGrow_13 : decode cX9_canGrow 13 = .ok (.goto 4, 3) := by decide +kernel
theorem dX9_canGrow_16 : decode cX9_canGrow 16 = .ok (.iconst 0, 1) := by decide +kernel
theorem dX9_canGrow_17 : decode cX9_canGrow 17 = .ok (.ireturn, 1) := by decide +kernel
theorem dX9_settled_0 : decode cX9_settled 0 = .ok (.aload_n 0, 1) := by decide +kernel
theorem dX9_settled_1 : decode cX9_settled 1 = .ok (.getfield 28, 3) := by decide +kernel
theorem dX9_settled_4 : decode cX9_settled 4 = .ok (.iload_n 1, 1) := by decide +kernel
theorem dX9_settled_5 : decode cX9_settled 5 = .ok (.invokevirtual 86, 3) := by decide +kernel
theorem dX9_settled_8 : decode cX9_settled 8 = .ok (.ifCond .eq 25, 3) := by decide +kernel
theorem dX9_settled_11 : decode cX9_settled 11 = .ok (.aload_n 0, 1) := by decide +kernel
theorem dX9_settled_12 : decode cX9_settled 12 = .ok (.getfield 28, 3) := by decide +kernel
theorem dX9_settled_15 : decode cX9_settled 15 = .ok (.iload_n 2, 1) := by decide +kernel
theorem dX9_settled_16 : decode cX9_settled 16 = .ok (.invokevirtual 86, 3) := by decide +kernel
theorem dX9_settled_19 : decode cX9_settled 19 = .ok (.ifCond .eq 14, 3) := by decide +kernel
theorem dX9_settled_22 : decode cX9_settled 22 = .ok (.aload_n 0, 1) := by decide +kernel
theorem dX9_settled_23 : decode cX9_settled 23 = .ok (.getfield 28, 3) := by decide +kernel
theorem dX9_settled_26 : decode cX9_settled 26 = .ok (.iload_n 3, 1) := by decide +kernel
theorem dX9_settled_27 : decode cX9_settled 27 = .ok (.invokevirtual 86, 3) := by decide +kernel
theorem dX9_settled_30 : decode cX9_settled 30 = .ok (.ifCond .ne 9, 3) := by decide +kernel
theorem dX9_settled_33 : decode cX9_settled 33 = .ok (.aload_n 0, 1) := by decide +kernel
theorem dX9_settled_34 : decode cX9_settled 34 = .ok (.iconst (-1), 1) := by decide +kernel
theorem dX9_settled_35 : decode cX9_settled 35 = .ok (.invokevirtual 90, 3) := by decide +kernel
theorem dX9_settled_38 : decode cX9_settled 38 = .ok (.ireturn, 1) := by decide +kernel
theorem dX9_settled_39 : decode cX9_settled 39 = .ok (.iload 4, 2) := by decide +kernel
theorem dX9_settled_41 : decode cX9_settled 41 = .ok (.ifCond .eq 16, 3) := by decide +kernel
theorem dX9_settled_44 : decode cX9_settled 44 = .ok (.iload 4, 2) := by decide +kernel
theorem dX9_settled_46 : decode cX9_settled 46 = .ok (.iconst 1, 1) := by decide +kernel
theorem dX9_settled_47 : decode cX9_settled 47 = .ok (.if_icmp .eq 10, 3) := by decide +kernel
theorem dX9_settled_50 : decode cX9_settled 50 = .ok (.aload_n 0, 1) := by decide +kernel
theorem dX9_settled_51 : decode cX9_settled 51 = .ok (.bipush (-2), 2) := by decide +kernel
theorem dX9_settled_53 : decode cX9_settled 53 = .ok (.invokevirtual 90, 3) := by decide +kernel
theorem dX9_settled_56 : decode cX9_settled 56 = .ok (.ireturn, 1) := by decide +kernel
theorem dX9_settled_57 : decode cX9_settled 57 = .ok (.aload_n 0, 1) := by decide +kernel
theorem dX9_settled_58 : decode cX9_settled 58 = .ok (.iload_n 1, 1) := by decide +kernel
theorem dX9_settled_59 : decode cX9_settled 59 = .ok (.invokevirtual 186, 3) := by decide +kernel
theorem dX9_settled_62 : decode cX9_settled 62 = .ok (.ifCond .eq 19, 3) := by decide +kernel
theorem dX9_settled_65 : decode cX9_settled 65 = .ok (.aload_n 0, 1) := by decide +kernel
theorem dX9_settled_66 : decode cX9_settled 66 = .ok (.iload_n 2, 1) := by decide +kernel
theorem dX9_settled_67 : decode cX9_settled 67 = .ok (.invokevirtual 186, 3) := by decide +kernel
theorem dX9_settled_70 : decode cX9_settled 70 = .ok (.ifCond .eq 11, 3) := by decide +kernel
theorem dX9_settled_73 : decode cX9_settled 73 = .ok (.aload_n 0, 1) := by decide +kernel
theorem dX9_settled_74 : decode cX9_settled 74 = .ok (.iload_n 3, 1) := by decide +kernel
theorem dX9_settled_75 : decode cX9_settled 75 = .ok (.invokevirtual 186, 3) := by decide +kernel
theorem dX9_settled_78 : decode cX9_settled 78 = .ok (.ifCond .ne 10, 3) := by decide +kernel
theorem dX9_settled_81 : decode cX9_settled 81 = .ok (.aload_n 0, 1) := by decide +kernel
theorem dX9_settled_82 : decode cX9_settled 82 = .ok (.bipush (-3), 2) := by decide +kernel
theorem dX9_settled_84 : decode cX9_settled 84 = .ok (.invokevirtual 90, 3) := by decide +kernel
theorem dX9_settled_87 : decode cX9_settled 87 = .ok (.ireturn, 1) := by decide +kernel
theorem dX9_settled_88 : decode cX9_settled 88 = .ok (.aload_n 0, 1) := by decide +kernel
theorem dX9_settled_89 : decode cX9_settled 89 = .ok (.getfield 49, 3) := by decide +kernel
theorem dX9_settled_92 : decode cX9_settled 92 = .ok (.iload_n 1, 1) := by decide +kernel
theorem dX9_settled_93 : decode cX9_settled 93 = .ok (.iload_n 2, 1) := by decide +kernel
theorem dX9_settled_94 : decode cX9_settled 94 = .ok (.iload_n 3, 1) := by decide +kernel
theorem dX9_settled_95 : decode cX9_settled 95 = .ok (.bipush 8, 2) := by decide +kernel
theorem dX9_settled_97 : decode cX9_settled 97 = .ok (.invokevirtual 192, 3) := by decide +kernel
theorem dX9_settled_100 : decode cX9_settled 100 = .ok (.istore 5, 2) := by decide +kernel
theorem dX9_settled_102 : decode cX9_settled 102 = .ok (.iload 5, 2) := by decide +kernel
theorem dX9_settled_104 : decode cX9_settled 104 = .ok (.ifCond .lt 9, 3) := by decide +kernel
theorem dX9_settled_107 : decode cX9_settled 107 = .ok (.iload 4, 2) := by decide +kernel
theorem dX9_settled_109 : decode cX9_settled 109 = .ok (.iconst 1, 1) := by decide +kernel
theorem dX9_settled_110 : decode cX9_settled 110 = .ok (.if_icmp .ne 6, 3) := by decide +kernel
theorem dX9_settled_113 : decode cX9_settled 113 = .ok (.iload 5, 2) := by decide +kernel
theorem dX9_settled_115 : decode cX9_settled 115 = .ok (.ireturn, 1) := by decide +kernel
theorem dX9_settled_116 : decode cX9_settled 116 = .ok (.bipush 8, 2) := by decide +kernel
theorem dX9_settled_118 : decode cX9_settled 118 = .ok (.istore 6, 2) := by decide +kernel
theorem dX9_settled_120 : decode cX9_settled 120 = .ok (.iload 6, 2) := by decide +kernel
theorem dX9_settled_122 : decode cX9_settled 122 = .ok (.ifCond .le 28, 3) := by decide +kernel
theorem dX9_settled_125 : decode cX9_settled 125 = .ok (.aload_n 0, 1) := by decide +kernel
theorem dX9_settled_126 : decode cX9_settled 126 = .ok (.getfield 49, 3) := by decide +kernel
theorem dX9_settled_129 : decode cX9_settled 129 = .ok (.iload_n 1, 1) := by decide +kernel
theorem dX9_settled_130 : decode cX9_settled 130 = .ok (.iload_n 2, 1) := by decide +kernel
theorem dX9_settled_131 : decode cX9_settled 131 = .ok (.iload_n 3, 1) := by decide +kernel
theorem dX9_settled_132 : decode cX9_settled 132 = .ok (.iload 6, 2) := by decide +kernel
theorem dX9_settled_134 : decode cX9_settled 134 = .ok (.iconst 1, 1) := by decide +kernel
theorem dX9_settled_135 : decode cX9_settled 135 = .ok (.isub, 1) := by decide +kernel
theorem dX9_settled_136 : decode cX9_settled 136 = .ok (.invokevirtual 192, 3) := by decide +kernel
theorem dX9_settled_139 : decode cX9_settled 139 = .ok (.iload 5, 2) := by decide +kernel
theorem dX9_settled_141 : decode cX9_settled 141 = .ok (.if_icmp .ne 9, 3) := by decide +kernel
theorem dX9_settled_144 : decode cX9_settled 144 = .ok (.iinc 6 (-1), 3) := by decide +kernel
theorem dX9_settled_147 : decode cX9_settled 147 = .ok (.goto (-27), 3) := by decide +kernel
theorem dX9_settled_150 : decode cX9_settled 150 = .ok (.iload 6, 2) := by decide +kernel
theorem dX9_settled_152 : decode cX9_settled 152 = .ok (.ireturn, 1) := by decide +kernel
theorem dX9_letter_0 : decode cX9_letter 0 = .ok (.iload_n 1, 1) := by decide +kernel
theorem dX9_letter_1 : decode cX9_letter 1 = .ok (.ifCond .ge 10, 3) := by decide +kernel
theorem dX9_letter_4 : decode cX9_letter 4 = .ok (.aload_n 0, 1) := by decide +kernel
theorem dX9_letter_5 : decode cX9_letter 5 = .ok (.bipush (-4), 2) := by decide +kernel
theorem dX9_letter_7 : decode cX9_letter 7 = .ok (.invokevirtual 90, 3) := by decide +kernel
theorem dX9_letter_10 : decode cX9_letter 10 = .ok (.ireturn, 1) := by decide +kernel
theorem dX9_letter_11 : decode cX9_letter 11 = .ok (.iload_n 1, 1) := by decide +kernel
theorem dX9_letter_12 : decode cX9_letter 12 = .ok (.sipush 255, 3) := by decide +kernel
theorem dX9_letter_15 : decode cX9_letter 15 = .ok (.if_icmp .gt 13, 3) := by decide +kernel
theorem dX9_letter_18 : decode cX9_letter 18 = .ok (.aload_n 0, 1) := by decide +kernel
theorem dX9_letter_19 : decode cX9_letter 19 = .ok (.getfield 71, 3) := by decide +kernel
theorem dX9_letter_22 : decode cX9_letter 22 = .ok (.invokevirtual 204, 3) := by decide +kernel
theorem dX9_letter_25 : decode cX9_letter 25 = .ok (.ifCond .eq 10, 3) := by decide +kernel
theorem dX9_letter_28 : decode cX9_letter 28 = .ok (.aload_n 0, 1) := by decide +kernel
theorem dX9_letter_29 : decode cX9_letter 29 = .ok (.bipush (-6), 2) := by decide +kernel
theorem dX9_letter_31 : decode cX9_letter 31 = .ok (.invokevirtual 90, 3) := by decide +kernel
theorem dX9_letter_34 : decode cX9_letter 34 = .ok (.ireturn, 1) := by decide +kernel
theorem dX9_letter_35 : decode cX9_letter 35 = .ok (.aload_n 0, 1) := by decide +kernel
theorem dX9_letter_36 : decode cX9_letter 36 = .ok (.getfield 71, 3) := by decide +kernel
theorem dX9_letter_39 : decode cX9_letter 39 = .ok (.iload_n 1, 1) := by decide +kernel
theorem dX9_letter_40 : decode cX9_letter 40 = .ok (.invokevirtual 208, 3) := by decide +kernel
theorem dX9_letter_43 : decode cX9_letter 43 = .ok (.aload_n 0, 1) := by decide +kernel
theorem dX9_letter_44 : decode cX9_letter 44 = .ok (.getfield 71, 3) := by decide +kernel
theorem dX9_letter_47 : decode cX9_letter 47 = .ok (.invokevirtual 212, 3) := by decide +kernel
theorem dX9_letter_50 : decode cX9_letter 50 = .ok (.ireturn, 1) := by decide +kernel
theorem dX9_reads_0 : decode cX9_reads 0 = .ok (.aload_n 0, 1) := by decide +kernel
theorem dX9_reads_1 : decode cX9_reads 1 = .ok (.getfield 53, 3) := by decide +kernel
theorem dX9_reads_4 : decode cX9_reads 4 = .ok (.iload_n 1, 1) := by decide +kernel
theorem dX9_reads_5 : decode cX9_reads 5 = .ok (.invokevirtual 215, 3) := by decide +kernel
theorem dX9_reads_8 : decode cX9_reads 8 = .ok (.ifCond .ne 9, 3) := by decide +kernel
theorem dX9_reads_11 : decode cX9_reads 11 = .ok (.aload_n 0, 1) := by decide +kernel
theorem dX9_reads_12 : decode cX9_reads 12 = .ok (.iconst (-1), 1) := by decide +kernel
theorem dX9_reads_13 : decode cX9_reads 13 = .ok (.invokevirtual 90, 3) := by decide +kernel
theorem dX9_reads_16 : decode cX9_reads 16 = .ok (.ireturn, 1) := by decide +kernel
theorem dX9_reads_17 : decode cX9_reads 17 = .ok (.aload_n 0, 1) := by decide +kernel
theorem dX9_reads_18 : decode cX9_reads 18 = .ok (.getfield 71, 3) := by decide +kernel
theorem dX9_reads_21 : decode cX9_reads 21 = .ok (.invokevirtual 216, 3) := by decide +kernel
theorem dX9_reads_24 : decode cX9_reads 24 = .ok (.istore_n 2, 1) := by decide +kernel
theorem dX9_reads_25 : decode cX9_reads 25 = .ok (.aload_n 0, 1) := by decide +kernel
theorem dX9_reads_26 : decode cX9_reads 26 = .ok (.getfield 71, 3) := by decide +kernel
theorem dX9_reads_29 : decode cX9_reads 29 = .ok (.invokevirtual 219, 3) := by decide +kernel
theorem dX9_reads_32 : decode cX9_reads 32 = .ok (.iload_n 2, 1) := by decide +kernel
theorem dX9_reads_33 : decode cX9_reads 33 = .ok (.iconst (-1), 1) := by decide +kernel
theorem dX9_reads_34 : decode cX9_reads 34 = .ok (.if_icmp .ne 11, 3) := by decide +kernel
theorem dX9_reads_37 : decode cX9_reads 37 = .ok (.aload_n 0, 1) := by decide +kernel
theorem dX9_reads_38 : decode cX9_reads 38 = .ok (.iload_n 1, 1) := by decide +kernel
theorem dX9_reads_39 : decode cX9_reads 39 = .ok (.invokevirtual 222, 3) := by decide +kernel
theorem dX9_reads_42 : decode cX9_reads 42 = .ok (.goto 8, 3) := by decide +kernel
theorem dX9_reads_45 : decode cX9_reads 45 = .ok (.sipush (-1000), 3) := by decide +kernel
theorem dX9_reads_48 : decode cX9_reads 48 = .ok (.iload_n 2, 1) := by decide +kernel
theorem dX9_reads_49 : decode cX9_reads 49 = .ok (.isub, 1) := by decide +kernel
theorem dX9_reads_50 : decode cX9_reads 50 = .ok (.ireturn, 1) := by decide +kernel
theorem dX9_keepDraft_0 : decode cX9_keepDraft 0 = .ok (.aload_n 0, 1) := by decide +kernel
theorem dX9_keepDraft_1 : decode cX9_keepDraft 1 = .ok (.getfield 53, 3) := by decide +kernel
theorem dX9_keepDraft_4 : decode cX9_keepDraft 4 = .ok (.iload_n 1, 1) := by decide +kernel
theorem dX9_keepDraft_5 : decode cX9_keepDraft 5 = .ok (.invokevirtual 225, 3) := by decide +kernel
theorem dX9_keepDraft_8 : decode cX9_keepDraft 8 = .ok (.aload_n 0, 1) := by decide +kernel
theorem dX9_keepDraft_9 : decode cX9_keepDraft 9 = .ok (.getfield 53, 3) := by decide +kernel
theorem dX9_keepDraft_12 : decode cX9_keepDraft 12 = .ok (.iload_n 1, 1) := by decide +kernel
theorem dX9_keepDraft_13 : decode cX9_keepDraft 13 = .ok (.invokevirtual 227, 3) := by decide +kernel
theorem dX9_keepDraft_16 : decode cX9_keepDraft 16 = .ok (.ireturn, 1) := by decide +kernel
theorem dX9_clear_0 : decode cX9_clear 0 = .ok (.aload_n 0, 1) := by decide +kernel
theorem dX9_clear_1 : decode cX9_clear 1 = .ok (.getfield 53, 3) := by decide +kernel
theorem dX9_clear_4 : decode cX9_clear 4 = .ok (.iload_n 1, 1) := by decide +kernel
theorem dX9_clear_5 : decode cX9_clear 5 = .ok (.invokevirtual 215, 3) := by decide +kernel
theorem dX9_clear_8 : decode cX9_clear 8 = .ok (.ifCond .ne 9, 3) := by decide +kernel
theorem dX9_clear_11 : decode cX9_clear 11 = .ok (.aload_n 0, 1) := by decide +kernel
theorem dX9_clear_12 : decode cX9_clear 12 = .ok (.iconst (-1), 1) := by decide +kernel
theorem dX9_clear_13 : decode cX9_clear 13 = .ok (.invokevirtual 90, 3) := by decide +kernel
theorem dX9_clear_16 : decode cX9_clear 16 = .ok (.ireturn, 1) := by decide +kernel
theorem dX9_clear_17 : decode cX9_clear 17 = .ok (.aload_n 0, 1) := by decide +kernel
theorem dX9_clear_18 : decode cX9_clear 18 = .ok (.getfield 53, 3) := by decide +kernel
theorem dX9_clear_21 : decode cX9_clear 21 = .ok (.iload_n 1, 1) := by decide +kernel
theorem dX9_clear_22 : decode cX9_clear 22 = .ok (.invokevirtual 230, 3) := by decide +kernel
theorem dX9_clear_25 : decode cX9_clear 25 = .ok (.ifCond .eq 7, 3) := by decide +kernel
theorem dX9_clear_28 : decode cX9_clear 28 = .ok (.iconst 0, 1) := by decide +kernel
theorem dX9_clear_29 : decode cX9_clear 29 = .ok (.goto 4, 3) := by decide +kernel
theorem dX9_clear_32 : decode cX9_clear 32 = .ok (.iconst 1, 1) := by decide +kernel
theorem dX9_clear_33 : decode cX9_clear 33 = .ok (.istore_n 2, 1) := by decide +kernel
theorem dX9_clear_34 : decode cX9_clear 34 = .ok (.aload_n 0, 1) := by decide +kernel
theorem dX9_clear_35 : decode cX9_clear 35 = .ok (.getfield 53, 3) := by decide +kernel
theorem dX9_clear_38 : decode cX9_clear 38 = .ok (.invokevirtual 231, 3) := by decide +kernel
theorem dX9_clear_41 : decode cX9_clear 41 = .ok (.aload_n 0, 1) := by decide +kernel
theorem dX9_clear_42 : decode cX9_clear 42 = .ok (.getfield 53, 3) := by decide +kernel
theorem dX9_clear_45 : decode cX9_clear 45 = .ok (.iload_n 1, 1) := by decide +kernel
theorem dX9_clear_46 : decode cX9_clear 46 = .ok (.invokevirtual 225, 3) := by decide +kernel
theorem dX9_clear_49 : decode cX9_clear 49 = .ok (.iload_n 2, 1) := by decide +kernel
theorem dX9_clear_50 : decode cX9_clear 50 = .ok (.ireturn, 1) := by decide +kernel
theorem dX9_sum_0 : decode cX9_sum 0 = .ok (.aload_n 0, 1) := by decide +kernel
theorem dX9_sum_1 : decode cX9_sum 1 = .ok (.getfield 53, 3) := by decide +kernel
theorem dX9_sum_4 : decode cX9_sum 4 = .ok (.iload_n 1, 1) := by decide +kernel
theorem dX9_sum_5 : decode cX9_sum 5 = .ok (.invokevirtual 215, 3) := by decide +kernel
theorem dX9_sum_8 : decode cX9_sum 8 = .ok (.ifCond .ne 9, 3) := by decide +kernel
theorem dX9_sum_11 : decode cX9_sum 11 = .ok (.aload_n 0, 1) := by decide +kernel
theorem dX9_sum_12 : decode cX9_sum 12 = .ok (.iconst (-1), 1) := by decide +kernel
theorem dX9_sum_13 : decode cX9_sum 13 = .ok (.invokevirtual 90, 3) := by decide +kernel
theorem dX9_sum_16 : decode cX9_sum 16 = .ok (.ireturn, 1) := by decide +kernel
theorem dX9_sum_17 : decode cX9_sum 17 = .ok (.iload_n 2, 1) := by decide +kernel
theorem dX9_sum_18 : decode cX9_sum 18 = .ok (.ifCond .lt 8, 3) := by decide +kernel
theorem dX9_sum_21 : decode cX9_sum 21 = .ok (.iload_n 2, 1) := by decide +kernel
theorem dX9_sum_22 : decode cX9_sum 22 = .ok (.iconst 2, 1) := by decide +kernel
theorem dX9_sum_23 : decode cX9_sum 23 = .ok (.if_icmp .le 10, 3) := by decide +kernel
theorem dX9_sum_26 : decode cX9_sum 26 = .ok (.aload_n 0, 1) := by decide +kernel
theorem dX9_sum_27 : decode cX9_sum 27 = .ok (.bipush (-2), 2) := by decide +kernel
theorem dX9_sum_29 : decode cX9_sum 29 = .ok (.invokevirtual 90, 3) := by decide +kernel
theorem dX9_sum_32 : decode cX9_sum 32 = .ok (.ireturn, 1) := by decide +kernel
theorem dX9_sum_33 : decode cX9_sum 33 = .ok (.aload_n 0, 1) := by decide +kernel
theorem dX9_sum_34 : decode cX9_sum 34 = .ok (.getfield 53, 3) := by decide +kernel
theorem dX9_sum_37 : decode cX9_sum 37 = .ok (.iload_n 1, 1) := by decide +kernel
theorem dX9_sum_38 : decode cX9_sum 38 = .ok (.invokevirtual 230, 3) := by decide +kernel
theorem dX9_sum_41 : decode cX9_sum 41 = .ok (.ifCond .eq 6, 3) := by decide +kernel
theorem dX9_sum_44 : decode cX9_sum 44 = .ok (.bipush (-11), 2) := by decide +kernel
theorem dX9_sum_46 : decode cX9_sum 46 = .ok (.ireturn, 1) := by decide +kernel
theorem dX9_sum_47 : decode cX9_sum 47 = .ok (.iload_n 2, 1) := by decide +kernel
theorem dX9_sum_48 : decode cX9_sum 48 = .ok (.lookupswitch 46 #[(0, 28), (1, 37)], 28) := by decide +kernel
theorem dX9_sum_76 : decode cX9_sum 76 = .ok (.aload_n 0, 1) := by decide +kernel
theorem dX9_sum_77 : decode cX9_sum 77 = .ok (.getfield 53, 3) := by decide +kernel
theorem dX9_sum_80 : decode cX9_sum 80 = .ok (.iload_n 1, 1) := by decide +kernel
theorem dX9_sum_81 : decode cX9_sum 81 = .ok (.invokevirtual 234, 3) := by decide +kernel
theorem dX9_sum_84 : decode cX9_sum 84 = .ok (.ireturn, 1) := by decide +kernel
theorem dX9_sum_85 : decode cX9_sum 85 = .ok (.aload_n 0, 1) := by decide +kernel
theorem dX9_sum_86 : decode cX9_sum 86 = .ok (.getfield 53, 3) := by decide +kernel
theorem dX9_sum_89 : decode cX9_sum 89 = .ok (.iload_n 1, 1) := by decide +kernel
theorem dX9_sum_90 : decode cX9_sum 90 = .ok (.invokevirtual 227, 3) := by decide +kernel
theorem dX9_sum_93 : decode cX9_sum 93 = .ok (.ireturn, 1) := by decide +kernel
theorem dX9_sum_94 : decode cX9_sum 94 = .ok (.aload_n 0, 1) := by decide +kernel
theorem dX9_sum_95 : decode cX9_sum 95 = .ok (.iload_n 1, 1) := by decide +kernel
theorem dX9_sum_96 : decode cX9_sum 96 = .ok (.invokevirtual 235, 3) := by decide +kernel
theorem dX9_sum_99 : decode cX9_sum 99 = .ok (.ireturn, 1) := by decide +kernel
theorem dX9_firstTerm_0 : decode cX9_firstTerm 0 = .ok (.aload_n 0, 1) := by decide +kernel
theorem dX9_firstTerm_1 : decode cX9_firstTerm 1 = .ok (.getfield 53, 3) := by decide +kernel
theorem dX9_firstTerm_4 : decode cX9_firstTerm 4 = .ok (.iload_n 1, 1) := by decide +kernel
theorem dX9_firstTerm_5 : decode cX9_firstTerm 5 = .ok (.invokevirtual 238, 3) := by decide +kernel
theorem dX9_firstTerm_8 : decode cX9_firstTerm 8 = .ok (.istore_n 2, 1) := by decide +kernel
theorem dX9_firstTerm_9 : decode cX9_firstTerm 9 = .ok (.iload_n 2, 1) := by decide +kernel
theorem dX9_firstTerm_10 : decode cX9_firstTerm 10 = .ok (.ifCond .ge 8, 3) := by decide +kernel
theorem dX9_firstTerm_13 : decode cX9_firstTerm 13 = .ok (.bipush (-9), 2) := by decide +kernel
theorem dX9_firstTerm_15 : decode cX9_firstTerm 15 = .ok (.goto 20, 3) := by decide +kernel
theorem dX9_firstTerm_18 : decode cX9_firstTerm 18 = .ok (.aload_n 0, 1) := by decide +kernel
theorem dX9_firstTerm_19 : decode cX9_firstTerm 19 = .ok (.getfield 28, 3) := by decide +kernel
theorem dX9_firstTerm_22 : decode cX9_firstTerm 22 = .ok (.aload_n 0, 1) := by decide +kernel
theorem dX9_firstTerm_23 : decode cX9_firstTerm 23 = .ok (.getfield 53, 3) := by decide +kernel
theorem dX9_firstTerm_26 : decode cX9_firstTerm 26 = .ok (.iload_n 1, 1) := by decide +kernel
theorem dX9_firstTerm_27 : decode cX9_firstTerm 27 = .ok (.invokevirtual 234, 3) := by decide +kernel
theorem dX9_firstTerm_30 : decode cX9_firstTerm 30 = .ok (.invokevirtual 133, 3) := by decide +kernel
theorem dX9_firstTerm_33 : decode cX9_firstTerm 33 = .ok (.iload_n 2, 1) := by decide +kernel
theorem dX9_firstTerm_34 : decode cX9_firstTerm 34 = .ok (.iadd, 1) := by decide +kernel
theorem dX9_firstTerm_35 : decode cX9_firstTerm 35 = .ok (.ireturn, 1) := by decide +kernel
theorem dX9_coefficient_0 : decode cX9_coefficient 0 = .ok (.aload_n 0, 1) := by decide +kernel
theorem dX9_coefficient_1 : decode cX9_coefficient 1 = .ok (.getfield 53, 3) := by decide +kernel
theorem dX9_coefficient_4 : decode cX9_coefficient 4 = .ok (.iload_n 1, 1) := by decide +kernel
theorem dX9_coefficient_5 : decode cX9_coefficient 5 = .ok (.invokevirtual 215, 3) := by decide +kernel
theorem dX9_coefficient_8 : decode cX9_coefficient 8 = .ok (.ifCond .eq 14, 3) := by decide +kernel
theorem dX9_coefficient_11 : decode cX9_coefficient 11 = .ok (.aload_n 0, 1) := by decide +kernel
theorem dX9_coefficient_12 : decode cX9_coefficient 12 = .ok (.getfield 28, 3) := by decide +kernel
theorem dX9_coefficient_15 : decode cX9_coefficient 15 = .ok (.iload_n 2, 1) := by decide +kernel
theorem dX9_coefficient_16 : decode cX9_coefficient 16 = .ok (.invokevirtual 86, 3) := by decide +kernel
theorem dX9_coefficient_19 : decode cX9_coefficient 19 = .ok (.ifCond .ne 9, 3) := by decide +kernel
theorem dX9_coefficient_22 : decode cX9_coefficient 22 = .ok (.aload_n 0, 1) := by decide +kernel
theorem dX9_coefficient_23 : decode cX9_coefficient 23 = .ok (.iconst (-1), 1) := by decide +kernel
theorem dX9_coefficient_24 : decode cX9_coefficient 24 = .ok (.invokevirtual 159, 3) := by decide +kernel
theorem dX9_coefficient_27 : decode cX9_coefficient 27 = .ok (.ireturn, 1) := by decide +kernel
theorem dX9_coefficient_28 : decode cX9_coefficient 28 = .ok (.aload_n 0, 1) := by decide +kernel
theorem dX9_coefficient_29 : decode cX9_coefficient 29 = .ok (.getfield 53, 3) := by decide +kernel
theorem dX9_coefficient_32 : decode cX9_coefficient 32 = .ok (.iload_n 1, 1) := by decide +kernel
theorem dX9_coefficient_33 : decode cX9_coefficient 33 = .ok (.invokevirtual 230, 3) := by decide +kernel
theorem dX9_coefficient_36 : decode cX9_coefficient 36 = .ok (.ifCond .eq 6, 3) := by decide +kernel
theorem dX9_coefficient_39 : decode cX9_coefficient 39 = .ok (.ldc 241, 2) := by decide +kernel
theorem dX9_coefficient_41 : decode cX9_coefficient 41 = .ok (.ireturn, 1) := by decide +kernel
theorem dX9_coefficient_42 : decode cX9_coefficient 42 = .ok (.aload_n 0, 1) := by decide +kernel
theorem dX9_coefficient_43 : decode cX9_coefficient 43 = .ok (.getfield 28, 3) := by decide +kernel
theorem dX9_coefficient_46 : decode cX9_coefficient 46 = .ok (.iload_n 2, 1) := by decide +kernel
theorem dX9_coefficient_47 : decode cX9_coefficient 47 = .ok (.invokevirtual 98, 3) := by decide +kernel
theorem dX9_coefficient_50 : decode cX9_coefficient 50 = .ok (.aload_n 0, 1) := by decide +kernel
theorem dX9_coefficient_51 : decode cX9_coefficient 51 = .ok (.getfield 53, 3) := by decide +kernel
theorem dX9_coefficient_54 : decode cX9_coefficient 54 = .ok (.iload_n 1, 1) := by decide +kernel
theorem dX9_coefficient_55 : decode cX9_coefficient 55 = .ok (.invokevirtual 234, 3) := by decide +kernel
theorem dX9_coefficient_58 : decode cX9_coefficient 58 = .ok (.if_icmp .ne 7, 3) := by decide +kernel
theorem dX9_coefficient_61 : decode cX9_coefficient 61 = .ok (.iconst 1, 1) := by decide +kernel
theorem dX9_coefficient_62 : decode cX9_coefficient 62 = .ok (.goto 4, 3) := by decide +kernel
theorem dX9_coefficient_65 : decode cX9_coefficient 65 = .ok (.iconst 0, 1) := by decide +kernel
