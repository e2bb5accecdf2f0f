theorem dX9_changed_51 : decode cX9_changed 51 = .ok (.iload_n 1, 1) := by decide +kernel
theorem dX9_changed_52 : decode cX9_changed 52 = .ok (.invokevirtual 234, 3) := by decide +kernel
theorem dX9_changed_55 : decode cX9_changed 55 = .ok (.istore_n 3, 1) := by decide +kernel
theorem dX9_changed_56 : decode cX9_changed 56 = .ok (.iload_n 2, 1) := by decide +kernel
theorem dX9_changed_57 : decode cX9_changed 57 = .ok (.iconst 1, 1) := by decide +kernel
theorem dX9_changed_58 : decode cX9_changed 58 = .ok (.if_icmp .ne 8, 3) := by decide +kernel
theorem dX9_changed_61 : decode cX9_changed 61 = .ok (.iload_n 3, 1) := by decide +kernel
theorem dX9_changed_62 : decode cX9_changed 62 = .ok (.iconst 1, 1) := by decide +kernel
theorem dX9_changed_63 : decode cX9_changed 63 = .ok (.if_icmp .lt 14, 3) := by decide +kernel
theorem dX9_changed_66 : decode cX9_changed 66 = .ok (.iload_n 2, 1) := by decide +kernel
theorem dX9_changed_67 : decode cX9_changed 67 = .ok (.iconst 2, 1) := by decide +kernel
theorem dX9_changed_68 : decode cX9_changed 68 = .ok (.if_icmp .ne 16, 3) := by decide +kernel
theorem dX9_changed_71 : decode cX9_changed 71 = .ok (.iload_n 3, 1) := by decide +kernel
theorem dX9_changed_72 : decode cX9_changed 72 = .ok (.bipush 8, 2) := by decide +kernel
theorem dX9_changed_74 : decode cX9_changed 74 = .ok (.if_icmp .lt 10, 3) := by decide +kernel
theorem dX9_changed_77 : decode cX9_changed 77 = .ok (.aload_n 0, 1) := by decide +kernel
theorem dX9_changed_78 : decode cX9_changed 78 = .ok (.bipush (-3), 2) := by decide +kernel
theorem dX9_changed_80 : decode cX9_changed 80 = .ok (.invokevirtual 90, 3) := by decide +kernel
theorem dX9_changed_83 : decode cX9_changed 83 = .ok (.ireturn, 1) := by decide +kernel
theorem dX9_changed_84 : decode cX9_changed 84 = .ok (.iload_n 2, 1) := by decide +kernel
theorem dX9_changed_85 : decode cX9_changed 85 = .ok (.lookupswitch 53 #[(0, 27), (1, 40)], 27) := by decide +kernel
theorem dX9_changed_112 : decode cX9_changed 112 = .ok (.aload_n 0, 1) := by decide +kernel
theorem dX9_changed_113 : decode cX9_changed 113 = .ok (.getfield 62, 3) := by decide +kernel
theorem dX9_changed_116 : decode cX9_changed 116 = .ok (.iload_n 1, 1) := by decide +kernel
theorem dX9_changed_117 : decode cX9_changed 117 = .ok (.invokevirtual 252, 3) := by decide +kernel
theorem dX9_changed_120 : decode cX9_changed 120 = .ok (.istore 4, 2) := by decide +kernel
theorem dX9_changed_122 : decode cX9_changed 122 = .ok (.goto 26, 3) := by decide +kernel
theorem dX9_changed_125 : decode cX9_changed 125 = .ok (.aload_n 0, 1) := by decide +kernel
theorem dX9_changed_126 : decode cX9_changed 126 = .ok (.getfield 62, 3) := by decide +kernel
theorem dX9_changed_129 : decode cX9_changed 129 = .ok (.iload_n 1, 1) := by decide +kernel
theorem dX9_changed_130 : decode cX9_changed 130 = .ok (.invokevirtual 255, 3) := by decide +kernel
theorem dX9_changed_133 : decode cX9_changed 133 = .ok (.istore 4, 2) := by decide +kernel
theorem dX9_changed_135 : decode cX9_changed 135 = .ok (.goto 13, 3) := by decide +kernel
theorem dX9_changed_138 : decode cX9_changed 138 = .ok (.aload_n 0, 1) := by decide +kernel
theorem dX9_changed_139 : decode cX9_changed 139 = .ok (.getfield 62, 3) := by decide +kernel
theorem dX9_changed_142 : decode cX9_changed 142 = .ok (.iload_n 1, 1) := by decide +kernel
theorem dX9_changed_143 : decode cX9_changed 143 = .ok (.invokevirtual 258, 3) := by decide +kernel
theorem dX9_changed_146 : decode cX9_changed 146 = .ok (.istore 4, 2) := by decide +kernel
theorem dX9_changed_148 : decode cX9_changed 148 = .ok (.iload 4, 2) := by decide +kernel
theorem dX9_changed_150 : decode cX9_changed 150 = .ok (.ifCond .eq 11, 3) := by decide +kernel
theorem dX9_changed_153 : decode cX9_changed 153 = .ok (.aload_n 0, 1) := by decide +kernel
theorem dX9_changed_154 : decode cX9_changed 154 = .ok (.iload_n 1, 1) := by decide +kernel
theorem dX9_changed_155 : decode cX9_changed 155 = .ok (.invokevirtual 222, 3) := by decide +kernel
theorem dX9_changed_158 : decode cX9_changed 158 = .ok (.goto 9, 3) := by decide +kernel
theorem dX9_changed_161 : decode cX9_changed 161 = .ok (.aload_n 0, 1) := by decide +kernel
theorem dX9_changed_162 : decode cX9_changed 162 = .ok (.bipush (-6), 2) := by decide +kernel
theorem dX9_changed_164 : decode cX9_changed 164 = .ok (.invokevirtual 90, 3) := by decide +kernel
theorem dX9_changed_167 : decode cX9_changed 167 = .ok (.ireturn, 1) := by decide +kernel
theorem dX9_value_0 : decode cX9_value 0 = .ok (.aload_n 0, 1) := by decide +kernel
theorem dX9_value_1 : decode cX9_value 1 = .ok (.getfield 53, 3) := by decide +kernel
theorem dX9_value_4 : decode cX9_value 4 = .ok (.iload_n 1, 1) := by decide +kernel
theorem dX9_value_5 : decode cX9_value 5 = .ok (.invokevirtual 215, 3) := by decide +kernel
theorem dX9_value_8 : decode cX9_value 8 = .ok (.ifCond .eq 14, 3) := by decide +kernel
theorem dX9_value_11 : decode cX9_value 11 = .ok (.aload_n 0, 1) := by decide +kernel
theorem dX9_value_12 : decode cX9_value 12 = .ok (.getfield 28, 3) := by decide +kernel
theorem dX9_value_15 : decode cX9_value 15 = .ok (.iload_n 2, 1) := by decide +kernel
theorem dX9_value_16 : decode cX9_value 16 = .ok (.invokevirtual 86, 3) := by decide +kernel
theorem dX9_value_19 : decode cX9_value 19 = .ok (.ifCond .ne 9, 3) := by decide +kernel
theorem dX9_value_22 : decode cX9_value 22 = .ok (.aload_n 0, 1) := by decide +kernel
theorem dX9_value_23 : decode cX9_value 23 = .ok (.iconst (-1), 1) := by decide +kernel
theorem dX9_value_24 : decode cX9_value 24 = .ok (.invokevirtual 167, 3) := by decide +kernel
theorem dX9_value_27 : decode cX9_value 27 = .ok (.lreturn, 1) := by decide +kernel
theorem dX9_value_28 : decode cX9_value 28 = .ok (.aload_n 0, 1) := by decide +kernel
theorem dX9_value_29 : decode cX9_value 29 = .ok (.getfield 53, 3) := by decide +kernel
theorem dX9_value_32 : decode cX9_value 32 = .ok (.iload_n 1, 1) := by decide +kernel
theorem dX9_value_33 : decode cX9_value 33 = .ok (.invokevirtual 230, 3) := by decide +kernel
theorem dX9_value_36 : decode cX9_value 36 = .ok (.ifCond .eq 7, 3) := by decide +kernel
theorem dX9_value_39 : decode cX9_value 39 = .ok (.ldc2_w 261, 3) := by decide +kernel
theorem dX9_value_42 : decode cX9_value 42 = .ok (.lreturn, 1) := by decide +kernel
theorem dX9_value_43 : decode cX9_value 43 = .ok (.aload_n 0, 1) := by decide +kernel
theorem dX9_value_44 : decode cX9_value 44 = .ok (.getfield 28, 3) := by decide +kernel
theorem dX9_value_47 : decode cX9_value 47 = .ok (.iload_n 2, 1) := by decide +kernel
theorem dX9_value_48 : decode cX9_value 48 = .ok (.invokevirtual 98, 3) := by decide +kernel
theorem dX9_value_51 : decode cX9_value 51 = .ok (.aload_n 0, 1) := by decide +kernel
theorem dX9_value_52 : decode cX9_value 52 = .ok (.getfield 53, 3) := by decide +kernel
theorem dX9_value_55 : decode cX9_value 55 = .ok (.iload_n 1, 1) := by decide +kernel
theorem dX9_value_56 : decode cX9_value 56 = .ok (.invokevirtual 234, 3) := by decide +kernel
theorem dX9_value_59 : decode cX9_value 59 = .ok (.if_icmp .eq 10, 3) := by decide +kernel
theorem dX9_value_62 : decode cX9_value 62 = .ok (.aload_n 0, 1) := by decide +kernel
theorem dX9_value_63 : decode cX9_value 63 = .ok (.bipush (-3), 2) := by decide +kernel
theorem dX9_value_65 : decode cX9_value 65 = .ok (.invokevirtual 167, 3) := by decide +kernel
theorem dX9_value_68 : decode cX9_value 68 = .ok (.lreturn, 1) := by decide +kernel
theorem dX9_value_69 : decode cX9_value 69 = .ok (.aload_n 0, 1) := by decide +kernel
theorem dX9_value_70 : decode cX9_value 70 = .ok (.getfield 62, 3) := by decide +kernel
theorem dX9_value_73 : decode cX9_value 73 = .ok (.iload_n 1, 1) := by decide +kernel
theorem dX9_value_74 : decode cX9_value 74 = .ok (.iload_n 2, 1) := by decide +kernel
theorem dX9_value_75 : decode cX9_value 75 = .ok (.invokevirtual 263, 3) := by decide +kernel
theorem dX9_value_78 : decode cX9_value 78 = .ok (.lreturn, 1) := by decide +kernel
theorem dX9_inner_0 : decode cX9_inner 0 = .ok (.aload_n 0, 1) := by decide +kernel
theorem dX9_inner_1 : decode cX9_inner 1 = .ok (.getfield 53, 3) := by decide +kernel
theorem dX9_inner_4 : decode cX9_inner 4 = .ok (.iload_n 1, 1) := by decide +kernel
theorem dX9_inner_5 : decode cX9_inner 5 = .ok (.invokevirtual 215, 3) := by decide +kernel
theorem dX9_inner_8 : decode cX9_inner 8 = .ok (.ifCond .eq 14, 3) := by decide +kernel
theorem dX9_inner_11 : decode cX9_inner 11 = .ok (.aload_n 0, 1) := by decide +kernel
theorem dX9_inner_12 : decode cX9_inner 12 = .ok (.getfield 53, 3) := by decide +kernel
theorem dX9_inner_15 : decode cX9_inner 15 = .ok (.iload_n 2, 1) := by decide +kernel
theorem dX9_inner_16 : decode cX9_inner 16 = .ok (.invokevirtual 215, 3) := by decide +kernel
theorem dX9_inner_19 : decode cX9_inner 19 = .ok (.ifCond .ne 9, 3) := by decide +kernel
theorem dX9_inner_22 : decode cX9_inner 22 = .ok (.aload_n 0, 1) := by decide +kernel
theorem dX9_inner_23 : decode cX9_inner 23 = .ok (.iconst (-1), 1) := by decide +kernel
theorem dX9_inner_24 : decode cX9_inner 24 = .ok (.invokevirtual 167, 3) := by decide +kernel
theorem dX9_inner_27 : decode cX9_inner 27 = .ok (.lreturn, 1) := by decide +kernel
theorem dX9_inner_28 : decode cX9_inner 28 = .ok (.aload_n 0, 1) := by decide +kernel
theorem dX9_inner_29 : decode cX9_inner 29 = .ok (.getfield 53, 3) := by decide +kernel
theorem dX9_inner_32 : decode cX9_inner 32 = .ok (.iload_n 1, 1) := by decide +kernel
theorem dX9_inner_33 : decode cX9_inner 33 = .ok (.invokevirtual 230, 3) := by decide +kernel
theorem dX9_inner_36 : decode cX9_inner 36 = .ok (.ifCond .ne 14, 3) := by decide +kernel
theorem dX9_inner_39 : decode cX9_inner 39 = .ok (.aload_n 0, 1) := by decide +kernel
theorem dX9_inner_40 : decode cX9_inner 40 = .ok (.getfield 53, 3) := by decide +kernel
theorem dX9_inner_43 : decode cX9_inner 43 = .ok (.iload_n 2, 1) := by decide +kernel
theorem dX9_inner_44 : decode cX9_inner 44 = .ok (.invokevirtual 230, 3) := by decide +kernel
theorem dX9_inner_47 : decode cX9_inner 47 = .ok (.ifCond .eq 7, 3) := by decide +kernel
theorem dX9_inner_50 : decode cX9_inner 50 = .ok (.ldc2_w 261, 3) := by decide +kernel
theorem dX9_inner_53 : decode cX9_inner 53 = .ok (.lreturn, 1) := by decide +kernel
theorem dX9_inner_54 : decode cX9_inner 54 = .ok (.aload_n 0, 1) := by decide +kernel
theorem dX9_inner_55 : decode cX9_inner 55 = .ok (.getfield 53, 3) := by decide +kernel
theorem dX9_inner_58 : decode cX9_inner 58 = .ok (.iload_n 1, 1) := by decide +kernel
theorem dX9_inner_59 : decode cX9_inner 59 = .ok (.invokevirtual 234, 3) := by decide +kernel
theorem dX9_inner_62 : decode cX9_inner 62 = .ok (.aload_n 0, 1) := by decide +kernel
theorem dX9_inner_63 : decode cX9_inner 63 = .ok (.getfield 53, 3) := by decide +kernel
theorem dX9_inner_66 : decode cX9_inner 66 = .ok (.iload_n 2, 1) := by decide +kernel
theorem dX9_inner_67 : decode cX9_inner 67 = .ok (.invokevirtual 234, 3) := by decide +kernel
theorem dX9_inner_70 : decode cX9_inner 70 = .ok (.if_icmp .eq 10, 3) := by decide +kernel
theorem dX9_inner_73 : decode cX9_inner 73 = .ok (.aload_n 0, 1) := by decide +kernel
theorem dX9_inner_74 : decode cX9_inner 74 = .ok (.bipush (-3), 2) := by decide +kernel
theorem dX9_inner_76 : decode cX9_inner 76 = .ok (.invokevirtual 167, 3) := by decide +kernel
theorem dX9_inner_79 : decode cX9_inner 79 = .ok (.lreturn, 1) := by decide +kernel
theorem dX9_inner_80 : decode cX9_inner 80 = .ok (.aload_n 0, 1) := by decide +kernel
theorem dX9_inner_81 : decode cX9_inner 81 = .ok (.getfield 62, 3) := by decide +kernel
theorem dX9_inner_84 : decode cX9_inner 84 = .ok (.iload_n 1, 1) := by decide +kernel
theorem dX9_inner_85 : decode cX9_inner 85 = .ok (.iload_n 2, 1) := by decide +kernel
theorem dX9_inner_86 : decode cX9_inner 86 = .ok (.invokevirtual 267, 3) := by decide +kernel
theorem dX9_inner_89 : decode cX9_inner 89 = .ok (.lreturn, 1) := by decide +kernel
theorem dX9_list_0 : decode cX9_list 0 = .ok (.aload_n 0, 1) := by decide +kernel
theorem dX9_list_1 : decode cX9_list 1 = .ok (.getfield 78, 3) := by decide +kernel
theorem dX9_list_4 : decode cX9_list 4 = .ok (.iload_n 1, 1) := by decide +kernel
theorem dX9_list_5 : decode cX9_list 5 = .ok (.invokevirtual 116, 3) := by decide +kernel
theorem dX9_list_8 : decode cX9_list 8 = .ok (.ifCond .ne 9, 3) := by decide +kernel
theorem dX9_list_11 : decode cX9_list 11 = .ok (.aload_n 0, 1) := by decide +kernel
theorem dX9_list_12 : decode cX9_list 12 = .ok (.iconst (-1), 1) := by decide +kernel
theorem dX9_list_13 : decode cX9_list 13 = .ok (.invokevirtual 90, 3) := by decide +kernel
theorem dX9_list_16 : decode cX9_list 16 = .ok (.ireturn, 1) := by decide +kernel
theorem dX9_list_17 : decode cX9_list 17 = .ok (.iload_n 2, 1) := by decide +kernel
theorem dX9_list_18 : decode cX9_list 18 = .ok (.bipush 40, 2) := by decide +kernel
theorem dX9_list_20 : decode cX9_list 20 = .ok (.if_icmp .le 10, 3) := by decide +kernel
theorem dX9_list_23 : decode cX9_list 23 = .ok (.aload_n 0, 1) := by decide +kernel
theorem dX9_list_24 : decode cX9_list 24 = .ok (.bipush (-6), 2) := by decide +kernel
theorem dX9_list_26 : decode cX9_list 26 = .ok (.invokevirtual 90, 3) := by decide +kernel
theorem dX9_list_29 : decode cX9_list 29 = .ok (.ireturn, 1) := by decide +kernel
theorem dX9_list_30 : decode cX9_list 30 = .ok (.iload_n 2, 1) := by decide +kernel
theorem dX9_list_31 : decode cX9_list 31 = .ok (.ifCond .ge 6, 3) := by decide +kernel
theorem dX9_list_34 : decode cX9_list 34 = .ok (.bipush (-14), 2) := by decide +kernel
theorem dX9_list_36 : decode cX9_list 36 = .ok (.ireturn, 1) := by decide +kernel
theorem dX9_list_37 : decode cX9_list 37 = .ok (.aload_n 0, 1) := by decide +kernel
theorem dX9_list_38 : decode cX9_list 38 = .ok (.getfield 78, 3) := by decide +kernel
theorem dX9_list_41 : decode cX9_list 41 = .ok (.iload_n 1, 1) := by decide +kernel
theorem dX9_list_42 : decode cX9_list 42 = .ok (.iload_n 2, 1) := by decide +kernel
theorem dX9_list_43 : decode cX9_list 43 = .ok (.invokevirtual 270, 3) := by decide +kernel
theorem dX9_list_46 : decode cX9_list 46 = .ok (.iconst 1, 1) := by decide +kernel
theorem dX9_list_47 : decode cX9_list 47 = .ok (.ireturn, 1) := by decide +kernel
theorem dX9_put_0 : decode cX9_put 0 = .ok (.aload_n 0, 1) := by decide +kernel
theorem dX9_put_1 : decode cX9_put 1 = .ok (.getfield 78, 3) := by decide +kernel
theorem dX9_put_4 : decode cX9_put 4 = .ok (.iload_n 1, 1) := by decide +kernel
theorem dX9_put_5 : decode cX9_put 5 = .ok (.invokevirtual 116, 3) := by decide +kernel
theorem dX9_put_8 : decode cX9_put 8 = .ok (.ifCond .ne 9, 3) := by decide +kernel
theorem dX9_put_11 : decode cX9_put 11 = .ok (.aload_n 0, 1) := by decide +kernel
theorem dX9_put_12 : decode cX9_put 12 = .ok (.iconst (-1), 1) := by decide +kernel
theorem dX9_put_13 : decode cX9_put 13 = .ok (.invokevirtual 90, 3) := by decide +kernel
theorem dX9_put_16 : decode cX9_put 16 = .ok (.ireturn, 1) := by decide +kernel
theorem dX9_put_17 : decode cX9_put 17 = .ok (.aload_n 0, 1) := by decide +kernel
theorem dX9_put_18 : decode cX9_put 18 = .ok (.getfield 78, 3) := by decide +kernel
theorem dX9_put_21 : decode cX9_put 21 = .ok (.iload_n 1, 1) := by decide +kernel
theorem dX9_put_22 : decode cX9_put 22 = .ok (.invokevirtual 117, 3) := by decide +kernel
theorem dX9_put_25 : decode cX9_put 25 = .ok (.ifCond .eq 6, 3) := by decide +kernel
theorem dX9_put_28 : decode cX9_put 28 = .ok (.bipush (-11), 2) := by decide +kernel
theorem dX9_put_30 : decode cX9_put 30 = .ok (.ireturn, 1) := by decide +kernel
theorem dX9_put_31 : decode cX9_put 31 = .ok (.aload_n 0, 1) := by decide +kernel
theorem dX9_put_32 : decode cX9_put 32 = .ok (.getfield 78, 3) := by decide +kernel
theorem dX9_put_35 : decode cX9_put 35 = .ok (.iload_n 1, 1) := by decide +kernel
theorem dX9_put_36 : decode cX9_put 36 = .ok (.iload_n 2, 1) := by decide +kernel
theorem dX9_put_37 : decode cX9_put 37 = .ok (.invokevirtual 274, 3) := by decide +kernel
theorem dX9_put_40 : decode cX9_put 40 = .ok (.ifCond .ne 6, 3) := by decide +kernel
theorem dX9_put_43 : decode cX9_put 43 = .ok (.bipush (-13), 2) := by decide +kernel
theorem dX9_put_45 : decode cX9_put 45 = .ok (.ireturn, 1) := by decide +kernel
theorem dX9_put_46 : decode cX9_put 46 = .ok (.aload_n 0, 1) := by decide +kernel
theorem dX9_put_47 : decode cX9_put 47 = .ok (.getfield 78, 3) := by decide +kernel
theorem dX9_put_50 : decode cX9_put 50 = .ok (.iload_n 1, 1) := by decide +kernel
theorem dX9_put_51 : decode cX9_put 51 = .ok (.iload_n 2, 1) := by decide +kernel
theorem dX9_put_52 : decode cX9_put 52 = .ok (.iload_n 3, 1) := by decide +kernel
theorem dX9_put_53 : decode cX9_put 53 = .ok (.invokevirtual 277, 3) := by decide +kernel
theorem dX9_put_56 : decode cX9_put 56 = .ok (.iconst 1, 1) := by decide +kernel
theorem dX9_put_57 : decode cX9_put 57 = .ok (.ireturn, 1) := by decide +kernel
theorem dX9_look_0 : decode cX9_look 0 = .ok (.aload_n 0, 1) := by decide +kernel
theorem dX9_look_1 : decode cX9_look 1 = .ok (.getfield 78, 3) := by decide +kernel
theorem dX9_look_4 : decode cX9_look 4 = .ok (.iload_n 1, 1) := by decide +kernel
theorem dX9_look_5 : decode cX9_look 5 = .ok (.invokevirtual 116, 3) := by decide +kernel
theorem dX9_look_8 : decode cX9_look 8 = .ok (.ifCond .ne 9, 3) := by decide +kernel
theorem dX9_look_11 : decode cX9_look 11 = .ok (.aload_n 0, 1) := by decide +kernel
theorem dX9_look_12 : decode cX9_look 12 = .ok (.iconst (-1), 1) := by decide +kernel
theorem dX9_look_13 : decode cX9_look 13 = .ok (.invokevirtual 167, 3) := by decide +kernel
theorem dX9_look_16 : decode cX9_look 16 = .ok (.lreturn, 1) := by decide +kernel
theorem dX9_look_17 : decode cX9_look 17 = .ok (.aload_n 0, 1) := by decide +kernel
theorem dX9_look_18 : decode cX9_look 18 = .ok (.getfield 78, 3) := by decide +kernel
theorem dX9_look_21 : decode cX9_look 21 = .ok (.iload_n 1, 1) := by decide +kernel
theorem dX9_look_22 : decode cX9_look 22 = .ok (.invokevirtual 117, 3) := by decide +kernel
theorem dX9_look_25 : decode cX9_look 25 = .ok (.ifCond .eq 7, 3) := by decide +kernel
theorem dX9_look_28 : decode cX9_look 28 = .ok (.ldc2_w 261, 3) := by decide +kernel
theorem dX9_look_31 : decode cX9_look 31 = .ok (.lreturn, 1) := by decide +kernel
theorem dX9_look_32 : decode cX9_look 32 = .ok (.aload_n 0, 1) := by decide +kernel
theorem dX9_look_33 : decode cX9_look 33 = .ok (.getfield 78, 3) := by decide +kernel
theorem dX9_look_36 : decode cX9_look 36 = .ok (.iload_n 1, 1) := by decide +kernel
theorem dX9_look_37 : decode cX9_look 37 = .ok (.iload_n 2, 1) := by decide +kernel
theorem dX9_look_38 : decode cX9_look 38 = .ok (.invokevirtual 274, 3) := by decide +kernel
theorem dX9_look_41 : decode cX9_look 41 = .ok (.ifCond .eq 16, 3) := by decide +kernel
theorem dX9_look_44 : decode cX9_look 44 = .ok (.aload_n 0, 1) := by decide +kernel
theorem dX9_look_45 : decode cX9_look 45 = .ok (.getfield 78, 3) := by decide +kernel
theorem dX9_look_48 : decode cX9_look 48 = .ok (.iload_n 1, 1) := by decide +kernel
theorem dX9_look_49 : decode cX9_look 49 = .ok (.iload_n 2, 1) := by decide +kernel
theorem dX9_look_50 : decode cX9_look 50 = .ok (.invokevirtual 124, 3) := by decide +kernel
theorem dX9_look_53 : decode cX9_look 53 = .ok (.i2l, 1) := by decide +kernel
theorem dX9_look_54 : decode cX9_look 54 = .ok (.goto 6, 3) := by decide +kernel
theorem dX9_look_57 : decode cX9_look 57 = .ok (.ldc2_w 281, 3) := by decide +kernel
theorem dX9_look_60 : decode cX9_look 60 = .ok (.lreturn, 1) := by decide +kernel
theorem dX9_lays_0 : decode cX9_lays 0 = .ok (.aload_n 0, 1) := by decide +kernel
theorem dX9_lays_1 : decode cX9_lays 1 = .ok (.getfield 78, 3) := by decide +kernel
theorem dX9_lays_4 : decode cX9_lays 4 = .ok (.iload_n 1, 1) := by decide +kernel
theorem dX9_lays_5 : decode cX9_lays 5 = .ok (.invokevirtual 116, 3) := by decide +kernel
theorem dX9_lays_8 : decode cX9_lays 8 = .ok (.ifCond .eq 14, 3) := by decide +kernel
theorem dX9_lays_11 : decode cX9_lays 11 = .ok (.aload_n 0, 1) := by decide +kernel
theorem dX9_lays_12 : decode cX9_lays 12 = .ok (.getfield 28, 3) := by decide +kernel
theorem dX9_lays_15 : decode cX9_lays 15 = .ok (.iload_n 3, 1) := by decide +kernel
theorem dX9_lays_16 : decode cX9_lays 16 = .ok (.invokevirtual 86, 3) := by decide +kernel
theorem dX9_lays_19 : decode cX9_lays 19 = .ok (.ifCond .ne 9, 3) := by decide +kernel
theorem dX9_lays_22 : decode cX9_lays 22 = .ok (.aload_n 0, 1) := by decide +kernel
theorem dX9_lays_23 : decode cX9_lays 23 = .ok (.iconst (-1), 1) := by decide +kernel
theorem dX9_lays_24 : decode cX9_lays 24 = .ok (.invokevirtual 90, 3) := by decide +kernel
theorem dX9_lays_27 : decode cX9_lays 27 = .ok (.ireturn, 1) := by decide +kernel
theorem dX9_lays_28 : decode cX9_lays 28 = .ok (.aload_n 0, 1) := by decide +kernel
theorem dX9_lays_29 : decode cX9_lays 29 = .ok (.getfield 78, 3) := by decide +kernel
theorem dX9_lays_32 : decode cX9_lays 32 = .ok (.iload_n 1, 1) := by decide +kernel
theorem dX9_lays_33 : decode cX9_lays 33 = .ok (.invokevirtual 117, 3) := by decide +kernel
theorem dX9_lays_36 : decode cX9_lays 36 = .ok (.ifCond .eq 6, 3) := by decide +kernel
theorem dX9_lays_39 : decode cX9_lays 39 = .ok (.bipush (-11), 2) := by decide +kernel
theorem dX9_lays_41 : decode cX9_lays 41 = .ok (.ireturn, 1) := by decide +kernel
theorem dX9_lays_42 : decode cX9_lays 42 = .ok (.aload_n 0, 1) := by decide +kernel
theorem dX9_lays_43 : decode cX9_lays 43 = .ok (.getfield 28, 3) := by decide +kernel
theorem dX9_lays_46 : decode cX9_lays 46 = .ok (.aload_n 0, 1) := by decide +kernel
theorem dX9_lays_47 : decode cX9_lays 47 = .ok (.getfield 28, 3) := by decide +kernel
theorem dX9_lays_50 : decode cX9_lays 50 = .ok (.iload_n 3, 1) := by decide +kernel
theorem dX9_lays_51 : decode cX9_lays 51 = .ok (.invokevirtual 98, 3) := by decide +kernel
theorem dX9_lays_54 : decode cX9_lays 54 = .ok (.invokevirtual 136, 3) := by decide +kernel
theorem dX9_lays_57 : decode cX9_lays 57 = .ok (.istore 4, 2) := by decide +kernel
theorem dX9_lays_59 : decode cX9_lays 59 = .ok (.iload_n 2, 1) := by decide +kernel
theorem dX9_lays_60 : decode cX9_lays 60 = .ok (.ifCond .lt 18, 3) := by decide +kernel
theorem dX9_lays_63 : decode cX9_lays 63 = .ok (.iload_n 2, 1) := by decide +kernel
theorem dX9_lays_64 : decode cX9_lays 64 = .ok (.aload_n 0, 1) := by decide +kernel
theorem dX9_lays_65 : decode cX9_lays 65 = .ok (.getfield 78, 3) := by decide +kernel
theorem dX9_lays_68 : decode cX9_lays 68 = .ok (.iload_n 1, 1) := by decide +kernel
theorem dX9_lays_69 : decode cX9_lays 69 = .ok (.invokevirtual 123, 3) := by decide +kernel
theorem dX9_lays_72 : decode cX9_lays 72 = .ok (.iload 4, 2) := by decide +kernel
theorem dX9_lays_74 : decode cX9_lays 74 = .ok (.isub, 1) := by decide +kernel
theorem dX9_lays_75 : decode cX9_lays 75 = .ok (.if_icmp .le 6, 3) := by decide +kernel
theorem dX9_lays_78 : decode cX9_lays 78 = .ok (.bipush (-13), 2) := by decide +kernel
theorem dX9_lays_80 : decode cX9_lays 80 = .ok (.ireturn, 1) := by decide +kernel
theorem dX9_lays_81 : decode cX9_lays 81 = .ok (.iconst 0, 1) := by decide +kernel
theorem dX9_lays_82 : decode cX9_lays 82 = .ok (.istore 5, 2) := by decide +kernel
theorem dX9_lays_84 : decode cX9_lays 84 = .ok (.iload 5, 2) := by decide +kernel
theorem dX9_lays_86 : decode cX9_lays 86 = .ok (.iload 4, 2) := by decide +kernel
theorem dX9_lays_88 : decode cX9_lays 88 = .ok (.if_icmp .ge 31, 3) := by decide +kernel
theorem dX9_lays_91 : decode cX9_lays 91 = .ok (.aload_n 0, 1) := by decide +kernel
theorem dX9_lays_92 : decode cX9_lays 92 = .ok (.getfield 78, 3) := by decide +kernel
theorem dX9_lays_95 : decode cX9_lays 95 = .ok (.iload_n 1, 1) := by decide +kernel
theorem dX9_lays_96 : decode cX9_lays 96 = .ok (.iload_n 2, 1) := by decide +kernel
theorem dX9_lays_97 : decode cX9_lays 97 = .ok (.iload 5, 2) := by decide +kernel
theorem dX9_lays_99 : decode cX9_lays 99 = .ok (.iadd, 1) := by decide +kernel
theorem dX9_lays_100 : decode cX9_lays 100 = .ok (.aload_n 0, 1) := by decide +kernel
theorem dX9_lays_101 : decode cX9_lays 101 = .ok (.getfield 45, 3) := by decide +kernel
theorem dX9_lays_104 : decode cX9_lays 104 = .ok (.iload_n 3, 1) := by decide +kernel
theorem dX9_lays_105 : decode cX9_lays 105 = .ok (.iload 5, 2) := by decide +kernel
theorem dX9_lays_107 : decode cX9_lays 107 = .ok (.invokevirtual 283, 3) := by decide +kernel
theorem dX9_lays_110 : decode cX9_lays 110 = .ok (.invokevirtual 277, 3) := by decide +kernel
theorem dX9_lays_113 : decode cX9_lays 113 = .ok (.iinc 5 1, 3) := by decide +kernel
theorem dX9_lays_116 : decode cX9_lays 116 = .ok (.goto (-32), 3) := by decide +kernel
theorem dX9_lays_119 : decode cX9_lays 119 = .ok (.iload 4, 2) := by decide +kernel
theorem dX9_lays_121 : decode cX9_lays 121 = .ok (.ireturn, 1) := by decide +kernel
theorem dX9_judge_0 : decode cX9_judge 0 = .ok (.aload_n 0, 1) := by decide +kernel
theorem dX9_judge_1 : decode cX9_judge 1 = .ok (.getfield 78, 3) := by decide +kernel
theorem dX9_judge_4 : decode cX9_judge 4 = .ok (.iload_n 1, 1) := by decide +kernel
theorem dX9_judge_5 : decode cX9_judge 5 = .ok (.invokevirtual 116, 3) := by decide +kernel
theorem dX9_judge_8 : decode cX9_judge 8 = .ok (.ifCond .eq 14, 3) := by decide +kernel
theorem dX9_judge_11 : decode cX9_judge 11 = .ok (.aload_n 0, 1) := by decide +kernel
theorem dX9_judge_12 : decode cX9_judge 12 = .ok (.getfield 28, 3) := by decide +kernel
theorem dX9_judge_15 : decode cX9_judge 15 = .ok (.iload_n 2, 1) := by decide +kernel
theorem dX9_judge_16 : decode cX9_judge 16 = .ok (.invokevirtual 86, 3) := by decide +kernel
theorem dX9_judge_19 : decode cX9_judge 19 = .ok (.ifCond .ne 9, 3) := by decide +kernel
theorem dX9_judge_22 : decode cX9_judge 22 = .ok (.aload_n 0, 1) := by decide +kernel
theorem dX9_judge_23 : decode cX9_judge 23 = .ok (.iconst (-1), 1) := by decide +kernel
theorem dX9_judge_24 : decode cX9_judge 24 = .ok (.invokevirtual 90, 3) := by decide +kernel
theorem dX9_judge_27 : decode cX9_judge 27 = .ok (.ireturn, 1) := by decide +kernel
theorem dX9_judge_28 : decode cX9_judge 28 = .ok (.aload_n 0, 1) := by decide +kernel
theorem dX9_judge_29 : decode cX9_judge 29 = .ok (.getfield 78, 3) := by decide +kernel
theorem dX9_judge_32 : decode cX9_judge 32 = .ok (.iload_n 1, 1) := by decide +kernel
theorem dX9_judge_33 : decode cX9_judge 33 = .ok (.invokevirtual 117, 3) := by decide +kernel
theorem dX9_judge_36 : decode cX9_judge 36 = .ok (.ifCond .eq 8, 3) := by decide +kernel
theorem dX9_judge_39 : decode cX9_judge 39 = .ok (.bipush (-11), 2) := by decide +kernel
theorem dX9_judge_41 : decode cX9_judge 41 = .ok (.goto 9, 3) := by decide +kernel
theorem dX9_judge_44 : decode cX9_judge 44 = .ok (.aload_n 0, 1) := by decide +kernel
theorem dX9_judge_45 : decode cX9_judge 45 = .ok (.iload_n 1, 1) := by decide +kernel
theorem dX9_judge_46 : decode cX9_judge 46 = .ok (.iload_n 2, 1) := by decide +kernel
theorem dX9_judge_47 : decode cX9_judge 47 = .ok (.invokevirtual 286, 3) := by decide +kernel
theorem dX9_judge_50 : decode cX9_judge 50 = .ok (.ireturn, 1) := by decide +kernel
theorem dX9_firstOtherwise_0 : decode cX9_firstOtherwise 0 = .ok (.aload_n 0, 1) := by decide +kernel
theorem dX9_firstOtherwise_1 : decode cX9_firstOtherwise 1 = .ok (.getfield 28, 3) := by decide +kernel
theorem dX9_firstOtherwise_4 : decode cX9_firstOtherwise 4 = .ok (.aload_n 0, 1) := by decide +kernel
theorem dX9_firstOtherwise_5 : decode cX9_firstOtherwise 5 = .ok (.getfield 28, 3) := by decide +kernel
theorem dX9_firstOtherwise_8 : decode cX9_firstOtherwise 8 = .ok (.iload_n 2, 1) := by decide +kernel
theorem dX9_firstOtherwise_9 : decode cX9_firstOtherwise 9 = .ok (.invokevirtual 98, 3) := by decide +kernel
theorem dX9_firstOtherwise_12 : decode cX9_firstOtherwise 12 = .ok (.invokevirtual 136, 3) := by decide +kernel
theorem dX9_firstOtherwise_15 : decode cX9_firstOtherwise 15 = .ok (.istore_n 3, 1) := by decide +kernel
theorem dX9_firstOtherwise_16 : decode cX9_firstOtherwise 16 = .ok (.iconst 0, 1) := by decide +kernel
theorem dX9_firstOtherwise_17 : decode cX9_firstOtherwise 17 = .ok (.istore 4, 2) := by decide +kernel
theorem dX9_firstOtherwise_19 : decode cX9_firstOtherwise 19 = .ok (.iload 4, 2) := by decide +kernel
theorem dX9_firstOtherwise_21 : decode cX9_firstOtherwise 21 = .ok (.aload_n 0, 1) := by decide +kernel
theorem dX9_firstOtherwise_22 : decode cX9_firstOtherwise 22 = .ok (.getfield 78, 3) := by decide +kernel
theorem dX9_firstOtherwise_25 : decode cX9_firstOtherwise 25 = .ok (.iload_n 1, 1) := by decide +kernel
theorem dX9_firstOtherwise_26 : decode cX9_firstOtherwise 26 = .ok (.invokevirtual 123, 3) := by decide +kernel
theorem dX9_firstOtherwise_29 : decode cX9_firstOtherwise 29 = .ok (.if_icmp .ge 41, 3) := by decide +kernel
theorem dX9_firstOtherwise_32 : decode cX9_firstOtherwise 32 = .ok (.iload 4, 2) := by decide +kernel
theorem dX9_firstOtherwise_34 : decode cX9_firstOtherwise 34 = .ok (.iload_n 3, 1) := by decide +kernel
theorem dX9_firstOtherwise_35 : decode cX9_firstOtherwise 35 = .ok (.if_icmp .ge 26, 3) := by decide +kernel
theorem dX9_firstOtherwise_38 : decode cX9_firstOtherwise 38 = .ok (.aload_n 0, 1) := by decide +kernel
theorem dX9_firstOtherwise_39 : decode cX9_firstOtherwise 39 = .ok (.getfield 78, 3) := by decide +kernel
theorem dX9_firstOtherwise_42 : decode cX9_firstOtherwise 42 = .ok (.iload_n 1, 1) := by decide +kernel
theorem dX9_firstOtherwise_43 : decode cX9_firstOtherwise 43 = .ok (.iload 4, 2) := by decide +kernel
theorem dX9_firstOtherwise_45 : decode cX9_firstOtherwise 45 = .ok (.invokevirtual 124, 3) := by decide +kernel
theorem dX9_firstOtherwise_48 : decode cX9_firstOtherwise 48 = .ok (.aload_n 0, 1) := by decide +kernel
theorem dX9_firstOtherwise_49 : decode cX9_firstOtherwise 49 = .ok (.getfield 45, 3) := by decide +kernel
theorem dX9_firstOtherwise_52 : decode cX9_firstOtherwise 52 = .ok (.iload_n 2, 1) := by decide +kernel
theorem dX9_firstOtherwise_53 : decode cX9_firstOtherwise 53 = .ok (.iload 4, 2) := by decide +kernel
theorem dX9_firstOtherwise_55 : decode cX9_firstOtherwise 55 = .ok (.invokevirtual 283, 3) := by decide +kernel
theorem dX9_firstOtherwise_58 : decode cX9_firstOtherwise 58 = .ok (.if_icmp .eq 6, 3) := by decide +kernel
theorem dX9_firstOtherwise_61 : decode cX9_firstOtherwise 61 = .ok (.iload 4, 2) := by decide +kernel
theorem dX9_firstOtherwise_63 : decode cX9_firstOtherwise 63 = .ok (.ireturn, 1) := by decide +kernel
theorem dX9_firstOtherwise_64 : decode cX9_firstOtherwise 64 = .ok (.iinc 4 1, 3) := by decide +kernel
theorem dX9_firstOtherwise_67 : decode cX9_firstOtherwise 67 = .ok (.goto (-48), 3) := by decide +kernel
theorem dX9_firstOtherwise_70 : decode cX9_firstOtherwise 70 = .ok (.bipush (-9), 2) := by decide +kernel
theorem dX9_firstOtherwise_72 : decode cX9_firstOtherwise 72 = .ok (.ireturn, 1) := by decide +kernel
theorem dX9_which_0 : decode cX9_which 0 = .ok (.aload_n 0, 1) := by decide +kernel
theorem dX9_which_1 : decode cX9_which 1 = .ok (.getfield 78, 3) := by decide +kernel
theorem dX9_which_4 : decode cX9_which 4 = .ok (.iload_n 1, 1) := by decide +kernel
theorem dX9_which_5 : decode cX9_which 5 = .ok (.invokevirtual 116, 3) := by decide +kernel
theorem dX9_which_8 : decode cX9_which 8 = .ok (.ifCond .ne 9, 3) := by decide +kernel
theorem dX9_which_11 : decode cX9_which 11 = .ok (.aload_n 0, 1) := by decide +kernel
theorem dX9_which_12 : decode cX9_which 12 = .ok (.iconst (-1), 1) := by decide +kernel
theorem dX9_which_13 : decode cX9_which 13 = .ok (.invokevirtual 90, 3) := by decide +kernel
theorem dX9_which_16 : decode cX9_which 16 = .ok (.ireturn, 1) := by decide +kernel
theorem dX9_which_17 : decode cX9_which 17 = .ok (.iload_n 2, 1) := by decide +kernel
theorem dX9_which_18 : decode cX9_which 18 = .ok (.ifCond .ge 10, 3) := by decide +kernel
theorem dX9_which_21 : decode cX9_which 21 = .ok (.aload_n 0, 1) := by decide +kernel
theorem dX9_which_22 : decode cX9_which 22 = .ok (.bipush (-4), 2) := by decide +kernel
theorem dX9_which_24 : decode cX9_which 24 = .ok (.invokevirtual 90, 3) := by decide +kernel
theorem dX9_which_27 : decode cX9_which 27 = .ok (.ireturn, 1) := by decide +kernel
theorem dX9_which_28 : decode cX9_which 28 = .ok (.iload_n 2, 1) := by decide +kernel
theorem dX9_which_29 : decode cX9_which 29 = .ok (.bipush 8, 2) := by decide +kernel
theorem dX9_which_31 : decode cX9_which 31 = .ok (.if_icmp .le 10, 3) := by decide +kernel
theorem dX9_which_34 : decode cX9_which 34 = .ok (.aload_n 0, 1) := by decide +kernel
theorem dX9_which_35 : decode cX9_which 35 = .ok (.bipush (-6), 2) := by decide +kernel
theorem dX9_which_37 : decode cX9_which 37 = .ok (.invokevirtual 90, 3) := by decide +kernel
theorem dX9_which_40 : decode cX9_which 40 = .ok (.ireturn, 1) := by decide +kernel
theorem dX9_which_41 : decode cX9_which 41 = .ok (.iload_n 3, 1) := by decide +kernel
theorem dX9_which_42 : decode cX9_which 42 = .ok (.ifCond .eq 15, 3) := by decide +kernel
theorem dX9_which_45 : decode cX9_which 45 = .ok (.iload_n 3, 1) := by decide +kernel
theorem dX9_which_46 : decode cX9_which 46 = .ok (.iconst 1, 1) := by decide +kernel
theorem dX9_which_47 : decode cX9_which 47 = .ok (.if_icmp .eq 10, 3) := by decide +kernel
theorem dX9_which_50 : decode cX9_which 50 = .ok (.aload_n 0, 1) := by decide +kernel
theorem dX9_which_51 : decode cX9_which 51 = .ok (.bipush (-2), 2) := by decide +kernel
theorem dX9_which_53 : decode cX9_which 53 = .ok (.invokevirtual 90, 3) := by decide +kernel
theorem dX9_which_56 : decode cX9_which 56 = .ok (.ireturn, 1) := by decide +kernel
theorem dX9_which_57 : decode cX9_which 57 = .ok (.aload_n 0, 1) := by decide +kernel
theorem dX9_which_58 : decode cX9_which 58 = .ok (.getfield 78, 3) := by decide +kernel
theorem dX9_which_61 : decode cX9_which 61 = .ok (.iload_n 1, 1) := by decide +kernel
theorem dX9_which_62 : decode cX9_which 62 = .ok (.invokevirtual 117, 3) := by decide +kernel
theorem dX9_which_65 : decode cX9_which 65 = .ok (.ifCond .eq 6, 3) := by decide +kernel
theorem dX9_which_68 : decode cX9_which 68 = .ok (.bipush (-11), 2) := by decide +kernel
theorem dX9_which_70 : decode cX9_which 70 = .ok (.ireturn, 1) := by decide +kernel
theorem dX9_which_71 : decode cX9_which 71 = .ok (.iload_n 3, 1) := by decide +kernel
theorem dX9_which_72 : decode cX9_which 72 = .ok (.ifCond .ne 12, 3) := by decide +kernel
theorem dX9_which_75 : decode cX9_which 75 = .ok (.aload_n 0, 1) := by decide +kernel
theorem dX9_which_76 : decode cX9_which 76 = .ok (.iload_n 1, 1) := by decide +kernel
theorem dX9_which_77 : decode cX9_which 77 = .ok (.iload_n 2, 1) := by decide +kernel
theorem dX9_which_78 : decode cX9_which 78 = .ok (.invokevirtual 289, 3) := by decide +kernel
theorem dX9_which_81 : decode cX9_which 81 = .ok (.goto 9, 3) := by decide +kernel
theorem dX9_which_84 : decode cX9_which 84 = .ok (.aload_n 0, 1) := by decide +kernel
theorem dX9_which_85 : decode cX9_which 85 = .ok (.iload_n 1, 1) := by decide +kernel
theorem dX9_which_86 : decode cX9_which 86 = .ok (.iload_n 2, 1) := by decide +kernel
theorem dX9_which_87 : decode cX9_which 87 = .ok (.invokevirtual 292, 3) := by decide +kernel
theorem dX9_which_90 : decode cX9_which 90 = .ok (.ireturn, 1) := by decide +kernel
theorem dX9_howManyBegin_0 : decode cX9_howManyBegin 0 = .ok (.iconst 0, 1) := by decide +kernel
theorem dX9_howManyBegin_1 : decode cX9_howManyBegin 1 = .ok (.istore_n 3, 1) := by decide +kernel
theorem dX9_howManyBegin_2 : decode cX9_howManyBegin 2 = .ok (.aload_n 0, 1) := by decide +kernel
theorem dX9_howManyBegin_3 : decode cX9_howManyBegin 3 = .ok (.getfield 28, 3) := by decide +kernel
theorem dX9_howManyBegin_6 : decode cX9_howManyBegin 6 = .ok (.iload_n 2, 1) := by decide +kernel
theorem dX9_howManyBegin_7 : decode cX9_howManyBegin 7 = .ok (.invokevirtual 133, 3) := by decide +kernel
theorem dX9_howManyBegin_10 : decode cX9_howManyBegin 10 = .ok (.aload_n 0, 1) := by decide +kernel
theorem dX9_howManyBegin_11 : decode cX9_howManyBegin 11 = .ok (.getfield 28, 3) := by decide +kernel
theorem dX9_howManyBegin_14 : decode cX9_howManyBegin 14 = .ok (.iload_n 2, 1) := by decide +kernel
theorem dX9_howManyBegin_15 : decode cX9_howManyBegin 15 = .ok (.invokevirtual 136, 3) := by decide +kernel
theorem dX9_howManyBegin_18 : decode cX9_howManyBegin 18 = .ok (.iadd, 1) := by decide +kernel
theorem dX9_howManyBegin_19 : decode cX9_howManyBegin 19 = .ok (.istore 4, 2) := by decide +kernel
theorem dX9_howManyBegin_21 : decode cX9_howManyBegin 21 = .ok (.aload_n 0, 1) := by decide +kernel
theorem dX9_howManyBegin_22 : decode cX9_howManyBegin 22 = .ok (.getfield 28, 3) := by decide +kernel
theorem dX9_howManyBegin_25 : decode cX9_howManyBegin 25 = .ok (.iload_n 2, 1) := by decide +kernel
theorem dX9_howManyBegin_26 : decode cX9_howManyBegin 26 = .ok (.invokevirtual 133, 3) := by decide +kernel
theorem dX9_howManyBegin_29 : decode cX9_howManyBegin 29 = .ok (.istore 5, 2) := by decide +kernel
theorem dX9_howManyBegin_31 : decode cX9_howManyBegin 31 = .ok (.iload 5, 2) := by decide +kernel
theorem dX9_howManyBegin_33 : decode cX9_howManyBegin 33 = .ok (.iload 4, 2) := by decide +kernel
theorem dX9_howManyBegin_35 : decode cX9_howManyBegin 35 = .ok (.if_icmp .ge 24, 3) := by decide +kernel
theorem dX9_howManyBegin_38 : decode cX9_howManyBegin 38 = .ok (.aload_n 0, 1) := by decide +kernel
theorem dX9_howManyBegin_39 : decode cX9_howManyBegin 39 = .ok (.iload_n 1, 1) := by decide +kernel
theorem dX9_howManyBegin_40 : decode cX9_howManyBegin 40 = .ok (.iload 5, 2) := by decide +kernel
theorem dX9_howManyBegin_42 : decode cX9_howManyBegin 42 = .ok (.invokevirtual 286, 3) := by decide +kernel
theorem dX9_howManyBegin_45 : decode cX9_howManyBegin 45 = .ok (.bipush (-9), 2) := by decide +kernel
theorem dX9_howManyBegin_47 : decode cX9_howManyBegin 47 = .ok (.if_icmp .ne 6, 3) := by decide +kernel
theorem dX9_howManyBegin_50 : decode cX9_howManyBegin 50 = .ok (.iinc 3 1, 3) := by decide +kernel
theorem dX9_howManyBegin_53 : decode cX9_howManyBegin 53 = .ok (.iinc 5 1, 3) := by decide +kernel
theorem dX9_howManyBegin_56 : decode cX9_howManyBegin 56 = .ok (.goto (-25), 3) := by decide +kernel
theorem dX9_howManyBegin_59 : decode cX9_howManyBegin 59 = .ok (.iload_n 3, 1) := by decide +kernel
theorem dX9_howManyBegin_60 : decode cX9_howManyBegin 60 = .ok (.ireturn, 1) := by decide +kernel
theorem dX9_leastThatBegins_0 : decode cX9_leastThatBegins 0 = .ok (.aload_n 0, 1) := by decide +kernel
theorem dX9_leastThatBegins_1 : decode cX9_leastThatBegins 1 = .ok (.getfield 28, 3) := by decide +kernel
theorem dX9_leastThatBegins_4 : decode cX9_leastThatBegins 4 = .ok (.iload_n 2, 1) := by decide +kernel
theorem dX9_leastThatBegins_5 : decode cX9_leastThatBegins 5 = .ok (.invokevirtual 133, 3) := by decide +kernel
theorem dX9_leastThatBegins_8 : decode cX9_leastThatBegins 8 = .ok (.aload_n 0, 1) := by decide +kernel
theorem dX9_leastThatBegins_9 : decode cX9_leastThatBegins 9 = .ok (.getfield 28, 3) := by decide +kernel
theorem dX9_leastThatBegins_12 : decode cX9_leastThatBegins 12 = .ok (.iload_n 2, 1) := by decide +kernel
theorem dX9_leastThatBegins_13 : decode cX9_leastThatBegins 13 = .ok (.invokevirtual 136, 3) := by decide +kernel
theorem dX9_leastThatBegins_16 : decode cX9_leastThatBegins 16 = .ok (.iadd, 1) := by decide +kernel
theorem dX9_leastThatBegins_17 : decode cX9_leastThatBegins 17 = .ok (.istore_n 3, 1) := by decide +kernel
theorem dX9_leastThatBegins_18 : decode cX9_leastThatBegins 18 = .ok (.aload_n 0, 1) := by decide +kernel
theorem dX9_leastThatBegins_19 : decode cX9_leastThatBegins 19 = .ok (.getfield 28, 3) := by decide +kernel
theorem dX9_leastThatBegins_22 : decode cX9_leastThatBegins 22 = .ok (.iload_n 2, 1) := by decide +kernel
theorem dX9_leastThatBegins_23 : decode cX9_leastThatBegins 23 = .ok (.invokevirtual 133, 3) := by decide +kernel
theorem dX9_leastThatBegins_26 : decode cX9_leastThatBegins 26 = .ok (.istore 4, 2) := by decide +kernel
theorem dX9_leastThatBegins_28 : decode cX9_leastThatBegins 28 = .ok (.iload 4, 2) := by decide +kernel
theorem dX9_leastThatBegins_30 : decode cX9_leastThatBegins 30 = .ok (.iload_n 3, 1) := by decide +kernel
theorem dX9_leastThatBegins_31 : decode cX9_leastThatBegins 31 = .ok (.if_icmp .ge 24, 3) := by decide +kernel
theorem dX9_leastThatBegins_34 : decode cX9_leastThatBegins 34 = .ok (.aload_n 0, 1) := by decide +kernel
theorem dX9_leastThatBegins_35 : decode cX9_leastThatBegins 35 = .ok (.iload_n 1, 1) := by decide +kernel
theorem dX9_leastThatBegins_36 : decode cX9_leastThatBegins 36 = .ok (.iload 4, 2) := by decide +kernel
theorem dX9_leastThatBegins_38 : decode cX9_leastThatBegins 38 = .ok (.invokevirtual 286, 3) := by decide +kernel
theorem dX9_leastThatBegins_41 : decode cX9_leastThatBegins 41 = .ok (.bipush (-9), 2) := by decide +kernel
theorem dX9_leastThatBegins_43 : decode cX9_leastThatBegins 43 = .ok (.if_icmp .ne 6, 3) := by decide +kernel
theorem dX9_leastThatBegins_46 : decode cX9_leastThatBegins 46 = .ok (.iload 4, 2) := by decide +kernel
theorem dX9_leastThatBegins_48 : decode cX9_leastThatBegins 48 = .ok (.ireturn, 1) := by decide +kernel
theorem dX9_leastThatBegins_49 : decode cX9_leastThatBegins 49 = .ok (.iinc 4 1, 3) := by decide +kernel
theorem dX9_leastThatBegins_52 : decode cX9_leastThatBegins 52 = .ok (.goto (-24), 3) := by decide +kernel
theorem dX9_leastThatBegins_55 : decode cX9_leastThatBegins 55 = .ok (.bipush (-9), 2) := by decide +kernel
theorem dX9_leastThatBegins_57 : decode cX9_leastThatBegins 57 = .ok (.ireturn, 1) := by decide +kernel
theorem dX9_undo_0 : decode cX9_undo 0 = .ok (.aload_n 0, 1) := by decide +kernel
theorem dX9_undo_1 : decode cX9_undo 1 = .ok (.getfield 53, 3) := by decide +kernel
theorem dX9_undo_4 : decode cX9_undo 4 = .ok (.invokevirtual 295, 3) := by decide +kernel
theorem dX9_undo_7 : decode cX9_undo 7 = .ok (.ifCond .eq 13, 3) := by decide +kernel
theorem dX9_undo_10 : decode cX9_undo 10 = .ok (.aload_n 0, 1) := by decide +kernel
theorem dX9_undo_11 : decode cX9_undo 11 = .ok (.getfield 53, 3) := by decide +kernel
theorem dX9_undo_14 : decode cX9_undo 14 = .ok (.invokevirtual 298, 3) := by decide +kernel
theorem dX9_undo_17 : decode cX9_undo 17 = .ok (.goto 9, 3) := by decide +kernel
theorem dX9_undo_20 : decode cX9_undo 20 = .ok (.aload_n 0, 1) := by decide +kernel
theorem dX9_undo_21 : decode cX9_undo 21 = .ok (.bipush (-3), 2) := by decide +kernel
theorem dX9_undo_23 : decode cX9_undo 23 = .ok (.invokevirtual 90, 3) := by decide +kernel
theorem dX9_undo_26 : decode cX9_undo 26 = .ok (.ireturn, 1) := by decide +kernel
theorem dX9_image_0 : decode cX9_image 0 = .ok (.aload_n 0, 1) := by decide +kernel
theorem dX9_image_1 : decode cX9_image 1 = .ok (.getfield 53, 3) := by decide +kernel
theorem dX9_image_4 : decode cX9_image 4 = .ok (.invokevirtual 301, 3) := by decide +kernel
theorem dX9_image_7 : decode cX9_image 7 = .ok (.aload_n 0, 1) := by decide +kernel
theorem dX9_image_8 : decode cX9_image 8 = .ok (.getfield 53, 3) := by decide +kernel
theorem dX9_image_11 : decode cX9_image 11 = .ok (.invokevirtual 304, 3) := by decide +kernel
theorem dX9_image_14 : decode cX9_image 14 = .ok (.ireturn, 1) := by decide +kernel
theorem dX9_on_0 : decode cX9_on 0 = .ok (.aload_n 0, 1) := by decide +kernel
theorem dX9_on_1 : decode cX9_on 1 = .ok (.getfield 53, 3) := by decide +kernel
theorem dX9_on_4 : decode cX9_on 4 = .ok (.invokevirtual 305, 3) := by decide +kernel
theorem dX9_on_7 : decode cX9_on 7 = .ok (.ifCond .eq 13, 3) := by decide +kernel
theorem dX9_on_10 : decode cX9_on 10 = .ok (.aload_n 0, 1) := by decide +kernel
theorem dX9_on_11 : decode cX9_on 11 = .ok (.getfield 53, 3) := by decide +kernel
theorem dX9_on_14 : decode cX9_on 14 = .ok (.invokevirtual 304, 3) := by decide +kernel
theorem dX9_on_17 : decode cX9_on 17 = .ok (.goto 9, 3) := by decide +kernel
theorem dX9_on_20 : decode cX9_on 20 = .ok (.aload_n 0, 1) := by decide +kernel
theorem dX9_on_21 : decode cX9_on 21 = .ok (.bipush (-3), 2) := by decide +kernel
theorem dX9_on_23 : decode cX9_on 23 = .ok (.invokevirtual 90, 3) := by decide +kernel
theorem dX9_on_26 : decode cX9_on 26 = .ok (.ireturn, 1) := by decide +kernel
theorem dX9_count_0 : decode cX9_count 0 = .ok (.iload_n 1, 1) := by decide +kernel
theorem dX9_count_1 : decode cX9_count 1 = .ok (.bipush 10, 2) := by decide +kernel
theorem dX9_count_3 : decode cX9_count 3 = .ok (.if_icmp .le 19, 3) := by decide +kernel
theorem dX9_count_6 : decode cX9_count 6 = .ok (.iload_n 1, 1) := by decide +kernel
theorem dX9_count_7 : decode cX9_count 7 = .ok (.bipush 16, 2) := by decide +kernel
theorem dX9_count_9 : decode cX9_count 9 = .ok (.if_icmp .gt 13, 3) := by decide +kernel
theorem dX9_count_12 : decode cX9_count 12 = .ok (.aload_n 0, 1) := by decide +kernel
theorem dX9_count_13 : decode cX9_count 13 = .ok (.getfield 82, 3) := by decide +kernel
theorem dX9_count_16 : decode cX9_count 16 = .ok (.iload_n 1, 1) := by decide +kernel
theorem dX9_count_17 : decode cX9_count 17 = .ok (.bipush 10, 2) := by decide +kernel
theorem dX9_count_19 : decode cX9_count 19 = .ok (.isub, 1) := by decide +kernel
theorem dX9_count_20 : decode cX9_count 20 = .ok (.iaload, 1) := by decide +kernel
theorem dX9_count_21 : decode cX9_count 21 = .ok (.ireturn, 1) := by decide +kernel
theorem dX9_count_22 : decode cX9_count 22 = .ok (.iload_n 1, 1) := by decide +kernel
theorem dX9_count_23 : decode cX9_count 23 = .ok (.tableswitch 61 0 3 #[29, 37, 45, 53], 29) := by decide +kernel
theorem dX9_count_52 : decode cX9_count 52 = .ok (.aload_n 0, 1) := by decide +kernel
theorem dX9_count_53 : decode cX9_count 53 = .ok (.getfield 53, 3) := by decide +kernel
theorem dX9_count_56 : decode cX9_count 56 = .ok (.invokevirtual 304, 3) := by decide +kernel
theorem dX9_count_59 : decode cX9_count 59 = .ok (.ireturn, 1) := by decide +kernel
theorem dX9_count_60 : decode cX9_count 60 = .ok (.aload_n 0, 1) := by decide +kernel
theorem dX9_count_61 : decode cX9_count 61 = .ok (.getfield 71, 3) := by decide +kernel
theorem dX9_count_64 : decode cX9_count 64 = .ok (.invokevirtual 212, 3) := by decide +kernel
theorem dX9_count_67 : decode cX9_count 67 = .ok (.ireturn, 1) := by decide +kernel
theorem dX9_count_68 : decode cX9_count 68 = .ok (.aload_n 0, 1) := by decide +kernel
theorem dX9_count_69 : decode cX9_count 69 = .ok (.getfield 53, 3) := by decide +kernel
theorem dX9_count_72 : decode cX9_count 72 = .ok (.invokevirtual 308, 3) := by decide +kernel
theorem dX9_count_75 : decode cX9_count 75 = .ok (.ireturn, 1) := by decide +kernel
theorem dX9_count_76 : decode cX9_count 76 = .ok (.aload_n 0, 1) := by decide +kernel
theorem dX9_count_77 : decode cX9_count 77 = .ok (.getfield 53, 3) := by decide +kernel
theorem dX9_count_80 : decode cX9_count 80 = .ok (.invokevirtual 298, 3) := by decide +kernel
theorem dX9_count_83 : decode cX9_count 83 = .ok (.ireturn, 1) := by decide +kernel
theorem dX9_count_84 : decode cX9_count 84 = .ok (.bipush (-9), 2) := by decide +kernel
theorem dX9_count_86 : decode cX9_count 86 = .ok (.ireturn, 1) := by decide +kernel
theorem dX9_refuse_0 : decode cX9_refuse 0 = .ok (.iload_n 1, 1) := by decide +kernel
theorem dX9_refuse_1 : decode cX9_refuse 1 = .ok (.ineg, 1) := by decide +kernel
theorem dX9_refuse_2 : decode cX9_refuse 2 = .ok (.istore_n 2, 1) := by decide +kernel
theorem dX9_refuse_3 : decode cX9_refuse 3 = .ok (.iload_n 2, 1) := by decide +kernel
theorem dX9_refuse_4 : decode cX9_refuse 4 = .ok (.iconst 1, 1) := by decide +kernel
theorem dX9_refuse_5 : decode cX9_refuse 5 = .ok (.if_icmp .lt 19, 3) := by decide +kernel
theorem dX9_refuse_8 : decode cX9_refuse 8 = .ok (.iload_n 2, 1) := by decide +kernel
theorem dX9_refuse_9 : decode cX9_refuse 9 = .ok (.bipush 6, 2) := by decide +kernel
theorem dX9_refuse_11 : decode cX9_refuse 11 = .ok (.if_icmp .gt 13, 3) := by decide +kernel
theorem dX9_refuse_14 : decode cX9_refuse 14 = .ok (.aload_n 0, 1) := by decide +kernel
theorem dX9_refuse_15 : decode cX9_refuse 15 = .ok (.getfield 82, 3) := by decide +kernel
theorem dX9_refuse_18 : decode cX9_refuse 18 = .ok (.iload_n 2, 1) := by decide +kernel
theorem dX9_refuse_19 : decode cX9_refuse 19 = .ok (.dup2, 1) := by decide +kernel
theorem dX9_refuse_20 : decode cX9_refuse 20 = .ok (.iaload, 1) := by decide +kernel
theorem dX9_refuse_21 : decode cX9_refuse 21 = .ok (.iconst 1, 1) := by decide +kernel
theorem dX9_refuse_22 : decode cX9_refuse 22 = .ok (.iadd, 1) := by decide +kernel
theorem dX9_refuse_23 : decode cX9_refuse 23 = .ok (.iastore, 1) := by decide +kernel
theorem dX9_refuse_24 : decode cX9_refuse 24 = .ok (.iload_n 1, 1) := by decide +kernel
theorem dX9_refuse_25 : decode cX9_refuse 25 = .ok (.ireturn, 1) := by decide +kernel
theorem dX9_refuseFar_0 : decode cX9_refuseFar 0 = .ok (.ldc_w 311, 3) := by decide +kernel
theorem dX9_refuseFar_3 : decode cX9_refuseFar 3 = .ok (.aload_n 0, 1) := by decide +kernel
theorem dX9_refuseFar_4 : decode cX9_refuseFar 4 = .ok (.iload_n 1, 1) := by decide +kernel
theorem dX9_refuseFar_5 : decode cX9_refuseFar 5 = .ok (.invokevirtual 90, 3) := by decide +kernel
theorem dX9_refuseFar_8 : decode cX9_refuseFar 8 = .ok (.isub, 1) := by decide +kernel
theorem dX9_refuseFar_9 : decode cX9_refuseFar 9 = .ok (.ireturn, 1) := by decide +kernel
theorem dX9_refuseFarLong_0 : decode cX9_refuseFarLong 0 = .ok (.ldc2_w 312, 3) := by decide +kernel
theorem dX9_refuseFarLong_3 : decode cX9_refuseFarLong 3 = .ok (.aload_n 0, 1) := by decide +kernel
theorem dX9_refuseFarLong_4 : decode cX9_refuseFarLong 4 = .ok (.iload_n 1, 1) := by decide +kernel
theorem dX9_refuseFarLong_5 : decode cX9_refuseFarLong 5 = .ok (.invokevirtual 90, 3) := by decide +kernel
theorem dX9_refuseFarLong_8 : decode cX9_refuseFarLong 8 = .ok (.i2l, 1) := by decide +kernel
theorem dX9_refuseFarLong_9 : decode cX9_refuseFarLong 9 = .ok (.lsub, 1) := by decide +kernel
theorem dX9_refuseFarLong_10 : decode cX9_refuseFarLong 10 = .ok (.lreturn, 1) := by decide +kernel
