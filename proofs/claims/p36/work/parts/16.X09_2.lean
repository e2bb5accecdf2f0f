theorem dX9_coefficient_66 : decode cX9_coefficient 66 = .ok (.istore_n 3, 1) := by decide +kernel
theorem dX9_coefficient_67 : decode cX9_coefficient 67 = .ok (.iload_n 3, 1) := by decide +kernel
theorem dX9_coefficient_68 : decode cX9_coefficient 68 = .ok (.ifCond .eq 22, 3) := by decide +kernel
theorem dX9_coefficient_71 : decode cX9_coefficient 71 = .ok (.aload_n 0, 1) := by decide +kernel
theorem dX9_coefficient_72 : decode cX9_coefficient 72 = .ok (.getfield 53, 3) := by decide +kernel
theorem dX9_coefficient_75 : decode cX9_coefficient 75 = .ok (.iload_n 1, 1) := by decide +kernel
theorem dX9_coefficient_76 : decode cX9_coefficient 76 = .ok (.aload_n 0, 1) := by decide +kernel
theorem dX9_coefficient_77 : decode cX9_coefficient 77 = .ok (.getfield 28, 3) := by decide +kernel
theorem dX9_coefficient_80 : decode cX9_coefficient 80 = .ok (.iload_n 2, 1) := by decide +kernel
theorem dX9_coefficient_81 : decode cX9_coefficient 81 = .ok (.invokevirtual 242, 3) := by decide +kernel
theorem dX9_coefficient_84 : decode cX9_coefficient 84 = .ok (.invokevirtual 245, 3) := by decide +kernel
theorem dX9_coefficient_87 : decode cX9_coefficient 87 = .ok (.goto 4, 3) := by decide +kernel
theorem dX9_coefficient_90 : decode cX9_coefficient 90 = .ok (.iconst 0, 1) := by decide +kernel
theorem dX9_coefficient_91 : decode cX9_coefficient 91 = .ok (.ireturn, 1) := by decide +kernel
theorem dX9_makes_0 : decode cX9_makes 0 = .ok (.aload_n 0, 1) := by decide +kernel
theorem dX9_makes_1 : decode cX9_makes 1 = .ok (.getfield 53, 3) := by decide +kernel
theorem dX9_makes_4 : decode cX9_makes 4 = .ok (.iload_n 1, 1) := by decide +kernel
theorem dX9_makes_5 : decode cX9_makes 5 = .ok (.invokevirtual 215, 3) := by decide +kernel
theorem dX9_makes_8 : decode cX9_makes 8 = .ok (.ifCond .eq 25, 3) := by decide +kernel
theorem dX9_makes_11 : decode cX9_makes 11 = .ok (.aload_n 0, 1) := by decide +kernel
theorem dX9_makes_12 : decode cX9_makes 12 = .ok (.getfield 53, 3) := by decide +kernel
theorem dX9_makes_15 : decode cX9_makes 15 = .ok (.iload_n 2, 1) := by decide +kernel
theorem dX9_makes_16 : decode cX9_makes 16 = .ok (.invokevirtual 215, 3) := by decide +kernel
theorem dX9_makes_19 : decode cX9_makes 19 = .ok (.ifCond .eq 14, 3) := by decide +kernel
theorem dX9_makes_22 : decode cX9_makes 22 = .ok (.aload_n 0, 1) := by decide +kernel
theorem dX9_makes_23 : decode cX9_makes 23 = .ok (.getfield 53, 3) := by decide +kernel
theorem dX9_makes_26 : decode cX9_makes 26 = .ok (.iload_n 3, 1) := by decide +kernel
theorem dX9_makes_27 : decode cX9_makes 27 = .ok (.invokevirtual 215, 3) := by decide +kernel
theorem dX9_makes_30 : decode cX9_makes 30 = .ok (.ifCond .ne 9, 3) := by decide +kernel
theorem dX9_makes_33 : decode cX9_makes 33 = .ok (.aload_n 0, 1) := by decide +kernel
theorem dX9_makes_34 : decode cX9_makes 34 = .ok (.iconst (-1), 1) := by decide +kernel
theorem dX9_makes_35 : decode cX9_makes 35 = .ok (.invokevirtual 90, 3) := by decide +kernel
theorem dX9_makes_38 : decode cX9_makes 38 = .ok (.ireturn, 1) := by decide +kernel
theorem dX9_makes_39 : decode cX9_makes 39 = .ok (.iload 4, 2) := by decide +kernel
theorem dX9_makes_41 : decode cX9_makes 41 = .ok (.ifCond .lt 9, 3) := by decide +kernel
theorem dX9_makes_44 : decode cX9_makes 44 = .ok (.iload 4, 2) := by decide +kernel
theorem dX9_makes_46 : decode cX9_makes 46 = .ok (.iconst 2, 1) := by decide +kernel
theorem dX9_makes_47 : decode cX9_makes 47 = .ok (.if_icmp .le 10, 3) := by decide +kernel
theorem dX9_makes_50 : decode cX9_makes 50 = .ok (.aload_n 0, 1) := by decide +kernel
theorem dX9_makes_51 : decode cX9_makes 51 = .ok (.bipush (-2), 2) := by decide +kernel
theorem dX9_makes_53 : decode cX9_makes 53 = .ok (.invokevirtual 90, 3) := by decide +kernel
theorem dX9_makes_56 : decode cX9_makes 56 = .ok (.ireturn, 1) := by decide +kernel
theorem dX9_makes_57 : decode cX9_makes 57 = .ok (.aload_n 0, 1) := by decide +kernel
theorem dX9_makes_58 : decode cX9_makes 58 = .ok (.getfield 53, 3) := by decide +kernel
theorem dX9_makes_61 : decode cX9_makes 61 = .ok (.iload_n 2, 1) := by decide +kernel
theorem dX9_makes_62 : decode cX9_makes 62 = .ok (.invokevirtual 230, 3) := by decide +kernel
theorem dX9_makes_65 : decode cX9_makes 65 = .ok (.ifCond .ne 14, 3) := by decide +kernel
theorem dX9_makes_68 : decode cX9_makes 68 = .ok (.aload_n 0, 1) := by decide +kernel
theorem dX9_makes_69 : decode cX9_makes 69 = .ok (.getfield 53, 3) := by decide +kernel
theorem dX9_makes_72 : decode cX9_makes 72 = .ok (.iload_n 3, 1) := by decide +kernel
theorem dX9_makes_73 : decode cX9_makes 73 = .ok (.invokevirtual 230, 3) := by decide +kernel
theorem dX9_makes_76 : decode cX9_makes 76 = .ok (.ifCond .eq 6, 3) := by decide +kernel
theorem dX9_makes_79 : decode cX9_makes 79 = .ok (.bipush (-11), 2) := by decide +kernel
theorem dX9_makes_81 : decode cX9_makes 81 = .ok (.ireturn, 1) := by decide +kernel
theorem dX9_makes_82 : decode cX9_makes 82 = .ok (.aload_n 0, 1) := by decide +kernel
theorem dX9_makes_83 : decode cX9_makes 83 = .ok (.getfield 53, 3) := by decide +kernel
theorem dX9_makes_86 : decode cX9_makes 86 = .ok (.iload_n 2, 1) := by decide +kernel
theorem dX9_makes_87 : decode cX9_makes 87 = .ok (.invokevirtual 234, 3) := by decide +kernel
theorem dX9_makes_90 : decode cX9_makes 90 = .ok (.aload_n 0, 1) := by decide +kernel
theorem dX9_makes_91 : decode cX9_makes 91 = .ok (.getfield 53, 3) := by decide +kernel
theorem dX9_makes_94 : decode cX9_makes 94 = .ok (.iload_n 3, 1) := by decide +kernel
theorem dX9_makes_95 : decode cX9_makes 95 = .ok (.invokevirtual 234, 3) := by decide +kernel
theorem dX9_makes_98 : decode cX9_makes 98 = .ok (.if_icmp .eq 10, 3) := by decide +kernel
theorem dX9_makes_101 : decode cX9_makes 101 = .ok (.aload_n 0, 1) := by decide +kernel
theorem dX9_makes_102 : decode cX9_makes 102 = .ok (.bipush (-3), 2) := by decide +kernel
theorem dX9_makes_104 : decode cX9_makes 104 = .ok (.invokevirtual 90, 3) := by decide +kernel
theorem dX9_makes_107 : decode cX9_makes 107 = .ok (.ireturn, 1) := by decide +kernel
theorem dX9_makes_108 : decode cX9_makes 108 = .ok (.iload 4, 2) := by decide +kernel
theorem dX9_makes_110 : decode cX9_makes 110 = .ok (.lookupswitch 56 #[(0, 26), (1, 41)], 26) := by decide +kernel
theorem dX9_makes_136 : decode cX9_makes 136 = .ok (.aload_n 0, 1) := by decide +kernel
theorem dX9_makes_137 : decode cX9_makes 137 = .ok (.getfield 62, 3) := by decide +kernel
theorem dX9_makes_140 : decode cX9_makes 140 = .ok (.iload_n 2, 1) := by decide +kernel
theorem dX9_makes_141 : decode cX9_makes 141 = .ok (.iload_n 3, 1) := by decide +kernel
theorem dX9_makes_142 : decode cX9_makes 142 = .ok (.iconst 1, 1) := by decide +kernel
theorem dX9_makes_143 : decode cX9_makes 143 = .ok (.invokevirtual 246, 3) := by decide +kernel
theorem dX9_makes_146 : decode cX9_makes 146 = .ok (.istore 5, 2) := by decide +kernel
theorem dX9_makes_148 : decode cX9_makes 148 = .ok (.goto 29, 3) := by decide +kernel
theorem dX9_makes_151 : decode cX9_makes 151 = .ok (.aload_n 0, 1) := by decide +kernel
theorem dX9_makes_152 : decode cX9_makes 152 = .ok (.getfield 62, 3) := by decide +kernel
theorem dX9_makes_155 : decode cX9_makes 155 = .ok (.iload_n 2, 1) := by decide +kernel
theorem dX9_makes_156 : decode cX9_makes 156 = .ok (.iload_n 3, 1) := by decide +kernel
theorem dX9_makes_157 : decode cX9_makes 157 = .ok (.iconst (-1), 1) := by decide +kernel
theorem dX9_makes_158 : decode cX9_makes 158 = .ok (.invokevirtual 246, 3) := by decide +kernel
theorem dX9_makes_161 : decode cX9_makes 161 = .ok (.istore 5, 2) := by decide +kernel
theorem dX9_makes_163 : decode cX9_makes 163 = .ok (.goto 14, 3) := by decide +kernel
theorem dX9_makes_166 : decode cX9_makes 166 = .ok (.aload_n 0, 1) := by decide +kernel
theorem dX9_makes_167 : decode cX9_makes 167 = .ok (.getfield 62, 3) := by decide +kernel
theorem dX9_makes_170 : decode cX9_makes 170 = .ok (.iload_n 2, 1) := by decide +kernel
theorem dX9_makes_171 : decode cX9_makes 171 = .ok (.iload_n 3, 1) := by decide +kernel
theorem dX9_makes_172 : decode cX9_makes 172 = .ok (.invokevirtual 249, 3) := by decide +kernel
theorem dX9_makes_175 : decode cX9_makes 175 = .ok (.istore 5, 2) := by decide +kernel
theorem dX9_makes_177 : decode cX9_makes 177 = .ok (.iload 5, 2) := by decide +kernel
theorem dX9_makes_179 : decode cX9_makes 179 = .ok (.ifCond .eq 11, 3) := by decide +kernel
theorem dX9_makes_182 : decode cX9_makes 182 = .ok (.aload_n 0, 1) := by decide +kernel
theorem dX9_makes_183 : decode cX9_makes 183 = .ok (.iload_n 1, 1) := by decide +kernel
theorem dX9_makes_184 : decode cX9_makes 184 = .ok (.invokevirtual 222, 3) := by decide +kernel
theorem dX9_makes_187 : decode cX9_makes 187 = .ok (.goto 9, 3) := by decide +kernel
theorem dX9_makes_190 : decode cX9_makes 190 = .ok (.aload_n 0, 1) := by decide +kernel
theorem dX9_makes_191 : decode cX9_makes 191 = .ok (.bipush (-6), 2) := by decide +kernel
theorem dX9_makes_193 : decode cX9_makes 193 = .ok (.invokevirtual 90, 3) := by decide +kernel
theorem dX9_makes_196 : decode cX9_makes 196 = .ok (.ireturn, 1) := by decide +kernel
theorem dX9_changed_0 : decode cX9_changed 0 = .ok (.aload_n 0, 1) := by decide +kernel
theorem dX9_changed_1 : decode cX9_changed 1 = .ok (.getfield 53, 3) := by decide +kernel
theorem dX9_changed_4 : decode cX9_changed 4 = .ok (.iload_n 1, 1) := by decide +kernel
theorem dX9_changed_5 : decode cX9_changed 5 = .ok (.invokevirtual 215, 3) := by decide +kernel
theorem dX9_changed_8 : decode cX9_changed 8 = .ok (.ifCond .ne 9, 3) := by decide +kernel
theorem dX9_changed_11 : decode cX9_changed 11 = .ok (.aload_n 0, 1) := by decide +kernel
theorem dX9_changed_12 : decode cX9_changed 12 = .ok (.iconst (-1), 1) := by decide +kernel
theorem dX9_changed_13 : decode cX9_changed 13 = .ok (.invokevirtual 90, 3) := by decide +kernel
theorem dX9_changed_16 : decode cX9_changed 16 = .ok (.ireturn, 1) := by decide +kernel
theorem dX9_changed_17 : decode cX9_changed 17 = .ok (.iload_n 2, 1) := by decide +kernel
theorem dX9_changed_18 : decode cX9_changed 18 = .ok (.ifCond .lt 8, 3) := by decide +kernel
theorem dX9_changed_21 : decode cX9_changed 21 = .ok (.iload_n 2, 1) := by decide +kernel
theorem dX9_changed_22 : decode cX9_changed 22 = .ok (.iconst 2, 1) := by decide +kernel
theorem dX9_changed_23 : decode cX9_changed 23 = .ok (.if_icmp .le 10, 3) := by decide +kernel
theorem dX9_changed_26 : decode cX9_changed 26 = .ok (.aload_n 0, 1) := by decide +kernel
theorem dX9_changed_27 : decode cX9_changed 27 = .ok (.bipush (-2), 2) := by decide +kernel
theorem dX9_changed_29 : decode cX9_changed 29 = .ok (.invokevirtual 90, 3) := by decide +kernel
theorem dX9_changed_32 : decode cX9_changed 32 = .ok (.ireturn, 1) := by decide +kernel
theorem dX9_changed_33 : decode cX9_changed 33 = .ok (.aload_n 0, 1) := by decide +kernel
theorem dX9_changed_34 : decode cX9_changed 34 = .ok (.getfield 53, 3) := by decide +kernel
theorem dX9_changed_37 : decode cX9_changed 37 = .ok (.iload_n 1, 1) := by decide +kernel
theorem dX9_changed_38 : decode cX9_changed 38 = .ok (.invokevirtual 230, 3) := by decide +kernel
theorem dX9_changed_41 : decode cX9_changed 41 = .ok (.ifCond .eq 6, 3) := by decide +kernel
theorem dX9_changed_44 : decode cX9_changed 44 = .ok (.bipush (-11), 2) := by decide +kernel
theorem dX9_changed_46 : decode cX9_changed 46 = .ok (.ireturn, 1) := by decide +kernel
theorem dX9_changed_47 : decode cX9_changed 47 = .ok (.aload_n 0, 1) := by decide +kernel
theorem dX9_changed_48 : decode cX9_changed 48 = .ok (.getfield 53, 3) := by decide +kernel
theorem dX9_changed_51 : decode cX9_changed 51 = .ok (.iload_n 1, 1) := by decide +kernel
theorem dX9_changed_52 : decode cX9_changed 52 = .ok (.invokevirtual 234, 3) := by decide +kernel
theorem dX9_changed_55 : decode cX9_changed 55 = .ok (.istore_n 3, 1) := by decide +kernel
theorem dX9_changed_56 : decode cX9_changed 56 = .ok (.iload_n 2, 1) := by decide +kernel
theorem dX9_changed_57 : decode cX9_changed 57 = .ok (.iconst 1, 1) := by decide +kernel
theorem dX9_changed_58 : decode cX9_changed 58 = .ok (.if_icmp .ne 8, 3) := by decide +kernel
theorem dX9_changed_61 : decode cX9_changed 61 = .ok (.iload_n 3, 1) := by decide +kernel
theorem dX9_changed_62 : decode cX9_changed 62 = .ok (.iconst 1, 1) := by decide +kernel
theorem dX9_changed_63 : decode cX9_changed 63 = .ok (.if_icmp .lt 14, 3) := by decide +kernel
theorem dX9_changed_66 : decode cX9_changed 66 = .ok (.iload_n 2, 1) := by decide +kernel
theorem dX9_changed_67 : decode cX9_changed 67 = .ok (.iconst 2, 1) := by decide +kernel
theorem dX9_changed_68 : decode cX9_changed 68 = .ok (.if_icmp .ne 16, 3) := by decide +kernel
theorem dX9_changed_71 : decode cX9_changed 71 = .ok (.iload_n 3, 1) := by decide +kernel
theorem dX9_changed_72 : decode cX9_changed 72 = .ok (.bipush 8, 2) := by decide +kernel
theorem dX9_changed_74 : decode cX9_changed 74 = .ok (.if_icmp .lt 10, 3) := by decide +kernel
theorem dX9_changed_77 : decode cX9_changed 77 = .ok (.aload_n 0, 1) := by decide +kernel
theorem dX9_changed_78 : decode cX9_changed 78 = .ok (.bipush (-3), 2) := by decide +kernel
theorem dX9_changed_80 : decode cX9_changed 80 = .ok (.invokevirtual 90, 3) := by decide +kernel
theorem dX9_changed_83 : decode cX9_changed 83 = .ok (.ireturn, 1) := by decide +kernel
theorem dX9_changed_84 : decode cX9_changed 84 = .ok (.iload_n 2, 1) := by decide +kernel
theorem dX9_changed_85 : decode cX9_changed 85 = .ok (.lookupswitch 53 #[(0, 27), (1, 40)], 27) := by decide +kernel
theorem dX9_changed_112 : decode cX9_changed 112 = .ok (.aload_n 0, 1) := by decide +kernel
theorem dX9_changed_113 : decode cX9_changed 113 = .ok (.getfield 62, 3) := by decide +kernel
theorem dX9_changed_116 : decode cX9_changed 116 = .ok (.iload_n 1, 1) := by decide +kernel
theorem dX9_changed_117 : decode cX9_changed 117 = .ok (.invokevirtual 252, 3) := by decide +kernel
theorem dX9_changed_120 : decode cX9_changed 120 = .ok (.istore 4, 2) := by decide +kernel
theorem dX9_changed_122 : decode cX9_changed 122 = .ok (.goto 26, 3) := by decide +kernel
theorem dX9_changed_125 : decode cX9_changed 125 = .ok (.aload_n 0, 1) := by decide +kernel
theorem dX9_changed_126 : decode cX9_changed 126 = .ok (.getfield 62, 3) := by decide +kernel
theorem dX9_changed_129 : decode cX9_changed 129 = .ok (.iload_n 1, 1) := by decide +kernel
theorem dX9_changed_130 : decode cX9_changed 130 = .ok (.invokevirtual 255, 3) := by decide +kernel
theorem dX9_changed_133 : decode cX9_changed 133 = .ok (.istore 4, 2) := by decide +kernel
theorem dX9_changed_135 : decode cX9_changed 135 = .ok (.goto 13, 3) := by decide +kernel
theorem dX9_changed_138 : decode cX9_changed 138 = .ok (.aload_n 0, 1) := by decide +kernel
theorem dX9_changed_139 : decode cX9_changed 139 = .ok (.getfield 62, 3) := by decide +kernel
theorem dX9_changed_142 : decode cX9_changed 142 = .ok (.iload_n 1, 1) := by decide +kernel
theorem dX9_changed_143 : decode cX9_changed 143 = .ok (.invokevirtual 258, 3) := by decide +kernel
theorem dX9_changed_146 : decode cX9_changed 146 = .ok (.istore 4, 2) := by decide +kernel
theorem dX9_changed_148 : decode cX9_changed 148 = .ok (.iload 4, 2) := by decide +kernel
theorem dX9_changed_150 : decode cX9_changed 150 = .ok (.ifCond .eq 11, 3) := by decide +kernel
theorem dX9_changed_153 : decode cX9_changed 153 = .ok (.aload_n 0, 1) := by decide +kernel
theorem dX9_changed_154 : decode cX9_changed 154 = .ok (.iload_n 1, 1) := by decide +kernel
theorem dX9_changed_155 : decode cX9_changed 155 = .ok (.invokevirtual 222, 3) := by decide +kernel
theorem dX9_changed_158 : decode cX9_changed 158 = .ok (.goto 9, 3) := by decide +kernel
theorem dX9_changed_161 : decode cX9_changed 161 = .ok (.aload_n 0, 1) := by decide +kernel
theorem dX9_changed_162 : decode cX9_changed 162 = .ok (.bipush (-6), 2) := by decide +kernel
theorem dX9_changed_164 : decode cX9_changed 164 = .ok (.invokevirtual 90, 3) := by decide +kernel
theorem dX9_changed_167 : decode cX9_changed 167 = .ok (.ireturn, 1) := by decide +kernel
theorem dX9_value_0 : decode cX9_value 0 = .ok (.aload_n 0, 1) := by decide +kernel
theorem dX9_value_1 : decode cX9_value 1 = .ok (.getfield 53, 3) := by decide +kernel
theorem dX9_value_4 : decode cX9_value 4 = .ok (.iload_n 1, 1) := by decide +kernel
theorem dX9_value_5 : decode cX9_value 5 = .ok (.invokevirtual 215, 3) := by decide +kernel
theorem dX9_value_8 : decode cX9_value 8 = .ok (.ifCond .eq 14, 3) := by decide +kernel
theorem dX9_value_11 : decode cX9_value 11 = .ok (.aload_n 0, 1) := by decide +kernel
theorem dX9_value_12 : decode cX9_value 12 = .ok (.getfield 28, 3) := by decide +kernel
theorem dX9_value_15 : decode cX9_value 15 = .ok (.iload_n 2, 1) := by decide +kernel
theorem dX9_value_16 : decode cX9_value 16 = .ok (.invokevirtual 86, 3) := by decide +kernel
theorem dX9_value_19 : decode cX9_value 19 = .ok (.ifCond .ne 9, 3) := by decide +kernel
theorem dX9_value_22 : decode cX9_value 22 = .ok (.aload_n 0, 1) := by decide +kernel
theorem dX9_value_23 : decode cX9_value 23 = .ok (.iconst (-1), 1) := by decide +kernel
theorem dX9_value_24 : decode cX9_value 24 = .ok (.invokevirtual 167, 3) := by decide +kernel
theorem dX9_value_27 : decode cX9_value 27 = .ok (.lreturn, 1) := by decide +kernel
theorem dX9_value_28 : decode cX9_value 28 = .ok (.aload_n 0, 1) := by decide +kernel
theorem dX9_value_29 : decode cX9_value 29 = .ok (.getfield 53, 3) := by decide +kernel
theorem dX9_value_32 : decode cX9_value 32 = .ok (.iload_n 1, 1) := by decide +kernel
theorem dX9_value_33 : decode cX9_value 33 = .ok (.invokevirtual 230, 3) := by decide +kernel
theorem dX9_value_36 : decode cX9_value 36 = .ok (.ifCond .eq 7, 3) := by decide +kernel
theorem dX9_value_39 : decode cX9_value 39 = .ok (.ldc2_w 261, 3) := by decide +kernel
theorem dX9_value_42 : decode cX9_value 42 = .ok (.lreturn, 1) := by decide +kernel
theorem dX9_value_43 : decode cX9_value 43 = .ok (.aload_n 0, 1) := by decide +kernel
theorem dX9_value_44 : decode cX9_value 44 = .ok (.getfield 28, 3) := by decide +kernel
theorem dX9_value_47 : decode cX9_value 47 = .ok (.iload_n 2, 1) := by decide +kernel
theorem dX9_value_48 : decode cX9_value 48 = .ok (.invokevirtual 98, 3) := by decide +kernel
theorem dX9_value_51 : decode cX9_value 51 = .ok (.aload_n 0, 1) := by decide +kernel
theorem dX9_value_52 : decode cX9_value 52 = .ok (.getfield 53, 3) := by decide +kernel
theorem dX9_value_55 : decode cX9_value 55 = .ok (.iload_n 1, 1) := by decide +kernel
theorem dX9_value_56 : decode cX9_value 56 = .ok (.invokevirtual 234, 3) := by decide +kernel
theorem dX9_value_59 : decode cX9_value 59 = .ok (.if_icmp .eq 10, 3) := by decide +kernel
theorem dX9_value_62 : decode cX9_value 62 = .ok (.aload_n 0, 1) := by decide +kernel
theorem dX9_value_63 : decode cX9_value 63 = .ok (.bipush (-3), 2) := by decide +kernel
theorem dX9_value_65 : decode cX9_value 65 = .ok (.invokevirtual 167, 3) := by decide +kernel
theorem dX9_value_68 : decode cX9_value 68 = .ok (.lreturn, 1) := by decide +kernel
theorem dX9_value_69 : decode cX9_value 69 = .ok (.aload_n 0, 1) := by decide +kernel
theorem dX9_value_70 : decode cX9_value 70 = .ok (.getfield 62, 3) := by decide +kernel
theorem dX9_value_73 : decode cX9_value 73 = .ok (.iload_n 1, 1) := by decide +kernel
theorem dX9_value_74 : decode cX9_value 74 = .ok (.iload_n 2, 1) := by decide +kernel
theorem dX9_value_75 : decode cX9_value 75 = .ok (.invokevirtual 263, 3) := by decide +kernel
theorem dX9_value_78 : decode cX9_value 78 = .ok (.lreturn, 1) := by decide +kernel
theorem dX9_inner_0 : decode cX9_inner 0 = .ok (.aload_n 0, 1) := by decide +kernel
theorem dX9_inner_1 : decode cX9_inner 1 = .ok (.getfield 53, 3) := by decide +kernel
theorem dX9_inner_4 : decode cX9_inner 4 = .ok (.iload_n 1, 1) := by decide +kernel
theorem dX9_inner_5 : decode cX9_inner 5 = .ok (.invokevirtual 215, 3) := by decide +kernel
theorem dX9_inner_8 : decode cX9_inner 8 = .ok (.ifCond .eq 14, 3) := by decide +kernel
theorem dX9_inner_11 : decode cX9_inner 11 = .ok (.aload_n 0, 1) := by decide +kernel
theorem dX9_inner_12 : decode cX9_inner 12 = .ok (.getfield 53, 3) := by decide +kernel
theorem dX9_inner_15 : decode cX9_inner 15 = .ok (.iload_n 2, 1) := by decide +kernel
theorem dX9_inner_16 : decode cX9_inner 16 = .ok (.invokevirtual 215, 3) := by decide +kernel
theorem dX9_inner_19 : decode cX9_inner 19 = .ok (.ifCond .ne 9, 3) := by decide +kernel
theorem dX9_inner_22 : decode cX9_inner 22 = .ok (.aload_n 0, 1) := by decide +kernel
theorem dX9_inner_23 : decode cX9_inner 23 = .ok (.iconst (-1), 1) := by decide +kernel
theorem dX9_inner_24 : decode cX9_inner 24 = .ok (.invokevirtual 167, 3) := by decide +kernel
theorem dX9_inner_27 : decode cX9_inner 27 = .ok (.lreturn, 1) := by decide +kernel
theorem dX9_inner_28 : decode cX9_inner 28 = .ok (.aload_n 0, 1) := by decide +kernel
theorem dX9_inner_29 : decode cX9_inner 29 = .ok (.getfield 53, 3) := by decide +kernel
theorem dX9_inner_32 : decode cX9_inner 32 = .ok (.iload_n 1, 1) := by decide +kernel
theorem dX9_inner_33 : decode cX9_inner 33 = .ok (.invokevirtual 230, 3) := by decide +kernel
theorem dX9_inner_36 : decode cX9_inner 36 = .ok (.ifCond .ne 14, 3) := by decide +kernel
theorem dX9_inner_39 : decode cX9_inner 39 = .ok (.aload_n 0, 1) := by decide +kernel
theorem dX9_inner_40 : decode cX9_inner 40 = .ok (.getfield 53, 3) := by decide +kernel
theorem dX9_inner_43 : decode cX9_inner 43 = .ok (.iload_n 2, 1) := by decide +kernel
theorem dX9_inner_44 : decode cX9_inner 44 = .ok (.invokevirtual 230, 3) := by decide +kernel
theorem dX9_inner_47 : decode cX9_inner 47 = .ok (.ifCond .eq 7, 3) := by decide +kernel
theorem dX9_inner_50 : decode cX9_inner 50 = .ok (.ldc2_w 261, 3) := by decide +kernel
theorem dX9_inner_53 : decode cX9_inner 53 = .ok (.lreturn, 1) := by decide +kernel
theorem dX9_inner_54 : decode cX9_inner 54 = .ok (.aload_n 0, 1) := by decide +kernel
theorem dX9_inner_55 : decode cX9_inner 55 = .ok (.getfield 53, 3) := by decide +kernel
theorem dX9_inner_58 : decode cX9_inner 58 = .ok (.iload_n 1, 1) := by decide +kernel
theorem dX9_inner_59 : decode cX9_inner 59 = .ok (.invokevirtual 234, 3) := by decide +kernel
theorem dX9_inner_62 : decode cX9_inner 62 = .ok (.aload_n 0, 1) := by decide +kernel
theorem dX9_inner_63 : decode cX9_inner 63 = .ok (.getfield 53, 3) := by decide +kernel
theorem dX9_inner_66 : decode cX9_inner 66 = .ok (.iload_n 2, 1) := by decide +kernel
theorem dX9_inner_67 : decode cX9_inner 67 = .ok (.invokevirtual 234, 3) := by decide +kernel
theorem dX9_inner_70 : decode cX9_inner 70 = .ok (.if_icmp .eq 10, 3) := by decide +kernel
theorem dX9_inner_73 : decode cX9_inner 73 = .ok (.aload_n 0, 1) := by decide +kernel
theorem dX9_inner_74 : decode cX9_inner 74 = .ok (.bipush (-3), 2) := by decide +kernel
theorem dX9_inner_76 : decode cX9_inner 76 = .ok (.invokevirtual 167, 3) := by decide +kernel
theorem dX9_inner_79 : decode cX9_inner 79 = .ok (.lreturn, 1) := by decide +kernel
theorem dX9_inner_80 : decode cX9_inner 80 = .ok (.aload_n 0, 1) := by decide +kernel
theorem dX9_inner_81 : decode cX9_inner 81 = .ok (.getfield 62, 3) := by decide +kernel
theorem dX9_inner_84 : decode cX9_inner 84 = .ok (.iload_n 1, 1) := by decide +kernel
theorem dX9_inner_85 : decode cX9_inner 85 = .ok (.iload_n 2, 1) := by decide +kernel
theorem dX9_inner_86 : decode cX9_inner 86 = .ok (.invokevirtual 267, 3) := by decide +kernel
theorem dX9_inner_89 : decode cX9_inner 89 = .ok (.lreturn, 1) := by decide +kernel
theorem dX9_refuse_0 : decode cX9_refuse 0 = .ok (.iload_n 1, 1) := by decide +kernel
theorem dX9_refuse_1 : decode cX9_refuse 1 = .ok (.ineg, 1) := by decide +kernel
theorem dX9_refuse_2 : decode cX9_refuse 2 = .ok (.istore_n 2, 1) := by decide +kernel
theorem dX9_refuse_3 : decode cX9_refuse 3 = .ok (.iload_n 2, 1) := by decide +kernel
theorem dX9_refuse_4 : decode cX9_refuse 4 = .ok (.iconst 1, 1) := by decide +kernel
theorem dX9_refuse_5 : decode cX9_refuse 5 = .ok (.if_icmp .lt 19, 3) := by decide +kernel
theorem dX9_refuse_8 : decode cX9_refuse 8 = .ok (.iload_n 2, 1) := by decide +kernel
theorem dX9_refuse_9 : decode cX9_refuse 9 = .ok (.bipush 6, 2) := by decide +kernel
theorem dX9_refuse_11 : decode cX9_refuse 11 = .ok (.if_icmp .gt 13, 3) := by decide +kernel
theorem dX9_refuse_14 : decode cX9_refuse 14 = .ok (.aload_n 0, 1) := by decide +kernel
theorem dX9_refuse_15 : decode cX9_refuse 15 = .ok (.getfield 82, 3) := by decide +kernel
theorem dX9_refuse_18 : decode cX9_refuse 18 = .ok (.iload_n 2, 1) := by decide +kernel
theorem dX9_refuse_19 : decode cX9_refuse 19 = .ok (.dup2, 1) := by decide +kernel
theorem dX9_refuse_20 : decode cX9_refuse 20 = .ok (.iaload, 1) := by decide +kernel
theorem dX9_refuse_21 : decode cX9_refuse 21 = .ok (.iconst 1, 1) := by decide +kernel
theorem dX9_refuse_22 : decode cX9_refuse 22 = .ok (.iadd, 1) := by decide +kernel
theorem dX9_refuse_23 : decode cX9_refuse 23 = .ok (.iastore, 1) := by decide +kernel
theorem dX9_refuse_24 : decode cX9_refuse 24 = .ok (.iload_n 1, 1) := by decide +kernel
theorem dX9_refuse_25 : decode cX9_refuse 25 = .ok (.ireturn, 1) := by decide +kernel
theorem dX9_refuseFar_0 : decode cX9_refuseFar 0 = .ok (.ldc_w 311, 3) := by decide +kernel
theorem dX9_refuseFar_3 : decode cX9_refuseFar 3 = .ok (.aload_n 0, 1) := by decide +kernel
theorem dX9_refuseFar_4 : decode cX9_refuseFar 4 = .ok (.iload_n 1, 1) := by decide +kernel
theorem dX9_refuseFar_5 : decode cX9_refuseFar 5 = .ok (.invokevirtual 90, 3) := by decide +kernel
theorem dX9_refuseFar_8 : decode cX9_refuseFar 8 = .ok (.isub, 1) := by decide +kernel
theorem dX9_refuseFar_9 : decode cX9_refuseFar 9 = .ok (.ireturn, 1) := by decide +kernel
theorem dX9_refuseFarLong_0 : decode cX9_refuseFarLong 0 = .ok (.ldc2_w 312, 3) := by decide +kernel
theorem dX9_refuseFarLong_3 : decode cX9_refuseFarLong 3 = .ok (.aload_n 0, 1) := by decide +kernel
theorem dX9_refuseFarLong_4 : decode cX9_refuseFarLong 4 = .ok (.iload_n 1, 1) := by decide +kernel
theorem dX9_refuseFarLong_5 : decode cX9_refuseFarLong 5 = .ok (.invokevirtual 90, 3) := by decide +kernel
theorem dX9_refuseFarLong_8 : decode cX9_refuseFarLong 8 = .ok (.i2l, 1) := by decide +kernel
theorem dX9_refuseFarLong_9 : decode cX9_refuseFarLong 9 = .ok (.lsub, 1) := by decide +kernel
theorem dX9_refuseFarLong_10 : decode cX9_refuseFarLong 10 = .ok (.lreturn, 1) := by decide +kernel
