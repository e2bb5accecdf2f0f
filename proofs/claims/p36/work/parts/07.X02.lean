theorem dX2_init_0 : decode cX2_init 0 = .ok (.aload_n 0, 1) := by decide +kernel
theorem dX2_init_1 : decode cX2_init 1 = .ok (.invokespecial 1, 3) := by decide +kernel
theorem dX2_init_4 : decode cX2_init 4 = .ok (.aload_n 0, 1) := by decide +kernel
theorem dX2_init_5 : decode cX2_init 5 = .ok (.aload_n 1, 1) := by decide +kernel
theorem dX2_init_6 : decode cX2_init 6 = .ok (.putfield 7, 3) := by decide +kernel
theorem dX2_init_9 : decode cX2_init 9 = .ok (.return_, 1) := by decide +kernel
theorem dX2_bitsOf_0 : decode cX2_bitsOf 0 = .ok (.iconst 0, 1) := by decide +kernel
theorem dX2_bitsOf_1 : decode cX2_bitsOf 1 = .ok (.istore_n 2, 1) := by decide +kernel
theorem dX2_bitsOf_2 : decode cX2_bitsOf 2 = .ok (.iconst 0, 1) := by decide +kernel
theorem dX2_bitsOf_3 : decode cX2_bitsOf 3 = .ok (.istore_n 3, 1) := by decide +kernel
theorem dX2_bitsOf_4 : decode cX2_bitsOf 4 = .ok (.iload_n 3, 1) := by decide +kernel
theorem dX2_bitsOf_5 : decode cX2_bitsOf 5 = .ok (.bipush 7, 2) := by decide +kernel
theorem dX2_bitsOf_7 : decode cX2_bitsOf 7 = .ok (.if_icmp .ge 24, 3) := by decide +kernel
theorem dX2_bitsOf_10 : decode cX2_bitsOf 10 = .ok (.aload_n 0, 1) := by decide +kernel
theorem dX2_bitsOf_11 : decode cX2_bitsOf 11 = .ok (.iload_n 1, 1) := by decide +kernel
theorem dX2_bitsOf_12 : decode cX2_bitsOf 12 = .ok (.iload_n 3, 1) := by decide +kernel
theorem dX2_bitsOf_13 : decode cX2_bitsOf 13 = .ok (.invokevirtual 13, 3) := by decide +kernel
theorem dX2_bitsOf_16 : decode cX2_bitsOf 16 = .ok (.ifCond .eq 9, 3) := by decide +kernel
theorem dX2_bitsOf_19 : decode cX2_bitsOf 19 = .ok (.iload_n 2, 1) := by decide +kernel
theorem dX2_bitsOf_20 : decode cX2_bitsOf 20 = .ok (.iconst 1, 1) := by decide +kernel
theorem dX2_bitsOf_21 : decode cX2_bitsOf 21 = .ok (.iload_n 3, 1) := by decide +kernel
theorem dX2_bitsOf_22 : decode cX2_bitsOf 22 = .ok (.ishl, 1) := by decide +kernel
theorem dX2_bitsOf_23 : decode cX2_bitsOf 23 = .ok (.ior, 1) := by decide +kernel
theorem dX2_bitsOf_24 : decode cX2_bitsOf 24 = .ok (.istore_n 2, 1) := by decide +kernel
theorem dX2_bitsOf_25 : decode cX2_bitsOf 25 = .ok (.iinc 3 1, 3) := by decide +kernel
theorem dX2_bitsOf_28 : decode cX2_bitsOf 28 = .ok (.goto (-24), 3) := by decide +kernel
theorem dX2_bitsOf_31 : decode cX2_bitsOf 31 = .ok (.iload_n 2, 1) := by decide +kernel
theorem dX2_bitsOf_32 : decode cX2_bitsOf 32 = .ok (.ireturn, 1) := by decide +kernel
theorem dX2_isOf_0 : decode cX2_isOf 0 = .ok (.aload_n 0, 1) := by decide +kernel
theorem dX2_isOf_1 : decode cX2_isOf 1 = .ok (.getfield 7, 3) := by decide +kernel
theorem dX2_isOf_4 : decode cX2_isOf 4 = .ok (.iload_n 1, 1) := by decide +kernel
theorem dX2_isOf_5 : decode cX2_isOf 5 = .ok (.invokevirtual 26, 3) := by decide +kernel
theorem dX2_isOf_8 : decode cX2_isOf 8 = .ok (.istore_n 3, 1) := by decide +kernel
theorem dX2_isOf_9 : decode cX2_isOf 9 = .ok (.iload_n 2, 1) := by decide +kernel
theorem dX2_isOf_10 : decode cX2_isOf 10 = .ok (.tableswitch 165 0 6 #[42, 53, 72, 83, 107, 125, 158], 42) := by decide +kernel
theorem dX2_isOf_52 : decode cX2_isOf 52 = .ok (.iload_n 3, 1) := by decide +kernel
theorem dX2_isOf_53 : decode cX2_isOf 53 = .ok (.iconst 1, 1) := by decide +kernel
theorem dX2_isOf_54 : decode cX2_isOf 54 = .ok (.if_icmp .gt 7, 3) := by decide +kernel
theorem dX2_isOf_57 : decode cX2_isOf 57 = .ok (.iconst 1, 1) := by decide +kernel
theorem dX2_isOf_58 : decode cX2_isOf 58 = .ok (.goto 4, 3) := by decide +kernel
theorem dX2_isOf_61 : decode cX2_isOf 61 = .ok (.iconst 0, 1) := by decide +kernel
theorem dX2_isOf_62 : decode cX2_isOf 62 = .ok (.ireturn, 1) := by decide +kernel
theorem dX2_isOf_63 : decode cX2_isOf 63 = .ok (.aload_n 0, 1) := by decide +kernel
theorem dX2_isOf_64 : decode cX2_isOf 64 = .ok (.getfield 7, 3) := by decide +kernel
theorem dX2_isOf_67 : decode cX2_isOf 67 = .ok (.iload_n 1, 1) := by decide +kernel
theorem dX2_isOf_68 : decode cX2_isOf 68 = .ok (.iconst 0, 1) := by decide +kernel
theorem dX2_isOf_69 : decode cX2_isOf 69 = .ok (.invokevirtual 29, 3) := by decide +kernel
theorem dX2_isOf_72 : decode cX2_isOf 72 = .ok (.iconst 1, 1) := by decide +kernel
theorem dX2_isOf_73 : decode cX2_isOf 73 = .ok (.if_icmp .gt 7, 3) := by decide +kernel
theorem dX2_isOf_76 : decode cX2_isOf 76 = .ok (.iconst 1, 1) := by decide +kernel
theorem dX2_isOf_77 : decode cX2_isOf 77 = .ok (.goto 4, 3) := by decide +kernel
theorem dX2_isOf_80 : decode cX2_isOf 80 = .ok (.iconst 0, 1) := by decide +kernel
theorem dX2_isOf_81 : decode cX2_isOf 81 = .ok (.ireturn, 1) := by decide +kernel
theorem dX2_isOf_82 : decode cX2_isOf 82 = .ok (.iload_n 3, 1) := by decide +kernel
theorem dX2_isOf_83 : decode cX2_isOf 83 = .ok (.iconst 2, 1) := by decide +kernel
theorem dX2_isOf_84 : decode cX2_isOf 84 = .ok (.if_icmp .gt 7, 3) := by decide +kernel
theorem dX2_isOf_87 : decode cX2_isOf 87 = .ok (.iconst 1, 1) := by decide +kernel
theorem dX2_isOf_88 : decode cX2_isOf 88 = .ok (.goto 4, 3) := by decide +kernel
theorem dX2_isOf_91 : decode cX2_isOf 91 = .ok (.iconst 0, 1) := by decide +kernel
theorem dX2_isOf_92 : decode cX2_isOf 92 = .ok (.ireturn, 1) := by decide +kernel
theorem dX2_isOf_93 : decode cX2_isOf 93 = .ok (.iload_n 3, 1) := by decide +kernel
theorem dX2_isOf_94 : decode cX2_isOf 94 = .ok (.iconst 1, 1) := by decide +kernel
theorem dX2_isOf_95 : decode cX2_isOf 95 = .ok (.if_icmp .lt 20, 3) := by decide +kernel
theorem dX2_isOf_98 : decode cX2_isOf 98 = .ok (.aload_n 0, 1) := by decide +kernel
theorem dX2_isOf_99 : decode cX2_isOf 99 = .ok (.getfield 7, 3) := by decide +kernel
theorem dX2_isOf_102 : decode cX2_isOf 102 = .ok (.iload_n 1, 1) := by decide +kernel
theorem dX2_isOf_103 : decode cX2_isOf 103 = .ok (.iconst 1, 1) := by decide +kernel
theorem dX2_isOf_104 : decode cX2_isOf 104 = .ok (.invokevirtual 29, 3) := by decide +kernel
theorem dX2_isOf_107 : decode cX2_isOf 107 = .ok (.iconst 1, 1) := by decide +kernel
theorem dX2_isOf_108 : decode cX2_isOf 108 = .ok (.if_icmp .gt 7, 3) := by decide +kernel
theorem dX2_isOf_111 : decode cX2_isOf 111 = .ok (.iconst 1, 1) := by decide +kernel
theorem dX2_isOf_112 : decode cX2_isOf 112 = .ok (.goto 4, 3) := by decide +kernel
theorem dX2_isOf_115 : decode cX2_isOf 115 = .ok (.iconst 0, 1) := by decide +kernel
theorem dX2_isOf_116 : decode cX2_isOf 116 = .ok (.ireturn, 1) := by decide +kernel
theorem dX2_isOf_117 : decode cX2_isOf 117 = .ok (.aload_n 0, 1) := by decide +kernel
theorem dX2_isOf_118 : decode cX2_isOf 118 = .ok (.getfield 7, 3) := by decide +kernel
theorem dX2_isOf_121 : decode cX2_isOf 121 = .ok (.iload_n 1, 1) := by decide +kernel
theorem dX2_isOf_122 : decode cX2_isOf 122 = .ok (.invokevirtual 33, 3) := by decide +kernel
theorem dX2_isOf_125 : decode cX2_isOf 125 = .ok (.iload_n 1, 1) := by decide +kernel
theorem dX2_isOf_126 : decode cX2_isOf 126 = .ok (.if_icmp .ne 7, 3) := by decide +kernel
theorem dX2_isOf_129 : decode cX2_isOf 129 = .ok (.iconst 1, 1) := by decide +kernel
theorem dX2_isOf_130 : decode cX2_isOf 130 = .ok (.goto 4, 3) := by decide +kernel
theorem dX2_isOf_133 : decode cX2_isOf 133 = .ok (.iconst 0, 1) := by decide +kernel
theorem dX2_isOf_134 : decode cX2_isOf 134 = .ok (.ireturn, 1) := by decide +kernel
theorem dX2_isOf_135 : decode cX2_isOf 135 = .ok (.iload_n 3, 1) := by decide +kernel
theorem dX2_isOf_136 : decode cX2_isOf 136 = .ok (.ifCond .eq 26, 3) := by decide +kernel
theorem dX2_isOf_139 : decode cX2_isOf 139 = .ok (.aload_n 0, 1) := by decide +kernel
theorem dX2_isOf_140 : decode cX2_isOf 140 = .ok (.getfield 7, 3) := by decide +kernel
theorem dX2_isOf_143 : decode cX2_isOf 143 = .ok (.iload_n 1, 1) := by decide +kernel
theorem dX2_isOf_144 : decode cX2_isOf 144 = .ok (.iconst 0, 1) := by decide +kernel
theorem dX2_isOf_145 : decode cX2_isOf 145 = .ok (.invokevirtual 29, 3) := by decide +kernel
theorem dX2_isOf_148 : decode cX2_isOf 148 = .ok (.aload_n 0, 1) := by decide +kernel
theorem dX2_isOf_149 : decode cX2_isOf 149 = .ok (.getfield 7, 3) := by decide +kernel
theorem dX2_isOf_152 : decode cX2_isOf 152 = .ok (.iload_n 1, 1) := by decide +kernel
theorem dX2_isOf_153 : decode cX2_isOf 153 = .ok (.iload_n 3, 1) := by decide +kernel
theorem dX2_isOf_154 : decode cX2_isOf 154 = .ok (.iconst 1, 1) := by decide +kernel
theorem dX2_isOf_155 : decode cX2_isOf 155 = .ok (.isub, 1) := by decide +kernel
theorem dX2_isOf_156 : decode cX2_isOf 156 = .ok (.invokevirtual 29, 3) := by decide +kernel
theorem dX2_isOf_159 : decode cX2_isOf 159 = .ok (.if_icmp .ne 7, 3) := by decide +kernel
theorem dX2_isOf_162 : decode cX2_isOf 162 = .ok (.iconst 1, 1) := by decide +kernel
theorem dX2_isOf_163 : decode cX2_isOf 163 = .ok (.goto 4, 3) := by decide +kernel
theorem dX2_isOf_166 : decode cX2_isOf 166 = .ok (.iconst 0, 1) := by decide +kernel
theorem dX2_isOf_167 : decode cX2_isOf 167 = .ok (.ireturn, 1) := by decide +kernel
theorem dX2_isOf_168 : decode cX2_isOf 168 = .ok (.aload_n 0, 1) := by decide +kernel
theorem dX2_isOf_169 : decode cX2_isOf 169 = .ok (.iload_n 1, 1) := by decide +kernel
theorem dX2_isOf_170 : decode cX2_isOf 170 = .ok (.iload_n 3, 1) := by decide +kernel
theorem dX2_isOf_171 : decode cX2_isOf 171 = .ok (.invokevirtual 36, 3) := by decide +kernel
theorem dX2_isOf_174 : decode cX2_isOf 174 = .ok (.ireturn, 1) := by decide +kernel
theorem dX2_isOf_175 : decode cX2_isOf 175 = .ok (.iconst 0, 1) := by decide +kernel
theorem dX2_isOf_176 : decode cX2_isOf 176 = .ok (.ireturn, 1) := by decide +kernel
theorem dX2_isStairs_0 : decode cX2_isStairs 0 = .ok (.iconst 0, 1) := by decide +kernel
theorem dX2_isStairs_1 : decode cX2_isStairs 1 = .ok (.istore_n 3, 1) := by decide +kernel
theorem dX2_isStairs_2 : decode cX2_isStairs 2 = .ok (.iload_n 3, 1) := by decide +kernel
theorem dX2_isStairs_3 : decode cX2_isStairs 3 = .ok (.iload_n 2, 1) := by decide +kernel
theorem dX2_isStairs_4 : decode cX2_isStairs 4 = .ok (.if_icmp .ge 26, 3) := by decide +kernel
theorem dX2_isStairs_7 : decode cX2_isStairs 7 = .ok (.aload_n 0, 1) := by decide +kernel
theorem dX2_isStairs_8 : decode cX2_isStairs 8 = .ok (.getfield 7, 3) := by decide +kernel
theorem dX2_isStairs_11 : decode cX2_isStairs 11 = .ok (.iload_n 1, 1) := by decide +kernel
theorem dX2_isStairs_12 : decode cX2_isStairs 12 = .ok (.iload_n 3, 1) := by decide +kernel
theorem dX2_isStairs_13 : decode cX2_isStairs 13 = .ok (.invokevirtual 29, 3) := by decide +kernel
theorem dX2_isStairs_16 : decode cX2_isStairs 16 = .ok (.iload_n 2, 1) := by decide +kernel
theorem dX2_isStairs_17 : decode cX2_isStairs 17 = .ok (.iload_n 3, 1) := by decide +kernel
theorem dX2_isStairs_18 : decode cX2_isStairs 18 = .ok (.isub, 1) := by decide +kernel
theorem dX2_isStairs_19 : decode cX2_isStairs 19 = .ok (.if_icmp .eq 5, 3) := by decide +kernel
theorem dX2_isStairs_22 : decode cX2_isStairs 22 = .ok (.iconst 0, 1) := by decide +kernel
theorem dX2_isStairs_23 : decode cX2_isStairs 23 = .ok (.ireturn, 1) := by decide +kernel
theorem dX2_isStairs_24 : decode cX2_isStairs 24 = .ok (.iinc 3 1, 3) := by decide +kernel
theorem dX2_isStairs_27 : decode cX2_isStairs 27 = .ok (.goto (-25), 3) := by decide +kernel
theorem dX2_isStairs_30 : decode cX2_isStairs 30 = .ok (.iconst 1, 1) := by decide +kernel
theorem dX2_isStairs_31 : decode cX2_isStairs 31 = .ok (.ireturn, 1) := by decide +kernel
