theorem dX9_init_0 : decode cX9_init 0 = .ok (.aload_n 0, 1) := by decide +kernel
theorem dX9_init_1 : decode cX9_init 1 = .ok (.invokespecial 1, 3) := by decide +kernel
theorem dX9_init_4 : decode cX9_init 4 = .ok (.new 7, 3) := by decide +kernel
theorem dX9_init_7 : decode cX9_init 7 = .ok (.dup, 1) := by decide +kernel
theorem dX9_init_8 : decode cX9_init 8 = .ok (.invokespecial 9, 3) := by decide +kernel
theorem dX9_init_11 : decode cX9_init 11 = .ok (.astore_n 1, 1) := by decide +kernel
theorem dX9_init_12 : decode cX9_init 12 = .ok (.new 10, 3) := by decide +kernel
theorem dX9_init_15 : decode cX9_init 15 = .ok (.dup, 1) := by decide +kernel
theorem dX9_init_16 : decode cX9_init 16 = .ok (.aload_n 1, 1) := by decide +kernel
theorem dX9_init_17 : decode cX9_init 17 = .ok (.invokespecial 12, 3) := by decide +kernel
theorem dX9_init_20 : decode cX9_init 20 = .ok (.astore_n 2, 1) := by decide +kernel
theorem dX9_init_21 : decode cX9_init 21 = .ok (.new 15, 3) := by decide +kernel
theorem dX9_init_24 : decode cX9_init 24 = .ok (.dup, 1) := by decide +kernel
theorem dX9_init_25 : decode cX9_init 25 = .ok (.aload_n 1, 1) := by decide +kernel
theorem dX9_init_26 : decode cX9_init 26 = .ok (.aload_n 2, 1) := by decide +kernel
theorem dX9_init_27 : decode cX9_init 27 = .ok (.invokespecial 17, 3) := by decide +kernel
theorem dX9_init_30 : decode cX9_init 30 = .ok (.astore_n 3, 1) := by decide +kernel
theorem dX9_init_31 : decode cX9_init 31 = .ok (.new 20, 3) := by decide +kernel
theorem dX9_init_34 : decode cX9_init 34 = .ok (.dup, 1) := by decide +kernel
theorem dX9_init_35 : decode cX9_init 35 = .ok (.aload_n 1, 1) := by decide +kernel
theorem dX9_init_36 : decode cX9_init 36 = .ok (.aload_n 3, 1) := by decide +kernel
theorem dX9_init_37 : decode cX9_init 37 = .ok (.invokespecial 22, 3) := by decide +kernel
theorem dX9_init_40 : decode cX9_init 40 = .ok (.astore 4, 2) := by decide +kernel
theorem dX9_init_42 : decode cX9_init 42 = .ok (.new 25, 3) := by decide +kernel
theorem dX9_init_45 : decode cX9_init 45 = .ok (.dup, 1) := by decide +kernel
theorem dX9_init_46 : decode cX9_init 46 = .ok (.invokespecial 27, 3) := by decide +kernel
theorem dX9_init_49 : decode cX9_init 49 = .ok (.astore 5, 2) := by decide +kernel
theorem dX9_init_51 : decode cX9_init 51 = .ok (.aload_n 0, 1) := by decide +kernel
theorem dX9_init_52 : decode cX9_init 52 = .ok (.aload_n 1, 1) := by decide +kernel
theorem dX9_init_53 : decode cX9_init 53 = .ok (.putfield 28, 3) := by decide +kernel
theorem dX9_init_56 : decode cX9_init 56 = .ok (.aload_n 0, 1) := by decide +kernel
theorem dX9_init_57 : decode cX9_init 57 = .ok (.aload_n 2, 1) := by decide +kernel
theorem dX9_init_58 : decode cX9_init 58 = .ok (.putfield 34, 3) := by decide +kernel
theorem dX9_init_61 : decode cX9_init 61 = .ok (.aload_n 0, 1) := by decide +kernel
theorem dX9_init_62 : decode cX9_init 62 = .ok (.new 38, 3) := by decide +kernel
theorem dX9_init_65 : decode cX9_init 65 = .ok (.dup, 1) := by decide +kernel
theorem dX9_init_66 : decode cX9_init 66 = .ok (.aload_n 1, 1) := by decide +kernel
theorem dX9_init_67 : decode cX9_init 67 = .ok (.invokespecial 40, 3) := by decide +kernel
theorem dX9_init_70 : decode cX9_init 70 = .ok (.putfield 41, 3) := by decide +kernel
theorem dX9_init_73 : decode cX9_init 73 = .ok (.aload_n 0, 1) := by decide +kernel
theorem dX9_init_74 : decode cX9_init 74 = .ok (.aload_n 3, 1) := by decide +kernel
theorem dX9_init_75 : decode cX9_init 75 = .ok (.putfield 45, 3) := by decide +kernel
theorem dX9_init_78 : decode cX9_init 78 = .ok (.aload_n 0, 1) := by decide +kernel
theorem dX9_init_79 : decode cX9_init 79 = .ok (.aload 4, 2) := by decide +kernel
theorem dX9_init_81 : decode cX9_init 81 = .ok (.putfield 49, 3) := by decide +kernel
theorem dX9_init_84 : decode cX9_init 84 = .ok (.aload_n 0, 1) := by decide +kernel
theorem dX9_init_85 : decode cX9_init 85 = .ok (.aload 5, 2) := by decide +kernel
theorem dX9_init_87 : decode cX9_init 87 = .ok (.putfield 53, 3) := by decide +kernel
theorem dX9_init_90 : decode cX9_init 90 = .ok (.aload_n 0, 1) := by decide +kernel
theorem dX9_init_91 : decode cX9_init 91 = .ok (.new 57, 3) := by decide +kernel
theorem dX9_init_94 : decode cX9_init 94 = .ok (.dup, 1) := by decide +kernel
theorem dX9_init_95 : decode cX9_init 95 = .ok (.aload_n 1, 1) := by decide +kernel
theorem dX9_init_96 : decode cX9_init 96 = .ok (.aload_n 2, 1) := by decide +kernel
theorem dX9_init_97 : decode cX9_init 97 = .ok (.aload_n 3, 1) := by decide +kernel
theorem dX9_init_98 : decode cX9_init 98 = .ok (.aload 4, 2) := by decide +kernel
theorem dX9_init_100 : decode cX9_init 100 = .ok (.aload 5, 2) := by decide +kernel
theorem dX9_init_102 : decode cX9_init 102 = .ok (.invokespecial 59, 3) := by decide +kernel
theorem dX9_init_105 : decode cX9_init 105 = .ok (.putfield 62, 3) := by decide +kernel
theorem dX9_init_108 : decode cX9_init 108 = .ok (.aload_n 0, 1) := by decide +kernel
theorem dX9_init_109 : decode cX9_init 109 = .ok (.new 66, 3) := by decide +kernel
theorem dX9_init_112 : decode cX9_init 112 = .ok (.dup, 1) := by decide +kernel
theorem dX9_init_113 : decode cX9_init 113 = .ok (.aload_n 1, 1) := by decide +kernel
theorem dX9_init_114 : decode cX9_init 114 = .ok (.aload 5, 2) := by decide +kernel
theorem dX9_init_116 : decode cX9_init 116 = .ok (.invokespecial 68, 3) := by decide +kernel
theorem dX9_init_119 : decode cX9_init 119 = .ok (.putfield 71, 3) := by decide +kernel
theorem dX9_init_122 : decode cX9_init 122 = .ok (.aload_n 0, 1) := by decide +kernel
theorem dX9_init_123 : decode cX9_init 123 = .ok (.new 75, 3) := by decide +kernel
theorem dX9_init_126 : decode cX9_init 126 = .ok (.dup, 1) := by decide +kernel
theorem dX9_init_127 : decode cX9_init 127 = .ok (.invokespecial 77, 3) := by decide +kernel
theorem dX9_init_130 : decode cX9_init 130 = .ok (.putfield 78, 3) := by decide +kernel
theorem dX9_init_133 : decode cX9_init 133 = .ok (.aload_n 0, 1) := by decide +kernel
theorem dX9_init_134 : decode cX9_init 134 = .ok (.bipush 7, 2) := by decide +kernel
theorem dX9_init_136 : decode cX9_init 136 = .ok (.newarray .int, 2) := by decide +kernel
theorem dX9_init_138 : decode cX9_init 138 = .ok (.putfield 82, 3) := by decide +kernel
theorem dX9_init_141 : decode cX9_init 141 = .ok (.return_, 1) := by decide +kernel
theorem dX9_of_0 : decode cX9_of 0 = .ok (.aload_n 0, 1) := by decide +kernel
theorem dX9_of_1 : decode cX9_of 1 = .ok (.getfield 28, 3) := by decide +kernel
theorem dX9_of_4 : decode cX9_of 4 = .ok (.iload_n 1, 1) := by decide +kernel
theorem dX9_of_5 : decode cX9_of 5 = .ok (.invokevirtual 86, 3) := by decide +kernel
theorem dX9_of_8 : decode cX9_of 8 = .ok (.ifCond .ne 9, 3) := by decide +kernel
theorem dX9_of_11 : decode cX9_of 11 = .ok (.aload_n 0, 1) := by decide +kernel
theorem dX9_of_12 : decode cX9_of 12 = .ok (.iconst (-1), 1) := by decide +kernel
theorem dX9_of_13 : decode cX9_of 13 = .ok (.invokevirtual 90, 3) := by decide +kernel
theorem dX9_of_16 : decode cX9_of 16 = .ok (.ireturn, 1) := by decide +kernel
theorem dX9_of_17 : decode cX9_of 17 = .ok (.iload_n 2, 1) := by decide +kernel
theorem dX9_of_18 : decode cX9_of 18 = .ok (.bipush 10, 2) := by decide +kernel
theorem dX9_of_20 : decode cX9_of 20 = .ok (.if_icmp .lt 22, 3) := by decide +kernel
theorem dX9_of_23 : decode cX9_of 23 = .ok (.iload_n 2, 1) := by decide +kernel
theorem dX9_of_24 : decode cX9_of 24 = .ok (.bipush 18, 2) := by decide +kernel
theorem dX9_of_26 : decode cX9_of 26 = .ok (.if_icmp .ge 16, 3) := by decide +kernel
theorem dX9_of_29 : decode cX9_of 29 = .ok (.aload_n 0, 1) := by decide +kernel
theorem dX9_of_30 : decode cX9_of 30 = .ok (.getfield 28, 3) := by decide +kernel
theorem dX9_of_33 : decode cX9_of 33 = .ok (.iload_n 1, 1) := by decide +kernel
theorem dX9_of_34 : decode cX9_of 34 = .ok (.iload_n 2, 1) := by decide +kernel
theorem dX9_of_35 : decode cX9_of 35 = .ok (.bipush 10, 2) := by decide +kernel
theorem dX9_of_37 : decode cX9_of 37 = .ok (.isub, 1) := by decide +kernel
theorem dX9_of_38 : decode cX9_of 38 = .ok (.invokevirtual 94, 3) := by decide +kernel
theorem dX9_of_41 : decode cX9_of 41 = .ok (.ireturn, 1) := by decide +kernel
theorem dX9_of_42 : decode cX9_of 42 = .ok (.iload_n 2, 1) := by decide +kernel
theorem dX9_of_43 : decode cX9_of 43 = .ok (.tableswitch 91 0 5 #[37, 46, 55, 64, 73, 82], 37) := by decide +kernel
theorem dX9_of_80 : decode cX9_of 80 = .ok (.aload_n 0, 1) := by decide +kernel
theorem dX9_of_81 : decode cX9_of 81 = .ok (.getfield 28, 3) := by decide +kernel
theorem dX9_of_84 : decode cX9_of 84 = .ok (.iload_n 1, 1) := by decide +kernel
theorem dX9_of_85 : decode cX9_of 85 = .ok (.invokevirtual 98, 3) := by decide +kernel
theorem dX9_of_88 : decode cX9_of 88 = .ok (.ireturn, 1) := by decide +kernel
theorem dX9_of_89 : decode cX9_of 89 = .ok (.aload_n 0, 1) := by decide +kernel
theorem dX9_of_90 : decode cX9_of 90 = .ok (.getfield 28, 3) := by decide +kernel
theorem dX9_of_93 : decode cX9_of 93 = .ok (.iload_n 1, 1) := by decide +kernel
theorem dX9_of_94 : decode cX9_of 94 = .ok (.invokevirtual 101, 3) := by decide +kernel
theorem dX9_of_97 : decode cX9_of 97 = .ok (.ireturn, 1) := by decide +kernel
theorem dX9_of_98 : decode cX9_of 98 = .ok (.aload_n 0, 1) := by decide +kernel
theorem dX9_of_99 : decode cX9_of 99 = .ok (.getfield 28, 3) := by decide +kernel
theorem dX9_of_102 : decode cX9_of 102 = .ok (.iload_n 1, 1) := by decide +kernel
theorem dX9_of_103 : decode cX9_of 103 = .ok (.invokevirtual 104, 3) := by decide +kernel
theorem dX9_of_106 : decode cX9_of 106 = .ok (.ireturn, 1) := by decide +kernel
theorem dX9_of_107 : decode cX9_of 107 = .ok (.aload_n 0, 1) := by decide +kernel
theorem dX9_of_108 : decode cX9_of 108 = .ok (.getfield 34, 3) := by decide +kernel
theorem dX9_of_111 : decode cX9_of 111 = .ok (.iload_n 1, 1) := by decide +kernel
theorem dX9_of_112 : decode cX9_of 112 = .ok (.invokevirtual 107, 3) := by decide +kernel
theorem dX9_of_115 : decode cX9_of 115 = .ok (.ireturn, 1) := by decide +kernel
theorem dX9_of_116 : decode cX9_of 116 = .ok (.aload_n 0, 1) := by decide +kernel
theorem dX9_of_117 : decode cX9_of 117 = .ok (.getfield 28, 3) := by decide +kernel
theorem dX9_of_120 : decode cX9_of 120 = .ok (.iload_n 1, 1) := by decide +kernel
theorem dX9_of_121 : decode cX9_of 121 = .ok (.invokevirtual 110, 3) := by decide +kernel
theorem dX9_of_124 : decode cX9_of 124 = .ok (.ireturn, 1) := by decide +kernel
theorem dX9_of_125 : decode cX9_of 125 = .ok (.aload_n 0, 1) := by decide +kernel
theorem dX9_of_126 : decode cX9_of 126 = .ok (.getfield 41, 3) := by decide +kernel
theorem dX9_of_129 : decode cX9_of 129 = .ok (.iload_n 1, 1) := by decide +kernel
theorem dX9_of_130 : decode cX9_of 130 = .ok (.invokevirtual 113, 3) := by decide +kernel
theorem dX9_of_133 : decode cX9_of 133 = .ok (.ireturn, 1) := by decide +kernel
theorem dX9_of_134 : decode cX9_of 134 = .ok (.aload_n 0, 1) := by decide +kernel
theorem dX9_of_135 : decode cX9_of 135 = .ok (.bipush (-2), 2) := by decide +kernel
theorem dX9_of_137 : decode cX9_of 137 = .ok (.invokevirtual 90, 3) := by decide +kernel
theorem dX9_of_140 : decode cX9_of 140 = .ok (.ireturn, 1) := by decide +kernel
theorem dX9_shape_0 : decode cX9_shape 0 = .ok (.aload_n 0, 1) := by decide +kernel
theorem dX9_shape_1 : decode cX9_shape 1 = .ok (.getfield 78, 3) := by decide +kernel
theorem dX9_shape_4 : decode cX9_shape 4 = .ok (.iload_n 1, 1) := by decide +kernel
theorem dX9_shape_5 : decode cX9_shape 5 = .ok (.invokevirtual 116, 3) := by decide +kernel
theorem dX9_shape_8 : decode cX9_shape 8 = .ok (.ifCond .ne 9, 3) := by decide +kernel
theorem dX9_shape_11 : decode cX9_shape 11 = .ok (.aload_n 0, 1) := by decide +kernel
theorem dX9_shape_12 : decode cX9_shape 12 = .ok (.iconst (-1), 1) := by decide +kernel
theorem dX9_shape_13 : decode cX9_shape 13 = .ok (.invokevirtual 90, 3) := by decide +kernel
theorem dX9_shape_16 : decode cX9_shape 16 = .ok (.ireturn, 1) := by decide +kernel
theorem dX9_shape_17 : decode cX9_shape 17 = .ok (.aload_n 0, 1) := by decide +kernel
theorem dX9_shape_18 : decode cX9_shape 18 = .ok (.getfield 78, 3) := by decide +kernel
theorem dX9_shape_21 : decode cX9_shape 21 = .ok (.iload_n 1, 1) := by decide +kernel
theorem dX9_shape_22 : decode cX9_shape 22 = .ok (.invokevirtual 117, 3) := by decide +kernel
theorem dX9_shape_25 : decode cX9_shape 25 = .ok (.ifCond .eq 8, 3) := by decide +kernel
theorem dX9_shape_28 : decode cX9_shape 28 = .ok (.bipush (-11), 2) := by decide +kernel
theorem dX9_shape_30 : decode cX9_shape 30 = .ok (.goto 8, 3) := by decide +kernel
theorem dX9_shape_33 : decode cX9_shape 33 = .ok (.aload_n 0, 1) := by decide +kernel
theorem dX9_shape_34 : decode cX9_shape 34 = .ok (.iload_n 1, 1) := by decide +kernel
theorem dX9_shape_35 : decode cX9_shape 35 = .ok (.invokevirtual 120, 3) := by decide +kernel
theorem dX9_shape_38 : decode cX9_shape 38 = .ok (.ireturn, 1) := by decide +kernel
theorem dX9_shapeTold_0 : decode cX9_shapeTold 0 = .ok (.iconst 0, 1) := by decide +kernel
theorem dX9_shapeTold_1 : decode cX9_shapeTold 1 = .ok (.istore_n 2, 1) := by decide +kernel
theorem dX9_shapeTold_2 : decode cX9_shapeTold 2 = .ok (.iconst 0, 1) := by decide +kernel
theorem dX9_shapeTold_3 : decode cX9_shapeTold 3 = .ok (.istore_n 3, 1) := by decide +kernel
theorem dX9_shapeTold_4 : decode cX9_shapeTold 4 = .ok (.bipush 8, 2) := by decide +kernel
theorem dX9_shapeTold_6 : decode cX9_shapeTold 6 = .ok (.istore 4, 2) := by decide +kernel
theorem dX9_shapeTold_8 : decode cX9_shapeTold 8 = .ok (.iconst 0, 1) := by decide +kernel
theorem dX9_shapeTold_9 : decode cX9_shapeTold 9 = .ok (.istore 5, 2) := by decide +kernel
theorem dX9_shapeTold_11 : decode cX9_shapeTold 11 = .ok (.iload 5, 2) := by decide +kernel
theorem dX9_shapeTold_13 : decode cX9_shapeTold 13 = .ok (.aload_n 0, 1) := by decide +kernel
theorem dX9_shapeTold_14 : decode cX9_shapeTold 14 = .ok (.getfield 78, 3) := by decide +kernel
theorem dX9_shapeTold_17 : decode cX9_shapeTold 17 = .ok (.iload_n 1, 1) := by decide +kernel
theorem dX9_shapeTold_18 : decode cX9_shapeTold 18 = .ok (.invokevirtual 123, 3) := by decide +kernel
theorem dX9_shapeTold_21 : decode cX9_shapeTold 21 = .ok (.if_icmp .ge 62, 3) := by decide +kernel
theorem dX9_shapeTold_24 : decode cX9_shapeTold 24 = .ok (.aload_n 0, 1) := by decide +kernel
theorem dX9_shapeTold_25 : decode cX9_shapeTold 25 = .ok (.getfield 78, 3) := by decide +kernel
theorem dX9_shapeTold_28 : decode cX9_shapeTold 28 = .ok (.iload_n 1, 1) := by decide +kernel
theorem dX9_shapeTold_29 : decode cX9_shapeTold 29 = .ok (.iload 5, 2) := by decide +kernel
theorem dX9_shapeTold_31 : decode cX9_shapeTold 31 = .ok (.invokevirtual 124, 3) := by decide +kernel
theorem dX9_shapeTold_34 : decode cX9_shapeTold 34 = .ok (.istore 6, 2) := by decide +kernel
theorem dX9_shapeTold_36 : decode cX9_shapeTold 36 = .ok (.iload 6, 2) := by decide +kernel
theorem dX9_shapeTold_38 : decode cX9_shapeTold 38 = .ok (.iconst 1, 1) := by decide +kernel
theorem dX9_shapeTold_39 : decode cX9_shapeTold 39 = .ok (.if_icmp .lt 19, 3) := by decide +kernel
theorem dX9_shapeTold_42 : decode cX9_shapeTold 42 = .ok (.iload 6, 2) := by decide +kernel
theorem dX9_shapeTold_44 : decode cX9_shapeTold 44 = .ok (.iload 4, 2) := by decide +kernel
theorem dX9_shapeTold_46 : decode cX9_shapeTold 46 = .ok (.if_icmp .gt 12, 3) := by decide +kernel
theorem dX9_shapeTold_49 : decode cX9_shapeTold 49 = .ok (.iload_n 3, 1) := by decide +kernel
theorem dX9_shapeTold_50 : decode cX9_shapeTold 50 = .ok (.iload 6, 2) := by decide +kernel
theorem dX9_shapeTold_52 : decode cX9_shapeTold 52 = .ok (.iadd, 1) := by decide +kernel
theorem dX9_shapeTold_53 : decode cX9_shapeTold 53 = .ok (.bipush 8, 2) := by decide +kernel
theorem dX9_shapeTold_55 : decode cX9_shapeTold 55 = .ok (.if_icmp .le 6, 3) := by decide +kernel
theorem dX9_shapeTold_58 : decode cX9_shapeTold 58 = .ok (.bipush (-9), 2) := by decide +kernel
theorem dX9_shapeTold_60 : decode cX9_shapeTold 60 = .ok (.ireturn, 1) := by decide +kernel
theorem dX9_shapeTold_61 : decode cX9_shapeTold 61 = .ok (.iload_n 2, 1) := by decide +kernel
theorem dX9_shapeTold_62 : decode cX9_shapeTold 62 = .ok (.iload 6, 2) := by decide +kernel
theorem dX9_shapeTold_64 : decode cX9_shapeTold 64 = .ok (.invokestatic 127, 3) := by decide +kernel
theorem dX9_shapeTold_67 : decode cX9_shapeTold 67 = .ok (.istore_n 2, 1) := by decide +kernel
theorem dX9_shapeTold_68 : decode cX9_shapeTold 68 = .ok (.iload_n 3, 1) := by decide +kernel
theorem dX9_shapeTold_69 : decode cX9_shapeTold 69 = .ok (.iload 6, 2) := by decide +kernel
theorem dX9_shapeTold_71 : decode cX9_shapeTold 71 = .ok (.iadd, 1) := by decide +kernel
theorem dX9_shapeTold_72 : decode cX9_shapeTold 72 = .ok (.istore_n 3, 1) := by decide +kernel
theorem dX9_shapeTold_73 : decode cX9_shapeTold 73 = .ok (.iload 6, 2) := by decide +kernel
theorem dX9_shapeTold_75 : decode cX9_shapeTold 75 = .ok (.istore 4, 2) := by decide +kernel
theorem dX9_shapeTold_77 : decode cX9_shapeTold 77 = .ok (.iinc 5 1, 3) := by decide +kernel
theorem dX9_shapeTold_80 : decode cX9_shapeTold 80 = .ok (.goto (-69), 3) := by decide +kernel
theorem dX9_shapeTold_83 : decode cX9_shapeTold 83 = .ok (.aload_n 0, 1) := by decide +kernel
theorem dX9_shapeTold_84 : decode cX9_shapeTold 84 = .ok (.getfield 28, 3) := by decide +kernel
theorem dX9_shapeTold_87 : decode cX9_shapeTold 87 = .ok (.iload_n 3, 1) := by decide +kernel
theorem dX9_shapeTold_88 : decode cX9_shapeTold 88 = .ok (.iload_n 2, 1) := by decide +kernel
theorem dX9_shapeTold_89 : decode cX9_shapeTold 89 = .ok (.invokevirtual 130, 3) := by decide +kernel
theorem dX9_shapeTold_92 : decode cX9_shapeTold 92 = .ok (.ireturn, 1) := by decide +kernel
theorem dX9_shapes_0 : decode cX9_shapes 0 = .ok (.iload_n 1, 1) := by decide +kernel
theorem dX9_shapes_1 : decode cX9_shapes 1 = .ok (.ifCond .ge 10, 3) := by decide +kernel
theorem dX9_shapes_4 : decode cX9_shapes 4 = .ok (.aload_n 0, 1) := by decide +kernel
theorem dX9_shapes_5 : decode cX9_shapes 5 = .ok (.bipush (-4), 2) := by decide +kernel
theorem dX9_shapes_7 : decode cX9_shapes 7 = .ok (.invokevirtual 90, 3) := by decide +kernel
theorem dX9_shapes_10 : decode cX9_shapes 10 = .ok (.ireturn, 1) := by decide +kernel
theorem dX9_shapes_11 : decode cX9_shapes 11 = .ok (.iload_n 1, 1) := by decide +kernel
theorem dX9_shapes_12 : decode cX9_shapes 12 = .ok (.bipush 8, 2) := by decide +kernel
theorem dX9_shapes_14 : decode cX9_shapes 14 = .ok (.if_icmp .le 10, 3) := by decide +kernel
theorem dX9_shapes_17 : decode cX9_shapes 17 = .ok (.aload_n 0, 1) := by decide +kernel
theorem dX9_shapes_18 : decode cX9_shapes 18 = .ok (.bipush (-6), 2) := by decide +kernel
theorem dX9_shapes_20 : decode cX9_shapes 20 = .ok (.invokevirtual 90, 3) := by decide +kernel
theorem dX9_shapes_23 : decode cX9_shapes 23 = .ok (.ireturn, 1) := by decide +kernel
theorem dX9_shapes_24 : decode cX9_shapes 24 = .ok (.iload_n 2, 1) := by decide +kernel
theorem dX9_shapes_25 : decode cX9_shapes 25 = .ok (.lookupswitch 45 #[(0, 27), (1, 36)], 27) := by decide +kernel
theorem dX9_shapes_52 : decode cX9_shapes 52 = .ok (.aload_n 0, 1) := by decide +kernel
theorem dX9_shapes_53 : decode cX9_shapes 53 = .ok (.getfield 28, 3) := by decide +kernel
theorem dX9_shapes_56 : decode cX9_shapes 56 = .ok (.iload_n 1, 1) := by decide +kernel
theorem dX9_shapes_57 : decode cX9_shapes 57 = .ok (.invokevirtual 133, 3) := by decide +kernel
theorem dX9_shapes_60 : decode cX9_shapes 60 = .ok (.ireturn, 1) := by decide +kernel
theorem dX9_shapes_61 : decode cX9_shapes 61 = .ok (.aload_n 0, 1) := by decide +kernel
theorem dX9_shapes_62 : decode cX9_shapes 62 = .ok (.getfield 28, 3) := by decide +kernel
theorem dX9_shapes_65 : decode cX9_shapes 65 = .ok (.iload_n 1, 1) := by decide +kernel
theorem dX9_shapes_66 : decode cX9_shapes 66 = .ok (.invokevirtual 136, 3) := by decide +kernel
theorem dX9_shapes_69 : decode cX9_shapes 69 = .ok (.ireturn, 1) := by decide +kernel
theorem dX9_shapes_70 : decode cX9_shapes 70 = .ok (.aload_n 0, 1) := by decide +kernel
theorem dX9_shapes_71 : decode cX9_shapes 71 = .ok (.bipush (-2), 2) := by decide +kernel
theorem dX9_shapes_73 : decode cX9_shapes 73 = .ok (.invokevirtual 90, 3) := by decide +kernel
theorem dX9_shapes_76 : decode cX9_shapes 76 = .ok (.ireturn, 1) := by decide +kernel
theorem dX9_hook_0 : decode cX9_hook 0 = .ok (.aload_n 0, 1) := by decide +kernel
theorem dX9_hook_1 : decode cX9_hook 1 = .ok (.getfield 28, 3) := by decide +kernel
theorem dX9_hook_4 : decode cX9_hook 4 = .ok (.iload_n 1, 1) := by decide +kernel
theorem dX9_hook_5 : decode cX9_hook 5 = .ok (.invokevirtual 86, 3) := by decide +kernel
theorem dX9_hook_8 : decode cX9_hook 8 = .ok (.ifCond .eq 16, 3) := by decide +kernel
theorem dX9_hook_11 : decode cX9_hook 11 = .ok (.aload_n 0, 1) := by decide +kernel
theorem dX9_hook_12 : decode cX9_hook 12 = .ok (.getfield 28, 3) := by decide +kernel
theorem dX9_hook_15 : decode cX9_hook 15 = .ok (.iload_n 1, 1) := by decide +kernel
theorem dX9_hook_16 : decode cX9_hook 16 = .ok (.iload_n 2, 1) := by decide +kernel
theorem dX9_hook_17 : decode cX9_hook 17 = .ok (.iload_n 3, 1) := by decide +kernel
theorem dX9_hook_18 : decode cX9_hook 18 = .ok (.invokevirtual 139, 3) := by decide +kernel
theorem dX9_hook_21 : decode cX9_hook 21 = .ok (.ifCond .ne 9, 3) := by decide +kernel
theorem dX9_hook_24 : decode cX9_hook 24 = .ok (.aload_n 0, 1) := by decide +kernel
theorem dX9_hook_25 : decode cX9_hook 25 = .ok (.iconst (-1), 1) := by decide +kernel
theorem dX9_hook_26 : decode cX9_hook 26 = .ok (.invokevirtual 90, 3) := by decide +kernel
theorem dX9_hook_29 : decode cX9_hook 29 = .ok (.ireturn, 1) := by decide +kernel
theorem dX9_hook_30 : decode cX9_hook 30 = .ok (.aload_n 0, 1) := by decide +kernel
theorem dX9_hook_31 : decode cX9_hook 31 = .ok (.getfield 28, 3) := by decide +kernel
theorem dX9_hook_34 : decode cX9_hook 34 = .ok (.iload_n 1, 1) := by decide +kernel
theorem dX9_hook_35 : decode cX9_hook 35 = .ok (.iload_n 2, 1) := by decide +kernel
theorem dX9_hook_36 : decode cX9_hook 36 = .ok (.iload_n 3, 1) := by decide +kernel
theorem dX9_hook_37 : decode cX9_hook 37 = .ok (.invokevirtual 143, 3) := by decide +kernel
theorem dX9_hook_40 : decode cX9_hook 40 = .ok (.ireturn, 1) := by decide +kernel
theorem dX9_rims_0 : decode cX9_rims 0 = .ok (.aload_n 0, 1) := by decide +kernel
theorem dX9_rims_1 : decode cX9_rims 1 = .ok (.getfield 28, 3) := by decide +kernel
theorem dX9_rims_4 : decode cX9_rims 4 = .ok (.iload_n 1, 1) := by decide +kernel
theorem dX9_rims_5 : decode cX9_rims 5 = .ok (.invokevirtual 86, 3) := by decide +kernel
theorem dX9_rims_8 : decode cX9_rims 8 = .ok (.ifCond .ne 9, 3) := by decide +kernel
theorem dX9_rims_11 : decode cX9_rims 11 = .ok (.aload_n 0, 1) := by decide +kernel
theorem dX9_rims_12 : decode cX9_rims 12 = .ok (.iconst (-1), 1) := by decide +kernel
theorem dX9_rims_13 : decode cX9_rims 13 = .ok (.invokevirtual 90, 3) := by decide +kernel
theorem dX9_rims_16 : decode cX9_rims 16 = .ok (.ireturn, 1) := by decide +kernel
theorem dX9_rims_17 : decode cX9_rims 17 = .ok (.iload_n 2, 1) := by decide +kernel
theorem dX9_rims_18 : decode cX9_rims 18 = .ok (.iconst 1, 1) := by decide +kernel
theorem dX9_rims_19 : decode cX9_rims 19 = .ok (.if_icmp .lt 8, 3) := by decide +kernel
theorem dX9_rims_22 : decode cX9_rims 22 = .ok (.iload_n 3, 1) := by decide +kernel
theorem dX9_rims_23 : decode cX9_rims 23 = .ok (.iconst (-1), 1) := by decide +kernel
theorem dX9_rims_24 : decode cX9_rims 24 = .ok (.if_icmp .ge 10, 3) := by decide +kernel
theorem dX9_rims_27 : decode cX9_rims 27 = .ok (.aload_n 0, 1) := by decide +kernel
theorem dX9_rims_28 : decode cX9_rims 28 = .ok (.bipush (-4), 2) := by decide +kernel
theorem dX9_rims_30 : decode cX9_rims 30 = .ok (.invokevirtual 90, 3) := by decide +kernel
theorem dX9_rims_33 : decode cX9_rims 33 = .ok (.ireturn, 1) := by decide +kernel
theorem dX9_rims_34 : decode cX9_rims 34 = .ok (.iload_n 2, 1) := by decide +kernel
theorem dX9_rims_35 : decode cX9_rims 35 = .ok (.bipush 8, 2) := by decide +kernel
theorem dX9_rims_37 : decode cX9_rims 37 = .ok (.if_icmp .le 10, 3) := by decide +kernel
theorem dX9_rims_40 : decode cX9_rims 40 = .ok (.aload_n 0, 1) := by decide +kernel
theorem dX9_rims_41 : decode cX9_rims 41 = .ok (.bipush (-6), 2) := by decide +kernel
theorem dX9_rims_43 : decode cX9_rims 43 = .ok (.invokevirtual 90, 3) := by decide +kernel
theorem dX9_rims_46 : decode cX9_rims 46 = .ok (.ireturn, 1) := by decide +kernel
theorem dX9_rims_47 : decode cX9_rims 47 = .ok (.iload_n 3, 1) := by decide +kernel
theorem dX9_rims_48 : decode cX9_rims 48 = .ok (.iconst (-1), 1) := by decide +kernel
theorem dX9_rims_49 : decode cX9_rims 49 = .ok (.if_icmp .ne 13, 3) := by decide +kernel
theorem dX9_rims_52 : decode cX9_rims 52 = .ok (.aload_n 0, 1) := by decide +kernel
theorem dX9_rims_53 : decode cX9_rims 53 = .ok (.getfield 34, 3) := by decide +kernel
theorem dX9_rims_56 : decode cX9_rims 56 = .ok (.iload_n 1, 1) := by decide +kernel
theorem dX9_rims_57 : decode cX9_rims 57 = .ok (.iload_n 2, 1) := by decide +kernel
theorem dX9_rims_58 : decode cX9_rims 58 = .ok (.invokevirtual 147, 3) := by decide +kernel
theorem dX9_rims_61 : decode cX9_rims 61 = .ok (.ireturn, 1) := by decide +kernel
theorem dX9_rims_62 : decode cX9_rims 62 = .ok (.aload_n 0, 1) := by decide +kernel
theorem dX9_rims_63 : decode cX9_rims 63 = .ok (.getfield 34, 3) := by decide +kernel
theorem dX9_rims_66 : decode cX9_rims 66 = .ok (.iload_n 1, 1) := by decide +kernel
theorem dX9_rims_67 : decode cX9_rims 67 = .ok (.iload_n 2, 1) := by decide +kernel
theorem dX9_rims_68 : decode cX9_rims 68 = .ok (.iload_n 3, 1) := by decide +kernel
theorem dX9_rims_69 : decode cX9_rims 69 = .ok (.invokevirtual 150, 3) := by decide +kernel
theorem dX9_rims_72 : decode cX9_rims 72 = .ok (.istore 4, 2) := by decide +kernel
theorem dX9_rims_74 : decode cX9_rims 74 = .ok (.iload 4, 2) := by decide +kernel
theorem dX9_rims_76 : decode cX9_rims 76 = .ok (.ifCond .ge 8, 3) := by decide +kernel
theorem dX9_rims_79 : decode cX9_rims 79 = .ok (.bipush (-9), 2) := by decide +kernel
theorem dX9_rims_81 : decode cX9_rims 81 = .ok (.goto 13, 3) := by decide +kernel
theorem dX9_rims_84 : decode cX9_rims 84 = .ok (.aload_n 0, 1) := by decide +kernel
theorem dX9_rims_85 : decode cX9_rims 85 = .ok (.getfield 34, 3) := by decide +kernel
theorem dX9_rims_88 : decode cX9_rims 88 = .ok (.iload_n 1, 1) := by decide +kernel
theorem dX9_rims_89 : decode cX9_rims 89 = .ok (.iload 4, 2) := by decide +kernel
theorem dX9_rims_91 : decode cX9_rims 91 = .ok (.invokevirtual 153, 3) := by decide +kernel
theorem dX9_rims_94 : decode cX9_rims 94 = .ok (.ireturn, 1) := by decide +kernel
theorem dX9_height_0 : decode cX9_height 0 = .ok (.aload_n 0, 1) := by decide +kernel
theorem dX9_height_1 : decode cX9_height 1 = .ok (.getfield 28, 3) := by decide +kernel
theorem dX9_height_4 : decode cX9_height 4 = .ok (.iload_n 1, 1) := by decide +kernel
theorem dX9_height_5 : decode cX9_height 5 = .ok (.invokevirtual 86, 3) := by decide +kernel
theorem dX9_height_8 : decode cX9_height 8 = .ok (.ifCond .ne 9, 3) := by decide +kernel
theorem dX9_height_11 : decode cX9_height 11 = .ok (.aload_n 0, 1) := by decide +kernel
theorem dX9_height_12 : decode cX9_height 12 = .ok (.iconst (-1), 1) := by decide +kernel
theorem dX9_height_13 : decode cX9_height 13 = .ok (.invokevirtual 90, 3) := by decide +kernel
theorem dX9_height_16 : decode cX9_height 16 = .ok (.ireturn, 1) := by decide +kernel
theorem dX9_height_17 : decode cX9_height 17 = .ok (.iload_n 2, 1) := by decide +kernel
theorem dX9_height_18 : decode cX9_height 18 = .ok (.iconst 1, 1) := by decide +kernel
theorem dX9_height_19 : decode cX9_height 19 = .ok (.if_icmp .lt 7, 3) := by decide +kernel
theorem dX9_height_22 : decode cX9_height 22 = .ok (.iload_n 3, 1) := by decide +kernel
theorem dX9_height_23 : decode cX9_height 23 = .ok (.ifCond .ge 10, 3) := by decide +kernel
theorem dX9_height_26 : decode cX9_height 26 = .ok (.aload_n 0, 1) := by decide +kernel
theorem dX9_height_27 : decode cX9_height 27 = .ok (.bipush (-4), 2) := by decide +kernel
theorem dX9_height_29 : decode cX9_height 29 = .ok (.invokevirtual 90, 3) := by decide +kernel
theorem dX9_height_32 : decode cX9_height 32 = .ok (.ireturn, 1) := by decide +kernel
theorem dX9_height_33 : decode cX9_height 33 = .ok (.iload_n 2, 1) := by decide +kernel
theorem dX9_height_34 : decode cX9_height 34 = .ok (.bipush 8, 2) := by decide +kernel
theorem dX9_height_36 : decode cX9_height 36 = .ok (.if_icmp .le 10, 3) := by decide +kernel
theorem dX9_height_39 : decode cX9_height 39 = .ok (.aload_n 0, 1) := by decide +kernel
theorem dX9_height_40 : decode cX9_height 40 = .ok (.bipush (-6), 2) := by decide +kernel
theorem dX9_height_42 : decode cX9_height 42 = .ok (.invokevirtual 90, 3) := by decide +kernel
theorem dX9_height_45 : decode cX9_height 45 = .ok (.ireturn, 1) := by decide +kernel
theorem dX9_height_46 : decode cX9_height 46 = .ok (.aload_n 0, 1) := by decide +kernel
theorem dX9_height_47 : decode cX9_height 47 = .ok (.getfield 34, 3) := by decide +kernel
theorem dX9_height_50 : decode cX9_height 50 = .ok (.iload_n 1, 1) := by decide +kernel
theorem dX9_height_51 : decode cX9_height 51 = .ok (.iload_n 2, 1) := by decide +kernel
theorem dX9_height_52 : decode cX9_height 52 = .ok (.iload_n 3, 1) := by decide +kernel
theorem dX9_height_53 : decode cX9_height 53 = .ok (.invokevirtual 150, 3) := by decide +kernel
theorem dX9_height_56 : decode cX9_height 56 = .ok (.istore 4, 2) := by decide +kernel
theorem dX9_height_58 : decode cX9_height 58 = .ok (.iload 4, 2) := by decide +kernel
theorem dX9_height_60 : decode cX9_height 60 = .ok (.ifCond .ge 8, 3) := by decide +kernel
theorem dX9_height_63 : decode cX9_height 63 = .ok (.bipush (-9), 2) := by decide +kernel
theorem dX9_height_65 : decode cX9_height 65 = .ok (.goto 13, 3) := by decide +kernel
theorem dX9_height_68 : decode cX9_height 68 = .ok (.aload_n 0, 1) := by decide +kernel
theorem dX9_height_69 : decode cX9_height 69 = .ok (.getfield 34, 3) := by decide +kernel
theorem dX9_height_72 : decode cX9_height 72 = .ok (.iload_n 1, 1) := by decide +kernel
theorem dX9_height_73 : decode cX9_height 73 = .ok (.iload 4, 2) := by decide +kernel
theorem dX9_height_75 : decode cX9_height 75 = .ok (.invokevirtual 156, 3) := by decide +kernel
theorem dX9_height_78 : decode cX9_height 78 = .ok (.ireturn, 1) := by decide +kernel
theorem dX9_character_0 : decode cX9_character 0 = .ok (.aload_n 0, 1) := by decide +kernel
theorem dX9_character_1 : decode cX9_character 1 = .ok (.getfield 28, 3) := by decide +kernel
theorem dX9_character_4 : decode cX9_character 4 = .ok (.iload_n 1, 1) := by decide +kernel
theorem dX9_character_5 : decode cX9_character 5 = .ok (.invokevirtual 86, 3) := by decide +kernel
theorem dX9_character_8 : decode cX9_character 8 = .ok (.ifCond .eq 14, 3) := by decide +kernel
theorem dX9_character_11 : decode cX9_character 11 = .ok (.aload_n 0, 1) := by decide +kernel
theorem dX9_character_12 : decode cX9_character 12 = .ok (.getfield 28, 3) := by decide +kernel
theorem dX9_character_15 : decode cX9_character 15 = .ok (.iload_n 2, 1) := by decide +kernel
theorem dX9_character_16 : decode cX9_character 16 = .ok (.invokevirtual 86, 3) := by decide +kernel
theorem dX9_character_19 : decode cX9_character 19 = .ok (.ifCond .ne 9, 3) := by decide +kernel
theorem dX9_character_22 : decode cX9_character 22 = .ok (.aload_n 0, 1) := by decide +kernel
theorem dX9_character_23 : decode cX9_character 23 = .ok (.iconst (-1), 1) := by decide +kernel
theorem dX9_character_24 : decode cX9_character 24 = .ok (.invokevirtual 159, 3) := by decide +kernel
theorem dX9_character_27 : decode cX9_character 27 = .ok (.ireturn, 1) := by decide +kernel
theorem dX9_character_28 : decode cX9_character 28 = .ok (.aload_n 0, 1) := by decide +kernel
theorem dX9_character_29 : decode cX9_character 29 = .ok (.getfield 28, 3) := by decide +kernel
theorem dX9_character_32 : decode cX9_character 32 = .ok (.iload_n 1, 1) := by decide +kernel
theorem dX9_character_33 : decode cX9_character 33 = .ok (.iload_n 2, 1) := by decide +kernel
theorem dX9_character_34 : decode cX9_character 34 = .ok (.invokevirtual 162, 3) := by decide +kernel
theorem dX9_character_37 : decode cX9_character 37 = .ok (.ifCond .ne 10, 3) := by decide +kernel
theorem dX9_character_40 : decode cX9_character 40 = .ok (.aload_n 0, 1) := by decide +kernel
theorem dX9_character_41 : decode cX9_character 41 = .ok (.bipush (-3), 2) := by decide +kernel
theorem dX9_character_43 : decode cX9_character 43 = .ok (.invokevirtual 159, 3) := by decide +kernel
theorem dX9_character_46 : decode cX9_character 46 = .ok (.ireturn, 1) := by decide +kernel
theorem dX9_character_47 : decode cX9_character 47 = .ok (.aload_n 0, 1) := by decide +kernel
theorem dX9_character_48 : decode cX9_character 48 = .ok (.getfield 45, 3) := by decide +kernel
theorem dX9_character_51 : decode cX9_character 51 = .ok (.iload_n 1, 1) := by decide +kernel
theorem dX9_character_52 : decode cX9_character 52 = .ok (.iload_n 2, 1) := by decide +kernel
theorem dX9_character_53 : decode cX9_character 53 = .ok (.invokevirtual 166, 3) := by decide +kernel
theorem dX9_character_56 : decode cX9_character 56 = .ok (.ireturn, 1) := by decide +kernel
theorem dX9_odds_0 : decode cX9_odds 0 = .ok (.iload_n 1, 1) := by decide +kernel
theorem dX9_odds_1 : decode cX9_odds 1 = .ok (.ifCond .ge 10, 3) := by decide +kernel
theorem dX9_odds_4 : decode cX9_odds 4 = .ok (.aload_n 0, 1) := by decide +kernel
theorem dX9_odds_5 : decode cX9_odds 5 = .ok (.bipush (-4), 2) := by decide +kernel
theorem dX9_odds_7 : decode cX9_odds 7 = .ok (.invokevirtual 167, 3) := by decide +kernel
theorem dX9_odds_10 : decode cX9_odds 10 = .ok (.lreturn, 1) := by decide +kernel
theorem dX9_odds_11 : decode cX9_odds 11 = .ok (.iload_n 1, 1) := by decide +kernel
theorem dX9_odds_12 : decode cX9_odds 12 = .ok (.bipush 8, 2) := by decide +kernel
theorem dX9_odds_14 : decode cX9_odds 14 = .ok (.if_icmp .le 10, 3) := by decide +kernel
theorem dX9_odds_17 : decode cX9_odds 17 = .ok (.aload_n 0, 1) := by decide +kernel
theorem dX9_odds_18 : decode cX9_odds 18 = .ok (.bipush (-6), 2) := by decide +kernel
theorem dX9_odds_20 : decode cX9_odds 20 = .ok (.invokevirtual 167, 3) := by decide +kernel
theorem dX9_odds_23 : decode cX9_odds 23 = .ok (.lreturn, 1) := by decide +kernel
theorem dX9_odds_24 : decode cX9_odds 24 = .ok (.iload_n 2, 1) := by decide +kernel
theorem dX9_odds_25 : decode cX9_odds 25 = .ok (.ifCond .lt 18, 3) := by decide +kernel
theorem dX9_odds_28 : decode cX9_odds 28 = .ok (.iload_n 2, 1) := by decide +kernel
theorem dX9_odds_29 : decode cX9_odds 29 = .ok (.bipush 7, 2) := by decide +kernel
theorem dX9_odds_31 : decode cX9_odds 31 = .ok (.if_icmp .ge 12, 3) := by decide +kernel
theorem dX9_odds_34 : decode cX9_odds 34 = .ok (.iload_n 3, 1) := by decide +kernel
theorem dX9_odds_35 : decode cX9_odds 35 = .ok (.ifCond .lt 8, 3) := by decide +kernel
theorem dX9_odds_38 : decode cX9_odds 38 = .ok (.iload_n 3, 1) := by decide +kernel
theorem dX9_odds_39 : decode cX9_odds 39 = .ok (.iconst 1, 1) := by decide +kernel
theorem dX9_odds_40 : decode cX9_odds 40 = .ok (.if_icmp .le 10, 3) := by decide +kernel
theorem dX9_odds_43 : decode cX9_odds 43 = .ok (.aload_n 0, 1) := by decide +kernel
theorem dX9_odds_44 : decode cX9_odds 44 = .ok (.bipush (-2), 2) := by decide +kernel
theorem dX9_odds_46 : decode cX9_odds 46 = .ok (.invokevirtual 167, 3) := by decide +kernel
theorem dX9_odds_49 : decode cX9_odds 49 = .ok (.lreturn, 1) := by decide +kernel
theorem dX9_odds_50 : decode cX9_odds 50 = .ok (.aload_n 0, 1) := by decide +kernel
theorem dX9_odds_51 : decode cX9_odds 51 = .ok (.getfield 41, 3) := by decide +kernel
theorem dX9_odds_54 : decode cX9_odds 54 = .ok (.iload_n 1, 1) := by decide +kernel
theorem dX9_odds_55 : decode cX9_odds 55 = .ok (.iload_n 2, 1) := by decide +kernel
theorem dX9_odds_56 : decode cX9_odds 56 = .ok (.invokevirtual 171, 3) := by decide +kernel
theorem dX9_odds_59 : decode cX9_odds 59 = .ok (.istore 4, 2) := by decide +kernel
theorem dX9_odds_61 : decode cX9_odds 61 = .ok (.aload_n 0, 1) := by decide +kernel
theorem dX9_odds_62 : decode cX9_odds 62 = .ok (.getfield 28, 3) := by decide +kernel
theorem dX9_odds_65 : decode cX9_odds 65 = .ok (.iload_n 1, 1) := by decide +kernel
theorem dX9_odds_66 : decode cX9_odds 66 = .ok (.invokevirtual 136, 3) := by decide +kernel
theorem dX9_odds_69 : decode cX9_odds 69 = .ok (.istore 5, 2) := by decide +kernel
theorem dX9_odds_71 : decode cX9_odds 71 = .ok (.iload_n 3, 1) := by decide +kernel
theorem dX9_odds_72 : decode cX9_odds 72 = .ok (.ifCond .ne 8, 3) := by decide +kernel
theorem dX9_odds_75 : decode cX9_odds 75 = .ok (.iload 4, 2) := by decide +kernel
theorem dX9_odds_77 : decode cX9_odds 77 = .ok (.goto 5, 3) := by decide +kernel
theorem dX9_odds_80 : decode cX9_odds 80 = .ok (.iload 5, 2) := by decide +kernel
theorem dX9_odds_82 : decode cX9_odds 82 = .ok (.iload 4, 2) := by decide +kernel
theorem dX9_odds_84 : decode cX9_odds 84 = .ok (.iload 5, 2) := by decide +kernel
theorem dX9_odds_86 : decode cX9_odds 86 = .ok (.invokestatic 172, 3) := by decide +kernel
theorem dX9_odds_89 : decode cX9_odds 89 = .ok (.i2l, 1) := by decide +kernel
theorem dX9_odds_90 : decode cX9_odds 90 = .ok (.lreturn, 1) := by decide +kernel
theorem dX9_inLeastTerms_0 : decode cX9_inLeastTerms 0 = .ok (.iload_n 2, 1) := by decide +kernel
theorem dX9_inLeastTerms_1 : decode cX9_inLeastTerms 1 = .ok (.istore_n 3, 1) := by decide +kernel
theorem dX9_inLeastTerms_2 : decode cX9_inLeastTerms 2 = .ok (.iload_n 3, 1) := by decide +kernel
theorem dX9_inLeastTerms_3 : decode cX9_inLeastTerms 3 = .ok (.iconst 1, 1) := by decide +kernel
theorem dX9_inLeastTerms_4 : decode cX9_inLeastTerms 4 = .ok (.if_icmp .le 25, 3) := by decide +kernel
theorem dX9_inLeastTerms_7 : decode cX9_inLeastTerms 7 = .ok (.iload_n 1, 1) := by decide +kernel
theorem dX9_inLeastTerms_8 : decode cX9_inLeastTerms 8 = .ok (.iload_n 3, 1) := by decide +kernel
theorem dX9_inLeastTerms_9 : decode cX9_inLeastTerms 9 = .ok (.irem, 1) := by decide +kernel
theorem dX9_inLeastTerms_10 : decode cX9_inLeastTerms 10 = .ok (.ifCond .ne 13, 3) := by decide +kernel
theorem dX9_inLeastTerms_13 : decode cX9_inLeastTerms 13 = .ok (.iload_n 2, 1) := by decide +kernel
theorem dX9_inLeastTerms_14 : decode cX9_inLeastTerms 14 = .ok (.iload_n 3, 1) := by decide +kernel
theorem dX9_inLeastTerms_15 : decode cX9_inLeastTerms 15 = .ok (.irem, 1) := by decide +kernel
theorem dX9_inLeastTerms_16 : decode cX9_inLeastTerms 16 = .ok (.ifCond .ne 7, 3) := by decide +kernel
theorem dX9_inLeastTerms_19 : decode cX9_inLeastTerms 19 = .ok (.iload_n 0, 1) := by decide +kernel
theorem dX9_inLeastTerms_20 : decode cX9_inLeastTerms 20 = .ok (.iload_n 3, 1) := by decide +kernel
theorem dX9_inLeastTerms_21 : decode cX9_inLeastTerms 21 = .ok (.idiv, 1) := by decide +kernel
theorem dX9_inLeastTerms_22 : decode cX9_inLeastTerms 22 = .ok (.ireturn, 1) := by decide +kernel
theorem dX9_inLeastTerms_23 : decode cX9_inLeastTerms 23 = .ok (.iinc 3 (-1), 3) := by decide +kernel
theorem dX9_inLeastTerms_26 : decode cX9_inLeastTerms 26 = .ok (.goto (-24), 3) := by decide +kernel
theorem dX9_inLeastTerms_29 : decode cX9_inLeastTerms 29 = .ok (.iload_n 0, 1) := by decide +kernel
theorem dX9_inLeastTerms_30 : decode cX9_inLeastTerms 30 = .ok (.ireturn, 1) := by decide +kernel
theorem dX9_number_0 : decode cX9_number 0 = .ok (.aload_n 0, 1) := by decide +kernel
theorem dX9_number_1 : decode cX9_number 1 = .ok (.getfield 28, 3) := by decide +kernel
theorem dX9_number_4 : decode cX9_number 4 = .ok (.iload_n 1, 1) := by decide +kernel
theorem dX9_number_5 : decode cX9_number 5 = .ok (.invokevirtual 86, 3) := by decide +kernel
theorem dX9_number_8 : decode cX9_number 8 = .ok (.ifCond .eq 25, 3) := by decide +kernel
theorem dX9_number_11 : decode cX9_number 11 = .ok (.aload_n 0, 1) := by decide +kernel
theorem dX9_number_12 : decode cX9_number 12 = .ok (.getfield 28, 3) := by decide +kernel
theorem dX9_number_15 : decode cX9_number 15 = .ok (.iload_n 2, 1) := by decide +kernel
theorem dX9_number_16 : decode cX9_number 16 = .ok (.invokevirtual 86, 3) := by decide +kernel
theorem dX9_number_19 : decode cX9_number 19 = .ok (.ifCond .eq 14, 3) := by decide +kernel
theorem dX9_number_22 : decode cX9_number 22 = .ok (.aload_n 0, 1) := by decide +kernel
theorem dX9_number_23 : decode cX9_number 23 = .ok (.getfield 28, 3) := by decide +kernel
theorem dX9_number_26 : decode cX9_number 26 = .ok (.iload_n 3, 1) := by decide +kernel
theorem dX9_number_27 : decode cX9_number 27 = .ok (.invokevirtual 86, 3) := by decide +kernel
theorem dX9_number_30 : decode cX9_number 30 = .ok (.ifCond .ne 9, 3) := by decide +kernel
theorem dX9_number_33 : decode cX9_number 33 = .ok (.aload_n 0, 1) := by decide +kernel
theorem dX9_number_34 : decode cX9_number 34 = .ok (.iconst (-1), 1) := by decide +kernel
theorem dX9_number_35 : decode cX9_number 35 = .ok (.invokevirtual 90, 3) := by decide +kernel
theorem dX9_number_38 : decode cX9_number 38 = .ok (.ireturn, 1) := by decide +kernel
theorem dX9_number_39 : decode cX9_number 39 = .ok (.aload_n 0, 1) := by decide +kernel
theorem dX9_number_40 : decode cX9_number 40 = .ok (.getfield 28, 3) := by decide +kernel
theorem dX9_number_43 : decode cX9_number 43 = .ok (.iload_n 1, 1) := by decide +kernel
theorem dX9_number_44 : decode cX9_number 44 = .ok (.iload_n 2, 1) := by decide +kernel
theorem dX9_number_45 : decode cX9_number 45 = .ok (.invokevirtual 162, 3) := by decide +kernel
theorem dX9_number_48 : decode cX9_number 48 = .ok (.ifCond .eq 15, 3) := by decide +kernel
theorem dX9_number_51 : decode cX9_number 51 = .ok (.aload_n 0, 1) := by decide +kernel
theorem dX9_number_52 : decode cX9_number 52 = .ok (.getfield 28, 3) := by decide +kernel
theorem dX9_number_55 : decode cX9_number 55 = .ok (.iload_n 1, 1) := by decide +kernel
theorem dX9_number_56 : decode cX9_number 56 = .ok (.iload_n 3, 1) := by decide +kernel
theorem dX9_number_57 : decode cX9_number 57 = .ok (.invokevirtual 162, 3) := by decide +kernel
theorem dX9_number_60 : decode cX9_number 60 = .ok (.ifCond .ne 10, 3) := by decide +kernel
theorem dX9_number_63 : decode cX9_number 63 = .ok (.aload_n 0, 1) := by decide +kernel
theorem dX9_number_64 : decode cX9_number 64 = .ok (.bipush (-3), 2) := by decide +kernel
theorem dX9_number_66 : decode cX9_number 66 = .ok (.invokevirtual 90, 3) := by decide +kernel
theorem dX9_number_69 : decode cX9_number 69 = .ok (.ireturn, 1) := by decide +kernel
theorem dX9_number_70 : decode cX9_number 70 = .ok (.aload_n 0, 1) := by decide +kernel
theorem dX9_number_71 : decode cX9_number 71 = .ok (.getfield 49, 3) := by decide +kernel
theorem dX9_number_74 : decode cX9_number 74 = .ok (.iload_n 1, 1) := by decide +kernel
theorem dX9_number_75 : decode cX9_number 75 = .ok (.iload_n 2, 1) := by decide +kernel
theorem dX9_number_76 : decode cX9_number 76 = .ok (.iload_n 3, 1) := by decide +kernel
theorem dX9_number_77 : decode cX9_number 77 = .ok (.invokevirtual 175, 3) := by decide +kernel
theorem dX9_number_80 : decode cX9_number 80 = .ok (.ireturn, 1) := by decide +kernel
theorem dX9_product_0 : decode cX9_product 0 = .ok (.aload_n 0, 1) := by decide +kernel
theorem dX9_product_1 : decode cX9_product 1 = .ok (.getfield 28, 3) := by decide +kernel
theorem dX9_product_4 : decode cX9_product 4 = .ok (.iload_n 1, 1) := by decide +kernel
theorem dX9_product_5 : decode cX9_product 5 = .ok (.invokevirtual 86, 3) := by decide +kernel
theorem dX9_product_8 : decode cX9_product 8 = .ok (.ifCond .eq 14, 3) := by decide +kernel
theorem dX9_product_11 : decode cX9_product 11 = .ok (.aload_n 0, 1) := by decide +kernel
theorem dX9_product_12 : decode cX9_product 12 = .ok (.getfield 28, 3) := by decide +kernel
theorem dX9_product_15 : decode cX9_product 15 = .ok (.iload_n 2, 1) := by decide +kernel
theorem dX9_product_16 : decode cX9_product 16 = .ok (.invokevirtual 86, 3) := by decide +kernel
theorem dX9_product_19 : decode cX9_product 19 = .ok (.ifCond .ne 9, 3) := by decide +kernel
theorem dX9_product_22 : decode cX9_product 22 = .ok (.aload_n 0, 1) := by decide +kernel
theorem dX9_product_23 : decode cX9_product 23 = .ok (.iconst (-1), 1) := by decide +kernel
theorem dX9_product_24 : decode cX9_product 24 = .ok (.invokevirtual 90, 3) := by decide +kernel
theorem dX9_product_27 : decode cX9_product 27 = .ok (.ireturn, 1) := by decide +kernel
theorem dX9_product_28 : decode cX9_product 28 = .ok (.aload_n 0, 1) := by decide +kernel
theorem dX9_product_29 : decode cX9_product 29 = .ok (.getfield 28, 3) := by decide +kernel
theorem dX9_product_32 : decode cX9_product 32 = .ok (.iload_n 1, 1) := by decide +kernel
theorem dX9_product_33 : decode cX9_product 33 = .ok (.iload_n 2, 1) := by decide +kernel
theorem dX9_product_34 : decode cX9_product 34 = .ok (.invokevirtual 162, 3) := by decide +kernel
theorem dX9_product_37 : decode cX9_product 37 = .ok (.ifCond .ne 10, 3) := by decide +kernel
theorem dX9_product_40 : decode cX9_product 40 = .ok (.aload_n 0, 1) := by decide +kernel
theorem dX9_product_41 : decode cX9_product 41 = .ok (.bipush (-3), 2) := by decide +kernel
theorem dX9_product_43 : decode cX9_product 43 = .ok (.invokevirtual 90, 3) := by decide +kernel
theorem dX9_product_46 : decode cX9_product 46 = .ok (.ireturn, 1) := by decide +kernel
theorem dX9_product_47 : decode cX9_product 47 = .ok (.iload_n 3, 1) := by decide +kernel
theorem dX9_product_48 : decode cX9_product 48 = .ok (.iconst (-1), 1) := by decide +kernel
theorem dX9_product_49 : decode cX9_product 49 = .ok (.if_icmp .ge 10, 3) := by decide +kernel
theorem dX9_product_52 : decode cX9_product 52 = .ok (.aload_n 0, 1) := by decide +kernel
theorem dX9_product_53 : decode cX9_product 53 = .ok (.bipush (-4), 2) := by decide +kernel
theorem dX9_product_55 : decode cX9_product 55 = .ok (.invokevirtual 90, 3) := by decide +kernel
theorem dX9_product_58 : decode cX9_product 58 = .ok (.ireturn, 1) := by decide +kernel
theorem dX9_product_59 : decode cX9_product 59 = .ok (.iload_n 3, 1) := by decide +kernel
theorem dX9_product_60 : decode cX9_product 60 = .ok (.iconst (-1), 1) := by decide +kernel
theorem dX9_product_61 : decode cX9_product 61 = .ok (.if_icmp .ne 15, 3) := by decide +kernel
theorem dX9_product_64 : decode cX9_product 64 = .ok (.aload_n 0, 1) := by decide +kernel
theorem dX9_product_65 : decode cX9_product 65 = .ok (.getfield 49, 3) := by decide +kernel
theorem dX9_product_68 : decode cX9_product 68 = .ok (.iload_n 1, 1) := by decide +kernel
theorem dX9_product_69 : decode cX9_product 69 = .ok (.iload_n 2, 1) := by decide +kernel
theorem dX9_product_70 : decode cX9_product 70 = .ok (.invokevirtual 177, 3) := by decide +kernel
theorem dX9_product_73 : decode cX9_product 73 = .ok (.goto 13, 3) := by decide +kernel
theorem dX9_product_76 : decode cX9_product 76 = .ok (.aload_n 0, 1) := by decide +kernel
theorem dX9_product_77 : decode cX9_product 77 = .ok (.getfield 49, 3) := by decide +kernel
theorem dX9_product_80 : decode cX9_product 80 = .ok (.iload_n 1, 1) := by decide +kernel
theorem dX9_product_81 : decode cX9_product 81 = .ok (.iload_n 2, 1) := by decide +kernel
theorem dX9_product_82 : decode cX9_product 82 = .ok (.iload_n 3, 1) := by decide +kernel
theorem dX9_product_83 : decode cX9_product 83 = .ok (.invokevirtual 180, 3) := by decide +kernel
theorem dX9_product_86 : decode cX9_product 86 = .ok (.ireturn, 1) := by decide +kernel
theorem dX9_greatest_0 : decode cX9_greatest 0 = .ok (.aload_n 0, 1) := by decide +kernel
theorem dX9_greatest_1 : decode cX9_greatest 1 = .ok (.getfield 28, 3) := by decide +kernel
theorem dX9_greatest_4 : decode cX9_greatest 4 = .ok (.iload_n 1, 1) := by decide +kernel
theorem dX9_greatest_5 : decode cX9_greatest 5 = .ok (.invokevirtual 86, 3) := by decide +kernel
theorem dX9_greatest_8 : decode cX9_greatest 8 = .ok (.ifCond .eq 14, 3) := by decide +kernel
theorem dX9_greatest_11 : decode cX9_greatest 11 = .ok (.aload_n 0, 1) := by decide +kernel
theorem dX9_greatest_12 : decode cX9_greatest 12 = .ok (.getfield 28, 3) := by decide +kernel
theorem dX9_greatest_15 : decode cX9_greatest 15 = .ok (.iload_n 2, 1) := by decide +kernel
theorem dX9_greatest_16 : decode cX9_greatest 16 = .ok (.invokevirtual 86, 3) := by decide +kernel
theorem dX9_greatest_19 : decode cX9_greatest 19 = .ok (.ifCond .ne 9, 3) := by decide +kernel
theorem dX9_greatest_22 : decode cX9_greatest 22 = .ok (.aload_n 0, 1) := by decide +kernel
theorem dX9_greatest_23 : decode cX9_greatest 23 = .ok (.iconst (-1), 1) := by decide +kernel
theorem dX9_greatest_24 : decode cX9_greatest 24 = .ok (.invokevirtual 90, 3) := by decide +kernel
theorem dX9_greatest_27 : decode cX9_greatest 27 = .ok (.ireturn, 1) := by decide +kernel
theorem dX9_greatest_28 : decode cX9_greatest 28 = .ok (.aload_n 0, 1) := by decide +kernel
theorem dX9_greatest_29 : decode cX9_greatest 29 = .ok (.getfield 28, 3) := by decide +kernel
