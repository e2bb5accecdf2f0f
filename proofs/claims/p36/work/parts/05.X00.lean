theorem dX0_init_0 : decode cX0_init 0 = .ok (.aload_n 0, 1) := by decide +kernel
theorem dX0_init_1 : decode cX0_init 1 = .ok (.invokespecial 3, 3) := by decide +kernel
theorem dX0_init_4 : decode cX0_init 4 = .ok (.aload_n 0, 1) := by decide +kernel
theorem dX0_init_5 : decode cX0_init 5 = .ok (.bipush 22, 2) := by decide +kernel
theorem dX0_init_7 : decode cX0_init 7 = .ok (.newarray .long, 2) := by decide +kernel
theorem dX0_init_9 : decode cX0_init 9 = .ok (.putfield 9, 3) := by decide +kernel
theorem dX0_init_12 : decode cX0_init 12 = .ok (.aload_n 0, 1) := by decide +kernel
theorem dX0_init_13 : decode cX0_init 13 = .ok (.aload_n 1, 1) := by decide +kernel
theorem dX0_init_14 : decode cX0_init 14 = .ok (.putfield 15, 3) := by decide +kernel
theorem dX0_init_17 : decode cX0_init 17 = .ok (.aload_n 0, 1) := by decide +kernel
theorem dX0_init_18 : decode cX0_init 18 = .ok (.aload_n 2, 1) := by decide +kernel
theorem dX0_init_19 : decode cX0_init 19 = .ok (.putfield 19, 3) := by decide +kernel
theorem dX0_init_22 : decode cX0_init 22 = .ok (.aload_n 0, 1) := by decide +kernel
theorem dX0_init_23 : decode cX0_init 23 = .ok (.aload_n 3, 1) := by decide +kernel
theorem dX0_init_24 : decode cX0_init 24 = .ok (.putfield 23, 3) := by decide +kernel
theorem dX0_init_27 : decode cX0_init 27 = .ok (.aload_n 0, 1) := by decide +kernel
theorem dX0_init_28 : decode cX0_init 28 = .ok (.aload 4, 2) := by decide +kernel
theorem dX0_init_30 : decode cX0_init 30 = .ok (.putfield 27, 3) := by decide +kernel
theorem dX0_init_33 : decode cX0_init 33 = .ok (.aload_n 0, 1) := by decide +kernel
theorem dX0_init_34 : decode cX0_init 34 = .ok (.aload 5, 2) := by decide +kernel
theorem dX0_init_36 : decode cX0_init 36 = .ok (.putfield 31, 3) := by decide +kernel
theorem dX0_init_39 : decode cX0_init 39 = .ok (.return_, 1) := by decide +kernel
theorem dX0_begin_0 : decode cX0_begin 0 = .ok (.iconst 0, 1) := by decide +kernel
theorem dX0_begin_1 : decode cX0_begin 1 = .ok (.istore_n 1, 1) := by decide +kernel
theorem dX0_begin_2 : decode cX0_begin 2 = .ok (.iload_n 1, 1) := by decide +kernel
theorem dX0_begin_3 : decode cX0_begin 3 = .ok (.bipush 22, 2) := by decide +kernel
theorem dX0_begin_5 : decode cX0_begin 5 = .ok (.if_icmp .ge 16, 3) := by decide +kernel
theorem dX0_begin_8 : decode cX0_begin 8 = .ok (.aload_n 0, 1) := by decide +kernel
theorem dX0_begin_9 : decode cX0_begin 9 = .ok (.getfield 9, 3) := by decide +kernel
theorem dX0_begin_12 : decode cX0_begin 12 = .ok (.iload_n 1, 1) := by decide +kernel
theorem dX0_begin_13 : decode cX0_begin 13 = .ok (.lconst 0, 1) := by decide +kernel
theorem dX0_begin_14 : decode cX0_begin 14 = .ok (.lastore, 1) := by decide +kernel
theorem dX0_begin_15 : decode cX0_begin 15 = .ok (.iinc 1 1, 3) := by decide +kernel
theorem dX0_begin_18 : decode cX0_begin 18 = .ok (.goto (-16), 3) := by decide +kernel
theorem dX0_begin_21 : decode cX0_begin 21 = .ok (.return_, 1) := by decide +kernel
theorem dX0_add_0 : decode cX0_add 0 = .ok (.iload_n 1, 1) := by decide +kernel
theorem dX0_add_1 : decode cX0_add 1 = .ok (.ifCond .lt 19, 3) := by decide +kernel
theorem dX0_add_4 : decode cX0_add 4 = .ok (.iload_n 1, 1) := by decide +kernel
theorem dX0_add_5 : decode cX0_add 5 = .ok (.bipush 22, 2) := by decide +kernel
theorem dX0_add_7 : decode cX0_add 7 = .ok (.if_icmp .ge 13, 3) := by decide +kernel
theorem dX0_add_10 : decode cX0_add 10 = .ok (.aload_n 0, 1) := by decide +kernel
theorem dX0_add_11 : decode cX0_add 11 = .ok (.getfield 9, 3) := by decide +kernel
theorem dX0_add_14 : decode cX0_add 14 = .ok (.iload_n 1, 1) := by decide +kernel
theorem dX0_add_15 : decode cX0_add 15 = .ok (.dup2, 1) := by decide +kernel
theorem dX0_add_16 : decode cX0_add 16 = .ok (.laload, 1) := by decide +kernel
theorem dX0_add_17 : decode cX0_add 17 = .ok (.lload_n 2, 1) := by decide +kernel
theorem dX0_add_18 : decode cX0_add 18 = .ok (.ladd, 1) := by decide +kernel
theorem dX0_add_19 : decode cX0_add 19 = .ok (.lastore, 1) := by decide +kernel
theorem dX0_add_20 : decode cX0_add 20 = .ok (.return_, 1) := by decide +kernel
theorem dX0_draftsTotals_0 : decode cX0_draftsTotals 0 = .ok (.aload_n 0, 1) := by decide +kernel
theorem dX0_draftsTotals_1 : decode cX0_draftsTotals 1 = .ok (.getfield 31, 3) := by decide +kernel
theorem dX0_draftsTotals_4 : decode cX0_draftsTotals 4 = .ok (.iload_n 1, 1) := by decide +kernel
theorem dX0_draftsTotals_5 : decode cX0_draftsTotals 5 = .ok (.invokevirtual 35, 3) := by decide +kernel
theorem dX0_draftsTotals_8 : decode cX0_draftsTotals 8 = .ok (.iconst 0, 1) := by decide +kernel
theorem dX0_draftsTotals_9 : decode cX0_draftsTotals 9 = .ok (.istore_n 2, 1) := by decide +kernel
theorem dX0_draftsTotals_10 : decode cX0_draftsTotals 10 = .ok (.iload_n 2, 1) := by decide +kernel
theorem dX0_draftsTotals_11 : decode cX0_draftsTotals 11 = .ok (.bipush 22, 2) := by decide +kernel
theorem dX0_draftsTotals_13 : decode cX0_draftsTotals 13 = .ok (.if_icmp .ge 28, 3) := by decide +kernel
theorem dX0_draftsTotals_16 : decode cX0_draftsTotals 16 = .ok (.aload_n 0, 1) := by decide +kernel
theorem dX0_draftsTotals_17 : decode cX0_draftsTotals 17 = .ok (.getfield 31, 3) := by decide +kernel
theorem dX0_draftsTotals_20 : decode cX0_draftsTotals 20 = .ok (.iload_n 2, 1) := by decide +kernel
theorem dX0_draftsTotals_21 : decode cX0_draftsTotals 21 = .ok (.aload_n 0, 1) := by decide +kernel
theorem dX0_draftsTotals_22 : decode cX0_draftsTotals 22 = .ok (.getfield 9, 3) := by decide +kernel
theorem dX0_draftsTotals_25 : decode cX0_draftsTotals 25 = .ok (.iload_n 2, 1) := by decide +kernel
theorem dX0_draftsTotals_26 : decode cX0_draftsTotals 26 = .ok (.laload, 1) := by decide +kernel
theorem dX0_draftsTotals_27 : decode cX0_draftsTotals 27 = .ok (.invokevirtual 41, 3) := by decide +kernel
theorem dX0_draftsTotals_30 : decode cX0_draftsTotals 30 = .ok (.ifCond .ne 5, 3) := by decide +kernel
theorem dX0_draftsTotals_33 : decode cX0_draftsTotals 33 = .ok (.iconst 0, 1) := by decide +kernel
theorem dX0_draftsTotals_34 : decode cX0_draftsTotals 34 = .ok (.ireturn, 1) := by decide +kernel
theorem dX0_draftsTotals_35 : decode cX0_draftsTotals 35 = .ok (.iinc 2 1, 3) := by decide +kernel
theorem dX0_draftsTotals_38 : decode cX0_draftsTotals 38 = .ok (.goto (-28), 3) := by decide +kernel
theorem dX0_draftsTotals_41 : decode cX0_draftsTotals 41 = .ok (.iconst 1, 1) := by decide +kernel
theorem dX0_draftsTotals_42 : decode cX0_draftsTotals 42 = .ok (.ireturn, 1) := by decide +kernel
theorem dX0_draftsPlus_0 : decode cX0_draftsPlus 0 = .ok (.aload_n 0, 1) := by decide +kernel
theorem dX0_draftsPlus_1 : decode cX0_draftsPlus 1 = .ok (.invokevirtual 45, 3) := by decide +kernel
theorem dX0_draftsPlus_4 : decode cX0_draftsPlus 4 = .ok (.iconst 0, 1) := by decide +kernel
theorem dX0_draftsPlus_5 : decode cX0_draftsPlus 5 = .ok (.istore 4, 2) := by decide +kernel
theorem dX0_draftsPlus_7 : decode cX0_draftsPlus 7 = .ok (.iload 4, 2) := by decide +kernel
theorem dX0_draftsPlus_9 : decode cX0_draftsPlus 9 = .ok (.bipush 22, 2) := by decide +kernel
theorem dX0_draftsPlus_11 : decode cX0_draftsPlus 11 = .ok (.if_icmp .ge 39, 3) := by decide +kernel
theorem dX0_draftsPlus_14 : decode cX0_draftsPlus 14 = .ok (.aload_n 0, 1) := by decide +kernel
theorem dX0_draftsPlus_15 : decode cX0_draftsPlus 15 = .ok (.iload 4, 2) := by decide +kernel
theorem dX0_draftsPlus_17 : decode cX0_draftsPlus 17 = .ok (.aload_n 0, 1) := by decide +kernel
theorem dX0_draftsPlus_18 : decode cX0_draftsPlus 18 = .ok (.getfield 31, 3) := by decide +kernel
theorem dX0_draftsPlus_21 : decode cX0_draftsPlus 21 = .ok (.iload_n 1, 1) := by decide +kernel
theorem dX0_draftsPlus_22 : decode cX0_draftsPlus 22 = .ok (.iload 4, 2) := by decide +kernel
theorem dX0_draftsPlus_24 : decode cX0_draftsPlus 24 = .ok (.invokevirtual 48, 3) := by decide +kernel
theorem dX0_draftsPlus_27 : decode cX0_draftsPlus 27 = .ok (.iload_n 3, 1) := by decide +kernel
theorem dX0_draftsPlus_28 : decode cX0_draftsPlus 28 = .ok (.aload_n 0, 1) := by decide +kernel
theorem dX0_draftsPlus_29 : decode cX0_draftsPlus 29 = .ok (.getfield 31, 3) := by decide +kernel
theorem dX0_draftsPlus_32 : decode cX0_draftsPlus 32 = .ok (.iload_n 2, 1) := by decide +kernel
theorem dX0_draftsPlus_33 : decode cX0_draftsPlus 33 = .ok (.iload 4, 2) := by decide +kernel
theorem dX0_draftsPlus_35 : decode cX0_draftsPlus 35 = .ok (.invokevirtual 48, 3) := by decide +kernel
theorem dX0_draftsPlus_38 : decode cX0_draftsPlus 38 = .ok (.imul, 1) := by decide +kernel
theorem dX0_draftsPlus_39 : decode cX0_draftsPlus 39 = .ok (.iadd, 1) := by decide +kernel
theorem dX0_draftsPlus_40 : decode cX0_draftsPlus 40 = .ok (.i2l, 1) := by decide +kernel
theorem dX0_draftsPlus_41 : decode cX0_draftsPlus 41 = .ok (.invokevirtual 52, 3) := by decide +kernel
theorem dX0_draftsPlus_44 : decode cX0_draftsPlus 44 = .ok (.iinc 4 1, 3) := by decide +kernel
theorem dX0_draftsPlus_47 : decode cX0_draftsPlus 47 = .ok (.goto (-40), 3) := by decide +kernel
theorem dX0_draftsPlus_50 : decode cX0_draftsPlus 50 = .ok (.aload_n 0, 1) := by decide +kernel
theorem dX0_draftsPlus_51 : decode cX0_draftsPlus 51 = .ok (.aload_n 0, 1) := by decide +kernel
theorem dX0_draftsPlus_52 : decode cX0_draftsPlus 52 = .ok (.getfield 31, 3) := by decide +kernel
theorem dX0_draftsPlus_55 : decode cX0_draftsPlus 55 = .ok (.iload_n 1, 1) := by decide +kernel
theorem dX0_draftsPlus_56 : decode cX0_draftsPlus 56 = .ok (.invokevirtual 56, 3) := by decide +kernel
theorem dX0_draftsPlus_59 : decode cX0_draftsPlus 59 = .ok (.invokevirtual 60, 3) := by decide +kernel
theorem dX0_draftsPlus_62 : decode cX0_draftsPlus 62 = .ok (.ireturn, 1) := by decide +kernel
theorem dX0_draftsTimes_0 : decode cX0_draftsTimes 0 = .ok (.aload_n 0, 1) := by decide +kernel
theorem dX0_draftsTimes_1 : decode cX0_draftsTimes 1 = .ok (.getfield 31, 3) := by decide +kernel
theorem dX0_draftsTimes_4 : decode cX0_draftsTimes 4 = .ok (.iload_n 1, 1) := by decide +kernel
theorem dX0_draftsTimes_5 : decode cX0_draftsTimes 5 = .ok (.invokevirtual 56, 3) := by decide +kernel
theorem dX0_draftsTimes_8 : decode cX0_draftsTimes 8 = .ok (.istore_n 3, 1) := by decide +kernel
theorem dX0_draftsTimes_9 : decode cX0_draftsTimes 9 = .ok (.aload_n 0, 1) := by decide +kernel
theorem dX0_draftsTimes_10 : decode cX0_draftsTimes 10 = .ok (.invokevirtual 45, 3) := by decide +kernel
theorem dX0_draftsTimes_13 : decode cX0_draftsTimes 13 = .ok (.iconst 0, 1) := by decide +kernel
theorem dX0_draftsTimes_14 : decode cX0_draftsTimes 14 = .ok (.istore 4, 2) := by decide +kernel
theorem dX0_draftsTimes_16 : decode cX0_draftsTimes 16 = .ok (.iload 4, 2) := by decide +kernel
theorem dX0_draftsTimes_18 : decode cX0_draftsTimes 18 = .ok (.aload_n 0, 1) := by decide +kernel
theorem dX0_draftsTimes_19 : decode cX0_draftsTimes 19 = .ok (.getfield 15, 3) := by decide +kernel
theorem dX0_draftsTimes_22 : decode cX0_draftsTimes 22 = .ok (.iload_n 3, 1) := by decide +kernel
theorem dX0_draftsTimes_23 : decode cX0_draftsTimes 23 = .ok (.invokevirtual 64, 3) := by decide +kernel
theorem dX0_draftsTimes_26 : decode cX0_draftsTimes 26 = .ok (.if_icmp .ge 121, 3) := by decide +kernel
theorem dX0_draftsTimes_29 : decode cX0_draftsTimes 29 = .ok (.aload_n 0, 1) := by decide +kernel
theorem dX0_draftsTimes_30 : decode cX0_draftsTimes 30 = .ok (.iload_n 3, 1) := by decide +kernel
theorem dX0_draftsTimes_31 : decode cX0_draftsTimes 31 = .ok (.iload 4, 2) := by decide +kernel
theorem dX0_draftsTimes_33 : decode cX0_draftsTimes 33 = .ok (.iload 4, 2) := by decide +kernel
theorem dX0_draftsTimes_35 : decode cX0_draftsTimes 35 = .ok (.aload_n 0, 1) := by decide +kernel
theorem dX0_draftsTimes_36 : decode cX0_draftsTimes 36 = .ok (.getfield 31, 3) := by decide +kernel
theorem dX0_draftsTimes_39 : decode cX0_draftsTimes 39 = .ok (.iload_n 1, 1) := by decide +kernel
theorem dX0_draftsTimes_40 : decode cX0_draftsTimes 40 = .ok (.iload 4, 2) := by decide +kernel
theorem dX0_draftsTimes_42 : decode cX0_draftsTimes 42 = .ok (.invokevirtual 48, 3) := by decide +kernel
theorem dX0_draftsTimes_45 : decode cX0_draftsTimes 45 = .ok (.i2l, 1) := by decide +kernel
theorem dX0_draftsTimes_46 : decode cX0_draftsTimes 46 = .ok (.aload_n 0, 1) := by decide +kernel
theorem dX0_draftsTimes_47 : decode cX0_draftsTimes 47 = .ok (.getfield 31, 3) := by decide +kernel
theorem dX0_draftsTimes_50 : decode cX0_draftsTimes 50 = .ok (.iload_n 2, 1) := by decide +kernel
theorem dX0_draftsTimes_51 : decode cX0_draftsTimes 51 = .ok (.iload 4, 2) := by decide +kernel
theorem dX0_draftsTimes_53 : decode cX0_draftsTimes 53 = .ok (.invokevirtual 48, 3) := by decide +kernel
theorem dX0_draftsTimes_56 : decode cX0_draftsTimes 56 = .ok (.i2l, 1) := by decide +kernel
theorem dX0_draftsTimes_57 : decode cX0_draftsTimes 57 = .ok (.lmul, 1) := by decide +kernel
theorem dX0_draftsTimes_58 : decode cX0_draftsTimes 58 = .ok (.invokevirtual 69, 3) := by decide +kernel
theorem dX0_draftsTimes_61 : decode cX0_draftsTimes 61 = .ok (.iconst 0, 1) := by decide +kernel
theorem dX0_draftsTimes_62 : decode cX0_draftsTimes 62 = .ok (.istore 5, 2) := by decide +kernel
theorem dX0_draftsTimes_64 : decode cX0_draftsTimes 64 = .ok (.iload 5, 2) := by decide +kernel
theorem dX0_draftsTimes_66 : decode cX0_draftsTimes 66 = .ok (.iload 4, 2) := by decide +kernel
theorem dX0_draftsTimes_68 : decode cX0_draftsTimes 68 = .ok (.if_icmp .ge 73, 3) := by decide +kernel
theorem dX0_draftsTimes_71 : decode cX0_draftsTimes 71 = .ok (.aload_n 0, 1) := by decide +kernel
theorem dX0_draftsTimes_72 : decode cX0_draftsTimes 72 = .ok (.getfield 31, 3) := by decide +kernel
theorem dX0_draftsTimes_75 : decode cX0_draftsTimes 75 = .ok (.iload_n 1, 1) := by decide +kernel
theorem dX0_draftsTimes_76 : decode cX0_draftsTimes 76 = .ok (.iload 4, 2) := by decide +kernel
theorem dX0_draftsTimes_78 : decode cX0_draftsTimes 78 = .ok (.invokevirtual 48, 3) := by decide +kernel
theorem dX0_draftsTimes_81 : decode cX0_draftsTimes 81 = .ok (.i2l, 1) := by decide +kernel
theorem dX0_draftsTimes_82 : decode cX0_draftsTimes 82 = .ok (.aload_n 0, 1) := by decide +kernel
theorem dX0_draftsTimes_83 : decode cX0_draftsTimes 83 = .ok (.getfield 31, 3) := by decide +kernel
theorem dX0_draftsTimes_86 : decode cX0_draftsTimes 86 = .ok (.iload_n 2, 1) := by decide +kernel
theorem dX0_draftsTimes_87 : decode cX0_draftsTimes 87 = .ok (.iload 5, 2) := by decide +kernel
theorem dX0_draftsTimes_89 : decode cX0_draftsTimes 89 = .ok (.invokevirtual 48, 3) := by decide +kernel
theorem dX0_draftsTimes_92 : decode cX0_draftsTimes 92 = .ok (.i2l, 1) := by decide +kernel
theorem dX0_draftsTimes_93 : decode cX0_draftsTimes 93 = .ok (.lmul, 1) := by decide +kernel
theorem dX0_draftsTimes_94 : decode cX0_draftsTimes 94 = .ok (.lstore 6, 2) := by decide +kernel
theorem dX0_draftsTimes_96 : decode cX0_draftsTimes 96 = .ok (.lload 6, 2) := by decide +kernel
theorem dX0_draftsTimes_98 : decode cX0_draftsTimes 98 = .ok (.aload_n 0, 1) := by decide +kernel
theorem dX0_draftsTimes_99 : decode cX0_draftsTimes 99 = .ok (.getfield 31, 3) := by decide +kernel
theorem dX0_draftsTimes_102 : decode cX0_draftsTimes 102 = .ok (.iload_n 1, 1) := by decide +kernel
theorem dX0_draftsTimes_103 : decode cX0_draftsTimes 103 = .ok (.iload 5, 2) := by decide +kernel
theorem dX0_draftsTimes_105 : decode cX0_draftsTimes 105 = .ok (.invokevirtual 48, 3) := by decide +kernel
theorem dX0_draftsTimes_108 : decode cX0_draftsTimes 108 = .ok (.i2l, 1) := by decide +kernel
theorem dX0_draftsTimes_109 : decode cX0_draftsTimes 109 = .ok (.aload_n 0, 1) := by decide +kernel
theorem dX0_draftsTimes_110 : decode cX0_draftsTimes 110 = .ok (.getfield 31, 3) := by decide +kernel
theorem dX0_draftsTimes_113 : decode cX0_draftsTimes 113 = .ok (.iload_n 2, 1) := by decide +kernel
theorem dX0_draftsTimes_114 : decode cX0_draftsTimes 114 = .ok (.iload 4, 2) := by decide +kernel
theorem dX0_draftsTimes_116 : decode cX0_draftsTimes 116 = .ok (.invokevirtual 48, 3) := by decide +kernel
theorem dX0_draftsTimes_119 : decode cX0_draftsTimes 119 = .ok (.i2l, 1) := by decide +kernel
theorem dX0_draftsTimes_120 : decode cX0_draftsTimes 120 = .ok (.lmul, 1) := by decide +kernel
theorem dX0_draftsTimes_121 : decode cX0_draftsTimes 121 = .ok (.ladd, 1) := by decide +kernel
theorem dX0_draftsTimes_122 : decode cX0_draftsTimes 122 = .ok (.lstore 6, 2) := by decide +kernel
theorem dX0_draftsTimes_124 : decode cX0_draftsTimes 124 = .ok (.aload_n 0, 1) := by decide +kernel
theorem dX0_draftsTimes_125 : decode cX0_draftsTimes 125 = .ok (.iload_n 3, 1) := by decide +kernel
theorem dX0_draftsTimes_126 : decode cX0_draftsTimes 126 = .ok (.iload 4, 2) := by decide +kernel
theorem dX0_draftsTimes_128 : decode cX0_draftsTimes 128 = .ok (.iload 5, 2) := by decide +kernel
theorem dX0_draftsTimes_130 : decode cX0_draftsTimes 130 = .ok (.lload 6, 2) := by decide +kernel
theorem dX0_draftsTimes_132 : decode cX0_draftsTimes 132 = .ok (.invokevirtual 69, 3) := by decide +kernel
theorem dX0_draftsTimes_135 : decode cX0_draftsTimes 135 = .ok (.iinc 5 1, 3) := by decide +kernel
theorem dX0_draftsTimes_138 : decode cX0_draftsTimes 138 = .ok (.goto (-74), 3) := by decide +kernel
theorem dX0_draftsTimes_141 : decode cX0_draftsTimes 141 = .ok (.iinc 4 1, 3) := by decide +kernel
theorem dX0_draftsTimes_144 : decode cX0_draftsTimes 144 = .ok (.goto (-128), 3) := by decide +kernel
theorem dX0_draftsTimes_147 : decode cX0_draftsTimes 147 = .ok (.aload_n 0, 1) := by decide +kernel
theorem dX0_draftsTimes_148 : decode cX0_draftsTimes 148 = .ok (.iload_n 3, 1) := by decide +kernel
theorem dX0_draftsTimes_149 : decode cX0_draftsTimes 149 = .ok (.invokevirtual 60, 3) := by decide +kernel
theorem dX0_draftsTimes_152 : decode cX0_draftsTimes 152 = .ok (.ireturn, 1) := by decide +kernel
theorem dX0_addProduct_0 : decode cX0_addProduct 0 = .ok (.lload 4, 2) := by decide +kernel
theorem dX0_addProduct_2 : decode cX0_addProduct 2 = .ok (.lconst 0, 1) := by decide +kernel
theorem dX0_addProduct_3 : decode cX0_addProduct 3 = .ok (.lcmp, 1) := by decide +kernel
theorem dX0_addProduct_4 : decode cX0_addProduct 4 = .ok (.ifCond .eq 47, 3) := by decide +kernel
theorem dX0_addProduct_7 : decode cX0_addProduct 7 = .ok (.iconst 0, 1) := by decide +kernel
theorem dX0_addProduct_8 : decode cX0_addProduct 8 = .ok (.istore 6, 2) := by decide +kernel
theorem dX0_addProduct_10 : decode cX0_addProduct 10 = .ok (.iload 6, 2) := by decide +kernel
theorem dX0_addProduct_12 : decode cX0_addProduct 12 = .ok (.aload_n 0, 1) := by decide +kernel
theorem dX0_addProduct_13 : decode cX0_addProduct 13 = .ok (.getfield 15, 3) := by decide +kernel
theorem dX0_addProduct_16 : decode cX0_addProduct 16 = .ok (.iload_n 1, 1) := by decide +kernel
theorem dX0_addProduct_17 : decode cX0_addProduct 17 = .ok (.invokevirtual 64, 3) := by decide +kernel
theorem dX0_addProduct_20 : decode cX0_addProduct 20 = .ok (.if_icmp .ge 31, 3) := by decide +kernel
theorem dX0_addProduct_23 : decode cX0_addProduct 23 = .ok (.aload_n 0, 1) := by decide +kernel
theorem dX0_addProduct_24 : decode cX0_addProduct 24 = .ok (.iload 6, 2) := by decide +kernel
theorem dX0_addProduct_26 : decode cX0_addProduct 26 = .ok (.lload 4, 2) := by decide +kernel
theorem dX0_addProduct_28 : decode cX0_addProduct 28 = .ok (.aload_n 0, 1) := by decide +kernel
theorem dX0_addProduct_29 : decode cX0_addProduct 29 = .ok (.getfield 27, 3) := by decide +kernel
theorem dX0_addProduct_32 : decode cX0_addProduct 32 = .ok (.iload_n 1, 1) := by decide +kernel
theorem dX0_addProduct_33 : decode cX0_addProduct 33 = .ok (.iload_n 2, 1) := by decide +kernel
theorem dX0_addProduct_34 : decode cX0_addProduct 34 = .ok (.iload_n 3, 1) := by decide +kernel
theorem dX0_addProduct_35 : decode cX0_addProduct 35 = .ok (.iload 6, 2) := by decide +kernel
theorem dX0_addProduct_37 : decode cX0_addProduct 37 = .ok (.invokevirtual 73, 3) := by decide +kernel
theorem dX0_addProduct_40 : decode cX0_addProduct 40 = .ok (.i2l, 1) := by decide +kernel
theorem dX0_addProduct_41 : decode cX0_addProduct 41 = .ok (.lmul, 1) := by decide +kernel
theorem dX0_addProduct_42 : decode cX0_addProduct 42 = .ok (.invokevirtual 52, 3) := by decide +kernel
theorem dX0_addProduct_45 : decode cX0_addProduct 45 = .ok (.iinc 6 1, 3) := by decide +kernel
theorem dX0_addProduct_48 : decode cX0_addProduct 48 = .ok (.goto (-38), 3) := by decide +kernel
theorem dX0_addProduct_51 : decode cX0_addProduct 51 = .ok (.return_, 1) := by decide +kernel
theorem dX0_draftsAbout_0 : decode cX0_draftsAbout 0 = .ok (.aload_n 0, 1) := by decide +kernel
theorem dX0_draftsAbout_1 : decode cX0_draftsAbout 1 = .ok (.getfield 31, 3) := by decide +kernel
theorem dX0_draftsAbout_4 : decode cX0_draftsAbout 4 = .ok (.iload_n 1, 1) := by decide +kernel
theorem dX0_draftsAbout_5 : decode cX0_draftsAbout 5 = .ok (.invokevirtual 56, 3) := by decide +kernel
theorem dX0_draftsAbout_8 : decode cX0_draftsAbout 8 = .ok (.istore_n 2, 1) := by decide +kernel
theorem dX0_draftsAbout_9 : decode cX0_draftsAbout 9 = .ok (.aload_n 0, 1) := by decide +kernel
theorem dX0_draftsAbout_10 : decode cX0_draftsAbout 10 = .ok (.invokevirtual 45, 3) := by decide +kernel
theorem dX0_draftsAbout_13 : decode cX0_draftsAbout 13 = .ok (.iconst 0, 1) := by decide +kernel
theorem dX0_draftsAbout_14 : decode cX0_draftsAbout 14 = .ok (.istore_n 3, 1) := by decide +kernel
theorem dX0_draftsAbout_15 : decode cX0_draftsAbout 15 = .ok (.iload_n 3, 1) := by decide +kernel
theorem dX0_draftsAbout_16 : decode cX0_draftsAbout 16 = .ok (.aload_n 0, 1) := by decide +kernel
theorem dX0_draftsAbout_17 : decode cX0_draftsAbout 17 = .ok (.getfield 15, 3) := by decide +kernel
theorem dX0_draftsAbout_20 : decode cX0_draftsAbout 20 = .ok (.iload_n 2, 1) := by decide +kernel
theorem dX0_draftsAbout_21 : decode cX0_draftsAbout 21 = .ok (.invokevirtual 64, 3) := by decide +kernel
theorem dX0_draftsAbout_24 : decode cX0_draftsAbout 24 = .ok (.if_icmp .ge 51, 3) := by decide +kernel
theorem dX0_draftsAbout_27 : decode cX0_draftsAbout 27 = .ok (.aload_n 0, 1) := by decide +kernel
theorem dX0_draftsAbout_28 : decode cX0_draftsAbout 28 = .ok (.getfield 15, 3) := by decide +kernel
theorem dX0_draftsAbout_31 : decode cX0_draftsAbout 31 = .ok (.aload_n 0, 1) := by decide +kernel
theorem dX0_draftsAbout_32 : decode cX0_draftsAbout 32 = .ok (.getfield 15, 3) := by decide +kernel
theorem dX0_draftsAbout_35 : decode cX0_draftsAbout 35 = .ok (.iload_n 2, 1) := by decide +kernel
theorem dX0_draftsAbout_36 : decode cX0_draftsAbout 36 = .ok (.invokevirtual 79, 3) := by decide +kernel
theorem dX0_draftsAbout_39 : decode cX0_draftsAbout 39 = .ok (.iload_n 3, 1) := by decide +kernel
theorem dX0_draftsAbout_40 : decode cX0_draftsAbout 40 = .ok (.iadd, 1) := by decide +kernel
theorem dX0_draftsAbout_41 : decode cX0_draftsAbout 41 = .ok (.invokevirtual 82, 3) := by decide +kernel
theorem dX0_draftsAbout_44 : decode cX0_draftsAbout 44 = .ok (.istore 4, 2) := by decide +kernel
theorem dX0_draftsAbout_46 : decode cX0_draftsAbout 46 = .ok (.aload_n 0, 1) := by decide +kernel
theorem dX0_draftsAbout_47 : decode cX0_draftsAbout 47 = .ok (.aload_n 0, 1) := by decide +kernel
theorem dX0_draftsAbout_48 : decode cX0_draftsAbout 48 = .ok (.getfield 15, 3) := by decide +kernel
theorem dX0_draftsAbout_51 : decode cX0_draftsAbout 51 = .ok (.iload 4, 2) := by decide +kernel
theorem dX0_draftsAbout_53 : decode cX0_draftsAbout 53 = .ok (.invokevirtual 85, 3) := by decide +kernel
theorem dX0_draftsAbout_56 : decode cX0_draftsAbout 56 = .ok (.aload_n 0, 1) := by decide +kernel
theorem dX0_draftsAbout_57 : decode cX0_draftsAbout 57 = .ok (.getfield 31, 3) := by decide +kernel
theorem dX0_draftsAbout_60 : decode cX0_draftsAbout 60 = .ok (.iload_n 1, 1) := by decide +kernel
theorem dX0_draftsAbout_61 : decode cX0_draftsAbout 61 = .ok (.iload_n 3, 1) := by decide +kernel
theorem dX0_draftsAbout_62 : decode cX0_draftsAbout 62 = .ok (.invokevirtual 48, 3) := by decide +kernel
theorem dX0_draftsAbout_65 : decode cX0_draftsAbout 65 = .ok (.i2l, 1) := by decide +kernel
theorem dX0_draftsAbout_66 : decode cX0_draftsAbout 66 = .ok (.invokevirtual 52, 3) := by decide +kernel
theorem dX0_draftsAbout_69 : decode cX0_draftsAbout 69 = .ok (.iinc 3 1, 3) := by decide +kernel
theorem dX0_draftsAbout_72 : decode cX0_draftsAbout 72 = .ok (.goto (-57), 3) := by decide +kernel
theorem dX0_draftsAbout_75 : decode cX0_draftsAbout 75 = .ok (.aload_n 0, 1) := by decide +kernel
theorem dX0_draftsAbout_76 : decode cX0_draftsAbout 76 = .ok (.iload_n 2, 1) := by decide +kernel
theorem dX0_draftsAbout_77 : decode cX0_draftsAbout 77 = .ok (.invokevirtual 60, 3) := by decide +kernel
theorem dX0_draftsAbout_80 : decode cX0_draftsAbout 80 = .ok (.ireturn, 1) := by decide +kernel
theorem dX0_draftsRestricted_0 : decode cX0_draftsRestricted 0 = .ok (.aload_n 0, 1) := by decide +kernel
theorem dX0_draftsRestricted_1 : decode cX0_draftsRestricted 1 = .ok (.getfield 31, 3) := by decide +kernel
theorem dX0_draftsRestricted_4 : decode cX0_draftsRestricted 4 = .ok (.iload_n 1, 1) := by decide +kernel
theorem dX0_draftsRestricted_5 : decode cX0_draftsRestricted 5 = .ok (.invokevirtual 56, 3) := by decide +kernel
theorem dX0_draftsRestricted_8 : decode cX0_draftsRestricted 8 = .ok (.istore_n 2, 1) := by decide +kernel
theorem dX0_draftsRestricted_9 : decode cX0_draftsRestricted 9 = .ok (.aload_n 0, 1) := by decide +kernel
theorem dX0_draftsRestricted_10 : decode cX0_draftsRestricted 10 = .ok (.invokevirtual 45, 3) := by decide +kernel
theorem dX0_draftsRestricted_13 : decode cX0_draftsRestricted 13 = .ok (.iconst 0, 1) := by decide +kernel
theorem dX0_draftsRestricted_14 : decode cX0_draftsRestricted 14 = .ok (.istore_n 3, 1) := by decide +kernel
theorem dX0_draftsRestricted_15 : decode cX0_draftsRestricted 15 = .ok (.iload_n 3, 1) := by decide +kernel
theorem dX0_draftsRestricted_16 : decode cX0_draftsRestricted 16 = .ok (.aload_n 0, 1) := by decide +kernel
theorem dX0_draftsRestricted_17 : decode cX0_draftsRestricted 17 = .ok (.getfield 15, 3) := by decide +kernel
theorem dX0_draftsRestricted_20 : decode cX0_draftsRestricted 20 = .ok (.iload_n 2, 1) := by decide +kernel
theorem dX0_draftsRestricted_21 : decode cX0_draftsRestricted 21 = .ok (.invokevirtual 64, 3) := by decide +kernel
theorem dX0_draftsRestricted_24 : decode cX0_draftsRestricted 24 = .ok (.if_icmp .ge 83, 3) := by decide +kernel
theorem dX0_draftsRestricted_27 : decode cX0_draftsRestricted 27 = .ok (.aload_n 0, 1) := by decide +kernel
theorem dX0_draftsRestricted_28 : decode cX0_draftsRestricted 28 = .ok (.getfield 15, 3) := by decide +kernel
theorem dX0_draftsRestricted_31 : decode cX0_draftsRestricted 31 = .ok (.iload_n 2, 1) := by decide +kernel
theorem dX0_draftsRestricted_32 : decode cX0_draftsRestricted 32 = .ok (.invokevirtual 79, 3) := by decide +kernel
theorem dX0_draftsRestricted_35 : decode cX0_draftsRestricted 35 = .ok (.iload_n 3, 1) := by decide +kernel
theorem dX0_draftsRestricted_36 : decode cX0_draftsRestricted 36 = .ok (.iadd, 1) := by decide +kernel
theorem dX0_draftsRestricted_37 : decode cX0_draftsRestricted 37 = .ok (.istore 4, 2) := by decide +kernel
theorem dX0_draftsRestricted_39 : decode cX0_draftsRestricted 39 = .ok (.iconst 0, 1) := by decide +kernel
theorem dX0_draftsRestricted_40 : decode cX0_draftsRestricted 40 = .ok (.istore 5, 2) := by decide +kernel
theorem dX0_draftsRestricted_42 : decode cX0_draftsRestricted 42 = .ok (.iload 5, 2) := by decide +kernel
theorem dX0_draftsRestricted_44 : decode cX0_draftsRestricted 44 = .ok (.iload_n 2, 1) := by decide +kernel
theorem dX0_draftsRestricted_45 : decode cX0_draftsRestricted 45 = .ok (.if_icmp .ge 56, 3) := by decide +kernel
theorem dX0_draftsRestricted_48 : decode cX0_draftsRestricted 48 = .ok (.aload_n 0, 1) := by decide +kernel
theorem dX0_draftsRestricted_49 : decode cX0_draftsRestricted 49 = .ok (.getfield 19, 3) := by decide +kernel
theorem dX0_draftsRestricted_52 : decode cX0_draftsRestricted 52 = .ok (.iload 4, 2) := by decide +kernel
theorem dX0_draftsRestricted_54 : decode cX0_draftsRestricted 54 = .ok (.iload 5, 2) := by decide +kernel
theorem dX0_draftsRestricted_56 : decode cX0_draftsRestricted 56 = .ok (.invokevirtual 88, 3) := by decide +kernel
theorem dX0_draftsRestricted_59 : decode cX0_draftsRestricted 59 = .ok (.iconst 1, 1) := by decide +kernel
theorem dX0_draftsRestricted_60 : decode cX0_draftsRestricted 60 = .ok (.if_icmp .ne 35, 3) := by decide +kernel
theorem dX0_draftsRestricted_63 : decode cX0_draftsRestricted 63 = .ok (.aload_n 0, 1) := by decide +kernel
theorem dX0_draftsRestricted_64 : decode cX0_draftsRestricted 64 = .ok (.aload_n 0, 1) := by decide +kernel
theorem dX0_draftsRestricted_65 : decode cX0_draftsRestricted 65 = .ok (.getfield 15, 3) := by decide +kernel
theorem dX0_draftsRestricted_68 : decode cX0_draftsRestricted 68 = .ok (.aload_n 0, 1) := by decide +kernel
theorem dX0_draftsRestricted_69 : decode cX0_draftsRestricted 69 = .ok (.getfield 19, 3) := by decide +kernel
theorem dX0_draftsRestricted_72 : decode cX0_draftsRestricted 72 = .ok (.iload 4, 2) := by decide +kernel
theorem dX0_draftsRestricted_74 : decode cX0_draftsRestricted 74 = .ok (.iload 5, 2) := by decide +kernel
theorem dX0_draftsRestricted_76 : decode cX0_draftsRestricted 76 = .ok (.invokevirtual 93, 3) := by decide +kernel
theorem dX0_draftsRestricted_79 : decode cX0_draftsRestricted 79 = .ok (.invokevirtual 85, 3) := by decide +kernel
theorem dX0_draftsRestricted_82 : decode cX0_draftsRestricted 82 = .ok (.aload_n 0, 1) := by decide +kernel
theorem dX0_draftsRestricted_83 : decode cX0_draftsRestricted 83 = .ok (.getfield 31, 3) := by decide +kernel
theorem dX0_draftsRestricted_86 : decode cX0_draftsRestricted 86 = .ok (.iload_n 1, 1) := by decide +kernel
theorem dX0_draftsRestricted_87 : decode cX0_draftsRestricted 87 = .ok (.iload_n 3, 1) := by decide +kernel
theorem dX0_draftsRestricted_88 : decode cX0_draftsRestricted 88 = .ok (.invokevirtual 48, 3) := by decide +kernel
theorem dX0_draftsRestricted_91 : decode cX0_draftsRestricted 91 = .ok (.i2l, 1) := by decide +kernel
theorem dX0_draftsRestricted_92 : decode cX0_draftsRestricted 92 = .ok (.invokevirtual 52, 3) := by decide +kernel
theorem dX0_draftsRestricted_95 : decode cX0_draftsRestricted 95 = .ok (.iinc 5 1, 3) := by decide +kernel
theorem dX0_draftsRestricted_98 : decode cX0_draftsRestricted 98 = .ok (.goto (-56), 3) := by decide +kernel
theorem dX0_draftsRestricted_101 : decode cX0_draftsRestricted 101 = .ok (.iinc 3 1, 3) := by decide +kernel
theorem dX0_draftsRestricted_104 : decode cX0_draftsRestricted 104 = .ok (.goto (-89), 3) := by decide +kernel
theorem dX0_draftsRestricted_107 : decode cX0_draftsRestricted 107 = .ok (.aload_n 0, 1) := by decide +kernel
theorem dX0_draftsRestricted_108 : decode cX0_draftsRestricted 108 = .ok (.iload_n 2, 1) := by decide +kernel
theorem dX0_draftsRestricted_109 : decode cX0_draftsRestricted 109 = .ok (.iconst 1, 1) := by decide +kernel
theorem dX0_draftsRestricted_110 : decode cX0_draftsRestricted 110 = .ok (.isub, 1) := by decide +kernel
theorem dX0_draftsRestricted_111 : decode cX0_draftsRestricted 111 = .ok (.invokevirtual 60, 3) := by decide +kernel
theorem dX0_draftsRestricted_114 : decode cX0_draftsRestricted 114 = .ok (.ireturn, 1) := by decide +kernel
theorem dX0_draftsInduced_0 : decode cX0_draftsInduced 0 = .ok (.aload_n 0, 1) := by decide +kernel
theorem dX0_draftsInduced_1 : decode cX0_draftsInduced 1 = .ok (.getfield 31, 3) := by decide +kernel
theorem dX0_draftsInduced_4 : decode cX0_draftsInduced 4 = .ok (.iload_n 1, 1) := by decide +kernel
theorem dX0_draftsInduced_5 : decode cX0_draftsInduced 5 = .ok (.invokevirtual 56, 3) := by decide +kernel
theorem dX0_draftsInduced_8 : decode cX0_draftsInduced 8 = .ok (.iconst 1, 1) := by decide +kernel
theorem dX0_draftsInduced_9 : decode cX0_draftsInduced 9 = .ok (.iadd, 1) := by decide +kernel
theorem dX0_draftsInduced_10 : decode cX0_draftsInduced 10 = .ok (.istore_n 2, 1) := by decide +kernel
theorem dX0_draftsInduced_11 : decode cX0_draftsInduced 11 = .ok (.aload_n 0, 1) := by decide +kernel
theorem dX0_draftsInduced_12 : decode cX0_draftsInduced 12 = .ok (.invokevirtual 45, 3) := by decide +kernel
theorem dX0_draftsInduced_15 : decode cX0_draftsInduced 15 = .ok (.iconst 0, 1) := by decide +kernel
theorem dX0_draftsInduced_16 : decode cX0_draftsInduced 16 = .ok (.istore_n 3, 1) := by decide +kernel
theorem dX0_draftsInduced_17 : decode cX0_draftsInduced 17 = .ok (.iload_n 3, 1) := by decide +kernel
theorem dX0_draftsInduced_18 : decode cX0_draftsInduced 18 = .ok (.aload_n 0, 1) := by decide +kernel
theorem dX0_draftsInduced_19 : decode cX0_draftsInduced 19 = .ok (.getfield 15, 3) := by decide +kernel
theorem dX0_draftsInduced_22 : decode cX0_draftsInduced 22 = .ok (.iload_n 2, 1) := by decide +kernel
theorem dX0_draftsInduced_23 : decode cX0_draftsInduced 23 = .ok (.invokevirtual 64, 3) := by decide +kernel
theorem dX0_draftsInduced_26 : decode cX0_draftsInduced 26 = .ok (.if_icmp .ge 83, 3) := by decide +kernel
theorem dX0_draftsInduced_29 : decode cX0_draftsInduced 29 = .ok (.aload_n 0, 1) := by decide +kernel
theorem dX0_draftsInduced_30 : decode cX0_draftsInduced 30 = .ok (.getfield 15, 3) := by decide +kernel
theorem dX0_draftsInduced_33 : decode cX0_draftsInduced 33 = .ok (.iload_n 2, 1) := by decide +kernel
theorem dX0_draftsInduced_34 : decode cX0_draftsInduced 34 = .ok (.invokevirtual 79, 3) := by decide +kernel
theorem dX0_draftsInduced_37 : decode cX0_draftsInduced 37 = .ok (.iload_n 3, 1) := by decide +kernel
theorem dX0_draftsInduced_38 : decode cX0_draftsInduced 38 = .ok (.iadd, 1) := by decide +kernel
theorem dX0_draftsInduced_39 : decode cX0_draftsInduced 39 = .ok (.istore 4, 2) := by decide +kernel
theorem dX0_draftsInduced_41 : decode cX0_draftsInduced 41 = .ok (.iconst 0, 1) := by decide +kernel
theorem dX0_draftsInduced_42 : decode cX0_draftsInduced 42 = .ok (.istore 5, 2) := by decide +kernel
theorem dX0_draftsInduced_44 : decode cX0_draftsInduced 44 = .ok (.iload 5, 2) := by decide +kernel
theorem dX0_draftsInduced_46 : decode cX0_draftsInduced 46 = .ok (.iload_n 2, 1) := by decide +kernel
theorem dX0_draftsInduced_47 : decode cX0_draftsInduced 47 = .ok (.if_icmp .ge 56, 3) := by decide +kernel
theorem dX0_draftsInduced_50 : decode cX0_draftsInduced 50 = .ok (.aload_n 0, 1) := by decide +kernel
theorem dX0_draftsInduced_51 : decode cX0_draftsInduced 51 = .ok (.getfield 19, 3) := by decide +kernel
theorem dX0_draftsInduced_54 : decode cX0_draftsInduced 54 = .ok (.iload 4, 2) := by decide +kernel
theorem dX0_draftsInduced_56 : decode cX0_draftsInduced 56 = .ok (.iload 5, 2) := by decide +kernel
theorem dX0_draftsInduced_58 : decode cX0_draftsInduced 58 = .ok (.invokevirtual 88, 3) := by decide +kernel
theorem dX0_draftsInduced_61 : decode cX0_draftsInduced 61 = .ok (.iconst 1, 1) := by decide +kernel
theorem dX0_draftsInduced_62 : decode cX0_draftsInduced 62 = .ok (.if_icmp .ne 35, 3) := by decide +kernel
theorem dX0_draftsInduced_65 : decode cX0_draftsInduced 65 = .ok (.aload_n 0, 1) := by decide +kernel
theorem dX0_draftsInduced_66 : decode cX0_draftsInduced 66 = .ok (.iload_n 3, 1) := by decide +kernel
theorem dX0_draftsInduced_67 : decode cX0_draftsInduced 67 = .ok (.aload_n 0, 1) := by decide +kernel
theorem dX0_draftsInduced_68 : decode cX0_draftsInduced 68 = .ok (.getfield 31, 3) := by decide +kernel
theorem dX0_draftsInduced_71 : decode cX0_draftsInduced 71 = .ok (.iload_n 1, 1) := by decide +kernel
theorem dX0_draftsInduced_72 : decode cX0_draftsInduced 72 = .ok (.aload_n 0, 1) := by decide +kernel
theorem dX0_draftsInduced_73 : decode cX0_draftsInduced 73 = .ok (.getfield 15, 3) := by decide +kernel
theorem dX0_draftsInduced_76 : decode cX0_draftsInduced 76 = .ok (.aload_n 0, 1) := by decide +kernel
theorem dX0_draftsInduced_77 : decode cX0_draftsInduced 77 = .ok (.getfield 19, 3) := by decide +kernel
theorem dX0_draftsInduced_80 : decode cX0_draftsInduced 80 = .ok (.iload 4, 2) := by decide +kernel
theorem dX0_draftsInduced_82 : decode cX0_draftsInduced 82 = .ok (.iload 5, 2) := by decide +kernel
theorem dX0_draftsInduced_84 : decode cX0_draftsInduced 84 = .ok (.invokevirtual 93, 3) := by decide +kernel
theorem dX0_draftsInduced_87 : decode cX0_draftsInduced 87 = .ok (.invokevirtual 85, 3) := by decide +kernel
theorem dX0_draftsInduced_90 : decode cX0_draftsInduced 90 = .ok (.invokevirtual 48, 3) := by decide +kernel
theorem dX0_draftsInduced_93 : decode cX0_draftsInduced 93 = .ok (.i2l, 1) := by decide +kernel
theorem dX0_draftsInduced_94 : decode cX0_draftsInduced 94 = .ok (.invokevirtual 52, 3) := by decide +kernel
theorem dX0_draftsInduced_97 : decode cX0_draftsInduced 97 = .ok (.iinc 5 1, 3) := by decide +kernel
theorem dX0_draftsInduced_100 : decode cX0_draftsInduced 100 = .ok (.goto (-56), 3) := by decide +kernel
theorem dX0_draftsInduced_103 : decode cX0_draftsInduced 103 = .ok (.iinc 3 1, 3) := by decide +kernel
theorem dX0_draftsInduced_106 : decode cX0_draftsInduced 106 = .ok (.goto (-89), 3) := by decide +kernel
theorem dX0_draftsInduced_109 : decode cX0_draftsInduced 109 = .ok (.aload_n 0, 1) := by decide +kernel
theorem dX0_draftsInduced_110 : decode cX0_draftsInduced 110 = .ok (.iload_n 2, 1) := by decide +kernel
theorem dX0_draftsInduced_111 : decode cX0_draftsInduced 111 = .ok (.invokevirtual 60, 3) := by decide +kernel
theorem dX0_draftsInduced_114 : decode cX0_draftsInduced 114 = .ok (.ireturn, 1) := by decide +kernel
theorem dX0_valueAt_0 : decode cX0_valueAt 0 = .ok (.aload_n 0, 1) := by decide +kernel
theorem dX0_valueAt_1 : decode cX0_valueAt 1 = .ok (.getfield 31, 3) := by decide +kernel
theorem dX0_valueAt_4 : decode cX0_valueAt 4 = .ok (.iload_n 1, 1) := by decide +kernel
theorem dX0_valueAt_5 : decode cX0_valueAt 5 = .ok (.invokevirtual 56, 3) := by decide +kernel
theorem dX0_valueAt_8 : decode cX0_valueAt 8 = .ok (.istore_n 3, 1) := by decide +kernel
theorem dX0_valueAt_9 : decode cX0_valueAt 9 = .ok (.aload_n 0, 1) := by decide +kernel
theorem dX0_valueAt_10 : decode cX0_valueAt 10 = .ok (.getfield 15, 3) := by decide +kernel
theorem dX0_valueAt_13 : decode cX0_valueAt 13 = .ok (.iload_n 3, 1) := by decide +kernel
theorem dX0_valueAt_14 : decode cX0_valueAt 14 = .ok (.invokevirtual 79, 3) := by decide +kernel
theorem dX0_valueAt_17 : decode cX0_valueAt 17 = .ok (.istore 4, 2) := by decide +kernel
theorem dX0_valueAt_19 : decode cX0_valueAt 19 = .ok (.lconst 0, 1) := by decide +kernel
theorem dX0_valueAt_20 : decode cX0_valueAt 20 = .ok (.lstore 5, 2) := by decide +kernel
theorem dX0_valueAt_22 : decode cX0_valueAt 22 = .ok (.iconst 0, 1) := by decide +kernel
theorem dX0_valueAt_23 : decode cX0_valueAt 23 = .ok (.istore 7, 2) := by decide +kernel
theorem dX0_valueAt_25 : decode cX0_valueAt 25 = .ok (.iload 7, 2) := by decide +kernel
theorem dX0_valueAt_27 : decode cX0_valueAt 27 = .ok (.aload_n 0, 1) := by decide +kernel
theorem dX0_valueAt_28 : decode cX0_valueAt 28 = .ok (.getfield 15, 3) := by decide +kernel
theorem dX0_valueAt_31 : decode cX0_valueAt 31 = .ok (.iload_n 3, 1) := by decide +kernel
theorem dX0_valueAt_32 : decode cX0_valueAt 32 = .ok (.invokevirtual 64, 3) := by decide +kernel
theorem dX0_valueAt_35 : decode cX0_valueAt 35 = .ok (.if_icmp .ge 40, 3) := by decide +kernel
theorem dX0_valueAt_38 : decode cX0_valueAt 38 = .ok (.lload 5, 2) := by decide +kernel
theorem dX0_valueAt_40 : decode cX0_valueAt 40 = .ok (.aload_n 0, 1) := by decide +kernel
theorem dX0_valueAt_41 : decode cX0_valueAt 41 = .ok (.getfield 31, 3) := by decide +kernel
theorem dX0_valueAt_44 : decode cX0_valueAt 44 = .ok (.iload_n 1, 1) := by decide +kernel
theorem dX0_valueAt_45 : decode cX0_valueAt 45 = .ok (.iload 7, 2) := by decide +kernel
theorem dX0_valueAt_47 : decode cX0_valueAt 47 = .ok (.invokevirtual 48, 3) := by decide +kernel
theorem dX0_valueAt_50 : decode cX0_valueAt 50 = .ok (.i2l, 1) := by decide +kernel
theorem dX0_valueAt_51 : decode cX0_valueAt 51 = .ok (.aload_n 0, 1) := by decide +kernel
theorem dX0_valueAt_52 : decode cX0_valueAt 52 = .ok (.getfield 23, 3) := by decide +kernel
theorem dX0_valueAt_55 : decode cX0_valueAt 55 = .ok (.iload 4, 2) := by decide +kernel
theorem dX0_valueAt_57 : decode cX0_valueAt 57 = .ok (.iload 7, 2) := by decide +kernel
theorem dX0_valueAt_59 : decode cX0_valueAt 59 = .ok (.iadd, 1) := by decide +kernel
theorem dX0_valueAt_60 : decode cX0_valueAt 60 = .ok (.iload_n 2, 1) := by decide +kernel
theorem dX0_valueAt_61 : decode cX0_valueAt 61 = .ok (.invokevirtual 96, 3) := by decide +kernel
theorem dX0_valueAt_64 : decode cX0_valueAt 64 = .ok (.i2l, 1) := by decide +kernel
theorem dX0_valueAt_65 : decode cX0_valueAt 65 = .ok (.lmul, 1) := by decide +kernel
theorem dX0_valueAt_66 : decode cX0_valueAt 66 = .ok (.ladd, 1) := by decide +kernel
theorem dX0_valueAt_67 : decode cX0_valueAt 67 = .ok (.lstore 5, 2) := by decide +kernel
theorem dX0_valueAt_69 : decode cX0_valueAt 69 = .ok (.iinc 7 1, 3) := by decide +kernel
theorem dX0_valueAt_72 : decode cX0_valueAt 72 = .ok (.goto (-47), 3) := by decide +kernel
theorem dX0_valueAt_75 : decode cX0_valueAt 75 = .ok (.lload 5, 2) := by decide +kernel
theorem dX0_valueAt_77 : decode cX0_valueAt 77 = .ok (.lreturn, 1) := by decide +kernel
theorem dX0_innerOf_0 : decode cX0_innerOf 0 = .ok (.lconst 0, 1) := by decide +kernel
theorem dX0_innerOf_1 : decode cX0_innerOf 1 = .ok (.lstore_n 3, 1) := by decide +kernel
theorem dX0_innerOf_2 : decode cX0_innerOf 2 = .ok (.iconst 0, 1) := by decide +kernel
theorem dX0_innerOf_3 : decode cX0_innerOf 3 = .ok (.istore 5, 2) := by decide +kernel
theorem dX0_innerOf_5 : decode cX0_innerOf 5 = .ok (.iload 5, 2) := by decide +kernel
theorem dX0_innerOf_7 : decode cX0_innerOf 7 = .ok (.bipush 22, 2) := by decide +kernel
theorem dX0_innerOf_9 : decode cX0_innerOf 9 = .ok (.if_icmp .ge 35, 3) := by decide +kernel
theorem dX0_innerOf_12 : decode cX0_innerOf 12 = .ok (.lload_n 3, 1) := by decide +kernel
theorem dX0_innerOf_13 : decode cX0_innerOf 13 = .ok (.aload_n 0, 1) := by decide +kernel
theorem dX0_innerOf_14 : decode cX0_innerOf 14 = .ok (.getfield 31, 3) := by decide +kernel
theorem dX0_innerOf_17 : decode cX0_innerOf 17 = .ok (.iload_n 1, 1) := by decide +kernel
theorem dX0_innerOf_18 : decode cX0_innerOf 18 = .ok (.iload 5, 2) := by decide +kernel
theorem dX0_innerOf_20 : decode cX0_innerOf 20 = .ok (.invokevirtual 48, 3) := by decide +kernel
theorem dX0_innerOf_23 : decode cX0_innerOf 23 = .ok (.i2l, 1) := by decide +kernel
theorem dX0_innerOf_24 : decode cX0_innerOf 24 = .ok (.aload_n 0, 1) := by decide +kernel
theorem dX0_innerOf_25 : decode cX0_innerOf 25 = .ok (.getfield 31, 3) := by decide +kernel
theorem dX0_innerOf_28 : decode cX0_innerOf 28 = .ok (.iload_n 2, 1) := by decide +kernel
theorem dX0_innerOf_29 : decode cX0_innerOf 29 = .ok (.iload 5, 2) := by decide +kernel
theorem dX0_innerOf_31 : decode cX0_innerOf 31 = .ok (.invokevirtual 48, 3) := by decide +kernel
theorem dX0_innerOf_34 : decode cX0_innerOf 34 = .ok (.i2l, 1) := by decide +kernel
theorem dX0_innerOf_35 : decode cX0_innerOf 35 = .ok (.lmul, 1) := by decide +kernel
theorem dX0_innerOf_36 : decode cX0_innerOf 36 = .ok (.ladd, 1) := by decide +kernel
theorem dX0_innerOf_37 : decode cX0_innerOf 37 = .ok (.lstore_n 3, 1) := by decide +kernel
theorem dX0_innerOf_38 : decode cX0_innerOf 38 = .ok (.iinc 5 1, 3) := by decide +kernel
theorem dX0_innerOf_41 : decode cX0_innerOf 41 = .ok (.goto (-36), 3) := by decide +kernel
theorem dX0_innerOf_44 : decode cX0_innerOf 44 = .ok (.lload_n 3, 1) := by decide +kernel
theorem dX0_innerOf_45 : decode cX0_innerOf 45 = .ok (.lreturn, 1) := by decide +kernel
