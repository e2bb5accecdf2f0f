theorem dX6_init_0 : decode cX6_init 0 = .ok (.aload_n 0, 1) := by decide +kernel
theorem dX6_init_1 : decode cX6_init 1 = .ok (.invokespecial 3, 3) := by decide +kernel
theorem dX6_init_4 : decode cX6_init 4 = .ok (.aload_n 0, 1) := by decide +kernel
theorem dX6_init_5 : decode cX6_init 5 = .ok (.sipush 536, 3) := by decide +kernel
theorem dX6_init_8 : decode cX6_init 8 = .ok (.newarray .int, 2) := by decide +kernel
theorem dX6_init_10 : decode cX6_init 10 = .ok (.putfield 9, 3) := by decide +kernel
theorem dX6_init_13 : decode cX6_init 13 = .ok (.aload_n 0, 1) := by decide +kernel
theorem dX6_init_14 : decode cX6_init 14 = .ok (.sipush 536, 3) := by decide +kernel
theorem dX6_init_17 : decode cX6_init 17 = .ok (.newarray .int, 2) := by decide +kernel
theorem dX6_init_19 : decode cX6_init 19 = .ok (.putfield 15, 3) := by decide +kernel
theorem dX6_init_22 : decode cX6_init 22 = .ok (.aload_n 0, 1) := by decide +kernel
theorem dX6_init_23 : decode cX6_init 23 = .ok (.sipush 536, 3) := by decide +kernel
theorem dX6_init_26 : decode cX6_init 26 = .ok (.newarray .int, 2) := by decide +kernel
theorem dX6_init_28 : decode cX6_init 28 = .ok (.putfield 18, 3) := by decide +kernel
theorem dX6_init_31 : decode cX6_init 31 = .ok (.aload_n 0, 1) := by decide +kernel
theorem dX6_init_32 : decode cX6_init 32 = .ok (.aload_n 1, 1) := by decide +kernel
theorem dX6_init_33 : decode cX6_init 33 = .ok (.putfield 21, 3) := by decide +kernel
theorem dX6_init_36 : decode cX6_init 36 = .ok (.iconst 0, 1) := by decide +kernel
theorem dX6_init_37 : decode cX6_init 37 = .ok (.istore_n 2, 1) := by decide +kernel
theorem dX6_init_38 : decode cX6_init 38 = .ok (.iload_n 2, 1) := by decide +kernel
theorem dX6_init_39 : decode cX6_init 39 = .ok (.bipush 67, 2) := by decide +kernel
theorem dX6_init_41 : decode cX6_init 41 = .ok (.if_icmp .ge 64, 3) := by decide +kernel
theorem dX6_init_44 : decode cX6_init 44 = .ok (.iconst 0, 1) := by decide +kernel
theorem dX6_init_45 : decode cX6_init 45 = .ok (.istore_n 3, 1) := by decide +kernel
theorem dX6_init_46 : decode cX6_init 46 = .ok (.iconst 0, 1) := by decide +kernel
theorem dX6_init_47 : decode cX6_init 47 = .ok (.istore 4, 2) := by decide +kernel
theorem dX6_init_49 : decode cX6_init 49 = .ok (.iload 4, 2) := by decide +kernel
theorem dX6_init_51 : decode cX6_init 51 = .ok (.aload_n 1, 1) := by decide +kernel
theorem dX6_init_52 : decode cX6_init 52 = .ok (.iload_n 2, 1) := by decide +kernel
theorem dX6_init_53 : decode cX6_init 53 = .ok (.invokevirtual 25, 3) := by decide +kernel
theorem dX6_init_56 : decode cX6_init 56 = .ok (.if_icmp .ge 43, 3) := by decide +kernel
theorem dX6_init_59 : decode cX6_init 59 = .ok (.iconst 0, 1) := by decide +kernel
theorem dX6_init_60 : decode cX6_init 60 = .ok (.istore 5, 2) := by decide +kernel
theorem dX6_init_62 : decode cX6_init 62 = .ok (.iload 5, 2) := by decide +kernel
theorem dX6_init_64 : decode cX6_init 64 = .ok (.aload_n 1, 1) := by decide +kernel
theorem dX6_init_65 : decode cX6_init 65 = .ok (.iload_n 2, 1) := by decide +kernel
theorem dX6_init_66 : decode cX6_init 66 = .ok (.iload 4, 2) := by decide +kernel
theorem dX6_init_68 : decode cX6_init 68 = .ok (.invokevirtual 31, 3) := by decide +kernel
theorem dX6_init_71 : decode cX6_init 71 = .ok (.if_icmp .ge 22, 3) := by decide +kernel
theorem dX6_init_74 : decode cX6_init 74 = .ok (.aload_n 0, 1) := by decide +kernel
theorem dX6_init_75 : decode cX6_init 75 = .ok (.iload_n 2, 1) := by decide +kernel
theorem dX6_init_76 : decode cX6_init 76 = .ok (.iload_n 3, 1) := by decide +kernel
theorem dX6_init_77 : decode cX6_init 77 = .ok (.iload 4, 2) := by decide +kernel
theorem dX6_init_79 : decode cX6_init 79 = .ok (.iload 5, 2) := by decide +kernel
theorem dX6_init_81 : decode cX6_init 81 = .ok (.invokevirtual 35, 3) := by decide +kernel
theorem dX6_init_84 : decode cX6_init 84 = .ok (.iinc 3 1, 3) := by decide +kernel
theorem dX6_init_87 : decode cX6_init 87 = .ok (.iinc 5 1, 3) := by decide +kernel
theorem dX6_init_90 : decode cX6_init 90 = .ok (.goto (-28), 3) := by decide +kernel
theorem dX6_init_93 : decode cX6_init 93 = .ok (.iinc 4 1, 3) := by decide +kernel
theorem dX6_init_96 : decode cX6_init 96 = .ok (.goto (-47), 3) := by decide +kernel
theorem dX6_init_99 : decode cX6_init 99 = .ok (.iinc 2 1, 3) := by decide +kernel
theorem dX6_init_102 : decode cX6_init 102 = .ok (.goto (-64), 3) := by decide +kernel
theorem dX6_init_105 : decode cX6_init 105 = .ok (.return_, 1) := by decide +kernel
theorem dX6_note_0 : decode cX6_note 0 = .ok (.aload_n 0, 1) := by decide +kernel
theorem dX6_note_1 : decode cX6_note 1 = .ok (.iload_n 1, 1) := by decide +kernel
theorem dX6_note_2 : decode cX6_note 2 = .ok (.iload_n 2, 1) := by decide +kernel
theorem dX6_note_3 : decode cX6_note 3 = .ok (.invokevirtual 39, 3) := by decide +kernel
theorem dX6_note_6 : decode cX6_note 6 = .ok (.ifCond .eq 71, 3) := by decide +kernel
theorem dX6_note_9 : decode cX6_note 9 = .ok (.iload_n 1, 1) := by decide +kernel
theorem dX6_note_10 : decode cX6_note 10 = .ok (.bipush 8, 2) := by decide +kernel
theorem dX6_note_12 : decode cX6_note 12 = .ok (.imul, 1) := by decide +kernel
theorem dX6_note_13 : decode cX6_note 13 = .ok (.iload_n 2, 1) := by decide +kernel
theorem dX6_note_14 : decode cX6_note 14 = .ok (.iadd, 1) := by decide +kernel
theorem dX6_note_15 : decode cX6_note 15 = .ok (.istore 5, 2) := by decide +kernel
theorem dX6_note_17 : decode cX6_note 17 = .ok (.aload_n 0, 1) := by decide +kernel
theorem dX6_note_18 : decode cX6_note 18 = .ok (.getfield 21, 3) := by decide +kernel
theorem dX6_note_21 : decode cX6_note 21 = .ok (.iload_n 1, 1) := by decide +kernel
theorem dX6_note_22 : decode cX6_note 22 = .ok (.iload 4, 2) := by decide +kernel
theorem dX6_note_24 : decode cX6_note 24 = .ok (.invokevirtual 43, 3) := by decide +kernel
theorem dX6_note_27 : decode cX6_note 27 = .ok (.iconst 1, 1) := by decide +kernel
theorem dX6_note_28 : decode cX6_note 28 = .ok (.isub, 1) := by decide +kernel
theorem dX6_note_29 : decode cX6_note 29 = .ok (.istore 6, 2) := by decide +kernel
theorem dX6_note_31 : decode cX6_note 31 = .ok (.aload_n 0, 1) := by decide +kernel
theorem dX6_note_32 : decode cX6_note 32 = .ok (.getfield 9, 3) := by decide +kernel
theorem dX6_note_35 : decode cX6_note 35 = .ok (.iload 5, 2) := by decide +kernel
theorem dX6_note_37 : decode cX6_note 37 = .ok (.aload_n 0, 1) := by decide +kernel
theorem dX6_note_38 : decode cX6_note 38 = .ok (.getfield 21, 3) := by decide +kernel
theorem dX6_note_41 : decode cX6_note 41 = .ok (.iload_n 1, 1) := by decide +kernel
theorem dX6_note_42 : decode cX6_note 42 = .ok (.iload_n 3, 1) := by decide +kernel
theorem dX6_note_43 : decode cX6_note 43 = .ok (.iload 4, 2) := by decide +kernel
theorem dX6_note_45 : decode cX6_note 45 = .ok (.invokevirtual 46, 3) := by decide +kernel
theorem dX6_note_48 : decode cX6_note 48 = .ok (.iastore, 1) := by decide +kernel
theorem dX6_note_49 : decode cX6_note 49 = .ok (.aload_n 0, 1) := by decide +kernel
theorem dX6_note_50 : decode cX6_note 50 = .ok (.getfield 18, 3) := by decide +kernel
theorem dX6_note_53 : decode cX6_note 53 = .ok (.iload 5, 2) := by decide +kernel
theorem dX6_note_55 : decode cX6_note 55 = .ok (.iload 6, 2) := by decide +kernel
theorem dX6_note_57 : decode cX6_note 57 = .ok (.iload_n 3, 1) := by decide +kernel
theorem dX6_note_58 : decode cX6_note 58 = .ok (.isub, 1) := by decide +kernel
theorem dX6_note_59 : decode cX6_note 59 = .ok (.iastore, 1) := by decide +kernel
theorem dX6_note_60 : decode cX6_note 60 = .ok (.aload_n 0, 1) := by decide +kernel
theorem dX6_note_61 : decode cX6_note 61 = .ok (.getfield 15, 3) := by decide +kernel
theorem dX6_note_64 : decode cX6_note 64 = .ok (.iload 5, 2) := by decide +kernel
theorem dX6_note_66 : decode cX6_note 66 = .ok (.aload_n 0, 1) := by decide +kernel
theorem dX6_note_67 : decode cX6_note 67 = .ok (.iload_n 1, 1) := by decide +kernel
theorem dX6_note_68 : decode cX6_note 68 = .ok (.iload_n 3, 1) := by decide +kernel
theorem dX6_note_69 : decode cX6_note 69 = .ok (.iload 6, 2) := by decide +kernel
theorem dX6_note_71 : decode cX6_note 71 = .ok (.iload 4, 2) := by decide +kernel
theorem dX6_note_73 : decode cX6_note 73 = .ok (.invokevirtual 50, 3) := by decide +kernel
theorem dX6_note_76 : decode cX6_note 76 = .ok (.iastore, 1) := by decide +kernel
theorem dX6_note_77 : decode cX6_note 77 = .ok (.return_, 1) := by decide +kernel
theorem dX6_shapeLeft_0 : decode cX6_shapeLeft 0 = .ok (.iconst 0, 1) := by decide +kernel
theorem dX6_shapeLeft_1 : decode cX6_shapeLeft 1 = .ok (.istore 5, 2) := by decide +kernel
theorem dX6_shapeLeft_3 : decode cX6_shapeLeft 3 = .ok (.iconst 0, 1) := by decide +kernel
theorem dX6_shapeLeft_4 : decode cX6_shapeLeft 4 = .ok (.istore 6, 2) := by decide +kernel
theorem dX6_shapeLeft_6 : decode cX6_shapeLeft 6 = .ok (.iconst 0, 1) := by decide +kernel
theorem dX6_shapeLeft_7 : decode cX6_shapeLeft 7 = .ok (.istore 7, 2) := by decide +kernel
theorem dX6_shapeLeft_9 : decode cX6_shapeLeft 9 = .ok (.iload 7, 2) := by decide +kernel
theorem dX6_shapeLeft_11 : decode cX6_shapeLeft 11 = .ok (.aload_n 0, 1) := by decide +kernel
theorem dX6_shapeLeft_12 : decode cX6_shapeLeft 12 = .ok (.getfield 21, 3) := by decide +kernel
theorem dX6_shapeLeft_15 : decode cX6_shapeLeft 15 = .ok (.iload_n 1, 1) := by decide +kernel
theorem dX6_shapeLeft_16 : decode cX6_shapeLeft 16 = .ok (.invokevirtual 25, 3) := by decide +kernel
theorem dX6_shapeLeft_19 : decode cX6_shapeLeft 19 = .ok (.if_icmp .ge 83, 3) := by decide +kernel
theorem dX6_shapeLeft_22 : decode cX6_shapeLeft 22 = .ok (.aload_n 0, 1) := by decide +kernel
theorem dX6_shapeLeft_23 : decode cX6_shapeLeft 23 = .ok (.getfield 21, 3) := by decide +kernel
theorem dX6_shapeLeft_26 : decode cX6_shapeLeft 26 = .ok (.iload_n 1, 1) := by decide +kernel
theorem dX6_shapeLeft_27 : decode cX6_shapeLeft 27 = .ok (.iload 7, 2) := by decide +kernel
theorem dX6_shapeLeft_29 : decode cX6_shapeLeft 29 = .ok (.invokevirtual 31, 3) := by decide +kernel
theorem dX6_shapeLeft_32 : decode cX6_shapeLeft 32 = .ok (.istore 8, 2) := by decide +kernel
theorem dX6_shapeLeft_34 : decode cX6_shapeLeft 34 = .ok (.iload 7, 2) := by decide +kernel
theorem dX6_shapeLeft_36 : decode cX6_shapeLeft 36 = .ok (.iload_n 2, 1) := by decide +kernel
theorem dX6_shapeLeft_37 : decode cX6_shapeLeft 37 = .ok (.if_icmp .lt 28, 3) := by decide +kernel
theorem dX6_shapeLeft_40 : decode cX6_shapeLeft 40 = .ok (.iload 7, 2) := by decide +kernel
theorem dX6_shapeLeft_42 : decode cX6_shapeLeft 42 = .ok (.iload_n 3, 1) := by decide +kernel
theorem dX6_shapeLeft_43 : decode cX6_shapeLeft 43 = .ok (.if_icmp .ge 22, 3) := by decide +kernel
theorem dX6_shapeLeft_46 : decode cX6_shapeLeft 46 = .ok (.aload_n 0, 1) := by decide +kernel
theorem dX6_shapeLeft_47 : decode cX6_shapeLeft 47 = .ok (.getfield 21, 3) := by decide +kernel
theorem dX6_shapeLeft_50 : decode cX6_shapeLeft 50 = .ok (.iload_n 1, 1) := by decide +kernel
theorem dX6_shapeLeft_51 : decode cX6_shapeLeft 51 = .ok (.iload 7, 2) := by decide +kernel
theorem dX6_shapeLeft_53 : decode cX6_shapeLeft 53 = .ok (.iconst 1, 1) := by decide +kernel
theorem dX6_shapeLeft_54 : decode cX6_shapeLeft 54 = .ok (.iadd, 1) := by decide +kernel
theorem dX6_shapeLeft_55 : decode cX6_shapeLeft 55 = .ok (.invokevirtual 31, 3) := by decide +kernel
theorem dX6_shapeLeft_58 : decode cX6_shapeLeft 58 = .ok (.iconst 1, 1) := by decide +kernel
theorem dX6_shapeLeft_59 : decode cX6_shapeLeft 59 = .ok (.isub, 1) := by decide +kernel
theorem dX6_shapeLeft_60 : decode cX6_shapeLeft 60 = .ok (.istore 8, 2) := by decide +kernel
theorem dX6_shapeLeft_62 : decode cX6_shapeLeft 62 = .ok (.goto 13, 3) := by decide +kernel
theorem dX6_shapeLeft_65 : decode cX6_shapeLeft 65 = .ok (.iload 7, 2) := by decide +kernel
theorem dX6_shapeLeft_67 : decode cX6_shapeLeft 67 = .ok (.iload_n 3, 1) := by decide +kernel
theorem dX6_shapeLeft_68 : decode cX6_shapeLeft 68 = .ok (.if_icmp .ne 7, 3) := by decide +kernel
theorem dX6_shapeLeft_71 : decode cX6_shapeLeft 71 = .ok (.iload 4, 2) := by decide +kernel
theorem dX6_shapeLeft_73 : decode cX6_shapeLeft 73 = .ok (.istore 8, 2) := by decide +kernel
theorem dX6_shapeLeft_75 : decode cX6_shapeLeft 75 = .ok (.iload 8, 2) := by decide +kernel
theorem dX6_shapeLeft_77 : decode cX6_shapeLeft 77 = .ok (.ifCond .le 19, 3) := by decide +kernel
theorem dX6_shapeLeft_80 : decode cX6_shapeLeft 80 = .ok (.iload 5, 2) := by decide +kernel
theorem dX6_shapeLeft_82 : decode cX6_shapeLeft 82 = .ok (.iload 8, 2) := by decide +kernel
theorem dX6_shapeLeft_84 : decode cX6_shapeLeft 84 = .ok (.invokestatic 54, 3) := by decide +kernel
theorem dX6_shapeLeft_87 : decode cX6_shapeLeft 87 = .ok (.istore 5, 2) := by decide +kernel
theorem dX6_shapeLeft_89 : decode cX6_shapeLeft 89 = .ok (.iload 6, 2) := by decide +kernel
theorem dX6_shapeLeft_91 : decode cX6_shapeLeft 91 = .ok (.iload 8, 2) := by decide +kernel
theorem dX6_shapeLeft_93 : decode cX6_shapeLeft 93 = .ok (.iadd, 1) := by decide +kernel
theorem dX6_shapeLeft_94 : decode cX6_shapeLeft 94 = .ok (.istore 6, 2) := by decide +kernel
theorem dX6_shapeLeft_96 : decode cX6_shapeLeft 96 = .ok (.iinc 7 1, 3) := by decide +kernel
theorem dX6_shapeLeft_99 : decode cX6_shapeLeft 99 = .ok (.goto (-90), 3) := by decide +kernel
theorem dX6_shapeLeft_102 : decode cX6_shapeLeft 102 = .ok (.aload_n 0, 1) := by decide +kernel
theorem dX6_shapeLeft_103 : decode cX6_shapeLeft 103 = .ok (.getfield 21, 3) := by decide +kernel
theorem dX6_shapeLeft_106 : decode cX6_shapeLeft 106 = .ok (.iload 6, 2) := by decide +kernel
theorem dX6_shapeLeft_108 : decode cX6_shapeLeft 108 = .ok (.iload 5, 2) := by decide +kernel
theorem dX6_shapeLeft_110 : decode cX6_shapeLeft 110 = .ok (.invokevirtual 57, 3) := by decide +kernel
theorem dX6_shapeLeft_113 : decode cX6_shapeLeft 113 = .ok (.ireturn, 1) := by decide +kernel
theorem dX6_has_0 : decode cX6_has 0 = .ok (.aload_n 0, 1) := by decide +kernel
theorem dX6_has_1 : decode cX6_has 1 = .ok (.getfield 21, 3) := by decide +kernel
theorem dX6_has_4 : decode cX6_has 4 = .ok (.iload_n 1, 1) := by decide +kernel
theorem dX6_has_5 : decode cX6_has 5 = .ok (.invokevirtual 60, 3) := by decide +kernel
theorem dX6_has_8 : decode cX6_has 8 = .ok (.ifCond .eq 17, 3) := by decide +kernel
theorem dX6_has_11 : decode cX6_has 11 = .ok (.iload_n 2, 1) := by decide +kernel
theorem dX6_has_12 : decode cX6_has 12 = .ok (.ifCond .lt 13, 3) := by decide +kernel
theorem dX6_has_15 : decode cX6_has 15 = .ok (.iload_n 2, 1) := by decide +kernel
theorem dX6_has_16 : decode cX6_has 16 = .ok (.bipush 8, 2) := by decide +kernel
theorem dX6_has_18 : decode cX6_has 18 = .ok (.if_icmp .ge 7, 3) := by decide +kernel
theorem dX6_has_21 : decode cX6_has 21 = .ok (.iconst 1, 1) := by decide +kernel
theorem dX6_has_22 : decode cX6_has 22 = .ok (.goto 4, 3) := by decide +kernel
theorem dX6_has_25 : decode cX6_has 25 = .ok (.iconst 0, 1) := by decide +kernel
theorem dX6_has_26 : decode cX6_has 26 = .ok (.ireturn, 1) := by decide +kernel
theorem dX6_hookBy_0 : decode cX6_hookBy 0 = .ok (.aload_n 0, 1) := by decide +kernel
theorem dX6_hookBy_1 : decode cX6_hookBy 1 = .ok (.iload_n 1, 1) := by decide +kernel
theorem dX6_hookBy_2 : decode cX6_hookBy 2 = .ok (.iload_n 2, 1) := by decide +kernel
theorem dX6_hookBy_3 : decode cX6_hookBy 3 = .ok (.invokevirtual 39, 3) := by decide +kernel
theorem dX6_hookBy_6 : decode cX6_hookBy 6 = .ok (.ifCond .eq 17, 3) := by decide +kernel
theorem dX6_hookBy_9 : decode cX6_hookBy 9 = .ok (.aload_n 0, 1) := by decide +kernel
theorem dX6_hookBy_10 : decode cX6_hookBy 10 = .ok (.getfield 9, 3) := by decide +kernel
theorem dX6_hookBy_13 : decode cX6_hookBy 13 = .ok (.iload_n 1, 1) := by decide +kernel
theorem dX6_hookBy_14 : decode cX6_hookBy 14 = .ok (.bipush 8, 2) := by decide +kernel
theorem dX6_hookBy_16 : decode cX6_hookBy 16 = .ok (.imul, 1) := by decide +kernel
theorem dX6_hookBy_17 : decode cX6_hookBy 17 = .ok (.iload_n 2, 1) := by decide +kernel
theorem dX6_hookBy_18 : decode cX6_hookBy 18 = .ok (.iadd, 1) := by decide +kernel
theorem dX6_hookBy_19 : decode cX6_hookBy 19 = .ok (.iaload, 1) := by decide +kernel
theorem dX6_hookBy_20 : decode cX6_hookBy 20 = .ok (.goto 4, 3) := by decide +kernel
theorem dX6_hookBy_23 : decode cX6_hookBy 23 = .ok (.iconst 0, 1) := by decide +kernel
theorem dX6_hookBy_24 : decode cX6_hookBy 24 = .ok (.ireturn, 1) := by decide +kernel
theorem dX6_leftBy_0 : decode cX6_leftBy 0 = .ok (.aload_n 0, 1) := by decide +kernel
theorem dX6_leftBy_1 : decode cX6_leftBy 1 = .ok (.iload_n 1, 1) := by decide +kernel
theorem dX6_leftBy_2 : decode cX6_leftBy 2 = .ok (.iload_n 2, 1) := by decide +kernel
theorem dX6_leftBy_3 : decode cX6_leftBy 3 = .ok (.invokevirtual 39, 3) := by decide +kernel
theorem dX6_leftBy_6 : decode cX6_leftBy 6 = .ok (.ifCond .eq 17, 3) := by decide +kernel
theorem dX6_leftBy_9 : decode cX6_leftBy 9 = .ok (.aload_n 0, 1) := by decide +kernel
theorem dX6_leftBy_10 : decode cX6_leftBy 10 = .ok (.getfield 15, 3) := by decide +kernel
theorem dX6_leftBy_13 : decode cX6_leftBy 13 = .ok (.iload_n 1, 1) := by decide +kernel
theorem dX6_leftBy_14 : decode cX6_leftBy 14 = .ok (.bipush 8, 2) := by decide +kernel
theorem dX6_leftBy_16 : decode cX6_leftBy 16 = .ok (.imul, 1) := by decide +kernel
theorem dX6_leftBy_17 : decode cX6_leftBy 17 = .ok (.iload_n 2, 1) := by decide +kernel
theorem dX6_leftBy_18 : decode cX6_leftBy 18 = .ok (.iadd, 1) := by decide +kernel
theorem dX6_leftBy_19 : decode cX6_leftBy 19 = .ok (.iaload, 1) := by decide +kernel
theorem dX6_leftBy_20 : decode cX6_leftBy 20 = .ok (.goto 4, 3) := by decide +kernel
theorem dX6_leftBy_23 : decode cX6_leftBy 23 = .ok (.iconst 0, 1) := by decide +kernel
theorem dX6_leftBy_24 : decode cX6_leftBy 24 = .ok (.ireturn, 1) := by decide +kernel
theorem dX6_heightBy_0 : decode cX6_heightBy 0 = .ok (.aload_n 0, 1) := by decide +kernel
theorem dX6_heightBy_1 : decode cX6_heightBy 1 = .ok (.iload_n 1, 1) := by decide +kernel
theorem dX6_heightBy_2 : decode cX6_heightBy 2 = .ok (.iload_n 2, 1) := by decide +kernel
theorem dX6_heightBy_3 : decode cX6_heightBy 3 = .ok (.invokevirtual 39, 3) := by decide +kernel
theorem dX6_heightBy_6 : decode cX6_heightBy 6 = .ok (.ifCond .eq 17, 3) := by decide +kernel
theorem dX6_heightBy_9 : decode cX6_heightBy 9 = .ok (.aload_n 0, 1) := by decide +kernel
theorem dX6_heightBy_10 : decode cX6_heightBy 10 = .ok (.getfield 18, 3) := by decide +kernel
theorem dX6_heightBy_13 : decode cX6_heightBy 13 = .ok (.iload_n 1, 1) := by decide +kernel
theorem dX6_heightBy_14 : decode cX6_heightBy 14 = .ok (.bipush 8, 2) := by decide +kernel
theorem dX6_heightBy_16 : decode cX6_heightBy 16 = .ok (.imul, 1) := by decide +kernel
theorem dX6_heightBy_17 : decode cX6_heightBy 17 = .ok (.iload_n 2, 1) := by decide +kernel
theorem dX6_heightBy_18 : decode cX6_heightBy 18 = .ok (.iadd, 1) := by decide +kernel
theorem dX6_heightBy_19 : decode cX6_heightBy 19 = .ok (.iaload, 1) := by decide +kernel
theorem dX6_heightBy_20 : decode cX6_heightBy 20 = .ok (.goto 4, 3) := by decide +kernel
theorem dX6_heightBy_23 : decode cX6_heightBy 23 = .ok (.iconst 0, 1) := by decide +kernel
theorem dX6_heightBy_24 : decode cX6_heightBy 24 = .ok (.ireturn, 1) := by decide +kernel
theorem dX6_dimensionOf_0 : decode cX6_dimensionOf 0 = .ok (.iconst 1, 1) := by decide +kernel
theorem dX6_dimensionOf_1 : decode cX6_dimensionOf 1 = .ok (.istore_n 2, 1) := by decide +kernel
theorem dX6_dimensionOf_2 : decode cX6_dimensionOf 2 = .ok (.iconst 0, 1) := by decide +kernel
theorem dX6_dimensionOf_3 : decode cX6_dimensionOf 3 = .ok (.istore_n 3, 1) := by decide +kernel
theorem dX6_dimensionOf_4 : decode cX6_dimensionOf 4 = .ok (.iload_n 3, 1) := by decide +kernel
theorem dX6_dimensionOf_5 : decode cX6_dimensionOf 5 = .ok (.aload_n 0, 1) := by decide +kernel
theorem dX6_dimensionOf_6 : decode cX6_dimensionOf 6 = .ok (.getfield 21, 3) := by decide +kernel
theorem dX6_dimensionOf_9 : decode cX6_dimensionOf 9 = .ok (.iload_n 1, 1) := by decide +kernel
theorem dX6_dimensionOf_10 : decode cX6_dimensionOf 10 = .ok (.invokevirtual 63, 3) := by decide +kernel
theorem dX6_dimensionOf_13 : decode cX6_dimensionOf 13 = .ok (.if_icmp .ge 18, 3) := by decide +kernel
theorem dX6_dimensionOf_16 : decode cX6_dimensionOf 16 = .ok (.iload_n 2, 1) := by decide +kernel
theorem dX6_dimensionOf_17 : decode cX6_dimensionOf 17 = .ok (.aload_n 0, 1) := by decide +kernel
theorem dX6_dimensionOf_18 : decode cX6_dimensionOf 18 = .ok (.iload_n 1, 1) := by decide +kernel
theorem dX6_dimensionOf_19 : decode cX6_dimensionOf 19 = .ok (.iload_n 3, 1) := by decide +kernel
theorem dX6_dimensionOf_20 : decode cX6_dimensionOf 20 = .ok (.invokevirtual 66, 3) := by decide +kernel
theorem dX6_dimensionOf_23 : decode cX6_dimensionOf 23 = .ok (.imul, 1) := by decide +kernel
theorem dX6_dimensionOf_24 : decode cX6_dimensionOf 24 = .ok (.istore_n 2, 1) := by decide +kernel
theorem dX6_dimensionOf_25 : decode cX6_dimensionOf 25 = .ok (.iinc 3 1, 3) := by decide +kernel
theorem dX6_dimensionOf_28 : decode cX6_dimensionOf 28 = .ok (.goto (-24), 3) := by decide +kernel
theorem dX6_dimensionOf_31 : decode cX6_dimensionOf 31 = .ok (.iload_n 2, 1) := by decide +kernel
theorem dX6_dimensionOf_32 : decode cX6_dimensionOf 32 = .ok (.ifCond .le 19, 3) := by decide +kernel
theorem dX6_dimensionOf_35 : decode cX6_dimensionOf 35 = .ok (.aload_n 0, 1) := by decide +kernel
theorem dX6_dimensionOf_36 : decode cX6_dimensionOf 36 = .ok (.getfield 21, 3) := by decide +kernel
theorem dX6_dimensionOf_39 : decode cX6_dimensionOf 39 = .ok (.iload_n 1, 1) := by decide +kernel
theorem dX6_dimensionOf_40 : decode cX6_dimensionOf 40 = .ok (.invokevirtual 63, 3) := by decide +kernel
theorem dX6_dimensionOf_43 : decode cX6_dimensionOf 43 = .ok (.invokestatic 69, 3) := by decide +kernel
theorem dX6_dimensionOf_46 : decode cX6_dimensionOf 46 = .ok (.iload_n 2, 1) := by decide +kernel
theorem dX6_dimensionOf_47 : decode cX6_dimensionOf 47 = .ok (.idiv, 1) := by decide +kernel
theorem dX6_dimensionOf_48 : decode cX6_dimensionOf 48 = .ok (.goto 4, 3) := by decide +kernel
theorem dX6_dimensionOf_51 : decode cX6_dimensionOf 51 = .ok (.iconst 0, 1) := by decide +kernel
theorem dX6_dimensionOf_52 : decode cX6_dimensionOf 52 = .ok (.ireturn, 1) := by decide +kernel
