theorem dX8_init_0 : decode cX8_init 0 = .ok (.aload_n 0, 1) := by decide +kernel
theorem dX8_init_1 : decode cX8_init 1 = .ok (.invokespecial 5, 3) := by decide +kernel
theorem dX8_init_4 : decode cX8_init 4 = .ok (.aload_n 0, 1) := by decide +kernel
theorem dX8_init_5 : decode cX8_init 5 = .ok (.bipush 17, 2) := by decide +kernel
theorem dX8_init_7 : decode cX8_init 7 = .ok (.newarray .int, 2) := by decide +kernel
theorem dX8_init_9 : decode cX8_init 9 = .ok (.putfield 11, 3) := by decide +kernel
theorem dX8_init_12 : decode cX8_init 12 = .ok (.aload_n 0, 1) := by decide +kernel
theorem dX8_init_13 : decode cX8_init 13 = .ok (.sipush 374, 3) := by decide +kernel
theorem dX8_init_16 : decode cX8_init 16 = .ok (.newarray .int, 2) := by decide +kernel
theorem dX8_init_18 : decode cX8_init 18 = .ok (.putfield 15, 3) := by decide +kernel
theorem dX8_init_21 : decode cX8_init 21 = .ok (.aload_n 0, 1) := by decide +kernel
theorem dX8_init_22 : decode cX8_init 22 = .ok (.bipush 8, 2) := by decide +kernel
theorem dX8_init_24 : decode cX8_init 24 = .ok (.newarray .int, 2) := by decide +kernel
theorem dX8_init_26 : decode cX8_init 26 = .ok (.putfield 18, 3) := by decide +kernel
theorem dX8_init_29 : decode cX8_init 29 = .ok (.iconst 0, 1) := by decide +kernel
theorem dX8_init_30 : decode cX8_init 30 = .ok (.istore_n 1, 1) := by decide +kernel
theorem dX8_init_31 : decode cX8_init 31 = .ok (.iload_n 1, 1) := by decide +kernel
theorem dX8_init_32 : decode cX8_init 32 = .ok (.bipush 17, 2) := by decide +kernel
theorem dX8_init_34 : decode cX8_init 34 = .ok (.if_icmp .ge 16, 3) := by decide +kernel
theorem dX8_init_37 : decode cX8_init 37 = .ok (.aload_n 0, 1) := by decide +kernel
theorem dX8_init_38 : decode cX8_init 38 = .ok (.getfield 11, 3) := by decide +kernel
theorem dX8_init_41 : decode cX8_init 41 = .ok (.iload_n 1, 1) := by decide +kernel
theorem dX8_init_42 : decode cX8_init 42 = .ok (.iconst (-1), 1) := by decide +kernel
theorem dX8_init_43 : decode cX8_init 43 = .ok (.iastore, 1) := by decide +kernel
theorem dX8_init_44 : decode cX8_init 44 = .ok (.iinc 1 1, 3) := by decide +kernel
theorem dX8_init_47 : decode cX8_init 47 = .ok (.goto (-16), 3) := by decide +kernel
theorem dX8_init_50 : decode cX8_init 50 = .ok (.return_, 1) := by decide +kernel
theorem dX8_has_0 : decode cX8_has 0 = .ok (.iload_n 1, 1) := by decide +kernel
theorem dX8_has_1 : decode cX8_has 1 = .ok (.ifCond .lt 12, 3) := by decide +kernel
theorem dX8_has_4 : decode cX8_has 4 = .ok (.iload_n 1, 1) := by decide +kernel
theorem dX8_has_5 : decode cX8_has 5 = .ok (.iconst 4, 1) := by decide +kernel
theorem dX8_has_6 : decode cX8_has 6 = .ok (.if_icmp .ge 7, 3) := by decide +kernel
theorem dX8_has_9 : decode cX8_has 9 = .ok (.iconst 1, 1) := by decide +kernel
theorem dX8_has_10 : decode cX8_has 10 = .ok (.goto 4, 3) := by decide +kernel
theorem dX8_has_13 : decode cX8_has 13 = .ok (.iconst 0, 1) := by decide +kernel
theorem dX8_has_14 : decode cX8_has 14 = .ok (.ireturn, 1) := by decide +kernel
theorem dX8_sizeOf_0 : decode cX8_sizeOf 0 = .ok (.aload_n 0, 1) := by decide +kernel
theorem dX8_sizeOf_1 : decode cX8_sizeOf 1 = .ok (.iload_n 1, 1) := by decide +kernel
theorem dX8_sizeOf_2 : decode cX8_sizeOf 2 = .ok (.invokevirtual 21, 3) := by decide +kernel
theorem dX8_sizeOf_5 : decode cX8_sizeOf 5 = .ok (.ifCond .eq 12, 3) := by decide +kernel
theorem dX8_sizeOf_8 : decode cX8_sizeOf 8 = .ok (.aload_n 0, 1) := by decide +kernel
theorem dX8_sizeOf_9 : decode cX8_sizeOf 9 = .ok (.getfield 11, 3) := by decide +kernel
theorem dX8_sizeOf_12 : decode cX8_sizeOf 12 = .ok (.iload_n 1, 1) := by decide +kernel
theorem dX8_sizeOf_13 : decode cX8_sizeOf 13 = .ok (.iaload, 1) := by decide +kernel
theorem dX8_sizeOf_14 : decode cX8_sizeOf 14 = .ok (.goto 4, 3) := by decide +kernel
theorem dX8_sizeOf_17 : decode cX8_sizeOf 17 = .ok (.iconst (-1), 1) := by decide +kernel
theorem dX8_sizeOf_18 : decode cX8_sizeOf 18 = .ok (.ireturn, 1) := by decide +kernel
theorem dX8_isMissing_0 : decode cX8_isMissing 0 = .ok (.aload_n 0, 1) := by decide +kernel
theorem dX8_isMissing_1 : decode cX8_isMissing 1 = .ok (.iload_n 1, 1) := by decide +kernel
theorem dX8_isMissing_2 : decode cX8_isMissing 2 = .ok (.invokevirtual 25, 3) := by decide +kernel
theorem dX8_isMissing_5 : decode cX8_isMissing 5 = .ok (.iconst (-1), 1) := by decide +kernel
theorem dX8_isMissing_6 : decode cX8_isMissing 6 = .ok (.if_icmp .ne 7, 3) := by decide +kernel
theorem dX8_isMissing_9 : decode cX8_isMissing 9 = .ok (.iconst 1, 1) := by decide +kernel
theorem dX8_isMissing_10 : decode cX8_isMissing 10 = .ok (.goto 4, 3) := by decide +kernel
theorem dX8_isMissing_13 : decode cX8_isMissing 13 = .ok (.iconst 0, 1) := by decide +kernel
theorem dX8_isMissing_14 : decode cX8_isMissing 14 = .ok (.ireturn, 1) := by decide +kernel
theorem dX8_at_0 : decode cX8_at 0 = .ok (.aload_n 0, 1) := by decide +kernel
theorem dX8_at_1 : decode cX8_at 1 = .ok (.iload_n 1, 1) := by decide +kernel
theorem dX8_at_2 : decode cX8_at 2 = .ok (.invokevirtual 21, 3) := by decide +kernel
theorem dX8_at_5 : decode cX8_at 5 = .ok (.ifCond .eq 17, 3) := by decide +kernel
theorem dX8_at_8 : decode cX8_at 8 = .ok (.iload_n 2, 1) := by decide +kernel
theorem dX8_at_9 : decode cX8_at 9 = .ok (.ifCond .lt 13, 3) := by decide +kernel
theorem dX8_at_12 : decode cX8_at 12 = .ok (.iload_n 2, 1) := by decide +kernel
theorem dX8_at_13 : decode cX8_at 13 = .ok (.bipush 22, 2) := by decide +kernel
theorem dX8_at_15 : decode cX8_at 15 = .ok (.if_icmp .ge 7, 3) := by decide +kernel
theorem dX8_at_18 : decode cX8_at 18 = .ok (.iconst 1, 1) := by decide +kernel
theorem dX8_at_19 : decode cX8_at 19 = .ok (.goto 4, 3) := by decide +kernel
theorem dX8_at_22 : decode cX8_at 22 = .ok (.iconst 0, 1) := by decide +kernel
theorem dX8_at_23 : decode cX8_at 23 = .ok (.istore_n 3, 1) := by decide +kernel
theorem dX8_at_24 : decode cX8_at 24 = .ok (.iload_n 3, 1) := by decide +kernel
theorem dX8_at_25 : decode cX8_at 25 = .ok (.ifCond .eq 17, 3) := by decide +kernel
theorem dX8_at_28 : decode cX8_at 28 = .ok (.aload_n 0, 1) := by decide +kernel
theorem dX8_at_29 : decode cX8_at 29 = .ok (.getfield 15, 3) := by decide +kernel
theorem dX8_at_32 : decode cX8_at 32 = .ok (.iload_n 1, 1) := by decide +kernel
theorem dX8_at_33 : decode cX8_at 33 = .ok (.bipush 22, 2) := by decide +kernel
theorem dX8_at_35 : decode cX8_at 35 = .ok (.imul, 1) := by decide +kernel
theorem dX8_at_36 : decode cX8_at 36 = .ok (.iload_n 2, 1) := by decide +kernel
theorem dX8_at_37 : decode cX8_at 37 = .ok (.iadd, 1) := by decide +kernel
theorem dX8_at_38 : decode cX8_at 38 = .ok (.iaload, 1) := by decide +kernel
theorem dX8_at_39 : decode cX8_at 39 = .ok (.goto 4, 3) := by decide +kernel
theorem dX8_at_42 : decode cX8_at 42 = .ok (.iconst 0, 1) := by decide +kernel
theorem dX8_at_43 : decode cX8_at 43 = .ok (.ireturn, 1) := by decide +kernel
theorem dX8_termsOf_0 : decode cX8_termsOf 0 = .ok (.iconst 0, 1) := by decide +kernel
theorem dX8_termsOf_1 : decode cX8_termsOf 1 = .ok (.istore_n 2, 1) := by decide +kernel
theorem dX8_termsOf_2 : decode cX8_termsOf 2 = .ok (.iconst 0, 1) := by decide +kernel
theorem dX8_termsOf_3 : decode cX8_termsOf 3 = .ok (.istore_n 3, 1) := by decide +kernel
theorem dX8_termsOf_4 : decode cX8_termsOf 4 = .ok (.iload_n 3, 1) := by decide +kernel
theorem dX8_termsOf_5 : decode cX8_termsOf 5 = .ok (.bipush 22, 2) := by decide +kernel
theorem dX8_termsOf_7 : decode cX8_termsOf 7 = .ok (.if_icmp .ge 21, 3) := by decide +kernel
theorem dX8_termsOf_10 : decode cX8_termsOf 10 = .ok (.aload_n 0, 1) := by decide +kernel
theorem dX8_termsOf_11 : decode cX8_termsOf 11 = .ok (.iload_n 1, 1) := by decide +kernel
theorem dX8_termsOf_12 : decode cX8_termsOf 12 = .ok (.iload_n 3, 1) := by decide +kernel
theorem dX8_termsOf_13 : decode cX8_termsOf 13 = .ok (.invokevirtual 29, 3) := by decide +kernel
theorem dX8_termsOf_16 : decode cX8_termsOf 16 = .ok (.ifCond .eq 6, 3) := by decide +kernel
theorem dX8_termsOf_19 : decode cX8_termsOf 19 = .ok (.iinc 2 1, 3) := by decide +kernel
theorem dX8_termsOf_22 : decode cX8_termsOf 22 = .ok (.iinc 3 1, 3) := by decide +kernel
theorem dX8_termsOf_25 : decode cX8_termsOf 25 = .ok (.goto (-21), 3) := by decide +kernel
theorem dX8_termsOf_28 : decode cX8_termsOf 28 = .ok (.iload_n 2, 1) := by decide +kernel
theorem dX8_termsOf_29 : decode cX8_termsOf 29 = .ok (.ireturn, 1) := by decide +kernel
theorem dX8_firstTermOf_0 : decode cX8_firstTermOf 0 = .ok (.iconst 0, 1) := by decide +kernel
theorem dX8_firstTermOf_1 : decode cX8_firstTermOf 1 = .ok (.istore_n 2, 1) := by decide +kernel
theorem dX8_firstTermOf_2 : decode cX8_firstTermOf 2 = .ok (.iload_n 2, 1) := by decide +kernel
theorem dX8_firstTermOf_3 : decode cX8_firstTermOf 3 = .ok (.bipush 22, 2) := by decide +kernel
theorem dX8_firstTermOf_5 : decode cX8_firstTermOf 5 = .ok (.if_icmp .ge 20, 3) := by decide +kernel
theorem dX8_firstTermOf_8 : decode cX8_firstTermOf 8 = .ok (.aload_n 0, 1) := by decide +kernel
theorem dX8_firstTermOf_9 : decode cX8_firstTermOf 9 = .ok (.iload_n 1, 1) := by decide +kernel
theorem dX8_firstTermOf_10 : decode cX8_firstTermOf 10 = .ok (.iload_n 2, 1) := by decide +kernel
theorem dX8_firstTermOf_11 : decode cX8_firstTermOf 11 = .ok (.invokevirtual 29, 3) := by decide +kernel
theorem dX8_firstTermOf_14 : decode cX8_firstTermOf 14 = .ok (.ifCond .eq 5, 3) := by decide +kernel
theorem dX8_firstTermOf_17 : decode cX8_firstTermOf 17 = .ok (.iload_n 2, 1) := by decide +kernel
theorem dX8_firstTermOf_18 : decode cX8_firstTermOf 18 = .ok (.ireturn, 1) := by decide +kernel
theorem dX8_firstTermOf_19 : decode cX8_firstTermOf 19 = .ok (.iinc 2 1, 3) := by decide +kernel
theorem dX8_firstTermOf_22 : decode cX8_firstTermOf 22 = .ok (.goto (-20), 3) := by decide +kernel
theorem dX8_firstTermOf_25 : decode cX8_firstTermOf 25 = .ok (.iconst (-1), 1) := by decide +kernel
theorem dX8_firstTermOf_26 : decode cX8_firstTermOf 26 = .ok (.ireturn, 1) := by decide +kernel
theorem dX8_draftMissing_0 : decode cX8_draftMissing 0 = .ok (.aload_n 0, 1) := by decide +kernel
theorem dX8_draftMissing_1 : decode cX8_draftMissing 1 = .ok (.iconst (-1), 1) := by decide +kernel
theorem dX8_draftMissing_2 : decode cX8_draftMissing 2 = .ok (.invokevirtual 39, 3) := by decide +kernel
theorem dX8_draftMissing_5 : decode cX8_draftMissing 5 = .ok (.return_, 1) := by decide +kernel
theorem dX8_beginDraft_0 : decode cX8_beginDraft 0 = .ok (.aload_n 0, 1) := by decide +kernel
theorem dX8_beginDraft_1 : decode cX8_beginDraft 1 = .ok (.getfield 11, 3) := by decide +kernel
theorem dX8_beginDraft_4 : decode cX8_beginDraft 4 = .ok (.bipush 16, 2) := by decide +kernel
theorem dX8_beginDraft_6 : decode cX8_beginDraft 6 = .ok (.iload_n 1, 1) := by decide +kernel
theorem dX8_beginDraft_7 : decode cX8_beginDraft 7 = .ok (.iastore, 1) := by decide +kernel
theorem dX8_beginDraft_8 : decode cX8_beginDraft 8 = .ok (.iconst 0, 1) := by decide +kernel
theorem dX8_beginDraft_9 : decode cX8_beginDraft 9 = .ok (.istore_n 2, 1) := by decide +kernel
theorem dX8_beginDraft_10 : decode cX8_beginDraft 10 = .ok (.iload_n 2, 1) := by decide +kernel
theorem dX8_beginDraft_11 : decode cX8_beginDraft 11 = .ok (.bipush 22, 2) := by decide +kernel
theorem dX8_beginDraft_13 : decode cX8_beginDraft 13 = .ok (.if_icmp .ge 20, 3) := by decide +kernel
theorem dX8_beginDraft_16 : decode cX8_beginDraft 16 = .ok (.aload_n 0, 1) := by decide +kernel
theorem dX8_beginDraft_17 : decode cX8_beginDraft 17 = .ok (.getfield 15, 3) := by decide +kernel
theorem dX8_beginDraft_20 : decode cX8_beginDraft 20 = .ok (.sipush 352, 3) := by decide +kernel
theorem dX8_beginDraft_23 : decode cX8_beginDraft 23 = .ok (.iload_n 2, 1) := by decide +kernel
theorem dX8_beginDraft_24 : decode cX8_beginDraft 24 = .ok (.iadd, 1) := by decide +kernel
theorem dX8_beginDraft_25 : decode cX8_beginDraft 25 = .ok (.iconst 0, 1) := by decide +kernel
theorem dX8_beginDraft_26 : decode cX8_beginDraft 26 = .ok (.iastore, 1) := by decide +kernel
theorem dX8_beginDraft_27 : decode cX8_beginDraft 27 = .ok (.iinc 2 1, 3) := by decide +kernel
theorem dX8_beginDraft_30 : decode cX8_beginDraft 30 = .ok (.goto (-20), 3) := by decide +kernel
theorem dX8_beginDraft_33 : decode cX8_beginDraft 33 = .ok (.return_, 1) := by decide +kernel
theorem dX8_addToDraft_0 : decode cX8_addToDraft 0 = .ok (.iload_n 1, 1) := by decide +kernel
theorem dX8_addToDraft_1 : decode cX8_addToDraft 1 = .ok (.ifCond .lt 23, 3) := by decide +kernel
theorem dX8_addToDraft_4 : decode cX8_addToDraft 4 = .ok (.iload_n 1, 1) := by decide +kernel
theorem dX8_addToDraft_5 : decode cX8_addToDraft 5 = .ok (.bipush 22, 2) := by decide +kernel
theorem dX8_addToDraft_7 : decode cX8_addToDraft 7 = .ok (.if_icmp .ge 17, 3) := by decide +kernel
theorem dX8_addToDraft_10 : decode cX8_addToDraft 10 = .ok (.aload_n 0, 1) := by decide +kernel
theorem dX8_addToDraft_11 : decode cX8_addToDraft 11 = .ok (.getfield 15, 3) := by decide +kernel
theorem dX8_addToDraft_14 : decode cX8_addToDraft 14 = .ok (.sipush 352, 3) := by decide +kernel
theorem dX8_addToDraft_17 : decode cX8_addToDraft 17 = .ok (.iload_n 1, 1) := by decide +kernel
theorem dX8_addToDraft_18 : decode cX8_addToDraft 18 = .ok (.iadd, 1) := by decide +kernel
theorem dX8_addToDraft_19 : decode cX8_addToDraft 19 = .ok (.dup2, 1) := by decide +kernel
theorem dX8_addToDraft_20 : decode cX8_addToDraft 20 = .ok (.iaload, 1) := by decide +kernel
theorem dX8_addToDraft_21 : decode cX8_addToDraft 21 = .ok (.iload_n 2, 1) := by decide +kernel
theorem dX8_addToDraft_22 : decode cX8_addToDraft 22 = .ok (.iadd, 1) := by decide +kernel
theorem dX8_addToDraft_23 : decode cX8_addToDraft 23 = .ok (.iastore, 1) := by decide +kernel
theorem dX8_addToDraft_24 : decode cX8_addToDraft 24 = .ok (.return_, 1) := by decide +kernel
theorem dX8_setInDraft_0 : decode cX8_setInDraft 0 = .ok (.lload_n 2, 1) := by decide +kernel
theorem dX8_setInDraft_1 : decode cX8_setInDraft 1 = .ok (.ldc2_w 43, 3) := by decide +kernel
theorem dX8_setInDraft_4 : decode cX8_setInDraft 4 = .ok (.lcmp, 1) := by decide +kernel
theorem dX8_setInDraft_5 : decode cX8_setInDraft 5 = .ok (.ifCond .lt 15, 3) := by decide +kernel
theorem dX8_setInDraft_8 : decode cX8_setInDraft 8 = .ok (.lload_n 2, 1) := by decide +kernel
theorem dX8_setInDraft_9 : decode cX8_setInDraft 9 = .ok (.ldc2_w 45, 3) := by decide +kernel
theorem dX8_setInDraft_12 : decode cX8_setInDraft 12 = .ok (.lcmp, 1) := by decide +kernel
theorem dX8_setInDraft_13 : decode cX8_setInDraft 13 = .ok (.ifCond .gt 7, 3) := by decide +kernel
theorem dX8_setInDraft_16 : decode cX8_setInDraft 16 = .ok (.iconst 1, 1) := by decide +kernel
theorem dX8_setInDraft_17 : decode cX8_setInDraft 17 = .ok (.goto 4, 3) := by decide +kernel
theorem dX8_setInDraft_20 : decode cX8_setInDraft 20 = .ok (.iconst 0, 1) := by decide +kernel
theorem dX8_setInDraft_21 : decode cX8_setInDraft 21 = .ok (.istore 4, 2) := by decide +kernel
theorem dX8_setInDraft_23 : decode cX8_setInDraft 23 = .ok (.iload 4, 2) := by decide +kernel
theorem dX8_setInDraft_25 : decode cX8_setInDraft 25 = .ok (.ifCond .eq 25, 3) := by decide +kernel
theorem dX8_setInDraft_28 : decode cX8_setInDraft 28 = .ok (.iload_n 1, 1) := by decide +kernel
theorem dX8_setInDraft_29 : decode cX8_setInDraft 29 = .ok (.ifCond .lt 21, 3) := by decide +kernel
theorem dX8_setInDraft_32 : decode cX8_setInDraft 32 = .ok (.iload_n 1, 1) := by decide +kernel
theorem dX8_setInDraft_33 : decode cX8_setInDraft 33 = .ok (.bipush 22, 2) := by decide +kernel
theorem dX8_setInDraft_35 : decode cX8_setInDraft 35 = .ok (.if_icmp .ge 15, 3) := by decide +kernel
theorem dX8_setInDraft_38 : decode cX8_setInDraft 38 = .ok (.aload_n 0, 1) := by decide +kernel
theorem dX8_setInDraft_39 : decode cX8_setInDraft 39 = .ok (.getfield 15, 3) := by decide +kernel
theorem dX8_setInDraft_42 : decode cX8_setInDraft 42 = .ok (.sipush 352, 3) := by decide +kernel
theorem dX8_setInDraft_45 : decode cX8_setInDraft 45 = .ok (.iload_n 1, 1) := by decide +kernel
theorem dX8_setInDraft_46 : decode cX8_setInDraft 46 = .ok (.iadd, 1) := by decide +kernel
theorem dX8_setInDraft_47 : decode cX8_setInDraft 47 = .ok (.lload_n 2, 1) := by decide +kernel
theorem dX8_setInDraft_48 : decode cX8_setInDraft 48 = .ok (.l2i, 1) := by decide +kernel
theorem dX8_setInDraft_49 : decode cX8_setInDraft 49 = .ok (.iastore, 1) := by decide +kernel
theorem dX8_setInDraft_50 : decode cX8_setInDraft 50 = .ok (.iload 4, 2) := by decide +kernel
theorem dX8_setInDraft_52 : decode cX8_setInDraft 52 = .ok (.ireturn, 1) := by decide +kernel
theorem dX8_keepDraft_0 : decode cX8_keepDraft 0 = .ok (.aload_n 0, 1) := by decide +kernel
theorem dX8_keepDraft_1 : decode cX8_keepDraft 1 = .ok (.iload_n 1, 1) := by decide +kernel
theorem dX8_keepDraft_2 : decode cX8_keepDraft 2 = .ok (.invokevirtual 21, 3) := by decide +kernel
theorem dX8_keepDraft_5 : decode cX8_keepDraft 5 = .ok (.ifCond .eq 76, 3) := by decide +kernel
theorem dX8_keepDraft_8 : decode cX8_keepDraft 8 = .ok (.aload_n 0, 1) := by decide +kernel
theorem dX8_keepDraft_9 : decode cX8_keepDraft 9 = .ok (.getfield 47, 3) := by decide +kernel
theorem dX8_keepDraft_12 : decode cX8_keepDraft 12 = .ok (.ifCond .lt 69, 3) := by decide +kernel
theorem dX8_keepDraft_15 : decode cX8_keepDraft 15 = .ok (.aload_n 0, 1) := by decide +kernel
theorem dX8_keepDraft_16 : decode cX8_keepDraft 16 = .ok (.getfield 47, 3) := by decide +kernel
theorem dX8_keepDraft_19 : decode cX8_keepDraft 19 = .ok (.bipush 8, 2) := by decide +kernel
theorem dX8_keepDraft_21 : decode cX8_keepDraft 21 = .ok (.if_icmp .ge 60, 3) := by decide +kernel
theorem dX8_keepDraft_24 : decode cX8_keepDraft 24 = .ok (.aload_n 0, 1) := by decide +kernel
theorem dX8_keepDraft_25 : decode cX8_keepDraft 25 = .ok (.iload_n 1, 1) := by decide +kernel
theorem dX8_keepDraft_26 : decode cX8_keepDraft 26 = .ok (.bipush 8, 2) := by decide +kernel
theorem dX8_keepDraft_28 : decode cX8_keepDraft 28 = .ok (.aload_n 0, 1) := by decide +kernel
theorem dX8_keepDraft_29 : decode cX8_keepDraft 29 = .ok (.getfield 47, 3) := by decide +kernel
theorem dX8_keepDraft_32 : decode cX8_keepDraft 32 = .ok (.iadd, 1) := by decide +kernel
theorem dX8_keepDraft_33 : decode cX8_keepDraft 33 = .ok (.invokevirtual 51, 3) := by decide +kernel
theorem dX8_keepDraft_36 : decode cX8_keepDraft 36 = .ok (.aload_n 0, 1) := by decide +kernel
theorem dX8_keepDraft_37 : decode cX8_keepDraft 37 = .ok (.getfield 18, 3) := by decide +kernel
theorem dX8_keepDraft_40 : decode cX8_keepDraft 40 = .ok (.aload_n 0, 1) := by decide +kernel
theorem dX8_keepDraft_41 : decode cX8_keepDraft 41 = .ok (.getfield 47, 3) := by decide +kernel
theorem dX8_keepDraft_44 : decode cX8_keepDraft 44 = .ok (.iload_n 1, 1) := by decide +kernel
theorem dX8_keepDraft_45 : decode cX8_keepDraft 45 = .ok (.iastore, 1) := by decide +kernel
theorem dX8_keepDraft_46 : decode cX8_keepDraft 46 = .ok (.aload_n 0, 1) := by decide +kernel
theorem dX8_keepDraft_47 : decode cX8_keepDraft 47 = .ok (.aload_n 0, 1) := by decide +kernel
theorem dX8_keepDraft_48 : decode cX8_keepDraft 48 = .ok (.getfield 47, 3) := by decide +kernel
theorem dX8_keepDraft_51 : decode cX8_keepDraft 51 = .ok (.iconst 1, 1) := by decide +kernel
theorem dX8_keepDraft_52 : decode cX8_keepDraft 52 = .ok (.iadd, 1) := by decide +kernel
theorem dX8_keepDraft_53 : decode cX8_keepDraft 53 = .ok (.bipush 8, 2) := by decide +kernel
theorem dX8_keepDraft_55 : decode cX8_keepDraft 55 = .ok (.irem, 1) := by decide +kernel
theorem dX8_keepDraft_56 : decode cX8_keepDraft 56 = .ok (.putfield 47, 3) := by decide +kernel
theorem dX8_keepDraft_59 : decode cX8_keepDraft 59 = .ok (.aload_n 0, 1) := by decide +kernel
theorem dX8_keepDraft_60 : decode cX8_keepDraft 60 = .ok (.aload_n 0, 1) := by decide +kernel
theorem dX8_keepDraft_61 : decode cX8_keepDraft 61 = .ok (.getfield 55, 3) := by decide +kernel
theorem dX8_keepDraft_64 : decode cX8_keepDraft 64 = .ok (.iconst 1, 1) := by decide +kernel
theorem dX8_keepDraft_65 : decode cX8_keepDraft 65 = .ok (.iadd, 1) := by decide +kernel
theorem dX8_keepDraft_66 : decode cX8_keepDraft 66 = .ok (.bipush 8, 2) := by decide +kernel
theorem dX8_keepDraft_68 : decode cX8_keepDraft 68 = .ok (.invokestatic 58, 3) := by decide +kernel
theorem dX8_keepDraft_71 : decode cX8_keepDraft 71 = .ok (.putfield 55, 3) := by decide +kernel
theorem dX8_keepDraft_74 : decode cX8_keepDraft 74 = .ok (.aload_n 0, 1) := by decide +kernel
theorem dX8_keepDraft_75 : decode cX8_keepDraft 75 = .ok (.bipush 16, 2) := by decide +kernel
theorem dX8_keepDraft_77 : decode cX8_keepDraft 77 = .ok (.iload_n 1, 1) := by decide +kernel
theorem dX8_keepDraft_78 : decode cX8_keepDraft 78 = .ok (.invokevirtual 51, 3) := by decide +kernel
theorem dX8_keepDraft_81 : decode cX8_keepDraft 81 = .ok (.return_, 1) := by decide +kernel
theorem dX8_copy_0 : decode cX8_copy 0 = .ok (.iload_n 1, 1) := by decide +kernel
theorem dX8_copy_1 : decode cX8_copy 1 = .ok (.ifCond .lt 52, 3) := by decide +kernel
theorem dX8_copy_4 : decode cX8_copy 4 = .ok (.iload_n 1, 1) := by decide +kernel
theorem dX8_copy_5 : decode cX8_copy 5 = .ok (.bipush 17, 2) := by decide +kernel
theorem dX8_copy_7 : decode cX8_copy 7 = .ok (.if_icmp .ge 46, 3) := by decide +kernel
theorem dX8_copy_10 : decode cX8_copy 10 = .ok (.iload_n 2, 1) := by decide +kernel
theorem dX8_copy_11 : decode cX8_copy 11 = .ok (.ifCond .lt 42, 3) := by decide +kernel
theorem dX8_copy_14 : decode cX8_copy 14 = .ok (.iload_n 2, 1) := by decide +kernel
theorem dX8_copy_15 : decode cX8_copy 15 = .ok (.bipush 17, 2) := by decide +kernel
theorem dX8_copy_17 : decode cX8_copy 17 = .ok (.if_icmp .ge 36, 3) := by decide +kernel
theorem dX8_copy_20 : decode cX8_copy 20 = .ok (.aload_n 0, 1) := by decide +kernel
theorem dX8_copy_21 : decode cX8_copy 21 = .ok (.getfield 11, 3) := by decide +kernel
theorem dX8_copy_24 : decode cX8_copy 24 = .ok (.iload_n 2, 1) := by decide +kernel
theorem dX8_copy_25 : decode cX8_copy 25 = .ok (.aload_n 0, 1) := by decide +kernel
theorem dX8_copy_26 : decode cX8_copy 26 = .ok (.getfield 11, 3) := by decide +kernel
theorem dX8_copy_29 : decode cX8_copy 29 = .ok (.iload_n 1, 1) := by decide +kernel
theorem dX8_copy_30 : decode cX8_copy 30 = .ok (.iaload, 1) := by decide +kernel
theorem dX8_copy_31 : decode cX8_copy 31 = .ok (.iastore, 1) := by decide +kernel
theorem dX8_copy_32 : decode cX8_copy 32 = .ok (.aload_n 0, 1) := by decide +kernel
theorem dX8_copy_33 : decode cX8_copy 33 = .ok (.getfield 15, 3) := by decide +kernel
theorem dX8_copy_36 : decode cX8_copy 36 = .ok (.iload_n 1, 1) := by decide +kernel
theorem dX8_copy_37 : decode cX8_copy 37 = .ok (.bipush 22, 2) := by decide +kernel
theorem dX8_copy_39 : decode cX8_copy 39 = .ok (.imul, 1) := by decide +kernel
theorem dX8_copy_40 : decode cX8_copy 40 = .ok (.aload_n 0, 1) := by decide +kernel
theorem dX8_copy_41 : decode cX8_copy 41 = .ok (.getfield 15, 3) := by decide +kernel
theorem dX8_copy_44 : decode cX8_copy 44 = .ok (.iload_n 2, 1) := by decide +kernel
theorem dX8_copy_45 : decode cX8_copy 45 = .ok (.bipush 22, 2) := by decide +kernel
theorem dX8_copy_47 : decode cX8_copy 47 = .ok (.imul, 1) := by decide +kernel
theorem dX8_copy_48 : decode cX8_copy 48 = .ok (.bipush 22, 2) := by decide +kernel
theorem dX8_copy_50 : decode cX8_copy 50 = .ok (.invokestatic 67, 3) := by decide +kernel
theorem dX8_copy_53 : decode cX8_copy 53 = .ok (.return_, 1) := by decide +kernel
