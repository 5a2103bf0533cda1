theorem dX0_init_0 : decode cX0_init 0 = .ok (.aload_n 0, 1) := by decide +kernel
theorem dX0_init_1 : decode cX0_init 1 = .ok (.invokespecial 3, 3) := by decide +kernel
theorem dX0_init_4 : decode cX0_init 4 = .ok (.aload_n 0, 1) := by decide +kernel
theorem dX0_init_5 : decode cX0_init 5 = .ok (.bipush 60, 2) := by decide +kernel
theorem dX0_init_7 : decode cX0_init 7 = .ok (.newarray .int, 2) := by decide +kernel
theorem dX0_init_9 : decode cX0_init 9 = .ok (.putfield 9, 3) := by decide +kernel
theorem dX0_init_12 : decode cX0_init 12 = .ok (.aload_n 0, 1) := by decide +kernel
theorem dX0_init_13 : decode cX0_init 13 = .ok (.iconst 0, 1) := by decide +kernel
theorem dX0_init_14 : decode cX0_init 14 = .ok (.putfield 15, 3) := by decide +kernel
theorem dX0_init_17 : decode cX0_init 17 = .ok (.return_, 1) := by decide +kernel
theorem dX0_signsIn_0 : decode cX0_signsIn 0 = .ok (.lload_n 0, 1) := by decide +kernel
theorem dX0_signsIn_1 : decode cX0_signsIn 1 = .ok (.lstore_n 2, 1) := by decide +kernel
theorem dX0_signsIn_2 : decode cX0_signsIn 2 = .ok (.iconst 0, 1) := by decide +kernel
theorem dX0_signsIn_3 : decode cX0_signsIn 3 = .ok (.istore 4, 2) := by decide +kernel
theorem dX0_signsIn_5 : decode cX0_signsIn 5 = .ok (.iload 4, 2) := by decide +kernel
theorem dX0_signsIn_7 : decode cX0_signsIn 7 = .ok (.bipush 8, 2) := by decide +kernel
theorem dX0_signsIn_9 : decode cX0_signsIn 9 = .ok (.if_icmp .ge 52, 3) := by decide +kernel
theorem dX0_signsIn_12 : decode cX0_signsIn 12 = .ok (.lload_n 2, 1) := by decide +kernel
theorem dX0_signsIn_13 : decode cX0_signsIn 13 = .ok (.ldc2_w 19, 3) := by decide +kernel
theorem dX0_signsIn_16 : decode cX0_signsIn 16 = .ok (.land, 1) := by decide +kernel
theorem dX0_signsIn_17 : decode cX0_signsIn 17 = .ok (.lconst 0, 1) := by decide +kernel
theorem dX0_signsIn_18 : decode cX0_signsIn 18 = .ok (.lcmp, 1) := by decide +kernel
theorem dX0_signsIn_19 : decode cX0_signsIn 19 = .ok (.ifCond .eq 42, 3) := by decide +kernel
theorem dX0_signsIn_22 : decode cX0_signsIn 22 = .ok (.lload_n 2, 1) := by decide +kernel
theorem dX0_signsIn_23 : decode cX0_signsIn 23 = .ok (.ldc2_w 19, 3) := by decide +kernel
theorem dX0_signsIn_26 : decode cX0_signsIn 26 = .ok (.land, 1) := by decide +kernel
theorem dX0_signsIn_27 : decode cX0_signsIn 27 = .ok (.lstore 5, 2) := by decide +kernel
theorem dX0_signsIn_29 : decode cX0_signsIn 29 = .ok (.lload 5, 2) := by decide +kernel
theorem dX0_signsIn_31 : decode cX0_signsIn 31 = .ok (.ldc2_w 21, 3) := by decide +kernel
theorem dX0_signsIn_34 : decode cX0_signsIn 34 = .ok (.lcmp, 1) := by decide +kernel
theorem dX0_signsIn_35 : decode cX0_signsIn 35 = .ok (.ifCond .lt 12, 3) := by decide +kernel
theorem dX0_signsIn_38 : decode cX0_signsIn 38 = .ok (.lload 5, 2) := by decide +kernel
theorem dX0_signsIn_40 : decode cX0_signsIn 40 = .ok (.ldc2_w 23, 3) := by decide +kernel
theorem dX0_signsIn_43 : decode cX0_signsIn 43 = .ok (.lcmp, 1) := by decide +kernel
theorem dX0_signsIn_44 : decode cX0_signsIn 44 = .ok (.ifCond .le 6, 3) := by decide +kernel
theorem dX0_signsIn_47 : decode cX0_signsIn 47 = .ok (.bipush (-2), 2) := by decide +kernel
theorem dX0_signsIn_49 : decode cX0_signsIn 49 = .ok (.ireturn, 1) := by decide +kernel
theorem dX0_signsIn_50 : decode cX0_signsIn 50 = .ok (.iinc 4 1, 3) := by decide +kernel
theorem dX0_signsIn_53 : decode cX0_signsIn 53 = .ok (.lload_n 2, 1) := by decide +kernel
theorem dX0_signsIn_54 : decode cX0_signsIn 54 = .ok (.bipush 8, 2) := by decide +kernel
theorem dX0_signsIn_56 : decode cX0_signsIn 56 = .ok (.lushr, 1) := by decide +kernel
theorem dX0_signsIn_57 : decode cX0_signsIn 57 = .ok (.lstore_n 2, 1) := by decide +kernel
theorem dX0_signsIn_58 : decode cX0_signsIn 58 = .ok (.goto (-53), 3) := by decide +kernel
theorem dX0_signsIn_61 : decode cX0_signsIn 61 = .ok (.lload_n 2, 1) := by decide +kernel
theorem dX0_signsIn_62 : decode cX0_signsIn 62 = .ok (.lconst 0, 1) := by decide +kernel
theorem dX0_signsIn_63 : decode cX0_signsIn 63 = .ok (.lcmp, 1) := by decide +kernel
theorem dX0_signsIn_64 : decode cX0_signsIn 64 = .ok (.ifCond .ne 8, 3) := by decide +kernel
theorem dX0_signsIn_67 : decode cX0_signsIn 67 = .ok (.iload 4, 2) := by decide +kernel
theorem dX0_signsIn_69 : decode cX0_signsIn 69 = .ok (.goto 5, 3) := by decide +kernel
theorem dX0_signsIn_72 : decode cX0_signsIn 72 = .ok (.bipush (-2), 2) := by decide +kernel
theorem dX0_signsIn_74 : decode cX0_signsIn 74 = .ok (.ireturn, 1) := by decide +kernel
theorem dX0_append_0 : decode cX0_append 0 = .ok (.iload_n 3, 1) := by decide +kernel
theorem dX0_append_1 : decode cX0_append 1 = .ok (.iconst 1, 1) := by decide +kernel
theorem dX0_append_2 : decode cX0_append 2 = .ok (.isub, 1) := by decide +kernel
theorem dX0_append_3 : decode cX0_append 3 = .ok (.istore 4, 2) := by decide +kernel
theorem dX0_append_5 : decode cX0_append 5 = .ok (.iload 4, 2) := by decide +kernel
theorem dX0_append_7 : decode cX0_append 7 = .ok (.ifCond .lt 42, 3) := by decide +kernel
theorem dX0_append_10 : decode cX0_append 10 = .ok (.aload_n 0, 1) := by decide +kernel
theorem dX0_append_11 : decode cX0_append 11 = .ok (.getfield 9, 3) := by decide +kernel
theorem dX0_append_14 : decode cX0_append 14 = .ok (.aload_n 0, 1) := by decide +kernel
theorem dX0_append_15 : decode cX0_append 15 = .ok (.getfield 15, 3) := by decide +kernel
theorem dX0_append_18 : decode cX0_append 18 = .ok (.lload_n 1, 1) := by decide +kernel
theorem dX0_append_19 : decode cX0_append 19 = .ok (.bipush 8, 2) := by decide +kernel
theorem dX0_append_21 : decode cX0_append 21 = .ok (.iload 4, 2) := by decide +kernel
theorem dX0_append_23 : decode cX0_append 23 = .ok (.imul, 1) := by decide +kernel
theorem dX0_append_24 : decode cX0_append 24 = .ok (.lushr, 1) := by decide +kernel
theorem dX0_append_25 : decode cX0_append 25 = .ok (.ldc2_w 19, 3) := by decide +kernel
theorem dX0_append_28 : decode cX0_append 28 = .ok (.land, 1) := by decide +kernel
theorem dX0_append_29 : decode cX0_append 29 = .ok (.l2i, 1) := by decide +kernel
theorem dX0_append_30 : decode cX0_append 30 = .ok (.invokestatic 25, 3) := by decide +kernel
theorem dX0_append_33 : decode cX0_append 33 = .ok (.aload_n 0, 1) := by decide +kernel
theorem dX0_append_34 : decode cX0_append 34 = .ok (.dup, 1) := by decide +kernel
theorem dX0_append_35 : decode cX0_append 35 = .ok (.getfield 15, 3) := by decide +kernel
theorem dX0_append_38 : decode cX0_append 38 = .ok (.iconst 1, 1) := by decide +kernel
theorem dX0_append_39 : decode cX0_append 39 = .ok (.iadd, 1) := by decide +kernel
theorem dX0_append_40 : decode cX0_append 40 = .ok (.putfield 15, 3) := by decide +kernel
theorem dX0_append_43 : decode cX0_append 43 = .ok (.iinc 4 (-1), 3) := by decide +kernel
theorem dX0_append_46 : decode cX0_append 46 = .ok (.goto (-41), 3) := by decide +kernel
theorem dX0_append_49 : decode cX0_append 49 = .ok (.return_, 1) := by decide +kernel
theorem dX0_clear_0 : decode cX0_clear 0 = .ok (.aload_n 0, 1) := by decide +kernel
theorem dX0_clear_1 : decode cX0_clear 1 = .ok (.iconst 0, 1) := by decide +kernel
theorem dX0_clear_2 : decode cX0_clear 2 = .ok (.putfield 15, 3) := by decide +kernel
theorem dX0_clear_5 : decode cX0_clear 5 = .ok (.return_, 1) := by decide +kernel
theorem dX0_signAt_0 : decode cX0_signAt 0 = .ok (.iload_n 1, 1) := by decide +kernel
theorem dX0_signAt_1 : decode cX0_signAt 1 = .ok (.aload_n 0, 1) := by decide +kernel
theorem dX0_signAt_2 : decode cX0_signAt 2 = .ok (.getfield 15, 3) := by decide +kernel
theorem dX0_signAt_5 : decode cX0_signAt 5 = .ok (.if_icmp .ge 14, 3) := by decide +kernel
theorem dX0_signAt_8 : decode cX0_signAt 8 = .ok (.aload_n 0, 1) := by decide +kernel
theorem dX0_signAt_9 : decode cX0_signAt 9 = .ok (.getfield 9, 3) := by decide +kernel
theorem dX0_signAt_12 : decode cX0_signAt 12 = .ok (.iload_n 1, 1) := by decide +kernel
theorem dX0_signAt_13 : decode cX0_signAt 13 = .ok (.invokestatic 29, 3) := by decide +kernel
theorem dX0_signAt_16 : decode cX0_signAt 16 = .ok (.goto 4, 3) := by decide +kernel
theorem dX0_signAt_19 : decode cX0_signAt 19 = .ok (.iconst 0, 1) := by decide +kernel
theorem dX0_signAt_20 : decode cX0_signAt 20 = .ok (.ireturn, 1) := by decide +kernel
theorem dX0_firstFault_0 : decode cX0_firstFault 0 = .ok (.iconst 0, 1) := by decide +kernel
theorem dX0_firstFault_1 : decode cX0_firstFault 1 = .ok (.istore_n 1, 1) := by decide +kernel
theorem dX0_firstFault_2 : decode cX0_firstFault 2 = .ok (.iconst 0, 1) := by decide +kernel
theorem dX0_firstFault_3 : decode cX0_firstFault 3 = .ok (.istore_n 2, 1) := by decide +kernel
theorem dX0_firstFault_4 : decode cX0_firstFault 4 = .ok (.iload_n 2, 1) := by decide +kernel
theorem dX0_firstFault_5 : decode cX0_firstFault 5 = .ok (.aload_n 0, 1) := by decide +kernel
theorem dX0_firstFault_6 : decode cX0_firstFault 6 = .ok (.getfield 15, 3) := by decide +kernel
theorem dX0_firstFault_9 : decode cX0_firstFault 9 = .ok (.if_icmp .gt 50, 3) := by decide +kernel
theorem dX0_firstFault_12 : decode cX0_firstFault 12 = .ok (.aload_n 0, 1) := by decide +kernel
theorem dX0_firstFault_13 : decode cX0_firstFault 13 = .ok (.iload_n 1, 1) := by decide +kernel
theorem dX0_firstFault_14 : decode cX0_firstFault 14 = .ok (.invokevirtual 33, 3) := by decide +kernel
theorem dX0_firstFault_17 : decode cX0_firstFault 17 = .ok (.istore_n 3, 1) := by decide +kernel
theorem dX0_firstFault_18 : decode cX0_firstFault 18 = .ok (.iload_n 3, 1) := by decide +kernel
theorem dX0_firstFault_19 : decode cX0_firstFault 19 = .ok (.ifCond .ge 7, 3) := by decide +kernel
theorem dX0_firstFault_22 : decode cX0_firstFault 22 = .ok (.iconst (-1), 1) := by decide +kernel
theorem dX0_firstFault_23 : decode cX0_firstFault 23 = .ok (.iload_n 3, 1) := by decide +kernel
theorem dX0_firstFault_24 : decode cX0_firstFault 24 = .ok (.isub, 1) := by decide +kernel
theorem dX0_firstFault_25 : decode cX0_firstFault 25 = .ok (.ireturn, 1) := by decide +kernel
theorem dX0_firstFault_26 : decode cX0_firstFault 26 = .ok (.iload_n 3, 1) := by decide +kernel
theorem dX0_firstFault_27 : decode cX0_firstFault 27 = .ok (.aload_n 0, 1) := by decide +kernel
theorem dX0_firstFault_28 : decode cX0_firstFault 28 = .ok (.getfield 15, 3) := by decide +kernel
theorem dX0_firstFault_31 : decode cX0_firstFault 31 = .ok (.if_icmp .ne 6, 3) := by decide +kernel
theorem dX0_firstFault_34 : decode cX0_firstFault 34 = .ok (.bipush (-6), 2) := by decide +kernel
theorem dX0_firstFault_36 : decode cX0_firstFault 36 = .ok (.ireturn, 1) := by decide +kernel
theorem dX0_firstFault_37 : decode cX0_firstFault 37 = .ok (.aload_n 0, 1) := by decide +kernel
theorem dX0_firstFault_38 : decode cX0_firstFault 38 = .ok (.iload_n 3, 1) := by decide +kernel
theorem dX0_firstFault_39 : decode cX0_firstFault 39 = .ok (.invokevirtual 37, 3) := by decide +kernel
theorem dX0_firstFault_42 : decode cX0_firstFault 42 = .ok (.bipush 44, 2) := by decide +kernel
theorem dX0_firstFault_44 : decode cX0_firstFault 44 = .ok (.if_icmp .eq 5, 3) := by decide +kernel
theorem dX0_firstFault_47 : decode cX0_firstFault 47 = .ok (.iload_n 3, 1) := by decide +kernel
theorem dX0_firstFault_48 : decode cX0_firstFault 48 = .ok (.ireturn, 1) := by decide +kernel
theorem dX0_firstFault_49 : decode cX0_firstFault 49 = .ok (.iload_n 3, 1) := by decide +kernel
theorem dX0_firstFault_50 : decode cX0_firstFault 50 = .ok (.iconst 1, 1) := by decide +kernel
theorem dX0_firstFault_51 : decode cX0_firstFault 51 = .ok (.iadd, 1) := by decide +kernel
theorem dX0_firstFault_52 : decode cX0_firstFault 52 = .ok (.istore_n 1, 1) := by decide +kernel
theorem dX0_firstFault_53 : decode cX0_firstFault 53 = .ok (.iinc 2 1, 3) := by decide +kernel
theorem dX0_firstFault_56 : decode cX0_firstFault 56 = .ok (.goto (-52), 3) := by decide +kernel
theorem dX0_firstFault_59 : decode cX0_firstFault 59 = .ok (.aload_n 0, 1) := by decide +kernel
theorem dX0_firstFault_60 : decode cX0_firstFault 60 = .ok (.getfield 15, 3) := by decide +kernel
theorem dX0_firstFault_63 : decode cX0_firstFault 63 = .ok (.ireturn, 1) := by decide +kernel
theorem dX0_readStep_0 : decode cX0_readStep 0 = .ok (.aload_n 0, 1) := by decide +kernel
theorem dX0_readStep_1 : decode cX0_readStep 1 = .ok (.iload_n 1, 1) := by decide +kernel
theorem dX0_readStep_2 : decode cX0_readStep 2 = .ok (.invokevirtual 37, 3) := by decide +kernel
theorem dX0_readStep_5 : decode cX0_readStep 5 = .ok (.istore_n 2, 1) := by decide +kernel
theorem dX0_readStep_6 : decode cX0_readStep 6 = .ok (.iload_n 2, 1) := by decide +kernel
theorem dX0_readStep_7 : decode cX0_readStep 7 = .ok (.bipush 100, 2) := by decide +kernel
theorem dX0_readStep_9 : decode cX0_readStep 9 = .ok (.if_icmp .ne 7, 3) := by decide +kernel
theorem dX0_readStep_12 : decode cX0_readStep 12 = .ok (.iload_n 1, 1) := by decide +kernel
theorem dX0_readStep_13 : decode cX0_readStep 13 = .ok (.iconst 1, 1) := by decide +kernel
theorem dX0_readStep_14 : decode cX0_readStep 14 = .ok (.iadd, 1) := by decide +kernel
theorem dX0_readStep_15 : decode cX0_readStep 15 = .ok (.ireturn, 1) := by decide +kernel
theorem dX0_readStep_16 : decode cX0_readStep 16 = .ok (.iload_n 2, 1) := by decide +kernel
theorem dX0_readStep_17 : decode cX0_readStep 17 = .ok (.bipush 102, 2) := by decide +kernel
theorem dX0_readStep_19 : decode cX0_readStep 19 = .ok (.if_icmp .ne 38, 3) := by decide +kernel
theorem dX0_readStep_22 : decode cX0_readStep 22 = .ok (.aload_n 0, 1) := by decide +kernel
theorem dX0_readStep_23 : decode cX0_readStep 23 = .ok (.iload_n 1, 1) := by decide +kernel
theorem dX0_readStep_24 : decode cX0_readStep 24 = .ok (.iconst 1, 1) := by decide +kernel
theorem dX0_readStep_25 : decode cX0_readStep 25 = .ok (.iadd, 1) := by decide +kernel
theorem dX0_readStep_26 : decode cX0_readStep 26 = .ok (.invokevirtual 37, 3) := by decide +kernel
theorem dX0_readStep_29 : decode cX0_readStep 29 = .ok (.bipush 48, 2) := by decide +kernel
theorem dX0_readStep_31 : decode cX0_readStep 31 = .ok (.if_icmp .lt 21, 3) := by decide +kernel
theorem dX0_readStep_34 : decode cX0_readStep 34 = .ok (.aload_n 0, 1) := by decide +kernel
theorem dX0_readStep_35 : decode cX0_readStep 35 = .ok (.iload_n 1, 1) := by decide +kernel
theorem dX0_readStep_36 : decode cX0_readStep 36 = .ok (.iconst 1, 1) := by decide +kernel
theorem dX0_readStep_37 : decode cX0_readStep 37 = .ok (.iadd, 1) := by decide +kernel
theorem dX0_readStep_38 : decode cX0_readStep 38 = .ok (.invokevirtual 37, 3) := by decide +kernel
theorem dX0_readStep_41 : decode cX0_readStep 41 = .ok (.bipush 55, 2) := by decide +kernel
theorem dX0_readStep_43 : decode cX0_readStep 43 = .ok (.if_icmp .gt 9, 3) := by decide +kernel
theorem dX0_readStep_46 : decode cX0_readStep 46 = .ok (.iload_n 1, 1) := by decide +kernel
theorem dX0_readStep_47 : decode cX0_readStep 47 = .ok (.iconst 2, 1) := by decide +kernel
theorem dX0_readStep_48 : decode cX0_readStep 48 = .ok (.iadd, 1) := by decide +kernel
theorem dX0_readStep_49 : decode cX0_readStep 49 = .ok (.goto 7, 3) := by decide +kernel
theorem dX0_readStep_52 : decode cX0_readStep 52 = .ok (.bipush (-2), 2) := by decide +kernel
theorem dX0_readStep_54 : decode cX0_readStep 54 = .ok (.iload_n 1, 1) := by decide +kernel
theorem dX0_readStep_55 : decode cX0_readStep 55 = .ok (.isub, 1) := by decide +kernel
theorem dX0_readStep_56 : decode cX0_readStep 56 = .ok (.ireturn, 1) := by decide +kernel
theorem dX0_readStep_57 : decode cX0_readStep 57 = .ok (.aload_n 0, 1) := by decide +kernel
theorem dX0_readStep_58 : decode cX0_readStep 58 = .ok (.iload_n 1, 1) := by decide +kernel
theorem dX0_readStep_59 : decode cX0_readStep 59 = .ok (.invokevirtual 40, 3) := by decide +kernel
theorem dX0_readStep_62 : decode cX0_readStep 62 = .ok (.istore_n 3, 1) := by decide +kernel
theorem dX0_readStep_63 : decode cX0_readStep 63 = .ok (.iload_n 3, 1) := by decide +kernel
theorem dX0_readStep_64 : decode cX0_readStep 64 = .ok (.iload_n 1, 1) := by decide +kernel
theorem dX0_readStep_65 : decode cX0_readStep 65 = .ok (.if_icmp .eq 13, 3) := by decide +kernel
theorem dX0_readStep_68 : decode cX0_readStep 68 = .ok (.aload_n 0, 1) := by decide +kernel
theorem dX0_readStep_69 : decode cX0_readStep 69 = .ok (.iload_n 3, 1) := by decide +kernel
theorem dX0_readStep_70 : decode cX0_readStep 70 = .ok (.invokevirtual 37, 3) := by decide +kernel
theorem dX0_readStep_73 : decode cX0_readStep 73 = .ok (.bipush 62, 2) := by decide +kernel
theorem dX0_readStep_75 : decode cX0_readStep 75 = .ok (.if_icmp .eq 7, 3) := by decide +kernel
theorem dX0_readStep_78 : decode cX0_readStep 78 = .ok (.iconst (-1), 1) := by decide +kernel
theorem dX0_readStep_79 : decode cX0_readStep 79 = .ok (.iload_n 3, 1) := by decide +kernel
theorem dX0_readStep_80 : decode cX0_readStep 80 = .ok (.isub, 1) := by decide +kernel
theorem dX0_readStep_81 : decode cX0_readStep 81 = .ok (.ireturn, 1) := by decide +kernel
theorem dX0_readStep_82 : decode cX0_readStep 82 = .ok (.aload_n 0, 1) := by decide +kernel
theorem dX0_readStep_83 : decode cX0_readStep 83 = .ok (.iload_n 3, 1) := by decide +kernel
theorem dX0_readStep_84 : decode cX0_readStep 84 = .ok (.iconst 1, 1) := by decide +kernel
theorem dX0_readStep_85 : decode cX0_readStep 85 = .ok (.iadd, 1) := by decide +kernel
theorem dX0_readStep_86 : decode cX0_readStep 86 = .ok (.invokevirtual 40, 3) := by decide +kernel
theorem dX0_readStep_89 : decode cX0_readStep 89 = .ok (.istore 4, 2) := by decide +kernel
theorem dX0_readStep_91 : decode cX0_readStep 91 = .ok (.iload 4, 2) := by decide +kernel
theorem dX0_readStep_93 : decode cX0_readStep 93 = .ok (.iload_n 3, 1) := by decide +kernel
theorem dX0_readStep_94 : decode cX0_readStep 94 = .ok (.iconst 1, 1) := by decide +kernel
theorem dX0_readStep_95 : decode cX0_readStep 95 = .ok (.iadd, 1) := by decide +kernel
theorem dX0_readStep_96 : decode cX0_readStep 96 = .ok (.if_icmp .ne 10, 3) := by decide +kernel
theorem dX0_readStep_99 : decode cX0_readStep 99 = .ok (.iconst (-1), 1) := by decide +kernel
theorem dX0_readStep_100 : decode cX0_readStep 100 = .ok (.iload 4, 2) := by decide +kernel
theorem dX0_readStep_102 : decode cX0_readStep 102 = .ok (.isub, 1) := by decide +kernel
theorem dX0_readStep_103 : decode cX0_readStep 103 = .ok (.goto 5, 3) := by decide +kernel
theorem dX0_readStep_106 : decode cX0_readStep 106 = .ok (.iload 4, 2) := by decide +kernel
theorem dX0_readStep_108 : decode cX0_readStep 108 = .ok (.ireturn, 1) := by decide +kernel
theorem dX0_pileEnd_0 : decode cX0_pileEnd 0 = .ok (.aload_n 0, 1) := by decide +kernel
theorem dX0_pileEnd_1 : decode cX0_pileEnd 1 = .ok (.iload_n 1, 1) := by decide +kernel
theorem dX0_pileEnd_2 : decode cX0_pileEnd 2 = .ok (.invokevirtual 43, 3) := by decide +kernel
theorem dX0_pileEnd_5 : decode cX0_pileEnd 5 = .ok (.ifCond .ne 5, 3) := by decide +kernel
theorem dX0_pileEnd_8 : decode cX0_pileEnd 8 = .ok (.iload_n 1, 1) := by decide +kernel
theorem dX0_pileEnd_9 : decode cX0_pileEnd 9 = .ok (.ireturn, 1) := by decide +kernel
theorem dX0_pileEnd_10 : decode cX0_pileEnd 10 = .ok (.aload_n 0, 1) := by decide +kernel
theorem dX0_pileEnd_11 : decode cX0_pileEnd 11 = .ok (.iload_n 1, 1) := by decide +kernel
theorem dX0_pileEnd_12 : decode cX0_pileEnd 12 = .ok (.iconst 1, 1) := by decide +kernel
theorem dX0_pileEnd_13 : decode cX0_pileEnd 13 = .ok (.iadd, 1) := by decide +kernel
theorem dX0_pileEnd_14 : decode cX0_pileEnd 14 = .ok (.invokevirtual 43, 3) := by decide +kernel
theorem dX0_pileEnd_17 : decode cX0_pileEnd 17 = .ok (.ifCond .eq 28, 3) := by decide +kernel
theorem dX0_pileEnd_20 : decode cX0_pileEnd 20 = .ok (.aload_n 0, 1) := by decide +kernel
theorem dX0_pileEnd_21 : decode cX0_pileEnd 21 = .ok (.iload_n 1, 1) := by decide +kernel
theorem dX0_pileEnd_22 : decode cX0_pileEnd 22 = .ok (.invokevirtual 47, 3) := by decide +kernel
theorem dX0_pileEnd_25 : decode cX0_pileEnd 25 = .ok (.bipush 10, 2) := by decide +kernel
theorem dX0_pileEnd_27 : decode cX0_pileEnd 27 = .ok (.if_icmp .lt 18, 3) := by decide +kernel
theorem dX0_pileEnd_30 : decode cX0_pileEnd 30 = .ok (.aload_n 0, 1) := by decide +kernel
theorem dX0_pileEnd_31 : decode cX0_pileEnd 31 = .ok (.iload_n 1, 1) := by decide +kernel
theorem dX0_pileEnd_32 : decode cX0_pileEnd 32 = .ok (.invokevirtual 47, 3) := by decide +kernel
theorem dX0_pileEnd_35 : decode cX0_pileEnd 35 = .ok (.invokestatic 50, 3) := by decide +kernel
theorem dX0_pileEnd_38 : decode cX0_pileEnd 38 = .ok (.ifCond .eq 7, 3) := by decide +kernel
theorem dX0_pileEnd_41 : decode cX0_pileEnd 41 = .ok (.iconst 1, 1) := by decide +kernel
theorem dX0_pileEnd_42 : decode cX0_pileEnd 42 = .ok (.goto 4, 3) := by decide +kernel
theorem dX0_pileEnd_45 : decode cX0_pileEnd 45 = .ok (.iconst 0, 1) := by decide +kernel
theorem dX0_pileEnd_46 : decode cX0_pileEnd 46 = .ok (.istore_n 2, 1) := by decide +kernel
theorem dX0_pileEnd_47 : decode cX0_pileEnd 47 = .ok (.iload_n 2, 1) := by decide +kernel
theorem dX0_pileEnd_48 : decode cX0_pileEnd 48 = .ok (.ifCond .eq 9, 3) := by decide +kernel
theorem dX0_pileEnd_51 : decode cX0_pileEnd 51 = .ok (.iload_n 1, 1) := by decide +kernel
theorem dX0_pileEnd_52 : decode cX0_pileEnd 52 = .ok (.iconst 2, 1) := by decide +kernel
theorem dX0_pileEnd_53 : decode cX0_pileEnd 53 = .ok (.iadd, 1) := by decide +kernel
theorem dX0_pileEnd_54 : decode cX0_pileEnd 54 = .ok (.goto 6, 3) := by decide +kernel
theorem dX0_pileEnd_57 : decode cX0_pileEnd 57 = .ok (.iload_n 1, 1) := by decide +kernel
theorem dX0_pileEnd_58 : decode cX0_pileEnd 58 = .ok (.iconst 1, 1) := by decide +kernel
theorem dX0_pileEnd_59 : decode cX0_pileEnd 59 = .ok (.iadd, 1) := by decide +kernel
theorem dX0_pileEnd_60 : decode cX0_pileEnd 60 = .ok (.ireturn, 1) := by decide +kernel
theorem dX0_pileAt_0 : decode cX0_pileAt 0 = .ok (.aload_n 0, 1) := by decide +kernel
theorem dX0_pileAt_1 : decode cX0_pileAt 1 = .ok (.iload_n 1, 1) := by decide +kernel
theorem dX0_pileAt_2 : decode cX0_pileAt 2 = .ok (.invokevirtual 40, 3) := by decide +kernel
theorem dX0_pileAt_5 : decode cX0_pileAt 5 = .ok (.iload_n 1, 1) := by decide +kernel
theorem dX0_pileAt_6 : decode cX0_pileAt 6 = .ok (.iconst 2, 1) := by decide +kernel
theorem dX0_pileAt_7 : decode cX0_pileAt 7 = .ok (.iadd, 1) := by decide +kernel
theorem dX0_pileAt_8 : decode cX0_pileAt 8 = .ok (.if_icmp .ne 11, 3) := by decide +kernel
theorem dX0_pileAt_11 : decode cX0_pileAt 11 = .ok (.aload_n 0, 1) := by decide +kernel
theorem dX0_pileAt_12 : decode cX0_pileAt 12 = .ok (.iload_n 1, 1) := by decide +kernel
theorem dX0_pileAt_13 : decode cX0_pileAt 13 = .ok (.invokevirtual 47, 3) := by decide +kernel
theorem dX0_pileAt_16 : decode cX0_pileAt 16 = .ok (.goto 11, 3) := by decide +kernel
theorem dX0_pileAt_19 : decode cX0_pileAt 19 = .ok (.aload_n 0, 1) := by decide +kernel
theorem dX0_pileAt_20 : decode cX0_pileAt 20 = .ok (.iload_n 1, 1) := by decide +kernel
theorem dX0_pileAt_21 : decode cX0_pileAt 21 = .ok (.invokevirtual 37, 3) := by decide +kernel
theorem dX0_pileAt_24 : decode cX0_pileAt 24 = .ok (.bipush 48, 2) := by decide +kernel
theorem dX0_pileAt_26 : decode cX0_pileAt 26 = .ok (.isub, 1) := by decide +kernel
theorem dX0_pileAt_27 : decode cX0_pileAt 27 = .ok (.ireturn, 1) := by decide +kernel
theorem dX0_twoDigits_0 : decode cX0_twoDigits 0 = .ok (.bipush 10, 2) := by decide +kernel
theorem dX0_twoDigits_2 : decode cX0_twoDigits 2 = .ok (.aload_n 0, 1) := by decide +kernel
theorem dX0_twoDigits_3 : decode cX0_twoDigits 3 = .ok (.iload_n 1, 1) := by decide +kernel
theorem dX0_twoDigits_4 : decode cX0_twoDigits 4 = .ok (.invokevirtual 37, 3) := by decide +kernel
theorem dX0_twoDigits_7 : decode cX0_twoDigits 7 = .ok (.bipush 48, 2) := by decide +kernel
theorem dX0_twoDigits_9 : decode cX0_twoDigits 9 = .ok (.isub, 1) := by decide +kernel
theorem dX0_twoDigits_10 : decode cX0_twoDigits 10 = .ok (.imul, 1) := by decide +kernel
theorem dX0_twoDigits_11 : decode cX0_twoDigits 11 = .ok (.aload_n 0, 1) := by decide +kernel
theorem dX0_twoDigits_12 : decode cX0_twoDigits 12 = .ok (.iload_n 1, 1) := by decide +kernel
theorem dX0_twoDigits_13 : decode cX0_twoDigits 13 = .ok (.iconst 1, 1) := by decide +kernel
theorem dX0_twoDigits_14 : decode cX0_twoDigits 14 = .ok (.iadd, 1) := by decide +kernel
theorem dX0_twoDigits_15 : decode cX0_twoDigits 15 = .ok (.invokevirtual 37, 3) := by decide +kernel
theorem dX0_twoDigits_18 : decode cX0_twoDigits 18 = .ok (.iadd, 1) := by decide +kernel
theorem dX0_twoDigits_19 : decode cX0_twoDigits 19 = .ok (.bipush 48, 2) := by decide +kernel
theorem dX0_twoDigits_21 : decode cX0_twoDigits 21 = .ok (.isub, 1) := by decide +kernel
theorem dX0_twoDigits_22 : decode cX0_twoDigits 22 = .ok (.ireturn, 1) := by decide +kernel
theorem dX0_isDigit_0 : decode cX0_isDigit 0 = .ok (.aload_n 0, 1) := by decide +kernel
theorem dX0_isDigit_1 : decode cX0_isDigit 1 = .ok (.iload_n 1, 1) := by decide +kernel
theorem dX0_isDigit_2 : decode cX0_isDigit 2 = .ok (.invokevirtual 37, 3) := by decide +kernel
theorem dX0_isDigit_5 : decode cX0_isDigit 5 = .ok (.bipush 48, 2) := by decide +kernel
theorem dX0_isDigit_7 : decode cX0_isDigit 7 = .ok (.if_icmp .lt 17, 3) := by decide +kernel
theorem dX0_isDigit_10 : decode cX0_isDigit 10 = .ok (.aload_n 0, 1) := by decide +kernel
theorem dX0_isDigit_11 : decode cX0_isDigit 11 = .ok (.iload_n 1, 1) := by decide +kernel
theorem dX0_isDigit_12 : decode cX0_isDigit 12 = .ok (.invokevirtual 37, 3) := by decide +kernel
theorem dX0_isDigit_15 : decode cX0_isDigit 15 = .ok (.bipush 57, 2) := by decide +kernel
theorem dX0_isDigit_17 : decode cX0_isDigit 17 = .ok (.if_icmp .gt 7, 3) := by decide +kernel
theorem dX0_isDigit_20 : decode cX0_isDigit 20 = .ok (.iconst 1, 1) := by decide +kernel
theorem dX0_isDigit_21 : decode cX0_isDigit 21 = .ok (.goto 4, 3) := by decide +kernel
theorem dX0_isDigit_24 : decode cX0_isDigit 24 = .ok (.iconst 0, 1) := by decide +kernel
theorem dX0_isDigit_25 : decode cX0_isDigit 25 = .ok (.ireturn, 1) := by decide +kernel
theorem dX0_nextStep_0 : decode cX0_nextStep 0 = .ok (.iload_n 1, 1) := by decide +kernel
theorem dX0_nextStep_1 : decode cX0_nextStep 1 = .ok (.istore_n 2, 1) := by decide +kernel
theorem dX0_nextStep_2 : decode cX0_nextStep 2 = .ok (.iload_n 2, 1) := by decide +kernel
theorem dX0_nextStep_3 : decode cX0_nextStep 3 = .ok (.aload_n 0, 1) := by decide +kernel
theorem dX0_nextStep_4 : decode cX0_nextStep 4 = .ok (.getfield 15, 3) := by decide +kernel
theorem dX0_nextStep_7 : decode cX0_nextStep 7 = .ok (.if_icmp .ge 19, 3) := by decide +kernel
theorem dX0_nextStep_10 : decode cX0_nextStep 10 = .ok (.aload_n 0, 1) := by decide +kernel
theorem dX0_nextStep_11 : decode cX0_nextStep 11 = .ok (.iload_n 2, 1) := by decide +kernel
theorem dX0_nextStep_12 : decode cX0_nextStep 12 = .ok (.invokevirtual 37, 3) := by decide +kernel
theorem dX0_nextStep_15 : decode cX0_nextStep 15 = .ok (.bipush 44, 2) := by decide +kernel
theorem dX0_nextStep_17 : decode cX0_nextStep 17 = .ok (.if_icmp .eq 9, 3) := by decide +kernel
theorem dX0_nextStep_20 : decode cX0_nextStep 20 = .ok (.iinc 2 1, 3) := by decide +kernel
theorem dX0_nextStep_23 : decode cX0_nextStep 23 = .ok (.goto (-21), 3) := by decide +kernel
theorem dX0_nextStep_26 : decode cX0_nextStep 26 = .ok (.iload_n 2, 1) := by decide +kernel
theorem dX0_nextStep_27 : decode cX0_nextStep 27 = .ok (.iconst 1, 1) := by decide +kernel
theorem dX0_nextStep_28 : decode cX0_nextStep 28 = .ok (.iadd, 1) := by decide +kernel
theorem dX0_nextStep_29 : decode cX0_nextStep 29 = .ok (.ireturn, 1) := by decide +kernel
