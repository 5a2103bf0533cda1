theorem dX1_init_0 : decode cX1_init 0 = .ok (.aload_n 0, 1) := by decide +kernel
theorem dX1_init_1 : decode cX1_init 1 = .ok (.invokespecial 3, 3) := by decide +kernel
theorem dX1_init_4 : decode cX1_init 4 = .ok (.aload_n 0, 1) := by decide +kernel
theorem dX1_init_5 : decode cX1_init 5 = .ok (.sipush 650, 3) := by decide +kernel
theorem dX1_init_8 : decode cX1_init 8 = .ok (.newarray .int, 2) := by decide +kernel
theorem dX1_init_10 : decode cX1_init 10 = .ok (.putfield 9, 3) := by decide +kernel
theorem dX1_init_13 : decode cX1_init 13 = .ok (.aload_n 0, 1) := by decide +kernel
theorem dX1_init_14 : decode cX1_init 14 = .ok (.bipush 22, 2) := by decide +kernel
theorem dX1_init_16 : decode cX1_init 16 = .ok (.newarray .int, 2) := by decide +kernel
theorem dX1_init_18 : decode cX1_init 18 = .ok (.putfield 15, 3) := by decide +kernel
theorem dX1_init_21 : decode cX1_init 21 = .ok (.aload_n 0, 1) := by decide +kernel
theorem dX1_init_22 : decode cX1_init 22 = .ok (.iconst 2, 1) := by decide +kernel
theorem dX1_init_23 : decode cX1_init 23 = .ok (.newarray .int, 2) := by decide +kernel
theorem dX1_init_25 : decode cX1_init 25 = .ok (.putfield 18, 3) := by decide +kernel
theorem dX1_init_28 : decode cX1_init 28 = .ok (.aload_n 0, 1) := by decide +kernel
theorem dX1_init_29 : decode cX1_init 29 = .ok (.iconst 2, 1) := by decide +kernel
theorem dX1_init_30 : decode cX1_init 30 = .ok (.newarray .int, 2) := by decide +kernel
theorem dX1_init_32 : decode cX1_init 32 = .ok (.putfield 21, 3) := by decide +kernel
theorem dX1_init_35 : decode cX1_init 35 = .ok (.aload_n 0, 1) := by decide +kernel
theorem dX1_init_36 : decode cX1_init 36 = .ok (.bipush 8, 2) := by decide +kernel
theorem dX1_init_38 : decode cX1_init 38 = .ok (.newarray .int, 2) := by decide +kernel
theorem dX1_init_40 : decode cX1_init 40 = .ok (.putfield 24, 3) := by decide +kernel
theorem dX1_init_43 : decode cX1_init 43 = .ok (.return_, 1) := by decide +kernel
theorem dX1_dealBy_0 : decode cX1_dealBy 0 = .ok (.aload_n 0, 1) := by decide +kernel
theorem dX1_dealBy_1 : decode cX1_dealBy 1 = .ok (.invokevirtual 27, 3) := by decide +kernel
theorem dX1_dealBy_4 : decode cX1_dealBy 4 = .ok (.iload_n 1, 1) := by decide +kernel
theorem dX1_dealBy_5 : decode cX1_dealBy 5 = .ok (.i2l, 1) := by decide +kernel
theorem dX1_dealBy_6 : decode cX1_dealBy 6 = .ok (.lstore_n 2, 1) := by decide +kernel
theorem dX1_dealBy_7 : decode cX1_dealBy 7 = .ok (.iconst 0, 1) := by decide +kernel
theorem dX1_dealBy_8 : decode cX1_dealBy 8 = .ok (.istore 4, 2) := by decide +kernel
theorem dX1_dealBy_10 : decode cX1_dealBy 10 = .ok (.iload 4, 2) := by decide +kernel
theorem dX1_dealBy_12 : decode cX1_dealBy 12 = .ok (.iconst 2, 1) := by decide +kernel
theorem dX1_dealBy_13 : decode cX1_dealBy 13 = .ok (.if_icmp .ge 61, 3) := by decide +kernel
theorem dX1_dealBy_16 : decode cX1_dealBy 16 = .ok (.iconst 4, 1) := by decide +kernel
theorem dX1_dealBy_17 : decode cX1_dealBy 17 = .ok (.iload 4, 2) := by decide +kernel
theorem dX1_dealBy_19 : decode cX1_dealBy 19 = .ok (.iadd, 1) := by decide +kernel
theorem dX1_dealBy_20 : decode cX1_dealBy 20 = .ok (.istore 5, 2) := by decide +kernel
theorem dX1_dealBy_22 : decode cX1_dealBy 22 = .ok (.iconst 0, 1) := by decide +kernel
theorem dX1_dealBy_23 : decode cX1_dealBy 23 = .ok (.istore 6, 2) := by decide +kernel
theorem dX1_dealBy_25 : decode cX1_dealBy 25 = .ok (.iload 6, 2) := by decide +kernel
theorem dX1_dealBy_27 : decode cX1_dealBy 27 = .ok (.bipush 52, 2) := by decide +kernel
theorem dX1_dealBy_29 : decode cX1_dealBy 29 = .ok (.if_icmp .ge 23, 3) := by decide +kernel
theorem dX1_dealBy_32 : decode cX1_dealBy 32 = .ok (.aload_n 0, 1) := by decide +kernel
theorem dX1_dealBy_33 : decode cX1_dealBy 33 = .ok (.iload 5, 2) := by decide +kernel
theorem dX1_dealBy_35 : decode cX1_dealBy 35 = .ok (.iload 4, 2) := by decide +kernel
theorem dX1_dealBy_37 : decode cX1_dealBy 37 = .ok (.bipush 52, 2) := by decide +kernel
theorem dX1_dealBy_39 : decode cX1_dealBy 39 = .ok (.imul, 1) := by decide +kernel
theorem dX1_dealBy_40 : decode cX1_dealBy 40 = .ok (.iload 6, 2) := by decide +kernel
theorem dX1_dealBy_42 : decode cX1_dealBy 42 = .ok (.iadd, 1) := by decide +kernel
theorem dX1_dealBy_43 : decode cX1_dealBy 43 = .ok (.invokevirtual 30, 3) := by decide +kernel
theorem dX1_dealBy_46 : decode cX1_dealBy 46 = .ok (.iinc 6 1, 3) := by decide +kernel
theorem dX1_dealBy_49 : decode cX1_dealBy 49 = .ok (.goto (-24), 3) := by decide +kernel
theorem dX1_dealBy_52 : decode cX1_dealBy 52 = .ok (.aload_n 0, 1) := by decide +kernel
theorem dX1_dealBy_53 : decode cX1_dealBy 53 = .ok (.iload 5, 2) := by decide +kernel
theorem dX1_dealBy_55 : decode cX1_dealBy 55 = .ok (.lload_n 2, 1) := by decide +kernel
theorem dX1_dealBy_56 : decode cX1_dealBy 56 = .ok (.invokevirtual 34, 3) := by decide +kernel
theorem dX1_dealBy_59 : decode cX1_dealBy 59 = .ok (.lstore_n 2, 1) := by decide +kernel
theorem dX1_dealBy_60 : decode cX1_dealBy 60 = .ok (.aload_n 0, 1) := by decide +kernel
theorem dX1_dealBy_61 : decode cX1_dealBy 61 = .ok (.iload 4, 2) := by decide +kernel
theorem dX1_dealBy_63 : decode cX1_dealBy 63 = .ok (.iload 5, 2) := by decide +kernel
theorem dX1_dealBy_65 : decode cX1_dealBy 65 = .ok (.invokevirtual 38, 3) := by decide +kernel
theorem dX1_dealBy_68 : decode cX1_dealBy 68 = .ok (.iinc 4 1, 3) := by decide +kernel
theorem dX1_dealBy_71 : decode cX1_dealBy 71 = .ok (.goto (-61), 3) := by decide +kernel
theorem dX1_dealBy_74 : decode cX1_dealBy 74 = .ok (.return_, 1) := by decide +kernel
theorem dX1_clear_0 : decode cX1_clear 0 = .ok (.iconst 0, 1) := by decide +kernel
theorem dX1_clear_1 : decode cX1_clear 1 = .ok (.istore_n 1, 1) := by decide +kernel
theorem dX1_clear_2 : decode cX1_clear 2 = .ok (.iload_n 1, 1) := by decide +kernel
theorem dX1_clear_3 : decode cX1_clear 3 = .ok (.bipush 22, 2) := by decide +kernel
theorem dX1_clear_5 : decode cX1_clear 5 = .ok (.if_icmp .ge 18, 3) := by decide +kernel
theorem dX1_clear_8 : decode cX1_clear 8 = .ok (.aload_n 0, 1) := by decide +kernel
theorem dX1_clear_9 : decode cX1_clear 9 = .ok (.getfield 15, 3) := by decide +kernel
theorem dX1_clear_12 : decode cX1_clear 12 = .ok (.iload_n 1, 1) := by decide +kernel
theorem dX1_clear_13 : decode cX1_clear 13 = .ok (.iconst 0, 1) := by decide +kernel
theorem dX1_clear_14 : decode cX1_clear 14 = .ok (.invokestatic 41, 3) := by decide +kernel
theorem dX1_clear_17 : decode cX1_clear 17 = .ok (.iinc 1 1, 3) := by decide +kernel
theorem dX1_clear_20 : decode cX1_clear 20 = .ok (.goto (-18), 3) := by decide +kernel
theorem dX1_clear_23 : decode cX1_clear 23 = .ok (.iconst 0, 1) := by decide +kernel
theorem dX1_clear_24 : decode cX1_clear 24 = .ok (.istore_n 1, 1) := by decide +kernel
theorem dX1_clear_25 : decode cX1_clear 25 = .ok (.iload_n 1, 1) := by decide +kernel
theorem dX1_clear_26 : decode cX1_clear 26 = .ok (.iconst 2, 1) := by decide +kernel
theorem dX1_clear_27 : decode cX1_clear 27 = .ok (.if_icmp .ge 27, 3) := by decide +kernel
theorem dX1_clear_30 : decode cX1_clear 30 = .ok (.aload_n 0, 1) := by decide +kernel
theorem dX1_clear_31 : decode cX1_clear 31 = .ok (.getfield 18, 3) := by decide +kernel
theorem dX1_clear_34 : decode cX1_clear 34 = .ok (.iload_n 1, 1) := by decide +kernel
theorem dX1_clear_35 : decode cX1_clear 35 = .ok (.iconst 0, 1) := by decide +kernel
theorem dX1_clear_36 : decode cX1_clear 36 = .ok (.invokestatic 41, 3) := by decide +kernel
theorem dX1_clear_39 : decode cX1_clear 39 = .ok (.aload_n 0, 1) := by decide +kernel
theorem dX1_clear_40 : decode cX1_clear 40 = .ok (.getfield 21, 3) := by decide +kernel
theorem dX1_clear_43 : decode cX1_clear 43 = .ok (.iload_n 1, 1) := by decide +kernel
theorem dX1_clear_44 : decode cX1_clear 44 = .ok (.iconst 2, 1) := by decide +kernel
theorem dX1_clear_45 : decode cX1_clear 45 = .ok (.invokestatic 41, 3) := by decide +kernel
theorem dX1_clear_48 : decode cX1_clear 48 = .ok (.iinc 1 1, 3) := by decide +kernel
theorem dX1_clear_51 : decode cX1_clear 51 = .ok (.goto (-26), 3) := by decide +kernel
theorem dX1_clear_54 : decode cX1_clear 54 = .ok (.iconst 0, 1) := by decide +kernel
theorem dX1_clear_55 : decode cX1_clear 55 = .ok (.istore_n 1, 1) := by decide +kernel
theorem dX1_clear_56 : decode cX1_clear 56 = .ok (.iload_n 1, 1) := by decide +kernel
theorem dX1_clear_57 : decode cX1_clear 57 = .ok (.bipush 8, 2) := by decide +kernel
theorem dX1_clear_59 : decode cX1_clear 59 = .ok (.if_icmp .ge 18, 3) := by decide +kernel
theorem dX1_clear_62 : decode cX1_clear 62 = .ok (.aload_n 0, 1) := by decide +kernel
theorem dX1_clear_63 : decode cX1_clear 63 = .ok (.getfield 24, 3) := by decide +kernel
theorem dX1_clear_66 : decode cX1_clear 66 = .ok (.iload_n 1, 1) := by decide +kernel
theorem dX1_clear_67 : decode cX1_clear 67 = .ok (.iconst 0, 1) := by decide +kernel
theorem dX1_clear_68 : decode cX1_clear 68 = .ok (.invokestatic 41, 3) := by decide +kernel
theorem dX1_clear_71 : decode cX1_clear 71 = .ok (.iinc 1 1, 3) := by decide +kernel
theorem dX1_clear_74 : decode cX1_clear 74 = .ok (.goto (-18), 3) := by decide +kernel
theorem dX1_clear_77 : decode cX1_clear 77 = .ok (.aload_n 0, 1) := by decide +kernel
theorem dX1_clear_78 : decode cX1_clear 78 = .ok (.iconst 0, 1) := by decide +kernel
theorem dX1_clear_79 : decode cX1_clear 79 = .ok (.putfield 45, 3) := by decide +kernel
theorem dX1_clear_82 : decode cX1_clear 82 = .ok (.aload_n 0, 1) := by decide +kernel
theorem dX1_clear_83 : decode cX1_clear 83 = .ok (.iconst 0, 1) := by decide +kernel
theorem dX1_clear_84 : decode cX1_clear 84 = .ok (.putfield 49, 3) := by decide +kernel
theorem dX1_clear_87 : decode cX1_clear 87 = .ok (.aload_n 0, 1) := by decide +kernel
theorem dX1_clear_88 : decode cX1_clear 88 = .ok (.iconst 0, 1) := by decide +kernel
theorem dX1_clear_89 : decode cX1_clear 89 = .ok (.putfield 52, 3) := by decide +kernel
theorem dX1_clear_92 : decode cX1_clear 92 = .ok (.aload_n 0, 1) := by decide +kernel
theorem dX1_clear_93 : decode cX1_clear 93 = .ok (.iconst 0, 1) := by decide +kernel
theorem dX1_clear_94 : decode cX1_clear 94 = .ok (.putfield 55, 3) := by decide +kernel
theorem dX1_clear_97 : decode cX1_clear 97 = .ok (.return_, 1) := by decide +kernel
theorem dX1_shuffle_0 : decode cX1_shuffle 0 = .ok (.bipush 51, 2) := by decide +kernel
theorem dX1_shuffle_2 : decode cX1_shuffle 2 = .ok (.istore 4, 2) := by decide +kernel
theorem dX1_shuffle_4 : decode cX1_shuffle 4 = .ok (.iload 4, 2) := by decide +kernel
theorem dX1_shuffle_6 : decode cX1_shuffle 6 = .ok (.iconst 1, 1) := by decide +kernel
theorem dX1_shuffle_7 : decode cX1_shuffle 7 = .ok (.if_icmp .lt 69, 3) := by decide +kernel
theorem dX1_shuffle_10 : decode cX1_shuffle 10 = .ok (.lload_n 2, 1) := by decide +kernel
theorem dX1_shuffle_11 : decode cX1_shuffle 11 = .ok (.ldc2_w 59, 3) := by decide +kernel
theorem dX1_shuffle_14 : decode cX1_shuffle 14 = .ok (.lmul, 1) := by decide +kernel
theorem dX1_shuffle_15 : decode cX1_shuffle 15 = .ok (.ldc2_w 61, 3) := by decide +kernel
theorem dX1_shuffle_18 : decode cX1_shuffle 18 = .ok (.ladd, 1) := by decide +kernel
theorem dX1_shuffle_19 : decode cX1_shuffle 19 = .ok (.ldc2_w 63, 3) := by decide +kernel
theorem dX1_shuffle_22 : decode cX1_shuffle 22 = .ok (.lrem, 1) := by decide +kernel
theorem dX1_shuffle_23 : decode cX1_shuffle 23 = .ok (.lstore_n 2, 1) := by decide +kernel
theorem dX1_shuffle_24 : decode cX1_shuffle 24 = .ok (.lload_n 2, 1) := by decide +kernel
theorem dX1_shuffle_25 : decode cX1_shuffle 25 = .ok (.ldc2_w 65, 3) := by decide +kernel
theorem dX1_shuffle_28 : decode cX1_shuffle 28 = .ok (.ldiv, 1) := by decide +kernel
theorem dX1_shuffle_29 : decode cX1_shuffle 29 = .ok (.iload 4, 2) := by decide +kernel
theorem dX1_shuffle_31 : decode cX1_shuffle 31 = .ok (.iconst 1, 1) := by decide +kernel
theorem dX1_shuffle_32 : decode cX1_shuffle 32 = .ok (.iadd, 1) := by decide +kernel
theorem dX1_shuffle_33 : decode cX1_shuffle 33 = .ok (.i2l, 1) := by decide +kernel
theorem dX1_shuffle_34 : decode cX1_shuffle 34 = .ok (.lrem, 1) := by decide +kernel
theorem dX1_shuffle_35 : decode cX1_shuffle 35 = .ok (.l2i, 1) := by decide +kernel
theorem dX1_shuffle_36 : decode cX1_shuffle 36 = .ok (.istore 5, 2) := by decide +kernel
theorem dX1_shuffle_38 : decode cX1_shuffle 38 = .ok (.aload_n 0, 1) := by decide +kernel
theorem dX1_shuffle_39 : decode cX1_shuffle 39 = .ok (.iload_n 1, 1) := by decide +kernel
theorem dX1_shuffle_40 : decode cX1_shuffle 40 = .ok (.iload 4, 2) := by decide +kernel
theorem dX1_shuffle_42 : decode cX1_shuffle 42 = .ok (.invokevirtual 67, 3) := by decide +kernel
theorem dX1_shuffle_45 : decode cX1_shuffle 45 = .ok (.istore 6, 2) := by decide +kernel
theorem dX1_shuffle_47 : decode cX1_shuffle 47 = .ok (.aload_n 0, 1) := by decide +kernel
theorem dX1_shuffle_48 : decode cX1_shuffle 48 = .ok (.iload_n 1, 1) := by decide +kernel
theorem dX1_shuffle_49 : decode cX1_shuffle 49 = .ok (.iload 4, 2) := by decide +kernel
theorem dX1_shuffle_51 : decode cX1_shuffle 51 = .ok (.aload_n 0, 1) := by decide +kernel
theorem dX1_shuffle_52 : decode cX1_shuffle 52 = .ok (.iload_n 1, 1) := by decide +kernel
theorem dX1_shuffle_53 : decode cX1_shuffle 53 = .ok (.iload 5, 2) := by decide +kernel
theorem dX1_shuffle_55 : decode cX1_shuffle 55 = .ok (.invokevirtual 67, 3) := by decide +kernel
theorem dX1_shuffle_58 : decode cX1_shuffle 58 = .ok (.invokevirtual 71, 3) := by decide +kernel
theorem dX1_shuffle_61 : decode cX1_shuffle 61 = .ok (.aload_n 0, 1) := by decide +kernel
theorem dX1_shuffle_62 : decode cX1_shuffle 62 = .ok (.iload_n 1, 1) := by decide +kernel
theorem dX1_shuffle_63 : decode cX1_shuffle 63 = .ok (.iload 5, 2) := by decide +kernel
theorem dX1_shuffle_65 : decode cX1_shuffle 65 = .ok (.iload 6, 2) := by decide +kernel
theorem dX1_shuffle_67 : decode cX1_shuffle 67 = .ok (.invokevirtual 71, 3) := by decide +kernel
theorem dX1_shuffle_70 : decode cX1_shuffle 70 = .ok (.iinc 4 (-1), 3) := by decide +kernel
theorem dX1_shuffle_73 : decode cX1_shuffle 73 = .ok (.goto (-69), 3) := by decide +kernel
theorem dX1_shuffle_76 : decode cX1_shuffle 76 = .ok (.lload_n 2, 1) := by decide +kernel
theorem dX1_shuffle_77 : decode cX1_shuffle 77 = .ok (.lreturn, 1) := by decide +kernel
theorem dX1_dealOut_0 : decode cX1_dealOut 0 = .ok (.aload_n 0, 1) := by decide +kernel
theorem dX1_dealOut_1 : decode cX1_dealOut 1 = .ok (.getfield 15, 3) := by decide +kernel
theorem dX1_dealOut_4 : decode cX1_dealOut 4 = .ok (.iload_n 2, 1) := by decide +kernel
theorem dX1_dealOut_5 : decode cX1_dealOut 5 = .ok (.iconst 0, 1) := by decide +kernel
theorem dX1_dealOut_6 : decode cX1_dealOut 6 = .ok (.invokestatic 41, 3) := by decide +kernel
theorem dX1_dealOut_9 : decode cX1_dealOut 9 = .ok (.iconst 0, 1) := by decide +kernel
theorem dX1_dealOut_10 : decode cX1_dealOut 10 = .ok (.istore_n 3, 1) := by decide +kernel
theorem dX1_dealOut_11 : decode cX1_dealOut 11 = .ok (.iload_n 3, 1) := by decide +kernel
theorem dX1_dealOut_12 : decode cX1_dealOut 12 = .ok (.bipush 52, 2) := by decide +kernel
theorem dX1_dealOut_14 : decode cX1_dealOut 14 = .ok (.if_icmp .ge 68, 3) := by decide +kernel
theorem dX1_dealOut_17 : decode cX1_dealOut 17 = .ok (.aload_n 0, 1) := by decide +kernel
theorem dX1_dealOut_18 : decode cX1_dealOut 18 = .ok (.iload_n 2, 1) := by decide +kernel
theorem dX1_dealOut_19 : decode cX1_dealOut 19 = .ok (.iload_n 3, 1) := by decide +kernel
theorem dX1_dealOut_20 : decode cX1_dealOut 20 = .ok (.invokevirtual 67, 3) := by decide +kernel
theorem dX1_dealOut_23 : decode cX1_dealOut 23 = .ok (.istore 4, 2) := by decide +kernel
theorem dX1_dealOut_25 : decode cX1_dealOut 25 = .ok (.iload_n 3, 1) := by decide +kernel
theorem dX1_dealOut_26 : decode cX1_dealOut 26 = .ok (.bipush 13, 2) := by decide +kernel
theorem dX1_dealOut_28 : decode cX1_dealOut 28 = .ok (.if_icmp .ge 15, 3) := by decide +kernel
theorem dX1_dealOut_31 : decode cX1_dealOut 31 = .ok (.aload_n 0, 1) := by decide +kernel
theorem dX1_dealOut_32 : decode cX1_dealOut 32 = .ok (.iconst 0, 1) := by decide +kernel
theorem dX1_dealOut_33 : decode cX1_dealOut 33 = .ok (.iload_n 1, 1) := by decide +kernel
theorem dX1_dealOut_34 : decode cX1_dealOut 34 = .ok (.iadd, 1) := by decide +kernel
theorem dX1_dealOut_35 : decode cX1_dealOut 35 = .ok (.iload 4, 2) := by decide +kernel
theorem dX1_dealOut_37 : decode cX1_dealOut 37 = .ok (.invokevirtual 30, 3) := by decide +kernel
theorem dX1_dealOut_40 : decode cX1_dealOut 40 = .ok (.goto 36, 3) := by decide +kernel
theorem dX1_dealOut_43 : decode cX1_dealOut 43 = .ok (.iload_n 3, 1) := by decide +kernel
theorem dX1_dealOut_44 : decode cX1_dealOut 44 = .ok (.bipush 17, 2) := by decide +kernel
theorem dX1_dealOut_46 : decode cX1_dealOut 46 = .ok (.if_icmp .ge 23, 3) := by decide +kernel
theorem dX1_dealOut_49 : decode cX1_dealOut 49 = .ok (.aload_n 0, 1) := by decide +kernel
theorem dX1_dealOut_50 : decode cX1_dealOut 50 = .ok (.bipush 6, 2) := by decide +kernel
theorem dX1_dealOut_52 : decode cX1_dealOut 52 = .ok (.iload_n 1, 1) := by decide +kernel
theorem dX1_dealOut_53 : decode cX1_dealOut 53 = .ok (.iconst 4, 1) := by decide +kernel
theorem dX1_dealOut_54 : decode cX1_dealOut 54 = .ok (.imul, 1) := by decide +kernel
theorem dX1_dealOut_55 : decode cX1_dealOut 55 = .ok (.iadd, 1) := by decide +kernel
theorem dX1_dealOut_56 : decode cX1_dealOut 56 = .ok (.iload_n 3, 1) := by decide +kernel
theorem dX1_dealOut_57 : decode cX1_dealOut 57 = .ok (.iadd, 1) := by decide +kernel
theorem dX1_dealOut_58 : decode cX1_dealOut 58 = .ok (.bipush 13, 2) := by decide +kernel
theorem dX1_dealOut_60 : decode cX1_dealOut 60 = .ok (.isub, 1) := by decide +kernel
theorem dX1_dealOut_61 : decode cX1_dealOut 61 = .ok (.iload 4, 2) := by decide +kernel
theorem dX1_dealOut_63 : decode cX1_dealOut 63 = .ok (.invokevirtual 30, 3) := by decide +kernel
theorem dX1_dealOut_66 : decode cX1_dealOut 66 = .ok (.goto 10, 3) := by decide +kernel
theorem dX1_dealOut_69 : decode cX1_dealOut 69 = .ok (.aload_n 0, 1) := by decide +kernel
theorem dX1_dealOut_70 : decode cX1_dealOut 70 = .ok (.iload_n 2, 1) := by decide +kernel
theorem dX1_dealOut_71 : decode cX1_dealOut 71 = .ok (.iload 4, 2) := by decide +kernel
theorem dX1_dealOut_73 : decode cX1_dealOut 73 = .ok (.invokevirtual 30, 3) := by decide +kernel
theorem dX1_dealOut_76 : decode cX1_dealOut 76 = .ok (.iinc 3 1, 3) := by decide +kernel
theorem dX1_dealOut_79 : decode cX1_dealOut 79 = .ok (.goto (-68), 3) := by decide +kernel
theorem dX1_dealOut_82 : decode cX1_dealOut 82 = .ok (.return_, 1) := by decide +kernel
theorem dX1_sizeOf_0 : decode cX1_sizeOf 0 = .ok (.aload_n 0, 1) := by decide +kernel
theorem dX1_sizeOf_1 : decode cX1_sizeOf 1 = .ok (.getfield 15, 3) := by decide +kernel
theorem dX1_sizeOf_4 : decode cX1_sizeOf 4 = .ok (.iload_n 1, 1) := by decide +kernel
theorem dX1_sizeOf_5 : decode cX1_sizeOf 5 = .ok (.invokestatic 75, 3) := by decide +kernel
theorem dX1_sizeOf_8 : decode cX1_sizeOf 8 = .ok (.ireturn, 1) := by decide +kernel
theorem dX1_cardIn_0 : decode cX1_cardIn 0 = .ok (.aload_n 0, 1) := by decide +kernel
theorem dX1_cardIn_1 : decode cX1_cardIn 1 = .ok (.getfield 9, 3) := by decide +kernel
theorem dX1_cardIn_4 : decode cX1_cardIn 4 = .ok (.getstatic 79, 3) := by decide +kernel
theorem dX1_cardIn_7 : decode cX1_cardIn 7 = .ok (.iload_n 1, 1) := by decide +kernel
theorem dX1_cardIn_8 : decode cX1_cardIn 8 = .ok (.invokestatic 75, 3) := by decide +kernel
theorem dX1_cardIn_11 : decode cX1_cardIn 11 = .ok (.iload_n 2, 1) := by decide +kernel
theorem dX1_cardIn_12 : decode cX1_cardIn 12 = .ok (.iadd, 1) := by decide +kernel
theorem dX1_cardIn_13 : decode cX1_cardIn 13 = .ok (.invokestatic 75, 3) := by decide +kernel
theorem dX1_cardIn_16 : decode cX1_cardIn 16 = .ok (.ireturn, 1) := by decide +kernel
theorem dX1_setCard_0 : decode cX1_setCard 0 = .ok (.aload_n 0, 1) := by decide +kernel
theorem dX1_setCard_1 : decode cX1_setCard 1 = .ok (.getfield 9, 3) := by decide +kernel
theorem dX1_setCard_4 : decode cX1_setCard 4 = .ok (.getstatic 79, 3) := by decide +kernel
theorem dX1_setCard_7 : decode cX1_setCard 7 = .ok (.iload_n 1, 1) := by decide +kernel
theorem dX1_setCard_8 : decode cX1_setCard 8 = .ok (.invokestatic 75, 3) := by decide +kernel
theorem dX1_setCard_11 : decode cX1_setCard 11 = .ok (.iload_n 2, 1) := by decide +kernel
theorem dX1_setCard_12 : decode cX1_setCard 12 = .ok (.iadd, 1) := by decide +kernel
theorem dX1_setCard_13 : decode cX1_setCard 13 = .ok (.iload_n 3, 1) := by decide +kernel
theorem dX1_setCard_14 : decode cX1_setCard 14 = .ok (.invokestatic 41, 3) := by decide +kernel
theorem dX1_setCard_17 : decode cX1_setCard 17 = .ok (.return_, 1) := by decide +kernel
theorem dX1_topOf_0 : decode cX1_topOf 0 = .ok (.aload_n 0, 1) := by decide +kernel
theorem dX1_topOf_1 : decode cX1_topOf 1 = .ok (.getfield 15, 3) := by decide +kernel
theorem dX1_topOf_4 : decode cX1_topOf 4 = .ok (.iload_n 1, 1) := by decide +kernel
theorem dX1_topOf_5 : decode cX1_topOf 5 = .ok (.invokestatic 75, 3) := by decide +kernel
theorem dX1_topOf_8 : decode cX1_topOf 8 = .ok (.istore_n 2, 1) := by decide +kernel
theorem dX1_topOf_9 : decode cX1_topOf 9 = .ok (.iload_n 2, 1) := by decide +kernel
theorem dX1_topOf_10 : decode cX1_topOf 10 = .ok (.ifCond .le 24, 3) := by decide +kernel
theorem dX1_topOf_13 : decode cX1_topOf 13 = .ok (.aload_n 0, 1) := by decide +kernel
theorem dX1_topOf_14 : decode cX1_topOf 14 = .ok (.getfield 9, 3) := by decide +kernel
theorem dX1_topOf_17 : decode cX1_topOf 17 = .ok (.getstatic 79, 3) := by decide +kernel
theorem dX1_topOf_20 : decode cX1_topOf 20 = .ok (.iload_n 1, 1) := by decide +kernel
theorem dX1_topOf_21 : decode cX1_topOf 21 = .ok (.invokestatic 75, 3) := by decide +kernel
theorem dX1_topOf_24 : decode cX1_topOf 24 = .ok (.iload_n 2, 1) := by decide +kernel
theorem dX1_topOf_25 : decode cX1_topOf 25 = .ok (.iadd, 1) := by decide +kernel
theorem dX1_topOf_26 : decode cX1_topOf 26 = .ok (.iconst 1, 1) := by decide +kernel
theorem dX1_topOf_27 : decode cX1_topOf 27 = .ok (.isub, 1) := by decide +kernel
theorem dX1_topOf_28 : decode cX1_topOf 28 = .ok (.invokestatic 75, 3) := by decide +kernel
theorem dX1_topOf_31 : decode cX1_topOf 31 = .ok (.goto 5, 3) := by decide +kernel
theorem dX1_topOf_34 : decode cX1_topOf 34 = .ok (.bipush (-6), 2) := by decide +kernel
theorem dX1_topOf_36 : decode cX1_topOf 36 = .ok (.ireturn, 1) := by decide +kernel
theorem dX1_layOn_0 : decode cX1_layOn 0 = .ok (.aload_n 0, 1) := by decide +kernel
theorem dX1_layOn_1 : decode cX1_layOn 1 = .ok (.iload_n 1, 1) := by decide +kernel
theorem dX1_layOn_2 : decode cX1_layOn 2 = .ok (.aload_n 0, 1) := by decide +kernel
theorem dX1_layOn_3 : decode cX1_layOn 3 = .ok (.getfield 15, 3) := by decide +kernel
theorem dX1_layOn_6 : decode cX1_layOn 6 = .ok (.iload_n 1, 1) := by decide +kernel
theorem dX1_layOn_7 : decode cX1_layOn 7 = .ok (.invokestatic 75, 3) := by decide +kernel
theorem dX1_layOn_10 : decode cX1_layOn 10 = .ok (.iload_n 2, 1) := by decide +kernel
theorem dX1_layOn_11 : decode cX1_layOn 11 = .ok (.invokevirtual 71, 3) := by decide +kernel
theorem dX1_layOn_14 : decode cX1_layOn 14 = .ok (.aload_n 0, 1) := by decide +kernel
theorem dX1_layOn_15 : decode cX1_layOn 15 = .ok (.getfield 15, 3) := by decide +kernel
theorem dX1_layOn_18 : decode cX1_layOn 18 = .ok (.iload_n 1, 1) := by decide +kernel
theorem dX1_layOn_19 : decode cX1_layOn 19 = .ok (.iconst 1, 1) := by decide +kernel
theorem dX1_layOn_20 : decode cX1_layOn 20 = .ok (.invokestatic 82, 3) := by decide +kernel
theorem dX1_layOn_23 : decode cX1_layOn 23 = .ok (.return_, 1) := by decide +kernel
theorem dX1_takeFrom_0 : decode cX1_takeFrom 0 = .ok (.aload_n 0, 1) := by decide +kernel
theorem dX1_takeFrom_1 : decode cX1_takeFrom 1 = .ok (.iload_n 1, 1) := by decide +kernel
theorem dX1_takeFrom_2 : decode cX1_takeFrom 2 = .ok (.invokevirtual 85, 3) := by decide +kernel
theorem dX1_takeFrom_5 : decode cX1_takeFrom 5 = .ok (.istore_n 2, 1) := by decide +kernel
theorem dX1_takeFrom_6 : decode cX1_takeFrom 6 = .ok (.iload_n 2, 1) := by decide +kernel
theorem dX1_takeFrom_7 : decode cX1_takeFrom 7 = .ok (.bipush (-6), 2) := by decide +kernel
theorem dX1_takeFrom_9 : decode cX1_takeFrom 9 = .ok (.if_icmp .eq 12, 3) := by decide +kernel
theorem dX1_takeFrom_12 : decode cX1_takeFrom 12 = .ok (.aload_n 0, 1) := by decide +kernel
theorem dX1_takeFrom_13 : decode cX1_takeFrom 13 = .ok (.getfield 15, 3) := by decide +kernel
theorem dX1_takeFrom_16 : decode cX1_takeFrom 16 = .ok (.iload_n 1, 1) := by decide +kernel
theorem dX1_takeFrom_17 : decode cX1_takeFrom 17 = .ok (.iconst (-1), 1) := by decide +kernel
theorem dX1_takeFrom_18 : decode cX1_takeFrom 18 = .ok (.invokestatic 82, 3) := by decide +kernel
theorem dX1_takeFrom_21 : decode cX1_takeFrom 21 = .ok (.iload_n 2, 1) := by decide +kernel
theorem dX1_takeFrom_22 : decode cX1_takeFrom 22 = .ok (.ireturn, 1) := by decide +kernel
theorem dX1_placeIn_0 : decode cX1_placeIn 0 = .ok (.aload_n 0, 1) := by decide +kernel
theorem dX1_placeIn_1 : decode cX1_placeIn 1 = .ok (.iload_n 1, 1) := by decide +kernel
theorem dX1_placeIn_2 : decode cX1_placeIn 2 = .ok (.invokevirtual 89, 3) := by decide +kernel
theorem dX1_placeIn_5 : decode cX1_placeIn 5 = .ok (.istore_n 3, 1) := by decide +kernel
theorem dX1_placeIn_6 : decode cX1_placeIn 6 = .ok (.iconst 0, 1) := by decide +kernel
theorem dX1_placeIn_7 : decode cX1_placeIn 7 = .ok (.istore 4, 2) := by decide +kernel
theorem dX1_placeIn_9 : decode cX1_placeIn 9 = .ok (.iload 4, 2) := by decide +kernel
theorem dX1_placeIn_11 : decode cX1_placeIn 11 = .ok (.iload_n 3, 1) := by decide +kernel
theorem dX1_placeIn_12 : decode cX1_placeIn 12 = .ok (.if_icmp .ge 23, 3) := by decide +kernel
theorem dX1_placeIn_15 : decode cX1_placeIn 15 = .ok (.aload_n 0, 1) := by decide +kernel
theorem dX1_placeIn_16 : decode cX1_placeIn 16 = .ok (.iload_n 1, 1) := by decide +kernel
theorem dX1_placeIn_17 : decode cX1_placeIn 17 = .ok (.iload 4, 2) := by decide +kernel
theorem dX1_placeIn_19 : decode cX1_placeIn 19 = .ok (.invokevirtual 67, 3) := by decide +kernel
theorem dX1_placeIn_22 : decode cX1_placeIn 22 = .ok (.iload_n 2, 1) := by decide +kernel
theorem dX1_placeIn_23 : decode cX1_placeIn 23 = .ok (.if_icmp .ne 6, 3) := by decide +kernel
theorem dX1_placeIn_26 : decode cX1_placeIn 26 = .ok (.iload 4, 2) := by decide +kernel
theorem dX1_placeIn_28 : decode cX1_placeIn 28 = .ok (.ireturn, 1) := by decide +kernel
theorem dX1_placeIn_29 : decode cX1_placeIn 29 = .ok (.iinc 4 1, 3) := by decide +kernel
theorem dX1_placeIn_32 : decode cX1_placeIn 32 = .ok (.goto (-23), 3) := by decide +kernel
theorem dX1_placeIn_35 : decode cX1_placeIn 35 = .ok (.bipush (-6), 2) := by decide +kernel
theorem dX1_placeIn_37 : decode cX1_placeIn 37 = .ok (.ireturn, 1) := by decide +kernel
theorem dX1_pileWith_0 : decode cX1_pileWith 0 = .ok (.iconst 0, 1) := by decide +kernel
theorem dX1_pileWith_1 : decode cX1_pileWith 1 = .ok (.istore_n 2, 1) := by decide +kernel
theorem dX1_pileWith_2 : decode cX1_pileWith 2 = .ok (.iload_n 2, 1) := by decide +kernel
theorem dX1_pileWith_3 : decode cX1_pileWith 3 = .ok (.bipush 22, 2) := by decide +kernel
theorem dX1_pileWith_5 : decode cX1_pileWith 5 = .ok (.if_icmp .ge 22, 3) := by decide +kernel
theorem dX1_pileWith_8 : decode cX1_pileWith 8 = .ok (.aload_n 0, 1) := by decide +kernel
theorem dX1_pileWith_9 : decode cX1_pileWith 9 = .ok (.iload_n 2, 1) := by decide +kernel
theorem dX1_pileWith_10 : decode cX1_pileWith 10 = .ok (.iload_n 1, 1) := by decide +kernel
theorem dX1_pileWith_11 : decode cX1_pileWith 11 = .ok (.invokevirtual 92, 3) := by decide +kernel
theorem dX1_pileWith_14 : decode cX1_pileWith 14 = .ok (.bipush (-6), 2) := by decide +kernel
theorem dX1_pileWith_16 : decode cX1_pileWith 16 = .ok (.if_icmp .eq 5, 3) := by decide +kernel
theorem dX1_pileWith_19 : decode cX1_pileWith 19 = .ok (.iload_n 2, 1) := by decide +kernel
theorem dX1_pileWith_20 : decode cX1_pileWith 20 = .ok (.ireturn, 1) := by decide +kernel
theorem dX1_pileWith_21 : decode cX1_pileWith 21 = .ok (.iinc 2 1, 3) := by decide +kernel
theorem dX1_pileWith_24 : decode cX1_pileWith 24 = .ok (.goto (-22), 3) := by decide +kernel
theorem dX1_pileWith_27 : decode cX1_pileWith 27 = .ok (.bipush (-6), 2) := by decide +kernel
theorem dX1_pileWith_29 : decode cX1_pileWith 29 = .ok (.ireturn, 1) := by decide +kernel
theorem dX1_leftOf_0 : decode cX1_leftOf 0 = .ok (.aload_n 0, 1) := by decide +kernel
theorem dX1_leftOf_1 : decode cX1_leftOf 1 = .ok (.iconst 0, 1) := by decide +kernel
theorem dX1_leftOf_2 : decode cX1_leftOf 2 = .ok (.iload_n 1, 1) := by decide +kernel
theorem dX1_leftOf_3 : decode cX1_leftOf 3 = .ok (.iadd, 1) := by decide +kernel
theorem dX1_leftOf_4 : decode cX1_leftOf 4 = .ok (.invokevirtual 89, 3) := by decide +kernel
theorem dX1_leftOf_7 : decode cX1_leftOf 7 = .ok (.aload_n 0, 1) := by decide +kernel
theorem dX1_leftOf_8 : decode cX1_leftOf 8 = .ok (.iconst 2, 1) := by decide +kernel
theorem dX1_leftOf_9 : decode cX1_leftOf 9 = .ok (.iload_n 1, 1) := by decide +kernel
theorem dX1_leftOf_10 : decode cX1_leftOf 10 = .ok (.iadd, 1) := by decide +kernel
theorem dX1_leftOf_11 : decode cX1_leftOf 11 = .ok (.invokevirtual 89, 3) := by decide +kernel
theorem dX1_leftOf_14 : decode cX1_leftOf 14 = .ok (.iadd, 1) := by decide +kernel
theorem dX1_leftOf_15 : decode cX1_leftOf 15 = .ok (.aload_n 0, 1) := by decide +kernel
theorem dX1_leftOf_16 : decode cX1_leftOf 16 = .ok (.iconst 4, 1) := by decide +kernel
theorem dX1_leftOf_17 : decode cX1_leftOf 17 = .ok (.iload_n 1, 1) := by decide +kernel
theorem dX1_leftOf_18 : decode cX1_leftOf 18 = .ok (.iadd, 1) := by decide +kernel
theorem dX1_leftOf_19 : decode cX1_leftOf 19 = .ok (.invokevirtual 89, 3) := by decide +kernel
theorem dX1_leftOf_22 : decode cX1_leftOf 22 = .ok (.iadd, 1) := by decide +kernel
theorem dX1_leftOf_23 : decode cX1_leftOf 23 = .ok (.ireturn, 1) := by decide +kernel
theorem dX1_longestHouse_0 : decode cX1_longestHouse 0 = .ok (.iconst 0, 1) := by decide +kernel
theorem dX1_longestHouse_1 : decode cX1_longestHouse 1 = .ok (.istore_n 2, 1) := by decide +kernel
theorem dX1_longestHouse_2 : decode cX1_longestHouse 2 = .ok (.iconst 0, 1) := by decide +kernel
theorem dX1_longestHouse_3 : decode cX1_longestHouse 3 = .ok (.istore_n 3, 1) := by decide +kernel
theorem dX1_longestHouse_4 : decode cX1_longestHouse 4 = .ok (.iload_n 3, 1) := by decide +kernel
theorem dX1_longestHouse_5 : decode cX1_longestHouse 5 = .ok (.iconst 4, 1) := by decide +kernel
theorem dX1_longestHouse_6 : decode cX1_longestHouse 6 = .ok (.if_icmp .ge 26, 3) := by decide +kernel
theorem dX1_longestHouse_9 : decode cX1_longestHouse 9 = .ok (.iload_n 2, 1) := by decide +kernel
theorem dX1_longestHouse_10 : decode cX1_longestHouse 10 = .ok (.aload_n 0, 1) := by decide +kernel
theorem dX1_longestHouse_11 : decode cX1_longestHouse 11 = .ok (.bipush 6, 2) := by decide +kernel
theorem dX1_longestHouse_13 : decode cX1_longestHouse 13 = .ok (.iload_n 1, 1) := by decide +kernel
theorem dX1_longestHouse_14 : decode cX1_longestHouse 14 = .ok (.iconst 4, 1) := by decide +kernel
theorem dX1_longestHouse_15 : decode cX1_longestHouse 15 = .ok (.imul, 1) := by decide +kernel
theorem dX1_longestHouse_16 : decode cX1_longestHouse 16 = .ok (.iadd, 1) := by decide +kernel
theorem dX1_longestHouse_17 : decode cX1_longestHouse 17 = .ok (.iload_n 3, 1) := by decide +kernel
theorem dX1_longestHouse_18 : decode cX1_longestHouse 18 = .ok (.iadd, 1) := by decide +kernel
theorem dX1_longestHouse_19 : decode cX1_longestHouse 19 = .ok (.invokevirtual 89, 3) := by decide +kernel
theorem dX1_longestHouse_22 : decode cX1_longestHouse 22 = .ok (.invokestatic 95, 3) := by decide +kernel
theorem dX1_longestHouse_25 : decode cX1_longestHouse 25 = .ok (.istore_n 2, 1) := by decide +kernel
theorem dX1_longestHouse_26 : decode cX1_longestHouse 26 = .ok (.iinc 3 1, 3) := by decide +kernel
theorem dX1_longestHouse_29 : decode cX1_longestHouse 29 = .ok (.goto (-25), 3) := by decide +kernel
theorem dX1_longestHouse_32 : decode cX1_longestHouse 32 = .ok (.iload_n 2, 1) := by decide +kernel
theorem dX1_longestHouse_33 : decode cX1_longestHouse 33 = .ok (.ireturn, 1) := by decide +kernel
theorem dX1_onAces_0 : decode cX1_onAces 0 = .ok (.iconst 0, 1) := by decide +kernel
theorem dX1_onAces_1 : decode cX1_onAces 1 = .ok (.istore_n 1, 1) := by decide +kernel
theorem dX1_onAces_2 : decode cX1_onAces 2 = .ok (.bipush 14, 2) := by decide +kernel
theorem dX1_onAces_4 : decode cX1_onAces 4 = .ok (.istore_n 2, 1) := by decide +kernel
theorem dX1_onAces_5 : decode cX1_onAces 5 = .ok (.iload_n 2, 1) := by decide +kernel
theorem dX1_onAces_6 : decode cX1_onAces 6 = .ok (.bipush 22, 2) := by decide +kernel
theorem dX1_onAces_8 : decode cX1_onAces 8 = .ok (.if_icmp .ge 17, 3) := by decide +kernel
theorem dX1_onAces_11 : decode cX1_onAces 11 = .ok (.iload_n 1, 1) := by decide +kernel
theorem dX1_onAces_12 : decode cX1_onAces 12 = .ok (.aload_n 0, 1) := by decide +kernel
theorem dX1_onAces_13 : decode cX1_onAces 13 = .ok (.iload_n 2, 1) := by decide +kernel
theorem dX1_onAces_14 : decode cX1_onAces 14 = .ok (.invokevirtual 89, 3) := by decide +kernel
theorem dX1_onAces_17 : decode cX1_onAces 17 = .ok (.iadd, 1) := by decide +kernel
theorem dX1_onAces_18 : decode cX1_onAces 18 = .ok (.istore_n 1, 1) := by decide +kernel
theorem dX1_onAces_19 : decode cX1_onAces 19 = .ok (.iinc 2 1, 3) := by decide +kernel
theorem dX1_onAces_22 : decode cX1_onAces 22 = .ok (.goto (-17), 3) := by decide +kernel
theorem dX1_onAces_25 : decode cX1_onAces 25 = .ok (.iload_n 1, 1) := by decide +kernel
theorem dX1_onAces_26 : decode cX1_onAces 26 = .ok (.ireturn, 1) := by decide +kernel
theorem dX1_frozenFor_0 : decode cX1_frozenFor 0 = .ok (.iload_n 1, 1) := by decide +kernel
theorem dX1_frozenFor_1 : decode cX1_frozenFor 1 = .ok (.invokestatic 100, 3) := by decide +kernel
theorem dX1_frozenFor_4 : decode cX1_frozenFor 4 = .ok (.ifCond .eq 26, 3) := by decide +kernel
theorem dX1_frozenFor_7 : decode cX1_frozenFor 7 = .ok (.iconst 0, 1) := by decide +kernel
theorem dX1_frozenFor_8 : decode cX1_frozenFor 8 = .ok (.aload_n 0, 1) := by decide +kernel
theorem dX1_frozenFor_9 : decode cX1_frozenFor 9 = .ok (.getfield 24, 3) := by decide +kernel
theorem dX1_frozenFor_12 : decode cX1_frozenFor 12 = .ok (.iload_n 1, 1) := by decide +kernel
theorem dX1_frozenFor_13 : decode cX1_frozenFor 13 = .ok (.bipush 6, 2) := by decide +kernel
theorem dX1_frozenFor_15 : decode cX1_frozenFor 15 = .ok (.isub, 1) := by decide +kernel
theorem dX1_frozenFor_16 : decode cX1_frozenFor 16 = .ok (.invokestatic 75, 3) := by decide +kernel
theorem dX1_frozenFor_19 : decode cX1_frozenFor 19 = .ok (.aload_n 0, 1) := by decide +kernel
theorem dX1_frozenFor_20 : decode cX1_frozenFor 20 = .ok (.getfield 49, 3) := by decide +kernel
theorem dX1_frozenFor_23 : decode cX1_frozenFor 23 = .ok (.isub, 1) := by decide +kernel
theorem dX1_frozenFor_24 : decode cX1_frozenFor 24 = .ok (.invokestatic 95, 3) := by decide +kernel
theorem dX1_frozenFor_27 : decode cX1_frozenFor 27 = .ok (.goto 4, 3) := by decide +kernel
theorem dX1_frozenFor_30 : decode cX1_frozenFor 30 = .ok (.iconst 0, 1) := by decide +kernel
theorem dX1_frozenFor_31 : decode cX1_frozenFor 31 = .ok (.ireturn, 1) := by decide +kernel
theorem dX1_frozenHouses_0 : decode cX1_frozenHouses 0 = .ok (.iconst 0, 1) := by decide +kernel
theorem dX1_frozenHouses_1 : decode cX1_frozenHouses 1 = .ok (.istore_n 1, 1) := by decide +kernel
theorem dX1_frozenHouses_2 : decode cX1_frozenHouses 2 = .ok (.bipush 6, 2) := by decide +kernel
theorem dX1_frozenHouses_4 : decode cX1_frozenHouses 4 = .ok (.istore_n 2, 1) := by decide +kernel
theorem dX1_frozenHouses_5 : decode cX1_frozenHouses 5 = .ok (.iload_n 2, 1) := by decide +kernel
theorem dX1_frozenHouses_6 : decode cX1_frozenHouses 6 = .ok (.bipush 14, 2) := by decide +kernel
theorem dX1_frozenHouses_8 : decode cX1_frozenHouses 8 = .ok (.if_icmp .ge 20, 3) := by decide +kernel
theorem dX1_frozenHouses_11 : decode cX1_frozenHouses 11 = .ok (.aload_n 0, 1) := by decide +kernel
theorem dX1_frozenHouses_12 : decode cX1_frozenHouses 12 = .ok (.iload_n 2, 1) := by decide +kernel
theorem dX1_frozenHouses_13 : decode cX1_frozenHouses 13 = .ok (.invokevirtual 104, 3) := by decide +kernel
theorem dX1_frozenHouses_16 : decode cX1_frozenHouses 16 = .ok (.ifCond .le 6, 3) := by decide +kernel
theorem dX1_frozenHouses_19 : decode cX1_frozenHouses 19 = .ok (.iinc 1 1, 3) := by decide +kernel
theorem dX1_frozenHouses_22 : decode cX1_frozenHouses 22 = .ok (.iinc 2 1, 3) := by decide +kernel
theorem dX1_frozenHouses_25 : decode cX1_frozenHouses 25 = .ok (.goto (-20), 3) := by decide +kernel
theorem dX1_frozenHouses_28 : decode cX1_frozenHouses 28 = .ok (.iload_n 1, 1) := by decide +kernel
theorem dX1_frozenHouses_29 : decode cX1_frozenHouses 29 = .ok (.ireturn, 1) := by decide +kernel
theorem dX1_isHouse_0 : decode cX1_isHouse 0 = .ok (.iload_n 0, 1) := by decide +kernel
theorem dX1_isHouse_1 : decode cX1_isHouse 1 = .ok (.bipush 6, 2) := by decide +kernel
theorem dX1_isHouse_3 : decode cX1_isHouse 3 = .ok (.if_icmp .lt 13, 3) := by decide +kernel
theorem dX1_isHouse_6 : decode cX1_isHouse 6 = .ok (.iload_n 0, 1) := by decide +kernel
theorem dX1_isHouse_7 : decode cX1_isHouse 7 = .ok (.bipush 14, 2) := by decide +kernel
theorem dX1_isHouse_9 : decode cX1_isHouse 9 = .ok (.if_icmp .ge 7, 3) := by decide +kernel
theorem dX1_isHouse_12 : decode cX1_isHouse 12 = .ok (.iconst 1, 1) := by decide +kernel
theorem dX1_isHouse_13 : decode cX1_isHouse 13 = .ok (.goto 4, 3) := by decide +kernel
theorem dX1_isHouse_16 : decode cX1_isHouse 16 = .ok (.iconst 0, 1) := by decide +kernel
theorem dX1_isHouse_17 : decode cX1_isHouse 17 = .ok (.ireturn, 1) := by decide +kernel
theorem dX1_isOwnHouse_0 : decode cX1_isOwnHouse 0 = .ok (.iload_n 1, 1) := by decide +kernel
theorem dX1_isOwnHouse_1 : decode cX1_isOwnHouse 1 = .ok (.invokestatic 100, 3) := by decide +kernel
theorem dX1_isOwnHouse_4 : decode cX1_isOwnHouse 4 = .ok (.ifCond .eq 20, 3) := by decide +kernel
theorem dX1_isOwnHouse_7 : decode cX1_isOwnHouse 7 = .ok (.iload_n 1, 1) := by decide +kernel
theorem dX1_isOwnHouse_8 : decode cX1_isOwnHouse 8 = .ok (.bipush 6, 2) := by decide +kernel
theorem dX1_isOwnHouse_10 : decode cX1_isOwnHouse 10 = .ok (.isub, 1) := by decide +kernel
theorem dX1_isOwnHouse_11 : decode cX1_isOwnHouse 11 = .ok (.iconst 4, 1) := by decide +kernel
theorem dX1_isOwnHouse_12 : decode cX1_isOwnHouse 12 = .ok (.idiv, 1) := by decide +kernel
theorem dX1_isOwnHouse_13 : decode cX1_isOwnHouse 13 = .ok (.aload_n 0, 1) := by decide +kernel
theorem dX1_isOwnHouse_14 : decode cX1_isOwnHouse 14 = .ok (.getfield 45, 3) := by decide +kernel
theorem dX1_isOwnHouse_17 : decode cX1_isOwnHouse 17 = .ok (.if_icmp .ne 7, 3) := by decide +kernel
theorem dX1_isOwnHouse_20 : decode cX1_isOwnHouse 20 = .ok (.iconst 1, 1) := by decide +kernel
theorem dX1_isOwnHouse_21 : decode cX1_isOwnHouse 21 = .ok (.goto 4, 3) := by decide +kernel
theorem dX1_isOwnHouse_24 : decode cX1_isOwnHouse 24 = .ok (.iconst 0, 1) := by decide +kernel
theorem dX1_isOwnHouse_25 : decode cX1_isOwnHouse 25 = .ok (.ireturn, 1) := by decide +kernel
theorem dX1_otherWaste_0 : decode cX1_otherWaste 0 = .ok (.iconst 3, 1) := by decide +kernel
theorem dX1_otherWaste_1 : decode cX1_otherWaste 1 = .ok (.aload_n 0, 1) := by decide +kernel
theorem dX1_otherWaste_2 : decode cX1_otherWaste 2 = .ok (.getfield 45, 3) := by decide +kernel
theorem dX1_otherWaste_5 : decode cX1_otherWaste 5 = .ok (.isub, 1) := by decide +kernel
theorem dX1_otherWaste_6 : decode cX1_otherWaste 6 = .ok (.ireturn, 1) := by decide +kernel
theorem dX1_mayGive_0 : decode cX1_mayGive 0 = .ok (.aload_n 0, 1) := by decide +kernel
theorem dX1_mayGive_1 : decode cX1_mayGive 1 = .ok (.getfield 55, 3) := by decide +kernel
theorem dX1_mayGive_4 : decode cX1_mayGive 4 = .ok (.ifCond .ne 12, 3) := by decide +kernel
theorem dX1_mayGive_7 : decode cX1_mayGive 7 = .ok (.aload_n 0, 1) := by decide +kernel
theorem dX1_mayGive_8 : decode cX1_mayGive 8 = .ok (.iload_n 1, 1) := by decide +kernel
theorem dX1_mayGive_9 : decode cX1_mayGive 9 = .ok (.invokevirtual 89, 3) := by decide +kernel
theorem dX1_mayGive_12 : decode cX1_mayGive 12 = .ok (.iconst 1, 1) := by decide +kernel
theorem dX1_mayGive_13 : decode cX1_mayGive 13 = .ok (.if_icmp .ge 5, 3) := by decide +kernel
theorem dX1_mayGive_16 : decode cX1_mayGive 16 = .ok (.iconst 0, 1) := by decide +kernel
theorem dX1_mayGive_17 : decode cX1_mayGive 17 = .ok (.ireturn, 1) := by decide +kernel
theorem dX1_mayGive_18 : decode cX1_mayGive 18 = .ok (.iload_n 1, 1) := by decide +kernel
theorem dX1_mayGive_19 : decode cX1_mayGive 19 = .ok (.iconst 0, 1) := by decide +kernel
theorem dX1_mayGive_20 : decode cX1_mayGive 20 = .ok (.aload_n 0, 1) := by decide +kernel
theorem dX1_mayGive_21 : decode cX1_mayGive 21 = .ok (.getfield 45, 3) := by decide +kernel
theorem dX1_mayGive_24 : decode cX1_mayGive 24 = .ok (.iadd, 1) := by decide +kernel
theorem dX1_mayGive_25 : decode cX1_mayGive 25 = .ok (.if_icmp .eq 28, 3) := by decide +kernel
theorem dX1_mayGive_28 : decode cX1_mayGive 28 = .ok (.iload_n 1, 1) := by decide +kernel
theorem dX1_mayGive_29 : decode cX1_mayGive 29 = .ok (.iconst 2, 1) := by decide +kernel
theorem dX1_mayGive_30 : decode cX1_mayGive 30 = .ok (.aload_n 0, 1) := by decide +kernel
theorem dX1_mayGive_31 : decode cX1_mayGive 31 = .ok (.getfield 45, 3) := by decide +kernel
theorem dX1_mayGive_34 : decode cX1_mayGive 34 = .ok (.iadd, 1) := by decide +kernel
theorem dX1_mayGive_35 : decode cX1_mayGive 35 = .ok (.if_icmp .eq 18, 3) := by decide +kernel
theorem dX1_mayGive_38 : decode cX1_mayGive 38 = .ok (.iload_n 1, 1) := by decide +kernel
theorem dX1_mayGive_39 : decode cX1_mayGive 39 = .ok (.invokestatic 100, 3) := by decide +kernel
theorem dX1_mayGive_42 : decode cX1_mayGive 42 = .ok (.ifCond .eq 15, 3) := by decide +kernel
theorem dX1_mayGive_45 : decode cX1_mayGive 45 = .ok (.aload_n 0, 1) := by decide +kernel
theorem dX1_mayGive_46 : decode cX1_mayGive 46 = .ok (.iload_n 1, 1) := by decide +kernel
theorem dX1_mayGive_47 : decode cX1_mayGive 47 = .ok (.invokevirtual 104, 3) := by decide +kernel
theorem dX1_mayGive_50 : decode cX1_mayGive 50 = .ok (.ifCond .ne 7, 3) := by decide +kernel
theorem dX1_mayGive_53 : decode cX1_mayGive 53 = .ok (.iconst 1, 1) := by decide +kernel
theorem dX1_mayGive_54 : decode cX1_mayGive 54 = .ok (.goto 4, 3) := by decide +kernel
theorem dX1_mayGive_57 : decode cX1_mayGive 57 = .ok (.iconst 0, 1) := by decide +kernel
theorem dX1_mayGive_58 : decode cX1_mayGive 58 = .ok (.ireturn, 1) := by decide +kernel
theorem dX1_mayTake_0 : decode cX1_mayTake 0 = .ok (.iload_n 1, 1) := by decide +kernel
theorem dX1_mayTake_1 : decode cX1_mayTake 1 = .ok (.invokestatic 100, 3) := by decide +kernel
theorem dX1_mayTake_4 : decode cX1_mayTake 4 = .ok (.ifCond .eq 29, 3) := by decide +kernel
theorem dX1_mayTake_7 : decode cX1_mayTake 7 = .ok (.aload_n 0, 1) := by decide +kernel
theorem dX1_mayTake_8 : decode cX1_mayTake 8 = .ok (.iload_n 1, 1) := by decide +kernel
theorem dX1_mayTake_9 : decode cX1_mayTake 9 = .ok (.invokevirtual 104, 3) := by decide +kernel
theorem dX1_mayTake_12 : decode cX1_mayTake 12 = .ok (.ifCond .ne 19, 3) := by decide +kernel
theorem dX1_mayTake_15 : decode cX1_mayTake 15 = .ok (.iload_n 2, 1) := by decide +kernel
theorem dX1_mayTake_16 : decode cX1_mayTake 16 = .ok (.aload_n 0, 1) := by decide +kernel
theorem dX1_mayTake_17 : decode cX1_mayTake 17 = .ok (.iload_n 1, 1) := by decide +kernel
theorem dX1_mayTake_18 : decode cX1_mayTake 18 = .ok (.invokevirtual 85, 3) := by decide +kernel
theorem dX1_mayTake_21 : decode cX1_mayTake 21 = .ok (.invokestatic 107, 3) := by decide +kernel
theorem dX1_mayTake_24 : decode cX1_mayTake 24 = .ok (.ifCond .eq 7, 3) := by decide +kernel
theorem dX1_mayTake_27 : decode cX1_mayTake 27 = .ok (.iconst 1, 1) := by decide +kernel
theorem dX1_mayTake_28 : decode cX1_mayTake 28 = .ok (.goto 4, 3) := by decide +kernel
theorem dX1_mayTake_31 : decode cX1_mayTake 31 = .ok (.iconst 0, 1) := by decide +kernel
theorem dX1_mayTake_32 : decode cX1_mayTake 32 = .ok (.ireturn, 1) := by decide +kernel
theorem dX1_mayTake_33 : decode cX1_mayTake 33 = .ok (.iload_n 1, 1) := by decide +kernel
theorem dX1_mayTake_34 : decode cX1_mayTake 34 = .ok (.bipush 14, 2) := by decide +kernel
theorem dX1_mayTake_36 : decode cX1_mayTake 36 = .ok (.if_icmp .lt 13, 3) := by decide +kernel
theorem dX1_mayTake_39 : decode cX1_mayTake 39 = .ok (.iload_n 2, 1) := by decide +kernel
theorem dX1_mayTake_40 : decode cX1_mayTake 40 = .ok (.aload_n 0, 1) := by decide +kernel
theorem dX1_mayTake_41 : decode cX1_mayTake 41 = .ok (.iload_n 1, 1) := by decide +kernel
theorem dX1_mayTake_42 : decode cX1_mayTake 42 = .ok (.invokevirtual 85, 3) := by decide +kernel
theorem dX1_mayTake_45 : decode cX1_mayTake 45 = .ok (.invokestatic 111, 3) := by decide +kernel
theorem dX1_mayTake_48 : decode cX1_mayTake 48 = .ok (.ireturn, 1) := by decide +kernel
theorem dX1_mayTake_49 : decode cX1_mayTake 49 = .ok (.iload_n 1, 1) := by decide +kernel
theorem dX1_mayTake_50 : decode cX1_mayTake 50 = .ok (.aload_n 0, 1) := by decide +kernel
theorem dX1_mayTake_51 : decode cX1_mayTake 51 = .ok (.invokevirtual 114, 3) := by decide +kernel
theorem dX1_mayTake_54 : decode cX1_mayTake 54 = .ok (.if_icmp .ne 19, 3) := by decide +kernel
theorem dX1_mayTake_57 : decode cX1_mayTake 57 = .ok (.iload_n 2, 1) := by decide +kernel
theorem dX1_mayTake_58 : decode cX1_mayTake 58 = .ok (.aload_n 0, 1) := by decide +kernel
theorem dX1_mayTake_59 : decode cX1_mayTake 59 = .ok (.iload_n 1, 1) := by decide +kernel
theorem dX1_mayTake_60 : decode cX1_mayTake 60 = .ok (.invokevirtual 85, 3) := by decide +kernel
theorem dX1_mayTake_63 : decode cX1_mayTake 63 = .ok (.invokestatic 118, 3) := by decide +kernel
theorem dX1_mayTake_66 : decode cX1_mayTake 66 = .ok (.ifCond .eq 7, 3) := by decide +kernel
theorem dX1_mayTake_69 : decode cX1_mayTake 69 = .ok (.iconst 1, 1) := by decide +kernel
theorem dX1_mayTake_70 : decode cX1_mayTake 70 = .ok (.goto 4, 3) := by decide +kernel
theorem dX1_mayTake_73 : decode cX1_mayTake 73 = .ok (.iconst 0, 1) := by decide +kernel
theorem dX1_mayTake_74 : decode cX1_mayTake 74 = .ok (.ireturn, 1) := by decide +kernel
theorem dX1_allowsMove_0 : decode cX1_allowsMove 0 = .ok (.iload_n 1, 1) := by decide +kernel
theorem dX1_allowsMove_1 : decode cX1_allowsMove 1 = .ok (.invokestatic 121, 3) := by decide +kernel
theorem dX1_allowsMove_4 : decode cX1_allowsMove 4 = .ok (.ifCond .eq 35, 3) := by decide +kernel
theorem dX1_allowsMove_7 : decode cX1_allowsMove 7 = .ok (.iload_n 2, 1) := by decide +kernel
theorem dX1_allowsMove_8 : decode cX1_allowsMove 8 = .ok (.invokestatic 121, 3) := by decide +kernel
theorem dX1_allowsMove_11 : decode cX1_allowsMove 11 = .ok (.ifCond .eq 28, 3) := by decide +kernel
theorem dX1_allowsMove_14 : decode cX1_allowsMove 14 = .ok (.aload_n 0, 1) := by decide +kernel
theorem dX1_allowsMove_15 : decode cX1_allowsMove 15 = .ok (.iload_n 1, 1) := by decide +kernel
theorem dX1_allowsMove_16 : decode cX1_allowsMove 16 = .ok (.invokevirtual 124, 3) := by decide +kernel
theorem dX1_allowsMove_19 : decode cX1_allowsMove 19 = .ok (.ifCond .eq 20, 3) := by decide +kernel
theorem dX1_allowsMove_22 : decode cX1_allowsMove 22 = .ok (.aload_n 0, 1) := by decide +kernel
theorem dX1_allowsMove_23 : decode cX1_allowsMove 23 = .ok (.iload_n 2, 1) := by decide +kernel
theorem dX1_allowsMove_24 : decode cX1_allowsMove 24 = .ok (.aload_n 0, 1) := by decide +kernel
theorem dX1_allowsMove_25 : decode cX1_allowsMove 25 = .ok (.iload_n 1, 1) := by decide +kernel
theorem dX1_allowsMove_26 : decode cX1_allowsMove 26 = .ok (.invokevirtual 85, 3) := by decide +kernel
theorem dX1_allowsMove_29 : decode cX1_allowsMove 29 = .ok (.invokevirtual 127, 3) := by decide +kernel
theorem dX1_allowsMove_32 : decode cX1_allowsMove 32 = .ok (.ifCond .eq 7, 3) := by decide +kernel
theorem dX1_allowsMove_35 : decode cX1_allowsMove 35 = .ok (.iconst 1, 1) := by decide +kernel
theorem dX1_allowsMove_36 : decode cX1_allowsMove 36 = .ok (.goto 4, 3) := by decide +kernel
theorem dX1_allowsMove_39 : decode cX1_allowsMove 39 = .ok (.iconst 0, 1) := by decide +kernel
theorem dX1_allowsMove_40 : decode cX1_allowsMove 40 = .ok (.ireturn, 1) := by decide +kernel
theorem dX1_listMoves_0 : decode cX1_listMoves 0 = .ok (.iconst 0, 1) := by decide +kernel
theorem dX1_listMoves_1 : decode cX1_listMoves 1 = .ok (.istore_n 2, 1) := by decide +kernel
theorem dX1_listMoves_2 : decode cX1_listMoves 2 = .ok (.iconst 0, 1) := by decide +kernel
theorem dX1_listMoves_3 : decode cX1_listMoves 3 = .ok (.istore_n 3, 1) := by decide +kernel
theorem dX1_listMoves_4 : decode cX1_listMoves 4 = .ok (.iload_n 3, 1) := by decide +kernel
theorem dX1_listMoves_5 : decode cX1_listMoves 5 = .ok (.bipush 14, 2) := by decide +kernel
theorem dX1_listMoves_7 : decode cX1_listMoves 7 = .ok (.if_icmp .ge 68, 3) := by decide +kernel
theorem dX1_listMoves_10 : decode cX1_listMoves 10 = .ok (.aload_n 0, 1) := by decide +kernel
theorem dX1_listMoves_11 : decode cX1_listMoves 11 = .ok (.iload_n 3, 1) := by decide +kernel
theorem dX1_listMoves_12 : decode cX1_listMoves 12 = .ok (.invokevirtual 124, 3) := by decide +kernel
theorem dX1_listMoves_15 : decode cX1_listMoves 15 = .ok (.ifCond .ne 6, 3) := by decide +kernel
theorem dX1_listMoves_18 : decode cX1_listMoves 18 = .ok (.goto 51, 3) := by decide +kernel
theorem dX1_listMoves_21 : decode cX1_listMoves 21 = .ok (.aload_n 0, 1) := by decide +kernel
theorem dX1_listMoves_22 : decode cX1_listMoves 22 = .ok (.iload_n 3, 1) := by decide +kernel
theorem dX1_listMoves_23 : decode cX1_listMoves 23 = .ok (.invokevirtual 85, 3) := by decide +kernel
theorem dX1_listMoves_26 : decode cX1_listMoves 26 = .ok (.istore 4, 2) := by decide +kernel
theorem dX1_listMoves_28 : decode cX1_listMoves 28 = .ok (.iconst 2, 1) := by decide +kernel
theorem dX1_listMoves_29 : decode cX1_listMoves 29 = .ok (.istore 5, 2) := by decide +kernel
theorem dX1_listMoves_31 : decode cX1_listMoves 31 = .ok (.iload 5, 2) := by decide +kernel
theorem dX1_listMoves_33 : decode cX1_listMoves 33 = .ok (.bipush 22, 2) := by decide +kernel
theorem dX1_listMoves_35 : decode cX1_listMoves 35 = .ok (.if_icmp .ge 34, 3) := by decide +kernel
theorem dX1_listMoves_38 : decode cX1_listMoves 38 = .ok (.aload_n 0, 1) := by decide +kernel
theorem dX1_listMoves_39 : decode cX1_listMoves 39 = .ok (.iload 5, 2) := by decide +kernel
theorem dX1_listMoves_41 : decode cX1_listMoves 41 = .ok (.iload 4, 2) := by decide +kernel
theorem dX1_listMoves_43 : decode cX1_listMoves 43 = .ok (.invokevirtual 127, 3) := by decide +kernel
theorem dX1_listMoves_46 : decode cX1_listMoves 46 = .ok (.ifCond .eq 17, 3) := by decide +kernel
theorem dX1_listMoves_49 : decode cX1_listMoves 49 = .ok (.aload_n 1, 1) := by decide +kernel
theorem dX1_listMoves_50 : decode cX1_listMoves 50 = .ok (.iload_n 2, 1) := by decide +kernel
theorem dX1_listMoves_51 : decode cX1_listMoves 51 = .ok (.iload_n 3, 1) := by decide +kernel
theorem dX1_listMoves_52 : decode cX1_listMoves 52 = .ok (.iload 5, 2) := by decide +kernel
theorem dX1_listMoves_54 : decode cX1_listMoves 54 = .ok (.invokestatic 130, 3) := by decide +kernel
theorem dX1_listMoves_57 : decode cX1_listMoves 57 = .ok (.invokestatic 41, 3) := by decide +kernel
theorem dX1_listMoves_60 : decode cX1_listMoves 60 = .ok (.iinc 2 1, 3) := by decide +kernel
theorem dX1_listMoves_63 : decode cX1_listMoves 63 = .ok (.iinc 5 1, 3) := by decide +kernel
theorem dX1_listMoves_66 : decode cX1_listMoves 66 = .ok (.goto (-35), 3) := by decide +kernel
theorem dX1_listMoves_69 : decode cX1_listMoves 69 = .ok (.iinc 3 1, 3) := by decide +kernel
theorem dX1_listMoves_72 : decode cX1_listMoves 72 = .ok (.goto (-68), 3) := by decide +kernel
theorem dX1_listMoves_75 : decode cX1_listMoves 75 = .ok (.iload_n 2, 1) := by decide +kernel
theorem dX1_listMoves_76 : decode cX1_listMoves 76 = .ok (.ireturn, 1) := by decide +kernel
theorem dX1_pointsFor_0 : decode cX1_pointsFor 0 = .ok (.iload_n 1, 1) := by decide +kernel
theorem dX1_pointsFor_1 : decode cX1_pointsFor 1 = .ok (.iconst 0, 1) := by decide +kernel
theorem dX1_pointsFor_2 : decode cX1_pointsFor 2 = .ok (.aload_n 0, 1) := by decide +kernel
theorem dX1_pointsFor_3 : decode cX1_pointsFor 3 = .ok (.getfield 45, 3) := by decide +kernel
theorem dX1_pointsFor_6 : decode cX1_pointsFor 6 = .ok (.iadd, 1) := by decide +kernel
theorem dX1_pointsFor_7 : decode cX1_pointsFor 7 = .ok (.if_icmp .ne 7, 3) := by decide +kernel
theorem dX1_pointsFor_10 : decode cX1_pointsFor 10 = .ok (.iconst 1, 1) := by decide +kernel
theorem dX1_pointsFor_11 : decode cX1_pointsFor 11 = .ok (.goto 4, 3) := by decide +kernel
theorem dX1_pointsFor_14 : decode cX1_pointsFor 14 = .ok (.iconst 0, 1) := by decide +kernel
theorem dX1_pointsFor_15 : decode cX1_pointsFor 15 = .ok (.istore_n 3, 1) := by decide +kernel
theorem dX1_pointsFor_16 : decode cX1_pointsFor 16 = .ok (.iload_n 2, 1) := by decide +kernel
theorem dX1_pointsFor_17 : decode cX1_pointsFor 17 = .ok (.bipush 14, 2) := by decide +kernel
theorem dX1_pointsFor_19 : decode cX1_pointsFor 19 = .ok (.if_icmp .lt 30, 3) := by decide +kernel
theorem dX1_pointsFor_22 : decode cX1_pointsFor 22 = .ok (.iload_n 3, 1) := by decide +kernel
theorem dX1_pointsFor_23 : decode cX1_pointsFor 23 = .ok (.ifCond .eq 5, 3) := by decide +kernel
theorem dX1_pointsFor_26 : decode cX1_pointsFor 26 = .ok (.iconst 3, 1) := by decide +kernel
theorem dX1_pointsFor_27 : decode cX1_pointsFor 27 = .ok (.ireturn, 1) := by decide +kernel
theorem dX1_pointsFor_28 : decode cX1_pointsFor 28 = .ok (.iload_n 1, 1) := by decide +kernel
theorem dX1_pointsFor_29 : decode cX1_pointsFor 29 = .ok (.invokestatic 100, 3) := by decide +kernel
theorem dX1_pointsFor_32 : decode cX1_pointsFor 32 = .ok (.ifCond .eq 15, 3) := by decide +kernel
theorem dX1_pointsFor_35 : decode cX1_pointsFor 35 = .ok (.aload_n 0, 1) := by decide +kernel
theorem dX1_pointsFor_36 : decode cX1_pointsFor 36 = .ok (.iload_n 1, 1) := by decide +kernel
theorem dX1_pointsFor_37 : decode cX1_pointsFor 37 = .ok (.invokevirtual 133, 3) := by decide +kernel
theorem dX1_pointsFor_40 : decode cX1_pointsFor 40 = .ok (.ifCond .ne 7, 3) := by decide +kernel
theorem dX1_pointsFor_43 : decode cX1_pointsFor 43 = .ok (.iconst 2, 1) := by decide +kernel
theorem dX1_pointsFor_44 : decode cX1_pointsFor 44 = .ok (.goto 4, 3) := by decide +kernel
theorem dX1_pointsFor_47 : decode cX1_pointsFor 47 = .ok (.iconst 1, 1) := by decide +kernel
theorem dX1_pointsFor_48 : decode cX1_pointsFor 48 = .ok (.ireturn, 1) := by decide +kernel
theorem dX1_pointsFor_49 : decode cX1_pointsFor 49 = .ok (.iload_n 3, 1) := by decide +kernel
theorem dX1_pointsFor_50 : decode cX1_pointsFor 50 = .ok (.ifCond .eq 5, 3) := by decide +kernel
theorem dX1_pointsFor_53 : decode cX1_pointsFor 53 = .ok (.iconst 2, 1) := by decide +kernel
theorem dX1_pointsFor_54 : decode cX1_pointsFor 54 = .ok (.ireturn, 1) := by decide +kernel
theorem dX1_pointsFor_55 : decode cX1_pointsFor 55 = .ok (.iload_n 2, 1) := by decide +kernel
theorem dX1_pointsFor_56 : decode cX1_pointsFor 56 = .ok (.aload_n 0, 1) := by decide +kernel
theorem dX1_pointsFor_57 : decode cX1_pointsFor 57 = .ok (.invokevirtual 114, 3) := by decide +kernel
theorem dX1_pointsFor_60 : decode cX1_pointsFor 60 = .ok (.if_icmp .ne 7, 3) := by decide +kernel
theorem dX1_pointsFor_63 : decode cX1_pointsFor 63 = .ok (.iconst 1, 1) := by decide +kernel
theorem dX1_pointsFor_64 : decode cX1_pointsFor 64 = .ok (.goto 4, 3) := by decide +kernel
theorem dX1_pointsFor_67 : decode cX1_pointsFor 67 = .ok (.iconst 0, 1) := by decide +kernel
theorem dX1_pointsFor_68 : decode cX1_pointsFor 68 = .ok (.ireturn, 1) := by decide +kernel
theorem dX1_moveCard_0 : decode cX1_moveCard 0 = .ok (.aload_n 0, 1) := by decide +kernel
theorem dX1_moveCard_1 : decode cX1_moveCard 1 = .ok (.iload_n 1, 1) := by decide +kernel
theorem dX1_moveCard_2 : decode cX1_moveCard 2 = .ok (.iload_n 2, 1) := by decide +kernel
theorem dX1_moveCard_3 : decode cX1_moveCard 3 = .ok (.invokevirtual 136, 3) := by decide +kernel
theorem dX1_moveCard_6 : decode cX1_moveCard 6 = .ok (.istore_n 3, 1) := by decide +kernel
theorem dX1_moveCard_7 : decode cX1_moveCard 7 = .ok (.aload_n 0, 1) := by decide +kernel
theorem dX1_moveCard_8 : decode cX1_moveCard 8 = .ok (.iload_n 2, 1) := by decide +kernel
theorem dX1_moveCard_9 : decode cX1_moveCard 9 = .ok (.aload_n 0, 1) := by decide +kernel
theorem dX1_moveCard_10 : decode cX1_moveCard 10 = .ok (.iload_n 1, 1) := by decide +kernel
theorem dX1_moveCard_11 : decode cX1_moveCard 11 = .ok (.invokevirtual 139, 3) := by decide +kernel
theorem dX1_moveCard_14 : decode cX1_moveCard 14 = .ok (.invokevirtual 30, 3) := by decide +kernel
theorem dX1_moveCard_17 : decode cX1_moveCard 17 = .ok (.aload_n 0, 1) := by decide +kernel
theorem dX1_moveCard_18 : decode cX1_moveCard 18 = .ok (.dup, 1) := by decide +kernel
theorem dX1_moveCard_19 : decode cX1_moveCard 19 = .ok (.getfield 52, 3) := by decide +kernel
theorem dX1_moveCard_22 : decode cX1_moveCard 22 = .ok (.iconst 1, 1) := by decide +kernel
theorem dX1_moveCard_23 : decode cX1_moveCard 23 = .ok (.iadd, 1) := by decide +kernel
theorem dX1_moveCard_24 : decode cX1_moveCard 24 = .ok (.putfield 52, 3) := by decide +kernel
theorem dX1_moveCard_27 : decode cX1_moveCard 27 = .ok (.aload_n 0, 1) := by decide +kernel
theorem dX1_moveCard_28 : decode cX1_moveCard 28 = .ok (.aload_n 0, 1) := by decide +kernel
theorem dX1_moveCard_29 : decode cX1_moveCard 29 = .ok (.getfield 45, 3) := by decide +kernel
theorem dX1_moveCard_32 : decode cX1_moveCard 32 = .ok (.invokevirtual 142, 3) := by decide +kernel
theorem dX1_moveCard_35 : decode cX1_moveCard 35 = .ok (.ifCond .ne 11, 3) := by decide +kernel
theorem dX1_moveCard_38 : decode cX1_moveCard 38 = .ok (.aload_n 0, 1) := by decide +kernel
theorem dX1_moveCard_39 : decode cX1_moveCard 39 = .ok (.iconst 1, 1) := by decide +kernel
theorem dX1_moveCard_40 : decode cX1_moveCard 40 = .ok (.putfield 55, 3) := by decide +kernel
theorem dX1_moveCard_43 : decode cX1_moveCard 43 = .ok (.iinc 3 10, 3) := by decide +kernel
theorem dX1_moveCard_46 : decode cX1_moveCard 46 = .ok (.aload_n 0, 1) := by decide +kernel
theorem dX1_moveCard_47 : decode cX1_moveCard 47 = .ok (.getfield 18, 3) := by decide +kernel
theorem dX1_moveCard_50 : decode cX1_moveCard 50 = .ok (.aload_n 0, 1) := by decide +kernel
theorem dX1_moveCard_51 : decode cX1_moveCard 51 = .ok (.getfield 45, 3) := by decide +kernel
theorem dX1_moveCard_54 : decode cX1_moveCard 54 = .ok (.iload_n 3, 1) := by decide +kernel
theorem dX1_moveCard_55 : decode cX1_moveCard 55 = .ok (.invokestatic 82, 3) := by decide +kernel
theorem dX1_moveCard_58 : decode cX1_moveCard 58 = .ok (.iload_n 3, 1) := by decide +kernel
theorem dX1_moveCard_59 : decode cX1_moveCard 59 = .ok (.ireturn, 1) := by decide +kernel
theorem dX1_fitsAnAcesPile_0 : decode cX1_fitsAnAcesPile 0 = .ok (.bipush 14, 2) := by decide +kernel
theorem dX1_fitsAnAcesPile_2 : decode cX1_fitsAnAcesPile 2 = .ok (.istore_n 2, 1) := by decide +kernel
theorem dX1_fitsAnAcesPile_3 : decode cX1_fitsAnAcesPile 3 = .ok (.iload_n 2, 1) := by decide +kernel
theorem dX1_fitsAnAcesPile_4 : decode cX1_fitsAnAcesPile 4 = .ok (.bipush 22, 2) := by decide +kernel
theorem dX1_fitsAnAcesPile_6 : decode cX1_fitsAnAcesPile 6 = .ok (.if_icmp .ge 30, 3) := by decide +kernel
theorem dX1_fitsAnAcesPile_9 : decode cX1_fitsAnAcesPile 9 = .ok (.aload_n 0, 1) := by decide +kernel
theorem dX1_fitsAnAcesPile_10 : decode cX1_fitsAnAcesPile 10 = .ok (.getfield 55, 3) := by decide +kernel
theorem dX1_fitsAnAcesPile_13 : decode cX1_fitsAnAcesPile 13 = .ok (.ifCond .ne 23, 3) := by decide +kernel
theorem dX1_fitsAnAcesPile_16 : decode cX1_fitsAnAcesPile 16 = .ok (.iload_n 1, 1) := by decide +kernel
theorem dX1_fitsAnAcesPile_17 : decode cX1_fitsAnAcesPile 17 = .ok (.aload_n 0, 1) := by decide +kernel
theorem dX1_fitsAnAcesPile_18 : decode cX1_fitsAnAcesPile 18 = .ok (.iload_n 2, 1) := by decide +kernel
theorem dX1_fitsAnAcesPile_19 : decode cX1_fitsAnAcesPile 19 = .ok (.invokevirtual 85, 3) := by decide +kernel
theorem dX1_fitsAnAcesPile_22 : decode cX1_fitsAnAcesPile 22 = .ok (.invokestatic 111, 3) := by decide +kernel
theorem dX1_fitsAnAcesPile_25 : decode cX1_fitsAnAcesPile 25 = .ok (.ifCond .eq 5, 3) := by decide +kernel
theorem dX1_fitsAnAcesPile_28 : decode cX1_fitsAnAcesPile 28 = .ok (.iconst 1, 1) := by decide +kernel
theorem dX1_fitsAnAcesPile_29 : decode cX1_fitsAnAcesPile 29 = .ok (.ireturn, 1) := by decide +kernel
theorem dX1_fitsAnAcesPile_30 : decode cX1_fitsAnAcesPile 30 = .ok (.iinc 2 1, 3) := by decide +kernel
theorem dX1_fitsAnAcesPile_33 : decode cX1_fitsAnAcesPile 33 = .ok (.goto (-30), 3) := by decide +kernel
theorem dX1_fitsAnAcesPile_36 : decode cX1_fitsAnAcesPile 36 = .ok (.iconst 0, 1) := by decide +kernel
theorem dX1_fitsAnAcesPile_37 : decode cX1_fitsAnAcesPile 37 = .ok (.ireturn, 1) := by decide +kernel
theorem dX1_drawCard_0 : decode cX1_drawCard 0 = .ok (.iconst 4, 1) := by decide +kernel
theorem dX1_drawCard_1 : decode cX1_drawCard 1 = .ok (.aload_n 0, 1) := by decide +kernel
theorem dX1_drawCard_2 : decode cX1_drawCard 2 = .ok (.getfield 45, 3) := by decide +kernel
theorem dX1_drawCard_5 : decode cX1_drawCard 5 = .ok (.iadd, 1) := by decide +kernel
theorem dX1_drawCard_6 : decode cX1_drawCard 6 = .ok (.istore_n 1, 1) := by decide +kernel
theorem dX1_drawCard_7 : decode cX1_drawCard 7 = .ok (.iconst 2, 1) := by decide +kernel
theorem dX1_drawCard_8 : decode cX1_drawCard 8 = .ok (.aload_n 0, 1) := by decide +kernel
theorem dX1_drawCard_9 : decode cX1_drawCard 9 = .ok (.getfield 45, 3) := by decide +kernel
theorem dX1_drawCard_12 : decode cX1_drawCard 12 = .ok (.iadd, 1) := by decide +kernel
theorem dX1_drawCard_13 : decode cX1_drawCard 13 = .ok (.istore_n 2, 1) := by decide +kernel
theorem dX1_drawCard_14 : decode cX1_drawCard 14 = .ok (.aload_n 0, 1) := by decide +kernel
theorem dX1_drawCard_15 : decode cX1_drawCard 15 = .ok (.iload_n 1, 1) := by decide +kernel
theorem dX1_drawCard_16 : decode cX1_drawCard 16 = .ok (.invokevirtual 89, 3) := by decide +kernel
theorem dX1_drawCard_19 : decode cX1_drawCard 19 = .ok (.ifCond .ne 9, 3) := by decide +kernel
theorem dX1_drawCard_22 : decode cX1_drawCard 22 = .ok (.aload_n 0, 1) := by decide +kernel
theorem dX1_drawCard_23 : decode cX1_drawCard 23 = .ok (.iload_n 2, 1) := by decide +kernel
theorem dX1_drawCard_24 : decode cX1_drawCard 24 = .ok (.iload_n 1, 1) := by decide +kernel
theorem dX1_drawCard_25 : decode cX1_drawCard 25 = .ok (.invokevirtual 145, 3) := by decide +kernel
theorem dX1_drawCard_28 : decode cX1_drawCard 28 = .ok (.aload_n 0, 1) := by decide +kernel
theorem dX1_drawCard_29 : decode cX1_drawCard 29 = .ok (.iload_n 1, 1) := by decide +kernel
theorem dX1_drawCard_30 : decode cX1_drawCard 30 = .ok (.invokevirtual 139, 3) := by decide +kernel
theorem dX1_drawCard_33 : decode cX1_drawCard 33 = .ok (.istore_n 3, 1) := by decide +kernel
theorem dX1_drawCard_34 : decode cX1_drawCard 34 = .ok (.iload_n 3, 1) := by decide +kernel
theorem dX1_drawCard_35 : decode cX1_drawCard 35 = .ok (.bipush (-6), 2) := by decide +kernel
theorem dX1_drawCard_37 : decode cX1_drawCard 37 = .ok (.if_icmp .eq 9, 3) := by decide +kernel
theorem dX1_drawCard_40 : decode cX1_drawCard 40 = .ok (.aload_n 0, 1) := by decide +kernel
theorem dX1_drawCard_41 : decode cX1_drawCard 41 = .ok (.iload_n 2, 1) := by decide +kernel
theorem dX1_drawCard_42 : decode cX1_drawCard 42 = .ok (.iload_n 3, 1) := by decide +kernel
theorem dX1_drawCard_43 : decode cX1_drawCard 43 = .ok (.invokevirtual 30, 3) := by decide +kernel
theorem dX1_drawCard_46 : decode cX1_drawCard 46 = .ok (.aload_n 0, 1) := by decide +kernel
theorem dX1_drawCard_47 : decode cX1_drawCard 47 = .ok (.dup, 1) := by decide +kernel
theorem dX1_drawCard_48 : decode cX1_drawCard 48 = .ok (.getfield 49, 3) := by decide +kernel
theorem dX1_drawCard_51 : decode cX1_drawCard 51 = .ok (.iconst 1, 1) := by decide +kernel
theorem dX1_drawCard_52 : decode cX1_drawCard 52 = .ok (.iadd, 1) := by decide +kernel
theorem dX1_drawCard_53 : decode cX1_drawCard 53 = .ok (.putfield 49, 3) := by decide +kernel
theorem dX1_drawCard_56 : decode cX1_drawCard 56 = .ok (.aload_n 0, 1) := by decide +kernel
theorem dX1_drawCard_57 : decode cX1_drawCard 57 = .ok (.aload_n 0, 1) := by decide +kernel
theorem dX1_drawCard_58 : decode cX1_drawCard 58 = .ok (.getfield 49, 3) := by decide +kernel
theorem dX1_drawCard_61 : decode cX1_drawCard 61 = .ok (.sipush 200, 3) := by decide +kernel
theorem dX1_drawCard_64 : decode cX1_drawCard 64 = .ok (.if_icmp .lt 7, 3) := by decide +kernel
theorem dX1_drawCard_67 : decode cX1_drawCard 67 = .ok (.iconst 1, 1) := by decide +kernel
theorem dX1_drawCard_68 : decode cX1_drawCard 68 = .ok (.goto 4, 3) := by decide +kernel
theorem dX1_drawCard_71 : decode cX1_drawCard 71 = .ok (.iconst 0, 1) := by decide +kernel
theorem dX1_drawCard_72 : decode cX1_drawCard 72 = .ok (.putfield 55, 3) := by decide +kernel
theorem dX1_drawCard_75 : decode cX1_drawCard 75 = .ok (.aload_n 0, 1) := by decide +kernel
theorem dX1_drawCard_76 : decode cX1_drawCard 76 = .ok (.iconst 1, 1) := by decide +kernel
theorem dX1_drawCard_77 : decode cX1_drawCard 77 = .ok (.aload_n 0, 1) := by decide +kernel
theorem dX1_drawCard_78 : decode cX1_drawCard 78 = .ok (.getfield 45, 3) := by decide +kernel
theorem dX1_drawCard_81 : decode cX1_drawCard 81 = .ok (.isub, 1) := by decide +kernel
theorem dX1_drawCard_82 : decode cX1_drawCard 82 = .ok (.putfield 45, 3) := by decide +kernel
theorem dX1_drawCard_85 : decode cX1_drawCard 85 = .ok (.iload_n 3, 1) := by decide +kernel
theorem dX1_drawCard_86 : decode cX1_drawCard 86 = .ok (.ireturn, 1) := by decide +kernel
theorem dX1_turnOver_0 : decode cX1_turnOver 0 = .ok (.aload_n 0, 1) := by decide +kernel
theorem dX1_turnOver_1 : decode cX1_turnOver 1 = .ok (.iload_n 1, 1) := by decide +kernel
theorem dX1_turnOver_2 : decode cX1_turnOver 2 = .ok (.invokevirtual 89, 3) := by decide +kernel
theorem dX1_turnOver_5 : decode cX1_turnOver 5 = .ok (.istore_n 3, 1) := by decide +kernel
theorem dX1_turnOver_6 : decode cX1_turnOver 6 = .ok (.iconst 0, 1) := by decide +kernel
theorem dX1_turnOver_7 : decode cX1_turnOver 7 = .ok (.istore 4, 2) := by decide +kernel
theorem dX1_turnOver_9 : decode cX1_turnOver 9 = .ok (.iload 4, 2) := by decide +kernel
theorem dX1_turnOver_11 : decode cX1_turnOver 11 = .ok (.iload_n 3, 1) := by decide +kernel
theorem dX1_turnOver_12 : decode cX1_turnOver 12 = .ok (.if_icmp .ge 19, 3) := by decide +kernel
theorem dX1_turnOver_15 : decode cX1_turnOver 15 = .ok (.aload_n 0, 1) := by decide +kernel
theorem dX1_turnOver_16 : decode cX1_turnOver 16 = .ok (.iload_n 2, 1) := by decide +kernel
theorem dX1_turnOver_17 : decode cX1_turnOver 17 = .ok (.aload_n 0, 1) := by decide +kernel
theorem dX1_turnOver_18 : decode cX1_turnOver 18 = .ok (.iload_n 1, 1) := by decide +kernel
theorem dX1_turnOver_19 : decode cX1_turnOver 19 = .ok (.invokevirtual 139, 3) := by decide +kernel
theorem dX1_turnOver_22 : decode cX1_turnOver 22 = .ok (.invokevirtual 30, 3) := by decide +kernel
theorem dX1_turnOver_25 : decode cX1_turnOver 25 = .ok (.iinc 4 1, 3) := by decide +kernel
theorem dX1_turnOver_28 : decode cX1_turnOver 28 = .ok (.goto (-19), 3) := by decide +kernel
theorem dX1_turnOver_31 : decode cX1_turnOver 31 = .ok (.return_, 1) := by decide +kernel
theorem dX1_allowsFreeze_0 : decode cX1_allowsFreeze 0 = .ok (.aload_n 0, 1) := by decide +kernel
theorem dX1_allowsFreeze_1 : decode cX1_allowsFreeze 1 = .ok (.getfield 55, 3) := by decide +kernel
theorem dX1_allowsFreeze_4 : decode cX1_allowsFreeze 4 = .ok (.ifCond .ne 32, 3) := by decide +kernel
theorem dX1_allowsFreeze_7 : decode cX1_allowsFreeze 7 = .ok (.aload_n 0, 1) := by decide +kernel
theorem dX1_allowsFreeze_8 : decode cX1_allowsFreeze 8 = .ok (.bipush 6, 2) := by decide +kernel
theorem dX1_allowsFreeze_10 : decode cX1_allowsFreeze 10 = .ok (.iload_n 1, 1) := by decide +kernel
theorem dX1_allowsFreeze_11 : decode cX1_allowsFreeze 11 = .ok (.iadd, 1) := by decide +kernel
theorem dX1_allowsFreeze_12 : decode cX1_allowsFreeze 12 = .ok (.invokevirtual 104, 3) := by decide +kernel
theorem dX1_allowsFreeze_15 : decode cX1_allowsFreeze 15 = .ok (.ifCond .ne 21, 3) := by decide +kernel
theorem dX1_allowsFreeze_18 : decode cX1_allowsFreeze 18 = .ok (.aload_n 0, 1) := by decide +kernel
theorem dX1_allowsFreeze_19 : decode cX1_allowsFreeze 19 = .ok (.getfield 21, 3) := by decide +kernel
theorem dX1_allowsFreeze_22 : decode cX1_allowsFreeze 22 = .ok (.aload_n 0, 1) := by decide +kernel
theorem dX1_allowsFreeze_23 : decode cX1_allowsFreeze 23 = .ok (.getfield 45, 3) := by decide +kernel
theorem dX1_allowsFreeze_26 : decode cX1_allowsFreeze 26 = .ok (.invokestatic 75, 3) := by decide +kernel
theorem dX1_allowsFreeze_29 : decode cX1_allowsFreeze 29 = .ok (.ifCond .le 7, 3) := by decide +kernel
theorem dX1_allowsFreeze_32 : decode cX1_allowsFreeze 32 = .ok (.iconst 1, 1) := by decide +kernel
theorem dX1_allowsFreeze_33 : decode cX1_allowsFreeze 33 = .ok (.goto 4, 3) := by decide +kernel
theorem dX1_allowsFreeze_36 : decode cX1_allowsFreeze 36 = .ok (.iconst 0, 1) := by decide +kernel
theorem dX1_allowsFreeze_37 : decode cX1_allowsFreeze 37 = .ok (.ireturn, 1) := by decide +kernel
theorem dX1_freezeHouse_0 : decode cX1_freezeHouse 0 = .ok (.aload_n 0, 1) := by decide +kernel
theorem dX1_freezeHouse_1 : decode cX1_freezeHouse 1 = .ok (.getfield 24, 3) := by decide +kernel
theorem dX1_freezeHouse_4 : decode cX1_freezeHouse 4 = .ok (.iload_n 1, 1) := by decide +kernel
theorem dX1_freezeHouse_5 : decode cX1_freezeHouse 5 = .ok (.aload_n 0, 1) := by decide +kernel
theorem dX1_freezeHouse_6 : decode cX1_freezeHouse 6 = .ok (.getfield 49, 3) := by decide +kernel
theorem dX1_freezeHouse_9 : decode cX1_freezeHouse 9 = .ok (.iconst 3, 1) := by decide +kernel
theorem dX1_freezeHouse_10 : decode cX1_freezeHouse 10 = .ok (.iadd, 1) := by decide +kernel
theorem dX1_freezeHouse_11 : decode cX1_freezeHouse 11 = .ok (.invokestatic 41, 3) := by decide +kernel
theorem dX1_freezeHouse_14 : decode cX1_freezeHouse 14 = .ok (.aload_n 0, 1) := by decide +kernel
theorem dX1_freezeHouse_15 : decode cX1_freezeHouse 15 = .ok (.getfield 21, 3) := by decide +kernel
theorem dX1_freezeHouse_18 : decode cX1_freezeHouse 18 = .ok (.aload_n 0, 1) := by decide +kernel
theorem dX1_freezeHouse_19 : decode cX1_freezeHouse 19 = .ok (.getfield 45, 3) := by decide +kernel
theorem dX1_freezeHouse_22 : decode cX1_freezeHouse 22 = .ok (.iconst (-1), 1) := by decide +kernel
theorem dX1_freezeHouse_23 : decode cX1_freezeHouse 23 = .ok (.invokestatic 82, 3) := by decide +kernel
theorem dX1_freezeHouse_26 : decode cX1_freezeHouse 26 = .ok (.aload_n 0, 1) := by decide +kernel
theorem dX1_freezeHouse_27 : decode cX1_freezeHouse 27 = .ok (.getfield 21, 3) := by decide +kernel
theorem dX1_freezeHouse_30 : decode cX1_freezeHouse 30 = .ok (.aload_n 0, 1) := by decide +kernel
theorem dX1_freezeHouse_31 : decode cX1_freezeHouse 31 = .ok (.getfield 45, 3) := by decide +kernel
theorem dX1_freezeHouse_34 : decode cX1_freezeHouse 34 = .ok (.invokestatic 75, 3) := by decide +kernel
theorem dX1_freezeHouse_37 : decode cX1_freezeHouse 37 = .ok (.ireturn, 1) := by decide +kernel
