theorem dX3_init_0 : decode cX3_init 0 = .ok (.aload_n 0, 1) := by decide +kernel
theorem dX3_init_1 : decode cX3_init 1 = .ok (.invokespecial 1, 3) := by decide +kernel
theorem dX3_init_4 : decode cX3_init 4 = .ok (.aload_n 0, 1) := by decide +kernel
theorem dX3_init_5 : decode cX3_init 5 = .ok (.sipush 224, 3) := by decide +kernel
theorem dX3_init_8 : decode cX3_init 8 = .ok (.newarray .int, 2) := by decide +kernel
theorem dX3_init_10 : decode cX3_init 10 = .ok (.putfield 7, 3) := by decide +kernel
theorem dX3_init_13 : decode cX3_init 13 = .ok (.aload_n 0, 1) := by decide +kernel
theorem dX3_init_14 : decode cX3_init 14 = .ok (.sipush 224, 3) := by decide +kernel
theorem dX3_init_17 : decode cX3_init 17 = .ok (.newarray .int, 2) := by decide +kernel
theorem dX3_init_19 : decode cX3_init 19 = .ok (.putfield 13, 3) := by decide +kernel
theorem dX3_init_22 : decode cX3_init 22 = .ok (.aload_n 0, 1) := by decide +kernel
theorem dX3_init_23 : decode cX3_init 23 = .ok (.sipush 1344, 3) := by decide +kernel
theorem dX3_init_26 : decode cX3_init 26 = .ok (.newarray .int, 2) := by decide +kernel
theorem dX3_init_28 : decode cX3_init 28 = .ok (.putfield 16, 3) := by decide +kernel
theorem dX3_init_31 : decode cX3_init 31 = .ok (.aload_n 0, 1) := by decide +kernel
theorem dX3_init_32 : decode cX3_init 32 = .ok (.sipush 448, 3) := by decide +kernel
theorem dX3_init_35 : decode cX3_init 35 = .ok (.newarray .int, 2) := by decide +kernel
theorem dX3_init_37 : decode cX3_init 37 = .ok (.putfield 19, 3) := by decide +kernel
theorem dX3_init_40 : decode cX3_init 40 = .ok (.aload_n 0, 1) := by decide +kernel
theorem dX3_init_41 : decode cX3_init 41 = .ok (.iconst 2, 1) := by decide +kernel
theorem dX3_init_42 : decode cX3_init 42 = .ok (.newarray .int, 2) := by decide +kernel
theorem dX3_init_44 : decode cX3_init 44 = .ok (.putfield 22, 3) := by decide +kernel
theorem dX3_init_47 : decode cX3_init 47 = .ok (.aload_n 0, 1) := by decide +kernel
theorem dX3_init_48 : decode cX3_init 48 = .ok (.bipush 60, 2) := by decide +kernel
theorem dX3_init_50 : decode cX3_init 50 = .ok (.newarray .int, 2) := by decide +kernel
theorem dX3_init_52 : decode cX3_init 52 = .ok (.putfield 25, 3) := by decide +kernel
theorem dX3_init_55 : decode cX3_init 55 = .ok (.aload_n 0, 1) := by decide +kernel
theorem dX3_init_56 : decode cX3_init 56 = .ok (.bipush 22, 2) := by decide +kernel
theorem dX3_init_58 : decode cX3_init 58 = .ok (.newarray .int, 2) := by decide +kernel
theorem dX3_init_60 : decode cX3_init 60 = .ok (.putfield 28, 3) := by decide +kernel
theorem dX3_init_63 : decode cX3_init 63 = .ok (.aload_n 0, 1) := by decide +kernel
theorem dX3_init_64 : decode cX3_init 64 = .ok (.bipush 22, 2) := by decide +kernel
theorem dX3_init_66 : decode cX3_init 66 = .ok (.newarray .int, 2) := by decide +kernel
theorem dX3_init_68 : decode cX3_init 68 = .ok (.putfield 31, 3) := by decide +kernel
theorem dX3_init_71 : decode cX3_init 71 = .ok (.aload_n 0, 1) := by decide +kernel
theorem dX3_init_72 : decode cX3_init 72 = .ok (.bipush 52, 2) := by decide +kernel
theorem dX3_init_74 : decode cX3_init 74 = .ok (.newarray .int, 2) := by decide +kernel
theorem dX3_init_76 : decode cX3_init 76 = .ok (.putfield 34, 3) := by decide +kernel
theorem dX3_init_79 : decode cX3_init 79 = .ok (.aload_n 0, 1) := by decide +kernel
theorem dX3_init_80 : decode cX3_init 80 = .ok (.iconst 1, 1) := by decide +kernel
theorem dX3_init_81 : decode cX3_init 81 = .ok (.invokevirtual 37, 3) := by decide +kernel
theorem dX3_init_84 : decode cX3_init 84 = .ok (.return_, 1) := by decide +kernel
theorem dX3_moves_0 : decode cX3_moves 0 = .ok (.iconst 0, 1) := by decide +kernel
theorem dX3_moves_1 : decode cX3_moves 1 = .ok (.istore 4, 2) := by decide +kernel
theorem dX3_moves_3 : decode cX3_moves 3 = .ok (.iload 4, 2) := by decide +kernel
theorem dX3_moves_5 : decode cX3_moves 5 = .ok (.sipush 224, 3) := by decide +kernel
theorem dX3_moves_8 : decode cX3_moves 8 = .ok (.if_icmp .ge 21, 3) := by decide +kernel
theorem dX3_moves_11 : decode cX3_moves 11 = .ok (.aload_n 2, 1) := by decide +kernel
theorem dX3_moves_12 : decode cX3_moves 12 = .ok (.iload_n 3, 1) := by decide +kernel
theorem dX3_moves_13 : decode cX3_moves 13 = .ok (.iload 4, 2) := by decide +kernel
theorem dX3_moves_15 : decode cX3_moves 15 = .ok (.iadd, 1) := by decide +kernel
theorem dX3_moves_16 : decode cX3_moves 16 = .ok (.aload_n 0, 1) := by decide +kernel
theorem dX3_moves_17 : decode cX3_moves 17 = .ok (.iload_n 1, 1) := by decide +kernel
theorem dX3_moves_18 : decode cX3_moves 18 = .ok (.iload 4, 2) := by decide +kernel
theorem dX3_moves_20 : decode cX3_moves 20 = .ok (.iadd, 1) := by decide +kernel
theorem dX3_moves_21 : decode cX3_moves 21 = .ok (.iaload, 1) := by decide +kernel
theorem dX3_moves_22 : decode cX3_moves 22 = .ok (.iastore, 1) := by decide +kernel
theorem dX3_moves_23 : decode cX3_moves 23 = .ok (.iinc 4 1, 3) := by decide +kernel
theorem dX3_moves_26 : decode cX3_moves 26 = .ok (.goto (-23), 3) := by decide +kernel
theorem dX3_moves_29 : decode cX3_moves 29 = .ok (.return_, 1) := by decide +kernel
theorem dX3_within_0 : decode cX3_within 0 = .ok (.iload_n 0, 1) := by decide +kernel
theorem dX3_within_1 : decode cX3_within 1 = .ok (.iload_n 1, 1) := by decide +kernel
theorem dX3_within_2 : decode cX3_within 2 = .ok (.if_icmp .lt 12, 3) := by decide +kernel
theorem dX3_within_5 : decode cX3_within 5 = .ok (.iload_n 0, 1) := by decide +kernel
theorem dX3_within_6 : decode cX3_within 6 = .ok (.iload_n 2, 1) := by decide +kernel
theorem dX3_within_7 : decode cX3_within 7 = .ok (.if_icmp .gt 7, 3) := by decide +kernel
theorem dX3_within_10 : decode cX3_within 10 = .ok (.iconst 1, 1) := by decide +kernel
theorem dX3_within_11 : decode cX3_within 11 = .ok (.goto 4, 3) := by decide +kernel
theorem dX3_within_14 : decode cX3_within 14 = .ok (.iconst 0, 1) := by decide +kernel
theorem dX3_within_15 : decode cX3_within 15 = .ok (.ireturn, 1) := by decide +kernel
theorem dX3_record_0 : decode cX3_record 0 = .ok (.aload_n 0, 1) := by decide +kernel
theorem dX3_record_1 : decode cX3_record 1 = .ok (.getfield 41, 3) := by decide +kernel
theorem dX3_record_4 : decode cX3_record 4 = .ok (.bipush 6, 2) := by decide +kernel
theorem dX3_record_6 : decode cX3_record 6 = .ok (.if_icmp .ne 44, 3) := by decide +kernel
theorem dX3_record_9 : decode cX3_record 9 = .ok (.iconst 0, 1) := by decide +kernel
theorem dX3_record_10 : decode cX3_record 10 = .ok (.istore_n 1, 1) := by decide +kernel
theorem dX3_record_11 : decode cX3_record 11 = .ok (.iload_n 1, 1) := by decide +kernel
theorem dX3_record_12 : decode cX3_record 12 = .ok (.sipush 1120, 3) := by decide +kernel
theorem dX3_record_15 : decode cX3_record 15 = .ok (.if_icmp .ge 25, 3) := by decide +kernel
theorem dX3_record_18 : decode cX3_record 18 = .ok (.aload_n 0, 1) := by decide +kernel
theorem dX3_record_19 : decode cX3_record 19 = .ok (.getfield 16, 3) := by decide +kernel
theorem dX3_record_22 : decode cX3_record 22 = .ok (.iload_n 1, 1) := by decide +kernel
theorem dX3_record_23 : decode cX3_record 23 = .ok (.aload_n 0, 1) := by decide +kernel
theorem dX3_record_24 : decode cX3_record 24 = .ok (.getfield 16, 3) := by decide +kernel
theorem dX3_record_27 : decode cX3_record 27 = .ok (.iload_n 1, 1) := by decide +kernel
theorem dX3_record_28 : decode cX3_record 28 = .ok (.sipush 224, 3) := by decide +kernel
theorem dX3_record_31 : decode cX3_record 31 = .ok (.iadd, 1) := by decide +kernel
theorem dX3_record_32 : decode cX3_record 32 = .ok (.iaload, 1) := by decide +kernel
theorem dX3_record_33 : decode cX3_record 33 = .ok (.iastore, 1) := by decide +kernel
theorem dX3_record_34 : decode cX3_record 34 = .ok (.iinc 1 1, 3) := by decide +kernel
theorem dX3_record_37 : decode cX3_record 37 = .ok (.goto (-26), 3) := by decide +kernel
theorem dX3_record_40 : decode cX3_record 40 = .ok (.aload_n 0, 1) := by decide +kernel
theorem dX3_record_41 : decode cX3_record 41 = .ok (.dup, 1) := by decide +kernel
theorem dX3_record_42 : decode cX3_record 42 = .ok (.getfield 41, 3) := by decide +kernel
theorem dX3_record_45 : decode cX3_record 45 = .ok (.iconst 1, 1) := by decide +kernel
theorem dX3_record_46 : decode cX3_record 46 = .ok (.isub, 1) := by decide +kernel
theorem dX3_record_47 : decode cX3_record 47 = .ok (.putfield 41, 3) := by decide +kernel
theorem dX3_record_50 : decode cX3_record 50 = .ok (.aload_n 0, 1) := by decide +kernel
theorem dX3_record_51 : decode cX3_record 51 = .ok (.getfield 7, 3) := by decide +kernel
theorem dX3_record_54 : decode cX3_record 54 = .ok (.iconst 0, 1) := by decide +kernel
theorem dX3_record_55 : decode cX3_record 55 = .ok (.aload_n 0, 1) := by decide +kernel
theorem dX3_record_56 : decode cX3_record 56 = .ok (.getfield 16, 3) := by decide +kernel
theorem dX3_record_59 : decode cX3_record 59 = .ok (.aload_n 0, 1) := by decide +kernel
theorem dX3_record_60 : decode cX3_record 60 = .ok (.getfield 41, 3) := by decide +kernel
theorem dX3_record_63 : decode cX3_record 63 = .ok (.sipush 224, 3) := by decide +kernel
theorem dX3_record_66 : decode cX3_record 66 = .ok (.imul, 1) := by decide +kernel
theorem dX3_record_67 : decode cX3_record 67 = .ok (.invokestatic 45, 3) := by decide +kernel
theorem dX3_record_70 : decode cX3_record 70 = .ok (.aload_n 0, 1) := by decide +kernel
theorem dX3_record_71 : decode cX3_record 71 = .ok (.dup, 1) := by decide +kernel
theorem dX3_record_72 : decode cX3_record 72 = .ok (.getfield 41, 3) := by decide +kernel
theorem dX3_record_75 : decode cX3_record 75 = .ok (.iconst 1, 1) := by decide +kernel
theorem dX3_record_76 : decode cX3_record 76 = .ok (.iadd, 1) := by decide +kernel
theorem dX3_record_77 : decode cX3_record 77 = .ok (.putfield 41, 3) := by decide +kernel
theorem dX3_record_80 : decode cX3_record 80 = .ok (.return_, 1) := by decide +kernel
theorem dX3_lay_0 : decode cX3_lay 0 = .ok (.aload_n 0, 1) := by decide +kernel
theorem dX3_lay_1 : decode cX3_lay 1 = .ok (.getfield 7, 3) := by decide +kernel
theorem dX3_lay_4 : decode cX3_lay 4 = .ok (.iconst 0, 1) := by decide +kernel
theorem dX3_lay_5 : decode cX3_lay 5 = .ok (.iload_n 1, 1) := by decide +kernel
theorem dX3_lay_6 : decode cX3_lay 6 = .ok (.iadd, 1) := by decide +kernel
theorem dX3_lay_7 : decode cX3_lay 7 = .ok (.iload_n 2, 1) := by decide +kernel
theorem dX3_lay_8 : decode cX3_lay 8 = .ok (.iastore, 1) := by decide +kernel
theorem dX3_lay_9 : decode cX3_lay 9 = .ok (.aload_n 0, 1) := by decide +kernel
theorem dX3_lay_10 : decode cX3_lay 10 = .ok (.getfield 7, 3) := by decide +kernel
theorem dX3_lay_13 : decode cX3_lay 13 = .ok (.bipush 104, 2) := by decide +kernel
theorem dX3_lay_15 : decode cX3_lay 15 = .ok (.iload_n 1, 1) := by decide +kernel
theorem dX3_lay_16 : decode cX3_lay 16 = .ok (.iadd, 1) := by decide +kernel
theorem dX3_lay_17 : decode cX3_lay 17 = .ok (.iload_n 3, 1) := by decide +kernel
theorem dX3_lay_18 : decode cX3_lay 18 = .ok (.iastore, 1) := by decide +kernel
theorem dX3_lay_19 : decode cX3_lay 19 = .ok (.return_, 1) := by decide +kernel
theorem dX3_dealPack_0 : decode cX3_dealPack 0 = .ok (.iconst 0, 1) := by decide +kernel
theorem dX3_dealPack_1 : decode cX3_dealPack 1 = .ok (.istore_n 2, 1) := by decide +kernel
theorem dX3_dealPack_2 : decode cX3_dealPack 2 = .ok (.iload_n 2, 1) := by decide +kernel
theorem dX3_dealPack_3 : decode cX3_dealPack 3 = .ok (.bipush 52, 2) := by decide +kernel
theorem dX3_dealPack_5 : decode cX3_dealPack 5 = .ok (.if_icmp .ge 72, 3) := by decide +kernel
theorem dX3_dealPack_8 : decode cX3_dealPack 8 = .ok (.aload_n 0, 1) := by decide +kernel
theorem dX3_dealPack_9 : decode cX3_dealPack 9 = .ok (.getfield 34, 3) := by decide +kernel
theorem dX3_dealPack_12 : decode cX3_dealPack 12 = .ok (.iload_n 2, 1) := by decide +kernel
theorem dX3_dealPack_13 : decode cX3_dealPack 13 = .ok (.iaload, 1) := by decide +kernel
theorem dX3_dealPack_14 : decode cX3_dealPack 14 = .ok (.istore_n 3, 1) := by decide +kernel
theorem dX3_dealPack_15 : decode cX3_dealPack 15 = .ok (.iload_n 2, 1) := by decide +kernel
theorem dX3_dealPack_16 : decode cX3_dealPack 16 = .ok (.bipush 13, 2) := by decide +kernel
theorem dX3_dealPack_18 : decode cX3_dealPack 18 = .ok (.if_icmp .ge 15, 3) := by decide +kernel
theorem dX3_dealPack_21 : decode cX3_dealPack 21 = .ok (.aload_n 0, 1) := by decide +kernel
theorem dX3_dealPack_22 : decode cX3_dealPack 22 = .ok (.iload_n 3, 1) := by decide +kernel
theorem dX3_dealPack_23 : decode cX3_dealPack 23 = .ok (.iconst 0, 1) := by decide +kernel
theorem dX3_dealPack_24 : decode cX3_dealPack 24 = .ok (.iload_n 1, 1) := by decide +kernel
theorem dX3_dealPack_25 : decode cX3_dealPack 25 = .ok (.iadd, 1) := by decide +kernel
theorem dX3_dealPack_26 : decode cX3_dealPack 26 = .ok (.iload_n 2, 1) := by decide +kernel
theorem dX3_dealPack_27 : decode cX3_dealPack 27 = .ok (.invokevirtual 49, 3) := by decide +kernel
theorem dX3_dealPack_30 : decode cX3_dealPack 30 = .ok (.goto 41, 3) := by decide +kernel
theorem dX3_dealPack_33 : decode cX3_dealPack 33 = .ok (.iload_n 2, 1) := by decide +kernel
theorem dX3_dealPack_34 : decode cX3_dealPack 34 = .ok (.bipush 17, 2) := by decide +kernel
theorem dX3_dealPack_36 : decode cX3_dealPack 36 = .ok (.if_icmp .ge 23, 3) := by decide +kernel
theorem dX3_dealPack_39 : decode cX3_dealPack 39 = .ok (.aload_n 0, 1) := by decide +kernel
theorem dX3_dealPack_40 : decode cX3_dealPack 40 = .ok (.iload_n 3, 1) := by decide +kernel
theorem dX3_dealPack_41 : decode cX3_dealPack 41 = .ok (.bipush 6, 2) := by decide +kernel
theorem dX3_dealPack_43 : decode cX3_dealPack 43 = .ok (.iconst 4, 1) := by decide +kernel
theorem dX3_dealPack_44 : decode cX3_dealPack 44 = .ok (.iload_n 1, 1) := by decide +kernel
theorem dX3_dealPack_45 : decode cX3_dealPack 45 = .ok (.imul, 1) := by decide +kernel
theorem dX3_dealPack_46 : decode cX3_dealPack 46 = .ok (.iadd, 1) := by decide +kernel
theorem dX3_dealPack_47 : decode cX3_dealPack 47 = .ok (.iload_n 2, 1) := by decide +kernel
theorem dX3_dealPack_48 : decode cX3_dealPack 48 = .ok (.iadd, 1) := by decide +kernel
theorem dX3_dealPack_49 : decode cX3_dealPack 49 = .ok (.bipush 13, 2) := by decide +kernel
theorem dX3_dealPack_51 : decode cX3_dealPack 51 = .ok (.isub, 1) := by decide +kernel
theorem dX3_dealPack_52 : decode cX3_dealPack 52 = .ok (.iconst 0, 1) := by decide +kernel
theorem dX3_dealPack_53 : decode cX3_dealPack 53 = .ok (.invokevirtual 49, 3) := by decide +kernel
theorem dX3_dealPack_56 : decode cX3_dealPack 56 = .ok (.goto 15, 3) := by decide +kernel
theorem dX3_dealPack_59 : decode cX3_dealPack 59 = .ok (.aload_n 0, 1) := by decide +kernel
theorem dX3_dealPack_60 : decode cX3_dealPack 60 = .ok (.iload_n 3, 1) := by decide +kernel
theorem dX3_dealPack_61 : decode cX3_dealPack 61 = .ok (.iconst 4, 1) := by decide +kernel
theorem dX3_dealPack_62 : decode cX3_dealPack 62 = .ok (.iload_n 1, 1) := by decide +kernel
theorem dX3_dealPack_63 : decode cX3_dealPack 63 = .ok (.iadd, 1) := by decide +kernel
theorem dX3_dealPack_64 : decode cX3_dealPack 64 = .ok (.iload_n 2, 1) := by decide +kernel
theorem dX3_dealPack_65 : decode cX3_dealPack 65 = .ok (.bipush 17, 2) := by decide +kernel
theorem dX3_dealPack_67 : decode cX3_dealPack 67 = .ok (.isub, 1) := by decide +kernel
theorem dX3_dealPack_68 : decode cX3_dealPack 68 = .ok (.invokevirtual 49, 3) := by decide +kernel
theorem dX3_dealPack_71 : decode cX3_dealPack 71 = .ok (.iinc 2 1, 3) := by decide +kernel
theorem dX3_dealPack_74 : decode cX3_dealPack 74 = .ok (.goto (-72), 3) := by decide +kernel
theorem dX3_dealPack_77 : decode cX3_dealPack 77 = .ok (.return_, 1) := by decide +kernel
theorem dX3_deals_0 : decode cX3_deals 0 = .ok (.iconst 0, 1) := by decide +kernel
theorem dX3_deals_1 : decode cX3_deals 1 = .ok (.istore_n 2, 1) := by decide +kernel
theorem dX3_deals_2 : decode cX3_deals 2 = .ok (.iload_n 2, 1) := by decide +kernel
theorem dX3_deals_3 : decode cX3_deals 3 = .ok (.sipush 224, 3) := by decide +kernel
theorem dX3_deals_6 : decode cX3_deals 6 = .ok (.if_icmp .ge 16, 3) := by decide +kernel
theorem dX3_deals_9 : decode cX3_deals 9 = .ok (.aload_n 0, 1) := by decide +kernel
theorem dX3_deals_10 : decode cX3_deals 10 = .ok (.getfield 7, 3) := by decide +kernel
theorem dX3_deals_13 : decode cX3_deals 13 = .ok (.iload_n 2, 1) := by decide +kernel
theorem dX3_deals_14 : decode cX3_deals 14 = .ok (.iconst 0, 1) := by decide +kernel
theorem dX3_deals_15 : decode cX3_deals 15 = .ok (.iastore, 1) := by decide +kernel
theorem dX3_deals_16 : decode cX3_deals 16 = .ok (.iinc 2 1, 3) := by decide +kernel
theorem dX3_deals_19 : decode cX3_deals 19 = .ok (.goto (-17), 3) := by decide +kernel
theorem dX3_deals_22 : decode cX3_deals 22 = .ok (.iload_n 1, 1) := by decide +kernel
theorem dX3_deals_23 : decode cX3_deals 23 = .ok (.i2l, 1) := by decide +kernel
theorem dX3_deals_24 : decode cX3_deals 24 = .ok (.lstore_n 2, 1) := by decide +kernel
theorem dX3_deals_25 : decode cX3_deals 25 = .ok (.iconst 0, 1) := by decide +kernel
theorem dX3_deals_26 : decode cX3_deals 26 = .ok (.istore 4, 2) := by decide +kernel
theorem dX3_deals_28 : decode cX3_deals 28 = .ok (.iload 4, 2) := by decide +kernel
theorem dX3_deals_30 : decode cX3_deals 30 = .ok (.iconst 2, 1) := by decide +kernel
theorem dX3_deals_31 : decode cX3_deals 31 = .ok (.if_icmp .ge 133, 3) := by decide +kernel
theorem dX3_deals_34 : decode cX3_deals 34 = .ok (.iconst 0, 1) := by decide +kernel
theorem dX3_deals_35 : decode cX3_deals 35 = .ok (.istore 5, 2) := by decide +kernel
theorem dX3_deals_37 : decode cX3_deals 37 = .ok (.iload 5, 2) := by decide +kernel
theorem dX3_deals_39 : decode cX3_deals 39 = .ok (.bipush 52, 2) := by decide +kernel
theorem dX3_deals_41 : decode cX3_deals 41 = .ok (.if_icmp .ge 24, 3) := by decide +kernel
theorem dX3_deals_44 : decode cX3_deals 44 = .ok (.aload_n 0, 1) := by decide +kernel
theorem dX3_deals_45 : decode cX3_deals 45 = .ok (.getfield 34, 3) := by decide +kernel
theorem dX3_deals_48 : decode cX3_deals 48 = .ok (.iload 5, 2) := by decide +kernel
theorem dX3_deals_50 : decode cX3_deals 50 = .ok (.bipush 52, 2) := by decide +kernel
theorem dX3_deals_52 : decode cX3_deals 52 = .ok (.iload 4, 2) := by decide +kernel
theorem dX3_deals_54 : decode cX3_deals 54 = .ok (.imul, 1) := by decide +kernel
theorem dX3_deals_55 : decode cX3_deals 55 = .ok (.iload 5, 2) := by decide +kernel
theorem dX3_deals_57 : decode cX3_deals 57 = .ok (.iadd, 1) := by decide +kernel
theorem dX3_deals_58 : decode cX3_deals 58 = .ok (.iastore, 1) := by decide +kernel
theorem dX3_deals_59 : decode cX3_deals 59 = .ok (.iinc 5 1, 3) := by decide +kernel
theorem dX3_deals_62 : decode cX3_deals 62 = .ok (.goto (-25), 3) := by decide +kernel
theorem dX3_deals_65 : decode cX3_deals 65 = .ok (.bipush 51, 2) := by decide +kernel
theorem dX3_deals_67 : decode cX3_deals 67 = .ok (.istore 5, 2) := by decide +kernel
theorem dX3_deals_69 : decode cX3_deals 69 = .ok (.iload 5, 2) := by decide +kernel
theorem dX3_deals_71 : decode cX3_deals 71 = .ok (.ifCond .le 69, 3) := by decide +kernel
theorem dX3_deals_74 : decode cX3_deals 74 = .ok (.lload_n 2, 1) := by decide +kernel
theorem dX3_deals_75 : decode cX3_deals 75 = .ok (.ldc2_w 53, 3) := by decide +kernel
theorem dX3_deals_78 : decode cX3_deals 78 = .ok (.lmul, 1) := by decide +kernel
theorem dX3_deals_79 : decode cX3_deals 79 = .ok (.ldc2_w 55, 3) := by decide +kernel
theorem dX3_deals_82 : decode cX3_deals 82 = .ok (.ladd, 1) := by decide +kernel
theorem dX3_deals_83 : decode cX3_deals 83 = .ok (.ldc2_w 57, 3) := by decide +kernel
theorem dX3_deals_86 : decode cX3_deals 86 = .ok (.lrem, 1) := by decide +kernel
theorem dX3_deals_87 : decode cX3_deals 87 = .ok (.lstore_n 2, 1) := by decide +kernel
theorem dX3_deals_88 : decode cX3_deals 88 = .ok (.lload_n 2, 1) := by decide +kernel
theorem dX3_deals_89 : decode cX3_deals 89 = .ok (.ldc2_w 59, 3) := by decide +kernel
theorem dX3_deals_92 : decode cX3_deals 92 = .ok (.ldiv, 1) := by decide +kernel
theorem dX3_deals_93 : decode cX3_deals 93 = .ok (.iload 5, 2) := by decide +kernel
theorem dX3_deals_95 : decode cX3_deals 95 = .ok (.iconst 1, 1) := by decide +kernel
theorem dX3_deals_96 : decode cX3_deals 96 = .ok (.iadd, 1) := by decide +kernel
theorem dX3_deals_97 : decode cX3_deals 97 = .ok (.i2l, 1) := by decide +kernel
theorem dX3_deals_98 : decode cX3_deals 98 = .ok (.lrem, 1) := by decide +kernel
theorem dX3_deals_99 : decode cX3_deals 99 = .ok (.l2i, 1) := by decide +kernel
theorem dX3_deals_100 : decode cX3_deals 100 = .ok (.istore 6, 2) := by decide +kernel
theorem dX3_deals_102 : decode cX3_deals 102 = .ok (.aload_n 0, 1) := by decide +kernel
theorem dX3_deals_103 : decode cX3_deals 103 = .ok (.getfield 34, 3) := by decide +kernel
theorem dX3_deals_106 : decode cX3_deals 106 = .ok (.iload 5, 2) := by decide +kernel
theorem dX3_deals_108 : decode cX3_deals 108 = .ok (.iaload, 1) := by decide +kernel
theorem dX3_deals_109 : decode cX3_deals 109 = .ok (.istore 7, 2) := by decide +kernel
theorem dX3_deals_111 : decode cX3_deals 111 = .ok (.aload_n 0, 1) := by decide +kernel
theorem dX3_deals_112 : decode cX3_deals 112 = .ok (.getfield 34, 3) := by decide +kernel
theorem dX3_deals_115 : decode cX3_deals 115 = .ok (.iload 5, 2) := by decide +kernel
theorem dX3_deals_117 : decode cX3_deals 117 = .ok (.aload_n 0, 1) := by decide +kernel
theorem dX3_deals_118 : decode cX3_deals 118 = .ok (.getfield 34, 3) := by decide +kernel
theorem dX3_deals_121 : decode cX3_deals 121 = .ok (.iload 6, 2) := by decide +kernel
theorem dX3_deals_123 : decode cX3_deals 123 = .ok (.iaload, 1) := by decide +kernel
theorem dX3_deals_124 : decode cX3_deals 124 = .ok (.iastore, 1) := by decide +kernel
theorem dX3_deals_125 : decode cX3_deals 125 = .ok (.aload_n 0, 1) := by decide +kernel
theorem dX3_deals_126 : decode cX3_deals 126 = .ok (.getfield 34, 3) := by decide +kernel
theorem dX3_deals_129 : decode cX3_deals 129 = .ok (.iload 6, 2) := by decide +kernel
theorem dX3_deals_131 : decode cX3_deals 131 = .ok (.iload 7, 2) := by decide +kernel
theorem dX3_deals_133 : decode cX3_deals 133 = .ok (.iastore, 1) := by decide +kernel
theorem dX3_deals_134 : decode cX3_deals 134 = .ok (.iinc 5 (-1), 3) := by decide +kernel
theorem dX3_deals_137 : decode cX3_deals 137 = .ok (.goto (-68), 3) := by decide +kernel
theorem dX3_deals_140 : decode cX3_deals 140 = .ok (.aload_n 0, 1) := by decide +kernel
theorem dX3_deals_141 : decode cX3_deals 141 = .ok (.iload 4, 2) := by decide +kernel
theorem dX3_deals_143 : decode cX3_deals 143 = .ok (.invokevirtual 61, 3) := by decide +kernel
theorem dX3_deals_146 : decode cX3_deals 146 = .ok (.aload_n 0, 1) := by decide +kernel
theorem dX3_deals_147 : decode cX3_deals 147 = .ok (.getfield 7, 3) := by decide +kernel
theorem dX3_deals_150 : decode cX3_deals 150 = .ok (.sipush 210, 3) := by decide +kernel
theorem dX3_deals_153 : decode cX3_deals 153 = .ok (.iload 4, 2) := by decide +kernel
theorem dX3_deals_155 : decode cX3_deals 155 = .ok (.iadd, 1) := by decide +kernel
theorem dX3_deals_156 : decode cX3_deals 156 = .ok (.iconst 2, 1) := by decide +kernel
theorem dX3_deals_157 : decode cX3_deals 157 = .ok (.iastore, 1) := by decide +kernel
theorem dX3_deals_158 : decode cX3_deals 158 = .ok (.iinc 4 1, 3) := by decide +kernel
theorem dX3_deals_161 : decode cX3_deals 161 = .ok (.goto (-133), 3) := by decide +kernel
theorem dX3_deals_164 : decode cX3_deals 164 = .ok (.return_, 1) := by decide +kernel
theorem dX3_look_0 : decode cX3_look 0 = .ok (.iconst 0, 1) := by decide +kernel
theorem dX3_look_1 : decode cX3_look 1 = .ok (.istore_n 1, 1) := by decide +kernel
theorem dX3_look_2 : decode cX3_look 2 = .ok (.iload_n 1, 1) := by decide +kernel
theorem dX3_look_3 : decode cX3_look 3 = .ok (.bipush 22, 2) := by decide +kernel
theorem dX3_look_5 : decode cX3_look 5 = .ok (.if_icmp .ge 24, 3) := by decide +kernel
theorem dX3_look_8 : decode cX3_look 8 = .ok (.aload_n 0, 1) := by decide +kernel
theorem dX3_look_9 : decode cX3_look 9 = .ok (.getfield 28, 3) := by decide +kernel
theorem dX3_look_12 : decode cX3_look 12 = .ok (.iload_n 1, 1) := by decide +kernel
theorem dX3_look_13 : decode cX3_look 13 = .ok (.iconst 0, 1) := by decide +kernel
theorem dX3_look_14 : decode cX3_look 14 = .ok (.iastore, 1) := by decide +kernel
theorem dX3_look_15 : decode cX3_look 15 = .ok (.aload_n 0, 1) := by decide +kernel
theorem dX3_look_16 : decode cX3_look 16 = .ok (.getfield 31, 3) := by decide +kernel
theorem dX3_look_19 : decode cX3_look 19 = .ok (.iload_n 1, 1) := by decide +kernel
theorem dX3_look_20 : decode cX3_look 20 = .ok (.bipush (-6), 2) := by decide +kernel
theorem dX3_look_22 : decode cX3_look 22 = .ok (.iastore, 1) := by decide +kernel
theorem dX3_look_23 : decode cX3_look 23 = .ok (.iinc 1 1, 3) := by decide +kernel
theorem dX3_look_26 : decode cX3_look 26 = .ok (.goto (-24), 3) := by decide +kernel
theorem dX3_look_29 : decode cX3_look 29 = .ok (.iconst 0, 1) := by decide +kernel
theorem dX3_look_30 : decode cX3_look 30 = .ok (.istore_n 1, 1) := by decide +kernel
theorem dX3_look_31 : decode cX3_look 31 = .ok (.iload_n 1, 1) := by decide +kernel
theorem dX3_look_32 : decode cX3_look 32 = .ok (.bipush 104, 2) := by decide +kernel
theorem dX3_look_34 : decode cX3_look 34 = .ok (.if_icmp .ge 81, 3) := by decide +kernel
theorem dX3_look_37 : decode cX3_look 37 = .ok (.aload_n 0, 1) := by decide +kernel
theorem dX3_look_38 : decode cX3_look 38 = .ok (.getfield 7, 3) := by decide +kernel
theorem dX3_look_41 : decode cX3_look 41 = .ok (.iconst 0, 1) := by decide +kernel
theorem dX3_look_42 : decode cX3_look 42 = .ok (.iload_n 1, 1) := by decide +kernel
theorem dX3_look_43 : decode cX3_look 43 = .ok (.iadd, 1) := by decide +kernel
theorem dX3_look_44 : decode cX3_look 44 = .ok (.iaload, 1) := by decide +kernel
theorem dX3_look_45 : decode cX3_look 45 = .ok (.istore_n 2, 1) := by decide +kernel
theorem dX3_look_46 : decode cX3_look 46 = .ok (.aload_n 0, 1) := by decide +kernel
theorem dX3_look_47 : decode cX3_look 47 = .ok (.getfield 28, 3) := by decide +kernel
theorem dX3_look_50 : decode cX3_look 50 = .ok (.iload_n 2, 1) := by decide +kernel
theorem dX3_look_51 : decode cX3_look 51 = .ok (.dup2, 1) := by decide +kernel
theorem dX3_look_52 : decode cX3_look 52 = .ok (.iaload, 1) := by decide +kernel
theorem dX3_look_53 : decode cX3_look 53 = .ok (.iconst 1, 1) := by decide +kernel
theorem dX3_look_54 : decode cX3_look 54 = .ok (.iadd, 1) := by decide +kernel
theorem dX3_look_55 : decode cX3_look 55 = .ok (.iastore, 1) := by decide +kernel
theorem dX3_look_56 : decode cX3_look 56 = .ok (.aload_n 0, 1) := by decide +kernel
theorem dX3_look_57 : decode cX3_look 57 = .ok (.getfield 31, 3) := by decide +kernel
theorem dX3_look_60 : decode cX3_look 60 = .ok (.iload_n 2, 1) := by decide +kernel
theorem dX3_look_61 : decode cX3_look 61 = .ok (.aload_n 0, 1) := by decide +kernel
theorem dX3_look_62 : decode cX3_look 62 = .ok (.getfield 31, 3) := by decide +kernel
theorem dX3_look_65 : decode cX3_look 65 = .ok (.iload_n 2, 1) := by decide +kernel
theorem dX3_look_66 : decode cX3_look 66 = .ok (.iaload, 1) := by decide +kernel
theorem dX3_look_67 : decode cX3_look 67 = .ok (.bipush (-6), 2) := by decide +kernel
theorem dX3_look_69 : decode cX3_look 69 = .ok (.if_icmp .eq 29, 3) := by decide +kernel
theorem dX3_look_72 : decode cX3_look 72 = .ok (.aload_n 0, 1) := by decide +kernel
theorem dX3_look_73 : decode cX3_look 73 = .ok (.getfield 7, 3) := by decide +kernel
theorem dX3_look_76 : decode cX3_look 76 = .ok (.bipush 104, 2) := by decide +kernel
theorem dX3_look_78 : decode cX3_look 78 = .ok (.iload_n 1, 1) := by decide +kernel
theorem dX3_look_79 : decode cX3_look 79 = .ok (.iadd, 1) := by decide +kernel
theorem dX3_look_80 : decode cX3_look 80 = .ok (.iaload, 1) := by decide +kernel
theorem dX3_look_81 : decode cX3_look 81 = .ok (.aload_n 0, 1) := by decide +kernel
theorem dX3_look_82 : decode cX3_look 82 = .ok (.getfield 7, 3) := by decide +kernel
theorem dX3_look_85 : decode cX3_look 85 = .ok (.bipush 104, 2) := by decide +kernel
theorem dX3_look_87 : decode cX3_look 87 = .ok (.aload_n 0, 1) := by decide +kernel
theorem dX3_look_88 : decode cX3_look 88 = .ok (.getfield 31, 3) := by decide +kernel
theorem dX3_look_91 : decode cX3_look 91 = .ok (.iload_n 2, 1) := by decide +kernel
theorem dX3_look_92 : decode cX3_look 92 = .ok (.iaload, 1) := by decide +kernel
theorem dX3_look_93 : decode cX3_look 93 = .ok (.iadd, 1) := by decide +kernel
theorem dX3_look_94 : decode cX3_look 94 = .ok (.iaload, 1) := by decide +kernel
theorem dX3_look_95 : decode cX3_look 95 = .ok (.if_icmp .le 7, 3) := by decide +kernel
theorem dX3_look_98 : decode cX3_look 98 = .ok (.iload_n 1, 1) := by decide +kernel
theorem dX3_look_99 : decode cX3_look 99 = .ok (.goto 9, 3) := by decide +kernel
theorem dX3_look_102 : decode cX3_look 102 = .ok (.aload_n 0, 1) := by decide +kernel
theorem dX3_look_103 : decode cX3_look 103 = .ok (.getfield 31, 3) := by decide +kernel
theorem dX3_look_106 : decode cX3_look 106 = .ok (.iload_n 2, 1) := by decide +kernel
theorem dX3_look_107 : decode cX3_look 107 = .ok (.iaload, 1) := by decide +kernel
theorem dX3_look_108 : decode cX3_look 108 = .ok (.iastore, 1) := by decide +kernel
theorem dX3_look_109 : decode cX3_look 109 = .ok (.iinc 1 1, 3) := by decide +kernel
theorem dX3_look_112 : decode cX3_look 112 = .ok (.goto (-81), 3) := by decide +kernel
theorem dX3_look_115 : decode cX3_look 115 = .ok (.return_, 1) := by decide +kernel
theorem dX3_isPile_0 : decode cX3_isPile 0 = .ok (.iload_n 0, 1) := by decide +kernel
theorem dX3_isPile_1 : decode cX3_isPile 1 = .ok (.iconst 0, 1) := by decide +kernel
theorem dX3_isPile_2 : decode cX3_isPile 2 = .ok (.bipush 21, 2) := by decide +kernel
theorem dX3_isPile_4 : decode cX3_isPile 4 = .ok (.invokestatic 64, 3) := by decide +kernel
theorem dX3_isPile_7 : decode cX3_isPile 7 = .ok (.ireturn, 1) := by decide +kernel
theorem dX3_isHouse_0 : decode cX3_isHouse 0 = .ok (.iload_n 0, 1) := by decide +kernel
theorem dX3_isHouse_1 : decode cX3_isHouse 1 = .ok (.bipush 6, 2) := by decide +kernel
theorem dX3_isHouse_3 : decode cX3_isHouse 3 = .ok (.bipush 13, 2) := by decide +kernel
theorem dX3_isHouse_5 : decode cX3_isHouse 5 = .ok (.invokestatic 64, 3) := by decide +kernel
theorem dX3_isHouse_8 : decode cX3_isHouse 8 = .ok (.ireturn, 1) := by decide +kernel
theorem dX3_isFrozen_0 : decode cX3_isFrozen 0 = .ok (.iload_n 1, 1) := by decide +kernel
theorem dX3_isFrozen_1 : decode cX3_isFrozen 1 = .ok (.invokestatic 68, 3) := by decide +kernel
theorem dX3_isFrozen_4 : decode cX3_isFrozen 4 = .ok (.ifCond .eq 23, 3) := by decide +kernel
theorem dX3_isFrozen_7 : decode cX3_isFrozen 7 = .ok (.aload_n 0, 1) := by decide +kernel
theorem dX3_isFrozen_8 : decode cX3_isFrozen 8 = .ok (.getfield 7, 3) := by decide +kernel
theorem dX3_isFrozen_11 : decode cX3_isFrozen 11 = .ok (.sipush 212, 3) := by decide +kernel
theorem dX3_isFrozen_14 : decode cX3_isFrozen 14 = .ok (.iload_n 1, 1) := by decide +kernel
theorem dX3_isFrozen_15 : decode cX3_isFrozen 15 = .ok (.iadd, 1) := by decide +kernel
theorem dX3_isFrozen_16 : decode cX3_isFrozen 16 = .ok (.bipush 6, 2) := by decide +kernel
theorem dX3_isFrozen_18 : decode cX3_isFrozen 18 = .ok (.isub, 1) := by decide +kernel
theorem dX3_isFrozen_19 : decode cX3_isFrozen 19 = .ok (.iaload, 1) := by decide +kernel
theorem dX3_isFrozen_20 : decode cX3_isFrozen 20 = .ok (.ifCond .le 7, 3) := by decide +kernel
theorem dX3_isFrozen_23 : decode cX3_isFrozen 23 = .ok (.iconst 1, 1) := by decide +kernel
theorem dX3_isFrozen_24 : decode cX3_isFrozen 24 = .ok (.goto 4, 3) := by decide +kernel
theorem dX3_isFrozen_27 : decode cX3_isFrozen 27 = .ok (.iconst 0, 1) := by decide +kernel
theorem dX3_isFrozen_28 : decode cX3_isFrozen 28 = .ok (.ireturn, 1) := by decide +kernel
theorem dX3_suitOf_0 : decode cX3_suitOf 0 = .ok (.iload_n 0, 1) := by decide +kernel
theorem dX3_suitOf_1 : decode cX3_suitOf 1 = .ok (.bipush 52, 2) := by decide +kernel
theorem dX3_suitOf_3 : decode cX3_suitOf 3 = .ok (.irem, 1) := by decide +kernel
theorem dX3_suitOf_4 : decode cX3_suitOf 4 = .ok (.bipush 13, 2) := by decide +kernel
theorem dX3_suitOf_6 : decode cX3_suitOf 6 = .ok (.idiv, 1) := by decide +kernel
theorem dX3_suitOf_7 : decode cX3_suitOf 7 = .ok (.ireturn, 1) := by decide +kernel
theorem dX3_rankOf_0 : decode cX3_rankOf 0 = .ok (.iload_n 0, 1) := by decide +kernel
theorem dX3_rankOf_1 : decode cX3_rankOf 1 = .ok (.bipush 13, 2) := by decide +kernel
theorem dX3_rankOf_3 : decode cX3_rankOf 3 = .ok (.irem, 1) := by decide +kernel
theorem dX3_rankOf_4 : decode cX3_rankOf 4 = .ok (.ireturn, 1) := by decide +kernel
theorem dX3_isRed_0 : decode cX3_isRed 0 = .ok (.iload_n 0, 1) := by decide +kernel
theorem dX3_isRed_1 : decode cX3_isRed 1 = .ok (.invokestatic 72, 3) := by decide +kernel
theorem dX3_isRed_4 : decode cX3_isRed 4 = .ok (.iconst 1, 1) := by decide +kernel
theorem dX3_isRed_5 : decode cX3_isRed 5 = .ok (.if_icmp .le 7, 3) := by decide +kernel
theorem dX3_isRed_8 : decode cX3_isRed 8 = .ok (.iconst 1, 1) := by decide +kernel
theorem dX3_isRed_9 : decode cX3_isRed 9 = .ok (.goto 4, 3) := by decide +kernel
theorem dX3_isRed_12 : decode cX3_isRed 12 = .ok (.iconst 0, 1) := by decide +kernel
theorem dX3_isRed_13 : decode cX3_isRed 13 = .ok (.ireturn, 1) := by decide +kernel
theorem dX3_canLeave_0 : decode cX3_canLeave 0 = .ok (.aload_n 0, 1) := by decide +kernel
theorem dX3_canLeave_1 : decode cX3_canLeave 1 = .ok (.getfield 7, 3) := by decide +kernel
theorem dX3_canLeave_4 : decode cX3_canLeave 4 = .ok (.sipush 220, 3) := by decide +kernel
theorem dX3_canLeave_7 : decode cX3_canLeave 7 = .ok (.iaload, 1) := by decide +kernel
theorem dX3_canLeave_8 : decode cX3_canLeave 8 = .ok (.istore_n 2, 1) := by decide +kernel
theorem dX3_canLeave_9 : decode cX3_canLeave 9 = .ok (.iload_n 1, 1) := by decide +kernel
theorem dX3_canLeave_10 : decode cX3_canLeave 10 = .ok (.iconst 0, 1) := by decide +kernel
theorem dX3_canLeave_11 : decode cX3_canLeave 11 = .ok (.iload_n 2, 1) := by decide +kernel
theorem dX3_canLeave_12 : decode cX3_canLeave 12 = .ok (.iadd, 1) := by decide +kernel
theorem dX3_canLeave_13 : decode cX3_canLeave 13 = .ok (.if_icmp .eq 25, 3) := by decide +kernel
theorem dX3_canLeave_16 : decode cX3_canLeave 16 = .ok (.iload_n 1, 1) := by decide +kernel
theorem dX3_canLeave_17 : decode cX3_canLeave 17 = .ok (.iconst 2, 1) := by decide +kernel
theorem dX3_canLeave_18 : decode cX3_canLeave 18 = .ok (.iload_n 2, 1) := by decide +kernel
theorem dX3_canLeave_19 : decode cX3_canLeave 19 = .ok (.iadd, 1) := by decide +kernel
theorem dX3_canLeave_20 : decode cX3_canLeave 20 = .ok (.if_icmp .eq 18, 3) := by decide +kernel
theorem dX3_canLeave_23 : decode cX3_canLeave 23 = .ok (.iload_n 1, 1) := by decide +kernel
theorem dX3_canLeave_24 : decode cX3_canLeave 24 = .ok (.invokestatic 68, 3) := by decide +kernel
theorem dX3_canLeave_27 : decode cX3_canLeave 27 = .ok (.ifCond .eq 15, 3) := by decide +kernel
theorem dX3_canLeave_30 : decode cX3_canLeave 30 = .ok (.aload_n 0, 1) := by decide +kernel
theorem dX3_canLeave_31 : decode cX3_canLeave 31 = .ok (.iload_n 1, 1) := by decide +kernel
theorem dX3_canLeave_32 : decode cX3_canLeave 32 = .ok (.invokevirtual 76, 3) := by decide +kernel
theorem dX3_canLeave_35 : decode cX3_canLeave 35 = .ok (.ifCond .ne 7, 3) := by decide +kernel
theorem dX3_canLeave_38 : decode cX3_canLeave 38 = .ok (.iconst 1, 1) := by decide +kernel
theorem dX3_canLeave_39 : decode cX3_canLeave 39 = .ok (.goto 4, 3) := by decide +kernel
theorem dX3_canLeave_42 : decode cX3_canLeave 42 = .ok (.iconst 0, 1) := by decide +kernel
theorem dX3_canLeave_43 : decode cX3_canLeave 43 = .ok (.ireturn, 1) := by decide +kernel
theorem dX3_fitsAces_0 : decode cX3_fitsAces 0 = .ok (.aload_n 0, 1) := by decide +kernel
theorem dX3_fitsAces_1 : decode cX3_fitsAces 1 = .ok (.getfield 31, 3) := by decide +kernel
theorem dX3_fitsAces_4 : decode cX3_fitsAces 4 = .ok (.iload_n 2, 1) := by decide +kernel
theorem dX3_fitsAces_5 : decode cX3_fitsAces 5 = .ok (.iaload, 1) := by decide +kernel
theorem dX3_fitsAces_6 : decode cX3_fitsAces 6 = .ok (.istore_n 3, 1) := by decide +kernel
theorem dX3_fitsAces_7 : decode cX3_fitsAces 7 = .ok (.iload_n 3, 1) := by decide +kernel
theorem dX3_fitsAces_8 : decode cX3_fitsAces 8 = .ok (.bipush (-6), 2) := by decide +kernel
theorem dX3_fitsAces_10 : decode cX3_fitsAces 10 = .ok (.if_icmp .ne 18, 3) := by decide +kernel
theorem dX3_fitsAces_13 : decode cX3_fitsAces 13 = .ok (.iload_n 1, 1) := by decide +kernel
theorem dX3_fitsAces_14 : decode cX3_fitsAces 14 = .ok (.invokestatic 79, 3) := by decide +kernel
theorem dX3_fitsAces_17 : decode cX3_fitsAces 17 = .ok (.ifCond .ne 7, 3) := by decide +kernel
theorem dX3_fitsAces_20 : decode cX3_fitsAces 20 = .ok (.iconst 1, 1) := by decide +kernel
theorem dX3_fitsAces_21 : decode cX3_fitsAces 21 = .ok (.goto 36, 3) := by decide +kernel
theorem dX3_fitsAces_24 : decode cX3_fitsAces 24 = .ok (.iconst 0, 1) := by decide +kernel
theorem dX3_fitsAces_25 : decode cX3_fitsAces 25 = .ok (.goto 32, 3) := by decide +kernel
theorem dX3_fitsAces_28 : decode cX3_fitsAces 28 = .ok (.iload_n 1, 1) := by decide +kernel
theorem dX3_fitsAces_29 : decode cX3_fitsAces 29 = .ok (.invokestatic 72, 3) := by decide +kernel
theorem dX3_fitsAces_32 : decode cX3_fitsAces 32 = .ok (.iload_n 3, 1) := by decide +kernel
theorem dX3_fitsAces_33 : decode cX3_fitsAces 33 = .ok (.invokestatic 72, 3) := by decide +kernel
theorem dX3_fitsAces_36 : decode cX3_fitsAces 36 = .ok (.if_icmp .ne 20, 3) := by decide +kernel
theorem dX3_fitsAces_39 : decode cX3_fitsAces 39 = .ok (.iload_n 1, 1) := by decide +kernel
theorem dX3_fitsAces_40 : decode cX3_fitsAces 40 = .ok (.invokestatic 79, 3) := by decide +kernel
theorem dX3_fitsAces_43 : decode cX3_fitsAces 43 = .ok (.iload_n 3, 1) := by decide +kernel
theorem dX3_fitsAces_44 : decode cX3_fitsAces 44 = .ok (.invokestatic 79, 3) := by decide +kernel
theorem dX3_fitsAces_47 : decode cX3_fitsAces 47 = .ok (.iconst 1, 1) := by decide +kernel
theorem dX3_fitsAces_48 : decode cX3_fitsAces 48 = .ok (.iadd, 1) := by decide +kernel
theorem dX3_fitsAces_49 : decode cX3_fitsAces 49 = .ok (.if_icmp .ne 7, 3) := by decide +kernel
theorem dX3_fitsAces_52 : decode cX3_fitsAces 52 = .ok (.iconst 1, 1) := by decide +kernel
theorem dX3_fitsAces_53 : decode cX3_fitsAces 53 = .ok (.goto 4, 3) := by decide +kernel
theorem dX3_fitsAces_56 : decode cX3_fitsAces 56 = .ok (.iconst 0, 1) := by decide +kernel
theorem dX3_fitsAces_57 : decode cX3_fitsAces 57 = .ok (.ireturn, 1) := by decide +kernel
theorem dX3_fitsHouse_0 : decode cX3_fitsHouse 0 = .ok (.aload_n 0, 1) := by decide +kernel
theorem dX3_fitsHouse_1 : decode cX3_fitsHouse 1 = .ok (.getfield 31, 3) := by decide +kernel
theorem dX3_fitsHouse_4 : decode cX3_fitsHouse 4 = .ok (.iload_n 2, 1) := by decide +kernel
theorem dX3_fitsHouse_5 : decode cX3_fitsHouse 5 = .ok (.iaload, 1) := by decide +kernel
theorem dX3_fitsHouse_6 : decode cX3_fitsHouse 6 = .ok (.istore_n 3, 1) := by decide +kernel
theorem dX3_fitsHouse_7 : decode cX3_fitsHouse 7 = .ok (.aload_n 0, 1) := by decide +kernel
theorem dX3_fitsHouse_8 : decode cX3_fitsHouse 8 = .ok (.iload_n 2, 1) := by decide +kernel
theorem dX3_fitsHouse_9 : decode cX3_fitsHouse 9 = .ok (.invokevirtual 76, 3) := by decide +kernel
theorem dX3_fitsHouse_12 : decode cX3_fitsHouse 12 = .ok (.ifCond .ne 37, 3) := by decide +kernel
theorem dX3_fitsHouse_15 : decode cX3_fitsHouse 15 = .ok (.iload_n 3, 1) := by decide +kernel
theorem dX3_fitsHouse_16 : decode cX3_fitsHouse 16 = .ok (.bipush (-6), 2) := by decide +kernel
theorem dX3_fitsHouse_18 : decode cX3_fitsHouse 18 = .ok (.if_icmp .eq 27, 3) := by decide +kernel
theorem dX3_fitsHouse_21 : decode cX3_fitsHouse 21 = .ok (.iload_n 1, 1) := by decide +kernel
theorem dX3_fitsHouse_22 : decode cX3_fitsHouse 22 = .ok (.invokestatic 79, 3) := by decide +kernel
theorem dX3_fitsHouse_25 : decode cX3_fitsHouse 25 = .ok (.iload_n 3, 1) := by decide +kernel
theorem dX3_fitsHouse_26 : decode cX3_fitsHouse 26 = .ok (.invokestatic 79, 3) := by decide +kernel
theorem dX3_fitsHouse_29 : decode cX3_fitsHouse 29 = .ok (.iconst 1, 1) := by decide +kernel
theorem dX3_fitsHouse_30 : decode cX3_fitsHouse 30 = .ok (.isub, 1) := by decide +kernel
theorem dX3_fitsHouse_31 : decode cX3_fitsHouse 31 = .ok (.if_icmp .ne 18, 3) := by decide +kernel
theorem dX3_fitsHouse_34 : decode cX3_fitsHouse 34 = .ok (.iload_n 1, 1) := by decide +kernel
theorem dX3_fitsHouse_35 : decode cX3_fitsHouse 35 = .ok (.invokestatic 82, 3) := by decide +kernel
theorem dX3_fitsHouse_38 : decode cX3_fitsHouse 38 = .ok (.iload_n 3, 1) := by decide +kernel
theorem dX3_fitsHouse_39 : decode cX3_fitsHouse 39 = .ok (.invokestatic 82, 3) := by decide +kernel
theorem dX3_fitsHouse_42 : decode cX3_fitsHouse 42 = .ok (.if_icmp .eq 7, 3) := by decide +kernel
theorem dX3_fitsHouse_45 : decode cX3_fitsHouse 45 = .ok (.iconst 1, 1) := by decide +kernel
theorem dX3_fitsHouse_46 : decode cX3_fitsHouse 46 = .ok (.goto 4, 3) := by decide +kernel
theorem dX3_fitsHouse_49 : decode cX3_fitsHouse 49 = .ok (.iconst 0, 1) := by decide +kernel
theorem dX3_fitsHouse_50 : decode cX3_fitsHouse 50 = .ok (.ireturn, 1) := by decide +kernel
theorem dX3_fitsWaste_0 : decode cX3_fitsWaste 0 = .ok (.aload_n 0, 1) := by decide +kernel
theorem dX3_fitsWaste_1 : decode cX3_fitsWaste 1 = .ok (.getfield 31, 3) := by decide +kernel
theorem dX3_fitsWaste_4 : decode cX3_fitsWaste 4 = .ok (.iload_n 2, 1) := by decide +kernel
theorem dX3_fitsWaste_5 : decode cX3_fitsWaste 5 = .ok (.iaload, 1) := by decide +kernel
theorem dX3_fitsWaste_6 : decode cX3_fitsWaste 6 = .ok (.istore_n 3, 1) := by decide +kernel
theorem dX3_fitsWaste_7 : decode cX3_fitsWaste 7 = .ok (.iload_n 3, 1) := by decide +kernel
theorem dX3_fitsWaste_8 : decode cX3_fitsWaste 8 = .ok (.bipush (-6), 2) := by decide +kernel
theorem dX3_fitsWaste_10 : decode cX3_fitsWaste 10 = .ok (.if_icmp .ne 7, 3) := by decide +kernel
theorem dX3_fitsWaste_13 : decode cX3_fitsWaste 13 = .ok (.iconst 0, 1) := by decide +kernel
theorem dX3_fitsWaste_14 : decode cX3_fitsWaste 14 = .ok (.goto 12, 3) := by decide +kernel
theorem dX3_fitsWaste_17 : decode cX3_fitsWaste 17 = .ok (.iload_n 1, 1) := by decide +kernel
theorem dX3_fitsWaste_18 : decode cX3_fitsWaste 18 = .ok (.invokestatic 79, 3) := by decide +kernel
theorem dX3_fitsWaste_21 : decode cX3_fitsWaste 21 = .ok (.iload_n 3, 1) := by decide +kernel
theorem dX3_fitsWaste_22 : decode cX3_fitsWaste 22 = .ok (.invokestatic 79, 3) := by decide +kernel
theorem dX3_fitsWaste_25 : decode cX3_fitsWaste 25 = .ok (.isub, 1) := by decide +kernel
theorem dX3_fitsWaste_26 : decode cX3_fitsWaste 26 = .ok (.istore 4, 2) := by decide +kernel
theorem dX3_fitsWaste_28 : decode cX3_fitsWaste 28 = .ok (.iload_n 3, 1) := by decide +kernel
theorem dX3_fitsWaste_29 : decode cX3_fitsWaste 29 = .ok (.bipush (-6), 2) := by decide +kernel
theorem dX3_fitsWaste_31 : decode cX3_fitsWaste 31 = .ok (.if_icmp .eq 30, 3) := by decide +kernel
theorem dX3_fitsWaste_34 : decode cX3_fitsWaste 34 = .ok (.iload_n 1, 1) := by decide +kernel
theorem dX3_fitsWaste_35 : decode cX3_fitsWaste 35 = .ok (.invokestatic 72, 3) := by decide +kernel
theorem dX3_fitsWaste_38 : decode cX3_fitsWaste 38 = .ok (.iload_n 3, 1) := by decide +kernel
theorem dX3_fitsWaste_39 : decode cX3_fitsWaste 39 = .ok (.invokestatic 72, 3) := by decide +kernel
theorem dX3_fitsWaste_42 : decode cX3_fitsWaste 42 = .ok (.if_icmp .ne 19, 3) := by decide +kernel
theorem dX3_fitsWaste_45 : decode cX3_fitsWaste 45 = .ok (.iload 4, 2) := by decide +kernel
theorem dX3_fitsWaste_47 : decode cX3_fitsWaste 47 = .ok (.iconst 1, 1) := by decide +kernel
theorem dX3_fitsWaste_48 : decode cX3_fitsWaste 48 = .ok (.if_icmp .eq 9, 3) := by decide +kernel
theorem dX3_fitsWaste_51 : decode cX3_fitsWaste 51 = .ok (.iload 4, 2) := by decide +kernel
theorem dX3_fitsWaste_53 : decode cX3_fitsWaste 53 = .ok (.iconst (-1), 1) := by decide +kernel
theorem dX3_fitsWaste_54 : decode cX3_fitsWaste 54 = .ok (.if_icmp .ne 7, 3) := by decide +kernel
theorem dX3_fitsWaste_57 : decode cX3_fitsWaste 57 = .ok (.iconst 1, 1) := by decide +kernel
theorem dX3_fitsWaste_58 : decode cX3_fitsWaste 58 = .ok (.goto 4, 3) := by decide +kernel
theorem dX3_fitsWaste_61 : decode cX3_fitsWaste 61 = .ok (.iconst 0, 1) := by decide +kernel
theorem dX3_fitsWaste_62 : decode cX3_fitsWaste 62 = .ok (.ireturn, 1) := by decide +kernel
theorem dX3_isMove_0 : decode cX3_isMove 0 = .ok (.aload_n 0, 1) := by decide +kernel
theorem dX3_isMove_1 : decode cX3_isMove 1 = .ok (.getfield 7, 3) := by decide +kernel
theorem dX3_isMove_4 : decode cX3_isMove 4 = .ok (.sipush 221, 3) := by decide +kernel
theorem dX3_isMove_7 : decode cX3_isMove 7 = .ok (.iaload, 1) := by decide +kernel
theorem dX3_isMove_8 : decode cX3_isMove 8 = .ok (.iconst 1, 1) := by decide +kernel
theorem dX3_isMove_9 : decode cX3_isMove 9 = .ok (.if_icmp .eq 22, 3) := by decide +kernel
theorem dX3_isMove_12 : decode cX3_isMove 12 = .ok (.aload_n 0, 1) := by decide +kernel
theorem dX3_isMove_13 : decode cX3_isMove 13 = .ok (.iload_n 1, 1) := by decide +kernel
theorem dX3_isMove_14 : decode cX3_isMove 14 = .ok (.invokevirtual 85, 3) := by decide +kernel
theorem dX3_isMove_17 : decode cX3_isMove 17 = .ok (.ifCond .eq 14, 3) := by decide +kernel
theorem dX3_isMove_20 : decode cX3_isMove 20 = .ok (.aload_n 0, 1) := by decide +kernel
theorem dX3_isMove_21 : decode cX3_isMove 21 = .ok (.getfield 31, 3) := by decide +kernel
theorem dX3_isMove_24 : decode cX3_isMove 24 = .ok (.iload_n 1, 1) := by decide +kernel
theorem dX3_isMove_25 : decode cX3_isMove 25 = .ok (.iaload, 1) := by decide +kernel
theorem dX3_isMove_26 : decode cX3_isMove 26 = .ok (.bipush (-6), 2) := by decide +kernel
theorem dX3_isMove_28 : decode cX3_isMove 28 = .ok (.if_icmp .ne 5, 3) := by decide +kernel
theorem dX3_isMove_31 : decode cX3_isMove 31 = .ok (.iconst 0, 1) := by decide +kernel
theorem dX3_isMove_32 : decode cX3_isMove 32 = .ok (.ireturn, 1) := by decide +kernel
theorem dX3_isMove_33 : decode cX3_isMove 33 = .ok (.aload_n 0, 1) := by decide +kernel
theorem dX3_isMove_34 : decode cX3_isMove 34 = .ok (.getfield 31, 3) := by decide +kernel
theorem dX3_isMove_37 : decode cX3_isMove 37 = .ok (.iload_n 1, 1) := by decide +kernel
theorem dX3_isMove_38 : decode cX3_isMove 38 = .ok (.iaload, 1) := by decide +kernel
theorem dX3_isMove_39 : decode cX3_isMove 39 = .ok (.istore_n 3, 1) := by decide +kernel
theorem dX3_isMove_40 : decode cX3_isMove 40 = .ok (.iload_n 2, 1) := by decide +kernel
theorem dX3_isMove_41 : decode cX3_isMove 41 = .ok (.bipush 14, 2) := by decide +kernel
theorem dX3_isMove_43 : decode cX3_isMove 43 = .ok (.if_icmp .lt 12, 3) := by decide +kernel
theorem dX3_isMove_46 : decode cX3_isMove 46 = .ok (.aload_n 0, 1) := by decide +kernel
theorem dX3_isMove_47 : decode cX3_isMove 47 = .ok (.iload_n 3, 1) := by decide +kernel
theorem dX3_isMove_48 : decode cX3_isMove 48 = .ok (.iload_n 2, 1) := by decide +kernel
theorem dX3_isMove_49 : decode cX3_isMove 49 = .ok (.invokevirtual 88, 3) := by decide +kernel
theorem dX3_isMove_52 : decode cX3_isMove 52 = .ok (.goto 47, 3) := by decide +kernel
theorem dX3_isMove_55 : decode cX3_isMove 55 = .ok (.iload_n 2, 1) := by decide +kernel
theorem dX3_isMove_56 : decode cX3_isMove 56 = .ok (.invokestatic 68, 3) := by decide +kernel
theorem dX3_isMove_59 : decode cX3_isMove 59 = .ok (.ifCond .eq 12, 3) := by decide +kernel
theorem dX3_isMove_62 : decode cX3_isMove 62 = .ok (.aload_n 0, 1) := by decide +kernel
theorem dX3_isMove_63 : decode cX3_isMove 63 = .ok (.iload_n 3, 1) := by decide +kernel
theorem dX3_isMove_64 : decode cX3_isMove 64 = .ok (.iload_n 2, 1) := by decide +kernel
theorem dX3_isMove_65 : decode cX3_isMove 65 = .ok (.invokevirtual 92, 3) := by decide +kernel
theorem dX3_isMove_68 : decode cX3_isMove 68 = .ok (.goto 31, 3) := by decide +kernel
theorem dX3_isMove_71 : decode cX3_isMove 71 = .ok (.iload_n 2, 1) := by decide +kernel
theorem dX3_isMove_72 : decode cX3_isMove 72 = .ok (.iconst 3, 1) := by decide +kernel
theorem dX3_isMove_73 : decode cX3_isMove 73 = .ok (.aload_n 0, 1) := by decide +kernel
theorem dX3_isMove_74 : decode cX3_isMove 74 = .ok (.getfield 7, 3) := by decide +kernel
theorem dX3_isMove_77 : decode cX3_isMove 77 = .ok (.sipush 220, 3) := by decide +kernel
theorem dX3_isMove_80 : decode cX3_isMove 80 = .ok (.iaload, 1) := by decide +kernel
theorem dX3_isMove_81 : decode cX3_isMove 81 = .ok (.isub, 1) := by decide +kernel
theorem dX3_isMove_82 : decode cX3_isMove 82 = .ok (.if_icmp .ne 16, 3) := by decide +kernel
theorem dX3_isMove_85 : decode cX3_isMove 85 = .ok (.aload_n 0, 1) := by decide +kernel
theorem dX3_isMove_86 : decode cX3_isMove 86 = .ok (.iload_n 3, 1) := by decide +kernel
theorem dX3_isMove_87 : decode cX3_isMove 87 = .ok (.iload_n 2, 1) := by decide +kernel
theorem dX3_isMove_88 : decode cX3_isMove 88 = .ok (.invokevirtual 95, 3) := by decide +kernel
theorem dX3_isMove_91 : decode cX3_isMove 91 = .ok (.ifCond .eq 7, 3) := by decide +kernel
theorem dX3_isMove_94 : decode cX3_isMove 94 = .ok (.iconst 1, 1) := by decide +kernel
theorem dX3_isMove_95 : decode cX3_isMove 95 = .ok (.goto 4, 3) := by decide +kernel
theorem dX3_isMove_98 : decode cX3_isMove 98 = .ok (.iconst 0, 1) := by decide +kernel
theorem dX3_isMove_99 : decode cX3_isMove 99 = .ok (.ireturn, 1) := by decide +kernel
theorem dX3_pointsFor_0 : decode cX3_pointsFor 0 = .ok (.iload_n 1, 1) := by decide +kernel
theorem dX3_pointsFor_1 : decode cX3_pointsFor 1 = .ok (.iconst 2, 1) := by decide +kernel
theorem dX3_pointsFor_2 : decode cX3_pointsFor 2 = .ok (.if_icmp .ge 7, 3) := by decide +kernel
theorem dX3_pointsFor_5 : decode cX3_pointsFor 5 = .ok (.iconst 1, 1) := by decide +kernel
theorem dX3_pointsFor_6 : decode cX3_pointsFor 6 = .ok (.goto 4, 3) := by decide +kernel
theorem dX3_pointsFor_9 : decode cX3_pointsFor 9 = .ok (.iconst 0, 1) := by decide +kernel
theorem dX3_pointsFor_10 : decode cX3_pointsFor 10 = .ok (.istore_n 3, 1) := by decide +kernel
theorem dX3_pointsFor_11 : decode cX3_pointsFor 11 = .ok (.iload_n 2, 1) := by decide +kernel
theorem dX3_pointsFor_12 : decode cX3_pointsFor 12 = .ok (.bipush 14, 2) := by decide +kernel
theorem dX3_pointsFor_14 : decode cX3_pointsFor 14 = .ok (.if_icmp .lt 53, 3) := by decide +kernel
theorem dX3_pointsFor_17 : decode cX3_pointsFor 17 = .ok (.iload_n 1, 1) := by decide +kernel
theorem dX3_pointsFor_18 : decode cX3_pointsFor 18 = .ok (.invokestatic 68, 3) := by decide +kernel
theorem dX3_pointsFor_21 : decode cX3_pointsFor 21 = .ok (.ifCond .eq 24, 3) := by decide +kernel
theorem dX3_pointsFor_24 : decode cX3_pointsFor 24 = .ok (.iload_n 1, 1) := by decide +kernel
theorem dX3_pointsFor_25 : decode cX3_pointsFor 25 = .ok (.bipush 6, 2) := by decide +kernel
theorem dX3_pointsFor_27 : decode cX3_pointsFor 27 = .ok (.isub, 1) := by decide +kernel
theorem dX3_pointsFor_28 : decode cX3_pointsFor 28 = .ok (.iconst 4, 1) := by decide +kernel
theorem dX3_pointsFor_29 : decode cX3_pointsFor 29 = .ok (.idiv, 1) := by decide +kernel
theorem dX3_pointsFor_30 : decode cX3_pointsFor 30 = .ok (.aload_n 0, 1) := by decide +kernel
theorem dX3_pointsFor_31 : decode cX3_pointsFor 31 = .ok (.getfield 7, 3) := by decide +kernel
theorem dX3_pointsFor_34 : decode cX3_pointsFor 34 = .ok (.sipush 220, 3) := by decide +kernel
theorem dX3_pointsFor_37 : decode cX3_pointsFor 37 = .ok (.iaload, 1) := by decide +kernel
theorem dX3_pointsFor_38 : decode cX3_pointsFor 38 = .ok (.if_icmp .eq 7, 3) := by decide +kernel
theorem dX3_pointsFor_41 : decode cX3_pointsFor 41 = .ok (.iconst 1, 1) := by decide +kernel
theorem dX3_pointsFor_42 : decode cX3_pointsFor 42 = .ok (.goto 4, 3) := by decide +kernel
theorem dX3_pointsFor_45 : decode cX3_pointsFor 45 = .ok (.iconst 0, 1) := by decide +kernel
theorem dX3_pointsFor_46 : decode cX3_pointsFor 46 = .ok (.istore 4, 2) := by decide +kernel
theorem dX3_pointsFor_48 : decode cX3_pointsFor 48 = .ok (.iload_n 3, 1) := by decide +kernel
theorem dX3_pointsFor_49 : decode cX3_pointsFor 49 = .ok (.ifCond .eq 7, 3) := by decide +kernel
theorem dX3_pointsFor_52 : decode cX3_pointsFor 52 = .ok (.iconst 3, 1) := by decide +kernel
theorem dX3_pointsFor_53 : decode cX3_pointsFor 53 = .ok (.goto 13, 3) := by decide +kernel
theorem dX3_pointsFor_56 : decode cX3_pointsFor 56 = .ok (.iload 4, 2) := by decide +kernel
theorem dX3_pointsFor_58 : decode cX3_pointsFor 58 = .ok (.ifCond .eq 7, 3) := by decide +kernel
theorem dX3_pointsFor_61 : decode cX3_pointsFor 61 = .ok (.iconst 2, 1) := by decide +kernel
theorem dX3_pointsFor_62 : decode cX3_pointsFor 62 = .ok (.goto 4, 3) := by decide +kernel
theorem dX3_pointsFor_65 : decode cX3_pointsFor 65 = .ok (.iconst 1, 1) := by decide +kernel
theorem dX3_pointsFor_66 : decode cX3_pointsFor 66 = .ok (.ireturn, 1) := by decide +kernel
theorem dX3_pointsFor_67 : decode cX3_pointsFor 67 = .ok (.iload_n 3, 1) := by decide +kernel
theorem dX3_pointsFor_68 : decode cX3_pointsFor 68 = .ok (.ifCond .eq 7, 3) := by decide +kernel
theorem dX3_pointsFor_71 : decode cX3_pointsFor 71 = .ok (.iconst 2, 1) := by decide +kernel
theorem dX3_pointsFor_72 : decode cX3_pointsFor 72 = .ok (.goto 15, 3) := by decide +kernel
theorem dX3_pointsFor_75 : decode cX3_pointsFor 75 = .ok (.iload_n 2, 1) := by decide +kernel
theorem dX3_pointsFor_76 : decode cX3_pointsFor 76 = .ok (.invokestatic 68, 3) := by decide +kernel
theorem dX3_pointsFor_79 : decode cX3_pointsFor 79 = .ok (.ifCond .eq 7, 3) := by decide +kernel
theorem dX3_pointsFor_82 : decode cX3_pointsFor 82 = .ok (.iconst 0, 1) := by decide +kernel
theorem dX3_pointsFor_83 : decode cX3_pointsFor 83 = .ok (.goto 4, 3) := by decide +kernel
theorem dX3_pointsFor_86 : decode cX3_pointsFor 86 = .ok (.iconst 1, 1) := by decide +kernel
theorem dX3_pointsFor_87 : decode cX3_pointsFor 87 = .ok (.ireturn, 1) := by decide +kernel
theorem dX3_ownCards_0 : decode cX3_ownCards 0 = .ok (.aload_n 0, 1) := by decide +kernel
theorem dX3_ownCards_1 : decode cX3_ownCards 1 = .ok (.getfield 28, 3) := by decide +kernel
theorem dX3_ownCards_4 : decode cX3_ownCards 4 = .ok (.iconst 0, 1) := by decide +kernel
theorem dX3_ownCards_5 : decode cX3_ownCards 5 = .ok (.iload_n 1, 1) := by decide +kernel
theorem dX3_ownCards_6 : decode cX3_ownCards 6 = .ok (.iadd, 1) := by decide +kernel
theorem dX3_ownCards_7 : decode cX3_ownCards 7 = .ok (.iaload, 1) := by decide +kernel
theorem dX3_ownCards_8 : decode cX3_ownCards 8 = .ok (.aload_n 0, 1) := by decide +kernel
theorem dX3_ownCards_9 : decode cX3_ownCards 9 = .ok (.getfield 28, 3) := by decide +kernel
theorem dX3_ownCards_12 : decode cX3_ownCards 12 = .ok (.iconst 2, 1) := by decide +kernel
theorem dX3_ownCards_13 : decode cX3_ownCards 13 = .ok (.iload_n 1, 1) := by decide +kernel
theorem dX3_ownCards_14 : decode cX3_ownCards 14 = .ok (.iadd, 1) := by decide +kernel
theorem dX3_ownCards_15 : decode cX3_ownCards 15 = .ok (.iaload, 1) := by decide +kernel
theorem dX3_ownCards_16 : decode cX3_ownCards 16 = .ok (.iadd, 1) := by decide +kernel
theorem dX3_ownCards_17 : decode cX3_ownCards 17 = .ok (.aload_n 0, 1) := by decide +kernel
theorem dX3_ownCards_18 : decode cX3_ownCards 18 = .ok (.getfield 28, 3) := by decide +kernel
theorem dX3_ownCards_21 : decode cX3_ownCards 21 = .ok (.iconst 4, 1) := by decide +kernel
theorem dX3_ownCards_22 : decode cX3_ownCards 22 = .ok (.iload_n 1, 1) := by decide +kernel
theorem dX3_ownCards_23 : decode cX3_ownCards 23 = .ok (.iadd, 1) := by decide +kernel
theorem dX3_ownCards_24 : decode cX3_ownCards 24 = .ok (.iaload, 1) := by decide +kernel
theorem dX3_ownCards_25 : decode cX3_ownCards 25 = .ok (.iadd, 1) := by decide +kernel
theorem dX3_ownCards_26 : decode cX3_ownCards 26 = .ok (.ireturn, 1) := by decide +kernel
theorem dX3_doesMove_0 : decode cX3_doesMove 0 = .ok (.aload_n 0, 1) := by decide +kernel
theorem dX3_doesMove_1 : decode cX3_doesMove 1 = .ok (.getfield 7, 3) := by decide +kernel
theorem dX3_doesMove_4 : decode cX3_doesMove 4 = .ok (.sipush 220, 3) := by decide +kernel
theorem dX3_doesMove_7 : decode cX3_doesMove 7 = .ok (.iaload, 1) := by decide +kernel
theorem dX3_doesMove_8 : decode cX3_doesMove 8 = .ok (.istore_n 3, 1) := by decide +kernel
theorem dX3_doesMove_9 : decode cX3_doesMove 9 = .ok (.aload_n 0, 1) := by decide +kernel
theorem dX3_doesMove_10 : decode cX3_doesMove 10 = .ok (.iload_n 1, 1) := by decide +kernel
theorem dX3_doesMove_11 : decode cX3_doesMove 11 = .ok (.iload_n 2, 1) := by decide +kernel
theorem dX3_doesMove_12 : decode cX3_doesMove 12 = .ok (.invokevirtual 98, 3) := by decide +kernel
theorem dX3_doesMove_15 : decode cX3_doesMove 15 = .ok (.istore 4, 2) := by decide +kernel
theorem dX3_doesMove_17 : decode cX3_doesMove 17 = .ok (.aload_n 0, 1) := by decide +kernel
theorem dX3_doesMove_18 : decode cX3_doesMove 18 = .ok (.aload_n 0, 1) := by decide +kernel
theorem dX3_doesMove_19 : decode cX3_doesMove 19 = .ok (.getfield 31, 3) := by decide +kernel
theorem dX3_doesMove_22 : decode cX3_doesMove 22 = .ok (.iload_n 1, 1) := by decide +kernel
theorem dX3_doesMove_23 : decode cX3_doesMove 23 = .ok (.iaload, 1) := by decide +kernel
theorem dX3_doesMove_24 : decode cX3_doesMove 24 = .ok (.iload_n 2, 1) := by decide +kernel
theorem dX3_doesMove_25 : decode cX3_doesMove 25 = .ok (.aload_n 0, 1) := by decide +kernel
theorem dX3_doesMove_26 : decode cX3_doesMove 26 = .ok (.getfield 28, 3) := by decide +kernel
theorem dX3_doesMove_29 : decode cX3_doesMove 29 = .ok (.iload_n 2, 1) := by decide +kernel
theorem dX3_doesMove_30 : decode cX3_doesMove 30 = .ok (.iaload, 1) := by decide +kernel
theorem dX3_doesMove_31 : decode cX3_doesMove 31 = .ok (.invokevirtual 49, 3) := by decide +kernel
theorem dX3_doesMove_34 : decode cX3_doesMove 34 = .ok (.aload_n 0, 1) := by decide +kernel
theorem dX3_doesMove_35 : decode cX3_doesMove 35 = .ok (.getfield 7, 3) := by decide +kernel
theorem dX3_doesMove_38 : decode cX3_doesMove 38 = .ok (.sipush 223, 3) := by decide +kernel
theorem dX3_doesMove_41 : decode cX3_doesMove 41 = .ok (.dup2, 1) := by decide +kernel
theorem dX3_doesMove_42 : decode cX3_doesMove 42 = .ok (.iaload, 1) := by decide +kernel
theorem dX3_doesMove_43 : decode cX3_doesMove 43 = .ok (.iconst 1, 1) := by decide +kernel
theorem dX3_doesMove_44 : decode cX3_doesMove 44 = .ok (.iadd, 1) := by decide +kernel
theorem dX3_doesMove_45 : decode cX3_doesMove 45 = .ok (.iastore, 1) := by decide +kernel
theorem dX3_doesMove_46 : decode cX3_doesMove 46 = .ok (.aload_n 0, 1) := by decide +kernel
theorem dX3_doesMove_47 : decode cX3_doesMove 47 = .ok (.invokevirtual 102, 3) := by decide +kernel
theorem dX3_doesMove_50 : decode cX3_doesMove 50 = .ok (.aload_n 0, 1) := by decide +kernel
theorem dX3_doesMove_51 : decode cX3_doesMove 51 = .ok (.iload_n 3, 1) := by decide +kernel
theorem dX3_doesMove_52 : decode cX3_doesMove 52 = .ok (.invokevirtual 105, 3) := by decide +kernel
theorem dX3_doesMove_55 : decode cX3_doesMove 55 = .ok (.ifCond .ne 15, 3) := by decide +kernel
theorem dX3_doesMove_58 : decode cX3_doesMove 58 = .ok (.aload_n 0, 1) := by decide +kernel
theorem dX3_doesMove_59 : decode cX3_doesMove 59 = .ok (.getfield 7, 3) := by decide +kernel
theorem dX3_doesMove_62 : decode cX3_doesMove 62 = .ok (.sipush 221, 3) := by decide +kernel
theorem dX3_doesMove_65 : decode cX3_doesMove 65 = .ok (.iconst 1, 1) := by decide +kernel
theorem dX3_doesMove_66 : decode cX3_doesMove 66 = .ok (.iastore, 1) := by decide +kernel
theorem dX3_doesMove_67 : decode cX3_doesMove 67 = .ok (.iinc 4 10, 3) := by decide +kernel
theorem dX3_doesMove_70 : decode cX3_doesMove 70 = .ok (.aload_n 0, 1) := by decide +kernel
theorem dX3_doesMove_71 : decode cX3_doesMove 71 = .ok (.getfield 7, 3) := by decide +kernel
theorem dX3_doesMove_74 : decode cX3_doesMove 74 = .ok (.sipush 208, 3) := by decide +kernel
theorem dX3_doesMove_77 : decode cX3_doesMove 77 = .ok (.iload_n 3, 1) := by decide +kernel
theorem dX3_doesMove_78 : decode cX3_doesMove 78 = .ok (.iadd, 1) := by decide +kernel
theorem dX3_doesMove_79 : decode cX3_doesMove 79 = .ok (.dup2, 1) := by decide +kernel
theorem dX3_doesMove_80 : decode cX3_doesMove 80 = .ok (.iaload, 1) := by decide +kernel
theorem dX3_doesMove_81 : decode cX3_doesMove 81 = .ok (.iload 4, 2) := by decide +kernel
theorem dX3_doesMove_83 : decode cX3_doesMove 83 = .ok (.iadd, 1) := by decide +kernel
theorem dX3_doesMove_84 : decode cX3_doesMove 84 = .ok (.iastore, 1) := by decide +kernel
theorem dX3_doesMove_85 : decode cX3_doesMove 85 = .ok (.iload 4, 2) := by decide +kernel
theorem dX3_doesMove_87 : decode cX3_doesMove 87 = .ok (.ireturn, 1) := by decide +kernel
theorem dX3_turnOver_0 : decode cX3_turnOver 0 = .ok (.iconst 0, 1) := by decide +kernel
theorem dX3_turnOver_1 : decode cX3_turnOver 1 = .ok (.istore_n 2, 1) := by decide +kernel
theorem dX3_turnOver_2 : decode cX3_turnOver 2 = .ok (.iload_n 2, 1) := by decide +kernel
theorem dX3_turnOver_3 : decode cX3_turnOver 3 = .ok (.bipush 104, 2) := by decide +kernel
theorem dX3_turnOver_5 : decode cX3_turnOver 5 = .ok (.if_icmp .ge 51, 3) := by decide +kernel
theorem dX3_turnOver_8 : decode cX3_turnOver 8 = .ok (.aload_n 0, 1) := by decide +kernel
theorem dX3_turnOver_9 : decode cX3_turnOver 9 = .ok (.getfield 7, 3) := by decide +kernel
theorem dX3_turnOver_12 : decode cX3_turnOver 12 = .ok (.iconst 0, 1) := by decide +kernel
theorem dX3_turnOver_13 : decode cX3_turnOver 13 = .ok (.iload_n 2, 1) := by decide +kernel
theorem dX3_turnOver_14 : decode cX3_turnOver 14 = .ok (.iadd, 1) := by decide +kernel
theorem dX3_turnOver_15 : decode cX3_turnOver 15 = .ok (.iaload, 1) := by decide +kernel
theorem dX3_turnOver_16 : decode cX3_turnOver 16 = .ok (.iconst 2, 1) := by decide +kernel
theorem dX3_turnOver_17 : decode cX3_turnOver 17 = .ok (.iload_n 1, 1) := by decide +kernel
theorem dX3_turnOver_18 : decode cX3_turnOver 18 = .ok (.iadd, 1) := by decide +kernel
theorem dX3_turnOver_19 : decode cX3_turnOver 19 = .ok (.if_icmp .ne 31, 3) := by decide +kernel
theorem dX3_turnOver_22 : decode cX3_turnOver 22 = .ok (.aload_n 0, 1) := by decide +kernel
theorem dX3_turnOver_23 : decode cX3_turnOver 23 = .ok (.iload_n 2, 1) := by decide +kernel
theorem dX3_turnOver_24 : decode cX3_turnOver 24 = .ok (.iconst 4, 1) := by decide +kernel
theorem dX3_turnOver_25 : decode cX3_turnOver 25 = .ok (.iload_n 1, 1) := by decide +kernel
theorem dX3_turnOver_26 : decode cX3_turnOver 26 = .ok (.iadd, 1) := by decide +kernel
theorem dX3_turnOver_27 : decode cX3_turnOver 27 = .ok (.aload_n 0, 1) := by decide +kernel
theorem dX3_turnOver_28 : decode cX3_turnOver 28 = .ok (.getfield 28, 3) := by decide +kernel
theorem dX3_turnOver_31 : decode cX3_turnOver 31 = .ok (.iconst 2, 1) := by decide +kernel
theorem dX3_turnOver_32 : decode cX3_turnOver 32 = .ok (.iload_n 1, 1) := by decide +kernel
theorem dX3_turnOver_33 : decode cX3_turnOver 33 = .ok (.iadd, 1) := by decide +kernel
theorem dX3_turnOver_34 : decode cX3_turnOver 34 = .ok (.iaload, 1) := by decide +kernel
theorem dX3_turnOver_35 : decode cX3_turnOver 35 = .ok (.iconst 1, 1) := by decide +kernel
theorem dX3_turnOver_36 : decode cX3_turnOver 36 = .ok (.isub, 1) := by decide +kernel
theorem dX3_turnOver_37 : decode cX3_turnOver 37 = .ok (.aload_n 0, 1) := by decide +kernel
theorem dX3_turnOver_38 : decode cX3_turnOver 38 = .ok (.getfield 7, 3) := by decide +kernel
theorem dX3_turnOver_41 : decode cX3_turnOver 41 = .ok (.bipush 104, 2) := by decide +kernel
theorem dX3_turnOver_43 : decode cX3_turnOver 43 = .ok (.iload_n 2, 1) := by decide +kernel
theorem dX3_turnOver_44 : decode cX3_turnOver 44 = .ok (.iadd, 1) := by decide +kernel
theorem dX3_turnOver_45 : decode cX3_turnOver 45 = .ok (.iaload, 1) := by decide +kernel
theorem dX3_turnOver_46 : decode cX3_turnOver 46 = .ok (.isub, 1) := by decide +kernel
theorem dX3_turnOver_47 : decode cX3_turnOver 47 = .ok (.invokevirtual 49, 3) := by decide +kernel
theorem dX3_turnOver_50 : decode cX3_turnOver 50 = .ok (.iinc 2 1, 3) := by decide +kernel
theorem dX3_turnOver_53 : decode cX3_turnOver 53 = .ok (.goto (-51), 3) := by decide +kernel
theorem dX3_turnOver_56 : decode cX3_turnOver 56 = .ok (.aload_n 0, 1) := by decide +kernel
theorem dX3_turnOver_57 : decode cX3_turnOver 57 = .ok (.invokevirtual 102, 3) := by decide +kernel
theorem dX3_turnOver_60 : decode cX3_turnOver 60 = .ok (.return_, 1) := by decide +kernel
theorem dX3_draws_0 : decode cX3_draws 0 = .ok (.aload_n 0, 1) := by decide +kernel
theorem dX3_draws_1 : decode cX3_draws 1 = .ok (.getfield 7, 3) := by decide +kernel
theorem dX3_draws_4 : decode cX3_draws 4 = .ok (.sipush 220, 3) := by decide +kernel
theorem dX3_draws_7 : decode cX3_draws 7 = .ok (.iaload, 1) := by decide +kernel
theorem dX3_draws_8 : decode cX3_draws 8 = .ok (.istore_n 1, 1) := by decide +kernel
theorem dX3_draws_9 : decode cX3_draws 9 = .ok (.aload_n 0, 1) := by decide +kernel
theorem dX3_draws_10 : decode cX3_draws 10 = .ok (.invokevirtual 102, 3) := by decide +kernel
theorem dX3_draws_13 : decode cX3_draws 13 = .ok (.aload_n 0, 1) := by decide +kernel
theorem dX3_draws_14 : decode cX3_draws 14 = .ok (.getfield 28, 3) := by decide +kernel
theorem dX3_draws_17 : decode cX3_draws 17 = .ok (.iconst 4, 1) := by decide +kernel
theorem dX3_draws_18 : decode cX3_draws 18 = .ok (.iload_n 1, 1) := by decide +kernel
theorem dX3_draws_19 : decode cX3_draws 19 = .ok (.iadd, 1) := by decide +kernel
theorem dX3_draws_20 : decode cX3_draws 20 = .ok (.iaload, 1) := by decide +kernel
theorem dX3_draws_21 : decode cX3_draws 21 = .ok (.ifCond .ne 8, 3) := by decide +kernel
theorem dX3_draws_24 : decode cX3_draws 24 = .ok (.aload_n 0, 1) := by decide +kernel
theorem dX3_draws_25 : decode cX3_draws 25 = .ok (.iload_n 1, 1) := by decide +kernel
theorem dX3_draws_26 : decode cX3_draws 26 = .ok (.invokevirtual 108, 3) := by decide +kernel
theorem dX3_draws_29 : decode cX3_draws 29 = .ok (.aload_n 0, 1) := by decide +kernel
theorem dX3_draws_30 : decode cX3_draws 30 = .ok (.getfield 31, 3) := by decide +kernel
theorem dX3_draws_33 : decode cX3_draws 33 = .ok (.iconst 4, 1) := by decide +kernel
theorem dX3_draws_34 : decode cX3_draws 34 = .ok (.iload_n 1, 1) := by decide +kernel
theorem dX3_draws_35 : decode cX3_draws 35 = .ok (.iadd, 1) := by decide +kernel
theorem dX3_draws_36 : decode cX3_draws 36 = .ok (.iaload, 1) := by decide +kernel
theorem dX3_draws_37 : decode cX3_draws 37 = .ok (.istore_n 2, 1) := by decide +kernel
theorem dX3_draws_38 : decode cX3_draws 38 = .ok (.iload_n 2, 1) := by decide +kernel
theorem dX3_draws_39 : decode cX3_draws 39 = .ok (.bipush (-6), 2) := by decide +kernel
theorem dX3_draws_41 : decode cX3_draws 41 = .ok (.if_icmp .eq 19, 3) := by decide +kernel
theorem dX3_draws_44 : decode cX3_draws 44 = .ok (.aload_n 0, 1) := by decide +kernel
theorem dX3_draws_45 : decode cX3_draws 45 = .ok (.iload_n 2, 1) := by decide +kernel
theorem dX3_draws_46 : decode cX3_draws 46 = .ok (.iconst 2, 1) := by decide +kernel
theorem dX3_draws_47 : decode cX3_draws 47 = .ok (.iload_n 1, 1) := by decide +kernel
theorem dX3_draws_48 : decode cX3_draws 48 = .ok (.iadd, 1) := by decide +kernel
theorem dX3_draws_49 : decode cX3_draws 49 = .ok (.aload_n 0, 1) := by decide +kernel
theorem dX3_draws_50 : decode cX3_draws 50 = .ok (.getfield 28, 3) := by decide +kernel
theorem dX3_draws_53 : decode cX3_draws 53 = .ok (.iconst 2, 1) := by decide +kernel
theorem dX3_draws_54 : decode cX3_draws 54 = .ok (.iload_n 1, 1) := by decide +kernel
theorem dX3_draws_55 : decode cX3_draws 55 = .ok (.iadd, 1) := by decide +kernel
theorem dX3_draws_56 : decode cX3_draws 56 = .ok (.iaload, 1) := by decide +kernel
theorem dX3_draws_57 : decode cX3_draws 57 = .ok (.invokevirtual 49, 3) := by decide +kernel
theorem dX3_draws_60 : decode cX3_draws 60 = .ok (.iconst 0, 1) := by decide +kernel
theorem dX3_draws_61 : decode cX3_draws 61 = .ok (.istore_n 3, 1) := by decide +kernel
theorem dX3_draws_62 : decode cX3_draws 62 = .ok (.iload_n 3, 1) := by decide +kernel
theorem dX3_draws_63 : decode cX3_draws 63 = .ok (.bipush 8, 2) := by decide +kernel
theorem dX3_draws_65 : decode cX3_draws 65 = .ok (.if_icmp .ge 40, 3) := by decide +kernel
theorem dX3_draws_68 : decode cX3_draws 68 = .ok (.aload_n 0, 1) := by decide +kernel
theorem dX3_draws_69 : decode cX3_draws 69 = .ok (.getfield 7, 3) := by decide +kernel
theorem dX3_draws_72 : decode cX3_draws 72 = .ok (.sipush 212, 3) := by decide +kernel
theorem dX3_draws_75 : decode cX3_draws 75 = .ok (.iload_n 3, 1) := by decide +kernel
theorem dX3_draws_76 : decode cX3_draws 76 = .ok (.iadd, 1) := by decide +kernel
theorem dX3_draws_77 : decode cX3_draws 77 = .ok (.dup2, 1) := by decide +kernel
theorem dX3_draws_78 : decode cX3_draws 78 = .ok (.iaload, 1) := by decide +kernel
theorem dX3_draws_79 : decode cX3_draws 79 = .ok (.aload_n 0, 1) := by decide +kernel
theorem dX3_draws_80 : decode cX3_draws 80 = .ok (.getfield 7, 3) := by decide +kernel
theorem dX3_draws_83 : decode cX3_draws 83 = .ok (.sipush 212, 3) := by decide +kernel
theorem dX3_draws_86 : decode cX3_draws 86 = .ok (.iload_n 3, 1) := by decide +kernel
theorem dX3_draws_87 : decode cX3_draws 87 = .ok (.iadd, 1) := by decide +kernel
theorem dX3_draws_88 : decode cX3_draws 88 = .ok (.iaload, 1) := by decide +kernel
theorem dX3_draws_89 : decode cX3_draws 89 = .ok (.ifCond .le 7, 3) := by decide +kernel
theorem dX3_draws_92 : decode cX3_draws 92 = .ok (.iconst 1, 1) := by decide +kernel
theorem dX3_draws_93 : decode cX3_draws 93 = .ok (.goto 4, 3) := by decide +kernel
theorem dX3_draws_96 : decode cX3_draws 96 = .ok (.iconst 0, 1) := by decide +kernel
theorem dX3_draws_97 : decode cX3_draws 97 = .ok (.isub, 1) := by decide +kernel
theorem dX3_draws_98 : decode cX3_draws 98 = .ok (.iastore, 1) := by decide +kernel
theorem dX3_draws_99 : decode cX3_draws 99 = .ok (.iinc 3 1, 3) := by decide +kernel
theorem dX3_draws_102 : decode cX3_draws 102 = .ok (.goto (-40), 3) := by decide +kernel
theorem dX3_draws_105 : decode cX3_draws 105 = .ok (.aload_n 0, 1) := by decide +kernel
theorem dX3_draws_106 : decode cX3_draws 106 = .ok (.getfield 7, 3) := by decide +kernel
theorem dX3_draws_109 : decode cX3_draws 109 = .ok (.sipush 220, 3) := by decide +kernel
theorem dX3_draws_112 : decode cX3_draws 112 = .ok (.iconst 1, 1) := by decide +kernel
theorem dX3_draws_113 : decode cX3_draws 113 = .ok (.iload_n 1, 1) := by decide +kernel
theorem dX3_draws_114 : decode cX3_draws 114 = .ok (.isub, 1) := by decide +kernel
theorem dX3_draws_115 : decode cX3_draws 115 = .ok (.iastore, 1) := by decide +kernel
theorem dX3_draws_116 : decode cX3_draws 116 = .ok (.aload_n 0, 1) := by decide +kernel
theorem dX3_draws_117 : decode cX3_draws 117 = .ok (.getfield 7, 3) := by decide +kernel
theorem dX3_draws_120 : decode cX3_draws 120 = .ok (.sipush 222, 3) := by decide +kernel
theorem dX3_draws_123 : decode cX3_draws 123 = .ok (.dup2, 1) := by decide +kernel
theorem dX3_draws_124 : decode cX3_draws 124 = .ok (.iaload, 1) := by decide +kernel
theorem dX3_draws_125 : decode cX3_draws 125 = .ok (.iconst 1, 1) := by decide +kernel
theorem dX3_draws_126 : decode cX3_draws 126 = .ok (.iadd, 1) := by decide +kernel
theorem dX3_draws_127 : decode cX3_draws 127 = .ok (.iastore, 1) := by decide +kernel
theorem dX3_draws_128 : decode cX3_draws 128 = .ok (.aload_n 0, 1) := by decide +kernel
theorem dX3_draws_129 : decode cX3_draws 129 = .ok (.getfield 7, 3) := by decide +kernel
theorem dX3_draws_132 : decode cX3_draws 132 = .ok (.sipush 221, 3) := by decide +kernel
theorem dX3_draws_135 : decode cX3_draws 135 = .ok (.aload_n 0, 1) := by decide +kernel
theorem dX3_draws_136 : decode cX3_draws 136 = .ok (.getfield 7, 3) := by decide +kernel
theorem dX3_draws_139 : decode cX3_draws 139 = .ok (.sipush 222, 3) := by decide +kernel
theorem dX3_draws_142 : decode cX3_draws 142 = .ok (.iaload, 1) := by decide +kernel
theorem dX3_draws_143 : decode cX3_draws 143 = .ok (.sipush 200, 3) := by decide +kernel
theorem dX3_draws_146 : decode cX3_draws 146 = .ok (.if_icmp .ne 7, 3) := by decide +kernel
theorem dX3_draws_149 : decode cX3_draws 149 = .ok (.iconst 1, 1) := by decide +kernel
theorem dX3_draws_150 : decode cX3_draws 150 = .ok (.goto 11, 3) := by decide +kernel
theorem dX3_draws_153 : decode cX3_draws 153 = .ok (.aload_n 0, 1) := by decide +kernel
theorem dX3_draws_154 : decode cX3_draws 154 = .ok (.getfield 7, 3) := by decide +kernel
theorem dX3_draws_157 : decode cX3_draws 157 = .ok (.sipush 221, 3) := by decide +kernel
theorem dX3_draws_160 : decode cX3_draws 160 = .ok (.iaload, 1) := by decide +kernel
theorem dX3_draws_161 : decode cX3_draws 161 = .ok (.iastore, 1) := by decide +kernel
theorem dX3_draws_162 : decode cX3_draws 162 = .ok (.iload_n 2, 1) := by decide +kernel
theorem dX3_draws_163 : decode cX3_draws 163 = .ok (.ireturn, 1) := by decide +kernel
theorem dX3_findMove_0 : decode cX3_findMove 0 = .ok (.iconst 0, 1) := by decide +kernel
theorem dX3_findMove_1 : decode cX3_findMove 1 = .ok (.istore_n 2, 1) := by decide +kernel
theorem dX3_findMove_2 : decode cX3_findMove 2 = .ok (.aload_n 0, 1) := by decide +kernel
theorem dX3_findMove_3 : decode cX3_findMove 3 = .ok (.bipush (-6), 2) := by decide +kernel
theorem dX3_findMove_5 : decode cX3_findMove 5 = .ok (.putfield 111, 3) := by decide +kernel
theorem dX3_findMove_8 : decode cX3_findMove 8 = .ok (.iconst 0, 1) := by decide +kernel
theorem dX3_findMove_9 : decode cX3_findMove 9 = .ok (.istore_n 3, 1) := by decide +kernel
theorem dX3_findMove_10 : decode cX3_findMove 10 = .ok (.iload_n 3, 1) := by decide +kernel
theorem dX3_findMove_11 : decode cX3_findMove 11 = .ok (.bipush 14, 2) := by decide +kernel
theorem dX3_findMove_13 : decode cX3_findMove 13 = .ok (.if_icmp .ge 73, 3) := by decide +kernel
theorem dX3_findMove_16 : decode cX3_findMove 16 = .ok (.iconst 0, 1) := by decide +kernel
theorem dX3_findMove_17 : decode cX3_findMove 17 = .ok (.istore 4, 2) := by decide +kernel
theorem dX3_findMove_19 : decode cX3_findMove 19 = .ok (.iload 4, 2) := by decide +kernel
theorem dX3_findMove_21 : decode cX3_findMove 21 = .ok (.bipush 22, 2) := by decide +kernel
theorem dX3_findMove_23 : decode cX3_findMove 23 = .ok (.if_icmp .ge 57, 3) := by decide +kernel
theorem dX3_findMove_26 : decode cX3_findMove 26 = .ok (.aload_n 0, 1) := by decide +kernel
theorem dX3_findMove_27 : decode cX3_findMove 27 = .ok (.iload_n 3, 1) := by decide +kernel
theorem dX3_findMove_28 : decode cX3_findMove 28 = .ok (.iload 4, 2) := by decide +kernel
theorem dX3_findMove_30 : decode cX3_findMove 30 = .ok (.invokevirtual 114, 3) := by decide +kernel
theorem dX3_findMove_33 : decode cX3_findMove 33 = .ok (.ifCond .eq 41, 3) := by decide +kernel
theorem dX3_findMove_36 : decode cX3_findMove 36 = .ok (.aload_n 0, 1) := by decide +kernel
theorem dX3_findMove_37 : decode cX3_findMove 37 = .ok (.iload_n 2, 1) := by decide +kernel
theorem dX3_findMove_38 : decode cX3_findMove 38 = .ok (.iload_n 1, 1) := by decide +kernel
theorem dX3_findMove_39 : decode cX3_findMove 39 = .ok (.if_icmp .ne 7, 3) := by decide +kernel
theorem dX3_findMove_42 : decode cX3_findMove 42 = .ok (.iload_n 3, 1) := by decide +kernel
theorem dX3_findMove_43 : decode cX3_findMove 43 = .ok (.goto 7, 3) := by decide +kernel
theorem dX3_findMove_46 : decode cX3_findMove 46 = .ok (.aload_n 0, 1) := by decide +kernel
theorem dX3_findMove_47 : decode cX3_findMove 47 = .ok (.getfield 111, 3) := by decide +kernel
theorem dX3_findMove_50 : decode cX3_findMove 50 = .ok (.putfield 111, 3) := by decide +kernel
theorem dX3_findMove_53 : decode cX3_findMove 53 = .ok (.aload_n 0, 1) := by decide +kernel
theorem dX3_findMove_54 : decode cX3_findMove 54 = .ok (.iload_n 2, 1) := by decide +kernel
theorem dX3_findMove_55 : decode cX3_findMove 55 = .ok (.iload_n 1, 1) := by decide +kernel
theorem dX3_findMove_56 : decode cX3_findMove 56 = .ok (.if_icmp .ne 8, 3) := by decide +kernel
theorem dX3_findMove_59 : decode cX3_findMove 59 = .ok (.iload 4, 2) := by decide +kernel
theorem dX3_findMove_61 : decode cX3_findMove 61 = .ok (.goto 7, 3) := by decide +kernel
theorem dX3_findMove_64 : decode cX3_findMove 64 = .ok (.aload_n 0, 1) := by decide +kernel
theorem dX3_findMove_65 : decode cX3_findMove 65 = .ok (.getfield 117, 3) := by decide +kernel
theorem dX3_findMove_68 : decode cX3_findMove 68 = .ok (.putfield 117, 3) := by decide +kernel
theorem dX3_findMove_71 : decode cX3_findMove 71 = .ok (.iinc 2 1, 3) := by decide +kernel
theorem dX3_findMove_74 : decode cX3_findMove 74 = .ok (.iinc 4 1, 3) := by decide +kernel
theorem dX3_findMove_77 : decode cX3_findMove 77 = .ok (.goto (-58), 3) := by decide +kernel
theorem dX3_findMove_80 : decode cX3_findMove 80 = .ok (.iinc 3 1, 3) := by decide +kernel
theorem dX3_findMove_83 : decode cX3_findMove 83 = .ok (.goto (-73), 3) := by decide +kernel
theorem dX3_findMove_86 : decode cX3_findMove 86 = .ok (.iload_n 2, 1) := by decide +kernel
theorem dX3_findMove_87 : decode cX3_findMove 87 = .ok (.ireturn, 1) := by decide +kernel
theorem dX3_findBest_0 : decode cX3_findBest 0 = .ok (.iconst 0, 1) := by decide +kernel
theorem dX3_findBest_1 : decode cX3_findBest 1 = .ok (.istore_n 1, 1) := by decide +kernel
theorem dX3_findBest_2 : decode cX3_findBest 2 = .ok (.bipush (-6), 2) := by decide +kernel
theorem dX3_findBest_4 : decode cX3_findBest 4 = .ok (.istore_n 2, 1) := by decide +kernel
theorem dX3_findBest_5 : decode cX3_findBest 5 = .ok (.iconst (-1), 1) := by decide +kernel
theorem dX3_findBest_6 : decode cX3_findBest 6 = .ok (.istore_n 3, 1) := by decide +kernel
theorem dX3_findBest_7 : decode cX3_findBest 7 = .ok (.bipush (-6), 2) := by decide +kernel
theorem dX3_findBest_9 : decode cX3_findBest 9 = .ok (.istore 4, 2) := by decide +kernel
theorem dX3_findBest_11 : decode cX3_findBest 11 = .ok (.bipush (-6), 2) := by decide +kernel
theorem dX3_findBest_13 : decode cX3_findBest 13 = .ok (.istore 5, 2) := by decide +kernel
theorem dX3_findBest_15 : decode cX3_findBest 15 = .ok (.iconst 0, 1) := by decide +kernel
theorem dX3_findBest_16 : decode cX3_findBest 16 = .ok (.istore 6, 2) := by decide +kernel
theorem dX3_findBest_18 : decode cX3_findBest 18 = .ok (.iload 6, 2) := by decide +kernel
theorem dX3_findBest_20 : decode cX3_findBest 20 = .ok (.bipush 14, 2) := by decide +kernel
theorem dX3_findBest_22 : decode cX3_findBest 22 = .ok (.if_icmp .ge 115, 3) := by decide +kernel
theorem dX3_findBest_25 : decode cX3_findBest 25 = .ok (.iconst 0, 1) := by decide +kernel
theorem dX3_findBest_26 : decode cX3_findBest 26 = .ok (.istore 7, 2) := by decide +kernel
theorem dX3_findBest_28 : decode cX3_findBest 28 = .ok (.iload 7, 2) := by decide +kernel
theorem dX3_findBest_30 : decode cX3_findBest 30 = .ok (.bipush 22, 2) := by decide +kernel
theorem dX3_findBest_32 : decode cX3_findBest 32 = .ok (.if_icmp .ge 99, 3) := by decide +kernel
theorem dX3_findBest_35 : decode cX3_findBest 35 = .ok (.aload_n 0, 1) := by decide +kernel
theorem dX3_findBest_36 : decode cX3_findBest 36 = .ok (.iload 6, 2) := by decide +kernel
theorem dX3_findBest_38 : decode cX3_findBest 38 = .ok (.iload 7, 2) := by decide +kernel
theorem dX3_findBest_40 : decode cX3_findBest 40 = .ok (.invokevirtual 114, 3) := by decide +kernel
theorem dX3_findBest_43 : decode cX3_findBest 43 = .ok (.ifCond .eq 82, 3) := by decide +kernel
theorem dX3_findBest_46 : decode cX3_findBest 46 = .ok (.aload_n 0, 1) := by decide +kernel
theorem dX3_findBest_47 : decode cX3_findBest 47 = .ok (.iload 6, 2) := by decide +kernel
theorem dX3_findBest_49 : decode cX3_findBest 49 = .ok (.iload 7, 2) := by decide +kernel
theorem dX3_findBest_51 : decode cX3_findBest 51 = .ok (.invokevirtual 98, 3) := by decide +kernel
theorem dX3_findBest_54 : decode cX3_findBest 54 = .ok (.iload_n 3, 1) := by decide +kernel
theorem dX3_findBest_55 : decode cX3_findBest 55 = .ok (.if_icmp .le 7, 3) := by decide +kernel
theorem dX3_findBest_58 : decode cX3_findBest 58 = .ok (.iconst 1, 1) := by decide +kernel
theorem dX3_findBest_59 : decode cX3_findBest 59 = .ok (.goto 4, 3) := by decide +kernel
theorem dX3_findBest_62 : decode cX3_findBest 62 = .ok (.iconst 0, 1) := by decide +kernel
theorem dX3_findBest_63 : decode cX3_findBest 63 = .ok (.istore 8, 2) := by decide +kernel
theorem dX3_findBest_65 : decode cX3_findBest 65 = .ok (.iload 8, 2) := by decide +kernel
theorem dX3_findBest_67 : decode cX3_findBest 67 = .ok (.ifCond .eq 7, 3) := by decide +kernel
theorem dX3_findBest_70 : decode cX3_findBest 70 = .ok (.iload_n 1, 1) := by decide +kernel
theorem dX3_findBest_71 : decode cX3_findBest 71 = .ok (.goto 4, 3) := by decide +kernel
theorem dX3_findBest_74 : decode cX3_findBest 74 = .ok (.iload_n 2, 1) := by decide +kernel
theorem dX3_findBest_75 : decode cX3_findBest 75 = .ok (.istore_n 2, 1) := by decide +kernel
theorem dX3_findBest_76 : decode cX3_findBest 76 = .ok (.iload 8, 2) := by decide +kernel
theorem dX3_findBest_78 : decode cX3_findBest 78 = .ok (.ifCond .eq 8, 3) := by decide +kernel
theorem dX3_findBest_81 : decode cX3_findBest 81 = .ok (.iload 6, 2) := by decide +kernel
theorem dX3_findBest_83 : decode cX3_findBest 83 = .ok (.goto 5, 3) := by decide +kernel
theorem dX3_findBest_86 : decode cX3_findBest 86 = .ok (.iload 4, 2) := by decide +kernel
theorem dX3_findBest_88 : decode cX3_findBest 88 = .ok (.istore 4, 2) := by decide +kernel
theorem dX3_findBest_90 : decode cX3_findBest 90 = .ok (.iload 8, 2) := by decide +kernel
theorem dX3_findBest_92 : decode cX3_findBest 92 = .ok (.ifCond .eq 8, 3) := by decide +kernel
theorem dX3_findBest_95 : decode cX3_findBest 95 = .ok (.iload 7, 2) := by decide +kernel
theorem dX3_findBest_97 : decode cX3_findBest 97 = .ok (.goto 5, 3) := by decide +kernel
theorem dX3_findBest_100 : decode cX3_findBest 100 = .ok (.iload 5, 2) := by decide +kernel
theorem dX3_findBest_102 : decode cX3_findBest 102 = .ok (.istore 5, 2) := by decide +kernel
theorem dX3_findBest_104 : decode cX3_findBest 104 = .ok (.iload 8, 2) := by decide +kernel
theorem dX3_findBest_106 : decode cX3_findBest 106 = .ok (.ifCond .eq 14, 3) := by decide +kernel
theorem dX3_findBest_109 : decode cX3_findBest 109 = .ok (.aload_n 0, 1) := by decide +kernel
theorem dX3_findBest_110 : decode cX3_findBest 110 = .ok (.iload 6, 2) := by decide +kernel
theorem dX3_findBest_112 : decode cX3_findBest 112 = .ok (.iload 7, 2) := by decide +kernel
theorem dX3_findBest_114 : decode cX3_findBest 114 = .ok (.invokevirtual 98, 3) := by decide +kernel
theorem dX3_findBest_117 : decode cX3_findBest 117 = .ok (.goto 4, 3) := by decide +kernel
theorem dX3_findBest_120 : decode cX3_findBest 120 = .ok (.iload_n 3, 1) := by decide +kernel
theorem dX3_findBest_121 : decode cX3_findBest 121 = .ok (.istore_n 3, 1) := by decide +kernel
theorem dX3_findBest_122 : decode cX3_findBest 122 = .ok (.iinc 1 1, 3) := by decide +kernel
theorem dX3_findBest_125 : decode cX3_findBest 125 = .ok (.iinc 7 1, 3) := by decide +kernel
theorem dX3_findBest_128 : decode cX3_findBest 128 = .ok (.goto (-100), 3) := by decide +kernel
theorem dX3_findBest_131 : decode cX3_findBest 131 = .ok (.iinc 6 1, 3) := by decide +kernel
theorem dX3_findBest_134 : decode cX3_findBest 134 = .ok (.goto (-116), 3) := by decide +kernel
theorem dX3_findBest_137 : decode cX3_findBest 137 = .ok (.aload_n 0, 1) := by decide +kernel
theorem dX3_findBest_138 : decode cX3_findBest 138 = .ok (.iload 4, 2) := by decide +kernel
theorem dX3_findBest_140 : decode cX3_findBest 140 = .ok (.putfield 111, 3) := by decide +kernel
theorem dX3_findBest_143 : decode cX3_findBest 143 = .ok (.aload_n 0, 1) := by decide +kernel
theorem dX3_findBest_144 : decode cX3_findBest 144 = .ok (.iload 5, 2) := by decide +kernel
theorem dX3_findBest_146 : decode cX3_findBest 146 = .ok (.putfield 117, 3) := by decide +kernel
theorem dX3_findBest_149 : decode cX3_findBest 149 = .ok (.iload_n 2, 1) := by decide +kernel
theorem dX3_findBest_150 : decode cX3_findBest 150 = .ok (.ireturn, 1) := by decide +kernel
theorem dX3_plays_0 : decode cX3_plays 0 = .ok (.iconst 0, 1) := by decide +kernel
theorem dX3_plays_1 : decode cX3_plays 1 = .ok (.istore_n 2, 1) := by decide +kernel
theorem dX3_plays_2 : decode cX3_plays 2 = .ok (.iload_n 2, 1) := by decide +kernel
theorem dX3_plays_3 : decode cX3_plays 3 = .ok (.iload_n 1, 1) := by decide +kernel
theorem dX3_plays_4 : decode cX3_plays 4 = .ok (.if_icmp .ge 79, 3) := by decide +kernel
theorem dX3_plays_7 : decode cX3_plays 7 = .ok (.aload_n 0, 1) := by decide +kernel
theorem dX3_plays_8 : decode cX3_plays 8 = .ok (.getfield 7, 3) := by decide +kernel
theorem dX3_plays_11 : decode cX3_plays 11 = .ok (.sipush 221, 3) := by decide +kernel
theorem dX3_plays_14 : decode cX3_plays 14 = .ok (.iaload, 1) := by decide +kernel
theorem dX3_plays_15 : decode cX3_plays 15 = .ok (.ifCond .ne 68, 3) := by decide +kernel
theorem dX3_plays_18 : decode cX3_plays 18 = .ok (.aload_n 0, 1) := by decide +kernel
theorem dX3_plays_19 : decode cX3_plays 19 = .ok (.invokevirtual 102, 3) := by decide +kernel
theorem dX3_plays_22 : decode cX3_plays 22 = .ok (.aload_n 0, 1) := by decide +kernel
theorem dX3_plays_23 : decode cX3_plays 23 = .ok (.invokevirtual 120, 3) := by decide +kernel
theorem dX3_plays_26 : decode cX3_plays 26 = .ok (.bipush (-6), 2) := by decide +kernel
theorem dX3_plays_28 : decode cX3_plays 28 = .ok (.if_icmp .eq 22, 3) := by decide +kernel
theorem dX3_plays_31 : decode cX3_plays 31 = .ok (.aload_n 0, 1) := by decide +kernel
theorem dX3_plays_32 : decode cX3_plays 32 = .ok (.aload_n 0, 1) := by decide +kernel
theorem dX3_plays_33 : decode cX3_plays 33 = .ok (.getfield 111, 3) := by decide +kernel
theorem dX3_plays_36 : decode cX3_plays 36 = .ok (.aload_n 0, 1) := by decide +kernel
theorem dX3_plays_37 : decode cX3_plays 37 = .ok (.getfield 117, 3) := by decide +kernel
theorem dX3_plays_40 : decode cX3_plays 40 = .ok (.invokevirtual 98, 3) := by decide +kernel
theorem dX3_plays_43 : decode cX3_plays 43 = .ok (.ifCond .le 7, 3) := by decide +kernel
theorem dX3_plays_46 : decode cX3_plays 46 = .ok (.iconst 1, 1) := by decide +kernel
theorem dX3_plays_47 : decode cX3_plays 47 = .ok (.goto 4, 3) := by decide +kernel
theorem dX3_plays_50 : decode cX3_plays 50 = .ok (.iconst 0, 1) := by decide +kernel
theorem dX3_plays_51 : decode cX3_plays 51 = .ok (.istore_n 3, 1) := by decide +kernel
theorem dX3_plays_52 : decode cX3_plays 52 = .ok (.iload_n 3, 1) := by decide +kernel
theorem dX3_plays_53 : decode cX3_plays 53 = .ok (.ifCond .eq 19, 3) := by decide +kernel
theorem dX3_plays_56 : decode cX3_plays 56 = .ok (.aload_n 0, 1) := by decide +kernel
theorem dX3_plays_57 : decode cX3_plays 57 = .ok (.aload_n 0, 1) := by decide +kernel
theorem dX3_plays_58 : decode cX3_plays 58 = .ok (.getfield 111, 3) := by decide +kernel
theorem dX3_plays_61 : decode cX3_plays 61 = .ok (.aload_n 0, 1) := by decide +kernel
theorem dX3_plays_62 : decode cX3_plays 62 = .ok (.getfield 117, 3) := by decide +kernel
theorem dX3_plays_65 : decode cX3_plays 65 = .ok (.invokevirtual 124, 3) := by decide +kernel
theorem dX3_plays_68 : decode cX3_plays 68 = .ok (.pop, 1) := by decide +kernel
theorem dX3_plays_69 : decode cX3_plays 69 = .ok (.goto 8, 3) := by decide +kernel
theorem dX3_plays_72 : decode cX3_plays 72 = .ok (.aload_n 0, 1) := by decide +kernel
theorem dX3_plays_73 : decode cX3_plays 73 = .ok (.invokevirtual 127, 3) := by decide +kernel
theorem dX3_plays_76 : decode cX3_plays 76 = .ok (.pop, 1) := by decide +kernel
theorem dX3_plays_77 : decode cX3_plays 77 = .ok (.iinc 2 1, 3) := by decide +kernel
theorem dX3_plays_80 : decode cX3_plays 80 = .ok (.goto (-78), 3) := by decide +kernel
theorem dX3_plays_83 : decode cX3_plays 83 = .ok (.iload_n 2, 1) := by decide +kernel
theorem dX3_plays_84 : decode cX3_plays 84 = .ok (.ireturn, 1) := by decide +kernel
theorem dX3_deal_0 : decode cX3_deal 0 = .ok (.iload_n 1, 1) := by decide +kernel
theorem dX3_deal_1 : decode cX3_deal 1 = .ok (.ifCond .ge 6, 3) := by decide +kernel
theorem dX3_deal_4 : decode cX3_deal 4 = .ok (.bipush (-2), 2) := by decide +kernel
theorem dX3_deal_6 : decode cX3_deal 6 = .ok (.ireturn, 1) := by decide +kernel
theorem dX3_deal_7 : decode cX3_deal 7 = .ok (.aload_n 0, 1) := by decide +kernel
theorem dX3_deal_8 : decode cX3_deal 8 = .ok (.invokevirtual 130, 3) := by decide +kernel
theorem dX3_deal_11 : decode cX3_deal 11 = .ok (.aload_n 0, 1) := by decide +kernel
theorem dX3_deal_12 : decode cX3_deal 12 = .ok (.iload_n 1, 1) := by decide +kernel
theorem dX3_deal_13 : decode cX3_deal 13 = .ok (.invokevirtual 37, 3) := by decide +kernel
theorem dX3_deal_16 : decode cX3_deal 16 = .ok (.aload_n 0, 1) := by decide +kernel
theorem dX3_deal_17 : decode cX3_deal 17 = .ok (.invokevirtual 102, 3) := by decide +kernel
theorem dX3_deal_20 : decode cX3_deal 20 = .ok (.aload_n 0, 1) := by decide +kernel
theorem dX3_deal_21 : decode cX3_deal 21 = .ok (.getfield 31, 3) := by decide +kernel
theorem dX3_deal_24 : decode cX3_deal 24 = .ok (.iconst 0, 1) := by decide +kernel
theorem dX3_deal_25 : decode cX3_deal 25 = .ok (.iaload, 1) := by decide +kernel
theorem dX3_deal_26 : decode cX3_deal 26 = .ok (.ireturn, 1) := by decide +kernel
theorem dX3_whyNoMove_0 : decode cX3_whyNoMove 0 = .ok (.iload_n 1, 1) := by decide +kernel
theorem dX3_whyNoMove_1 : decode cX3_whyNoMove 1 = .ok (.invokestatic 133, 3) := by decide +kernel
theorem dX3_whyNoMove_4 : decode cX3_whyNoMove 4 = .ok (.ifCond .eq 10, 3) := by decide +kernel
theorem dX3_whyNoMove_7 : decode cX3_whyNoMove 7 = .ok (.iload_n 2, 1) := by decide +kernel
theorem dX3_whyNoMove_8 : decode cX3_whyNoMove 8 = .ok (.invokestatic 133, 3) := by decide +kernel
theorem dX3_whyNoMove_11 : decode cX3_whyNoMove 11 = .ok (.ifCond .ne 5, 3) := by decide +kernel
theorem dX3_whyNoMove_14 : decode cX3_whyNoMove 14 = .ok (.iconst (-1), 1) := by decide +kernel
theorem dX3_whyNoMove_15 : decode cX3_whyNoMove 15 = .ok (.ireturn, 1) := by decide +kernel
theorem dX3_whyNoMove_16 : decode cX3_whyNoMove 16 = .ok (.aload_n 0, 1) := by decide +kernel
theorem dX3_whyNoMove_17 : decode cX3_whyNoMove 17 = .ok (.invokevirtual 102, 3) := by decide +kernel
theorem dX3_whyNoMove_20 : decode cX3_whyNoMove 20 = .ok (.aload_n 0, 1) := by decide +kernel
theorem dX3_whyNoMove_21 : decode cX3_whyNoMove 21 = .ok (.iload_n 1, 1) := by decide +kernel
theorem dX3_whyNoMove_22 : decode cX3_whyNoMove 22 = .ok (.iload_n 2, 1) := by decide +kernel
theorem dX3_whyNoMove_23 : decode cX3_whyNoMove 23 = .ok (.invokevirtual 114, 3) := by decide +kernel
theorem dX3_whyNoMove_26 : decode cX3_whyNoMove 26 = .ok (.ifCond .eq 7, 3) := by decide +kernel
theorem dX3_whyNoMove_29 : decode cX3_whyNoMove 29 = .ok (.iconst 0, 1) := by decide +kernel
theorem dX3_whyNoMove_30 : decode cX3_whyNoMove 30 = .ok (.goto 5, 3) := by decide +kernel
theorem dX3_whyNoMove_33 : decode cX3_whyNoMove 33 = .ok (.bipush (-5), 2) := by decide +kernel
theorem dX3_whyNoMove_35 : decode cX3_whyNoMove 35 = .ok (.ireturn, 1) := by decide +kernel
theorem dX3_move_0 : decode cX3_move 0 = .ok (.aload_n 0, 1) := by decide +kernel
theorem dX3_move_1 : decode cX3_move 1 = .ok (.iload_n 1, 1) := by decide +kernel
theorem dX3_move_2 : decode cX3_move 2 = .ok (.iload_n 2, 1) := by decide +kernel
theorem dX3_move_3 : decode cX3_move 3 = .ok (.invokevirtual 136, 3) := by decide +kernel
theorem dX3_move_6 : decode cX3_move 6 = .ok (.istore_n 3, 1) := by decide +kernel
theorem dX3_move_7 : decode cX3_move 7 = .ok (.iload_n 3, 1) := by decide +kernel
theorem dX3_move_8 : decode cX3_move 8 = .ok (.ifCond .ge 5, 3) := by decide +kernel
theorem dX3_move_11 : decode cX3_move 11 = .ok (.iload_n 3, 1) := by decide +kernel
theorem dX3_move_12 : decode cX3_move 12 = .ok (.ireturn, 1) := by decide +kernel
theorem dX3_move_13 : decode cX3_move 13 = .ok (.aload_n 0, 1) := by decide +kernel
theorem dX3_move_14 : decode cX3_move 14 = .ok (.invokevirtual 130, 3) := by decide +kernel
theorem dX3_move_17 : decode cX3_move 17 = .ok (.aload_n 0, 1) := by decide +kernel
theorem dX3_move_18 : decode cX3_move 18 = .ok (.iload_n 1, 1) := by decide +kernel
theorem dX3_move_19 : decode cX3_move 19 = .ok (.iload_n 2, 1) := by decide +kernel
theorem dX3_move_20 : decode cX3_move 20 = .ok (.invokevirtual 124, 3) := by decide +kernel
theorem dX3_move_23 : decode cX3_move 23 = .ok (.ireturn, 1) := by decide +kernel
theorem dX3_draw_0 : decode cX3_draw 0 = .ok (.aload_n 0, 1) := by decide +kernel
theorem dX3_draw_1 : decode cX3_draw 1 = .ok (.getfield 7, 3) := by decide +kernel
theorem dX3_draw_4 : decode cX3_draw 4 = .ok (.sipush 221, 3) := by decide +kernel
theorem dX3_draw_7 : decode cX3_draw 7 = .ok (.iaload, 1) := by decide +kernel
theorem dX3_draw_8 : decode cX3_draw 8 = .ok (.iconst 1, 1) := by decide +kernel
theorem dX3_draw_9 : decode cX3_draw 9 = .ok (.if_icmp .ne 6, 3) := by decide +kernel
theorem dX3_draw_12 : decode cX3_draw 12 = .ok (.bipush (-5), 2) := by decide +kernel
theorem dX3_draw_14 : decode cX3_draw 14 = .ok (.ireturn, 1) := by decide +kernel
theorem dX3_draw_15 : decode cX3_draw 15 = .ok (.aload_n 0, 1) := by decide +kernel
theorem dX3_draw_16 : decode cX3_draw 16 = .ok (.invokevirtual 130, 3) := by decide +kernel
theorem dX3_draw_19 : decode cX3_draw 19 = .ok (.aload_n 0, 1) := by decide +kernel
theorem dX3_draw_20 : decode cX3_draw 20 = .ok (.invokevirtual 127, 3) := by decide +kernel
theorem dX3_draw_23 : decode cX3_draw 23 = .ok (.ireturn, 1) := by decide +kernel
theorem dX3_whyNoFreeze_0 : decode cX3_whyNoFreeze 0 = .ok (.iload_n 1, 1) := by decide +kernel
theorem dX3_whyNoFreeze_1 : decode cX3_whyNoFreeze 1 = .ok (.iconst 0, 1) := by decide +kernel
theorem dX3_whyNoFreeze_2 : decode cX3_whyNoFreeze 2 = .ok (.bipush 7, 2) := by decide +kernel
theorem dX3_whyNoFreeze_4 : decode cX3_whyNoFreeze 4 = .ok (.invokestatic 64, 3) := by decide +kernel
theorem dX3_whyNoFreeze_7 : decode cX3_whyNoFreeze 7 = .ok (.ifCond .ne 5, 3) := by decide +kernel
theorem dX3_whyNoFreeze_10 : decode cX3_whyNoFreeze 10 = .ok (.iconst (-1), 1) := by decide +kernel
theorem dX3_whyNoFreeze_11 : decode cX3_whyNoFreeze 11 = .ok (.ireturn, 1) := by decide +kernel
theorem dX3_whyNoFreeze_12 : decode cX3_whyNoFreeze 12 = .ok (.aload_n 0, 1) := by decide +kernel
theorem dX3_whyNoFreeze_13 : decode cX3_whyNoFreeze 13 = .ok (.getfield 7, 3) := by decide +kernel
theorem dX3_whyNoFreeze_16 : decode cX3_whyNoFreeze 16 = .ok (.sipush 212, 3) := by decide +kernel
theorem dX3_whyNoFreeze_19 : decode cX3_whyNoFreeze 19 = .ok (.iload_n 1, 1) := by decide +kernel
theorem dX3_whyNoFreeze_20 : decode cX3_whyNoFreeze 20 = .ok (.iadd, 1) := by decide +kernel
theorem dX3_whyNoFreeze_21 : decode cX3_whyNoFreeze 21 = .ok (.iaload, 1) := by decide +kernel
theorem dX3_whyNoFreeze_22 : decode cX3_whyNoFreeze 22 = .ok (.ifCond .gt 35, 3) := by decide +kernel
theorem dX3_whyNoFreeze_25 : decode cX3_whyNoFreeze 25 = .ok (.aload_n 0, 1) := by decide +kernel
theorem dX3_whyNoFreeze_26 : decode cX3_whyNoFreeze 26 = .ok (.getfield 7, 3) := by decide +kernel
theorem dX3_whyNoFreeze_29 : decode cX3_whyNoFreeze 29 = .ok (.sipush 210, 3) := by decide +kernel
theorem dX3_whyNoFreeze_32 : decode cX3_whyNoFreeze 32 = .ok (.aload_n 0, 1) := by decide +kernel
theorem dX3_whyNoFreeze_33 : decode cX3_whyNoFreeze 33 = .ok (.getfield 7, 3) := by decide +kernel
theorem dX3_whyNoFreeze_36 : decode cX3_whyNoFreeze 36 = .ok (.sipush 220, 3) := by decide +kernel
theorem dX3_whyNoFreeze_39 : decode cX3_whyNoFreeze 39 = .ok (.iaload, 1) := by decide +kernel
theorem dX3_whyNoFreeze_40 : decode cX3_whyNoFreeze 40 = .ok (.iadd, 1) := by decide +kernel
theorem dX3_whyNoFreeze_41 : decode cX3_whyNoFreeze 41 = .ok (.iaload, 1) := by decide +kernel
theorem dX3_whyNoFreeze_42 : decode cX3_whyNoFreeze 42 = .ok (.ifCond .eq 15, 3) := by decide +kernel
theorem dX3_whyNoFreeze_45 : decode cX3_whyNoFreeze 45 = .ok (.aload_n 0, 1) := by decide +kernel
theorem dX3_whyNoFreeze_46 : decode cX3_whyNoFreeze 46 = .ok (.getfield 7, 3) := by decide +kernel
theorem dX3_whyNoFreeze_49 : decode cX3_whyNoFreeze 49 = .ok (.sipush 221, 3) := by decide +kernel
theorem dX3_whyNoFreeze_52 : decode cX3_whyNoFreeze 52 = .ok (.iaload, 1) := by decide +kernel
theorem dX3_whyNoFreeze_53 : decode cX3_whyNoFreeze 53 = .ok (.iconst 1, 1) := by decide +kernel
theorem dX3_whyNoFreeze_54 : decode cX3_whyNoFreeze 54 = .ok (.if_icmp .ne 8, 3) := by decide +kernel
theorem dX3_whyNoFreeze_57 : decode cX3_whyNoFreeze 57 = .ok (.bipush (-5), 2) := by decide +kernel
theorem dX3_whyNoFreeze_59 : decode cX3_whyNoFreeze 59 = .ok (.goto 4, 3) := by decide +kernel
theorem dX3_whyNoFreeze_62 : decode cX3_whyNoFreeze 62 = .ok (.iconst 0, 1) := by decide +kernel
theorem dX3_whyNoFreeze_63 : decode cX3_whyNoFreeze 63 = .ok (.ireturn, 1) := by decide +kernel
theorem dX3_freezes_0 : decode cX3_freezes 0 = .ok (.aload_n 0, 1) := by decide +kernel
theorem dX3_freezes_1 : decode cX3_freezes 1 = .ok (.getfield 7, 3) := by decide +kernel
theorem dX3_freezes_4 : decode cX3_freezes 4 = .ok (.sipush 212, 3) := by decide +kernel
theorem dX3_freezes_7 : decode cX3_freezes 7 = .ok (.iload_n 1, 1) := by decide +kernel
theorem dX3_freezes_8 : decode cX3_freezes 8 = .ok (.iadd, 1) := by decide +kernel
theorem dX3_freezes_9 : decode cX3_freezes 9 = .ok (.iconst 3, 1) := by decide +kernel
theorem dX3_freezes_10 : decode cX3_freezes 10 = .ok (.iastore, 1) := by decide +kernel
theorem dX3_freezes_11 : decode cX3_freezes 11 = .ok (.aload_n 0, 1) := by decide +kernel
theorem dX3_freezes_12 : decode cX3_freezes 12 = .ok (.getfield 7, 3) := by decide +kernel
theorem dX3_freezes_15 : decode cX3_freezes 15 = .ok (.sipush 210, 3) := by decide +kernel
theorem dX3_freezes_18 : decode cX3_freezes 18 = .ok (.aload_n 0, 1) := by decide +kernel
theorem dX3_freezes_19 : decode cX3_freezes 19 = .ok (.getfield 7, 3) := by decide +kernel
theorem dX3_freezes_22 : decode cX3_freezes 22 = .ok (.sipush 220, 3) := by decide +kernel
theorem dX3_freezes_25 : decode cX3_freezes 25 = .ok (.iaload, 1) := by decide +kernel
theorem dX3_freezes_26 : decode cX3_freezes 26 = .ok (.iadd, 1) := by decide +kernel
theorem dX3_freezes_27 : decode cX3_freezes 27 = .ok (.dup2, 1) := by decide +kernel
theorem dX3_freezes_28 : decode cX3_freezes 28 = .ok (.iaload, 1) := by decide +kernel
theorem dX3_freezes_29 : decode cX3_freezes 29 = .ok (.iconst 1, 1) := by decide +kernel
theorem dX3_freezes_30 : decode cX3_freezes 30 = .ok (.isub, 1) := by decide +kernel
theorem dX3_freezes_31 : decode cX3_freezes 31 = .ok (.iastore, 1) := by decide +kernel
theorem dX3_freezes_32 : decode cX3_freezes 32 = .ok (.aload_n 0, 1) := by decide +kernel
theorem dX3_freezes_33 : decode cX3_freezes 33 = .ok (.getfield 7, 3) := by decide +kernel
theorem dX3_freezes_36 : decode cX3_freezes 36 = .ok (.sipush 210, 3) := by decide +kernel
theorem dX3_freezes_39 : decode cX3_freezes 39 = .ok (.aload_n 0, 1) := by decide +kernel
theorem dX3_freezes_40 : decode cX3_freezes 40 = .ok (.getfield 7, 3) := by decide +kernel
theorem dX3_freezes_43 : decode cX3_freezes 43 = .ok (.sipush 220, 3) := by decide +kernel
theorem dX3_freezes_46 : decode cX3_freezes 46 = .ok (.iaload, 1) := by decide +kernel
theorem dX3_freezes_47 : decode cX3_freezes 47 = .ok (.iadd, 1) := by decide +kernel
theorem dX3_freezes_48 : decode cX3_freezes 48 = .ok (.iaload, 1) := by decide +kernel
theorem dX3_freezes_49 : decode cX3_freezes 49 = .ok (.ireturn, 1) := by decide +kernel
theorem dX3_freeze_0 : decode cX3_freeze 0 = .ok (.aload_n 0, 1) := by decide +kernel
theorem dX3_freeze_1 : decode cX3_freeze 1 = .ok (.iload_n 1, 1) := by decide +kernel
theorem dX3_freeze_2 : decode cX3_freeze 2 = .ok (.invokevirtual 139, 3) := by decide +kernel
theorem dX3_freeze_5 : decode cX3_freeze 5 = .ok (.istore_n 2, 1) := by decide +kernel
theorem dX3_freeze_6 : decode cX3_freeze 6 = .ok (.iload_n 2, 1) := by decide +kernel
theorem dX3_freeze_7 : decode cX3_freeze 7 = .ok (.ifCond .ge 5, 3) := by decide +kernel
theorem dX3_freeze_10 : decode cX3_freeze 10 = .ok (.iload_n 2, 1) := by decide +kernel
theorem dX3_freeze_11 : decode cX3_freeze 11 = .ok (.ireturn, 1) := by decide +kernel
theorem dX3_freeze_12 : decode cX3_freeze 12 = .ok (.aload_n 0, 1) := by decide +kernel
theorem dX3_freeze_13 : decode cX3_freeze 13 = .ok (.invokevirtual 130, 3) := by decide +kernel
theorem dX3_freeze_16 : decode cX3_freeze 16 = .ok (.aload_n 0, 1) := by decide +kernel
theorem dX3_freeze_17 : decode cX3_freeze 17 = .ok (.iload_n 1, 1) := by decide +kernel
theorem dX3_freeze_18 : decode cX3_freeze 18 = .ok (.invokevirtual 142, 3) := by decide +kernel
theorem dX3_freeze_21 : decode cX3_freeze 21 = .ok (.ireturn, 1) := by decide +kernel
theorem dX3_play_0 : decode cX3_play 0 = .ok (.iload_n 1, 1) := by decide +kernel
theorem dX3_play_1 : decode cX3_play 1 = .ok (.iconst 1, 1) := by decide +kernel
theorem dX3_play_2 : decode cX3_play 2 = .ok (.bipush 60, 2) := by decide +kernel
theorem dX3_play_4 : decode cX3_play 4 = .ok (.invokestatic 64, 3) := by decide +kernel
theorem dX3_play_7 : decode cX3_play 7 = .ok (.ifCond .ne 6, 3) := by decide +kernel
theorem dX3_play_10 : decode cX3_play 10 = .ok (.bipush (-2), 2) := by decide +kernel
theorem dX3_play_12 : decode cX3_play 12 = .ok (.ireturn, 1) := by decide +kernel
theorem dX3_play_13 : decode cX3_play 13 = .ok (.aload_n 0, 1) := by decide +kernel
theorem dX3_play_14 : decode cX3_play 14 = .ok (.invokevirtual 130, 3) := by decide +kernel
theorem dX3_play_17 : decode cX3_play 17 = .ok (.aload_n 0, 1) := by decide +kernel
theorem dX3_play_18 : decode cX3_play 18 = .ok (.iload_n 1, 1) := by decide +kernel
theorem dX3_play_19 : decode cX3_play 19 = .ok (.invokevirtual 145, 3) := by decide +kernel
theorem dX3_play_22 : decode cX3_play 22 = .ok (.ireturn, 1) := by decide +kernel
theorem dX3_pile_0 : decode cX3_pile 0 = .ok (.iload_n 1, 1) := by decide +kernel
theorem dX3_pile_1 : decode cX3_pile 1 = .ok (.invokestatic 133, 3) := by decide +kernel
theorem dX3_pile_4 : decode cX3_pile 4 = .ok (.ifCond .ne 5, 3) := by decide +kernel
theorem dX3_pile_7 : decode cX3_pile 7 = .ok (.iconst (-1), 1) := by decide +kernel
theorem dX3_pile_8 : decode cX3_pile 8 = .ok (.ireturn, 1) := by decide +kernel
theorem dX3_pile_9 : decode cX3_pile 9 = .ok (.aload_n 0, 1) := by decide +kernel
theorem dX3_pile_10 : decode cX3_pile 10 = .ok (.invokevirtual 102, 3) := by decide +kernel
theorem dX3_pile_13 : decode cX3_pile 13 = .ok (.iload_n 2, 1) := by decide +kernel
theorem dX3_pile_14 : decode cX3_pile 14 = .ok (.tableswitch 65 0 2 #[26, 33, 40], 26) := by decide +kernel
theorem dX3_pile_40 : decode cX3_pile 40 = .ok (.aload_n 0, 1) := by decide +kernel
theorem dX3_pile_41 : decode cX3_pile 41 = .ok (.getfield 28, 3) := by decide +kernel
theorem dX3_pile_44 : decode cX3_pile 44 = .ok (.iload_n 1, 1) := by decide +kernel
theorem dX3_pile_45 : decode cX3_pile 45 = .ok (.iaload, 1) := by decide +kernel
theorem dX3_pile_46 : decode cX3_pile 46 = .ok (.ireturn, 1) := by decide +kernel
theorem dX3_pile_47 : decode cX3_pile 47 = .ok (.aload_n 0, 1) := by decide +kernel
theorem dX3_pile_48 : decode cX3_pile 48 = .ok (.getfield 31, 3) := by decide +kernel
theorem dX3_pile_51 : decode cX3_pile 51 = .ok (.iload_n 1, 1) := by decide +kernel
theorem dX3_pile_52 : decode cX3_pile 52 = .ok (.iaload, 1) := by decide +kernel
theorem dX3_pile_53 : decode cX3_pile 53 = .ok (.ireturn, 1) := by decide +kernel
theorem dX3_pile_54 : decode cX3_pile 54 = .ok (.iload_n 1, 1) := by decide +kernel
theorem dX3_pile_55 : decode cX3_pile 55 = .ok (.invokestatic 68, 3) := by decide +kernel
theorem dX3_pile_58 : decode cX3_pile 58 = .ok (.ifCond .eq 19, 3) := by decide +kernel
theorem dX3_pile_61 : decode cX3_pile 61 = .ok (.aload_n 0, 1) := by decide +kernel
theorem dX3_pile_62 : decode cX3_pile 62 = .ok (.getfield 7, 3) := by decide +kernel
theorem dX3_pile_65 : decode cX3_pile 65 = .ok (.sipush 212, 3) := by decide +kernel
theorem dX3_pile_68 : decode cX3_pile 68 = .ok (.iload_n 1, 1) := by decide +kernel
theorem dX3_pile_69 : decode cX3_pile 69 = .ok (.iadd, 1) := by decide +kernel
theorem dX3_pile_70 : decode cX3_pile 70 = .ok (.bipush 6, 2) := by decide +kernel
theorem dX3_pile_72 : decode cX3_pile 72 = .ok (.isub, 1) := by decide +kernel
theorem dX3_pile_73 : decode cX3_pile 73 = .ok (.iaload, 1) := by decide +kernel
theorem dX3_pile_74 : decode cX3_pile 74 = .ok (.goto 4, 3) := by decide +kernel
theorem dX3_pile_77 : decode cX3_pile 77 = .ok (.iconst 0, 1) := by decide +kernel
theorem dX3_pile_78 : decode cX3_pile 78 = .ok (.ireturn, 1) := by decide +kernel
theorem dX3_pile_79 : decode cX3_pile 79 = .ok (.bipush (-2), 2) := by decide +kernel
theorem dX3_pile_81 : decode cX3_pile 81 = .ok (.ireturn, 1) := by decide +kernel
theorem dX3_card_0 : decode cX3_card 0 = .ok (.iconst (-1), 1) := by decide +kernel
theorem dX3_card_1 : decode cX3_card 1 = .ok (.istore_n 3, 1) := by decide +kernel
theorem dX3_card_2 : decode cX3_card 2 = .ok (.iconst 0, 1) := by decide +kernel
theorem dX3_card_3 : decode cX3_card 3 = .ok (.istore 4, 2) := by decide +kernel
theorem dX3_card_5 : decode cX3_card 5 = .ok (.iload 4, 2) := by decide +kernel
theorem dX3_card_7 : decode cX3_card 7 = .ok (.bipush 104, 2) := by decide +kernel
theorem dX3_card_9 : decode cX3_card 9 = .ok (.if_icmp .ge 43, 3) := by decide +kernel
theorem dX3_card_12 : decode cX3_card 12 = .ok (.aload_n 0, 1) := by decide +kernel
theorem dX3_card_13 : decode cX3_card 13 = .ok (.getfield 7, 3) := by decide +kernel
theorem dX3_card_16 : decode cX3_card 16 = .ok (.iconst 0, 1) := by decide +kernel
theorem dX3_card_17 : decode cX3_card 17 = .ok (.iload 4, 2) := by decide +kernel
theorem dX3_card_19 : decode cX3_card 19 = .ok (.iadd, 1) := by decide +kernel
theorem dX3_card_20 : decode cX3_card 20 = .ok (.iaload, 1) := by decide +kernel
theorem dX3_card_21 : decode cX3_card 21 = .ok (.iload_n 1, 1) := by decide +kernel
theorem dX3_card_22 : decode cX3_card 22 = .ok (.if_icmp .ne 22, 3) := by decide +kernel
theorem dX3_card_25 : decode cX3_card 25 = .ok (.aload_n 0, 1) := by decide +kernel
theorem dX3_card_26 : decode cX3_card 26 = .ok (.getfield 7, 3) := by decide +kernel
theorem dX3_card_29 : decode cX3_card 29 = .ok (.bipush 104, 2) := by decide +kernel
theorem dX3_card_31 : decode cX3_card 31 = .ok (.iload 4, 2) := by decide +kernel
theorem dX3_card_33 : decode cX3_card 33 = .ok (.iadd, 1) := by decide +kernel
theorem dX3_card_34 : decode cX3_card 34 = .ok (.iaload, 1) := by decide +kernel
theorem dX3_card_35 : decode cX3_card 35 = .ok (.iload_n 2, 1) := by decide +kernel
theorem dX3_card_36 : decode cX3_card 36 = .ok (.if_icmp .ne 8, 3) := by decide +kernel
theorem dX3_card_39 : decode cX3_card 39 = .ok (.iload 4, 2) := by decide +kernel
theorem dX3_card_41 : decode cX3_card 41 = .ok (.goto 4, 3) := by decide +kernel
theorem dX3_card_44 : decode cX3_card 44 = .ok (.iload_n 3, 1) := by decide +kernel
theorem dX3_card_45 : decode cX3_card 45 = .ok (.istore_n 3, 1) := by decide +kernel
theorem dX3_card_46 : decode cX3_card 46 = .ok (.iinc 4 1, 3) := by decide +kernel
theorem dX3_card_49 : decode cX3_card 49 = .ok (.goto (-44), 3) := by decide +kernel
theorem dX3_card_52 : decode cX3_card 52 = .ok (.iload_n 3, 1) := by decide +kernel
theorem dX3_card_53 : decode cX3_card 53 = .ok (.ireturn, 1) := by decide +kernel
theorem dX3_isCard_0 : decode cX3_isCard 0 = .ok (.iload_n 0, 1) := by decide +kernel
theorem dX3_isCard_1 : decode cX3_isCard 1 = .ok (.iconst 0, 1) := by decide +kernel
theorem dX3_isCard_2 : decode cX3_isCard 2 = .ok (.bipush 103, 2) := by decide +kernel
theorem dX3_isCard_4 : decode cX3_isCard 4 = .ok (.invokestatic 64, 3) := by decide +kernel
theorem dX3_isCard_7 : decode cX3_isCard 7 = .ok (.ireturn, 1) := by decide +kernel
theorem dX3_where_0 : decode cX3_where 0 = .ok (.iload_n 1, 1) := by decide +kernel
theorem dX3_where_1 : decode cX3_where 1 = .ok (.invokestatic 148, 3) := by decide +kernel
theorem dX3_where_4 : decode cX3_where 4 = .ok (.ifCond .ne 5, 3) := by decide +kernel
theorem dX3_where_7 : decode cX3_where 7 = .ok (.iconst (-1), 1) := by decide +kernel
theorem dX3_where_8 : decode cX3_where 8 = .ok (.ireturn, 1) := by decide +kernel
theorem dX3_where_9 : decode cX3_where 9 = .ok (.iload_n 2, 1) := by decide +kernel
theorem dX3_where_10 : decode cX3_where 10 = .ok (.ifCond .ne 14, 3) := by decide +kernel
theorem dX3_where_13 : decode cX3_where 13 = .ok (.aload_n 0, 1) := by decide +kernel
theorem dX3_where_14 : decode cX3_where 14 = .ok (.getfield 7, 3) := by decide +kernel
theorem dX3_where_17 : decode cX3_where 17 = .ok (.iconst 0, 1) := by decide +kernel
theorem dX3_where_18 : decode cX3_where 18 = .ok (.iload_n 1, 1) := by decide +kernel
theorem dX3_where_19 : decode cX3_where 19 = .ok (.iadd, 1) := by decide +kernel
theorem dX3_where_20 : decode cX3_where 20 = .ok (.iaload, 1) := by decide +kernel
theorem dX3_where_21 : decode cX3_where 21 = .ok (.goto 22, 3) := by decide +kernel
theorem dX3_where_24 : decode cX3_where 24 = .ok (.iload_n 2, 1) := by decide +kernel
theorem dX3_where_25 : decode cX3_where 25 = .ok (.iconst 1, 1) := by decide +kernel
theorem dX3_where_26 : decode cX3_where 26 = .ok (.if_icmp .ne 15, 3) := by decide +kernel
theorem dX3_where_29 : decode cX3_where 29 = .ok (.aload_n 0, 1) := by decide +kernel
theorem dX3_where_30 : decode cX3_where 30 = .ok (.getfield 7, 3) := by decide +kernel
theorem dX3_where_33 : decode cX3_where 33 = .ok (.bipush 104, 2) := by decide +kernel
theorem dX3_where_35 : decode cX3_where 35 = .ok (.iload_n 1, 1) := by decide +kernel
theorem dX3_where_36 : decode cX3_where 36 = .ok (.iadd, 1) := by decide +kernel
theorem dX3_where_37 : decode cX3_where 37 = .ok (.iaload, 1) := by decide +kernel
theorem dX3_where_38 : decode cX3_where 38 = .ok (.goto 5, 3) := by decide +kernel
theorem dX3_where_41 : decode cX3_where 41 = .ok (.bipush (-2), 2) := by decide +kernel
theorem dX3_where_43 : decode cX3_where 43 = .ok (.ireturn, 1) := by decide +kernel
theorem dX3_longestHouse_0 : decode cX3_longestHouse 0 = .ok (.iconst 0, 1) := by decide +kernel
theorem dX3_longestHouse_1 : decode cX3_longestHouse 1 = .ok (.istore_n 2, 1) := by decide +kernel
theorem dX3_longestHouse_2 : decode cX3_longestHouse 2 = .ok (.iconst 0, 1) := by decide +kernel
theorem dX3_longestHouse_3 : decode cX3_longestHouse 3 = .ok (.istore_n 3, 1) := by decide +kernel
theorem dX3_longestHouse_4 : decode cX3_longestHouse 4 = .ok (.iload_n 3, 1) := by decide +kernel
theorem dX3_longestHouse_5 : decode cX3_longestHouse 5 = .ok (.iconst 4, 1) := by decide +kernel
theorem dX3_longestHouse_6 : decode cX3_longestHouse 6 = .ok (.if_icmp .ge 44, 3) := by decide +kernel
theorem dX3_longestHouse_9 : decode cX3_longestHouse 9 = .ok (.aload_n 0, 1) := by decide +kernel
theorem dX3_longestHouse_10 : decode cX3_longestHouse 10 = .ok (.getfield 28, 3) := by decide +kernel
theorem dX3_longestHouse_13 : decode cX3_longestHouse 13 = .ok (.bipush 6, 2) := by decide +kernel
theorem dX3_longestHouse_15 : decode cX3_longestHouse 15 = .ok (.iconst 4, 1) := by decide +kernel
theorem dX3_longestHouse_16 : decode cX3_longestHouse 16 = .ok (.iload_n 1, 1) := by decide +kernel
theorem dX3_longestHouse_17 : decode cX3_longestHouse 17 = .ok (.imul, 1) := by decide +kernel
theorem dX3_longestHouse_18 : decode cX3_longestHouse 18 = .ok (.iadd, 1) := by decide +kernel
theorem dX3_longestHouse_19 : decode cX3_longestHouse 19 = .ok (.iload_n 3, 1) := by decide +kernel
theorem dX3_longestHouse_20 : decode cX3_longestHouse 20 = .ok (.iadd, 1) := by decide +kernel
theorem dX3_longestHouse_21 : decode cX3_longestHouse 21 = .ok (.iaload, 1) := by decide +kernel
theorem dX3_longestHouse_22 : decode cX3_longestHouse 22 = .ok (.iload_n 2, 1) := by decide +kernel
theorem dX3_longestHouse_23 : decode cX3_longestHouse 23 = .ok (.if_icmp .le 19, 3) := by decide +kernel
theorem dX3_longestHouse_26 : decode cX3_longestHouse 26 = .ok (.aload_n 0, 1) := by decide +kernel
theorem dX3_longestHouse_27 : decode cX3_longestHouse 27 = .ok (.getfield 28, 3) := by decide +kernel
theorem dX3_longestHouse_30 : decode cX3_longestHouse 30 = .ok (.bipush 6, 2) := by decide +kernel
theorem dX3_longestHouse_32 : decode cX3_longestHouse 32 = .ok (.iconst 4, 1) := by decide +kernel
theorem dX3_longestHouse_33 : decode cX3_longestHouse 33 = .ok (.iload_n 1, 1) := by decide +kernel
theorem dX3_longestHouse_34 : decode cX3_longestHouse 34 = .ok (.imul, 1) := by decide +kernel
theorem dX3_longestHouse_35 : decode cX3_longestHouse 35 = .ok (.iadd, 1) := by decide +kernel
theorem dX3_longestHouse_36 : decode cX3_longestHouse 36 = .ok (.iload_n 3, 1) := by decide +kernel
theorem dX3_longestHouse_37 : decode cX3_longestHouse 37 = .ok (.iadd, 1) := by decide +kernel
theorem dX3_longestHouse_38 : decode cX3_longestHouse 38 = .ok (.iaload, 1) := by decide +kernel
theorem dX3_longestHouse_39 : decode cX3_longestHouse 39 = .ok (.goto 4, 3) := by decide +kernel
theorem dX3_longestHouse_42 : decode cX3_longestHouse 42 = .ok (.iload_n 2, 1) := by decide +kernel
theorem dX3_longestHouse_43 : decode cX3_longestHouse 43 = .ok (.istore_n 2, 1) := by decide +kernel
theorem dX3_longestHouse_44 : decode cX3_longestHouse 44 = .ok (.iinc 3 1, 3) := by decide +kernel
theorem dX3_longestHouse_47 : decode cX3_longestHouse 47 = .ok (.goto (-43), 3) := by decide +kernel
theorem dX3_longestHouse_50 : decode cX3_longestHouse 50 = .ok (.iload_n 2, 1) := by decide +kernel
theorem dX3_longestHouse_51 : decode cX3_longestHouse 51 = .ok (.ireturn, 1) := by decide +kernel
theorem dX3_side_0 : decode cX3_side 0 = .ok (.iload_n 1, 1) := by decide +kernel
theorem dX3_side_1 : decode cX3_side 1 = .ok (.iconst 0, 1) := by decide +kernel
theorem dX3_side_2 : decode cX3_side 2 = .ok (.iconst 1, 1) := by decide +kernel
theorem dX3_side_3 : decode cX3_side 3 = .ok (.invokestatic 64, 3) := by decide +kernel
theorem dX3_side_6 : decode cX3_side 6 = .ok (.ifCond .ne 6, 3) := by decide +kernel
theorem dX3_side_9 : decode cX3_side 9 = .ok (.bipush (-2), 2) := by decide +kernel
theorem dX3_side_11 : decode cX3_side 11 = .ok (.ireturn, 1) := by decide +kernel
theorem dX3_side_12 : decode cX3_side 12 = .ok (.aload_n 0, 1) := by decide +kernel
theorem dX3_side_13 : decode cX3_side 13 = .ok (.invokevirtual 102, 3) := by decide +kernel
theorem dX3_side_16 : decode cX3_side 16 = .ok (.iload_n 2, 1) := by decide +kernel
theorem dX3_side_17 : decode cX3_side 17 = .ok (.tableswitch 65 0 3 #[31, 42, 53, 59], 31) := by decide +kernel
theorem dX3_side_48 : decode cX3_side 48 = .ok (.aload_n 0, 1) := by decide +kernel
theorem dX3_side_49 : decode cX3_side 49 = .ok (.getfield 7, 3) := by decide +kernel
theorem dX3_side_52 : decode cX3_side 52 = .ok (.sipush 208, 3) := by decide +kernel
theorem dX3_side_55 : decode cX3_side 55 = .ok (.iload_n 1, 1) := by decide +kernel
theorem dX3_side_56 : decode cX3_side 56 = .ok (.iadd, 1) := by decide +kernel
theorem dX3_side_57 : decode cX3_side 57 = .ok (.iaload, 1) := by decide +kernel
theorem dX3_side_58 : decode cX3_side 58 = .ok (.ireturn, 1) := by decide +kernel
theorem dX3_side_59 : decode cX3_side 59 = .ok (.aload_n 0, 1) := by decide +kernel
theorem dX3_side_60 : decode cX3_side 60 = .ok (.getfield 7, 3) := by decide +kernel
theorem dX3_side_63 : decode cX3_side 63 = .ok (.sipush 210, 3) := by decide +kernel
theorem dX3_side_66 : decode cX3_side 66 = .ok (.iload_n 1, 1) := by decide +kernel
theorem dX3_side_67 : decode cX3_side 67 = .ok (.iadd, 1) := by decide +kernel
theorem dX3_side_68 : decode cX3_side 68 = .ok (.iaload, 1) := by decide +kernel
theorem dX3_side_69 : decode cX3_side 69 = .ok (.ireturn, 1) := by decide +kernel
theorem dX3_side_70 : decode cX3_side 70 = .ok (.aload_n 0, 1) := by decide +kernel
theorem dX3_side_71 : decode cX3_side 71 = .ok (.iload_n 1, 1) := by decide +kernel
theorem dX3_side_72 : decode cX3_side 72 = .ok (.invokevirtual 105, 3) := by decide +kernel
theorem dX3_side_75 : decode cX3_side 75 = .ok (.ireturn, 1) := by decide +kernel
theorem dX3_side_76 : decode cX3_side 76 = .ok (.aload_n 0, 1) := by decide +kernel
theorem dX3_side_77 : decode cX3_side 77 = .ok (.iload_n 1, 1) := by decide +kernel
theorem dX3_side_78 : decode cX3_side 78 = .ok (.invokevirtual 151, 3) := by decide +kernel
theorem dX3_side_81 : decode cX3_side 81 = .ok (.ireturn, 1) := by decide +kernel
theorem dX3_side_82 : decode cX3_side 82 = .ok (.bipush (-2), 2) := by decide +kernel
theorem dX3_side_84 : decode cX3_side 84 = .ok (.ireturn, 1) := by decide +kernel
theorem dX3_onAces_0 : decode cX3_onAces 0 = .ok (.iconst 0, 1) := by decide +kernel
theorem dX3_onAces_1 : decode cX3_onAces 1 = .ok (.istore_n 1, 1) := by decide +kernel
theorem dX3_onAces_2 : decode cX3_onAces 2 = .ok (.bipush 14, 2) := by decide +kernel
theorem dX3_onAces_4 : decode cX3_onAces 4 = .ok (.istore_n 2, 1) := by decide +kernel
theorem dX3_onAces_5 : decode cX3_onAces 5 = .ok (.iload_n 2, 1) := by decide +kernel
theorem dX3_onAces_6 : decode cX3_onAces 6 = .ok (.bipush 22, 2) := by decide +kernel
theorem dX3_onAces_8 : decode cX3_onAces 8 = .ok (.if_icmp .ge 18, 3) := by decide +kernel
theorem dX3_onAces_11 : decode cX3_onAces 11 = .ok (.iload_n 1, 1) := by decide +kernel
theorem dX3_onAces_12 : decode cX3_onAces 12 = .ok (.aload_n 0, 1) := by decide +kernel
theorem dX3_onAces_13 : decode cX3_onAces 13 = .ok (.getfield 28, 3) := by decide +kernel
theorem dX3_onAces_16 : decode cX3_onAces 16 = .ok (.iload_n 2, 1) := by decide +kernel
theorem dX3_onAces_17 : decode cX3_onAces 17 = .ok (.iaload, 1) := by decide +kernel
theorem dX3_onAces_18 : decode cX3_onAces 18 = .ok (.iadd, 1) := by decide +kernel
theorem dX3_onAces_19 : decode cX3_onAces 19 = .ok (.istore_n 1, 1) := by decide +kernel
theorem dX3_onAces_20 : decode cX3_onAces 20 = .ok (.iinc 2 1, 3) := by decide +kernel
theorem dX3_onAces_23 : decode cX3_onAces 23 = .ok (.goto (-18), 3) := by decide +kernel
theorem dX3_onAces_26 : decode cX3_onAces 26 = .ok (.iload_n 1, 1) := by decide +kernel
theorem dX3_onAces_27 : decode cX3_onAces 27 = .ok (.ireturn, 1) := by decide +kernel
theorem dX3_frozenMany_0 : decode cX3_frozenMany 0 = .ok (.iconst 0, 1) := by decide +kernel
theorem dX3_frozenMany_1 : decode cX3_frozenMany 1 = .ok (.istore_n 1, 1) := by decide +kernel
theorem dX3_frozenMany_2 : decode cX3_frozenMany 2 = .ok (.iconst 0, 1) := by decide +kernel
theorem dX3_frozenMany_3 : decode cX3_frozenMany 3 = .ok (.istore_n 2, 1) := by decide +kernel
theorem dX3_frozenMany_4 : decode cX3_frozenMany 4 = .ok (.iload_n 2, 1) := by decide +kernel
theorem dX3_frozenMany_5 : decode cX3_frozenMany 5 = .ok (.bipush 8, 2) := by decide +kernel
theorem dX3_frozenMany_7 : decode cX3_frozenMany 7 = .ok (.if_icmp .ge 30, 3) := by decide +kernel
theorem dX3_frozenMany_10 : decode cX3_frozenMany 10 = .ok (.iload_n 1, 1) := by decide +kernel
theorem dX3_frozenMany_11 : decode cX3_frozenMany 11 = .ok (.aload_n 0, 1) := by decide +kernel
theorem dX3_frozenMany_12 : decode cX3_frozenMany 12 = .ok (.getfield 7, 3) := by decide +kernel
theorem dX3_frozenMany_15 : decode cX3_frozenMany 15 = .ok (.sipush 212, 3) := by decide +kernel
theorem dX3_frozenMany_18 : decode cX3_frozenMany 18 = .ok (.iload_n 2, 1) := by decide +kernel
theorem dX3_frozenMany_19 : decode cX3_frozenMany 19 = .ok (.iadd, 1) := by decide +kernel
theorem dX3_frozenMany_20 : decode cX3_frozenMany 20 = .ok (.iaload, 1) := by decide +kernel
theorem dX3_frozenMany_21 : decode cX3_frozenMany 21 = .ok (.ifCond .le 7, 3) := by decide +kernel
theorem dX3_frozenMany_24 : decode cX3_frozenMany 24 = .ok (.iconst 1, 1) := by decide +kernel
theorem dX3_frozenMany_25 : decode cX3_frozenMany 25 = .ok (.goto 4, 3) := by decide +kernel
theorem dX3_frozenMany_28 : decode cX3_frozenMany 28 = .ok (.iconst 0, 1) := by decide +kernel
theorem dX3_frozenMany_29 : decode cX3_frozenMany 29 = .ok (.iadd, 1) := by decide +kernel
theorem dX3_frozenMany_30 : decode cX3_frozenMany 30 = .ok (.istore_n 1, 1) := by decide +kernel
theorem dX3_frozenMany_31 : decode cX3_frozenMany 31 = .ok (.iinc 2 1, 3) := by decide +kernel
theorem dX3_frozenMany_34 : decode cX3_frozenMany 34 = .ok (.goto (-30), 3) := by decide +kernel
theorem dX3_frozenMany_37 : decode cX3_frozenMany 37 = .ok (.iload_n 1, 1) := by decide +kernel
theorem dX3_frozenMany_38 : decode cX3_frozenMany 38 = .ok (.ireturn, 1) := by decide +kernel
theorem dX3_count_0 : decode cX3_count 0 = .ok (.aload_n 0, 1) := by decide +kernel
theorem dX3_count_1 : decode cX3_count 1 = .ok (.invokevirtual 102, 3) := by decide +kernel
theorem dX3_count_4 : decode cX3_count 4 = .ok (.iload_n 1, 1) := by decide +kernel
theorem dX3_count_5 : decode cX3_count 5 = .ok (.tableswitch 89 0 8 #[51, 51, 51, 51, 62, 67, 74, 79, 84], 51) := by decide +kernel
theorem dX3_count_56 : decode cX3_count 56 = .ok (.aload_n 0, 1) := by decide +kernel
theorem dX3_count_57 : decode cX3_count 57 = .ok (.getfield 7, 3) := by decide +kernel
theorem dX3_count_60 : decode cX3_count 60 = .ok (.sipush 220, 3) := by decide +kernel
theorem dX3_count_63 : decode cX3_count 63 = .ok (.iload_n 1, 1) := by decide +kernel
theorem dX3_count_64 : decode cX3_count 64 = .ok (.iadd, 1) := by decide +kernel
theorem dX3_count_65 : decode cX3_count 65 = .ok (.iaload, 1) := by decide +kernel
theorem dX3_count_66 : decode cX3_count 66 = .ok (.ireturn, 1) := by decide +kernel
theorem dX3_count_67 : decode cX3_count 67 = .ok (.aload_n 0, 1) := by decide +kernel
theorem dX3_count_68 : decode cX3_count 68 = .ok (.invokevirtual 154, 3) := by decide +kernel
theorem dX3_count_71 : decode cX3_count 71 = .ok (.ireturn, 1) := by decide +kernel
theorem dX3_count_72 : decode cX3_count 72 = .ok (.aload_n 0, 1) := by decide +kernel
theorem dX3_count_73 : decode cX3_count 73 = .ok (.bipush (-6), 2) := by decide +kernel
theorem dX3_count_75 : decode cX3_count 75 = .ok (.invokevirtual 157, 3) := by decide +kernel
theorem dX3_count_78 : decode cX3_count 78 = .ok (.ireturn, 1) := by decide +kernel
theorem dX3_count_79 : decode cX3_count 79 = .ok (.aload_n 0, 1) := by decide +kernel
theorem dX3_count_80 : decode cX3_count 80 = .ok (.invokevirtual 160, 3) := by decide +kernel
theorem dX3_count_83 : decode cX3_count 83 = .ok (.ireturn, 1) := by decide +kernel
theorem dX3_count_84 : decode cX3_count 84 = .ok (.aload_n 0, 1) := by decide +kernel
theorem dX3_count_85 : decode cX3_count 85 = .ok (.getfield 163, 3) := by decide +kernel
theorem dX3_count_88 : decode cX3_count 88 = .ok (.ireturn, 1) := by decide +kernel
theorem dX3_count_89 : decode cX3_count 89 = .ok (.aload_n 0, 1) := by decide +kernel
theorem dX3_count_90 : decode cX3_count 90 = .ok (.getfield 41, 3) := by decide +kernel
theorem dX3_count_93 : decode cX3_count 93 = .ok (.ireturn, 1) := by decide +kernel
theorem dX3_count_94 : decode cX3_count 94 = .ok (.bipush (-2), 2) := by decide +kernel
theorem dX3_count_96 : decode cX3_count 96 = .ok (.ireturn, 1) := by decide +kernel
theorem dX3_ofMove_0 : decode cX3_ofMove 0 = .ok (.aload_n 0, 1) := by decide +kernel
theorem dX3_ofMove_1 : decode cX3_ofMove 1 = .ok (.invokevirtual 102, 3) := by decide +kernel
theorem dX3_ofMove_4 : decode cX3_ofMove 4 = .ok (.aload_n 0, 1) := by decide +kernel
theorem dX3_ofMove_5 : decode cX3_ofMove 5 = .ok (.iload_n 1, 1) := by decide +kernel
theorem dX3_ofMove_6 : decode cX3_ofMove 6 = .ok (.ifCond .ge 8, 3) := by decide +kernel
theorem dX3_ofMove_9 : decode cX3_ofMove 9 = .ok (.bipush (-6), 2) := by decide +kernel
theorem dX3_ofMove_11 : decode cX3_ofMove 11 = .ok (.goto 4, 3) := by decide +kernel
theorem dX3_ofMove_14 : decode cX3_ofMove 14 = .ok (.iload_n 1, 1) := by decide +kernel
theorem dX3_ofMove_15 : decode cX3_ofMove 15 = .ok (.invokevirtual 157, 3) := by decide +kernel
theorem dX3_ofMove_18 : decode cX3_ofMove 18 = .ok (.pop, 1) := by decide +kernel
theorem dX3_ofMove_19 : decode cX3_ofMove 19 = .ok (.aload_n 0, 1) := by decide +kernel
theorem dX3_ofMove_20 : decode cX3_ofMove 20 = .ok (.getfield 111, 3) := by decide +kernel
theorem dX3_ofMove_23 : decode cX3_ofMove 23 = .ok (.bipush (-6), 2) := by decide +kernel
theorem dX3_ofMove_25 : decode cX3_ofMove 25 = .ok (.if_icmp .ne 5, 3) := by decide +kernel
theorem dX3_ofMove_28 : decode cX3_ofMove 28 = .ok (.iconst (-1), 1) := by decide +kernel
theorem dX3_ofMove_29 : decode cX3_ofMove 29 = .ok (.ireturn, 1) := by decide +kernel
theorem dX3_ofMove_30 : decode cX3_ofMove 30 = .ok (.iload_n 2, 1) := by decide +kernel
theorem dX3_ofMove_31 : decode cX3_ofMove 31 = .ok (.tableswitch 48 0 2 #[25, 30, 35], 25) := by decide +kernel
theorem dX3_ofMove_56 : decode cX3_ofMove 56 = .ok (.aload_n 0, 1) := by decide +kernel
theorem dX3_ofMove_57 : decode cX3_ofMove 57 = .ok (.getfield 111, 3) := by decide +kernel
theorem dX3_ofMove_60 : decode cX3_ofMove 60 = .ok (.ireturn, 1) := by decide +kernel
theorem dX3_ofMove_61 : decode cX3_ofMove 61 = .ok (.aload_n 0, 1) := by decide +kernel
theorem dX3_ofMove_62 : decode cX3_ofMove 62 = .ok (.getfield 117, 3) := by decide +kernel
theorem dX3_ofMove_65 : decode cX3_ofMove 65 = .ok (.ireturn, 1) := by decide +kernel
theorem dX3_ofMove_66 : decode cX3_ofMove 66 = .ok (.aload_n 0, 1) := by decide +kernel
theorem dX3_ofMove_67 : decode cX3_ofMove 67 = .ok (.aload_n 0, 1) := by decide +kernel
theorem dX3_ofMove_68 : decode cX3_ofMove 68 = .ok (.getfield 111, 3) := by decide +kernel
theorem dX3_ofMove_71 : decode cX3_ofMove 71 = .ok (.aload_n 0, 1) := by decide +kernel
theorem dX3_ofMove_72 : decode cX3_ofMove 72 = .ok (.getfield 117, 3) := by decide +kernel
theorem dX3_ofMove_75 : decode cX3_ofMove 75 = .ok (.invokevirtual 98, 3) := by decide +kernel
theorem dX3_ofMove_78 : decode cX3_ofMove 78 = .ok (.ireturn, 1) := by decide +kernel
theorem dX3_ofMove_79 : decode cX3_ofMove 79 = .ok (.bipush (-2), 2) := by decide +kernel
theorem dX3_ofMove_81 : decode cX3_ofMove 81 = .ok (.ireturn, 1) := by decide +kernel
theorem dX3_best_0 : decode cX3_best 0 = .ok (.aload_n 0, 1) := by decide +kernel
theorem dX3_best_1 : decode cX3_best 1 = .ok (.invokevirtual 102, 3) := by decide +kernel
theorem dX3_best_4 : decode cX3_best 4 = .ok (.aload_n 0, 1) := by decide +kernel
theorem dX3_best_5 : decode cX3_best 5 = .ok (.invokevirtual 120, 3) := by decide +kernel
theorem dX3_best_8 : decode cX3_best 8 = .ok (.ireturn, 1) := by decide +kernel
theorem dX3_ifPlayed_0 : decode cX3_ifPlayed 0 = .ok (.iload_n 1, 1) := by decide +kernel
theorem dX3_ifPlayed_1 : decode cX3_ifPlayed 1 = .ok (.iconst 1, 1) := by decide +kernel
theorem dX3_ifPlayed_2 : decode cX3_ifPlayed 2 = .ok (.sipush 200, 3) := by decide +kernel
theorem dX3_ifPlayed_5 : decode cX3_ifPlayed 5 = .ok (.invokestatic 64, 3) := by decide +kernel
theorem dX3_ifPlayed_8 : decode cX3_ifPlayed 8 = .ok (.ifCond .eq 12, 3) := by decide +kernel
theorem dX3_ifPlayed_11 : decode cX3_ifPlayed 11 = .ok (.iload_n 2, 1) := by decide +kernel
theorem dX3_ifPlayed_12 : decode cX3_ifPlayed 12 = .ok (.iconst 0, 1) := by decide +kernel
theorem dX3_ifPlayed_13 : decode cX3_ifPlayed 13 = .ok (.iconst 3, 1) := by decide +kernel
theorem dX3_ifPlayed_14 : decode cX3_ifPlayed 14 = .ok (.invokestatic 64, 3) := by decide +kernel
theorem dX3_ifPlayed_17 : decode cX3_ifPlayed 17 = .ok (.ifCond .ne 6, 3) := by decide +kernel
theorem dX3_ifPlayed_20 : decode cX3_ifPlayed 20 = .ok (.bipush (-2), 2) := by decide +kernel
theorem dX3_ifPlayed_22 : decode cX3_ifPlayed 22 = .ok (.ireturn, 1) := by decide +kernel
theorem dX3_ifPlayed_23 : decode cX3_ifPlayed 23 = .ok (.aload_n 0, 1) := by decide +kernel
theorem dX3_ifPlayed_24 : decode cX3_ifPlayed 24 = .ok (.getfield 7, 3) := by decide +kernel
theorem dX3_ifPlayed_27 : decode cX3_ifPlayed 27 = .ok (.iconst 0, 1) := by decide +kernel
theorem dX3_ifPlayed_28 : decode cX3_ifPlayed 28 = .ok (.aload_n 0, 1) := by decide +kernel
theorem dX3_ifPlayed_29 : decode cX3_ifPlayed 29 = .ok (.getfield 13, 3) := by decide +kernel
theorem dX3_ifPlayed_32 : decode cX3_ifPlayed 32 = .ok (.iconst 0, 1) := by decide +kernel
theorem dX3_ifPlayed_33 : decode cX3_ifPlayed 33 = .ok (.invokestatic 45, 3) := by decide +kernel
theorem dX3_ifPlayed_36 : decode cX3_ifPlayed 36 = .ok (.aload_n 0, 1) := by decide +kernel
theorem dX3_ifPlayed_37 : decode cX3_ifPlayed 37 = .ok (.iload_n 1, 1) := by decide +kernel
theorem dX3_ifPlayed_38 : decode cX3_ifPlayed 38 = .ok (.invokevirtual 145, 3) := by decide +kernel
theorem dX3_ifPlayed_41 : decode cX3_ifPlayed 41 = .ok (.pop, 1) := by decide +kernel
theorem dX3_ifPlayed_42 : decode cX3_ifPlayed 42 = .ok (.aload_n 0, 1) := by decide +kernel
theorem dX3_ifPlayed_43 : decode cX3_ifPlayed 43 = .ok (.invokevirtual 102, 3) := by decide +kernel
theorem dX3_ifPlayed_46 : decode cX3_ifPlayed 46 = .ok (.iload_n 2, 1) := by decide +kernel
theorem dX3_ifPlayed_47 : decode cX3_ifPlayed 47 = .ok (.iconst 2, 1) := by decide +kernel
theorem dX3_ifPlayed_48 : decode cX3_ifPlayed 48 = .ok (.if_icmp .ge 16, 3) := by decide +kernel
theorem dX3_ifPlayed_51 : decode cX3_ifPlayed 51 = .ok (.aload_n 0, 1) := by decide +kernel
theorem dX3_ifPlayed_52 : decode cX3_ifPlayed 52 = .ok (.getfield 7, 3) := by decide +kernel
theorem dX3_ifPlayed_55 : decode cX3_ifPlayed 55 = .ok (.sipush 208, 3) := by decide +kernel
theorem dX3_ifPlayed_58 : decode cX3_ifPlayed 58 = .ok (.iload_n 2, 1) := by decide +kernel
theorem dX3_ifPlayed_59 : decode cX3_ifPlayed 59 = .ok (.iadd, 1) := by decide +kernel
theorem dX3_ifPlayed_60 : decode cX3_ifPlayed 60 = .ok (.iaload, 1) := by decide +kernel
theorem dX3_ifPlayed_61 : decode cX3_ifPlayed 61 = .ok (.goto 32, 3) := by decide +kernel
theorem dX3_ifPlayed_64 : decode cX3_ifPlayed 64 = .ok (.iload_n 2, 1) := by decide +kernel
theorem dX3_ifPlayed_65 : decode cX3_ifPlayed 65 = .ok (.iconst 2, 1) := by decide +kernel
theorem dX3_ifPlayed_66 : decode cX3_ifPlayed 66 = .ok (.if_icmp .ne 10, 3) := by decide +kernel
theorem dX3_ifPlayed_69 : decode cX3_ifPlayed 69 = .ok (.aload_n 0, 1) := by decide +kernel
theorem dX3_ifPlayed_70 : decode cX3_ifPlayed 70 = .ok (.invokevirtual 154, 3) := by decide +kernel
theorem dX3_ifPlayed_73 : decode cX3_ifPlayed 73 = .ok (.goto 20, 3) := by decide +kernel
theorem dX3_ifPlayed_76 : decode cX3_ifPlayed 76 = .ok (.aload_n 0, 1) := by decide +kernel
theorem dX3_ifPlayed_77 : decode cX3_ifPlayed 77 = .ok (.getfield 7, 3) := by decide +kernel
theorem dX3_ifPlayed_80 : decode cX3_ifPlayed 80 = .ok (.sipush 222, 3) := by decide +kernel
theorem dX3_ifPlayed_83 : decode cX3_ifPlayed 83 = .ok (.iaload, 1) := by decide +kernel
theorem dX3_ifPlayed_84 : decode cX3_ifPlayed 84 = .ok (.aload_n 0, 1) := by decide +kernel
theorem dX3_ifPlayed_85 : decode cX3_ifPlayed 85 = .ok (.getfield 13, 3) := by decide +kernel
theorem dX3_ifPlayed_88 : decode cX3_ifPlayed 88 = .ok (.sipush 222, 3) := by decide +kernel
theorem dX3_ifPlayed_91 : decode cX3_ifPlayed 91 = .ok (.iaload, 1) := by decide +kernel
theorem dX3_ifPlayed_92 : decode cX3_ifPlayed 92 = .ok (.isub, 1) := by decide +kernel
theorem dX3_ifPlayed_93 : decode cX3_ifPlayed 93 = .ok (.istore_n 3, 1) := by decide +kernel
theorem dX3_ifPlayed_94 : decode cX3_ifPlayed 94 = .ok (.aload_n 0, 1) := by decide +kernel
theorem dX3_ifPlayed_95 : decode cX3_ifPlayed 95 = .ok (.getfield 13, 3) := by decide +kernel
theorem dX3_ifPlayed_98 : decode cX3_ifPlayed 98 = .ok (.iconst 0, 1) := by decide +kernel
theorem dX3_ifPlayed_99 : decode cX3_ifPlayed 99 = .ok (.aload_n 0, 1) := by decide +kernel
theorem dX3_ifPlayed_100 : decode cX3_ifPlayed 100 = .ok (.getfield 7, 3) := by decide +kernel
theorem dX3_ifPlayed_103 : decode cX3_ifPlayed 103 = .ok (.iconst 0, 1) := by decide +kernel
theorem dX3_ifPlayed_104 : decode cX3_ifPlayed 104 = .ok (.invokestatic 45, 3) := by decide +kernel
theorem dX3_ifPlayed_107 : decode cX3_ifPlayed 107 = .ok (.iload_n 3, 1) := by decide +kernel
theorem dX3_ifPlayed_108 : decode cX3_ifPlayed 108 = .ok (.ireturn, 1) := by decide +kernel
theorem dX3_fitsSomeAces_0 : decode cX3_fitsSomeAces 0 = .ok (.iconst 0, 1) := by decide +kernel
theorem dX3_fitsSomeAces_1 : decode cX3_fitsSomeAces 1 = .ok (.istore_n 2, 1) := by decide +kernel
theorem dX3_fitsSomeAces_2 : decode cX3_fitsSomeAces 2 = .ok (.bipush 14, 2) := by decide +kernel
theorem dX3_fitsSomeAces_4 : decode cX3_fitsSomeAces 4 = .ok (.istore_n 3, 1) := by decide +kernel
theorem dX3_fitsSomeAces_5 : decode cX3_fitsSomeAces 5 = .ok (.iload_n 3, 1) := by decide +kernel
theorem dX3_fitsSomeAces_6 : decode cX3_fitsSomeAces 6 = .ok (.bipush 22, 2) := by decide +kernel
theorem dX3_fitsSomeAces_8 : decode cX3_fitsSomeAces 8 = .ok (.if_icmp .ge 28, 3) := by decide +kernel
theorem dX3_fitsSomeAces_11 : decode cX3_fitsSomeAces 11 = .ok (.iload_n 2, 1) := by decide +kernel
theorem dX3_fitsSomeAces_12 : decode cX3_fitsSomeAces 12 = .ok (.ifCond .ne 12, 3) := by decide +kernel
theorem dX3_fitsSomeAces_15 : decode cX3_fitsSomeAces 15 = .ok (.aload_n 0, 1) := by decide +kernel
theorem dX3_fitsSomeAces_16 : decode cX3_fitsSomeAces 16 = .ok (.iload_n 1, 1) := by decide +kernel
theorem dX3_fitsSomeAces_17 : decode cX3_fitsSomeAces 17 = .ok (.iload_n 3, 1) := by decide +kernel
theorem dX3_fitsSomeAces_18 : decode cX3_fitsSomeAces 18 = .ok (.invokevirtual 88, 3) := by decide +kernel
theorem dX3_fitsSomeAces_21 : decode cX3_fitsSomeAces 21 = .ok (.ifCond .eq 7, 3) := by decide +kernel
theorem dX3_fitsSomeAces_24 : decode cX3_fitsSomeAces 24 = .ok (.iconst 1, 1) := by decide +kernel
theorem dX3_fitsSomeAces_25 : decode cX3_fitsSomeAces 25 = .ok (.goto 4, 3) := by decide +kernel
theorem dX3_fitsSomeAces_28 : decode cX3_fitsSomeAces 28 = .ok (.iconst 0, 1) := by decide +kernel
theorem dX3_fitsSomeAces_29 : decode cX3_fitsSomeAces 29 = .ok (.istore_n 2, 1) := by decide +kernel
theorem dX3_fitsSomeAces_30 : decode cX3_fitsSomeAces 30 = .ok (.iinc 3 1, 3) := by decide +kernel
theorem dX3_fitsSomeAces_33 : decode cX3_fitsSomeAces 33 = .ok (.goto (-28), 3) := by decide +kernel
theorem dX3_fitsSomeAces_36 : decode cX3_fitsSomeAces 36 = .ok (.iload_n 2, 1) := by decide +kernel
theorem dX3_fitsSomeAces_37 : decode cX3_fitsSomeAces 37 = .ok (.ifCond .eq 18, 3) := by decide +kernel
theorem dX3_fitsSomeAces_40 : decode cX3_fitsSomeAces 40 = .ok (.aload_n 0, 1) := by decide +kernel
theorem dX3_fitsSomeAces_41 : decode cX3_fitsSomeAces 41 = .ok (.getfield 7, 3) := by decide +kernel
theorem dX3_fitsSomeAces_44 : decode cX3_fitsSomeAces 44 = .ok (.sipush 221, 3) := by decide +kernel
theorem dX3_fitsSomeAces_47 : decode cX3_fitsSomeAces 47 = .ok (.iaload, 1) := by decide +kernel
theorem dX3_fitsSomeAces_48 : decode cX3_fitsSomeAces 48 = .ok (.ifCond .ne 7, 3) := by decide +kernel
theorem dX3_fitsSomeAces_51 : decode cX3_fitsSomeAces 51 = .ok (.iconst 1, 1) := by decide +kernel
theorem dX3_fitsSomeAces_52 : decode cX3_fitsSomeAces 52 = .ok (.goto 4, 3) := by decide +kernel
theorem dX3_fitsSomeAces_55 : decode cX3_fitsSomeAces 55 = .ok (.iconst 0, 1) := by decide +kernel
theorem dX3_fitsSomeAces_56 : decode cX3_fitsSomeAces 56 = .ok (.ireturn, 1) := by decide +kernel
theorem dX3_buried_0 : decode cX3_buried 0 = .ok (.iload_n 1, 1) := by decide +kernel
theorem dX3_buried_1 : decode cX3_buried 1 = .ok (.invokestatic 148, 3) := by decide +kernel
theorem dX3_buried_4 : decode cX3_buried 4 = .ok (.ifCond .ne 5, 3) := by decide +kernel
theorem dX3_buried_7 : decode cX3_buried 7 = .ok (.iconst (-1), 1) := by decide +kernel
theorem dX3_buried_8 : decode cX3_buried 8 = .ok (.ireturn, 1) := by decide +kernel
theorem dX3_buried_9 : decode cX3_buried 9 = .ok (.aload_n 0, 1) := by decide +kernel
theorem dX3_buried_10 : decode cX3_buried 10 = .ok (.invokevirtual 102, 3) := by decide +kernel
theorem dX3_buried_13 : decode cX3_buried 13 = .ok (.aload_n 0, 1) := by decide +kernel
theorem dX3_buried_14 : decode cX3_buried 14 = .ok (.getfield 28, 3) := by decide +kernel
theorem dX3_buried_17 : decode cX3_buried 17 = .ok (.aload_n 0, 1) := by decide +kernel
theorem dX3_buried_18 : decode cX3_buried 18 = .ok (.getfield 7, 3) := by decide +kernel
theorem dX3_buried_21 : decode cX3_buried 21 = .ok (.iconst 0, 1) := by decide +kernel
theorem dX3_buried_22 : decode cX3_buried 22 = .ok (.iload_n 1, 1) := by decide +kernel
theorem dX3_buried_23 : decode cX3_buried 23 = .ok (.iadd, 1) := by decide +kernel
theorem dX3_buried_24 : decode cX3_buried 24 = .ok (.iaload, 1) := by decide +kernel
theorem dX3_buried_25 : decode cX3_buried 25 = .ok (.iaload, 1) := by decide +kernel
theorem dX3_buried_26 : decode cX3_buried 26 = .ok (.iconst 1, 1) := by decide +kernel
theorem dX3_buried_27 : decode cX3_buried 27 = .ok (.isub, 1) := by decide +kernel
theorem dX3_buried_28 : decode cX3_buried 28 = .ok (.aload_n 0, 1) := by decide +kernel
theorem dX3_buried_29 : decode cX3_buried 29 = .ok (.getfield 7, 3) := by decide +kernel
theorem dX3_buried_32 : decode cX3_buried 32 = .ok (.bipush 104, 2) := by decide +kernel
theorem dX3_buried_34 : decode cX3_buried 34 = .ok (.iload_n 1, 1) := by decide +kernel
theorem dX3_buried_35 : decode cX3_buried 35 = .ok (.iadd, 1) := by decide +kernel
theorem dX3_buried_36 : decode cX3_buried 36 = .ok (.iaload, 1) := by decide +kernel
theorem dX3_buried_37 : decode cX3_buried 37 = .ok (.isub, 1) := by decide +kernel
theorem dX3_buried_38 : decode cX3_buried 38 = .ok (.aload_n 0, 1) := by decide +kernel
theorem dX3_buried_39 : decode cX3_buried 39 = .ok (.iload_n 1, 1) := by decide +kernel
theorem dX3_buried_40 : decode cX3_buried 40 = .ok (.invokevirtual 166, 3) := by decide +kernel
theorem dX3_buried_43 : decode cX3_buried 43 = .ok (.ifCond .eq 9, 3) := by decide +kernel
theorem dX3_buried_46 : decode cX3_buried 46 = .ok (.sipush 1000, 3) := by decide +kernel
theorem dX3_buried_49 : decode cX3_buried 49 = .ok (.goto 4, 3) := by decide +kernel
theorem dX3_buried_52 : decode cX3_buried 52 = .ok (.iconst 0, 1) := by decide +kernel
theorem dX3_buried_53 : decode cX3_buried 53 = .ok (.iadd, 1) := by decide +kernel
theorem dX3_buried_54 : decode cX3_buried 54 = .ok (.ireturn, 1) := by decide +kernel
theorem dX3_put_0 : decode cX3_put 0 = .ok (.iconst 0, 1) := by decide +kernel
theorem dX3_put_1 : decode cX3_put 1 = .ok (.istore_n 3, 1) := by decide +kernel
theorem dX3_put_2 : decode cX3_put 2 = .ok (.lload_n 1, 1) := by decide +kernel
theorem dX3_put_3 : decode cX3_put 3 = .ok (.lstore 4, 2) := by decide +kernel
theorem dX3_put_5 : decode cX3_put 5 = .ok (.iconst 1, 1) := by decide +kernel
theorem dX3_put_6 : decode cX3_put 6 = .ok (.istore 6, 2) := by decide +kernel
theorem dX3_put_8 : decode cX3_put 8 = .ok (.iload_n 3, 1) := by decide +kernel
theorem dX3_put_9 : decode cX3_put 9 = .ok (.bipush 8, 2) := by decide +kernel
theorem dX3_put_11 : decode cX3_put 11 = .ok (.if_icmp .ge 56, 3) := by decide +kernel
theorem dX3_put_14 : decode cX3_put 14 = .ok (.lload 4, 2) := by decide +kernel
theorem dX3_put_16 : decode cX3_put 16 = .ok (.ldc2_w 169, 3) := by decide +kernel
theorem dX3_put_19 : decode cX3_put 19 = .ok (.land, 1) := by decide +kernel
theorem dX3_put_20 : decode cX3_put 20 = .ok (.lconst 0, 1) := by decide +kernel
theorem dX3_put_21 : decode cX3_put 21 = .ok (.lcmp, 1) := by decide +kernel
theorem dX3_put_22 : decode cX3_put 22 = .ok (.ifCond .eq 45, 3) := by decide +kernel
theorem dX3_put_25 : decode cX3_put 25 = .ok (.iload 6, 2) := by decide +kernel
theorem dX3_put_27 : decode cX3_put 27 = .ok (.ifCond .eq 24, 3) := by decide +kernel
theorem dX3_put_30 : decode cX3_put 30 = .ok (.lload 4, 2) := by decide +kernel
theorem dX3_put_32 : decode cX3_put 32 = .ok (.ldc2_w 169, 3) := by decide +kernel
theorem dX3_put_35 : decode cX3_put 35 = .ok (.land, 1) := by decide +kernel
theorem dX3_put_36 : decode cX3_put 36 = .ok (.l2i, 1) := by decide +kernel
theorem dX3_put_37 : decode cX3_put 37 = .ok (.bipush 33, 2) := by decide +kernel
theorem dX3_put_39 : decode cX3_put 39 = .ok (.bipush 126, 2) := by decide +kernel
theorem dX3_put_41 : decode cX3_put 41 = .ok (.invokestatic 64, 3) := by decide +kernel
theorem dX3_put_44 : decode cX3_put 44 = .ok (.ifCond .eq 7, 3) := by decide +kernel
theorem dX3_put_47 : decode cX3_put 47 = .ok (.iconst 1, 1) := by decide +kernel
theorem dX3_put_48 : decode cX3_put 48 = .ok (.goto 4, 3) := by decide +kernel
theorem dX3_put_51 : decode cX3_put 51 = .ok (.iconst 0, 1) := by decide +kernel
theorem dX3_put_52 : decode cX3_put 52 = .ok (.istore 6, 2) := by decide +kernel
theorem dX3_put_54 : decode cX3_put 54 = .ok (.lload 4, 2) := by decide +kernel
theorem dX3_put_56 : decode cX3_put 56 = .ok (.bipush 8, 2) := by decide +kernel
theorem dX3_put_58 : decode cX3_put 58 = .ok (.lushr, 1) := by decide +kernel
theorem dX3_put_59 : decode cX3_put 59 = .ok (.lstore 4, 2) := by decide +kernel
theorem dX3_put_61 : decode cX3_put 61 = .ok (.iinc 3 1, 3) := by decide +kernel
theorem dX3_put_64 : decode cX3_put 64 = .ok (.goto (-56), 3) := by decide +kernel
theorem dX3_put_67 : decode cX3_put 67 = .ok (.iload_n 3, 1) := by decide +kernel
theorem dX3_put_68 : decode cX3_put 68 = .ok (.ifCond .eq 15, 3) := by decide +kernel
theorem dX3_put_71 : decode cX3_put 71 = .ok (.iload 6, 2) := by decide +kernel
theorem dX3_put_73 : decode cX3_put 73 = .ok (.ifCond .eq 10, 3) := by decide +kernel
theorem dX3_put_76 : decode cX3_put 76 = .ok (.lload 4, 2) := by decide +kernel
theorem dX3_put_78 : decode cX3_put 78 = .ok (.lconst 0, 1) := by decide +kernel
theorem dX3_put_79 : decode cX3_put 79 = .ok (.lcmp, 1) := by decide +kernel
theorem dX3_put_80 : decode cX3_put 80 = .ok (.ifCond .eq 6, 3) := by decide +kernel
theorem dX3_put_83 : decode cX3_put 83 = .ok (.bipush (-2), 2) := by decide +kernel
theorem dX3_put_85 : decode cX3_put 85 = .ok (.ireturn, 1) := by decide +kernel
theorem dX3_put_86 : decode cX3_put 86 = .ok (.aload_n 0, 1) := by decide +kernel
theorem dX3_put_87 : decode cX3_put 87 = .ok (.getfield 163, 3) := by decide +kernel
theorem dX3_put_90 : decode cX3_put 90 = .ok (.iload_n 3, 1) := by decide +kernel
theorem dX3_put_91 : decode cX3_put 91 = .ok (.iadd, 1) := by decide +kernel
theorem dX3_put_92 : decode cX3_put 92 = .ok (.bipush 60, 2) := by decide +kernel
theorem dX3_put_94 : decode cX3_put 94 = .ok (.if_icmp .le 6, 3) := by decide +kernel
theorem dX3_put_97 : decode cX3_put 97 = .ok (.bipush (-4), 2) := by decide +kernel
theorem dX3_put_99 : decode cX3_put 99 = .ok (.ireturn, 1) := by decide +kernel
theorem dX3_put_100 : decode cX3_put 100 = .ok (.iload_n 3, 1) := by decide +kernel
theorem dX3_put_101 : decode cX3_put 101 = .ok (.iconst 1, 1) := by decide +kernel
theorem dX3_put_102 : decode cX3_put 102 = .ok (.isub, 1) := by decide +kernel
theorem dX3_put_103 : decode cX3_put 103 = .ok (.istore 7, 2) := by decide +kernel
theorem dX3_put_105 : decode cX3_put 105 = .ok (.iload 7, 2) := by decide +kernel
theorem dX3_put_107 : decode cX3_put 107 = .ok (.ifCond .lt 40, 3) := by decide +kernel
theorem dX3_put_110 : decode cX3_put 110 = .ok (.aload_n 0, 1) := by decide +kernel
theorem dX3_put_111 : decode cX3_put 111 = .ok (.getfield 25, 3) := by decide +kernel
theorem dX3_put_114 : decode cX3_put 114 = .ok (.aload_n 0, 1) := by decide +kernel
theorem dX3_put_115 : decode cX3_put 115 = .ok (.getfield 163, 3) := by decide +kernel
theorem dX3_put_118 : decode cX3_put 118 = .ok (.lload_n 1, 1) := by decide +kernel
theorem dX3_put_119 : decode cX3_put 119 = .ok (.bipush 8, 2) := by decide +kernel
theorem dX3_put_121 : decode cX3_put 121 = .ok (.iload 7, 2) := by decide +kernel
theorem dX3_put_123 : decode cX3_put 123 = .ok (.imul, 1) := by decide +kernel
theorem dX3_put_124 : decode cX3_put 124 = .ok (.lushr, 1) := by decide +kernel
theorem dX3_put_125 : decode cX3_put 125 = .ok (.ldc2_w 169, 3) := by decide +kernel
theorem dX3_put_128 : decode cX3_put 128 = .ok (.land, 1) := by decide +kernel
theorem dX3_put_129 : decode cX3_put 129 = .ok (.l2i, 1) := by decide +kernel
theorem dX3_put_130 : decode cX3_put 130 = .ok (.iastore, 1) := by decide +kernel
theorem dX3_put_131 : decode cX3_put 131 = .ok (.aload_n 0, 1) := by decide +kernel
theorem dX3_put_132 : decode cX3_put 132 = .ok (.dup, 1) := by decide +kernel
theorem dX3_put_133 : decode cX3_put 133 = .ok (.getfield 163, 3) := by decide +kernel
theorem dX3_put_136 : decode cX3_put 136 = .ok (.iconst 1, 1) := by decide +kernel
theorem dX3_put_137 : decode cX3_put 137 = .ok (.iadd, 1) := by decide +kernel
theorem dX3_put_138 : decode cX3_put 138 = .ok (.putfield 163, 3) := by decide +kernel
theorem dX3_put_141 : decode cX3_put 141 = .ok (.iinc 7 (-1), 3) := by decide +kernel
theorem dX3_put_144 : decode cX3_put 144 = .ok (.goto (-39), 3) := by decide +kernel
theorem dX3_put_147 : decode cX3_put 147 = .ok (.aload_n 0, 1) := by decide +kernel
theorem dX3_put_148 : decode cX3_put 148 = .ok (.getfield 163, 3) := by decide +kernel
theorem dX3_put_151 : decode cX3_put 151 = .ok (.ireturn, 1) := by decide +kernel
theorem dX3_wipe_0 : decode cX3_wipe 0 = .ok (.aload_n 0, 1) := by decide +kernel
theorem dX3_wipe_1 : decode cX3_wipe 1 = .ok (.getfield 163, 3) := by decide +kernel
theorem dX3_wipe_4 : decode cX3_wipe 4 = .ok (.istore_n 1, 1) := by decide +kernel
theorem dX3_wipe_5 : decode cX3_wipe 5 = .ok (.aload_n 0, 1) := by decide +kernel
theorem dX3_wipe_6 : decode cX3_wipe 6 = .ok (.iconst 0, 1) := by decide +kernel
theorem dX3_wipe_7 : decode cX3_wipe 7 = .ok (.putfield 163, 3) := by decide +kernel
theorem dX3_wipe_10 : decode cX3_wipe 10 = .ok (.iload_n 1, 1) := by decide +kernel
theorem dX3_wipe_11 : decode cX3_wipe 11 = .ok (.ireturn, 1) := by decide +kernel
theorem dX3_character_0 : decode cX3_character 0 = .ok (.iload_n 1, 1) := by decide +kernel
theorem dX3_character_1 : decode cX3_character 1 = .ok (.aload_n 0, 1) := by decide +kernel
theorem dX3_character_2 : decode cX3_character 2 = .ok (.getfield 163, 3) := by decide +kernel
theorem dX3_character_5 : decode cX3_character 5 = .ok (.if_icmp .ge 12, 3) := by decide +kernel
theorem dX3_character_8 : decode cX3_character 8 = .ok (.aload_n 0, 1) := by decide +kernel
theorem dX3_character_9 : decode cX3_character 9 = .ok (.getfield 25, 3) := by decide +kernel
theorem dX3_character_12 : decode cX3_character 12 = .ok (.iload_n 1, 1) := by decide +kernel
theorem dX3_character_13 : decode cX3_character 13 = .ok (.iaload, 1) := by decide +kernel
theorem dX3_character_14 : decode cX3_character 14 = .ok (.goto 4, 3) := by decide +kernel
theorem dX3_character_17 : decode cX3_character 17 = .ok (.iconst (-1), 1) := by decide +kernel
theorem dX3_character_18 : decode cX3_character 18 = .ok (.ireturn, 1) := by decide +kernel
theorem dX3_isNext_0 : decode cX3_isNext 0 = .ok (.aload_n 0, 1) := by decide +kernel
theorem dX3_isNext_1 : decode cX3_isNext 1 = .ok (.aload_n 0, 1) := by decide +kernel
theorem dX3_isNext_2 : decode cX3_isNext 2 = .ok (.getfield 171, 3) := by decide +kernel
theorem dX3_isNext_5 : decode cX3_isNext 5 = .ok (.invokevirtual 174, 3) := by decide +kernel
theorem dX3_isNext_8 : decode cX3_isNext 8 = .ok (.iload_n 1, 1) := by decide +kernel
theorem dX3_isNext_9 : decode cX3_isNext 9 = .ok (.if_icmp .ne 7, 3) := by decide +kernel
theorem dX3_isNext_12 : decode cX3_isNext 12 = .ok (.iconst 1, 1) := by decide +kernel
theorem dX3_isNext_13 : decode cX3_isNext 13 = .ok (.goto 4, 3) := by decide +kernel
theorem dX3_isNext_16 : decode cX3_isNext 16 = .ok (.iconst 0, 1) := by decide +kernel
theorem dX3_isNext_17 : decode cX3_isNext 17 = .ok (.istore_n 2, 1) := by decide +kernel
theorem dX3_isNext_18 : decode cX3_isNext 18 = .ok (.aload_n 0, 1) := by decide +kernel
theorem dX3_isNext_19 : decode cX3_isNext 19 = .ok (.dup, 1) := by decide +kernel
theorem dX3_isNext_20 : decode cX3_isNext 20 = .ok (.getfield 171, 3) := by decide +kernel
theorem dX3_isNext_23 : decode cX3_isNext 23 = .ok (.iload_n 2, 1) := by decide +kernel
theorem dX3_isNext_24 : decode cX3_isNext 24 = .ok (.ifCond .eq 7, 3) := by decide +kernel
theorem dX3_isNext_27 : decode cX3_isNext 27 = .ok (.iconst 1, 1) := by decide +kernel
theorem dX3_isNext_28 : decode cX3_isNext 28 = .ok (.goto 4, 3) := by decide +kernel
theorem dX3_isNext_31 : decode cX3_isNext 31 = .ok (.iconst 0, 1) := by decide +kernel
theorem dX3_isNext_32 : decode cX3_isNext 32 = .ok (.iadd, 1) := by decide +kernel
theorem dX3_isNext_33 : decode cX3_isNext 33 = .ok (.putfield 171, 3) := by decide +kernel
theorem dX3_isNext_36 : decode cX3_isNext 36 = .ok (.iload_n 2, 1) := by decide +kernel
theorem dX3_isNext_37 : decode cX3_isNext 37 = .ok (.ireturn, 1) := by decide +kernel
theorem dX3_takeDigit_0 : decode cX3_takeDigit 0 = .ok (.aload_n 0, 1) := by decide +kernel
theorem dX3_takeDigit_1 : decode cX3_takeDigit 1 = .ok (.aload_n 0, 1) := by decide +kernel
theorem dX3_takeDigit_2 : decode cX3_takeDigit 2 = .ok (.getfield 171, 3) := by decide +kernel
theorem dX3_takeDigit_5 : decode cX3_takeDigit 5 = .ok (.invokevirtual 174, 3) := by decide +kernel
theorem dX3_takeDigit_8 : decode cX3_takeDigit 8 = .ok (.bipush 48, 2) := by decide +kernel
theorem dX3_takeDigit_10 : decode cX3_takeDigit 10 = .ok (.isub, 1) := by decide +kernel
theorem dX3_takeDigit_11 : decode cX3_takeDigit 11 = .ok (.istore_n 2, 1) := by decide +kernel
theorem dX3_takeDigit_12 : decode cX3_takeDigit 12 = .ok (.iload_n 2, 1) := by decide +kernel
theorem dX3_takeDigit_13 : decode cX3_takeDigit 13 = .ok (.iconst 0, 1) := by decide +kernel
theorem dX3_takeDigit_14 : decode cX3_takeDigit 14 = .ok (.iload_n 1, 1) := by decide +kernel
theorem dX3_takeDigit_15 : decode cX3_takeDigit 15 = .ok (.invokestatic 64, 3) := by decide +kernel
theorem dX3_takeDigit_18 : decode cX3_takeDigit 18 = .ok (.ifCond .ne 5, 3) := by decide +kernel
theorem dX3_takeDigit_21 : decode cX3_takeDigit 21 = .ok (.iconst (-1), 1) := by decide +kernel
theorem dX3_takeDigit_22 : decode cX3_takeDigit 22 = .ok (.ireturn, 1) := by decide +kernel
theorem dX3_takeDigit_23 : decode cX3_takeDigit 23 = .ok (.aload_n 0, 1) := by decide +kernel
theorem dX3_takeDigit_24 : decode cX3_takeDigit 24 = .ok (.dup, 1) := by decide +kernel
theorem dX3_takeDigit_25 : decode cX3_takeDigit 25 = .ok (.getfield 171, 3) := by decide +kernel
theorem dX3_takeDigit_28 : decode cX3_takeDigit 28 = .ok (.iconst 1, 1) := by decide +kernel
theorem dX3_takeDigit_29 : decode cX3_takeDigit 29 = .ok (.iadd, 1) := by decide +kernel
theorem dX3_takeDigit_30 : decode cX3_takeDigit 30 = .ok (.putfield 171, 3) := by decide +kernel
theorem dX3_takeDigit_33 : decode cX3_takeDigit 33 = .ok (.iload_n 2, 1) := by decide +kernel
theorem dX3_takeDigit_34 : decode cX3_takeDigit 34 = .ok (.ireturn, 1) := by decide +kernel
theorem dX3_takePile_0 : decode cX3_takePile 0 = .ok (.aload_n 0, 1) := by decide +kernel
theorem dX3_takePile_1 : decode cX3_takePile 1 = .ok (.bipush 9, 2) := by decide +kernel
theorem dX3_takePile_3 : decode cX3_takePile 3 = .ok (.invokevirtual 177, 3) := by decide +kernel
theorem dX3_takePile_6 : decode cX3_takePile 6 = .ok (.istore_n 1, 1) := by decide +kernel
theorem dX3_takePile_7 : decode cX3_takePile 7 = .ok (.aload_n 0, 1) := by decide +kernel
theorem dX3_takePile_8 : decode cX3_takePile 8 = .ok (.aload_n 0, 1) := by decide +kernel
theorem dX3_takePile_9 : decode cX3_takePile 9 = .ok (.getfield 171, 3) := by decide +kernel
theorem dX3_takePile_12 : decode cX3_takePile 12 = .ok (.invokevirtual 174, 3) := by decide +kernel
theorem dX3_takePile_15 : decode cX3_takePile 15 = .ok (.bipush 48, 2) := by decide +kernel
theorem dX3_takePile_17 : decode cX3_takePile 17 = .ok (.isub, 1) := by decide +kernel
theorem dX3_takePile_18 : decode cX3_takePile 18 = .ok (.istore_n 2, 1) := by decide +kernel
theorem dX3_takePile_19 : decode cX3_takePile 19 = .ok (.iload_n 1, 1) := by decide +kernel
theorem dX3_takePile_20 : decode cX3_takePile 20 = .ok (.ifCond .le 41, 3) := by decide +kernel
theorem dX3_takePile_23 : decode cX3_takePile 23 = .ok (.iload_n 2, 1) := by decide +kernel
theorem dX3_takePile_24 : decode cX3_takePile 24 = .ok (.iconst 0, 1) := by decide +kernel
theorem dX3_takePile_25 : decode cX3_takePile 25 = .ok (.bipush 9, 2) := by decide +kernel
theorem dX3_takePile_27 : decode cX3_takePile 27 = .ok (.invokestatic 64, 3) := by decide +kernel
theorem dX3_takePile_30 : decode cX3_takePile 30 = .ok (.ifCond .eq 31, 3) := by decide +kernel
theorem dX3_takePile_33 : decode cX3_takePile 33 = .ok (.bipush 10, 2) := by decide +kernel
theorem dX3_takePile_35 : decode cX3_takePile 35 = .ok (.iload_n 1, 1) := by decide +kernel
theorem dX3_takePile_36 : decode cX3_takePile 36 = .ok (.imul, 1) := by decide +kernel
theorem dX3_takePile_37 : decode cX3_takePile 37 = .ok (.iload_n 2, 1) := by decide +kernel
theorem dX3_takePile_38 : decode cX3_takePile 38 = .ok (.iadd, 1) := by decide +kernel
theorem dX3_takePile_39 : decode cX3_takePile 39 = .ok (.bipush 22, 2) := by decide +kernel
theorem dX3_takePile_41 : decode cX3_takePile 41 = .ok (.if_icmp .ge 20, 3) := by decide +kernel
theorem dX3_takePile_44 : decode cX3_takePile 44 = .ok (.aload_n 0, 1) := by decide +kernel
theorem dX3_takePile_45 : decode cX3_takePile 45 = .ok (.dup, 1) := by decide +kernel
theorem dX3_takePile_46 : decode cX3_takePile 46 = .ok (.getfield 171, 3) := by decide +kernel
theorem dX3_takePile_49 : decode cX3_takePile 49 = .ok (.iconst 1, 1) := by decide +kernel
theorem dX3_takePile_50 : decode cX3_takePile 50 = .ok (.iadd, 1) := by decide +kernel
theorem dX3_takePile_51 : decode cX3_takePile 51 = .ok (.putfield 171, 3) := by decide +kernel
theorem dX3_takePile_54 : decode cX3_takePile 54 = .ok (.bipush 10, 2) := by decide +kernel
theorem dX3_takePile_56 : decode cX3_takePile 56 = .ok (.iload_n 1, 1) := by decide +kernel
theorem dX3_takePile_57 : decode cX3_takePile 57 = .ok (.imul, 1) := by decide +kernel
theorem dX3_takePile_58 : decode cX3_takePile 58 = .ok (.iload_n 2, 1) := by decide +kernel
theorem dX3_takePile_59 : decode cX3_takePile 59 = .ok (.iadd, 1) := by decide +kernel
theorem dX3_takePile_60 : decode cX3_takePile 60 = .ok (.istore_n 1, 1) := by decide +kernel
theorem dX3_takePile_61 : decode cX3_takePile 61 = .ok (.iload_n 1, 1) := by decide +kernel
theorem dX3_takePile_62 : decode cX3_takePile 62 = .ok (.ireturn, 1) := by decide +kernel
theorem dX3_readsStep_0 : decode cX3_readsStep 0 = .ok (.aload_n 0, 1) := by decide +kernel
theorem dX3_readsStep_1 : decode cX3_readsStep 1 = .ok (.aload_n 0, 1) := by decide +kernel
theorem dX3_readsStep_2 : decode cX3_readsStep 2 = .ok (.aload_n 0, 1) := by decide +kernel
theorem dX3_readsStep_3 : decode cX3_readsStep 3 = .ok (.getfield 171, 3) := by decide +kernel
theorem dX3_readsStep_6 : decode cX3_readsStep 6 = .ok (.invokevirtual 174, 3) := by decide +kernel
theorem dX3_readsStep_9 : decode cX3_readsStep 9 = .ok (.putfield 180, 3) := by decide +kernel
theorem dX3_readsStep_12 : decode cX3_readsStep 12 = .ok (.aload_n 0, 1) := by decide +kernel
theorem dX3_readsStep_13 : decode cX3_readsStep 13 = .ok (.bipush 100, 2) := by decide +kernel
theorem dX3_readsStep_15 : decode cX3_readsStep 15 = .ok (.invokevirtual 183, 3) := by decide +kernel
theorem dX3_readsStep_18 : decode cX3_readsStep 18 = .ok (.ifCond .eq 5, 3) := by decide +kernel
theorem dX3_readsStep_21 : decode cX3_readsStep 21 = .ok (.iconst 1, 1) := by decide +kernel
theorem dX3_readsStep_22 : decode cX3_readsStep 22 = .ok (.ireturn, 1) := by decide +kernel
theorem dX3_readsStep_23 : decode cX3_readsStep 23 = .ok (.aload_n 0, 1) := by decide +kernel
theorem dX3_readsStep_24 : decode cX3_readsStep 24 = .ok (.bipush 102, 2) := by decide +kernel
theorem dX3_readsStep_26 : decode cX3_readsStep 26 = .ok (.invokevirtual 183, 3) := by decide +kernel
theorem dX3_readsStep_29 : decode cX3_readsStep 29 = .ok (.ifCond .eq 26, 3) := by decide +kernel
theorem dX3_readsStep_32 : decode cX3_readsStep 32 = .ok (.aload_n 0, 1) := by decide +kernel
theorem dX3_readsStep_33 : decode cX3_readsStep 33 = .ok (.aload_n 0, 1) := by decide +kernel
theorem dX3_readsStep_34 : decode cX3_readsStep 34 = .ok (.bipush 7, 2) := by decide +kernel
theorem dX3_readsStep_36 : decode cX3_readsStep 36 = .ok (.invokevirtual 177, 3) := by decide +kernel
theorem dX3_readsStep_39 : decode cX3_readsStep 39 = .ok (.putfield 186, 3) := by decide +kernel
theorem dX3_readsStep_42 : decode cX3_readsStep 42 = .ok (.aload_n 0, 1) := by decide +kernel
theorem dX3_readsStep_43 : decode cX3_readsStep 43 = .ok (.getfield 186, 3) := by decide +kernel
theorem dX3_readsStep_46 : decode cX3_readsStep 46 = .ok (.ifCond .lt 7, 3) := by decide +kernel
theorem dX3_readsStep_49 : decode cX3_readsStep 49 = .ok (.iconst 1, 1) := by decide +kernel
theorem dX3_readsStep_50 : decode cX3_readsStep 50 = .ok (.goto 4, 3) := by decide +kernel
theorem dX3_readsStep_53 : decode cX3_readsStep 53 = .ok (.iconst 0, 1) := by decide +kernel
theorem dX3_readsStep_54 : decode cX3_readsStep 54 = .ok (.ireturn, 1) := by decide +kernel
theorem dX3_readsStep_55 : decode cX3_readsStep 55 = .ok (.aload_n 0, 1) := by decide +kernel
theorem dX3_readsStep_56 : decode cX3_readsStep 56 = .ok (.aload_n 0, 1) := by decide +kernel
theorem dX3_readsStep_57 : decode cX3_readsStep 57 = .ok (.invokevirtual 189, 3) := by decide +kernel
theorem dX3_readsStep_60 : decode cX3_readsStep 60 = .ok (.putfield 186, 3) := by decide +kernel
theorem dX3_readsStep_63 : decode cX3_readsStep 63 = .ok (.aload_n 0, 1) := by decide +kernel
theorem dX3_readsStep_64 : decode cX3_readsStep 64 = .ok (.aload_n 0, 1) := by decide +kernel
theorem dX3_readsStep_65 : decode cX3_readsStep 65 = .ok (.getfield 186, 3) := by decide +kernel
theorem dX3_readsStep_68 : decode cX3_readsStep 68 = .ok (.ifCond .lt 19, 3) := by decide +kernel
theorem dX3_readsStep_71 : decode cX3_readsStep 71 = .ok (.aload_n 0, 1) := by decide +kernel
theorem dX3_readsStep_72 : decode cX3_readsStep 72 = .ok (.bipush 62, 2) := by decide +kernel
theorem dX3_readsStep_74 : decode cX3_readsStep 74 = .ok (.invokevirtual 183, 3) := by decide +kernel
theorem dX3_readsStep_77 : decode cX3_readsStep 77 = .ok (.ifCond .eq 10, 3) := by decide +kernel
theorem dX3_readsStep_80 : decode cX3_readsStep 80 = .ok (.aload_n 0, 1) := by decide +kernel
theorem dX3_readsStep_81 : decode cX3_readsStep 81 = .ok (.invokevirtual 189, 3) := by decide +kernel
theorem dX3_readsStep_84 : decode cX3_readsStep 84 = .ok (.goto 4, 3) := by decide +kernel
theorem dX3_readsStep_87 : decode cX3_readsStep 87 = .ok (.iconst (-1), 1) := by decide +kernel
theorem dX3_readsStep_88 : decode cX3_readsStep 88 = .ok (.putfield 192, 3) := by decide +kernel
theorem dX3_readsStep_91 : decode cX3_readsStep 91 = .ok (.aload_n 0, 1) := by decide +kernel
theorem dX3_readsStep_92 : decode cX3_readsStep 92 = .ok (.getfield 192, 3) := by decide +kernel
theorem dX3_readsStep_95 : decode cX3_readsStep 95 = .ok (.ifCond .lt 7, 3) := by decide +kernel
theorem dX3_readsStep_98 : decode cX3_readsStep 98 = .ok (.iconst 1, 1) := by decide +kernel
theorem dX3_readsStep_99 : decode cX3_readsStep 99 = .ok (.goto 4, 3) := by decide +kernel
theorem dX3_readsStep_102 : decode cX3_readsStep 102 = .ok (.iconst 0, 1) := by decide +kernel
theorem dX3_readsStep_103 : decode cX3_readsStep 103 = .ok (.ireturn, 1) := by decide +kernel
theorem dX3_findFault_0 : decode cX3_findFault 0 = .ok (.aload_n 0, 1) := by decide +kernel
theorem dX3_findFault_1 : decode cX3_findFault 1 = .ok (.iconst 0, 1) := by decide +kernel
theorem dX3_findFault_2 : decode cX3_findFault 2 = .ok (.putfield 171, 3) := by decide +kernel
theorem dX3_findFault_5 : decode cX3_findFault 5 = .ok (.aload_n 0, 1) := by decide +kernel
theorem dX3_findFault_6 : decode cX3_findFault 6 = .ok (.invokevirtual 195, 3) := by decide +kernel
theorem dX3_findFault_9 : decode cX3_findFault 9 = .ok (.ifCond .ne 8, 3) := by decide +kernel
theorem dX3_findFault_12 : decode cX3_findFault 12 = .ok (.aload_n 0, 1) := by decide +kernel
theorem dX3_findFault_13 : decode cX3_findFault 13 = .ok (.getfield 171, 3) := by decide +kernel
theorem dX3_findFault_16 : decode cX3_findFault 16 = .ok (.ireturn, 1) := by decide +kernel
theorem dX3_findFault_17 : decode cX3_findFault 17 = .ok (.aload_n 0, 1) := by decide +kernel
theorem dX3_findFault_18 : decode cX3_findFault 18 = .ok (.getfield 171, 3) := by decide +kernel
theorem dX3_findFault_21 : decode cX3_findFault 21 = .ok (.aload_n 0, 1) := by decide +kernel
theorem dX3_findFault_22 : decode cX3_findFault 22 = .ok (.getfield 163, 3) := by decide +kernel
theorem dX3_findFault_25 : decode cX3_findFault 25 = .ok (.if_icmp .ne 6, 3) := by decide +kernel
theorem dX3_findFault_28 : decode cX3_findFault 28 = .ok (.bipush (-6), 2) := by decide +kernel
theorem dX3_findFault_30 : decode cX3_findFault 30 = .ok (.ireturn, 1) := by decide +kernel
theorem dX3_findFault_31 : decode cX3_findFault 31 = .ok (.aload_n 0, 1) := by decide +kernel
theorem dX3_findFault_32 : decode cX3_findFault 32 = .ok (.bipush 44, 2) := by decide +kernel
theorem dX3_findFault_34 : decode cX3_findFault 34 = .ok (.invokevirtual 183, 3) := by decide +kernel
theorem dX3_findFault_37 : decode cX3_findFault 37 = .ok (.ifCond .ne (-32), 3) := by decide +kernel
theorem dX3_findFault_40 : decode cX3_findFault 40 = .ok (.aload_n 0, 1) := by decide +kernel
theorem dX3_findFault_41 : decode cX3_findFault 41 = .ok (.getfield 171, 3) := by decide +kernel
theorem dX3_findFault_44 : decode cX3_findFault 44 = .ok (.ireturn, 1) := by decide +kernel
theorem dX3_fault_0 : decode cX3_fault 0 = .ok (.aload_n 0, 1) := by decide +kernel
theorem dX3_fault_1 : decode cX3_fault 1 = .ok (.invokevirtual 199, 3) := by decide +kernel
theorem dX3_fault_4 : decode cX3_fault 4 = .ok (.ireturn, 1) := by decide +kernel
theorem dX3_doesStep_0 : decode cX3_doesStep 0 = .ok (.aload_n 0, 1) := by decide +kernel
theorem dX3_doesStep_1 : decode cX3_doesStep 1 = .ok (.getfield 180, 3) := by decide +kernel
theorem dX3_doesStep_4 : decode cX3_doesStep 4 = .ok (.bipush 100, 2) := by decide +kernel
theorem dX3_doesStep_6 : decode cX3_doesStep 6 = .ok (.if_icmp .ne 31, 3) := by decide +kernel
theorem dX3_doesStep_9 : decode cX3_doesStep 9 = .ok (.aload_n 0, 1) := by decide +kernel
theorem dX3_doesStep_10 : decode cX3_doesStep 10 = .ok (.getfield 7, 3) := by decide +kernel
theorem dX3_doesStep_13 : decode cX3_doesStep 13 = .ok (.sipush 221, 3) := by decide +kernel
theorem dX3_doesStep_16 : decode cX3_doesStep 16 = .ok (.iaload, 1) := by decide +kernel
theorem dX3_doesStep_17 : decode cX3_doesStep 17 = .ok (.ifCond .ne 7, 3) := by decide +kernel
theorem dX3_doesStep_20 : decode cX3_doesStep 20 = .ok (.iconst 1, 1) := by decide +kernel
theorem dX3_doesStep_21 : decode cX3_doesStep 21 = .ok (.goto 4, 3) := by decide +kernel
theorem dX3_doesStep_24 : decode cX3_doesStep 24 = .ok (.iconst 0, 1) := by decide +kernel
theorem dX3_doesStep_25 : decode cX3_doesStep 25 = .ok (.istore_n 1, 1) := by decide +kernel
theorem dX3_doesStep_26 : decode cX3_doesStep 26 = .ok (.iload_n 1, 1) := by decide +kernel
theorem dX3_doesStep_27 : decode cX3_doesStep 27 = .ok (.ifCond .eq 8, 3) := by decide +kernel
theorem dX3_doesStep_30 : decode cX3_doesStep 30 = .ok (.aload_n 0, 1) := by decide +kernel
theorem dX3_doesStep_31 : decode cX3_doesStep 31 = .ok (.invokevirtual 127, 3) := by decide +kernel
theorem dX3_doesStep_34 : decode cX3_doesStep 34 = .ok (.pop, 1) := by decide +kernel
theorem dX3_doesStep_35 : decode cX3_doesStep 35 = .ok (.iload_n 1, 1) := by decide +kernel
theorem dX3_doesStep_36 : decode cX3_doesStep 36 = .ok (.ireturn, 1) := by decide +kernel
theorem dX3_doesStep_37 : decode cX3_doesStep 37 = .ok (.aload_n 0, 1) := by decide +kernel
theorem dX3_doesStep_38 : decode cX3_doesStep 38 = .ok (.getfield 180, 3) := by decide +kernel
theorem dX3_doesStep_41 : decode cX3_doesStep 41 = .ok (.bipush 102, 2) := by decide +kernel
theorem dX3_doesStep_43 : decode cX3_doesStep 43 = .ok (.if_icmp .ne 35, 3) := by decide +kernel
theorem dX3_doesStep_46 : decode cX3_doesStep 46 = .ok (.aload_n 0, 1) := by decide +kernel
theorem dX3_doesStep_47 : decode cX3_doesStep 47 = .ok (.aload_n 0, 1) := by decide +kernel
theorem dX3_doesStep_48 : decode cX3_doesStep 48 = .ok (.getfield 186, 3) := by decide +kernel
theorem dX3_doesStep_51 : decode cX3_doesStep 51 = .ok (.invokevirtual 139, 3) := by decide +kernel
theorem dX3_doesStep_54 : decode cX3_doesStep 54 = .ok (.ifCond .ne 7, 3) := by decide +kernel
theorem dX3_doesStep_57 : decode cX3_doesStep 57 = .ok (.iconst 1, 1) := by decide +kernel
theorem dX3_doesStep_58 : decode cX3_doesStep 58 = .ok (.goto 4, 3) := by decide +kernel
theorem dX3_doesStep_61 : decode cX3_doesStep 61 = .ok (.iconst 0, 1) := by decide +kernel
theorem dX3_doesStep_62 : decode cX3_doesStep 62 = .ok (.istore_n 1, 1) := by decide +kernel
theorem dX3_doesStep_63 : decode cX3_doesStep 63 = .ok (.iload_n 1, 1) := by decide +kernel
theorem dX3_doesStep_64 : decode cX3_doesStep 64 = .ok (.ifCond .eq 12, 3) := by decide +kernel
theorem dX3_doesStep_67 : decode cX3_doesStep 67 = .ok (.aload_n 0, 1) := by decide +kernel
theorem dX3_doesStep_68 : decode cX3_doesStep 68 = .ok (.aload_n 0, 1) := by decide +kernel
theorem dX3_doesStep_69 : decode cX3_doesStep 69 = .ok (.getfield 186, 3) := by decide +kernel
theorem dX3_doesStep_72 : decode cX3_doesStep 72 = .ok (.invokevirtual 142, 3) := by decide +kernel
theorem dX3_doesStep_75 : decode cX3_doesStep 75 = .ok (.pop, 1) := by decide +kernel
theorem dX3_doesStep_76 : decode cX3_doesStep 76 = .ok (.iload_n 1, 1) := by decide +kernel
theorem dX3_doesStep_77 : decode cX3_doesStep 77 = .ok (.ireturn, 1) := by decide +kernel
theorem dX3_doesStep_78 : decode cX3_doesStep 78 = .ok (.aload_n 0, 1) := by decide +kernel
theorem dX3_doesStep_79 : decode cX3_doesStep 79 = .ok (.aload_n 0, 1) := by decide +kernel
theorem dX3_doesStep_80 : decode cX3_doesStep 80 = .ok (.getfield 186, 3) := by decide +kernel
theorem dX3_doesStep_83 : decode cX3_doesStep 83 = .ok (.aload_n 0, 1) := by decide +kernel
theorem dX3_doesStep_84 : decode cX3_doesStep 84 = .ok (.getfield 192, 3) := by decide +kernel
theorem dX3_doesStep_87 : decode cX3_doesStep 87 = .ok (.invokevirtual 136, 3) := by decide +kernel
theorem dX3_doesStep_90 : decode cX3_doesStep 90 = .ok (.ifCond .ne 7, 3) := by decide +kernel
theorem dX3_doesStep_93 : decode cX3_doesStep 93 = .ok (.iconst 1, 1) := by decide +kernel
theorem dX3_doesStep_94 : decode cX3_doesStep 94 = .ok (.goto 4, 3) := by decide +kernel
theorem dX3_doesStep_97 : decode cX3_doesStep 97 = .ok (.iconst 0, 1) := by decide +kernel
theorem dX3_doesStep_98 : decode cX3_doesStep 98 = .ok (.istore_n 1, 1) := by decide +kernel
theorem dX3_doesStep_99 : decode cX3_doesStep 99 = .ok (.iload_n 1, 1) := by decide +kernel
theorem dX3_doesStep_100 : decode cX3_doesStep 100 = .ok (.ifCond .eq 16, 3) := by decide +kernel
theorem dX3_doesStep_103 : decode cX3_doesStep 103 = .ok (.aload_n 0, 1) := by decide +kernel
theorem dX3_doesStep_104 : decode cX3_doesStep 104 = .ok (.aload_n 0, 1) := by decide +kernel
theorem dX3_doesStep_105 : decode cX3_doesStep 105 = .ok (.getfield 186, 3) := by decide +kernel
theorem dX3_doesStep_108 : decode cX3_doesStep 108 = .ok (.aload_n 0, 1) := by decide +kernel
theorem dX3_doesStep_109 : decode cX3_doesStep 109 = .ok (.getfield 192, 3) := by decide +kernel
theorem dX3_doesStep_112 : decode cX3_doesStep 112 = .ok (.invokevirtual 124, 3) := by decide +kernel
theorem dX3_doesStep_115 : decode cX3_doesStep 115 = .ok (.pop, 1) := by decide +kernel
theorem dX3_doesStep_116 : decode cX3_doesStep 116 = .ok (.iload_n 1, 1) := by decide +kernel
theorem dX3_doesStep_117 : decode cX3_doesStep 117 = .ok (.ireturn, 1) := by decide +kernel
theorem dX3_playAll_0 : decode cX3_playAll 0 = .ok (.aload_n 0, 1) := by decide +kernel
theorem dX3_playAll_1 : decode cX3_playAll 1 = .ok (.invokevirtual 199, 3) := by decide +kernel
theorem dX3_playAll_4 : decode cX3_playAll 4 = .ok (.bipush (-6), 2) := by decide +kernel
theorem dX3_playAll_6 : decode cX3_playAll 6 = .ok (.if_icmp .eq 6, 3) := by decide +kernel
theorem dX3_playAll_9 : decode cX3_playAll 9 = .ok (.bipush (-3), 2) := by decide +kernel
theorem dX3_playAll_11 : decode cX3_playAll 11 = .ok (.ireturn, 1) := by decide +kernel
theorem dX3_playAll_12 : decode cX3_playAll 12 = .ok (.aload_n 0, 1) := by decide +kernel
theorem dX3_playAll_13 : decode cX3_playAll 13 = .ok (.invokevirtual 130, 3) := by decide +kernel
theorem dX3_playAll_16 : decode cX3_playAll 16 = .ok (.iconst 0, 1) := by decide +kernel
theorem dX3_playAll_17 : decode cX3_playAll 17 = .ok (.istore_n 1, 1) := by decide +kernel
theorem dX3_playAll_18 : decode cX3_playAll 18 = .ok (.aload_n 0, 1) := by decide +kernel
theorem dX3_playAll_19 : decode cX3_playAll 19 = .ok (.iconst 0, 1) := by decide +kernel
theorem dX3_playAll_20 : decode cX3_playAll 20 = .ok (.putfield 171, 3) := by decide +kernel
theorem dX3_playAll_23 : decode cX3_playAll 23 = .ok (.iconst 1, 1) := by decide +kernel
theorem dX3_playAll_24 : decode cX3_playAll 24 = .ok (.istore_n 2, 1) := by decide +kernel
theorem dX3_playAll_25 : decode cX3_playAll 25 = .ok (.iload_n 2, 1) := by decide +kernel
theorem dX3_playAll_26 : decode cX3_playAll 26 = .ok (.ifCond .eq 46, 3) := by decide +kernel
theorem dX3_playAll_29 : decode cX3_playAll 29 = .ok (.aload_n 0, 1) := by decide +kernel
theorem dX3_playAll_30 : decode cX3_playAll 30 = .ok (.getfield 171, 3) := by decide +kernel
theorem dX3_playAll_33 : decode cX3_playAll 33 = .ok (.aload_n 0, 1) := by decide +kernel
theorem dX3_playAll_34 : decode cX3_playAll 34 = .ok (.getfield 163, 3) := by decide +kernel
theorem dX3_playAll_37 : decode cX3_playAll 37 = .ok (.if_icmp .ge 35, 3) := by decide +kernel
theorem dX3_playAll_40 : decode cX3_playAll 40 = .ok (.aload_n 0, 1) := by decide +kernel
theorem dX3_playAll_41 : decode cX3_playAll 41 = .ok (.invokevirtual 195, 3) := by decide +kernel
theorem dX3_playAll_44 : decode cX3_playAll 44 = .ok (.pop, 1) := by decide +kernel
theorem dX3_playAll_45 : decode cX3_playAll 45 = .ok (.aload_n 0, 1) := by decide +kernel
theorem dX3_playAll_46 : decode cX3_playAll 46 = .ok (.bipush 44, 2) := by decide +kernel
theorem dX3_playAll_48 : decode cX3_playAll 48 = .ok (.invokevirtual 183, 3) := by decide +kernel
theorem dX3_playAll_51 : decode cX3_playAll 51 = .ok (.pop, 1) := by decide +kernel
theorem dX3_playAll_52 : decode cX3_playAll 52 = .ok (.aload_n 0, 1) := by decide +kernel
theorem dX3_playAll_53 : decode cX3_playAll 53 = .ok (.invokevirtual 202, 3) := by decide +kernel
theorem dX3_playAll_56 : decode cX3_playAll 56 = .ok (.istore_n 2, 1) := by decide +kernel
theorem dX3_playAll_57 : decode cX3_playAll 57 = .ok (.iload_n 1, 1) := by decide +kernel
theorem dX3_playAll_58 : decode cX3_playAll 58 = .ok (.iload_n 2, 1) := by decide +kernel
theorem dX3_playAll_59 : decode cX3_playAll 59 = .ok (.ifCond .eq 7, 3) := by decide +kernel
theorem dX3_playAll_62 : decode cX3_playAll 62 = .ok (.iconst 1, 1) := by decide +kernel
theorem dX3_playAll_63 : decode cX3_playAll 63 = .ok (.goto 4, 3) := by decide +kernel
theorem dX3_playAll_66 : decode cX3_playAll 66 = .ok (.iconst 0, 1) := by decide +kernel
theorem dX3_playAll_67 : decode cX3_playAll 67 = .ok (.iadd, 1) := by decide +kernel
theorem dX3_playAll_68 : decode cX3_playAll 68 = .ok (.istore_n 1, 1) := by decide +kernel
theorem dX3_playAll_69 : decode cX3_playAll 69 = .ok (.goto (-44), 3) := by decide +kernel
theorem dX3_playAll_72 : decode cX3_playAll 72 = .ok (.aload_n 0, 1) := by decide +kernel
theorem dX3_playAll_73 : decode cX3_playAll 73 = .ok (.iconst 0, 1) := by decide +kernel
theorem dX3_playAll_74 : decode cX3_playAll 74 = .ok (.putfield 163, 3) := by decide +kernel
theorem dX3_playAll_77 : decode cX3_playAll 77 = .ok (.iload_n 1, 1) := by decide +kernel
theorem dX3_playAll_78 : decode cX3_playAll 78 = .ok (.ireturn, 1) := by decide +kernel
theorem dX3_undo_0 : decode cX3_undo 0 = .ok (.aload_n 0, 1) := by decide +kernel
theorem dX3_undo_1 : decode cX3_undo 1 = .ok (.getfield 41, 3) := by decide +kernel
theorem dX3_undo_4 : decode cX3_undo 4 = .ok (.ifCond .ne 6, 3) := by decide +kernel
theorem dX3_undo_7 : decode cX3_undo 7 = .ok (.bipush (-5), 2) := by decide +kernel
theorem dX3_undo_9 : decode cX3_undo 9 = .ok (.ireturn, 1) := by decide +kernel
theorem dX3_undo_10 : decode cX3_undo 10 = .ok (.aload_n 0, 1) := by decide +kernel
theorem dX3_undo_11 : decode cX3_undo 11 = .ok (.dup, 1) := by decide +kernel
theorem dX3_undo_12 : decode cX3_undo 12 = .ok (.getfield 41, 3) := by decide +kernel
theorem dX3_undo_15 : decode cX3_undo 15 = .ok (.iconst 1, 1) := by decide +kernel
theorem dX3_undo_16 : decode cX3_undo 16 = .ok (.isub, 1) := by decide +kernel
theorem dX3_undo_17 : decode cX3_undo 17 = .ok (.putfield 41, 3) := by decide +kernel
theorem dX3_undo_20 : decode cX3_undo 20 = .ok (.aload_n 0, 1) := by decide +kernel
theorem dX3_undo_21 : decode cX3_undo 21 = .ok (.getfield 16, 3) := by decide +kernel
theorem dX3_undo_24 : decode cX3_undo 24 = .ok (.aload_n 0, 1) := by decide +kernel
theorem dX3_undo_25 : decode cX3_undo 25 = .ok (.getfield 41, 3) := by decide +kernel
theorem dX3_undo_28 : decode cX3_undo 28 = .ok (.sipush 224, 3) := by decide +kernel
theorem dX3_undo_31 : decode cX3_undo 31 = .ok (.imul, 1) := by decide +kernel
theorem dX3_undo_32 : decode cX3_undo 32 = .ok (.aload_n 0, 1) := by decide +kernel
theorem dX3_undo_33 : decode cX3_undo 33 = .ok (.getfield 7, 3) := by decide +kernel
theorem dX3_undo_36 : decode cX3_undo 36 = .ok (.iconst 0, 1) := by decide +kernel
theorem dX3_undo_37 : decode cX3_undo 37 = .ok (.invokestatic 45, 3) := by decide +kernel
theorem dX3_undo_40 : decode cX3_undo 40 = .ok (.aload_n 0, 1) := by decide +kernel
theorem dX3_undo_41 : decode cX3_undo 41 = .ok (.getfield 41, 3) := by decide +kernel
theorem dX3_undo_44 : decode cX3_undo 44 = .ok (.ireturn, 1) := by decide +kernel
theorem dX3_save_0 : decode cX3_save 0 = .ok (.iload_n 1, 1) := by decide +kernel
theorem dX3_save_1 : decode cX3_save 1 = .ok (.iconst 0, 1) := by decide +kernel
theorem dX3_save_2 : decode cX3_save 2 = .ok (.iconst 1, 1) := by decide +kernel
theorem dX3_save_3 : decode cX3_save 3 = .ok (.invokestatic 64, 3) := by decide +kernel
theorem dX3_save_6 : decode cX3_save 6 = .ok (.ifCond .ne 6, 3) := by decide +kernel
theorem dX3_save_9 : decode cX3_save 9 = .ok (.bipush (-2), 2) := by decide +kernel
theorem dX3_save_11 : decode cX3_save 11 = .ok (.ireturn, 1) := by decide +kernel
theorem dX3_save_12 : decode cX3_save 12 = .ok (.aload_n 0, 1) := by decide +kernel
theorem dX3_save_13 : decode cX3_save 13 = .ok (.getfield 7, 3) := by decide +kernel
theorem dX3_save_16 : decode cX3_save 16 = .ok (.iconst 0, 1) := by decide +kernel
theorem dX3_save_17 : decode cX3_save 17 = .ok (.aload_n 0, 1) := by decide +kernel
theorem dX3_save_18 : decode cX3_save 18 = .ok (.getfield 19, 3) := by decide +kernel
theorem dX3_save_21 : decode cX3_save 21 = .ok (.sipush 224, 3) := by decide +kernel
theorem dX3_save_24 : decode cX3_save 24 = .ok (.iload_n 1, 1) := by decide +kernel
theorem dX3_save_25 : decode cX3_save 25 = .ok (.imul, 1) := by decide +kernel
theorem dX3_save_26 : decode cX3_save 26 = .ok (.invokestatic 45, 3) := by decide +kernel
theorem dX3_save_29 : decode cX3_save 29 = .ok (.aload_n 0, 1) := by decide +kernel
theorem dX3_save_30 : decode cX3_save 30 = .ok (.getfield 22, 3) := by decide +kernel
theorem dX3_save_33 : decode cX3_save 33 = .ok (.iload_n 1, 1) := by decide +kernel
theorem dX3_save_34 : decode cX3_save 34 = .ok (.iconst 1, 1) := by decide +kernel
theorem dX3_save_35 : decode cX3_save 35 = .ok (.iastore, 1) := by decide +kernel
theorem dX3_save_36 : decode cX3_save 36 = .ok (.aload_n 0, 1) := by decide +kernel
theorem dX3_save_37 : decode cX3_save 37 = .ok (.getfield 7, 3) := by decide +kernel
theorem dX3_save_40 : decode cX3_save 40 = .ok (.sipush 222, 3) := by decide +kernel
theorem dX3_save_43 : decode cX3_save 43 = .ok (.iaload, 1) := by decide +kernel
theorem dX3_save_44 : decode cX3_save 44 = .ok (.ireturn, 1) := by decide +kernel
theorem dX3_restore_0 : decode cX3_restore 0 = .ok (.iload_n 1, 1) := by decide +kernel
theorem dX3_restore_1 : decode cX3_restore 1 = .ok (.iconst 0, 1) := by decide +kernel
theorem dX3_restore_2 : decode cX3_restore 2 = .ok (.iconst 1, 1) := by decide +kernel
theorem dX3_restore_3 : decode cX3_restore 3 = .ok (.invokestatic 64, 3) := by decide +kernel
theorem dX3_restore_6 : decode cX3_restore 6 = .ok (.ifCond .ne 6, 3) := by decide +kernel
theorem dX3_restore_9 : decode cX3_restore 9 = .ok (.bipush (-2), 2) := by decide +kernel
theorem dX3_restore_11 : decode cX3_restore 11 = .ok (.ireturn, 1) := by decide +kernel
theorem dX3_restore_12 : decode cX3_restore 12 = .ok (.aload_n 0, 1) := by decide +kernel
theorem dX3_restore_13 : decode cX3_restore 13 = .ok (.getfield 22, 3) := by decide +kernel
theorem dX3_restore_16 : decode cX3_restore 16 = .ok (.iload_n 1, 1) := by decide +kernel
theorem dX3_restore_17 : decode cX3_restore 17 = .ok (.iaload, 1) := by decide +kernel
theorem dX3_restore_18 : decode cX3_restore 18 = .ok (.ifCond .ne 6, 3) := by decide +kernel
theorem dX3_restore_21 : decode cX3_restore 21 = .ok (.bipush (-5), 2) := by decide +kernel
theorem dX3_restore_23 : decode cX3_restore 23 = .ok (.ireturn, 1) := by decide +kernel
theorem dX3_restore_24 : decode cX3_restore 24 = .ok (.aload_n 0, 1) := by decide +kernel
theorem dX3_restore_25 : decode cX3_restore 25 = .ok (.invokevirtual 130, 3) := by decide +kernel
theorem dX3_restore_28 : decode cX3_restore 28 = .ok (.aload_n 0, 1) := by decide +kernel
theorem dX3_restore_29 : decode cX3_restore 29 = .ok (.getfield 19, 3) := by decide +kernel
theorem dX3_restore_32 : decode cX3_restore 32 = .ok (.sipush 224, 3) := by decide +kernel
theorem dX3_restore_35 : decode cX3_restore 35 = .ok (.iload_n 1, 1) := by decide +kernel
theorem dX3_restore_36 : decode cX3_restore 36 = .ok (.imul, 1) := by decide +kernel
theorem dX3_restore_37 : decode cX3_restore 37 = .ok (.aload_n 0, 1) := by decide +kernel
theorem dX3_restore_38 : decode cX3_restore 38 = .ok (.getfield 7, 3) := by decide +kernel
theorem dX3_restore_41 : decode cX3_restore 41 = .ok (.iconst 0, 1) := by decide +kernel
theorem dX3_restore_42 : decode cX3_restore 42 = .ok (.invokestatic 45, 3) := by decide +kernel
theorem dX3_restore_45 : decode cX3_restore 45 = .ok (.aload_n 0, 1) := by decide +kernel
theorem dX3_restore_46 : decode cX3_restore 46 = .ok (.getfield 7, 3) := by decide +kernel
theorem dX3_restore_49 : decode cX3_restore 49 = .ok (.sipush 222, 3) := by decide +kernel
theorem dX3_restore_52 : decode cX3_restore 52 = .ok (.iaload, 1) := by decide +kernel
theorem dX3_restore_53 : decode cX3_restore 53 = .ok (.ireturn, 1) := by decide +kernel
