theorem dX2_init_0 : decode cX2_init 0 = .ok (.aload_n 0, 1) := by decide +kernel
theorem dX2_init_1 : decode cX2_init 1 = .ok (.invokespecial 1, 3) := by decide +kernel
theorem dX2_init_4 : decode cX2_init 4 = .ok (.aload_n 0, 1) := by decide +kernel
theorem dX2_init_5 : decode cX2_init 5 = .ok (.new 7, 3) := by decide +kernel
theorem dX2_init_8 : decode cX2_init 8 = .ok (.dup, 1) := by decide +kernel
theorem dX2_init_9 : decode cX2_init 9 = .ok (.invokespecial 9, 3) := by decide +kernel
theorem dX2_init_12 : decode cX2_init 12 = .ok (.putfield 10, 3) := by decide +kernel
theorem dX2_init_15 : decode cX2_init 15 = .ok (.aload_n 0, 1) := by decide +kernel
theorem dX2_init_16 : decode cX2_init 16 = .ok (.new 7, 3) := by decide +kernel
theorem dX2_init_19 : decode cX2_init 19 = .ok (.dup, 1) := by decide +kernel
theorem dX2_init_20 : decode cX2_init 20 = .ok (.invokespecial 9, 3) := by decide +kernel
theorem dX2_init_23 : decode cX2_init 23 = .ok (.putfield 16, 3) := by decide +kernel
theorem dX2_init_26 : decode cX2_init 26 = .ok (.aload_n 0, 1) := by decide +kernel
theorem dX2_init_27 : decode cX2_init 27 = .ok (.bipush 6, 2) := by decide +kernel
theorem dX2_init_29 : decode cX2_init 29 = .ok (.anewarray 7, 3) := by decide +kernel
theorem dX2_init_32 : decode cX2_init 32 = .ok (.putfield 19, 3) := by decide +kernel
theorem dX2_init_35 : decode cX2_init 35 = .ok (.aload_n 0, 1) := by decide +kernel
theorem dX2_init_36 : decode cX2_init 36 = .ok (.iconst 2, 1) := by decide +kernel
theorem dX2_init_37 : decode cX2_init 37 = .ok (.anewarray 7, 3) := by decide +kernel
theorem dX2_init_40 : decode cX2_init 40 = .ok (.putfield 23, 3) := by decide +kernel
theorem dX2_init_43 : decode cX2_init 43 = .ok (.aload_n 0, 1) := by decide +kernel
theorem dX2_init_44 : decode cX2_init 44 = .ok (.iconst 2, 1) := by decide +kernel
theorem dX2_init_45 : decode cX2_init 45 = .ok (.newarray .boolean, 2) := by decide +kernel
theorem dX2_init_47 : decode cX2_init 47 = .ok (.putfield 26, 3) := by decide +kernel
theorem dX2_init_50 : decode cX2_init 50 = .ok (.aload_n 0, 1) := by decide +kernel
theorem dX2_init_51 : decode cX2_init 51 = .ok (.new 30, 3) := by decide +kernel
theorem dX2_init_54 : decode cX2_init 54 = .ok (.dup, 1) := by decide +kernel
theorem dX2_init_55 : decode cX2_init 55 = .ok (.invokespecial 32, 3) := by decide +kernel
theorem dX2_init_58 : decode cX2_init 58 = .ok (.putfield 33, 3) := by decide +kernel
theorem dX2_init_61 : decode cX2_init 61 = .ok (.aload_n 0, 1) := by decide +kernel
theorem dX2_init_62 : decode cX2_init 62 = .ok (.sipush 170, 3) := by decide +kernel
theorem dX2_init_65 : decode cX2_init 65 = .ok (.newarray .int, 2) := by decide +kernel
theorem dX2_init_67 : decode cX2_init 67 = .ok (.putfield 37, 3) := by decide +kernel
theorem dX2_init_70 : decode cX2_init 70 = .ok (.aload_n 0, 1) := by decide +kernel
theorem dX2_init_71 : decode cX2_init 71 = .ok (.iconst 0, 1) := by decide +kernel
theorem dX2_init_72 : decode cX2_init 72 = .ok (.putfield 41, 3) := by decide +kernel
theorem dX2_init_75 : decode cX2_init 75 = .ok (.aload_n 0, 1) := by decide +kernel
theorem dX2_init_76 : decode cX2_init 76 = .ok (.iconst 0, 1) := by decide +kernel
theorem dX2_init_77 : decode cX2_init 77 = .ok (.putfield 45, 3) := by decide +kernel
theorem dX2_init_80 : decode cX2_init 80 = .ok (.iconst 0, 1) := by decide +kernel
theorem dX2_init_81 : decode cX2_init 81 = .ok (.istore_n 1, 1) := by decide +kernel
theorem dX2_init_82 : decode cX2_init 82 = .ok (.iload_n 1, 1) := by decide +kernel
theorem dX2_init_83 : decode cX2_init 83 = .ok (.aload_n 0, 1) := by decide +kernel
theorem dX2_init_84 : decode cX2_init 84 = .ok (.getfield 19, 3) := by decide +kernel
theorem dX2_init_87 : decode cX2_init 87 = .ok (.arraylength, 1) := by decide +kernel
theorem dX2_init_88 : decode cX2_init 88 = .ok (.if_icmp .ge 22, 3) := by decide +kernel
theorem dX2_init_91 : decode cX2_init 91 = .ok (.aload_n 0, 1) := by decide +kernel
theorem dX2_init_92 : decode cX2_init 92 = .ok (.getfield 19, 3) := by decide +kernel
theorem dX2_init_95 : decode cX2_init 95 = .ok (.iload_n 1, 1) := by decide +kernel
theorem dX2_init_96 : decode cX2_init 96 = .ok (.new 7, 3) := by decide +kernel
theorem dX2_init_99 : decode cX2_init 99 = .ok (.dup, 1) := by decide +kernel
theorem dX2_init_100 : decode cX2_init 100 = .ok (.invokespecial 9, 3) := by decide +kernel
theorem dX2_init_103 : decode cX2_init 103 = .ok (.aastore, 1) := by decide +kernel
theorem dX2_init_104 : decode cX2_init 104 = .ok (.iinc 1 1, 3) := by decide +kernel
theorem dX2_init_107 : decode cX2_init 107 = .ok (.goto (-25), 3) := by decide +kernel
theorem dX2_init_110 : decode cX2_init 110 = .ok (.iconst 0, 1) := by decide +kernel
theorem dX2_init_111 : decode cX2_init 111 = .ok (.istore_n 1, 1) := by decide +kernel
theorem dX2_init_112 : decode cX2_init 112 = .ok (.iload_n 1, 1) := by decide +kernel
theorem dX2_init_113 : decode cX2_init 113 = .ok (.aload_n 0, 1) := by decide +kernel
theorem dX2_init_114 : decode cX2_init 114 = .ok (.getfield 23, 3) := by decide +kernel
theorem dX2_init_117 : decode cX2_init 117 = .ok (.arraylength, 1) := by decide +kernel
theorem dX2_init_118 : decode cX2_init 118 = .ok (.if_icmp .ge 22, 3) := by decide +kernel
theorem dX2_init_121 : decode cX2_init 121 = .ok (.aload_n 0, 1) := by decide +kernel
theorem dX2_init_122 : decode cX2_init 122 = .ok (.getfield 23, 3) := by decide +kernel
theorem dX2_init_125 : decode cX2_init 125 = .ok (.iload_n 1, 1) := by decide +kernel
theorem dX2_init_126 : decode cX2_init 126 = .ok (.new 7, 3) := by decide +kernel
theorem dX2_init_129 : decode cX2_init 129 = .ok (.dup, 1) := by decide +kernel
theorem dX2_init_130 : decode cX2_init 130 = .ok (.invokespecial 9, 3) := by decide +kernel
theorem dX2_init_133 : decode cX2_init 133 = .ok (.aastore, 1) := by decide +kernel
theorem dX2_init_134 : decode cX2_init 134 = .ok (.iinc 1 1, 3) := by decide +kernel
theorem dX2_init_137 : decode cX2_init 137 = .ok (.goto (-25), 3) := by decide +kernel
theorem dX2_init_140 : decode cX2_init 140 = .ok (.aload_n 0, 1) := by decide +kernel
theorem dX2_init_141 : decode cX2_init 141 = .ok (.getfield 10, 3) := by decide +kernel
theorem dX2_init_144 : decode cX2_init 144 = .ok (.iconst 1, 1) := by decide +kernel
theorem dX2_init_145 : decode cX2_init 145 = .ok (.invokevirtual 48, 3) := by decide +kernel
theorem dX2_init_148 : decode cX2_init 148 = .ok (.return_, 1) := by decide +kernel
theorem dX2_deal_0 : decode cX2_deal 0 = .ok (.iload_n 1, 1) := by decide +kernel
theorem dX2_deal_1 : decode cX2_deal 1 = .ok (.ifCond .ge 6, 3) := by decide +kernel
theorem dX2_deal_4 : decode cX2_deal 4 = .ok (.bipush (-2), 2) := by decide +kernel
theorem dX2_deal_6 : decode cX2_deal 6 = .ok (.ireturn, 1) := by decide +kernel
theorem dX2_deal_7 : decode cX2_deal 7 = .ok (.aload_n 0, 1) := by decide +kernel
theorem dX2_deal_8 : decode cX2_deal 8 = .ok (.invokevirtual 52, 3) := by decide +kernel
theorem dX2_deal_11 : decode cX2_deal 11 = .ok (.aload_n 0, 1) := by decide +kernel
theorem dX2_deal_12 : decode cX2_deal 12 = .ok (.getfield 10, 3) := by decide +kernel
theorem dX2_deal_15 : decode cX2_deal 15 = .ok (.iload_n 1, 1) := by decide +kernel
theorem dX2_deal_16 : decode cX2_deal 16 = .ok (.invokevirtual 48, 3) := by decide +kernel
theorem dX2_deal_19 : decode cX2_deal 19 = .ok (.aload_n 0, 1) := by decide +kernel
theorem dX2_deal_20 : decode cX2_deal 20 = .ok (.getfield 10, 3) := by decide +kernel
theorem dX2_deal_23 : decode cX2_deal 23 = .ok (.iconst 0, 1) := by decide +kernel
theorem dX2_deal_24 : decode cX2_deal 24 = .ok (.invokevirtual 55, 3) := by decide +kernel
theorem dX2_deal_27 : decode cX2_deal 27 = .ok (.ireturn, 1) := by decide +kernel
theorem dX2_move_0 : decode cX2_move 0 = .ok (.iload_n 1, 1) := by decide +kernel
theorem dX2_move_1 : decode cX2_move 1 = .ok (.invokestatic 59, 3) := by decide +kernel
theorem dX2_move_4 : decode cX2_move 4 = .ok (.ifCond .eq 10, 3) := by decide +kernel
theorem dX2_move_7 : decode cX2_move 7 = .ok (.iload_n 2, 1) := by decide +kernel
theorem dX2_move_8 : decode cX2_move 8 = .ok (.invokestatic 59, 3) := by decide +kernel
theorem dX2_move_11 : decode cX2_move 11 = .ok (.ifCond .ne 5, 3) := by decide +kernel
theorem dX2_move_14 : decode cX2_move 14 = .ok (.iconst (-1), 1) := by decide +kernel
theorem dX2_move_15 : decode cX2_move 15 = .ok (.ireturn, 1) := by decide +kernel
theorem dX2_move_16 : decode cX2_move 16 = .ok (.aload_n 0, 1) := by decide +kernel
theorem dX2_move_17 : decode cX2_move 17 = .ok (.getfield 10, 3) := by decide +kernel
theorem dX2_move_20 : decode cX2_move 20 = .ok (.iload_n 1, 1) := by decide +kernel
theorem dX2_move_21 : decode cX2_move 21 = .ok (.iload_n 2, 1) := by decide +kernel
theorem dX2_move_22 : decode cX2_move 22 = .ok (.invokevirtual 63, 3) := by decide +kernel
theorem dX2_move_25 : decode cX2_move 25 = .ok (.ifCond .ne 6, 3) := by decide +kernel
theorem dX2_move_28 : decode cX2_move 28 = .ok (.bipush (-5), 2) := by decide +kernel
theorem dX2_move_30 : decode cX2_move 30 = .ok (.ireturn, 1) := by decide +kernel
theorem dX2_move_31 : decode cX2_move 31 = .ok (.aload_n 0, 1) := by decide +kernel
theorem dX2_move_32 : decode cX2_move 32 = .ok (.invokevirtual 52, 3) := by decide +kernel
theorem dX2_move_35 : decode cX2_move 35 = .ok (.aload_n 0, 1) := by decide +kernel
theorem dX2_move_36 : decode cX2_move 36 = .ok (.getfield 10, 3) := by decide +kernel
theorem dX2_move_39 : decode cX2_move 39 = .ok (.iload_n 1, 1) := by decide +kernel
theorem dX2_move_40 : decode cX2_move 40 = .ok (.iload_n 2, 1) := by decide +kernel
theorem dX2_move_41 : decode cX2_move 41 = .ok (.invokevirtual 67, 3) := by decide +kernel
theorem dX2_move_44 : decode cX2_move 44 = .ok (.ireturn, 1) := by decide +kernel
theorem dX2_draw_0 : decode cX2_draw 0 = .ok (.aload_n 0, 1) := by decide +kernel
theorem dX2_draw_1 : decode cX2_draw 1 = .ok (.getfield 10, 3) := by decide +kernel
theorem dX2_draw_4 : decode cX2_draw 4 = .ok (.getfield 71, 3) := by decide +kernel
theorem dX2_draw_7 : decode cX2_draw 7 = .ok (.ifCond .eq 6, 3) := by decide +kernel
theorem dX2_draw_10 : decode cX2_draw 10 = .ok (.bipush (-5), 2) := by decide +kernel
theorem dX2_draw_12 : decode cX2_draw 12 = .ok (.ireturn, 1) := by decide +kernel
theorem dX2_draw_13 : decode cX2_draw 13 = .ok (.aload_n 0, 1) := by decide +kernel
theorem dX2_draw_14 : decode cX2_draw 14 = .ok (.invokevirtual 52, 3) := by decide +kernel
theorem dX2_draw_17 : decode cX2_draw 17 = .ok (.aload_n 0, 1) := by decide +kernel
theorem dX2_draw_18 : decode cX2_draw 18 = .ok (.getfield 10, 3) := by decide +kernel
theorem dX2_draw_21 : decode cX2_draw 21 = .ok (.invokevirtual 75, 3) := by decide +kernel
theorem dX2_draw_24 : decode cX2_draw 24 = .ok (.ireturn, 1) := by decide +kernel
theorem dX2_freeze_0 : decode cX2_freeze 0 = .ok (.iload_n 1, 1) := by decide +kernel
theorem dX2_freeze_1 : decode cX2_freeze 1 = .ok (.bipush 8, 2) := by decide +kernel
theorem dX2_freeze_3 : decode cX2_freeze 3 = .ok (.invokestatic 79, 3) := by decide +kernel
theorem dX2_freeze_6 : decode cX2_freeze 6 = .ok (.ifCond .ne 5, 3) := by decide +kernel
theorem dX2_freeze_9 : decode cX2_freeze 9 = .ok (.iconst (-1), 1) := by decide +kernel
theorem dX2_freeze_10 : decode cX2_freeze 10 = .ok (.ireturn, 1) := by decide +kernel
theorem dX2_freeze_11 : decode cX2_freeze 11 = .ok (.aload_n 0, 1) := by decide +kernel
theorem dX2_freeze_12 : decode cX2_freeze 12 = .ok (.getfield 10, 3) := by decide +kernel
theorem dX2_freeze_15 : decode cX2_freeze 15 = .ok (.iload_n 1, 1) := by decide +kernel
theorem dX2_freeze_16 : decode cX2_freeze 16 = .ok (.invokevirtual 82, 3) := by decide +kernel
theorem dX2_freeze_19 : decode cX2_freeze 19 = .ok (.ifCond .ne 6, 3) := by decide +kernel
theorem dX2_freeze_22 : decode cX2_freeze 22 = .ok (.bipush (-5), 2) := by decide +kernel
theorem dX2_freeze_24 : decode cX2_freeze 24 = .ok (.ireturn, 1) := by decide +kernel
theorem dX2_freeze_25 : decode cX2_freeze 25 = .ok (.aload_n 0, 1) := by decide +kernel
theorem dX2_freeze_26 : decode cX2_freeze 26 = .ok (.invokevirtual 52, 3) := by decide +kernel
theorem dX2_freeze_29 : decode cX2_freeze 29 = .ok (.aload_n 0, 1) := by decide +kernel
theorem dX2_freeze_30 : decode cX2_freeze 30 = .ok (.getfield 10, 3) := by decide +kernel
theorem dX2_freeze_33 : decode cX2_freeze 33 = .ok (.iload_n 1, 1) := by decide +kernel
theorem dX2_freeze_34 : decode cX2_freeze 34 = .ok (.invokevirtual 85, 3) := by decide +kernel
theorem dX2_freeze_37 : decode cX2_freeze 37 = .ok (.ireturn, 1) := by decide +kernel
theorem dX2_play_0 : decode cX2_play 0 = .ok (.iload_n 1, 1) := by decide +kernel
theorem dX2_play_1 : decode cX2_play 1 = .ok (.iconst 1, 1) := by decide +kernel
theorem dX2_play_2 : decode cX2_play 2 = .ok (.if_icmp .lt 9, 3) := by decide +kernel
theorem dX2_play_5 : decode cX2_play 5 = .ok (.iload_n 1, 1) := by decide +kernel
theorem dX2_play_6 : decode cX2_play 6 = .ok (.bipush 60, 2) := by decide +kernel
theorem dX2_play_8 : decode cX2_play 8 = .ok (.if_icmp .le 6, 3) := by decide +kernel
theorem dX2_play_11 : decode cX2_play 11 = .ok (.bipush (-2), 2) := by decide +kernel
theorem dX2_play_13 : decode cX2_play 13 = .ok (.ireturn, 1) := by decide +kernel
theorem dX2_play_14 : decode cX2_play 14 = .ok (.aload_n 0, 1) := by decide +kernel
theorem dX2_play_15 : decode cX2_play 15 = .ok (.invokevirtual 52, 3) := by decide +kernel
theorem dX2_play_18 : decode cX2_play 18 = .ok (.aload_n 0, 1) := by decide +kernel
theorem dX2_play_19 : decode cX2_play 19 = .ok (.aload_n 0, 1) := by decide +kernel
theorem dX2_play_20 : decode cX2_play 20 = .ok (.getfield 10, 3) := by decide +kernel
theorem dX2_play_23 : decode cX2_play 23 = .ok (.iload_n 1, 1) := by decide +kernel
theorem dX2_play_24 : decode cX2_play 24 = .ok (.invokevirtual 88, 3) := by decide +kernel
theorem dX2_play_27 : decode cX2_play 27 = .ok (.ireturn, 1) := by decide +kernel
theorem dX2_playAll_0 : decode cX2_playAll 0 = .ok (.aload_n 0, 1) := by decide +kernel
theorem dX2_playAll_1 : decode cX2_playAll 1 = .ok (.getfield 33, 3) := by decide +kernel
theorem dX2_playAll_4 : decode cX2_playAll 4 = .ok (.invokevirtual 92, 3) := by decide +kernel
theorem dX2_playAll_7 : decode cX2_playAll 7 = .ok (.bipush (-6), 2) := by decide +kernel
theorem dX2_playAll_9 : decode cX2_playAll 9 = .ok (.if_icmp .eq 6, 3) := by decide +kernel
theorem dX2_playAll_12 : decode cX2_playAll 12 = .ok (.bipush (-3), 2) := by decide +kernel
theorem dX2_playAll_14 : decode cX2_playAll 14 = .ok (.ireturn, 1) := by decide +kernel
theorem dX2_playAll_15 : decode cX2_playAll 15 = .ok (.aload_n 0, 1) := by decide +kernel
theorem dX2_playAll_16 : decode cX2_playAll 16 = .ok (.invokevirtual 52, 3) := by decide +kernel
theorem dX2_playAll_19 : decode cX2_playAll 19 = .ok (.iconst 0, 1) := by decide +kernel
theorem dX2_playAll_20 : decode cX2_playAll 20 = .ok (.istore_n 1, 1) := by decide +kernel
theorem dX2_playAll_21 : decode cX2_playAll 21 = .ok (.iconst 0, 1) := by decide +kernel
theorem dX2_playAll_22 : decode cX2_playAll 22 = .ok (.istore_n 2, 1) := by decide +kernel
theorem dX2_playAll_23 : decode cX2_playAll 23 = .ok (.iload_n 1, 1) := by decide +kernel
theorem dX2_playAll_24 : decode cX2_playAll 24 = .ok (.bipush 60, 2) := by decide +kernel
theorem dX2_playAll_26 : decode cX2_playAll 26 = .ok (.if_icmp .ge 39, 3) := by decide +kernel
theorem dX2_playAll_29 : decode cX2_playAll 29 = .ok (.iload_n 2, 1) := by decide +kernel
theorem dX2_playAll_30 : decode cX2_playAll 30 = .ok (.aload_n 0, 1) := by decide +kernel
theorem dX2_playAll_31 : decode cX2_playAll 31 = .ok (.getfield 33, 3) := by decide +kernel
theorem dX2_playAll_34 : decode cX2_playAll 34 = .ok (.getfield 95, 3) := by decide +kernel
theorem dX2_playAll_37 : decode cX2_playAll 37 = .ok (.if_icmp .ge 28, 3) := by decide +kernel
theorem dX2_playAll_40 : decode cX2_playAll 40 = .ok (.aload_n 0, 1) := by decide +kernel
theorem dX2_playAll_41 : decode cX2_playAll 41 = .ok (.iload_n 2, 1) := by decide +kernel
theorem dX2_playAll_42 : decode cX2_playAll 42 = .ok (.invokevirtual 98, 3) := by decide +kernel
theorem dX2_playAll_45 : decode cX2_playAll 45 = .ok (.bipush (-5), 2) := by decide +kernel
theorem dX2_playAll_47 : decode cX2_playAll 47 = .ok (.if_icmp .eq 18, 3) := by decide +kernel
theorem dX2_playAll_50 : decode cX2_playAll 50 = .ok (.iinc 1 1, 3) := by decide +kernel
theorem dX2_playAll_53 : decode cX2_playAll 53 = .ok (.aload_n 0, 1) := by decide +kernel
theorem dX2_playAll_54 : decode cX2_playAll 54 = .ok (.getfield 33, 3) := by decide +kernel
theorem dX2_playAll_57 : decode cX2_playAll 57 = .ok (.iload_n 2, 1) := by decide +kernel
theorem dX2_playAll_58 : decode cX2_playAll 58 = .ok (.invokevirtual 101, 3) := by decide +kernel
theorem dX2_playAll_61 : decode cX2_playAll 61 = .ok (.istore_n 2, 1) := by decide +kernel
theorem dX2_playAll_62 : decode cX2_playAll 62 = .ok (.goto (-39), 3) := by decide +kernel
theorem dX2_playAll_65 : decode cX2_playAll 65 = .ok (.aload_n 0, 1) := by decide +kernel
theorem dX2_playAll_66 : decode cX2_playAll 66 = .ok (.getfield 33, 3) := by decide +kernel
theorem dX2_playAll_69 : decode cX2_playAll 69 = .ok (.invokevirtual 104, 3) := by decide +kernel
theorem dX2_playAll_72 : decode cX2_playAll 72 = .ok (.iload_n 1, 1) := by decide +kernel
theorem dX2_playAll_73 : decode cX2_playAll 73 = .ok (.ireturn, 1) := by decide +kernel
theorem dX2_pile_0 : decode cX2_pile 0 = .ok (.iload_n 1, 1) := by decide +kernel
theorem dX2_pile_1 : decode cX2_pile 1 = .ok (.invokestatic 59, 3) := by decide +kernel
theorem dX2_pile_4 : decode cX2_pile 4 = .ok (.ifCond .ne 5, 3) := by decide +kernel
theorem dX2_pile_7 : decode cX2_pile 7 = .ok (.iconst (-1), 1) := by decide +kernel
theorem dX2_pile_8 : decode cX2_pile 8 = .ok (.ireturn, 1) := by decide +kernel
theorem dX2_pile_9 : decode cX2_pile 9 = .ok (.iload_n 2, 1) := by decide +kernel
theorem dX2_pile_10 : decode cX2_pile 10 = .ok (.tableswitch 53 0 2 #[26, 35, 44], 26) := by decide +kernel
theorem dX2_pile_36 : decode cX2_pile 36 = .ok (.aload_n 0, 1) := by decide +kernel
theorem dX2_pile_37 : decode cX2_pile 37 = .ok (.getfield 10, 3) := by decide +kernel
theorem dX2_pile_40 : decode cX2_pile 40 = .ok (.iload_n 1, 1) := by decide +kernel
theorem dX2_pile_41 : decode cX2_pile 41 = .ok (.invokevirtual 107, 3) := by decide +kernel
theorem dX2_pile_44 : decode cX2_pile 44 = .ok (.ireturn, 1) := by decide +kernel
theorem dX2_pile_45 : decode cX2_pile 45 = .ok (.aload_n 0, 1) := by decide +kernel
theorem dX2_pile_46 : decode cX2_pile 46 = .ok (.getfield 10, 3) := by decide +kernel
theorem dX2_pile_49 : decode cX2_pile 49 = .ok (.iload_n 1, 1) := by decide +kernel
theorem dX2_pile_50 : decode cX2_pile 50 = .ok (.invokevirtual 55, 3) := by decide +kernel
theorem dX2_pile_53 : decode cX2_pile 53 = .ok (.ireturn, 1) := by decide +kernel
theorem dX2_pile_54 : decode cX2_pile 54 = .ok (.aload_n 0, 1) := by decide +kernel
theorem dX2_pile_55 : decode cX2_pile 55 = .ok (.getfield 10, 3) := by decide +kernel
theorem dX2_pile_58 : decode cX2_pile 58 = .ok (.iload_n 1, 1) := by decide +kernel
theorem dX2_pile_59 : decode cX2_pile 59 = .ok (.invokevirtual 110, 3) := by decide +kernel
theorem dX2_pile_62 : decode cX2_pile 62 = .ok (.ireturn, 1) := by decide +kernel
theorem dX2_pile_63 : decode cX2_pile 63 = .ok (.bipush (-2), 2) := by decide +kernel
theorem dX2_pile_65 : decode cX2_pile 65 = .ok (.ireturn, 1) := by decide +kernel
theorem dX2_card_0 : decode cX2_card 0 = .ok (.iload_n 1, 1) := by decide +kernel
theorem dX2_card_1 : decode cX2_card 1 = .ok (.invokestatic 59, 3) := by decide +kernel
theorem dX2_card_4 : decode cX2_card 4 = .ok (.ifCond .eq 18, 3) := by decide +kernel
theorem dX2_card_7 : decode cX2_card 7 = .ok (.iload_n 2, 1) := by decide +kernel
theorem dX2_card_8 : decode cX2_card 8 = .ok (.aload_n 0, 1) := by decide +kernel
theorem dX2_card_9 : decode cX2_card 9 = .ok (.getfield 10, 3) := by decide +kernel
theorem dX2_card_12 : decode cX2_card 12 = .ok (.iload_n 1, 1) := by decide +kernel
theorem dX2_card_13 : decode cX2_card 13 = .ok (.invokevirtual 107, 3) := by decide +kernel
theorem dX2_card_16 : decode cX2_card 16 = .ok (.invokestatic 79, 3) := by decide +kernel
theorem dX2_card_19 : decode cX2_card 19 = .ok (.ifCond .ne 5, 3) := by decide +kernel
theorem dX2_card_22 : decode cX2_card 22 = .ok (.iconst (-1), 1) := by decide +kernel
theorem dX2_card_23 : decode cX2_card 23 = .ok (.ireturn, 1) := by decide +kernel
theorem dX2_card_24 : decode cX2_card 24 = .ok (.aload_n 0, 1) := by decide +kernel
theorem dX2_card_25 : decode cX2_card 25 = .ok (.getfield 10, 3) := by decide +kernel
theorem dX2_card_28 : decode cX2_card 28 = .ok (.iload_n 1, 1) := by decide +kernel
theorem dX2_card_29 : decode cX2_card 29 = .ok (.iload_n 2, 1) := by decide +kernel
theorem dX2_card_30 : decode cX2_card 30 = .ok (.invokevirtual 113, 3) := by decide +kernel
theorem dX2_card_33 : decode cX2_card 33 = .ok (.ireturn, 1) := by decide +kernel
theorem dX2_where_0 : decode cX2_where 0 = .ok (.iload_n 1, 1) := by decide +kernel
theorem dX2_where_1 : decode cX2_where 1 = .ok (.bipush 104, 2) := by decide +kernel
theorem dX2_where_3 : decode cX2_where 3 = .ok (.invokestatic 79, 3) := by decide +kernel
theorem dX2_where_6 : decode cX2_where 6 = .ok (.ifCond .ne 5, 3) := by decide +kernel
theorem dX2_where_9 : decode cX2_where 9 = .ok (.iconst (-1), 1) := by decide +kernel
theorem dX2_where_10 : decode cX2_where 10 = .ok (.ireturn, 1) := by decide +kernel
theorem dX2_where_11 : decode cX2_where 11 = .ok (.iload_n 2, 1) := by decide +kernel
theorem dX2_where_12 : decode cX2_where 12 = .ok (.lookupswitch 54 #[(0, 28), (1, 37)], 28) := by decide +kernel
theorem dX2_where_40 : decode cX2_where 40 = .ok (.aload_n 0, 1) := by decide +kernel
theorem dX2_where_41 : decode cX2_where 41 = .ok (.getfield 10, 3) := by decide +kernel
theorem dX2_where_44 : decode cX2_where 44 = .ok (.iload_n 1, 1) := by decide +kernel
theorem dX2_where_45 : decode cX2_where 45 = .ok (.invokevirtual 116, 3) := by decide +kernel
theorem dX2_where_48 : decode cX2_where 48 = .ok (.ireturn, 1) := by decide +kernel
theorem dX2_where_49 : decode cX2_where 49 = .ok (.aload_n 0, 1) := by decide +kernel
theorem dX2_where_50 : decode cX2_where 50 = .ok (.getfield 10, 3) := by decide +kernel
theorem dX2_where_53 : decode cX2_where 53 = .ok (.aload_n 0, 1) := by decide +kernel
theorem dX2_where_54 : decode cX2_where 54 = .ok (.getfield 10, 3) := by decide +kernel
theorem dX2_where_57 : decode cX2_where 57 = .ok (.iload_n 1, 1) := by decide +kernel
theorem dX2_where_58 : decode cX2_where 58 = .ok (.invokevirtual 116, 3) := by decide +kernel
theorem dX2_where_61 : decode cX2_where 61 = .ok (.iload_n 1, 1) := by decide +kernel
theorem dX2_where_62 : decode cX2_where 62 = .ok (.invokevirtual 119, 3) := by decide +kernel
theorem dX2_where_65 : decode cX2_where 65 = .ok (.ireturn, 1) := by decide +kernel
theorem dX2_where_66 : decode cX2_where 66 = .ok (.bipush (-2), 2) := by decide +kernel
theorem dX2_where_68 : decode cX2_where 68 = .ok (.ireturn, 1) := by decide +kernel
theorem dX2_side_0 : decode cX2_side 0 = .ok (.iload_n 1, 1) := by decide +kernel
theorem dX2_side_1 : decode cX2_side 1 = .ok (.iconst 2, 1) := by decide +kernel
theorem dX2_side_2 : decode cX2_side 2 = .ok (.invokestatic 79, 3) := by decide +kernel
theorem dX2_side_5 : decode cX2_side 5 = .ok (.ifCond .ne 6, 3) := by decide +kernel
theorem dX2_side_8 : decode cX2_side 8 = .ok (.bipush (-2), 2) := by decide +kernel
theorem dX2_side_10 : decode cX2_side 10 = .ok (.ireturn, 1) := by decide +kernel
theorem dX2_side_11 : decode cX2_side 11 = .ok (.iload_n 2, 1) := by decide +kernel
theorem dX2_side_12 : decode cX2_side 12 = .ok (.tableswitch 74 0 3 #[32, 44, 56, 65], 32) := by decide +kernel
theorem dX2_side_44 : decode cX2_side 44 = .ok (.aload_n 0, 1) := by decide +kernel
theorem dX2_side_45 : decode cX2_side 45 = .ok (.getfield 10, 3) := by decide +kernel
theorem dX2_side_48 : decode cX2_side 48 = .ok (.getfield 122, 3) := by decide +kernel
theorem dX2_side_51 : decode cX2_side 51 = .ok (.iload_n 1, 1) := by decide +kernel
theorem dX2_side_52 : decode cX2_side 52 = .ok (.invokestatic 125, 3) := by decide +kernel
theorem dX2_side_55 : decode cX2_side 55 = .ok (.ireturn, 1) := by decide +kernel
theorem dX2_side_56 : decode cX2_side 56 = .ok (.aload_n 0, 1) := by decide +kernel
theorem dX2_side_57 : decode cX2_side 57 = .ok (.getfield 10, 3) := by decide +kernel
theorem dX2_side_60 : decode cX2_side 60 = .ok (.getfield 129, 3) := by decide +kernel
theorem dX2_side_63 : decode cX2_side 63 = .ok (.iload_n 1, 1) := by decide +kernel
theorem dX2_side_64 : decode cX2_side 64 = .ok (.invokestatic 125, 3) := by decide +kernel
theorem dX2_side_67 : decode cX2_side 67 = .ok (.ireturn, 1) := by decide +kernel
theorem dX2_side_68 : decode cX2_side 68 = .ok (.aload_n 0, 1) := by decide +kernel
theorem dX2_side_69 : decode cX2_side 69 = .ok (.getfield 10, 3) := by decide +kernel
theorem dX2_side_72 : decode cX2_side 72 = .ok (.iload_n 1, 1) := by decide +kernel
theorem dX2_side_73 : decode cX2_side 73 = .ok (.invokevirtual 132, 3) := by decide +kernel
theorem dX2_side_76 : decode cX2_side 76 = .ok (.ireturn, 1) := by decide +kernel
theorem dX2_side_77 : decode cX2_side 77 = .ok (.aload_n 0, 1) := by decide +kernel
theorem dX2_side_78 : decode cX2_side 78 = .ok (.getfield 10, 3) := by decide +kernel
theorem dX2_side_81 : decode cX2_side 81 = .ok (.iload_n 1, 1) := by decide +kernel
theorem dX2_side_82 : decode cX2_side 82 = .ok (.invokevirtual 135, 3) := by decide +kernel
theorem dX2_side_85 : decode cX2_side 85 = .ok (.ireturn, 1) := by decide +kernel
theorem dX2_side_86 : decode cX2_side 86 = .ok (.bipush (-2), 2) := by decide +kernel
theorem dX2_side_88 : decode cX2_side 88 = .ok (.ireturn, 1) := by decide +kernel
theorem dX2_count_0 : decode cX2_count 0 = .ok (.iload_n 1, 1) := by decide +kernel
theorem dX2_count_1 : decode cX2_count 1 = .ok (.tableswitch 132 0 8 #[51, 59, 75, 83, 91, 99, 111, 119, 127], 51) := by decide +kernel
theorem dX2_count_52 : decode cX2_count 52 = .ok (.aload_n 0, 1) := by decide +kernel
theorem dX2_count_53 : decode cX2_count 53 = .ok (.getfield 10, 3) := by decide +kernel
theorem dX2_count_56 : decode cX2_count 56 = .ok (.getfield 138, 3) := by decide +kernel
theorem dX2_count_59 : decode cX2_count 59 = .ok (.ireturn, 1) := by decide +kernel
theorem dX2_count_60 : decode cX2_count 60 = .ok (.aload_n 0, 1) := by decide +kernel
theorem dX2_count_61 : decode cX2_count 61 = .ok (.getfield 10, 3) := by decide +kernel
theorem dX2_count_64 : decode cX2_count 64 = .ok (.getfield 71, 3) := by decide +kernel
theorem dX2_count_67 : decode cX2_count 67 = .ok (.ifCond .eq 7, 3) := by decide +kernel
theorem dX2_count_70 : decode cX2_count 70 = .ok (.iconst 1, 1) := by decide +kernel
theorem dX2_count_71 : decode cX2_count 71 = .ok (.goto 4, 3) := by decide +kernel
theorem dX2_count_74 : decode cX2_count 74 = .ok (.iconst 0, 1) := by decide +kernel
theorem dX2_count_75 : decode cX2_count 75 = .ok (.ireturn, 1) := by decide +kernel
theorem dX2_count_76 : decode cX2_count 76 = .ok (.aload_n 0, 1) := by decide +kernel
theorem dX2_count_77 : decode cX2_count 77 = .ok (.getfield 10, 3) := by decide +kernel
theorem dX2_count_80 : decode cX2_count 80 = .ok (.getfield 141, 3) := by decide +kernel
theorem dX2_count_83 : decode cX2_count 83 = .ok (.ireturn, 1) := by decide +kernel
theorem dX2_count_84 : decode cX2_count 84 = .ok (.aload_n 0, 1) := by decide +kernel
theorem dX2_count_85 : decode cX2_count 85 = .ok (.getfield 10, 3) := by decide +kernel
theorem dX2_count_88 : decode cX2_count 88 = .ok (.getfield 144, 3) := by decide +kernel
theorem dX2_count_91 : decode cX2_count 91 = .ok (.ireturn, 1) := by decide +kernel
theorem dX2_count_92 : decode cX2_count 92 = .ok (.aload_n 0, 1) := by decide +kernel
theorem dX2_count_93 : decode cX2_count 93 = .ok (.getfield 10, 3) := by decide +kernel
theorem dX2_count_96 : decode cX2_count 96 = .ok (.invokevirtual 147, 3) := by decide +kernel
theorem dX2_count_99 : decode cX2_count 99 = .ok (.ireturn, 1) := by decide +kernel
theorem dX2_count_100 : decode cX2_count 100 = .ok (.aload_n 0, 1) := by decide +kernel
theorem dX2_count_101 : decode cX2_count 101 = .ok (.getfield 10, 3) := by decide +kernel
theorem dX2_count_104 : decode cX2_count 104 = .ok (.aload_n 0, 1) := by decide +kernel
theorem dX2_count_105 : decode cX2_count 105 = .ok (.getfield 37, 3) := by decide +kernel
theorem dX2_count_108 : decode cX2_count 108 = .ok (.invokevirtual 150, 3) := by decide +kernel
theorem dX2_count_111 : decode cX2_count 111 = .ok (.ireturn, 1) := by decide +kernel
theorem dX2_count_112 : decode cX2_count 112 = .ok (.aload_n 0, 1) := by decide +kernel
theorem dX2_count_113 : decode cX2_count 113 = .ok (.getfield 10, 3) := by decide +kernel
theorem dX2_count_116 : decode cX2_count 116 = .ok (.invokevirtual 154, 3) := by decide +kernel
theorem dX2_count_119 : decode cX2_count 119 = .ok (.ireturn, 1) := by decide +kernel
theorem dX2_count_120 : decode cX2_count 120 = .ok (.aload_n 0, 1) := by decide +kernel
theorem dX2_count_121 : decode cX2_count 121 = .ok (.getfield 33, 3) := by decide +kernel
theorem dX2_count_124 : decode cX2_count 124 = .ok (.getfield 95, 3) := by decide +kernel
theorem dX2_count_127 : decode cX2_count 127 = .ok (.ireturn, 1) := by decide +kernel
theorem dX2_count_128 : decode cX2_count 128 = .ok (.aload_n 0, 1) := by decide +kernel
theorem dX2_count_129 : decode cX2_count 129 = .ok (.getfield 45, 3) := by decide +kernel
theorem dX2_count_132 : decode cX2_count 132 = .ok (.ireturn, 1) := by decide +kernel
theorem dX2_count_133 : decode cX2_count 133 = .ok (.bipush (-2), 2) := by decide +kernel
theorem dX2_count_135 : decode cX2_count 135 = .ok (.ireturn, 1) := by decide +kernel
theorem dX2_ofMove_0 : decode cX2_ofMove 0 = .ok (.iload_n 1, 1) := by decide +kernel
theorem dX2_ofMove_1 : decode cX2_ofMove 1 = .ok (.aload_n 0, 1) := by decide +kernel
theorem dX2_ofMove_2 : decode cX2_ofMove 2 = .ok (.getfield 10, 3) := by decide +kernel
theorem dX2_ofMove_5 : decode cX2_ofMove 5 = .ok (.aload_n 0, 1) := by decide +kernel
theorem dX2_ofMove_6 : decode cX2_ofMove 6 = .ok (.getfield 37, 3) := by decide +kernel
theorem dX2_ofMove_9 : decode cX2_ofMove 9 = .ok (.invokevirtual 150, 3) := by decide +kernel
theorem dX2_ofMove_12 : decode cX2_ofMove 12 = .ok (.invokestatic 79, 3) := by decide +kernel
theorem dX2_ofMove_15 : decode cX2_ofMove 15 = .ok (.ifCond .ne 5, 3) := by decide +kernel
theorem dX2_ofMove_18 : decode cX2_ofMove 18 = .ok (.iconst (-1), 1) := by decide +kernel
theorem dX2_ofMove_19 : decode cX2_ofMove 19 = .ok (.ireturn, 1) := by decide +kernel
theorem dX2_ofMove_20 : decode cX2_ofMove 20 = .ok (.aload_n 0, 1) := by decide +kernel
theorem dX2_ofMove_21 : decode cX2_ofMove 21 = .ok (.getfield 37, 3) := by decide +kernel
theorem dX2_ofMove_24 : decode cX2_ofMove 24 = .ok (.iload_n 1, 1) := by decide +kernel
theorem dX2_ofMove_25 : decode cX2_ofMove 25 = .ok (.invokestatic 125, 3) := by decide +kernel
theorem dX2_ofMove_28 : decode cX2_ofMove 28 = .ok (.invokestatic 157, 3) := by decide +kernel
theorem dX2_ofMove_31 : decode cX2_ofMove 31 = .ok (.istore_n 3, 1) := by decide +kernel
theorem dX2_ofMove_32 : decode cX2_ofMove 32 = .ok (.aload_n 0, 1) := by decide +kernel
theorem dX2_ofMove_33 : decode cX2_ofMove 33 = .ok (.getfield 37, 3) := by decide +kernel
theorem dX2_ofMove_36 : decode cX2_ofMove 36 = .ok (.iload_n 1, 1) := by decide +kernel
theorem dX2_ofMove_37 : decode cX2_ofMove 37 = .ok (.invokestatic 125, 3) := by decide +kernel
theorem dX2_ofMove_40 : decode cX2_ofMove 40 = .ok (.invokestatic 160, 3) := by decide +kernel
theorem dX2_ofMove_43 : decode cX2_ofMove 43 = .ok (.istore 4, 2) := by decide +kernel
theorem dX2_ofMove_45 : decode cX2_ofMove 45 = .ok (.iload_n 2, 1) := by decide +kernel
theorem dX2_ofMove_46 : decode cX2_ofMove 46 = .ok (.tableswitch 42 0 2 #[26, 28, 31], 26) := by decide +kernel
theorem dX2_ofMove_72 : decode cX2_ofMove 72 = .ok (.iload_n 3, 1) := by decide +kernel
theorem dX2_ofMove_73 : decode cX2_ofMove 73 = .ok (.ireturn, 1) := by decide +kernel
theorem dX2_ofMove_74 : decode cX2_ofMove 74 = .ok (.iload 4, 2) := by decide +kernel
theorem dX2_ofMove_76 : decode cX2_ofMove 76 = .ok (.ireturn, 1) := by decide +kernel
theorem dX2_ofMove_77 : decode cX2_ofMove 77 = .ok (.aload_n 0, 1) := by decide +kernel
theorem dX2_ofMove_78 : decode cX2_ofMove 78 = .ok (.getfield 10, 3) := by decide +kernel
theorem dX2_ofMove_81 : decode cX2_ofMove 81 = .ok (.iload_n 3, 1) := by decide +kernel
theorem dX2_ofMove_82 : decode cX2_ofMove 82 = .ok (.iload 4, 2) := by decide +kernel
theorem dX2_ofMove_84 : decode cX2_ofMove 84 = .ok (.invokevirtual 163, 3) := by decide +kernel
theorem dX2_ofMove_87 : decode cX2_ofMove 87 = .ok (.ireturn, 1) := by decide +kernel
theorem dX2_ofMove_88 : decode cX2_ofMove 88 = .ok (.bipush (-2), 2) := by decide +kernel
theorem dX2_ofMove_90 : decode cX2_ofMove 90 = .ok (.ireturn, 1) := by decide +kernel
theorem dX2_best_0 : decode cX2_best 0 = .ok (.aload_n 0, 1) := by decide +kernel
theorem dX2_best_1 : decode cX2_best 1 = .ok (.aload_n 0, 1) := by decide +kernel
theorem dX2_best_2 : decode cX2_best 2 = .ok (.getfield 10, 3) := by decide +kernel
theorem dX2_best_5 : decode cX2_best 5 = .ok (.invokevirtual 166, 3) := by decide +kernel
theorem dX2_best_8 : decode cX2_best 8 = .ok (.ireturn, 1) := by decide +kernel
theorem dX2_ifPlayed_0 : decode cX2_ifPlayed 0 = .ok (.iload_n 1, 1) := by decide +kernel
theorem dX2_ifPlayed_1 : decode cX2_ifPlayed 1 = .ok (.iconst 1, 1) := by decide +kernel
theorem dX2_ifPlayed_2 : decode cX2_ifPlayed 2 = .ok (.if_icmp .lt 19, 3) := by decide +kernel
theorem dX2_ifPlayed_5 : decode cX2_ifPlayed 5 = .ok (.iload_n 1, 1) := by decide +kernel
theorem dX2_ifPlayed_6 : decode cX2_ifPlayed 6 = .ok (.sipush 200, 3) := by decide +kernel
theorem dX2_ifPlayed_9 : decode cX2_ifPlayed 9 = .ok (.if_icmp .gt 12, 3) := by decide +kernel
theorem dX2_ifPlayed_12 : decode cX2_ifPlayed 12 = .ok (.iload_n 2, 1) := by decide +kernel
theorem dX2_ifPlayed_13 : decode cX2_ifPlayed 13 = .ok (.ifCond .lt 8, 3) := by decide +kernel
theorem dX2_ifPlayed_16 : decode cX2_ifPlayed 16 = .ok (.iload_n 2, 1) := by decide +kernel
theorem dX2_ifPlayed_17 : decode cX2_ifPlayed 17 = .ok (.iconst 3, 1) := by decide +kernel
theorem dX2_ifPlayed_18 : decode cX2_ifPlayed 18 = .ok (.if_icmp .le 6, 3) := by decide +kernel
theorem dX2_ifPlayed_21 : decode cX2_ifPlayed 21 = .ok (.bipush (-2), 2) := by decide +kernel
theorem dX2_ifPlayed_23 : decode cX2_ifPlayed 23 = .ok (.ireturn, 1) := by decide +kernel
theorem dX2_ifPlayed_24 : decode cX2_ifPlayed 24 = .ok (.aload_n 0, 1) := by decide +kernel
theorem dX2_ifPlayed_25 : decode cX2_ifPlayed 25 = .ok (.getfield 10, 3) := by decide +kernel
theorem dX2_ifPlayed_28 : decode cX2_ifPlayed 28 = .ok (.aload_n 0, 1) := by decide +kernel
theorem dX2_ifPlayed_29 : decode cX2_ifPlayed 29 = .ok (.getfield 16, 3) := by decide +kernel
theorem dX2_ifPlayed_32 : decode cX2_ifPlayed 32 = .ok (.invokestatic 170, 3) := by decide +kernel
theorem dX2_ifPlayed_35 : decode cX2_ifPlayed 35 = .ok (.aload_n 0, 1) := by decide +kernel
theorem dX2_ifPlayed_36 : decode cX2_ifPlayed 36 = .ok (.aload_n 0, 1) := by decide +kernel
theorem dX2_ifPlayed_37 : decode cX2_ifPlayed 37 = .ok (.getfield 16, 3) := by decide +kernel
theorem dX2_ifPlayed_40 : decode cX2_ifPlayed 40 = .ok (.iload_n 1, 1) := by decide +kernel
theorem dX2_ifPlayed_41 : decode cX2_ifPlayed 41 = .ok (.invokevirtual 88, 3) := by decide +kernel
theorem dX2_ifPlayed_44 : decode cX2_ifPlayed 44 = .ok (.pop, 1) := by decide +kernel
theorem dX2_ifPlayed_45 : decode cX2_ifPlayed 45 = .ok (.iload_n 2, 1) := by decide +kernel
theorem dX2_ifPlayed_46 : decode cX2_ifPlayed 46 = .ok (.tableswitch 58 0 2 #[26, 38, 50], 26) := by decide +kernel
theorem dX2_ifPlayed_72 : decode cX2_ifPlayed 72 = .ok (.aload_n 0, 1) := by decide +kernel
theorem dX2_ifPlayed_73 : decode cX2_ifPlayed 73 = .ok (.getfield 16, 3) := by decide +kernel
theorem dX2_ifPlayed_76 : decode cX2_ifPlayed 76 = .ok (.getfield 122, 3) := by decide +kernel
theorem dX2_ifPlayed_79 : decode cX2_ifPlayed 79 = .ok (.iconst 0, 1) := by decide +kernel
theorem dX2_ifPlayed_80 : decode cX2_ifPlayed 80 = .ok (.invokestatic 125, 3) := by decide +kernel
theorem dX2_ifPlayed_83 : decode cX2_ifPlayed 83 = .ok (.ireturn, 1) := by decide +kernel
theorem dX2_ifPlayed_84 : decode cX2_ifPlayed 84 = .ok (.aload_n 0, 1) := by decide +kernel
theorem dX2_ifPlayed_85 : decode cX2_ifPlayed 85 = .ok (.getfield 16, 3) := by decide +kernel
theorem dX2_ifPlayed_88 : decode cX2_ifPlayed 88 = .ok (.getfield 122, 3) := by decide +kernel
theorem dX2_ifPlayed_91 : decode cX2_ifPlayed 91 = .ok (.iconst 1, 1) := by decide +kernel
theorem dX2_ifPlayed_92 : decode cX2_ifPlayed 92 = .ok (.invokestatic 125, 3) := by decide +kernel
theorem dX2_ifPlayed_95 : decode cX2_ifPlayed 95 = .ok (.ireturn, 1) := by decide +kernel
theorem dX2_ifPlayed_96 : decode cX2_ifPlayed 96 = .ok (.aload_n 0, 1) := by decide +kernel
theorem dX2_ifPlayed_97 : decode cX2_ifPlayed 97 = .ok (.getfield 16, 3) := by decide +kernel
theorem dX2_ifPlayed_100 : decode cX2_ifPlayed 100 = .ok (.invokevirtual 147, 3) := by decide +kernel
theorem dX2_ifPlayed_103 : decode cX2_ifPlayed 103 = .ok (.ireturn, 1) := by decide +kernel
theorem dX2_ifPlayed_104 : decode cX2_ifPlayed 104 = .ok (.aload_n 0, 1) := by decide +kernel
theorem dX2_ifPlayed_105 : decode cX2_ifPlayed 105 = .ok (.getfield 16, 3) := by decide +kernel
theorem dX2_ifPlayed_108 : decode cX2_ifPlayed 108 = .ok (.getfield 141, 3) := by decide +kernel
theorem dX2_ifPlayed_111 : decode cX2_ifPlayed 111 = .ok (.aload_n 0, 1) := by decide +kernel
theorem dX2_ifPlayed_112 : decode cX2_ifPlayed 112 = .ok (.getfield 10, 3) := by decide +kernel
theorem dX2_ifPlayed_115 : decode cX2_ifPlayed 115 = .ok (.getfield 141, 3) := by decide +kernel
theorem dX2_ifPlayed_118 : decode cX2_ifPlayed 118 = .ok (.isub, 1) := by decide +kernel
theorem dX2_ifPlayed_119 : decode cX2_ifPlayed 119 = .ok (.ireturn, 1) := by decide +kernel
theorem dX2_buried_0 : decode cX2_buried 0 = .ok (.iload_n 1, 1) := by decide +kernel
theorem dX2_buried_1 : decode cX2_buried 1 = .ok (.bipush 104, 2) := by decide +kernel
theorem dX2_buried_3 : decode cX2_buried 3 = .ok (.invokestatic 79, 3) := by decide +kernel
theorem dX2_buried_6 : decode cX2_buried 6 = .ok (.ifCond .ne 5, 3) := by decide +kernel
theorem dX2_buried_9 : decode cX2_buried 9 = .ok (.iconst (-1), 1) := by decide +kernel
theorem dX2_buried_10 : decode cX2_buried 10 = .ok (.ireturn, 1) := by decide +kernel
theorem dX2_buried_11 : decode cX2_buried 11 = .ok (.aload_n 0, 1) := by decide +kernel
theorem dX2_buried_12 : decode cX2_buried 12 = .ok (.getfield 10, 3) := by decide +kernel
theorem dX2_buried_15 : decode cX2_buried 15 = .ok (.iload_n 1, 1) := by decide +kernel
theorem dX2_buried_16 : decode cX2_buried 16 = .ok (.invokevirtual 116, 3) := by decide +kernel
theorem dX2_buried_19 : decode cX2_buried 19 = .ok (.istore_n 2, 1) := by decide +kernel
theorem dX2_buried_20 : decode cX2_buried 20 = .ok (.aload_n 0, 1) := by decide +kernel
theorem dX2_buried_21 : decode cX2_buried 21 = .ok (.getfield 10, 3) := by decide +kernel
theorem dX2_buried_24 : decode cX2_buried 24 = .ok (.iload_n 2, 1) := by decide +kernel
theorem dX2_buried_25 : decode cX2_buried 25 = .ok (.invokevirtual 107, 3) := by decide +kernel
theorem dX2_buried_28 : decode cX2_buried 28 = .ok (.iconst 1, 1) := by decide +kernel
theorem dX2_buried_29 : decode cX2_buried 29 = .ok (.isub, 1) := by decide +kernel
theorem dX2_buried_30 : decode cX2_buried 30 = .ok (.aload_n 0, 1) := by decide +kernel
theorem dX2_buried_31 : decode cX2_buried 31 = .ok (.getfield 10, 3) := by decide +kernel
theorem dX2_buried_34 : decode cX2_buried 34 = .ok (.iload_n 2, 1) := by decide +kernel
theorem dX2_buried_35 : decode cX2_buried 35 = .ok (.iload_n 1, 1) := by decide +kernel
theorem dX2_buried_36 : decode cX2_buried 36 = .ok (.invokevirtual 119, 3) := by decide +kernel
theorem dX2_buried_39 : decode cX2_buried 39 = .ok (.isub, 1) := by decide +kernel
theorem dX2_buried_40 : decode cX2_buried 40 = .ok (.istore_n 3, 1) := by decide +kernel
theorem dX2_buried_41 : decode cX2_buried 41 = .ok (.aload_n 0, 1) := by decide +kernel
theorem dX2_buried_42 : decode cX2_buried 42 = .ok (.getfield 10, 3) := by decide +kernel
theorem dX2_buried_45 : decode cX2_buried 45 = .ok (.iload_n 1, 1) := by decide +kernel
theorem dX2_buried_46 : decode cX2_buried 46 = .ok (.invokevirtual 174, 3) := by decide +kernel
theorem dX2_buried_49 : decode cX2_buried 49 = .ok (.ifCond .eq 11, 3) := by decide +kernel
theorem dX2_buried_52 : decode cX2_buried 52 = .ok (.sipush 1000, 3) := by decide +kernel
theorem dX2_buried_55 : decode cX2_buried 55 = .ok (.iload_n 3, 1) := by decide +kernel
theorem dX2_buried_56 : decode cX2_buried 56 = .ok (.iadd, 1) := by decide +kernel
theorem dX2_buried_57 : decode cX2_buried 57 = .ok (.goto 4, 3) := by decide +kernel
theorem dX2_buried_60 : decode cX2_buried 60 = .ok (.iload_n 3, 1) := by decide +kernel
theorem dX2_buried_61 : decode cX2_buried 61 = .ok (.ireturn, 1) := by decide +kernel
theorem dX2_put_0 : decode cX2_put 0 = .ok (.lload_n 1, 1) := by decide +kernel
theorem dX2_put_1 : decode cX2_put 1 = .ok (.invokestatic 177, 3) := by decide +kernel
theorem dX2_put_4 : decode cX2_put 4 = .ok (.istore_n 3, 1) := by decide +kernel
theorem dX2_put_5 : decode cX2_put 5 = .ok (.iload_n 3, 1) := by decide +kernel
theorem dX2_put_6 : decode cX2_put 6 = .ok (.iconst 1, 1) := by decide +kernel
theorem dX2_put_7 : decode cX2_put 7 = .ok (.if_icmp .ge 6, 3) := by decide +kernel
theorem dX2_put_10 : decode cX2_put 10 = .ok (.bipush (-2), 2) := by decide +kernel
theorem dX2_put_12 : decode cX2_put 12 = .ok (.ireturn, 1) := by decide +kernel
theorem dX2_put_13 : decode cX2_put 13 = .ok (.aload_n 0, 1) := by decide +kernel
theorem dX2_put_14 : decode cX2_put 14 = .ok (.getfield 33, 3) := by decide +kernel
theorem dX2_put_17 : decode cX2_put 17 = .ok (.getfield 95, 3) := by decide +kernel
theorem dX2_put_20 : decode cX2_put 20 = .ok (.iload_n 3, 1) := by decide +kernel
theorem dX2_put_21 : decode cX2_put 21 = .ok (.iadd, 1) := by decide +kernel
theorem dX2_put_22 : decode cX2_put 22 = .ok (.bipush 60, 2) := by decide +kernel
theorem dX2_put_24 : decode cX2_put 24 = .ok (.if_icmp .le 6, 3) := by decide +kernel
theorem dX2_put_27 : decode cX2_put 27 = .ok (.bipush (-4), 2) := by decide +kernel
theorem dX2_put_29 : decode cX2_put 29 = .ok (.ireturn, 1) := by decide +kernel
theorem dX2_put_30 : decode cX2_put 30 = .ok (.aload_n 0, 1) := by decide +kernel
theorem dX2_put_31 : decode cX2_put 31 = .ok (.getfield 33, 3) := by decide +kernel
theorem dX2_put_34 : decode cX2_put 34 = .ok (.lload_n 1, 1) := by decide +kernel
theorem dX2_put_35 : decode cX2_put 35 = .ok (.iload_n 3, 1) := by decide +kernel
theorem dX2_put_36 : decode cX2_put 36 = .ok (.invokevirtual 181, 3) := by decide +kernel
theorem dX2_put_39 : decode cX2_put 39 = .ok (.aload_n 0, 1) := by decide +kernel
theorem dX2_put_40 : decode cX2_put 40 = .ok (.getfield 33, 3) := by decide +kernel
theorem dX2_put_43 : decode cX2_put 43 = .ok (.getfield 95, 3) := by decide +kernel
theorem dX2_put_46 : decode cX2_put 46 = .ok (.ireturn, 1) := by decide +kernel
theorem dX2_wipe_0 : decode cX2_wipe 0 = .ok (.aload_n 0, 1) := by decide +kernel
theorem dX2_wipe_1 : decode cX2_wipe 1 = .ok (.getfield 33, 3) := by decide +kernel
theorem dX2_wipe_4 : decode cX2_wipe 4 = .ok (.getfield 95, 3) := by decide +kernel
theorem dX2_wipe_7 : decode cX2_wipe 7 = .ok (.istore_n 1, 1) := by decide +kernel
theorem dX2_wipe_8 : decode cX2_wipe 8 = .ok (.aload_n 0, 1) := by decide +kernel
theorem dX2_wipe_9 : decode cX2_wipe 9 = .ok (.getfield 33, 3) := by decide +kernel
theorem dX2_wipe_12 : decode cX2_wipe 12 = .ok (.invokevirtual 104, 3) := by decide +kernel
theorem dX2_wipe_15 : decode cX2_wipe 15 = .ok (.iload_n 1, 1) := by decide +kernel
theorem dX2_wipe_16 : decode cX2_wipe 16 = .ok (.ireturn, 1) := by decide +kernel
theorem dX2_fault_0 : decode cX2_fault 0 = .ok (.aload_n 0, 1) := by decide +kernel
theorem dX2_fault_1 : decode cX2_fault 1 = .ok (.getfield 33, 3) := by decide +kernel
theorem dX2_fault_4 : decode cX2_fault 4 = .ok (.invokevirtual 92, 3) := by decide +kernel
theorem dX2_fault_7 : decode cX2_fault 7 = .ok (.ireturn, 1) := by decide +kernel
theorem dX2_undo_0 : decode cX2_undo 0 = .ok (.aload_n 0, 1) := by decide +kernel
theorem dX2_undo_1 : decode cX2_undo 1 = .ok (.getfield 45, 3) := by decide +kernel
theorem dX2_undo_4 : decode cX2_undo 4 = .ok (.iconst 1, 1) := by decide +kernel
theorem dX2_undo_5 : decode cX2_undo 5 = .ok (.if_icmp .ge 6, 3) := by decide +kernel
theorem dX2_undo_8 : decode cX2_undo 8 = .ok (.bipush (-5), 2) := by decide +kernel
theorem dX2_undo_10 : decode cX2_undo 10 = .ok (.ireturn, 1) := by decide +kernel
theorem dX2_undo_11 : decode cX2_undo 11 = .ok (.aload_n 0, 1) := by decide +kernel
theorem dX2_undo_12 : decode cX2_undo 12 = .ok (.aload_n 0, 1) := by decide +kernel
theorem dX2_undo_13 : decode cX2_undo 13 = .ok (.getfield 41, 3) := by decide +kernel
theorem dX2_undo_16 : decode cX2_undo 16 = .ok (.iconst 1, 1) := by decide +kernel
theorem dX2_undo_17 : decode cX2_undo 17 = .ok (.isub, 1) := by decide +kernel
theorem dX2_undo_18 : decode cX2_undo 18 = .ok (.bipush 6, 2) := by decide +kernel
theorem dX2_undo_20 : decode cX2_undo 20 = .ok (.invokestatic 185, 3) := by decide +kernel
theorem dX2_undo_23 : decode cX2_undo 23 = .ok (.putfield 41, 3) := by decide +kernel
theorem dX2_undo_26 : decode cX2_undo 26 = .ok (.aload_n 0, 1) := by decide +kernel
theorem dX2_undo_27 : decode cX2_undo 27 = .ok (.dup, 1) := by decide +kernel
theorem dX2_undo_28 : decode cX2_undo 28 = .ok (.getfield 45, 3) := by decide +kernel
theorem dX2_undo_31 : decode cX2_undo 31 = .ok (.iconst 1, 1) := by decide +kernel
theorem dX2_undo_32 : decode cX2_undo 32 = .ok (.isub, 1) := by decide +kernel
theorem dX2_undo_33 : decode cX2_undo 33 = .ok (.putfield 45, 3) := by decide +kernel
theorem dX2_undo_36 : decode cX2_undo 36 = .ok (.aload_n 0, 1) := by decide +kernel
theorem dX2_undo_37 : decode cX2_undo 37 = .ok (.getfield 19, 3) := by decide +kernel
theorem dX2_undo_40 : decode cX2_undo 40 = .ok (.aload_n 0, 1) := by decide +kernel
theorem dX2_undo_41 : decode cX2_undo 41 = .ok (.getfield 41, 3) := by decide +kernel
theorem dX2_undo_44 : decode cX2_undo 44 = .ok (.invokestatic 190, 3) := by decide +kernel
theorem dX2_undo_47 : decode cX2_undo 47 = .ok (.aload_n 0, 1) := by decide +kernel
theorem dX2_undo_48 : decode cX2_undo 48 = .ok (.getfield 10, 3) := by decide +kernel
theorem dX2_undo_51 : decode cX2_undo 51 = .ok (.invokestatic 170, 3) := by decide +kernel
theorem dX2_undo_54 : decode cX2_undo 54 = .ok (.aload_n 0, 1) := by decide +kernel
theorem dX2_undo_55 : decode cX2_undo 55 = .ok (.getfield 45, 3) := by decide +kernel
theorem dX2_undo_58 : decode cX2_undo 58 = .ok (.ireturn, 1) := by decide +kernel
theorem dX2_save_0 : decode cX2_save 0 = .ok (.iload_n 1, 1) := by decide +kernel
theorem dX2_save_1 : decode cX2_save 1 = .ok (.aload_n 0, 1) := by decide +kernel
theorem dX2_save_2 : decode cX2_save 2 = .ok (.getfield 26, 3) := by decide +kernel
theorem dX2_save_5 : decode cX2_save 5 = .ok (.arraylength, 1) := by decide +kernel
theorem dX2_save_6 : decode cX2_save 6 = .ok (.invokestatic 79, 3) := by decide +kernel
theorem dX2_save_9 : decode cX2_save 9 = .ok (.ifCond .ne 6, 3) := by decide +kernel
theorem dX2_save_12 : decode cX2_save 12 = .ok (.bipush (-2), 2) := by decide +kernel
theorem dX2_save_14 : decode cX2_save 14 = .ok (.ireturn, 1) := by decide +kernel
theorem dX2_save_15 : decode cX2_save 15 = .ok (.aload_n 0, 1) := by decide +kernel
theorem dX2_save_16 : decode cX2_save 16 = .ok (.getfield 10, 3) := by decide +kernel
theorem dX2_save_19 : decode cX2_save 19 = .ok (.aload_n 0, 1) := by decide +kernel
theorem dX2_save_20 : decode cX2_save 20 = .ok (.getfield 23, 3) := by decide +kernel
theorem dX2_save_23 : decode cX2_save 23 = .ok (.iload_n 1, 1) := by decide +kernel
theorem dX2_save_24 : decode cX2_save 24 = .ok (.invokestatic 190, 3) := by decide +kernel
theorem dX2_save_27 : decode cX2_save 27 = .ok (.invokestatic 170, 3) := by decide +kernel
theorem dX2_save_30 : decode cX2_save 30 = .ok (.aload_n 0, 1) := by decide +kernel
theorem dX2_save_31 : decode cX2_save 31 = .ok (.getfield 26, 3) := by decide +kernel
theorem dX2_save_34 : decode cX2_save 34 = .ok (.iload_n 1, 1) := by decide +kernel
theorem dX2_save_35 : decode cX2_save 35 = .ok (.iconst 1, 1) := by decide +kernel
theorem dX2_save_36 : decode cX2_save 36 = .ok (.bastore, 1) := by decide +kernel
theorem dX2_save_37 : decode cX2_save 37 = .ok (.aload_n 0, 1) := by decide +kernel
theorem dX2_save_38 : decode cX2_save 38 = .ok (.getfield 10, 3) := by decide +kernel
theorem dX2_save_41 : decode cX2_save 41 = .ok (.getfield 141, 3) := by decide +kernel
theorem dX2_save_44 : decode cX2_save 44 = .ok (.ireturn, 1) := by decide +kernel
theorem dX2_restore_0 : decode cX2_restore 0 = .ok (.iload_n 1, 1) := by decide +kernel
theorem dX2_restore_1 : decode cX2_restore 1 = .ok (.aload_n 0, 1) := by decide +kernel
theorem dX2_restore_2 : decode cX2_restore 2 = .ok (.getfield 26, 3) := by decide +kernel
theorem dX2_restore_5 : decode cX2_restore 5 = .ok (.arraylength, 1) := by decide +kernel
theorem dX2_restore_6 : decode cX2_restore 6 = .ok (.invokestatic 79, 3) := by decide +kernel
theorem dX2_restore_9 : decode cX2_restore 9 = .ok (.ifCond .ne 6, 3) := by decide +kernel
theorem dX2_restore_12 : decode cX2_restore 12 = .ok (.bipush (-2), 2) := by decide +kernel
theorem dX2_restore_14 : decode cX2_restore 14 = .ok (.ireturn, 1) := by decide +kernel
theorem dX2_restore_15 : decode cX2_restore 15 = .ok (.aload_n 0, 1) := by decide +kernel
theorem dX2_restore_16 : decode cX2_restore 16 = .ok (.getfield 26, 3) := by decide +kernel
theorem dX2_restore_19 : decode cX2_restore 19 = .ok (.iload_n 1, 1) := by decide +kernel
theorem dX2_restore_20 : decode cX2_restore 20 = .ok (.baload, 1) := by decide +kernel
theorem dX2_restore_21 : decode cX2_restore 21 = .ok (.ifCond .ne 6, 3) := by decide +kernel
theorem dX2_restore_24 : decode cX2_restore 24 = .ok (.bipush (-5), 2) := by decide +kernel
theorem dX2_restore_26 : decode cX2_restore 26 = .ok (.ireturn, 1) := by decide +kernel
theorem dX2_restore_27 : decode cX2_restore 27 = .ok (.aload_n 0, 1) := by decide +kernel
theorem dX2_restore_28 : decode cX2_restore 28 = .ok (.invokevirtual 52, 3) := by decide +kernel
theorem dX2_restore_31 : decode cX2_restore 31 = .ok (.aload_n 0, 1) := by decide +kernel
theorem dX2_restore_32 : decode cX2_restore 32 = .ok (.getfield 23, 3) := by decide +kernel
theorem dX2_restore_35 : decode cX2_restore 35 = .ok (.iload_n 1, 1) := by decide +kernel
theorem dX2_restore_36 : decode cX2_restore 36 = .ok (.invokestatic 190, 3) := by decide +kernel
theorem dX2_restore_39 : decode cX2_restore 39 = .ok (.aload_n 0, 1) := by decide +kernel
theorem dX2_restore_40 : decode cX2_restore 40 = .ok (.getfield 10, 3) := by decide +kernel
theorem dX2_restore_43 : decode cX2_restore 43 = .ok (.invokestatic 170, 3) := by decide +kernel
theorem dX2_restore_46 : decode cX2_restore 46 = .ok (.aload_n 0, 1) := by decide +kernel
theorem dX2_restore_47 : decode cX2_restore 47 = .ok (.getfield 10, 3) := by decide +kernel
theorem dX2_restore_50 : decode cX2_restore 50 = .ok (.getfield 141, 3) := by decide +kernel
theorem dX2_restore_53 : decode cX2_restore 53 = .ok (.ireturn, 1) := by decide +kernel
theorem dX2_remember_0 : decode cX2_remember 0 = .ok (.aload_n 0, 1) := by decide +kernel
theorem dX2_remember_1 : decode cX2_remember 1 = .ok (.getfield 10, 3) := by decide +kernel
theorem dX2_remember_4 : decode cX2_remember 4 = .ok (.aload_n 0, 1) := by decide +kernel
theorem dX2_remember_5 : decode cX2_remember 5 = .ok (.getfield 19, 3) := by decide +kernel
theorem dX2_remember_8 : decode cX2_remember 8 = .ok (.aload_n 0, 1) := by decide +kernel
theorem dX2_remember_9 : decode cX2_remember 9 = .ok (.getfield 41, 3) := by decide +kernel
theorem dX2_remember_12 : decode cX2_remember 12 = .ok (.invokestatic 190, 3) := by decide +kernel
theorem dX2_remember_15 : decode cX2_remember 15 = .ok (.invokestatic 170, 3) := by decide +kernel
theorem dX2_remember_18 : decode cX2_remember 18 = .ok (.aload_n 0, 1) := by decide +kernel
theorem dX2_remember_19 : decode cX2_remember 19 = .ok (.aload_n 0, 1) := by decide +kernel
theorem dX2_remember_20 : decode cX2_remember 20 = .ok (.getfield 41, 3) := by decide +kernel
theorem dX2_remember_23 : decode cX2_remember 23 = .ok (.iconst 1, 1) := by decide +kernel
theorem dX2_remember_24 : decode cX2_remember 24 = .ok (.iadd, 1) := by decide +kernel
theorem dX2_remember_25 : decode cX2_remember 25 = .ok (.bipush 6, 2) := by decide +kernel
theorem dX2_remember_27 : decode cX2_remember 27 = .ok (.invokestatic 185, 3) := by decide +kernel
theorem dX2_remember_30 : decode cX2_remember 30 = .ok (.putfield 41, 3) := by decide +kernel
theorem dX2_remember_33 : decode cX2_remember 33 = .ok (.aload_n 0, 1) := by decide +kernel
theorem dX2_remember_34 : decode cX2_remember 34 = .ok (.aload_n 0, 1) := by decide +kernel
theorem dX2_remember_35 : decode cX2_remember 35 = .ok (.getfield 45, 3) := by decide +kernel
theorem dX2_remember_38 : decode cX2_remember 38 = .ok (.iconst 1, 1) := by decide +kernel
theorem dX2_remember_39 : decode cX2_remember 39 = .ok (.iadd, 1) := by decide +kernel
theorem dX2_remember_40 : decode cX2_remember 40 = .ok (.bipush 6, 2) := by decide +kernel
theorem dX2_remember_42 : decode cX2_remember 42 = .ok (.invokestatic 194, 3) := by decide +kernel
theorem dX2_remember_45 : decode cX2_remember 45 = .ok (.putfield 45, 3) := by decide +kernel
theorem dX2_remember_48 : decode cX2_remember 48 = .ok (.return_, 1) := by decide +kernel
theorem dX2_copyTable_0 : decode cX2_copyTable 0 = .ok (.aload_n 0, 1) := by decide +kernel
theorem dX2_copyTable_1 : decode cX2_copyTable 1 = .ok (.ifnull 7, 3) := by decide +kernel
theorem dX2_copyTable_4 : decode cX2_copyTable 4 = .ok (.aload_n 1, 1) := by decide +kernel
theorem dX2_copyTable_5 : decode cX2_copyTable 5 = .ok (.ifnonnull 4, 3) := by decide +kernel
theorem dX2_copyTable_8 : decode cX2_copyTable 8 = .ok (.return_, 1) := by decide +kernel
theorem dX2_copyTable_9 : decode cX2_copyTable 9 = .ok (.aload_n 0, 1) := by decide +kernel
theorem dX2_copyTable_10 : decode cX2_copyTable 10 = .ok (.getfield 197, 3) := by decide +kernel
theorem dX2_copyTable_13 : decode cX2_copyTable 13 = .ok (.aload_n 1, 1) := by decide +kernel
theorem dX2_copyTable_14 : decode cX2_copyTable 14 = .ok (.getfield 197, 3) := by decide +kernel
theorem dX2_copyTable_17 : decode cX2_copyTable 17 = .ok (.invokestatic 200, 3) := by decide +kernel
theorem dX2_copyTable_20 : decode cX2_copyTable 20 = .ok (.aload_n 0, 1) := by decide +kernel
theorem dX2_copyTable_21 : decode cX2_copyTable 21 = .ok (.getfield 204, 3) := by decide +kernel
theorem dX2_copyTable_24 : decode cX2_copyTable 24 = .ok (.aload_n 1, 1) := by decide +kernel
theorem dX2_copyTable_25 : decode cX2_copyTable 25 = .ok (.getfield 204, 3) := by decide +kernel
theorem dX2_copyTable_28 : decode cX2_copyTable 28 = .ok (.invokestatic 200, 3) := by decide +kernel
theorem dX2_copyTable_31 : decode cX2_copyTable 31 = .ok (.aload_n 0, 1) := by decide +kernel
theorem dX2_copyTable_32 : decode cX2_copyTable 32 = .ok (.getfield 122, 3) := by decide +kernel
theorem dX2_copyTable_35 : decode cX2_copyTable 35 = .ok (.aload_n 1, 1) := by decide +kernel
theorem dX2_copyTable_36 : decode cX2_copyTable 36 = .ok (.getfield 122, 3) := by decide +kernel
theorem dX2_copyTable_39 : decode cX2_copyTable 39 = .ok (.invokestatic 200, 3) := by decide +kernel
theorem dX2_copyTable_42 : decode cX2_copyTable 42 = .ok (.aload_n 0, 1) := by decide +kernel
theorem dX2_copyTable_43 : decode cX2_copyTable 43 = .ok (.getfield 129, 3) := by decide +kernel
theorem dX2_copyTable_46 : decode cX2_copyTable 46 = .ok (.aload_n 1, 1) := by decide +kernel
theorem dX2_copyTable_47 : decode cX2_copyTable 47 = .ok (.getfield 129, 3) := by decide +kernel
theorem dX2_copyTable_50 : decode cX2_copyTable 50 = .ok (.invokestatic 200, 3) := by decide +kernel
theorem dX2_copyTable_53 : decode cX2_copyTable 53 = .ok (.aload_n 0, 1) := by decide +kernel
theorem dX2_copyTable_54 : decode cX2_copyTable 54 = .ok (.getfield 207, 3) := by decide +kernel
theorem dX2_copyTable_57 : decode cX2_copyTable 57 = .ok (.aload_n 1, 1) := by decide +kernel
theorem dX2_copyTable_58 : decode cX2_copyTable 58 = .ok (.getfield 207, 3) := by decide +kernel
theorem dX2_copyTable_61 : decode cX2_copyTable 61 = .ok (.invokestatic 200, 3) := by decide +kernel
theorem dX2_copyTable_64 : decode cX2_copyTable 64 = .ok (.aload_n 1, 1) := by decide +kernel
theorem dX2_copyTable_65 : decode cX2_copyTable 65 = .ok (.aload_n 0, 1) := by decide +kernel
theorem dX2_copyTable_66 : decode cX2_copyTable 66 = .ok (.getfield 138, 3) := by decide +kernel
theorem dX2_copyTable_69 : decode cX2_copyTable 69 = .ok (.putfield 138, 3) := by decide +kernel
theorem dX2_copyTable_72 : decode cX2_copyTable 72 = .ok (.aload_n 1, 1) := by decide +kernel
theorem dX2_copyTable_73 : decode cX2_copyTable 73 = .ok (.aload_n 0, 1) := by decide +kernel
theorem dX2_copyTable_74 : decode cX2_copyTable 74 = .ok (.getfield 141, 3) := by decide +kernel
theorem dX2_copyTable_77 : decode cX2_copyTable 77 = .ok (.putfield 141, 3) := by decide +kernel
theorem dX2_copyTable_80 : decode cX2_copyTable 80 = .ok (.aload_n 1, 1) := by decide +kernel
theorem dX2_copyTable_81 : decode cX2_copyTable 81 = .ok (.aload_n 0, 1) := by decide +kernel
theorem dX2_copyTable_82 : decode cX2_copyTable 82 = .ok (.getfield 144, 3) := by decide +kernel
theorem dX2_copyTable_85 : decode cX2_copyTable 85 = .ok (.putfield 144, 3) := by decide +kernel
theorem dX2_copyTable_88 : decode cX2_copyTable 88 = .ok (.aload_n 1, 1) := by decide +kernel
theorem dX2_copyTable_89 : decode cX2_copyTable 89 = .ok (.aload_n 0, 1) := by decide +kernel
theorem dX2_copyTable_90 : decode cX2_copyTable 90 = .ok (.getfield 71, 3) := by decide +kernel
theorem dX2_copyTable_93 : decode cX2_copyTable 93 = .ok (.putfield 71, 3) := by decide +kernel
theorem dX2_copyTable_96 : decode cX2_copyTable 96 = .ok (.return_, 1) := by decide +kernel
theorem dX2_copyRow_0 : decode cX2_copyRow 0 = .ok (.aload_n 0, 1) := by decide +kernel
theorem dX2_copyRow_1 : decode cX2_copyRow 1 = .ok (.iconst 0, 1) := by decide +kernel
theorem dX2_copyRow_2 : decode cX2_copyRow 2 = .ok (.aload_n 1, 1) := by decide +kernel
theorem dX2_copyRow_3 : decode cX2_copyRow 3 = .ok (.iconst 0, 1) := by decide +kernel
theorem dX2_copyRow_4 : decode cX2_copyRow 4 = .ok (.aload_n 0, 1) := by decide +kernel
theorem dX2_copyRow_5 : decode cX2_copyRow 5 = .ok (.arraylength, 1) := by decide +kernel
theorem dX2_copyRow_6 : decode cX2_copyRow 6 = .ok (.aload_n 1, 1) := by decide +kernel
theorem dX2_copyRow_7 : decode cX2_copyRow 7 = .ok (.arraylength, 1) := by decide +kernel
theorem dX2_copyRow_8 : decode cX2_copyRow 8 = .ok (.invokestatic 194, 3) := by decide +kernel
theorem dX2_copyRow_11 : decode cX2_copyRow 11 = .ok (.invokestatic 210, 3) := by decide +kernel
theorem dX2_copyRow_14 : decode cX2_copyRow 14 = .ok (.return_, 1) := by decide +kernel
theorem dX2_tableAt_0 : decode cX2_tableAt 0 = .ok (.iload_n 1, 1) := by decide +kernel
theorem dX2_tableAt_1 : decode cX2_tableAt 1 = .ok (.ifCond .lt 15, 3) := by decide +kernel
theorem dX2_tableAt_4 : decode cX2_tableAt 4 = .ok (.iload_n 1, 1) := by decide +kernel
theorem dX2_tableAt_5 : decode cX2_tableAt 5 = .ok (.aload_n 0, 1) := by decide +kernel
theorem dX2_tableAt_6 : decode cX2_tableAt 6 = .ok (.arraylength, 1) := by decide +kernel
theorem dX2_tableAt_7 : decode cX2_tableAt 7 = .ok (.if_icmp .ge 9, 3) := by decide +kernel
theorem dX2_tableAt_10 : decode cX2_tableAt 10 = .ok (.aload_n 0, 1) := by decide +kernel
theorem dX2_tableAt_11 : decode cX2_tableAt 11 = .ok (.iload_n 1, 1) := by decide +kernel
theorem dX2_tableAt_12 : decode cX2_tableAt 12 = .ok (.aaload, 1) := by decide +kernel
theorem dX2_tableAt_13 : decode cX2_tableAt 13 = .ok (.goto 4, 3) := by decide +kernel
theorem dX2_tableAt_16 : decode cX2_tableAt 16 = .ok (.aconst_null, 1) := by decide +kernel
theorem dX2_tableAt_17 : decode cX2_tableAt 17 = .ok (.areturn, 1) := by decide +kernel
theorem dX2_playByRule_0 : decode cX2_playByRule 0 = .ok (.iconst 0, 1) := by decide +kernel
theorem dX2_playByRule_1 : decode cX2_playByRule 1 = .ok (.istore_n 3, 1) := by decide +kernel
theorem dX2_playByRule_2 : decode cX2_playByRule 2 = .ok (.iload_n 3, 1) := by decide +kernel
theorem dX2_playByRule_3 : decode cX2_playByRule 3 = .ok (.iload_n 2, 1) := by decide +kernel
theorem dX2_playByRule_4 : decode cX2_playByRule 4 = .ok (.if_icmp .ge 78, 3) := by decide +kernel
theorem dX2_playByRule_7 : decode cX2_playByRule 7 = .ok (.aload_n 1, 1) := by decide +kernel
theorem dX2_playByRule_8 : decode cX2_playByRule 8 = .ok (.getfield 71, 3) := by decide +kernel
theorem dX2_playByRule_11 : decode cX2_playByRule 11 = .ok (.ifCond .ne 71, 3) := by decide +kernel
theorem dX2_playByRule_14 : decode cX2_playByRule 14 = .ok (.aload_n 0, 1) := by decide +kernel
theorem dX2_playByRule_15 : decode cX2_playByRule 15 = .ok (.getfield 37, 3) := by decide +kernel
theorem dX2_playByRule_18 : decode cX2_playByRule 18 = .ok (.aload_n 0, 1) := by decide +kernel
theorem dX2_playByRule_19 : decode cX2_playByRule 19 = .ok (.aload_n 1, 1) := by decide +kernel
theorem dX2_playByRule_20 : decode cX2_playByRule 20 = .ok (.invokevirtual 166, 3) := by decide +kernel
theorem dX2_playByRule_23 : decode cX2_playByRule 23 = .ok (.invokestatic 125, 3) := by decide +kernel
theorem dX2_playByRule_26 : decode cX2_playByRule 26 = .ok (.istore 4, 2) := by decide +kernel
theorem dX2_playByRule_28 : decode cX2_playByRule 28 = .ok (.iload 4, 2) := by decide +kernel
theorem dX2_playByRule_30 : decode cX2_playByRule 30 = .ok (.bipush (-6), 2) := by decide +kernel
theorem dX2_playByRule_32 : decode cX2_playByRule 32 = .ok (.if_icmp .eq 39, 3) := by decide +kernel
theorem dX2_playByRule_35 : decode cX2_playByRule 35 = .ok (.aload_n 1, 1) := by decide +kernel
theorem dX2_playByRule_36 : decode cX2_playByRule 36 = .ok (.iload 4, 2) := by decide +kernel
theorem dX2_playByRule_38 : decode cX2_playByRule 38 = .ok (.invokestatic 157, 3) := by decide +kernel
theorem dX2_playByRule_41 : decode cX2_playByRule 41 = .ok (.iload 4, 2) := by decide +kernel
theorem dX2_playByRule_43 : decode cX2_playByRule 43 = .ok (.invokestatic 160, 3) := by decide +kernel
theorem dX2_playByRule_46 : decode cX2_playByRule 46 = .ok (.invokevirtual 163, 3) := by decide +kernel
theorem dX2_playByRule_49 : decode cX2_playByRule 49 = .ok (.iconst 1, 1) := by decide +kernel
theorem dX2_playByRule_50 : decode cX2_playByRule 50 = .ok (.if_icmp .lt 21, 3) := by decide +kernel
theorem dX2_playByRule_53 : decode cX2_playByRule 53 = .ok (.aload_n 1, 1) := by decide +kernel
theorem dX2_playByRule_54 : decode cX2_playByRule 54 = .ok (.iload 4, 2) := by decide +kernel
theorem dX2_playByRule_56 : decode cX2_playByRule 56 = .ok (.invokestatic 157, 3) := by decide +kernel
theorem dX2_playByRule_59 : decode cX2_playByRule 59 = .ok (.iload 4, 2) := by decide +kernel
theorem dX2_playByRule_61 : decode cX2_playByRule 61 = .ok (.invokestatic 160, 3) := by decide +kernel
theorem dX2_playByRule_64 : decode cX2_playByRule 64 = .ok (.invokevirtual 67, 3) := by decide +kernel
theorem dX2_playByRule_67 : decode cX2_playByRule 67 = .ok (.pop, 1) := by decide +kernel
theorem dX2_playByRule_68 : decode cX2_playByRule 68 = .ok (.goto 8, 3) := by decide +kernel
theorem dX2_playByRule_71 : decode cX2_playByRule 71 = .ok (.aload_n 1, 1) := by decide +kernel
theorem dX2_playByRule_72 : decode cX2_playByRule 72 = .ok (.invokevirtual 75, 3) := by decide +kernel
theorem dX2_playByRule_75 : decode cX2_playByRule 75 = .ok (.pop, 1) := by decide +kernel
theorem dX2_playByRule_76 : decode cX2_playByRule 76 = .ok (.iinc 3 1, 3) := by decide +kernel
theorem dX2_playByRule_79 : decode cX2_playByRule 79 = .ok (.goto (-77), 3) := by decide +kernel
theorem dX2_playByRule_82 : decode cX2_playByRule 82 = .ok (.iload_n 3, 1) := by decide +kernel
theorem dX2_playByRule_83 : decode cX2_playByRule 83 = .ok (.ireturn, 1) := by decide +kernel
theorem dX2_indexOfBest_0 : decode cX2_indexOfBest 0 = .ok (.aload_n 1, 1) := by decide +kernel
theorem dX2_indexOfBest_1 : decode cX2_indexOfBest 1 = .ok (.aload_n 0, 1) := by decide +kernel
theorem dX2_indexOfBest_2 : decode cX2_indexOfBest 2 = .ok (.getfield 37, 3) := by decide +kernel
theorem dX2_indexOfBest_5 : decode cX2_indexOfBest 5 = .ok (.invokevirtual 150, 3) := by decide +kernel
theorem dX2_indexOfBest_8 : decode cX2_indexOfBest 8 = .ok (.istore_n 2, 1) := by decide +kernel
theorem dX2_indexOfBest_9 : decode cX2_indexOfBest 9 = .ok (.bipush (-6), 2) := by decide +kernel
theorem dX2_indexOfBest_11 : decode cX2_indexOfBest 11 = .ok (.istore_n 3, 1) := by decide +kernel
theorem dX2_indexOfBest_12 : decode cX2_indexOfBest 12 = .ok (.iconst (-1), 1) := by decide +kernel
theorem dX2_indexOfBest_13 : decode cX2_indexOfBest 13 = .ok (.istore 4, 2) := by decide +kernel
theorem dX2_indexOfBest_15 : decode cX2_indexOfBest 15 = .ok (.iconst 0, 1) := by decide +kernel
theorem dX2_indexOfBest_16 : decode cX2_indexOfBest 16 = .ok (.istore 5, 2) := by decide +kernel
theorem dX2_indexOfBest_18 : decode cX2_indexOfBest 18 = .ok (.iload 5, 2) := by decide +kernel
theorem dX2_indexOfBest_20 : decode cX2_indexOfBest 20 = .ok (.iload_n 2, 1) := by decide +kernel
theorem dX2_indexOfBest_21 : decode cX2_indexOfBest 21 = .ok (.if_icmp .ge 53, 3) := by decide +kernel
theorem dX2_indexOfBest_24 : decode cX2_indexOfBest 24 = .ok (.aload_n 1, 1) := by decide +kernel
theorem dX2_indexOfBest_25 : decode cX2_indexOfBest 25 = .ok (.aload_n 0, 1) := by decide +kernel
theorem dX2_indexOfBest_26 : decode cX2_indexOfBest 26 = .ok (.getfield 37, 3) := by decide +kernel
theorem dX2_indexOfBest_29 : decode cX2_indexOfBest 29 = .ok (.iload 5, 2) := by decide +kernel
theorem dX2_indexOfBest_31 : decode cX2_indexOfBest 31 = .ok (.invokestatic 125, 3) := by decide +kernel
theorem dX2_indexOfBest_34 : decode cX2_indexOfBest 34 = .ok (.invokestatic 157, 3) := by decide +kernel
theorem dX2_indexOfBest_37 : decode cX2_indexOfBest 37 = .ok (.aload_n 0, 1) := by decide +kernel
theorem dX2_indexOfBest_38 : decode cX2_indexOfBest 38 = .ok (.getfield 37, 3) := by decide +kernel
theorem dX2_indexOfBest_41 : decode cX2_indexOfBest 41 = .ok (.iload 5, 2) := by decide +kernel
theorem dX2_indexOfBest_43 : decode cX2_indexOfBest 43 = .ok (.invokestatic 125, 3) := by decide +kernel
theorem dX2_indexOfBest_46 : decode cX2_indexOfBest 46 = .ok (.invokestatic 160, 3) := by decide +kernel
theorem dX2_indexOfBest_49 : decode cX2_indexOfBest 49 = .ok (.invokevirtual 163, 3) := by decide +kernel
theorem dX2_indexOfBest_52 : decode cX2_indexOfBest 52 = .ok (.istore 6, 2) := by decide +kernel
theorem dX2_indexOfBest_54 : decode cX2_indexOfBest 54 = .ok (.iload 6, 2) := by decide +kernel
theorem dX2_indexOfBest_56 : decode cX2_indexOfBest 56 = .ok (.iload 4, 2) := by decide +kernel
theorem dX2_indexOfBest_58 : decode cX2_indexOfBest 58 = .ok (.if_icmp .le 10, 3) := by decide +kernel
theorem dX2_indexOfBest_61 : decode cX2_indexOfBest 61 = .ok (.iload 5, 2) := by decide +kernel
theorem dX2_indexOfBest_63 : decode cX2_indexOfBest 63 = .ok (.istore_n 3, 1) := by decide +kernel
theorem dX2_indexOfBest_64 : decode cX2_indexOfBest 64 = .ok (.iload 6, 2) := by decide +kernel
theorem dX2_indexOfBest_66 : decode cX2_indexOfBest 66 = .ok (.istore 4, 2) := by decide +kernel
theorem dX2_indexOfBest_68 : decode cX2_indexOfBest 68 = .ok (.iinc 5 1, 3) := by decide +kernel
theorem dX2_indexOfBest_71 : decode cX2_indexOfBest 71 = .ok (.goto (-53), 3) := by decide +kernel
theorem dX2_indexOfBest_74 : decode cX2_indexOfBest 74 = .ok (.iload_n 3, 1) := by decide +kernel
theorem dX2_indexOfBest_75 : decode cX2_indexOfBest 75 = .ok (.ireturn, 1) := by decide +kernel
theorem dX2_playStep_0 : decode cX2_playStep 0 = .ok (.aload_n 0, 1) := by decide +kernel
theorem dX2_playStep_1 : decode cX2_playStep 1 = .ok (.getfield 33, 3) := by decide +kernel
theorem dX2_playStep_4 : decode cX2_playStep 4 = .ok (.iload_n 1, 1) := by decide +kernel
theorem dX2_playStep_5 : decode cX2_playStep 5 = .ok (.invokevirtual 216, 3) := by decide +kernel
theorem dX2_playStep_8 : decode cX2_playStep 8 = .ok (.istore_n 2, 1) := by decide +kernel
theorem dX2_playStep_9 : decode cX2_playStep 9 = .ok (.iload_n 2, 1) := by decide +kernel
theorem dX2_playStep_10 : decode cX2_playStep 10 = .ok (.bipush 100, 2) := by decide +kernel
theorem dX2_playStep_12 : decode cX2_playStep 12 = .ok (.if_icmp .ne 26, 3) := by decide +kernel
theorem dX2_playStep_15 : decode cX2_playStep 15 = .ok (.aload_n 0, 1) := by decide +kernel
theorem dX2_playStep_16 : decode cX2_playStep 16 = .ok (.getfield 10, 3) := by decide +kernel
theorem dX2_playStep_19 : decode cX2_playStep 19 = .ok (.getfield 71, 3) := by decide +kernel
theorem dX2_playStep_22 : decode cX2_playStep 22 = .ok (.ifCond .eq 8, 3) := by decide +kernel
theorem dX2_playStep_25 : decode cX2_playStep 25 = .ok (.bipush (-5), 2) := by decide +kernel
theorem dX2_playStep_27 : decode cX2_playStep 27 = .ok (.goto 10, 3) := by decide +kernel
theorem dX2_playStep_30 : decode cX2_playStep 30 = .ok (.aload_n 0, 1) := by decide +kernel
theorem dX2_playStep_31 : decode cX2_playStep 31 = .ok (.getfield 10, 3) := by decide +kernel
theorem dX2_playStep_34 : decode cX2_playStep 34 = .ok (.invokevirtual 75, 3) := by decide +kernel
theorem dX2_playStep_37 : decode cX2_playStep 37 = .ok (.ireturn, 1) := by decide +kernel
theorem dX2_playStep_38 : decode cX2_playStep 38 = .ok (.iload_n 2, 1) := by decide +kernel
theorem dX2_playStep_39 : decode cX2_playStep 39 = .ok (.bipush 102, 2) := by decide +kernel
theorem dX2_playStep_41 : decode cX2_playStep 41 = .ok (.if_icmp .ne 42, 3) := by decide +kernel
theorem dX2_playStep_44 : decode cX2_playStep 44 = .ok (.aload_n 0, 1) := by decide +kernel
theorem dX2_playStep_45 : decode cX2_playStep 45 = .ok (.getfield 33, 3) := by decide +kernel
theorem dX2_playStep_48 : decode cX2_playStep 48 = .ok (.iload_n 1, 1) := by decide +kernel
theorem dX2_playStep_49 : decode cX2_playStep 49 = .ok (.iconst 1, 1) := by decide +kernel
theorem dX2_playStep_50 : decode cX2_playStep 50 = .ok (.iadd, 1) := by decide +kernel
theorem dX2_playStep_51 : decode cX2_playStep 51 = .ok (.invokevirtual 216, 3) := by decide +kernel
theorem dX2_playStep_54 : decode cX2_playStep 54 = .ok (.bipush 48, 2) := by decide +kernel
theorem dX2_playStep_56 : decode cX2_playStep 56 = .ok (.isub, 1) := by decide +kernel
theorem dX2_playStep_57 : decode cX2_playStep 57 = .ok (.istore_n 3, 1) := by decide +kernel
theorem dX2_playStep_58 : decode cX2_playStep 58 = .ok (.aload_n 0, 1) := by decide +kernel
theorem dX2_playStep_59 : decode cX2_playStep 59 = .ok (.getfield 10, 3) := by decide +kernel
theorem dX2_playStep_62 : decode cX2_playStep 62 = .ok (.iload_n 3, 1) := by decide +kernel
theorem dX2_playStep_63 : decode cX2_playStep 63 = .ok (.invokevirtual 82, 3) := by decide +kernel
theorem dX2_playStep_66 : decode cX2_playStep 66 = .ok (.ifCond .eq 14, 3) := by decide +kernel
theorem dX2_playStep_69 : decode cX2_playStep 69 = .ok (.aload_n 0, 1) := by decide +kernel
theorem dX2_playStep_70 : decode cX2_playStep 70 = .ok (.getfield 10, 3) := by decide +kernel
theorem dX2_playStep_73 : decode cX2_playStep 73 = .ok (.iload_n 3, 1) := by decide +kernel
theorem dX2_playStep_74 : decode cX2_playStep 74 = .ok (.invokevirtual 85, 3) := by decide +kernel
theorem dX2_playStep_77 : decode cX2_playStep 77 = .ok (.goto 5, 3) := by decide +kernel
theorem dX2_playStep_80 : decode cX2_playStep 80 = .ok (.bipush (-5), 2) := by decide +kernel
theorem dX2_playStep_82 : decode cX2_playStep 82 = .ok (.ireturn, 1) := by decide +kernel
theorem dX2_playStep_83 : decode cX2_playStep 83 = .ok (.aload_n 0, 1) := by decide +kernel
theorem dX2_playStep_84 : decode cX2_playStep 84 = .ok (.getfield 33, 3) := by decide +kernel
theorem dX2_playStep_87 : decode cX2_playStep 87 = .ok (.iload_n 1, 1) := by decide +kernel
theorem dX2_playStep_88 : decode cX2_playStep 88 = .ok (.invokevirtual 219, 3) := by decide +kernel
theorem dX2_playStep_91 : decode cX2_playStep 91 = .ok (.istore_n 3, 1) := by decide +kernel
theorem dX2_playStep_92 : decode cX2_playStep 92 = .ok (.aload_n 0, 1) := by decide +kernel
theorem dX2_playStep_93 : decode cX2_playStep 93 = .ok (.getfield 33, 3) := by decide +kernel
theorem dX2_playStep_96 : decode cX2_playStep 96 = .ok (.aload_n 0, 1) := by decide +kernel
theorem dX2_playStep_97 : decode cX2_playStep 97 = .ok (.getfield 33, 3) := by decide +kernel
theorem dX2_playStep_100 : decode cX2_playStep 100 = .ok (.iload_n 1, 1) := by decide +kernel
theorem dX2_playStep_101 : decode cX2_playStep 101 = .ok (.invokevirtual 222, 3) := by decide +kernel
theorem dX2_playStep_104 : decode cX2_playStep 104 = .ok (.iconst 1, 1) := by decide +kernel
theorem dX2_playStep_105 : decode cX2_playStep 105 = .ok (.iadd, 1) := by decide +kernel
theorem dX2_playStep_106 : decode cX2_playStep 106 = .ok (.invokevirtual 219, 3) := by decide +kernel
theorem dX2_playStep_109 : decode cX2_playStep 109 = .ok (.istore 4, 2) := by decide +kernel
theorem dX2_playStep_111 : decode cX2_playStep 111 = .ok (.aload_n 0, 1) := by decide +kernel
theorem dX2_playStep_112 : decode cX2_playStep 112 = .ok (.getfield 10, 3) := by decide +kernel
theorem dX2_playStep_115 : decode cX2_playStep 115 = .ok (.iload_n 3, 1) := by decide +kernel
theorem dX2_playStep_116 : decode cX2_playStep 116 = .ok (.iload 4, 2) := by decide +kernel
theorem dX2_playStep_118 : decode cX2_playStep 118 = .ok (.invokevirtual 63, 3) := by decide +kernel
theorem dX2_playStep_121 : decode cX2_playStep 121 = .ok (.ifCond .eq 16, 3) := by decide +kernel
theorem dX2_playStep_124 : decode cX2_playStep 124 = .ok (.aload_n 0, 1) := by decide +kernel
theorem dX2_playStep_125 : decode cX2_playStep 125 = .ok (.getfield 10, 3) := by decide +kernel
theorem dX2_playStep_128 : decode cX2_playStep 128 = .ok (.iload_n 3, 1) := by decide +kernel
theorem dX2_playStep_129 : decode cX2_playStep 129 = .ok (.iload 4, 2) := by decide +kernel
theorem dX2_playStep_131 : decode cX2_playStep 131 = .ok (.invokevirtual 67, 3) := by decide +kernel
theorem dX2_playStep_134 : decode cX2_playStep 134 = .ok (.goto 5, 3) := by decide +kernel
theorem dX2_playStep_137 : decode cX2_playStep 137 = .ok (.bipush (-5), 2) := by decide +kernel
theorem dX2_playStep_139 : decode cX2_playStep 139 = .ok (.ireturn, 1) := by decide +kernel
theorem dX2_isBelow_0 : decode cX2_isBelow 0 = .ok (.iload_n 0, 1) := by decide +kernel
theorem dX2_isBelow_1 : decode cX2_isBelow 1 = .ok (.ifCond .lt 12, 3) := by decide +kernel
theorem dX2_isBelow_4 : decode cX2_isBelow 4 = .ok (.iload_n 0, 1) := by decide +kernel
theorem dX2_isBelow_5 : decode cX2_isBelow 5 = .ok (.iload_n 1, 1) := by decide +kernel
theorem dX2_isBelow_6 : decode cX2_isBelow 6 = .ok (.if_icmp .ge 7, 3) := by decide +kernel
theorem dX2_isBelow_9 : decode cX2_isBelow 9 = .ok (.iconst 1, 1) := by decide +kernel
theorem dX2_isBelow_10 : decode cX2_isBelow 10 = .ok (.goto 4, 3) := by decide +kernel
theorem dX2_isBelow_13 : decode cX2_isBelow 13 = .ok (.iconst 0, 1) := by decide +kernel
theorem dX2_isBelow_14 : decode cX2_isBelow 14 = .ok (.ireturn, 1) := by decide +kernel
theorem dX2_isPile_0 : decode cX2_isPile 0 = .ok (.iload_n 0, 1) := by decide +kernel
theorem dX2_isPile_1 : decode cX2_isPile 1 = .ok (.bipush 22, 2) := by decide +kernel
theorem dX2_isPile_3 : decode cX2_isPile 3 = .ok (.invokestatic 79, 3) := by decide +kernel
theorem dX2_isPile_6 : decode cX2_isPile 6 = .ok (.ireturn, 1) := by decide +kernel
theorem dX2_at_0 : decode cX2_at 0 = .ok (.iload_n 1, 1) := by decide +kernel
theorem dX2_at_1 : decode cX2_at 1 = .ok (.ifCond .lt 15, 3) := by decide +kernel
theorem dX2_at_4 : decode cX2_at 4 = .ok (.iload_n 1, 1) := by decide +kernel
theorem dX2_at_5 : decode cX2_at 5 = .ok (.aload_n 0, 1) := by decide +kernel
theorem dX2_at_6 : decode cX2_at 6 = .ok (.arraylength, 1) := by decide +kernel
theorem dX2_at_7 : decode cX2_at 7 = .ok (.if_icmp .ge 9, 3) := by decide +kernel
theorem dX2_at_10 : decode cX2_at 10 = .ok (.aload_n 0, 1) := by decide +kernel
theorem dX2_at_11 : decode cX2_at 11 = .ok (.iload_n 1, 1) := by decide +kernel
theorem dX2_at_12 : decode cX2_at 12 = .ok (.iaload, 1) := by decide +kernel
theorem dX2_at_13 : decode cX2_at 13 = .ok (.goto 5, 3) := by decide +kernel
theorem dX2_at_16 : decode cX2_at 16 = .ok (.bipush (-6), 2) := by decide +kernel
theorem dX2_at_18 : decode cX2_at 18 = .ok (.ireturn, 1) := by decide +kernel
theorem dX2_setAt_0 : decode cX2_setAt 0 = .ok (.iload_n 1, 1) := by decide +kernel
theorem dX2_setAt_1 : decode cX2_setAt 1 = .ok (.ifCond .lt 13, 3) := by decide +kernel
theorem dX2_setAt_4 : decode cX2_setAt 4 = .ok (.iload_n 1, 1) := by decide +kernel
theorem dX2_setAt_5 : decode cX2_setAt 5 = .ok (.aload_n 0, 1) := by decide +kernel
theorem dX2_setAt_6 : decode cX2_setAt 6 = .ok (.arraylength, 1) := by decide +kernel
theorem dX2_setAt_7 : decode cX2_setAt 7 = .ok (.if_icmp .ge 7, 3) := by decide +kernel
theorem dX2_setAt_10 : decode cX2_setAt 10 = .ok (.aload_n 0, 1) := by decide +kernel
theorem dX2_setAt_11 : decode cX2_setAt 11 = .ok (.iload_n 1, 1) := by decide +kernel
theorem dX2_setAt_12 : decode cX2_setAt 12 = .ok (.iload_n 2, 1) := by decide +kernel
theorem dX2_setAt_13 : decode cX2_setAt 13 = .ok (.iastore, 1) := by decide +kernel
theorem dX2_setAt_14 : decode cX2_setAt 14 = .ok (.return_, 1) := by decide +kernel
theorem dX2_addAt_0 : decode cX2_addAt 0 = .ok (.aload_n 0, 1) := by decide +kernel
theorem dX2_addAt_1 : decode cX2_addAt 1 = .ok (.iload_n 1, 1) := by decide +kernel
theorem dX2_addAt_2 : decode cX2_addAt 2 = .ok (.aload_n 0, 1) := by decide +kernel
theorem dX2_addAt_3 : decode cX2_addAt 3 = .ok (.iload_n 1, 1) := by decide +kernel
theorem dX2_addAt_4 : decode cX2_addAt 4 = .ok (.invokestatic 125, 3) := by decide +kernel
theorem dX2_addAt_7 : decode cX2_addAt 7 = .ok (.iload_n 2, 1) := by decide +kernel
theorem dX2_addAt_8 : decode cX2_addAt 8 = .ok (.iadd, 1) := by decide +kernel
theorem dX2_addAt_9 : decode cX2_addAt 9 = .ok (.invokestatic 225, 3) := by decide +kernel
theorem dX2_addAt_12 : decode cX2_addAt 12 = .ok (.return_, 1) := by decide +kernel
theorem dX2_moveOf_0 : decode cX2_moveOf 0 = .ok (.iload_n 0, 1) := by decide +kernel
theorem dX2_moveOf_1 : decode cX2_moveOf 1 = .ok (.bipush 22, 2) := by decide +kernel
theorem dX2_moveOf_3 : decode cX2_moveOf 3 = .ok (.imul, 1) := by decide +kernel
theorem dX2_moveOf_4 : decode cX2_moveOf 4 = .ok (.iload_n 1, 1) := by decide +kernel
theorem dX2_moveOf_5 : decode cX2_moveOf 5 = .ok (.iadd, 1) := by decide +kernel
theorem dX2_moveOf_6 : decode cX2_moveOf 6 = .ok (.ireturn, 1) := by decide +kernel
theorem dX2_fromOf_0 : decode cX2_fromOf 0 = .ok (.iload_n 0, 1) := by decide +kernel
theorem dX2_fromOf_1 : decode cX2_fromOf 1 = .ok (.bipush 22, 2) := by decide +kernel
theorem dX2_fromOf_3 : decode cX2_fromOf 3 = .ok (.idiv, 1) := by decide +kernel
theorem dX2_fromOf_4 : decode cX2_fromOf 4 = .ok (.ireturn, 1) := by decide +kernel
theorem dX2_toOf_0 : decode cX2_toOf 0 = .ok (.iload_n 0, 1) := by decide +kernel
theorem dX2_toOf_1 : decode cX2_toOf 1 = .ok (.bipush 22, 2) := by decide +kernel
theorem dX2_toOf_3 : decode cX2_toOf 3 = .ok (.irem, 1) := by decide +kernel
theorem dX2_toOf_4 : decode cX2_toOf 4 = .ok (.ireturn, 1) := by decide +kernel
theorem dX2_suitOf_0 : decode cX2_suitOf 0 = .ok (.iload_n 0, 1) := by decide +kernel
theorem dX2_suitOf_1 : decode cX2_suitOf 1 = .ok (.bipush 52, 2) := by decide +kernel
theorem dX2_suitOf_3 : decode cX2_suitOf 3 = .ok (.irem, 1) := by decide +kernel
theorem dX2_suitOf_4 : decode cX2_suitOf 4 = .ok (.bipush 13, 2) := by decide +kernel
theorem dX2_suitOf_6 : decode cX2_suitOf 6 = .ok (.idiv, 1) := by decide +kernel
theorem dX2_suitOf_7 : decode cX2_suitOf 7 = .ok (.ireturn, 1) := by decide +kernel
theorem dX2_rankOf_0 : decode cX2_rankOf 0 = .ok (.iload_n 0, 1) := by decide +kernel
theorem dX2_rankOf_1 : decode cX2_rankOf 1 = .ok (.bipush 13, 2) := by decide +kernel
theorem dX2_rankOf_3 : decode cX2_rankOf 3 = .ok (.irem, 1) := by decide +kernel
theorem dX2_rankOf_4 : decode cX2_rankOf 4 = .ok (.ireturn, 1) := by decide +kernel
theorem dX2_isRed_0 : decode cX2_isRed 0 = .ok (.iload_n 0, 1) := by decide +kernel
theorem dX2_isRed_1 : decode cX2_isRed 1 = .ok (.bipush 52, 2) := by decide +kernel
theorem dX2_isRed_3 : decode cX2_isRed 3 = .ok (.irem, 1) := by decide +kernel
theorem dX2_isRed_4 : decode cX2_isRed 4 = .ok (.bipush 26, 2) := by decide +kernel
theorem dX2_isRed_6 : decode cX2_isRed 6 = .ok (.if_icmp .lt 7, 3) := by decide +kernel
theorem dX2_isRed_9 : decode cX2_isRed 9 = .ok (.iconst 1, 1) := by decide +kernel
theorem dX2_isRed_10 : decode cX2_isRed 10 = .ok (.goto 4, 3) := by decide +kernel
theorem dX2_isRed_13 : decode cX2_isRed 13 = .ok (.iconst 0, 1) := by decide +kernel
theorem dX2_isRed_14 : decode cX2_isRed 14 = .ok (.ireturn, 1) := by decide +kernel
theorem dX2_fitsAces_0 : decode cX2_fitsAces 0 = .ok (.iload_n 1, 1) := by decide +kernel
theorem dX2_fitsAces_1 : decode cX2_fitsAces 1 = .ok (.bipush (-6), 2) := by decide +kernel
theorem dX2_fitsAces_3 : decode cX2_fitsAces 3 = .ok (.if_icmp .ne 16, 3) := by decide +kernel
theorem dX2_fitsAces_6 : decode cX2_fitsAces 6 = .ok (.iload_n 0, 1) := by decide +kernel
theorem dX2_fitsAces_7 : decode cX2_fitsAces 7 = .ok (.invokestatic 229, 3) := by decide +kernel
theorem dX2_fitsAces_10 : decode cX2_fitsAces 10 = .ok (.ifCond .ne 7, 3) := by decide +kernel
theorem dX2_fitsAces_13 : decode cX2_fitsAces 13 = .ok (.iconst 1, 1) := by decide +kernel
theorem dX2_fitsAces_14 : decode cX2_fitsAces 14 = .ok (.goto 4, 3) := by decide +kernel
theorem dX2_fitsAces_17 : decode cX2_fitsAces 17 = .ok (.iconst 0, 1) := by decide +kernel
theorem dX2_fitsAces_18 : decode cX2_fitsAces 18 = .ok (.ireturn, 1) := by decide +kernel
theorem dX2_fitsAces_19 : decode cX2_fitsAces 19 = .ok (.iload_n 0, 1) := by decide +kernel
theorem dX2_fitsAces_20 : decode cX2_fitsAces 20 = .ok (.invokestatic 232, 3) := by decide +kernel
theorem dX2_fitsAces_23 : decode cX2_fitsAces 23 = .ok (.iload_n 1, 1) := by decide +kernel
theorem dX2_fitsAces_24 : decode cX2_fitsAces 24 = .ok (.invokestatic 232, 3) := by decide +kernel
theorem dX2_fitsAces_27 : decode cX2_fitsAces 27 = .ok (.if_icmp .ne 20, 3) := by decide +kernel
theorem dX2_fitsAces_30 : decode cX2_fitsAces 30 = .ok (.iload_n 0, 1) := by decide +kernel
theorem dX2_fitsAces_31 : decode cX2_fitsAces 31 = .ok (.invokestatic 229, 3) := by decide +kernel
theorem dX2_fitsAces_34 : decode cX2_fitsAces 34 = .ok (.iload_n 1, 1) := by decide +kernel
theorem dX2_fitsAces_35 : decode cX2_fitsAces 35 = .ok (.invokestatic 229, 3) := by decide +kernel
theorem dX2_fitsAces_38 : decode cX2_fitsAces 38 = .ok (.iconst 1, 1) := by decide +kernel
theorem dX2_fitsAces_39 : decode cX2_fitsAces 39 = .ok (.iadd, 1) := by decide +kernel
theorem dX2_fitsAces_40 : decode cX2_fitsAces 40 = .ok (.if_icmp .ne 7, 3) := by decide +kernel
theorem dX2_fitsAces_43 : decode cX2_fitsAces 43 = .ok (.iconst 1, 1) := by decide +kernel
theorem dX2_fitsAces_44 : decode cX2_fitsAces 44 = .ok (.goto 4, 3) := by decide +kernel
theorem dX2_fitsAces_47 : decode cX2_fitsAces 47 = .ok (.iconst 0, 1) := by decide +kernel
theorem dX2_fitsAces_48 : decode cX2_fitsAces 48 = .ok (.ireturn, 1) := by decide +kernel
theorem dX2_fitsHouse_0 : decode cX2_fitsHouse 0 = .ok (.iload_n 1, 1) := by decide +kernel
theorem dX2_fitsHouse_1 : decode cX2_fitsHouse 1 = .ok (.bipush (-6), 2) := by decide +kernel
theorem dX2_fitsHouse_3 : decode cX2_fitsHouse 3 = .ok (.if_icmp .eq 27, 3) := by decide +kernel
theorem dX2_fitsHouse_6 : decode cX2_fitsHouse 6 = .ok (.iload_n 0, 1) := by decide +kernel
theorem dX2_fitsHouse_7 : decode cX2_fitsHouse 7 = .ok (.invokestatic 235, 3) := by decide +kernel
theorem dX2_fitsHouse_10 : decode cX2_fitsHouse 10 = .ok (.iload_n 1, 1) := by decide +kernel
theorem dX2_fitsHouse_11 : decode cX2_fitsHouse 11 = .ok (.invokestatic 235, 3) := by decide +kernel
theorem dX2_fitsHouse_14 : decode cX2_fitsHouse 14 = .ok (.if_icmp .eq 20, 3) := by decide +kernel
theorem dX2_fitsHouse_17 : decode cX2_fitsHouse 17 = .ok (.iload_n 0, 1) := by decide +kernel
theorem dX2_fitsHouse_18 : decode cX2_fitsHouse 18 = .ok (.invokestatic 229, 3) := by decide +kernel
theorem dX2_fitsHouse_21 : decode cX2_fitsHouse 21 = .ok (.iload_n 1, 1) := by decide +kernel
theorem dX2_fitsHouse_22 : decode cX2_fitsHouse 22 = .ok (.invokestatic 229, 3) := by decide +kernel
theorem dX2_fitsHouse_25 : decode cX2_fitsHouse 25 = .ok (.iconst 1, 1) := by decide +kernel
theorem dX2_fitsHouse_26 : decode cX2_fitsHouse 26 = .ok (.isub, 1) := by decide +kernel
theorem dX2_fitsHouse_27 : decode cX2_fitsHouse 27 = .ok (.if_icmp .ne 7, 3) := by decide +kernel
theorem dX2_fitsHouse_30 : decode cX2_fitsHouse 30 = .ok (.iconst 1, 1) := by decide +kernel
theorem dX2_fitsHouse_31 : decode cX2_fitsHouse 31 = .ok (.goto 4, 3) := by decide +kernel
theorem dX2_fitsHouse_34 : decode cX2_fitsHouse 34 = .ok (.iconst 0, 1) := by decide +kernel
theorem dX2_fitsHouse_35 : decode cX2_fitsHouse 35 = .ok (.ireturn, 1) := by decide +kernel
theorem dX2_fitsWaste_0 : decode cX2_fitsWaste 0 = .ok (.iload_n 1, 1) := by decide +kernel
theorem dX2_fitsWaste_1 : decode cX2_fitsWaste 1 = .ok (.bipush (-6), 2) := by decide +kernel
theorem dX2_fitsWaste_3 : decode cX2_fitsWaste 3 = .ok (.if_icmp .eq 34, 3) := by decide +kernel
theorem dX2_fitsWaste_6 : decode cX2_fitsWaste 6 = .ok (.iload_n 0, 1) := by decide +kernel
theorem dX2_fitsWaste_7 : decode cX2_fitsWaste 7 = .ok (.invokestatic 232, 3) := by decide +kernel
theorem dX2_fitsWaste_10 : decode cX2_fitsWaste 10 = .ok (.iload_n 1, 1) := by decide +kernel
theorem dX2_fitsWaste_11 : decode cX2_fitsWaste 11 = .ok (.invokestatic 232, 3) := by decide +kernel
theorem dX2_fitsWaste_14 : decode cX2_fitsWaste 14 = .ok (.if_icmp .ne 23, 3) := by decide +kernel
theorem dX2_fitsWaste_17 : decode cX2_fitsWaste 17 = .ok (.iload_n 0, 1) := by decide +kernel
theorem dX2_fitsWaste_18 : decode cX2_fitsWaste 18 = .ok (.invokestatic 229, 3) := by decide +kernel
theorem dX2_fitsWaste_21 : decode cX2_fitsWaste 21 = .ok (.iload_n 1, 1) := by decide +kernel
theorem dX2_fitsWaste_22 : decode cX2_fitsWaste 22 = .ok (.invokestatic 229, 3) := by decide +kernel
theorem dX2_fitsWaste_25 : decode cX2_fitsWaste 25 = .ok (.isub, 1) := by decide +kernel
theorem dX2_fitsWaste_26 : decode cX2_fitsWaste 26 = .ok (.invokestatic 238, 3) := by decide +kernel
theorem dX2_fitsWaste_29 : decode cX2_fitsWaste 29 = .ok (.iconst 1, 1) := by decide +kernel
theorem dX2_fitsWaste_30 : decode cX2_fitsWaste 30 = .ok (.if_icmp .ne 7, 3) := by decide +kernel
theorem dX2_fitsWaste_33 : decode cX2_fitsWaste 33 = .ok (.iconst 1, 1) := by decide +kernel
theorem dX2_fitsWaste_34 : decode cX2_fitsWaste 34 = .ok (.goto 4, 3) := by decide +kernel
theorem dX2_fitsWaste_37 : decode cX2_fitsWaste 37 = .ok (.iconst 0, 1) := by decide +kernel
theorem dX2_fitsWaste_38 : decode cX2_fitsWaste 38 = .ok (.ireturn, 1) := by decide +kernel
