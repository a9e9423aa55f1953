theorem rd_M_turn_11 : decode rc_M_turn 11 = .ok (.invokevirtual 121, 3) := by decide +kernel
theorem rd_M_turn_14 : decode rc_M_turn 14 = .ok (.astore_n 2, 1) := by decide +kernel
theorem rd_M_turn_15 : decode rc_M_turn 15 = .ok (.aload_n 2, 1) := by decide +kernel
theorem rd_M_turn_16 : decode rc_M_turn 16 = .ok (.getfield 18, 3) := by decide +kernel
theorem rd_M_turn_19 : decode rc_M_turn 19 = .ok (.getfield 135, 3) := by decide +kernel
theorem rd_M_turn_22 : decode rc_M_turn 22 = .ok (.ifCond .ne 6, 3) := by decide +kernel
theorem rd_M_turn_25 : decode rc_M_turn 25 = .ok (.bipush (-3), 2) := by decide +kernel
theorem rd_M_turn_27 : decode rc_M_turn 27 = .ok (.ireturn, 1) := by decide +kernel
theorem rd_M_turn_28 : decode rc_M_turn 28 = .ok (.aload_n 0, 1) := by decide +kernel
theorem rd_M_turn_29 : decode rc_M_turn 29 = .ok (.getfield 111, 3) := by decide +kernel
theorem rd_M_turn_32 : decode rc_M_turn 32 = .ok (.aload_n 2, 1) := by decide +kernel
theorem rd_M_turn_33 : decode rc_M_turn 33 = .ok (.getfield 18, 3) := by decide +kernel
theorem rd_M_turn_36 : decode rc_M_turn 36 = .ok (.invokevirtual 21, 3) := by decide +kernel
theorem rd_M_turn_39 : decode rc_M_turn 39 = .ok (.aload_n 2, 1) := by decide +kernel
theorem rd_M_turn_40 : decode rc_M_turn 40 = .ok (.getfield 18, 3) := by decide +kernel
theorem rd_M_turn_43 : decode rc_M_turn 43 = .ok (.aload_n 2, 1) := by decide +kernel
theorem rd_M_turn_44 : decode rc_M_turn 44 = .ok (.getfield 1, 3) := by decide +kernel
theorem rd_M_turn_47 : decode rc_M_turn 47 = .ok (.invokevirtual 21, 3) := by decide +kernel
theorem rd_M_turn_50 : decode rc_M_turn 50 = .ok (.aload_n 2, 1) := by decide +kernel
theorem rd_M_turn_51 : decode rc_M_turn 51 = .ok (.getfield 1, 3) := by decide +kernel
theorem rd_M_turn_54 : decode rc_M_turn 54 = .ok (.aload_n 0, 1) := by decide +kernel
theorem rd_M_turn_55 : decode rc_M_turn 55 = .ok (.getfield 111, 3) := by decide +kernel
theorem rd_M_turn_58 : decode rc_M_turn 58 = .ok (.invokevirtual 21, 3) := by decide +kernel
theorem rd_M_turn_61 : decode rc_M_turn 61 = .ok (.aload_n 2, 1) := by decide +kernel
theorem rd_M_turn_62 : decode rc_M_turn 62 = .ok (.aload_n 2, 1) := by decide +kernel
theorem rd_M_turn_63 : decode rc_M_turn 63 = .ok (.getfield 36, 3) := by decide +kernel
theorem rd_M_turn_66 : decode rc_M_turn 66 = .ok (.ineg, 1) := by decide +kernel
theorem rd_M_turn_67 : decode rc_M_turn 67 = .ok (.putfield 36, 3) := by decide +kernel
theorem rd_M_turn_70 : decode rc_M_turn 70 = .ok (.iconst 0, 1) := by decide +kernel
theorem rd_M_turn_71 : decode rc_M_turn 71 = .ok (.ireturn, 1) := by decide +kernel
theorem rd_M_move_0 : decode rc_M_move 0 = .ok (.iload_n 1, 1) := by decide +kernel
theorem rd_M_move_1 : decode rc_M_move 1 = .ok (.invokestatic 117, 3) := by decide +kernel
theorem rd_M_move_4 : decode rc_M_move 4 = .ok (.ifCond .ne 5, 3) := by decide +kernel
theorem rd_M_move_7 : decode rc_M_move 7 = .ok (.iconst (-1), 1) := by decide +kernel
theorem rd_M_move_8 : decode rc_M_move 8 = .ok (.ireturn, 1) := by decide +kernel
theorem rd_M_move_9 : decode rc_M_move 9 = .ok (.aload_n 0, 1) := by decide +kernel
theorem rd_M_move_10 : decode rc_M_move 10 = .ok (.iload_n 1, 1) := by decide +kernel
theorem rd_M_move_11 : decode rc_M_move 11 = .ok (.invokevirtual 121, 3) := by decide +kernel
theorem rd_M_move_14 : decode rc_M_move 14 = .ok (.astore_n 3, 1) := by decide +kernel
theorem rd_M_move_15 : decode rc_M_move 15 = .ok (.aload_n 0, 1) := by decide +kernel
theorem rd_M_move_16 : decode rc_M_move 16 = .ok (.iconst 1, 1) := by decide +kernel
theorem rd_M_move_17 : decode rc_M_move 17 = .ok (.iload_n 1, 1) := by decide +kernel
theorem rd_M_move_18 : decode rc_M_move 18 = .ok (.isub, 1) := by decide +kernel
theorem rd_M_move_19 : decode rc_M_move 19 = .ok (.iconst 0, 1) := by decide +kernel
theorem rd_M_move_20 : decode rc_M_move 20 = .ok (.invokevirtual 126, 3) := by decide +kernel
theorem rd_M_move_23 : decode rc_M_move 23 = .ok (.astore 4, 2) := by decide +kernel
theorem rd_M_move_25 : decode rc_M_move 25 = .ok (.aload_n 0, 1) := by decide +kernel
theorem rd_M_move_26 : decode rc_M_move 26 = .ok (.getfield 111, 3) := by decide +kernel
theorem rd_M_move_29 : decode rc_M_move 29 = .ok (.aload_n 3, 1) := by decide +kernel
theorem rd_M_move_30 : decode rc_M_move 30 = .ok (.getfield 18, 3) := by decide +kernel
theorem rd_M_move_33 : decode rc_M_move 33 = .ok (.invokevirtual 21, 3) := by decide +kernel
theorem rd_M_move_36 : decode rc_M_move 36 = .ok (.aload_n 3, 1) := by decide +kernel
theorem rd_M_move_37 : decode rc_M_move 37 = .ok (.getfield 86, 3) := by decide +kernel
theorem rd_M_move_40 : decode rc_M_move 40 = .ok (.istore 5, 2) := by decide +kernel
theorem rd_M_move_42 : decode rc_M_move 42 = .ok (.iload 5, 2) := by decide +kernel
theorem rd_M_move_44 : decode rc_M_move 44 = .ok (.iload_n 2, 1) := by decide +kernel
theorem rd_M_move_45 : decode rc_M_move 45 = .ok (.if_icmp .ne 15, 3) := by decide +kernel
theorem rd_M_move_48 : decode rc_M_move 48 = .ok (.aload_n 0, 1) := by decide +kernel
theorem rd_M_move_49 : decode rc_M_move 49 = .ok (.getfield 111, 3) := by decide +kernel
theorem rd_M_move_52 : decode rc_M_move 52 = .ok (.aload 4, 2) := by decide +kernel
theorem rd_M_move_54 : decode rc_M_move 54 = .ok (.invokevirtual 138, 3) := by decide +kernel
theorem rd_M_move_57 : decode rc_M_move 57 = .ok (.goto 59, 3) := by decide +kernel
theorem rd_M_move_60 : decode rc_M_move 60 = .ok (.aload_n 0, 1) := by decide +kernel
theorem rd_M_move_61 : decode rc_M_move 61 = .ok (.getfield 111, 3) := by decide +kernel
theorem rd_M_move_64 : decode rc_M_move 64 = .ok (.aload 4, 2) := by decide +kernel
theorem rd_M_move_66 : decode rc_M_move 66 = .ok (.invokevirtual 44, 3) := by decide +kernel
theorem rd_M_move_69 : decode rc_M_move 69 = .ok (.ifCond .lt 15, 3) := by decide +kernel
theorem rd_M_move_72 : decode rc_M_move 72 = .ok (.aload_n 0, 1) := by decide +kernel
theorem rd_M_move_73 : decode rc_M_move 73 = .ok (.getfield 111, 3) := by decide +kernel
theorem rd_M_move_76 : decode rc_M_move 76 = .ok (.aload 4, 2) := by decide +kernel
theorem rd_M_move_78 : decode rc_M_move 78 = .ok (.invokevirtual 141, 3) := by decide +kernel
theorem rd_M_move_81 : decode rc_M_move 81 = .ok (.goto 35, 3) := by decide +kernel
theorem rd_M_move_84 : decode rc_M_move 84 = .ok (.aload_n 0, 1) := by decide +kernel
theorem rd_M_move_85 : decode rc_M_move 85 = .ok (.getfield 111, 3) := by decide +kernel
theorem rd_M_move_88 : decode rc_M_move 88 = .ok (.aload 4, 2) := by decide +kernel
theorem rd_M_move_90 : decode rc_M_move 90 = .ok (.invokevirtual 21, 3) := by decide +kernel
theorem rd_M_move_93 : decode rc_M_move 93 = .ok (.aload_n 0, 1) := by decide +kernel
theorem rd_M_move_94 : decode rc_M_move 94 = .ok (.getfield 111, 3) := by decide +kernel
theorem rd_M_move_97 : decode rc_M_move 97 = .ok (.aload_n 3, 1) := by decide +kernel
theorem rd_M_move_98 : decode rc_M_move 98 = .ok (.getfield 18, 3) := by decide +kernel
theorem rd_M_move_101 : decode rc_M_move 101 = .ok (.invokevirtual 141, 3) := by decide +kernel
theorem rd_M_move_104 : decode rc_M_move 104 = .ok (.iload 5, 2) := by decide +kernel
theorem rd_M_move_106 : decode rc_M_move 106 = .ok (.ifCond .ne 7, 3) := by decide +kernel
theorem rd_M_move_109 : decode rc_M_move 109 = .ok (.iconst 1, 1) := by decide +kernel
theorem rd_M_move_110 : decode rc_M_move 110 = .ok (.goto 4, 3) := by decide +kernel
theorem rd_M_move_113 : decode rc_M_move 113 = .ok (.iconst 0, 1) := by decide +kernel
theorem rd_M_move_114 : decode rc_M_move 114 = .ok (.istore 5, 2) := by decide +kernel
theorem rd_M_move_116 : decode rc_M_move 116 = .ok (.aload_n 0, 1) := by decide +kernel
theorem rd_M_move_117 : decode rc_M_move 117 = .ok (.getfield 111, 3) := by decide +kernel
theorem rd_M_move_120 : decode rc_M_move 120 = .ok (.invokevirtual 32, 3) := by decide +kernel
theorem rd_M_move_123 : decode rc_M_move 123 = .ok (.sipush 4800, 3) := by decide +kernel
theorem rd_M_move_126 : decode rc_M_move 126 = .ok (.if_icmp .le 6, 3) := by decide +kernel
theorem rd_M_move_129 : decode rc_M_move 129 = .ok (.bipush (-2), 2) := by decide +kernel
theorem rd_M_move_131 : decode rc_M_move 131 = .ok (.ireturn, 1) := by decide +kernel
theorem rd_M_move_132 : decode rc_M_move 132 = .ok (.aload_n 3, 1) := by decide +kernel
theorem rd_M_move_133 : decode rc_M_move 133 = .ok (.getfield 18, 3) := by decide +kernel
theorem rd_M_move_136 : decode rc_M_move 136 = .ok (.aload_n 0, 1) := by decide +kernel
theorem rd_M_move_137 : decode rc_M_move 137 = .ok (.getfield 111, 3) := by decide +kernel
theorem rd_M_move_140 : decode rc_M_move 140 = .ok (.invokevirtual 21, 3) := by decide +kernel
theorem rd_M_move_143 : decode rc_M_move 143 = .ok (.aload_n 3, 1) := by decide +kernel
theorem rd_M_move_144 : decode rc_M_move 144 = .ok (.iload 5, 2) := by decide +kernel
theorem rd_M_move_146 : decode rc_M_move 146 = .ok (.putfield 86, 3) := by decide +kernel
theorem rd_M_move_149 : decode rc_M_move 149 = .ok (.aload_n 3, 1) := by decide +kernel
theorem rd_M_move_150 : decode rc_M_move 150 = .ok (.getfield 18, 3) := by decide +kernel
theorem rd_M_move_153 : decode rc_M_move 153 = .ok (.invokevirtual 32, 3) := by decide +kernel
theorem rd_M_move_156 : decode rc_M_move 156 = .ok (.ireturn, 1) := by decide +kernel
theorem rd_M_bits_0 : decode rc_M_bits 0 = .ok (.iload_n 1, 1) := by decide +kernel
theorem rd_M_bits_1 : decode rc_M_bits 1 = .ok (.invokestatic 117, 3) := by decide +kernel
theorem rd_M_bits_4 : decode rc_M_bits 4 = .ok (.ifCond .eq 22, 3) := by decide +kernel
theorem rd_M_bits_7 : decode rc_M_bits 7 = .ok (.iload_n 2, 1) := by decide +kernel
theorem rd_M_bits_8 : decode rc_M_bits 8 = .ok (.invokestatic 117, 3) := by decide +kernel
theorem rd_M_bits_11 : decode rc_M_bits 11 = .ok (.ifCond .eq 15, 3) := by decide +kernel
theorem rd_M_bits_14 : decode rc_M_bits 14 = .ok (.aload_n 0, 1) := by decide +kernel
theorem rd_M_bits_15 : decode rc_M_bits 15 = .ok (.iload_n 1, 1) := by decide +kernel
theorem rd_M_bits_16 : decode rc_M_bits 16 = .ok (.iload_n 2, 1) := by decide +kernel
theorem rd_M_bits_17 : decode rc_M_bits 17 = .ok (.invokevirtual 126, 3) := by decide +kernel
theorem rd_M_bits_20 : decode rc_M_bits 20 = .ok (.invokevirtual 32, 3) := by decide +kernel
theorem rd_M_bits_23 : decode rc_M_bits 23 = .ok (.goto 4, 3) := by decide +kernel
theorem rd_M_bits_26 : decode rc_M_bits 26 = .ok (.iconst (-1), 1) := by decide +kernel
theorem rd_M_bits_27 : decode rc_M_bits 27 = .ok (.ireturn, 1) := by decide +kernel
theorem rd_M_word_0 : decode rc_M_word 0 = .ok (.iload_n 1, 1) := by decide +kernel
theorem rd_M_word_1 : decode rc_M_word 1 = .ok (.invokestatic 117, 3) := by decide +kernel
theorem rd_M_word_4 : decode rc_M_word 4 = .ok (.ifCond .eq 21, 3) := by decide +kernel
theorem rd_M_word_7 : decode rc_M_word 7 = .ok (.iload_n 2, 1) := by decide +kernel
theorem rd_M_word_8 : decode rc_M_word 8 = .ok (.invokestatic 117, 3) := by decide +kernel
theorem rd_M_word_11 : decode rc_M_word 11 = .ok (.ifCond .eq 14, 3) := by decide +kernel
theorem rd_M_word_14 : decode rc_M_word 14 = .ok (.iload_n 3, 1) := by decide +kernel
theorem rd_M_word_15 : decode rc_M_word 15 = .ok (.ifCond .lt 10, 3) := by decide +kernel
theorem rd_M_word_18 : decode rc_M_word 18 = .ok (.iload_n 3, 1) := by decide +kernel
theorem rd_M_word_19 : decode rc_M_word 19 = .ok (.sipush 300, 3) := by decide +kernel
theorem rd_M_word_22 : decode rc_M_word 22 = .ok (.if_icmp .lt 5, 3) := by decide +kernel
theorem rd_M_word_25 : decode rc_M_word 25 = .ok (.iconst 0, 1) := by decide +kernel
theorem rd_M_word_26 : decode rc_M_word 26 = .ok (.ireturn, 1) := by decide +kernel
theorem rd_M_word_27 : decode rc_M_word 27 = .ok (.aload_n 0, 1) := by decide +kernel
theorem rd_M_word_28 : decode rc_M_word 28 = .ok (.iload_n 1, 1) := by decide +kernel
theorem rd_M_word_29 : decode rc_M_word 29 = .ok (.iload_n 2, 1) := by decide +kernel
theorem rd_M_word_30 : decode rc_M_word 30 = .ok (.invokevirtual 126, 3) := by decide +kernel
theorem rd_M_word_33 : decode rc_M_word 33 = .ok (.astore 4, 2) := by decide +kernel
theorem rd_M_word_35 : decode rc_M_word 35 = .ok (.iconst 2, 1) := by decide +kernel
theorem rd_M_word_36 : decode rc_M_word 36 = .ok (.iload_n 3, 1) := by decide +kernel
theorem rd_M_word_37 : decode rc_M_word 37 = .ok (.imul, 1) := by decide +kernel
theorem rd_M_word_38 : decode rc_M_word 38 = .ok (.aload 4, 2) := by decide +kernel
theorem rd_M_word_40 : decode rc_M_word 40 = .ok (.getfield 135, 3) := by decide +kernel
theorem rd_M_word_43 : decode rc_M_word 43 = .ok (.if_icmp .ge 15, 3) := by decide +kernel
theorem rd_M_word_46 : decode rc_M_word 46 = .ok (.aload 4, 2) := by decide +kernel
theorem rd_M_word_48 : decode rc_M_word 48 = .ok (.getfield 144, 3) := by decide +kernel
theorem rd_M_word_51 : decode rc_M_word 51 = .ok (.iconst 2, 1) := by decide +kernel
theorem rd_M_word_52 : decode rc_M_word 52 = .ok (.iload_n 3, 1) := by decide +kernel
theorem rd_M_word_53 : decode rc_M_word 53 = .ok (.imul, 1) := by decide +kernel
theorem rd_M_word_54 : decode rc_M_word 54 = .ok (.iaload, 1) := by decide +kernel
theorem rd_M_word_55 : decode rc_M_word 55 = .ok (.goto 4, 3) := by decide +kernel
theorem rd_M_word_58 : decode rc_M_word 58 = .ok (.iconst 0, 1) := by decide +kernel
theorem rd_M_word_59 : decode rc_M_word 59 = .ok (.istore 5, 2) := by decide +kernel
theorem rd_M_word_61 : decode rc_M_word 61 = .ok (.iconst 2, 1) := by decide +kernel
theorem rd_M_word_62 : decode rc_M_word 62 = .ok (.iload_n 3, 1) := by decide +kernel
theorem rd_M_word_63 : decode rc_M_word 63 = .ok (.imul, 1) := by decide +kernel
theorem rd_M_word_64 : decode rc_M_word 64 = .ok (.iconst 1, 1) := by decide +kernel
theorem rd_M_word_65 : decode rc_M_word 65 = .ok (.iadd, 1) := by decide +kernel
theorem rd_M_word_66 : decode rc_M_word 66 = .ok (.aload 4, 2) := by decide +kernel
theorem rd_M_word_68 : decode rc_M_word 68 = .ok (.getfield 135, 3) := by decide +kernel
theorem rd_M_word_71 : decode rc_M_word 71 = .ok (.if_icmp .ge 17, 3) := by decide +kernel
theorem rd_M_word_74 : decode rc_M_word 74 = .ok (.aload 4, 2) := by decide +kernel
theorem rd_M_word_76 : decode rc_M_word 76 = .ok (.getfield 144, 3) := by decide +kernel
theorem rd_M_word_79 : decode rc_M_word 79 = .ok (.iconst 2, 1) := by decide +kernel
theorem rd_M_word_80 : decode rc_M_word 80 = .ok (.iload_n 3, 1) := by decide +kernel
theorem rd_M_word_81 : decode rc_M_word 81 = .ok (.imul, 1) := by decide +kernel
theorem rd_M_word_82 : decode rc_M_word 82 = .ok (.iconst 1, 1) := by decide +kernel
theorem rd_M_word_83 : decode rc_M_word 83 = .ok (.iadd, 1) := by decide +kernel
theorem rd_M_word_84 : decode rc_M_word 84 = .ok (.iaload, 1) := by decide +kernel
theorem rd_M_word_85 : decode rc_M_word 85 = .ok (.goto 4, 3) := by decide +kernel
theorem rd_M_word_88 : decode rc_M_word 88 = .ok (.iconst 0, 1) := by decide +kernel
theorem rd_M_word_89 : decode rc_M_word 89 = .ok (.istore 6, 2) := by decide +kernel
theorem rd_M_word_91 : decode rc_M_word 91 = .ok (.iload 6, 2) := by decide +kernel
theorem rd_M_word_93 : decode rc_M_word 93 = .ok (.bipush 16, 2) := by decide +kernel
theorem rd_M_word_95 : decode rc_M_word 95 = .ok (.ishl, 1) := by decide +kernel
theorem rd_M_word_96 : decode rc_M_word 96 = .ok (.iload 5, 2) := by decide +kernel
theorem rd_M_word_98 : decode rc_M_word 98 = .ok (.ior, 1) := by decide +kernel
theorem rd_M_word_99 : decode rc_M_word 99 = .ok (.ireturn, 1) := by decide +kernel
theorem rd_M_compare_0 : decode rc_M_compare 0 = .ok (.aload_n 0, 1) := by decide +kernel
theorem rd_M_compare_1 : decode rc_M_compare 1 = .ok (.aload_n 0, 1) := by decide +kernel
theorem rd_M_compare_2 : decode rc_M_compare 2 = .ok (.getfield 105, 3) := by decide +kernel
theorem rd_M_compare_5 : decode rc_M_compare 5 = .ok (.aload_n 0, 1) := by decide +kernel
theorem rd_M_compare_6 : decode rc_M_compare 6 = .ok (.getfield 108, 3) := by decide +kernel
theorem rd_M_compare_9 : decode rc_M_compare 9 = .ok (.invokevirtual 73, 3) := by decide +kernel
theorem rd_M_compare_12 : decode rc_M_compare 12 = .ok (.ireturn, 1) := by decide +kernel
theorem rd_M_round_0 : decode rc_M_round 0 = .ok (.iload_n 1, 1) := by decide +kernel
theorem rd_M_round_1 : decode rc_M_round 1 = .ok (.invokestatic 117, 3) := by decide +kernel
theorem rd_M_round_4 : decode rc_M_round 4 = .ok (.ifCond .ne 7, 3) := by decide +kernel
theorem rd_M_round_7 : decode rc_M_round 7 = .ok (.ldc2_w 148, 3) := by decide +kernel
theorem rd_M_round_10 : decode rc_M_round 10 = .ok (.lreturn, 1) := by decide +kernel
theorem rd_M_round_11 : decode rc_M_round 11 = .ok (.iload_n 2, 1) := by decide +kernel
theorem rd_M_round_12 : decode rc_M_round 12 = .ok (.ifCond .eq 15, 3) := by decide +kernel
theorem rd_M_round_15 : decode rc_M_round 15 = .ok (.aload_n 0, 1) := by decide +kernel
theorem rd_M_round_16 : decode rc_M_round 16 = .ok (.aload_n 0, 1) := by decide +kernel
theorem rd_M_round_17 : decode rc_M_round 17 = .ok (.iload_n 1, 1) := by decide +kernel
theorem rd_M_round_18 : decode rc_M_round 18 = .ok (.invokevirtual 121, 3) := by decide +kernel
theorem rd_M_round_21 : decode rc_M_round 21 = .ok (.invokevirtual 150, 3) := by decide +kernel
theorem rd_M_round_24 : decode rc_M_round 24 = .ok (.goto 12, 3) := by decide +kernel
theorem rd_M_round_27 : decode rc_M_round 27 = .ok (.aload_n 0, 1) := by decide +kernel
theorem rd_M_round_28 : decode rc_M_round 28 = .ok (.aload_n 0, 1) := by decide +kernel
theorem rd_M_round_29 : decode rc_M_round 29 = .ok (.iload_n 1, 1) := by decide +kernel
theorem rd_M_round_30 : decode rc_M_round 30 = .ok (.invokevirtual 121, 3) := by decide +kernel
theorem rd_M_round_33 : decode rc_M_round 33 = .ok (.invokevirtual 90, 3) := by decide +kernel
theorem rd_M_round_36 : decode rc_M_round 36 = .ok (.lreturn, 1) := by decide +kernel
theorem rd_B_init_0 : decode rc_B_init 0 = .ok (.aload_n 0, 1) := by decide +kernel
theorem rd_B_init_1 : decode rc_B_init 1 = .ok (.invokespecial 1, 3) := by decide +kernel
theorem rd_B_init_4 : decode rc_B_init 4 = .ok (.aload_n 0, 1) := by decide +kernel
theorem rd_B_init_5 : decode rc_B_init 5 = .ok (.sipush 640, 3) := by decide +kernel
theorem rd_B_init_8 : decode rc_B_init 8 = .ok (.newarray .int, 2) := by decide +kernel
theorem rd_B_init_10 : decode rc_B_init 10 = .ok (.putfield 7, 3) := by decide +kernel
theorem rd_B_init_13 : decode rc_B_init 13 = .ok (.return_, 1) := by decide +kernel
theorem rd_B_set_0 : decode rc_B_set 0 = .ok (.aload_n 0, 1) := by decide +kernel
theorem rd_B_set_1 : decode rc_B_set 1 = .ok (.iconst 0, 1) := by decide +kernel
theorem rd_B_set_2 : decode rc_B_set 2 = .ok (.putfield 13, 3) := by decide +kernel
theorem rd_B_set_5 : decode rc_B_set 5 = .ok (.lload_n 1, 1) := by decide +kernel
theorem rd_B_set_6 : decode rc_B_set 6 = .ok (.lstore_n 3, 1) := by decide +kernel
theorem rd_B_set_7 : decode rc_B_set 7 = .ok (.lload_n 3, 1) := by decide +kernel
theorem rd_B_set_8 : decode rc_B_set 8 = .ok (.lconst 0, 1) := by decide +kernel
theorem rd_B_set_9 : decode rc_B_set 9 = .ok (.lcmp, 1) := by decide +kernel
theorem rd_B_set_10 : decode rc_B_set 10 = .ok (.ifCond .eq 36, 3) := by decide +kernel
theorem rd_B_set_13 : decode rc_B_set 13 = .ok (.aload_n 0, 1) := by decide +kernel
theorem rd_B_set_14 : decode rc_B_set 14 = .ok (.getfield 7, 3) := by decide +kernel
theorem rd_B_set_17 : decode rc_B_set 17 = .ok (.aload_n 0, 1) := by decide +kernel
theorem rd_B_set_18 : decode rc_B_set 18 = .ok (.getfield 13, 3) := by decide +kernel
theorem rd_B_set_21 : decode rc_B_set 21 = .ok (.lload_n 3, 1) := by decide +kernel
theorem rd_B_set_22 : decode rc_B_set 22 = .ok (.ldc2_w 17, 3) := by decide +kernel
theorem rd_B_set_25 : decode rc_B_set 25 = .ok (.land, 1) := by decide +kernel
theorem rd_B_set_26 : decode rc_B_set 26 = .ok (.l2i, 1) := by decide +kernel
theorem rd_B_set_27 : decode rc_B_set 27 = .ok (.iastore, 1) := by decide +kernel
theorem rd_B_set_28 : decode rc_B_set 28 = .ok (.aload_n 0, 1) := by decide +kernel
theorem rd_B_set_29 : decode rc_B_set 29 = .ok (.dup, 1) := by decide +kernel
theorem rd_B_set_30 : decode rc_B_set 30 = .ok (.getfield 13, 3) := by decide +kernel
theorem rd_B_set_33 : decode rc_B_set 33 = .ok (.iconst 1, 1) := by decide +kernel
theorem rd_B_set_34 : decode rc_B_set 34 = .ok (.iadd, 1) := by decide +kernel
theorem rd_B_set_35 : decode rc_B_set 35 = .ok (.putfield 13, 3) := by decide +kernel
theorem rd_B_set_38 : decode rc_B_set 38 = .ok (.lload_n 3, 1) := by decide +kernel
theorem rd_B_set_39 : decode rc_B_set 39 = .ok (.bipush 16, 2) := by decide +kernel
theorem rd_B_set_41 : decode rc_B_set 41 = .ok (.lushr, 1) := by decide +kernel
theorem rd_B_set_42 : decode rc_B_set 42 = .ok (.lstore_n 3, 1) := by decide +kernel
theorem rd_B_set_43 : decode rc_B_set 43 = .ok (.goto (-36), 3) := by decide +kernel
theorem rd_B_set_46 : decode rc_B_set 46 = .ok (.return_, 1) := by decide +kernel
theorem rd_B_copy_0 : decode rc_B_copy 0 = .ok (.aload_n 0, 1) := by decide +kernel
theorem rd_B_copy_1 : decode rc_B_copy 1 = .ok (.aload_n 1, 1) := by decide +kernel
theorem rd_B_copy_2 : decode rc_B_copy 2 = .ok (.getfield 13, 3) := by decide +kernel
theorem rd_B_copy_5 : decode rc_B_copy 5 = .ok (.putfield 13, 3) := by decide +kernel
theorem rd_B_copy_8 : decode rc_B_copy 8 = .ok (.iconst 0, 1) := by decide +kernel
theorem rd_B_copy_9 : decode rc_B_copy 9 = .ok (.istore_n 2, 1) := by decide +kernel
theorem rd_B_copy_10 : decode rc_B_copy 10 = .ok (.iload_n 2, 1) := by decide +kernel
theorem rd_B_copy_11 : decode rc_B_copy 11 = .ok (.aload_n 0, 1) := by decide +kernel
theorem rd_B_copy_12 : decode rc_B_copy 12 = .ok (.getfield 13, 3) := by decide +kernel
theorem rd_B_copy_15 : decode rc_B_copy 15 = .ok (.if_icmp .ge 21, 3) := by decide +kernel
theorem rd_B_copy_18 : decode rc_B_copy 18 = .ok (.aload_n 0, 1) := by decide +kernel
theorem rd_B_copy_19 : decode rc_B_copy 19 = .ok (.getfield 7, 3) := by decide +kernel
theorem rd_B_copy_22 : decode rc_B_copy 22 = .ok (.iload_n 2, 1) := by decide +kernel
theorem rd_B_copy_23 : decode rc_B_copy 23 = .ok (.aload_n 1, 1) := by decide +kernel
theorem rd_B_copy_24 : decode rc_B_copy 24 = .ok (.getfield 7, 3) := by decide +kernel
theorem rd_B_copy_27 : decode rc_B_copy 27 = .ok (.iload_n 2, 1) := by decide +kernel
theorem rd_B_copy_28 : decode rc_B_copy 28 = .ok (.iaload, 1) := by decide +kernel
theorem rd_B_copy_29 : decode rc_B_copy 29 = .ok (.iastore, 1) := by decide +kernel
theorem rd_B_copy_30 : decode rc_B_copy 30 = .ok (.iinc 2 1, 3) := by decide +kernel
theorem rd_B_copy_33 : decode rc_B_copy 33 = .ok (.goto (-23), 3) := by decide +kernel
theorem rd_B_copy_36 : decode rc_B_copy 36 = .ok (.return_, 1) := by decide +kernel
theorem rd_B_bits_0 : decode rc_B_bits 0 = .ok (.iconst 0, 1) := by decide +kernel
theorem rd_B_bits_1 : decode rc_B_bits 1 = .ok (.istore_n 1, 1) := by decide +kernel
theorem rd_B_bits_2 : decode rc_B_bits 2 = .ok (.aload_n 0, 1) := by decide +kernel
theorem rd_B_bits_3 : decode rc_B_bits 3 = .ok (.getfield 13, 3) := by decide +kernel
theorem rd_B_bits_6 : decode rc_B_bits 6 = .ok (.ifCond .le 25, 3) := by decide +kernel
theorem rd_B_bits_9 : decode rc_B_bits 9 = .ok (.aload_n 0, 1) := by decide +kernel
theorem rd_B_bits_10 : decode rc_B_bits 10 = .ok (.getfield 7, 3) := by decide +kernel
theorem rd_B_bits_13 : decode rc_B_bits 13 = .ok (.aload_n 0, 1) := by decide +kernel
theorem rd_B_bits_14 : decode rc_B_bits 14 = .ok (.getfield 13, 3) := by decide +kernel
theorem rd_B_bits_17 : decode rc_B_bits 17 = .ok (.iconst 1, 1) := by decide +kernel
theorem rd_B_bits_18 : decode rc_B_bits 18 = .ok (.isub, 1) := by decide +kernel
theorem rd_B_bits_19 : decode rc_B_bits 19 = .ok (.iaload, 1) := by decide +kernel
theorem rd_B_bits_20 : decode rc_B_bits 20 = .ok (.iload_n 1, 1) := by decide +kernel
theorem rd_B_bits_21 : decode rc_B_bits 21 = .ok (.ishr, 1) := by decide +kernel
theorem rd_B_bits_22 : decode rc_B_bits 22 = .ok (.ifCond .eq 9, 3) := by decide +kernel
theorem rd_B_bits_25 : decode rc_B_bits 25 = .ok (.iinc 1 1, 3) := by decide +kernel
theorem rd_B_bits_28 : decode rc_B_bits 28 = .ok (.goto (-26), 3) := by decide +kernel
theorem rd_B_bits_31 : decode rc_B_bits 31 = .ok (.aload_n 0, 1) := by decide +kernel
theorem rd_B_bits_32 : decode rc_B_bits 32 = .ok (.getfield 13, 3) := by decide +kernel
theorem rd_B_bits_35 : decode rc_B_bits 35 = .ok (.ifCond .ne 7, 3) := by decide +kernel
theorem rd_B_bits_38 : decode rc_B_bits 38 = .ok (.iconst 0, 1) := by decide +kernel
theorem rd_B_bits_39 : decode rc_B_bits 39 = .ok (.goto 14, 3) := by decide +kernel
theorem rd_B_bits_42 : decode rc_B_bits 42 = .ok (.bipush 16, 2) := by decide +kernel
theorem rd_B_bits_44 : decode rc_B_bits 44 = .ok (.aload_n 0, 1) := by decide +kernel
theorem rd_B_bits_45 : decode rc_B_bits 45 = .ok (.getfield 13, 3) := by decide +kernel
theorem rd_B_bits_48 : decode rc_B_bits 48 = .ok (.iconst 1, 1) := by decide +kernel
theorem rd_B_bits_49 : decode rc_B_bits 49 = .ok (.isub, 1) := by decide +kernel
theorem rd_B_bits_50 : decode rc_B_bits 50 = .ok (.imul, 1) := by decide +kernel
theorem rd_B_bits_51 : decode rc_B_bits 51 = .ok (.iload_n 1, 1) := by decide +kernel
theorem rd_B_bits_52 : decode rc_B_bits 52 = .ok (.iadd, 1) := by decide +kernel
theorem rd_B_bits_53 : decode rc_B_bits 53 = .ok (.ireturn, 1) := by decide +kernel
theorem rd_B_isOne_0 : decode rc_B_isOne 0 = .ok (.aload_n 0, 1) := by decide +kernel
theorem rd_B_isOne_1 : decode rc_B_isOne 1 = .ok (.getfield 13, 3) := by decide +kernel
theorem rd_B_isOne_4 : decode rc_B_isOne 4 = .ok (.iconst 1, 1) := by decide +kernel
theorem rd_B_isOne_5 : decode rc_B_isOne 5 = .ok (.if_icmp .ne 17, 3) := by decide +kernel
theorem rd_B_isOne_8 : decode rc_B_isOne 8 = .ok (.aload_n 0, 1) := by decide +kernel
theorem rd_B_isOne_9 : decode rc_B_isOne 9 = .ok (.getfield 7, 3) := by decide +kernel
theorem rd_B_isOne_12 : decode rc_B_isOne 12 = .ok (.iconst 0, 1) := by decide +kernel
theorem rd_B_isOne_13 : decode rc_B_isOne 13 = .ok (.iaload, 1) := by decide +kernel
theorem rd_B_isOne_14 : decode rc_B_isOne 14 = .ok (.iconst 1, 1) := by decide +kernel
theorem rd_B_isOne_15 : decode rc_B_isOne 15 = .ok (.if_icmp .ne 7, 3) := by decide +kernel
theorem rd_B_isOne_18 : decode rc_B_isOne 18 = .ok (.iconst 1, 1) := by decide +kernel
theorem rd_B_isOne_19 : decode rc_B_isOne 19 = .ok (.goto 4, 3) := by decide +kernel
theorem rd_B_isOne_22 : decode rc_B_isOne 22 = .ok (.iconst 0, 1) := by decide +kernel
theorem rd_B_isOne_23 : decode rc_B_isOne 23 = .ok (.ireturn, 1) := by decide +kernel
theorem rd_B_grow_0 : decode rc_B_grow 0 = .ok (.iload_n 2, 1) := by decide +kernel
theorem rd_B_grow_1 : decode rc_B_grow 1 = .ok (.i2l, 1) := by decide +kernel
theorem rd_B_grow_2 : decode rc_B_grow 2 = .ok (.lstore_n 3, 1) := by decide +kernel
theorem rd_B_grow_3 : decode rc_B_grow 3 = .ok (.iconst 0, 1) := by decide +kernel
theorem rd_B_grow_4 : decode rc_B_grow 4 = .ok (.istore 5, 2) := by decide +kernel
theorem rd_B_grow_6 : decode rc_B_grow 6 = .ok (.iload 5, 2) := by decide +kernel
theorem rd_B_grow_8 : decode rc_B_grow 8 = .ok (.aload_n 0, 1) := by decide +kernel
theorem rd_B_grow_9 : decode rc_B_grow 9 = .ok (.getfield 13, 3) := by decide +kernel
theorem rd_B_grow_12 : decode rc_B_grow 12 = .ok (.if_icmp .ge 44, 3) := by decide +kernel
theorem rd_B_grow_15 : decode rc_B_grow 15 = .ok (.aload_n 0, 1) := by decide +kernel
theorem rd_B_grow_16 : decode rc_B_grow 16 = .ok (.getfield 7, 3) := by decide +kernel
theorem rd_B_grow_19 : decode rc_B_grow 19 = .ok (.iload 5, 2) := by decide +kernel
theorem rd_B_grow_21 : decode rc_B_grow 21 = .ok (.iaload, 1) := by decide +kernel
theorem rd_B_grow_22 : decode rc_B_grow 22 = .ok (.i2l, 1) := by decide +kernel
theorem rd_B_grow_23 : decode rc_B_grow 23 = .ok (.iload_n 1, 1) := by decide +kernel
theorem rd_B_grow_24 : decode rc_B_grow 24 = .ok (.i2l, 1) := by decide +kernel
theorem rd_B_grow_25 : decode rc_B_grow 25 = .ok (.lmul, 1) := by decide +kernel
theorem rd_B_grow_26 : decode rc_B_grow 26 = .ok (.lload_n 3, 1) := by decide +kernel
theorem rd_B_grow_27 : decode rc_B_grow 27 = .ok (.ladd, 1) := by decide +kernel
theorem rd_B_grow_28 : decode rc_B_grow 28 = .ok (.lstore 6, 2) := by decide +kernel
theorem rd_B_grow_30 : decode rc_B_grow 30 = .ok (.aload_n 0, 1) := by decide +kernel
theorem rd_B_grow_31 : decode rc_B_grow 31 = .ok (.getfield 7, 3) := by decide +kernel
theorem rd_B_grow_34 : decode rc_B_grow 34 = .ok (.iload 5, 2) := by decide +kernel
theorem rd_B_grow_36 : decode rc_B_grow 36 = .ok (.lload 6, 2) := by decide +kernel
theorem rd_B_grow_38 : decode rc_B_grow 38 = .ok (.ldc2_w 17, 3) := by decide +kernel
theorem rd_B_grow_41 : decode rc_B_grow 41 = .ok (.land, 1) := by decide +kernel
theorem rd_B_grow_42 : decode rc_B_grow 42 = .ok (.l2i, 1) := by decide +kernel
theorem rd_B_grow_43 : decode rc_B_grow 43 = .ok (.iastore, 1) := by decide +kernel
theorem rd_B_grow_44 : decode rc_B_grow 44 = .ok (.lload 6, 2) := by decide +kernel
theorem rd_B_grow_46 : decode rc_B_grow 46 = .ok (.bipush 16, 2) := by decide +kernel
theorem rd_B_grow_48 : decode rc_B_grow 48 = .ok (.lshr, 1) := by decide +kernel
theorem rd_B_grow_49 : decode rc_B_grow 49 = .ok (.lstore_n 3, 1) := by decide +kernel
theorem rd_B_grow_50 : decode rc_B_grow 50 = .ok (.iinc 5 1, 3) := by decide +kernel
theorem rd_B_grow_53 : decode rc_B_grow 53 = .ok (.goto (-47), 3) := by decide +kernel
theorem rd_B_grow_56 : decode rc_B_grow 56 = .ok (.lload_n 3, 1) := by decide +kernel
theorem rd_B_grow_57 : decode rc_B_grow 57 = .ok (.lconst 0, 1) := by decide +kernel
theorem rd_B_grow_58 : decode rc_B_grow 58 = .ok (.lcmp, 1) := by decide +kernel
theorem rd_B_grow_59 : decode rc_B_grow 59 = .ok (.ifCond .le 36, 3) := by decide +kernel
theorem rd_B_grow_62 : decode rc_B_grow 62 = .ok (.aload_n 0, 1) := by decide +kernel
theorem rd_B_grow_63 : decode rc_B_grow 63 = .ok (.getfield 7, 3) := by decide +kernel
theorem rd_B_grow_66 : decode rc_B_grow 66 = .ok (.aload_n 0, 1) := by decide +kernel
theorem rd_B_grow_67 : decode rc_B_grow 67 = .ok (.getfield 13, 3) := by decide +kernel
theorem rd_B_grow_70 : decode rc_B_grow 70 = .ok (.lload_n 3, 1) := by decide +kernel
theorem rd_B_grow_71 : decode rc_B_grow 71 = .ok (.ldc2_w 17, 3) := by decide +kernel
theorem rd_B_grow_74 : decode rc_B_grow 74 = .ok (.land, 1) := by decide +kernel
theorem rd_B_grow_75 : decode rc_B_grow 75 = .ok (.l2i, 1) := by decide +kernel
theorem rd_B_grow_76 : decode rc_B_grow 76 = .ok (.iastore, 1) := by decide +kernel
theorem rd_B_grow_77 : decode rc_B_grow 77 = .ok (.aload_n 0, 1) := by decide +kernel
theorem rd_B_grow_78 : decode rc_B_grow 78 = .ok (.dup, 1) := by decide +kernel
theorem rd_B_grow_79 : decode rc_B_grow 79 = .ok (.getfield 13, 3) := by decide +kernel
theorem rd_B_grow_82 : decode rc_B_grow 82 = .ok (.iconst 1, 1) := by decide +kernel
theorem rd_B_grow_83 : decode rc_B_grow 83 = .ok (.iadd, 1) := by decide +kernel
theorem rd_B_grow_84 : decode rc_B_grow 84 = .ok (.putfield 13, 3) := by decide +kernel
theorem rd_B_grow_87 : decode rc_B_grow 87 = .ok (.lload_n 3, 1) := by decide +kernel
theorem rd_B_grow_88 : decode rc_B_grow 88 = .ok (.bipush 16, 2) := by decide +kernel
theorem rd_B_grow_90 : decode rc_B_grow 90 = .ok (.lshr, 1) := by decide +kernel
theorem rd_B_grow_91 : decode rc_B_grow 91 = .ok (.lstore_n 3, 1) := by decide +kernel
theorem rd_B_grow_92 : decode rc_B_grow 92 = .ok (.goto (-36), 3) := by decide +kernel
theorem rd_B_grow_95 : decode rc_B_grow 95 = .ok (.return_, 1) := by decide +kernel
theorem rd_B_product_0 : decode rc_B_product 0 = .ok (.aload_n 0, 1) := by decide +kernel
theorem rd_B_product_1 : decode rc_B_product 1 = .ok (.aload_n 1, 1) := by decide +kernel
theorem rd_B_product_2 : decode rc_B_product 2 = .ok (.getfield 13, 3) := by decide +kernel
theorem rd_B_product_5 : decode rc_B_product 5 = .ok (.ifCond .eq 10, 3) := by decide +kernel
theorem rd_B_product_8 : decode rc_B_product 8 = .ok (.aload_n 2, 1) := by decide +kernel
theorem rd_B_product_9 : decode rc_B_product 9 = .ok (.getfield 13, 3) := by decide +kernel
theorem rd_B_product_12 : decode rc_B_product 12 = .ok (.ifCond .ne 7, 3) := by decide +kernel
theorem rd_B_product_15 : decode rc_B_product 15 = .ok (.iconst 0, 1) := by decide +kernel
theorem rd_B_product_16 : decode rc_B_product 16 = .ok (.goto 12, 3) := by decide +kernel
theorem rd_B_product_19 : decode rc_B_product 19 = .ok (.aload_n 1, 1) := by decide +kernel
theorem rd_B_product_20 : decode rc_B_product 20 = .ok (.getfield 13, 3) := by decide +kernel
theorem rd_B_product_23 : decode rc_B_product 23 = .ok (.aload_n 2, 1) := by decide +kernel
theorem rd_B_product_24 : decode rc_B_product 24 = .ok (.getfield 13, 3) := by decide +kernel
theorem rd_B_product_27 : decode rc_B_product 27 = .ok (.iadd, 1) := by decide +kernel
theorem rd_B_product_28 : decode rc_B_product 28 = .ok (.putfield 13, 3) := by decide +kernel
theorem rd_B_product_31 : decode rc_B_product 31 = .ok (.iconst 0, 1) := by decide +kernel
theorem rd_B_product_32 : decode rc_B_product 32 = .ok (.istore_n 3, 1) := by decide +kernel
theorem rd_B_product_33 : decode rc_B_product 33 = .ok (.iload_n 3, 1) := by decide +kernel
theorem rd_B_product_34 : decode rc_B_product 34 = .ok (.aload_n 0, 1) := by decide +kernel
theorem rd_B_product_35 : decode rc_B_product 35 = .ok (.getfield 13, 3) := by decide +kernel
theorem rd_B_product_38 : decode rc_B_product 38 = .ok (.if_icmp .ge 16, 3) := by decide +kernel
theorem rd_B_product_41 : decode rc_B_product 41 = .ok (.aload_n 0, 1) := by decide +kernel
theorem rd_B_product_42 : decode rc_B_product 42 = .ok (.getfield 7, 3) := by decide +kernel
theorem rd_B_product_45 : decode rc_B_product 45 = .ok (.iload_n 3, 1) := by decide +kernel
theorem rd_B_product_46 : decode rc_B_product 46 = .ok (.iconst 0, 1) := by decide +kernel
theorem rd_B_product_47 : decode rc_B_product 47 = .ok (.iastore, 1) := by decide +kernel
theorem rd_B_product_48 : decode rc_B_product 48 = .ok (.iinc 3 1, 3) := by decide +kernel
theorem rd_B_product_51 : decode rc_B_product 51 = .ok (.goto (-18), 3) := by decide +kernel
theorem rd_B_product_54 : decode rc_B_product 54 = .ok (.iconst 0, 1) := by decide +kernel
theorem rd_B_product_55 : decode rc_B_product 55 = .ok (.istore_n 3, 1) := by decide +kernel
theorem rd_B_product_56 : decode rc_B_product 56 = .ok (.iload_n 3, 1) := by decide +kernel
theorem rd_B_product_57 : decode rc_B_product 57 = .ok (.aload_n 1, 1) := by decide +kernel
theorem rd_B_product_58 : decode rc_B_product 58 = .ok (.getfield 13, 3) := by decide +kernel
theorem rd_B_product_61 : decode rc_B_product 61 = .ok (.if_icmp .ge 106, 3) := by decide +kernel
theorem rd_B_product_64 : decode rc_B_product 64 = .ok (.aload_n 0, 1) := by decide +kernel
theorem rd_B_product_65 : decode rc_B_product 65 = .ok (.getfield 13, 3) := by decide +kernel
theorem rd_B_product_68 : decode rc_B_product 68 = .ok (.ifCond .le 99, 3) := by decide +kernel
theorem rd_B_product_71 : decode rc_B_product 71 = .ok (.lconst 0, 1) := by decide +kernel
theorem rd_B_product_72 : decode rc_B_product 72 = .ok (.lstore 4, 2) := by decide +kernel
theorem rd_B_product_74 : decode rc_B_product 74 = .ok (.iconst 0, 1) := by decide +kernel
theorem rd_B_product_75 : decode rc_B_product 75 = .ok (.istore 6, 2) := by decide +kernel
theorem rd_B_product_77 : decode rc_B_product 77 = .ok (.iload 6, 2) := by decide +kernel
theorem rd_B_product_79 : decode rc_B_product 79 = .ok (.aload_n 2, 1) := by decide +kernel
theorem rd_B_product_80 : decode rc_B_product 80 = .ok (.getfield 13, 3) := by decide +kernel
theorem rd_B_product_83 : decode rc_B_product 83 = .ok (.if_icmp .ge 64, 3) := by decide +kernel
theorem rd_B_product_86 : decode rc_B_product 86 = .ok (.aload_n 1, 1) := by decide +kernel
theorem rd_B_product_87 : decode rc_B_product 87 = .ok (.getfield 7, 3) := by decide +kernel
theorem rd_B_product_90 : decode rc_B_product 90 = .ok (.iload_n 3, 1) := by decide +kernel
theorem rd_B_product_91 : decode rc_B_product 91 = .ok (.iaload, 1) := by decide +kernel
theorem rd_B_product_92 : decode rc_B_product 92 = .ok (.i2l, 1) := by decide +kernel
theorem rd_B_product_93 : decode rc_B_product 93 = .ok (.aload_n 2, 1) := by decide +kernel
theorem rd_B_product_94 : decode rc_B_product 94 = .ok (.getfield 7, 3) := by decide +kernel
theorem rd_B_product_97 : decode rc_B_product 97 = .ok (.iload 6, 2) := by decide +kernel
theorem rd_B_product_99 : decode rc_B_product 99 = .ok (.iaload, 1) := by decide +kernel
