theorem rd_M_compareSizes_0 : decode rc_M_compareSizes 0 = .ok (.aload_n 2, 1) := by decide +kernel
theorem rd_M_compareSizes_1 : decode rc_M_compareSizes 1 = .ok (.getfield 1, 3) := by decide +kernel
theorem rd_M_compareSizes_4 : decode rc_M_compareSizes 4 = .ok (.invokevirtual 7, 3) := by decide +kernel
theorem rd_M_compareSizes_7 : decode rc_M_compareSizes 7 = .ok (.ifCond .eq 17, 3) := by decide +kernel
theorem rd_M_compareSizes_10 : decode rc_M_compareSizes 10 = .ok (.aload_n 0, 1) := by decide +kernel
theorem rd_M_compareSizes_11 : decode rc_M_compareSizes 11 = .ok (.getfield 13, 3) := by decide +kernel
theorem rd_M_compareSizes_14 : decode rc_M_compareSizes 14 = .ok (.aload_n 1, 1) := by decide +kernel
theorem rd_M_compareSizes_15 : decode rc_M_compareSizes 15 = .ok (.getfield 18, 3) := by decide +kernel
theorem rd_M_compareSizes_18 : decode rc_M_compareSizes 18 = .ok (.invokevirtual 21, 3) := by decide +kernel
theorem rd_M_compareSizes_21 : decode rc_M_compareSizes 21 = .ok (.goto 18, 3) := by decide +kernel
theorem rd_M_compareSizes_24 : decode rc_M_compareSizes 24 = .ok (.aload_n 0, 1) := by decide +kernel
theorem rd_M_compareSizes_25 : decode rc_M_compareSizes 25 = .ok (.getfield 13, 3) := by decide +kernel
theorem rd_M_compareSizes_28 : decode rc_M_compareSizes 28 = .ok (.aload_n 1, 1) := by decide +kernel
theorem rd_M_compareSizes_29 : decode rc_M_compareSizes 29 = .ok (.getfield 18, 3) := by decide +kernel
theorem rd_M_compareSizes_32 : decode rc_M_compareSizes 32 = .ok (.aload_n 2, 1) := by decide +kernel
theorem rd_M_compareSizes_33 : decode rc_M_compareSizes 33 = .ok (.getfield 1, 3) := by decide +kernel
theorem rd_M_compareSizes_36 : decode rc_M_compareSizes 36 = .ok (.invokevirtual 25, 3) := by decide +kernel
theorem rd_M_compareSizes_39 : decode rc_M_compareSizes 39 = .ok (.aload_n 1, 1) := by decide +kernel
theorem rd_M_compareSizes_40 : decode rc_M_compareSizes 40 = .ok (.getfield 1, 3) := by decide +kernel
theorem rd_M_compareSizes_43 : decode rc_M_compareSizes 43 = .ok (.invokevirtual 7, 3) := by decide +kernel
theorem rd_M_compareSizes_46 : decode rc_M_compareSizes 46 = .ok (.ifCond .eq 17, 3) := by decide +kernel
theorem rd_M_compareSizes_49 : decode rc_M_compareSizes 49 = .ok (.aload_n 0, 1) := by decide +kernel
theorem rd_M_compareSizes_50 : decode rc_M_compareSizes 50 = .ok (.getfield 29, 3) := by decide +kernel
theorem rd_M_compareSizes_53 : decode rc_M_compareSizes 53 = .ok (.aload_n 2, 1) := by decide +kernel
theorem rd_M_compareSizes_54 : decode rc_M_compareSizes 54 = .ok (.getfield 18, 3) := by decide +kernel
theorem rd_M_compareSizes_57 : decode rc_M_compareSizes 57 = .ok (.invokevirtual 21, 3) := by decide +kernel
theorem rd_M_compareSizes_60 : decode rc_M_compareSizes 60 = .ok (.goto 18, 3) := by decide +kernel
theorem rd_M_compareSizes_63 : decode rc_M_compareSizes 63 = .ok (.aload_n 0, 1) := by decide +kernel
theorem rd_M_compareSizes_64 : decode rc_M_compareSizes 64 = .ok (.getfield 29, 3) := by decide +kernel
theorem rd_M_compareSizes_67 : decode rc_M_compareSizes 67 = .ok (.aload_n 2, 1) := by decide +kernel
theorem rd_M_compareSizes_68 : decode rc_M_compareSizes 68 = .ok (.getfield 18, 3) := by decide +kernel
theorem rd_M_compareSizes_71 : decode rc_M_compareSizes 71 = .ok (.aload_n 1, 1) := by decide +kernel
theorem rd_M_compareSizes_72 : decode rc_M_compareSizes 72 = .ok (.getfield 1, 3) := by decide +kernel
theorem rd_M_compareSizes_75 : decode rc_M_compareSizes 75 = .ok (.invokevirtual 25, 3) := by decide +kernel
theorem rd_M_compareSizes_78 : decode rc_M_compareSizes 78 = .ok (.aload_n 0, 1) := by decide +kernel
theorem rd_M_compareSizes_79 : decode rc_M_compareSizes 79 = .ok (.getfield 13, 3) := by decide +kernel
theorem rd_M_compareSizes_82 : decode rc_M_compareSizes 82 = .ok (.invokevirtual 32, 3) := by decide +kernel
theorem rd_M_compareSizes_85 : decode rc_M_compareSizes 85 = .ok (.aload_n 1, 1) := by decide +kernel
theorem rd_M_compareSizes_86 : decode rc_M_compareSizes 86 = .ok (.getfield 36, 3) := by decide +kernel
theorem rd_M_compareSizes_89 : decode rc_M_compareSizes 89 = .ok (.iadd, 1) := by decide +kernel
theorem rd_M_compareSizes_90 : decode rc_M_compareSizes 90 = .ok (.istore_n 3, 1) := by decide +kernel
theorem rd_M_compareSizes_91 : decode rc_M_compareSizes 91 = .ok (.aload_n 0, 1) := by decide +kernel
theorem rd_M_compareSizes_92 : decode rc_M_compareSizes 92 = .ok (.getfield 29, 3) := by decide +kernel
theorem rd_M_compareSizes_95 : decode rc_M_compareSizes 95 = .ok (.invokevirtual 32, 3) := by decide +kernel
theorem rd_M_compareSizes_98 : decode rc_M_compareSizes 98 = .ok (.aload_n 2, 1) := by decide +kernel
theorem rd_M_compareSizes_99 : decode rc_M_compareSizes 99 = .ok (.getfield 36, 3) := by decide +kernel
theorem rd_M_compareSizes_102 : decode rc_M_compareSizes 102 = .ok (.iadd, 1) := by decide +kernel
theorem rd_M_compareSizes_103 : decode rc_M_compareSizes 103 = .ok (.istore 4, 2) := by decide +kernel
theorem rd_M_compareSizes_105 : decode rc_M_compareSizes 105 = .ok (.iload_n 3, 1) := by decide +kernel
theorem rd_M_compareSizes_106 : decode rc_M_compareSizes 106 = .ok (.iload 4, 2) := by decide +kernel
theorem rd_M_compareSizes_108 : decode rc_M_compareSizes 108 = .ok (.if_icmp .eq 15, 3) := by decide +kernel
theorem rd_M_compareSizes_111 : decode rc_M_compareSizes 111 = .ok (.iload_n 3, 1) := by decide +kernel
theorem rd_M_compareSizes_112 : decode rc_M_compareSizes 112 = .ok (.iload 4, 2) := by decide +kernel
theorem rd_M_compareSizes_114 : decode rc_M_compareSizes 114 = .ok (.if_icmp .ge 7, 3) := by decide +kernel
theorem rd_M_compareSizes_117 : decode rc_M_compareSizes 117 = .ok (.iconst (-1), 1) := by decide +kernel
theorem rd_M_compareSizes_118 : decode rc_M_compareSizes 118 = .ok (.goto 4, 3) := by decide +kernel
theorem rd_M_compareSizes_121 : decode rc_M_compareSizes 121 = .ok (.iconst 1, 1) := by decide +kernel
theorem rd_M_compareSizes_122 : decode rc_M_compareSizes 122 = .ok (.ireturn, 1) := by decide +kernel
theorem rd_M_compareSizes_123 : decode rc_M_compareSizes 123 = .ok (.aload_n 1, 1) := by decide +kernel
theorem rd_M_compareSizes_124 : decode rc_M_compareSizes 124 = .ok (.getfield 36, 3) := by decide +kernel
theorem rd_M_compareSizes_127 : decode rc_M_compareSizes 127 = .ok (.aload_n 2, 1) := by decide +kernel
theorem rd_M_compareSizes_128 : decode rc_M_compareSizes 128 = .ok (.getfield 36, 3) := by decide +kernel
theorem rd_M_compareSizes_131 : decode rc_M_compareSizes 131 = .ok (.if_icmp .le 22, 3) := by decide +kernel
theorem rd_M_compareSizes_134 : decode rc_M_compareSizes 134 = .ok (.aload_n 0, 1) := by decide +kernel
theorem rd_M_compareSizes_135 : decode rc_M_compareSizes 135 = .ok (.getfield 13, 3) := by decide +kernel
theorem rd_M_compareSizes_138 : decode rc_M_compareSizes 138 = .ok (.aload_n 1, 1) := by decide +kernel
theorem rd_M_compareSizes_139 : decode rc_M_compareSizes 139 = .ok (.getfield 36, 3) := by decide +kernel
theorem rd_M_compareSizes_142 : decode rc_M_compareSizes 142 = .ok (.aload_n 2, 1) := by decide +kernel
theorem rd_M_compareSizes_143 : decode rc_M_compareSizes 143 = .ok (.getfield 36, 3) := by decide +kernel
theorem rd_M_compareSizes_146 : decode rc_M_compareSizes 146 = .ok (.isub, 1) := by decide +kernel
theorem rd_M_compareSizes_147 : decode rc_M_compareSizes 147 = .ok (.invokevirtual 40, 3) := by decide +kernel
theorem rd_M_compareSizes_150 : decode rc_M_compareSizes 150 = .ok (.goto 19, 3) := by decide +kernel
theorem rd_M_compareSizes_153 : decode rc_M_compareSizes 153 = .ok (.aload_n 0, 1) := by decide +kernel
theorem rd_M_compareSizes_154 : decode rc_M_compareSizes 154 = .ok (.getfield 29, 3) := by decide +kernel
theorem rd_M_compareSizes_157 : decode rc_M_compareSizes 157 = .ok (.aload_n 2, 1) := by decide +kernel
theorem rd_M_compareSizes_158 : decode rc_M_compareSizes 158 = .ok (.getfield 36, 3) := by decide +kernel
theorem rd_M_compareSizes_161 : decode rc_M_compareSizes 161 = .ok (.aload_n 1, 1) := by decide +kernel
theorem rd_M_compareSizes_162 : decode rc_M_compareSizes 162 = .ok (.getfield 36, 3) := by decide +kernel
theorem rd_M_compareSizes_165 : decode rc_M_compareSizes 165 = .ok (.isub, 1) := by decide +kernel
theorem rd_M_compareSizes_166 : decode rc_M_compareSizes 166 = .ok (.invokevirtual 40, 3) := by decide +kernel
theorem rd_M_compareSizes_169 : decode rc_M_compareSizes 169 = .ok (.aload_n 0, 1) := by decide +kernel
theorem rd_M_compareSizes_170 : decode rc_M_compareSizes 170 = .ok (.getfield 13, 3) := by decide +kernel
theorem rd_M_compareSizes_173 : decode rc_M_compareSizes 173 = .ok (.aload_n 0, 1) := by decide +kernel
theorem rd_M_compareSizes_174 : decode rc_M_compareSizes 174 = .ok (.getfield 29, 3) := by decide +kernel
theorem rd_M_compareSizes_177 : decode rc_M_compareSizes 177 = .ok (.invokevirtual 44, 3) := by decide +kernel
theorem rd_M_compareSizes_180 : decode rc_M_compareSizes 180 = .ok (.ireturn, 1) := by decide +kernel
theorem rd_M_orderOf_0 : decode rc_M_orderOf 0 = .ok (.aload_n 1, 1) := by decide +kernel
theorem rd_M_orderOf_1 : decode rc_M_orderOf 1 = .ok (.invokevirtual 48, 3) := by decide +kernel
theorem rd_M_orderOf_4 : decode rc_M_orderOf 4 = .ok (.istore_n 3, 1) := by decide +kernel
theorem rd_M_orderOf_5 : decode rc_M_orderOf 5 = .ok (.aload_n 2, 1) := by decide +kernel
theorem rd_M_orderOf_6 : decode rc_M_orderOf 6 = .ok (.invokevirtual 48, 3) := by decide +kernel
theorem rd_M_orderOf_9 : decode rc_M_orderOf 9 = .ok (.istore 4, 2) := by decide +kernel
theorem rd_M_orderOf_11 : decode rc_M_orderOf 11 = .ok (.iload_n 3, 1) := by decide +kernel
theorem rd_M_orderOf_12 : decode rc_M_orderOf 12 = .ok (.iload 4, 2) := by decide +kernel
theorem rd_M_orderOf_14 : decode rc_M_orderOf 14 = .ok (.if_icmp .ne 7, 3) := by decide +kernel
theorem rd_M_orderOf_17 : decode rc_M_orderOf 17 = .ok (.iload_n 3, 1) := by decide +kernel
theorem rd_M_orderOf_18 : decode rc_M_orderOf 18 = .ok (.ifCond .ne 25, 3) := by decide +kernel
theorem rd_M_orderOf_21 : decode rc_M_orderOf 21 = .ok (.iload_n 3, 1) := by decide +kernel
theorem rd_M_orderOf_22 : decode rc_M_orderOf 22 = .ok (.iload 4, 2) := by decide +kernel
theorem rd_M_orderOf_24 : decode rc_M_orderOf 24 = .ok (.if_icmp .ge 7, 3) := by decide +kernel
theorem rd_M_orderOf_27 : decode rc_M_orderOf 27 = .ok (.iconst (-1), 1) := by decide +kernel
theorem rd_M_orderOf_28 : decode rc_M_orderOf 28 = .ok (.goto 14, 3) := by decide +kernel
theorem rd_M_orderOf_31 : decode rc_M_orderOf 31 = .ok (.iload_n 3, 1) := by decide +kernel
theorem rd_M_orderOf_32 : decode rc_M_orderOf 32 = .ok (.iload 4, 2) := by decide +kernel
theorem rd_M_orderOf_34 : decode rc_M_orderOf 34 = .ok (.if_icmp .le 7, 3) := by decide +kernel
theorem rd_M_orderOf_37 : decode rc_M_orderOf 37 = .ok (.iconst 1, 1) := by decide +kernel
theorem rd_M_orderOf_38 : decode rc_M_orderOf 38 = .ok (.goto 4, 3) := by decide +kernel
theorem rd_M_orderOf_41 : decode rc_M_orderOf 41 = .ok (.iconst 0, 1) := by decide +kernel
theorem rd_M_orderOf_42 : decode rc_M_orderOf 42 = .ok (.ireturn, 1) := by decide +kernel
theorem rd_M_orderOf_43 : decode rc_M_orderOf 43 = .ok (.iload_n 3, 1) := by decide +kernel
theorem rd_M_orderOf_44 : decode rc_M_orderOf 44 = .ok (.aload_n 0, 1) := by decide +kernel
theorem rd_M_orderOf_45 : decode rc_M_orderOf 45 = .ok (.aload_n 1, 1) := by decide +kernel
theorem rd_M_orderOf_46 : decode rc_M_orderOf 46 = .ok (.aload_n 2, 1) := by decide +kernel
theorem rd_M_orderOf_47 : decode rc_M_orderOf 47 = .ok (.invokevirtual 51, 3) := by decide +kernel
theorem rd_M_orderOf_50 : decode rc_M_orderOf 50 = .ok (.imul, 1) := by decide +kernel
theorem rd_M_orderOf_51 : decode rc_M_orderOf 51 = .ok (.ireturn, 1) := by decide +kernel
theorem rd_M_floatOf_0 : decode rc_M_floatOf 0 = .ok (.lload_n 0, 1) := by decide +kernel
theorem rd_M_floatOf_1 : decode rc_M_floatOf 1 = .ok (.lconst 0, 1) := by decide +kernel
theorem rd_M_floatOf_2 : decode rc_M_floatOf 2 = .ok (.lcmp, 1) := by decide +kernel
theorem rd_M_floatOf_3 : decode rc_M_floatOf 3 = .ok (.ifCond .ge 12, 3) := by decide +kernel
theorem rd_M_floatOf_6 : decode rc_M_floatOf 6 = .ok (.lload_n 0, 1) := by decide +kernel
theorem rd_M_floatOf_7 : decode rc_M_floatOf 7 = .ok (.lneg, 1) := by decide +kernel
theorem rd_M_floatOf_8 : decode rc_M_floatOf 8 = .ok (.ldc2_w 55, 3) := by decide +kernel
theorem rd_M_floatOf_11 : decode rc_M_floatOf 11 = .ok (.lor, 1) := by decide +kernel
theorem rd_M_floatOf_12 : decode rc_M_floatOf 12 = .ok (.goto 4, 3) := by decide +kernel
theorem rd_M_floatOf_15 : decode rc_M_floatOf 15 = .ok (.lload_n 0, 1) := by decide +kernel
theorem rd_M_floatOf_16 : decode rc_M_floatOf 16 = .ok (.lreturn, 1) := by decide +kernel
theorem rd_M_minus_0 : decode rc_M_minus 0 = .ok (.lload_n 0, 1) := by decide +kernel
theorem rd_M_minus_1 : decode rc_M_minus 1 = .ok (.lconst 0, 1) := by decide +kernel
theorem rd_M_minus_2 : decode rc_M_minus 2 = .ok (.lcmp, 1) := by decide +kernel
theorem rd_M_minus_3 : decode rc_M_minus 3 = .ok (.ifCond .ne 7, 3) := by decide +kernel
theorem rd_M_minus_6 : decode rc_M_minus 6 = .ok (.lconst 0, 1) := by decide +kernel
theorem rd_M_minus_7 : decode rc_M_minus 7 = .ok (.goto 8, 3) := by decide +kernel
theorem rd_M_minus_10 : decode rc_M_minus 10 = .ok (.lload_n 0, 1) := by decide +kernel
theorem rd_M_minus_11 : decode rc_M_minus 11 = .ok (.ldc2_w 55, 3) := by decide +kernel
theorem rd_M_minus_14 : decode rc_M_minus 14 = .ok (.lxor, 1) := by decide +kernel
theorem rd_M_minus_15 : decode rc_M_minus 15 = .ok (.lreturn, 1) := by decide +kernel
theorem rd_M_down_0 : decode rc_M_down 0 = .ok (.aload_n 1, 1) := by decide +kernel
theorem rd_M_down_1 : decode rc_M_down 1 = .ok (.invokevirtual 48, 3) := by decide +kernel
theorem rd_M_down_4 : decode rc_M_down 4 = .ok (.ifCond .ge 7, 3) := by decide +kernel
theorem rd_M_down_7 : decode rc_M_down 7 = .ok (.iconst 1, 1) := by decide +kernel
theorem rd_M_down_8 : decode rc_M_down 8 = .ok (.goto 4, 3) := by decide +kernel
theorem rd_M_down_11 : decode rc_M_down 11 = .ok (.iconst 0, 1) := by decide +kernel
theorem rd_M_down_12 : decode rc_M_down 12 = .ok (.istore_n 2, 1) := by decide +kernel
theorem rd_M_down_13 : decode rc_M_down 13 = .ok (.iload_n 2, 1) := by decide +kernel
theorem rd_M_down_14 : decode rc_M_down 14 = .ok (.ifCond .eq 9, 3) := by decide +kernel
theorem rd_M_down_17 : decode rc_M_down 17 = .ok (.ldc2_w 57, 3) := by decide +kernel
theorem rd_M_down_20 : decode rc_M_down 20 = .ok (.goto 4, 3) := by decide +kernel
theorem rd_M_down_23 : decode rc_M_down 23 = .ok (.lconst 0, 1) := by decide +kernel
theorem rd_M_down_24 : decode rc_M_down 24 = .ok (.lstore_n 3, 1) := by decide +kernel
theorem rd_M_down_25 : decode rc_M_down 25 = .ok (.iload_n 2, 1) := by decide +kernel
theorem rd_M_down_26 : decode rc_M_down 26 = .ok (.ifCond .eq 7, 3) := by decide +kernel
theorem rd_M_down_29 : decode rc_M_down 29 = .ok (.lconst 0, 1) := by decide +kernel
theorem rd_M_down_30 : decode rc_M_down 30 = .ok (.goto 6, 3) := by decide +kernel
theorem rd_M_down_33 : decode rc_M_down 33 = .ok (.ldc2_w 59, 3) := by decide +kernel
theorem rd_M_down_36 : decode rc_M_down 36 = .ok (.lstore 5, 2) := by decide +kernel
theorem rd_M_down_38 : decode rc_M_down 38 = .ok (.aload_n 0, 1) := by decide +kernel
theorem rd_M_down_39 : decode rc_M_down 39 = .ok (.getfield 61, 3) := by decide +kernel
theorem rd_M_down_42 : decode rc_M_down 42 = .ok (.ldc2_w 57, 3) := by decide +kernel
theorem rd_M_down_45 : decode rc_M_down 45 = .ok (.invokestatic 65, 3) := by decide +kernel
theorem rd_M_down_48 : decode rc_M_down 48 = .ok (.invokevirtual 69, 3) := by decide +kernel
theorem rd_M_down_51 : decode rc_M_down 51 = .ok (.iload_n 2, 1) := by decide +kernel
theorem rd_M_down_52 : decode rc_M_down 52 = .ok (.ifCond .eq 19, 3) := by decide +kernel
theorem rd_M_down_55 : decode rc_M_down 55 = .ok (.aload_n 0, 1) := by decide +kernel
theorem rd_M_down_56 : decode rc_M_down 56 = .ok (.aload_n 0, 1) := by decide +kernel
theorem rd_M_down_57 : decode rc_M_down 57 = .ok (.getfield 61, 3) := by decide +kernel
theorem rd_M_down_60 : decode rc_M_down 60 = .ok (.aload_n 1, 1) := by decide +kernel
theorem rd_M_down_61 : decode rc_M_down 61 = .ok (.invokevirtual 73, 3) := by decide +kernel
theorem rd_M_down_64 : decode rc_M_down 64 = .ok (.ifCond .le 7, 3) := by decide +kernel
theorem rd_M_down_67 : decode rc_M_down 67 = .ok (.ldc2_w 76, 3) := by decide +kernel
theorem rd_M_down_70 : decode rc_M_down 70 = .ok (.lreturn, 1) := by decide +kernel
theorem rd_M_down_71 : decode rc_M_down 71 = .ok (.lload 5, 2) := by decide +kernel
theorem rd_M_down_73 : decode rc_M_down 73 = .ok (.lload_n 3, 1) := by decide +kernel
theorem rd_M_down_74 : decode rc_M_down 74 = .ok (.lsub, 1) := by decide +kernel
theorem rd_M_down_75 : decode rc_M_down 75 = .ok (.lconst 1, 1) := by decide +kernel
theorem rd_M_down_76 : decode rc_M_down 76 = .ok (.lcmp, 1) := by decide +kernel
theorem rd_M_down_77 : decode rc_M_down 77 = .ok (.ifCond .le 52, 3) := by decide +kernel
theorem rd_M_down_80 : decode rc_M_down 80 = .ok (.lload_n 3, 1) := by decide +kernel
theorem rd_M_down_81 : decode rc_M_down 81 = .ok (.lload 5, 2) := by decide +kernel
theorem rd_M_down_83 : decode rc_M_down 83 = .ok (.lload_n 3, 1) := by decide +kernel
theorem rd_M_down_84 : decode rc_M_down 84 = .ok (.lsub, 1) := by decide +kernel
theorem rd_M_down_85 : decode rc_M_down 85 = .ok (.ldc2_w 78, 3) := by decide +kernel
theorem rd_M_down_88 : decode rc_M_down 88 = .ok (.ldiv, 1) := by decide +kernel
theorem rd_M_down_89 : decode rc_M_down 89 = .ok (.ladd, 1) := by decide +kernel
theorem rd_M_down_90 : decode rc_M_down 90 = .ok (.lstore 7, 2) := by decide +kernel
theorem rd_M_down_92 : decode rc_M_down 92 = .ok (.aload_n 0, 1) := by decide +kernel
theorem rd_M_down_93 : decode rc_M_down 93 = .ok (.getfield 61, 3) := by decide +kernel
theorem rd_M_down_96 : decode rc_M_down 96 = .ok (.lload 7, 2) := by decide +kernel
theorem rd_M_down_98 : decode rc_M_down 98 = .ok (.invokestatic 65, 3) := by decide +kernel
theorem rd_M_down_101 : decode rc_M_down 101 = .ok (.invokevirtual 69, 3) := by decide +kernel
theorem rd_M_down_104 : decode rc_M_down 104 = .ok (.aload_n 0, 1) := by decide +kernel
theorem rd_M_down_105 : decode rc_M_down 105 = .ok (.aload_n 0, 1) := by decide +kernel
theorem rd_M_down_106 : decode rc_M_down 106 = .ok (.getfield 61, 3) := by decide +kernel
theorem rd_M_down_109 : decode rc_M_down 109 = .ok (.aload_n 1, 1) := by decide +kernel
theorem rd_M_down_110 : decode rc_M_down 110 = .ok (.invokevirtual 73, 3) := by decide +kernel
theorem rd_M_down_113 : decode rc_M_down 113 = .ok (.ifCond .gt 9, 3) := by decide +kernel
theorem rd_M_down_116 : decode rc_M_down 116 = .ok (.lload 7, 2) := by decide +kernel
theorem rd_M_down_118 : decode rc_M_down 118 = .ok (.lstore_n 3, 1) := by decide +kernel
theorem rd_M_down_119 : decode rc_M_down 119 = .ok (.goto 7, 3) := by decide +kernel
theorem rd_M_down_122 : decode rc_M_down 122 = .ok (.lload 7, 2) := by decide +kernel
theorem rd_M_down_124 : decode rc_M_down 124 = .ok (.lstore 5, 2) := by decide +kernel
theorem rd_M_down_126 : decode rc_M_down 126 = .ok (.goto (-55), 3) := by decide +kernel
theorem rd_M_down_129 : decode rc_M_down 129 = .ok (.lload_n 3, 1) := by decide +kernel
theorem rd_M_down_130 : decode rc_M_down 130 = .ok (.invokestatic 65, 3) := by decide +kernel
theorem rd_M_down_133 : decode rc_M_down 133 = .ok (.lreturn, 1) := by decide +kernel
theorem rd_M_up_0 : decode rc_M_up 0 = .ok (.aload_n 0, 1) := by decide +kernel
theorem rd_M_up_1 : decode rc_M_up 1 = .ok (.getfield 80, 3) := by decide +kernel
theorem rd_M_up_4 : decode rc_M_up 4 = .ok (.aload_n 1, 1) := by decide +kernel
theorem rd_M_up_5 : decode rc_M_up 5 = .ok (.invokevirtual 83, 3) := by decide +kernel
theorem rd_M_up_8 : decode rc_M_up 8 = .ok (.aload_n 0, 1) := by decide +kernel
theorem rd_M_up_9 : decode rc_M_up 9 = .ok (.getfield 80, 3) := by decide +kernel
theorem rd_M_up_12 : decode rc_M_up 12 = .ok (.aload_n 1, 1) := by decide +kernel
theorem rd_M_up_13 : decode rc_M_up 13 = .ok (.getfield 86, 3) := by decide +kernel
theorem rd_M_up_16 : decode rc_M_up 16 = .ok (.ifCond .ne 7, 3) := by decide +kernel
theorem rd_M_up_19 : decode rc_M_up 19 = .ok (.iconst 1, 1) := by decide +kernel
theorem rd_M_up_20 : decode rc_M_up 20 = .ok (.goto 4, 3) := by decide +kernel
theorem rd_M_up_23 : decode rc_M_up 23 = .ok (.iconst 0, 1) := by decide +kernel
theorem rd_M_up_24 : decode rc_M_up 24 = .ok (.putfield 86, 3) := by decide +kernel
theorem rd_M_up_27 : decode rc_M_up 27 = .ok (.aload_n 0, 1) := by decide +kernel
theorem rd_M_up_28 : decode rc_M_up 28 = .ok (.aload_n 0, 1) := by decide +kernel
theorem rd_M_up_29 : decode rc_M_up 29 = .ok (.getfield 80, 3) := by decide +kernel
theorem rd_M_up_32 : decode rc_M_up 32 = .ok (.invokevirtual 90, 3) := by decide +kernel
theorem rd_M_up_35 : decode rc_M_up 35 = .ok (.invokestatic 94, 3) := by decide +kernel
theorem rd_M_up_38 : decode rc_M_up 38 = .ok (.lreturn, 1) := by decide +kernel
theorem rd_M_init_0 : decode rc_M_init 0 = .ok (.aload_n 0, 1) := by decide +kernel
theorem rd_M_init_1 : decode rc_M_init 1 = .ok (.invokespecial 97, 3) := by decide +kernel
theorem rd_M_init_4 : decode rc_M_init 4 = .ok (.aload_n 0, 1) := by decide +kernel
theorem rd_M_init_5 : decode rc_M_init 5 = .ok (.new 8, 3) := by decide +kernel
theorem rd_M_init_8 : decode rc_M_init 8 = .ok (.dup, 1) := by decide +kernel
theorem rd_M_init_9 : decode rc_M_init 9 = .ok (.invokespecial 103, 3) := by decide +kernel
theorem rd_M_init_12 : decode rc_M_init 12 = .ok (.putfield 13, 3) := by decide +kernel
theorem rd_M_init_15 : decode rc_M_init 15 = .ok (.aload_n 0, 1) := by decide +kernel
theorem rd_M_init_16 : decode rc_M_init 16 = .ok (.new 8, 3) := by decide +kernel
theorem rd_M_init_19 : decode rc_M_init 19 = .ok (.dup, 1) := by decide +kernel
theorem rd_M_init_20 : decode rc_M_init 20 = .ok (.invokespecial 103, 3) := by decide +kernel
theorem rd_M_init_23 : decode rc_M_init 23 = .ok (.putfield 29, 3) := by decide +kernel
theorem rd_M_init_26 : decode rc_M_init 26 = .ok (.aload_n 0, 1) := by decide +kernel
theorem rd_M_init_27 : decode rc_M_init 27 = .ok (.new 2, 3) := by decide +kernel
theorem rd_M_init_30 : decode rc_M_init 30 = .ok (.dup, 1) := by decide +kernel
theorem rd_M_init_31 : decode rc_M_init 31 = .ok (.invokespecial 104, 3) := by decide +kernel
theorem rd_M_init_34 : decode rc_M_init 34 = .ok (.putfield 61, 3) := by decide +kernel
theorem rd_M_init_37 : decode rc_M_init 37 = .ok (.aload_n 0, 1) := by decide +kernel
theorem rd_M_init_38 : decode rc_M_init 38 = .ok (.new 2, 3) := by decide +kernel
theorem rd_M_init_41 : decode rc_M_init 41 = .ok (.dup, 1) := by decide +kernel
theorem rd_M_init_42 : decode rc_M_init 42 = .ok (.invokespecial 104, 3) := by decide +kernel
theorem rd_M_init_45 : decode rc_M_init 45 = .ok (.putfield 80, 3) := by decide +kernel
theorem rd_M_init_48 : decode rc_M_init 48 = .ok (.aload_n 0, 1) := by decide +kernel
theorem rd_M_init_49 : decode rc_M_init 49 = .ok (.new 2, 3) := by decide +kernel
theorem rd_M_init_52 : decode rc_M_init 52 = .ok (.dup, 1) := by decide +kernel
theorem rd_M_init_53 : decode rc_M_init 53 = .ok (.invokespecial 104, 3) := by decide +kernel
theorem rd_M_init_56 : decode rc_M_init 56 = .ok (.putfield 105, 3) := by decide +kernel
theorem rd_M_init_59 : decode rc_M_init 59 = .ok (.aload_n 0, 1) := by decide +kernel
theorem rd_M_init_60 : decode rc_M_init 60 = .ok (.new 2, 3) := by decide +kernel
theorem rd_M_init_63 : decode rc_M_init 63 = .ok (.dup, 1) := by decide +kernel
theorem rd_M_init_64 : decode rc_M_init 64 = .ok (.invokespecial 104, 3) := by decide +kernel
theorem rd_M_init_67 : decode rc_M_init 67 = .ok (.putfield 108, 3) := by decide +kernel
theorem rd_M_init_70 : decode rc_M_init 70 = .ok (.aload_n 0, 1) := by decide +kernel
theorem rd_M_init_71 : decode rc_M_init 71 = .ok (.new 8, 3) := by decide +kernel
theorem rd_M_init_74 : decode rc_M_init 74 = .ok (.dup, 1) := by decide +kernel
theorem rd_M_init_75 : decode rc_M_init 75 = .ok (.invokespecial 103, 3) := by decide +kernel
theorem rd_M_init_78 : decode rc_M_init 78 = .ok (.putfield 111, 3) := by decide +kernel
theorem rd_M_init_81 : decode rc_M_init 81 = .ok (.aload_n 0, 1) := by decide +kernel
theorem rd_M_init_82 : decode rc_M_init 82 = .ok (.getfield 105, 3) := by decide +kernel
theorem rd_M_init_85 : decode rc_M_init 85 = .ok (.lconst 0, 1) := by decide +kernel
theorem rd_M_init_86 : decode rc_M_init 86 = .ok (.invokevirtual 114, 3) := by decide +kernel
theorem rd_M_init_89 : decode rc_M_init 89 = .ok (.aload_n 0, 1) := by decide +kernel
theorem rd_M_init_90 : decode rc_M_init 90 = .ok (.getfield 108, 3) := by decide +kernel
theorem rd_M_init_93 : decode rc_M_init 93 = .ok (.lconst 0, 1) := by decide +kernel
theorem rd_M_init_94 : decode rc_M_init 94 = .ok (.invokevirtual 114, 3) := by decide +kernel
theorem rd_M_init_97 : decode rc_M_init 97 = .ok (.return_, 1) := by decide +kernel
theorem rd_M_isNumber_0 : decode rc_M_isNumber 0 = .ok (.iload_n 0, 1) := by decide +kernel
theorem rd_M_isNumber_1 : decode rc_M_isNumber 1 = .ok (.ifCond .eq 8, 3) := by decide +kernel
theorem rd_M_isNumber_4 : decode rc_M_isNumber 4 = .ok (.iload_n 0, 1) := by decide +kernel
theorem rd_M_isNumber_5 : decode rc_M_isNumber 5 = .ok (.iconst 1, 1) := by decide +kernel
theorem rd_M_isNumber_6 : decode rc_M_isNumber 6 = .ok (.if_icmp .ne 7, 3) := by decide +kernel
theorem rd_M_isNumber_9 : decode rc_M_isNumber 9 = .ok (.iconst 1, 1) := by decide +kernel
theorem rd_M_isNumber_10 : decode rc_M_isNumber 10 = .ok (.goto 4, 3) := by decide +kernel
theorem rd_M_isNumber_13 : decode rc_M_isNumber 13 = .ok (.iconst 0, 1) := by decide +kernel
theorem rd_M_isNumber_14 : decode rc_M_isNumber 14 = .ok (.ireturn, 1) := by decide +kernel
theorem rd_M_numberOf_0 : decode rc_M_numberOf 0 = .ok (.iload_n 1, 1) := by decide +kernel
theorem rd_M_numberOf_1 : decode rc_M_numberOf 1 = .ok (.ifCond .ne 10, 3) := by decide +kernel
theorem rd_M_numberOf_4 : decode rc_M_numberOf 4 = .ok (.aload_n 0, 1) := by decide +kernel
theorem rd_M_numberOf_5 : decode rc_M_numberOf 5 = .ok (.getfield 105, 3) := by decide +kernel
theorem rd_M_numberOf_8 : decode rc_M_numberOf 8 = .ok (.goto 7, 3) := by decide +kernel
theorem rd_M_numberOf_11 : decode rc_M_numberOf 11 = .ok (.aload_n 0, 1) := by decide +kernel
theorem rd_M_numberOf_12 : decode rc_M_numberOf 12 = .ok (.getfield 108, 3) := by decide +kernel
theorem rd_M_numberOf_15 : decode rc_M_numberOf 15 = .ok (.areturn, 1) := by decide +kernel
theorem rd_M_partOf_0 : decode rc_M_partOf 0 = .ok (.iload_n 1, 1) := by decide +kernel
theorem rd_M_partOf_1 : decode rc_M_partOf 1 = .ok (.ifCond .ne 10, 3) := by decide +kernel
theorem rd_M_partOf_4 : decode rc_M_partOf 4 = .ok (.aload_n 0, 1) := by decide +kernel
theorem rd_M_partOf_5 : decode rc_M_partOf 5 = .ok (.getfield 105, 3) := by decide +kernel
theorem rd_M_partOf_8 : decode rc_M_partOf 8 = .ok (.goto 7, 3) := by decide +kernel
theorem rd_M_partOf_11 : decode rc_M_partOf 11 = .ok (.aload_n 0, 1) := by decide +kernel
theorem rd_M_partOf_12 : decode rc_M_partOf 12 = .ok (.getfield 108, 3) := by decide +kernel
theorem rd_M_partOf_15 : decode rc_M_partOf 15 = .ok (.astore_n 3, 1) := by decide +kernel
theorem rd_M_partOf_16 : decode rc_M_partOf 16 = .ok (.iload_n 2, 1) := by decide +kernel
theorem rd_M_partOf_17 : decode rc_M_partOf 17 = .ok (.ifCond .ne 10, 3) := by decide +kernel
theorem rd_M_partOf_20 : decode rc_M_partOf 20 = .ok (.aload_n 3, 1) := by decide +kernel
theorem rd_M_partOf_21 : decode rc_M_partOf 21 = .ok (.getfield 18, 3) := by decide +kernel
theorem rd_M_partOf_24 : decode rc_M_partOf 24 = .ok (.goto 7, 3) := by decide +kernel
theorem rd_M_partOf_27 : decode rc_M_partOf 27 = .ok (.aload_n 3, 1) := by decide +kernel
theorem rd_M_partOf_28 : decode rc_M_partOf 28 = .ok (.getfield 1, 3) := by decide +kernel
theorem rd_M_partOf_31 : decode rc_M_partOf 31 = .ok (.areturn, 1) := by decide +kernel
theorem rd_M_begin_0 : decode rc_M_begin 0 = .ok (.iload_n 1, 1) := by decide +kernel
theorem rd_M_begin_1 : decode rc_M_begin 1 = .ok (.invokestatic 117, 3) := by decide +kernel
theorem rd_M_begin_4 : decode rc_M_begin 4 = .ok (.ifCond .ne 5, 3) := by decide +kernel
theorem rd_M_begin_7 : decode rc_M_begin 7 = .ok (.iconst (-1), 1) := by decide +kernel
theorem rd_M_begin_8 : decode rc_M_begin 8 = .ok (.ireturn, 1) := by decide +kernel
theorem rd_M_begin_9 : decode rc_M_begin 9 = .ok (.aload_n 0, 1) := by decide +kernel
theorem rd_M_begin_10 : decode rc_M_begin 10 = .ok (.iload_n 1, 1) := by decide +kernel
theorem rd_M_begin_11 : decode rc_M_begin 11 = .ok (.invokevirtual 121, 3) := by decide +kernel
theorem rd_M_begin_14 : decode rc_M_begin 14 = .ok (.lconst 0, 1) := by decide +kernel
theorem rd_M_begin_15 : decode rc_M_begin 15 = .ok (.invokevirtual 114, 3) := by decide +kernel
theorem rd_M_begin_18 : decode rc_M_begin 18 = .ok (.iconst 0, 1) := by decide +kernel
theorem rd_M_begin_19 : decode rc_M_begin 19 = .ok (.ireturn, 1) := by decide +kernel
theorem rd_M_digit_0 : decode rc_M_digit 0 = .ok (.iload_n 1, 1) := by decide +kernel
theorem rd_M_digit_1 : decode rc_M_digit 1 = .ok (.invokestatic 117, 3) := by decide +kernel
theorem rd_M_digit_4 : decode rc_M_digit 4 = .ok (.ifCond .eq 33, 3) := by decide +kernel
theorem rd_M_digit_7 : decode rc_M_digit 7 = .ok (.iload_n 2, 1) := by decide +kernel
theorem rd_M_digit_8 : decode rc_M_digit 8 = .ok (.invokestatic 117, 3) := by decide +kernel
theorem rd_M_digit_11 : decode rc_M_digit 11 = .ok (.ifCond .eq 26, 3) := by decide +kernel
theorem rd_M_digit_14 : decode rc_M_digit 14 = .ok (.iload_n 3, 1) := by decide +kernel
theorem rd_M_digit_15 : decode rc_M_digit 15 = .ok (.iconst 1, 1) := by decide +kernel
theorem rd_M_digit_16 : decode rc_M_digit 16 = .ok (.if_icmp .lt 21, 3) := by decide +kernel
theorem rd_M_digit_19 : decode rc_M_digit 19 = .ok (.iload_n 3, 1) := by decide +kernel
theorem rd_M_digit_20 : decode rc_M_digit 20 = .ok (.ldc 125, 2) := by decide +kernel
theorem rd_M_digit_22 : decode rc_M_digit 22 = .ok (.if_icmp .gt 15, 3) := by decide +kernel
theorem rd_M_digit_25 : decode rc_M_digit 25 = .ok (.iload 4, 2) := by decide +kernel
theorem rd_M_digit_27 : decode rc_M_digit 27 = .ok (.ifCond .lt 10, 3) := by decide +kernel
theorem rd_M_digit_30 : decode rc_M_digit 30 = .ok (.iload 4, 2) := by decide +kernel
theorem rd_M_digit_32 : decode rc_M_digit 32 = .ok (.ldc 125, 2) := by decide +kernel
theorem rd_M_digit_34 : decode rc_M_digit 34 = .ok (.if_icmp .le 5, 3) := by decide +kernel
theorem rd_M_digit_37 : decode rc_M_digit 37 = .ok (.iconst (-1), 1) := by decide +kernel
theorem rd_M_digit_38 : decode rc_M_digit 38 = .ok (.ireturn, 1) := by decide +kernel
theorem rd_M_digit_39 : decode rc_M_digit 39 = .ok (.aload_n 0, 1) := by decide +kernel
theorem rd_M_digit_40 : decode rc_M_digit 40 = .ok (.iload_n 1, 1) := by decide +kernel
theorem rd_M_digit_41 : decode rc_M_digit 41 = .ok (.iload_n 2, 1) := by decide +kernel
theorem rd_M_digit_42 : decode rc_M_digit 42 = .ok (.invokevirtual 126, 3) := by decide +kernel
theorem rd_M_digit_45 : decode rc_M_digit 45 = .ok (.astore 5, 2) := by decide +kernel
theorem rd_M_digit_47 : decode rc_M_digit 47 = .ok (.aload_n 0, 1) := by decide +kernel
theorem rd_M_digit_48 : decode rc_M_digit 48 = .ok (.getfield 111, 3) := by decide +kernel
theorem rd_M_digit_51 : decode rc_M_digit 51 = .ok (.aload 5, 2) := by decide +kernel
theorem rd_M_digit_53 : decode rc_M_digit 53 = .ok (.invokevirtual 21, 3) := by decide +kernel
theorem rd_M_digit_56 : decode rc_M_digit 56 = .ok (.aload_n 0, 1) := by decide +kernel
theorem rd_M_digit_57 : decode rc_M_digit 57 = .ok (.getfield 111, 3) := by decide +kernel
theorem rd_M_digit_60 : decode rc_M_digit 60 = .ok (.iload_n 3, 1) := by decide +kernel
theorem rd_M_digit_61 : decode rc_M_digit 61 = .ok (.iload 4, 2) := by decide +kernel
theorem rd_M_digit_63 : decode rc_M_digit 63 = .ok (.invokevirtual 130, 3) := by decide +kernel
theorem rd_M_digit_66 : decode rc_M_digit 66 = .ok (.aload_n 0, 1) := by decide +kernel
theorem rd_M_digit_67 : decode rc_M_digit 67 = .ok (.getfield 111, 3) := by decide +kernel
theorem rd_M_digit_70 : decode rc_M_digit 70 = .ok (.invokevirtual 32, 3) := by decide +kernel
theorem rd_M_digit_73 : decode rc_M_digit 73 = .ok (.sipush 4800, 3) := by decide +kernel
theorem rd_M_digit_76 : decode rc_M_digit 76 = .ok (.if_icmp .le 6, 3) := by decide +kernel
theorem rd_M_digit_79 : decode rc_M_digit 79 = .ok (.bipush (-2), 2) := by decide +kernel
theorem rd_M_digit_81 : decode rc_M_digit 81 = .ok (.ireturn, 1) := by decide +kernel
theorem rd_M_digit_82 : decode rc_M_digit 82 = .ok (.aload 5, 2) := by decide +kernel
theorem rd_M_digit_84 : decode rc_M_digit 84 = .ok (.aload_n 0, 1) := by decide +kernel
theorem rd_M_digit_85 : decode rc_M_digit 85 = .ok (.getfield 111, 3) := by decide +kernel
theorem rd_M_digit_88 : decode rc_M_digit 88 = .ok (.invokevirtual 21, 3) := by decide +kernel
theorem rd_M_digit_91 : decode rc_M_digit 91 = .ok (.aload 5, 2) := by decide +kernel
theorem rd_M_digit_93 : decode rc_M_digit 93 = .ok (.invokevirtual 32, 3) := by decide +kernel
theorem rd_M_digit_96 : decode rc_M_digit 96 = .ok (.ireturn, 1) := by decide +kernel
theorem rd_M_set_0 : decode rc_M_set 0 = .ok (.iload_n 1, 1) := by decide +kernel
theorem rd_M_set_1 : decode rc_M_set 1 = .ok (.invokestatic 117, 3) := by decide +kernel
theorem rd_M_set_4 : decode rc_M_set 4 = .ok (.ifCond .eq 10, 3) := by decide +kernel
theorem rd_M_set_7 : decode rc_M_set 7 = .ok (.iload_n 2, 1) := by decide +kernel
theorem rd_M_set_8 : decode rc_M_set 8 = .ok (.invokestatic 117, 3) := by decide +kernel
theorem rd_M_set_11 : decode rc_M_set 11 = .ok (.ifCond .ne 5, 3) := by decide +kernel
theorem rd_M_set_14 : decode rc_M_set 14 = .ok (.iconst (-1), 1) := by decide +kernel
theorem rd_M_set_15 : decode rc_M_set 15 = .ok (.ireturn, 1) := by decide +kernel
theorem rd_M_set_16 : decode rc_M_set 16 = .ok (.iload_n 2, 1) := by decide +kernel
theorem rd_M_set_17 : decode rc_M_set 17 = .ok (.iconst 1, 1) := by decide +kernel
theorem rd_M_set_18 : decode rc_M_set 18 = .ok (.if_icmp .ne 12, 3) := by decide +kernel
theorem rd_M_set_21 : decode rc_M_set 21 = .ok (.lload_n 3, 1) := by decide +kernel
theorem rd_M_set_22 : decode rc_M_set 22 = .ok (.lconst 0, 1) := by decide +kernel
theorem rd_M_set_23 : decode rc_M_set 23 = .ok (.lcmp, 1) := by decide +kernel
theorem rd_M_set_24 : decode rc_M_set 24 = .ok (.ifCond .ne 6, 3) := by decide +kernel
theorem rd_M_set_27 : decode rc_M_set 27 = .ok (.bipush (-3), 2) := by decide +kernel
theorem rd_M_set_29 : decode rc_M_set 29 = .ok (.ireturn, 1) := by decide +kernel
theorem rd_M_set_30 : decode rc_M_set 30 = .ok (.aload_n 0, 1) := by decide +kernel
theorem rd_M_set_31 : decode rc_M_set 31 = .ok (.iload_n 1, 1) := by decide +kernel
theorem rd_M_set_32 : decode rc_M_set 32 = .ok (.iload_n 2, 1) := by decide +kernel
theorem rd_M_set_33 : decode rc_M_set 33 = .ok (.invokevirtual 126, 3) := by decide +kernel
theorem rd_M_set_36 : decode rc_M_set 36 = .ok (.astore 5, 2) := by decide +kernel
theorem rd_M_set_38 : decode rc_M_set 38 = .ok (.aload 5, 2) := by decide +kernel
theorem rd_M_set_40 : decode rc_M_set 40 = .ok (.lload_n 3, 1) := by decide +kernel
theorem rd_M_set_41 : decode rc_M_set 41 = .ok (.invokevirtual 134, 3) := by decide +kernel
theorem rd_M_set_44 : decode rc_M_set 44 = .ok (.aload 5, 2) := by decide +kernel
theorem rd_M_set_46 : decode rc_M_set 46 = .ok (.invokevirtual 32, 3) := by decide +kernel
theorem rd_M_set_49 : decode rc_M_set 49 = .ok (.ireturn, 1) := by decide +kernel
theorem rd_M_scale_0 : decode rc_M_scale 0 = .ok (.iload_n 1, 1) := by decide +kernel
theorem rd_M_scale_1 : decode rc_M_scale 1 = .ok (.invokestatic 117, 3) := by decide +kernel
theorem rd_M_scale_4 : decode rc_M_scale 4 = .ok (.ifCond .eq 17, 3) := by decide +kernel
theorem rd_M_scale_7 : decode rc_M_scale 7 = .ok (.iload_n 3, 1) := by decide +kernel
theorem rd_M_scale_8 : decode rc_M_scale 8 = .ok (.sipush (-12000), 3) := by decide +kernel
theorem rd_M_scale_11 : decode rc_M_scale 11 = .ok (.if_icmp .lt 10, 3) := by decide +kernel
theorem rd_M_scale_14 : decode rc_M_scale 14 = .ok (.iload_n 3, 1) := by decide +kernel
theorem rd_M_scale_15 : decode rc_M_scale 15 = .ok (.sipush 12000, 3) := by decide +kernel
theorem rd_M_scale_18 : decode rc_M_scale 18 = .ok (.if_icmp .le 5, 3) := by decide +kernel
theorem rd_M_scale_21 : decode rc_M_scale 21 = .ok (.iconst (-1), 1) := by decide +kernel
theorem rd_M_scale_22 : decode rc_M_scale 22 = .ok (.ireturn, 1) := by decide +kernel
theorem rd_M_scale_23 : decode rc_M_scale 23 = .ok (.aload_n 0, 1) := by decide +kernel
theorem rd_M_scale_24 : decode rc_M_scale 24 = .ok (.iload_n 1, 1) := by decide +kernel
theorem rd_M_scale_25 : decode rc_M_scale 25 = .ok (.invokevirtual 121, 3) := by decide +kernel
theorem rd_M_scale_28 : decode rc_M_scale 28 = .ok (.astore 4, 2) := by decide +kernel
theorem rd_M_scale_30 : decode rc_M_scale 30 = .ok (.aload 4, 2) := by decide +kernel
theorem rd_M_scale_32 : decode rc_M_scale 32 = .ok (.iload_n 2, 1) := by decide +kernel
theorem rd_M_scale_33 : decode rc_M_scale 33 = .ok (.putfield 86, 3) := by decide +kernel
theorem rd_M_scale_36 : decode rc_M_scale 36 = .ok (.aload 4, 2) := by decide +kernel
theorem rd_M_scale_38 : decode rc_M_scale 38 = .ok (.iload_n 3, 1) := by decide +kernel
theorem rd_M_scale_39 : decode rc_M_scale 39 = .ok (.putfield 36, 3) := by decide +kernel
theorem rd_M_scale_42 : decode rc_M_scale 42 = .ok (.iconst 0, 1) := by decide +kernel
theorem rd_M_scale_43 : decode rc_M_scale 43 = .ok (.ireturn, 1) := by decide +kernel
theorem rd_M_turn_0 : decode rc_M_turn 0 = .ok (.iload_n 1, 1) := by decide +kernel
theorem rd_M_turn_1 : decode rc_M_turn 1 = .ok (.invokestatic 117, 3) := by decide +kernel
theorem rd_M_turn_4 : decode rc_M_turn 4 = .ok (.ifCond .ne 5, 3) := by decide +kernel
theorem rd_M_turn_7 : decode rc_M_turn 7 = .ok (.iconst (-1), 1) := by decide +kernel
theorem rd_M_turn_8 : decode rc_M_turn 8 = .ok (.ireturn, 1) := by decide +kernel
theorem rd_M_turn_9 : decode rc_M_turn 9 = .ok (.aload_n 0, 1) := by decide +kernel
theorem rd_M_turn_10 : decode rc_M_turn 10 = .ok (.iload_n 1, 1) := by decide +kernel
