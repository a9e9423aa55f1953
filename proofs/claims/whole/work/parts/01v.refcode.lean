theorem rd_B_product_100 : decode rc_B_product 100 = .ok (.i2l, 1) := by decide +kernel
theorem rd_B_product_101 : decode rc_B_product 101 = .ok (.lmul, 1) := by decide +kernel
theorem rd_B_product_102 : decode rc_B_product 102 = .ok (.aload_n 0, 1) := by decide +kernel
theorem rd_B_product_103 : decode rc_B_product 103 = .ok (.getfield 7, 3) := by decide +kernel
theorem rd_B_product_106 : decode rc_B_product 106 = .ok (.iload_n 3, 1) := by decide +kernel
theorem rd_B_product_107 : decode rc_B_product 107 = .ok (.iload 6, 2) := by decide +kernel
theorem rd_B_product_109 : decode rc_B_product 109 = .ok (.iadd, 1) := by decide +kernel
theorem rd_B_product_110 : decode rc_B_product 110 = .ok (.iaload, 1) := by decide +kernel
theorem rd_B_product_111 : decode rc_B_product 111 = .ok (.i2l, 1) := by decide +kernel
theorem rd_B_product_112 : decode rc_B_product 112 = .ok (.ladd, 1) := by decide +kernel
theorem rd_B_product_113 : decode rc_B_product 113 = .ok (.lload 4, 2) := by decide +kernel
theorem rd_B_product_115 : decode rc_B_product 115 = .ok (.ladd, 1) := by decide +kernel
theorem rd_B_product_116 : decode rc_B_product 116 = .ok (.lstore 7, 2) := by decide +kernel
theorem rd_B_product_118 : decode rc_B_product 118 = .ok (.aload_n 0, 1) := by decide +kernel
theorem rd_B_product_119 : decode rc_B_product 119 = .ok (.getfield 7, 3) := by decide +kernel
theorem rd_B_product_122 : decode rc_B_product 122 = .ok (.iload_n 3, 1) := by decide +kernel
theorem rd_B_product_123 : decode rc_B_product 123 = .ok (.iload 6, 2) := by decide +kernel
theorem rd_B_product_125 : decode rc_B_product 125 = .ok (.iadd, 1) := by decide +kernel
theorem rd_B_product_126 : decode rc_B_product 126 = .ok (.lload 7, 2) := by decide +kernel
theorem rd_B_product_128 : decode rc_B_product 128 = .ok (.ldc2_w 17, 3) := by decide +kernel
theorem rd_B_product_131 : decode rc_B_product 131 = .ok (.land, 1) := by decide +kernel
theorem rd_B_product_132 : decode rc_B_product 132 = .ok (.l2i, 1) := by decide +kernel
theorem rd_B_product_133 : decode rc_B_product 133 = .ok (.iastore, 1) := by decide +kernel
theorem rd_B_product_134 : decode rc_B_product 134 = .ok (.lload 7, 2) := by decide +kernel
theorem rd_B_product_136 : decode rc_B_product 136 = .ok (.bipush 16, 2) := by decide +kernel
theorem rd_B_product_138 : decode rc_B_product 138 = .ok (.lshr, 1) := by decide +kernel
theorem rd_B_product_139 : decode rc_B_product 139 = .ok (.lstore 4, 2) := by decide +kernel
theorem rd_B_product_141 : decode rc_B_product 141 = .ok (.iinc 6 1, 3) := by decide +kernel
theorem rd_B_product_144 : decode rc_B_product 144 = .ok (.goto (-67), 3) := by decide +kernel
theorem rd_B_product_147 : decode rc_B_product 147 = .ok (.aload_n 0, 1) := by decide +kernel
theorem rd_B_product_148 : decode rc_B_product 148 = .ok (.getfield 7, 3) := by decide +kernel
theorem rd_B_product_151 : decode rc_B_product 151 = .ok (.iload_n 3, 1) := by decide +kernel
theorem rd_B_product_152 : decode rc_B_product 152 = .ok (.aload_n 2, 1) := by decide +kernel
theorem rd_B_product_153 : decode rc_B_product 153 = .ok (.getfield 13, 3) := by decide +kernel
theorem rd_B_product_156 : decode rc_B_product 156 = .ok (.iadd, 1) := by decide +kernel
theorem rd_B_product_157 : decode rc_B_product 157 = .ok (.lload 4, 2) := by decide +kernel
theorem rd_B_product_159 : decode rc_B_product 159 = .ok (.l2i, 1) := by decide +kernel
theorem rd_B_product_160 : decode rc_B_product 160 = .ok (.iastore, 1) := by decide +kernel
theorem rd_B_product_161 : decode rc_B_product 161 = .ok (.iinc 3 1, 3) := by decide +kernel
theorem rd_B_product_164 : decode rc_B_product 164 = .ok (.goto (-108), 3) := by decide +kernel
theorem rd_B_product_167 : decode rc_B_product 167 = .ok (.aload_n 0, 1) := by decide +kernel
theorem rd_B_product_168 : decode rc_B_product 168 = .ok (.invokevirtual 19, 3) := by decide +kernel
theorem rd_B_product_171 : decode rc_B_product 171 = .ok (.return_, 1) := by decide +kernel
theorem rd_B_trim_0 : decode rc_B_trim 0 = .ok (.aload_n 0, 1) := by decide +kernel
theorem rd_B_trim_1 : decode rc_B_trim 1 = .ok (.getfield 13, 3) := by decide +kernel
theorem rd_B_trim_4 : decode rc_B_trim 4 = .ok (.ifCond .le 30, 3) := by decide +kernel
theorem rd_B_trim_7 : decode rc_B_trim 7 = .ok (.aload_n 0, 1) := by decide +kernel
theorem rd_B_trim_8 : decode rc_B_trim 8 = .ok (.getfield 7, 3) := by decide +kernel
theorem rd_B_trim_11 : decode rc_B_trim 11 = .ok (.aload_n 0, 1) := by decide +kernel
theorem rd_B_trim_12 : decode rc_B_trim 12 = .ok (.getfield 13, 3) := by decide +kernel
theorem rd_B_trim_15 : decode rc_B_trim 15 = .ok (.iconst 1, 1) := by decide +kernel
theorem rd_B_trim_16 : decode rc_B_trim 16 = .ok (.isub, 1) := by decide +kernel
theorem rd_B_trim_17 : decode rc_B_trim 17 = .ok (.iaload, 1) := by decide +kernel
theorem rd_B_trim_18 : decode rc_B_trim 18 = .ok (.ifCond .ne 16, 3) := by decide +kernel
theorem rd_B_trim_21 : decode rc_B_trim 21 = .ok (.aload_n 0, 1) := by decide +kernel
theorem rd_B_trim_22 : decode rc_B_trim 22 = .ok (.dup, 1) := by decide +kernel
theorem rd_B_trim_23 : decode rc_B_trim 23 = .ok (.getfield 13, 3) := by decide +kernel
theorem rd_B_trim_26 : decode rc_B_trim 26 = .ok (.iconst 1, 1) := by decide +kernel
theorem rd_B_trim_27 : decode rc_B_trim 27 = .ok (.isub, 1) := by decide +kernel
theorem rd_B_trim_28 : decode rc_B_trim 28 = .ok (.putfield 13, 3) := by decide +kernel
theorem rd_B_trim_31 : decode rc_B_trim 31 = .ok (.goto (-31), 3) := by decide +kernel
theorem rd_B_trim_34 : decode rc_B_trim 34 = .ok (.return_, 1) := by decide +kernel
theorem rd_B_shift_0 : decode rc_B_shift 0 = .ok (.iload_n 1, 1) := by decide +kernel
theorem rd_B_shift_1 : decode rc_B_shift 1 = .ok (.bipush 16, 2) := by decide +kernel
theorem rd_B_shift_3 : decode rc_B_shift 3 = .ok (.idiv, 1) := by decide +kernel
theorem rd_B_shift_4 : decode rc_B_shift 4 = .ok (.istore_n 2, 1) := by decide +kernel
theorem rd_B_shift_5 : decode rc_B_shift 5 = .ok (.iload_n 1, 1) := by decide +kernel
theorem rd_B_shift_6 : decode rc_B_shift 6 = .ok (.bipush 16, 2) := by decide +kernel
theorem rd_B_shift_8 : decode rc_B_shift 8 = .ok (.irem, 1) := by decide +kernel
theorem rd_B_shift_9 : decode rc_B_shift 9 = .ok (.istore_n 3, 1) := by decide +kernel
theorem rd_B_shift_10 : decode rc_B_shift 10 = .ok (.aload_n 0, 1) := by decide +kernel
theorem rd_B_shift_11 : decode rc_B_shift 11 = .ok (.getfield 13, 3) := by decide +kernel
theorem rd_B_shift_14 : decode rc_B_shift 14 = .ok (.ifCond .ne 4, 3) := by decide +kernel
theorem rd_B_shift_17 : decode rc_B_shift 17 = .ok (.return_, 1) := by decide +kernel
theorem rd_B_shift_18 : decode rc_B_shift 18 = .ok (.aload_n 0, 1) := by decide +kernel
theorem rd_B_shift_19 : decode rc_B_shift 19 = .ok (.getfield 13, 3) := by decide +kernel
theorem rd_B_shift_22 : decode rc_B_shift 22 = .ok (.iconst 1, 1) := by decide +kernel
theorem rd_B_shift_23 : decode rc_B_shift 23 = .ok (.isub, 1) := by decide +kernel
theorem rd_B_shift_24 : decode rc_B_shift 24 = .ok (.istore 4, 2) := by decide +kernel
theorem rd_B_shift_26 : decode rc_B_shift 26 = .ok (.iload 4, 2) := by decide +kernel
theorem rd_B_shift_28 : decode rc_B_shift 28 = .ok (.ifCond .lt 25, 3) := by decide +kernel
theorem rd_B_shift_31 : decode rc_B_shift 31 = .ok (.aload_n 0, 1) := by decide +kernel
theorem rd_B_shift_32 : decode rc_B_shift 32 = .ok (.getfield 7, 3) := by decide +kernel
theorem rd_B_shift_35 : decode rc_B_shift 35 = .ok (.iload 4, 2) := by decide +kernel
theorem rd_B_shift_37 : decode rc_B_shift 37 = .ok (.iload_n 2, 1) := by decide +kernel
theorem rd_B_shift_38 : decode rc_B_shift 38 = .ok (.iadd, 1) := by decide +kernel
theorem rd_B_shift_39 : decode rc_B_shift 39 = .ok (.aload_n 0, 1) := by decide +kernel
theorem rd_B_shift_40 : decode rc_B_shift 40 = .ok (.getfield 7, 3) := by decide +kernel
theorem rd_B_shift_43 : decode rc_B_shift 43 = .ok (.iload 4, 2) := by decide +kernel
theorem rd_B_shift_45 : decode rc_B_shift 45 = .ok (.iaload, 1) := by decide +kernel
theorem rd_B_shift_46 : decode rc_B_shift 46 = .ok (.iastore, 1) := by decide +kernel
theorem rd_B_shift_47 : decode rc_B_shift 47 = .ok (.iinc 4 (-1), 3) := by decide +kernel
theorem rd_B_shift_50 : decode rc_B_shift 50 = .ok (.goto (-24), 3) := by decide +kernel
theorem rd_B_shift_53 : decode rc_B_shift 53 = .ok (.iconst 0, 1) := by decide +kernel
theorem rd_B_shift_54 : decode rc_B_shift 54 = .ok (.istore 4, 2) := by decide +kernel
theorem rd_B_shift_56 : decode rc_B_shift 56 = .ok (.iload 4, 2) := by decide +kernel
theorem rd_B_shift_58 : decode rc_B_shift 58 = .ok (.iload_n 2, 1) := by decide +kernel
theorem rd_B_shift_59 : decode rc_B_shift 59 = .ok (.if_icmp .ge 17, 3) := by decide +kernel
theorem rd_B_shift_62 : decode rc_B_shift 62 = .ok (.aload_n 0, 1) := by decide +kernel
theorem rd_B_shift_63 : decode rc_B_shift 63 = .ok (.getfield 7, 3) := by decide +kernel
theorem rd_B_shift_66 : decode rc_B_shift 66 = .ok (.iload 4, 2) := by decide +kernel
theorem rd_B_shift_68 : decode rc_B_shift 68 = .ok (.iconst 0, 1) := by decide +kernel
theorem rd_B_shift_69 : decode rc_B_shift 69 = .ok (.iastore, 1) := by decide +kernel
theorem rd_B_shift_70 : decode rc_B_shift 70 = .ok (.iinc 4 1, 3) := by decide +kernel
theorem rd_B_shift_73 : decode rc_B_shift 73 = .ok (.goto (-17), 3) := by decide +kernel
theorem rd_B_shift_76 : decode rc_B_shift 76 = .ok (.aload_n 0, 1) := by decide +kernel
theorem rd_B_shift_77 : decode rc_B_shift 77 = .ok (.aload_n 0, 1) := by decide +kernel
theorem rd_B_shift_78 : decode rc_B_shift 78 = .ok (.getfield 13, 3) := by decide +kernel
theorem rd_B_shift_81 : decode rc_B_shift 81 = .ok (.iload_n 2, 1) := by decide +kernel
theorem rd_B_shift_82 : decode rc_B_shift 82 = .ok (.iadd, 1) := by decide +kernel
theorem rd_B_shift_83 : decode rc_B_shift 83 = .ok (.putfield 13, 3) := by decide +kernel
theorem rd_B_shift_86 : decode rc_B_shift 86 = .ok (.aload_n 0, 1) := by decide +kernel
theorem rd_B_shift_87 : decode rc_B_shift 87 = .ok (.iconst 1, 1) := by decide +kernel
theorem rd_B_shift_88 : decode rc_B_shift 88 = .ok (.iload_n 3, 1) := by decide +kernel
theorem rd_B_shift_89 : decode rc_B_shift 89 = .ok (.ishl, 1) := by decide +kernel
theorem rd_B_shift_90 : decode rc_B_shift 90 = .ok (.iconst 0, 1) := by decide +kernel
theorem rd_B_shift_91 : decode rc_B_shift 91 = .ok (.invokevirtual 22, 3) := by decide +kernel
theorem rd_B_shift_94 : decode rc_B_shift 94 = .ok (.return_, 1) := by decide +kernel
theorem rd_B_compare_0 : decode rc_B_compare 0 = .ok (.aload_n 0, 1) := by decide +kernel
theorem rd_B_compare_1 : decode rc_B_compare 1 = .ok (.getfield 13, 3) := by decide +kernel
theorem rd_B_compare_4 : decode rc_B_compare 4 = .ok (.aload_n 1, 1) := by decide +kernel
theorem rd_B_compare_5 : decode rc_B_compare 5 = .ok (.getfield 13, 3) := by decide +kernel
theorem rd_B_compare_8 : decode rc_B_compare 8 = .ok (.if_icmp .eq 20, 3) := by decide +kernel
theorem rd_B_compare_11 : decode rc_B_compare 11 = .ok (.aload_n 0, 1) := by decide +kernel
theorem rd_B_compare_12 : decode rc_B_compare 12 = .ok (.getfield 13, 3) := by decide +kernel
theorem rd_B_compare_15 : decode rc_B_compare 15 = .ok (.aload_n 1, 1) := by decide +kernel
theorem rd_B_compare_16 : decode rc_B_compare 16 = .ok (.getfield 13, 3) := by decide +kernel
theorem rd_B_compare_19 : decode rc_B_compare 19 = .ok (.if_icmp .ge 7, 3) := by decide +kernel
theorem rd_B_compare_22 : decode rc_B_compare 22 = .ok (.iconst (-1), 1) := by decide +kernel
theorem rd_B_compare_23 : decode rc_B_compare 23 = .ok (.goto 4, 3) := by decide +kernel
theorem rd_B_compare_26 : decode rc_B_compare 26 = .ok (.iconst 1, 1) := by decide +kernel
theorem rd_B_compare_27 : decode rc_B_compare 27 = .ok (.ireturn, 1) := by decide +kernel
theorem rd_B_compare_28 : decode rc_B_compare 28 = .ok (.aload_n 0, 1) := by decide +kernel
theorem rd_B_compare_29 : decode rc_B_compare 29 = .ok (.getfield 13, 3) := by decide +kernel
theorem rd_B_compare_32 : decode rc_B_compare 32 = .ok (.iconst 1, 1) := by decide +kernel
theorem rd_B_compare_33 : decode rc_B_compare 33 = .ok (.isub, 1) := by decide +kernel
theorem rd_B_compare_34 : decode rc_B_compare 34 = .ok (.istore_n 2, 1) := by decide +kernel
theorem rd_B_compare_35 : decode rc_B_compare 35 = .ok (.iload_n 2, 1) := by decide +kernel
theorem rd_B_compare_36 : decode rc_B_compare 36 = .ok (.ifCond .lt 45, 3) := by decide +kernel
theorem rd_B_compare_39 : decode rc_B_compare 39 = .ok (.aload_n 0, 1) := by decide +kernel
theorem rd_B_compare_40 : decode rc_B_compare 40 = .ok (.getfield 7, 3) := by decide +kernel
theorem rd_B_compare_43 : decode rc_B_compare 43 = .ok (.iload_n 2, 1) := by decide +kernel
theorem rd_B_compare_44 : decode rc_B_compare 44 = .ok (.iaload, 1) := by decide +kernel
theorem rd_B_compare_45 : decode rc_B_compare 45 = .ok (.aload_n 1, 1) := by decide +kernel
theorem rd_B_compare_46 : decode rc_B_compare 46 = .ok (.getfield 7, 3) := by decide +kernel
theorem rd_B_compare_49 : decode rc_B_compare 49 = .ok (.iload_n 2, 1) := by decide +kernel
theorem rd_B_compare_50 : decode rc_B_compare 50 = .ok (.iaload, 1) := by decide +kernel
theorem rd_B_compare_51 : decode rc_B_compare 51 = .ok (.if_icmp .eq 24, 3) := by decide +kernel
theorem rd_B_compare_54 : decode rc_B_compare 54 = .ok (.aload_n 0, 1) := by decide +kernel
theorem rd_B_compare_55 : decode rc_B_compare 55 = .ok (.getfield 7, 3) := by decide +kernel
theorem rd_B_compare_58 : decode rc_B_compare 58 = .ok (.iload_n 2, 1) := by decide +kernel
theorem rd_B_compare_59 : decode rc_B_compare 59 = .ok (.iaload, 1) := by decide +kernel
theorem rd_B_compare_60 : decode rc_B_compare 60 = .ok (.aload_n 1, 1) := by decide +kernel
theorem rd_B_compare_61 : decode rc_B_compare 61 = .ok (.getfield 7, 3) := by decide +kernel
theorem rd_B_compare_64 : decode rc_B_compare 64 = .ok (.iload_n 2, 1) := by decide +kernel
theorem rd_B_compare_65 : decode rc_B_compare 65 = .ok (.iaload, 1) := by decide +kernel
theorem rd_B_compare_66 : decode rc_B_compare 66 = .ok (.if_icmp .ge 7, 3) := by decide +kernel
theorem rd_B_compare_69 : decode rc_B_compare 69 = .ok (.iconst (-1), 1) := by decide +kernel
theorem rd_B_compare_70 : decode rc_B_compare 70 = .ok (.goto 4, 3) := by decide +kernel
theorem rd_B_compare_73 : decode rc_B_compare 73 = .ok (.iconst 1, 1) := by decide +kernel
theorem rd_B_compare_74 : decode rc_B_compare 74 = .ok (.ireturn, 1) := by decide +kernel
theorem rd_B_compare_75 : decode rc_B_compare 75 = .ok (.iinc 2 (-1), 3) := by decide +kernel
theorem rd_B_compare_78 : decode rc_B_compare 78 = .ok (.goto (-43), 3) := by decide +kernel
theorem rd_B_compare_81 : decode rc_B_compare 81 = .ok (.iconst 0, 1) := by decide +kernel
theorem rd_B_compare_82 : decode rc_B_compare 82 = .ok (.ireturn, 1) := by decide +kernel
theorem rd_B_add_0 : decode rc_B_add 0 = .ok (.iconst 0, 1) := by decide +kernel
theorem rd_B_add_1 : decode rc_B_add 1 = .ok (.istore_n 2, 1) := by decide +kernel
theorem rd_B_add_2 : decode rc_B_add 2 = .ok (.iconst 0, 1) := by decide +kernel
theorem rd_B_add_3 : decode rc_B_add 3 = .ok (.istore_n 3, 1) := by decide +kernel
theorem rd_B_add_4 : decode rc_B_add 4 = .ok (.iload_n 3, 1) := by decide +kernel
theorem rd_B_add_5 : decode rc_B_add 5 = .ok (.aload_n 1, 1) := by decide +kernel
theorem rd_B_add_6 : decode rc_B_add 6 = .ok (.getfield 13, 3) := by decide +kernel
theorem rd_B_add_9 : decode rc_B_add 9 = .ok (.if_icmp .lt 7, 3) := by decide +kernel
theorem rd_B_add_12 : decode rc_B_add 12 = .ok (.iload_n 2, 1) := by decide +kernel
theorem rd_B_add_13 : decode rc_B_add 13 = .ok (.ifCond .le 89, 3) := by decide +kernel
theorem rd_B_add_16 : decode rc_B_add 16 = .ok (.iload_n 3, 1) := by decide +kernel
theorem rd_B_add_17 : decode rc_B_add 17 = .ok (.aload_n 0, 1) := by decide +kernel
theorem rd_B_add_18 : decode rc_B_add 18 = .ok (.getfield 13, 3) := by decide +kernel
theorem rd_B_add_21 : decode rc_B_add 21 = .ok (.if_icmp .ge 12, 3) := by decide +kernel
theorem rd_B_add_24 : decode rc_B_add 24 = .ok (.aload_n 0, 1) := by decide +kernel
theorem rd_B_add_25 : decode rc_B_add 25 = .ok (.getfield 7, 3) := by decide +kernel
theorem rd_B_add_28 : decode rc_B_add 28 = .ok (.iload_n 3, 1) := by decide +kernel
theorem rd_B_add_29 : decode rc_B_add 29 = .ok (.iaload, 1) := by decide +kernel
theorem rd_B_add_30 : decode rc_B_add 30 = .ok (.goto 4, 3) := by decide +kernel
theorem rd_B_add_33 : decode rc_B_add 33 = .ok (.iconst 0, 1) := by decide +kernel
theorem rd_B_add_34 : decode rc_B_add 34 = .ok (.iload_n 3, 1) := by decide +kernel
theorem rd_B_add_35 : decode rc_B_add 35 = .ok (.aload_n 1, 1) := by decide +kernel
theorem rd_B_add_36 : decode rc_B_add 36 = .ok (.getfield 13, 3) := by decide +kernel
theorem rd_B_add_39 : decode rc_B_add 39 = .ok (.if_icmp .ge 12, 3) := by decide +kernel
theorem rd_B_add_42 : decode rc_B_add 42 = .ok (.aload_n 1, 1) := by decide +kernel
theorem rd_B_add_43 : decode rc_B_add 43 = .ok (.getfield 7, 3) := by decide +kernel
theorem rd_B_add_46 : decode rc_B_add 46 = .ok (.iload_n 3, 1) := by decide +kernel
theorem rd_B_add_47 : decode rc_B_add 47 = .ok (.iaload, 1) := by decide +kernel
theorem rd_B_add_48 : decode rc_B_add 48 = .ok (.goto 4, 3) := by decide +kernel
theorem rd_B_add_51 : decode rc_B_add 51 = .ok (.iconst 0, 1) := by decide +kernel
theorem rd_B_add_52 : decode rc_B_add 52 = .ok (.iadd, 1) := by decide +kernel
theorem rd_B_add_53 : decode rc_B_add 53 = .ok (.iload_n 2, 1) := by decide +kernel
theorem rd_B_add_54 : decode rc_B_add 54 = .ok (.iadd, 1) := by decide +kernel
theorem rd_B_add_55 : decode rc_B_add 55 = .ok (.istore 4, 2) := by decide +kernel
theorem rd_B_add_57 : decode rc_B_add 57 = .ok (.aload_n 0, 1) := by decide +kernel
theorem rd_B_add_58 : decode rc_B_add 58 = .ok (.iload_n 3, 1) := by decide +kernel
theorem rd_B_add_59 : decode rc_B_add 59 = .ok (.aload_n 0, 1) := by decide +kernel
theorem rd_B_add_60 : decode rc_B_add 60 = .ok (.getfield 13, 3) := by decide +kernel
theorem rd_B_add_63 : decode rc_B_add 63 = .ok (.if_icmp .ge 10, 3) := by decide +kernel
theorem rd_B_add_66 : decode rc_B_add 66 = .ok (.aload_n 0, 1) := by decide +kernel
theorem rd_B_add_67 : decode rc_B_add 67 = .ok (.getfield 13, 3) := by decide +kernel
theorem rd_B_add_70 : decode rc_B_add 70 = .ok (.goto 6, 3) := by decide +kernel
theorem rd_B_add_73 : decode rc_B_add 73 = .ok (.iload_n 3, 1) := by decide +kernel
theorem rd_B_add_74 : decode rc_B_add 74 = .ok (.iconst 1, 1) := by decide +kernel
theorem rd_B_add_75 : decode rc_B_add 75 = .ok (.iadd, 1) := by decide +kernel
theorem rd_B_add_76 : decode rc_B_add 76 = .ok (.putfield 13, 3) := by decide +kernel
theorem rd_B_add_79 : decode rc_B_add 79 = .ok (.aload_n 0, 1) := by decide +kernel
theorem rd_B_add_80 : decode rc_B_add 80 = .ok (.getfield 7, 3) := by decide +kernel
theorem rd_B_add_83 : decode rc_B_add 83 = .ok (.iload_n 3, 1) := by decide +kernel
theorem rd_B_add_84 : decode rc_B_add 84 = .ok (.iload 4, 2) := by decide +kernel
theorem rd_B_add_86 : decode rc_B_add 86 = .ok (.ldc 26, 2) := by decide +kernel
theorem rd_B_add_88 : decode rc_B_add 88 = .ok (.iand, 1) := by decide +kernel
theorem rd_B_add_89 : decode rc_B_add 89 = .ok (.iastore, 1) := by decide +kernel
theorem rd_B_add_90 : decode rc_B_add 90 = .ok (.iload 4, 2) := by decide +kernel
theorem rd_B_add_92 : decode rc_B_add 92 = .ok (.bipush 16, 2) := by decide +kernel
theorem rd_B_add_94 : decode rc_B_add 94 = .ok (.ishr, 1) := by decide +kernel
theorem rd_B_add_95 : decode rc_B_add 95 = .ok (.istore_n 2, 1) := by decide +kernel
theorem rd_B_add_96 : decode rc_B_add 96 = .ok (.iinc 3 1, 3) := by decide +kernel
theorem rd_B_add_99 : decode rc_B_add 99 = .ok (.goto (-95), 3) := by decide +kernel
theorem rd_B_add_102 : decode rc_B_add 102 = .ok (.return_, 1) := by decide +kernel
theorem rd_B_subtract_0 : decode rc_B_subtract 0 = .ok (.iconst 0, 1) := by decide +kernel
theorem rd_B_subtract_1 : decode rc_B_subtract 1 = .ok (.istore_n 2, 1) := by decide +kernel
theorem rd_B_subtract_2 : decode rc_B_subtract 2 = .ok (.iconst 0, 1) := by decide +kernel
theorem rd_B_subtract_3 : decode rc_B_subtract 3 = .ok (.istore_n 3, 1) := by decide +kernel
theorem rd_B_subtract_4 : decode rc_B_subtract 4 = .ok (.iload_n 3, 1) := by decide +kernel
theorem rd_B_subtract_5 : decode rc_B_subtract 5 = .ok (.aload_n 0, 1) := by decide +kernel
theorem rd_B_subtract_6 : decode rc_B_subtract 6 = .ok (.getfield 13, 3) := by decide +kernel
theorem rd_B_subtract_9 : decode rc_B_subtract 9 = .ok (.if_icmp .ge 60, 3) := by decide +kernel
theorem rd_B_subtract_12 : decode rc_B_subtract 12 = .ok (.aload_n 0, 1) := by decide +kernel
theorem rd_B_subtract_13 : decode rc_B_subtract 13 = .ok (.getfield 7, 3) := by decide +kernel
theorem rd_B_subtract_16 : decode rc_B_subtract 16 = .ok (.iload_n 3, 1) := by decide +kernel
theorem rd_B_subtract_17 : decode rc_B_subtract 17 = .ok (.iaload, 1) := by decide +kernel
theorem rd_B_subtract_18 : decode rc_B_subtract 18 = .ok (.iload_n 3, 1) := by decide +kernel
theorem rd_B_subtract_19 : decode rc_B_subtract 19 = .ok (.aload_n 1, 1) := by decide +kernel
theorem rd_B_subtract_20 : decode rc_B_subtract 20 = .ok (.getfield 13, 3) := by decide +kernel
theorem rd_B_subtract_23 : decode rc_B_subtract 23 = .ok (.if_icmp .ge 12, 3) := by decide +kernel
theorem rd_B_subtract_26 : decode rc_B_subtract 26 = .ok (.aload_n 1, 1) := by decide +kernel
theorem rd_B_subtract_27 : decode rc_B_subtract 27 = .ok (.getfield 7, 3) := by decide +kernel
theorem rd_B_subtract_30 : decode rc_B_subtract 30 = .ok (.iload_n 3, 1) := by decide +kernel
theorem rd_B_subtract_31 : decode rc_B_subtract 31 = .ok (.iaload, 1) := by decide +kernel
theorem rd_B_subtract_32 : decode rc_B_subtract 32 = .ok (.goto 4, 3) := by decide +kernel
theorem rd_B_subtract_35 : decode rc_B_subtract 35 = .ok (.iconst 0, 1) := by decide +kernel
theorem rd_B_subtract_36 : decode rc_B_subtract 36 = .ok (.isub, 1) := by decide +kernel
theorem rd_B_subtract_37 : decode rc_B_subtract 37 = .ok (.iload_n 2, 1) := by decide +kernel
theorem rd_B_subtract_38 : decode rc_B_subtract 38 = .ok (.isub, 1) := by decide +kernel
theorem rd_B_subtract_39 : decode rc_B_subtract 39 = .ok (.istore 4, 2) := by decide +kernel
theorem rd_B_subtract_41 : decode rc_B_subtract 41 = .ok (.aload_n 0, 1) := by decide +kernel
theorem rd_B_subtract_42 : decode rc_B_subtract 42 = .ok (.getfield 7, 3) := by decide +kernel
theorem rd_B_subtract_45 : decode rc_B_subtract 45 = .ok (.iload_n 3, 1) := by decide +kernel
theorem rd_B_subtract_46 : decode rc_B_subtract 46 = .ok (.iload 4, 2) := by decide +kernel
theorem rd_B_subtract_48 : decode rc_B_subtract 48 = .ok (.ldc 26, 2) := by decide +kernel
theorem rd_B_subtract_50 : decode rc_B_subtract 50 = .ok (.iand, 1) := by decide +kernel
theorem rd_B_subtract_51 : decode rc_B_subtract 51 = .ok (.iastore, 1) := by decide +kernel
theorem rd_B_subtract_52 : decode rc_B_subtract 52 = .ok (.iload 4, 2) := by decide +kernel
theorem rd_B_subtract_54 : decode rc_B_subtract 54 = .ok (.ifCond .ge 7, 3) := by decide +kernel
theorem rd_B_subtract_57 : decode rc_B_subtract 57 = .ok (.iconst 1, 1) := by decide +kernel
theorem rd_B_subtract_58 : decode rc_B_subtract 58 = .ok (.goto 4, 3) := by decide +kernel
theorem rd_B_subtract_61 : decode rc_B_subtract 61 = .ok (.iconst 0, 1) := by decide +kernel
theorem rd_B_subtract_62 : decode rc_B_subtract 62 = .ok (.istore_n 2, 1) := by decide +kernel
theorem rd_B_subtract_63 : decode rc_B_subtract 63 = .ok (.iinc 3 1, 3) := by decide +kernel
theorem rd_B_subtract_66 : decode rc_B_subtract 66 = .ok (.goto (-62), 3) := by decide +kernel
theorem rd_B_subtract_69 : decode rc_B_subtract 69 = .ok (.aload_n 0, 1) := by decide +kernel
theorem rd_B_subtract_70 : decode rc_B_subtract 70 = .ok (.invokevirtual 19, 3) := by decide +kernel
theorem rd_B_subtract_73 : decode rc_B_subtract 73 = .ok (.return_, 1) := by decide +kernel
theorem rd_N_init_0 : decode rc_N_init 0 = .ok (.aload_n 0, 1) := by decide +kernel
theorem rd_N_init_1 : decode rc_N_init 1 = .ok (.invokespecial 1, 3) := by decide +kernel
theorem rd_N_init_4 : decode rc_N_init 4 = .ok (.aload_n 0, 1) := by decide +kernel
theorem rd_N_init_5 : decode rc_N_init 5 = .ok (.new 7, 3) := by decide +kernel
theorem rd_N_init_8 : decode rc_N_init 8 = .ok (.dup, 1) := by decide +kernel
theorem rd_N_init_9 : decode rc_N_init 9 = .ok (.invokespecial 9, 3) := by decide +kernel
theorem rd_N_init_12 : decode rc_N_init 12 = .ok (.putfield 10, 3) := by decide +kernel
theorem rd_N_init_15 : decode rc_N_init 15 = .ok (.aload_n 0, 1) := by decide +kernel
theorem rd_N_init_16 : decode rc_N_init 16 = .ok (.new 7, 3) := by decide +kernel
theorem rd_N_init_19 : decode rc_N_init 19 = .ok (.dup, 1) := by decide +kernel
theorem rd_N_init_20 : decode rc_N_init 20 = .ok (.invokespecial 9, 3) := by decide +kernel
theorem rd_N_init_23 : decode rc_N_init 23 = .ok (.putfield 16, 3) := by decide +kernel
theorem rd_N_init_26 : decode rc_N_init 26 = .ok (.return_, 1) := by decide +kernel
theorem rd_N_set_0 : decode rc_N_set 0 = .ok (.aload_n 0, 1) := by decide +kernel
theorem rd_N_set_1 : decode rc_N_set 1 = .ok (.lload_n 1, 1) := by decide +kernel
theorem rd_N_set_2 : decode rc_N_set 2 = .ok (.lconst 0, 1) := by decide +kernel
theorem rd_N_set_3 : decode rc_N_set 3 = .ok (.lcmp, 1) := by decide +kernel
theorem rd_N_set_4 : decode rc_N_set 4 = .ok (.ifCond .ge 7, 3) := by decide +kernel
theorem rd_N_set_7 : decode rc_N_set 7 = .ok (.iconst 1, 1) := by decide +kernel
theorem rd_N_set_8 : decode rc_N_set 8 = .ok (.goto 4, 3) := by decide +kernel
theorem rd_N_set_11 : decode rc_N_set 11 = .ok (.iconst 0, 1) := by decide +kernel
theorem rd_N_set_12 : decode rc_N_set 12 = .ok (.putfield 19, 3) := by decide +kernel
theorem rd_N_set_15 : decode rc_N_set 15 = .ok (.aload_n 0, 1) := by decide +kernel
theorem rd_N_set_16 : decode rc_N_set 16 = .ok (.getfield 10, 3) := by decide +kernel
theorem rd_N_set_19 : decode rc_N_set 19 = .ok (.lload_n 1, 1) := by decide +kernel
theorem rd_N_set_20 : decode rc_N_set 20 = .ok (.lconst 0, 1) := by decide +kernel
theorem rd_N_set_21 : decode rc_N_set 21 = .ok (.lcmp, 1) := by decide +kernel
theorem rd_N_set_22 : decode rc_N_set 22 = .ok (.ifCond .ge 8, 3) := by decide +kernel
theorem rd_N_set_25 : decode rc_N_set 25 = .ok (.lload_n 1, 1) := by decide +kernel
theorem rd_N_set_26 : decode rc_N_set 26 = .ok (.lneg, 1) := by decide +kernel
theorem rd_N_set_27 : decode rc_N_set 27 = .ok (.goto 4, 3) := by decide +kernel
theorem rd_N_set_30 : decode rc_N_set 30 = .ok (.lload_n 1, 1) := by decide +kernel
theorem rd_N_set_31 : decode rc_N_set 31 = .ok (.invokevirtual 23, 3) := by decide +kernel
theorem rd_N_set_34 : decode rc_N_set 34 = .ok (.aload_n 0, 1) := by decide +kernel
theorem rd_N_set_35 : decode rc_N_set 35 = .ok (.getfield 16, 3) := by decide +kernel
theorem rd_N_set_38 : decode rc_N_set 38 = .ok (.lconst 1, 1) := by decide +kernel
theorem rd_N_set_39 : decode rc_N_set 39 = .ok (.invokevirtual 23, 3) := by decide +kernel
theorem rd_N_set_42 : decode rc_N_set 42 = .ok (.aload_n 0, 1) := by decide +kernel
theorem rd_N_set_43 : decode rc_N_set 43 = .ok (.iconst 0, 1) := by decide +kernel
theorem rd_N_set_44 : decode rc_N_set 44 = .ok (.putfield 27, 3) := by decide +kernel
theorem rd_N_set_47 : decode rc_N_set 47 = .ok (.return_, 1) := by decide +kernel
theorem rd_N_copy_0 : decode rc_N_copy 0 = .ok (.aload_n 0, 1) := by decide +kernel
theorem rd_N_copy_1 : decode rc_N_copy 1 = .ok (.aload_n 1, 1) := by decide +kernel
theorem rd_N_copy_2 : decode rc_N_copy 2 = .ok (.getfield 19, 3) := by decide +kernel
theorem rd_N_copy_5 : decode rc_N_copy 5 = .ok (.putfield 19, 3) := by decide +kernel
theorem rd_N_copy_8 : decode rc_N_copy 8 = .ok (.aload_n 0, 1) := by decide +kernel
theorem rd_N_copy_9 : decode rc_N_copy 9 = .ok (.getfield 10, 3) := by decide +kernel
theorem rd_N_copy_12 : decode rc_N_copy 12 = .ok (.aload_n 1, 1) := by decide +kernel
theorem rd_N_copy_13 : decode rc_N_copy 13 = .ok (.getfield 10, 3) := by decide +kernel
theorem rd_N_copy_16 : decode rc_N_copy 16 = .ok (.invokevirtual 31, 3) := by decide +kernel
theorem rd_N_copy_19 : decode rc_N_copy 19 = .ok (.aload_n 0, 1) := by decide +kernel
theorem rd_N_copy_20 : decode rc_N_copy 20 = .ok (.getfield 16, 3) := by decide +kernel
theorem rd_N_copy_23 : decode rc_N_copy 23 = .ok (.aload_n 1, 1) := by decide +kernel
theorem rd_N_copy_24 : decode rc_N_copy 24 = .ok (.getfield 16, 3) := by decide +kernel
theorem rd_N_copy_27 : decode rc_N_copy 27 = .ok (.invokevirtual 31, 3) := by decide +kernel
theorem rd_N_copy_30 : decode rc_N_copy 30 = .ok (.aload_n 0, 1) := by decide +kernel
theorem rd_N_copy_31 : decode rc_N_copy 31 = .ok (.aload_n 1, 1) := by decide +kernel
theorem rd_N_copy_32 : decode rc_N_copy 32 = .ok (.getfield 27, 3) := by decide +kernel
theorem rd_N_copy_35 : decode rc_N_copy 35 = .ok (.putfield 27, 3) := by decide +kernel
theorem rd_N_copy_38 : decode rc_N_copy 38 = .ok (.return_, 1) := by decide +kernel
theorem rd_N_sign_0 : decode rc_N_sign 0 = .ok (.aload_n 0, 1) := by decide +kernel
theorem rd_N_sign_1 : decode rc_N_sign 1 = .ok (.getfield 10, 3) := by decide +kernel
theorem rd_N_sign_4 : decode rc_N_sign 4 = .ok (.getfield 35, 3) := by decide +kernel
theorem rd_N_sign_7 : decode rc_N_sign 7 = .ok (.ifCond .ne 7, 3) := by decide +kernel
theorem rd_N_sign_10 : decode rc_N_sign 10 = .ok (.iconst 0, 1) := by decide +kernel
theorem rd_N_sign_11 : decode rc_N_sign 11 = .ok (.goto 15, 3) := by decide +kernel
theorem rd_N_sign_14 : decode rc_N_sign 14 = .ok (.aload_n 0, 1) := by decide +kernel
theorem rd_N_sign_15 : decode rc_N_sign 15 = .ok (.getfield 19, 3) := by decide +kernel
theorem rd_N_sign_18 : decode rc_N_sign 18 = .ok (.ifCond .eq 7, 3) := by decide +kernel
theorem rd_N_sign_21 : decode rc_N_sign 21 = .ok (.iconst (-1), 1) := by decide +kernel
theorem rd_N_sign_22 : decode rc_N_sign 22 = .ok (.goto 4, 3) := by decide +kernel
theorem rd_N_sign_25 : decode rc_N_sign 25 = .ok (.iconst 1, 1) := by decide +kernel
theorem rd_N_sign_26 : decode rc_N_sign 26 = .ok (.ireturn, 1) := by decide +kernel
theorem rd_N_setFloat_0 : decode rc_N_setFloat 0 = .ok (.lload_n 1, 1) := by decide +kernel
theorem rd_N_setFloat_1 : decode rc_N_setFloat 1 = .ok (.bipush 52, 2) := by decide +kernel
theorem rd_N_setFloat_3 : decode rc_N_setFloat 3 = .ok (.lushr, 1) := by decide +kernel
theorem rd_N_setFloat_4 : decode rc_N_setFloat 4 = .ok (.ldc2_w 38, 3) := by decide +kernel
theorem rd_N_setFloat_7 : decode rc_N_setFloat 7 = .ok (.land, 1) := by decide +kernel
theorem rd_N_setFloat_8 : decode rc_N_setFloat 8 = .ok (.lstore_n 3, 1) := by decide +kernel
theorem rd_N_setFloat_9 : decode rc_N_setFloat 9 = .ok (.lload_n 1, 1) := by decide +kernel
theorem rd_N_setFloat_10 : decode rc_N_setFloat 10 = .ok (.ldc2_w 40, 3) := by decide +kernel
theorem rd_N_setFloat_13 : decode rc_N_setFloat 13 = .ok (.land, 1) := by decide +kernel
theorem rd_N_setFloat_14 : decode rc_N_setFloat 14 = .ok (.lstore 5, 2) := by decide +kernel
theorem rd_N_setFloat_16 : decode rc_N_setFloat 16 = .ok (.aload_n 0, 1) := by decide +kernel
theorem rd_N_setFloat_17 : decode rc_N_setFloat 17 = .ok (.lload_n 1, 1) := by decide +kernel
theorem rd_N_setFloat_18 : decode rc_N_setFloat 18 = .ok (.lconst 0, 1) := by decide +kernel
theorem rd_N_setFloat_19 : decode rc_N_setFloat 19 = .ok (.lcmp, 1) := by decide +kernel
theorem rd_N_setFloat_20 : decode rc_N_setFloat 20 = .ok (.ifCond .ge 7, 3) := by decide +kernel
theorem rd_N_setFloat_23 : decode rc_N_setFloat 23 = .ok (.iconst 1, 1) := by decide +kernel
theorem rd_N_setFloat_24 : decode rc_N_setFloat 24 = .ok (.goto 4, 3) := by decide +kernel
theorem rd_N_setFloat_27 : decode rc_N_setFloat 27 = .ok (.iconst 0, 1) := by decide +kernel
theorem rd_N_setFloat_28 : decode rc_N_setFloat 28 = .ok (.putfield 19, 3) := by decide +kernel
theorem rd_N_setFloat_31 : decode rc_N_setFloat 31 = .ok (.aload_n 0, 1) := by decide +kernel
theorem rd_N_setFloat_32 : decode rc_N_setFloat 32 = .ok (.getfield 10, 3) := by decide +kernel
theorem rd_N_setFloat_35 : decode rc_N_setFloat 35 = .ok (.lload_n 3, 1) := by decide +kernel
theorem rd_N_setFloat_36 : decode rc_N_setFloat 36 = .ok (.lconst 0, 1) := by decide +kernel
theorem rd_N_setFloat_37 : decode rc_N_setFloat 37 = .ok (.lcmp, 1) := by decide +kernel
theorem rd_N_setFloat_38 : decode rc_N_setFloat 38 = .ok (.ifCond .ne 8, 3) := by decide +kernel
theorem rd_N_setFloat_41 : decode rc_N_setFloat 41 = .ok (.lload 5, 2) := by decide +kernel
theorem rd_N_setFloat_43 : decode rc_N_setFloat 43 = .ok (.goto 9, 3) := by decide +kernel
theorem rd_N_setFloat_46 : decode rc_N_setFloat 46 = .ok (.lload 5, 2) := by decide +kernel
theorem rd_N_setFloat_48 : decode rc_N_setFloat 48 = .ok (.ldc2_w 42, 3) := by decide +kernel
theorem rd_N_setFloat_51 : decode rc_N_setFloat 51 = .ok (.lor, 1) := by decide +kernel
theorem rd_N_setFloat_52 : decode rc_N_setFloat 52 = .ok (.invokevirtual 23, 3) := by decide +kernel
theorem rd_N_setFloat_55 : decode rc_N_setFloat 55 = .ok (.aload_n 0, 1) := by decide +kernel
theorem rd_N_setFloat_56 : decode rc_N_setFloat 56 = .ok (.getfield 16, 3) := by decide +kernel
theorem rd_N_setFloat_59 : decode rc_N_setFloat 59 = .ok (.lconst 1, 1) := by decide +kernel
theorem rd_N_setFloat_60 : decode rc_N_setFloat 60 = .ok (.invokevirtual 23, 3) := by decide +kernel
theorem rd_N_setFloat_63 : decode rc_N_setFloat 63 = .ok (.aload_n 0, 1) := by decide +kernel
theorem rd_N_setFloat_64 : decode rc_N_setFloat 64 = .ok (.lload_n 3, 1) := by decide +kernel
theorem rd_N_setFloat_65 : decode rc_N_setFloat 65 = .ok (.lconst 0, 1) := by decide +kernel
theorem rd_N_setFloat_66 : decode rc_N_setFloat 66 = .ok (.lcmp, 1) := by decide +kernel
theorem rd_N_setFloat_67 : decode rc_N_setFloat 67 = .ok (.ifCond .ne 9, 3) := by decide +kernel
theorem rd_N_setFloat_70 : decode rc_N_setFloat 70 = .ok (.sipush (-1074), 3) := by decide +kernel
theorem rd_N_setFloat_73 : decode rc_N_setFloat 73 = .ok (.goto 9, 3) := by decide +kernel
theorem rd_N_setFloat_76 : decode rc_N_setFloat 76 = .ok (.lload_n 3, 1) := by decide +kernel
theorem rd_N_setFloat_77 : decode rc_N_setFloat 77 = .ok (.l2i, 1) := by decide +kernel
theorem rd_N_setFloat_78 : decode rc_N_setFloat 78 = .ok (.sipush 1075, 3) := by decide +kernel
theorem rd_N_setFloat_81 : decode rc_N_setFloat 81 = .ok (.isub, 1) := by decide +kernel
theorem rd_N_setFloat_82 : decode rc_N_setFloat 82 = .ok (.putfield 27, 3) := by decide +kernel
theorem rd_N_setFloat_85 : decode rc_N_setFloat 85 = .ok (.return_, 1) := by decide +kernel
