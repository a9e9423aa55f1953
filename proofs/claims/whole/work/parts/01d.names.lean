set_option maxRecDepth 20000 in
theorem gX2_partOf_X2_numberOf : GoodIn wsX2_partOf (wsV RX2 29 RX2 yX2_numberOf wsX2_numberOf) := goodIn_app (goodIn_of _ (by decide +kernel)) ggX2_partOf_X2_numberOf
theorem dX2_partOf_0 : decode cX2_partOf 0 = .ok (.aload_n 0, 1) := by decide +kernel
theorem dX2_partOf_1 : decode cX2_partOf 1 = .ok (.iload_n 1, 1) := by decide +kernel
theorem dX2_partOf_2 : decode cX2_partOf 2 = .ok (.invokevirtual 29, 3) := by decide +kernel
theorem dX2_partOf_5 : decode cX2_partOf 5 = .ok (.astore_n 3, 1) := by decide +kernel
theorem dX2_partOf_6 : decode cX2_partOf 6 = .ok (.aload_n 3, 1) := by decide +kernel
theorem dX2_partOf_7 : decode cX2_partOf 7 = .ok (.ifnonnull 5, 3) := by decide +kernel
theorem dX2_partOf_10 : decode cX2_partOf 10 = .ok (.aconst_null, 1) := by decide +kernel
theorem dX2_partOf_11 : decode cX2_partOf 11 = .ok (.areturn, 1) := by decide +kernel
theorem dX2_partOf_12 : decode cX2_partOf 12 = .ok (.iload_n 2, 1) := by decide +kernel
theorem dX2_partOf_13 : decode cX2_partOf 13 = .ok (.ifCond .ne 8, 3) := by decide +kernel
theorem dX2_partOf_16 : decode cX2_partOf 16 = .ok (.aload_n 3, 1) := by decide +kernel
theorem dX2_partOf_17 : decode cX2_partOf 17 = .ok (.getfield 65, 3) := by decide +kernel
theorem dX2_partOf_20 : decode cX2_partOf 20 = .ok (.areturn, 1) := by decide +kernel
theorem dX2_partOf_21 : decode cX2_partOf 21 = .ok (.iload_n 2, 1) := by decide +kernel
theorem dX2_partOf_22 : decode cX2_partOf 22 = .ok (.iconst 1, 1) := by decide +kernel
theorem dX2_partOf_23 : decode cX2_partOf 23 = .ok (.if_icmp .ne 10, 3) := by decide +kernel
theorem dX2_partOf_26 : decode cX2_partOf 26 = .ok (.aload_n 3, 1) := by decide +kernel
theorem dX2_partOf_27 : decode cX2_partOf 27 = .ok (.getfield 103, 3) := by decide +kernel
theorem dX2_partOf_30 : decode cX2_partOf 30 = .ok (.goto 4, 3) := by decide +kernel
theorem dX2_partOf_33 : decode cX2_partOf 33 = .ok (.aconst_null, 1) := by decide +kernel
theorem dX2_partOf_34 : decode cX2_partOf 34 = .ok (.areturn, 1) := by decide +kernel
set_option maxRecDepth 20000 in
theorem ggX2_keepLeftIn_X1_length : GoodIn wsX2_keepLeftIn wsX1_length := goodIn_r _ [6, 7, 8, 9, 10, 5, 11, 12, 13, 14, 15, 16, 37, 38] (by decide +kernel) (by decide +kernel)
set_option maxRecDepth 20000 in
theorem gX2_keepLeftIn_X1_length : GoodIn wsX2_keepLeftIn (wsV RX2 53 RX1 yX1_length wsX1_length) := goodIn_app (goodIn_of _ (by decide +kernel)) ggX2_keepLeftIn_X1_length
set_option maxRecDepth 20000 in
theorem ggX2_keepLeftIn_X1_copy : GoodIn wsX2_keepLeftIn wsX1_copy := goodIn_r _ [20, 7, 12, 13, 14, 5, 15, 16, 21, 22, 23, 24, 25, 26, 27, 28, 29, 30, 31, 32, 37, 38] (by decide +kernel) (by decide +kernel)
set_option maxRecDepth 20000 in
theorem gX2_keepLeftIn_X1_copy : GoodIn wsX2_keepLeftIn (wsV RX2 106 RX1 yX1_copy wsX1_copy) := goodIn_app (goodIn_of _ (by decide +kernel)) ggX2_keepLeftIn_X1_copy
theorem dX2_keepLeftIn_0 : decode cX2_keepLeftIn 0 = .ok (.aload_n 0, 1) := by decide +kernel
theorem dX2_keepLeftIn_1 : decode cX2_keepLeftIn 1 = .ok (.getfield 22, 3) := by decide +kernel
theorem dX2_keepLeftIn_4 : decode cX2_keepLeftIn 4 = .ok (.invokevirtual 53, 3) := by decide +kernel
theorem dX2_keepLeftIn_7 : decode cX2_keepLeftIn 7 = .ok (.sipush 4800, 3) := by decide +kernel
theorem dX2_keepLeftIn_10 : decode cX2_keepLeftIn 10 = .ok (.if_icmp .le 6, 3) := by decide +kernel
theorem dX2_keepLeftIn_13 : decode cX2_keepLeftIn 13 = .ok (.bipush (-2), 2) := by decide +kernel
theorem dX2_keepLeftIn_15 : decode cX2_keepLeftIn 15 = .ok (.ireturn, 1) := by decide +kernel
theorem dX2_keepLeftIn_16 : decode cX2_keepLeftIn 16 = .ok (.aload_n 1, 1) := by decide +kernel
theorem dX2_keepLeftIn_17 : decode cX2_keepLeftIn 17 = .ok (.aload_n 0, 1) := by decide +kernel
theorem dX2_keepLeftIn_18 : decode cX2_keepLeftIn 18 = .ok (.getfield 22, 3) := by decide +kernel
theorem dX2_keepLeftIn_21 : decode cX2_keepLeftIn 21 = .ok (.invokevirtual 106, 3) := by decide +kernel
theorem dX2_keepLeftIn_24 : decode cX2_keepLeftIn 24 = .ok (.aload_n 1, 1) := by decide +kernel
theorem dX2_keepLeftIn_25 : decode cX2_keepLeftIn 25 = .ok (.invokevirtual 53, 3) := by decide +kernel
theorem dX2_keepLeftIn_28 : decode cX2_keepLeftIn 28 = .ok (.ireturn, 1) := by decide +kernel
set_option maxRecDepth 20000 in
theorem ggX2_orderOfSizes_X0_rank : GoodIn wsX2_orderOfSizes wsX0_rank := goodIn_r _ [12, 13, 14, 15, 16, 17, 18, 19, 20, 21, 22, 23, 24, 25, 26, 27, 28, 29, 30, 77, 78, 79, 80, 81, 82] (by decide +kernel) (by decide +kernel)
set_option maxRecDepth 20000 in
theorem gX2_orderOfSizes_X0_rank : GoodIn wsX2_orderOfSizes (wsV RX2 110 RX0 yX0_rank wsX0_rank) := goodIn_app (goodIn_of _ (by decide +kernel)) ggX2_orderOfSizes_X0_rank
set_option maxRecDepth 20000 in
theorem ggX2_orderOfSizes_X1_becomeProduct : GoodIn wsX2_orderOfSizes wsX1_becomeProduct := goodIn_r _ [34, 21, 35, 36, 37, 19, 38, 30, 39, 40, 41, 42, 43, 44, 45, 46, 26, 27, 28, 29, 47, 48, 49, 50, 51, 52, 53, 54, 55, 81, 82] (by decide +kernel) (by decide +kernel)
set_option maxRecDepth 20000 in
theorem gX2_orderOfSizes_X1_becomeProduct : GoodIn wsX2_orderOfSizes (wsV RX2 113 RX1 yX1_becomeProduct wsX1_becomeProduct) := goodIn_app (goodIn_of _ (by decide +kernel)) ggX2_orderOfSizes_X1_becomeProduct
set_option maxRecDepth 20000 in
theorem ggX2_orderOfSizes_X1_length : GoodIn wsX2_orderOfSizes wsX1_length := goodIn_r _ [20, 21, 22, 23, 24, 19, 25, 26, 27, 28, 29, 30, 81, 82] (by decide +kernel) (by decide +kernel)
set_option maxRecDepth 20000 in
theorem gX2_orderOfSizes_X1_length : GoodIn wsX2_orderOfSizes (wsV RX2 53 RX1 yX1_length wsX1_length) := goodIn_app (goodIn_of _ (by decide +kernel)) ggX2_orderOfSizes_X1_length
set_option maxRecDepth 20000 in
theorem ggX2_orderOfSizes_X2_alignTops : GoodIn wsX2_orderOfSizes wsX2_alignTops := goodIn_r _ [61, 3, 6, 62, 63, 64, 19, 65, 21, 47, 48, 49, 50, 51, 26, 27, 28, 29, 30, 43, 44, 45, 46, 35, 36, 37, 38, 39, 40, 41, 42, 73, 74, 75, 76, 81, 82] (by decide +kernel) (by decide +kernel)
set_option maxRecDepth 20000 in
theorem gX2_orderOfSizes_X2_alignTops : GoodIn wsX2_orderOfSizes (wsV RX2 116 RX2 yX2_alignTops wsX2_alignTops) := goodIn_app (goodIn_of _ (by decide +kernel)) ggX2_orderOfSizes_X2_alignTops
set_option maxRecDepth 20000 in
theorem ggX2_orderOfSizes_X1_order : GoodIn wsX2_orderOfSizes wsX1_order := goodIn_r _ [69, 21, 70, 71, 41, 72, 47, 48, 49, 19, 50, 51, 26, 27, 28, 29, 30, 81, 82] (by decide +kernel) (by decide +kernel)
set_option maxRecDepth 20000 in
theorem gX2_orderOfSizes_X1_order : GoodIn wsX2_orderOfSizes (wsV RX2 79 RX1 yX1_order wsX1_order) := goodIn_app (goodIn_of _ (by decide +kernel)) ggX2_orderOfSizes_X1_order
theorem dX2_orderOfSizes_0 : decode cX2_orderOfSizes 0 = .ok (.aload_n 0, 1) := by decide +kernel
theorem dX2_orderOfSizes_1 : decode cX2_orderOfSizes 1 = .ok (.getfield 12, 3) := by decide +kernel
theorem dX2_orderOfSizes_4 : decode cX2_orderOfSizes 4 = .ok (.invokevirtual 110, 3) := by decide +kernel
theorem dX2_orderOfSizes_7 : decode cX2_orderOfSizes 7 = .ok (.aload_n 0, 1) := by decide +kernel
theorem dX2_orderOfSizes_8 : decode cX2_orderOfSizes 8 = .ok (.getfield 16, 3) := by decide +kernel
theorem dX2_orderOfSizes_11 : decode cX2_orderOfSizes 11 = .ok (.invokevirtual 110, 3) := by decide +kernel
theorem dX2_orderOfSizes_14 : decode cX2_orderOfSizes 14 = .ok (.isub, 1) := by decide +kernel
theorem dX2_orderOfSizes_15 : decode cX2_orderOfSizes 15 = .ok (.istore_n 1, 1) := by decide +kernel
theorem dX2_orderOfSizes_16 : decode cX2_orderOfSizes 16 = .ok (.iload_n 1, 1) := by decide +kernel
theorem dX2_orderOfSizes_17 : decode cX2_orderOfSizes 17 = .ok (.iconst 1, 1) := by decide +kernel
theorem dX2_orderOfSizes_18 : decode cX2_orderOfSizes 18 = .ok (.if_icmp .gt 8, 3) := by decide +kernel
theorem dX2_orderOfSizes_21 : decode cX2_orderOfSizes 21 = .ok (.iload_n 1, 1) := by decide +kernel
theorem dX2_orderOfSizes_22 : decode cX2_orderOfSizes 22 = .ok (.iconst (-1), 1) := by decide +kernel
theorem dX2_orderOfSizes_23 : decode cX2_orderOfSizes 23 = .ok (.if_icmp .ge 13, 3) := by decide +kernel
theorem dX2_orderOfSizes_26 : decode cX2_orderOfSizes 26 = .ok (.iload_n 1, 1) := by decide +kernel
theorem dX2_orderOfSizes_27 : decode cX2_orderOfSizes 27 = .ok (.ifCond .ge 7, 3) := by decide +kernel
theorem dX2_orderOfSizes_30 : decode cX2_orderOfSizes 30 = .ok (.iconst (-1), 1) := by decide +kernel
theorem dX2_orderOfSizes_31 : decode cX2_orderOfSizes 31 = .ok (.goto 4, 3) := by decide +kernel
theorem dX2_orderOfSizes_34 : decode cX2_orderOfSizes 34 = .ok (.iconst 1, 1) := by decide +kernel
theorem dX2_orderOfSizes_35 : decode cX2_orderOfSizes 35 = .ok (.ireturn, 1) := by decide +kernel
theorem dX2_orderOfSizes_36 : decode cX2_orderOfSizes 36 = .ok (.aload_n 0, 1) := by decide +kernel
theorem dX2_orderOfSizes_37 : decode cX2_orderOfSizes 37 = .ok (.getfield 22, 3) := by decide +kernel
theorem dX2_orderOfSizes_40 : decode cX2_orderOfSizes 40 = .ok (.aload_n 0, 1) := by decide +kernel
theorem dX2_orderOfSizes_41 : decode cX2_orderOfSizes 41 = .ok (.getfield 12, 3) := by decide +kernel
theorem dX2_orderOfSizes_44 : decode cX2_orderOfSizes 44 = .ok (.getfield 65, 3) := by decide +kernel
theorem dX2_orderOfSizes_47 : decode cX2_orderOfSizes 47 = .ok (.aload_n 0, 1) := by decide +kernel
theorem dX2_orderOfSizes_48 : decode cX2_orderOfSizes 48 = .ok (.getfield 16, 3) := by decide +kernel
theorem dX2_orderOfSizes_51 : decode cX2_orderOfSizes 51 = .ok (.getfield 103, 3) := by decide +kernel
theorem dX2_orderOfSizes_54 : decode cX2_orderOfSizes 54 = .ok (.invokevirtual 113, 3) := by decide +kernel
theorem dX2_orderOfSizes_57 : decode cX2_orderOfSizes 57 = .ok (.aload_n 0, 1) := by decide +kernel
theorem dX2_orderOfSizes_58 : decode cX2_orderOfSizes 58 = .ok (.getfield 26, 3) := by decide +kernel
theorem dX2_orderOfSizes_61 : decode cX2_orderOfSizes 61 = .ok (.aload_n 0, 1) := by decide +kernel
theorem dX2_orderOfSizes_62 : decode cX2_orderOfSizes 62 = .ok (.getfield 16, 3) := by decide +kernel
theorem dX2_orderOfSizes_65 : decode cX2_orderOfSizes 65 = .ok (.getfield 65, 3) := by decide +kernel
theorem dX2_orderOfSizes_68 : decode cX2_orderOfSizes 68 = .ok (.aload_n 0, 1) := by decide +kernel
theorem dX2_orderOfSizes_69 : decode cX2_orderOfSizes 69 = .ok (.getfield 12, 3) := by decide +kernel
theorem dX2_orderOfSizes_72 : decode cX2_orderOfSizes 72 = .ok (.getfield 103, 3) := by decide +kernel
theorem dX2_orderOfSizes_75 : decode cX2_orderOfSizes 75 = .ok (.invokevirtual 113, 3) := by decide +kernel
theorem dX2_orderOfSizes_78 : decode cX2_orderOfSizes 78 = .ok (.aload_n 0, 1) := by decide +kernel
theorem dX2_orderOfSizes_79 : decode cX2_orderOfSizes 79 = .ok (.getfield 22, 3) := by decide +kernel
theorem dX2_orderOfSizes_82 : decode cX2_orderOfSizes 82 = .ok (.invokevirtual 53, 3) := by decide +kernel
theorem dX2_orderOfSizes_85 : decode cX2_orderOfSizes 85 = .ok (.aload_n 0, 1) := by decide +kernel
theorem dX2_orderOfSizes_86 : decode cX2_orderOfSizes 86 = .ok (.getfield 26, 3) := by decide +kernel
theorem dX2_orderOfSizes_89 : decode cX2_orderOfSizes 89 = .ok (.invokevirtual 53, 3) := by decide +kernel
theorem dX2_orderOfSizes_92 : decode cX2_orderOfSizes 92 = .ok (.isub, 1) := by decide +kernel
theorem dX2_orderOfSizes_93 : decode cX2_orderOfSizes 93 = .ok (.istore_n 2, 1) := by decide +kernel
theorem dX2_orderOfSizes_94 : decode cX2_orderOfSizes 94 = .ok (.iload_n 2, 1) := by decide +kernel
theorem dX2_orderOfSizes_95 : decode cX2_orderOfSizes 95 = .ok (.aload_n 0, 1) := by decide +kernel
theorem dX2_orderOfSizes_96 : decode cX2_orderOfSizes 96 = .ok (.getfield 12, 3) := by decide +kernel
theorem dX2_orderOfSizes_99 : decode cX2_orderOfSizes 99 = .ok (.getfield 61, 3) := by decide +kernel
theorem dX2_orderOfSizes_102 : decode cX2_orderOfSizes 102 = .ok (.iadd, 1) := by decide +kernel
theorem dX2_orderOfSizes_103 : decode cX2_orderOfSizes 103 = .ok (.aload_n 0, 1) := by decide +kernel
theorem dX2_orderOfSizes_104 : decode cX2_orderOfSizes 104 = .ok (.getfield 16, 3) := by decide +kernel
theorem dX2_orderOfSizes_107 : decode cX2_orderOfSizes 107 = .ok (.getfield 61, 3) := by decide +kernel
theorem dX2_orderOfSizes_110 : decode cX2_orderOfSizes 110 = .ok (.isub, 1) := by decide +kernel
theorem dX2_orderOfSizes_111 : decode cX2_orderOfSizes 111 = .ok (.istore_n 1, 1) := by decide +kernel
theorem dX2_orderOfSizes_112 : decode cX2_orderOfSizes 112 = .ok (.iload_n 1, 1) := by decide +kernel
theorem dX2_orderOfSizes_113 : decode cX2_orderOfSizes 113 = .ok (.ifCond .eq 13, 3) := by decide +kernel
theorem dX2_orderOfSizes_116 : decode cX2_orderOfSizes 116 = .ok (.iload_n 1, 1) := by decide +kernel
theorem dX2_orderOfSizes_117 : decode cX2_orderOfSizes 117 = .ok (.ifCond .ge 7, 3) := by decide +kernel
theorem dX2_orderOfSizes_120 : decode cX2_orderOfSizes 120 = .ok (.iconst (-1), 1) := by decide +kernel
theorem dX2_orderOfSizes_121 : decode cX2_orderOfSizes 121 = .ok (.goto 4, 3) := by decide +kernel
theorem dX2_orderOfSizes_124 : decode cX2_orderOfSizes 124 = .ok (.iconst 1, 1) := by decide +kernel
theorem dX2_orderOfSizes_125 : decode cX2_orderOfSizes 125 = .ok (.ireturn, 1) := by decide +kernel
theorem dX2_orderOfSizes_126 : decode cX2_orderOfSizes 126 = .ok (.aload_n 0, 1) := by decide +kernel
theorem dX2_orderOfSizes_127 : decode cX2_orderOfSizes 127 = .ok (.iload_n 2, 1) := by decide +kernel
theorem dX2_orderOfSizes_128 : decode cX2_orderOfSizes 128 = .ok (.invokevirtual 116, 3) := by decide +kernel
theorem dX2_orderOfSizes_131 : decode cX2_orderOfSizes 131 = .ok (.aload_n 0, 1) := by decide +kernel
theorem dX2_orderOfSizes_132 : decode cX2_orderOfSizes 132 = .ok (.getfield 22, 3) := by decide +kernel
theorem dX2_orderOfSizes_135 : decode cX2_orderOfSizes 135 = .ok (.aload_n 0, 1) := by decide +kernel
theorem dX2_orderOfSizes_136 : decode cX2_orderOfSizes 136 = .ok (.getfield 26, 3) := by decide +kernel
theorem dX2_orderOfSizes_139 : decode cX2_orderOfSizes 139 = .ok (.invokevirtual 79, 3) := by decide +kernel
theorem dX2_orderOfSizes_142 : decode cX2_orderOfSizes 142 = .ok (.ireturn, 1) := by decide +kernel
set_option maxRecDepth 20000 in
theorem ggX2_alignTops_X1_shiftUp : GoodIn wsX2_alignTops wsX1_shiftUp := goodIn_r _ [7, 8, 9, 10, 11, 6, 12, 13, 14, 15, 16, 17, 18, 19, 20, 21, 22, 23, 24, 25, 26, 27, 28, 29, 30, 35, 36] (by decide +kernel) (by decide +kernel)
set_option maxRecDepth 20000 in
theorem gX2_alignTops_X1_shiftUp : GoodIn wsX2_alignTops (wsV RX2 120 RX1 yX1_shiftUp wsX1_shiftUp) := goodIn_app (goodIn_of _ (by decide +kernel)) ggX2_alignTops_X1_shiftUp
theorem dX2_alignTops_0 : decode cX2_alignTops 0 = .ok (.iload_n 1, 1) := by decide +kernel
theorem dX2_alignTops_1 : decode cX2_alignTops 1 = .ok (.ifCond .ge 15, 3) := by decide +kernel
theorem dX2_alignTops_4 : decode cX2_alignTops 4 = .ok (.aload_n 0, 1) := by decide +kernel
theorem dX2_alignTops_5 : decode cX2_alignTops 5 = .ok (.getfield 22, 3) := by decide +kernel
theorem dX2_alignTops_8 : decode cX2_alignTops 8 = .ok (.iload_n 1, 1) := by decide +kernel
theorem dX2_alignTops_9 : decode cX2_alignTops 9 = .ok (.ineg, 1) := by decide +kernel
theorem dX2_alignTops_10 : decode cX2_alignTops 10 = .ok (.invokevirtual 120, 3) := by decide +kernel
theorem dX2_alignTops_13 : decode cX2_alignTops 13 = .ok (.goto 11, 3) := by decide +kernel
theorem dX2_alignTops_16 : decode cX2_alignTops 16 = .ok (.aload_n 0, 1) := by decide +kernel
theorem dX2_alignTops_17 : decode cX2_alignTops 17 = .ok (.getfield 26, 3) := by decide +kernel
theorem dX2_alignTops_20 : decode cX2_alignTops 20 = .ok (.iload_n 1, 1) := by decide +kernel
theorem dX2_alignTops_21 : decode cX2_alignTops 21 = .ok (.invokevirtual 120, 3) := by decide +kernel
theorem dX2_alignTops_24 : decode cX2_alignTops 24 = .ok (.return_, 1) := by decide +kernel
set_option maxRecDepth 20000 in
theorem ggX2_roundedSize_X2_layOut : GoodIn wsX2_roundedSize wsX2_layOut := goodIn_r _ [12, 7, 13, 14, 15, 16, 17, 18, 19, 20, 21, 22, 23, 24, 25, 26, 27, 28, 29, 30, 31, 32, 33, 34, 35, 4, 5, 6, 36, 37, 38, 39, 40, 41, 42, 43, 44, 45, 46, 11, 47, 48, 49, 50, 51, 52, 53, 54, 55, 56, 57, 58, 59, 60, 61, 62, 63, 64, 65, 66, 67, 68, 69, 70, 71, 72, 82, 83, 84, 85, 86, 87, 88, 89, 90, 91] (by decide +kernel) (by decide +kernel)
set_option maxRecDepth 20000 in
theorem gX2_roundedSize_X2_layOut : GoodIn wsX2_roundedSize (wsV RX2 123 RX2 yX2_layOut wsX2_layOut) := goodIn_app (goodIn_of _ (by decide +kernel)) ggX2_roundedSize_X2_layOut
set_option maxRecDepth 20000 in
theorem ggX2_roundedSize_X2_quotient : GoodIn wsX2_roundedSize wsX2_quotient := goodIn_r _ [76, 7, 14, 57, 58, 59, 19, 60, 21, 61, 62, 5, 63, 52, 53, 54, 55, 56, 22, 23, 24, 25, 26, 77, 78, 79, 80, 27, 28, 29, 30, 31, 32, 33, 34, 35, 4, 6, 48, 49, 50, 51, 82, 83, 84, 85, 90, 91] (by decide +kernel) (by decide +kernel)
set_option maxRecDepth 20000 in
theorem gX2_roundedSize_X2_quotient : GoodIn wsX2_roundedSize (wsV RX2 137 RX2 yX2_quotient wsX2_quotient) := goodIn_app (goodIn_of _ (by decide +kernel)) ggX2_roundedSize_X2_quotient
set_option maxRecDepth 20000 in
theorem ggX2_roundedSize_X1_isZero : GoodIn wsX2_roundedSize wsX1_isZero := goodIn_r _ [43, 21, 90, 91] (by decide +kernel) (by decide +kernel)
set_option maxRecDepth 20000 in
theorem gX2_roundedSize_X1_isZero : GoodIn wsX2_roundedSize (wsV RX2 68 RX1 yX1_isZero wsX1_isZero) := goodIn_app (goodIn_of _ (by decide +kernel)) ggX2_roundedSize_X1_isZero
theorem dX2_roundedSize_0 : decode cX2_roundedSize 0 = .ok (.aload_n 0, 1) := by decide +kernel
theorem dX2_roundedSize_1 : decode cX2_roundedSize 1 = .ok (.aload_n 1, 1) := by decide +kernel
theorem dX2_roundedSize_2 : decode cX2_roundedSize 2 = .ok (.invokevirtual 123, 3) := by decide +kernel
theorem dX2_roundedSize_5 : decode cX2_roundedSize 5 = .ok (.istore_n 3, 1) := by decide +kernel
theorem dX2_roundedSize_6 : decode cX2_roundedSize 6 = .ok (.iload_n 3, 1) := by decide +kernel
theorem dX2_roundedSize_7 : decode cX2_roundedSize 7 = .ok (.sipush 1023, 3) := by decide +kernel
theorem dX2_roundedSize_10 : decode cX2_roundedSize 10 = .ok (.if_icmp .le 17, 3) := by decide +kernel
theorem dX2_roundedSize_13 : decode cX2_roundedSize 13 = .ok (.iload_n 2, 1) := by decide +kernel
theorem dX2_roundedSize_14 : decode cX2_roundedSize 14 = .ok (.ifCond .eq 9, 3) := by decide +kernel
theorem dX2_roundedSize_17 : decode cX2_roundedSize 17 = .ok (.ldc2_w 127, 3) := by decide +kernel
theorem dX2_roundedSize_20 : decode cX2_roundedSize 20 = .ok (.goto 6, 3) := by decide +kernel
theorem dX2_roundedSize_23 : decode cX2_roundedSize 23 = .ok (.ldc2_w 129, 3) := by decide +kernel
theorem dX2_roundedSize_26 : decode cX2_roundedSize 26 = .ok (.lreturn, 1) := by decide +kernel
theorem dX2_roundedSize_27 : decode cX2_roundedSize 27 = .ok (.aload_n 0, 1) := by decide +kernel
theorem dX2_roundedSize_28 : decode cX2_roundedSize 28 = .ok (.bipush 53, 2) := by decide +kernel
theorem dX2_roundedSize_30 : decode cX2_roundedSize 30 = .ok (.iload_n 3, 1) := by decide +kernel
theorem dX2_roundedSize_31 : decode cX2_roundedSize 31 = .ok (.sipush (-1074), 3) := by decide +kernel
theorem dX2_roundedSize_34 : decode cX2_roundedSize 34 = .ok (.isub, 1) := by decide +kernel
theorem dX2_roundedSize_35 : decode cX2_roundedSize 35 = .ok (.iconst 1, 1) := by decide +kernel
theorem dX2_roundedSize_36 : decode cX2_roundedSize 36 = .ok (.iadd, 1) := by decide +kernel
theorem dX2_roundedSize_37 : decode cX2_roundedSize 37 = .ok (.invokestatic 131, 3) := by decide +kernel
theorem dX2_roundedSize_40 : decode cX2_roundedSize 40 = .ok (.invokevirtual 137, 3) := by decide +kernel
theorem dX2_roundedSize_43 : decode cX2_roundedSize 43 = .ok (.lstore 4, 2) := by decide +kernel
theorem dX2_roundedSize_45 : decode cX2_roundedSize 45 = .ok (.iload_n 3, 1) := by decide +kernel
theorem dX2_roundedSize_46 : decode cX2_roundedSize 46 = .ok (.sipush (-1022), 3) := by decide +kernel
theorem dX2_roundedSize_49 : decode cX2_roundedSize 49 = .ok (.if_icmp .le 17, 3) := by decide +kernel
theorem dX2_roundedSize_52 : decode cX2_roundedSize 52 = .ok (.lload 4, 2) := by decide +kernel
theorem dX2_roundedSize_54 : decode cX2_roundedSize 54 = .ok (.iload_n 3, 1) := by decide +kernel
theorem dX2_roundedSize_55 : decode cX2_roundedSize 55 = .ok (.sipush (-1022), 3) := by decide +kernel
theorem dX2_roundedSize_58 : decode cX2_roundedSize 58 = .ok (.isub, 1) := by decide +kernel
theorem dX2_roundedSize_59 : decode cX2_roundedSize 59 = .ok (.i2l, 1) := by decide +kernel
theorem dX2_roundedSize_60 : decode cX2_roundedSize 60 = .ok (.bipush 52, 2) := by decide +kernel
theorem dX2_roundedSize_62 : decode cX2_roundedSize 62 = .ok (.lshl, 1) := by decide +kernel
theorem dX2_roundedSize_63 : decode cX2_roundedSize 63 = .ok (.ladd, 1) := by decide +kernel
theorem dX2_roundedSize_64 : decode cX2_roundedSize 64 = .ok (.lstore 4, 2) := by decide +kernel
theorem dX2_roundedSize_66 : decode cX2_roundedSize 66 = .ok (.iload_n 2, 1) := by decide +kernel
theorem dX2_roundedSize_67 : decode cX2_roundedSize 67 = .ok (.ifCond .eq 20, 3) := by decide +kernel
theorem dX2_roundedSize_70 : decode cX2_roundedSize 70 = .ok (.aload_n 0, 1) := by decide +kernel
theorem dX2_roundedSize_71 : decode cX2_roundedSize 71 = .ok (.getfield 22, 3) := by decide +kernel
theorem dX2_roundedSize_74 : decode cX2_roundedSize 74 = .ok (.invokevirtual 68, 3) := by decide +kernel
theorem dX2_roundedSize_77 : decode cX2_roundedSize 77 = .ok (.ifCond .ne 10, 3) := by decide +kernel
theorem dX2_roundedSize_80 : decode cX2_roundedSize 80 = .ok (.lload 4, 2) := by decide +kernel
theorem dX2_roundedSize_82 : decode cX2_roundedSize 82 = .ok (.lconst 1, 1) := by decide +kernel
theorem dX2_roundedSize_83 : decode cX2_roundedSize 83 = .ok (.ladd, 1) := by decide +kernel
theorem dX2_roundedSize_84 : decode cX2_roundedSize 84 = .ok (.goto 5, 3) := by decide +kernel
theorem dX2_roundedSize_87 : decode cX2_roundedSize 87 = .ok (.lload 4, 2) := by decide +kernel
theorem dX2_roundedSize_89 : decode cX2_roundedSize 89 = .ok (.lreturn, 1) := by decide +kernel
set_option maxRecDepth 20000 in
theorem ggX2_layOut_X1_copy : GoodIn wsX2_layOut wsX1_copy := goodIn_r _ [9, 10, 11, 12, 13, 8, 14, 15, 16, 17, 18, 19, 20, 21, 22, 23, 24, 25, 26, 27, 74, 75] (by decide +kernel) (by decide +kernel)
set_option maxRecDepth 20000 in
theorem gX2_layOut_X1_copy : GoodIn wsX2_layOut (wsV RX2 106 RX1 yX1_copy wsX1_copy) := goodIn_app (goodIn_of _ (by decide +kernel)) ggX2_layOut_X1_copy
set_option maxRecDepth 20000 in
theorem ggX2_layOut_X1_length : GoodIn wsX2_layOut wsX1_length := goodIn_r _ [31, 10, 32, 33, 34, 8, 35, 11, 12, 13, 14, 15, 74, 75] (by decide +kernel) (by decide +kernel)
set_option maxRecDepth 20000 in
theorem gX2_layOut_X1_length : GoodIn wsX2_layOut (wsV RX2 53 RX1 yX1_length wsX1_length) := goodIn_app (goodIn_of _ (by decide +kernel)) ggX2_layOut_X1_length
set_option maxRecDepth 20000 in
theorem ggX2_layOut_X2_alignTops : GoodIn wsX2_layOut wsX2_alignTops := goodIn_r _ [40, 1, 3, 41, 42, 43, 8, 44, 10, 45, 46, 47, 48, 49, 11, 12, 13, 14, 15, 16, 17, 18, 19, 20, 21, 22, 23, 24, 25, 26, 27, 66, 67, 68, 69, 74, 75] (by decide +kernel) (by decide +kernel)
set_option maxRecDepth 20000 in
theorem gX2_layOut_X2_alignTops : GoodIn wsX2_layOut (wsV RX2 116 RX2 yX2_alignTops wsX2_alignTops) := goodIn_app (goodIn_of _ (by decide +kernel)) ggX2_layOut_X2_alignTops
set_option maxRecDepth 20000 in
theorem ggX2_layOut_X1_order : GoodIn wsX2_layOut wsX1_order := goodIn_r _ [53, 10, 54, 55, 26, 56, 45, 46, 47, 8, 48, 49, 11, 12, 13, 14, 15, 74, 75] (by decide +kernel) (by decide +kernel)
set_option maxRecDepth 20000 in
theorem gX2_layOut_X1_order : GoodIn wsX2_layOut (wsV RX2 79 RX1 yX1_order wsX1_order) := goodIn_app (goodIn_of _ (by decide +kernel)) ggX2_layOut_X1_order
set_option maxRecDepth 20000 in
theorem ggX2_layOut_X0_rank : GoodIn wsX2_layOut wsX0_rank := goodIn_r _ [61, 62, 63, 64, 65, 29, 30, 8, 31, 10, 32, 33, 34, 35, 11, 12, 13, 14, 15, 70, 71, 72, 73, 74, 75] (by decide +kernel) (by decide +kernel)
set_option maxRecDepth 20000 in
theorem gX2_layOut_X0_rank : GoodIn wsX2_layOut (wsV RX2 110 RX0 yX0_rank wsX0_rank) := goodIn_app (goodIn_of _ (by decide +kernel)) ggX2_layOut_X0_rank
set_option maxRecDepth 20000 in
theorem ggX2_layOut_X1_shiftUp : GoodIn wsX2_layOut wsX1_shiftUp := goodIn_r _ [44, 10, 45, 46, 47, 8, 48, 49, 11, 12, 13, 14, 15, 16, 17, 18, 19, 20, 21, 22, 23, 24, 25, 26, 27, 74, 75] (by decide +kernel) (by decide +kernel)
set_option maxRecDepth 20000 in
theorem gX2_layOut_X1_shiftUp : GoodIn wsX2_layOut (wsV RX2 120 RX1 yX1_shiftUp wsX1_shiftUp) := goodIn_app (goodIn_of _ (by decide +kernel)) ggX2_layOut_X1_shiftUp
theorem dX2_layOut_0 : decode cX2_layOut 0 = .ok (.aload_n 0, 1) := by decide +kernel
theorem dX2_layOut_1 : decode cX2_layOut 1 = .ok (.getfield 22, 3) := by decide +kernel
theorem dX2_layOut_4 : decode cX2_layOut 4 = .ok (.aload_n 1, 1) := by decide +kernel
theorem dX2_layOut_5 : decode cX2_layOut 5 = .ok (.getfield 65, 3) := by decide +kernel
theorem dX2_layOut_8 : decode cX2_layOut 8 = .ok (.invokevirtual 106, 3) := by decide +kernel
theorem dX2_layOut_11 : decode cX2_layOut 11 = .ok (.aload_n 0, 1) := by decide +kernel
theorem dX2_layOut_12 : decode cX2_layOut 12 = .ok (.getfield 26, 3) := by decide +kernel
theorem dX2_layOut_15 : decode cX2_layOut 15 = .ok (.aload_n 1, 1) := by decide +kernel
theorem dX2_layOut_16 : decode cX2_layOut 16 = .ok (.getfield 103, 3) := by decide +kernel
theorem dX2_layOut_19 : decode cX2_layOut 19 = .ok (.invokevirtual 106, 3) := by decide +kernel
theorem dX2_layOut_22 : decode cX2_layOut 22 = .ok (.aload_n 0, 1) := by decide +kernel
theorem dX2_layOut_23 : decode cX2_layOut 23 = .ok (.aload_n 0, 1) := by decide +kernel
theorem dX2_layOut_24 : decode cX2_layOut 24 = .ok (.getfield 22, 3) := by decide +kernel
theorem dX2_layOut_27 : decode cX2_layOut 27 = .ok (.invokevirtual 53, 3) := by decide +kernel
theorem dX2_layOut_30 : decode cX2_layOut 30 = .ok (.aload_n 0, 1) := by decide +kernel
theorem dX2_layOut_31 : decode cX2_layOut 31 = .ok (.getfield 26, 3) := by decide +kernel
theorem dX2_layOut_34 : decode cX2_layOut 34 = .ok (.invokevirtual 53, 3) := by decide +kernel
theorem dX2_layOut_37 : decode cX2_layOut 37 = .ok (.isub, 1) := by decide +kernel
theorem dX2_layOut_38 : decode cX2_layOut 38 = .ok (.invokevirtual 116, 3) := by decide +kernel
theorem dX2_layOut_41 : decode cX2_layOut 41 = .ok (.aload_n 0, 1) := by decide +kernel
theorem dX2_layOut_42 : decode cX2_layOut 42 = .ok (.getfield 22, 3) := by decide +kernel
theorem dX2_layOut_45 : decode cX2_layOut 45 = .ok (.aload_n 0, 1) := by decide +kernel
theorem dX2_layOut_46 : decode cX2_layOut 46 = .ok (.getfield 26, 3) := by decide +kernel
theorem dX2_layOut_49 : decode cX2_layOut 49 = .ok (.invokevirtual 79, 3) := by decide +kernel
theorem dX2_layOut_52 : decode cX2_layOut 52 = .ok (.ifCond .lt 8, 3) := by decide +kernel
theorem dX2_layOut_55 : decode cX2_layOut 55 = .ok (.aload_n 1, 1) := by decide +kernel
theorem dX2_layOut_56 : decode cX2_layOut 56 = .ok (.invokevirtual 110, 3) := by decide +kernel
theorem dX2_layOut_59 : decode cX2_layOut 59 = .ok (.ireturn, 1) := by decide +kernel
theorem dX2_layOut_60 : decode cX2_layOut 60 = .ok (.aload_n 0, 1) := by decide +kernel
theorem dX2_layOut_61 : decode cX2_layOut 61 = .ok (.getfield 22, 3) := by decide +kernel
theorem dX2_layOut_64 : decode cX2_layOut 64 = .ok (.iconst 1, 1) := by decide +kernel
theorem dX2_layOut_65 : decode cX2_layOut 65 = .ok (.invokevirtual 120, 3) := by decide +kernel
theorem dX2_layOut_68 : decode cX2_layOut 68 = .ok (.aload_n 1, 1) := by decide +kernel
theorem dX2_layOut_69 : decode cX2_layOut 69 = .ok (.invokevirtual 110, 3) := by decide +kernel
theorem dX2_layOut_72 : decode cX2_layOut 72 = .ok (.iconst 1, 1) := by decide +kernel
theorem dX2_layOut_73 : decode cX2_layOut 73 = .ok (.isub, 1) := by decide +kernel
theorem dX2_layOut_74 : decode cX2_layOut 74 = .ok (.ireturn, 1) := by decide +kernel
set_option maxRecDepth 20000 in
theorem ggX2_quotient_X1_order : GoodIn wsX2_quotient wsX1_order := goodIn_r _ [7, 8, 9, 10, 11, 12, 13, 14, 15, 6, 16, 17, 18, 19, 20, 21, 22, 46, 47] (by decide +kernel) (by decide +kernel)
set_option maxRecDepth 20000 in
theorem gX2_quotient_X1_order : GoodIn wsX2_quotient (wsV RX2 79 RX1 yX1_order wsX1_order) := goodIn_app (goodIn_of _ (by decide +kernel)) ggX2_quotient_X1_order
set_option maxRecDepth 20000 in
theorem ggX2_quotient_X1_becomeDifference : GoodIn wsX2_quotient wsX1_becomeDifference := goodIn_r _ [26, 8, 13, 14, 15, 6, 16, 17, 18, 19, 20, 21, 22, 27, 28, 29, 30, 31, 32, 33, 34, 35, 36, 11, 37, 46, 47] (by decide +kernel) (by decide +kernel)
set_option maxRecDepth 20000 in
theorem gX2_quotient_X1_becomeDifference : GoodIn wsX2_quotient (wsV RX2 82 RX1 yX1_becomeDifference wsX1_becomeDifference) := goodIn_app (goodIn_of _ (by decide +kernel)) ggX2_quotient_X1_becomeDifference
set_option maxRecDepth 20000 in
theorem ggX2_quotient_X1_shiftUp : GoodIn wsX2_quotient wsX1_shiftUp := goodIn_r _ [41, 8, 13, 14, 15, 6, 16, 17, 18, 19, 20, 21, 22, 27, 28, 29, 30, 31, 32, 33, 34, 35, 36, 11, 37, 46, 47] (by decide +kernel) (by decide +kernel)
set_option maxRecDepth 20000 in
theorem gX2_quotient_X1_shiftUp : GoodIn wsX2_quotient (wsV RX2 120 RX1 yX1_shiftUp wsX1_shiftUp) := goodIn_app (goodIn_of _ (by decide +kernel)) ggX2_quotient_X1_shiftUp
theorem dX2_quotient_0 : decode cX2_quotient 0 = .ok (.lconst 0, 1) := by decide +kernel
theorem dX2_quotient_1 : decode cX2_quotient 1 = .ok (.lstore_n 2, 1) := by decide +kernel
theorem dX2_quotient_2 : decode cX2_quotient 2 = .ok (.iconst 0, 1) := by decide +kernel
theorem dX2_quotient_3 : decode cX2_quotient 3 = .ok (.istore 4, 2) := by decide +kernel
theorem dX2_quotient_5 : decode cX2_quotient 5 = .ok (.iload 4, 2) := by decide +kernel
theorem dX2_quotient_7 : decode cX2_quotient 7 = .ok (.iload_n 1, 1) := by decide +kernel
theorem dX2_quotient_8 : decode cX2_quotient 8 = .ok (.if_icmp .ge 54, 3) := by decide +kernel
theorem dX2_quotient_11 : decode cX2_quotient 11 = .ok (.lload_n 2, 1) := by decide +kernel
theorem dX2_quotient_12 : decode cX2_quotient 12 = .ok (.iconst 1, 1) := by decide +kernel
theorem dX2_quotient_13 : decode cX2_quotient 13 = .ok (.lshl, 1) := by decide +kernel
theorem dX2_quotient_14 : decode cX2_quotient 14 = .ok (.lstore_n 2, 1) := by decide +kernel
theorem dX2_quotient_15 : decode cX2_quotient 15 = .ok (.aload_n 0, 1) := by decide +kernel
theorem dX2_quotient_16 : decode cX2_quotient 16 = .ok (.getfield 22, 3) := by decide +kernel
theorem dX2_quotient_19 : decode cX2_quotient 19 = .ok (.aload_n 0, 1) := by decide +kernel
theorem dX2_quotient_20 : decode cX2_quotient 20 = .ok (.getfield 26, 3) := by decide +kernel
theorem dX2_quotient_23 : decode cX2_quotient 23 = .ok (.invokevirtual 79, 3) := by decide +kernel
theorem dX2_quotient_26 : decode cX2_quotient 26 = .ok (.ifCond .lt 22, 3) := by decide +kernel
theorem dX2_quotient_29 : decode cX2_quotient 29 = .ok (.aload_n 0, 1) := by decide +kernel
theorem dX2_quotient_30 : decode cX2_quotient 30 = .ok (.getfield 22, 3) := by decide +kernel
theorem dX2_quotient_33 : decode cX2_quotient 33 = .ok (.aload_n 0, 1) := by decide +kernel
theorem dX2_quotient_34 : decode cX2_quotient 34 = .ok (.getfield 22, 3) := by decide +kernel
theorem dX2_quotient_37 : decode cX2_quotient 37 = .ok (.aload_n 0, 1) := by decide +kernel
theorem dX2_quotient_38 : decode cX2_quotient 38 = .ok (.getfield 26, 3) := by decide +kernel
theorem dX2_quotient_41 : decode cX2_quotient 41 = .ok (.invokevirtual 82, 3) := by decide +kernel
theorem dX2_quotient_44 : decode cX2_quotient 44 = .ok (.lload_n 2, 1) := by decide +kernel
theorem dX2_quotient_45 : decode cX2_quotient 45 = .ok (.lconst 1, 1) := by decide +kernel
theorem dX2_quotient_46 : decode cX2_quotient 46 = .ok (.lor, 1) := by decide +kernel
theorem dX2_quotient_47 : decode cX2_quotient 47 = .ok (.lstore_n 2, 1) := by decide +kernel
theorem dX2_quotient_48 : decode cX2_quotient 48 = .ok (.aload_n 0, 1) := by decide +kernel
theorem dX2_quotient_49 : decode cX2_quotient 49 = .ok (.getfield 22, 3) := by decide +kernel
theorem dX2_quotient_52 : decode cX2_quotient 52 = .ok (.iconst 1, 1) := by decide +kernel
theorem dX2_quotient_53 : decode cX2_quotient 53 = .ok (.invokevirtual 120, 3) := by decide +kernel
theorem dX2_quotient_56 : decode cX2_quotient 56 = .ok (.iinc 4 1, 3) := by decide +kernel
theorem dX2_quotient_59 : decode cX2_quotient 59 = .ok (.goto (-54), 3) := by decide +kernel
theorem dX2_quotient_62 : decode cX2_quotient 62 = .ok (.lload_n 2, 1) := by decide +kernel
theorem dX2_quotient_63 : decode cX2_quotient 63 = .ok (.lreturn, 1) := by decide +kernel
theorem dJ9_max_7cf53_0 : decode cJ9_max_7cf53 0 = .ok (.iload_n 0, 1) := by decide +kernel
theorem dJ9_max_7cf53_1 : decode cJ9_max_7cf53 1 = .ok (.iload_n 1, 1) := by decide +kernel
theorem dJ9_max_7cf53_2 : decode cJ9_max_7cf53 2 = .ok (.if_icmp .lt 7, 3) := by decide +kernel
theorem dJ9_max_7cf53_5 : decode cJ9_max_7cf53 5 = .ok (.iload_n 0, 1) := by decide +kernel
theorem dJ9_max_7cf53_6 : decode cJ9_max_7cf53 6 = .ok (.goto 4, 3) := by decide +kernel
theorem dJ9_max_7cf53_9 : decode cJ9_max_7cf53 9 = .ok (.iload_n 1, 1) := by decide +kernel
theorem dJ9_max_7cf53_10 : decode cJ9_max_7cf53 10 = .ok (.ireturn, 1) := by decide +kernel
theorem dJ9_min_7cf53_0 : decode cJ9_min_7cf53 0 = .ok (.iload_n 0, 1) := by decide +kernel
theorem dJ9_min_7cf53_1 : decode cJ9_min_7cf53 1 = .ok (.iload_n 1, 1) := by decide +kernel
theorem dJ9_min_7cf53_2 : decode cJ9_min_7cf53 2 = .ok (.if_icmp .gt 7, 3) := by decide +kernel
theorem dJ9_min_7cf53_5 : decode cJ9_min_7cf53 5 = .ok (.iload_n 0, 1) := by decide +kernel
theorem dJ9_min_7cf53_6 : decode cJ9_min_7cf53 6 = .ok (.goto 4, 3) := by decide +kernel
theorem dJ9_min_7cf53_9 : decode cJ9_min_7cf53 9 = .ok (.iload_n 1, 1) := by decide +kernel
theorem dJ9_min_7cf53_10 : decode cJ9_min_7cf53 10 = .ok (.ireturn, 1) := by decide +kernel
theorem dL_law_0 : decode cL_law 0 = .ok (.new 7, 3) := by decide +kernel
theorem dL_law_3 : decode cL_law 3 = .ok (.dup, 1) := by decide +kernel
theorem dL_law_4 : decode cL_law 4 = .ok (.invokespecial 9, 3) := by decide +kernel
theorem dL_law_7 : decode cL_law 7 = .ok (.astore_n 1, 1) := by decide +kernel
theorem dL_law_8 : decode cL_law 8 = .ok (.new 10, 3) := by decide +kernel
theorem dL_law_11 : decode cL_law 11 = .ok (.dup, 1) := by decide +kernel
theorem dL_law_12 : decode cL_law 12 = .ok (.invokespecial 12, 3) := by decide +kernel
theorem dL_law_15 : decode cL_law 15 = .ok (.astore_n 2, 1) := by decide +kernel
theorem dL_law_16 : decode cL_law 16 = .ok (.iconst 0, 1) := by decide +kernel
theorem dL_law_17 : decode cL_law 17 = .ok (.istore_n 3, 1) := by decide +kernel
theorem dL_law_18 : decode cL_law 18 = .ok (.iload_n 3, 1) := by decide +kernel
theorem dL_law_19 : decode cL_law 19 = .ok (.aload_n 0, 1) := by decide +kernel
theorem dL_law_20 : decode cL_law 20 = .ok (.arraylength, 1) := by decide +kernel
theorem dL_law_21 : decode cL_law 21 = .ok (.iconst 5, 1) := by decide +kernel
theorem dL_law_22 : decode cL_law 22 = .ok (.isub, 1) := by decide +kernel
theorem dL_law_23 : decode cL_law 23 = .ok (.if_icmp .gt 490, 3) := by decide +kernel
theorem dL_law_26 : decode cL_law 26 = .ok (.aload_n 0, 1) := by decide +kernel
theorem dL_law_27 : decode cL_law 27 = .ok (.iload_n 3, 1) := by decide +kernel
theorem dL_law_28 : decode cL_law 28 = .ok (.iaload, 1) := by decide +kernel
theorem dL_law_29 : decode cL_law 29 = .ok (.bipush 15, 2) := by decide +kernel
theorem dL_law_31 : decode cL_law 31 = .ok (.iand, 1) := by decide +kernel
theorem dL_law_32 : decode cL_law 32 = .ok (.tableswitch 475 0 9 #[56, 79, 132, 205, 264, 287, 336, 369, 412, 425], 56) := by decide +kernel
theorem dL_law_88 : decode cL_law 88 = .ok (.aload_n 1, 1) := by decide +kernel
theorem dL_law_89 : decode cL_law 89 = .ok (.aload_n 0, 1) := by decide +kernel
theorem dL_law_90 : decode cL_law 90 = .ok (.iload_n 3, 1) := by decide +kernel
theorem dL_law_91 : decode cL_law 91 = .ok (.iconst 1, 1) := by decide +kernel
theorem dL_law_92 : decode cL_law 92 = .ok (.iadd, 1) := by decide +kernel
theorem dL_law_93 : decode cL_law 93 = .ok (.iaload, 1) := by decide +kernel
theorem dL_law_94 : decode cL_law 94 = .ok (.invokevirtual 13, 3) := by decide +kernel
theorem dL_law_97 : decode cL_law 97 = .ok (.aload_n 2, 1) := by decide +kernel
theorem dL_law_98 : decode cL_law 98 = .ok (.aload_n 0, 1) := by decide +kernel
theorem dL_law_99 : decode cL_law 99 = .ok (.iload_n 3, 1) := by decide +kernel
theorem dL_law_100 : decode cL_law 100 = .ok (.iconst 1, 1) := by decide +kernel
theorem dL_law_101 : decode cL_law 101 = .ok (.iadd, 1) := by decide +kernel
theorem dL_law_102 : decode cL_law 102 = .ok (.iaload, 1) := by decide +kernel
theorem dL_law_103 : decode cL_law 103 = .ok (.invokevirtual 17, 3) := by decide +kernel
theorem dL_law_106 : decode cL_law 106 = .ok (.if_icmp .eq 401, 3) := by decide +kernel
theorem dL_law_109 : decode cL_law 109 = .ok (.iconst 0, 1) := by decide +kernel
theorem dL_law_110 : decode cL_law 110 = .ok (.ireturn, 1) := by decide +kernel
theorem dL_law_111 : decode cL_law 111 = .ok (.aload_n 1, 1) := by decide +kernel
theorem dL_law_112 : decode cL_law 112 = .ok (.aload_n 0, 1) := by decide +kernel
theorem dL_law_113 : decode cL_law 113 = .ok (.iload_n 3, 1) := by decide +kernel
theorem dL_law_114 : decode cL_law 114 = .ok (.iconst 1, 1) := by decide +kernel
theorem dL_law_115 : decode cL_law 115 = .ok (.iadd, 1) := by decide +kernel
theorem dL_law_116 : decode cL_law 116 = .ok (.iaload, 1) := by decide +kernel
theorem dL_law_117 : decode cL_law 117 = .ok (.aload_n 0, 1) := by decide +kernel
theorem dL_law_118 : decode cL_law 118 = .ok (.iload_n 3, 1) := by decide +kernel
theorem dL_law_119 : decode cL_law 119 = .ok (.iconst 2, 1) := by decide +kernel
theorem dL_law_120 : decode cL_law 120 = .ok (.iadd, 1) := by decide +kernel
theorem dL_law_121 : decode cL_law 121 = .ok (.iaload, 1) := by decide +kernel
theorem dL_law_122 : decode cL_law 122 = .ok (.aload_n 0, 1) := by decide +kernel
theorem dL_law_123 : decode cL_law 123 = .ok (.iload_n 3, 1) := by decide +kernel
theorem dL_law_124 : decode cL_law 124 = .ok (.iconst 3, 1) := by decide +kernel
theorem dL_law_125 : decode cL_law 125 = .ok (.iadd, 1) := by decide +kernel
theorem dL_law_126 : decode cL_law 126 = .ok (.iaload, 1) := by decide +kernel
theorem dL_law_127 : decode cL_law 127 = .ok (.aload_n 0, 1) := by decide +kernel
theorem dL_law_128 : decode cL_law 128 = .ok (.iload_n 3, 1) := by decide +kernel
theorem dL_law_129 : decode cL_law 129 = .ok (.iconst 4, 1) := by decide +kernel
theorem dL_law_130 : decode cL_law 130 = .ok (.iadd, 1) := by decide +kernel
theorem dL_law_131 : decode cL_law 131 = .ok (.iaload, 1) := by decide +kernel
theorem dL_law_132 : decode cL_law 132 = .ok (.invokevirtual 18, 3) := by decide +kernel
theorem dL_law_135 : decode cL_law 135 = .ok (.aload_n 2, 1) := by decide +kernel
theorem dL_law_136 : decode cL_law 136 = .ok (.aload_n 0, 1) := by decide +kernel
theorem dL_law_137 : decode cL_law 137 = .ok (.iload_n 3, 1) := by decide +kernel
theorem dL_law_138 : decode cL_law 138 = .ok (.iconst 1, 1) := by decide +kernel
theorem dL_law_139 : decode cL_law 139 = .ok (.iadd, 1) := by decide +kernel
theorem dL_law_140 : decode cL_law 140 = .ok (.iaload, 1) := by decide +kernel
theorem dL_law_141 : decode cL_law 141 = .ok (.aload_n 0, 1) := by decide +kernel
theorem dL_law_142 : decode cL_law 142 = .ok (.iload_n 3, 1) := by decide +kernel
theorem dL_law_143 : decode cL_law 143 = .ok (.iconst 2, 1) := by decide +kernel
theorem dL_law_144 : decode cL_law 144 = .ok (.iadd, 1) := by decide +kernel
theorem dL_law_145 : decode cL_law 145 = .ok (.iaload, 1) := by decide +kernel
theorem dL_law_146 : decode cL_law 146 = .ok (.aload_n 0, 1) := by decide +kernel
theorem dL_law_147 : decode cL_law 147 = .ok (.iload_n 3, 1) := by decide +kernel
theorem dL_law_148 : decode cL_law 148 = .ok (.iconst 3, 1) := by decide +kernel
theorem dL_law_149 : decode cL_law 149 = .ok (.iadd, 1) := by decide +kernel
theorem dL_law_150 : decode cL_law 150 = .ok (.iaload, 1) := by decide +kernel
theorem dL_law_151 : decode cL_law 151 = .ok (.aload_n 0, 1) := by decide +kernel
theorem dL_law_152 : decode cL_law 152 = .ok (.iload_n 3, 1) := by decide +kernel
theorem dL_law_153 : decode cL_law 153 = .ok (.iconst 4, 1) := by decide +kernel
theorem dL_law_154 : decode cL_law 154 = .ok (.iadd, 1) := by decide +kernel
theorem dL_law_155 : decode cL_law 155 = .ok (.iaload, 1) := by decide +kernel
theorem dL_law_156 : decode cL_law 156 = .ok (.invokevirtual 22, 3) := by decide +kernel
