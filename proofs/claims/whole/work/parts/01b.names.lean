theorem dX1_isZero_7 : decode cX1_isZero 7 = .ok (.iconst 1, 1) := by decide +kernel
theorem dX1_isZero_8 : decode cX1_isZero 8 = .ok (.goto 4, 3) := by decide +kernel
theorem dX1_isZero_11 : decode cX1_isZero 11 = .ok (.iconst 0, 1) := by decide +kernel
theorem dX1_isZero_12 : decode cX1_isZero 12 = .ok (.ireturn, 1) := by decide +kernel
set_option maxRecDepth 20000 in
theorem ggX1_length_X1_isZero : GoodIn wsX1_length wsX1_isZero := goodIn_r _ [6, 1, 12, 13] (by decide +kernel) (by decide +kernel)
set_option maxRecDepth 20000 in
theorem gX1_length_X1_isZero : GoodIn wsX1_length (wsV RX1 35 RX1 yX1_isZero wsX1_isZero) := goodIn_app (goodIn_of _ (by decide +kernel)) ggX1_length_X1_isZero
set_option maxRecDepth 20000 in
theorem ggX1_length_X1_wordAt : GoodIn wsX1_length wsX1_wordAt := goodIn_r _ [10, 11, 12, 13] (by decide +kernel) (by decide +kernel)
set_option maxRecDepth 20000 in
theorem gX1_length_X1_wordAt : GoodIn wsX1_length (wsV RX1 19 RX1 yX1_wordAt wsX1_wordAt) := goodIn_app (goodIn_of _ (by decide +kernel)) ggX1_length_X1_wordAt
theorem dX1_length_0 : decode cX1_length 0 = .ok (.aload_n 0, 1) := by decide +kernel
theorem dX1_length_1 : decode cX1_length 1 = .ok (.invokevirtual 35, 3) := by decide +kernel
theorem dX1_length_4 : decode cX1_length 4 = .ok (.ifCond .eq 5, 3) := by decide +kernel
theorem dX1_length_7 : decode cX1_length 7 = .ok (.iconst 0, 1) := by decide +kernel
theorem dX1_length_8 : decode cX1_length 8 = .ok (.ireturn, 1) := by decide +kernel
theorem dX1_length_9 : decode cX1_length 9 = .ok (.aload_n 0, 1) := by decide +kernel
theorem dX1_length_10 : decode cX1_length 10 = .ok (.aload_n 0, 1) := by decide +kernel
theorem dX1_length_11 : decode cX1_length 11 = .ok (.getfield 15, 3) := by decide +kernel
theorem dX1_length_14 : decode cX1_length 14 = .ok (.iconst 1, 1) := by decide +kernel
theorem dX1_length_15 : decode cX1_length 15 = .ok (.isub, 1) := by decide +kernel
theorem dX1_length_16 : decode cX1_length 16 = .ok (.invokevirtual 19, 3) := by decide +kernel
theorem dX1_length_19 : decode cX1_length 19 = .ok (.istore_n 1, 1) := by decide +kernel
theorem dX1_length_20 : decode cX1_length 20 = .ok (.iconst 0, 1) := by decide +kernel
theorem dX1_length_21 : decode cX1_length 21 = .ok (.istore_n 2, 1) := by decide +kernel
theorem dX1_length_22 : decode cX1_length 22 = .ok (.iload_n 2, 1) := by decide +kernel
theorem dX1_length_23 : decode cX1_length 23 = .ok (.bipush 32, 2) := by decide +kernel
theorem dX1_length_25 : decode cX1_length 25 = .ok (.if_icmp .ge 15, 3) := by decide +kernel
theorem dX1_length_28 : decode cX1_length 28 = .ok (.iload_n 1, 1) := by decide +kernel
theorem dX1_length_29 : decode cX1_length 29 = .ok (.iload_n 2, 1) := by decide +kernel
theorem dX1_length_30 : decode cX1_length 30 = .ok (.iushr, 1) := by decide +kernel
theorem dX1_length_31 : decode cX1_length 31 = .ok (.ifCond .eq 9, 3) := by decide +kernel
theorem dX1_length_34 : decode cX1_length 34 = .ok (.iinc 2 1, 3) := by decide +kernel
theorem dX1_length_37 : decode cX1_length 37 = .ok (.goto (-15), 3) := by decide +kernel
theorem dX1_length_40 : decode cX1_length 40 = .ok (.bipush 32, 2) := by decide +kernel
theorem dX1_length_42 : decode cX1_length 42 = .ok (.aload_n 0, 1) := by decide +kernel
theorem dX1_length_43 : decode cX1_length 43 = .ok (.getfield 15, 3) := by decide +kernel
theorem dX1_length_46 : decode cX1_length 46 = .ok (.iconst 1, 1) := by decide +kernel
theorem dX1_length_47 : decode cX1_length 47 = .ok (.isub, 1) := by decide +kernel
theorem dX1_length_48 : decode cX1_length 48 = .ok (.imul, 1) := by decide +kernel
theorem dX1_length_49 : decode cX1_length 49 = .ok (.iload_n 2, 1) := by decide +kernel
theorem dX1_length_50 : decode cX1_length 50 = .ok (.iadd, 1) := by decide +kernel
theorem dX1_length_51 : decode cX1_length 51 = .ok (.ireturn, 1) := by decide +kernel
set_option maxRecDepth 20000 in
theorem ggX1_order_X1_valueAt : GoodIn wsX1_order wsX1_valueAt := goodIn_r _ [10, 11, 12, 13, 14, 9, 15, 16, 17, 18] (by decide +kernel) (by decide +kernel)
set_option maxRecDepth 20000 in
theorem gX1_order_X1_valueAt : GoodIn wsX1_order (wsV RX1 42 RX1 yX1_valueAt wsX1_valueAt) := goodIn_app (goodIn_of _ (by decide +kernel)) ggX1_order_X1_valueAt
theorem dX1_order_0 : decode cX1_order 0 = .ok (.aload_n 0, 1) := by decide +kernel
theorem dX1_order_1 : decode cX1_order 1 = .ok (.getfield 15, 3) := by decide +kernel
theorem dX1_order_4 : decode cX1_order 4 = .ok (.aload_n 1, 1) := by decide +kernel
theorem dX1_order_5 : decode cX1_order 5 = .ok (.getfield 15, 3) := by decide +kernel
theorem dX1_order_8 : decode cX1_order 8 = .ok (.invokestatic 39, 3) := by decide +kernel
theorem dX1_order_11 : decode cX1_order 11 = .ok (.iconst 1, 1) := by decide +kernel
theorem dX1_order_12 : decode cX1_order 12 = .ok (.isub, 1) := by decide +kernel
theorem dX1_order_13 : decode cX1_order 13 = .ok (.istore_n 2, 1) := by decide +kernel
theorem dX1_order_14 : decode cX1_order 14 = .ok (.iload_n 2, 1) := by decide +kernel
theorem dX1_order_15 : decode cX1_order 15 = .ok (.ifCond .lt 39, 3) := by decide +kernel
theorem dX1_order_18 : decode cX1_order 18 = .ok (.aload_n 0, 1) := by decide +kernel
theorem dX1_order_19 : decode cX1_order 19 = .ok (.iload_n 2, 1) := by decide +kernel
theorem dX1_order_20 : decode cX1_order 20 = .ok (.invokevirtual 42, 3) := by decide +kernel
theorem dX1_order_23 : decode cX1_order 23 = .ok (.aload_n 1, 1) := by decide +kernel
theorem dX1_order_24 : decode cX1_order 24 = .ok (.iload_n 2, 1) := by decide +kernel
theorem dX1_order_25 : decode cX1_order 25 = .ok (.invokevirtual 42, 3) := by decide +kernel
theorem dX1_order_28 : decode cX1_order 28 = .ok (.lsub, 1) := by decide +kernel
theorem dX1_order_29 : decode cX1_order 29 = .ok (.lstore_n 3, 1) := by decide +kernel
theorem dX1_order_30 : decode cX1_order 30 = .ok (.lload_n 3, 1) := by decide +kernel
theorem dX1_order_31 : decode cX1_order 31 = .ok (.lconst 0, 1) := by decide +kernel
theorem dX1_order_32 : decode cX1_order 32 = .ok (.lcmp, 1) := by decide +kernel
theorem dX1_order_33 : decode cX1_order 33 = .ok (.ifCond .eq 15, 3) := by decide +kernel
theorem dX1_order_36 : decode cX1_order 36 = .ok (.lload_n 3, 1) := by decide +kernel
theorem dX1_order_37 : decode cX1_order 37 = .ok (.lconst 0, 1) := by decide +kernel
theorem dX1_order_38 : decode cX1_order 38 = .ok (.lcmp, 1) := by decide +kernel
theorem dX1_order_39 : decode cX1_order 39 = .ok (.ifCond .ge 7, 3) := by decide +kernel
theorem dX1_order_42 : decode cX1_order 42 = .ok (.iconst (-1), 1) := by decide +kernel
theorem dX1_order_43 : decode cX1_order 43 = .ok (.goto 4, 3) := by decide +kernel
theorem dX1_order_46 : decode cX1_order 46 = .ok (.iconst 1, 1) := by decide +kernel
theorem dX1_order_47 : decode cX1_order 47 = .ok (.ireturn, 1) := by decide +kernel
theorem dX1_order_48 : decode cX1_order 48 = .ok (.iinc 2 (-1), 3) := by decide +kernel
theorem dX1_order_51 : decode cX1_order 51 = .ok (.goto (-37), 3) := by decide +kernel
theorem dX1_order_54 : decode cX1_order 54 = .ok (.iconst 0, 1) := by decide +kernel
theorem dX1_order_55 : decode cX1_order 55 = .ok (.ireturn, 1) := by decide +kernel
set_option maxRecDepth 20000 in
theorem ggX1_become_X1_put : GoodIn wsX1_become wsX1_put := goodIn_r _ [5, 6, 20, 21] (by decide +kernel) (by decide +kernel)
set_option maxRecDepth 20000 in
theorem gX1_become_X1_put : GoodIn wsX1_become (wsV RX1 25 RX1 yX1_put wsX1_put) := goodIn_app (goodIn_of _ (by decide +kernel)) ggX1_become_X1_put
set_option maxRecDepth 20000 in
theorem ggX1_become_X1_settle : GoodIn wsX1_become wsX1_settle := goodIn_r _ [10, 11, 6, 12, 13, 14, 15, 1, 2, 3, 4, 5, 16, 17, 18, 19, 20, 21] (by decide +kernel) (by decide +kernel)
set_option maxRecDepth 20000 in
theorem gX1_become_X1_settle : GoodIn wsX1_become (wsV RX1 46 RX1 yX1_settle wsX1_settle) := goodIn_app (goodIn_of _ (by decide +kernel)) ggX1_become_X1_settle
theorem dX1_become_0 : decode cX1_become 0 = .ok (.aload_n 0, 1) := by decide +kernel
theorem dX1_become_1 : decode cX1_become 1 = .ok (.iconst 0, 1) := by decide +kernel
theorem dX1_become_2 : decode cX1_become 2 = .ok (.lload_n 1, 1) := by decide +kernel
theorem dX1_become_3 : decode cX1_become 3 = .ok (.invokevirtual 25, 3) := by decide +kernel
theorem dX1_become_6 : decode cX1_become 6 = .ok (.aload_n 0, 1) := by decide +kernel
theorem dX1_become_7 : decode cX1_become 7 = .ok (.iconst 1, 1) := by decide +kernel
theorem dX1_become_8 : decode cX1_become 8 = .ok (.lload_n 1, 1) := by decide +kernel
theorem dX1_become_9 : decode cX1_become 9 = .ok (.bipush 32, 2) := by decide +kernel
theorem dX1_become_11 : decode cX1_become 11 = .ok (.lushr, 1) := by decide +kernel
theorem dX1_become_12 : decode cX1_become 12 = .ok (.invokevirtual 25, 3) := by decide +kernel
theorem dX1_become_15 : decode cX1_become 15 = .ok (.aload_n 0, 1) := by decide +kernel
theorem dX1_become_16 : decode cX1_become 16 = .ok (.iconst 2, 1) := by decide +kernel
theorem dX1_become_17 : decode cX1_become 17 = .ok (.invokevirtual 46, 3) := by decide +kernel
theorem dX1_become_20 : decode cX1_become 20 = .ok (.return_, 1) := by decide +kernel
set_option maxRecDepth 20000 in
theorem ggX1_copy_X1_wordAt : GoodIn wsX1_copy wsX1_wordAt := goodIn_r _ [6, 7, 20, 21] (by decide +kernel) (by decide +kernel)
set_option maxRecDepth 20000 in
theorem gX1_copy_X1_wordAt : GoodIn wsX1_copy (wsV RX1 19 RX1 yX1_wordAt wsX1_wordAt) := goodIn_app (goodIn_of _ (by decide +kernel)) ggX1_copy_X1_wordAt
set_option maxRecDepth 20000 in
theorem ggX1_copy_X1_put : GoodIn wsX1_copy wsX1_put := goodIn_r _ [11, 7, 20, 21] (by decide +kernel) (by decide +kernel)
set_option maxRecDepth 20000 in
theorem gX1_copy_X1_put : GoodIn wsX1_copy (wsV RX1 25 RX1 yX1_put wsX1_put) := goodIn_app (goodIn_of _ (by decide +kernel)) ggX1_copy_X1_put
set_option maxRecDepth 20000 in
theorem ggX1_copy_X1_settle : GoodIn wsX1_copy wsX1_settle := goodIn_r _ [15, 1, 7, 16, 17, 18, 19, 8, 9, 10, 5, 11, 2, 3, 4, 6, 20, 21] (by decide +kernel) (by decide +kernel)
set_option maxRecDepth 20000 in
theorem gX1_copy_X1_settle : GoodIn wsX1_copy (wsV RX1 46 RX1 yX1_settle wsX1_settle) := goodIn_app (goodIn_of _ (by decide +kernel)) ggX1_copy_X1_settle
theorem dX1_copy_0 : decode cX1_copy 0 = .ok (.iconst 0, 1) := by decide +kernel
theorem dX1_copy_1 : decode cX1_copy 1 = .ok (.istore_n 2, 1) := by decide +kernel
theorem dX1_copy_2 : decode cX1_copy 2 = .ok (.iload_n 2, 1) := by decide +kernel
theorem dX1_copy_3 : decode cX1_copy 3 = .ok (.aload_n 1, 1) := by decide +kernel
theorem dX1_copy_4 : decode cX1_copy 4 = .ok (.getfield 15, 3) := by decide +kernel
theorem dX1_copy_7 : decode cX1_copy 7 = .ok (.if_icmp .ge 20, 3) := by decide +kernel
theorem dX1_copy_10 : decode cX1_copy 10 = .ok (.aload_n 0, 1) := by decide +kernel
theorem dX1_copy_11 : decode cX1_copy 11 = .ok (.iload_n 2, 1) := by decide +kernel
theorem dX1_copy_12 : decode cX1_copy 12 = .ok (.aload_n 1, 1) := by decide +kernel
theorem dX1_copy_13 : decode cX1_copy 13 = .ok (.iload_n 2, 1) := by decide +kernel
theorem dX1_copy_14 : decode cX1_copy 14 = .ok (.invokevirtual 19, 3) := by decide +kernel
theorem dX1_copy_17 : decode cX1_copy 17 = .ok (.i2l, 1) := by decide +kernel
theorem dX1_copy_18 : decode cX1_copy 18 = .ok (.invokevirtual 25, 3) := by decide +kernel
theorem dX1_copy_21 : decode cX1_copy 21 = .ok (.iinc 2 1, 3) := by decide +kernel
theorem dX1_copy_24 : decode cX1_copy 24 = .ok (.goto (-22), 3) := by decide +kernel
theorem dX1_copy_27 : decode cX1_copy 27 = .ok (.aload_n 0, 1) := by decide +kernel
theorem dX1_copy_28 : decode cX1_copy 28 = .ok (.aload_n 1, 1) := by decide +kernel
theorem dX1_copy_29 : decode cX1_copy 29 = .ok (.getfield 15, 3) := by decide +kernel
theorem dX1_copy_32 : decode cX1_copy 32 = .ok (.invokevirtual 46, 3) := by decide +kernel
theorem dX1_copy_35 : decode cX1_copy 35 = .ok (.return_, 1) := by decide +kernel
set_option maxRecDepth 20000 in
theorem ggX1_becomeMultiple_X1_valueAt : GoodIn wsX1_becomeMultiple wsX1_valueAt := goodIn_r _ [6, 7, 8, 9, 10, 5, 11, 12, 25, 26] (by decide +kernel) (by decide +kernel)
set_option maxRecDepth 20000 in
theorem gX1_becomeMultiple_X1_valueAt : GoodIn wsX1_becomeMultiple (wsV RX1 42 RX1 yX1_valueAt wsX1_valueAt) := goodIn_app (goodIn_of _ (by decide +kernel)) ggX1_becomeMultiple_X1_valueAt
set_option maxRecDepth 20000 in
theorem ggX1_becomeMultiple_X1_put : GoodIn wsX1_becomeMultiple wsX1_put := goodIn_r _ [16, 12, 25, 26] (by decide +kernel) (by decide +kernel)
set_option maxRecDepth 20000 in
theorem gX1_becomeMultiple_X1_put : GoodIn wsX1_becomeMultiple (wsV RX1 25 RX1 yX1_put wsX1_put) := goodIn_app (goodIn_of _ (by decide +kernel)) ggX1_becomeMultiple_X1_put
set_option maxRecDepth 20000 in
theorem ggX1_becomeMultiple_X1_settle : GoodIn wsX1_becomeMultiple wsX1_settle := goodIn_r _ [20, 1, 12, 21, 22, 23, 24, 13, 14, 15, 5, 16, 8, 9, 10, 11, 25, 26] (by decide +kernel) (by decide +kernel)
set_option maxRecDepth 20000 in
theorem gX1_becomeMultiple_X1_settle : GoodIn wsX1_becomeMultiple (wsV RX1 46 RX1 yX1_settle wsX1_settle) := goodIn_app (goodIn_of _ (by decide +kernel)) ggX1_becomeMultiple_X1_settle
theorem dX1_becomeMultiple_0 : decode cX1_becomeMultiple 0 = .ok (.iload_n 3, 1) := by decide +kernel
theorem dX1_becomeMultiple_1 : decode cX1_becomeMultiple 1 = .ok (.i2l, 1) := by decide +kernel
theorem dX1_becomeMultiple_2 : decode cX1_becomeMultiple 2 = .ok (.lstore 4, 2) := by decide +kernel
theorem dX1_becomeMultiple_4 : decode cX1_becomeMultiple 4 = .ok (.iconst 0, 1) := by decide +kernel
theorem dX1_becomeMultiple_5 : decode cX1_becomeMultiple 5 = .ok (.istore 6, 2) := by decide +kernel
theorem dX1_becomeMultiple_7 : decode cX1_becomeMultiple 7 = .ok (.iload 6, 2) := by decide +kernel
theorem dX1_becomeMultiple_9 : decode cX1_becomeMultiple 9 = .ok (.aload_n 1, 1) := by decide +kernel
theorem dX1_becomeMultiple_10 : decode cX1_becomeMultiple 10 = .ok (.getfield 15, 3) := by decide +kernel
theorem dX1_becomeMultiple_13 : decode cX1_becomeMultiple 13 = .ok (.if_icmp .ge 38, 3) := by decide +kernel
theorem dX1_becomeMultiple_16 : decode cX1_becomeMultiple 16 = .ok (.lload 4, 2) := by decide +kernel
theorem dX1_becomeMultiple_18 : decode cX1_becomeMultiple 18 = .ok (.aload_n 1, 1) := by decide +kernel
theorem dX1_becomeMultiple_19 : decode cX1_becomeMultiple 19 = .ok (.iload 6, 2) := by decide +kernel
theorem dX1_becomeMultiple_21 : decode cX1_becomeMultiple 21 = .ok (.invokevirtual 42, 3) := by decide +kernel
theorem dX1_becomeMultiple_24 : decode cX1_becomeMultiple 24 = .ok (.iload_n 2, 1) := by decide +kernel
theorem dX1_becomeMultiple_25 : decode cX1_becomeMultiple 25 = .ok (.i2l, 1) := by decide +kernel
theorem dX1_becomeMultiple_26 : decode cX1_becomeMultiple 26 = .ok (.lmul, 1) := by decide +kernel
theorem dX1_becomeMultiple_27 : decode cX1_becomeMultiple 27 = .ok (.ladd, 1) := by decide +kernel
theorem dX1_becomeMultiple_28 : decode cX1_becomeMultiple 28 = .ok (.lstore 4, 2) := by decide +kernel
theorem dX1_becomeMultiple_30 : decode cX1_becomeMultiple 30 = .ok (.aload_n 0, 1) := by decide +kernel
theorem dX1_becomeMultiple_31 : decode cX1_becomeMultiple 31 = .ok (.iload 6, 2) := by decide +kernel
theorem dX1_becomeMultiple_33 : decode cX1_becomeMultiple 33 = .ok (.lload 4, 2) := by decide +kernel
theorem dX1_becomeMultiple_35 : decode cX1_becomeMultiple 35 = .ok (.invokevirtual 25, 3) := by decide +kernel
theorem dX1_becomeMultiple_38 : decode cX1_becomeMultiple 38 = .ok (.lload 4, 2) := by decide +kernel
theorem dX1_becomeMultiple_40 : decode cX1_becomeMultiple 40 = .ok (.bipush 32, 2) := by decide +kernel
theorem dX1_becomeMultiple_42 : decode cX1_becomeMultiple 42 = .ok (.lushr, 1) := by decide +kernel
theorem dX1_becomeMultiple_43 : decode cX1_becomeMultiple 43 = .ok (.lstore 4, 2) := by decide +kernel
theorem dX1_becomeMultiple_45 : decode cX1_becomeMultiple 45 = .ok (.iinc 6 1, 3) := by decide +kernel
theorem dX1_becomeMultiple_48 : decode cX1_becomeMultiple 48 = .ok (.goto (-41), 3) := by decide +kernel
theorem dX1_becomeMultiple_51 : decode cX1_becomeMultiple 51 = .ok (.aload_n 0, 1) := by decide +kernel
theorem dX1_becomeMultiple_52 : decode cX1_becomeMultiple 52 = .ok (.aload_n 1, 1) := by decide +kernel
theorem dX1_becomeMultiple_53 : decode cX1_becomeMultiple 53 = .ok (.getfield 15, 3) := by decide +kernel
theorem dX1_becomeMultiple_56 : decode cX1_becomeMultiple 56 = .ok (.lload 4, 2) := by decide +kernel
theorem dX1_becomeMultiple_58 : decode cX1_becomeMultiple 58 = .ok (.invokevirtual 25, 3) := by decide +kernel
theorem dX1_becomeMultiple_61 : decode cX1_becomeMultiple 61 = .ok (.aload_n 0, 1) := by decide +kernel
theorem dX1_becomeMultiple_62 : decode cX1_becomeMultiple 62 = .ok (.aload_n 1, 1) := by decide +kernel
theorem dX1_becomeMultiple_63 : decode cX1_becomeMultiple 63 = .ok (.getfield 15, 3) := by decide +kernel
theorem dX1_becomeMultiple_66 : decode cX1_becomeMultiple 66 = .ok (.iconst 1, 1) := by decide +kernel
theorem dX1_becomeMultiple_67 : decode cX1_becomeMultiple 67 = .ok (.iadd, 1) := by decide +kernel
theorem dX1_becomeMultiple_68 : decode cX1_becomeMultiple 68 = .ok (.invokevirtual 46, 3) := by decide +kernel
theorem dX1_becomeMultiple_71 : decode cX1_becomeMultiple 71 = .ok (.return_, 1) := by decide +kernel
set_option maxRecDepth 20000 in
theorem ggX1_becomeSum_X1_valueAt : GoodIn wsX1_becomeSum wsX1_valueAt := goodIn_r _ [10, 11, 12, 13, 14, 9, 15, 16, 28, 29] (by decide +kernel) (by decide +kernel)
set_option maxRecDepth 20000 in
theorem gX1_becomeSum_X1_valueAt : GoodIn wsX1_becomeSum (wsV RX1 42 RX1 yX1_valueAt wsX1_valueAt) := goodIn_app (goodIn_of _ (by decide +kernel)) ggX1_becomeSum_X1_valueAt
set_option maxRecDepth 20000 in
theorem ggX1_becomeSum_X1_put : GoodIn wsX1_becomeSum wsX1_put := goodIn_r _ [20, 16, 28, 29] (by decide +kernel) (by decide +kernel)
set_option maxRecDepth 20000 in
theorem gX1_becomeSum_X1_put : GoodIn wsX1_becomeSum (wsV RX1 25 RX1 yX1_put wsX1_put) := goodIn_app (goodIn_of _ (by decide +kernel)) ggX1_becomeSum_X1_put
set_option maxRecDepth 20000 in
theorem ggX1_becomeSum_X1_settle : GoodIn wsX1_becomeSum wsX1_settle := goodIn_r _ [24, 1, 16, 25, 26, 4, 27, 17, 18, 19, 9, 20, 12, 13, 14, 15, 28, 29] (by decide +kernel) (by decide +kernel)
set_option maxRecDepth 20000 in
theorem gX1_becomeSum_X1_settle : GoodIn wsX1_becomeSum (wsV RX1 46 RX1 yX1_settle wsX1_settle) := goodIn_app (goodIn_of _ (by decide +kernel)) ggX1_becomeSum_X1_settle
theorem dX1_becomeSum_0 : decode cX1_becomeSum 0 = .ok (.aload_n 1, 1) := by decide +kernel
theorem dX1_becomeSum_1 : decode cX1_becomeSum 1 = .ok (.getfield 15, 3) := by decide +kernel
theorem dX1_becomeSum_4 : decode cX1_becomeSum 4 = .ok (.aload_n 2, 1) := by decide +kernel
theorem dX1_becomeSum_5 : decode cX1_becomeSum 5 = .ok (.getfield 15, 3) := by decide +kernel
theorem dX1_becomeSum_8 : decode cX1_becomeSum 8 = .ok (.invokestatic 39, 3) := by decide +kernel
theorem dX1_becomeSum_11 : decode cX1_becomeSum 11 = .ok (.istore_n 3, 1) := by decide +kernel
theorem dX1_becomeSum_12 : decode cX1_becomeSum 12 = .ok (.lconst 0, 1) := by decide +kernel
theorem dX1_becomeSum_13 : decode cX1_becomeSum 13 = .ok (.lstore 4, 2) := by decide +kernel
theorem dX1_becomeSum_15 : decode cX1_becomeSum 15 = .ok (.iconst 0, 1) := by decide +kernel
theorem dX1_becomeSum_16 : decode cX1_becomeSum 16 = .ok (.istore 6, 2) := by decide +kernel
theorem dX1_becomeSum_18 : decode cX1_becomeSum 18 = .ok (.iload 6, 2) := by decide +kernel
theorem dX1_becomeSum_20 : decode cX1_becomeSum 20 = .ok (.iload_n 3, 1) := by decide +kernel
theorem dX1_becomeSum_21 : decode cX1_becomeSum 21 = .ok (.if_icmp .ge 42, 3) := by decide +kernel
theorem dX1_becomeSum_24 : decode cX1_becomeSum 24 = .ok (.lload 4, 2) := by decide +kernel
theorem dX1_becomeSum_26 : decode cX1_becomeSum 26 = .ok (.aload_n 1, 1) := by decide +kernel
theorem dX1_becomeSum_27 : decode cX1_becomeSum 27 = .ok (.iload 6, 2) := by decide +kernel
theorem dX1_becomeSum_29 : decode cX1_becomeSum 29 = .ok (.invokevirtual 42, 3) := by decide +kernel
theorem dX1_becomeSum_32 : decode cX1_becomeSum 32 = .ok (.aload_n 2, 1) := by decide +kernel
theorem dX1_becomeSum_33 : decode cX1_becomeSum 33 = .ok (.iload 6, 2) := by decide +kernel
theorem dX1_becomeSum_35 : decode cX1_becomeSum 35 = .ok (.invokevirtual 42, 3) := by decide +kernel
theorem dX1_becomeSum_38 : decode cX1_becomeSum 38 = .ok (.ladd, 1) := by decide +kernel
theorem dX1_becomeSum_39 : decode cX1_becomeSum 39 = .ok (.ladd, 1) := by decide +kernel
theorem dX1_becomeSum_40 : decode cX1_becomeSum 40 = .ok (.lstore 4, 2) := by decide +kernel
theorem dX1_becomeSum_42 : decode cX1_becomeSum 42 = .ok (.aload_n 0, 1) := by decide +kernel
theorem dX1_becomeSum_43 : decode cX1_becomeSum 43 = .ok (.iload 6, 2) := by decide +kernel
theorem dX1_becomeSum_45 : decode cX1_becomeSum 45 = .ok (.lload 4, 2) := by decide +kernel
theorem dX1_becomeSum_47 : decode cX1_becomeSum 47 = .ok (.invokevirtual 25, 3) := by decide +kernel
theorem dX1_becomeSum_50 : decode cX1_becomeSum 50 = .ok (.lload 4, 2) := by decide +kernel
theorem dX1_becomeSum_52 : decode cX1_becomeSum 52 = .ok (.bipush 32, 2) := by decide +kernel
theorem dX1_becomeSum_54 : decode cX1_becomeSum 54 = .ok (.lushr, 1) := by decide +kernel
theorem dX1_becomeSum_55 : decode cX1_becomeSum 55 = .ok (.lstore 4, 2) := by decide +kernel
theorem dX1_becomeSum_57 : decode cX1_becomeSum 57 = .ok (.iinc 6 1, 3) := by decide +kernel
theorem dX1_becomeSum_60 : decode cX1_becomeSum 60 = .ok (.goto (-42), 3) := by decide +kernel
theorem dX1_becomeSum_63 : decode cX1_becomeSum 63 = .ok (.aload_n 0, 1) := by decide +kernel
theorem dX1_becomeSum_64 : decode cX1_becomeSum 64 = .ok (.iload_n 3, 1) := by decide +kernel
theorem dX1_becomeSum_65 : decode cX1_becomeSum 65 = .ok (.lload 4, 2) := by decide +kernel
theorem dX1_becomeSum_67 : decode cX1_becomeSum 67 = .ok (.invokevirtual 25, 3) := by decide +kernel
theorem dX1_becomeSum_70 : decode cX1_becomeSum 70 = .ok (.aload_n 0, 1) := by decide +kernel
theorem dX1_becomeSum_71 : decode cX1_becomeSum 71 = .ok (.iload_n 3, 1) := by decide +kernel
theorem dX1_becomeSum_72 : decode cX1_becomeSum 72 = .ok (.iconst 1, 1) := by decide +kernel
theorem dX1_becomeSum_73 : decode cX1_becomeSum 73 = .ok (.iadd, 1) := by decide +kernel
theorem dX1_becomeSum_74 : decode cX1_becomeSum 74 = .ok (.invokevirtual 46, 3) := by decide +kernel
theorem dX1_becomeSum_77 : decode cX1_becomeSum 77 = .ok (.return_, 1) := by decide +kernel
set_option maxRecDepth 20000 in
theorem ggX1_becomeDifference_X1_valueAt : GoodIn wsX1_becomeDifference wsX1_valueAt := goodIn_r _ [6, 7, 8, 9, 10, 5, 11, 12, 25, 26] (by decide +kernel) (by decide +kernel)
set_option maxRecDepth 20000 in
theorem gX1_becomeDifference_X1_valueAt : GoodIn wsX1_becomeDifference (wsV RX1 42 RX1 yX1_valueAt wsX1_valueAt) := goodIn_app (goodIn_of _ (by decide +kernel)) ggX1_becomeDifference_X1_valueAt
set_option maxRecDepth 20000 in
theorem ggX1_becomeDifference_X1_put : GoodIn wsX1_becomeDifference wsX1_put := goodIn_r _ [16, 12, 25, 26] (by decide +kernel) (by decide +kernel)
set_option maxRecDepth 20000 in
theorem gX1_becomeDifference_X1_put : GoodIn wsX1_becomeDifference (wsV RX1 25 RX1 yX1_put wsX1_put) := goodIn_app (goodIn_of _ (by decide +kernel)) ggX1_becomeDifference_X1_put
set_option maxRecDepth 20000 in
theorem ggX1_becomeDifference_X1_settle : GoodIn wsX1_becomeDifference wsX1_settle := goodIn_r _ [20, 1, 12, 21, 22, 23, 24, 13, 14, 15, 5, 16, 8, 9, 10, 11, 25, 26] (by decide +kernel) (by decide +kernel)
set_option maxRecDepth 20000 in
theorem gX1_becomeDifference_X1_settle : GoodIn wsX1_becomeDifference (wsV RX1 46 RX1 yX1_settle wsX1_settle) := goodIn_app (goodIn_of _ (by decide +kernel)) ggX1_becomeDifference_X1_settle
theorem dX1_becomeDifference_0 : decode cX1_becomeDifference 0 = .ok (.lconst 0, 1) := by decide +kernel
theorem dX1_becomeDifference_1 : decode cX1_becomeDifference 1 = .ok (.lstore_n 3, 1) := by decide +kernel
theorem dX1_becomeDifference_2 : decode cX1_becomeDifference 2 = .ok (.iconst 0, 1) := by decide +kernel
theorem dX1_becomeDifference_3 : decode cX1_becomeDifference 3 = .ok (.istore 5, 2) := by decide +kernel
theorem dX1_becomeDifference_5 : decode cX1_becomeDifference 5 = .ok (.iload 5, 2) := by decide +kernel
theorem dX1_becomeDifference_7 : decode cX1_becomeDifference 7 = .ok (.aload_n 1, 1) := by decide +kernel
theorem dX1_becomeDifference_8 : decode cX1_becomeDifference 8 = .ok (.getfield 15, 3) := by decide +kernel
theorem dX1_becomeDifference_11 : decode cX1_becomeDifference 11 = .ok (.if_icmp .ge 37, 3) := by decide +kernel
theorem dX1_becomeDifference_14 : decode cX1_becomeDifference 14 = .ok (.lload_n 3, 1) := by decide +kernel
theorem dX1_becomeDifference_15 : decode cX1_becomeDifference 15 = .ok (.aload_n 1, 1) := by decide +kernel
theorem dX1_becomeDifference_16 : decode cX1_becomeDifference 16 = .ok (.iload 5, 2) := by decide +kernel
theorem dX1_becomeDifference_18 : decode cX1_becomeDifference 18 = .ok (.invokevirtual 42, 3) := by decide +kernel
theorem dX1_becomeDifference_21 : decode cX1_becomeDifference 21 = .ok (.aload_n 2, 1) := by decide +kernel
theorem dX1_becomeDifference_22 : decode cX1_becomeDifference 22 = .ok (.iload 5, 2) := by decide +kernel
theorem dX1_becomeDifference_24 : decode cX1_becomeDifference 24 = .ok (.invokevirtual 42, 3) := by decide +kernel
theorem dX1_becomeDifference_27 : decode cX1_becomeDifference 27 = .ok (.lsub, 1) := by decide +kernel
theorem dX1_becomeDifference_28 : decode cX1_becomeDifference 28 = .ok (.ladd, 1) := by decide +kernel
theorem dX1_becomeDifference_29 : decode cX1_becomeDifference 29 = .ok (.lstore_n 3, 1) := by decide +kernel
theorem dX1_becomeDifference_30 : decode cX1_becomeDifference 30 = .ok (.aload_n 0, 1) := by decide +kernel
theorem dX1_becomeDifference_31 : decode cX1_becomeDifference 31 = .ok (.iload 5, 2) := by decide +kernel
theorem dX1_becomeDifference_33 : decode cX1_becomeDifference 33 = .ok (.lload_n 3, 1) := by decide +kernel
theorem dX1_becomeDifference_34 : decode cX1_becomeDifference 34 = .ok (.invokevirtual 25, 3) := by decide +kernel
theorem dX1_becomeDifference_37 : decode cX1_becomeDifference 37 = .ok (.lload_n 3, 1) := by decide +kernel
theorem dX1_becomeDifference_38 : decode cX1_becomeDifference 38 = .ok (.bipush 32, 2) := by decide +kernel
theorem dX1_becomeDifference_40 : decode cX1_becomeDifference 40 = .ok (.lshr, 1) := by decide +kernel
theorem dX1_becomeDifference_41 : decode cX1_becomeDifference 41 = .ok (.lstore_n 3, 1) := by decide +kernel
theorem dX1_becomeDifference_42 : decode cX1_becomeDifference 42 = .ok (.iinc 5 1, 3) := by decide +kernel
theorem dX1_becomeDifference_45 : decode cX1_becomeDifference 45 = .ok (.goto (-40), 3) := by decide +kernel
theorem dX1_becomeDifference_48 : decode cX1_becomeDifference 48 = .ok (.aload_n 0, 1) := by decide +kernel
theorem dX1_becomeDifference_49 : decode cX1_becomeDifference 49 = .ok (.aload_n 1, 1) := by decide +kernel
theorem dX1_becomeDifference_50 : decode cX1_becomeDifference 50 = .ok (.getfield 15, 3) := by decide +kernel
theorem dX1_becomeDifference_53 : decode cX1_becomeDifference 53 = .ok (.invokevirtual 46, 3) := by decide +kernel
theorem dX1_becomeDifference_56 : decode cX1_becomeDifference 56 = .ok (.return_, 1) := by decide +kernel
set_option maxRecDepth 20000 in
theorem ggX1_becomeProduct_X1_settle : GoodIn wsX1_becomeProduct wsX1_settle := goodIn_r _ [6, 1, 7, 8, 9, 10, 11, 12, 13, 14, 5, 15, 16, 17, 18, 19, 29, 30] (by decide +kernel) (by decide +kernel)
set_option maxRecDepth 20000 in
theorem gX1_becomeProduct_X1_settle : GoodIn wsX1_becomeProduct (wsV RX1 46 RX1 yX1_settle wsX1_settle) := goodIn_app (goodIn_of _ (by decide +kernel)) ggX1_becomeProduct_X1_settle
set_option maxRecDepth 20000 in
theorem ggX1_becomeProduct_X1_valueAt : GoodIn wsX1_becomeProduct wsX1_valueAt := goodIn_r _ [23, 24, 16, 17, 18, 5, 19, 7, 29, 30] (by decide +kernel) (by decide +kernel)
set_option maxRecDepth 20000 in
theorem gX1_becomeProduct_X1_valueAt : GoodIn wsX1_becomeProduct (wsV RX1 42 RX1 yX1_valueAt wsX1_valueAt) := goodIn_app (goodIn_of _ (by decide +kernel)) ggX1_becomeProduct_X1_valueAt
set_option maxRecDepth 20000 in
theorem ggX1_becomeProduct_X1_addMultiple : GoodIn wsX1_becomeProduct wsX1_addMultiple := goodIn_r _ [28, 1, 20, 21, 22, 5, 23, 24, 16, 17, 18, 19, 7, 12, 13, 14, 15, 29, 30] (by decide +kernel) (by decide +kernel)
set_option maxRecDepth 20000 in
theorem gX1_becomeProduct_X1_addMultiple : GoodIn wsX1_becomeProduct (wsV RX1 50 RX1 yX1_addMultiple wsX1_addMultiple) := goodIn_app (goodIn_of _ (by decide +kernel)) ggX1_becomeProduct_X1_addMultiple
theorem dX1_becomeProduct_0 : decode cX1_becomeProduct 0 = .ok (.aload_n 0, 1) := by decide +kernel
theorem dX1_becomeProduct_1 : decode cX1_becomeProduct 1 = .ok (.iconst 0, 1) := by decide +kernel
theorem dX1_becomeProduct_2 : decode cX1_becomeProduct 2 = .ok (.invokevirtual 46, 3) := by decide +kernel
theorem dX1_becomeProduct_5 : decode cX1_becomeProduct 5 = .ok (.iconst 0, 1) := by decide +kernel
theorem dX1_becomeProduct_6 : decode cX1_becomeProduct 6 = .ok (.istore_n 3, 1) := by decide +kernel
theorem dX1_becomeProduct_7 : decode cX1_becomeProduct 7 = .ok (.iload_n 3, 1) := by decide +kernel
theorem dX1_becomeProduct_8 : decode cX1_becomeProduct 8 = .ok (.aload_n 1, 1) := by decide +kernel
theorem dX1_becomeProduct_9 : decode cX1_becomeProduct 9 = .ok (.getfield 15, 3) := by decide +kernel
theorem dX1_becomeProduct_12 : decode cX1_becomeProduct 12 = .ok (.if_icmp .ge 20, 3) := by decide +kernel
theorem dX1_becomeProduct_15 : decode cX1_becomeProduct 15 = .ok (.aload_n 0, 1) := by decide +kernel
theorem dX1_becomeProduct_16 : decode cX1_becomeProduct 16 = .ok (.aload_n 2, 1) := by decide +kernel
theorem dX1_becomeProduct_17 : decode cX1_becomeProduct 17 = .ok (.aload_n 1, 1) := by decide +kernel
theorem dX1_becomeProduct_18 : decode cX1_becomeProduct 18 = .ok (.iload_n 3, 1) := by decide +kernel
theorem dX1_becomeProduct_19 : decode cX1_becomeProduct 19 = .ok (.invokevirtual 42, 3) := by decide +kernel
theorem dX1_becomeProduct_22 : decode cX1_becomeProduct 22 = .ok (.iload_n 3, 1) := by decide +kernel
theorem dX1_becomeProduct_23 : decode cX1_becomeProduct 23 = .ok (.invokevirtual 50, 3) := by decide +kernel
theorem dX1_becomeProduct_26 : decode cX1_becomeProduct 26 = .ok (.iinc 3 1, 3) := by decide +kernel
theorem dX1_becomeProduct_29 : decode cX1_becomeProduct 29 = .ok (.goto (-22), 3) := by decide +kernel
theorem dX1_becomeProduct_32 : decode cX1_becomeProduct 32 = .ok (.aload_n 0, 1) := by decide +kernel
theorem dX1_becomeProduct_33 : decode cX1_becomeProduct 33 = .ok (.aload_n 1, 1) := by decide +kernel
theorem dX1_becomeProduct_34 : decode cX1_becomeProduct 34 = .ok (.getfield 15, 3) := by decide +kernel
theorem dX1_becomeProduct_37 : decode cX1_becomeProduct 37 = .ok (.aload_n 2, 1) := by decide +kernel
theorem dX1_becomeProduct_38 : decode cX1_becomeProduct 38 = .ok (.getfield 15, 3) := by decide +kernel
theorem dX1_becomeProduct_41 : decode cX1_becomeProduct 41 = .ok (.iadd, 1) := by decide +kernel
theorem dX1_becomeProduct_42 : decode cX1_becomeProduct 42 = .ok (.invokevirtual 46, 3) := by decide +kernel
theorem dX1_becomeProduct_45 : decode cX1_becomeProduct 45 = .ok (.return_, 1) := by decide +kernel
set_option maxRecDepth 20000 in
theorem ggX1_addMultiple_X1_valueAt : GoodIn wsX1_addMultiple wsX1_valueAt := goodIn_r _ [6, 7, 8, 9, 10, 5, 11, 12, 17, 18] (by decide +kernel) (by decide +kernel)
set_option maxRecDepth 20000 in
theorem gX1_addMultiple_X1_valueAt : GoodIn wsX1_addMultiple (wsV RX1 42 RX1 yX1_valueAt wsX1_valueAt) := goodIn_app (goodIn_of _ (by decide +kernel)) ggX1_addMultiple_X1_valueAt
set_option maxRecDepth 20000 in
theorem ggX1_addMultiple_X1_put : GoodIn wsX1_addMultiple wsX1_put := goodIn_r _ [16, 12, 17, 18] (by decide +kernel) (by decide +kernel)
set_option maxRecDepth 20000 in
theorem gX1_addMultiple_X1_put : GoodIn wsX1_addMultiple (wsV RX1 25 RX1 yX1_put wsX1_put) := goodIn_app (goodIn_of _ (by decide +kernel)) ggX1_addMultiple_X1_put
theorem dX1_addMultiple_0 : decode cX1_addMultiple 0 = .ok (.lconst 0, 1) := by decide +kernel
theorem dX1_addMultiple_1 : decode cX1_addMultiple 1 = .ok (.lstore 5, 2) := by decide +kernel
theorem dX1_addMultiple_3 : decode cX1_addMultiple 3 = .ok (.iconst 0, 1) := by decide +kernel
theorem dX1_addMultiple_4 : decode cX1_addMultiple 4 = .ok (.istore 7, 2) := by decide +kernel
theorem dX1_addMultiple_6 : decode cX1_addMultiple 6 = .ok (.iload 7, 2) := by decide +kernel
theorem dX1_addMultiple_8 : decode cX1_addMultiple 8 = .ok (.aload_n 1, 1) := by decide +kernel
theorem dX1_addMultiple_9 : decode cX1_addMultiple 9 = .ok (.getfield 15, 3) := by decide +kernel
theorem dX1_addMultiple_12 : decode cX1_addMultiple 12 = .ok (.if_icmp .ge 50, 3) := by decide +kernel
theorem dX1_addMultiple_15 : decode cX1_addMultiple 15 = .ok (.lload 5, 2) := by decide +kernel
theorem dX1_addMultiple_17 : decode cX1_addMultiple 17 = .ok (.aload_n 1, 1) := by decide +kernel
theorem dX1_addMultiple_18 : decode cX1_addMultiple 18 = .ok (.iload 7, 2) := by decide +kernel
theorem dX1_addMultiple_20 : decode cX1_addMultiple 20 = .ok (.invokevirtual 42, 3) := by decide +kernel
theorem dX1_addMultiple_23 : decode cX1_addMultiple 23 = .ok (.lload_n 2, 1) := by decide +kernel
theorem dX1_addMultiple_24 : decode cX1_addMultiple 24 = .ok (.lmul, 1) := by decide +kernel
theorem dX1_addMultiple_25 : decode cX1_addMultiple 25 = .ok (.aload_n 0, 1) := by decide +kernel
theorem dX1_addMultiple_26 : decode cX1_addMultiple 26 = .ok (.iload 4, 2) := by decide +kernel
theorem dX1_addMultiple_28 : decode cX1_addMultiple 28 = .ok (.iload 7, 2) := by decide +kernel
theorem dX1_addMultiple_30 : decode cX1_addMultiple 30 = .ok (.iadd, 1) := by decide +kernel
theorem dX1_addMultiple_31 : decode cX1_addMultiple 31 = .ok (.invokevirtual 42, 3) := by decide +kernel
theorem dX1_addMultiple_34 : decode cX1_addMultiple 34 = .ok (.ladd, 1) := by decide +kernel
theorem dX1_addMultiple_35 : decode cX1_addMultiple 35 = .ok (.ladd, 1) := by decide +kernel
theorem dX1_addMultiple_36 : decode cX1_addMultiple 36 = .ok (.lstore 5, 2) := by decide +kernel
theorem dX1_addMultiple_38 : decode cX1_addMultiple 38 = .ok (.aload_n 0, 1) := by decide +kernel
theorem dX1_addMultiple_39 : decode cX1_addMultiple 39 = .ok (.iload 4, 2) := by decide +kernel
theorem dX1_addMultiple_41 : decode cX1_addMultiple 41 = .ok (.iload 7, 2) := by decide +kernel
theorem dX1_addMultiple_43 : decode cX1_addMultiple 43 = .ok (.iadd, 1) := by decide +kernel
theorem dX1_addMultiple_44 : decode cX1_addMultiple 44 = .ok (.lload 5, 2) := by decide +kernel
theorem dX1_addMultiple_46 : decode cX1_addMultiple 46 = .ok (.invokevirtual 25, 3) := by decide +kernel
theorem dX1_addMultiple_49 : decode cX1_addMultiple 49 = .ok (.lload 5, 2) := by decide +kernel
theorem dX1_addMultiple_51 : decode cX1_addMultiple 51 = .ok (.bipush 32, 2) := by decide +kernel
theorem dX1_addMultiple_53 : decode cX1_addMultiple 53 = .ok (.lushr, 1) := by decide +kernel
theorem dX1_addMultiple_54 : decode cX1_addMultiple 54 = .ok (.lstore 5, 2) := by decide +kernel
theorem dX1_addMultiple_56 : decode cX1_addMultiple 56 = .ok (.iinc 7 1, 3) := by decide +kernel
theorem dX1_addMultiple_59 : decode cX1_addMultiple 59 = .ok (.goto (-53), 3) := by decide +kernel
theorem dX1_addMultiple_62 : decode cX1_addMultiple 62 = .ok (.aload_n 0, 1) := by decide +kernel
theorem dX1_addMultiple_63 : decode cX1_addMultiple 63 = .ok (.iload 4, 2) := by decide +kernel
theorem dX1_addMultiple_65 : decode cX1_addMultiple 65 = .ok (.aload_n 1, 1) := by decide +kernel
theorem dX1_addMultiple_66 : decode cX1_addMultiple 66 = .ok (.getfield 15, 3) := by decide +kernel
theorem dX1_addMultiple_69 : decode cX1_addMultiple 69 = .ok (.iadd, 1) := by decide +kernel
theorem dX1_addMultiple_70 : decode cX1_addMultiple 70 = .ok (.lload 5, 2) := by decide +kernel
theorem dX1_addMultiple_72 : decode cX1_addMultiple 72 = .ok (.invokevirtual 25, 3) := by decide +kernel
theorem dX1_addMultiple_75 : decode cX1_addMultiple 75 = .ok (.return_, 1) := by decide +kernel
set_option maxRecDepth 20000 in
theorem ggX1_shiftUp_X1_valueAt : GoodIn wsX1_shiftUp wsX1_valueAt := goodIn_r _ [6, 7, 8, 9, 10, 5, 11, 12, 25, 26] (by decide +kernel) (by decide +kernel)
set_option maxRecDepth 20000 in
theorem gX1_shiftUp_X1_valueAt : GoodIn wsX1_shiftUp (wsV RX1 42 RX1 yX1_valueAt wsX1_valueAt) := goodIn_app (goodIn_of _ (by decide +kernel)) ggX1_shiftUp_X1_valueAt
set_option maxRecDepth 20000 in
theorem ggX1_shiftUp_X1_put : GoodIn wsX1_shiftUp wsX1_put := goodIn_r _ [16, 12, 25, 26] (by decide +kernel) (by decide +kernel)
set_option maxRecDepth 20000 in
theorem gX1_shiftUp_X1_put : GoodIn wsX1_shiftUp (wsV RX1 25 RX1 yX1_put wsX1_put) := goodIn_app (goodIn_of _ (by decide +kernel)) ggX1_shiftUp_X1_put
set_option maxRecDepth 20000 in
theorem ggX1_shiftUp_X1_settle : GoodIn wsX1_shiftUp wsX1_settle := goodIn_r _ [20, 1, 12, 21, 22, 23, 24, 13, 14, 15, 5, 16, 8, 9, 10, 11, 25, 26] (by decide +kernel) (by decide +kernel)
set_option maxRecDepth 20000 in
theorem gX1_shiftUp_X1_settle : GoodIn wsX1_shiftUp (wsV RX1 46 RX1 yX1_settle wsX1_settle) := goodIn_app (goodIn_of _ (by decide +kernel)) ggX1_shiftUp_X1_settle
theorem dX1_shiftUp_0 : decode cX1_shiftUp 0 = .ok (.iload_n 1, 1) := by decide +kernel
theorem dX1_shiftUp_1 : decode cX1_shiftUp 1 = .ok (.iconst 5, 1) := by decide +kernel
theorem dX1_shiftUp_2 : decode cX1_shiftUp 2 = .ok (.ishr, 1) := by decide +kernel
theorem dX1_shiftUp_3 : decode cX1_shiftUp 3 = .ok (.istore_n 2, 1) := by decide +kernel
theorem dX1_shiftUp_4 : decode cX1_shiftUp 4 = .ok (.iload_n 1, 1) := by decide +kernel
theorem dX1_shiftUp_5 : decode cX1_shiftUp 5 = .ok (.bipush 31, 2) := by decide +kernel
theorem dX1_shiftUp_7 : decode cX1_shiftUp 7 = .ok (.iand, 1) := by decide +kernel
theorem dX1_shiftUp_8 : decode cX1_shiftUp 8 = .ok (.istore_n 3, 1) := by decide +kernel
theorem dX1_shiftUp_9 : decode cX1_shiftUp 9 = .ok (.aload_n 0, 1) := by decide +kernel
theorem dX1_shiftUp_10 : decode cX1_shiftUp 10 = .ok (.getfield 15, 3) := by decide +kernel
theorem dX1_shiftUp_13 : decode cX1_shiftUp 13 = .ok (.iload_n 2, 1) := by decide +kernel
theorem dX1_shiftUp_14 : decode cX1_shiftUp 14 = .ok (.iadd, 1) := by decide +kernel
theorem dX1_shiftUp_15 : decode cX1_shiftUp 15 = .ok (.iconst 1, 1) := by decide +kernel
theorem dX1_shiftUp_16 : decode cX1_shiftUp 16 = .ok (.iadd, 1) := by decide +kernel
theorem dX1_shiftUp_17 : decode cX1_shiftUp 17 = .ok (.istore 4, 2) := by decide +kernel
theorem dX1_shiftUp_19 : decode cX1_shiftUp 19 = .ok (.iload 4, 2) := by decide +kernel
theorem dX1_shiftUp_21 : decode cX1_shiftUp 21 = .ok (.iconst 1, 1) := by decide +kernel
theorem dX1_shiftUp_22 : decode cX1_shiftUp 22 = .ok (.isub, 1) := by decide +kernel
theorem dX1_shiftUp_23 : decode cX1_shiftUp 23 = .ok (.istore 5, 2) := by decide +kernel
theorem dX1_shiftUp_25 : decode cX1_shiftUp 25 = .ok (.iload 5, 2) := by decide +kernel
theorem dX1_shiftUp_27 : decode cX1_shiftUp 27 = .ok (.ifCond .lt 46, 3) := by decide +kernel
theorem dX1_shiftUp_30 : decode cX1_shiftUp 30 = .ok (.aload_n 0, 1) := by decide +kernel
theorem dX1_shiftUp_31 : decode cX1_shiftUp 31 = .ok (.iload 5, 2) := by decide +kernel
theorem dX1_shiftUp_33 : decode cX1_shiftUp 33 = .ok (.iload_n 2, 1) := by decide +kernel
theorem dX1_shiftUp_34 : decode cX1_shiftUp 34 = .ok (.isub, 1) := by decide +kernel
theorem dX1_shiftUp_35 : decode cX1_shiftUp 35 = .ok (.invokevirtual 42, 3) := by decide +kernel
theorem dX1_shiftUp_38 : decode cX1_shiftUp 38 = .ok (.bipush 32, 2) := by decide +kernel
theorem dX1_shiftUp_40 : decode cX1_shiftUp 40 = .ok (.lshl, 1) := by decide +kernel
theorem dX1_shiftUp_41 : decode cX1_shiftUp 41 = .ok (.aload_n 0, 1) := by decide +kernel
theorem dX1_shiftUp_42 : decode cX1_shiftUp 42 = .ok (.iload 5, 2) := by decide +kernel
theorem dX1_shiftUp_44 : decode cX1_shiftUp 44 = .ok (.iload_n 2, 1) := by decide +kernel
theorem dX1_shiftUp_45 : decode cX1_shiftUp 45 = .ok (.isub, 1) := by decide +kernel
