theorem dX1_shiftUp_46 : decode cX1_shiftUp 46 = .ok (.iconst 1, 1) := by decide +kernel
theorem dX1_shiftUp_47 : decode cX1_shiftUp 47 = .ok (.isub, 1) := by decide +kernel
theorem dX1_shiftUp_48 : decode cX1_shiftUp 48 = .ok (.invokevirtual 42, 3) := by decide +kernel
theorem dX1_shiftUp_51 : decode cX1_shiftUp 51 = .ok (.lor, 1) := by decide +kernel
theorem dX1_shiftUp_52 : decode cX1_shiftUp 52 = .ok (.lstore 6, 2) := by decide +kernel
theorem dX1_shiftUp_54 : decode cX1_shiftUp 54 = .ok (.aload_n 0, 1) := by decide +kernel
theorem dX1_shiftUp_55 : decode cX1_shiftUp 55 = .ok (.iload 5, 2) := by decide +kernel
theorem dX1_shiftUp_57 : decode cX1_shiftUp 57 = .ok (.lload 6, 2) := by decide +kernel
theorem dX1_shiftUp_59 : decode cX1_shiftUp 59 = .ok (.bipush 32, 2) := by decide +kernel
theorem dX1_shiftUp_61 : decode cX1_shiftUp 61 = .ok (.iload_n 3, 1) := by decide +kernel
theorem dX1_shiftUp_62 : decode cX1_shiftUp 62 = .ok (.isub, 1) := by decide +kernel
theorem dX1_shiftUp_63 : decode cX1_shiftUp 63 = .ok (.lushr, 1) := by decide +kernel
theorem dX1_shiftUp_64 : decode cX1_shiftUp 64 = .ok (.invokevirtual 25, 3) := by decide +kernel
theorem dX1_shiftUp_67 : decode cX1_shiftUp 67 = .ok (.iinc 5 (-1), 3) := by decide +kernel
theorem dX1_shiftUp_70 : decode cX1_shiftUp 70 = .ok (.goto (-45), 3) := by decide +kernel
theorem dX1_shiftUp_73 : decode cX1_shiftUp 73 = .ok (.aload_n 0, 1) := by decide +kernel
theorem dX1_shiftUp_74 : decode cX1_shiftUp 74 = .ok (.iload 4, 2) := by decide +kernel
theorem dX1_shiftUp_76 : decode cX1_shiftUp 76 = .ok (.invokevirtual 46, 3) := by decide +kernel
theorem dX1_shiftUp_79 : decode cX1_shiftUp 79 = .ok (.return_, 1) := by decide +kernel
set_option maxRecDepth 20000 in
theorem ggX2_init_X0_init : GoodIn wsX2_init wsX0_init := goodIn_r _ [16, 17, 2, 3, 18, 10, 11, 19, 20, 21, 22, 23, 24, 25, 26, 27, 28, 29, 30, 6, 31, 32, 33, 34, 35, 36, 37, 38, 39, 40, 41, 42, 43, 44, 45, 46, 47, 48, 49, 50, 51, 52, 53, 63, 64, 55, 56, 57, 58] (by decide +kernel) (by decide +kernel)
set_option maxRecDepth 20000 in
theorem gX2_init_X0_init : GoodIn wsX2_init (wsX0_init) := ggX2_init_X0_init
set_option maxRecDepth 20000 in
theorem ggX2_init_X1_init : GoodIn wsX2_init wsX1_init := goodIn_r _ [23, 24, 2, 3, 25, 26, 27, 63, 64] (by decide +kernel) (by decide +kernel)
set_option maxRecDepth 20000 in
theorem gX2_init_X1_init : GoodIn wsX2_init (wsX1_init) := ggX2_init_X1_init
theorem dX2_init_0 : decode cX2_init 0 = .ok (.aload_n 0, 1) := by decide +kernel
theorem dX2_init_1 : decode cX2_init 1 = .ok (.invokespecial 3, 3) := by decide +kernel
theorem dX2_init_4 : decode cX2_init 4 = .ok (.aload_n 0, 1) := by decide +kernel
theorem dX2_init_5 : decode cX2_init 5 = .ok (.new 9, 3) := by decide +kernel
theorem dX2_init_8 : decode cX2_init 8 = .ok (.dup, 1) := by decide +kernel
theorem dX2_init_9 : decode cX2_init 9 = .ok (.invokespecial 11, 3) := by decide +kernel
theorem dX2_init_12 : decode cX2_init 12 = .ok (.putfield 12, 3) := by decide +kernel
theorem dX2_init_15 : decode cX2_init 15 = .ok (.aload_n 0, 1) := by decide +kernel
theorem dX2_init_16 : decode cX2_init 16 = .ok (.new 9, 3) := by decide +kernel
theorem dX2_init_19 : decode cX2_init 19 = .ok (.dup, 1) := by decide +kernel
theorem dX2_init_20 : decode cX2_init 20 = .ok (.invokespecial 11, 3) := by decide +kernel
theorem dX2_init_23 : decode cX2_init 23 = .ok (.putfield 16, 3) := by decide +kernel
theorem dX2_init_26 : decode cX2_init 26 = .ok (.aload_n 0, 1) := by decide +kernel
theorem dX2_init_27 : decode cX2_init 27 = .ok (.new 19, 3) := by decide +kernel
theorem dX2_init_30 : decode cX2_init 30 = .ok (.dup, 1) := by decide +kernel
theorem dX2_init_31 : decode cX2_init 31 = .ok (.invokespecial 21, 3) := by decide +kernel
theorem dX2_init_34 : decode cX2_init 34 = .ok (.putfield 22, 3) := by decide +kernel
theorem dX2_init_37 : decode cX2_init 37 = .ok (.aload_n 0, 1) := by decide +kernel
theorem dX2_init_38 : decode cX2_init 38 = .ok (.new 19, 3) := by decide +kernel
theorem dX2_init_41 : decode cX2_init 41 = .ok (.dup, 1) := by decide +kernel
theorem dX2_init_42 : decode cX2_init 42 = .ok (.invokespecial 21, 3) := by decide +kernel
theorem dX2_init_45 : decode cX2_init 45 = .ok (.putfield 26, 3) := by decide +kernel
theorem dX2_init_48 : decode cX2_init 48 = .ok (.return_, 1) := by decide +kernel
set_option maxRecDepth 20000 in
theorem ggX2_begin_X2_numberOf : GoodIn wsX2_begin wsX2_numberOf := goodIn_r _ [5, 6, 7, 40, 41, 42, 43] (by decide +kernel) (by decide +kernel)
set_option maxRecDepth 20000 in
theorem gX2_begin_X2_numberOf : GoodIn wsX2_begin (wsV RX2 29 RX2 yX2_numberOf wsX2_numberOf) := goodIn_app (goodIn_of _ (by decide +kernel)) ggX2_begin_X2_numberOf
set_option maxRecDepth 20000 in
theorem ggX2_begin_X0_restart : GoodIn wsX2_begin wsX0_restart := goodIn_r _ [12, 13, 14, 15, 16, 17, 18, 19, 20, 21, 22, 23, 24, 25, 26, 27, 28, 29, 30, 31, 32, 33, 34, 35, 36, 37, 38, 39, 44, 45, 46, 47, 48, 49] (by decide +kernel) (by decide +kernel)
set_option maxRecDepth 20000 in
theorem gX2_begin_X0_restart : GoodIn wsX2_begin (wsV RX2 33 RX0 yX0_restart wsX0_restart) := goodIn_app (goodIn_of _ (by decide +kernel)) ggX2_begin_X0_restart
theorem dX2_begin_0 : decode cX2_begin 0 = .ok (.aload_n 0, 1) := by decide +kernel
theorem dX2_begin_1 : decode cX2_begin 1 = .ok (.iload_n 1, 1) := by decide +kernel
theorem dX2_begin_2 : decode cX2_begin 2 = .ok (.invokevirtual 29, 3) := by decide +kernel
theorem dX2_begin_5 : decode cX2_begin 5 = .ok (.astore_n 2, 1) := by decide +kernel
theorem dX2_begin_6 : decode cX2_begin 6 = .ok (.aload_n 2, 1) := by decide +kernel
theorem dX2_begin_7 : decode cX2_begin 7 = .ok (.ifnonnull 5, 3) := by decide +kernel
theorem dX2_begin_10 : decode cX2_begin 10 = .ok (.iconst (-1), 1) := by decide +kernel
theorem dX2_begin_11 : decode cX2_begin 11 = .ok (.ireturn, 1) := by decide +kernel
theorem dX2_begin_12 : decode cX2_begin 12 = .ok (.aload_n 2, 1) := by decide +kernel
theorem dX2_begin_13 : decode cX2_begin 13 = .ok (.invokevirtual 33, 3) := by decide +kernel
theorem dX2_begin_16 : decode cX2_begin 16 = .ok (.iconst 0, 1) := by decide +kernel
theorem dX2_begin_17 : decode cX2_begin 17 = .ok (.ireturn, 1) := by decide +kernel
set_option maxRecDepth 20000 in
theorem ggX2_digit_X2_partOf : GoodIn wsX2_digit wsX2_partOf := goodIn_r _ [7, 8, 9, 10, 11, 12, 6, 13, 14, 15, 64, 65, 66, 67, 60, 61, 62, 63] (by decide +kernel) (by decide +kernel)
set_option maxRecDepth 20000 in
theorem gX2_digit_X2_partOf : GoodIn wsX2_digit (wsV RX2 36 RX2 yX2_partOf wsX2_partOf) := goodIn_app (goodIn_of _ (by decide +kernel)) ggX2_digit_X2_partOf
set_option maxRecDepth 20000 in
theorem ggX2_digit_X1_becomeMultiple : GoodIn wsX2_digit wsX1_becomeMultiple := goodIn_r _ [20, 21, 22, 23, 24, 19, 25, 26, 27, 28, 29, 30, 31, 32, 33, 34, 35, 36, 37, 38, 39, 40, 41, 42, 43, 68, 69] (by decide +kernel) (by decide +kernel)
set_option maxRecDepth 20000 in
theorem gX2_digit_X1_becomeMultiple : GoodIn wsX2_digit (wsV RX2 41 RX1 yX1_becomeMultiple wsX1_becomeMultiple) := goodIn_app (goodIn_of _ (by decide +kernel)) ggX2_digit_X1_becomeMultiple
set_option maxRecDepth 20000 in
theorem ggX2_digit_X2_keepLeftIn : GoodIn wsX2_digit wsX2_keepLeftIn := goodIn_r _ [47, 2, 48, 49, 50, 19, 51, 21, 52, 53, 54, 55, 27, 28, 29, 30, 31, 56, 57, 58, 59, 32, 33, 34, 35, 36, 37, 38, 39, 40, 41, 42, 43, 60, 61, 62, 63, 68, 69] (by decide +kernel) (by decide +kernel)
set_option maxRecDepth 20000 in
theorem gX2_digit_X2_keepLeftIn : GoodIn wsX2_digit (wsV RX2 45 RX2 yX2_keepLeftIn wsX2_keepLeftIn) := goodIn_app (goodIn_of _ (by decide +kernel)) ggX2_digit_X2_keepLeftIn
theorem dX2_digit_0 : decode cX2_digit 0 = .ok (.aload_n 0, 1) := by decide +kernel
theorem dX2_digit_1 : decode cX2_digit 1 = .ok (.iload_n 1, 1) := by decide +kernel
theorem dX2_digit_2 : decode cX2_digit 2 = .ok (.iload_n 2, 1) := by decide +kernel
theorem dX2_digit_3 : decode cX2_digit 3 = .ok (.invokevirtual 36, 3) := by decide +kernel
theorem dX2_digit_6 : decode cX2_digit 6 = .ok (.astore 5, 2) := by decide +kernel
theorem dX2_digit_8 : decode cX2_digit 8 = .ok (.aload 5, 2) := by decide +kernel
theorem dX2_digit_10 : decode cX2_digit 10 = .ok (.ifnull 26, 3) := by decide +kernel
theorem dX2_digit_13 : decode cX2_digit 13 = .ok (.iload_n 3, 1) := by decide +kernel
theorem dX2_digit_14 : decode cX2_digit 14 = .ok (.iconst 1, 1) := by decide +kernel
theorem dX2_digit_15 : decode cX2_digit 15 = .ok (.if_icmp .lt 21, 3) := by decide +kernel
theorem dX2_digit_18 : decode cX2_digit 18 = .ok (.iload_n 3, 1) := by decide +kernel
theorem dX2_digit_19 : decode cX2_digit 19 = .ok (.ldc 40, 2) := by decide +kernel
theorem dX2_digit_21 : decode cX2_digit 21 = .ok (.if_icmp .gt 15, 3) := by decide +kernel
theorem dX2_digit_24 : decode cX2_digit 24 = .ok (.iload 4, 2) := by decide +kernel
theorem dX2_digit_26 : decode cX2_digit 26 = .ok (.ifCond .lt 10, 3) := by decide +kernel
theorem dX2_digit_29 : decode cX2_digit 29 = .ok (.iload 4, 2) := by decide +kernel
theorem dX2_digit_31 : decode cX2_digit 31 = .ok (.ldc 40, 2) := by decide +kernel
theorem dX2_digit_33 : decode cX2_digit 33 = .ok (.if_icmp .le 5, 3) := by decide +kernel
theorem dX2_digit_36 : decode cX2_digit 36 = .ok (.iconst (-1), 1) := by decide +kernel
theorem dX2_digit_37 : decode cX2_digit 37 = .ok (.ireturn, 1) := by decide +kernel
theorem dX2_digit_38 : decode cX2_digit 38 = .ok (.aload_n 0, 1) := by decide +kernel
theorem dX2_digit_39 : decode cX2_digit 39 = .ok (.getfield 22, 3) := by decide +kernel
theorem dX2_digit_42 : decode cX2_digit 42 = .ok (.aload 5, 2) := by decide +kernel
theorem dX2_digit_44 : decode cX2_digit 44 = .ok (.iload_n 3, 1) := by decide +kernel
theorem dX2_digit_45 : decode cX2_digit 45 = .ok (.iload 4, 2) := by decide +kernel
theorem dX2_digit_47 : decode cX2_digit 47 = .ok (.invokevirtual 41, 3) := by decide +kernel
theorem dX2_digit_50 : decode cX2_digit 50 = .ok (.aload_n 0, 1) := by decide +kernel
theorem dX2_digit_51 : decode cX2_digit 51 = .ok (.aload 5, 2) := by decide +kernel
theorem dX2_digit_53 : decode cX2_digit 53 = .ok (.invokevirtual 45, 3) := by decide +kernel
theorem dX2_digit_56 : decode cX2_digit 56 = .ok (.ireturn, 1) := by decide +kernel
set_option maxRecDepth 20000 in
theorem ggX2_set_X2_partOf : GoodIn wsX2_set wsX2_partOf := goodIn_r _ [5, 6, 7, 8, 9, 10, 4, 11, 12, 13, 45, 46, 47, 48, 49, 50, 51, 52] (by decide +kernel) (by decide +kernel)
set_option maxRecDepth 20000 in
theorem gX2_set_X2_partOf : GoodIn wsX2_set (wsV RX2 36 RX2 yX2_partOf wsX2_partOf) := goodIn_app (goodIn_of _ (by decide +kernel)) ggX2_set_X2_partOf
set_option maxRecDepth 20000 in
theorem ggX2_set_X1_become : GoodIn wsX2_set wsX1_become := goodIn_r _ [18, 19, 20, 21, 17, 22, 23, 24, 25, 26, 27, 28, 29, 30, 31, 32, 33, 34, 35, 36, 53, 54] (by decide +kernel) (by decide +kernel)
set_option maxRecDepth 20000 in
theorem gX2_set_X1_become : GoodIn wsX2_set (wsV RX2 49 RX1 yX1_become wsX1_become) := goodIn_app (goodIn_of _ (by decide +kernel)) ggX2_set_X1_become
set_option maxRecDepth 20000 in
theorem ggX2_set_X1_length : GoodIn wsX2_set wsX1_length := goodIn_r _ [40, 28, 41, 42, 43, 17, 44, 33, 34, 35, 36, 23, 53, 54] (by decide +kernel) (by decide +kernel)
set_option maxRecDepth 20000 in
theorem gX2_set_X1_length : GoodIn wsX2_set (wsV RX2 53 RX1 yX1_length wsX1_length) := goodIn_app (goodIn_of _ (by decide +kernel)) ggX2_set_X1_length
theorem dX2_set_0 : decode cX2_set 0 = .ok (.aload_n 0, 1) := by decide +kernel
theorem dX2_set_1 : decode cX2_set 1 = .ok (.iload_n 1, 1) := by decide +kernel
theorem dX2_set_2 : decode cX2_set 2 = .ok (.iload_n 2, 1) := by decide +kernel
theorem dX2_set_3 : decode cX2_set 3 = .ok (.invokevirtual 36, 3) := by decide +kernel
theorem dX2_set_6 : decode cX2_set 6 = .ok (.astore 5, 2) := by decide +kernel
theorem dX2_set_8 : decode cX2_set 8 = .ok (.aload 5, 2) := by decide +kernel
theorem dX2_set_10 : decode cX2_set 10 = .ok (.ifnonnull 5, 3) := by decide +kernel
theorem dX2_set_13 : decode cX2_set 13 = .ok (.iconst (-1), 1) := by decide +kernel
theorem dX2_set_14 : decode cX2_set 14 = .ok (.ireturn, 1) := by decide +kernel
theorem dX2_set_15 : decode cX2_set 15 = .ok (.iload_n 2, 1) := by decide +kernel
theorem dX2_set_16 : decode cX2_set 16 = .ok (.iconst 1, 1) := by decide +kernel
theorem dX2_set_17 : decode cX2_set 17 = .ok (.if_icmp .ne 12, 3) := by decide +kernel
theorem dX2_set_20 : decode cX2_set 20 = .ok (.lload_n 3, 1) := by decide +kernel
theorem dX2_set_21 : decode cX2_set 21 = .ok (.lconst 0, 1) := by decide +kernel
theorem dX2_set_22 : decode cX2_set 22 = .ok (.lcmp, 1) := by decide +kernel
theorem dX2_set_23 : decode cX2_set 23 = .ok (.ifCond .ne 6, 3) := by decide +kernel
theorem dX2_set_26 : decode cX2_set 26 = .ok (.bipush (-3), 2) := by decide +kernel
theorem dX2_set_28 : decode cX2_set 28 = .ok (.ireturn, 1) := by decide +kernel
theorem dX2_set_29 : decode cX2_set 29 = .ok (.aload 5, 2) := by decide +kernel
theorem dX2_set_31 : decode cX2_set 31 = .ok (.lload_n 3, 1) := by decide +kernel
theorem dX2_set_32 : decode cX2_set 32 = .ok (.invokevirtual 49, 3) := by decide +kernel
theorem dX2_set_35 : decode cX2_set 35 = .ok (.aload 5, 2) := by decide +kernel
theorem dX2_set_37 : decode cX2_set 37 = .ok (.invokevirtual 53, 3) := by decide +kernel
theorem dX2_set_40 : decode cX2_set 40 = .ok (.ireturn, 1) := by decide +kernel
set_option maxRecDepth 20000 in
theorem ggX2_scale_X2_numberOf : GoodIn wsX2_scale wsX2_numberOf := goodIn_r _ [7, 8, 9, 14, 15, 16, 17] (by decide +kernel) (by decide +kernel)
set_option maxRecDepth 20000 in
theorem gX2_scale_X2_numberOf : GoodIn wsX2_scale (wsV RX2 29 RX2 yX2_numberOf wsX2_numberOf) := goodIn_app (goodIn_of _ (by decide +kernel)) ggX2_scale_X2_numberOf
theorem dX2_scale_0 : decode cX2_scale 0 = .ok (.aload_n 0, 1) := by decide +kernel
theorem dX2_scale_1 : decode cX2_scale 1 = .ok (.iload_n 1, 1) := by decide +kernel
theorem dX2_scale_2 : decode cX2_scale 2 = .ok (.invokevirtual 29, 3) := by decide +kernel
theorem dX2_scale_5 : decode cX2_scale 5 = .ok (.astore 4, 2) := by decide +kernel
theorem dX2_scale_7 : decode cX2_scale 7 = .ok (.aload 4, 2) := by decide +kernel
theorem dX2_scale_9 : decode cX2_scale 9 = .ok (.ifnull 17, 3) := by decide +kernel
theorem dX2_scale_12 : decode cX2_scale 12 = .ok (.iload_n 3, 1) := by decide +kernel
theorem dX2_scale_13 : decode cX2_scale 13 = .ok (.sipush (-12000), 3) := by decide +kernel
theorem dX2_scale_16 : decode cX2_scale 16 = .ok (.if_icmp .lt 10, 3) := by decide +kernel
theorem dX2_scale_19 : decode cX2_scale 19 = .ok (.iload_n 3, 1) := by decide +kernel
theorem dX2_scale_20 : decode cX2_scale 20 = .ok (.sipush 12000, 3) := by decide +kernel
theorem dX2_scale_23 : decode cX2_scale 23 = .ok (.if_icmp .le 5, 3) := by decide +kernel
theorem dX2_scale_26 : decode cX2_scale 26 = .ok (.iconst (-1), 1) := by decide +kernel
theorem dX2_scale_27 : decode cX2_scale 27 = .ok (.ireturn, 1) := by decide +kernel
theorem dX2_scale_28 : decode cX2_scale 28 = .ok (.aload 4, 2) := by decide +kernel
theorem dX2_scale_30 : decode cX2_scale 30 = .ok (.iload_n 2, 1) := by decide +kernel
theorem dX2_scale_31 : decode cX2_scale 31 = .ok (.putfield 57, 3) := by decide +kernel
theorem dX2_scale_34 : decode cX2_scale 34 = .ok (.aload 4, 2) := by decide +kernel
theorem dX2_scale_36 : decode cX2_scale 36 = .ok (.iload_n 3, 1) := by decide +kernel
theorem dX2_scale_37 : decode cX2_scale 37 = .ok (.putfield 61, 3) := by decide +kernel
theorem dX2_scale_40 : decode cX2_scale 40 = .ok (.iconst 0, 1) := by decide +kernel
theorem dX2_scale_41 : decode cX2_scale 41 = .ok (.ireturn, 1) := by decide +kernel
set_option maxRecDepth 20000 in
theorem ggX2_turn_X2_numberOf : GoodIn wsX2_turn wsX2_numberOf := goodIn_r _ [6, 7, 8, 27, 28, 29, 30] (by decide +kernel) (by decide +kernel)
set_option maxRecDepth 20000 in
theorem gX2_turn_X2_numberOf : GoodIn wsX2_turn (wsV RX2 29 RX2 yX2_numberOf wsX2_numberOf) := goodIn_app (goodIn_of _ (by decide +kernel)) ggX2_turn_X2_numberOf
set_option maxRecDepth 20000 in
theorem ggX2_turn_X1_isZero : GoodIn wsX2_turn wsX1_isZero := goodIn_r _ [13, 14, 31, 32] (by decide +kernel) (by decide +kernel)
set_option maxRecDepth 20000 in
theorem gX2_turn_X1_isZero : GoodIn wsX2_turn (wsV RX2 68 RX1 yX1_isZero wsX1_isZero) := goodIn_app (goodIn_of _ (by decide +kernel)) ggX2_turn_X1_isZero
set_option maxRecDepth 20000 in
theorem ggX2_turn_X0_flip : GoodIn wsX2_turn wsX0_flip := goodIn_r _ [19, 20, 21, 22, 23, 24, 25, 26] (by decide +kernel) (by decide +kernel)
set_option maxRecDepth 20000 in
theorem gX2_turn_X0_flip : GoodIn wsX2_turn (wsV RX2 72 RX0 yX0_flip wsX0_flip) := goodIn_app (goodIn_of _ (by decide +kernel)) ggX2_turn_X0_flip
theorem dX2_turn_0 : decode cX2_turn 0 = .ok (.aload_n 0, 1) := by decide +kernel
theorem dX2_turn_1 : decode cX2_turn 1 = .ok (.iload_n 1, 1) := by decide +kernel
theorem dX2_turn_2 : decode cX2_turn 2 = .ok (.invokevirtual 29, 3) := by decide +kernel
theorem dX2_turn_5 : decode cX2_turn 5 = .ok (.astore_n 2, 1) := by decide +kernel
theorem dX2_turn_6 : decode cX2_turn 6 = .ok (.aload_n 2, 1) := by decide +kernel
theorem dX2_turn_7 : decode cX2_turn 7 = .ok (.ifnonnull 5, 3) := by decide +kernel
theorem dX2_turn_10 : decode cX2_turn 10 = .ok (.iconst (-1), 1) := by decide +kernel
theorem dX2_turn_11 : decode cX2_turn 11 = .ok (.ireturn, 1) := by decide +kernel
theorem dX2_turn_12 : decode cX2_turn 12 = .ok (.aload_n 2, 1) := by decide +kernel
theorem dX2_turn_13 : decode cX2_turn 13 = .ok (.getfield 65, 3) := by decide +kernel
theorem dX2_turn_16 : decode cX2_turn 16 = .ok (.invokevirtual 68, 3) := by decide +kernel
theorem dX2_turn_19 : decode cX2_turn 19 = .ok (.ifCond .eq 6, 3) := by decide +kernel
theorem dX2_turn_22 : decode cX2_turn 22 = .ok (.bipush (-3), 2) := by decide +kernel
theorem dX2_turn_24 : decode cX2_turn 24 = .ok (.ireturn, 1) := by decide +kernel
theorem dX2_turn_25 : decode cX2_turn 25 = .ok (.aload_n 2, 1) := by decide +kernel
theorem dX2_turn_26 : decode cX2_turn 26 = .ok (.invokevirtual 72, 3) := by decide +kernel
theorem dX2_turn_29 : decode cX2_turn 29 = .ok (.iconst 0, 1) := by decide +kernel
theorem dX2_turn_30 : decode cX2_turn 30 = .ok (.ireturn, 1) := by decide +kernel
set_option maxRecDepth 20000 in
theorem ggX2_move_X2_numberOf : GoodIn wsX2_move wsX2_numberOf := goodIn_r _ [10, 3, 1, 66, 67, 68, 69] (by decide +kernel) (by decide +kernel)
set_option maxRecDepth 20000 in
theorem gX2_move_X2_numberOf : GoodIn wsX2_move (wsV RX2 29 RX2 yX2_numberOf wsX2_numberOf) := goodIn_app (goodIn_of _ (by decide +kernel)) ggX2_move_X2_numberOf
set_option maxRecDepth 20000 in
theorem ggX2_move_X1_becomeSum : GoodIn wsX2_move wsX1_becomeSum := goodIn_r _ [15, 16, 17, 18, 19, 20, 21, 22, 23, 14, 24, 25, 26, 27, 28, 29, 30, 31, 32, 33, 34, 35, 36, 37, 38, 39, 40, 41, 74, 75] (by decide +kernel) (by decide +kernel)
set_option maxRecDepth 20000 in
theorem gX2_move_X1_becomeSum : GoodIn wsX2_move (wsV RX2 75 RX1 yX1_becomeSum wsX1_becomeSum) := goodIn_app (goodIn_of _ (by decide +kernel)) ggX2_move_X1_becomeSum
set_option maxRecDepth 20000 in
theorem ggX2_move_X1_order : GoodIn wsX2_move wsX1_order := goodIn_r _ [45, 16, 17, 18, 19, 20, 21, 22, 23, 14, 24, 25, 26, 27, 28, 29, 30, 74, 75] (by decide +kernel) (by decide +kernel)
set_option maxRecDepth 20000 in
theorem gX2_move_X1_order : GoodIn wsX2_move (wsV RX2 79 RX1 yX1_order wsX1_order) := goodIn_app (goodIn_of _ (by decide +kernel)) ggX2_move_X1_order
set_option maxRecDepth 20000 in
theorem ggX2_move_X1_becomeDifference : GoodIn wsX2_move wsX1_becomeDifference := goodIn_r _ [49, 16, 21, 22, 23, 14, 24, 25, 26, 27, 28, 29, 30, 31, 32, 33, 34, 35, 36, 37, 38, 39, 40, 19, 41, 74, 75] (by decide +kernel) (by decide +kernel)
set_option maxRecDepth 20000 in
theorem gX2_move_X1_becomeDifference : GoodIn wsX2_move (wsV RX2 82 RX1 yX1_becomeDifference wsX1_becomeDifference) := goodIn_app (goodIn_of _ (by decide +kernel)) ggX2_move_X1_becomeDifference
set_option maxRecDepth 20000 in
theorem ggX2_move_X2_keepLeftIn : GoodIn wsX2_move wsX2_keepLeftIn := goodIn_r _ [53, 5, 54, 55, 56, 14, 57, 16, 58, 59, 60, 61, 26, 27, 28, 29, 30, 62, 63, 64, 65, 31, 32, 33, 34, 35, 36, 37, 38, 39, 40, 19, 41, 66, 67, 68, 69, 74, 75] (by decide +kernel) (by decide +kernel)
set_option maxRecDepth 20000 in
theorem gX2_move_X2_keepLeftIn : GoodIn wsX2_move (wsV RX2 45 RX2 yX2_keepLeftIn wsX2_keepLeftIn) := goodIn_app (goodIn_of _ (by decide +kernel)) ggX2_move_X2_keepLeftIn
theorem dX2_move_0 : decode cX2_move 0 = .ok (.aload_n 0, 1) := by decide +kernel
theorem dX2_move_1 : decode cX2_move 1 = .ok (.iload_n 1, 1) := by decide +kernel
theorem dX2_move_2 : decode cX2_move 2 = .ok (.invokevirtual 29, 3) := by decide +kernel
theorem dX2_move_5 : decode cX2_move 5 = .ok (.astore_n 3, 1) := by decide +kernel
theorem dX2_move_6 : decode cX2_move 6 = .ok (.aload_n 3, 1) := by decide +kernel
theorem dX2_move_7 : decode cX2_move 7 = .ok (.ifnonnull 5, 3) := by decide +kernel
theorem dX2_move_10 : decode cX2_move 10 = .ok (.iconst (-1), 1) := by decide +kernel
theorem dX2_move_11 : decode cX2_move 11 = .ok (.ireturn, 1) := by decide +kernel
theorem dX2_move_12 : decode cX2_move 12 = .ok (.iload_n 1, 1) := by decide +kernel
theorem dX2_move_13 : decode cX2_move 13 = .ok (.ifCond .ne 13, 3) := by decide +kernel
theorem dX2_move_16 : decode cX2_move 16 = .ok (.aload_n 0, 1) := by decide +kernel
theorem dX2_move_17 : decode cX2_move 17 = .ok (.getfield 16, 3) := by decide +kernel
theorem dX2_move_20 : decode cX2_move 20 = .ok (.getfield 65, 3) := by decide +kernel
theorem dX2_move_23 : decode cX2_move 23 = .ok (.goto 10, 3) := by decide +kernel
theorem dX2_move_26 : decode cX2_move 26 = .ok (.aload_n 0, 1) := by decide +kernel
theorem dX2_move_27 : decode cX2_move 27 = .ok (.getfield 12, 3) := by decide +kernel
theorem dX2_move_30 : decode cX2_move 30 = .ok (.getfield 65, 3) := by decide +kernel
theorem dX2_move_33 : decode cX2_move 33 = .ok (.astore 4, 2) := by decide +kernel
theorem dX2_move_35 : decode cX2_move 35 = .ok (.aload_n 3, 1) := by decide +kernel
theorem dX2_move_36 : decode cX2_move 36 = .ok (.getfield 57, 3) := by decide +kernel
theorem dX2_move_39 : decode cX2_move 39 = .ok (.iload_n 2, 1) := by decide +kernel
theorem dX2_move_40 : decode cX2_move 40 = .ok (.if_icmp .ne 19, 3) := by decide +kernel
theorem dX2_move_43 : decode cX2_move 43 = .ok (.aload_n 0, 1) := by decide +kernel
theorem dX2_move_44 : decode cX2_move 44 = .ok (.getfield 22, 3) := by decide +kernel
theorem dX2_move_47 : decode cX2_move 47 = .ok (.aload_n 3, 1) := by decide +kernel
theorem dX2_move_48 : decode cX2_move 48 = .ok (.getfield 65, 3) := by decide +kernel
theorem dX2_move_51 : decode cX2_move 51 = .ok (.aload 4, 2) := by decide +kernel
theorem dX2_move_53 : decode cX2_move 53 = .ok (.invokevirtual 75, 3) := by decide +kernel
theorem dX2_move_56 : decode cX2_move 56 = .ok (.goto 49, 3) := by decide +kernel
theorem dX2_move_59 : decode cX2_move 59 = .ok (.aload_n 3, 1) := by decide +kernel
theorem dX2_move_60 : decode cX2_move 60 = .ok (.getfield 65, 3) := by decide +kernel
theorem dX2_move_63 : decode cX2_move 63 = .ok (.aload 4, 2) := by decide +kernel
theorem dX2_move_65 : decode cX2_move 65 = .ok (.invokevirtual 79, 3) := by decide +kernel
theorem dX2_move_68 : decode cX2_move 68 = .ok (.ifCond .lt 19, 3) := by decide +kernel
theorem dX2_move_71 : decode cX2_move 71 = .ok (.aload_n 0, 1) := by decide +kernel
theorem dX2_move_72 : decode cX2_move 72 = .ok (.getfield 22, 3) := by decide +kernel
theorem dX2_move_75 : decode cX2_move 75 = .ok (.aload_n 3, 1) := by decide +kernel
theorem dX2_move_76 : decode cX2_move 76 = .ok (.getfield 65, 3) := by decide +kernel
theorem dX2_move_79 : decode cX2_move 79 = .ok (.aload 4, 2) := by decide +kernel
theorem dX2_move_81 : decode cX2_move 81 = .ok (.invokevirtual 82, 3) := by decide +kernel
theorem dX2_move_84 : decode cX2_move 84 = .ok (.goto 21, 3) := by decide +kernel
theorem dX2_move_87 : decode cX2_move 87 = .ok (.aload_n 0, 1) := by decide +kernel
theorem dX2_move_88 : decode cX2_move 88 = .ok (.getfield 22, 3) := by decide +kernel
theorem dX2_move_91 : decode cX2_move 91 = .ok (.aload 4, 2) := by decide +kernel
theorem dX2_move_93 : decode cX2_move 93 = .ok (.aload_n 3, 1) := by decide +kernel
theorem dX2_move_94 : decode cX2_move 94 = .ok (.getfield 65, 3) := by decide +kernel
theorem dX2_move_97 : decode cX2_move 97 = .ok (.invokevirtual 82, 3) := by decide +kernel
theorem dX2_move_100 : decode cX2_move 100 = .ok (.aload_n 3, 1) := by decide +kernel
theorem dX2_move_101 : decode cX2_move 101 = .ok (.iload_n 2, 1) := by decide +kernel
theorem dX2_move_102 : decode cX2_move 102 = .ok (.putfield 57, 3) := by decide +kernel
theorem dX2_move_105 : decode cX2_move 105 = .ok (.aload_n 0, 1) := by decide +kernel
theorem dX2_move_106 : decode cX2_move 106 = .ok (.aload_n 3, 1) := by decide +kernel
theorem dX2_move_107 : decode cX2_move 107 = .ok (.getfield 65, 3) := by decide +kernel
theorem dX2_move_110 : decode cX2_move 110 = .ok (.invokevirtual 45, 3) := by decide +kernel
theorem dX2_move_113 : decode cX2_move 113 = .ok (.ireturn, 1) := by decide +kernel
set_option maxRecDepth 20000 in
theorem ggX2_bits_X2_partOf : GoodIn wsX2_bits wsX2_partOf := goodIn_r _ [5, 6, 7, 8, 9, 10, 4, 11, 12, 13, 29, 30, 31, 32, 33, 34, 35, 36] (by decide +kernel) (by decide +kernel)
set_option maxRecDepth 20000 in
theorem gX2_bits_X2_partOf : GoodIn wsX2_bits (wsV RX2 36 RX2 yX2_partOf wsX2_partOf) := goodIn_app (goodIn_of _ (by decide +kernel)) ggX2_bits_X2_partOf
set_option maxRecDepth 20000 in
theorem ggX2_bits_X1_length : GoodIn wsX2_bits wsX1_length := goodIn_r _ [18, 19, 20, 21, 22, 17, 23, 24, 25, 26, 27, 28, 37, 38] (by decide +kernel) (by decide +kernel)
set_option maxRecDepth 20000 in
theorem gX2_bits_X1_length : GoodIn wsX2_bits (wsV RX2 53 RX1 yX1_length wsX1_length) := goodIn_app (goodIn_of _ (by decide +kernel)) ggX2_bits_X1_length
theorem dX2_bits_0 : decode cX2_bits 0 = .ok (.aload_n 0, 1) := by decide +kernel
theorem dX2_bits_1 : decode cX2_bits 1 = .ok (.iload_n 1, 1) := by decide +kernel
theorem dX2_bits_2 : decode cX2_bits 2 = .ok (.iload_n 2, 1) := by decide +kernel
theorem dX2_bits_3 : decode cX2_bits 3 = .ok (.invokevirtual 36, 3) := by decide +kernel
theorem dX2_bits_6 : decode cX2_bits 6 = .ok (.astore_n 3, 1) := by decide +kernel
theorem dX2_bits_7 : decode cX2_bits 7 = .ok (.aload_n 3, 1) := by decide +kernel
theorem dX2_bits_8 : decode cX2_bits 8 = .ok (.ifnonnull 7, 3) := by decide +kernel
theorem dX2_bits_11 : decode cX2_bits 11 = .ok (.iconst (-1), 1) := by decide +kernel
theorem dX2_bits_12 : decode cX2_bits 12 = .ok (.goto 7, 3) := by decide +kernel
theorem dX2_bits_15 : decode cX2_bits 15 = .ok (.aload_n 3, 1) := by decide +kernel
theorem dX2_bits_16 : decode cX2_bits 16 = .ok (.invokevirtual 53, 3) := by decide +kernel
theorem dX2_bits_19 : decode cX2_bits 19 = .ok (.ireturn, 1) := by decide +kernel
set_option maxRecDepth 20000 in
theorem ggX2_word_X2_partOf : GoodIn wsX2_word wsX2_partOf := goodIn_r _ [5, 6, 7, 8, 9, 10, 4, 11, 12, 13, 20, 21, 22, 23, 24, 25, 26, 27] (by decide +kernel) (by decide +kernel)
set_option maxRecDepth 20000 in
theorem gX2_word_X2_partOf : GoodIn wsX2_word (wsV RX2 36 RX2 yX2_partOf wsX2_partOf) := goodIn_app (goodIn_of _ (by decide +kernel)) ggX2_word_X2_partOf
set_option maxRecDepth 20000 in
theorem ggX2_word_X1_wordAt : GoodIn wsX2_word wsX1_wordAt := goodIn_r _ [18, 19, 28, 29] (by decide +kernel) (by decide +kernel)
set_option maxRecDepth 20000 in
theorem gX2_word_X1_wordAt : GoodIn wsX2_word (wsV RX2 85 RX1 yX1_wordAt wsX1_wordAt) := goodIn_app (goodIn_of _ (by decide +kernel)) ggX2_word_X1_wordAt
theorem dX2_word_0 : decode cX2_word 0 = .ok (.aload_n 0, 1) := by decide +kernel
theorem dX2_word_1 : decode cX2_word 1 = .ok (.iload_n 1, 1) := by decide +kernel
theorem dX2_word_2 : decode cX2_word 2 = .ok (.iload_n 2, 1) := by decide +kernel
theorem dX2_word_3 : decode cX2_word 3 = .ok (.invokevirtual 36, 3) := by decide +kernel
theorem dX2_word_6 : decode cX2_word 6 = .ok (.astore 4, 2) := by decide +kernel
theorem dX2_word_8 : decode cX2_word 8 = .ok (.aload 4, 2) := by decide +kernel
theorem dX2_word_10 : decode cX2_word 10 = .ok (.ifnonnull 7, 3) := by decide +kernel
theorem dX2_word_13 : decode cX2_word 13 = .ok (.iconst 0, 1) := by decide +kernel
theorem dX2_word_14 : decode cX2_word 14 = .ok (.goto 9, 3) := by decide +kernel
theorem dX2_word_17 : decode cX2_word 17 = .ok (.aload 4, 2) := by decide +kernel
theorem dX2_word_19 : decode cX2_word 19 = .ok (.iload_n 3, 1) := by decide +kernel
theorem dX2_word_20 : decode cX2_word 20 = .ok (.invokevirtual 85, 3) := by decide +kernel
theorem dX2_word_23 : decode cX2_word 23 = .ok (.ireturn, 1) := by decide +kernel
set_option maxRecDepth 20000 in
theorem ggX2_compare_X0_sign : GoodIn wsX2_compare wsX0_sign := goodIn_r _ [7, 8, 9, 10, 11, 12, 13, 14, 15, 87, 88, 89, 90, 91, 92] (by decide +kernel) (by decide +kernel)
set_option maxRecDepth 20000 in
theorem gX2_compare_X0_sign : GoodIn wsX2_compare (wsV RX2 89 RX0 yX0_sign wsX0_sign) := goodIn_app (goodIn_of _ (by decide +kernel)) ggX2_compare_X0_sign
set_option maxRecDepth 20000 in
theorem ggX2_compare_X2_orderOfSizes : GoodIn wsX2_compare wsX2_orderOfSizes := goodIn_r _ [20, 1, 2, 21, 22, 23, 24, 25, 26, 27, 28, 6, 29, 8, 30, 31, 32, 33, 34, 13, 35, 15, 36, 11, 12, 14, 37, 38, 39, 40, 41, 42, 43, 44, 45, 46, 47, 48, 49, 50, 51, 52, 53, 54, 55, 56, 57, 58, 59, 60, 61, 62, 63, 64, 65, 66, 67, 68, 69, 70, 19, 71, 72, 73, 74, 75, 76, 77, 78, 79, 80, 81, 82, 83, 84, 85, 86, 87, 88, 89, 90, 91, 92] (by decide +kernel) (by decide +kernel)
set_option maxRecDepth 20000 in
theorem gX2_compare_X2_orderOfSizes : GoodIn wsX2_compare (wsV RX2 92 RX2 yX2_orderOfSizes wsX2_orderOfSizes) := goodIn_app (goodIn_of _ (by decide +kernel)) ggX2_compare_X2_orderOfSizes
theorem dX2_compare_0 : decode cX2_compare 0 = .ok (.aload_n 0, 1) := by decide +kernel
theorem dX2_compare_1 : decode cX2_compare 1 = .ok (.getfield 12, 3) := by decide +kernel
theorem dX2_compare_4 : decode cX2_compare 4 = .ok (.invokevirtual 89, 3) := by decide +kernel
theorem dX2_compare_7 : decode cX2_compare 7 = .ok (.istore_n 1, 1) := by decide +kernel
theorem dX2_compare_8 : decode cX2_compare 8 = .ok (.aload_n 0, 1) := by decide +kernel
theorem dX2_compare_9 : decode cX2_compare 9 = .ok (.getfield 16, 3) := by decide +kernel
theorem dX2_compare_12 : decode cX2_compare 12 = .ok (.invokevirtual 89, 3) := by decide +kernel
theorem dX2_compare_15 : decode cX2_compare 15 = .ok (.istore_n 2, 1) := by decide +kernel
theorem dX2_compare_16 : decode cX2_compare 16 = .ok (.iload_n 1, 1) := by decide +kernel
theorem dX2_compare_17 : decode cX2_compare 17 = .ok (.iload_n 2, 1) := by decide +kernel
theorem dX2_compare_18 : decode cX2_compare 18 = .ok (.if_icmp .eq 14, 3) := by decide +kernel
theorem dX2_compare_21 : decode cX2_compare 21 = .ok (.iload_n 1, 1) := by decide +kernel
theorem dX2_compare_22 : decode cX2_compare 22 = .ok (.iload_n 2, 1) := by decide +kernel
theorem dX2_compare_23 : decode cX2_compare 23 = .ok (.if_icmp .ge 7, 3) := by decide +kernel
theorem dX2_compare_26 : decode cX2_compare 26 = .ok (.iconst (-1), 1) := by decide +kernel
theorem dX2_compare_27 : decode cX2_compare 27 = .ok (.goto 4, 3) := by decide +kernel
theorem dX2_compare_30 : decode cX2_compare 30 = .ok (.iconst 1, 1) := by decide +kernel
theorem dX2_compare_31 : decode cX2_compare 31 = .ok (.ireturn, 1) := by decide +kernel
theorem dX2_compare_32 : decode cX2_compare 32 = .ok (.iload_n 1, 1) := by decide +kernel
theorem dX2_compare_33 : decode cX2_compare 33 = .ok (.ifCond .ne 7, 3) := by decide +kernel
theorem dX2_compare_36 : decode cX2_compare 36 = .ok (.iconst 0, 1) := by decide +kernel
theorem dX2_compare_37 : decode cX2_compare 37 = .ok (.goto 9, 3) := by decide +kernel
theorem dX2_compare_40 : decode cX2_compare 40 = .ok (.iload_n 1, 1) := by decide +kernel
theorem dX2_compare_41 : decode cX2_compare 41 = .ok (.aload_n 0, 1) := by decide +kernel
theorem dX2_compare_42 : decode cX2_compare 42 = .ok (.invokevirtual 92, 3) := by decide +kernel
theorem dX2_compare_45 : decode cX2_compare 45 = .ok (.imul, 1) := by decide +kernel
theorem dX2_compare_46 : decode cX2_compare 46 = .ok (.ireturn, 1) := by decide +kernel
set_option maxRecDepth 20000 in
theorem ggX2_round_X2_numberOf : GoodIn wsX2_round wsX2_numberOf := goodIn_r _ [9, 10, 11, 99, 100, 101, 102] (by decide +kernel) (by decide +kernel)
set_option maxRecDepth 20000 in
theorem gX2_round_X2_numberOf : GoodIn wsX2_round (wsV RX2 29 RX2 yX2_numberOf wsX2_numberOf) := goodIn_app (goodIn_of _ (by decide +kernel)) ggX2_round_X2_numberOf
set_option maxRecDepth 20000 in
theorem ggX2_round_X1_isZero : GoodIn wsX2_round wsX1_isZero := goodIn_r _ [16, 17, 103, 104] (by decide +kernel) (by decide +kernel)
set_option maxRecDepth 20000 in
theorem gX2_round_X1_isZero : GoodIn wsX2_round (wsV RX2 68 RX1 yX1_isZero wsX1_isZero) := goodIn_app (goodIn_of _ (by decide +kernel)) ggX2_round_X1_isZero
set_option maxRecDepth 20000 in
theorem ggX2_round_X2_roundedSize : GoodIn wsX2_round wsX2_roundedSize := goodIn_r _ [21, 22, 23, 24, 25, 26, 27, 28, 29, 30, 31, 8, 32, 2, 33, 34, 35, 36, 37, 15, 38, 17, 39, 40, 41, 42, 43, 44, 45, 46, 47, 48, 49, 50, 51, 52, 53, 54, 55, 56, 57, 13, 14, 16, 58, 59, 60, 61, 62, 63, 64, 65, 66, 67, 68, 69, 70, 71, 72, 73, 74, 75, 76, 77, 78, 79, 80, 81, 82, 83, 84, 85, 86, 87, 88, 89, 90, 91, 92, 93, 94, 12, 99, 100, 101, 102, 95, 96, 97, 98, 103, 104] (by decide +kernel) (by decide +kernel)
set_option maxRecDepth 20000 in
theorem gX2_round_X2_roundedSize : GoodIn wsX2_round (wsV RX2 97 RX2 yX2_roundedSize wsX2_roundedSize) := goodIn_app (goodIn_of _ (by decide +kernel)) ggX2_round_X2_roundedSize
theorem dX2_round_0 : decode cX2_round 0 = .ok (.aload_n 0, 1) := by decide +kernel
theorem dX2_round_1 : decode cX2_round 1 = .ok (.iload_n 1, 1) := by decide +kernel
theorem dX2_round_2 : decode cX2_round 2 = .ok (.invokevirtual 29, 3) := by decide +kernel
theorem dX2_round_5 : decode cX2_round 5 = .ok (.astore_n 3, 1) := by decide +kernel
theorem dX2_round_6 : decode cX2_round 6 = .ok (.aload_n 3, 1) := by decide +kernel
theorem dX2_round_7 : decode cX2_round 7 = .ok (.ifnonnull 7, 3) := by decide +kernel
theorem dX2_round_10 : decode cX2_round 10 = .ok (.ldc2_w 95, 3) := by decide +kernel
theorem dX2_round_13 : decode cX2_round 13 = .ok (.lreturn, 1) := by decide +kernel
theorem dX2_round_14 : decode cX2_round 14 = .ok (.aload_n 3, 1) := by decide +kernel
theorem dX2_round_15 : decode cX2_round 15 = .ok (.getfield 65, 3) := by decide +kernel
theorem dX2_round_18 : decode cX2_round 18 = .ok (.invokevirtual 68, 3) := by decide +kernel
theorem dX2_round_21 : decode cX2_round 21 = .ok (.ifCond .eq 5, 3) := by decide +kernel
theorem dX2_round_24 : decode cX2_round 24 = .ok (.lconst 0, 1) := by decide +kernel
theorem dX2_round_25 : decode cX2_round 25 = .ok (.lreturn, 1) := by decide +kernel
theorem dX2_round_26 : decode cX2_round 26 = .ok (.aload_n 0, 1) := by decide +kernel
theorem dX2_round_27 : decode cX2_round 27 = .ok (.aload_n 3, 1) := by decide +kernel
theorem dX2_round_28 : decode cX2_round 28 = .ok (.iload_n 2, 1) := by decide +kernel
theorem dX2_round_29 : decode cX2_round 29 = .ok (.aload_n 3, 1) := by decide +kernel
theorem dX2_round_30 : decode cX2_round 30 = .ok (.getfield 57, 3) := by decide +kernel
theorem dX2_round_33 : decode cX2_round 33 = .ok (.if_icmp .eq 7, 3) := by decide +kernel
theorem dX2_round_36 : decode cX2_round 36 = .ok (.iconst 1, 1) := by decide +kernel
theorem dX2_round_37 : decode cX2_round 37 = .ok (.goto 4, 3) := by decide +kernel
theorem dX2_round_40 : decode cX2_round 40 = .ok (.iconst 0, 1) := by decide +kernel
theorem dX2_round_41 : decode cX2_round 41 = .ok (.invokevirtual 97, 3) := by decide +kernel
theorem dX2_round_44 : decode cX2_round 44 = .ok (.lstore 4, 2) := by decide +kernel
theorem dX2_round_46 : decode cX2_round 46 = .ok (.aload_n 3, 1) := by decide +kernel
theorem dX2_round_47 : decode cX2_round 47 = .ok (.getfield 57, 3) := by decide +kernel
theorem dX2_round_50 : decode cX2_round 50 = .ok (.ifCond .eq 19, 3) := by decide +kernel
theorem dX2_round_53 : decode cX2_round 53 = .ok (.lload 4, 2) := by decide +kernel
theorem dX2_round_55 : decode cX2_round 55 = .ok (.lconst 0, 1) := by decide +kernel
theorem dX2_round_56 : decode cX2_round 56 = .ok (.lcmp, 1) := by decide +kernel
theorem dX2_round_57 : decode cX2_round 57 = .ok (.ifCond .eq 12, 3) := by decide +kernel
theorem dX2_round_60 : decode cX2_round 60 = .ok (.lload 4, 2) := by decide +kernel
theorem dX2_round_62 : decode cX2_round 62 = .ok (.ldc2_w 101, 3) := by decide +kernel
theorem dX2_round_65 : decode cX2_round 65 = .ok (.lor, 1) := by decide +kernel
theorem dX2_round_66 : decode cX2_round 66 = .ok (.goto 5, 3) := by decide +kernel
theorem dX2_round_69 : decode cX2_round 69 = .ok (.lload 4, 2) := by decide +kernel
theorem dX2_round_71 : decode cX2_round 71 = .ok (.lreturn, 1) := by decide +kernel
theorem dX2_numberOf_0 : decode cX2_numberOf 0 = .ok (.iload_n 1, 1) := by decide +kernel
theorem dX2_numberOf_1 : decode cX2_numberOf 1 = .ok (.ifCond .ne 8, 3) := by decide +kernel
theorem dX2_numberOf_4 : decode cX2_numberOf 4 = .ok (.aload_n 0, 1) := by decide +kernel
theorem dX2_numberOf_5 : decode cX2_numberOf 5 = .ok (.getfield 12, 3) := by decide +kernel
theorem dX2_numberOf_8 : decode cX2_numberOf 8 = .ok (.areturn, 1) := by decide +kernel
theorem dX2_numberOf_9 : decode cX2_numberOf 9 = .ok (.iload_n 1, 1) := by decide +kernel
theorem dX2_numberOf_10 : decode cX2_numberOf 10 = .ok (.iconst 1, 1) := by decide +kernel
theorem dX2_numberOf_11 : decode cX2_numberOf 11 = .ok (.if_icmp .ne 10, 3) := by decide +kernel
theorem dX2_numberOf_14 : decode cX2_numberOf 14 = .ok (.aload_n 0, 1) := by decide +kernel
theorem dX2_numberOf_15 : decode cX2_numberOf 15 = .ok (.getfield 16, 3) := by decide +kernel
theorem dX2_numberOf_18 : decode cX2_numberOf 18 = .ok (.goto 4, 3) := by decide +kernel
theorem dX2_numberOf_21 : decode cX2_numberOf 21 = .ok (.aconst_null, 1) := by decide +kernel
theorem dX2_numberOf_22 : decode cX2_numberOf 22 = .ok (.areturn, 1) := by decide +kernel
set_option maxRecDepth 20000 in
theorem ggX2_partOf_X2_numberOf : GoodIn wsX2_partOf wsX2_numberOf := goodIn_r _ [7, 8, 9, 14, 15, 16, 17] (by decide +kernel) (by decide +kernel)
