set_option maxRecDepth 20000 in
theorem ggX5_init_X3_init : GoodIn wsX5_init wsX3_init := goodIn_r _ [52, 53, 2, 3, 25, 54, 55, 56, 57, 89, 90, 91, 92] (by decide +kernel) (by decide +kernel)
set_option maxRecDepth 20000 in
theorem gX5_init_X3_init : GoodIn wsX5_init (wsX3_init) := ggX5_init_X3_init
set_option maxRecDepth 20000 in
theorem ggX5_init_X2_init : GoodIn wsX5_init wsX2_init := goodIn_r _ [59, 60, 2, 3, 61, 62, 93, 94, 95] (by decide +kernel) (by decide +kernel)
set_option maxRecDepth 20000 in
theorem gX5_init_X2_init_n37 : GoodIn wsX5_init (wsX2_init) := ggX5_init_X2_init
theorem dX5_init_0 : decode cX5_init 0 = .ok (.aload_n 0, 1) := by decide +kernel
theorem dX5_init_1 : decode cX5_init 1 = .ok (.invokespecial 3, 3) := by decide +kernel
theorem dX5_init_4 : decode cX5_init 4 = .ok (.aload_n 0, 1) := by decide +kernel
theorem dX5_init_5 : decode cX5_init 5 = .ok (.new 9, 3) := by decide +kernel
theorem dX5_init_8 : decode cX5_init 8 = .ok (.dup, 1) := by decide +kernel
theorem dX5_init_9 : decode cX5_init 9 = .ok (.invokespecial 11, 3) := by decide +kernel
theorem dX5_init_12 : decode cX5_init 12 = .ok (.putfield 12, 3) := by decide +kernel
theorem dX5_init_15 : decode cX5_init 15 = .ok (.aload_n 0, 1) := by decide +kernel
theorem dX5_init_16 : decode cX5_init 16 = .ok (.new 9, 3) := by decide +kernel
theorem dX5_init_19 : decode cX5_init 19 = .ok (.dup, 1) := by decide +kernel
theorem dX5_init_20 : decode cX5_init 20 = .ok (.invokespecial 11, 3) := by decide +kernel
theorem dX5_init_23 : decode cX5_init 23 = .ok (.putfield 16, 3) := by decide +kernel
theorem dX5_init_26 : decode cX5_init 26 = .ok (.aload_n 0, 1) := by decide +kernel
theorem dX5_init_27 : decode cX5_init 27 = .ok (.new 19, 3) := by decide +kernel
theorem dX5_init_30 : decode cX5_init 30 = .ok (.dup, 1) := by decide +kernel
theorem dX5_init_31 : decode cX5_init 31 = .ok (.invokespecial 21, 3) := by decide +kernel
theorem dX5_init_34 : decode cX5_init 34 = .ok (.putfield 22, 3) := by decide +kernel
theorem dX5_init_37 : decode cX5_init 37 = .ok (.aload_n 0, 1) := by decide +kernel
theorem dX5_init_38 : decode cX5_init 38 = .ok (.new 26, 3) := by decide +kernel
theorem dX5_init_41 : decode cX5_init 41 = .ok (.dup, 1) := by decide +kernel
theorem dX5_init_42 : decode cX5_init 42 = .ok (.aload_n 0, 1) := by decide +kernel
theorem dX5_init_43 : decode cX5_init 43 = .ok (.getfield 12, 3) := by decide +kernel
theorem dX5_init_46 : decode cX5_init 46 = .ok (.invokespecial 28, 3) := by decide +kernel
theorem dX5_init_49 : decode cX5_init 49 = .ok (.putfield 31, 3) := by decide +kernel
theorem dX5_init_52 : decode cX5_init 52 = .ok (.aload_n 0, 1) := by decide +kernel
theorem dX5_init_53 : decode cX5_init 53 = .ok (.new 35, 3) := by decide +kernel
theorem dX5_init_56 : decode cX5_init 56 = .ok (.dup, 1) := by decide +kernel
theorem dX5_init_57 : decode cX5_init 57 = .ok (.invokespecial 37, 3) := by decide +kernel
theorem dX5_init_60 : decode cX5_init 60 = .ok (.putfield 38, 3) := by decide +kernel
theorem dX5_init_63 : decode cX5_init 63 = .ok (.return_, 1) := by decide +kernel
set_option maxRecDepth 20000 in
theorem ggX5_setChannel_X5_isBelow : GoodIn wsX5_setChannel wsX5_isBelow := goodIn_r _ [7] (by decide +kernel) (by decide +kernel)
set_option maxRecDepth 20000 in
theorem gX5_setChannel_X5_isBelow : GoodIn wsX5_setChannel (va_wsS RX5 42 yX5_isBelow wsX5_isBelow) := goodIn_app (goodIn_of _ (by decide +kernel)) ggX5_setChannel_X5_isBelow
set_option maxRecDepth 20000 in
theorem ggX5_setChannel_X5_isWithin : GoodIn wsX5_setChannel wsX5_isWithin := goodIn_r _ [10] (by decide +kernel) (by decide +kernel)
set_option maxRecDepth 20000 in
theorem gX5_setChannel_X5_isWithin : GoodIn wsX5_setChannel (va_wsS RX5 50 yX5_isWithin wsX5_isWithin) := goodIn_app (goodIn_of _ (by decide +kernel)) ggX5_setChannel_X5_isWithin
set_option maxRecDepth 20000 in
theorem ggX5_setChannel_X1_keep : GoodIn wsX5_setChannel wsX1_keep := goodIn_r _ [15, 16, 17, 18, 19, 20, 21, 22, 23, 24, 25, 26, 27, 28, 29, 30, 31, 32, 33, 34, 35, 36, 37, 38, 39, 40, 41, 42, 43, 44, 45, 46, 47, 48, 49, 50, 51, 52, 53, 54, 55, 56, 57, 58, 59, 60, 86, 87, 88, 89, 90, 91, 92, 93, 94, 95, 96, 97, 98, 99, 100, 101, 102, 103, 104, 105, 106, 107, 108, 109, 110, 111] (by decide +kernel) (by decide +kernel)
set_option maxRecDepth 20000 in
theorem gX5_setChannel_X1_keep : GoodIn wsX5_setChannel (wsV RX5 54 RX1 yX1_keep wsX1_keep) := goodIn_app (goodIn_of _ (by decide +kernel)) ggX5_setChannel_X1_keep
set_option maxRecDepth 20000 in
theorem ggX5_setChannel_X4_channelProperty : GoodIn wsX5_setChannel wsX4_channelProperty := goodIn_r _ [64, 28, 33, 35, 36, 34, 65, 6, 66, 89, 90, 91, 92, 93, 94, 95, 96, 97, 98, 99, 100, 101, 102, 103, 104, 105, 106] (by decide +kernel) (by decide +kernel)
set_option maxRecDepth 20000 in
theorem gX5_setChannel_X4_channelProperty : GoodIn wsX5_setChannel (wsV RX5 57 RX4 yX4_channelProperty wsX4_channelProperty) := goodIn_app (goodIn_of _ (by decide +kernel)) ggX5_setChannel_X4_channelProperty
set_option maxRecDepth 20000 in
theorem ggX5_setChannel_X4_setChannelByHand : GoodIn wsX5_setChannel wsX4_setChannelByHand := goodIn_r _ [70, 28, 33, 35, 36, 34, 49, 71, 6, 72, 73, 74, 75, 53, 76, 58, 77, 78, 79, 80, 57, 89, 90, 91, 92, 93, 94, 95, 96, 97, 98, 99, 100, 101, 102, 103, 104, 105, 106, 107, 108, 109, 110, 111] (by decide +kernel) (by decide +kernel)
set_option maxRecDepth 20000 in
theorem gX5_setChannel_X4_setChannelByHand : GoodIn wsX5_setChannel (wsV RX5 61 RX4 yX4_setChannelByHand wsX4_setChannelByHand) := goodIn_app (goodIn_of _ (by decide +kernel)) ggX5_setChannel_X4_setChannelByHand
theorem dX5_setChannel_0 : decode cX5_setChannel 0 = .ok (.iload_n 1, 1) := by decide +kernel
theorem dX5_setChannel_1 : decode cX5_setChannel 1 = .ok (.bipush 12, 2) := by decide +kernel
theorem dX5_setChannel_3 : decode cX5_setChannel 3 = .ok (.invokestatic 42, 3) := by decide +kernel
theorem dX5_setChannel_6 : decode cX5_setChannel 6 = .ok (.ifCond .eq 14, 3) := by decide +kernel
theorem dX5_setChannel_9 : decode cX5_setChannel 9 = .ok (.iload_n 2, 1) := by decide +kernel
theorem dX5_setChannel_10 : decode cX5_setChannel 10 = .ok (.getstatic 46, 3) := by decide +kernel
theorem dX5_setChannel_13 : decode cX5_setChannel 13 = .ok (.arraylength, 1) := by decide +kernel
theorem dX5_setChannel_14 : decode cX5_setChannel 14 = .ok (.invokestatic 42, 3) := by decide +kernel
theorem dX5_setChannel_17 : decode cX5_setChannel 17 = .ok (.ifCond .ne 5, 3) := by decide +kernel
theorem dX5_setChannel_20 : decode cX5_setChannel 20 = .ok (.iconst (-1), 1) := by decide +kernel
theorem dX5_setChannel_21 : decode cX5_setChannel 21 = .ok (.ireturn, 1) := by decide +kernel
theorem dX5_setChannel_22 : decode cX5_setChannel 22 = .ok (.iload_n 3, 1) := by decide +kernel
theorem dX5_setChannel_23 : decode cX5_setChannel 23 = .ok (.iconst 0, 1) := by decide +kernel
theorem dX5_setChannel_24 : decode cX5_setChannel 24 = .ok (.getstatic 46, 3) := by decide +kernel
theorem dX5_setChannel_27 : decode cX5_setChannel 27 = .ok (.iload_n 2, 1) := by decide +kernel
theorem dX5_setChannel_28 : decode cX5_setChannel 28 = .ok (.iaload, 1) := by decide +kernel
theorem dX5_setChannel_29 : decode cX5_setChannel 29 = .ok (.invokestatic 50, 3) := by decide +kernel
theorem dX5_setChannel_32 : decode cX5_setChannel 32 = .ok (.ifCond .ne 5, 3) := by decide +kernel
theorem dX5_setChannel_35 : decode cX5_setChannel 35 = .ok (.iconst (-1), 1) := by decide +kernel
theorem dX5_setChannel_36 : decode cX5_setChannel 36 = .ok (.ireturn, 1) := by decide +kernel
theorem dX5_setChannel_37 : decode cX5_setChannel 37 = .ok (.aload_n 0, 1) := by decide +kernel
theorem dX5_setChannel_38 : decode cX5_setChannel 38 = .ok (.getfield 22, 3) := by decide +kernel
theorem dX5_setChannel_41 : decode cX5_setChannel 41 = .ok (.aload_n 0, 1) := by decide +kernel
theorem dX5_setChannel_42 : decode cX5_setChannel 42 = .ok (.getfield 12, 3) := by decide +kernel
theorem dX5_setChannel_45 : decode cX5_setChannel 45 = .ok (.invokevirtual 54, 3) := by decide +kernel
theorem dX5_setChannel_48 : decode cX5_setChannel 48 = .ok (.aload_n 0, 1) := by decide +kernel
theorem dX5_setChannel_49 : decode cX5_setChannel 49 = .ok (.getfield 12, 3) := by decide +kernel
theorem dX5_setChannel_52 : decode cX5_setChannel 52 = .ok (.iload_n 1, 1) := by decide +kernel
theorem dX5_setChannel_53 : decode cX5_setChannel 53 = .ok (.iload_n 2, 1) := by decide +kernel
theorem dX5_setChannel_54 : decode cX5_setChannel 54 = .ok (.invokevirtual 57, 3) := by decide +kernel
theorem dX5_setChannel_57 : decode cX5_setChannel 57 = .ok (.istore 4, 2) := by decide +kernel
theorem dX5_setChannel_59 : decode cX5_setChannel 59 = .ok (.aload_n 0, 1) := by decide +kernel
theorem dX5_setChannel_60 : decode cX5_setChannel 60 = .ok (.getfield 12, 3) := by decide +kernel
theorem dX5_setChannel_63 : decode cX5_setChannel 63 = .ok (.iload_n 1, 1) := by decide +kernel
theorem dX5_setChannel_64 : decode cX5_setChannel 64 = .ok (.iload_n 2, 1) := by decide +kernel
theorem dX5_setChannel_65 : decode cX5_setChannel 65 = .ok (.iload_n 3, 1) := by decide +kernel
theorem dX5_setChannel_66 : decode cX5_setChannel 66 = .ok (.invokevirtual 61, 3) := by decide +kernel
theorem dX5_setChannel_69 : decode cX5_setChannel 69 = .ok (.iload 4, 2) := by decide +kernel
theorem dX5_setChannel_71 : decode cX5_setChannel 71 = .ok (.ireturn, 1) := by decide +kernel
set_option maxRecDepth 20000 in
theorem ggX5_setGroup_X5_isBelow : GoodIn wsX5_setGroup wsX5_isBelow := goodIn_r _ [7] (by decide +kernel) (by decide +kernel)
set_option maxRecDepth 20000 in
theorem gX5_setGroup_X5_isBelow : GoodIn wsX5_setGroup (va_wsS RX5 42 yX5_isBelow wsX5_isBelow) := goodIn_app (goodIn_of _ (by decide +kernel)) ggX5_setGroup_X5_isBelow
set_option maxRecDepth 20000 in
theorem ggX5_setGroup_X5_isWithin : GoodIn wsX5_setGroup wsX5_isWithin := goodIn_r _ [10] (by decide +kernel) (by decide +kernel)
set_option maxRecDepth 20000 in
theorem gX5_setGroup_X5_isWithin : GoodIn wsX5_setGroup (va_wsS RX5 50 yX5_isWithin wsX5_isWithin) := goodIn_app (goodIn_of _ (by decide +kernel)) ggX5_setGroup_X5_isWithin
set_option maxRecDepth 20000 in
theorem ggX5_setGroup_X1_keep : GoodIn wsX5_setGroup wsX1_keep := goodIn_r _ [15, 16, 17, 18, 19, 20, 21, 22, 23, 24, 25, 26, 27, 28, 29, 30, 31, 32, 33, 34, 35, 36, 37, 38, 39, 40, 41, 42, 43, 44, 45, 46, 47, 48, 49, 50, 51, 52, 53, 54, 55, 56, 57, 58, 59, 60, 86, 87, 88, 89, 90, 91, 92, 93, 94, 95, 96, 97, 98, 99, 100, 101, 102, 103, 104, 105, 106, 107, 108, 109, 110, 111] (by decide +kernel) (by decide +kernel)
set_option maxRecDepth 20000 in
theorem gX5_setGroup_X1_keep : GoodIn wsX5_setGroup (wsV RX5 54 RX1 yX1_keep wsX1_keep) := goodIn_app (goodIn_of _ (by decide +kernel)) ggX5_setGroup_X1_keep
set_option maxRecDepth 20000 in
theorem ggX5_setGroup_X4_groupProperty : GoodIn wsX5_setGroup wsX4_groupProperty := goodIn_r _ [64, 33, 37, 65, 6, 66, 89, 90, 91, 92, 93, 94, 95, 96, 97, 98, 99, 100, 101, 102, 103, 104, 105, 106] (by decide +kernel) (by decide +kernel)
set_option maxRecDepth 20000 in
theorem gX5_setGroup_X4_groupProperty : GoodIn wsX5_setGroup (wsV RX5 68 RX4 yX4_groupProperty wsX4_groupProperty) := goodIn_app (goodIn_of _ (by decide +kernel)) ggX5_setGroup_X4_groupProperty
set_option maxRecDepth 20000 in
theorem ggX5_setGroup_X4_setGroupByHand : GoodIn wsX5_setGroup wsX4_setGroupByHand := goodIn_r _ [70, 37, 33, 49, 71, 6, 72, 73, 74, 75, 53, 76, 58, 77, 78, 79, 80, 57, 89, 90, 91, 92, 93, 94, 95, 96, 97, 98, 99, 100, 101, 102, 103, 104, 105, 106, 107, 108, 109, 110, 111] (by decide +kernel) (by decide +kernel)
set_option maxRecDepth 20000 in
theorem gX5_setGroup_X4_setGroupByHand : GoodIn wsX5_setGroup (wsV RX5 71 RX4 yX4_setGroupByHand wsX4_setGroupByHand) := goodIn_app (goodIn_of _ (by decide +kernel)) ggX5_setGroup_X4_setGroupByHand
theorem dX5_setGroup_0 : decode cX5_setGroup 0 = .ok (.iload_n 1, 1) := by decide +kernel
theorem dX5_setGroup_1 : decode cX5_setGroup 1 = .ok (.iconst 4, 1) := by decide +kernel
theorem dX5_setGroup_2 : decode cX5_setGroup 2 = .ok (.invokestatic 42, 3) := by decide +kernel
theorem dX5_setGroup_5 : decode cX5_setGroup 5 = .ok (.ifCond .eq 14, 3) := by decide +kernel
theorem dX5_setGroup_8 : decode cX5_setGroup 8 = .ok (.iload_n 2, 1) := by decide +kernel
theorem dX5_setGroup_9 : decode cX5_setGroup 9 = .ok (.getstatic 65, 3) := by decide +kernel
theorem dX5_setGroup_12 : decode cX5_setGroup 12 = .ok (.arraylength, 1) := by decide +kernel
theorem dX5_setGroup_13 : decode cX5_setGroup 13 = .ok (.invokestatic 42, 3) := by decide +kernel
theorem dX5_setGroup_16 : decode cX5_setGroup 16 = .ok (.ifCond .ne 5, 3) := by decide +kernel
theorem dX5_setGroup_19 : decode cX5_setGroup 19 = .ok (.iconst (-1), 1) := by decide +kernel
theorem dX5_setGroup_20 : decode cX5_setGroup 20 = .ok (.ireturn, 1) := by decide +kernel
theorem dX5_setGroup_21 : decode cX5_setGroup 21 = .ok (.iload_n 3, 1) := by decide +kernel
theorem dX5_setGroup_22 : decode cX5_setGroup 22 = .ok (.iconst 0, 1) := by decide +kernel
theorem dX5_setGroup_23 : decode cX5_setGroup 23 = .ok (.getstatic 65, 3) := by decide +kernel
theorem dX5_setGroup_26 : decode cX5_setGroup 26 = .ok (.iload_n 2, 1) := by decide +kernel
theorem dX5_setGroup_27 : decode cX5_setGroup 27 = .ok (.iaload, 1) := by decide +kernel
theorem dX5_setGroup_28 : decode cX5_setGroup 28 = .ok (.invokestatic 50, 3) := by decide +kernel
theorem dX5_setGroup_31 : decode cX5_setGroup 31 = .ok (.ifCond .ne 5, 3) := by decide +kernel
theorem dX5_setGroup_34 : decode cX5_setGroup 34 = .ok (.iconst (-1), 1) := by decide +kernel
theorem dX5_setGroup_35 : decode cX5_setGroup 35 = .ok (.ireturn, 1) := by decide +kernel
theorem dX5_setGroup_36 : decode cX5_setGroup 36 = .ok (.aload_n 0, 1) := by decide +kernel
theorem dX5_setGroup_37 : decode cX5_setGroup 37 = .ok (.getfield 22, 3) := by decide +kernel
theorem dX5_setGroup_40 : decode cX5_setGroup 40 = .ok (.aload_n 0, 1) := by decide +kernel
theorem dX5_setGroup_41 : decode cX5_setGroup 41 = .ok (.getfield 12, 3) := by decide +kernel
theorem dX5_setGroup_44 : decode cX5_setGroup 44 = .ok (.invokevirtual 54, 3) := by decide +kernel
theorem dX5_setGroup_47 : decode cX5_setGroup 47 = .ok (.aload_n 0, 1) := by decide +kernel
theorem dX5_setGroup_48 : decode cX5_setGroup 48 = .ok (.getfield 12, 3) := by decide +kernel
theorem dX5_setGroup_51 : decode cX5_setGroup 51 = .ok (.iload_n 1, 1) := by decide +kernel
theorem dX5_setGroup_52 : decode cX5_setGroup 52 = .ok (.iload_n 2, 1) := by decide +kernel
theorem dX5_setGroup_53 : decode cX5_setGroup 53 = .ok (.invokevirtual 68, 3) := by decide +kernel
theorem dX5_setGroup_56 : decode cX5_setGroup 56 = .ok (.istore 4, 2) := by decide +kernel
theorem dX5_setGroup_58 : decode cX5_setGroup 58 = .ok (.aload_n 0, 1) := by decide +kernel
theorem dX5_setGroup_59 : decode cX5_setGroup 59 = .ok (.getfield 12, 3) := by decide +kernel
theorem dX5_setGroup_62 : decode cX5_setGroup 62 = .ok (.iload_n 1, 1) := by decide +kernel
theorem dX5_setGroup_63 : decode cX5_setGroup 63 = .ok (.iload_n 2, 1) := by decide +kernel
theorem dX5_setGroup_64 : decode cX5_setGroup 64 = .ok (.iload_n 3, 1) := by decide +kernel
theorem dX5_setGroup_65 : decode cX5_setGroup 65 = .ok (.invokevirtual 71, 3) := by decide +kernel
theorem dX5_setGroup_68 : decode cX5_setGroup 68 = .ok (.iload 4, 2) := by decide +kernel
theorem dX5_setGroup_70 : decode cX5_setGroup 70 = .ok (.ireturn, 1) := by decide +kernel
set_option maxRecDepth 20000 in
theorem ggX5_setSend_X5_isBelow : GoodIn wsX5_setSend wsX5_isBelow := goodIn_r _ [6] (by decide +kernel) (by decide +kernel)
set_option maxRecDepth 20000 in
theorem gX5_setSend_X5_isBelow : GoodIn wsX5_setSend (va_wsS RX5 42 yX5_isBelow wsX5_isBelow) := goodIn_app (goodIn_of _ (by decide +kernel)) ggX5_setSend_X5_isBelow
set_option maxRecDepth 20000 in
theorem ggX5_setSend_X5_isWithin : GoodIn wsX5_setSend wsX5_isWithin := goodIn_r _ [9] (by decide +kernel) (by decide +kernel)
set_option maxRecDepth 20000 in
theorem gX5_setSend_X5_isWithin : GoodIn wsX5_setSend (va_wsS RX5 50 yX5_isWithin wsX5_isWithin) := goodIn_app (goodIn_of _ (by decide +kernel)) ggX5_setSend_X5_isWithin
set_option maxRecDepth 20000 in
theorem ggX5_setSend_X1_keep : GoodIn wsX5_setSend wsX1_keep := goodIn_r _ [14, 15, 16, 17, 18, 19, 20, 21, 22, 23, 24, 25, 26, 27, 28, 29, 30, 31, 32, 33, 34, 35, 36, 37, 38, 39, 40, 41, 42, 43, 44, 45, 46, 47, 48, 49, 50, 51, 52, 53, 54, 55, 56, 57, 58, 59, 86, 87, 88, 68, 69, 70, 71, 72, 73, 74, 75, 76, 77, 78, 79, 80, 81, 82, 83, 84, 85, 89, 90, 91, 92, 93] (by decide +kernel) (by decide +kernel)
set_option maxRecDepth 20000 in
theorem gX5_setSend_X1_keep : GoodIn wsX5_setSend (wsV RX5 54 RX1 yX1_keep wsX1_keep) := goodIn_app (goodIn_of _ (by decide +kernel)) ggX5_setSend_X1_keep
set_option maxRecDepth 20000 in
theorem ggX5_setSend_X5_sendIndex : GoodIn wsX5_setSend wsX5_sendIndex := goodIn_r _ [62] (by decide +kernel) (by decide +kernel)
set_option maxRecDepth 20000 in
theorem gX5_setSend_X5_sendIndex : GoodIn wsX5_setSend (va_wsS RX5 77 yX5_sendIndex wsX5_sendIndex) := goodIn_app (goodIn_of _ (by decide +kernel)) ggX5_setSend_X5_sendIndex
theorem dX5_setSend_0 : decode cX5_setSend 0 = .ok (.iload_n 1, 1) := by decide +kernel
theorem dX5_setSend_1 : decode cX5_setSend 1 = .ok (.iconst 4, 1) := by decide +kernel
theorem dX5_setSend_2 : decode cX5_setSend 2 = .ok (.invokestatic 42, 3) := by decide +kernel
theorem dX5_setSend_5 : decode cX5_setSend 5 = .ok (.ifCond .eq 12, 3) := by decide +kernel
theorem dX5_setSend_8 : decode cX5_setSend 8 = .ok (.iload_n 2, 1) := by decide +kernel
theorem dX5_setSend_9 : decode cX5_setSend 9 = .ok (.bipush 12, 2) := by decide +kernel
theorem dX5_setSend_11 : decode cX5_setSend 11 = .ok (.invokestatic 42, 3) := by decide +kernel
theorem dX5_setSend_14 : decode cX5_setSend 14 = .ok (.ifCond .ne 5, 3) := by decide +kernel
theorem dX5_setSend_17 : decode cX5_setSend 17 = .ok (.iconst (-1), 1) := by decide +kernel
theorem dX5_setSend_18 : decode cX5_setSend 18 = .ok (.ireturn, 1) := by decide +kernel
theorem dX5_setSend_19 : decode cX5_setSend 19 = .ok (.iload_n 3, 1) := by decide +kernel
theorem dX5_setSend_20 : decode cX5_setSend 20 = .ok (.iconst 0, 1) := by decide +kernel
theorem dX5_setSend_21 : decode cX5_setSend 21 = .ok (.bipush 100, 2) := by decide +kernel
theorem dX5_setSend_23 : decode cX5_setSend 23 = .ok (.invokestatic 50, 3) := by decide +kernel
theorem dX5_setSend_26 : decode cX5_setSend 26 = .ok (.ifCond .ne 5, 3) := by decide +kernel
theorem dX5_setSend_29 : decode cX5_setSend 29 = .ok (.iconst (-1), 1) := by decide +kernel
theorem dX5_setSend_30 : decode cX5_setSend 30 = .ok (.ireturn, 1) := by decide +kernel
theorem dX5_setSend_31 : decode cX5_setSend 31 = .ok (.aload_n 0, 1) := by decide +kernel
theorem dX5_setSend_32 : decode cX5_setSend 32 = .ok (.getfield 22, 3) := by decide +kernel
theorem dX5_setSend_35 : decode cX5_setSend 35 = .ok (.aload_n 0, 1) := by decide +kernel
theorem dX5_setSend_36 : decode cX5_setSend 36 = .ok (.getfield 12, 3) := by decide +kernel
theorem dX5_setSend_39 : decode cX5_setSend 39 = .ok (.invokevirtual 54, 3) := by decide +kernel
theorem dX5_setSend_42 : decode cX5_setSend 42 = .ok (.aload_n 0, 1) := by decide +kernel
theorem dX5_setSend_43 : decode cX5_setSend 43 = .ok (.getfield 12, 3) := by decide +kernel
theorem dX5_setSend_46 : decode cX5_setSend 46 = .ok (.getfield 74, 3) := by decide +kernel
theorem dX5_setSend_49 : decode cX5_setSend 49 = .ok (.iload_n 1, 1) := by decide +kernel
theorem dX5_setSend_50 : decode cX5_setSend 50 = .ok (.iload_n 2, 1) := by decide +kernel
theorem dX5_setSend_51 : decode cX5_setSend 51 = .ok (.invokestatic 77, 3) := by decide +kernel
theorem dX5_setSend_54 : decode cX5_setSend 54 = .ok (.iaload, 1) := by decide +kernel
theorem dX5_setSend_55 : decode cX5_setSend 55 = .ok (.istore 4, 2) := by decide +kernel
theorem dX5_setSend_57 : decode cX5_setSend 57 = .ok (.aload_n 0, 1) := by decide +kernel
theorem dX5_setSend_58 : decode cX5_setSend 58 = .ok (.getfield 12, 3) := by decide +kernel
theorem dX5_setSend_61 : decode cX5_setSend 61 = .ok (.getfield 74, 3) := by decide +kernel
theorem dX5_setSend_64 : decode cX5_setSend 64 = .ok (.iload_n 1, 1) := by decide +kernel
theorem dX5_setSend_65 : decode cX5_setSend 65 = .ok (.iload_n 2, 1) := by decide +kernel
theorem dX5_setSend_66 : decode cX5_setSend 66 = .ok (.invokestatic 77, 3) := by decide +kernel
theorem dX5_setSend_69 : decode cX5_setSend 69 = .ok (.iload_n 3, 1) := by decide +kernel
theorem dX5_setSend_70 : decode cX5_setSend 70 = .ok (.iastore, 1) := by decide +kernel
theorem dX5_setSend_71 : decode cX5_setSend 71 = .ok (.iload 4, 2) := by decide +kernel
theorem dX5_setSend_73 : decode cX5_setSend 73 = .ok (.ireturn, 1) := by decide +kernel
set_option maxRecDepth 20000 in
theorem ggX5_setOwner_X5_isBelow : GoodIn wsX5_setOwner wsX5_isBelow := goodIn_r _ [6] (by decide +kernel) (by decide +kernel)
set_option maxRecDepth 20000 in
theorem gX5_setOwner_X5_isBelow : GoodIn wsX5_setOwner (va_wsS RX5 42 yX5_isBelow wsX5_isBelow) := goodIn_app (goodIn_of _ (by decide +kernel)) ggX5_setOwner_X5_isBelow
set_option maxRecDepth 20000 in
theorem ggX5_setOwner_X5_isWithin : GoodIn wsX5_setOwner wsX5_isWithin := goodIn_r _ [9] (by decide +kernel) (by decide +kernel)
set_option maxRecDepth 20000 in
theorem gX5_setOwner_X5_isWithin : GoodIn wsX5_setOwner (va_wsS RX5 50 yX5_isWithin wsX5_isWithin) := goodIn_app (goodIn_of _ (by decide +kernel)) ggX5_setOwner_X5_isWithin
set_option maxRecDepth 20000 in
theorem ggX5_setOwner_X1_keep : GoodIn wsX5_setOwner wsX1_keep := goodIn_r _ [14, 15, 16, 17, 18, 19, 20, 21, 22, 23, 24, 25, 26, 27, 28, 29, 30, 31, 32, 33, 34, 35, 36, 37, 38, 39, 40, 41, 42, 43, 44, 45, 46, 47, 48, 49, 50, 51, 52, 53, 54, 55, 56, 57, 58, 59, 93, 94, 95, 75, 76, 77, 78, 79, 80, 81, 82, 83, 84, 85, 86, 87, 88, 89, 90, 91, 92, 96, 97, 98, 99, 100] (by decide +kernel) (by decide +kernel)
set_option maxRecDepth 20000 in
theorem gX5_setOwner_X1_keep : GoodIn wsX5_setOwner (wsV RX5 54 RX1 yX1_keep wsX1_keep) := goodIn_app (goodIn_of _ (by decide +kernel)) ggX5_setOwner_X1_keep
set_option maxRecDepth 20000 in
theorem ggX5_setOwner_X5_withBit : GoodIn wsX5_setOwner wsX5_withBit := goodIn_r _ [62] (by decide +kernel) (by decide +kernel)
set_option maxRecDepth 20000 in
theorem gX5_setOwner_X5_withBit : GoodIn wsX5_setOwner (va_wsS RX5 83 yX5_withBit wsX5_withBit) := goodIn_app (goodIn_of _ (by decide +kernel)) ggX5_setOwner_X5_withBit
set_option maxRecDepth 20000 in
theorem ggX5_setOwner_J6_bitCount_0f7a4 : GoodIn wsX5_setOwner wsJ6_bitCount_0f7a4 := goodIn_r _ [66, 67, 68, 69] (by decide +kernel) (by decide +kernel)
set_option maxRecDepth 20000 in
theorem gX5_setOwner_J6_bitCount_0f7a4 : GoodIn wsX5_setOwner (va_wsS RX5 87 yJ6_bitCount_0f7a4 wsJ6_bitCount_0f7a4) := goodIn_app (goodIn_of _ (by decide +kernel)) ggX5_setOwner_J6_bitCount_0f7a4
theorem dX5_setOwner_0 : decode cX5_setOwner 0 = .ok (.iload_n 1, 1) := by decide +kernel
theorem dX5_setOwner_1 : decode cX5_setOwner 1 = .ok (.iconst 4, 1) := by decide +kernel
theorem dX5_setOwner_2 : decode cX5_setOwner 2 = .ok (.invokestatic 42, 3) := by decide +kernel
theorem dX5_setOwner_5 : decode cX5_setOwner 5 = .ok (.ifCond .eq 12, 3) := by decide +kernel
theorem dX5_setOwner_8 : decode cX5_setOwner 8 = .ok (.iload_n 2, 1) := by decide +kernel
theorem dX5_setOwner_9 : decode cX5_setOwner 9 = .ok (.bipush 12, 2) := by decide +kernel
theorem dX5_setOwner_11 : decode cX5_setOwner 11 = .ok (.invokestatic 42, 3) := by decide +kernel
theorem dX5_setOwner_14 : decode cX5_setOwner 14 = .ok (.ifCond .ne 5, 3) := by decide +kernel
theorem dX5_setOwner_17 : decode cX5_setOwner 17 = .ok (.iconst (-1), 1) := by decide +kernel
theorem dX5_setOwner_18 : decode cX5_setOwner 18 = .ok (.ireturn, 1) := by decide +kernel
theorem dX5_setOwner_19 : decode cX5_setOwner 19 = .ok (.iload_n 3, 1) := by decide +kernel
theorem dX5_setOwner_20 : decode cX5_setOwner 20 = .ok (.iconst 0, 1) := by decide +kernel
theorem dX5_setOwner_21 : decode cX5_setOwner 21 = .ok (.iconst 1, 1) := by decide +kernel
theorem dX5_setOwner_22 : decode cX5_setOwner 22 = .ok (.invokestatic 50, 3) := by decide +kernel
theorem dX5_setOwner_25 : decode cX5_setOwner 25 = .ok (.ifCond .ne 5, 3) := by decide +kernel
theorem dX5_setOwner_28 : decode cX5_setOwner 28 = .ok (.iconst (-1), 1) := by decide +kernel
theorem dX5_setOwner_29 : decode cX5_setOwner 29 = .ok (.ireturn, 1) := by decide +kernel
theorem dX5_setOwner_30 : decode cX5_setOwner 30 = .ok (.aload_n 0, 1) := by decide +kernel
theorem dX5_setOwner_31 : decode cX5_setOwner 31 = .ok (.getfield 22, 3) := by decide +kernel
theorem dX5_setOwner_34 : decode cX5_setOwner 34 = .ok (.aload_n 0, 1) := by decide +kernel
theorem dX5_setOwner_35 : decode cX5_setOwner 35 = .ok (.getfield 12, 3) := by decide +kernel
theorem dX5_setOwner_38 : decode cX5_setOwner 38 = .ok (.invokevirtual 54, 3) := by decide +kernel
theorem dX5_setOwner_41 : decode cX5_setOwner 41 = .ok (.aload_n 0, 1) := by decide +kernel
theorem dX5_setOwner_42 : decode cX5_setOwner 42 = .ok (.getfield 12, 3) := by decide +kernel
theorem dX5_setOwner_45 : decode cX5_setOwner 45 = .ok (.getfield 80, 3) := by decide +kernel
theorem dX5_setOwner_48 : decode cX5_setOwner 48 = .ok (.iload_n 1, 1) := by decide +kernel
theorem dX5_setOwner_49 : decode cX5_setOwner 49 = .ok (.aload_n 0, 1) := by decide +kernel
theorem dX5_setOwner_50 : decode cX5_setOwner 50 = .ok (.getfield 12, 3) := by decide +kernel
theorem dX5_setOwner_53 : decode cX5_setOwner 53 = .ok (.getfield 80, 3) := by decide +kernel
theorem dX5_setOwner_56 : decode cX5_setOwner 56 = .ok (.iload_n 1, 1) := by decide +kernel
theorem dX5_setOwner_57 : decode cX5_setOwner 57 = .ok (.iaload, 1) := by decide +kernel
theorem dX5_setOwner_58 : decode cX5_setOwner 58 = .ok (.iload_n 2, 1) := by decide +kernel
theorem dX5_setOwner_59 : decode cX5_setOwner 59 = .ok (.iload_n 3, 1) := by decide +kernel
theorem dX5_setOwner_60 : decode cX5_setOwner 60 = .ok (.invokestatic 83, 3) := by decide +kernel
theorem dX5_setOwner_63 : decode cX5_setOwner 63 = .ok (.iastore, 1) := by decide +kernel
theorem dX5_setOwner_64 : decode cX5_setOwner 64 = .ok (.aload_n 0, 1) := by decide +kernel
theorem dX5_setOwner_65 : decode cX5_setOwner 65 = .ok (.getfield 12, 3) := by decide +kernel
theorem dX5_setOwner_68 : decode cX5_setOwner 68 = .ok (.getfield 80, 3) := by decide +kernel
theorem dX5_setOwner_71 : decode cX5_setOwner 71 = .ok (.iload_n 1, 1) := by decide +kernel
theorem dX5_setOwner_72 : decode cX5_setOwner 72 = .ok (.iaload, 1) := by decide +kernel
theorem dX5_setOwner_73 : decode cX5_setOwner 73 = .ok (.invokestatic 87, 3) := by decide +kernel
theorem dX5_setOwner_76 : decode cX5_setOwner 76 = .ok (.ireturn, 1) := by decide +kernel
set_option maxRecDepth 20000 in
theorem ggX5_setReturn_X5_isBelow : GoodIn wsX5_setReturn wsX5_isBelow := goodIn_r _ [6] (by decide +kernel) (by decide +kernel)
set_option maxRecDepth 20000 in
theorem gX5_setReturn_X5_isBelow : GoodIn wsX5_setReturn (va_wsS RX5 42 yX5_isBelow wsX5_isBelow) := goodIn_app (goodIn_of _ (by decide +kernel)) ggX5_setReturn_X5_isBelow
set_option maxRecDepth 20000 in
theorem ggX5_setReturn_X5_isWithin : GoodIn wsX5_setReturn wsX5_isWithin := goodIn_r _ [9] (by decide +kernel) (by decide +kernel)
set_option maxRecDepth 20000 in
theorem gX5_setReturn_X5_isWithin : GoodIn wsX5_setReturn (va_wsS RX5 50 yX5_isWithin wsX5_isWithin) := goodIn_app (goodIn_of _ (by decide +kernel)) ggX5_setReturn_X5_isWithin
set_option maxRecDepth 20000 in
theorem ggX5_setReturn_X4_feedBackInto : GoodIn wsX5_setReturn wsX4_feedBackInto := goodIn_r _ [14, 15, 69, 70, 71, 72, 73, 74, 75, 76, 77, 78, 79, 80, 81, 82, 83, 84, 85, 86] (by decide +kernel) (by decide +kernel)
set_option maxRecDepth 20000 in
theorem gX5_setReturn_X4_feedBackInto : GoodIn wsX5_setReturn (wsV RX5 93 RX4 yX4_feedBackInto wsX4_feedBackInto) := goodIn_app (goodIn_of _ (by decide +kernel)) ggX5_setReturn_X4_feedBackInto
set_option maxRecDepth 20000 in
theorem ggX5_setReturn_X1_keep : GoodIn wsX5_setReturn wsX1_keep := goodIn_r _ [20, 21, 22, 23, 24, 25, 26, 27, 28, 29, 30, 13, 31, 32, 33, 34, 35, 36, 37, 38, 39, 40, 41, 42, 43, 15, 44, 45, 46, 47, 48, 49, 50, 51, 52, 53, 54, 55, 56, 57, 58, 59, 60, 61, 62, 63, 87, 88, 89, 69, 70, 71, 72, 73, 74, 75, 76, 77, 78, 79, 80, 81, 82, 83, 84, 85, 86, 90, 91, 92, 93, 94] (by decide +kernel) (by decide +kernel)
set_option maxRecDepth 20000 in
theorem gX5_setReturn_X1_keep : GoodIn wsX5_setReturn (wsV RX5 54 RX1 yX1_keep wsX1_keep) := goodIn_app (goodIn_of _ (by decide +kernel)) ggX5_setReturn_X1_keep
theorem dX5_setReturn_0 : decode cX5_setReturn 0 = .ok (.iload_n 1, 1) := by decide +kernel
theorem dX5_setReturn_1 : decode cX5_setReturn 1 = .ok (.iconst 4, 1) := by decide +kernel
theorem dX5_setReturn_2 : decode cX5_setReturn 2 = .ok (.invokestatic 42, 3) := by decide +kernel
theorem dX5_setReturn_5 : decode cX5_setReturn 5 = .ok (.ifCond .eq 13, 3) := by decide +kernel
theorem dX5_setReturn_8 : decode cX5_setReturn 8 = .ok (.iload_n 2, 1) := by decide +kernel
theorem dX5_setReturn_9 : decode cX5_setReturn 9 = .ok (.iconst (-1), 1) := by decide +kernel
theorem dX5_setReturn_10 : decode cX5_setReturn 10 = .ok (.bipush 11, 2) := by decide +kernel
theorem dX5_setReturn_12 : decode cX5_setReturn 12 = .ok (.invokestatic 50, 3) := by decide +kernel
theorem dX5_setReturn_15 : decode cX5_setReturn 15 = .ok (.ifCond .ne 5, 3) := by decide +kernel
theorem dX5_setReturn_18 : decode cX5_setReturn 18 = .ok (.iconst (-1), 1) := by decide +kernel
theorem dX5_setReturn_19 : decode cX5_setReturn 19 = .ok (.ireturn, 1) := by decide +kernel
theorem dX5_setReturn_20 : decode cX5_setReturn 20 = .ok (.aload_n 0, 1) := by decide +kernel
theorem dX5_setReturn_21 : decode cX5_setReturn 21 = .ok (.getfield 12, 3) := by decide +kernel
theorem dX5_setReturn_24 : decode cX5_setReturn 24 = .ok (.iload_n 2, 1) := by decide +kernel
theorem dX5_setReturn_25 : decode cX5_setReturn 25 = .ok (.invokevirtual 93, 3) := by decide +kernel
theorem dX5_setReturn_28 : decode cX5_setReturn 28 = .ok (.istore_n 3, 1) := by decide +kernel
theorem dX5_setReturn_29 : decode cX5_setReturn 29 = .ok (.iload_n 3, 1) := by decide +kernel
theorem dX5_setReturn_30 : decode cX5_setReturn 30 = .ok (.bipush (-99), 2) := by decide +kernel
theorem dX5_setReturn_32 : decode cX5_setReturn 32 = .ok (.if_icmp .eq 11, 3) := by decide +kernel
theorem dX5_setReturn_35 : decode cX5_setReturn 35 = .ok (.iload_n 3, 1) := by decide +kernel
theorem dX5_setReturn_36 : decode cX5_setReturn 36 = .ok (.iload_n 1, 1) := by decide +kernel
theorem dX5_setReturn_37 : decode cX5_setReturn 37 = .ok (.if_icmp .eq 6, 3) := by decide +kernel
theorem dX5_setReturn_40 : decode cX5_setReturn 40 = .ok (.bipush (-2), 2) := by decide +kernel
theorem dX5_setReturn_42 : decode cX5_setReturn 42 = .ok (.ireturn, 1) := by decide +kernel
theorem dX5_setReturn_43 : decode cX5_setReturn 43 = .ok (.aload_n 0, 1) := by decide +kernel
theorem dX5_setReturn_44 : decode cX5_setReturn 44 = .ok (.getfield 22, 3) := by decide +kernel
theorem dX5_setReturn_47 : decode cX5_setReturn 47 = .ok (.aload_n 0, 1) := by decide +kernel
theorem dX5_setReturn_48 : decode cX5_setReturn 48 = .ok (.getfield 12, 3) := by decide +kernel
theorem dX5_setReturn_51 : decode cX5_setReturn 51 = .ok (.invokevirtual 54, 3) := by decide +kernel
theorem dX5_setReturn_54 : decode cX5_setReturn 54 = .ok (.aload_n 0, 1) := by decide +kernel
theorem dX5_setReturn_55 : decode cX5_setReturn 55 = .ok (.getfield 12, 3) := by decide +kernel
theorem dX5_setReturn_58 : decode cX5_setReturn 58 = .ok (.getfield 96, 3) := by decide +kernel
theorem dX5_setReturn_61 : decode cX5_setReturn 61 = .ok (.iload_n 1, 1) := by decide +kernel
theorem dX5_setReturn_62 : decode cX5_setReturn 62 = .ok (.iaload, 1) := by decide +kernel
theorem dX5_setReturn_63 : decode cX5_setReturn 63 = .ok (.istore 4, 2) := by decide +kernel
theorem dX5_setReturn_65 : decode cX5_setReturn 65 = .ok (.aload_n 0, 1) := by decide +kernel
theorem dX5_setReturn_66 : decode cX5_setReturn 66 = .ok (.getfield 12, 3) := by decide +kernel
theorem dX5_setReturn_69 : decode cX5_setReturn 69 = .ok (.getfield 96, 3) := by decide +kernel
theorem dX5_setReturn_72 : decode cX5_setReturn 72 = .ok (.iload_n 1, 1) := by decide +kernel
theorem dX5_setReturn_73 : decode cX5_setReturn 73 = .ok (.iload_n 2, 1) := by decide +kernel
theorem dX5_setReturn_74 : decode cX5_setReturn 74 = .ok (.iastore, 1) := by decide +kernel
theorem dX5_setReturn_75 : decode cX5_setReturn 75 = .ok (.iload 4, 2) := by decide +kernel
theorem dX5_setReturn_77 : decode cX5_setReturn 77 = .ok (.ireturn, 1) := by decide +kernel
set_option maxRecDepth 20000 in
theorem ggX5_store_X5_isBelow : GoodIn wsX5_store wsX5_isBelow := goodIn_r _ [6] (by decide +kernel) (by decide +kernel)
set_option maxRecDepth 20000 in
theorem gX5_store_X5_isBelow : GoodIn wsX5_store (va_wsS RX5 42 yX5_isBelow wsX5_isBelow) := goodIn_app (goodIn_of _ (by decide +kernel)) ggX5_store_X5_isBelow
set_option maxRecDepth 20000 in
theorem ggX5_store_X1_keep : GoodIn wsX5_store wsX1_keep := goodIn_r _ [11, 12, 13, 14, 15, 16, 17, 18, 19, 20, 21, 22, 23, 24, 25, 26, 27, 28, 29, 30, 31, 32, 33, 34, 35, 36, 37, 38, 39, 40, 41, 42, 43, 44, 45, 46, 47, 48, 49, 50, 51, 52, 53, 54, 55, 56, 91, 92, 93, 73, 74, 75, 76, 77, 78, 79, 80, 81, 82, 83, 84, 85, 86, 87, 88, 89, 90, 94, 95, 96, 97, 98] (by decide +kernel) (by decide +kernel)
set_option maxRecDepth 20000 in
theorem gX5_store_X1_keep : GoodIn wsX5_store (wsV RX5 54 RX1 yX1_keep wsX1_keep) := goodIn_app (goodIn_of _ (by decide +kernel)) ggX5_store_X1_keep
set_option maxRecDepth 20000 in
theorem ggX5_store_X4_keepScene : GoodIn wsX5_store wsX4_keepScene := goodIn_r _ [60, 29, 43, 25, 26, 27, 28, 31, 44, 73, 74, 75, 76, 77, 78, 79, 80, 81, 82, 83, 84, 85, 86, 87, 88, 89, 90] (by decide +kernel) (by decide +kernel)
set_option maxRecDepth 20000 in
theorem gX5_store_X4_keepScene : GoodIn wsX5_store (wsV RX5 99 RX4 yX4_keepScene wsX4_keepScene) := goodIn_app (goodIn_of _ (by decide +kernel)) ggX5_store_X4_keepScene
set_option maxRecDepth 20000 in
theorem ggX5_store_J6_bitCount_0f7a4 : GoodIn wsX5_store wsJ6_bitCount_0f7a4 := goodIn_r _ [64, 65, 66, 67] (by decide +kernel) (by decide +kernel)
set_option maxRecDepth 20000 in
theorem gX5_store_J6_bitCount_0f7a4 : GoodIn wsX5_store (va_wsS RX5 87 yJ6_bitCount_0f7a4 wsJ6_bitCount_0f7a4) := goodIn_app (goodIn_of _ (by decide +kernel)) ggX5_store_J6_bitCount_0f7a4
theorem dX5_store_0 : decode cX5_store 0 = .ok (.iload_n 1, 1) := by decide +kernel
theorem dX5_store_1 : decode cX5_store 1 = .ok (.bipush 6, 2) := by decide +kernel
theorem dX5_store_3 : decode cX5_store 3 = .ok (.invokestatic 42, 3) := by decide +kernel
theorem dX5_store_6 : decode cX5_store 6 = .ok (.ifCond .ne 5, 3) := by decide +kernel
theorem dX5_store_9 : decode cX5_store 9 = .ok (.iconst (-1), 1) := by decide +kernel
theorem dX5_store_10 : decode cX5_store 10 = .ok (.ireturn, 1) := by decide +kernel
theorem dX5_store_11 : decode cX5_store 11 = .ok (.aload_n 0, 1) := by decide +kernel
theorem dX5_store_12 : decode cX5_store 12 = .ok (.getfield 22, 3) := by decide +kernel
theorem dX5_store_15 : decode cX5_store 15 = .ok (.aload_n 0, 1) := by decide +kernel
theorem dX5_store_16 : decode cX5_store 16 = .ok (.getfield 12, 3) := by decide +kernel
theorem dX5_store_19 : decode cX5_store 19 = .ok (.invokevirtual 54, 3) := by decide +kernel
theorem dX5_store_22 : decode cX5_store 22 = .ok (.aload_n 0, 1) := by decide +kernel
theorem dX5_store_23 : decode cX5_store 23 = .ok (.getfield 12, 3) := by decide +kernel
theorem dX5_store_26 : decode cX5_store 26 = .ok (.iload_n 1, 1) := by decide +kernel
theorem dX5_store_27 : decode cX5_store 27 = .ok (.invokevirtual 99, 3) := by decide +kernel
theorem dX5_store_30 : decode cX5_store 30 = .ok (.aload_n 0, 1) := by decide +kernel
theorem dX5_store_31 : decode cX5_store 31 = .ok (.getfield 12, 3) := by decide +kernel
theorem dX5_store_34 : decode cX5_store 34 = .ok (.getfield 103, 3) := by decide +kernel
theorem dX5_store_37 : decode cX5_store 37 = .ok (.invokestatic 87, 3) := by decide +kernel
theorem dX5_store_40 : decode cX5_store 40 = .ok (.ireturn, 1) := by decide +kernel
set_option maxRecDepth 20000 in
theorem ggX5_recall_X5_isBelow : GoodIn wsX5_recall wsX5_isBelow := goodIn_r _ [6] (by decide +kernel) (by decide +kernel)
set_option maxRecDepth 20000 in
theorem gX5_recall_X5_isBelow : GoodIn wsX5_recall (va_wsS RX5 42 yX5_isBelow wsX5_isBelow) := goodIn_app (goodIn_of _ (by decide +kernel)) ggX5_recall_X5_isBelow
set_option maxRecDepth 20000 in
theorem ggX5_recall_X5_isWithin : GoodIn wsX5_recall wsX5_isWithin := goodIn_r _ [9] (by decide +kernel) (by decide +kernel)
set_option maxRecDepth 20000 in
theorem gX5_recall_X5_isWithin : GoodIn wsX5_recall (va_wsS RX5 50 yX5_isWithin wsX5_isWithin) := goodIn_app (goodIn_of _ (by decide +kernel)) ggX5_recall_X5_isWithin
set_option maxRecDepth 20000 in
theorem ggX5_recall_X5_hasBit : GoodIn wsX5_recall wsX5_hasBit := goodIn_r _ [12] (by decide +kernel) (by decide +kernel)
set_option maxRecDepth 20000 in
theorem gX5_recall_X5_hasBit : GoodIn wsX5_recall (va_wsS RX5 107 yX5_hasBit wsX5_hasBit) := goodIn_app (goodIn_of _ (by decide +kernel)) ggX5_recall_X5_hasBit
set_option maxRecDepth 20000 in
theorem ggX5_recall_X1_keep : GoodIn wsX5_recall wsX1_keep := goodIn_r _ [17, 18, 19, 20, 21, 22, 23, 24, 25, 26, 27, 28, 29, 30, 31, 32, 33, 34, 35, 36, 37, 38, 39, 40, 41, 42, 43, 44, 45, 46, 47, 48, 49, 50, 51, 52, 53, 54, 55, 56, 57, 58, 59, 60, 61, 62, 102, 103, 104, 84, 85, 86, 87, 88, 89, 90, 91, 92, 93, 94, 95, 96, 97, 98, 99, 100, 101, 105, 106, 107, 108, 109] (by decide +kernel) (by decide +kernel)
set_option maxRecDepth 20000 in
theorem gX5_recall_X1_keep : GoodIn wsX5_recall (wsV RX5 54 RX1 yX1_keep wsX1_keep) := goodIn_app (goodIn_of _ (by decide +kernel)) ggX5_recall_X1_keep
set_option maxRecDepth 20000 in
theorem ggX5_recall_X4_slidersUnlike : GoodIn wsX5_recall wsX4_slidersUnlike := goodIn_r _ [66, 35, 49, 84, 85, 86, 87, 88, 89, 90, 91, 92, 93, 94, 95, 96, 97, 98, 99, 100, 101] (by decide +kernel) (by decide +kernel)
set_option maxRecDepth 20000 in
theorem gX5_recall_X4_slidersUnlike : GoodIn wsX5_recall (wsV RX5 110 RX4 yX4_slidersUnlike wsX4_slidersUnlike) := goodIn_app (goodIn_of _ (by decide +kernel)) ggX5_recall_X4_slidersUnlike
set_option maxRecDepth 20000 in
theorem ggX5_recall_X4_beginFade : GoodIn wsX5_recall wsX4_beginFade := goodIn_r _ [70, 51, 35, 49, 31, 32, 33, 34, 37, 71, 72, 73, 55, 74, 57, 58, 59, 60, 61, 62, 75, 76, 77, 78, 84, 85, 86, 87, 88, 89, 90, 91, 92, 93, 94, 95, 96, 97, 98, 99, 100, 101, 105, 106, 107, 108, 109] (by decide +kernel) (by decide +kernel)
set_option maxRecDepth 20000 in
theorem gX5_recall_X4_beginFade : GoodIn wsX5_recall (wsV RX5 113 RX4 yX4_beginFade wsX4_beginFade) := goodIn_app (goodIn_of _ (by decide +kernel)) ggX5_recall_X4_beginFade
theorem dX5_recall_0 : decode cX5_recall 0 = .ok (.iload_n 1, 1) := by decide +kernel
theorem dX5_recall_1 : decode cX5_recall 1 = .ok (.bipush 6, 2) := by decide +kernel
theorem dX5_recall_3 : decode cX5_recall 3 = .ok (.invokestatic 42, 3) := by decide +kernel
theorem dX5_recall_6 : decode cX5_recall 6 = .ok (.ifCond .eq 13, 3) := by decide +kernel
theorem dX5_recall_9 : decode cX5_recall 9 = .ok (.iload_n 2, 1) := by decide +kernel
theorem dX5_recall_10 : decode cX5_recall 10 = .ok (.iconst 0, 1) := by decide +kernel
theorem dX5_recall_11 : decode cX5_recall 11 = .ok (.bipush 100, 2) := by decide +kernel
theorem dX5_recall_13 : decode cX5_recall 13 = .ok (.invokestatic 50, 3) := by decide +kernel
theorem dX5_recall_16 : decode cX5_recall 16 = .ok (.ifCond .ne 5, 3) := by decide +kernel
theorem dX5_recall_19 : decode cX5_recall 19 = .ok (.iconst (-1), 1) := by decide +kernel
theorem dX5_recall_20 : decode cX5_recall 20 = .ok (.ireturn, 1) := by decide +kernel
theorem dX5_recall_21 : decode cX5_recall 21 = .ok (.aload_n 0, 1) := by decide +kernel
theorem dX5_recall_22 : decode cX5_recall 22 = .ok (.getfield 12, 3) := by decide +kernel
theorem dX5_recall_25 : decode cX5_recall 25 = .ok (.getfield 103, 3) := by decide +kernel
theorem dX5_recall_28 : decode cX5_recall 28 = .ok (.iload_n 1, 1) := by decide +kernel
theorem dX5_recall_29 : decode cX5_recall 29 = .ok (.invokestatic 107, 3) := by decide +kernel
theorem dX5_recall_32 : decode cX5_recall 32 = .ok (.ifCond .ne 6, 3) := by decide +kernel
theorem dX5_recall_35 : decode cX5_recall 35 = .ok (.bipush (-2), 2) := by decide +kernel
theorem dX5_recall_37 : decode cX5_recall 37 = .ok (.ireturn, 1) := by decide +kernel
theorem dX5_recall_38 : decode cX5_recall 38 = .ok (.aload_n 0, 1) := by decide +kernel
theorem dX5_recall_39 : decode cX5_recall 39 = .ok (.getfield 22, 3) := by decide +kernel
theorem dX5_recall_42 : decode cX5_recall 42 = .ok (.aload_n 0, 1) := by decide +kernel
theorem dX5_recall_43 : decode cX5_recall 43 = .ok (.getfield 12, 3) := by decide +kernel
theorem dX5_recall_46 : decode cX5_recall 46 = .ok (.invokevirtual 54, 3) := by decide +kernel
theorem dX5_recall_49 : decode cX5_recall 49 = .ok (.aload_n 0, 1) := by decide +kernel
theorem dX5_recall_50 : decode cX5_recall 50 = .ok (.getfield 12, 3) := by decide +kernel
theorem dX5_recall_53 : decode cX5_recall 53 = .ok (.iload_n 1, 1) := by decide +kernel
theorem dX5_recall_54 : decode cX5_recall 54 = .ok (.invokevirtual 110, 3) := by decide +kernel
theorem dX5_recall_57 : decode cX5_recall 57 = .ok (.istore_n 3, 1) := by decide +kernel
theorem dX5_recall_58 : decode cX5_recall 58 = .ok (.aload_n 0, 1) := by decide +kernel
theorem dX5_recall_59 : decode cX5_recall 59 = .ok (.getfield 12, 3) := by decide +kernel
theorem dX5_recall_62 : decode cX5_recall 62 = .ok (.iload_n 1, 1) := by decide +kernel
theorem dX5_recall_63 : decode cX5_recall 63 = .ok (.iload_n 2, 1) := by decide +kernel
theorem dX5_recall_64 : decode cX5_recall 64 = .ok (.invokevirtual 113, 3) := by decide +kernel
theorem dX5_recall_67 : decode cX5_recall 67 = .ok (.iload_n 3, 1) := by decide +kernel
theorem dX5_recall_68 : decode cX5_recall 68 = .ok (.ireturn, 1) := by decide +kernel
set_option maxRecDepth 20000 in
theorem ggX5_run_X5_isWithin : GoodIn wsX5_run wsX5_isWithin := goodIn_r _ [6] (by decide +kernel) (by decide +kernel)
set_option maxRecDepth 20000 in
theorem gX5_run_X5_isWithin : GoodIn wsX5_run (va_wsS RX5 50 yX5_isWithin wsX5_isWithin) := goodIn_app (goodIn_of _ (by decide +kernel)) ggX5_run_X5_isWithin
set_option maxRecDepth 20000 in
theorem ggX5_run_X1_keep : GoodIn wsX5_run wsX1_keep := goodIn_r _ [11, 12, 13, 14, 15, 16, 17, 18, 19, 20, 21, 22, 23, 24, 25, 26, 27, 28, 29, 30, 31, 32, 33, 34, 35, 36, 37, 38, 39, 40, 41, 42, 43, 44, 45, 46, 47, 48, 49, 50, 51, 52, 53, 54, 55, 56, 140, 141, 142, 122, 123, 124, 125, 126, 127, 128, 129, 130, 131, 132, 133, 134, 135, 136, 137, 138, 139, 143, 144, 145, 146, 147] (by decide +kernel) (by decide +kernel)
set_option maxRecDepth 20000 in
theorem gX5_run_X1_keep : GoodIn wsX5_run (wsV RX5 54 RX1 yX1_keep wsX1_keep) := goodIn_app (goodIn_of _ (by decide +kernel)) ggX5_run_X1_keep
set_option maxRecDepth 20000 in
theorem ggX5_run_X4_goOn : GoodIn wsX5_run wsX4_goOn := goodIn_r _ [60, 45, 39, 61, 62, 63, 49, 64, 53, 65, 66, 67, 22, 68, 29, 43, 31, 69, 70, 71, 72, 54, 73, 5, 74, 75, 76, 77, 78, 55, 52, 79, 80, 81, 82, 83, 84, 85, 86, 87, 88, 89, 90, 24, 37, 25, 26, 27, 28, 36, 38, 91, 16, 17, 18, 92, 93, 94, 95, 40, 41, 96, 97, 98, 99, 100, 101, 102, 30, 103, 104, 105, 106, 33, 32, 107, 108, 109, 110, 35, 34, 111, 112, 113, 114, 115, 116, 42, 122, 123, 124, 125, 126, 127, 128, 129, 130, 131, 132, 133, 134, 135, 136, 137, 138, 139, 143, 144, 145, 146, 147] (by decide +kernel) (by decide +kernel)
set_option maxRecDepth 20000 in
theorem gX5_run_X4_goOn : GoodIn wsX5_run (wsV RX5 120 RX4 yX4_goOn wsX4_goOn) := goodIn_app (goodIn_of _ (by decide +kernel)) ggX5_run_X4_goOn
theorem dX5_run_0 : decode cX5_run 0 = .ok (.iload_n 1, 1) := by decide +kernel
theorem dX5_run_1 : decode cX5_run 1 = .ok (.iconst 1, 1) := by decide +kernel
theorem dX5_run_2 : decode cX5_run 2 = .ok (.bipush 100, 2) := by decide +kernel
theorem dX5_run_4 : decode cX5_run 4 = .ok (.invokestatic 50, 3) := by decide +kernel
theorem dX5_run_7 : decode cX5_run 7 = .ok (.ifCond .ne 5, 3) := by decide +kernel
theorem dX5_run_10 : decode cX5_run 10 = .ok (.iconst (-1), 1) := by decide +kernel
theorem dX5_run_11 : decode cX5_run 11 = .ok (.ireturn, 1) := by decide +kernel
theorem dX5_run_12 : decode cX5_run 12 = .ok (.aload_n 0, 1) := by decide +kernel
theorem dX5_run_13 : decode cX5_run 13 = .ok (.getfield 12, 3) := by decide +kernel
theorem dX5_run_16 : decode cX5_run 16 = .ok (.getfield 117, 3) := by decide +kernel
theorem dX5_run_19 : decode cX5_run 19 = .ok (.iload_n 1, 1) := by decide +kernel
theorem dX5_run_20 : decode cX5_run 20 = .ok (.iadd, 1) := by decide +kernel
theorem dX5_run_21 : decode cX5_run 21 = .ok (.sipush 10000, 3) := by decide +kernel
theorem dX5_run_24 : decode cX5_run 24 = .ok (.if_icmp .le 6, 3) := by decide +kernel
theorem dX5_run_27 : decode cX5_run 27 = .ok (.bipush (-3), 2) := by decide +kernel
theorem dX5_run_29 : decode cX5_run 29 = .ok (.ireturn, 1) := by decide +kernel
theorem dX5_run_30 : decode cX5_run 30 = .ok (.aload_n 0, 1) := by decide +kernel
theorem dX5_run_31 : decode cX5_run 31 = .ok (.getfield 22, 3) := by decide +kernel
theorem dX5_run_34 : decode cX5_run 34 = .ok (.aload_n 0, 1) := by decide +kernel
theorem dX5_run_35 : decode cX5_run 35 = .ok (.getfield 12, 3) := by decide +kernel
theorem dX5_run_38 : decode cX5_run 38 = .ok (.invokevirtual 54, 3) := by decide +kernel
theorem dX5_run_41 : decode cX5_run 41 = .ok (.aload_n 0, 1) := by decide +kernel
theorem dX5_run_42 : decode cX5_run 42 = .ok (.getfield 12, 3) := by decide +kernel
theorem dX5_run_45 : decode cX5_run 45 = .ok (.iload_n 1, 1) := by decide +kernel
theorem dX5_run_46 : decode cX5_run 46 = .ok (.invokevirtual 120, 3) := by decide +kernel
theorem dX5_run_49 : decode cX5_run 49 = .ok (.aload_n 0, 1) := by decide +kernel
theorem dX5_run_50 : decode cX5_run 50 = .ok (.getfield 12, 3) := by decide +kernel
theorem dX5_run_53 : decode cX5_run 53 = .ok (.getfield 123, 3) := by decide +kernel
theorem dX5_run_56 : decode cX5_run 56 = .ok (.ireturn, 1) := by decide +kernel
set_option maxRecDepth 20000 in
theorem ggX5_reset_X1_keep : GoodIn wsX5_reset wsX1_keep := goodIn_r _ [7, 8, 9, 10, 11, 12, 13, 14, 15, 16, 17, 18, 19, 20, 21, 22, 23, 24, 25, 26, 27, 28, 29, 30, 31, 32, 33, 34, 35, 36, 37, 38, 39, 40, 41, 42, 43, 44, 45, 46, 47, 48, 49, 50, 51, 52, 76, 77, 78, 58, 59, 60, 61, 62, 63, 64, 65, 66, 67, 68, 69, 70, 71, 72, 73, 74, 75, 79, 80, 81, 82, 83] (by decide +kernel) (by decide +kernel)
set_option maxRecDepth 20000 in
theorem gX5_reset_X1_keep : GoodIn wsX5_reset (wsV RX5 54 RX1 yX1_keep wsX1_keep) := goodIn_app (goodIn_of _ (by decide +kernel)) ggX5_reset_X1_keep
theorem dX5_reset_0 : decode cX5_reset 0 = .ok (.aload_n 0, 1) := by decide +kernel
theorem dX5_reset_1 : decode cX5_reset 1 = .ok (.getfield 22, 3) := by decide +kernel
theorem dX5_reset_4 : decode cX5_reset 4 = .ok (.aload_n 0, 1) := by decide +kernel
theorem dX5_reset_5 : decode cX5_reset 5 = .ok (.getfield 12, 3) := by decide +kernel
theorem dX5_reset_8 : decode cX5_reset 8 = .ok (.invokevirtual 54, 3) := by decide +kernel
theorem dX5_reset_11 : decode cX5_reset 11 = .ok (.aload_n 0, 1) := by decide +kernel
theorem dX5_reset_12 : decode cX5_reset 12 = .ok (.getfield 12, 3) := by decide +kernel
theorem dX5_reset_15 : decode cX5_reset 15 = .ok (.getfield 126, 3) := by decide +kernel
theorem dX5_reset_18 : decode cX5_reset 18 = .ok (.istore_n 1, 1) := by decide +kernel
theorem dX5_reset_19 : decode cX5_reset 19 = .ok (.aload_n 0, 1) := by decide +kernel
theorem dX5_reset_20 : decode cX5_reset 20 = .ok (.getfield 12, 3) := by decide +kernel
theorem dX5_reset_23 : decode cX5_reset 23 = .ok (.iconst 0, 1) := by decide +kernel
theorem dX5_reset_24 : decode cX5_reset 24 = .ok (.putfield 126, 3) := by decide +kernel
theorem dX5_reset_27 : decode cX5_reset 27 = .ok (.aload_n 0, 1) := by decide +kernel
theorem dX5_reset_28 : decode cX5_reset 28 = .ok (.getfield 12, 3) := by decide +kernel
theorem dX5_reset_31 : decode cX5_reset 31 = .ok (.iconst 0, 1) := by decide +kernel
theorem dX5_reset_32 : decode cX5_reset 32 = .ok (.putfield 129, 3) := by decide +kernel
theorem dX5_reset_35 : decode cX5_reset 35 = .ok (.iload_n 1, 1) := by decide +kernel
theorem dX5_reset_36 : decode cX5_reset 36 = .ok (.ireturn, 1) := by decide +kernel
set_option maxRecDepth 20000 in
theorem ggX5_undo_X1_restoreInto : GoodIn wsX5_undo wsX1_restoreInto := goodIn_r _ [7, 8, 9, 10, 11, 12, 13, 14, 15, 16, 17, 18, 19, 20, 21, 22, 23, 24, 25, 26, 27, 28, 29, 30, 31, 32, 33, 34, 35, 36, 37, 38, 39, 40, 41, 42, 43, 44, 45, 46, 47, 48, 54, 55, 56, 57, 58, 59, 60, 61, 62, 63, 64, 65, 66, 67, 68, 69, 70, 71, 72, 73, 74, 75, 76, 77, 78, 79] (by decide +kernel) (by decide +kernel)
set_option maxRecDepth 20000 in
theorem gX5_undo_X1_restoreInto : GoodIn wsX5_undo (wsV RX5 135 RX1 yX1_restoreInto wsX1_restoreInto) := goodIn_app (goodIn_of _ (by decide +kernel)) ggX5_undo_X1_restoreInto
theorem dX5_undo_0 : decode cX5_undo 0 = .ok (.aload_n 0, 1) := by decide +kernel
theorem dX5_undo_1 : decode cX5_undo 1 = .ok (.getfield 22, 3) := by decide +kernel
theorem dX5_undo_4 : decode cX5_undo 4 = .ok (.getfield 132, 3) := by decide +kernel
theorem dX5_undo_7 : decode cX5_undo 7 = .ok (.ifCond .ne 6, 3) := by decide +kernel
theorem dX5_undo_10 : decode cX5_undo 10 = .ok (.bipush (-2), 2) := by decide +kernel
theorem dX5_undo_12 : decode cX5_undo 12 = .ok (.ireturn, 1) := by decide +kernel
theorem dX5_undo_13 : decode cX5_undo 13 = .ok (.aload_n 0, 1) := by decide +kernel
theorem dX5_undo_14 : decode cX5_undo 14 = .ok (.getfield 22, 3) := by decide +kernel
theorem dX5_undo_17 : decode cX5_undo 17 = .ok (.aload_n 0, 1) := by decide +kernel
theorem dX5_undo_18 : decode cX5_undo 18 = .ok (.getfield 12, 3) := by decide +kernel
theorem dX5_undo_21 : decode cX5_undo 21 = .ok (.invokevirtual 135, 3) := by decide +kernel
theorem dX5_undo_24 : decode cX5_undo 24 = .ok (.aload_n 0, 1) := by decide +kernel
theorem dX5_undo_25 : decode cX5_undo 25 = .ok (.getfield 22, 3) := by decide +kernel
theorem dX5_undo_28 : decode cX5_undo 28 = .ok (.getfield 132, 3) := by decide +kernel
theorem dX5_undo_31 : decode cX5_undo 31 = .ok (.ireturn, 1) := by decide +kernel
set_option maxRecDepth 20000 in
theorem ggX5_append_X5_isWithin : GoodIn wsX5_append wsX5_isWithin := goodIn_r _ [5] (by decide +kernel) (by decide +kernel)
set_option maxRecDepth 20000 in
theorem gX5_append_X5_isWithin : GoodIn wsX5_append (va_wsS RX5 50 yX5_isWithin wsX5_isWithin) := goodIn_app (goodIn_of _ (by decide +kernel)) ggX5_append_X5_isWithin
set_option maxRecDepth 20000 in
theorem ggX5_append_X2_add : GoodIn wsX5_append wsX2_add := goodIn_r _ [10, 11, 12, 18, 19, 20] (by decide +kernel) (by decide +kernel)
set_option maxRecDepth 20000 in
theorem gX5_append_X2_add : GoodIn wsX5_append (wsV RX5 141 RX2 yX2_add wsX2_add) := goodIn_app (goodIn_of _ (by decide +kernel)) ggX5_append_X2_add
theorem dX5_append_0 : decode cX5_append 0 = .ok (.iload_n 1, 1) := by decide +kernel
theorem dX5_append_1 : decode cX5_append 1 = .ok (.iconst 1, 1) := by decide +kernel
theorem dX5_append_2 : decode cX5_append 2 = .ok (.sipush 255, 3) := by decide +kernel
theorem dX5_append_5 : decode cX5_append 5 = .ok (.invokestatic 50, 3) := by decide +kernel
theorem dX5_append_8 : decode cX5_append 8 = .ok (.ifCond .ne 5, 3) := by decide +kernel
theorem dX5_append_11 : decode cX5_append 11 = .ok (.iconst (-1), 1) := by decide +kernel
theorem dX5_append_12 : decode cX5_append 12 = .ok (.ireturn, 1) := by decide +kernel
theorem dX5_append_13 : decode cX5_append 13 = .ok (.aload_n 0, 1) := by decide +kernel
theorem dX5_append_14 : decode cX5_append 14 = .ok (.getfield 38, 3) := by decide +kernel
theorem dX5_append_17 : decode cX5_append 17 = .ok (.getfield 138, 3) := by decide +kernel
theorem dX5_append_20 : decode cX5_append 20 = .ok (.sipush 140, 3) := by decide +kernel
theorem dX5_append_23 : decode cX5_append 23 = .ok (.if_icmp .lt 6, 3) := by decide +kernel
theorem dX5_append_26 : decode cX5_append 26 = .ok (.bipush (-3), 2) := by decide +kernel
theorem dX5_append_28 : decode cX5_append 28 = .ok (.ireturn, 1) := by decide +kernel
theorem dX5_append_29 : decode cX5_append 29 = .ok (.aload_n 0, 1) := by decide +kernel
theorem dX5_append_30 : decode cX5_append 30 = .ok (.getfield 38, 3) := by decide +kernel
theorem dX5_append_33 : decode cX5_append 33 = .ok (.iload_n 1, 1) := by decide +kernel
theorem dX5_append_34 : decode cX5_append 34 = .ok (.i2c, 1) := by decide +kernel
theorem dX5_append_35 : decode cX5_append 35 = .ok (.invokevirtual 141, 3) := by decide +kernel
theorem dX5_append_38 : decode cX5_append 38 = .ok (.aload_n 0, 1) := by decide +kernel
theorem dX5_append_39 : decode cX5_append 39 = .ok (.getfield 38, 3) := by decide +kernel
theorem dX5_append_42 : decode cX5_append 42 = .ok (.getfield 138, 3) := by decide +kernel
theorem dX5_append_45 : decode cX5_append 45 = .ok (.ireturn, 1) := by decide +kernel
theorem dX5_clearText_0 : decode cX5_clearText 0 = .ok (.aload_n 0, 1) := by decide +kernel
theorem dX5_clearText_1 : decode cX5_clearText 1 = .ok (.getfield 38, 3) := by decide +kernel
theorem dX5_clearText_4 : decode cX5_clearText 4 = .ok (.getfield 138, 3) := by decide +kernel
theorem dX5_clearText_7 : decode cX5_clearText 7 = .ok (.istore_n 1, 1) := by decide +kernel
theorem dX5_clearText_8 : decode cX5_clearText 8 = .ok (.aload_n 0, 1) := by decide +kernel
theorem dX5_clearText_9 : decode cX5_clearText 9 = .ok (.getfield 38, 3) := by decide +kernel
theorem dX5_clearText_12 : decode cX5_clearText 12 = .ok (.iconst 0, 1) := by decide +kernel
theorem dX5_clearText_13 : decode cX5_clearText 13 = .ok (.putfield 138, 3) := by decide +kernel
theorem dX5_clearText_16 : decode cX5_clearText 16 = .ok (.iload_n 1, 1) := by decide +kernel
theorem dX5_clearText_17 : decode cX5_clearText 17 = .ok (.ireturn, 1) := by decide +kernel
set_option maxRecDepth 20000 in
theorem ggX5_load_X4_copyFrom : GoodIn wsX5_load wsX4_copyFrom := goodIn_r _ [9, 10, 11, 12, 13, 14, 15, 16, 17, 18, 19, 20, 21, 22, 23, 24, 25, 26, 27, 28, 29, 30, 31, 32, 33, 34, 35, 36, 37, 38, 39, 40, 41, 42, 220, 221, 222, 223, 224, 225, 226, 227, 228, 229, 230, 231, 232, 233, 234, 235, 236, 237, 238, 239, 240, 241, 242] (by decide +kernel) (by decide +kernel)
set_option maxRecDepth 20000 in
theorem gX5_load_X4_copyFrom : GoodIn wsX5_load (wsV RX5 145 RX4 yX4_copyFrom wsX4_copyFrom) := goodIn_app (goodIn_of _ (by decide +kernel)) ggX5_load_X4_copyFrom
set_option maxRecDepth 20000 in
theorem ggX5_load_X2_carryOutOn : GoodIn wsX5_load wsX2_carryOutOn := goodIn_r _ [47, 48, 49, 50, 51, 52, 46, 53, 54, 55, 56, 57, 58, 59, 60, 61, 62, 63, 64, 65, 66, 67, 68, 69, 70, 71, 72, 73, 74, 75, 76, 77, 78, 79, 80, 81, 82, 83, 84, 85, 86, 87, 88, 89, 90, 91, 92, 93, 94, 95, 96, 97, 98, 99, 100, 101, 102, 103, 104, 105, 106, 107, 108, 109, 110, 111, 112, 113, 114, 115, 116, 117, 118, 119, 120, 121, 122, 123, 124, 125, 126, 127, 128, 129, 130, 131, 132, 133, 134, 135, 136, 137, 138, 139, 140, 141, 142, 143, 144, 145, 146, 147, 148, 149, 150, 151, 152, 153, 154, 155, 156, 157, 158, 159, 160, 161, 162, 163, 164, 165, 166, 167, 168, 169, 170, 171, 172, 173, 174, 175, 176, 177, 178, 179, 180, 8, 181, 10, 15, 17, 18, 16, 31, 182, 183, 184, 185, 186, 35, 187, 40, 188, 189, 190, 191, 39, 192, 193, 194, 195, 196, 197, 198, 199, 200, 201, 217, 218, 219, 220, 221, 222, 223, 224, 225, 226, 227, 228, 229, 230, 231, 232, 233, 234, 235, 236, 237, 238, 239, 240, 241, 242] (by decide +kernel) (by decide +kernel)
set_option maxRecDepth 20000 in
theorem gX5_load_X2_carryOutOn : GoodIn wsX5_load (wsV RX5 148 RX2 yX2_carryOutOn wsX2_carryOutOn) := goodIn_app (goodIn_of _ (by decide +kernel)) ggX5_load_X2_carryOutOn
set_option maxRecDepth 20000 in
theorem ggX5_load_X1_keep : GoodIn wsX5_load wsX1_keep := goodIn_r _ [206, 207, 208, 209, 210, 72, 73, 74, 211, 6, 7, 8, 9, 10, 11, 12, 13, 14, 15, 16, 17, 18, 19, 20, 21, 22, 23, 24, 25, 26, 27, 28, 29, 30, 31, 32, 33, 34, 35, 36, 37, 38, 39, 40, 41, 42, 243, 244, 245, 220, 221, 222, 223, 224, 225, 226, 227, 228, 229, 230, 231, 232, 233, 234, 235, 236, 237, 238, 239, 240, 241, 242] (by decide +kernel) (by decide +kernel)
set_option maxRecDepth 20000 in
theorem gX5_load_X1_keep : GoodIn wsX5_load (wsV RX5 54 RX1 yX1_keep wsX1_keep) := goodIn_app (goodIn_of _ (by decide +kernel)) ggX5_load_X1_keep
theorem dX5_load_0 : decode cX5_load 0 = .ok (.aload_n 0, 1) := by decide +kernel
theorem dX5_load_1 : decode cX5_load 1 = .ok (.getfield 16, 3) := by decide +kernel
theorem dX5_load_4 : decode cX5_load 4 = .ok (.aload_n 0, 1) := by decide +kernel
theorem dX5_load_5 : decode cX5_load 5 = .ok (.getfield 12, 3) := by decide +kernel
theorem dX5_load_8 : decode cX5_load 8 = .ok (.invokevirtual 145, 3) := by decide +kernel
theorem dX5_load_11 : decode cX5_load 11 = .ok (.aload_n 0, 1) := by decide +kernel
theorem dX5_load_12 : decode cX5_load 12 = .ok (.getfield 38, 3) := by decide +kernel
theorem dX5_load_15 : decode cX5_load 15 = .ok (.aload_n 0, 1) := by decide +kernel
theorem dX5_load_16 : decode cX5_load 16 = .ok (.getfield 16, 3) := by decide +kernel
theorem dX5_load_19 : decode cX5_load 19 = .ok (.invokevirtual 148, 3) := by decide +kernel
theorem dX5_load_22 : decode cX5_load 22 = .ok (.istore_n 1, 1) := by decide +kernel
theorem dX5_load_23 : decode cX5_load 23 = .ok (.iload_n 1, 1) := by decide +kernel
theorem dX5_load_24 : decode cX5_load 24 = .ok (.ifCond .ge 5, 3) := by decide +kernel
theorem dX5_load_27 : decode cX5_load 27 = .ok (.iload_n 1, 1) := by decide +kernel
theorem dX5_load_28 : decode cX5_load 28 = .ok (.ireturn, 1) := by decide +kernel
theorem dX5_load_29 : decode cX5_load 29 = .ok (.aload_n 0, 1) := by decide +kernel
theorem dX5_load_30 : decode cX5_load 30 = .ok (.getfield 22, 3) := by decide +kernel
theorem dX5_load_33 : decode cX5_load 33 = .ok (.aload_n 0, 1) := by decide +kernel
theorem dX5_load_34 : decode cX5_load 34 = .ok (.getfield 12, 3) := by decide +kernel
theorem dX5_load_37 : decode cX5_load 37 = .ok (.invokevirtual 54, 3) := by decide +kernel
theorem dX5_load_40 : decode cX5_load 40 = .ok (.aload_n 0, 1) := by decide +kernel
theorem dX5_load_41 : decode cX5_load 41 = .ok (.getfield 12, 3) := by decide +kernel
theorem dX5_load_44 : decode cX5_load 44 = .ok (.aload_n 0, 1) := by decide +kernel
theorem dX5_load_45 : decode cX5_load 45 = .ok (.getfield 16, 3) := by decide +kernel
theorem dX5_load_48 : decode cX5_load 48 = .ok (.invokevirtual 145, 3) := by decide +kernel
theorem dX5_load_51 : decode cX5_load 51 = .ok (.aload_n 0, 1) := by decide +kernel
theorem dX5_load_52 : decode cX5_load 52 = .ok (.getfield 38, 3) := by decide +kernel
theorem dX5_load_55 : decode cX5_load 55 = .ok (.iconst 0, 1) := by decide +kernel
theorem dX5_load_56 : decode cX5_load 56 = .ok (.putfield 138, 3) := by decide +kernel
theorem dX5_load_59 : decode cX5_load 59 = .ok (.iload_n 1, 1) := by decide +kernel
theorem dX5_load_60 : decode cX5_load 60 = .ok (.ireturn, 1) := by decide +kernel
set_option maxRecDepth 20000 in
theorem ggX5_count_X0_isGoingOn : GoodIn wsX5_count wsX0_isGoingOn := goodIn_r _ [8, 9, 61, 62, 63, 64, 65] (by decide +kernel) (by decide +kernel)
set_option maxRecDepth 20000 in
theorem gX5_count_X0_isGoingOn : GoodIn wsX5_count (wsV RX5 156 RX0 yX0_isGoingOn wsX0_isGoingOn) := goodIn_app (goodIn_of _ (by decide +kernel)) ggX5_count_X0_isGoingOn
set_option maxRecDepth 20000 in
theorem ggX5_count_J6_bitCount_0f7a4 : GoodIn wsX5_count wsJ6_bitCount_0f7a4 := goodIn_r _ [13, 14, 15, 16] (by decide +kernel) (by decide +kernel)
set_option maxRecDepth 20000 in
theorem gX5_count_J6_bitCount_0f7a4 : GoodIn wsX5_count (va_wsS RX5 87 yJ6_bitCount_0f7a4 wsJ6_bitCount_0f7a4) := goodIn_app (goodIn_of _ (by decide +kernel)) ggX5_count_J6_bitCount_0f7a4
set_option maxRecDepth 20000 in
theorem ggX5_count_X4_audibleChannels : GoodIn wsX5_count wsX4_audibleChannels := goodIn_r _ [21, 22, 23, 24, 20, 25, 26, 27, 28, 29, 30, 31, 32, 33, 34, 35, 36, 37, 43, 44, 45, 46, 47, 48, 49, 50, 51, 52, 53, 54, 55, 56, 57, 58, 59, 60] (by decide +kernel) (by decide +kernel)
set_option maxRecDepth 20000 in
theorem gX5_count_X4_audibleChannels : GoodIn wsX5_count (wsV RX5 169 RX4 yX4_audibleChannels wsX4_audibleChannels) := goodIn_app (goodIn_of _ (by decide +kernel)) ggX5_count_X4_audibleChannels
theorem dX5_count_0 : decode cX5_count 0 = .ok (.iload_n 1, 1) := by decide +kernel
theorem dX5_count_1 : decode cX5_count 1 = .ok (.tableswitch 192 0 10 #[59, 67, 75, 83, 91, 120, 149, 160, 168, 176, 184], 59) := by decide +kernel
theorem dX5_count_60 : decode cX5_count 60 = .ok (.aload_n 0, 1) := by decide +kernel
theorem dX5_count_61 : decode cX5_count 61 = .ok (.getfield 12, 3) := by decide +kernel
theorem dX5_count_64 : decode cX5_count 64 = .ok (.getfield 117, 3) := by decide +kernel
theorem dX5_count_67 : decode cX5_count 67 = .ok (.ireturn, 1) := by decide +kernel
theorem dX5_count_68 : decode cX5_count 68 = .ok (.aload_n 0, 1) := by decide +kernel
theorem dX5_count_69 : decode cX5_count 69 = .ok (.getfield 12, 3) := by decide +kernel
theorem dX5_count_72 : decode cX5_count 72 = .ok (.getfield 123, 3) := by decide +kernel
theorem dX5_count_75 : decode cX5_count 75 = .ok (.ireturn, 1) := by decide +kernel
theorem dX5_count_76 : decode cX5_count 76 = .ok (.aload_n 0, 1) := by decide +kernel
theorem dX5_count_77 : decode cX5_count 77 = .ok (.getfield 12, 3) := by decide +kernel
theorem dX5_count_80 : decode cX5_count 80 = .ok (.getfield 126, 3) := by decide +kernel
theorem dX5_count_83 : decode cX5_count 83 = .ok (.ireturn, 1) := by decide +kernel
theorem dX5_count_84 : decode cX5_count 84 = .ok (.aload_n 0, 1) := by decide +kernel
theorem dX5_count_85 : decode cX5_count 85 = .ok (.getfield 12, 3) := by decide +kernel
theorem dX5_count_88 : decode cX5_count 88 = .ok (.getfield 129, 3) := by decide +kernel
theorem dX5_count_91 : decode cX5_count 91 = .ok (.ireturn, 1) := by decide +kernel
theorem dX5_count_92 : decode cX5_count 92 = .ok (.aload_n 0, 1) := by decide +kernel
theorem dX5_count_93 : decode cX5_count 93 = .ok (.getfield 12, 3) := by decide +kernel
theorem dX5_count_96 : decode cX5_count 96 = .ok (.getfield 152, 3) := by decide +kernel
theorem dX5_count_99 : decode cX5_count 99 = .ok (.invokevirtual 156, 3) := by decide +kernel
theorem dX5_count_102 : decode cX5_count 102 = .ok (.ifCond .eq 16, 3) := by decide +kernel
theorem dX5_count_105 : decode cX5_count 105 = .ok (.aload_n 0, 1) := by decide +kernel
theorem dX5_count_106 : decode cX5_count 106 = .ok (.getfield 12, 3) := by decide +kernel
theorem dX5_count_109 : decode cX5_count 109 = .ok (.getfield 152, 3) := by decide +kernel
theorem dX5_count_112 : decode cX5_count 112 = .ok (.getfield 162, 3) := by decide +kernel
theorem dX5_count_115 : decode cX5_count 115 = .ok (.goto 5, 3) := by decide +kernel
theorem dX5_count_118 : decode cX5_count 118 = .ok (.bipush (-99), 2) := by decide +kernel
theorem dX5_count_120 : decode cX5_count 120 = .ok (.ireturn, 1) := by decide +kernel
theorem dX5_count_121 : decode cX5_count 121 = .ok (.aload_n 0, 1) := by decide +kernel
theorem dX5_count_122 : decode cX5_count 122 = .ok (.getfield 12, 3) := by decide +kernel
theorem dX5_count_125 : decode cX5_count 125 = .ok (.getfield 152, 3) := by decide +kernel
theorem dX5_count_128 : decode cX5_count 128 = .ok (.invokevirtual 156, 3) := by decide +kernel
theorem dX5_count_131 : decode cX5_count 131 = .ok (.ifCond .eq 16, 3) := by decide +kernel
theorem dX5_count_134 : decode cX5_count 134 = .ok (.aload_n 0, 1) := by decide +kernel
theorem dX5_count_135 : decode cX5_count 135 = .ok (.getfield 12, 3) := by decide +kernel
theorem dX5_count_138 : decode cX5_count 138 = .ok (.getfield 152, 3) := by decide +kernel
theorem dX5_count_141 : decode cX5_count 141 = .ok (.getfield 165, 3) := by decide +kernel
theorem dX5_count_144 : decode cX5_count 144 = .ok (.goto 5, 3) := by decide +kernel
theorem dX5_count_147 : decode cX5_count 147 = .ok (.bipush (-99), 2) := by decide +kernel
theorem dX5_count_149 : decode cX5_count 149 = .ok (.ireturn, 1) := by decide +kernel
theorem dX5_count_150 : decode cX5_count 150 = .ok (.aload_n 0, 1) := by decide +kernel
theorem dX5_count_151 : decode cX5_count 151 = .ok (.getfield 12, 3) := by decide +kernel
theorem dX5_count_154 : decode cX5_count 154 = .ok (.getfield 103, 3) := by decide +kernel
theorem dX5_count_157 : decode cX5_count 157 = .ok (.invokestatic 87, 3) := by decide +kernel
theorem dX5_count_160 : decode cX5_count 160 = .ok (.ireturn, 1) := by decide +kernel
theorem dX5_count_161 : decode cX5_count 161 = .ok (.aload_n 0, 1) := by decide +kernel
theorem dX5_count_162 : decode cX5_count 162 = .ok (.getfield 12, 3) := by decide +kernel
theorem dX5_count_165 : decode cX5_count 165 = .ok (.getfield 166, 3) := by decide +kernel
theorem dX5_count_168 : decode cX5_count 168 = .ok (.ireturn, 1) := by decide +kernel
theorem dX5_count_169 : decode cX5_count 169 = .ok (.aload_n 0, 1) := by decide +kernel
theorem dX5_count_170 : decode cX5_count 170 = .ok (.getfield 12, 3) := by decide +kernel
theorem dX5_count_173 : decode cX5_count 173 = .ok (.invokevirtual 169, 3) := by decide +kernel
theorem dX5_count_176 : decode cX5_count 176 = .ok (.ireturn, 1) := by decide +kernel
theorem dX5_count_177 : decode cX5_count 177 = .ok (.aload_n 0, 1) := by decide +kernel
theorem dX5_count_178 : decode cX5_count 178 = .ok (.getfield 22, 3) := by decide +kernel
theorem dX5_count_181 : decode cX5_count 181 = .ok (.getfield 132, 3) := by decide +kernel
theorem dX5_count_184 : decode cX5_count 184 = .ok (.ireturn, 1) := by decide +kernel
theorem dX5_count_185 : decode cX5_count 185 = .ok (.aload_n 0, 1) := by decide +kernel
theorem dX5_count_186 : decode cX5_count 186 = .ok (.getfield 38, 3) := by decide +kernel
theorem dX5_count_189 : decode cX5_count 189 = .ok (.getfield 138, 3) := by decide +kernel
theorem dX5_count_192 : decode cX5_count 192 = .ok (.ireturn, 1) := by decide +kernel
theorem dX5_count_193 : decode cX5_count 193 = .ok (.iconst (-1), 1) := by decide +kernel
theorem dX5_count_194 : decode cX5_count 194 = .ok (.ireturn, 1) := by decide +kernel
set_option maxRecDepth 20000 in
theorem ggX5_channel_X5_isBelow : GoodIn wsX5_channel wsX5_isBelow := goodIn_r _ [6] (by decide +kernel) (by decide +kernel)
set_option maxRecDepth 20000 in
theorem gX5_channel_X5_isBelow : GoodIn wsX5_channel (va_wsS RX5 42 yX5_isBelow wsX5_isBelow) := goodIn_app (goodIn_of _ (by decide +kernel)) ggX5_channel_X5_isBelow
set_option maxRecDepth 20000 in
theorem ggX5_channel_X4_channelProperty : GoodIn wsX5_channel wsX4_channelProperty := goodIn_r _ [11, 12, 13, 14, 15, 16, 17, 5, 18, 44, 45, 46, 47, 48, 49, 50, 51, 52, 53, 54, 55, 56, 57, 58, 59, 60, 61] (by decide +kernel) (by decide +kernel)
set_option maxRecDepth 20000 in
theorem gX5_channel_X4_channelProperty : GoodIn wsX5_channel (wsV RX5 57 RX4 yX4_channelProperty wsX4_channelProperty) := goodIn_app (goodIn_of _ (by decide +kernel)) ggX5_channel_X4_channelProperty
set_option maxRecDepth 20000 in
theorem ggX5_channel_X4_levelOf : GoodIn wsX5_channel wsX4_levelOf := goodIn_r _ [22, 14, 13, 16, 17, 5, 18, 23, 24, 25, 10, 26, 27, 15, 44, 45, 46, 47, 48, 49, 50, 51, 52, 53, 54, 55, 56, 57, 58, 59, 60, 61] (by decide +kernel) (by decide +kernel)
set_option maxRecDepth 20000 in
theorem gX5_channel_X4_levelOf : GoodIn wsX5_channel (wsV RX5 173 RX4 yX4_levelOf wsX4_levelOf) := goodIn_app (goodIn_of _ (by decide +kernel)) ggX5_channel_X4_levelOf
set_option maxRecDepth 20000 in
theorem ggX5_channel_X0_isTouched : GoodIn wsX5_channel wsX0_isTouched := goodIn_r _ [32, 33, 17, 5, 18, 62, 63, 64, 65, 66] (by decide +kernel) (by decide +kernel)
set_option maxRecDepth 20000 in
theorem gX5_channel_X0_isTouched : GoodIn wsX5_channel (wsV RX5 179 RX0 yX0_isTouched wsX0_isTouched) := goodIn_app (goodIn_of _ (by decide +kernel)) ggX5_channel_X0_isTouched
set_option maxRecDepth 20000 in
theorem ggX5_channel_X4_feedBackInto : GoodIn wsX5_channel wsX4_feedBackInto := goodIn_r _ [37, 38, 44, 45, 46, 47, 48, 49, 50, 51, 52, 53, 54, 55, 56, 57, 58, 59, 60, 61] (by decide +kernel) (by decide +kernel)
set_option maxRecDepth 20000 in
theorem gX5_channel_X4_feedBackInto : GoodIn wsX5_channel (wsV RX5 93 RX4 yX4_feedBackInto wsX4_feedBackInto) := goodIn_app (goodIn_of _ (by decide +kernel)) ggX5_channel_X4_feedBackInto
theorem dX5_channel_0 : decode cX5_channel 0 = .ok (.iload_n 1, 1) := by decide +kernel
theorem dX5_channel_1 : decode cX5_channel 1 = .ok (.bipush 12, 2) := by decide +kernel
theorem dX5_channel_3 : decode cX5_channel 3 = .ok (.invokestatic 42, 3) := by decide +kernel
theorem dX5_channel_6 : decode cX5_channel 6 = .ok (.ifCond .ne 5, 3) := by decide +kernel
theorem dX5_channel_9 : decode cX5_channel 9 = .ok (.iconst (-1), 1) := by decide +kernel
theorem dX5_channel_10 : decode cX5_channel 10 = .ok (.ireturn, 1) := by decide +kernel
theorem dX5_channel_11 : decode cX5_channel 11 = .ok (.iload_n 2, 1) := by decide +kernel
theorem dX5_channel_12 : decode cX5_channel 12 = .ok (.getstatic 46, 3) := by decide +kernel
theorem dX5_channel_15 : decode cX5_channel 15 = .ok (.arraylength, 1) := by decide +kernel
theorem dX5_channel_16 : decode cX5_channel 16 = .ok (.invokestatic 42, 3) := by decide +kernel
theorem dX5_channel_19 : decode cX5_channel 19 = .ok (.ifCond .eq 13, 3) := by decide +kernel
theorem dX5_channel_22 : decode cX5_channel 22 = .ok (.aload_n 0, 1) := by decide +kernel
theorem dX5_channel_23 : decode cX5_channel 23 = .ok (.getfield 12, 3) := by decide +kernel
theorem dX5_channel_26 : decode cX5_channel 26 = .ok (.iload_n 1, 1) := by decide +kernel
theorem dX5_channel_27 : decode cX5_channel 27 = .ok (.iload_n 2, 1) := by decide +kernel
theorem dX5_channel_28 : decode cX5_channel 28 = .ok (.invokevirtual 57, 3) := by decide +kernel
theorem dX5_channel_31 : decode cX5_channel 31 = .ok (.ireturn, 1) := by decide +kernel
theorem dX5_channel_32 : decode cX5_channel 32 = .ok (.iload_n 2, 1) := by decide +kernel
theorem dX5_channel_33 : decode cX5_channel 33 = .ok (.tableswitch 79 5 8 #[31, 40, 50, 70], 31) := by decide +kernel
theorem dX5_channel_64 : decode cX5_channel 64 = .ok (.aload_n 0, 1) := by decide +kernel
theorem dX5_channel_65 : decode cX5_channel 65 = .ok (.getfield 12, 3) := by decide +kernel
theorem dX5_channel_68 : decode cX5_channel 68 = .ok (.iload_n 1, 1) := by decide +kernel
theorem dX5_channel_69 : decode cX5_channel 69 = .ok (.invokevirtual 173, 3) := by decide +kernel
theorem dX5_channel_72 : decode cX5_channel 72 = .ok (.ireturn, 1) := by decide +kernel
theorem dX5_channel_73 : decode cX5_channel 73 = .ok (.aload_n 0, 1) := by decide +kernel
theorem dX5_channel_74 : decode cX5_channel 74 = .ok (.getfield 12, 3) := by decide +kernel
theorem dX5_channel_77 : decode cX5_channel 77 = .ok (.getfield 176, 3) := by decide +kernel
theorem dX5_channel_80 : decode cX5_channel 80 = .ok (.iload_n 1, 1) := by decide +kernel
theorem dX5_channel_81 : decode cX5_channel 81 = .ok (.iaload, 1) := by decide +kernel
theorem dX5_channel_82 : decode cX5_channel 82 = .ok (.ireturn, 1) := by decide +kernel
theorem dX5_channel_83 : decode cX5_channel 83 = .ok (.aload_n 0, 1) := by decide +kernel
theorem dX5_channel_84 : decode cX5_channel 84 = .ok (.getfield 12, 3) := by decide +kernel
theorem dX5_channel_87 : decode cX5_channel 87 = .ok (.getfield 152, 3) := by decide +kernel
theorem dX5_channel_90 : decode cX5_channel 90 = .ok (.iload_n 1, 1) := by decide +kernel
theorem dX5_channel_91 : decode cX5_channel 91 = .ok (.invokevirtual 179, 3) := by decide +kernel
theorem dX5_channel_94 : decode cX5_channel 94 = .ok (.ifCond .eq 7, 3) := by decide +kernel
theorem dX5_channel_97 : decode cX5_channel 97 = .ok (.iconst 1, 1) := by decide +kernel
theorem dX5_channel_98 : decode cX5_channel 98 = .ok (.goto 4, 3) := by decide +kernel
theorem dX5_channel_101 : decode cX5_channel 101 = .ok (.iconst 0, 1) := by decide +kernel
theorem dX5_channel_102 : decode cX5_channel 102 = .ok (.ireturn, 1) := by decide +kernel
theorem dX5_channel_103 : decode cX5_channel 103 = .ok (.aload_n 0, 1) := by decide +kernel
theorem dX5_channel_104 : decode cX5_channel 104 = .ok (.getfield 12, 3) := by decide +kernel
theorem dX5_channel_107 : decode cX5_channel 107 = .ok (.iload_n 1, 1) := by decide +kernel
theorem dX5_channel_108 : decode cX5_channel 108 = .ok (.invokevirtual 93, 3) := by decide +kernel
theorem dX5_channel_111 : decode cX5_channel 111 = .ok (.ireturn, 1) := by decide +kernel
theorem dX5_channel_112 : decode cX5_channel 112 = .ok (.iconst (-1), 1) := by decide +kernel
theorem dX5_channel_113 : decode cX5_channel 113 = .ok (.ireturn, 1) := by decide +kernel
set_option maxRecDepth 20000 in
theorem ggX5_group_X5_isBelow : GoodIn wsX5_group wsX5_isBelow := goodIn_r _ [6] (by decide +kernel) (by decide +kernel)
set_option maxRecDepth 20000 in
theorem gX5_group_X5_isBelow : GoodIn wsX5_group (va_wsS RX5 42 yX5_isBelow wsX5_isBelow) := goodIn_app (goodIn_of _ (by decide +kernel)) ggX5_group_X5_isBelow
set_option maxRecDepth 20000 in
theorem ggX5_group_X4_groupProperty : GoodIn wsX5_group wsX4_groupProperty := goodIn_r _ [11, 12, 13, 14, 5, 15, 32, 33, 34, 35, 36, 37, 38, 39, 40, 41, 42, 43, 44, 45, 46, 47, 48, 49] (by decide +kernel) (by decide +kernel)
set_option maxRecDepth 20000 in
theorem gX5_group_X4_groupProperty : GoodIn wsX5_group (wsV RX5 68 RX4 yX4_groupProperty wsX4_groupProperty) := goodIn_app (goodIn_of _ (by decide +kernel)) ggX5_group_X4_groupProperty
set_option maxRecDepth 20000 in
theorem ggX5_group_X4_membersOf : GoodIn wsX5_group wsX4_membersOf := goodIn_r _ [19, 20, 14, 5, 15, 32, 33, 34, 35, 36, 37, 38, 39, 40, 41, 42, 43, 44, 45, 46, 47, 48, 49] (by decide +kernel) (by decide +kernel)
set_option maxRecDepth 20000 in
theorem gX5_group_X4_membersOf : GoodIn wsX5_group (wsV RX5 183 RX4 yX4_membersOf wsX4_membersOf) := goodIn_app (goodIn_of _ (by decide +kernel)) ggX5_group_X4_membersOf
set_option maxRecDepth 20000 in
theorem ggX5_group_X0_isTouched : GoodIn wsX5_group wsX0_isTouched := goodIn_r _ [25, 26, 14, 5, 15, 50, 51, 52, 53, 54] (by decide +kernel) (by decide +kernel)
set_option maxRecDepth 20000 in
theorem gX5_group_X0_isTouched : GoodIn wsX5_group (wsV RX5 179 RX0 yX0_isTouched wsX0_isTouched) := goodIn_app (goodIn_of _ (by decide +kernel)) ggX5_group_X0_isTouched
theorem dX5_group_0 : decode cX5_group 0 = .ok (.iload_n 1, 1) := by decide +kernel
theorem dX5_group_1 : decode cX5_group 1 = .ok (.iconst 4, 1) := by decide +kernel
theorem dX5_group_2 : decode cX5_group 2 = .ok (.invokestatic 42, 3) := by decide +kernel
theorem dX5_group_5 : decode cX5_group 5 = .ok (.ifCond .ne 5, 3) := by decide +kernel
theorem dX5_group_8 : decode cX5_group 8 = .ok (.iconst (-1), 1) := by decide +kernel
theorem dX5_group_9 : decode cX5_group 9 = .ok (.ireturn, 1) := by decide +kernel
theorem dX5_group_10 : decode cX5_group 10 = .ok (.iload_n 2, 1) := by decide +kernel
theorem dX5_group_11 : decode cX5_group 11 = .ok (.getstatic 65, 3) := by decide +kernel
theorem dX5_group_14 : decode cX5_group 14 = .ok (.arraylength, 1) := by decide +kernel
theorem dX5_group_15 : decode cX5_group 15 = .ok (.invokestatic 42, 3) := by decide +kernel
theorem dX5_group_18 : decode cX5_group 18 = .ok (.ifCond .eq 13, 3) := by decide +kernel
theorem dX5_group_21 : decode cX5_group 21 = .ok (.aload_n 0, 1) := by decide +kernel
theorem dX5_group_22 : decode cX5_group 22 = .ok (.getfield 12, 3) := by decide +kernel
theorem dX5_group_25 : decode cX5_group 25 = .ok (.iload_n 1, 1) := by decide +kernel
theorem dX5_group_26 : decode cX5_group 26 = .ok (.iload_n 2, 1) := by decide +kernel
theorem dX5_group_27 : decode cX5_group 27 = .ok (.invokevirtual 68, 3) := by decide +kernel
theorem dX5_group_30 : decode cX5_group 30 = .ok (.ireturn, 1) := by decide +kernel
theorem dX5_group_31 : decode cX5_group 31 = .ok (.iload_n 2, 1) := by decide +kernel
theorem dX5_group_32 : decode cX5_group 32 = .ok (.lookupswitch 60 #[(2, 28), (3, 37)], 28) := by decide +kernel
theorem dX5_group_60 : decode cX5_group 60 = .ok (.aload_n 0, 1) := by decide +kernel
theorem dX5_group_61 : decode cX5_group 61 = .ok (.getfield 12, 3) := by decide +kernel
theorem dX5_group_64 : decode cX5_group 64 = .ok (.iload_n 1, 1) := by decide +kernel
theorem dX5_group_65 : decode cX5_group 65 = .ok (.invokevirtual 183, 3) := by decide +kernel
theorem dX5_group_68 : decode cX5_group 68 = .ok (.ireturn, 1) := by decide +kernel
theorem dX5_group_69 : decode cX5_group 69 = .ok (.aload_n 0, 1) := by decide +kernel
theorem dX5_group_70 : decode cX5_group 70 = .ok (.getfield 12, 3) := by decide +kernel
theorem dX5_group_73 : decode cX5_group 73 = .ok (.getfield 152, 3) := by decide +kernel
theorem dX5_group_76 : decode cX5_group 76 = .ok (.bipush 12, 2) := by decide +kernel
theorem dX5_group_78 : decode cX5_group 78 = .ok (.iload_n 1, 1) := by decide +kernel
theorem dX5_group_79 : decode cX5_group 79 = .ok (.iadd, 1) := by decide +kernel
theorem dX5_group_80 : decode cX5_group 80 = .ok (.invokevirtual 179, 3) := by decide +kernel
theorem dX5_group_83 : decode cX5_group 83 = .ok (.ifCond .eq 7, 3) := by decide +kernel
theorem dX5_group_86 : decode cX5_group 86 = .ok (.iconst 1, 1) := by decide +kernel
theorem dX5_group_87 : decode cX5_group 87 = .ok (.goto 4, 3) := by decide +kernel
theorem dX5_group_90 : decode cX5_group 90 = .ok (.iconst 0, 1) := by decide +kernel
theorem dX5_group_91 : decode cX5_group 91 = .ok (.ireturn, 1) := by decide +kernel
theorem dX5_group_92 : decode cX5_group 92 = .ok (.iconst (-1), 1) := by decide +kernel
theorem dX5_group_93 : decode cX5_group 93 = .ok (.ireturn, 1) := by decide +kernel
set_option maxRecDepth 20000 in
theorem ggX5_feed_X5_isBelow : GoodIn wsX5_feed wsX5_isBelow := goodIn_r _ [5] (by decide +kernel) (by decide +kernel)
set_option maxRecDepth 20000 in
theorem gX5_feed_X5_isBelow : GoodIn wsX5_feed (va_wsS RX5 42 yX5_isBelow wsX5_isBelow) := goodIn_app (goodIn_of _ (by decide +kernel)) ggX5_feed_X5_isBelow
set_option maxRecDepth 20000 in
theorem ggX5_feed_X4_channelsReaching : GoodIn wsX5_feed wsX4_channelsReaching := goodIn_r _ [10, 11, 12, 13, 9, 14, 15, 16, 17, 18, 19, 20, 21, 22, 4, 23, 24, 25, 26, 27, 28, 29, 30, 31, 32, 33, 34, 35, 36, 37, 43, 44, 45, 46, 47, 48, 49, 50, 51, 52, 53, 54, 55, 56, 57, 58, 59, 60] (by decide +kernel) (by decide +kernel)
set_option maxRecDepth 20000 in
theorem gX5_feed_X4_channelsReaching : GoodIn wsX5_feed (wsV RX5 189 RX4 yX4_channelsReaching wsX4_channelsReaching) := goodIn_app (goodIn_of _ (by decide +kernel)) ggX5_feed_X4_channelsReaching
theorem dX5_feed_0 : decode cX5_feed 0 = .ok (.iload_n 1, 1) := by decide +kernel
theorem dX5_feed_1 : decode cX5_feed 1 = .ok (.iconst 4, 1) := by decide +kernel
theorem dX5_feed_2 : decode cX5_feed 2 = .ok (.invokestatic 42, 3) := by decide +kernel
theorem dX5_feed_5 : decode cX5_feed 5 = .ok (.ifCond .ne 5, 3) := by decide +kernel
theorem dX5_feed_8 : decode cX5_feed 8 = .ok (.iconst (-1), 1) := by decide +kernel
theorem dX5_feed_9 : decode cX5_feed 9 = .ok (.ireturn, 1) := by decide +kernel
theorem dX5_feed_10 : decode cX5_feed 10 = .ok (.iload_n 2, 1) := by decide +kernel
theorem dX5_feed_11 : decode cX5_feed 11 = .ok (.tableswitch 85 0 3 #[29, 39, 66, 76], 29) := by decide +kernel
theorem dX5_feed_40 : decode cX5_feed 40 = .ok (.aload_n 0, 1) := by decide +kernel
theorem dX5_feed_41 : decode cX5_feed 41 = .ok (.getfield 12, 3) := by decide +kernel
theorem dX5_feed_44 : decode cX5_feed 44 = .ok (.getfield 80, 3) := by decide +kernel
theorem dX5_feed_47 : decode cX5_feed 47 = .ok (.iload_n 1, 1) := by decide +kernel
theorem dX5_feed_48 : decode cX5_feed 48 = .ok (.iaload, 1) := by decide +kernel
theorem dX5_feed_49 : decode cX5_feed 49 = .ok (.ireturn, 1) := by decide +kernel
theorem dX5_feed_50 : decode cX5_feed 50 = .ok (.aload_n 0, 1) := by decide +kernel
theorem dX5_feed_51 : decode cX5_feed 51 = .ok (.getfield 12, 3) := by decide +kernel
theorem dX5_feed_54 : decode cX5_feed 54 = .ok (.getfield 96, 3) := by decide +kernel
theorem dX5_feed_57 : decode cX5_feed 57 = .ok (.iload_n 1, 1) := by decide +kernel
theorem dX5_feed_58 : decode cX5_feed 58 = .ok (.iaload, 1) := by decide +kernel
theorem dX5_feed_59 : decode cX5_feed 59 = .ok (.ifCond .ge 8, 3) := by decide +kernel
theorem dX5_feed_62 : decode cX5_feed 62 = .ok (.bipush (-99), 2) := by decide +kernel
theorem dX5_feed_64 : decode cX5_feed 64 = .ok (.goto 12, 3) := by decide +kernel
theorem dX5_feed_67 : decode cX5_feed 67 = .ok (.aload_n 0, 1) := by decide +kernel
theorem dX5_feed_68 : decode cX5_feed 68 = .ok (.getfield 12, 3) := by decide +kernel
theorem dX5_feed_71 : decode cX5_feed 71 = .ok (.getfield 96, 3) := by decide +kernel
theorem dX5_feed_74 : decode cX5_feed 74 = .ok (.iload_n 1, 1) := by decide +kernel
theorem dX5_feed_75 : decode cX5_feed 75 = .ok (.iaload, 1) := by decide +kernel
theorem dX5_feed_76 : decode cX5_feed 76 = .ok (.ireturn, 1) := by decide +kernel
theorem dX5_feed_77 : decode cX5_feed 77 = .ok (.aload_n 0, 1) := by decide +kernel
theorem dX5_feed_78 : decode cX5_feed 78 = .ok (.getfield 12, 3) := by decide +kernel
theorem dX5_feed_81 : decode cX5_feed 81 = .ok (.getfield 186, 3) := by decide +kernel
theorem dX5_feed_84 : decode cX5_feed 84 = .ok (.iload_n 1, 1) := by decide +kernel
theorem dX5_feed_85 : decode cX5_feed 85 = .ok (.iaload, 1) := by decide +kernel
theorem dX5_feed_86 : decode cX5_feed 86 = .ok (.ireturn, 1) := by decide +kernel
theorem dX5_feed_87 : decode cX5_feed 87 = .ok (.aload_n 0, 1) := by decide +kernel
theorem dX5_feed_88 : decode cX5_feed 88 = .ok (.getfield 12, 3) := by decide +kernel
theorem dX5_feed_91 : decode cX5_feed 91 = .ok (.iload_n 1, 1) := by decide +kernel
theorem dX5_feed_92 : decode cX5_feed 92 = .ok (.invokevirtual 189, 3) := by decide +kernel
theorem dX5_feed_95 : decode cX5_feed 95 = .ok (.ireturn, 1) := by decide +kernel
theorem dX5_feed_96 : decode cX5_feed 96 = .ok (.iconst (-1), 1) := by decide +kernel
theorem dX5_feed_97 : decode cX5_feed 97 = .ok (.ireturn, 1) := by decide +kernel
set_option maxRecDepth 20000 in
theorem ggX5_send_X5_isBelow : GoodIn wsX5_send wsX5_isBelow := goodIn_r _ [5] (by decide +kernel) (by decide +kernel)
set_option maxRecDepth 20000 in
theorem gX5_send_X5_isBelow : GoodIn wsX5_send (va_wsS RX5 42 yX5_isBelow wsX5_isBelow) := goodIn_app (goodIn_of _ (by decide +kernel)) ggX5_send_X5_isBelow
set_option maxRecDepth 20000 in
theorem ggX5_send_X5_sendIndex : GoodIn wsX5_send wsX5_sendIndex := goodIn_r _ [8] (by decide +kernel) (by decide +kernel)
set_option maxRecDepth 20000 in
theorem gX5_send_X5_sendIndex : GoodIn wsX5_send (va_wsS RX5 77 yX5_sendIndex wsX5_sendIndex) := goodIn_app (goodIn_of _ (by decide +kernel)) ggX5_send_X5_sendIndex
set_option maxRecDepth 20000 in
theorem ggX5_send_X4_gainOf : GoodIn wsX5_send wsX4_gainOf := goodIn_r _ [13, 14, 15, 16, 12, 17, 18, 19, 20, 21, 4, 22, 23, 24, 25, 26, 27, 28, 29, 30, 31, 32, 33, 34, 7, 8, 40, 41, 42, 43, 44, 45, 46, 47, 48, 49, 50, 51, 52, 53, 54, 55, 56, 57] (by decide +kernel) (by decide +kernel)
set_option maxRecDepth 20000 in
theorem gX5_send_X4_gainOf : GoodIn wsX5_send (wsV RX5 192 RX4 yX4_gainOf wsX4_gainOf) := goodIn_app (goodIn_of _ (by decide +kernel)) ggX5_send_X4_gainOf
theorem dX5_send_0 : decode cX5_send 0 = .ok (.iload_n 1, 1) := by decide +kernel
theorem dX5_send_1 : decode cX5_send 1 = .ok (.iconst 4, 1) := by decide +kernel
theorem dX5_send_2 : decode cX5_send 2 = .ok (.invokestatic 42, 3) := by decide +kernel
theorem dX5_send_5 : decode cX5_send 5 = .ok (.ifCond .eq 12, 3) := by decide +kernel
theorem dX5_send_8 : decode cX5_send 8 = .ok (.iload_n 2, 1) := by decide +kernel
theorem dX5_send_9 : decode cX5_send 9 = .ok (.bipush 12, 2) := by decide +kernel
theorem dX5_send_11 : decode cX5_send 11 = .ok (.invokestatic 42, 3) := by decide +kernel
theorem dX5_send_14 : decode cX5_send 14 = .ok (.ifCond .ne 5, 3) := by decide +kernel
theorem dX5_send_17 : decode cX5_send 17 = .ok (.iconst (-1), 1) := by decide +kernel
theorem dX5_send_18 : decode cX5_send 18 = .ok (.ireturn, 1) := by decide +kernel
theorem dX5_send_19 : decode cX5_send 19 = .ok (.iload_n 3, 1) := by decide +kernel
theorem dX5_send_20 : decode cX5_send 20 = .ok (.lookupswitch 52 #[(0, 28), (1, 42)], 28) := by decide +kernel
theorem dX5_send_48 : decode cX5_send 48 = .ok (.aload_n 0, 1) := by decide +kernel
theorem dX5_send_49 : decode cX5_send 49 = .ok (.getfield 12, 3) := by decide +kernel
theorem dX5_send_52 : decode cX5_send 52 = .ok (.getfield 74, 3) := by decide +kernel
theorem dX5_send_55 : decode cX5_send 55 = .ok (.iload_n 1, 1) := by decide +kernel
theorem dX5_send_56 : decode cX5_send 56 = .ok (.iload_n 2, 1) := by decide +kernel
theorem dX5_send_57 : decode cX5_send 57 = .ok (.invokestatic 77, 3) := by decide +kernel
theorem dX5_send_60 : decode cX5_send 60 = .ok (.iaload, 1) := by decide +kernel
theorem dX5_send_61 : decode cX5_send 61 = .ok (.ireturn, 1) := by decide +kernel
theorem dX5_send_62 : decode cX5_send 62 = .ok (.aload_n 0, 1) := by decide +kernel
theorem dX5_send_63 : decode cX5_send 63 = .ok (.getfield 12, 3) := by decide +kernel
theorem dX5_send_66 : decode cX5_send 66 = .ok (.iload_n 1, 1) := by decide +kernel
theorem dX5_send_67 : decode cX5_send 67 = .ok (.iload_n 2, 1) := by decide +kernel
theorem dX5_send_68 : decode cX5_send 68 = .ok (.invokevirtual 192, 3) := by decide +kernel
theorem dX5_send_71 : decode cX5_send 71 = .ok (.ireturn, 1) := by decide +kernel
theorem dX5_send_72 : decode cX5_send 72 = .ok (.iconst (-1), 1) := by decide +kernel
theorem dX5_send_73 : decode cX5_send 73 = .ok (.ireturn, 1) := by decide +kernel
set_option maxRecDepth 20000 in
theorem ggX5_scene_X5_isBelow : GoodIn wsX5_scene wsX5_isBelow := goodIn_r _ [5] (by decide +kernel) (by decide +kernel)
set_option maxRecDepth 20000 in
theorem gX5_scene_X5_isBelow : GoodIn wsX5_scene (va_wsS RX5 42 yX5_isBelow wsX5_isBelow) := goodIn_app (goodIn_of _ (by decide +kernel)) ggX5_scene_X5_isBelow
set_option maxRecDepth 20000 in
theorem ggX5_scene_X5_hasBit : GoodIn wsX5_scene wsX5_hasBit := goodIn_r _ [8] (by decide +kernel) (by decide +kernel)
set_option maxRecDepth 20000 in
theorem gX5_scene_X5_hasBit : GoodIn wsX5_scene (va_wsS RX5 107 yX5_hasBit wsX5_hasBit) := goodIn_app (goodIn_of _ (by decide +kernel)) ggX5_scene_X5_hasBit
theorem dX5_scene_0 : decode cX5_scene 0 = .ok (.iload_n 1, 1) := by decide +kernel
theorem dX5_scene_1 : decode cX5_scene 1 = .ok (.bipush 6, 2) := by decide +kernel
theorem dX5_scene_3 : decode cX5_scene 3 = .ok (.invokestatic 42, 3) := by decide +kernel
theorem dX5_scene_6 : decode cX5_scene 6 = .ok (.ifCond .eq 12, 3) := by decide +kernel
theorem dX5_scene_9 : decode cX5_scene 9 = .ok (.iload_n 2, 1) := by decide +kernel
theorem dX5_scene_10 : decode cX5_scene 10 = .ok (.bipush 17, 2) := by decide +kernel
theorem dX5_scene_12 : decode cX5_scene 12 = .ok (.invokestatic 42, 3) := by decide +kernel
theorem dX5_scene_15 : decode cX5_scene 15 = .ok (.ifCond .ne 5, 3) := by decide +kernel
theorem dX5_scene_18 : decode cX5_scene 18 = .ok (.iconst (-1), 1) := by decide +kernel
theorem dX5_scene_19 : decode cX5_scene 19 = .ok (.ireturn, 1) := by decide +kernel
theorem dX5_scene_20 : decode cX5_scene 20 = .ok (.aload_n 0, 1) := by decide +kernel
theorem dX5_scene_21 : decode cX5_scene 21 = .ok (.getfield 12, 3) := by decide +kernel
theorem dX5_scene_24 : decode cX5_scene 24 = .ok (.getfield 103, 3) := by decide +kernel
theorem dX5_scene_27 : decode cX5_scene 27 = .ok (.iload_n 1, 1) := by decide +kernel
theorem dX5_scene_28 : decode cX5_scene 28 = .ok (.invokestatic 107, 3) := by decide +kernel
theorem dX5_scene_31 : decode cX5_scene 31 = .ok (.ifCond .ne 6, 3) := by decide +kernel
theorem dX5_scene_34 : decode cX5_scene 34 = .ok (.bipush (-99), 2) := by decide +kernel
theorem dX5_scene_36 : decode cX5_scene 36 = .ok (.ireturn, 1) := by decide +kernel
theorem dX5_scene_37 : decode cX5_scene 37 = .ok (.aload_n 0, 1) := by decide +kernel
theorem dX5_scene_38 : decode cX5_scene 38 = .ok (.getfield 12, 3) := by decide +kernel
theorem dX5_scene_41 : decode cX5_scene 41 = .ok (.getfield 195, 3) := by decide +kernel
theorem dX5_scene_44 : decode cX5_scene 44 = .ok (.iload_n 1, 1) := by decide +kernel
theorem dX5_scene_45 : decode cX5_scene 45 = .ok (.bipush 17, 2) := by decide +kernel
theorem dX5_scene_47 : decode cX5_scene 47 = .ok (.imul, 1) := by decide +kernel
theorem dX5_scene_48 : decode cX5_scene 48 = .ok (.iload_n 2, 1) := by decide +kernel
theorem dX5_scene_49 : decode cX5_scene 49 = .ok (.iadd, 1) := by decide +kernel
theorem dX5_scene_50 : decode cX5_scene 50 = .ok (.iaload, 1) := by decide +kernel
theorem dX5_scene_51 : decode cX5_scene 51 = .ok (.ireturn, 1) := by decide +kernel
set_option maxRecDepth 20000 in
theorem ggX5_why_X5_isBelow : GoodIn wsX5_why wsX5_isBelow := goodIn_r _ [5] (by decide +kernel) (by decide +kernel)
set_option maxRecDepth 20000 in
theorem gX5_why_X5_isBelow : GoodIn wsX5_why (va_wsS RX5 42 yX5_isBelow wsX5_isBelow) := goodIn_app (goodIn_of _ (by decide +kernel)) ggX5_why_X5_isBelow
set_option maxRecDepth 20000 in
theorem ggX5_why_X4_levelOf : GoodIn wsX5_why wsX4_levelOf := goodIn_r _ [10, 11, 12, 13, 14, 4, 15, 16, 17, 18, 9, 19, 20, 21, 29, 30, 31, 32, 33, 34, 35, 36, 37, 38, 39, 40, 41, 42, 43, 44, 45, 46] (by decide +kernel) (by decide +kernel)
set_option maxRecDepth 20000 in
theorem gX5_why_X4_levelOf : GoodIn wsX5_why (wsV RX5 173 RX4 yX4_levelOf wsX4_levelOf) := goodIn_app (goodIn_of _ (by decide +kernel)) ggX5_why_X4_levelOf
set_option maxRecDepth 20000 in
theorem ggX5_why_X5_hasBit : GoodIn wsX5_why wsX5_hasBit := goodIn_r _ [15] (by decide +kernel) (by decide +kernel)
set_option maxRecDepth 20000 in
theorem gX5_why_X5_hasBit : GoodIn wsX5_why (va_wsS RX5 107 yX5_hasBit wsX5_hasBit) := goodIn_app (goodIn_of _ (by decide +kernel)) ggX5_why_X5_hasBit
set_option maxRecDepth 20000 in
theorem ggX5_why_X4_isSoloedAway : GoodIn wsX5_why wsX4_isSoloedAway := goodIn_r _ [19, 20, 21, 13, 14, 4, 15, 29, 30, 31, 32, 33, 34, 35, 36, 37, 38, 39, 40, 41, 42, 43, 44, 45, 46] (by decide +kernel) (by decide +kernel)
set_option maxRecDepth 20000 in
theorem gX5_why_X4_isSoloedAway : GoodIn wsX5_why (wsV RX5 201 RX4 yX4_isSoloedAway wsX4_isSoloedAway) := goodIn_app (goodIn_of _ (by decide +kernel)) ggX5_why_X4_isSoloedAway
theorem dX5_why_0 : decode cX5_why 0 = .ok (.iload_n 1, 1) := by decide +kernel
theorem dX5_why_1 : decode cX5_why 1 = .ok (.bipush 12, 2) := by decide +kernel
theorem dX5_why_3 : decode cX5_why 3 = .ok (.invokestatic 42, 3) := by decide +kernel
theorem dX5_why_6 : decode cX5_why 6 = .ok (.ifCond .ne 5, 3) := by decide +kernel
theorem dX5_why_9 : decode cX5_why 9 = .ok (.iconst (-1), 1) := by decide +kernel
theorem dX5_why_10 : decode cX5_why 10 = .ok (.ireturn, 1) := by decide +kernel
theorem dX5_why_11 : decode cX5_why 11 = .ok (.aload_n 0, 1) := by decide +kernel
theorem dX5_why_12 : decode cX5_why 12 = .ok (.getfield 12, 3) := by decide +kernel
theorem dX5_why_15 : decode cX5_why 15 = .ok (.iload_n 1, 1) := by decide +kernel
theorem dX5_why_16 : decode cX5_why 16 = .ok (.invokevirtual 173, 3) := by decide +kernel
theorem dX5_why_19 : decode cX5_why 19 = .ok (.ifCond .le 5, 3) := by decide +kernel
theorem dX5_why_22 : decode cX5_why 22 = .ok (.iconst 0, 1) := by decide +kernel
theorem dX5_why_23 : decode cX5_why 23 = .ok (.ireturn, 1) := by decide +kernel
theorem dX5_why_24 : decode cX5_why 24 = .ok (.aload_n 0, 1) := by decide +kernel
theorem dX5_why_25 : decode cX5_why 25 = .ok (.getfield 12, 3) := by decide +kernel
theorem dX5_why_28 : decode cX5_why 28 = .ok (.getfield 198, 3) := by decide +kernel
theorem dX5_why_31 : decode cX5_why 31 = .ok (.iload_n 1, 1) := by decide +kernel
theorem dX5_why_32 : decode cX5_why 32 = .ok (.invokestatic 107, 3) := by decide +kernel
theorem dX5_why_35 : decode cX5_why 35 = .ok (.ifCond .eq 5, 3) := by decide +kernel
theorem dX5_why_38 : decode cX5_why 38 = .ok (.iconst 1, 1) := by decide +kernel
theorem dX5_why_39 : decode cX5_why 39 = .ok (.ireturn, 1) := by decide +kernel
theorem dX5_why_40 : decode cX5_why 40 = .ok (.aload_n 0, 1) := by decide +kernel
theorem dX5_why_41 : decode cX5_why 41 = .ok (.getfield 12, 3) := by decide +kernel
theorem dX5_why_44 : decode cX5_why 44 = .ok (.iload_n 1, 1) := by decide +kernel
theorem dX5_why_45 : decode cX5_why 45 = .ok (.invokevirtual 201, 3) := by decide +kernel
theorem dX5_why_48 : decode cX5_why 48 = .ok (.ifCond .eq 5, 3) := by decide +kernel
theorem dX5_why_51 : decode cX5_why 51 = .ok (.iconst 2, 1) := by decide +kernel
theorem dX5_why_52 : decode cX5_why 52 = .ok (.ireturn, 1) := by decide +kernel
theorem dX5_why_53 : decode cX5_why 53 = .ok (.aload_n 0, 1) := by decide +kernel
theorem dX5_why_54 : decode cX5_why 54 = .ok (.getfield 12, 3) := by decide +kernel
theorem dX5_why_57 : decode cX5_why 57 = .ok (.getfield 204, 3) := by decide +kernel
theorem dX5_why_60 : decode cX5_why 60 = .ok (.iload_n 1, 1) := by decide +kernel
theorem dX5_why_61 : decode cX5_why 61 = .ok (.iaload, 1) := by decide +kernel
theorem dX5_why_62 : decode cX5_why 62 = .ok (.ifCond .ne 5, 3) := by decide +kernel
theorem dX5_why_65 : decode cX5_why 65 = .ok (.iconst 3, 1) := by decide +kernel
theorem dX5_why_66 : decode cX5_why 66 = .ok (.ireturn, 1) := by decide +kernel
theorem dX5_why_67 : decode cX5_why 67 = .ok (.iconst 4, 1) := by decide +kernel
theorem dX5_why_68 : decode cX5_why 68 = .ok (.ireturn, 1) := by decide +kernel
set_option maxRecDepth 20000 in
theorem ggX5_path_X5_isBelow : GoodIn wsX5_path wsX5_isBelow := goodIn_r _ [5] (by decide +kernel) (by decide +kernel)
set_option maxRecDepth 20000 in
theorem gX5_path_X5_isBelow : GoodIn wsX5_path (va_wsS RX5 42 yX5_isBelow wsX5_isBelow) := goodIn_app (goodIn_of _ (by decide +kernel)) ggX5_path_X5_isBelow
set_option maxRecDepth 20000 in
theorem ggX5_path_X3_survey : GoodIn wsX5_path wsX3_survey := goodIn_r _ [10, 11, 12, 13, 14, 15, 16, 17, 18, 19, 20, 21, 22, 23, 24, 25, 4, 26, 27, 28, 29, 30, 31, 32, 33, 34, 35, 36, 37, 38, 39, 40, 59, 60, 61, 62, 63, 64, 65, 66, 67, 68, 69, 70, 71, 72, 73, 74, 75, 76, 77, 78, 79, 80] (by decide +kernel) (by decide +kernel)
set_option maxRecDepth 20000 in
theorem gX5_path_X3_survey : GoodIn wsX5_path (wsV RX5 207 RX3 yX3_survey wsX3_survey) := goodIn_app (goodIn_of _ (by decide +kernel)) ggX5_path_X3_survey
set_option maxRecDepth 20000 in
theorem ggX5_path_X3_shortest : GoodIn wsX5_path wsX3_shortest := goodIn_r _ [44, 45, 46, 47, 48, 9, 49, 11, 25, 4, 26, 50, 51, 52, 53, 12, 59, 60, 61, 62, 63, 64, 65, 66, 67, 68, 69, 70, 71, 72, 73, 74, 75, 76, 77, 78, 79, 80] (by decide +kernel) (by decide +kernel)
set_option maxRecDepth 20000 in
theorem gX5_path_X3_shortest : GoodIn wsX5_path (wsV RX5 210 RX3 yX3_shortest wsX3_shortest) := goodIn_app (goodIn_of _ (by decide +kernel)) ggX5_path_X3_shortest
theorem dX5_path_0 : decode cX5_path 0 = .ok (.iload_n 1, 1) := by decide +kernel
theorem dX5_path_1 : decode cX5_path 1 = .ok (.bipush 12, 2) := by decide +kernel
theorem dX5_path_3 : decode cX5_path 3 = .ok (.invokestatic 42, 3) := by decide +kernel
theorem dX5_path_6 : decode cX5_path 6 = .ok (.ifCond .eq 16, 3) := by decide +kernel
theorem dX5_path_9 : decode cX5_path 9 = .ok (.iload_n 2, 1) := by decide +kernel
theorem dX5_path_10 : decode cX5_path 10 = .ok (.iconst 4, 1) := by decide +kernel
theorem dX5_path_11 : decode cX5_path 11 = .ok (.invokestatic 42, 3) := by decide +kernel
theorem dX5_path_14 : decode cX5_path 14 = .ok (.ifCond .eq 8, 3) := by decide +kernel
theorem dX5_path_17 : decode cX5_path 17 = .ok (.iload_n 3, 1) := by decide +kernel
theorem dX5_path_18 : decode cX5_path 18 = .ok (.iconst (-1), 1) := by decide +kernel
theorem dX5_path_19 : decode cX5_path 19 = .ok (.if_icmp .ge 5, 3) := by decide +kernel
theorem dX5_path_22 : decode cX5_path 22 = .ok (.iconst (-1), 1) := by decide +kernel
theorem dX5_path_23 : decode cX5_path 23 = .ok (.ireturn, 1) := by decide +kernel
theorem dX5_path_24 : decode cX5_path 24 = .ok (.aload_n 0, 1) := by decide +kernel
theorem dX5_path_25 : decode cX5_path 25 = .ok (.getfield 31, 3) := by decide +kernel
theorem dX5_path_28 : decode cX5_path 28 = .ok (.invokevirtual 207, 3) := by decide +kernel
theorem dX5_path_31 : decode cX5_path 31 = .ok (.aload_n 0, 1) := by decide +kernel
theorem dX5_path_32 : decode cX5_path 32 = .ok (.getfield 31, 3) := by decide +kernel
theorem dX5_path_35 : decode cX5_path 35 = .ok (.iload_n 1, 1) := by decide +kernel
theorem dX5_path_36 : decode cX5_path 36 = .ok (.iload_n 2, 1) := by decide +kernel
theorem dX5_path_37 : decode cX5_path 37 = .ok (.iload_n 3, 1) := by decide +kernel
theorem dX5_path_38 : decode cX5_path 38 = .ok (.invokevirtual 210, 3) := by decide +kernel
theorem dX5_path_41 : decode cX5_path 41 = .ok (.ireturn, 1) := by decide +kernel
set_option maxRecDepth 20000 in
theorem ggX5_loudest_X5_isBelow : GoodIn wsX5_loudest wsX5_isBelow := goodIn_r _ [5] (by decide +kernel) (by decide +kernel)
set_option maxRecDepth 20000 in
theorem gX5_loudest_X5_isBelow : GoodIn wsX5_loudest (va_wsS RX5 42 yX5_isBelow wsX5_isBelow) := goodIn_app (goodIn_of _ (by decide +kernel)) ggX5_loudest_X5_isBelow
set_option maxRecDepth 20000 in
theorem ggX5_loudest_X3_greatestGain : GoodIn wsX5_loudest wsX3_greatestGain := goodIn_r _ [10, 11, 12, 13, 14, 15, 9, 16, 17, 18, 19, 20, 21, 22, 23, 24, 25, 26, 27, 28, 29, 30, 31, 32, 33, 4, 34, 35, 36, 37, 38, 39, 40, 41, 42, 43, 44, 45, 46, 47, 48, 54, 55, 56, 57, 58, 59, 60, 61, 62, 63, 64, 65, 66, 67, 68, 69, 70, 71, 72, 73, 74, 75] (by decide +kernel) (by decide +kernel)
set_option maxRecDepth 20000 in
theorem gX5_loudest_X3_greatestGain : GoodIn wsX5_loudest (wsV RX5 213 RX3 yX3_greatestGain wsX3_greatestGain) := goodIn_app (goodIn_of _ (by decide +kernel)) ggX5_loudest_X3_greatestGain
theorem dX5_loudest_0 : decode cX5_loudest 0 = .ok (.iload_n 1, 1) := by decide +kernel
theorem dX5_loudest_1 : decode cX5_loudest 1 = .ok (.bipush 12, 2) := by decide +kernel
theorem dX5_loudest_3 : decode cX5_loudest 3 = .ok (.invokestatic 42, 3) := by decide +kernel
theorem dX5_loudest_6 : decode cX5_loudest 6 = .ok (.ifCond .eq 11, 3) := by decide +kernel
theorem dX5_loudest_9 : decode cX5_loudest 9 = .ok (.iload_n 2, 1) := by decide +kernel
theorem dX5_loudest_10 : decode cX5_loudest 10 = .ok (.iconst 4, 1) := by decide +kernel
theorem dX5_loudest_11 : decode cX5_loudest 11 = .ok (.invokestatic 42, 3) := by decide +kernel
theorem dX5_loudest_14 : decode cX5_loudest 14 = .ok (.ifCond .ne 5, 3) := by decide +kernel
theorem dX5_loudest_17 : decode cX5_loudest 17 = .ok (.iconst (-1), 1) := by decide +kernel
theorem dX5_loudest_18 : decode cX5_loudest 18 = .ok (.ireturn, 1) := by decide +kernel
theorem dX5_loudest_19 : decode cX5_loudest 19 = .ok (.aload_n 0, 1) := by decide +kernel
theorem dX5_loudest_20 : decode cX5_loudest 20 = .ok (.getfield 31, 3) := by decide +kernel
theorem dX5_loudest_23 : decode cX5_loudest 23 = .ok (.iload_n 1, 1) := by decide +kernel
theorem dX5_loudest_24 : decode cX5_loudest 24 = .ok (.iload_n 2, 1) := by decide +kernel
theorem dX5_loudest_25 : decode cX5_loudest 25 = .ok (.invokevirtual 213, 3) := by decide +kernel
theorem dX5_loudest_28 : decode cX5_loudest 28 = .ok (.ireturn, 1) := by decide +kernel
set_option maxRecDepth 20000 in
theorem ggX5_loops_X3_survey : GoodIn wsX5_loops wsX3_survey := goodIn_r _ [6, 7, 8, 9, 10, 11, 12, 13, 14, 15, 16, 17, 18, 19, 20, 21, 22, 23, 24, 25, 26, 27, 28, 29, 30, 31, 32, 33, 34, 35, 36, 37, 51, 52, 53, 54, 55, 56, 57, 58, 59, 60, 61, 62, 63, 64, 65, 66, 67, 68, 69, 70, 71, 72] (by decide +kernel) (by decide +kernel)
set_option maxRecDepth 20000 in
theorem gX5_loops_X3_survey : GoodIn wsX5_loops (wsV RX5 207 RX3 yX3_survey wsX3_survey) := goodIn_app (goodIn_of _ (by decide +kernel)) ggX5_loops_X3_survey
set_option maxRecDepth 20000 in
theorem ggX5_loops_X3_feedsHearingBack : GoodIn wsX5_loops wsX3_feedsHearingBack := goodIn_r _ [41, 8, 42, 43, 44, 5, 45, 7, 21, 22, 23, 51, 52, 53, 54, 55, 56, 57, 58, 59, 60, 61, 62, 63, 64, 65, 66, 67, 68, 69, 70, 71, 72] (by decide +kernel) (by decide +kernel)
set_option maxRecDepth 20000 in
theorem gX5_loops_X3_feedsHearingBack : GoodIn wsX5_loops (wsV RX5 216 RX3 yX3_feedsHearingBack wsX3_feedsHearingBack) := goodIn_app (goodIn_of _ (by decide +kernel)) ggX5_loops_X3_feedsHearingBack
theorem dX5_loops_0 : decode cX5_loops 0 = .ok (.aload_n 0, 1) := by decide +kernel
theorem dX5_loops_1 : decode cX5_loops 1 = .ok (.getfield 31, 3) := by decide +kernel
theorem dX5_loops_4 : decode cX5_loops 4 = .ok (.invokevirtual 207, 3) := by decide +kernel
theorem dX5_loops_7 : decode cX5_loops 7 = .ok (.aload_n 0, 1) := by decide +kernel
theorem dX5_loops_8 : decode cX5_loops 8 = .ok (.getfield 31, 3) := by decide +kernel
theorem dX5_loops_11 : decode cX5_loops 11 = .ok (.invokevirtual 216, 3) := by decide +kernel
theorem dX5_loops_14 : decode cX5_loops 14 = .ok (.ireturn, 1) := by decide +kernel
set_option maxRecDepth 20000 in
theorem ggX5_hearers_X5_isBelow : GoodIn wsX5_hearers wsX5_isBelow := goodIn_r _ [5] (by decide +kernel) (by decide +kernel)
set_option maxRecDepth 20000 in
theorem gX5_hearers_X5_isBelow : GoodIn wsX5_hearers (va_wsS RX5 42 yX5_isBelow wsX5_isBelow) := goodIn_app (goodIn_of _ (by decide +kernel)) ggX5_hearers_X5_isBelow
set_option maxRecDepth 20000 in
theorem ggX5_hearers_X3_survey : GoodIn wsX5_hearers wsX3_survey := goodIn_r _ [10, 11, 12, 13, 14, 15, 16, 17, 18, 19, 20, 21, 22, 23, 24, 25, 4, 26, 27, 28, 29, 30, 31, 32, 33, 34, 35, 36, 37, 38, 39, 40, 54, 55, 56, 57, 58, 59, 60, 61, 62, 63, 64, 65, 66, 67, 68, 69, 70, 71, 72, 73, 74, 75] (by decide +kernel) (by decide +kernel)
set_option maxRecDepth 20000 in
theorem gX5_hearers_X3_survey : GoodIn wsX5_hearers (wsV RX5 207 RX3 yX3_survey wsX3_survey) := goodIn_app (goodIn_of _ (by decide +kernel)) ggX5_hearers_X3_survey
set_option maxRecDepth 20000 in
theorem ggX5_hearers_X3_ownersHearing : GoodIn wsX5_hearers wsX3_ownersHearing := goodIn_r _ [44, 12, 25, 4, 26, 45, 46, 47, 9, 48, 11, 54, 55, 56, 57, 58, 59, 60, 61, 62, 63, 64, 65, 66, 67, 68, 69, 70, 71, 72, 73, 74, 75] (by decide +kernel) (by decide +kernel)
set_option maxRecDepth 20000 in
theorem gX5_hearers_X3_ownersHearing : GoodIn wsX5_hearers (wsV RX5 219 RX3 yX3_ownersHearing wsX3_ownersHearing) := goodIn_app (goodIn_of _ (by decide +kernel)) ggX5_hearers_X3_ownersHearing
theorem dX5_hearers_0 : decode cX5_hearers 0 = .ok (.iload_n 1, 1) := by decide +kernel
theorem dX5_hearers_1 : decode cX5_hearers 1 = .ok (.iconst 4, 1) := by decide +kernel
theorem dX5_hearers_2 : decode cX5_hearers 2 = .ok (.invokestatic 42, 3) := by decide +kernel
theorem dX5_hearers_5 : decode cX5_hearers 5 = .ok (.ifCond .ne 5, 3) := by decide +kernel
theorem dX5_hearers_8 : decode cX5_hearers 8 = .ok (.iconst (-1), 1) := by decide +kernel
theorem dX5_hearers_9 : decode cX5_hearers 9 = .ok (.ireturn, 1) := by decide +kernel
theorem dX5_hearers_10 : decode cX5_hearers 10 = .ok (.aload_n 0, 1) := by decide +kernel
theorem dX5_hearers_11 : decode cX5_hearers 11 = .ok (.getfield 31, 3) := by decide +kernel
theorem dX5_hearers_14 : decode cX5_hearers 14 = .ok (.invokevirtual 207, 3) := by decide +kernel
theorem dX5_hearers_17 : decode cX5_hearers 17 = .ok (.aload_n 0, 1) := by decide +kernel
theorem dX5_hearers_18 : decode cX5_hearers 18 = .ok (.getfield 31, 3) := by decide +kernel
theorem dX5_hearers_21 : decode cX5_hearers 21 = .ok (.iload_n 1, 1) := by decide +kernel
theorem dX5_hearers_22 : decode cX5_hearers 22 = .ok (.invokevirtual 219, 3) := by decide +kernel
theorem dX5_hearers_25 : decode cX5_hearers 25 = .ok (.ireturn, 1) := by decide +kernel
set_option maxRecDepth 20000 in
theorem ggX5_outputIn_X5_isBelow : GoodIn wsX5_outputIn wsX5_isBelow := goodIn_r _ [6] (by decide +kernel) (by decide +kernel)
set_option maxRecDepth 20000 in
theorem gX5_outputIn_X5_isBelow : GoodIn wsX5_outputIn (va_wsS RX5 42 yX5_isBelow wsX5_isBelow) := goodIn_app (goodIn_of _ (by decide +kernel)) ggX5_outputIn_X5_isBelow
set_option maxRecDepth 20000 in
theorem ggX5_outputIn_X5_isWithin : GoodIn wsX5_outputIn wsX5_isWithin := goodIn_r _ [9] (by decide +kernel) (by decide +kernel)
set_option maxRecDepth 20000 in
theorem gX5_outputIn_X5_isWithin : GoodIn wsX5_outputIn (va_wsS RX5 50 yX5_isWithin wsX5_isWithin) := goodIn_app (goodIn_of _ (by decide +kernel)) ggX5_outputIn_X5_isWithin
set_option maxRecDepth 20000 in
theorem ggX5_outputIn_X4_copyFrom : GoodIn wsX5_outputIn wsX4_copyFrom := goodIn_r _ [14, 15, 16, 17, 18, 19, 20, 21, 22, 23, 24, 25, 26, 27, 28, 29, 30, 31, 32, 33, 34, 35, 36, 37, 38, 39, 40, 41, 42, 43, 44, 45, 46, 47, 116, 117, 118, 119, 120, 121, 122, 123, 124, 125, 126, 127, 128, 129, 130, 131, 132, 133, 134, 135, 136, 137, 138] (by decide +kernel) (by decide +kernel)
set_option maxRecDepth 20000 in
theorem gX5_outputIn_X4_copyFrom : GoodIn wsX5_outputIn (wsV RX5 145 RX4 yX4_copyFrom wsX4_copyFrom) := goodIn_app (goodIn_of _ (by decide +kernel)) ggX5_outputIn_X4_copyFrom
set_option maxRecDepth 20000 in
theorem ggX5_outputIn_X4_goOn : GoodIn wsX5_outputIn wsX4_goOn := goodIn_r _ [51, 36, 30, 52, 53, 54, 40, 55, 44, 56, 57, 58, 13, 59, 20, 34, 22, 60, 61, 62, 63, 45, 64, 5, 65, 66, 67, 68, 69, 46, 43, 70, 71, 72, 73, 74, 75, 76, 77, 78, 79, 80, 81, 15, 28, 16, 17, 18, 19, 27, 29, 82, 83, 84, 85, 86, 87, 88, 89, 31, 32, 90, 91, 92, 93, 94, 95, 96, 21, 97, 98, 99, 100, 24, 23, 101, 102, 103, 104, 26, 25, 105, 106, 107, 108, 109, 110, 33, 116, 117, 118, 119, 120, 121, 122, 123, 124, 125, 126, 127, 128, 129, 130, 131, 132, 133, 134, 135, 136, 137, 138] (by decide +kernel) (by decide +kernel)
set_option maxRecDepth 20000 in
theorem gX5_outputIn_X4_goOn : GoodIn wsX5_outputIn (wsV RX5 120 RX4 yX4_goOn wsX4_goOn) := goodIn_app (goodIn_of _ (by decide +kernel)) ggX5_outputIn_X4_goOn
theorem dX5_outputIn_0 : decode cX5_outputIn 0 = .ok (.iload_n 1, 1) := by decide +kernel
theorem dX5_outputIn_1 : decode cX5_outputIn 1 = .ok (.iconst 4, 1) := by decide +kernel
theorem dX5_outputIn_2 : decode cX5_outputIn 2 = .ok (.invokestatic 42, 3) := by decide +kernel
theorem dX5_outputIn_5 : decode cX5_outputIn 5 = .ok (.ifCond .eq 13, 3) := by decide +kernel
theorem dX5_outputIn_8 : decode cX5_outputIn 8 = .ok (.iload_n 2, 1) := by decide +kernel
theorem dX5_outputIn_9 : decode cX5_outputIn 9 = .ok (.iconst 0, 1) := by decide +kernel
theorem dX5_outputIn_10 : decode cX5_outputIn 10 = .ok (.bipush 100, 2) := by decide +kernel
theorem dX5_outputIn_12 : decode cX5_outputIn 12 = .ok (.invokestatic 50, 3) := by decide +kernel
theorem dX5_outputIn_15 : decode cX5_outputIn 15 = .ok (.ifCond .ne 5, 3) := by decide +kernel
theorem dX5_outputIn_18 : decode cX5_outputIn 18 = .ok (.iconst (-1), 1) := by decide +kernel
theorem dX5_outputIn_19 : decode cX5_outputIn 19 = .ok (.ireturn, 1) := by decide +kernel
