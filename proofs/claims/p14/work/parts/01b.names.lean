theorem dX0_init_0 : decode cX0_init 0 = .ok (.aload_n 0, 1) := by decide +kernel
theorem dX0_init_1 : decode cX0_init 1 = .ok (.invokespecial 3, 3) := by decide +kernel
theorem dX0_init_4 : decode cX0_init 4 = .ok (.aload_n 0, 1) := by decide +kernel
theorem dX0_init_5 : decode cX0_init 5 = .ok (.bipush 16, 2) := by decide +kernel
theorem dX0_init_7 : decode cX0_init 7 = .ok (.newarray .int, 2) := by decide +kernel
theorem dX0_init_9 : decode cX0_init 9 = .ok (.putfield 9, 3) := by decide +kernel
theorem dX0_init_12 : decode cX0_init 12 = .ok (.return_, 1) := by decide +kernel
theorem dX0_copyFrom_0 : decode cX0_copyFrom 0 = .ok (.aload_n 0, 1) := by decide +kernel
theorem dX0_copyFrom_1 : decode cX0_copyFrom 1 = .ok (.aload_n 1, 1) := by decide +kernel
theorem dX0_copyFrom_2 : decode cX0_copyFrom 2 = .ok (.getfield 15, 3) := by decide +kernel
theorem dX0_copyFrom_5 : decode cX0_copyFrom 5 = .ok (.putfield 15, 3) := by decide +kernel
theorem dX0_copyFrom_8 : decode cX0_copyFrom 8 = .ok (.aload_n 0, 1) := by decide +kernel
theorem dX0_copyFrom_9 : decode cX0_copyFrom 9 = .ok (.aload_n 1, 1) := by decide +kernel
theorem dX0_copyFrom_10 : decode cX0_copyFrom 10 = .ok (.getfield 19, 3) := by decide +kernel
theorem dX0_copyFrom_13 : decode cX0_copyFrom 13 = .ok (.putfield 19, 3) := by decide +kernel
theorem dX0_copyFrom_16 : decode cX0_copyFrom 16 = .ok (.aload_n 0, 1) := by decide +kernel
theorem dX0_copyFrom_17 : decode cX0_copyFrom 17 = .ok (.aload_n 1, 1) := by decide +kernel
theorem dX0_copyFrom_18 : decode cX0_copyFrom 18 = .ok (.getfield 22, 3) := by decide +kernel
theorem dX0_copyFrom_21 : decode cX0_copyFrom 21 = .ok (.putfield 22, 3) := by decide +kernel
theorem dX0_copyFrom_24 : decode cX0_copyFrom 24 = .ok (.aload_n 0, 1) := by decide +kernel
theorem dX0_copyFrom_25 : decode cX0_copyFrom 25 = .ok (.aload_n 1, 1) := by decide +kernel
theorem dX0_copyFrom_26 : decode cX0_copyFrom 26 = .ok (.getfield 25, 3) := by decide +kernel
theorem dX0_copyFrom_29 : decode cX0_copyFrom 29 = .ok (.putfield 25, 3) := by decide +kernel
theorem dX0_copyFrom_32 : decode cX0_copyFrom 32 = .ok (.aload_n 1, 1) := by decide +kernel
theorem dX0_copyFrom_33 : decode cX0_copyFrom 33 = .ok (.getfield 9, 3) := by decide +kernel
theorem dX0_copyFrom_36 : decode cX0_copyFrom 36 = .ok (.iconst 0, 1) := by decide +kernel
theorem dX0_copyFrom_37 : decode cX0_copyFrom 37 = .ok (.aload_n 0, 1) := by decide +kernel
theorem dX0_copyFrom_38 : decode cX0_copyFrom 38 = .ok (.getfield 9, 3) := by decide +kernel
theorem dX0_copyFrom_41 : decode cX0_copyFrom 41 = .ok (.iconst 0, 1) := by decide +kernel
theorem dX0_copyFrom_42 : decode cX0_copyFrom 42 = .ok (.bipush 16, 2) := by decide +kernel
theorem dX0_copyFrom_44 : decode cX0_copyFrom 44 = .ok (.invokestatic 28, 3) := by decide +kernel
theorem dX0_copyFrom_47 : decode cX0_copyFrom 47 = .ok (.return_, 1) := by decide +kernel
theorem dX0_begin_0 : decode cX0_begin 0 = .ok (.aload_n 0, 1) := by decide +kernel
theorem dX0_begin_1 : decode cX0_begin 1 = .ok (.iload_n 1, 1) := by decide +kernel
theorem dX0_begin_2 : decode cX0_begin 2 = .ok (.putfield 15, 3) := by decide +kernel
theorem dX0_begin_5 : decode cX0_begin 5 = .ok (.aload_n 0, 1) := by decide +kernel
theorem dX0_begin_6 : decode cX0_begin 6 = .ok (.iconst 0, 1) := by decide +kernel
theorem dX0_begin_7 : decode cX0_begin 7 = .ok (.putfield 19, 3) := by decide +kernel
theorem dX0_begin_10 : decode cX0_begin 10 = .ok (.aload_n 0, 1) := by decide +kernel
theorem dX0_begin_11 : decode cX0_begin 11 = .ok (.iload_n 2, 1) := by decide +kernel
theorem dX0_begin_12 : decode cX0_begin 12 = .ok (.putfield 22, 3) := by decide +kernel
theorem dX0_begin_15 : decode cX0_begin 15 = .ok (.aload_n 0, 1) := by decide +kernel
theorem dX0_begin_16 : decode cX0_begin 16 = .ok (.iconst 0, 1) := by decide +kernel
theorem dX0_begin_17 : decode cX0_begin 17 = .ok (.putfield 25, 3) := by decide +kernel
theorem dX0_begin_20 : decode cX0_begin 20 = .ok (.aload_n 3, 1) := by decide +kernel
theorem dX0_begin_21 : decode cX0_begin 21 = .ok (.iconst 0, 1) := by decide +kernel
theorem dX0_begin_22 : decode cX0_begin 22 = .ok (.aload_n 0, 1) := by decide +kernel
theorem dX0_begin_23 : decode cX0_begin 23 = .ok (.getfield 9, 3) := by decide +kernel
theorem dX0_begin_26 : decode cX0_begin 26 = .ok (.iconst 0, 1) := by decide +kernel
theorem dX0_begin_27 : decode cX0_begin 27 = .ok (.bipush 16, 2) := by decide +kernel
theorem dX0_begin_29 : decode cX0_begin 29 = .ok (.invokestatic 28, 3) := by decide +kernel
theorem dX0_begin_32 : decode cX0_begin 32 = .ok (.return_, 1) := by decide +kernel
theorem dX0_end_0 : decode cX0_end 0 = .ok (.aload_n 0, 1) := by decide +kernel
theorem dX0_end_1 : decode cX0_end 1 = .ok (.iconst 0, 1) := by decide +kernel
theorem dX0_end_2 : decode cX0_end 2 = .ok (.putfield 19, 3) := by decide +kernel
theorem dX0_end_5 : decode cX0_end 5 = .ok (.aload_n 0, 1) := by decide +kernel
theorem dX0_end_6 : decode cX0_end 6 = .ok (.iconst 0, 1) := by decide +kernel
theorem dX0_end_7 : decode cX0_end 7 = .ok (.putfield 22, 3) := by decide +kernel
theorem dX0_end_10 : decode cX0_end 10 = .ok (.aload_n 0, 1) := by decide +kernel
theorem dX0_end_11 : decode cX0_end 11 = .ok (.iconst 0, 1) := by decide +kernel
theorem dX0_end_12 : decode cX0_end 12 = .ok (.putfield 25, 3) := by decide +kernel
theorem dX0_end_15 : decode cX0_end 15 = .ok (.return_, 1) := by decide +kernel
theorem dX0_isGoingOn_0 : decode cX0_isGoingOn 0 = .ok (.aload_n 0, 1) := by decide +kernel
theorem dX0_isGoingOn_1 : decode cX0_isGoingOn 1 = .ok (.getfield 22, 3) := by decide +kernel
theorem dX0_isGoingOn_4 : decode cX0_isGoingOn 4 = .ok (.ifCond .le 7, 3) := by decide +kernel
theorem dX0_isGoingOn_7 : decode cX0_isGoingOn 7 = .ok (.iconst 1, 1) := by decide +kernel
theorem dX0_isGoingOn_8 : decode cX0_isGoingOn 8 = .ok (.goto 4, 3) := by decide +kernel
theorem dX0_isGoingOn_11 : decode cX0_isGoingOn 11 = .ok (.iconst 0, 1) := by decide +kernel
theorem dX0_isGoingOn_12 : decode cX0_isGoingOn 12 = .ok (.ireturn, 1) := by decide +kernel
set_option maxRecDepth 20000 in
theorem ggX0_touch_X0_isGoingOn : GoodIn wsX0_touch wsX0_isGoingOn := goodIn_r _ [6, 7, 8, 9, 10, 11, 12] (by decide +kernel) (by decide +kernel)
set_option maxRecDepth 20000 in
theorem gX0_touch_X0_isGoingOn : GoodIn wsX0_touch (wsV RX0 34 RX0 yX0_isGoingOn wsX0_isGoingOn) := goodIn_app (goodIn_of _ (by decide +kernel)) ggX0_touch_X0_isGoingOn
theorem dX0_touch_0 : decode cX0_touch 0 = .ok (.aload_n 0, 1) := by decide +kernel
theorem dX0_touch_1 : decode cX0_touch 1 = .ok (.invokevirtual 34, 3) := by decide +kernel
theorem dX0_touch_4 : decode cX0_touch 4 = .ok (.ifCond .eq 15, 3) := by decide +kernel
theorem dX0_touch_7 : decode cX0_touch 7 = .ok (.aload_n 0, 1) := by decide +kernel
theorem dX0_touch_8 : decode cX0_touch 8 = .ok (.dup, 1) := by decide +kernel
theorem dX0_touch_9 : decode cX0_touch 9 = .ok (.getfield 25, 3) := by decide +kernel
theorem dX0_touch_12 : decode cX0_touch 12 = .ok (.iconst 1, 1) := by decide +kernel
theorem dX0_touch_13 : decode cX0_touch 13 = .ok (.iload_n 1, 1) := by decide +kernel
theorem dX0_touch_14 : decode cX0_touch 14 = .ok (.ishl, 1) := by decide +kernel
theorem dX0_touch_15 : decode cX0_touch 15 = .ok (.ior, 1) := by decide +kernel
theorem dX0_touch_16 : decode cX0_touch 16 = .ok (.putfield 25, 3) := by decide +kernel
theorem dX0_touch_19 : decode cX0_touch 19 = .ok (.return_, 1) := by decide +kernel
set_option maxRecDepth 20000 in
theorem ggX0_isTouched_X5_hasBit : GoodIn wsX0_isTouched wsX5_hasBit := goodIn_r _ [4] (by decide +kernel) (by decide +kernel)
set_option maxRecDepth 20000 in
theorem gX0_isTouched_X5_hasBit_n38 : GoodIn wsX0_isTouched (wsX5_hasBit) := ggX0_isTouched_X5_hasBit
theorem dX0_isTouched_0 : decode cX0_isTouched 0 = .ok (.aload_n 0, 1) := by decide +kernel
theorem dX0_isTouched_1 : decode cX0_isTouched 1 = .ok (.getfield 25, 3) := by decide +kernel
theorem dX0_isTouched_4 : decode cX0_isTouched 4 = .ok (.iload_n 1, 1) := by decide +kernel
theorem dX0_isTouched_5 : decode cX0_isTouched 5 = .ok (.invokestatic 38, 3) := by decide +kernel
theorem dX0_isTouched_8 : decode cX0_isTouched 8 = .ok (.ireturn, 1) := by decide +kernel
theorem dX0_isInTheMiddle_0 : decode cX0_isInTheMiddle 0 = .ok (.iconst 2, 1) := by decide +kernel
theorem dX0_isInTheMiddle_1 : decode cX0_isInTheMiddle 1 = .ok (.aload_n 0, 1) := by decide +kernel
theorem dX0_isInTheMiddle_2 : decode cX0_isInTheMiddle 2 = .ok (.getfield 19, 3) := by decide +kernel
theorem dX0_isInTheMiddle_5 : decode cX0_isInTheMiddle 5 = .ok (.imul, 1) := by decide +kernel
theorem dX0_isInTheMiddle_6 : decode cX0_isInTheMiddle 6 = .ok (.aload_n 0, 1) := by decide +kernel
theorem dX0_isInTheMiddle_7 : decode cX0_isInTheMiddle 7 = .ok (.getfield 22, 3) := by decide +kernel
theorem dX0_isInTheMiddle_10 : decode cX0_isInTheMiddle 10 = .ok (.if_icmp .eq 18, 3) := by decide +kernel
theorem dX0_isInTheMiddle_13 : decode cX0_isInTheMiddle 13 = .ok (.iconst 2, 1) := by decide +kernel
theorem dX0_isInTheMiddle_14 : decode cX0_isInTheMiddle 14 = .ok (.aload_n 0, 1) := by decide +kernel
theorem dX0_isInTheMiddle_15 : decode cX0_isInTheMiddle 15 = .ok (.getfield 19, 3) := by decide +kernel
theorem dX0_isInTheMiddle_18 : decode cX0_isInTheMiddle 18 = .ok (.imul, 1) := by decide +kernel
theorem dX0_isInTheMiddle_19 : decode cX0_isInTheMiddle 19 = .ok (.aload_n 0, 1) := by decide +kernel
theorem dX0_isInTheMiddle_20 : decode cX0_isInTheMiddle 20 = .ok (.getfield 22, 3) := by decide +kernel
theorem dX0_isInTheMiddle_23 : decode cX0_isInTheMiddle 23 = .ok (.iconst 1, 1) := by decide +kernel
theorem dX0_isInTheMiddle_24 : decode cX0_isInTheMiddle 24 = .ok (.iadd, 1) := by decide +kernel
theorem dX0_isInTheMiddle_25 : decode cX0_isInTheMiddle 25 = .ok (.if_icmp .ne 7, 3) := by decide +kernel
theorem dX0_isInTheMiddle_28 : decode cX0_isInTheMiddle 28 = .ok (.iconst 1, 1) := by decide +kernel
theorem dX0_isInTheMiddle_29 : decode cX0_isInTheMiddle 29 = .ok (.goto 4, 3) := by decide +kernel
theorem dX0_isInTheMiddle_32 : decode cX0_isInTheMiddle 32 = .ok (.iconst 0, 1) := by decide +kernel
theorem dX0_isInTheMiddle_33 : decode cX0_isInTheMiddle 33 = .ok (.ireturn, 1) := by decide +kernel
theorem dX0_positionOf_0 : decode cX0_positionOf 0 = .ok (.aload_n 0, 1) := by decide +kernel
theorem dX0_positionOf_1 : decode cX0_positionOf 1 = .ok (.getfield 22, 3) := by decide +kernel
theorem dX0_positionOf_4 : decode cX0_positionOf 4 = .ok (.ifCond .gt 5, 3) := by decide +kernel
theorem dX0_positionOf_7 : decode cX0_positionOf 7 = .ok (.iload_n 2, 1) := by decide +kernel
theorem dX0_positionOf_8 : decode cX0_positionOf 8 = .ok (.ireturn, 1) := by decide +kernel
theorem dX0_positionOf_9 : decode cX0_positionOf 9 = .ok (.aload_n 0, 1) := by decide +kernel
theorem dX0_positionOf_10 : decode cX0_positionOf 10 = .ok (.getfield 9, 3) := by decide +kernel
theorem dX0_positionOf_13 : decode cX0_positionOf 13 = .ok (.iload_n 1, 1) := by decide +kernel
theorem dX0_positionOf_14 : decode cX0_positionOf 14 = .ok (.iaload, 1) := by decide +kernel
theorem dX0_positionOf_15 : decode cX0_positionOf 15 = .ok (.iload_n 2, 1) := by decide +kernel
theorem dX0_positionOf_16 : decode cX0_positionOf 16 = .ok (.aload_n 0, 1) := by decide +kernel
theorem dX0_positionOf_17 : decode cX0_positionOf 17 = .ok (.getfield 9, 3) := by decide +kernel
theorem dX0_positionOf_20 : decode cX0_positionOf 20 = .ok (.iload_n 1, 1) := by decide +kernel
theorem dX0_positionOf_21 : decode cX0_positionOf 21 = .ok (.iaload, 1) := by decide +kernel
theorem dX0_positionOf_22 : decode cX0_positionOf 22 = .ok (.isub, 1) := by decide +kernel
theorem dX0_positionOf_23 : decode cX0_positionOf 23 = .ok (.aload_n 0, 1) := by decide +kernel
theorem dX0_positionOf_24 : decode cX0_positionOf 24 = .ok (.getfield 19, 3) := by decide +kernel
theorem dX0_positionOf_27 : decode cX0_positionOf 27 = .ok (.imul, 1) := by decide +kernel
theorem dX0_positionOf_28 : decode cX0_positionOf 28 = .ok (.aload_n 0, 1) := by decide +kernel
theorem dX0_positionOf_29 : decode cX0_positionOf 29 = .ok (.getfield 22, 3) := by decide +kernel
theorem dX0_positionOf_32 : decode cX0_positionOf 32 = .ok (.idiv, 1) := by decide +kernel
theorem dX0_positionOf_33 : decode cX0_positionOf 33 = .ok (.iadd, 1) := by decide +kernel
theorem dX0_positionOf_34 : decode cX0_positionOf 34 = .ok (.ireturn, 1) := by decide +kernel
set_option maxRecDepth 20000 in
theorem ggX1_init_X4_init : GoodIn wsX1_init wsX4_init := goodIn_r _ [10, 11, 2, 3, 12, 13, 14, 15, 16, 17, 18, 19, 20, 21, 22, 23, 24, 25, 26, 27, 28, 29, 33, 34, 35, 36, 37, 38, 39, 40, 41, 42, 43, 44, 45, 46, 47, 48, 49, 50, 51, 52, 53, 54, 55] (by decide +kernel) (by decide +kernel)
set_option maxRecDepth 20000 in
theorem gX1_init_X4_init : GoodIn wsX1_init (wsX4_init) := ggX1_init_X4_init
theorem dX1_init_0 : decode cX1_init 0 = .ok (.aload_n 0, 1) := by decide +kernel
theorem dX1_init_1 : decode cX1_init 1 = .ok (.invokespecial 3, 3) := by decide +kernel
theorem dX1_init_4 : decode cX1_init 4 = .ok (.aload_n 0, 1) := by decide +kernel
theorem dX1_init_5 : decode cX1_init 5 = .ok (.iconst 5, 1) := by decide +kernel
theorem dX1_init_6 : decode cX1_init 6 = .ok (.anewarray 9, 3) := by decide +kernel
theorem dX1_init_9 : decode cX1_init 9 = .ok (.putfield 11, 3) := by decide +kernel
theorem dX1_init_12 : decode cX1_init 12 = .ok (.iconst 0, 1) := by decide +kernel
theorem dX1_init_13 : decode cX1_init 13 = .ok (.istore_n 1, 1) := by decide +kernel
theorem dX1_init_14 : decode cX1_init 14 = .ok (.iload_n 1, 1) := by decide +kernel
theorem dX1_init_15 : decode cX1_init 15 = .ok (.iconst 5, 1) := by decide +kernel
theorem dX1_init_16 : decode cX1_init 16 = .ok (.if_icmp .ge 22, 3) := by decide +kernel
theorem dX1_init_19 : decode cX1_init 19 = .ok (.aload_n 0, 1) := by decide +kernel
theorem dX1_init_20 : decode cX1_init 20 = .ok (.getfield 11, 3) := by decide +kernel
theorem dX1_init_23 : decode cX1_init 23 = .ok (.iload_n 1, 1) := by decide +kernel
theorem dX1_init_24 : decode cX1_init 24 = .ok (.new 9, 3) := by decide +kernel
theorem dX1_init_27 : decode cX1_init 27 = .ok (.dup, 1) := by decide +kernel
theorem dX1_init_28 : decode cX1_init 28 = .ok (.invokespecial 17, 3) := by decide +kernel
theorem dX1_init_31 : decode cX1_init 31 = .ok (.aastore, 1) := by decide +kernel
theorem dX1_init_32 : decode cX1_init 32 = .ok (.iinc 1 1, 3) := by decide +kernel
theorem dX1_init_35 : decode cX1_init 35 = .ok (.goto (-21), 3) := by decide +kernel
theorem dX1_init_38 : decode cX1_init 38 = .ok (.return_, 1) := by decide +kernel
set_option maxRecDepth 20000 in
theorem ggX1_keep_X4_copyFrom : GoodIn wsX1_keep wsX4_copyFrom := goodIn_r _ [12, 13, 14, 15, 16, 17, 18, 19, 20, 21, 22, 23, 24, 25, 26, 27, 28, 29, 30, 31, 32, 33, 34, 35, 36, 37, 38, 39, 40, 41, 42, 43, 44, 45, 49, 50, 51, 52, 53, 54, 55, 56, 57, 58, 59, 60, 61, 62, 63, 64, 65, 66, 67, 68, 69, 70, 71] (by decide +kernel) (by decide +kernel)
set_option maxRecDepth 20000 in
theorem gX1_keep_X4_copyFrom : GoodIn wsX1_keep (wsV RX1 22 RX4 yX4_copyFrom wsX4_copyFrom) := goodIn_app (goodIn_of _ (by decide +kernel)) ggX1_keep_X4_copyFrom
theorem dX1_keep_0 : decode cX1_keep 0 = .ok (.aload_n 0, 1) := by decide +kernel
theorem dX1_keep_1 : decode cX1_keep 1 = .ok (.getfield 11, 3) := by decide +kernel
theorem dX1_keep_4 : decode cX1_keep 4 = .ok (.aload_n 0, 1) := by decide +kernel
theorem dX1_keep_5 : decode cX1_keep 5 = .ok (.getfield 18, 3) := by decide +kernel
theorem dX1_keep_8 : decode cX1_keep 8 = .ok (.aaload, 1) := by decide +kernel
theorem dX1_keep_9 : decode cX1_keep 9 = .ok (.aload_n 1, 1) := by decide +kernel
theorem dX1_keep_10 : decode cX1_keep 10 = .ok (.invokevirtual 22, 3) := by decide +kernel
theorem dX1_keep_13 : decode cX1_keep 13 = .ok (.aload_n 0, 1) := by decide +kernel
theorem dX1_keep_14 : decode cX1_keep 14 = .ok (.aload_n 0, 1) := by decide +kernel
theorem dX1_keep_15 : decode cX1_keep 15 = .ok (.getfield 18, 3) := by decide +kernel
theorem dX1_keep_18 : decode cX1_keep 18 = .ok (.iconst 1, 1) := by decide +kernel
theorem dX1_keep_19 : decode cX1_keep 19 = .ok (.iadd, 1) := by decide +kernel
theorem dX1_keep_20 : decode cX1_keep 20 = .ok (.iconst 5, 1) := by decide +kernel
theorem dX1_keep_21 : decode cX1_keep 21 = .ok (.irem, 1) := by decide +kernel
theorem dX1_keep_22 : decode cX1_keep 22 = .ok (.putfield 18, 3) := by decide +kernel
theorem dX1_keep_25 : decode cX1_keep 25 = .ok (.aload_n 0, 1) := by decide +kernel
theorem dX1_keep_26 : decode cX1_keep 26 = .ok (.aload_n 0, 1) := by decide +kernel
theorem dX1_keep_27 : decode cX1_keep 27 = .ok (.getfield 26, 3) := by decide +kernel
theorem dX1_keep_30 : decode cX1_keep 30 = .ok (.iconst 1, 1) := by decide +kernel
theorem dX1_keep_31 : decode cX1_keep 31 = .ok (.iadd, 1) := by decide +kernel
theorem dX1_keep_32 : decode cX1_keep 32 = .ok (.iconst 5, 1) := by decide +kernel
theorem dX1_keep_33 : decode cX1_keep 33 = .ok (.invokestatic 29, 3) := by decide +kernel
theorem dX1_keep_36 : decode cX1_keep 36 = .ok (.putfield 26, 3) := by decide +kernel
theorem dX1_keep_39 : decode cX1_keep 39 = .ok (.return_, 1) := by decide +kernel
set_option maxRecDepth 20000 in
theorem ggX1_restoreInto_X4_copyFrom : GoodIn wsX1_restoreInto wsX4_copyFrom := goodIn_r _ [8, 9, 10, 11, 12, 13, 14, 15, 16, 17, 18, 19, 20, 21, 22, 23, 24, 25, 26, 27, 28, 29, 30, 31, 32, 33, 34, 35, 36, 37, 38, 39, 40, 41, 45, 46, 47, 48, 49, 50, 51, 52, 53, 54, 55, 56, 57, 58, 59, 60, 61, 62, 63, 64, 65, 66, 67] (by decide +kernel) (by decide +kernel)
set_option maxRecDepth 20000 in
theorem gX1_restoreInto_X4_copyFrom : GoodIn wsX1_restoreInto (wsV RX1 22 RX4 yX4_copyFrom wsX4_copyFrom) := goodIn_app (goodIn_of _ (by decide +kernel)) ggX1_restoreInto_X4_copyFrom
theorem dX1_restoreInto_0 : decode cX1_restoreInto 0 = .ok (.aload_n 0, 1) := by decide +kernel
theorem dX1_restoreInto_1 : decode cX1_restoreInto 1 = .ok (.aload_n 0, 1) := by decide +kernel
theorem dX1_restoreInto_2 : decode cX1_restoreInto 2 = .ok (.getfield 18, 3) := by decide +kernel
theorem dX1_restoreInto_5 : decode cX1_restoreInto 5 = .ok (.iconst 5, 1) := by decide +kernel
theorem dX1_restoreInto_6 : decode cX1_restoreInto 6 = .ok (.iadd, 1) := by decide +kernel
theorem dX1_restoreInto_7 : decode cX1_restoreInto 7 = .ok (.iconst 1, 1) := by decide +kernel
theorem dX1_restoreInto_8 : decode cX1_restoreInto 8 = .ok (.isub, 1) := by decide +kernel
theorem dX1_restoreInto_9 : decode cX1_restoreInto 9 = .ok (.iconst 5, 1) := by decide +kernel
theorem dX1_restoreInto_10 : decode cX1_restoreInto 10 = .ok (.irem, 1) := by decide +kernel
theorem dX1_restoreInto_11 : decode cX1_restoreInto 11 = .ok (.putfield 18, 3) := by decide +kernel
theorem dX1_restoreInto_14 : decode cX1_restoreInto 14 = .ok (.aload_n 0, 1) := by decide +kernel
theorem dX1_restoreInto_15 : decode cX1_restoreInto 15 = .ok (.dup, 1) := by decide +kernel
theorem dX1_restoreInto_16 : decode cX1_restoreInto 16 = .ok (.getfield 26, 3) := by decide +kernel
theorem dX1_restoreInto_19 : decode cX1_restoreInto 19 = .ok (.iconst 1, 1) := by decide +kernel
theorem dX1_restoreInto_20 : decode cX1_restoreInto 20 = .ok (.isub, 1) := by decide +kernel
theorem dX1_restoreInto_21 : decode cX1_restoreInto 21 = .ok (.putfield 26, 3) := by decide +kernel
theorem dX1_restoreInto_24 : decode cX1_restoreInto 24 = .ok (.aload_n 1, 1) := by decide +kernel
theorem dX1_restoreInto_25 : decode cX1_restoreInto 25 = .ok (.aload_n 0, 1) := by decide +kernel
theorem dX1_restoreInto_26 : decode cX1_restoreInto 26 = .ok (.getfield 11, 3) := by decide +kernel
theorem dX1_restoreInto_29 : decode cX1_restoreInto 29 = .ok (.aload_n 0, 1) := by decide +kernel
theorem dX1_restoreInto_30 : decode cX1_restoreInto 30 = .ok (.getfield 18, 3) := by decide +kernel
theorem dX1_restoreInto_33 : decode cX1_restoreInto 33 = .ok (.aaload, 1) := by decide +kernel
theorem dX1_restoreInto_34 : decode cX1_restoreInto 34 = .ok (.invokevirtual 22, 3) := by decide +kernel
theorem dX1_restoreInto_37 : decode cX1_restoreInto 37 = .ok (.return_, 1) := by decide +kernel
theorem dX2_init_0 : decode cX2_init 0 = .ok (.aload_n 0, 1) := by decide +kernel
theorem dX2_init_1 : decode cX2_init 1 = .ok (.invokespecial 3, 3) := by decide +kernel
theorem dX2_init_4 : decode cX2_init 4 = .ok (.aload_n 0, 1) := by decide +kernel
theorem dX2_init_5 : decode cX2_init 5 = .ok (.sipush 140, 3) := by decide +kernel
theorem dX2_init_8 : decode cX2_init 8 = .ok (.newarray .char, 2) := by decide +kernel
theorem dX2_init_10 : decode cX2_init 10 = .ok (.putfield 9, 3) := by decide +kernel
theorem dX2_init_13 : decode cX2_init 13 = .ok (.return_, 1) := by decide +kernel
theorem dX2_add_0 : decode cX2_add 0 = .ok (.aload_n 0, 1) := by decide +kernel
theorem dX2_add_1 : decode cX2_add 1 = .ok (.getfield 15, 3) := by decide +kernel
theorem dX2_add_4 : decode cX2_add 4 = .ok (.sipush 140, 3) := by decide +kernel
theorem dX2_add_7 : decode cX2_add 7 = .ok (.if_icmp .lt 4, 3) := by decide +kernel
theorem dX2_add_10 : decode cX2_add 10 = .ok (.return_, 1) := by decide +kernel
theorem dX2_add_11 : decode cX2_add 11 = .ok (.aload_n 0, 1) := by decide +kernel
theorem dX2_add_12 : decode cX2_add 12 = .ok (.getfield 9, 3) := by decide +kernel
theorem dX2_add_15 : decode cX2_add 15 = .ok (.aload_n 0, 1) := by decide +kernel
theorem dX2_add_16 : decode cX2_add 16 = .ok (.getfield 15, 3) := by decide +kernel
theorem dX2_add_19 : decode cX2_add 19 = .ok (.iload_n 1, 1) := by decide +kernel
theorem dX2_add_20 : decode cX2_add 20 = .ok (.castore, 1) := by decide +kernel
theorem dX2_add_21 : decode cX2_add 21 = .ok (.aload_n 0, 1) := by decide +kernel
theorem dX2_add_22 : decode cX2_add 22 = .ok (.dup, 1) := by decide +kernel
theorem dX2_add_23 : decode cX2_add 23 = .ok (.getfield 15, 3) := by decide +kernel
theorem dX2_add_26 : decode cX2_add 26 = .ok (.iconst 1, 1) := by decide +kernel
theorem dX2_add_27 : decode cX2_add 27 = .ok (.iadd, 1) := by decide +kernel
theorem dX2_add_28 : decode cX2_add 28 = .ok (.putfield 15, 3) := by decide +kernel
theorem dX2_add_31 : decode cX2_add 31 = .ok (.return_, 1) := by decide +kernel
set_option maxRecDepth 20000 in
theorem ggX2_carryOutOn_X2_skipSpaces : GoodIn wsX2_carryOutOn wsX2_skipSpaces := goodIn_r _ [7, 1, 2, 8, 166, 167, 168] (by decide +kernel) (by decide +kernel)
set_option maxRecDepth 20000 in
theorem gX2_carryOutOn_X2_skipSpaces : GoodIn wsX2_carryOutOn (wsV RX2 22 RX2 yX2_skipSpaces wsX2_skipSpaces) := goodIn_app (goodIn_of _ (by decide +kernel)) ggX2_carryOutOn_X2_skipSpaces
set_option maxRecDepth 20000 in
theorem ggX2_carryOutOn_X2_readItem : GoodIn wsX2_carryOutOn wsX2_readItem := goodIn_r _ [12, 13, 14, 15, 6, 16, 1, 2, 8, 3, 4, 5, 7, 17, 18, 19, 20, 21, 22, 23, 24, 25, 26, 27, 28, 29, 30, 31, 32, 33, 34, 35, 36, 37, 38, 39, 40, 41, 42, 43, 44, 45, 46, 47, 48, 49, 50, 51, 52, 53, 54, 55, 56, 57, 58, 59, 60, 61, 62, 63, 64, 65, 66, 67, 68, 69, 70, 71, 72, 73, 74, 75, 76, 77, 78, 79, 80, 81, 82, 83, 84, 85, 86, 87, 88, 89, 90, 91, 92, 93, 94, 95, 96, 97, 98, 99, 100, 101, 102, 103, 104, 105, 106, 107, 108, 109, 110, 111, 112, 113, 114, 115, 116, 117, 118, 119, 120, 121, 122, 123, 124, 125, 126, 127, 128, 129, 130, 131, 132, 133, 134, 135, 136, 137, 138, 139, 140, 141, 142, 143, 144, 145, 146, 147, 148, 149, 150, 151, 152, 153, 154, 155, 156, 157, 158, 159, 160, 161, 162, 163, 164, 165, 166, 167, 168, 169, 170, 171, 172, 173, 174, 175, 176, 177, 178, 179, 180, 181, 182, 183, 184, 185, 186, 187, 188, 189, 190, 191] (by decide +kernel) (by decide +kernel)
set_option maxRecDepth 20000 in
theorem gX2_carryOutOn_X2_readItem : GoodIn wsX2_carryOutOn (wsV RX2 25 RX2 yX2_readItem wsX2_readItem) := goodIn_app (goodIn_of _ (by decide +kernel)) ggX2_carryOutOn_X2_readItem
theorem dX2_carryOutOn_0 : decode cX2_carryOutOn 0 = .ok (.aload_n 0, 1) := by decide +kernel
theorem dX2_carryOutOn_1 : decode cX2_carryOutOn 1 = .ok (.iconst 0, 1) := by decide +kernel
theorem dX2_carryOutOn_2 : decode cX2_carryOutOn 2 = .ok (.putfield 19, 3) := by decide +kernel
theorem dX2_carryOutOn_5 : decode cX2_carryOutOn 5 = .ok (.iconst 0, 1) := by decide +kernel
theorem dX2_carryOutOn_6 : decode cX2_carryOutOn 6 = .ok (.istore_n 2, 1) := by decide +kernel
theorem dX2_carryOutOn_7 : decode cX2_carryOutOn 7 = .ok (.iload_n 2, 1) := by decide +kernel
theorem dX2_carryOutOn_8 : decode cX2_carryOutOn 8 = .ok (.sipush 140, 3) := by decide +kernel
theorem dX2_carryOutOn_11 : decode cX2_carryOutOn 11 = .ok (.if_icmp .ge 37, 3) := by decide +kernel
theorem dX2_carryOutOn_14 : decode cX2_carryOutOn 14 = .ok (.aload_n 0, 1) := by decide +kernel
theorem dX2_carryOutOn_15 : decode cX2_carryOutOn 15 = .ok (.invokevirtual 22, 3) := by decide +kernel
theorem dX2_carryOutOn_18 : decode cX2_carryOutOn 18 = .ok (.aload_n 0, 1) := by decide +kernel
theorem dX2_carryOutOn_19 : decode cX2_carryOutOn 19 = .ok (.getfield 19, 3) := by decide +kernel
theorem dX2_carryOutOn_22 : decode cX2_carryOutOn 22 = .ok (.aload_n 0, 1) := by decide +kernel
theorem dX2_carryOutOn_23 : decode cX2_carryOutOn 23 = .ok (.getfield 15, 3) := by decide +kernel
theorem dX2_carryOutOn_26 : decode cX2_carryOutOn 26 = .ok (.if_icmp .lt 5, 3) := by decide +kernel
theorem dX2_carryOutOn_29 : decode cX2_carryOutOn 29 = .ok (.iload_n 2, 1) := by decide +kernel
theorem dX2_carryOutOn_30 : decode cX2_carryOutOn 30 = .ok (.ireturn, 1) := by decide +kernel
theorem dX2_carryOutOn_31 : decode cX2_carryOutOn 31 = .ok (.aload_n 0, 1) := by decide +kernel
theorem dX2_carryOutOn_32 : decode cX2_carryOutOn 32 = .ok (.aload_n 1, 1) := by decide +kernel
theorem dX2_carryOutOn_33 : decode cX2_carryOutOn 33 = .ok (.invokevirtual 25, 3) := by decide +kernel
theorem dX2_carryOutOn_36 : decode cX2_carryOutOn 36 = .ok (.ifCond .ne 6, 3) := by decide +kernel
theorem dX2_carryOutOn_39 : decode cX2_carryOutOn 39 = .ok (.goto 9, 3) := by decide +kernel
theorem dX2_carryOutOn_42 : decode cX2_carryOutOn 42 = .ok (.iinc 2 1, 3) := by decide +kernel
theorem dX2_carryOutOn_45 : decode cX2_carryOutOn 45 = .ok (.goto (-38), 3) := by decide +kernel
theorem dX2_carryOutOn_48 : decode cX2_carryOutOn 48 = .ok (.sipush (-1000), 3) := by decide +kernel
theorem dX2_carryOutOn_51 : decode cX2_carryOutOn 51 = .ok (.aload_n 0, 1) := by decide +kernel
theorem dX2_carryOutOn_52 : decode cX2_carryOutOn 52 = .ok (.getfield 19, 3) := by decide +kernel
theorem dX2_carryOutOn_55 : decode cX2_carryOutOn 55 = .ok (.isub, 1) := by decide +kernel
theorem dX2_carryOutOn_56 : decode cX2_carryOutOn 56 = .ok (.ireturn, 1) := by decide +kernel
set_option maxRecDepth 20000 in
theorem ggX2_readItem_X2_takes : GoodIn wsX2_readItem wsX2_takes := goodIn_r _ [5, 6, 7, 8, 9, 10, 11, 4, 12, 162, 163, 164] (by decide +kernel) (by decide +kernel)
set_option maxRecDepth 20000 in
theorem gX2_readItem_X2_takes : GoodIn wsX2_readItem (wsV RX2 29 RX2 yX2_takes wsX2_takes) := goodIn_app (goodIn_of _ (by decide +kernel)) ggX2_readItem_X2_takes
set_option maxRecDepth 20000 in
theorem ggX2_readItem_X2_readChannelItem : GoodIn wsX2_readItem wsX2_readChannelItem := goodIn_r _ [16, 17, 18, 19, 4, 20, 6, 7, 8, 21, 22, 23, 24, 9, 10, 11, 12, 25, 26, 27, 1, 2, 3, 5, 28, 29, 30, 31, 32, 33, 34, 35, 36, 37, 38, 39, 40, 41, 42, 43, 44, 45, 46, 47, 48, 49, 50, 51, 52, 53, 54, 55, 56, 57, 58, 59, 60, 61, 62, 63, 64, 65, 66, 67, 68, 69, 70, 71, 72, 73, 74, 75, 76, 77, 78, 79, 80, 81, 82, 83, 84, 85, 86, 87, 88, 89, 90, 91, 92, 93, 94, 95, 96, 97, 98, 99, 100, 101, 102, 103, 104, 105, 106, 107, 108, 109, 110, 111, 112, 113, 114, 115, 116, 117, 118, 119, 120, 121, 122, 123, 124, 125, 126, 127, 128, 129, 130, 131, 132, 133, 134, 135, 136, 137, 138, 139, 140, 141, 142, 143, 144, 145, 146, 147, 148, 149, 150, 151, 162, 163, 164, 165, 166, 167, 168, 169, 170, 171, 172, 173, 174, 175, 176, 177, 178, 179, 180, 181, 182, 183, 184, 185, 186, 187] (by decide +kernel) (by decide +kernel)
set_option maxRecDepth 20000 in
theorem gX2_readItem_X2_readChannelItem : GoodIn wsX2_readItem (wsV RX2 33 RX2 yX2_readChannelItem wsX2_readChannelItem) := goodIn_app (goodIn_of _ (by decide +kernel)) ggX2_readItem_X2_readChannelItem
set_option maxRecDepth 20000 in
theorem ggX2_readItem_X2_readFeedItem : GoodIn wsX2_readItem wsX2_readFeedItem := goodIn_r _ [155, 17, 18, 19, 4, 20, 6, 7, 8, 21, 22, 23, 24, 9, 10, 11, 12, 25, 26, 27, 1, 2, 3, 5, 156, 157, 158, 159, 160, 161, 162, 163, 164, 165, 166, 167, 168, 169, 170, 171, 172, 173, 174, 175, 176, 177, 178, 179, 180, 181, 182] (by decide +kernel) (by decide +kernel)
set_option maxRecDepth 20000 in
theorem gX2_readItem_X2_readFeedItem : GoodIn wsX2_readItem (wsV RX2 36 RX2 yX2_readFeedItem wsX2_readFeedItem) := goodIn_app (goodIn_of _ (by decide +kernel)) ggX2_readItem_X2_readFeedItem
theorem dX2_readItem_0 : decode cX2_readItem 0 = .ok (.aload_n 0, 1) := by decide +kernel
theorem dX2_readItem_1 : decode cX2_readItem 1 = .ok (.bipush 99, 2) := by decide +kernel
theorem dX2_readItem_3 : decode cX2_readItem 3 = .ok (.invokevirtual 29, 3) := by decide +kernel
theorem dX2_readItem_6 : decode cX2_readItem 6 = .ok (.ifCond .eq 9, 3) := by decide +kernel
theorem dX2_readItem_9 : decode cX2_readItem 9 = .ok (.aload_n 0, 1) := by decide +kernel
theorem dX2_readItem_10 : decode cX2_readItem 10 = .ok (.aload_n 1, 1) := by decide +kernel
theorem dX2_readItem_11 : decode cX2_readItem 11 = .ok (.invokevirtual 33, 3) := by decide +kernel
theorem dX2_readItem_14 : decode cX2_readItem 14 = .ok (.ireturn, 1) := by decide +kernel
theorem dX2_readItem_15 : decode cX2_readItem 15 = .ok (.aload_n 0, 1) := by decide +kernel
theorem dX2_readItem_16 : decode cX2_readItem 16 = .ok (.bipush 120, 2) := by decide +kernel
theorem dX2_readItem_18 : decode cX2_readItem 18 = .ok (.invokevirtual 29, 3) := by decide +kernel
theorem dX2_readItem_21 : decode cX2_readItem 21 = .ok (.ifCond .eq 9, 3) := by decide +kernel
theorem dX2_readItem_24 : decode cX2_readItem 24 = .ok (.aload_n 0, 1) := by decide +kernel
theorem dX2_readItem_25 : decode cX2_readItem 25 = .ok (.aload_n 1, 1) := by decide +kernel
theorem dX2_readItem_26 : decode cX2_readItem 26 = .ok (.invokevirtual 36, 3) := by decide +kernel
theorem dX2_readItem_29 : decode cX2_readItem 29 = .ok (.ireturn, 1) := by decide +kernel
theorem dX2_readItem_30 : decode cX2_readItem 30 = .ok (.iconst 0, 1) := by decide +kernel
theorem dX2_readItem_31 : decode cX2_readItem 31 = .ok (.ireturn, 1) := by decide +kernel
set_option maxRecDepth 20000 in
theorem ggX2_readChannelItem_X2_readNumber : GoodIn wsX2_readChannelItem wsX2_readNumber := goodIn_r _ [5, 6, 7, 8, 9, 10, 11, 12, 13, 14, 15, 4, 16, 17, 18, 19, 148, 149, 150] (by decide +kernel) (by decide +kernel)
set_option maxRecDepth 20000 in
theorem gX2_readChannelItem_X2_readNumber : GoodIn wsX2_readChannelItem (wsV RX2 39 RX2 yX2_readNumber wsX2_readNumber) := goodIn_app (goodIn_of _ (by decide +kernel)) ggX2_readChannelItem_X2_readNumber
set_option maxRecDepth 20000 in
theorem ggX2_readChannelItem_X2_takes : GoodIn wsX2_readChannelItem wsX2_takes := goodIn_r _ [23, 6, 7, 8, 13, 14, 15, 4, 16, 148, 149, 150] (by decide +kernel) (by decide +kernel)
set_option maxRecDepth 20000 in
theorem gX2_readChannelItem_X2_takes : GoodIn wsX2_readChannelItem (wsV RX2 29 RX2 yX2_takes wsX2_takes) := goodIn_app (goodIn_of _ (by decide +kernel)) ggX2_readChannelItem_X2_takes
set_option maxRecDepth 20000 in
theorem ggX2_readChannelItem_X2_readLetter : GoodIn wsX2_readChannelItem wsX2_readLetter := goodIn_r _ [27, 6, 7, 8, 13, 14, 15, 4, 16, 28, 29, 30, 31, 32, 33, 34, 35, 36, 37, 38, 39, 40, 41, 42, 43, 44, 45, 46, 47, 48, 49, 50, 51, 52, 53, 54, 55, 56, 57, 11, 58, 59, 10, 12, 60, 61, 62, 63, 64, 65, 66, 67, 68, 69, 70, 71, 72, 73, 74, 75, 76, 77, 78, 79, 80, 81, 82, 83, 84, 85, 86, 87, 88, 89, 90, 91, 92, 93, 94, 95, 96, 97, 98, 99, 100, 101, 102, 103, 104, 105, 106, 107, 108, 109, 110, 111, 112, 113, 114, 18, 115, 148, 149, 150] (by decide +kernel) (by decide +kernel)
set_option maxRecDepth 20000 in
theorem gX2_readChannelItem_X2_readLetter : GoodIn wsX2_readChannelItem (wsV RX2 47 RX2 yX2_readLetter wsX2_readLetter) := goodIn_app (goodIn_of _ (by decide +kernel)) ggX2_readChannelItem_X2_readLetter
set_option maxRecDepth 20000 in
theorem ggX2_readChannelItem_X2_readValue : GoodIn wsX2_readChannelItem wsX2_readValue := goodIn_r _ [119, 1, 2, 3, 4, 5, 6, 7, 8, 9, 10, 11, 12, 13, 14, 15, 16, 17, 18, 19, 120, 121, 122, 123, 114, 115, 148, 149, 150] (by decide +kernel) (by decide +kernel)
set_option maxRecDepth 20000 in
theorem gX2_readChannelItem_X2_readValue : GoodIn wsX2_readChannelItem (wsV RX2 50 RX2 yX2_readValue wsX2_readValue) := goodIn_app (goodIn_of _ (by decide +kernel)) ggX2_readChannelItem_X2_readValue
set_option maxRecDepth 20000 in
theorem ggX2_readChannelItem_X4_setChannelByHand : GoodIn wsX2_readChannelItem wsX4_setChannelByHand := goodIn_r _ [128, 129, 130, 131, 132, 133, 134, 135, 18, 136, 137, 138, 139, 140, 141, 142, 143, 144, 145, 146, 147, 151, 152, 153, 154, 155, 156, 157, 158, 159, 160, 161, 162, 163, 164, 165, 166, 167, 168, 169, 170, 171, 172, 173] (by decide +kernel) (by decide +kernel)
set_option maxRecDepth 20000 in
theorem gX2_readChannelItem_X4_setChannelByHand : GoodIn wsX2_readChannelItem (wsV RX2 53 RX4 yX4_setChannelByHand wsX4_setChannelByHand) := goodIn_app (goodIn_of _ (by decide +kernel)) ggX2_readChannelItem_X4_setChannelByHand
theorem dX2_readChannelItem_0 : decode cX2_readChannelItem 0 = .ok (.aload_n 0, 1) := by decide +kernel
theorem dX2_readChannelItem_1 : decode cX2_readChannelItem 1 = .ok (.bipush 11, 2) := by decide +kernel
theorem dX2_readChannelItem_3 : decode cX2_readChannelItem 3 = .ok (.invokevirtual 39, 3) := by decide +kernel
theorem dX2_readChannelItem_6 : decode cX2_readChannelItem 6 = .ok (.istore_n 2, 1) := by decide +kernel
theorem dX2_readChannelItem_7 : decode cX2_readChannelItem 7 = .ok (.iload_n 2, 1) := by decide +kernel
theorem dX2_readChannelItem_8 : decode cX2_readChannelItem 8 = .ok (.iconst (-1), 1) := by decide +kernel
theorem dX2_readChannelItem_9 : decode cX2_readChannelItem 9 = .ok (.if_icmp .ne 5, 3) := by decide +kernel
theorem dX2_readChannelItem_12 : decode cX2_readChannelItem 12 = .ok (.iconst 0, 1) := by decide +kernel
theorem dX2_readChannelItem_13 : decode cX2_readChannelItem 13 = .ok (.ireturn, 1) := by decide +kernel
theorem dX2_readChannelItem_14 : decode cX2_readChannelItem 14 = .ok (.iconst 0, 1) := by decide +kernel
theorem dX2_readChannelItem_15 : decode cX2_readChannelItem 15 = .ok (.istore_n 3, 1) := by decide +kernel
theorem dX2_readChannelItem_16 : decode cX2_readChannelItem 16 = .ok (.iconst 0, 1) := by decide +kernel
theorem dX2_readChannelItem_17 : decode cX2_readChannelItem 17 = .ok (.istore 4, 2) := by decide +kernel
theorem dX2_readChannelItem_19 : decode cX2_readChannelItem 19 = .ok (.iload 4, 2) := by decide +kernel
theorem dX2_readChannelItem_21 : decode cX2_readChannelItem 21 = .ok (.getstatic 43, 3) := by decide +kernel
theorem dX2_readChannelItem_24 : decode cX2_readChannelItem 24 = .ok (.arraylength, 1) := by decide +kernel
theorem dX2_readChannelItem_25 : decode cX2_readChannelItem 25 = .ok (.if_icmp .gt 72, 3) := by decide +kernel
theorem dX2_readChannelItem_28 : decode cX2_readChannelItem 28 = .ok (.iload 4, 2) := by decide +kernel
theorem dX2_readChannelItem_30 : decode cX2_readChannelItem 30 = .ok (.ifCond .le 14, 3) := by decide +kernel
theorem dX2_readChannelItem_33 : decode cX2_readChannelItem 33 = .ok (.aload_n 0, 1) := by decide +kernel
theorem dX2_readChannelItem_34 : decode cX2_readChannelItem 34 = .ok (.bipush 59, 2) := by decide +kernel
theorem dX2_readChannelItem_36 : decode cX2_readChannelItem 36 = .ok (.invokevirtual 29, 3) := by decide +kernel
theorem dX2_readChannelItem_39 : decode cX2_readChannelItem 39 = .ok (.ifCond .eq 5, 3) := by decide +kernel
theorem dX2_readChannelItem_42 : decode cX2_readChannelItem 42 = .ok (.iconst 1, 1) := by decide +kernel
theorem dX2_readChannelItem_43 : decode cX2_readChannelItem 43 = .ok (.ireturn, 1) := by decide +kernel
theorem dX2_readChannelItem_44 : decode cX2_readChannelItem 44 = .ok (.aload_n 0, 1) := by decide +kernel
theorem dX2_readChannelItem_45 : decode cX2_readChannelItem 45 = .ok (.iload_n 3, 1) := by decide +kernel
theorem dX2_readChannelItem_46 : decode cX2_readChannelItem 46 = .ok (.invokevirtual 47, 3) := by decide +kernel
theorem dX2_readChannelItem_49 : decode cX2_readChannelItem 49 = .ok (.istore 5, 2) := by decide +kernel
theorem dX2_readChannelItem_51 : decode cX2_readChannelItem 51 = .ok (.iload 5, 2) := by decide +kernel
theorem dX2_readChannelItem_53 : decode cX2_readChannelItem 53 = .ok (.iconst (-1), 1) := by decide +kernel
theorem dX2_readChannelItem_54 : decode cX2_readChannelItem 54 = .ok (.if_icmp .ne 5, 3) := by decide +kernel
theorem dX2_readChannelItem_57 : decode cX2_readChannelItem 57 = .ok (.iconst 0, 1) := by decide +kernel
theorem dX2_readChannelItem_58 : decode cX2_readChannelItem 58 = .ok (.ireturn, 1) := by decide +kernel
theorem dX2_readChannelItem_59 : decode cX2_readChannelItem 59 = .ok (.aload_n 0, 1) := by decide +kernel
theorem dX2_readChannelItem_60 : decode cX2_readChannelItem 60 = .ok (.iload 5, 2) := by decide +kernel
theorem dX2_readChannelItem_62 : decode cX2_readChannelItem 62 = .ok (.invokevirtual 50, 3) := by decide +kernel
theorem dX2_readChannelItem_65 : decode cX2_readChannelItem 65 = .ok (.istore 6, 2) := by decide +kernel
theorem dX2_readChannelItem_67 : decode cX2_readChannelItem 67 = .ok (.iload 6, 2) := by decide +kernel
theorem dX2_readChannelItem_69 : decode cX2_readChannelItem 69 = .ok (.iconst (-1), 1) := by decide +kernel
theorem dX2_readChannelItem_70 : decode cX2_readChannelItem 70 = .ok (.if_icmp .ne 5, 3) := by decide +kernel
theorem dX2_readChannelItem_73 : decode cX2_readChannelItem 73 = .ok (.iconst 0, 1) := by decide +kernel
theorem dX2_readChannelItem_74 : decode cX2_readChannelItem 74 = .ok (.ireturn, 1) := by decide +kernel
theorem dX2_readChannelItem_75 : decode cX2_readChannelItem 75 = .ok (.aload_n 1, 1) := by decide +kernel
theorem dX2_readChannelItem_76 : decode cX2_readChannelItem 76 = .ok (.iload_n 2, 1) := by decide +kernel
theorem dX2_readChannelItem_77 : decode cX2_readChannelItem 77 = .ok (.iload 5, 2) := by decide +kernel
theorem dX2_readChannelItem_79 : decode cX2_readChannelItem 79 = .ok (.iload 6, 2) := by decide +kernel
theorem dX2_readChannelItem_81 : decode cX2_readChannelItem 81 = .ok (.invokevirtual 53, 3) := by decide +kernel
theorem dX2_readChannelItem_84 : decode cX2_readChannelItem 84 = .ok (.iload_n 3, 1) := by decide +kernel
theorem dX2_readChannelItem_85 : decode cX2_readChannelItem 85 = .ok (.iconst 1, 1) := by decide +kernel
theorem dX2_readChannelItem_86 : decode cX2_readChannelItem 86 = .ok (.iload 5, 2) := by decide +kernel
theorem dX2_readChannelItem_88 : decode cX2_readChannelItem 88 = .ok (.ishl, 1) := by decide +kernel
theorem dX2_readChannelItem_89 : decode cX2_readChannelItem 89 = .ok (.ior, 1) := by decide +kernel
theorem dX2_readChannelItem_90 : decode cX2_readChannelItem 90 = .ok (.istore_n 3, 1) := by decide +kernel
theorem dX2_readChannelItem_91 : decode cX2_readChannelItem 91 = .ok (.iinc 4 1, 3) := by decide +kernel
theorem dX2_readChannelItem_94 : decode cX2_readChannelItem 94 = .ok (.goto (-75), 3) := by decide +kernel
theorem dX2_readChannelItem_97 : decode cX2_readChannelItem 97 = .ok (.iconst 0, 1) := by decide +kernel
theorem dX2_readChannelItem_98 : decode cX2_readChannelItem 98 = .ok (.ireturn, 1) := by decide +kernel
set_option maxRecDepth 20000 in
theorem ggX2_readLetter_X2_skipSpaces : GoodIn wsX2_readLetter wsX2_skipSpaces := goodIn_r _ [8, 1, 2, 3, 101, 102, 103] (by decide +kernel) (by decide +kernel)
set_option maxRecDepth 20000 in
theorem gX2_readLetter_X2_skipSpaces : GoodIn wsX2_readLetter (wsV RX2 22 RX2 yX2_skipSpaces wsX2_skipSpaces) := goodIn_app (goodIn_of _ (by decide +kernel)) ggX2_readLetter_X2_skipSpaces
set_option maxRecDepth 20000 in
theorem ggX2_readLetter_J0_indexOf_0f7a4 : GoodIn wsX2_readLetter wsJ0_indexOf_0f7a4 := goodIn_r _ [13, 14, 15, 16, 12, 17, 18, 19, 20, 21, 22, 23, 24, 25, 26, 27, 28, 29, 30, 31, 32, 33, 34, 35, 36, 37, 38, 39, 40, 41, 42, 43, 44, 45, 46, 47, 48, 49, 50, 51, 52, 53, 54, 55, 56, 57, 58, 59, 60, 61, 62, 63, 64, 65, 66, 67, 68, 69, 70, 71, 72, 73, 74, 75, 76, 77, 78, 79, 80, 81, 82, 83, 84, 85, 86, 87, 88, 89, 90, 91, 92, 93, 94, 95, 96, 97] (by decide +kernel) (by decide +kernel)
set_option maxRecDepth 20000 in
theorem gX2_readLetter_J0_indexOf_0f7a4 : GoodIn wsX2_readLetter (wsV RX2 61 RJ0 yJ0_indexOf_0f7a4 wsJ0_indexOf_0f7a4) := goodIn_app (goodIn_of _ (by decide +kernel)) ggX2_readLetter_J0_indexOf_0f7a4
set_option maxRecDepth 20000 in
theorem ggX2_readLetter_X5_hasBit : GoodIn wsX2_readLetter wsX5_hasBit := goodIn_r _ [100] (by decide +kernel) (by decide +kernel)
set_option maxRecDepth 20000 in
theorem gX2_readLetter_X5_hasBit_n66 : GoodIn wsX2_readLetter (wsX5_hasBit) := ggX2_readLetter_X5_hasBit
theorem dX2_readLetter_0 : decode cX2_readLetter 0 = .ok (.aload_n 0, 1) := by decide +kernel
theorem dX2_readLetter_1 : decode cX2_readLetter 1 = .ok (.invokevirtual 22, 3) := by decide +kernel
theorem dX2_readLetter_4 : decode cX2_readLetter 4 = .ok (.aload_n 0, 1) := by decide +kernel
theorem dX2_readLetter_5 : decode cX2_readLetter 5 = .ok (.getfield 19, 3) := by decide +kernel
theorem dX2_readLetter_8 : decode cX2_readLetter 8 = .ok (.aload_n 0, 1) := by decide +kernel
theorem dX2_readLetter_9 : decode cX2_readLetter 9 = .ok (.getfield 15, 3) := by decide +kernel
theorem dX2_readLetter_12 : decode cX2_readLetter 12 = .ok (.if_icmp .ge 20, 3) := by decide +kernel
theorem dX2_readLetter_15 : decode cX2_readLetter 15 = .ok (.ldc 59, 2) := by decide +kernel
theorem dX2_readLetter_17 : decode cX2_readLetter 17 = .ok (.aload_n 0, 1) := by decide +kernel
theorem dX2_readLetter_18 : decode cX2_readLetter 18 = .ok (.getfield 9, 3) := by decide +kernel
theorem dX2_readLetter_21 : decode cX2_readLetter 21 = .ok (.aload_n 0, 1) := by decide +kernel
theorem dX2_readLetter_22 : decode cX2_readLetter 22 = .ok (.getfield 19, 3) := by decide +kernel
theorem dX2_readLetter_25 : decode cX2_readLetter 25 = .ok (.caload, 1) := by decide +kernel
theorem dX2_readLetter_26 : decode cX2_readLetter 26 = .ok (.invokevirtual 61, 3) := by decide +kernel
theorem dX2_readLetter_29 : decode cX2_readLetter 29 = .ok (.goto 4, 3) := by decide +kernel
theorem dX2_readLetter_32 : decode cX2_readLetter 32 = .ok (.iconst (-1), 1) := by decide +kernel
theorem dX2_readLetter_33 : decode cX2_readLetter 33 = .ok (.istore_n 2, 1) := by decide +kernel
theorem dX2_readLetter_34 : decode cX2_readLetter 34 = .ok (.iload_n 2, 1) := by decide +kernel
theorem dX2_readLetter_35 : decode cX2_readLetter 35 = .ok (.ifCond .lt 11, 3) := by decide +kernel
theorem dX2_readLetter_38 : decode cX2_readLetter 38 = .ok (.iload_n 1, 1) := by decide +kernel
theorem dX2_readLetter_39 : decode cX2_readLetter 39 = .ok (.iload_n 2, 1) := by decide +kernel
theorem dX2_readLetter_40 : decode cX2_readLetter 40 = .ok (.invokestatic 66, 3) := by decide +kernel
theorem dX2_readLetter_43 : decode cX2_readLetter 43 = .ok (.ifCond .eq 5, 3) := by decide +kernel
theorem dX2_readLetter_46 : decode cX2_readLetter 46 = .ok (.iconst (-1), 1) := by decide +kernel
theorem dX2_readLetter_47 : decode cX2_readLetter 47 = .ok (.ireturn, 1) := by decide +kernel
theorem dX2_readLetter_48 : decode cX2_readLetter 48 = .ok (.aload_n 0, 1) := by decide +kernel
theorem dX2_readLetter_49 : decode cX2_readLetter 49 = .ok (.dup, 1) := by decide +kernel
theorem dX2_readLetter_50 : decode cX2_readLetter 50 = .ok (.getfield 19, 3) := by decide +kernel
theorem dX2_readLetter_53 : decode cX2_readLetter 53 = .ok (.iconst 1, 1) := by decide +kernel
theorem dX2_readLetter_54 : decode cX2_readLetter 54 = .ok (.iadd, 1) := by decide +kernel
theorem dX2_readLetter_55 : decode cX2_readLetter 55 = .ok (.putfield 19, 3) := by decide +kernel
theorem dX2_readLetter_58 : decode cX2_readLetter 58 = .ok (.iload_n 2, 1) := by decide +kernel
theorem dX2_readLetter_59 : decode cX2_readLetter 59 = .ok (.ireturn, 1) := by decide +kernel
set_option maxRecDepth 20000 in
theorem ggX2_readValue_X2_readNumber : GoodIn wsX2_readValue wsX2_readNumber := goodIn_r _ [5, 6, 7, 8, 9, 10, 11, 12, 13, 14, 15, 4, 16, 17, 18, 19, 26, 27, 28] (by decide +kernel) (by decide +kernel)
set_option maxRecDepth 20000 in
theorem gX2_readValue_X2_readNumber : GoodIn wsX2_readValue (wsV RX2 39 RX2 yX2_readNumber wsX2_readNumber) := goodIn_app (goodIn_of _ (by decide +kernel)) ggX2_readValue_X2_readNumber
set_option maxRecDepth 20000 in
theorem ggX2_readValue_X2_readGroups : GoodIn wsX2_readValue wsX2_readGroups := goodIn_r _ [23, 6, 7, 8, 13, 14, 15, 4, 16, 17, 18, 19, 24, 25, 26, 27, 28] (by decide +kernel) (by decide +kernel)
set_option maxRecDepth 20000 in
theorem gX2_readValue_X2_readGroups : GoodIn wsX2_readValue (wsV RX2 70 RX2 yX2_readGroups wsX2_readGroups) := goodIn_app (goodIn_of _ (by decide +kernel)) ggX2_readValue_X2_readGroups
theorem dX2_readValue_0 : decode cX2_readValue 0 = .ok (.iload_n 1, 1) := by decide +kernel
theorem dX2_readValue_1 : decode cX2_readValue 1 = .ok (.tableswitch 60 0 4 #[35, 45, 60, 60, 55], 35) := by decide +kernel
theorem dX2_readValue_36 : decode cX2_readValue 36 = .ok (.aload_n 0, 1) := by decide +kernel
theorem dX2_readValue_37 : decode cX2_readValue 37 = .ok (.getstatic 43, 3) := by decide +kernel
theorem dX2_readValue_40 : decode cX2_readValue 40 = .ok (.iconst 0, 1) := by decide +kernel
theorem dX2_readValue_41 : decode cX2_readValue 41 = .ok (.iaload, 1) := by decide +kernel
theorem dX2_readValue_42 : decode cX2_readValue 42 = .ok (.invokevirtual 39, 3) := by decide +kernel
theorem dX2_readValue_45 : decode cX2_readValue 45 = .ok (.ireturn, 1) := by decide +kernel
theorem dX2_readValue_46 : decode cX2_readValue 46 = .ok (.aload_n 0, 1) := by decide +kernel
theorem dX2_readValue_47 : decode cX2_readValue 47 = .ok (.getstatic 43, 3) := by decide +kernel
theorem dX2_readValue_50 : decode cX2_readValue 50 = .ok (.iconst 1, 1) := by decide +kernel
theorem dX2_readValue_51 : decode cX2_readValue 51 = .ok (.iaload, 1) := by decide +kernel
theorem dX2_readValue_52 : decode cX2_readValue 52 = .ok (.invokevirtual 39, 3) := by decide +kernel
theorem dX2_readValue_55 : decode cX2_readValue 55 = .ok (.ireturn, 1) := by decide +kernel
theorem dX2_readValue_56 : decode cX2_readValue 56 = .ok (.aload_n 0, 1) := by decide +kernel
theorem dX2_readValue_57 : decode cX2_readValue 57 = .ok (.invokevirtual 70, 3) := by decide +kernel
theorem dX2_readValue_60 : decode cX2_readValue 60 = .ok (.ireturn, 1) := by decide +kernel
theorem dX2_readValue_61 : decode cX2_readValue 61 = .ok (.iconst 1, 1) := by decide +kernel
theorem dX2_readValue_62 : decode cX2_readValue 62 = .ok (.ireturn, 1) := by decide +kernel
set_option maxRecDepth 20000 in
theorem ggX2_readGroups_X2_skipSpaces : GoodIn wsX2_readGroups wsX2_skipSpaces := goodIn_r _ [8, 1, 2, 3, 14, 15, 16] (by decide +kernel) (by decide +kernel)
set_option maxRecDepth 20000 in
theorem gX2_readGroups_X2_skipSpaces : GoodIn wsX2_readGroups (wsV RX2 22 RX2 yX2_skipSpaces wsX2_skipSpaces) := goodIn_app (goodIn_of _ (by decide +kernel)) ggX2_readGroups_X2_skipSpaces
set_option maxRecDepth 20000 in
theorem ggX2_readGroups_X5_isBelow : GoodIn wsX2_readGroups wsX5_isBelow := goodIn_r _ [11] (by decide +kernel) (by decide +kernel)
set_option maxRecDepth 20000 in
theorem gX2_readGroups_X5_isBelow_n74 : GoodIn wsX2_readGroups (wsX5_isBelow) := ggX2_readGroups_X5_isBelow
set_option maxRecDepth 20000 in
theorem ggX2_readGroups_X5_hasBit : GoodIn wsX2_readGroups wsX5_hasBit := goodIn_r _ [13] (by decide +kernel) (by decide +kernel)
set_option maxRecDepth 20000 in
theorem gX2_readGroups_X5_hasBit_n66 : GoodIn wsX2_readGroups (wsX5_hasBit) := ggX2_readGroups_X5_hasBit
theorem dX2_readGroups_0 : decode cX2_readGroups 0 = .ok (.aload_n 0, 1) := by decide +kernel
theorem dX2_readGroups_1 : decode cX2_readGroups 1 = .ok (.invokevirtual 22, 3) := by decide +kernel
theorem dX2_readGroups_4 : decode cX2_readGroups 4 = .ok (.iconst 0, 1) := by decide +kernel
theorem dX2_readGroups_5 : decode cX2_readGroups 5 = .ok (.istore_n 1, 1) := by decide +kernel
theorem dX2_readGroups_6 : decode cX2_readGroups 6 = .ok (.aload_n 0, 1) := by decide +kernel
theorem dX2_readGroups_7 : decode cX2_readGroups 7 = .ok (.getfield 19, 3) := by decide +kernel
theorem dX2_readGroups_10 : decode cX2_readGroups 10 = .ok (.aload_n 0, 1) := by decide +kernel
theorem dX2_readGroups_11 : decode cX2_readGroups 11 = .ok (.getfield 15, 3) := by decide +kernel
theorem dX2_readGroups_14 : decode cX2_readGroups 14 = .ok (.if_icmp .ge 54, 3) := by decide +kernel
theorem dX2_readGroups_17 : decode cX2_readGroups 17 = .ok (.aload_n 0, 1) := by decide +kernel
theorem dX2_readGroups_18 : decode cX2_readGroups 18 = .ok (.getfield 9, 3) := by decide +kernel
theorem dX2_readGroups_21 : decode cX2_readGroups 21 = .ok (.aload_n 0, 1) := by decide +kernel
theorem dX2_readGroups_22 : decode cX2_readGroups 22 = .ok (.getfield 19, 3) := by decide +kernel
theorem dX2_readGroups_25 : decode cX2_readGroups 25 = .ok (.caload, 1) := by decide +kernel
theorem dX2_readGroups_26 : decode cX2_readGroups 26 = .ok (.bipush 48, 2) := by decide +kernel
theorem dX2_readGroups_28 : decode cX2_readGroups 28 = .ok (.isub, 1) := by decide +kernel
theorem dX2_readGroups_29 : decode cX2_readGroups 29 = .ok (.istore_n 2, 1) := by decide +kernel
theorem dX2_readGroups_30 : decode cX2_readGroups 30 = .ok (.iload_n 2, 1) := by decide +kernel
theorem dX2_readGroups_31 : decode cX2_readGroups 31 = .ok (.iconst 4, 1) := by decide +kernel
theorem dX2_readGroups_32 : decode cX2_readGroups 32 = .ok (.invokestatic 74, 3) := by decide +kernel
theorem dX2_readGroups_35 : decode cX2_readGroups 35 = .ok (.ifCond .eq 33, 3) := by decide +kernel
theorem dX2_readGroups_38 : decode cX2_readGroups 38 = .ok (.iload_n 1, 1) := by decide +kernel
theorem dX2_readGroups_39 : decode cX2_readGroups 39 = .ok (.iload_n 2, 1) := by decide +kernel
theorem dX2_readGroups_40 : decode cX2_readGroups 40 = .ok (.invokestatic 66, 3) := by decide +kernel
theorem dX2_readGroups_43 : decode cX2_readGroups 43 = .ok (.ifCond .eq 6, 3) := by decide +kernel
theorem dX2_readGroups_46 : decode cX2_readGroups 46 = .ok (.goto 22, 3) := by decide +kernel
theorem dX2_readGroups_49 : decode cX2_readGroups 49 = .ok (.iload_n 1, 1) := by decide +kernel
theorem dX2_readGroups_50 : decode cX2_readGroups 50 = .ok (.iconst 1, 1) := by decide +kernel
theorem dX2_readGroups_51 : decode cX2_readGroups 51 = .ok (.iload_n 2, 1) := by decide +kernel
theorem dX2_readGroups_52 : decode cX2_readGroups 52 = .ok (.ishl, 1) := by decide +kernel
theorem dX2_readGroups_53 : decode cX2_readGroups 53 = .ok (.ior, 1) := by decide +kernel
theorem dX2_readGroups_54 : decode cX2_readGroups 54 = .ok (.istore_n 1, 1) := by decide +kernel
theorem dX2_readGroups_55 : decode cX2_readGroups 55 = .ok (.aload_n 0, 1) := by decide +kernel
theorem dX2_readGroups_56 : decode cX2_readGroups 56 = .ok (.dup, 1) := by decide +kernel
theorem dX2_readGroups_57 : decode cX2_readGroups 57 = .ok (.getfield 19, 3) := by decide +kernel
theorem dX2_readGroups_60 : decode cX2_readGroups 60 = .ok (.iconst 1, 1) := by decide +kernel
theorem dX2_readGroups_61 : decode cX2_readGroups 61 = .ok (.iadd, 1) := by decide +kernel
theorem dX2_readGroups_62 : decode cX2_readGroups 62 = .ok (.putfield 19, 3) := by decide +kernel
theorem dX2_readGroups_65 : decode cX2_readGroups 65 = .ok (.goto (-59), 3) := by decide +kernel
theorem dX2_readGroups_68 : decode cX2_readGroups 68 = .ok (.iload_n 1, 1) := by decide +kernel
theorem dX2_readGroups_69 : decode cX2_readGroups 69 = .ok (.ifCond .ne 7, 3) := by decide +kernel
theorem dX2_readGroups_72 : decode cX2_readGroups 72 = .ok (.iconst (-1), 1) := by decide +kernel
theorem dX2_readGroups_73 : decode cX2_readGroups 73 = .ok (.goto 4, 3) := by decide +kernel
theorem dX2_readGroups_76 : decode cX2_readGroups 76 = .ok (.iload_n 1, 1) := by decide +kernel
theorem dX2_readGroups_77 : decode cX2_readGroups 77 = .ok (.ireturn, 1) := by decide +kernel
set_option maxRecDepth 20000 in
theorem ggX2_readFeedItem_X2_readNumber : GoodIn wsX2_readFeedItem wsX2_readNumber := goodIn_r _ [5, 6, 7, 8, 9, 10, 11, 12, 13, 14, 15, 4, 16, 17, 18, 19, 30, 31, 32] (by decide +kernel) (by decide +kernel)
set_option maxRecDepth 20000 in
theorem gX2_readFeedItem_X2_readNumber : GoodIn wsX2_readFeedItem (wsV RX2 39 RX2 yX2_readNumber wsX2_readNumber) := goodIn_app (goodIn_of _ (by decide +kernel)) ggX2_readFeedItem_X2_readNumber
set_option maxRecDepth 20000 in
theorem ggX2_readFeedItem_X2_takes : GoodIn wsX2_readFeedItem wsX2_takes := goodIn_r _ [23, 6, 7, 8, 13, 14, 15, 4, 16, 30, 31, 32] (by decide +kernel) (by decide +kernel)
set_option maxRecDepth 20000 in
theorem gX2_readFeedItem_X2_takes : GoodIn wsX2_readFeedItem (wsV RX2 29 RX2 yX2_takes wsX2_takes) := goodIn_app (goodIn_of _ (by decide +kernel)) ggX2_readFeedItem_X2_takes
set_option maxRecDepth 20000 in
theorem ggX2_readFeedItem_X2_readSend : GoodIn wsX2_readFeedItem wsX2_readSend := goodIn_r _ [27, 1, 2, 3, 4, 5, 6, 7, 8, 9, 10, 11, 12, 13, 14, 15, 16, 17, 18, 19, 20, 21, 22, 23, 28, 29, 33, 34, 35, 36, 37, 38, 39, 40, 41, 42, 43, 44, 45, 46, 47, 48, 49, 50, 30, 31, 32] (by decide +kernel) (by decide +kernel)
set_option maxRecDepth 20000 in
theorem gX2_readFeedItem_X2_readSend : GoodIn wsX2_readFeedItem (wsV RX2 77 RX2 yX2_readSend wsX2_readSend) := goodIn_app (goodIn_of _ (by decide +kernel)) ggX2_readFeedItem_X2_readSend
theorem dX2_readFeedItem_0 : decode cX2_readFeedItem 0 = .ok (.aload_n 0, 1) := by decide +kernel
theorem dX2_readFeedItem_1 : decode cX2_readFeedItem 1 = .ok (.iconst 3, 1) := by decide +kernel
theorem dX2_readFeedItem_2 : decode cX2_readFeedItem 2 = .ok (.invokevirtual 39, 3) := by decide +kernel
theorem dX2_readFeedItem_5 : decode cX2_readFeedItem 5 = .ok (.istore_n 2, 1) := by decide +kernel
theorem dX2_readFeedItem_6 : decode cX2_readFeedItem 6 = .ok (.iload_n 2, 1) := by decide +kernel
theorem dX2_readFeedItem_7 : decode cX2_readFeedItem 7 = .ok (.iconst (-1), 1) := by decide +kernel
theorem dX2_readFeedItem_8 : decode cX2_readFeedItem 8 = .ok (.if_icmp .eq 12, 3) := by decide +kernel
theorem dX2_readFeedItem_11 : decode cX2_readFeedItem 11 = .ok (.aload_n 0, 1) := by decide +kernel
theorem dX2_readFeedItem_12 : decode cX2_readFeedItem 12 = .ok (.bipush 58, 2) := by decide +kernel
theorem dX2_readFeedItem_14 : decode cX2_readFeedItem 14 = .ok (.invokevirtual 29, 3) := by decide +kernel
theorem dX2_readFeedItem_17 : decode cX2_readFeedItem 17 = .ok (.ifCond .ne 5, 3) := by decide +kernel
theorem dX2_readFeedItem_20 : decode cX2_readFeedItem 20 = .ok (.iconst 0, 1) := by decide +kernel
theorem dX2_readFeedItem_21 : decode cX2_readFeedItem 21 = .ok (.ireturn, 1) := by decide +kernel
theorem dX2_readFeedItem_22 : decode cX2_readFeedItem 22 = .ok (.aload_n 0, 1) := by decide +kernel
theorem dX2_readFeedItem_23 : decode cX2_readFeedItem 23 = .ok (.bipush 59, 2) := by decide +kernel
theorem dX2_readFeedItem_25 : decode cX2_readFeedItem 25 = .ok (.invokevirtual 29, 3) := by decide +kernel
theorem dX2_readFeedItem_28 : decode cX2_readFeedItem 28 = .ok (.ifCond .eq 5, 3) := by decide +kernel
theorem dX2_readFeedItem_31 : decode cX2_readFeedItem 31 = .ok (.iconst 1, 1) := by decide +kernel
theorem dX2_readFeedItem_32 : decode cX2_readFeedItem 32 = .ok (.ireturn, 1) := by decide +kernel
theorem dX2_readFeedItem_33 : decode cX2_readFeedItem 33 = .ok (.iconst 0, 1) := by decide +kernel
theorem dX2_readFeedItem_34 : decode cX2_readFeedItem 34 = .ok (.istore_n 3, 1) := by decide +kernel
theorem dX2_readFeedItem_35 : decode cX2_readFeedItem 35 = .ok (.iload_n 3, 1) := by decide +kernel
theorem dX2_readFeedItem_36 : decode cX2_readFeedItem 36 = .ok (.sipush 140, 3) := by decide +kernel
theorem dX2_readFeedItem_39 : decode cX2_readFeedItem 39 = .ok (.if_icmp .ge 42, 3) := by decide +kernel
theorem dX2_readFeedItem_42 : decode cX2_readFeedItem 42 = .ok (.aload_n 0, 1) := by decide +kernel
theorem dX2_readFeedItem_43 : decode cX2_readFeedItem 43 = .ok (.aload_n 1, 1) := by decide +kernel
theorem dX2_readFeedItem_44 : decode cX2_readFeedItem 44 = .ok (.iload_n 2, 1) := by decide +kernel
theorem dX2_readFeedItem_45 : decode cX2_readFeedItem 45 = .ok (.invokevirtual 77, 3) := by decide +kernel
theorem dX2_readFeedItem_48 : decode cX2_readFeedItem 48 = .ok (.ifCond .ne 5, 3) := by decide +kernel
theorem dX2_readFeedItem_51 : decode cX2_readFeedItem 51 = .ok (.iconst 0, 1) := by decide +kernel
theorem dX2_readFeedItem_52 : decode cX2_readFeedItem 52 = .ok (.ireturn, 1) := by decide +kernel
theorem dX2_readFeedItem_53 : decode cX2_readFeedItem 53 = .ok (.aload_n 0, 1) := by decide +kernel
theorem dX2_readFeedItem_54 : decode cX2_readFeedItem 54 = .ok (.bipush 59, 2) := by decide +kernel
theorem dX2_readFeedItem_56 : decode cX2_readFeedItem 56 = .ok (.invokevirtual 29, 3) := by decide +kernel
theorem dX2_readFeedItem_59 : decode cX2_readFeedItem 59 = .ok (.ifCond .eq 5, 3) := by decide +kernel
theorem dX2_readFeedItem_62 : decode cX2_readFeedItem 62 = .ok (.iconst 1, 1) := by decide +kernel
theorem dX2_readFeedItem_63 : decode cX2_readFeedItem 63 = .ok (.ireturn, 1) := by decide +kernel
theorem dX2_readFeedItem_64 : decode cX2_readFeedItem 64 = .ok (.aload_n 0, 1) := by decide +kernel
theorem dX2_readFeedItem_65 : decode cX2_readFeedItem 65 = .ok (.bipush 44, 2) := by decide +kernel
theorem dX2_readFeedItem_67 : decode cX2_readFeedItem 67 = .ok (.invokevirtual 29, 3) := by decide +kernel
theorem dX2_readFeedItem_70 : decode cX2_readFeedItem 70 = .ok (.ifCond .ne 5, 3) := by decide +kernel
theorem dX2_readFeedItem_73 : decode cX2_readFeedItem 73 = .ok (.iconst 0, 1) := by decide +kernel
theorem dX2_readFeedItem_74 : decode cX2_readFeedItem 74 = .ok (.ireturn, 1) := by decide +kernel
theorem dX2_readFeedItem_75 : decode cX2_readFeedItem 75 = .ok (.iinc 3 1, 3) := by decide +kernel
theorem dX2_readFeedItem_78 : decode cX2_readFeedItem 78 = .ok (.goto (-43), 3) := by decide +kernel
theorem dX2_readFeedItem_81 : decode cX2_readFeedItem 81 = .ok (.iconst 0, 1) := by decide +kernel
theorem dX2_readFeedItem_82 : decode cX2_readFeedItem 82 = .ok (.ireturn, 1) := by decide +kernel
set_option maxRecDepth 20000 in
theorem ggX2_readSend_X2_readNumber : GoodIn wsX2_readSend wsX2_readNumber := goodIn_r _ [5, 6, 7, 8, 9, 10, 11, 12, 13, 14, 15, 4, 16, 17, 18, 19, 44, 45, 46] (by decide +kernel) (by decide +kernel)
set_option maxRecDepth 20000 in
theorem gX2_readSend_X2_readNumber : GoodIn wsX2_readSend (wsV RX2 39 RX2 yX2_readNumber wsX2_readNumber) := goodIn_app (goodIn_of _ (by decide +kernel)) ggX2_readSend_X2_readNumber
set_option maxRecDepth 20000 in
theorem ggX2_readSend_X2_takes : GoodIn wsX2_readSend wsX2_takes := goodIn_r _ [23, 6, 7, 8, 13, 14, 15, 4, 16, 44, 45, 46] (by decide +kernel) (by decide +kernel)
set_option maxRecDepth 20000 in
theorem gX2_readSend_X2_takes : GoodIn wsX2_readSend (wsV RX2 29 RX2 yX2_takes wsX2_takes) := goodIn_app (goodIn_of _ (by decide +kernel)) ggX2_readSend_X2_takes
set_option maxRecDepth 20000 in
theorem ggX2_readSend_X5_sendIndex : GoodIn wsX2_readSend wsX5_sendIndex := goodIn_r _ [25] (by decide +kernel) (by decide +kernel)
set_option maxRecDepth 20000 in
theorem gX2_readSend_X5_sendIndex_n84 : GoodIn wsX2_readSend (wsX5_sendIndex) := ggX2_readSend_X5_sendIndex
theorem dX2_readSend_0 : decode cX2_readSend 0 = .ok (.aload_n 0, 1) := by decide +kernel
theorem dX2_readSend_1 : decode cX2_readSend 1 = .ok (.bipush 11, 2) := by decide +kernel
theorem dX2_readSend_3 : decode cX2_readSend 3 = .ok (.invokevirtual 39, 3) := by decide +kernel
theorem dX2_readSend_6 : decode cX2_readSend 6 = .ok (.istore_n 3, 1) := by decide +kernel
theorem dX2_readSend_7 : decode cX2_readSend 7 = .ok (.iload_n 3, 1) := by decide +kernel
theorem dX2_readSend_8 : decode cX2_readSend 8 = .ok (.iconst (-1), 1) := by decide +kernel
theorem dX2_readSend_9 : decode cX2_readSend 9 = .ok (.if_icmp .eq 12, 3) := by decide +kernel
theorem dX2_readSend_12 : decode cX2_readSend 12 = .ok (.aload_n 0, 1) := by decide +kernel
theorem dX2_readSend_13 : decode cX2_readSend 13 = .ok (.bipush 61, 2) := by decide +kernel
theorem dX2_readSend_15 : decode cX2_readSend 15 = .ok (.invokevirtual 29, 3) := by decide +kernel
theorem dX2_readSend_18 : decode cX2_readSend 18 = .ok (.ifCond .ne 5, 3) := by decide +kernel
theorem dX2_readSend_21 : decode cX2_readSend 21 = .ok (.iconst 0, 1) := by decide +kernel
theorem dX2_readSend_22 : decode cX2_readSend 22 = .ok (.ireturn, 1) := by decide +kernel
theorem dX2_readSend_23 : decode cX2_readSend 23 = .ok (.aload_n 0, 1) := by decide +kernel
theorem dX2_readSend_24 : decode cX2_readSend 24 = .ok (.bipush 100, 2) := by decide +kernel
theorem dX2_readSend_26 : decode cX2_readSend 26 = .ok (.invokevirtual 39, 3) := by decide +kernel
theorem dX2_readSend_29 : decode cX2_readSend 29 = .ok (.istore 4, 2) := by decide +kernel
theorem dX2_readSend_31 : decode cX2_readSend 31 = .ok (.iload 4, 2) := by decide +kernel
theorem dX2_readSend_33 : decode cX2_readSend 33 = .ok (.iconst (-1), 1) := by decide +kernel
theorem dX2_readSend_34 : decode cX2_readSend 34 = .ok (.if_icmp .ne 5, 3) := by decide +kernel
theorem dX2_readSend_37 : decode cX2_readSend 37 = .ok (.iconst 0, 1) := by decide +kernel
theorem dX2_readSend_38 : decode cX2_readSend 38 = .ok (.ireturn, 1) := by decide +kernel
theorem dX2_readSend_39 : decode cX2_readSend 39 = .ok (.aload_n 1, 1) := by decide +kernel
theorem dX2_readSend_40 : decode cX2_readSend 40 = .ok (.getfield 81, 3) := by decide +kernel
theorem dX2_readSend_43 : decode cX2_readSend 43 = .ok (.iload_n 2, 1) := by decide +kernel
theorem dX2_readSend_44 : decode cX2_readSend 44 = .ok (.iload_n 3, 1) := by decide +kernel
theorem dX2_readSend_45 : decode cX2_readSend 45 = .ok (.invokestatic 84, 3) := by decide +kernel
theorem dX2_readSend_48 : decode cX2_readSend 48 = .ok (.iload 4, 2) := by decide +kernel
theorem dX2_readSend_50 : decode cX2_readSend 50 = .ok (.iastore, 1) := by decide +kernel
theorem dX2_readSend_51 : decode cX2_readSend 51 = .ok (.iconst 1, 1) := by decide +kernel
theorem dX2_readSend_52 : decode cX2_readSend 52 = .ok (.ireturn, 1) := by decide +kernel
set_option maxRecDepth 20000 in
theorem ggX2_readNumber_X2_skipSpaces : GoodIn wsX2_readNumber wsX2_skipSpaces := goodIn_r _ [12, 1, 2, 3, 16, 17, 18] (by decide +kernel) (by decide +kernel)
set_option maxRecDepth 20000 in
theorem gX2_readNumber_X2_skipSpaces : GoodIn wsX2_readNumber (wsV RX2 22 RX2 yX2_skipSpaces wsX2_skipSpaces) := goodIn_app (goodIn_of _ (by decide +kernel)) ggX2_readNumber_X2_skipSpaces
set_option maxRecDepth 20000 in
theorem ggX2_readNumber_X5_isBelow : GoodIn wsX2_readNumber wsX5_isBelow := goodIn_r _ [15] (by decide +kernel) (by decide +kernel)
set_option maxRecDepth 20000 in
theorem gX2_readNumber_X5_isBelow_n74 : GoodIn wsX2_readNumber (wsX5_isBelow) := ggX2_readNumber_X5_isBelow
theorem dX2_readNumber_0 : decode cX2_readNumber 0 = .ok (.aload_n 0, 1) := by decide +kernel
theorem dX2_readNumber_1 : decode cX2_readNumber 1 = .ok (.invokevirtual 22, 3) := by decide +kernel
theorem dX2_readNumber_4 : decode cX2_readNumber 4 = .ok (.aload_n 0, 1) := by decide +kernel
theorem dX2_readNumber_5 : decode cX2_readNumber 5 = .ok (.getfield 19, 3) := by decide +kernel
theorem dX2_readNumber_8 : decode cX2_readNumber 8 = .ok (.istore_n 2, 1) := by decide +kernel
theorem dX2_readNumber_9 : decode cX2_readNumber 9 = .ok (.iconst 0, 1) := by decide +kernel
theorem dX2_readNumber_10 : decode cX2_readNumber 10 = .ok (.istore_n 3, 1) := by decide +kernel
theorem dX2_readNumber_11 : decode cX2_readNumber 11 = .ok (.aload_n 0, 1) := by decide +kernel
theorem dX2_readNumber_12 : decode cX2_readNumber 12 = .ok (.getfield 19, 3) := by decide +kernel
theorem dX2_readNumber_15 : decode cX2_readNumber 15 = .ok (.aload_n 0, 1) := by decide +kernel
theorem dX2_readNumber_16 : decode cX2_readNumber 16 = .ok (.getfield 15, 3) := by decide +kernel
theorem dX2_readNumber_19 : decode cX2_readNumber 19 = .ok (.if_icmp .ge 57, 3) := by decide +kernel
theorem dX2_readNumber_22 : decode cX2_readNumber 22 = .ok (.aload_n 0, 1) := by decide +kernel
theorem dX2_readNumber_23 : decode cX2_readNumber 23 = .ok (.getfield 9, 3) := by decide +kernel
theorem dX2_readNumber_26 : decode cX2_readNumber 26 = .ok (.aload_n 0, 1) := by decide +kernel
theorem dX2_readNumber_27 : decode cX2_readNumber 27 = .ok (.getfield 19, 3) := by decide +kernel
theorem dX2_readNumber_30 : decode cX2_readNumber 30 = .ok (.caload, 1) := by decide +kernel
theorem dX2_readNumber_31 : decode cX2_readNumber 31 = .ok (.bipush 48, 2) := by decide +kernel
theorem dX2_readNumber_33 : decode cX2_readNumber 33 = .ok (.isub, 1) := by decide +kernel
theorem dX2_readNumber_34 : decode cX2_readNumber 34 = .ok (.istore 4, 2) := by decide +kernel
theorem dX2_readNumber_36 : decode cX2_readNumber 36 = .ok (.iload 4, 2) := by decide +kernel
theorem dX2_readNumber_38 : decode cX2_readNumber 38 = .ok (.bipush 10, 2) := by decide +kernel
theorem dX2_readNumber_40 : decode cX2_readNumber 40 = .ok (.invokestatic 74, 3) := by decide +kernel
theorem dX2_readNumber_43 : decode cX2_readNumber 43 = .ok (.ifCond .ne 6, 3) := by decide +kernel
theorem dX2_readNumber_46 : decode cX2_readNumber 46 = .ok (.goto 30, 3) := by decide +kernel
theorem dX2_readNumber_49 : decode cX2_readNumber 49 = .ok (.bipush 10, 2) := by decide +kernel
theorem dX2_readNumber_51 : decode cX2_readNumber 51 = .ok (.iload_n 3, 1) := by decide +kernel
theorem dX2_readNumber_52 : decode cX2_readNumber 52 = .ok (.imul, 1) := by decide +kernel
theorem dX2_readNumber_53 : decode cX2_readNumber 53 = .ok (.iload 4, 2) := by decide +kernel
theorem dX2_readNumber_55 : decode cX2_readNumber 55 = .ok (.iadd, 1) := by decide +kernel
theorem dX2_readNumber_56 : decode cX2_readNumber 56 = .ok (.sipush 9999, 3) := by decide +kernel
theorem dX2_readNumber_59 : decode cX2_readNumber 59 = .ok (.invokestatic 88, 3) := by decide +kernel
theorem dX2_readNumber_62 : decode cX2_readNumber 62 = .ok (.istore_n 3, 1) := by decide +kernel
theorem dX2_readNumber_63 : decode cX2_readNumber 63 = .ok (.aload_n 0, 1) := by decide +kernel
theorem dX2_readNumber_64 : decode cX2_readNumber 64 = .ok (.dup, 1) := by decide +kernel
theorem dX2_readNumber_65 : decode cX2_readNumber 65 = .ok (.getfield 19, 3) := by decide +kernel
theorem dX2_readNumber_68 : decode cX2_readNumber 68 = .ok (.iconst 1, 1) := by decide +kernel
theorem dX2_readNumber_69 : decode cX2_readNumber 69 = .ok (.iadd, 1) := by decide +kernel
theorem dX2_readNumber_70 : decode cX2_readNumber 70 = .ok (.putfield 19, 3) := by decide +kernel
theorem dX2_readNumber_73 : decode cX2_readNumber 73 = .ok (.goto (-62), 3) := by decide +kernel
theorem dX2_readNumber_76 : decode cX2_readNumber 76 = .ok (.aload_n 0, 1) := by decide +kernel
theorem dX2_readNumber_77 : decode cX2_readNumber 77 = .ok (.getfield 19, 3) := by decide +kernel
theorem dX2_readNumber_80 : decode cX2_readNumber 80 = .ok (.iload_n 2, 1) := by decide +kernel
theorem dX2_readNumber_81 : decode cX2_readNumber 81 = .ok (.if_icmp .ne 5, 3) := by decide +kernel
theorem dX2_readNumber_84 : decode cX2_readNumber 84 = .ok (.iconst (-1), 1) := by decide +kernel
theorem dX2_readNumber_85 : decode cX2_readNumber 85 = .ok (.ireturn, 1) := by decide +kernel
theorem dX2_readNumber_86 : decode cX2_readNumber 86 = .ok (.aload_n 0, 1) := by decide +kernel
theorem dX2_readNumber_87 : decode cX2_readNumber 87 = .ok (.getfield 19, 3) := by decide +kernel
theorem dX2_readNumber_90 : decode cX2_readNumber 90 = .ok (.iload_n 2, 1) := by decide +kernel
theorem dX2_readNumber_91 : decode cX2_readNumber 91 = .ok (.isub, 1) := by decide +kernel
theorem dX2_readNumber_92 : decode cX2_readNumber 92 = .ok (.iconst 1, 1) := by decide +kernel
theorem dX2_readNumber_93 : decode cX2_readNumber 93 = .ok (.if_icmp .le 18, 3) := by decide +kernel
theorem dX2_readNumber_96 : decode cX2_readNumber 96 = .ok (.aload_n 0, 1) := by decide +kernel
theorem dX2_readNumber_97 : decode cX2_readNumber 97 = .ok (.getfield 9, 3) := by decide +kernel
theorem dX2_readNumber_100 : decode cX2_readNumber 100 = .ok (.iload_n 2, 1) := by decide +kernel
theorem dX2_readNumber_101 : decode cX2_readNumber 101 = .ok (.caload, 1) := by decide +kernel
theorem dX2_readNumber_102 : decode cX2_readNumber 102 = .ok (.bipush 48, 2) := by decide +kernel
theorem dX2_readNumber_104 : decode cX2_readNumber 104 = .ok (.if_icmp .ne 7, 3) := by decide +kernel
theorem dX2_readNumber_107 : decode cX2_readNumber 107 = .ok (.iconst 1, 1) := by decide +kernel
theorem dX2_readNumber_108 : decode cX2_readNumber 108 = .ok (.goto 4, 3) := by decide +kernel
theorem dX2_readNumber_111 : decode cX2_readNumber 111 = .ok (.iconst 0, 1) := by decide +kernel
theorem dX2_readNumber_112 : decode cX2_readNumber 112 = .ok (.istore 4, 2) := by decide +kernel
theorem dX2_readNumber_114 : decode cX2_readNumber 114 = .ok (.iload_n 3, 1) := by decide +kernel
theorem dX2_readNumber_115 : decode cX2_readNumber 115 = .ok (.iload_n 1, 1) := by decide +kernel
theorem dX2_readNumber_116 : decode cX2_readNumber 116 = .ok (.if_icmp .gt 10, 3) := by decide +kernel
theorem dX2_readNumber_119 : decode cX2_readNumber 119 = .ok (.iload 4, 2) := by decide +kernel
theorem dX2_readNumber_121 : decode cX2_readNumber 121 = .ok (.ifCond .ne 5, 3) := by decide +kernel
theorem dX2_readNumber_124 : decode cX2_readNumber 124 = .ok (.iload_n 3, 1) := by decide +kernel
theorem dX2_readNumber_125 : decode cX2_readNumber 125 = .ok (.ireturn, 1) := by decide +kernel
theorem dX2_readNumber_126 : decode cX2_readNumber 126 = .ok (.aload_n 0, 1) := by decide +kernel
theorem dX2_readNumber_127 : decode cX2_readNumber 127 = .ok (.iload_n 2, 1) := by decide +kernel
theorem dX2_readNumber_128 : decode cX2_readNumber 128 = .ok (.putfield 19, 3) := by decide +kernel
theorem dX2_readNumber_131 : decode cX2_readNumber 131 = .ok (.iconst (-1), 1) := by decide +kernel
theorem dX2_readNumber_132 : decode cX2_readNumber 132 = .ok (.ireturn, 1) := by decide +kernel
set_option maxRecDepth 20000 in
theorem ggX2_takes_X2_skipSpaces : GoodIn wsX2_takes wsX2_skipSpaces := goodIn_r _ [8, 1, 2, 3, 9, 10, 11] (by decide +kernel) (by decide +kernel)
set_option maxRecDepth 20000 in
theorem gX2_takes_X2_skipSpaces : GoodIn wsX2_takes (wsV RX2 22 RX2 yX2_skipSpaces wsX2_skipSpaces) := goodIn_app (goodIn_of _ (by decide +kernel)) ggX2_takes_X2_skipSpaces
theorem dX2_takes_0 : decode cX2_takes 0 = .ok (.aload_n 0, 1) := by decide +kernel
theorem dX2_takes_1 : decode cX2_takes 1 = .ok (.invokevirtual 22, 3) := by decide +kernel
theorem dX2_takes_4 : decode cX2_takes 4 = .ok (.aload_n 0, 1) := by decide +kernel
theorem dX2_takes_5 : decode cX2_takes 5 = .ok (.getfield 19, 3) := by decide +kernel
theorem dX2_takes_8 : decode cX2_takes 8 = .ok (.aload_n 0, 1) := by decide +kernel
theorem dX2_takes_9 : decode cX2_takes 9 = .ok (.getfield 15, 3) := by decide +kernel
theorem dX2_takes_12 : decode cX2_takes 12 = .ok (.if_icmp .ge 16, 3) := by decide +kernel
theorem dX2_takes_15 : decode cX2_takes 15 = .ok (.aload_n 0, 1) := by decide +kernel
theorem dX2_takes_16 : decode cX2_takes 16 = .ok (.getfield 9, 3) := by decide +kernel
theorem dX2_takes_19 : decode cX2_takes 19 = .ok (.aload_n 0, 1) := by decide +kernel
theorem dX2_takes_20 : decode cX2_takes 20 = .ok (.getfield 19, 3) := by decide +kernel
theorem dX2_takes_23 : decode cX2_takes 23 = .ok (.caload, 1) := by decide +kernel
theorem dX2_takes_24 : decode cX2_takes 24 = .ok (.iload_n 1, 1) := by decide +kernel
theorem dX2_takes_25 : decode cX2_takes 25 = .ok (.if_icmp .eq 5, 3) := by decide +kernel
theorem dX2_takes_28 : decode cX2_takes 28 = .ok (.iconst 0, 1) := by decide +kernel
theorem dX2_takes_29 : decode cX2_takes 29 = .ok (.ireturn, 1) := by decide +kernel
theorem dX2_takes_30 : decode cX2_takes 30 = .ok (.aload_n 0, 1) := by decide +kernel
theorem dX2_takes_31 : decode cX2_takes 31 = .ok (.dup, 1) := by decide +kernel
theorem dX2_takes_32 : decode cX2_takes 32 = .ok (.getfield 19, 3) := by decide +kernel
theorem dX2_takes_35 : decode cX2_takes 35 = .ok (.iconst 1, 1) := by decide +kernel
theorem dX2_takes_36 : decode cX2_takes 36 = .ok (.iadd, 1) := by decide +kernel
theorem dX2_takes_37 : decode cX2_takes 37 = .ok (.putfield 19, 3) := by decide +kernel
theorem dX2_takes_40 : decode cX2_takes 40 = .ok (.iconst 1, 1) := by decide +kernel
theorem dX2_takes_41 : decode cX2_takes 41 = .ok (.ireturn, 1) := by decide +kernel
theorem dX2_skipSpaces_0 : decode cX2_skipSpaces 0 = .ok (.aload_n 0, 1) := by decide +kernel
theorem dX2_skipSpaces_1 : decode cX2_skipSpaces 1 = .ok (.getfield 19, 3) := by decide +kernel
theorem dX2_skipSpaces_4 : decode cX2_skipSpaces 4 = .ok (.aload_n 0, 1) := by decide +kernel
theorem dX2_skipSpaces_5 : decode cX2_skipSpaces 5 = .ok (.getfield 15, 3) := by decide +kernel
theorem dX2_skipSpaces_8 : decode cX2_skipSpaces 8 = .ok (.if_icmp .ge 30, 3) := by decide +kernel
theorem dX2_skipSpaces_11 : decode cX2_skipSpaces 11 = .ok (.aload_n 0, 1) := by decide +kernel
theorem dX2_skipSpaces_12 : decode cX2_skipSpaces 12 = .ok (.getfield 9, 3) := by decide +kernel
theorem dX2_skipSpaces_15 : decode cX2_skipSpaces 15 = .ok (.aload_n 0, 1) := by decide +kernel
theorem dX2_skipSpaces_16 : decode cX2_skipSpaces 16 = .ok (.getfield 19, 3) := by decide +kernel
theorem dX2_skipSpaces_19 : decode cX2_skipSpaces 19 = .ok (.caload, 1) := by decide +kernel
theorem dX2_skipSpaces_20 : decode cX2_skipSpaces 20 = .ok (.bipush 32, 2) := by decide +kernel
theorem dX2_skipSpaces_22 : decode cX2_skipSpaces 22 = .ok (.if_icmp .ne 16, 3) := by decide +kernel
theorem dX2_skipSpaces_25 : decode cX2_skipSpaces 25 = .ok (.aload_n 0, 1) := by decide +kernel
theorem dX2_skipSpaces_26 : decode cX2_skipSpaces 26 = .ok (.dup, 1) := by decide +kernel
theorem dX2_skipSpaces_27 : decode cX2_skipSpaces 27 = .ok (.getfield 19, 3) := by decide +kernel
theorem dX2_skipSpaces_30 : decode cX2_skipSpaces 30 = .ok (.iconst 1, 1) := by decide +kernel
theorem dX2_skipSpaces_31 : decode cX2_skipSpaces 31 = .ok (.iadd, 1) := by decide +kernel
theorem dX2_skipSpaces_32 : decode cX2_skipSpaces 32 = .ok (.putfield 19, 3) := by decide +kernel
theorem dX2_skipSpaces_35 : decode cX2_skipSpaces 35 = .ok (.goto (-35), 3) := by decide +kernel
theorem dX2_skipSpaces_38 : decode cX2_skipSpaces 38 = .ok (.return_, 1) := by decide +kernel
theorem dX3_init_0 : decode cX3_init 0 = .ok (.aload_n 0, 1) := by decide +kernel
theorem dX3_init_1 : decode cX3_init 1 = .ok (.invokespecial 3, 3) := by decide +kernel
theorem dX3_init_4 : decode cX3_init 4 = .ok (.aload_n 0, 1) := by decide +kernel
theorem dX3_init_5 : decode cX3_init 5 = .ok (.bipush 12, 2) := by decide +kernel
theorem dX3_init_7 : decode cX3_init 7 = .ok (.newarray .int, 2) := by decide +kernel
theorem dX3_init_9 : decode cX3_init 9 = .ok (.putfield 9, 3) := by decide +kernel
theorem dX3_init_12 : decode cX3_init 12 = .ok (.aload_n 0, 1) := by decide +kernel
theorem dX3_init_13 : decode cX3_init 13 = .ok (.bipush 12, 2) := by decide +kernel
theorem dX3_init_15 : decode cX3_init 15 = .ok (.newarray .int, 2) := by decide +kernel
theorem dX3_init_17 : decode cX3_init 17 = .ok (.putfield 15, 3) := by decide +kernel
theorem dX3_init_20 : decode cX3_init 20 = .ok (.aload_n 0, 1) := by decide +kernel
theorem dX3_init_21 : decode cX3_init 21 = .ok (.iconst 4, 1) := by decide +kernel
theorem dX3_init_22 : decode cX3_init 22 = .ok (.newarray .int, 2) := by decide +kernel
theorem dX3_init_24 : decode cX3_init 24 = .ok (.putfield 18, 3) := by decide +kernel
theorem dX3_init_27 : decode cX3_init 27 = .ok (.aload_n 0, 1) := by decide +kernel
theorem dX3_init_28 : decode cX3_init 28 = .ok (.aload_n 1, 1) := by decide +kernel
theorem dX3_init_29 : decode cX3_init 29 = .ok (.putfield 21, 3) := by decide +kernel
theorem dX3_init_32 : decode cX3_init 32 = .ok (.return_, 1) := by decide +kernel
set_option maxRecDepth 20000 in
theorem ggX3_survey_X4_gainOf : GoodIn wsX3_survey wsX4_gainOf := goodIn_r _ [7, 8, 9, 10, 6, 11, 12, 13, 14, 15, 16, 17, 18, 19, 20, 21, 22, 23, 24, 25, 26, 27, 28, 29, 30, 31, 36, 37, 38, 39, 40, 41, 42, 43, 44, 45, 46, 47, 48, 49, 50, 51, 52, 53] (by decide +kernel) (by decide +kernel)
set_option maxRecDepth 20000 in
theorem gX3_survey_X4_gainOf : GoodIn wsX3_survey (wsV RX3 25 RX4 yX4_gainOf wsX4_gainOf) := goodIn_app (goodIn_of _ (by decide +kernel)) ggX3_survey_X4_gainOf
theorem dX3_survey_0 : decode cX3_survey 0 = .ok (.iconst 0, 1) := by decide +kernel
theorem dX3_survey_1 : decode cX3_survey 1 = .ok (.istore_n 1, 1) := by decide +kernel
theorem dX3_survey_2 : decode cX3_survey 2 = .ok (.iload_n 1, 1) := by decide +kernel
theorem dX3_survey_3 : decode cX3_survey 3 = .ok (.bipush 12, 2) := by decide +kernel
theorem dX3_survey_5 : decode cX3_survey 5 = .ok (.if_icmp .ge 53, 3) := by decide +kernel
theorem dX3_survey_8 : decode cX3_survey 8 = .ok (.aload_n 0, 1) := by decide +kernel
theorem dX3_survey_9 : decode cX3_survey 9 = .ok (.getfield 9, 3) := by decide +kernel
theorem dX3_survey_12 : decode cX3_survey 12 = .ok (.iload_n 1, 1) := by decide +kernel
theorem dX3_survey_13 : decode cX3_survey 13 = .ok (.iconst 0, 1) := by decide +kernel
theorem dX3_survey_14 : decode cX3_survey 14 = .ok (.iastore, 1) := by decide +kernel
theorem dX3_survey_15 : decode cX3_survey 15 = .ok (.iconst 0, 1) := by decide +kernel
theorem dX3_survey_16 : decode cX3_survey 16 = .ok (.istore_n 2, 1) := by decide +kernel
theorem dX3_survey_17 : decode cX3_survey 17 = .ok (.iload_n 2, 1) := by decide +kernel
theorem dX3_survey_18 : decode cX3_survey 18 = .ok (.iconst 4, 1) := by decide +kernel
theorem dX3_survey_19 : decode cX3_survey 19 = .ok (.if_icmp .ge 33, 3) := by decide +kernel
theorem dX3_survey_22 : decode cX3_survey 22 = .ok (.aload_n 0, 1) := by decide +kernel
theorem dX3_survey_23 : decode cX3_survey 23 = .ok (.getfield 21, 3) := by decide +kernel
theorem dX3_survey_26 : decode cX3_survey 26 = .ok (.iload_n 2, 1) := by decide +kernel
theorem dX3_survey_27 : decode cX3_survey 27 = .ok (.iload_n 1, 1) := by decide +kernel
theorem dX3_survey_28 : decode cX3_survey 28 = .ok (.invokevirtual 25, 3) := by decide +kernel
theorem dX3_survey_31 : decode cX3_survey 31 = .ok (.ifCond .le 15, 3) := by decide +kernel
theorem dX3_survey_34 : decode cX3_survey 34 = .ok (.aload_n 0, 1) := by decide +kernel
theorem dX3_survey_35 : decode cX3_survey 35 = .ok (.getfield 9, 3) := by decide +kernel
theorem dX3_survey_38 : decode cX3_survey 38 = .ok (.iload_n 1, 1) := by decide +kernel
theorem dX3_survey_39 : decode cX3_survey 39 = .ok (.dup2, 1) := by decide +kernel
theorem dX3_survey_40 : decode cX3_survey 40 = .ok (.iaload, 1) := by decide +kernel
theorem dX3_survey_41 : decode cX3_survey 41 = .ok (.iconst 1, 1) := by decide +kernel
theorem dX3_survey_42 : decode cX3_survey 42 = .ok (.iload_n 2, 1) := by decide +kernel
theorem dX3_survey_43 : decode cX3_survey 43 = .ok (.ishl, 1) := by decide +kernel
theorem dX3_survey_44 : decode cX3_survey 44 = .ok (.ior, 1) := by decide +kernel
theorem dX3_survey_45 : decode cX3_survey 45 = .ok (.iastore, 1) := by decide +kernel
theorem dX3_survey_46 : decode cX3_survey 46 = .ok (.iinc 2 1, 3) := by decide +kernel
theorem dX3_survey_49 : decode cX3_survey 49 = .ok (.goto (-32), 3) := by decide +kernel
theorem dX3_survey_52 : decode cX3_survey 52 = .ok (.iinc 1 1, 3) := by decide +kernel
theorem dX3_survey_55 : decode cX3_survey 55 = .ok (.goto (-53), 3) := by decide +kernel
theorem dX3_survey_58 : decode cX3_survey 58 = .ok (.return_, 1) := by decide +kernel
set_option maxRecDepth 20000 in
theorem ggX3_feedsFrom_X5_hasBit : GoodIn wsX3_feedsFrom wsX5_hasBit := goodIn_r _ [5] (by decide +kernel) (by decide +kernel)
set_option maxRecDepth 20000 in
theorem gX3_feedsFrom_X5_hasBit_n34 : GoodIn wsX3_feedsFrom (wsX5_hasBit) := ggX3_feedsFrom_X5_hasBit
theorem dX3_feedsFrom_0 : decode cX3_feedsFrom 0 = .ok (.aload_n 0, 1) := by decide +kernel
theorem dX3_feedsFrom_1 : decode cX3_feedsFrom 1 = .ok (.getfield 9, 3) := by decide +kernel
theorem dX3_feedsFrom_4 : decode cX3_feedsFrom 4 = .ok (.iload_n 1, 1) := by decide +kernel
theorem dX3_feedsFrom_5 : decode cX3_feedsFrom 5 = .ok (.iaload, 1) := by decide +kernel
theorem dX3_feedsFrom_6 : decode cX3_feedsFrom 6 = .ok (.istore_n 2, 1) := by decide +kernel
theorem dX3_feedsFrom_7 : decode cX3_feedsFrom 7 = .ok (.iconst 2, 1) := by decide +kernel
theorem dX3_feedsFrom_8 : decode cX3_feedsFrom 8 = .ok (.istore_n 3, 1) := by decide +kernel
theorem dX3_feedsFrom_9 : decode cX3_feedsFrom 9 = .ok (.iload_n 3, 1) := by decide +kernel
theorem dX3_feedsFrom_10 : decode cX3_feedsFrom 10 = .ok (.iconst 4, 1) := by decide +kernel
theorem dX3_feedsFrom_11 : decode cX3_feedsFrom 11 = .ok (.if_icmp .gt 60, 3) := by decide +kernel
theorem dX3_feedsFrom_14 : decode cX3_feedsFrom 14 = .ok (.iconst 0, 1) := by decide +kernel
theorem dX3_feedsFrom_15 : decode cX3_feedsFrom 15 = .ok (.istore 4, 2) := by decide +kernel
theorem dX3_feedsFrom_17 : decode cX3_feedsFrom 17 = .ok (.iload 4, 2) := by decide +kernel
theorem dX3_feedsFrom_19 : decode cX3_feedsFrom 19 = .ok (.iconst 4, 1) := by decide +kernel
theorem dX3_feedsFrom_20 : decode cX3_feedsFrom 20 = .ok (.if_icmp .ge 45, 3) := by decide +kernel
theorem dX3_feedsFrom_23 : decode cX3_feedsFrom 23 = .ok (.aload_n 0, 1) := by decide +kernel
theorem dX3_feedsFrom_24 : decode cX3_feedsFrom 24 = .ok (.getfield 21, 3) := by decide +kernel
theorem dX3_feedsFrom_27 : decode cX3_feedsFrom 27 = .ok (.getfield 31, 3) := by decide +kernel
theorem dX3_feedsFrom_30 : decode cX3_feedsFrom 30 = .ok (.iload 4, 2) := by decide +kernel
theorem dX3_feedsFrom_32 : decode cX3_feedsFrom 32 = .ok (.iaload, 1) := by decide +kernel
theorem dX3_feedsFrom_33 : decode cX3_feedsFrom 33 = .ok (.istore 5, 2) := by decide +kernel
theorem dX3_feedsFrom_35 : decode cX3_feedsFrom 35 = .ok (.iload_n 2, 1) := by decide +kernel
theorem dX3_feedsFrom_36 : decode cX3_feedsFrom 36 = .ok (.iload 4, 2) := by decide +kernel
theorem dX3_feedsFrom_38 : decode cX3_feedsFrom 38 = .ok (.invokestatic 34, 3) := by decide +kernel
theorem dX3_feedsFrom_41 : decode cX3_feedsFrom 41 = .ok (.ifCond .eq 18, 3) := by decide +kernel
theorem dX3_feedsFrom_44 : decode cX3_feedsFrom 44 = .ok (.iload 5, 2) := by decide +kernel
theorem dX3_feedsFrom_46 : decode cX3_feedsFrom 46 = .ok (.ifCond .lt 13, 3) := by decide +kernel
theorem dX3_feedsFrom_49 : decode cX3_feedsFrom 49 = .ok (.iload_n 2, 1) := by decide +kernel
theorem dX3_feedsFrom_50 : decode cX3_feedsFrom 50 = .ok (.aload_n 0, 1) := by decide +kernel
theorem dX3_feedsFrom_51 : decode cX3_feedsFrom 51 = .ok (.getfield 9, 3) := by decide +kernel
theorem dX3_feedsFrom_54 : decode cX3_feedsFrom 54 = .ok (.iload 5, 2) := by decide +kernel
theorem dX3_feedsFrom_56 : decode cX3_feedsFrom 56 = .ok (.iaload, 1) := by decide +kernel
theorem dX3_feedsFrom_57 : decode cX3_feedsFrom 57 = .ok (.ior, 1) := by decide +kernel
theorem dX3_feedsFrom_58 : decode cX3_feedsFrom 58 = .ok (.istore_n 2, 1) := by decide +kernel
theorem dX3_feedsFrom_59 : decode cX3_feedsFrom 59 = .ok (.iinc 4 1, 3) := by decide +kernel
theorem dX3_feedsFrom_62 : decode cX3_feedsFrom 62 = .ok (.goto (-45), 3) := by decide +kernel
theorem dX3_feedsFrom_65 : decode cX3_feedsFrom 65 = .ok (.iinc 3 1, 3) := by decide +kernel
theorem dX3_feedsFrom_68 : decode cX3_feedsFrom 68 = .ok (.goto (-59), 3) := by decide +kernel
theorem dX3_feedsFrom_71 : decode cX3_feedsFrom 71 = .ok (.iload_n 2, 1) := by decide +kernel
theorem dX3_feedsFrom_72 : decode cX3_feedsFrom 72 = .ok (.ireturn, 1) := by decide +kernel
set_option maxRecDepth 20000 in
theorem ggX3_feedsHearingBack_X3_feedsFrom : GoodIn wsX3_feedsHearingBack wsX3_feedsFrom := goodIn_r _ [6, 7, 1, 8, 9, 10, 11, 12, 13, 14, 15, 16, 17, 18, 19, 20, 21, 22, 23, 24, 25, 26, 27, 28, 29, 30, 31, 32] (by decide +kernel) (by decide +kernel)
set_option maxRecDepth 20000 in
theorem gX3_feedsHearingBack_X3_feedsFrom : GoodIn wsX3_feedsHearingBack (wsV RX3 38 RX3 yX3_feedsFrom wsX3_feedsFrom) := goodIn_app (goodIn_of _ (by decide +kernel)) ggX3_feedsHearingBack_X3_feedsFrom
set_option maxRecDepth 20000 in
theorem ggX3_feedsHearingBack_X5_hasBit : GoodIn wsX3_feedsHearingBack wsX5_hasBit := goodIn_r _ [10] (by decide +kernel) (by decide +kernel)
set_option maxRecDepth 20000 in
theorem gX3_feedsHearingBack_X5_hasBit_n34 : GoodIn wsX3_feedsHearingBack (wsX5_hasBit) := ggX3_feedsHearingBack_X5_hasBit
theorem dX3_feedsHearingBack_0 : decode cX3_feedsHearingBack 0 = .ok (.iconst 0, 1) := by decide +kernel
theorem dX3_feedsHearingBack_1 : decode cX3_feedsHearingBack 1 = .ok (.istore_n 1, 1) := by decide +kernel
theorem dX3_feedsHearingBack_2 : decode cX3_feedsHearingBack 2 = .ok (.iconst 0, 1) := by decide +kernel
theorem dX3_feedsHearingBack_3 : decode cX3_feedsHearingBack 3 = .ok (.istore_n 2, 1) := by decide +kernel
theorem dX3_feedsHearingBack_4 : decode cX3_feedsHearingBack 4 = .ok (.iload_n 2, 1) := by decide +kernel
theorem dX3_feedsHearingBack_5 : decode cX3_feedsHearingBack 5 = .ok (.iconst 4, 1) := by decide +kernel
theorem dX3_feedsHearingBack_6 : decode cX3_feedsHearingBack 6 = .ok (.if_icmp .ge 41, 3) := by decide +kernel
theorem dX3_feedsHearingBack_9 : decode cX3_feedsHearingBack 9 = .ok (.aload_n 0, 1) := by decide +kernel
theorem dX3_feedsHearingBack_10 : decode cX3_feedsHearingBack 10 = .ok (.getfield 21, 3) := by decide +kernel
theorem dX3_feedsHearingBack_13 : decode cX3_feedsHearingBack 13 = .ok (.getfield 31, 3) := by decide +kernel
theorem dX3_feedsHearingBack_16 : decode cX3_feedsHearingBack 16 = .ok (.iload_n 2, 1) := by decide +kernel
theorem dX3_feedsHearingBack_17 : decode cX3_feedsHearingBack 17 = .ok (.iaload, 1) := by decide +kernel
theorem dX3_feedsHearingBack_18 : decode cX3_feedsHearingBack 18 = .ok (.istore_n 3, 1) := by decide +kernel
theorem dX3_feedsHearingBack_19 : decode cX3_feedsHearingBack 19 = .ok (.iload_n 3, 1) := by decide +kernel
theorem dX3_feedsHearingBack_20 : decode cX3_feedsHearingBack 20 = .ok (.ifCond .lt 21, 3) := by decide +kernel
theorem dX3_feedsHearingBack_23 : decode cX3_feedsHearingBack 23 = .ok (.aload_n 0, 1) := by decide +kernel
theorem dX3_feedsHearingBack_24 : decode cX3_feedsHearingBack 24 = .ok (.iload_n 3, 1) := by decide +kernel
theorem dX3_feedsHearingBack_25 : decode cX3_feedsHearingBack 25 = .ok (.invokevirtual 38, 3) := by decide +kernel
theorem dX3_feedsHearingBack_28 : decode cX3_feedsHearingBack 28 = .ok (.iload_n 2, 1) := by decide +kernel
theorem dX3_feedsHearingBack_29 : decode cX3_feedsHearingBack 29 = .ok (.invokestatic 34, 3) := by decide +kernel
theorem dX3_feedsHearingBack_32 : decode cX3_feedsHearingBack 32 = .ok (.ifCond .eq 9, 3) := by decide +kernel
theorem dX3_feedsHearingBack_35 : decode cX3_feedsHearingBack 35 = .ok (.iload_n 1, 1) := by decide +kernel
theorem dX3_feedsHearingBack_36 : decode cX3_feedsHearingBack 36 = .ok (.iconst 1, 1) := by decide +kernel
theorem dX3_feedsHearingBack_37 : decode cX3_feedsHearingBack 37 = .ok (.iload_n 2, 1) := by decide +kernel
theorem dX3_feedsHearingBack_38 : decode cX3_feedsHearingBack 38 = .ok (.ishl, 1) := by decide +kernel
theorem dX3_feedsHearingBack_39 : decode cX3_feedsHearingBack 39 = .ok (.ior, 1) := by decide +kernel
theorem dX3_feedsHearingBack_40 : decode cX3_feedsHearingBack 40 = .ok (.istore_n 1, 1) := by decide +kernel
theorem dX3_feedsHearingBack_41 : decode cX3_feedsHearingBack 41 = .ok (.iinc 2 1, 3) := by decide +kernel
theorem dX3_feedsHearingBack_44 : decode cX3_feedsHearingBack 44 = .ok (.goto (-40), 3) := by decide +kernel
theorem dX3_feedsHearingBack_47 : decode cX3_feedsHearingBack 47 = .ok (.iload_n 1, 1) := by decide +kernel
theorem dX3_feedsHearingBack_48 : decode cX3_feedsHearingBack 48 = .ok (.ireturn, 1) := by decide +kernel
set_option maxRecDepth 20000 in
theorem ggX3_ownersHearing_X5_hasBit : GoodIn wsX3_ownersHearing wsX5_hasBit := goodIn_r _ [4] (by decide +kernel) (by decide +kernel)
set_option maxRecDepth 20000 in
theorem gX3_ownersHearing_X5_hasBit_n34 : GoodIn wsX3_ownersHearing (wsX5_hasBit) := ggX3_ownersHearing_X5_hasBit
set_option maxRecDepth 20000 in
theorem ggX3_ownersHearing_X3_feedsFrom : GoodIn wsX3_ownersHearing wsX3_feedsFrom := goodIn_r _ [9, 10, 1, 2, 3, 4, 11, 12, 13, 14, 15, 16, 17, 18, 19, 20, 21, 22, 23, 24, 25, 26, 27, 28, 29, 30, 31, 32] (by decide +kernel) (by decide +kernel)
set_option maxRecDepth 20000 in
theorem gX3_ownersHearing_X3_feedsFrom : GoodIn wsX3_ownersHearing (wsV RX3 38 RX3 yX3_feedsFrom wsX3_feedsFrom) := goodIn_app (goodIn_of _ (by decide +kernel)) ggX3_ownersHearing_X3_feedsFrom
theorem dX3_ownersHearing_0 : decode cX3_ownersHearing 0 = .ok (.iconst 0, 1) := by decide +kernel
theorem dX3_ownersHearing_1 : decode cX3_ownersHearing 1 = .ok (.istore_n 2, 1) := by decide +kernel
theorem dX3_ownersHearing_2 : decode cX3_ownersHearing 2 = .ok (.iconst 0, 1) := by decide +kernel
theorem dX3_ownersHearing_3 : decode cX3_ownersHearing 3 = .ok (.istore_n 3, 1) := by decide +kernel
theorem dX3_ownersHearing_4 : decode cX3_ownersHearing 4 = .ok (.iload_n 3, 1) := by decide +kernel
theorem dX3_ownersHearing_5 : decode cX3_ownersHearing 5 = .ok (.bipush 12, 2) := by decide +kernel
theorem dX3_ownersHearing_7 : decode cX3_ownersHearing 7 = .ok (.if_icmp .ge 47, 3) := by decide +kernel
theorem dX3_ownersHearing_10 : decode cX3_ownersHearing 10 = .ok (.aload_n 0, 1) := by decide +kernel
theorem dX3_ownersHearing_11 : decode cX3_ownersHearing 11 = .ok (.getfield 21, 3) := by decide +kernel
theorem dX3_ownersHearing_14 : decode cX3_ownersHearing 14 = .ok (.getfield 42, 3) := by decide +kernel
theorem dX3_ownersHearing_17 : decode cX3_ownersHearing 17 = .ok (.iload_n 1, 1) := by decide +kernel
theorem dX3_ownersHearing_18 : decode cX3_ownersHearing 18 = .ok (.iaload, 1) := by decide +kernel
theorem dX3_ownersHearing_19 : decode cX3_ownersHearing 19 = .ok (.iload_n 3, 1) := by decide +kernel
theorem dX3_ownersHearing_20 : decode cX3_ownersHearing 20 = .ok (.invokestatic 34, 3) := by decide +kernel
theorem dX3_ownersHearing_23 : decode cX3_ownersHearing 23 = .ok (.istore 4, 2) := by decide +kernel
theorem dX3_ownersHearing_25 : decode cX3_ownersHearing 25 = .ok (.iload 4, 2) := by decide +kernel
theorem dX3_ownersHearing_27 : decode cX3_ownersHearing 27 = .ok (.ifCond .eq 21, 3) := by decide +kernel
theorem dX3_ownersHearing_30 : decode cX3_ownersHearing 30 = .ok (.aload_n 0, 1) := by decide +kernel
theorem dX3_ownersHearing_31 : decode cX3_ownersHearing 31 = .ok (.iload_n 3, 1) := by decide +kernel
theorem dX3_ownersHearing_32 : decode cX3_ownersHearing 32 = .ok (.invokevirtual 38, 3) := by decide +kernel
theorem dX3_ownersHearing_35 : decode cX3_ownersHearing 35 = .ok (.iload_n 1, 1) := by decide +kernel
theorem dX3_ownersHearing_36 : decode cX3_ownersHearing 36 = .ok (.invokestatic 34, 3) := by decide +kernel
theorem dX3_ownersHearing_39 : decode cX3_ownersHearing 39 = .ok (.ifCond .eq 9, 3) := by decide +kernel
theorem dX3_ownersHearing_42 : decode cX3_ownersHearing 42 = .ok (.iload_n 2, 1) := by decide +kernel
theorem dX3_ownersHearing_43 : decode cX3_ownersHearing 43 = .ok (.iconst 1, 1) := by decide +kernel
theorem dX3_ownersHearing_44 : decode cX3_ownersHearing 44 = .ok (.iload_n 3, 1) := by decide +kernel
theorem dX3_ownersHearing_45 : decode cX3_ownersHearing 45 = .ok (.ishl, 1) := by decide +kernel
theorem dX3_ownersHearing_46 : decode cX3_ownersHearing 46 = .ok (.ior, 1) := by decide +kernel
theorem dX3_ownersHearing_47 : decode cX3_ownersHearing 47 = .ok (.istore_n 2, 1) := by decide +kernel
theorem dX3_ownersHearing_48 : decode cX3_ownersHearing 48 = .ok (.iinc 3 1, 3) := by decide +kernel
theorem dX3_ownersHearing_51 : decode cX3_ownersHearing 51 = .ok (.goto (-47), 3) := by decide +kernel
theorem dX3_ownersHearing_54 : decode cX3_ownersHearing 54 = .ok (.iload_n 2, 1) := by decide +kernel
theorem dX3_ownersHearing_55 : decode cX3_ownersHearing 55 = .ok (.ireturn, 1) := by decide +kernel
set_option maxRecDepth 20000 in
theorem ggX3_sendToCut_X5_hasBit : GoodIn wsX3_sendToCut wsX5_hasBit := goodIn_r _ [4] (by decide +kernel) (by decide +kernel)
set_option maxRecDepth 20000 in
theorem gX3_sendToCut_X5_hasBit_n34 : GoodIn wsX3_sendToCut (wsX5_hasBit) := ggX3_sendToCut_X5_hasBit
set_option maxRecDepth 20000 in
theorem ggX3_sendToCut_X3_isSilentWithout : GoodIn wsX3_sendToCut wsX3_isSilentWithout := goodIn_r _ [9, 1, 10, 3, 11, 12, 13, 14, 8, 15, 16, 2, 4, 17, 18, 19, 20, 21, 22, 23, 24, 25, 26, 27, 28, 29, 30, 31, 32, 33, 34, 35, 36, 37, 38, 39, 40, 41, 42] (by decide +kernel) (by decide +kernel)
set_option maxRecDepth 20000 in
theorem gX3_sendToCut_X3_isSilentWithout : GoodIn wsX3_sendToCut (wsV RX3 45 RX3 yX3_isSilentWithout wsX3_isSilentWithout) := goodIn_app (goodIn_of _ (by decide +kernel)) ggX3_sendToCut_X3_isSilentWithout
theorem dX3_sendToCut_0 : decode cX3_sendToCut 0 = .ok (.iconst 0, 1) := by decide +kernel
theorem dX3_sendToCut_1 : decode cX3_sendToCut 1 = .ok (.istore_n 2, 1) := by decide +kernel
theorem dX3_sendToCut_2 : decode cX3_sendToCut 2 = .ok (.iload_n 2, 1) := by decide +kernel
theorem dX3_sendToCut_3 : decode cX3_sendToCut 3 = .ok (.iconst 4, 1) := by decide +kernel
theorem dX3_sendToCut_4 : decode cX3_sendToCut 4 = .ok (.if_icmp .ge 53, 3) := by decide +kernel
theorem dX3_sendToCut_7 : decode cX3_sendToCut 7 = .ok (.iconst 0, 1) := by decide +kernel
theorem dX3_sendToCut_8 : decode cX3_sendToCut 8 = .ok (.istore_n 3, 1) := by decide +kernel
theorem dX3_sendToCut_9 : decode cX3_sendToCut 9 = .ok (.iload_n 3, 1) := by decide +kernel
theorem dX3_sendToCut_10 : decode cX3_sendToCut 10 = .ok (.bipush 12, 2) := by decide +kernel
theorem dX3_sendToCut_12 : decode cX3_sendToCut 12 = .ok (.if_icmp .ge 39, 3) := by decide +kernel
theorem dX3_sendToCut_15 : decode cX3_sendToCut 15 = .ok (.aload_n 0, 1) := by decide +kernel
theorem dX3_sendToCut_16 : decode cX3_sendToCut 16 = .ok (.getfield 9, 3) := by decide +kernel
theorem dX3_sendToCut_19 : decode cX3_sendToCut 19 = .ok (.iload_n 3, 1) := by decide +kernel
theorem dX3_sendToCut_20 : decode cX3_sendToCut 20 = .ok (.iaload, 1) := by decide +kernel
theorem dX3_sendToCut_21 : decode cX3_sendToCut 21 = .ok (.iload_n 2, 1) := by decide +kernel
theorem dX3_sendToCut_22 : decode cX3_sendToCut 22 = .ok (.invokestatic 34, 3) := by decide +kernel
theorem dX3_sendToCut_25 : decode cX3_sendToCut 25 = .ok (.ifCond .eq 20, 3) := by decide +kernel
theorem dX3_sendToCut_28 : decode cX3_sendToCut 28 = .ok (.aload_n 0, 1) := by decide +kernel
theorem dX3_sendToCut_29 : decode cX3_sendToCut 29 = .ok (.iload_n 2, 1) := by decide +kernel
theorem dX3_sendToCut_30 : decode cX3_sendToCut 30 = .ok (.iload_n 3, 1) := by decide +kernel
theorem dX3_sendToCut_31 : decode cX3_sendToCut 31 = .ok (.iload_n 1, 1) := by decide +kernel
theorem dX3_sendToCut_32 : decode cX3_sendToCut 32 = .ok (.invokevirtual 45, 3) := by decide +kernel
theorem dX3_sendToCut_35 : decode cX3_sendToCut 35 = .ok (.ifCond .eq 10, 3) := by decide +kernel
theorem dX3_sendToCut_38 : decode cX3_sendToCut 38 = .ok (.bipush 100, 2) := by decide +kernel
theorem dX3_sendToCut_40 : decode cX3_sendToCut 40 = .ok (.iload_n 2, 1) := by decide +kernel
theorem dX3_sendToCut_41 : decode cX3_sendToCut 41 = .ok (.imul, 1) := by decide +kernel
theorem dX3_sendToCut_42 : decode cX3_sendToCut 42 = .ok (.iload_n 3, 1) := by decide +kernel
theorem dX3_sendToCut_43 : decode cX3_sendToCut 43 = .ok (.iadd, 1) := by decide +kernel
theorem dX3_sendToCut_44 : decode cX3_sendToCut 44 = .ok (.ireturn, 1) := by decide +kernel
theorem dX3_sendToCut_45 : decode cX3_sendToCut 45 = .ok (.iinc 3 1, 3) := by decide +kernel
theorem dX3_sendToCut_48 : decode cX3_sendToCut 48 = .ok (.goto (-39), 3) := by decide +kernel
theorem dX3_sendToCut_51 : decode cX3_sendToCut 51 = .ok (.iinc 2 1, 3) := by decide +kernel
theorem dX3_sendToCut_54 : decode cX3_sendToCut 54 = .ok (.goto (-52), 3) := by decide +kernel
theorem dX3_sendToCut_57 : decode cX3_sendToCut 57 = .ok (.bipush (-99), 2) := by decide +kernel
theorem dX3_sendToCut_59 : decode cX3_sendToCut 59 = .ok (.ireturn, 1) := by decide +kernel
set_option maxRecDepth 20000 in
theorem ggX3_isSilentWithout_X5_withBit : GoodIn wsX3_isSilentWithout wsX5_withBit := goodIn_r _ [4] (by decide +kernel) (by decide +kernel)
set_option maxRecDepth 20000 in
theorem gX3_isSilentWithout_X5_withBit_n49 : GoodIn wsX3_isSilentWithout (wsX5_withBit) := ggX3_isSilentWithout_X5_withBit
set_option maxRecDepth 20000 in
theorem ggX3_isSilentWithout_X3_ownersHearing : GoodIn wsX3_isSilentWithout wsX3_ownersHearing := goodIn_r _ [9, 10, 11, 3, 12, 13, 14, 15, 8, 16, 1, 17, 18, 19, 20, 21, 22, 23, 24, 25, 26, 27, 28, 29, 30, 31, 32, 33, 34, 35, 36, 37, 38] (by decide +kernel) (by decide +kernel)
set_option maxRecDepth 20000 in
theorem gX3_isSilentWithout_X3_ownersHearing : GoodIn wsX3_isSilentWithout (wsV RX3 53 RX3 yX3_ownersHearing wsX3_ownersHearing) := goodIn_app (goodIn_of _ (by decide +kernel)) ggX3_isSilentWithout_X3_ownersHearing
theorem dX3_isSilentWithout_0 : decode cX3_isSilentWithout 0 = .ok (.aload_n 0, 1) := by decide +kernel
theorem dX3_isSilentWithout_1 : decode cX3_isSilentWithout 1 = .ok (.getfield 9, 3) := by decide +kernel
theorem dX3_isSilentWithout_4 : decode cX3_isSilentWithout 4 = .ok (.iload_n 2, 1) := by decide +kernel
theorem dX3_isSilentWithout_5 : decode cX3_isSilentWithout 5 = .ok (.aload_n 0, 1) := by decide +kernel
theorem dX3_isSilentWithout_6 : decode cX3_isSilentWithout 6 = .ok (.getfield 9, 3) := by decide +kernel
theorem dX3_isSilentWithout_9 : decode cX3_isSilentWithout 9 = .ok (.iload_n 2, 1) := by decide +kernel
theorem dX3_isSilentWithout_10 : decode cX3_isSilentWithout 10 = .ok (.iaload, 1) := by decide +kernel
theorem dX3_isSilentWithout_11 : decode cX3_isSilentWithout 11 = .ok (.iload_n 1, 1) := by decide +kernel
theorem dX3_isSilentWithout_12 : decode cX3_isSilentWithout 12 = .ok (.iconst 0, 1) := by decide +kernel
theorem dX3_isSilentWithout_13 : decode cX3_isSilentWithout 13 = .ok (.invokestatic 49, 3) := by decide +kernel
theorem dX3_isSilentWithout_16 : decode cX3_isSilentWithout 16 = .ok (.iastore, 1) := by decide +kernel
theorem dX3_isSilentWithout_17 : decode cX3_isSilentWithout 17 = .ok (.aload_n 0, 1) := by decide +kernel
theorem dX3_isSilentWithout_18 : decode cX3_isSilentWithout 18 = .ok (.iload_n 3, 1) := by decide +kernel
theorem dX3_isSilentWithout_19 : decode cX3_isSilentWithout 19 = .ok (.invokevirtual 53, 3) := by decide +kernel
theorem dX3_isSilentWithout_22 : decode cX3_isSilentWithout 22 = .ok (.ifCond .ne 7, 3) := by decide +kernel
theorem dX3_isSilentWithout_25 : decode cX3_isSilentWithout 25 = .ok (.iconst 1, 1) := by decide +kernel
theorem dX3_isSilentWithout_26 : decode cX3_isSilentWithout 26 = .ok (.goto 4, 3) := by decide +kernel
theorem dX3_isSilentWithout_29 : decode cX3_isSilentWithout 29 = .ok (.iconst 0, 1) := by decide +kernel
theorem dX3_isSilentWithout_30 : decode cX3_isSilentWithout 30 = .ok (.istore 4, 2) := by decide +kernel
theorem dX3_isSilentWithout_32 : decode cX3_isSilentWithout 32 = .ok (.aload_n 0, 1) := by decide +kernel
theorem dX3_isSilentWithout_33 : decode cX3_isSilentWithout 33 = .ok (.getfield 9, 3) := by decide +kernel
theorem dX3_isSilentWithout_36 : decode cX3_isSilentWithout 36 = .ok (.iload_n 2, 1) := by decide +kernel
theorem dX3_isSilentWithout_37 : decode cX3_isSilentWithout 37 = .ok (.aload_n 0, 1) := by decide +kernel
theorem dX3_isSilentWithout_38 : decode cX3_isSilentWithout 38 = .ok (.getfield 9, 3) := by decide +kernel
theorem dX3_isSilentWithout_41 : decode cX3_isSilentWithout 41 = .ok (.iload_n 2, 1) := by decide +kernel
theorem dX3_isSilentWithout_42 : decode cX3_isSilentWithout 42 = .ok (.iaload, 1) := by decide +kernel
theorem dX3_isSilentWithout_43 : decode cX3_isSilentWithout 43 = .ok (.iload_n 1, 1) := by decide +kernel
theorem dX3_isSilentWithout_44 : decode cX3_isSilentWithout 44 = .ok (.iconst 1, 1) := by decide +kernel
theorem dX3_isSilentWithout_45 : decode cX3_isSilentWithout 45 = .ok (.invokestatic 49, 3) := by decide +kernel
theorem dX3_isSilentWithout_48 : decode cX3_isSilentWithout 48 = .ok (.iastore, 1) := by decide +kernel
theorem dX3_isSilentWithout_49 : decode cX3_isSilentWithout 49 = .ok (.iload 4, 2) := by decide +kernel
theorem dX3_isSilentWithout_51 : decode cX3_isSilentWithout 51 = .ok (.ireturn, 1) := by decide +kernel
set_option maxRecDepth 20000 in
theorem ggX3_shortest_X3_measure : GoodIn wsX3_shortest wsX3_measure := goodIn_r _ [6, 1, 7, 8, 9, 10, 11, 12, 13, 5, 14, 15, 16, 17, 18, 19, 20, 21, 22, 23, 24, 25, 26, 27, 28, 29, 30, 31, 32, 33, 34, 35, 36, 37] (by decide +kernel) (by decide +kernel)
set_option maxRecDepth 20000 in
theorem gX3_shortest_X3_measure : GoodIn wsX3_shortest (wsV RX3 56 RX3 yX3_measure wsX3_measure) := goodIn_app (goodIn_of _ (by decide +kernel)) ggX3_shortest_X3_measure
set_option maxRecDepth 20000 in
theorem ggX3_shortest_X3_nextAt : GoodIn wsX3_shortest wsX3_nextAt := goodIn_r _ [14, 15, 7, 1, 8, 9, 10, 16, 17, 18, 19, 20, 21, 22, 23, 24, 25, 26, 27, 28, 29, 30, 31, 32, 33, 34, 35, 36, 37] (by decide +kernel) (by decide +kernel)
set_option maxRecDepth 20000 in
theorem gX3_shortest_X3_nextAt : GoodIn wsX3_shortest (wsV RX3 60 RX3 yX3_nextAt wsX3_nextAt) := goodIn_app (goodIn_of _ (by decide +kernel)) ggX3_shortest_X3_nextAt
theorem dX3_shortest_0 : decode cX3_shortest 0 = .ok (.aload_n 0, 1) := by decide +kernel
theorem dX3_shortest_1 : decode cX3_shortest 1 = .ok (.iload_n 2, 1) := by decide +kernel
theorem dX3_shortest_2 : decode cX3_shortest 2 = .ok (.invokevirtual 56, 3) := by decide +kernel
theorem dX3_shortest_5 : decode cX3_shortest 5 = .ok (.aload_n 0, 1) := by decide +kernel
theorem dX3_shortest_6 : decode cX3_shortest 6 = .ok (.getfield 15, 3) := by decide +kernel
theorem dX3_shortest_9 : decode cX3_shortest 9 = .ok (.iload_n 1, 1) := by decide +kernel
theorem dX3_shortest_10 : decode cX3_shortest 10 = .ok (.iaload, 1) := by decide +kernel
theorem dX3_shortest_11 : decode cX3_shortest 11 = .ok (.istore 4, 2) := by decide +kernel
theorem dX3_shortest_13 : decode cX3_shortest 13 = .ok (.iload 4, 2) := by decide +kernel
theorem dX3_shortest_15 : decode cX3_shortest 15 = .ok (.ifCond .eq 9, 3) := by decide +kernel
theorem dX3_shortest_18 : decode cX3_shortest 18 = .ok (.iload_n 3, 1) := by decide +kernel
theorem dX3_shortest_19 : decode cX3_shortest 19 = .ok (.iload 4, 2) := by decide +kernel
theorem dX3_shortest_21 : decode cX3_shortest 21 = .ok (.if_icmp .lt 6, 3) := by decide +kernel
theorem dX3_shortest_24 : decode cX3_shortest 24 = .ok (.bipush (-99), 2) := by decide +kernel
theorem dX3_shortest_26 : decode cX3_shortest 26 = .ok (.ireturn, 1) := by decide +kernel
theorem dX3_shortest_27 : decode cX3_shortest 27 = .ok (.iload_n 3, 1) := by decide +kernel
theorem dX3_shortest_28 : decode cX3_shortest 28 = .ok (.ifCond .ge 6, 3) := by decide +kernel
theorem dX3_shortest_31 : decode cX3_shortest 31 = .ok (.iload 4, 2) := by decide +kernel
theorem dX3_shortest_33 : decode cX3_shortest 33 = .ok (.ireturn, 1) := by decide +kernel
theorem dX3_shortest_34 : decode cX3_shortest 34 = .ok (.iload_n 1, 1) := by decide +kernel
theorem dX3_shortest_35 : decode cX3_shortest 35 = .ok (.istore 5, 2) := by decide +kernel
theorem dX3_shortest_37 : decode cX3_shortest 37 = .ok (.iload 4, 2) := by decide +kernel
theorem dX3_shortest_39 : decode cX3_shortest 39 = .ok (.iconst 1, 1) := by decide +kernel
theorem dX3_shortest_40 : decode cX3_shortest 40 = .ok (.isub, 1) := by decide +kernel
theorem dX3_shortest_41 : decode cX3_shortest 41 = .ok (.istore 6, 2) := by decide +kernel
theorem dX3_shortest_43 : decode cX3_shortest 43 = .ok (.iload 6, 2) := by decide +kernel
theorem dX3_shortest_45 : decode cX3_shortest 45 = .ok (.iload 4, 2) := by decide +kernel
theorem dX3_shortest_47 : decode cX3_shortest 47 = .ok (.iload_n 3, 1) := by decide +kernel
theorem dX3_shortest_48 : decode cX3_shortest 48 = .ok (.isub, 1) := by decide +kernel
theorem dX3_shortest_49 : decode cX3_shortest 49 = .ok (.if_icmp .lt 31, 3) := by decide +kernel
theorem dX3_shortest_52 : decode cX3_shortest 52 = .ok (.aload_n 0, 1) := by decide +kernel
theorem dX3_shortest_53 : decode cX3_shortest 53 = .ok (.iload 5, 2) := by decide +kernel
theorem dX3_shortest_55 : decode cX3_shortest 55 = .ok (.iload 6, 2) := by decide +kernel
theorem dX3_shortest_57 : decode cX3_shortest 57 = .ok (.invokevirtual 60, 3) := by decide +kernel
theorem dX3_shortest_60 : decode cX3_shortest 60 = .ok (.istore 7, 2) := by decide +kernel
theorem dX3_shortest_62 : decode cX3_shortest 62 = .ok (.iload 7, 2) := by decide +kernel
theorem dX3_shortest_64 : decode cX3_shortest 64 = .ok (.ifCond .ge 6, 3) := by decide +kernel
theorem dX3_shortest_67 : decode cX3_shortest 67 = .ok (.bipush (-99), 2) := by decide +kernel
theorem dX3_shortest_69 : decode cX3_shortest 69 = .ok (.ireturn, 1) := by decide +kernel
theorem dX3_shortest_70 : decode cX3_shortest 70 = .ok (.iload 7, 2) := by decide +kernel
theorem dX3_shortest_72 : decode cX3_shortest 72 = .ok (.istore 5, 2) := by decide +kernel
theorem dX3_shortest_74 : decode cX3_shortest 74 = .ok (.iinc 6 (-1), 3) := by decide +kernel
theorem dX3_shortest_77 : decode cX3_shortest 77 = .ok (.goto (-34), 3) := by decide +kernel
theorem dX3_shortest_80 : decode cX3_shortest 80 = .ok (.iload 5, 2) := by decide +kernel
theorem dX3_shortest_82 : decode cX3_shortest 82 = .ok (.ireturn, 1) := by decide +kernel
set_option maxRecDepth 20000 in
theorem ggX3_measure_X5_hasBit : GoodIn wsX3_measure wsX5_hasBit := goodIn_r _ [5] (by decide +kernel) (by decide +kernel)
set_option maxRecDepth 20000 in
theorem gX3_measure_X5_hasBit_n34 : GoodIn wsX3_measure (wsX5_hasBit) := ggX3_measure_X5_hasBit
set_option maxRecDepth 20000 in
theorem ggX3_measure_X3_nextAt : GoodIn wsX3_measure wsX3_nextAt := goodIn_r _ [10, 11, 2, 1, 3, 4, 5, 12, 13, 14, 15, 16, 17, 18, 19, 20, 21, 22, 23, 24, 25, 26, 27, 28, 29, 30, 31, 32, 33] (by decide +kernel) (by decide +kernel)
set_option maxRecDepth 20000 in
theorem gX3_measure_X3_nextAt : GoodIn wsX3_measure (wsV RX3 60 RX3 yX3_nextAt wsX3_nextAt) := goodIn_app (goodIn_of _ (by decide +kernel)) ggX3_measure_X3_nextAt
theorem dX3_measure_0 : decode cX3_measure 0 = .ok (.iconst 0, 1) := by decide +kernel
theorem dX3_measure_1 : decode cX3_measure 1 = .ok (.istore_n 2, 1) := by decide +kernel
theorem dX3_measure_2 : decode cX3_measure 2 = .ok (.iload_n 2, 1) := by decide +kernel
theorem dX3_measure_3 : decode cX3_measure 3 = .ok (.bipush 12, 2) := by decide +kernel
theorem dX3_measure_5 : decode cX3_measure 5 = .ok (.if_icmp .ge 33, 3) := by decide +kernel
theorem dX3_measure_8 : decode cX3_measure 8 = .ok (.aload_n 0, 1) := by decide +kernel
theorem dX3_measure_9 : decode cX3_measure 9 = .ok (.getfield 15, 3) := by decide +kernel
theorem dX3_measure_12 : decode cX3_measure 12 = .ok (.iload_n 2, 1) := by decide +kernel
theorem dX3_measure_13 : decode cX3_measure 13 = .ok (.aload_n 0, 1) := by decide +kernel
theorem dX3_measure_14 : decode cX3_measure 14 = .ok (.getfield 9, 3) := by decide +kernel
theorem dX3_measure_17 : decode cX3_measure 17 = .ok (.iload_n 2, 1) := by decide +kernel
theorem dX3_measure_18 : decode cX3_measure 18 = .ok (.iaload, 1) := by decide +kernel
theorem dX3_measure_19 : decode cX3_measure 19 = .ok (.iload_n 1, 1) := by decide +kernel
theorem dX3_measure_20 : decode cX3_measure 20 = .ok (.invokestatic 34, 3) := by decide +kernel
theorem dX3_measure_23 : decode cX3_measure 23 = .ok (.ifCond .eq 7, 3) := by decide +kernel
theorem dX3_measure_26 : decode cX3_measure 26 = .ok (.iconst 1, 1) := by decide +kernel
theorem dX3_measure_27 : decode cX3_measure 27 = .ok (.goto 4, 3) := by decide +kernel
theorem dX3_measure_30 : decode cX3_measure 30 = .ok (.iconst 0, 1) := by decide +kernel
theorem dX3_measure_31 : decode cX3_measure 31 = .ok (.iastore, 1) := by decide +kernel
theorem dX3_measure_32 : decode cX3_measure 32 = .ok (.iinc 2 1, 3) := by decide +kernel
theorem dX3_measure_35 : decode cX3_measure 35 = .ok (.goto (-33), 3) := by decide +kernel
theorem dX3_measure_38 : decode cX3_measure 38 = .ok (.iconst 2, 1) := by decide +kernel
theorem dX3_measure_39 : decode cX3_measure 39 = .ok (.istore_n 2, 1) := by decide +kernel
theorem dX3_measure_40 : decode cX3_measure 40 = .ok (.iload_n 2, 1) := by decide +kernel
theorem dX3_measure_41 : decode cX3_measure 41 = .ok (.iconst 4, 1) := by decide +kernel
