set_option maxRecDepth 20000 in
theorem gX6_setReturn_X6_isFour : GoodIn wsX6_setReturn (va_wsS RX6 97 yX6_isFour wsX6_isFour) := goodIn_app (goodIn_of _ (by decide +kernel)) ggX6_setReturn_X6_isFour
set_option maxRecDepth 20000 in
theorem ggX6_setReturn_X6_in : GoodIn wsX6_setReturn wsX6_in := goodIn_r _ [9] (by decide +kernel) (by decide +kernel)
set_option maxRecDepth 20000 in
theorem gX6_setReturn_X6_in : GoodIn wsX6_setReturn (va_wsS RX6 35 yX6_in wsX6_in) := goodIn_app (goodIn_of _ (by decide +kernel)) ggX6_setReturn_X6_in
set_option maxRecDepth 20000 in
theorem ggX6_setReturn_X6_backInto : GoodIn wsX6_setReturn wsX6_backInto := goodIn_r _ [13, 2, 20, 21, 22, 23, 24, 25, 26, 27, 28, 29, 30, 31, 32, 33, 34] (by decide +kernel) (by decide +kernel)
set_option maxRecDepth 20000 in
theorem gX6_setReturn_X6_backInto : GoodIn wsX6_setReturn (wsV RX6 75 RX6 yX6_backInto wsX6_backInto) := goodIn_app (goodIn_of _ (by decide +kernel)) ggX6_setReturn_X6_backInto
set_option maxRecDepth 20000 in
theorem ggX6_setReturn_X6_act : GoodIn wsX6_setReturn wsX6_act := goodIn_r _ [17, 18, 19, 2, 20, 21, 22, 23, 24, 25, 26, 27, 28, 29, 30, 31, 32, 33, 34] (by decide +kernel) (by decide +kernel)
set_option maxRecDepth 20000 in
theorem gX6_setReturn_X6_act : GoodIn wsX6_setReturn (wsV RX6 90 RX6 yX6_act wsX6_act) := goodIn_app (goodIn_of _ (by decide +kernel)) ggX6_setReturn_X6_act
theorem dX6_setReturn_0 : decode cX6_setReturn 0 = .ok (.aload_n 0, 1) := by decide +kernel
theorem dX6_setReturn_1 : decode cX6_setReturn 1 = .ok (.iconst 0, 1) := by decide +kernel
theorem dX6_setReturn_2 : decode cX6_setReturn 2 = .ok (.putfield 28, 3) := by decide +kernel
theorem dX6_setReturn_5 : decode cX6_setReturn 5 = .ok (.iload_n 1, 1) := by decide +kernel
theorem dX6_setReturn_6 : decode cX6_setReturn 6 = .ok (.invokestatic 97, 3) := by decide +kernel
theorem dX6_setReturn_9 : decode cX6_setReturn 9 = .ok (.ifCond .eq 13, 3) := by decide +kernel
theorem dX6_setReturn_12 : decode cX6_setReturn 12 = .ok (.iload_n 2, 1) := by decide +kernel
theorem dX6_setReturn_13 : decode cX6_setReturn 13 = .ok (.iconst (-1), 1) := by decide +kernel
theorem dX6_setReturn_14 : decode cX6_setReturn 14 = .ok (.bipush 11, 2) := by decide +kernel
theorem dX6_setReturn_16 : decode cX6_setReturn 16 = .ok (.invokestatic 35, 3) := by decide +kernel
theorem dX6_setReturn_19 : decode cX6_setReturn 19 = .ok (.ifCond .ne 5, 3) := by decide +kernel
theorem dX6_setReturn_22 : decode cX6_setReturn 22 = .ok (.iconst (-1), 1) := by decide +kernel
theorem dX6_setReturn_23 : decode cX6_setReturn 23 = .ok (.ireturn, 1) := by decide +kernel
theorem dX6_setReturn_24 : decode cX6_setReturn 24 = .ok (.iload_n 2, 1) := by decide +kernel
theorem dX6_setReturn_25 : decode cX6_setReturn 25 = .ok (.iconst (-1), 1) := by decide +kernel
theorem dX6_setReturn_26 : decode cX6_setReturn 26 = .ok (.if_icmp .ne 8, 3) := by decide +kernel
theorem dX6_setReturn_29 : decode cX6_setReturn 29 = .ok (.bipush (-99), 2) := by decide +kernel
theorem dX6_setReturn_31 : decode cX6_setReturn 31 = .ok (.goto 8, 3) := by decide +kernel
theorem dX6_setReturn_34 : decode cX6_setReturn 34 = .ok (.aload_n 0, 1) := by decide +kernel
theorem dX6_setReturn_35 : decode cX6_setReturn 35 = .ok (.iload_n 2, 1) := by decide +kernel
theorem dX6_setReturn_36 : decode cX6_setReturn 36 = .ok (.invokevirtual 75, 3) := by decide +kernel
theorem dX6_setReturn_39 : decode cX6_setReturn 39 = .ok (.istore_n 3, 1) := by decide +kernel
theorem dX6_setReturn_40 : decode cX6_setReturn 40 = .ok (.iload_n 3, 1) := by decide +kernel
theorem dX6_setReturn_41 : decode cX6_setReturn 41 = .ok (.bipush (-99), 2) := by decide +kernel
theorem dX6_setReturn_43 : decode cX6_setReturn 43 = .ok (.if_icmp .eq 11, 3) := by decide +kernel
theorem dX6_setReturn_46 : decode cX6_setReturn 46 = .ok (.iload_n 3, 1) := by decide +kernel
theorem dX6_setReturn_47 : decode cX6_setReturn 47 = .ok (.iload_n 1, 1) := by decide +kernel
theorem dX6_setReturn_48 : decode cX6_setReturn 48 = .ok (.if_icmp .eq 6, 3) := by decide +kernel
theorem dX6_setReturn_51 : decode cX6_setReturn 51 = .ok (.bipush (-2), 2) := by decide +kernel
theorem dX6_setReturn_53 : decode cX6_setReturn 53 = .ok (.ireturn, 1) := by decide +kernel
theorem dX6_setReturn_54 : decode cX6_setReturn 54 = .ok (.aload_n 0, 1) := by decide +kernel
theorem dX6_setReturn_55 : decode cX6_setReturn 55 = .ok (.invokevirtual 90, 3) := by decide +kernel
theorem dX6_setReturn_58 : decode cX6_setReturn 58 = .ok (.aload_n 0, 1) := by decide +kernel
theorem dX6_setReturn_59 : decode cX6_setReturn 59 = .ok (.getfield 7, 3) := by decide +kernel
theorem dX6_setReturn_62 : decode cX6_setReturn 62 = .ok (.bipush 84, 2) := by decide +kernel
theorem dX6_setReturn_64 : decode cX6_setReturn 64 = .ok (.iload_n 1, 1) := by decide +kernel
theorem dX6_setReturn_65 : decode cX6_setReturn 65 = .ok (.iadd, 1) := by decide +kernel
theorem dX6_setReturn_66 : decode cX6_setReturn 66 = .ok (.iaload, 1) := by decide +kernel
theorem dX6_setReturn_67 : decode cX6_setReturn 67 = .ok (.istore 4, 2) := by decide +kernel
theorem dX6_setReturn_69 : decode cX6_setReturn 69 = .ok (.aload_n 0, 1) := by decide +kernel
theorem dX6_setReturn_70 : decode cX6_setReturn 70 = .ok (.getfield 7, 3) := by decide +kernel
theorem dX6_setReturn_73 : decode cX6_setReturn 73 = .ok (.bipush 84, 2) := by decide +kernel
theorem dX6_setReturn_75 : decode cX6_setReturn 75 = .ok (.iload_n 1, 1) := by decide +kernel
theorem dX6_setReturn_76 : decode cX6_setReturn 76 = .ok (.iadd, 1) := by decide +kernel
theorem dX6_setReturn_77 : decode cX6_setReturn 77 = .ok (.iload_n 2, 1) := by decide +kernel
theorem dX6_setReturn_78 : decode cX6_setReturn 78 = .ok (.iastore, 1) := by decide +kernel
theorem dX6_setReturn_79 : decode cX6_setReturn 79 = .ok (.iload 4, 2) := by decide +kernel
theorem dX6_setReturn_81 : decode cX6_setReturn 81 = .ok (.ireturn, 1) := by decide +kernel
set_option maxRecDepth 20000 in
theorem ggX6_isScene_X6_in : GoodIn wsX6_isScene wsX6_in := goodIn_r _ [4] (by decide +kernel) (by decide +kernel)
set_option maxRecDepth 20000 in
theorem gX6_isScene_X6_in : GoodIn wsX6_isScene (va_wsS RX6 35 yX6_in wsX6_in) := goodIn_app (goodIn_of _ (by decide +kernel)) ggX6_isScene_X6_in
theorem dX6_isScene_0 : decode cX6_isScene 0 = .ok (.iload_n 0, 1) := by decide +kernel
theorem dX6_isScene_1 : decode cX6_isScene 1 = .ok (.iconst 0, 1) := by decide +kernel
theorem dX6_isScene_2 : decode cX6_isScene 2 = .ok (.iconst 5, 1) := by decide +kernel
theorem dX6_isScene_3 : decode cX6_isScene 3 = .ok (.invokestatic 35, 3) := by decide +kernel
theorem dX6_isScene_6 : decode cX6_isScene 6 = .ok (.ireturn, 1) := by decide +kernel
theorem dX6_scenes_0 : decode cX6_scenes 0 = .ok (.iconst 0, 1) := by decide +kernel
theorem dX6_scenes_1 : decode cX6_scenes 1 = .ok (.istore_n 1, 1) := by decide +kernel
theorem dX6_scenes_2 : decode cX6_scenes 2 = .ok (.iconst 0, 1) := by decide +kernel
theorem dX6_scenes_3 : decode cX6_scenes 3 = .ok (.istore_n 2, 1) := by decide +kernel
theorem dX6_scenes_4 : decode cX6_scenes 4 = .ok (.iload_n 2, 1) := by decide +kernel
theorem dX6_scenes_5 : decode cX6_scenes 5 = .ok (.bipush 6, 2) := by decide +kernel
theorem dX6_scenes_7 : decode cX6_scenes 7 = .ok (.if_icmp .ge 25, 3) := by decide +kernel
theorem dX6_scenes_10 : decode cX6_scenes 10 = .ok (.iload_n 1, 1) := by decide +kernel
theorem dX6_scenes_11 : decode cX6_scenes 11 = .ok (.aload_n 0, 1) := by decide +kernel
theorem dX6_scenes_12 : decode cX6_scenes 12 = .ok (.getfield 7, 3) := by decide +kernel
theorem dX6_scenes_15 : decode cX6_scenes 15 = .ok (.sipush 181, 3) := by decide +kernel
theorem dX6_scenes_18 : decode cX6_scenes 18 = .ok (.bipush 18, 2) := by decide +kernel
theorem dX6_scenes_20 : decode cX6_scenes 20 = .ok (.iload_n 2, 1) := by decide +kernel
theorem dX6_scenes_21 : decode cX6_scenes 21 = .ok (.imul, 1) := by decide +kernel
theorem dX6_scenes_22 : decode cX6_scenes 22 = .ok (.iadd, 1) := by decide +kernel
theorem dX6_scenes_23 : decode cX6_scenes 23 = .ok (.iaload, 1) := by decide +kernel
theorem dX6_scenes_24 : decode cX6_scenes 24 = .ok (.iadd, 1) := by decide +kernel
theorem dX6_scenes_25 : decode cX6_scenes 25 = .ok (.istore_n 1, 1) := by decide +kernel
theorem dX6_scenes_26 : decode cX6_scenes 26 = .ok (.iinc 2 1, 3) := by decide +kernel
theorem dX6_scenes_29 : decode cX6_scenes 29 = .ok (.goto (-25), 3) := by decide +kernel
theorem dX6_scenes_32 : decode cX6_scenes 32 = .ok (.iload_n 1, 1) := by decide +kernel
theorem dX6_scenes_33 : decode cX6_scenes 33 = .ok (.ireturn, 1) := by decide +kernel
set_option maxRecDepth 20000 in
theorem ggX6_store_X6_isScene : GoodIn wsX6_store wsX6_isScene := goodIn_r _ [6, 7, 8, 5, 9] (by decide +kernel) (by decide +kernel)
set_option maxRecDepth 20000 in
theorem gX6_store_X6_isScene : GoodIn wsX6_store (va_wsS RX6 103 yX6_isScene wsX6_isScene) := goodIn_app (goodIn_of _ (by decide +kernel)) ggX6_store_X6_isScene
set_option maxRecDepth 20000 in
theorem ggX6_store_X6_act : GoodIn wsX6_store wsX6_act := goodIn_r _ [13, 14, 15, 2, 31, 32, 33, 34, 35, 36, 37, 38, 39, 40, 41, 42, 43, 44, 45] (by decide +kernel) (by decide +kernel)
set_option maxRecDepth 20000 in
theorem gX6_store_X6_act : GoodIn wsX6_store (wsV RX6 90 RX6 yX6_act wsX6_act) := goodIn_app (goodIn_of _ (by decide +kernel)) ggX6_store_X6_act
set_option maxRecDepth 20000 in
theorem ggX6_store_X6_at : GoodIn wsX6_store wsX6_at := goodIn_r _ [18] (by decide +kernel) (by decide +kernel)
set_option maxRecDepth 20000 in
theorem gX6_store_X6_at : GoodIn wsX6_store (va_wsS RX6 65 yX6_at wsX6_at) := goodIn_app (goodIn_of _ (by decide +kernel)) ggX6_store_X6_at
set_option maxRecDepth 20000 in
theorem ggX6_store_X6_muted : GoodIn wsX6_store wsX6_muted := goodIn_r _ [22, 23, 24, 25, 5, 26, 2, 31, 32, 33, 34, 35, 36, 37, 38, 39, 40, 41, 42, 43, 44, 45] (by decide +kernel) (by decide +kernel)
set_option maxRecDepth 20000 in
theorem gX6_store_X6_muted : GoodIn wsX6_store (wsV RX6 106 RX6 yX6_muted wsX6_muted) := goodIn_app (goodIn_of _ (by decide +kernel)) ggX6_store_X6_muted
set_option maxRecDepth 20000 in
theorem ggX6_store_X6_scenes : GoodIn wsX6_store wsX6_scenes := goodIn_r _ [30, 2, 31, 32, 33, 34, 35, 36, 37, 38, 39, 40, 41, 42, 43, 44, 45] (by decide +kernel) (by decide +kernel)
set_option maxRecDepth 20000 in
theorem gX6_store_X6_scenes : GoodIn wsX6_store (wsV RX6 109 RX6 yX6_scenes wsX6_scenes) := goodIn_app (goodIn_of _ (by decide +kernel)) ggX6_store_X6_scenes
theorem dX6_store_0 : decode cX6_store 0 = .ok (.aload_n 0, 1) := by decide +kernel
theorem dX6_store_1 : decode cX6_store 1 = .ok (.iconst 0, 1) := by decide +kernel
theorem dX6_store_2 : decode cX6_store 2 = .ok (.putfield 28, 3) := by decide +kernel
theorem dX6_store_5 : decode cX6_store 5 = .ok (.iload_n 1, 1) := by decide +kernel
theorem dX6_store_6 : decode cX6_store 6 = .ok (.invokestatic 103, 3) := by decide +kernel
theorem dX6_store_9 : decode cX6_store 9 = .ok (.ifCond .ne 5, 3) := by decide +kernel
theorem dX6_store_12 : decode cX6_store 12 = .ok (.iconst (-1), 1) := by decide +kernel
theorem dX6_store_13 : decode cX6_store 13 = .ok (.ireturn, 1) := by decide +kernel
theorem dX6_store_14 : decode cX6_store 14 = .ok (.aload_n 0, 1) := by decide +kernel
theorem dX6_store_15 : decode cX6_store 15 = .ok (.invokevirtual 90, 3) := by decide +kernel
theorem dX6_store_18 : decode cX6_store 18 = .ok (.sipush 181, 3) := by decide +kernel
theorem dX6_store_21 : decode cX6_store 21 = .ok (.bipush 18, 2) := by decide +kernel
theorem dX6_store_23 : decode cX6_store 23 = .ok (.iload_n 1, 1) := by decide +kernel
theorem dX6_store_24 : decode cX6_store 24 = .ok (.imul, 1) := by decide +kernel
theorem dX6_store_25 : decode cX6_store 25 = .ok (.iadd, 1) := by decide +kernel
theorem dX6_store_26 : decode cX6_store 26 = .ok (.istore_n 2, 1) := by decide +kernel
theorem dX6_store_27 : decode cX6_store 27 = .ok (.aload_n 0, 1) := by decide +kernel
theorem dX6_store_28 : decode cX6_store 28 = .ok (.getfield 7, 3) := by decide +kernel
theorem dX6_store_31 : decode cX6_store 31 = .ok (.iload_n 2, 1) := by decide +kernel
theorem dX6_store_32 : decode cX6_store 32 = .ok (.iconst 1, 1) := by decide +kernel
theorem dX6_store_33 : decode cX6_store 33 = .ok (.iastore, 1) := by decide +kernel
theorem dX6_store_34 : decode cX6_store 34 = .ok (.iconst 0, 1) := by decide +kernel
theorem dX6_store_35 : decode cX6_store 35 = .ok (.istore_n 3, 1) := by decide +kernel
theorem dX6_store_36 : decode cX6_store 36 = .ok (.iload_n 3, 1) := by decide +kernel
theorem dX6_store_37 : decode cX6_store 37 = .ok (.bipush 16, 2) := by decide +kernel
theorem dX6_store_39 : decode cX6_store 39 = .ok (.if_icmp .ge 28, 3) := by decide +kernel
theorem dX6_store_42 : decode cX6_store 42 = .ok (.aload_n 0, 1) := by decide +kernel
theorem dX6_store_43 : decode cX6_store 43 = .ok (.getfield 7, 3) := by decide +kernel
theorem dX6_store_46 : decode cX6_store 46 = .ok (.iload_n 2, 1) := by decide +kernel
theorem dX6_store_47 : decode cX6_store 47 = .ok (.iconst 1, 1) := by decide +kernel
theorem dX6_store_48 : decode cX6_store 48 = .ok (.iadd, 1) := by decide +kernel
theorem dX6_store_49 : decode cX6_store 49 = .ok (.iload_n 3, 1) := by decide +kernel
theorem dX6_store_50 : decode cX6_store 50 = .ok (.iadd, 1) := by decide +kernel
theorem dX6_store_51 : decode cX6_store 51 = .ok (.aload_n 0, 1) := by decide +kernel
theorem dX6_store_52 : decode cX6_store 52 = .ok (.getfield 7, 3) := by decide +kernel
theorem dX6_store_55 : decode cX6_store 55 = .ok (.iload_n 3, 1) := by decide +kernel
theorem dX6_store_56 : decode cX6_store 56 = .ok (.invokestatic 65, 3) := by decide +kernel
theorem dX6_store_59 : decode cX6_store 59 = .ok (.iaload, 1) := by decide +kernel
theorem dX6_store_60 : decode cX6_store 60 = .ok (.iastore, 1) := by decide +kernel
theorem dX6_store_61 : decode cX6_store 61 = .ok (.iinc 3 1, 3) := by decide +kernel
theorem dX6_store_64 : decode cX6_store 64 = .ok (.goto (-28), 3) := by decide +kernel
theorem dX6_store_67 : decode cX6_store 67 = .ok (.aload_n 0, 1) := by decide +kernel
theorem dX6_store_68 : decode cX6_store 68 = .ok (.getfield 7, 3) := by decide +kernel
theorem dX6_store_71 : decode cX6_store 71 = .ok (.iload_n 2, 1) := by decide +kernel
theorem dX6_store_72 : decode cX6_store 72 = .ok (.bipush 17, 2) := by decide +kernel
theorem dX6_store_74 : decode cX6_store 74 = .ok (.iadd, 1) := by decide +kernel
theorem dX6_store_75 : decode cX6_store 75 = .ok (.aload_n 0, 1) := by decide +kernel
theorem dX6_store_76 : decode cX6_store 76 = .ok (.invokevirtual 106, 3) := by decide +kernel
theorem dX6_store_79 : decode cX6_store 79 = .ok (.iastore, 1) := by decide +kernel
theorem dX6_store_80 : decode cX6_store 80 = .ok (.aload_n 0, 1) := by decide +kernel
theorem dX6_store_81 : decode cX6_store 81 = .ok (.invokevirtual 109, 3) := by decide +kernel
theorem dX6_store_84 : decode cX6_store 84 = .ok (.ireturn, 1) := by decide +kernel
set_option maxRecDepth 20000 in
theorem ggX6_begin_X6_at : GoodIn wsX6_begin wsX6_at := goodIn_r _ [5] (by decide +kernel) (by decide +kernel)
set_option maxRecDepth 20000 in
theorem gX6_begin_X6_at : GoodIn wsX6_begin (va_wsS RX6 65 yX6_at wsX6_at) := goodIn_app (goodIn_of _ (by decide +kernel)) ggX6_begin_X6_at
theorem dX6_begin_0 : decode cX6_begin 0 = .ok (.aload_n 0, 1) := by decide +kernel
theorem dX6_begin_1 : decode cX6_begin 1 = .ok (.getfield 7, 3) := by decide +kernel
theorem dX6_begin_4 : decode cX6_begin 4 = .ok (.sipush 144, 3) := by decide +kernel
theorem dX6_begin_7 : decode cX6_begin 7 = .ok (.iconst 0, 1) := by decide +kernel
theorem dX6_begin_8 : decode cX6_begin 8 = .ok (.iastore, 1) := by decide +kernel
theorem dX6_begin_9 : decode cX6_begin 9 = .ok (.aload_n 0, 1) := by decide +kernel
theorem dX6_begin_10 : decode cX6_begin 10 = .ok (.getfield 7, 3) := by decide +kernel
theorem dX6_begin_13 : decode cX6_begin 13 = .ok (.sipush 145, 3) := by decide +kernel
theorem dX6_begin_16 : decode cX6_begin 16 = .ok (.iload_n 2, 1) := by decide +kernel
theorem dX6_begin_17 : decode cX6_begin 17 = .ok (.iastore, 1) := by decide +kernel
theorem dX6_begin_18 : decode cX6_begin 18 = .ok (.iconst 0, 1) := by decide +kernel
theorem dX6_begin_19 : decode cX6_begin 19 = .ok (.istore_n 3, 1) := by decide +kernel
theorem dX6_begin_20 : decode cX6_begin 20 = .ok (.iload_n 3, 1) := by decide +kernel
theorem dX6_begin_21 : decode cX6_begin 21 = .ok (.bipush 16, 2) := by decide +kernel
theorem dX6_begin_23 : decode cX6_begin 23 = .ok (.if_icmp .ge 48, 3) := by decide +kernel
theorem dX6_begin_26 : decode cX6_begin 26 = .ok (.aload_n 0, 1) := by decide +kernel
theorem dX6_begin_27 : decode cX6_begin 27 = .ok (.getfield 7, 3) := by decide +kernel
theorem dX6_begin_30 : decode cX6_begin 30 = .ok (.sipush 146, 3) := by decide +kernel
theorem dX6_begin_33 : decode cX6_begin 33 = .ok (.iload_n 3, 1) := by decide +kernel
theorem dX6_begin_34 : decode cX6_begin 34 = .ok (.iadd, 1) := by decide +kernel
theorem dX6_begin_35 : decode cX6_begin 35 = .ok (.aload_n 0, 1) := by decide +kernel
theorem dX6_begin_36 : decode cX6_begin 36 = .ok (.getfield 7, 3) := by decide +kernel
theorem dX6_begin_39 : decode cX6_begin 39 = .ok (.iload_n 3, 1) := by decide +kernel
theorem dX6_begin_40 : decode cX6_begin 40 = .ok (.invokestatic 65, 3) := by decide +kernel
theorem dX6_begin_43 : decode cX6_begin 43 = .ok (.iaload, 1) := by decide +kernel
theorem dX6_begin_44 : decode cX6_begin 44 = .ok (.iastore, 1) := by decide +kernel
theorem dX6_begin_45 : decode cX6_begin 45 = .ok (.aload_n 0, 1) := by decide +kernel
theorem dX6_begin_46 : decode cX6_begin 46 = .ok (.getfield 7, 3) := by decide +kernel
theorem dX6_begin_49 : decode cX6_begin 49 = .ok (.sipush 162, 3) := by decide +kernel
theorem dX6_begin_52 : decode cX6_begin 52 = .ok (.iload_n 3, 1) := by decide +kernel
theorem dX6_begin_53 : decode cX6_begin 53 = .ok (.iadd, 1) := by decide +kernel
theorem dX6_begin_54 : decode cX6_begin 54 = .ok (.aload_n 0, 1) := by decide +kernel
theorem dX6_begin_55 : decode cX6_begin 55 = .ok (.getfield 7, 3) := by decide +kernel
theorem dX6_begin_58 : decode cX6_begin 58 = .ok (.iload_n 1, 1) := by decide +kernel
theorem dX6_begin_59 : decode cX6_begin 59 = .ok (.iconst 1, 1) := by decide +kernel
theorem dX6_begin_60 : decode cX6_begin 60 = .ok (.iadd, 1) := by decide +kernel
theorem dX6_begin_61 : decode cX6_begin 61 = .ok (.iload_n 3, 1) := by decide +kernel
theorem dX6_begin_62 : decode cX6_begin 62 = .ok (.iadd, 1) := by decide +kernel
theorem dX6_begin_63 : decode cX6_begin 63 = .ok (.iaload, 1) := by decide +kernel
theorem dX6_begin_64 : decode cX6_begin 64 = .ok (.iastore, 1) := by decide +kernel
theorem dX6_begin_65 : decode cX6_begin 65 = .ok (.iinc 3 1, 3) := by decide +kernel
theorem dX6_begin_68 : decode cX6_begin 68 = .ok (.goto (-48), 3) := by decide +kernel
theorem dX6_begin_71 : decode cX6_begin 71 = .ok (.aload_n 0, 1) := by decide +kernel
theorem dX6_begin_72 : decode cX6_begin 72 = .ok (.getfield 7, 3) := by decide +kernel
theorem dX6_begin_75 : decode cX6_begin 75 = .ok (.sipush 178, 3) := by decide +kernel
theorem dX6_begin_78 : decode cX6_begin 78 = .ok (.aload_n 0, 1) := by decide +kernel
theorem dX6_begin_79 : decode cX6_begin 79 = .ok (.getfield 7, 3) := by decide +kernel
theorem dX6_begin_82 : decode cX6_begin 82 = .ok (.iload_n 1, 1) := by decide +kernel
theorem dX6_begin_83 : decode cX6_begin 83 = .ok (.bipush 17, 2) := by decide +kernel
theorem dX6_begin_85 : decode cX6_begin 85 = .ok (.iadd, 1) := by decide +kernel
theorem dX6_begin_86 : decode cX6_begin 86 = .ok (.iaload, 1) := by decide +kernel
theorem dX6_begin_87 : decode cX6_begin 87 = .ok (.iastore, 1) := by decide +kernel
theorem dX6_begin_88 : decode cX6_begin 88 = .ok (.aload_n 0, 1) := by decide +kernel
theorem dX6_begin_89 : decode cX6_begin 89 = .ok (.getfield 7, 3) := by decide +kernel
theorem dX6_begin_92 : decode cX6_begin 92 = .ok (.sipush 179, 3) := by decide +kernel
theorem dX6_begin_95 : decode cX6_begin 95 = .ok (.iconst 0, 1) := by decide +kernel
theorem dX6_begin_96 : decode cX6_begin 96 = .ok (.iastore, 1) := by decide +kernel
theorem dX6_begin_97 : decode cX6_begin 97 = .ok (.aload_n 0, 1) := by decide +kernel
theorem dX6_begin_98 : decode cX6_begin 98 = .ok (.getfield 7, 3) := by decide +kernel
theorem dX6_begin_101 : decode cX6_begin 101 = .ok (.sipush 180, 3) := by decide +kernel
theorem dX6_begin_104 : decode cX6_begin 104 = .ok (.iconst 0, 1) := by decide +kernel
theorem dX6_begin_105 : decode cX6_begin 105 = .ok (.iastore, 1) := by decide +kernel
theorem dX6_begin_106 : decode cX6_begin 106 = .ok (.return_, 1) := by decide +kernel
set_option maxRecDepth 20000 in
theorem ggX6_jump_X6_at : GoodIn wsX6_jump wsX6_at := goodIn_r _ [5] (by decide +kernel) (by decide +kernel)
set_option maxRecDepth 20000 in
theorem gX6_jump_X6_at : GoodIn wsX6_jump (va_wsS RX6 65 yX6_at wsX6_at) := goodIn_app (goodIn_of _ (by decide +kernel)) ggX6_jump_X6_at
set_option maxRecDepth 20000 in
theorem ggX6_jump_X6_mute : GoodIn wsX6_jump wsX6_mute := goodIn_r _ [9, 1, 10, 11, 4, 12, 13, 14, 15, 16, 17, 18, 19, 20, 21, 22, 23, 24, 25, 26, 27, 28, 29, 30, 31] (by decide +kernel) (by decide +kernel)
set_option maxRecDepth 20000 in
theorem gX6_jump_X6_mute : GoodIn wsX6_jump (wsV RX6 68 RX6 yX6_mute wsX6_mute) := goodIn_app (goodIn_of _ (by decide +kernel)) ggX6_jump_X6_mute
theorem dX6_jump_0 : decode cX6_jump 0 = .ok (.aload_n 0, 1) := by decide +kernel
theorem dX6_jump_1 : decode cX6_jump 1 = .ok (.getfield 7, 3) := by decide +kernel
theorem dX6_jump_4 : decode cX6_jump 4 = .ok (.sipush 144, 3) := by decide +kernel
theorem dX6_jump_7 : decode cX6_jump 7 = .ok (.iconst (-1), 1) := by decide +kernel
theorem dX6_jump_8 : decode cX6_jump 8 = .ok (.iastore, 1) := by decide +kernel
theorem dX6_jump_9 : decode cX6_jump 9 = .ok (.aload_n 0, 1) := by decide +kernel
theorem dX6_jump_10 : decode cX6_jump 10 = .ok (.getfield 7, 3) := by decide +kernel
theorem dX6_jump_13 : decode cX6_jump 13 = .ok (.sipush 179, 3) := by decide +kernel
theorem dX6_jump_16 : decode cX6_jump 16 = .ok (.iconst 0, 1) := by decide +kernel
theorem dX6_jump_17 : decode cX6_jump 17 = .ok (.iastore, 1) := by decide +kernel
theorem dX6_jump_18 : decode cX6_jump 18 = .ok (.aload_n 0, 1) := by decide +kernel
theorem dX6_jump_19 : decode cX6_jump 19 = .ok (.getfield 7, 3) := by decide +kernel
theorem dX6_jump_22 : decode cX6_jump 22 = .ok (.sipush 180, 3) := by decide +kernel
theorem dX6_jump_25 : decode cX6_jump 25 = .ok (.iconst 0, 1) := by decide +kernel
theorem dX6_jump_26 : decode cX6_jump 26 = .ok (.iastore, 1) := by decide +kernel
theorem dX6_jump_27 : decode cX6_jump 27 = .ok (.iconst 0, 1) := by decide +kernel
theorem dX6_jump_28 : decode cX6_jump 28 = .ok (.istore_n 2, 1) := by decide +kernel
theorem dX6_jump_29 : decode cX6_jump 29 = .ok (.iload_n 2, 1) := by decide +kernel
theorem dX6_jump_30 : decode cX6_jump 30 = .ok (.bipush 16, 2) := by decide +kernel
theorem dX6_jump_32 : decode cX6_jump 32 = .ok (.if_icmp .ge 28, 3) := by decide +kernel
theorem dX6_jump_35 : decode cX6_jump 35 = .ok (.aload_n 0, 1) := by decide +kernel
theorem dX6_jump_36 : decode cX6_jump 36 = .ok (.getfield 7, 3) := by decide +kernel
theorem dX6_jump_39 : decode cX6_jump 39 = .ok (.iload_n 2, 1) := by decide +kernel
theorem dX6_jump_40 : decode cX6_jump 40 = .ok (.invokestatic 65, 3) := by decide +kernel
theorem dX6_jump_43 : decode cX6_jump 43 = .ok (.aload_n 0, 1) := by decide +kernel
theorem dX6_jump_44 : decode cX6_jump 44 = .ok (.getfield 7, 3) := by decide +kernel
theorem dX6_jump_47 : decode cX6_jump 47 = .ok (.iload_n 1, 1) := by decide +kernel
theorem dX6_jump_48 : decode cX6_jump 48 = .ok (.iconst 1, 1) := by decide +kernel
theorem dX6_jump_49 : decode cX6_jump 49 = .ok (.iadd, 1) := by decide +kernel
theorem dX6_jump_50 : decode cX6_jump 50 = .ok (.iload_n 2, 1) := by decide +kernel
theorem dX6_jump_51 : decode cX6_jump 51 = .ok (.iadd, 1) := by decide +kernel
theorem dX6_jump_52 : decode cX6_jump 52 = .ok (.iaload, 1) := by decide +kernel
theorem dX6_jump_53 : decode cX6_jump 53 = .ok (.iastore, 1) := by decide +kernel
theorem dX6_jump_54 : decode cX6_jump 54 = .ok (.iinc 2 1, 3) := by decide +kernel
theorem dX6_jump_57 : decode cX6_jump 57 = .ok (.goto (-28), 3) := by decide +kernel
theorem dX6_jump_60 : decode cX6_jump 60 = .ok (.aload_n 0, 1) := by decide +kernel
theorem dX6_jump_61 : decode cX6_jump 61 = .ok (.aload_n 0, 1) := by decide +kernel
theorem dX6_jump_62 : decode cX6_jump 62 = .ok (.getfield 7, 3) := by decide +kernel
theorem dX6_jump_65 : decode cX6_jump 65 = .ok (.iload_n 1, 1) := by decide +kernel
theorem dX6_jump_66 : decode cX6_jump 66 = .ok (.bipush 17, 2) := by decide +kernel
theorem dX6_jump_68 : decode cX6_jump 68 = .ok (.iadd, 1) := by decide +kernel
theorem dX6_jump_69 : decode cX6_jump 69 = .ok (.iaload, 1) := by decide +kernel
theorem dX6_jump_70 : decode cX6_jump 70 = .ok (.invokevirtual 68, 3) := by decide +kernel
theorem dX6_jump_73 : decode cX6_jump 73 = .ok (.return_, 1) := by decide +kernel
set_option maxRecDepth 20000 in
theorem ggX6_recall_X6_isScene : GoodIn wsX6_recall wsX6_isScene := goodIn_r _ [6, 7, 8, 5, 9] (by decide +kernel) (by decide +kernel)
set_option maxRecDepth 20000 in
theorem gX6_recall_X6_isScene : GoodIn wsX6_recall (va_wsS RX6 103 yX6_isScene wsX6_isScene) := goodIn_app (goodIn_of _ (by decide +kernel)) ggX6_recall_X6_isScene
set_option maxRecDepth 20000 in
theorem ggX6_recall_X6_in : GoodIn wsX6_recall wsX6_in := goodIn_r _ [9] (by decide +kernel) (by decide +kernel)
set_option maxRecDepth 20000 in
theorem gX6_recall_X6_in : GoodIn wsX6_recall (va_wsS RX6 35 yX6_in wsX6_in) := goodIn_app (goodIn_of _ (by decide +kernel)) ggX6_recall_X6_in
set_option maxRecDepth 20000 in
theorem ggX6_recall_X6_act : GoodIn wsX6_recall wsX6_act := goodIn_r _ [13, 14, 15, 2, 38, 39, 40, 41, 42, 43, 44, 45, 46, 47, 48, 49, 50, 51, 52] (by decide +kernel) (by decide +kernel)
set_option maxRecDepth 20000 in
theorem gX6_recall_X6_act : GoodIn wsX6_recall (wsV RX6 90 RX6 yX6_act wsX6_act) := goodIn_app (goodIn_of _ (by decide +kernel)) ggX6_recall_X6_act
set_option maxRecDepth 20000 in
theorem ggX6_recall_X6_at : GoodIn wsX6_recall wsX6_at := goodIn_r _ [18] (by decide +kernel) (by decide +kernel)
set_option maxRecDepth 20000 in
theorem gX6_recall_X6_at : GoodIn wsX6_recall (va_wsS RX6 65 yX6_at wsX6_at) := goodIn_app (goodIn_of _ (by decide +kernel)) ggX6_recall_X6_at
set_option maxRecDepth 20000 in
theorem ggX6_recall_X6_jump : GoodIn wsX6_recall wsX6_jump := goodIn_r _ [22, 2, 16, 17, 5, 18, 23, 24, 25, 26, 27, 28, 29, 30, 31, 32, 33, 38, 39, 40, 41, 42, 43, 44, 45, 46, 47, 48, 49, 50, 51, 52] (by decide +kernel) (by decide +kernel)
set_option maxRecDepth 20000 in
theorem gX6_recall_X6_jump : GoodIn wsX6_recall (wsV RX6 112 RX6 yX6_jump wsX6_jump) := goodIn_app (goodIn_of _ (by decide +kernel)) ggX6_recall_X6_jump
set_option maxRecDepth 20000 in
theorem ggX6_recall_X6_begin : GoodIn wsX6_recall wsX6_begin := goodIn_r _ [37, 2, 16, 17, 5, 18, 38, 39, 40, 41, 42, 43, 44, 45, 46, 47, 48, 49, 50, 51, 52] (by decide +kernel) (by decide +kernel)
set_option maxRecDepth 20000 in
theorem gX6_recall_X6_begin : GoodIn wsX6_recall (wsV RX6 115 RX6 yX6_begin wsX6_begin) := goodIn_app (goodIn_of _ (by decide +kernel)) ggX6_recall_X6_begin
theorem dX6_recall_0 : decode cX6_recall 0 = .ok (.aload_n 0, 1) := by decide +kernel
theorem dX6_recall_1 : decode cX6_recall 1 = .ok (.iconst 0, 1) := by decide +kernel
theorem dX6_recall_2 : decode cX6_recall 2 = .ok (.putfield 28, 3) := by decide +kernel
theorem dX6_recall_5 : decode cX6_recall 5 = .ok (.iload_n 1, 1) := by decide +kernel
theorem dX6_recall_6 : decode cX6_recall 6 = .ok (.invokestatic 103, 3) := by decide +kernel
theorem dX6_recall_9 : decode cX6_recall 9 = .ok (.ifCond .eq 13, 3) := by decide +kernel
theorem dX6_recall_12 : decode cX6_recall 12 = .ok (.iload_n 2, 1) := by decide +kernel
theorem dX6_recall_13 : decode cX6_recall 13 = .ok (.iconst 0, 1) := by decide +kernel
theorem dX6_recall_14 : decode cX6_recall 14 = .ok (.bipush 100, 2) := by decide +kernel
theorem dX6_recall_16 : decode cX6_recall 16 = .ok (.invokestatic 35, 3) := by decide +kernel
theorem dX6_recall_19 : decode cX6_recall 19 = .ok (.ifCond .ne 5, 3) := by decide +kernel
theorem dX6_recall_22 : decode cX6_recall 22 = .ok (.iconst (-1), 1) := by decide +kernel
theorem dX6_recall_23 : decode cX6_recall 23 = .ok (.ireturn, 1) := by decide +kernel
theorem dX6_recall_24 : decode cX6_recall 24 = .ok (.sipush 181, 3) := by decide +kernel
theorem dX6_recall_27 : decode cX6_recall 27 = .ok (.bipush 18, 2) := by decide +kernel
theorem dX6_recall_29 : decode cX6_recall 29 = .ok (.iload_n 1, 1) := by decide +kernel
theorem dX6_recall_30 : decode cX6_recall 30 = .ok (.imul, 1) := by decide +kernel
theorem dX6_recall_31 : decode cX6_recall 31 = .ok (.iadd, 1) := by decide +kernel
theorem dX6_recall_32 : decode cX6_recall 32 = .ok (.istore_n 3, 1) := by decide +kernel
theorem dX6_recall_33 : decode cX6_recall 33 = .ok (.aload_n 0, 1) := by decide +kernel
theorem dX6_recall_34 : decode cX6_recall 34 = .ok (.getfield 7, 3) := by decide +kernel
theorem dX6_recall_37 : decode cX6_recall 37 = .ok (.iload_n 3, 1) := by decide +kernel
theorem dX6_recall_38 : decode cX6_recall 38 = .ok (.iaload, 1) := by decide +kernel
theorem dX6_recall_39 : decode cX6_recall 39 = .ok (.ifCond .ne 6, 3) := by decide +kernel
theorem dX6_recall_42 : decode cX6_recall 42 = .ok (.bipush (-2), 2) := by decide +kernel
theorem dX6_recall_44 : decode cX6_recall 44 = .ok (.ireturn, 1) := by decide +kernel
theorem dX6_recall_45 : decode cX6_recall 45 = .ok (.aload_n 0, 1) := by decide +kernel
theorem dX6_recall_46 : decode cX6_recall 46 = .ok (.invokevirtual 90, 3) := by decide +kernel
theorem dX6_recall_49 : decode cX6_recall 49 = .ok (.iconst 0, 1) := by decide +kernel
theorem dX6_recall_50 : decode cX6_recall 50 = .ok (.istore 4, 2) := by decide +kernel
theorem dX6_recall_52 : decode cX6_recall 52 = .ok (.iconst 0, 1) := by decide +kernel
theorem dX6_recall_53 : decode cX6_recall 53 = .ok (.istore 5, 2) := by decide +kernel
theorem dX6_recall_55 : decode cX6_recall 55 = .ok (.iload 5, 2) := by decide +kernel
theorem dX6_recall_57 : decode cX6_recall 57 = .ok (.bipush 16, 2) := by decide +kernel
theorem dX6_recall_59 : decode cX6_recall 59 = .ok (.if_icmp .ge 43, 3) := by decide +kernel
theorem dX6_recall_62 : decode cX6_recall 62 = .ok (.iload 4, 2) := by decide +kernel
theorem dX6_recall_64 : decode cX6_recall 64 = .ok (.aload_n 0, 1) := by decide +kernel
theorem dX6_recall_65 : decode cX6_recall 65 = .ok (.getfield 7, 3) := by decide +kernel
theorem dX6_recall_68 : decode cX6_recall 68 = .ok (.iload 5, 2) := by decide +kernel
theorem dX6_recall_70 : decode cX6_recall 70 = .ok (.invokestatic 65, 3) := by decide +kernel
theorem dX6_recall_73 : decode cX6_recall 73 = .ok (.iaload, 1) := by decide +kernel
theorem dX6_recall_74 : decode cX6_recall 74 = .ok (.aload_n 0, 1) := by decide +kernel
theorem dX6_recall_75 : decode cX6_recall 75 = .ok (.getfield 7, 3) := by decide +kernel
theorem dX6_recall_78 : decode cX6_recall 78 = .ok (.iload_n 3, 1) := by decide +kernel
theorem dX6_recall_79 : decode cX6_recall 79 = .ok (.iconst 1, 1) := by decide +kernel
theorem dX6_recall_80 : decode cX6_recall 80 = .ok (.iadd, 1) := by decide +kernel
theorem dX6_recall_81 : decode cX6_recall 81 = .ok (.iload 5, 2) := by decide +kernel
theorem dX6_recall_83 : decode cX6_recall 83 = .ok (.iadd, 1) := by decide +kernel
theorem dX6_recall_84 : decode cX6_recall 84 = .ok (.iaload, 1) := by decide +kernel
theorem dX6_recall_85 : decode cX6_recall 85 = .ok (.if_icmp .eq 7, 3) := by decide +kernel
theorem dX6_recall_88 : decode cX6_recall 88 = .ok (.iconst 1, 1) := by decide +kernel
theorem dX6_recall_89 : decode cX6_recall 89 = .ok (.goto 4, 3) := by decide +kernel
theorem dX6_recall_92 : decode cX6_recall 92 = .ok (.iconst 0, 1) := by decide +kernel
theorem dX6_recall_93 : decode cX6_recall 93 = .ok (.iadd, 1) := by decide +kernel
theorem dX6_recall_94 : decode cX6_recall 94 = .ok (.istore 4, 2) := by decide +kernel
theorem dX6_recall_96 : decode cX6_recall 96 = .ok (.iinc 5 1, 3) := by decide +kernel
theorem dX6_recall_99 : decode cX6_recall 99 = .ok (.goto (-44), 3) := by decide +kernel
theorem dX6_recall_102 : decode cX6_recall 102 = .ok (.iload_n 2, 1) := by decide +kernel
theorem dX6_recall_103 : decode cX6_recall 103 = .ok (.ifCond .ne 11, 3) := by decide +kernel
theorem dX6_recall_106 : decode cX6_recall 106 = .ok (.aload_n 0, 1) := by decide +kernel
theorem dX6_recall_107 : decode cX6_recall 107 = .ok (.iload_n 3, 1) := by decide +kernel
theorem dX6_recall_108 : decode cX6_recall 108 = .ok (.invokevirtual 112, 3) := by decide +kernel
theorem dX6_recall_111 : decode cX6_recall 111 = .ok (.goto 9, 3) := by decide +kernel
theorem dX6_recall_114 : decode cX6_recall 114 = .ok (.aload_n 0, 1) := by decide +kernel
theorem dX6_recall_115 : decode cX6_recall 115 = .ok (.iload_n 3, 1) := by decide +kernel
theorem dX6_recall_116 : decode cX6_recall 116 = .ok (.iload_n 2, 1) := by decide +kernel
theorem dX6_recall_117 : decode cX6_recall 117 = .ok (.invokevirtual 115, 3) := by decide +kernel
theorem dX6_recall_120 : decode cX6_recall 120 = .ok (.iload 4, 2) := by decide +kernel
theorem dX6_recall_122 : decode cX6_recall 122 = .ok (.ireturn, 1) := by decide +kernel
set_option maxRecDepth 20000 in
theorem ggX6_run_X6_in : GoodIn wsX6_run wsX6_in := goodIn_r _ [6] (by decide +kernel) (by decide +kernel)
set_option maxRecDepth 20000 in
theorem gX6_run_X6_in : GoodIn wsX6_run (va_wsS RX6 35 yX6_in wsX6_in) := goodIn_app (goodIn_of _ (by decide +kernel)) ggX6_run_X6_in
set_option maxRecDepth 20000 in
theorem ggX6_run_X6_act : GoodIn wsX6_run wsX6_act := goodIn_r _ [10, 11, 12, 2, 66, 67, 68, 69, 70, 71, 72, 73, 74, 75, 76, 77, 78, 79, 80] (by decide +kernel) (by decide +kernel)
set_option maxRecDepth 20000 in
theorem gX6_run_X6_act : GoodIn wsX6_run (wsV RX6 90 RX6 yX6_act wsX6_act) := goodIn_app (goodIn_of _ (by decide +kernel)) ggX6_run_X6_act
set_option maxRecDepth 20000 in
theorem ggX6_run_X6_tick : GoodIn wsX6_run wsX6_tick := goodIn_r _ [16, 2, 17, 18, 19, 5, 20, 21, 22, 23, 24, 25, 26, 27, 28, 29, 30, 31, 32, 33, 34, 35, 36, 37, 38, 39, 40, 41, 42, 43, 44, 45, 46, 47, 48, 49, 50, 51, 52, 53, 54, 55, 56, 57, 58, 59, 60, 61, 62, 63, 64, 65, 66, 67, 68, 69, 70, 71, 72, 73, 74, 75, 76, 77, 78, 79, 80] (by decide +kernel) (by decide +kernel)
set_option maxRecDepth 20000 in
theorem gX6_run_X6_tick : GoodIn wsX6_run (wsV RX6 119 RX6 yX6_tick wsX6_tick) := goodIn_app (goodIn_of _ (by decide +kernel)) ggX6_run_X6_tick
theorem dX6_run_0 : decode cX6_run 0 = .ok (.aload_n 0, 1) := by decide +kernel
theorem dX6_run_1 : decode cX6_run 1 = .ok (.iconst 0, 1) := by decide +kernel
theorem dX6_run_2 : decode cX6_run 2 = .ok (.putfield 28, 3) := by decide +kernel
theorem dX6_run_5 : decode cX6_run 5 = .ok (.iload_n 1, 1) := by decide +kernel
theorem dX6_run_6 : decode cX6_run 6 = .ok (.iconst 1, 1) := by decide +kernel
theorem dX6_run_7 : decode cX6_run 7 = .ok (.bipush 100, 2) := by decide +kernel
theorem dX6_run_9 : decode cX6_run 9 = .ok (.invokestatic 35, 3) := by decide +kernel
theorem dX6_run_12 : decode cX6_run 12 = .ok (.ifCond .ne 5, 3) := by decide +kernel
theorem dX6_run_15 : decode cX6_run 15 = .ok (.iconst (-1), 1) := by decide +kernel
theorem dX6_run_16 : decode cX6_run 16 = .ok (.ireturn, 1) := by decide +kernel
theorem dX6_run_17 : decode cX6_run 17 = .ok (.aload_n 0, 1) := by decide +kernel
theorem dX6_run_18 : decode cX6_run 18 = .ok (.getfield 7, 3) := by decide +kernel
theorem dX6_run_21 : decode cX6_run 21 = .ok (.sipush 140, 3) := by decide +kernel
theorem dX6_run_24 : decode cX6_run 24 = .ok (.iaload, 1) := by decide +kernel
theorem dX6_run_25 : decode cX6_run 25 = .ok (.iload_n 1, 1) := by decide +kernel
theorem dX6_run_26 : decode cX6_run 26 = .ok (.iadd, 1) := by decide +kernel
theorem dX6_run_27 : decode cX6_run 27 = .ok (.sipush 10000, 3) := by decide +kernel
theorem dX6_run_30 : decode cX6_run 30 = .ok (.if_icmp .le 6, 3) := by decide +kernel
theorem dX6_run_33 : decode cX6_run 33 = .ok (.bipush (-3), 2) := by decide +kernel
theorem dX6_run_35 : decode cX6_run 35 = .ok (.ireturn, 1) := by decide +kernel
theorem dX6_run_36 : decode cX6_run 36 = .ok (.aload_n 0, 1) := by decide +kernel
theorem dX6_run_37 : decode cX6_run 37 = .ok (.invokevirtual 90, 3) := by decide +kernel
theorem dX6_run_40 : decode cX6_run 40 = .ok (.iconst 0, 1) := by decide +kernel
theorem dX6_run_41 : decode cX6_run 41 = .ok (.istore_n 2, 1) := by decide +kernel
theorem dX6_run_42 : decode cX6_run 42 = .ok (.iload_n 2, 1) := by decide +kernel
theorem dX6_run_43 : decode cX6_run 43 = .ok (.iload_n 1, 1) := by decide +kernel
theorem dX6_run_44 : decode cX6_run 44 = .ok (.if_icmp .ge 13, 3) := by decide +kernel
theorem dX6_run_47 : decode cX6_run 47 = .ok (.aload_n 0, 1) := by decide +kernel
theorem dX6_run_48 : decode cX6_run 48 = .ok (.invokevirtual 119, 3) := by decide +kernel
theorem dX6_run_51 : decode cX6_run 51 = .ok (.iinc 2 1, 3) := by decide +kernel
theorem dX6_run_54 : decode cX6_run 54 = .ok (.goto (-12), 3) := by decide +kernel
theorem dX6_run_57 : decode cX6_run 57 = .ok (.aload_n 0, 1) := by decide +kernel
theorem dX6_run_58 : decode cX6_run 58 = .ok (.getfield 7, 3) := by decide +kernel
theorem dX6_run_61 : decode cX6_run 61 = .ok (.sipush 141, 3) := by decide +kernel
theorem dX6_run_64 : decode cX6_run 64 = .ok (.iaload, 1) := by decide +kernel
theorem dX6_run_65 : decode cX6_run 65 = .ok (.ireturn, 1) := by decide +kernel
set_option maxRecDepth 20000 in
theorem ggX6_reset_X6_act : GoodIn wsX6_reset wsX6_act := goodIn_r _ [7, 8, 9, 2, 10, 11, 12, 13, 14, 15, 16, 17, 18, 19, 20, 21, 22, 23, 24] (by decide +kernel) (by decide +kernel)
set_option maxRecDepth 20000 in
theorem gX6_reset_X6_act : GoodIn wsX6_reset (wsV RX6 90 RX6 yX6_act wsX6_act) := goodIn_app (goodIn_of _ (by decide +kernel)) ggX6_reset_X6_act
theorem dX6_reset_0 : decode cX6_reset 0 = .ok (.aload_n 0, 1) := by decide +kernel
theorem dX6_reset_1 : decode cX6_reset 1 = .ok (.iconst 0, 1) := by decide +kernel
theorem dX6_reset_2 : decode cX6_reset 2 = .ok (.putfield 28, 3) := by decide +kernel
theorem dX6_reset_5 : decode cX6_reset 5 = .ok (.aload_n 0, 1) := by decide +kernel
theorem dX6_reset_6 : decode cX6_reset 6 = .ok (.invokevirtual 90, 3) := by decide +kernel
theorem dX6_reset_9 : decode cX6_reset 9 = .ok (.aload_n 0, 1) := by decide +kernel
theorem dX6_reset_10 : decode cX6_reset 10 = .ok (.getfield 7, 3) := by decide +kernel
theorem dX6_reset_13 : decode cX6_reset 13 = .ok (.sipush 142, 3) := by decide +kernel
theorem dX6_reset_16 : decode cX6_reset 16 = .ok (.iaload, 1) := by decide +kernel
theorem dX6_reset_17 : decode cX6_reset 17 = .ok (.istore_n 1, 1) := by decide +kernel
theorem dX6_reset_18 : decode cX6_reset 18 = .ok (.aload_n 0, 1) := by decide +kernel
theorem dX6_reset_19 : decode cX6_reset 19 = .ok (.getfield 7, 3) := by decide +kernel
theorem dX6_reset_22 : decode cX6_reset 22 = .ok (.sipush 142, 3) := by decide +kernel
theorem dX6_reset_25 : decode cX6_reset 25 = .ok (.iconst 0, 1) := by decide +kernel
theorem dX6_reset_26 : decode cX6_reset 26 = .ok (.iastore, 1) := by decide +kernel
theorem dX6_reset_27 : decode cX6_reset 27 = .ok (.aload_n 0, 1) := by decide +kernel
theorem dX6_reset_28 : decode cX6_reset 28 = .ok (.getfield 7, 3) := by decide +kernel
theorem dX6_reset_31 : decode cX6_reset 31 = .ok (.sipush 143, 3) := by decide +kernel
theorem dX6_reset_34 : decode cX6_reset 34 = .ok (.iconst 0, 1) := by decide +kernel
theorem dX6_reset_35 : decode cX6_reset 35 = .ok (.iastore, 1) := by decide +kernel
theorem dX6_reset_36 : decode cX6_reset 36 = .ok (.iload_n 1, 1) := by decide +kernel
theorem dX6_reset_37 : decode cX6_reset 37 = .ok (.ireturn, 1) := by decide +kernel
theorem dX6_undo_0 : decode cX6_undo 0 = .ok (.aload_n 0, 1) := by decide +kernel
theorem dX6_undo_1 : decode cX6_undo 1 = .ok (.iconst 0, 1) := by decide +kernel
theorem dX6_undo_2 : decode cX6_undo 2 = .ok (.putfield 28, 3) := by decide +kernel
theorem dX6_undo_5 : decode cX6_undo 5 = .ok (.aload_n 0, 1) := by decide +kernel
theorem dX6_undo_6 : decode cX6_undo 6 = .ok (.getfield 32, 3) := by decide +kernel
theorem dX6_undo_9 : decode cX6_undo 9 = .ok (.ifCond .ne 6, 3) := by decide +kernel
theorem dX6_undo_12 : decode cX6_undo 12 = .ok (.bipush (-2), 2) := by decide +kernel
theorem dX6_undo_14 : decode cX6_undo 14 = .ok (.ireturn, 1) := by decide +kernel
theorem dX6_undo_15 : decode cX6_undo 15 = .ok (.aload_n 0, 1) := by decide +kernel
theorem dX6_undo_16 : decode cX6_undo 16 = .ok (.dup, 1) := by decide +kernel
theorem dX6_undo_17 : decode cX6_undo 17 = .ok (.getfield 32, 3) := by decide +kernel
theorem dX6_undo_20 : decode cX6_undo 20 = .ok (.iconst 1, 1) := by decide +kernel
theorem dX6_undo_21 : decode cX6_undo 21 = .ok (.isub, 1) := by decide +kernel
theorem dX6_undo_22 : decode cX6_undo 22 = .ok (.putfield 32, 3) := by decide +kernel
theorem dX6_undo_25 : decode cX6_undo 25 = .ok (.iconst 0, 1) := by decide +kernel
theorem dX6_undo_26 : decode cX6_undo 26 = .ok (.istore_n 1, 1) := by decide +kernel
theorem dX6_undo_27 : decode cX6_undo 27 = .ok (.iload_n 1, 1) := by decide +kernel
theorem dX6_undo_28 : decode cX6_undo 28 = .ok (.sipush 289, 3) := by decide +kernel
theorem dX6_undo_31 : decode cX6_undo 31 = .ok (.if_icmp .ge 30, 3) := by decide +kernel
theorem dX6_undo_34 : decode cX6_undo 34 = .ok (.aload_n 0, 1) := by decide +kernel
theorem dX6_undo_35 : decode cX6_undo 35 = .ok (.getfield 7, 3) := by decide +kernel
theorem dX6_undo_38 : decode cX6_undo 38 = .ok (.iload_n 1, 1) := by decide +kernel
theorem dX6_undo_39 : decode cX6_undo 39 = .ok (.aload_n 0, 1) := by decide +kernel
theorem dX6_undo_40 : decode cX6_undo 40 = .ok (.getfield 16, 3) := by decide +kernel
theorem dX6_undo_43 : decode cX6_undo 43 = .ok (.sipush 289, 3) := by decide +kernel
theorem dX6_undo_46 : decode cX6_undo 46 = .ok (.aload_n 0, 1) := by decide +kernel
theorem dX6_undo_47 : decode cX6_undo 47 = .ok (.getfield 32, 3) := by decide +kernel
theorem dX6_undo_50 : decode cX6_undo 50 = .ok (.imul, 1) := by decide +kernel
theorem dX6_undo_51 : decode cX6_undo 51 = .ok (.iload_n 1, 1) := by decide +kernel
theorem dX6_undo_52 : decode cX6_undo 52 = .ok (.iadd, 1) := by decide +kernel
theorem dX6_undo_53 : decode cX6_undo 53 = .ok (.iaload, 1) := by decide +kernel
theorem dX6_undo_54 : decode cX6_undo 54 = .ok (.iastore, 1) := by decide +kernel
theorem dX6_undo_55 : decode cX6_undo 55 = .ok (.iinc 1 1, 3) := by decide +kernel
theorem dX6_undo_58 : decode cX6_undo 58 = .ok (.goto (-31), 3) := by decide +kernel
theorem dX6_undo_61 : decode cX6_undo 61 = .ok (.aload_n 0, 1) := by decide +kernel
theorem dX6_undo_62 : decode cX6_undo 62 = .ok (.getfield 32, 3) := by decide +kernel
theorem dX6_undo_65 : decode cX6_undo 65 = .ok (.ireturn, 1) := by decide +kernel
set_option maxRecDepth 20000 in
theorem ggX6_append_X6_in : GoodIn wsX6_append wsX6_in := goodIn_r _ [7] (by decide +kernel) (by decide +kernel)
set_option maxRecDepth 20000 in
theorem gX6_append_X6_in : GoodIn wsX6_append (va_wsS RX6 35 yX6_in wsX6_in) := goodIn_app (goodIn_of _ (by decide +kernel)) ggX6_append_X6_in
theorem dX6_append_0 : decode cX6_append 0 = .ok (.aload_n 0, 1) := by decide +kernel
theorem dX6_append_1 : decode cX6_append 1 = .ok (.iconst 0, 1) := by decide +kernel
theorem dX6_append_2 : decode cX6_append 2 = .ok (.putfield 28, 3) := by decide +kernel
theorem dX6_append_5 : decode cX6_append 5 = .ok (.iload_n 1, 1) := by decide +kernel
theorem dX6_append_6 : decode cX6_append 6 = .ok (.iconst 1, 1) := by decide +kernel
theorem dX6_append_7 : decode cX6_append 7 = .ok (.sipush 255, 3) := by decide +kernel
theorem dX6_append_10 : decode cX6_append 10 = .ok (.invokestatic 35, 3) := by decide +kernel
theorem dX6_append_13 : decode cX6_append 13 = .ok (.ifCond .ne 5, 3) := by decide +kernel
theorem dX6_append_16 : decode cX6_append 16 = .ok (.iconst (-1), 1) := by decide +kernel
theorem dX6_append_17 : decode cX6_append 17 = .ok (.ireturn, 1) := by decide +kernel
theorem dX6_append_18 : decode cX6_append 18 = .ok (.aload_n 0, 1) := by decide +kernel
theorem dX6_append_19 : decode cX6_append 19 = .ok (.getfield 122, 3) := by decide +kernel
theorem dX6_append_22 : decode cX6_append 22 = .ok (.sipush 140, 3) := by decide +kernel
theorem dX6_append_25 : decode cX6_append 25 = .ok (.if_icmp .ne 6, 3) := by decide +kernel
theorem dX6_append_28 : decode cX6_append 28 = .ok (.bipush (-3), 2) := by decide +kernel
theorem dX6_append_30 : decode cX6_append 30 = .ok (.ireturn, 1) := by decide +kernel
theorem dX6_append_31 : decode cX6_append 31 = .ok (.aload_n 0, 1) := by decide +kernel
theorem dX6_append_32 : decode cX6_append 32 = .ok (.getfield 19, 3) := by decide +kernel
theorem dX6_append_35 : decode cX6_append 35 = .ok (.aload_n 0, 1) := by decide +kernel
theorem dX6_append_36 : decode cX6_append 36 = .ok (.getfield 122, 3) := by decide +kernel
theorem dX6_append_39 : decode cX6_append 39 = .ok (.iload_n 1, 1) := by decide +kernel
theorem dX6_append_40 : decode cX6_append 40 = .ok (.iastore, 1) := by decide +kernel
theorem dX6_append_41 : decode cX6_append 41 = .ok (.aload_n 0, 1) := by decide +kernel
theorem dX6_append_42 : decode cX6_append 42 = .ok (.dup, 1) := by decide +kernel
theorem dX6_append_43 : decode cX6_append 43 = .ok (.getfield 122, 3) := by decide +kernel
theorem dX6_append_46 : decode cX6_append 46 = .ok (.iconst 1, 1) := by decide +kernel
theorem dX6_append_47 : decode cX6_append 47 = .ok (.iadd, 1) := by decide +kernel
theorem dX6_append_48 : decode cX6_append 48 = .ok (.putfield 122, 3) := by decide +kernel
theorem dX6_append_51 : decode cX6_append 51 = .ok (.aload_n 0, 1) := by decide +kernel
theorem dX6_append_52 : decode cX6_append 52 = .ok (.getfield 122, 3) := by decide +kernel
theorem dX6_append_55 : decode cX6_append 55 = .ok (.ireturn, 1) := by decide +kernel
theorem dX6_clearText_0 : decode cX6_clearText 0 = .ok (.aload_n 0, 1) := by decide +kernel
theorem dX6_clearText_1 : decode cX6_clearText 1 = .ok (.iconst 0, 1) := by decide +kernel
theorem dX6_clearText_2 : decode cX6_clearText 2 = .ok (.putfield 28, 3) := by decide +kernel
theorem dX6_clearText_5 : decode cX6_clearText 5 = .ok (.aload_n 0, 1) := by decide +kernel
theorem dX6_clearText_6 : decode cX6_clearText 6 = .ok (.getfield 122, 3) := by decide +kernel
theorem dX6_clearText_9 : decode cX6_clearText 9 = .ok (.istore_n 1, 1) := by decide +kernel
theorem dX6_clearText_10 : decode cX6_clearText 10 = .ok (.aload_n 0, 1) := by decide +kernel
theorem dX6_clearText_11 : decode cX6_clearText 11 = .ok (.iconst 0, 1) := by decide +kernel
theorem dX6_clearText_12 : decode cX6_clearText 12 = .ok (.putfield 122, 3) := by decide +kernel
theorem dX6_clearText_15 : decode cX6_clearText 15 = .ok (.iload_n 1, 1) := by decide +kernel
theorem dX6_clearText_16 : decode cX6_clearText 16 = .ok (.ireturn, 1) := by decide +kernel
theorem dX6_here_0 : decode cX6_here 0 = .ok (.aload_n 0, 1) := by decide +kernel
theorem dX6_here_1 : decode cX6_here 1 = .ok (.getfield 125, 3) := by decide +kernel
theorem dX6_here_4 : decode cX6_here 4 = .ok (.aload_n 0, 1) := by decide +kernel
theorem dX6_here_5 : decode cX6_here 5 = .ok (.getfield 122, 3) := by decide +kernel
theorem dX6_here_8 : decode cX6_here 8 = .ok (.if_icmp .ge 30, 3) := by decide +kernel
theorem dX6_here_11 : decode cX6_here 11 = .ok (.aload_n 0, 1) := by decide +kernel
theorem dX6_here_12 : decode cX6_here 12 = .ok (.getfield 19, 3) := by decide +kernel
theorem dX6_here_15 : decode cX6_here 15 = .ok (.aload_n 0, 1) := by decide +kernel
theorem dX6_here_16 : decode cX6_here 16 = .ok (.getfield 125, 3) := by decide +kernel
theorem dX6_here_19 : decode cX6_here 19 = .ok (.iaload, 1) := by decide +kernel
theorem dX6_here_20 : decode cX6_here 20 = .ok (.bipush 32, 2) := by decide +kernel
theorem dX6_here_22 : decode cX6_here 22 = .ok (.if_icmp .ne 16, 3) := by decide +kernel
theorem dX6_here_25 : decode cX6_here 25 = .ok (.aload_n 0, 1) := by decide +kernel
theorem dX6_here_26 : decode cX6_here 26 = .ok (.dup, 1) := by decide +kernel
theorem dX6_here_27 : decode cX6_here 27 = .ok (.getfield 125, 3) := by decide +kernel
theorem dX6_here_30 : decode cX6_here 30 = .ok (.iconst 1, 1) := by decide +kernel
theorem dX6_here_31 : decode cX6_here 31 = .ok (.iadd, 1) := by decide +kernel
theorem dX6_here_32 : decode cX6_here 32 = .ok (.putfield 125, 3) := by decide +kernel
theorem dX6_here_35 : decode cX6_here 35 = .ok (.goto (-35), 3) := by decide +kernel
theorem dX6_here_38 : decode cX6_here 38 = .ok (.aload_n 0, 1) := by decide +kernel
theorem dX6_here_39 : decode cX6_here 39 = .ok (.getfield 125, 3) := by decide +kernel
theorem dX6_here_42 : decode cX6_here 42 = .ok (.aload_n 0, 1) := by decide +kernel
theorem dX6_here_43 : decode cX6_here 43 = .ok (.getfield 122, 3) := by decide +kernel
theorem dX6_here_46 : decode cX6_here 46 = .ok (.if_icmp .ge 15, 3) := by decide +kernel
theorem dX6_here_49 : decode cX6_here 49 = .ok (.aload_n 0, 1) := by decide +kernel
theorem dX6_here_50 : decode cX6_here 50 = .ok (.getfield 19, 3) := by decide +kernel
theorem dX6_here_53 : decode cX6_here 53 = .ok (.aload_n 0, 1) := by decide +kernel
theorem dX6_here_54 : decode cX6_here 54 = .ok (.getfield 125, 3) := by decide +kernel
theorem dX6_here_57 : decode cX6_here 57 = .ok (.iaload, 1) := by decide +kernel
theorem dX6_here_58 : decode cX6_here 58 = .ok (.goto 4, 3) := by decide +kernel
theorem dX6_here_61 : decode cX6_here 61 = .ok (.iconst (-1), 1) := by decide +kernel
theorem dX6_here_62 : decode cX6_here 62 = .ok (.ireturn, 1) := by decide +kernel
set_option maxRecDepth 20000 in
theorem ggX6_reads_X6_here : GoodIn wsX6_reads wsX6_here := goodIn_r _ [10, 1, 2, 3, 14, 15, 16, 17, 18, 19, 20, 21, 22, 23, 24, 25, 26, 27, 28] (by decide +kernel) (by decide +kernel)
set_option maxRecDepth 20000 in
theorem gX6_reads_X6_here : GoodIn wsX6_reads (wsV RX6 128 RX6 yX6_here wsX6_here) := goodIn_app (goodIn_of _ (by decide +kernel)) ggX6_reads_X6_here
set_option maxRecDepth 20000 in
theorem ggX6_reads_X6_in : GoodIn wsX6_reads wsX6_in := goodIn_r _ [13] (by decide +kernel) (by decide +kernel)
set_option maxRecDepth 20000 in
theorem gX6_reads_X6_in : GoodIn wsX6_reads (va_wsS RX6 35 yX6_in wsX6_in) := goodIn_app (goodIn_of _ (by decide +kernel)) ggX6_reads_X6_in
theorem dX6_reads_0 : decode cX6_reads 0 = .ok (.aload_n 0, 1) := by decide +kernel
theorem dX6_reads_1 : decode cX6_reads 1 = .ok (.invokevirtual 128, 3) := by decide +kernel
theorem dX6_reads_4 : decode cX6_reads 4 = .ok (.istore_n 3, 1) := by decide +kernel
theorem dX6_reads_5 : decode cX6_reads 5 = .ok (.aload_n 0, 1) := by decide +kernel
theorem dX6_reads_6 : decode cX6_reads 6 = .ok (.getfield 125, 3) := by decide +kernel
theorem dX6_reads_9 : decode cX6_reads 9 = .ok (.istore 4, 2) := by decide +kernel
theorem dX6_reads_11 : decode cX6_reads 11 = .ok (.iconst 0, 1) := by decide +kernel
theorem dX6_reads_12 : decode cX6_reads 12 = .ok (.istore 5, 2) := by decide +kernel
theorem dX6_reads_14 : decode cX6_reads 14 = .ok (.aload_n 0, 1) := by decide +kernel
theorem dX6_reads_15 : decode cX6_reads 15 = .ok (.getfield 125, 3) := by decide +kernel
theorem dX6_reads_18 : decode cX6_reads 18 = .ok (.aload_n 0, 1) := by decide +kernel
theorem dX6_reads_19 : decode cX6_reads 19 = .ok (.getfield 122, 3) := by decide +kernel
theorem dX6_reads_22 : decode cX6_reads 22 = .ok (.if_icmp .ge 67, 3) := by decide +kernel
theorem dX6_reads_25 : decode cX6_reads 25 = .ok (.aload_n 0, 1) := by decide +kernel
theorem dX6_reads_26 : decode cX6_reads 26 = .ok (.getfield 19, 3) := by decide +kernel
theorem dX6_reads_29 : decode cX6_reads 29 = .ok (.aload_n 0, 1) := by decide +kernel
theorem dX6_reads_30 : decode cX6_reads 30 = .ok (.getfield 125, 3) := by decide +kernel
theorem dX6_reads_33 : decode cX6_reads 33 = .ok (.iaload, 1) := by decide +kernel
theorem dX6_reads_34 : decode cX6_reads 34 = .ok (.bipush 48, 2) := by decide +kernel
theorem dX6_reads_36 : decode cX6_reads 36 = .ok (.bipush 57, 2) := by decide +kernel
theorem dX6_reads_38 : decode cX6_reads 38 = .ok (.invokestatic 35, 3) := by decide +kernel
theorem dX6_reads_41 : decode cX6_reads 41 = .ok (.ifCond .eq 48, 3) := by decide +kernel
theorem dX6_reads_44 : decode cX6_reads 44 = .ok (.iload 5, 2) := by decide +kernel
theorem dX6_reads_46 : decode cX6_reads 46 = .ok (.ldc 131, 2) := by decide +kernel
theorem dX6_reads_48 : decode cX6_reads 48 = .ok (.if_icmp .ge 24, 3) := by decide +kernel
theorem dX6_reads_51 : decode cX6_reads 51 = .ok (.bipush 10, 2) := by decide +kernel
theorem dX6_reads_53 : decode cX6_reads 53 = .ok (.iload 5, 2) := by decide +kernel
theorem dX6_reads_55 : decode cX6_reads 55 = .ok (.imul, 1) := by decide +kernel
theorem dX6_reads_56 : decode cX6_reads 56 = .ok (.aload_n 0, 1) := by decide +kernel
theorem dX6_reads_57 : decode cX6_reads 57 = .ok (.getfield 19, 3) := by decide +kernel
theorem dX6_reads_60 : decode cX6_reads 60 = .ok (.aload_n 0, 1) := by decide +kernel
theorem dX6_reads_61 : decode cX6_reads 61 = .ok (.getfield 125, 3) := by decide +kernel
theorem dX6_reads_64 : decode cX6_reads 64 = .ok (.iaload, 1) := by decide +kernel
theorem dX6_reads_65 : decode cX6_reads 65 = .ok (.iadd, 1) := by decide +kernel
theorem dX6_reads_66 : decode cX6_reads 66 = .ok (.bipush 48, 2) := by decide +kernel
theorem dX6_reads_68 : decode cX6_reads 68 = .ok (.isub, 1) := by decide +kernel
theorem dX6_reads_69 : decode cX6_reads 69 = .ok (.goto 5, 3) := by decide +kernel
theorem dX6_reads_72 : decode cX6_reads 72 = .ok (.iload 5, 2) := by decide +kernel
theorem dX6_reads_74 : decode cX6_reads 74 = .ok (.istore 5, 2) := by decide +kernel
theorem dX6_reads_76 : decode cX6_reads 76 = .ok (.aload_n 0, 1) := by decide +kernel
theorem dX6_reads_77 : decode cX6_reads 77 = .ok (.dup, 1) := by decide +kernel
theorem dX6_reads_78 : decode cX6_reads 78 = .ok (.getfield 125, 3) := by decide +kernel
theorem dX6_reads_81 : decode cX6_reads 81 = .ok (.iconst 1, 1) := by decide +kernel
theorem dX6_reads_82 : decode cX6_reads 82 = .ok (.iadd, 1) := by decide +kernel
theorem dX6_reads_83 : decode cX6_reads 83 = .ok (.putfield 125, 3) := by decide +kernel
theorem dX6_reads_86 : decode cX6_reads 86 = .ok (.goto (-72), 3) := by decide +kernel
theorem dX6_reads_89 : decode cX6_reads 89 = .ok (.aload_n 0, 1) := by decide +kernel
theorem dX6_reads_90 : decode cX6_reads 90 = .ok (.getfield 125, 3) := by decide +kernel
theorem dX6_reads_93 : decode cX6_reads 93 = .ok (.iload 4, 2) := by decide +kernel
theorem dX6_reads_95 : decode cX6_reads 95 = .ok (.if_icmp .le 34, 3) := by decide +kernel
theorem dX6_reads_98 : decode cX6_reads 98 = .ok (.iload_n 3, 1) := by decide +kernel
theorem dX6_reads_99 : decode cX6_reads 99 = .ok (.bipush 48, 2) := by decide +kernel
theorem dX6_reads_101 : decode cX6_reads 101 = .ok (.if_icmp .ne 14, 3) := by decide +kernel
theorem dX6_reads_104 : decode cX6_reads 104 = .ok (.aload_n 0, 1) := by decide +kernel
theorem dX6_reads_105 : decode cX6_reads 105 = .ok (.getfield 125, 3) := by decide +kernel
theorem dX6_reads_108 : decode cX6_reads 108 = .ok (.iload 4, 2) := by decide +kernel
theorem dX6_reads_110 : decode cX6_reads 110 = .ok (.iconst 1, 1) := by decide +kernel
theorem dX6_reads_111 : decode cX6_reads 111 = .ok (.iadd, 1) := by decide +kernel
theorem dX6_reads_112 : decode cX6_reads 112 = .ok (.if_icmp .ne 17, 3) := by decide +kernel
theorem dX6_reads_115 : decode cX6_reads 115 = .ok (.iload 5, 2) := by decide +kernel
theorem dX6_reads_117 : decode cX6_reads 117 = .ok (.iload_n 1, 1) := by decide +kernel
theorem dX6_reads_118 : decode cX6_reads 118 = .ok (.iload_n 2, 1) := by decide +kernel
theorem dX6_reads_119 : decode cX6_reads 119 = .ok (.invokestatic 35, 3) := by decide +kernel
theorem dX6_reads_122 : decode cX6_reads 122 = .ok (.ifCond .eq 7, 3) := by decide +kernel
theorem dX6_reads_125 : decode cX6_reads 125 = .ok (.iconst 1, 1) := by decide +kernel
theorem dX6_reads_126 : decode cX6_reads 126 = .ok (.goto 4, 3) := by decide +kernel
theorem dX6_reads_129 : decode cX6_reads 129 = .ok (.iconst 0, 1) := by decide +kernel
theorem dX6_reads_130 : decode cX6_reads 130 = .ok (.istore 6, 2) := by decide +kernel
theorem dX6_reads_132 : decode cX6_reads 132 = .ok (.aload_n 0, 1) := by decide +kernel
theorem dX6_reads_133 : decode cX6_reads 133 = .ok (.iload 6, 2) := by decide +kernel
theorem dX6_reads_135 : decode cX6_reads 135 = .ok (.ifCond .eq 10, 3) := by decide +kernel
theorem dX6_reads_138 : decode cX6_reads 138 = .ok (.aload_n 0, 1) := by decide +kernel
theorem dX6_reads_139 : decode cX6_reads 139 = .ok (.getfield 125, 3) := by decide +kernel
theorem dX6_reads_142 : decode cX6_reads 142 = .ok (.goto 5, 3) := by decide +kernel
theorem dX6_reads_145 : decode cX6_reads 145 = .ok (.iload 4, 2) := by decide +kernel
theorem dX6_reads_147 : decode cX6_reads 147 = .ok (.putfield 125, 3) := by decide +kernel
theorem dX6_reads_150 : decode cX6_reads 150 = .ok (.aload_n 0, 1) := by decide +kernel
theorem dX6_reads_151 : decode cX6_reads 151 = .ok (.iload 5, 2) := by decide +kernel
theorem dX6_reads_153 : decode cX6_reads 153 = .ok (.putfield 132, 3) := by decide +kernel
theorem dX6_reads_156 : decode cX6_reads 156 = .ok (.iload 6, 2) := by decide +kernel
theorem dX6_reads_158 : decode cX6_reads 158 = .ok (.ireturn, 1) := by decide +kernel
set_option maxRecDepth 20000 in
theorem ggX6_takes_X6_here : GoodIn wsX6_takes wsX6_here := goodIn_r _ [6, 1, 7, 8, 9, 10, 11, 12, 13, 14, 15, 16, 17, 18, 19, 20, 21, 22, 23] (by decide +kernel) (by decide +kernel)
set_option maxRecDepth 20000 in
theorem gX6_takes_X6_here : GoodIn wsX6_takes (wsV RX6 128 RX6 yX6_here wsX6_here) := goodIn_app (goodIn_of _ (by decide +kernel)) ggX6_takes_X6_here
theorem dX6_takes_0 : decode cX6_takes 0 = .ok (.aload_n 0, 1) := by decide +kernel
theorem dX6_takes_1 : decode cX6_takes 1 = .ok (.invokevirtual 128, 3) := by decide +kernel
theorem dX6_takes_4 : decode cX6_takes 4 = .ok (.iload_n 1, 1) := by decide +kernel
theorem dX6_takes_5 : decode cX6_takes 5 = .ok (.if_icmp .ne 7, 3) := by decide +kernel
theorem dX6_takes_8 : decode cX6_takes 8 = .ok (.iconst 1, 1) := by decide +kernel
theorem dX6_takes_9 : decode cX6_takes 9 = .ok (.goto 4, 3) := by decide +kernel
theorem dX6_takes_12 : decode cX6_takes 12 = .ok (.iconst 0, 1) := by decide +kernel
theorem dX6_takes_13 : decode cX6_takes 13 = .ok (.istore_n 2, 1) := by decide +kernel
theorem dX6_takes_14 : decode cX6_takes 14 = .ok (.aload_n 0, 1) := by decide +kernel
theorem dX6_takes_15 : decode cX6_takes 15 = .ok (.dup, 1) := by decide +kernel
theorem dX6_takes_16 : decode cX6_takes 16 = .ok (.getfield 125, 3) := by decide +kernel
theorem dX6_takes_19 : decode cX6_takes 19 = .ok (.iload_n 2, 1) := by decide +kernel
theorem dX6_takes_20 : decode cX6_takes 20 = .ok (.ifCond .eq 7, 3) := by decide +kernel
theorem dX6_takes_23 : decode cX6_takes 23 = .ok (.iconst 1, 1) := by decide +kernel
theorem dX6_takes_24 : decode cX6_takes 24 = .ok (.goto 4, 3) := by decide +kernel
theorem dX6_takes_27 : decode cX6_takes 27 = .ok (.iconst 0, 1) := by decide +kernel
theorem dX6_takes_28 : decode cX6_takes 28 = .ok (.iadd, 1) := by decide +kernel
theorem dX6_takes_29 : decode cX6_takes 29 = .ok (.putfield 125, 3) := by decide +kernel
theorem dX6_takes_32 : decode cX6_takes 32 = .ok (.iload_n 2, 1) := by decide +kernel
theorem dX6_takes_33 : decode cX6_takes 33 = .ok (.ireturn, 1) := by decide +kernel
set_option maxRecDepth 20000 in
theorem ggX6_readsGroups_X6_here : GoodIn wsX6_readsGroups wsX6_here := goodIn_r _ [9, 1, 2, 3, 16, 17, 18, 19, 20, 21, 22, 23, 24, 25, 26, 27, 28, 29, 30] (by decide +kernel) (by decide +kernel)
set_option maxRecDepth 20000 in
theorem gX6_readsGroups_X6_here : GoodIn wsX6_readsGroups (wsV RX6 128 RX6 yX6_here wsX6_here) := goodIn_app (goodIn_of _ (by decide +kernel)) ggX6_readsGroups_X6_here
set_option maxRecDepth 20000 in
theorem ggX6_readsGroups_X6_in : GoodIn wsX6_readsGroups wsX6_in := goodIn_r _ [12] (by decide +kernel) (by decide +kernel)
set_option maxRecDepth 20000 in
theorem gX6_readsGroups_X6_in : GoodIn wsX6_readsGroups (va_wsS RX6 35 yX6_in wsX6_in) := goodIn_app (goodIn_of _ (by decide +kernel)) ggX6_readsGroups_X6_in
set_option maxRecDepth 20000 in
theorem ggX6_readsGroups_X6_has : GoodIn wsX6_readsGroups wsX6_has := goodIn_r _ [15] (by decide +kernel) (by decide +kernel)
set_option maxRecDepth 20000 in
theorem gX6_readsGroups_X6_has : GoodIn wsX6_readsGroups (va_wsS RX6 51 yX6_has wsX6_has) := goodIn_app (goodIn_of _ (by decide +kernel)) ggX6_readsGroups_X6_has
theorem dX6_readsGroups_0 : decode cX6_readsGroups 0 = .ok (.iconst 0, 1) := by decide +kernel
theorem dX6_readsGroups_1 : decode cX6_readsGroups 1 = .ok (.istore_n 1, 1) := by decide +kernel
theorem dX6_readsGroups_2 : decode cX6_readsGroups 2 = .ok (.aload_n 0, 1) := by decide +kernel
theorem dX6_readsGroups_3 : decode cX6_readsGroups 3 = .ok (.invokevirtual 128, 3) := by decide +kernel
theorem dX6_readsGroups_6 : decode cX6_readsGroups 6 = .ok (.bipush 48, 2) := by decide +kernel
theorem dX6_readsGroups_8 : decode cX6_readsGroups 8 = .ok (.bipush 51, 2) := by decide +kernel
theorem dX6_readsGroups_10 : decode cX6_readsGroups 10 = .ok (.invokestatic 35, 3) := by decide +kernel
theorem dX6_readsGroups_13 : decode cX6_readsGroups 13 = .ok (.ifCond .ne 5, 3) := by decide +kernel
theorem dX6_readsGroups_16 : decode cX6_readsGroups 16 = .ok (.iconst 0, 1) := by decide +kernel
theorem dX6_readsGroups_17 : decode cX6_readsGroups 17 = .ok (.ireturn, 1) := by decide +kernel
theorem dX6_readsGroups_18 : decode cX6_readsGroups 18 = .ok (.aload_n 0, 1) := by decide +kernel
theorem dX6_readsGroups_19 : decode cX6_readsGroups 19 = .ok (.getfield 125, 3) := by decide +kernel
theorem dX6_readsGroups_22 : decode cX6_readsGroups 22 = .ok (.aload_n 0, 1) := by decide +kernel
theorem dX6_readsGroups_23 : decode cX6_readsGroups 23 = .ok (.getfield 122, 3) := by decide +kernel
theorem dX6_readsGroups_26 : decode cX6_readsGroups 26 = .ok (.if_icmp .ge 69, 3) := by decide +kernel
theorem dX6_readsGroups_29 : decode cX6_readsGroups 29 = .ok (.aload_n 0, 1) := by decide +kernel
theorem dX6_readsGroups_30 : decode cX6_readsGroups 30 = .ok (.getfield 19, 3) := by decide +kernel
theorem dX6_readsGroups_33 : decode cX6_readsGroups 33 = .ok (.aload_n 0, 1) := by decide +kernel
theorem dX6_readsGroups_34 : decode cX6_readsGroups 34 = .ok (.getfield 125, 3) := by decide +kernel
theorem dX6_readsGroups_37 : decode cX6_readsGroups 37 = .ok (.iaload, 1) := by decide +kernel
theorem dX6_readsGroups_38 : decode cX6_readsGroups 38 = .ok (.bipush 48, 2) := by decide +kernel
theorem dX6_readsGroups_40 : decode cX6_readsGroups 40 = .ok (.bipush 57, 2) := by decide +kernel
theorem dX6_readsGroups_42 : decode cX6_readsGroups 42 = .ok (.invokestatic 35, 3) := by decide +kernel
theorem dX6_readsGroups_45 : decode cX6_readsGroups 45 = .ok (.ifCond .eq 50, 3) := by decide +kernel
theorem dX6_readsGroups_48 : decode cX6_readsGroups 48 = .ok (.aload_n 0, 1) := by decide +kernel
theorem dX6_readsGroups_49 : decode cX6_readsGroups 49 = .ok (.getfield 19, 3) := by decide +kernel
theorem dX6_readsGroups_52 : decode cX6_readsGroups 52 = .ok (.aload_n 0, 1) := by decide +kernel
theorem dX6_readsGroups_53 : decode cX6_readsGroups 53 = .ok (.getfield 125, 3) := by decide +kernel
theorem dX6_readsGroups_56 : decode cX6_readsGroups 56 = .ok (.iaload, 1) := by decide +kernel
theorem dX6_readsGroups_57 : decode cX6_readsGroups 57 = .ok (.bipush 48, 2) := by decide +kernel
theorem dX6_readsGroups_59 : decode cX6_readsGroups 59 = .ok (.isub, 1) := by decide +kernel
theorem dX6_readsGroups_60 : decode cX6_readsGroups 60 = .ok (.istore_n 2, 1) := by decide +kernel
theorem dX6_readsGroups_61 : decode cX6_readsGroups 61 = .ok (.iload_n 2, 1) := by decide +kernel
theorem dX6_readsGroups_62 : decode cX6_readsGroups 62 = .ok (.iconst 3, 1) := by decide +kernel
theorem dX6_readsGroups_63 : decode cX6_readsGroups 63 = .ok (.if_icmp .gt 11, 3) := by decide +kernel
theorem dX6_readsGroups_66 : decode cX6_readsGroups 66 = .ok (.iload_n 1, 1) := by decide +kernel
theorem dX6_readsGroups_67 : decode cX6_readsGroups 67 = .ok (.iload_n 2, 1) := by decide +kernel
theorem dX6_readsGroups_68 : decode cX6_readsGroups 68 = .ok (.invokestatic 51, 3) := by decide +kernel
theorem dX6_readsGroups_71 : decode cX6_readsGroups 71 = .ok (.ifCond .eq 5, 3) := by decide +kernel
theorem dX6_readsGroups_74 : decode cX6_readsGroups 74 = .ok (.iconst 0, 1) := by decide +kernel
theorem dX6_readsGroups_75 : decode cX6_readsGroups 75 = .ok (.ireturn, 1) := by decide +kernel
theorem dX6_readsGroups_76 : decode cX6_readsGroups 76 = .ok (.iload_n 1, 1) := by decide +kernel
theorem dX6_readsGroups_77 : decode cX6_readsGroups 77 = .ok (.iconst 1, 1) := by decide +kernel
theorem dX6_readsGroups_78 : decode cX6_readsGroups 78 = .ok (.iload_n 2, 1) := by decide +kernel
theorem dX6_readsGroups_79 : decode cX6_readsGroups 79 = .ok (.ishl, 1) := by decide +kernel
theorem dX6_readsGroups_80 : decode cX6_readsGroups 80 = .ok (.ior, 1) := by decide +kernel
theorem dX6_readsGroups_81 : decode cX6_readsGroups 81 = .ok (.istore_n 1, 1) := by decide +kernel
theorem dX6_readsGroups_82 : decode cX6_readsGroups 82 = .ok (.aload_n 0, 1) := by decide +kernel
theorem dX6_readsGroups_83 : decode cX6_readsGroups 83 = .ok (.dup, 1) := by decide +kernel
theorem dX6_readsGroups_84 : decode cX6_readsGroups 84 = .ok (.getfield 125, 3) := by decide +kernel
theorem dX6_readsGroups_87 : decode cX6_readsGroups 87 = .ok (.iconst 1, 1) := by decide +kernel
theorem dX6_readsGroups_88 : decode cX6_readsGroups 88 = .ok (.iadd, 1) := by decide +kernel
theorem dX6_readsGroups_89 : decode cX6_readsGroups 89 = .ok (.putfield 125, 3) := by decide +kernel
theorem dX6_readsGroups_92 : decode cX6_readsGroups 92 = .ok (.goto (-74), 3) := by decide +kernel
theorem dX6_readsGroups_95 : decode cX6_readsGroups 95 = .ok (.aload_n 0, 1) := by decide +kernel
theorem dX6_readsGroups_96 : decode cX6_readsGroups 96 = .ok (.iload_n 1, 1) := by decide +kernel
theorem dX6_readsGroups_97 : decode cX6_readsGroups 97 = .ok (.putfield 132, 3) := by decide +kernel
theorem dX6_readsGroups_100 : decode cX6_readsGroups 100 = .ok (.iconst 1, 1) := by decide +kernel
theorem dX6_readsGroups_101 : decode cX6_readsGroups 101 = .ok (.ireturn, 1) := by decide +kernel
theorem dX6_partOf_0 : decode cX6_partOf 0 = .ok (.iload_n 0, 1) := by decide +kernel
theorem dX6_partOf_1 : decode cX6_partOf 1 = .ok (.bipush 105, 2) := by decide +kernel
theorem dX6_partOf_3 : decode cX6_partOf 3 = .ok (.if_icmp .ne 7, 3) := by decide +kernel
theorem dX6_partOf_6 : decode cX6_partOf 6 = .ok (.iconst 0, 1) := by decide +kernel
theorem dX6_partOf_7 : decode cX6_partOf 7 = .ok (.goto 45, 3) := by decide +kernel
theorem dX6_partOf_10 : decode cX6_partOf 10 = .ok (.iload_n 0, 1) := by decide +kernel
theorem dX6_partOf_11 : decode cX6_partOf 11 = .ok (.bipush 102, 2) := by decide +kernel
theorem dX6_partOf_13 : decode cX6_partOf 13 = .ok (.if_icmp .ne 7, 3) := by decide +kernel
theorem dX6_partOf_16 : decode cX6_partOf 16 = .ok (.iconst 1, 1) := by decide +kernel
theorem dX6_partOf_17 : decode cX6_partOf 17 = .ok (.goto 35, 3) := by decide +kernel
theorem dX6_partOf_20 : decode cX6_partOf 20 = .ok (.iload_n 0, 1) := by decide +kernel
theorem dX6_partOf_21 : decode cX6_partOf 21 = .ok (.bipush 109, 2) := by decide +kernel
theorem dX6_partOf_23 : decode cX6_partOf 23 = .ok (.if_icmp .ne 7, 3) := by decide +kernel
theorem dX6_partOf_26 : decode cX6_partOf 26 = .ok (.iconst 2, 1) := by decide +kernel
theorem dX6_partOf_27 : decode cX6_partOf 27 = .ok (.goto 25, 3) := by decide +kernel
theorem dX6_partOf_30 : decode cX6_partOf 30 = .ok (.iload_n 0, 1) := by decide +kernel
theorem dX6_partOf_31 : decode cX6_partOf 31 = .ok (.bipush 115, 2) := by decide +kernel
theorem dX6_partOf_33 : decode cX6_partOf 33 = .ok (.if_icmp .ne 7, 3) := by decide +kernel
theorem dX6_partOf_36 : decode cX6_partOf 36 = .ok (.iconst 3, 1) := by decide +kernel
theorem dX6_partOf_37 : decode cX6_partOf 37 = .ok (.goto 15, 3) := by decide +kernel
theorem dX6_partOf_40 : decode cX6_partOf 40 = .ok (.iload_n 0, 1) := by decide +kernel
theorem dX6_partOf_41 : decode cX6_partOf 41 = .ok (.bipush 103, 2) := by decide +kernel
theorem dX6_partOf_43 : decode cX6_partOf 43 = .ok (.if_icmp .ne 7, 3) := by decide +kernel
theorem dX6_partOf_46 : decode cX6_partOf 46 = .ok (.iconst 4, 1) := by decide +kernel
theorem dX6_partOf_47 : decode cX6_partOf 47 = .ok (.goto 5, 3) := by decide +kernel
theorem dX6_partOf_50 : decode cX6_partOf 50 = .ok (.bipush (-99), 2) := by decide +kernel
theorem dX6_partOf_52 : decode cX6_partOf 52 = .ok (.ireturn, 1) := by decide +kernel
set_option maxRecDepth 20000 in
theorem ggX6_readsPart_X6_reads : GoodIn wsX6_readsPart wsX6_reads := goodIn_r _ [7, 1, 8, 9, 10, 2, 11, 12, 13, 6, 14, 15, 16, 17, 30, 31, 32, 33, 34, 35, 36, 37, 38, 39, 40, 41, 42, 43, 44] (by decide +kernel) (by decide +kernel)
set_option maxRecDepth 20000 in
theorem gX6_readsPart_X6_reads : GoodIn wsX6_readsPart (wsV RX6 135 RX6 yX6_reads wsX6_reads) := goodIn_app (goodIn_of _ (by decide +kernel)) ggX6_readsPart_X6_reads
set_option maxRecDepth 20000 in
theorem ggX6_readsPart_X6_readsGroups : GoodIn wsX6_readsPart wsX6_readsGroups := goodIn_r _ [21, 1, 8, 9, 2, 11, 12, 13, 6, 14, 15, 16, 17, 22, 23, 24, 30, 31, 32, 33, 34, 35, 36, 37, 38, 39, 40, 41, 42, 43, 44] (by decide +kernel) (by decide +kernel)
set_option maxRecDepth 20000 in
theorem gX6_readsPart_X6_readsGroups : GoodIn wsX6_readsPart (wsV RX6 138 RX6 yX6_readsGroups wsX6_readsGroups) := goodIn_app (goodIn_of _ (by decide +kernel)) ggX6_readsPart_X6_readsGroups
set_option maxRecDepth 20000 in
theorem ggX6_readsPart_X6_setByHand : GoodIn wsX6_readsPart wsX6_setByHand := goodIn_r _ [28, 29, 30, 31, 32, 33, 34, 35, 36, 37, 38, 39, 40, 41, 42, 43, 44] (by decide +kernel) (by decide +kernel)
set_option maxRecDepth 20000 in
theorem gX6_readsPart_X6_setByHand : GoodIn wsX6_readsPart (wsV RX6 93 RX6 yX6_setByHand wsX6_setByHand) := goodIn_app (goodIn_of _ (by decide +kernel)) ggX6_readsPart_X6_setByHand
theorem dX6_readsPart_0 : decode cX6_readsPart 0 = .ok (.aload_n 0, 1) := by decide +kernel
theorem dX6_readsPart_1 : decode cX6_readsPart 1 = .ok (.dup, 1) := by decide +kernel
theorem dX6_readsPart_2 : decode cX6_readsPart 2 = .ok (.getfield 125, 3) := by decide +kernel
theorem dX6_readsPart_5 : decode cX6_readsPart 5 = .ok (.iconst 1, 1) := by decide +kernel
theorem dX6_readsPart_6 : decode cX6_readsPart 6 = .ok (.iadd, 1) := by decide +kernel
theorem dX6_readsPart_7 : decode cX6_readsPart 7 = .ok (.putfield 125, 3) := by decide +kernel
theorem dX6_readsPart_10 : decode cX6_readsPart 10 = .ok (.aload_n 0, 1) := by decide +kernel
theorem dX6_readsPart_11 : decode cX6_readsPart 11 = .ok (.iconst 1, 1) := by decide +kernel
theorem dX6_readsPart_12 : decode cX6_readsPart 12 = .ok (.putfield 132, 3) := by decide +kernel
theorem dX6_readsPart_15 : decode cX6_readsPart 15 = .ok (.iload_n 2, 1) := by decide +kernel
theorem dX6_readsPart_16 : decode cX6_readsPart 16 = .ok (.ifCond .ne 14, 3) := by decide +kernel
theorem dX6_readsPart_19 : decode cX6_readsPart 19 = .ok (.aload_n 0, 1) := by decide +kernel
theorem dX6_readsPart_20 : decode cX6_readsPart 20 = .ok (.iconst 0, 1) := by decide +kernel
theorem dX6_readsPart_21 : decode cX6_readsPart 21 = .ok (.sipush 1000, 3) := by decide +kernel
theorem dX6_readsPart_24 : decode cX6_readsPart 24 = .ok (.invokevirtual 135, 3) := by decide +kernel
theorem dX6_readsPart_27 : decode cX6_readsPart 27 = .ok (.goto 35, 3) := by decide +kernel
theorem dX6_readsPart_30 : decode cX6_readsPart 30 = .ok (.iload_n 2, 1) := by decide +kernel
theorem dX6_readsPart_31 : decode cX6_readsPart 31 = .ok (.iconst 1, 1) := by decide +kernel
theorem dX6_readsPart_32 : decode cX6_readsPart 32 = .ok (.if_icmp .ne 13, 3) := by decide +kernel
theorem dX6_readsPart_35 : decode cX6_readsPart 35 = .ok (.aload_n 0, 1) := by decide +kernel
theorem dX6_readsPart_36 : decode cX6_readsPart 36 = .ok (.iconst 0, 1) := by decide +kernel
theorem dX6_readsPart_37 : decode cX6_readsPart 37 = .ok (.bipush 100, 2) := by decide +kernel
theorem dX6_readsPart_39 : decode cX6_readsPart 39 = .ok (.invokevirtual 135, 3) := by decide +kernel
theorem dX6_readsPart_42 : decode cX6_readsPart 42 = .ok (.goto 20, 3) := by decide +kernel
theorem dX6_readsPart_45 : decode cX6_readsPart 45 = .ok (.iload_n 2, 1) := by decide +kernel
theorem dX6_readsPart_46 : decode cX6_readsPart 46 = .ok (.iconst 4, 1) := by decide +kernel
theorem dX6_readsPart_47 : decode cX6_readsPart 47 = .ok (.if_icmp .ne 10, 3) := by decide +kernel
theorem dX6_readsPart_50 : decode cX6_readsPart 50 = .ok (.aload_n 0, 1) := by decide +kernel
theorem dX6_readsPart_51 : decode cX6_readsPart 51 = .ok (.invokevirtual 138, 3) := by decide +kernel
theorem dX6_readsPart_54 : decode cX6_readsPart 54 = .ok (.ifCond .eq 7, 3) := by decide +kernel
theorem dX6_readsPart_57 : decode cX6_readsPart 57 = .ok (.iconst 1, 1) := by decide +kernel
theorem dX6_readsPart_58 : decode cX6_readsPart 58 = .ok (.goto 4, 3) := by decide +kernel
theorem dX6_readsPart_61 : decode cX6_readsPart 61 = .ok (.iconst 0, 1) := by decide +kernel
theorem dX6_readsPart_62 : decode cX6_readsPart 62 = .ok (.istore_n 3, 1) := by decide +kernel
theorem dX6_readsPart_63 : decode cX6_readsPart 63 = .ok (.iload_n 3, 1) := by decide +kernel
theorem dX6_readsPart_64 : decode cX6_readsPart 64 = .ok (.ifCond .eq 13, 3) := by decide +kernel
theorem dX6_readsPart_67 : decode cX6_readsPart 67 = .ok (.aload_n 0, 1) := by decide +kernel
theorem dX6_readsPart_68 : decode cX6_readsPart 68 = .ok (.iload_n 1, 1) := by decide +kernel
theorem dX6_readsPart_69 : decode cX6_readsPart 69 = .ok (.iload_n 2, 1) := by decide +kernel
theorem dX6_readsPart_70 : decode cX6_readsPart 70 = .ok (.aload_n 0, 1) := by decide +kernel
theorem dX6_readsPart_71 : decode cX6_readsPart 71 = .ok (.getfield 132, 3) := by decide +kernel
theorem dX6_readsPart_74 : decode cX6_readsPart 74 = .ok (.invokevirtual 93, 3) := by decide +kernel
theorem dX6_readsPart_77 : decode cX6_readsPart 77 = .ok (.iload_n 3, 1) := by decide +kernel
theorem dX6_readsPart_78 : decode cX6_readsPart 78 = .ok (.ireturn, 1) := by decide +kernel
set_option maxRecDepth 20000 in
theorem ggX6_readsChannel_X6_reads : GoodIn wsX6_readsChannel wsX6_reads := goodIn_r _ [7, 2, 8, 9, 10, 1, 11, 12, 13, 6, 14, 15, 16, 17, 37, 38, 39, 40, 41, 42, 43, 44, 45, 46, 47, 48, 49, 50, 51] (by decide +kernel) (by decide +kernel)
set_option maxRecDepth 20000 in
theorem gX6_readsChannel_X6_reads : GoodIn wsX6_readsChannel (wsV RX6 135 RX6 yX6_reads wsX6_reads) := goodIn_app (goodIn_of _ (by decide +kernel)) ggX6_readsChannel_X6_reads
set_option maxRecDepth 20000 in
theorem ggX6_readsChannel_X6_here : GoodIn wsX6_readsChannel wsX6_here := goodIn_r _ [14, 2, 8, 9, 37, 38, 39, 40, 41, 42, 43, 44, 45, 46, 47, 48, 49, 50, 51] (by decide +kernel) (by decide +kernel)
set_option maxRecDepth 20000 in
theorem gX6_readsChannel_X6_here : GoodIn wsX6_readsChannel (wsV RX6 128 RX6 yX6_here wsX6_here) := goodIn_app (goodIn_of _ (by decide +kernel)) ggX6_readsChannel_X6_here
set_option maxRecDepth 20000 in
theorem ggX6_readsChannel_X6_partOf : GoodIn wsX6_readsChannel wsX6_partOf := goodIn_r _ [20] (by decide +kernel) (by decide +kernel)
set_option maxRecDepth 20000 in
theorem gX6_readsChannel_X6_partOf : GoodIn wsX6_readsChannel (va_wsS RX6 142 yX6_partOf wsX6_partOf) := goodIn_app (goodIn_of _ (by decide +kernel)) ggX6_readsChannel_X6_partOf
set_option maxRecDepth 20000 in
theorem ggX6_readsChannel_X6_has : GoodIn wsX6_readsChannel wsX6_has := goodIn_r _ [23] (by decide +kernel) (by decide +kernel)
set_option maxRecDepth 20000 in
theorem gX6_readsChannel_X6_has : GoodIn wsX6_readsChannel (va_wsS RX6 51 yX6_has wsX6_has) := goodIn_app (goodIn_of _ (by decide +kernel)) ggX6_readsChannel_X6_has
set_option maxRecDepth 20000 in
theorem ggX6_readsChannel_X6_readsPart : GoodIn wsX6_readsChannel wsX6_readsPart := goodIn_r _ [27, 2, 1, 3, 4, 5, 6, 7, 8, 9, 10, 11, 12, 13, 14, 15, 16, 17, 28, 29, 30, 31, 21, 22, 23, 32, 33, 34, 35, 36, 37, 38, 39, 40, 41, 42, 43, 44, 45, 46, 47, 48, 49, 50, 51] (by decide +kernel) (by decide +kernel)
set_option maxRecDepth 20000 in
theorem gX6_readsChannel_X6_readsPart : GoodIn wsX6_readsChannel (wsV RX6 145 RX6 yX6_readsPart wsX6_readsPart) := goodIn_app (goodIn_of _ (by decide +kernel)) ggX6_readsChannel_X6_readsPart
theorem dX6_readsChannel_0 : decode cX6_readsChannel 0 = .ok (.aload_n 0, 1) := by decide +kernel
theorem dX6_readsChannel_1 : decode cX6_readsChannel 1 = .ok (.iconst 0, 1) := by decide +kernel
theorem dX6_readsChannel_2 : decode cX6_readsChannel 2 = .ok (.bipush 11, 2) := by decide +kernel
theorem dX6_readsChannel_4 : decode cX6_readsChannel 4 = .ok (.invokevirtual 135, 3) := by decide +kernel
theorem dX6_readsChannel_7 : decode cX6_readsChannel 7 = .ok (.ifCond .ne 5, 3) := by decide +kernel
theorem dX6_readsChannel_10 : decode cX6_readsChannel 10 = .ok (.iconst 0, 1) := by decide +kernel
theorem dX6_readsChannel_11 : decode cX6_readsChannel 11 = .ok (.ireturn, 1) := by decide +kernel
theorem dX6_readsChannel_12 : decode cX6_readsChannel 12 = .ok (.aload_n 0, 1) := by decide +kernel
theorem dX6_readsChannel_13 : decode cX6_readsChannel 13 = .ok (.getfield 132, 3) := by decide +kernel
theorem dX6_readsChannel_16 : decode cX6_readsChannel 16 = .ok (.istore_n 1, 1) := by decide +kernel
theorem dX6_readsChannel_17 : decode cX6_readsChannel 17 = .ok (.iconst 0, 1) := by decide +kernel
theorem dX6_readsChannel_18 : decode cX6_readsChannel 18 = .ok (.istore_n 2, 1) := by decide +kernel
theorem dX6_readsChannel_19 : decode cX6_readsChannel 19 = .ok (.iload_n 2, 1) := by decide +kernel
theorem dX6_readsChannel_20 : decode cX6_readsChannel 20 = .ok (.ifCond .eq 12, 3) := by decide +kernel
theorem dX6_readsChannel_23 : decode cX6_readsChannel 23 = .ok (.aload_n 0, 1) := by decide +kernel
theorem dX6_readsChannel_24 : decode cX6_readsChannel 24 = .ok (.invokevirtual 128, 3) := by decide +kernel
theorem dX6_readsChannel_27 : decode cX6_readsChannel 27 = .ok (.bipush 59, 2) := by decide +kernel
theorem dX6_readsChannel_29 : decode cX6_readsChannel 29 = .ok (.if_icmp .eq 47, 3) := by decide +kernel
theorem dX6_readsChannel_32 : decode cX6_readsChannel 32 = .ok (.aload_n 0, 1) := by decide +kernel
theorem dX6_readsChannel_33 : decode cX6_readsChannel 33 = .ok (.invokevirtual 128, 3) := by decide +kernel
theorem dX6_readsChannel_36 : decode cX6_readsChannel 36 = .ok (.invokestatic 142, 3) := by decide +kernel
theorem dX6_readsChannel_39 : decode cX6_readsChannel 39 = .ok (.istore_n 3, 1) := by decide +kernel
theorem dX6_readsChannel_40 : decode cX6_readsChannel 40 = .ok (.iload_n 3, 1) := by decide +kernel
theorem dX6_readsChannel_41 : decode cX6_readsChannel 41 = .ok (.bipush (-99), 2) := by decide +kernel
theorem dX6_readsChannel_43 : decode cX6_readsChannel 43 = .ok (.if_icmp .eq 11, 3) := by decide +kernel
theorem dX6_readsChannel_46 : decode cX6_readsChannel 46 = .ok (.iload_n 2, 1) := by decide +kernel
theorem dX6_readsChannel_47 : decode cX6_readsChannel 47 = .ok (.iload_n 3, 1) := by decide +kernel
theorem dX6_readsChannel_48 : decode cX6_readsChannel 48 = .ok (.invokestatic 51, 3) := by decide +kernel
theorem dX6_readsChannel_51 : decode cX6_readsChannel 51 = .ok (.ifCond .eq 5, 3) := by decide +kernel
theorem dX6_readsChannel_54 : decode cX6_readsChannel 54 = .ok (.iconst 0, 1) := by decide +kernel
theorem dX6_readsChannel_55 : decode cX6_readsChannel 55 = .ok (.ireturn, 1) := by decide +kernel
theorem dX6_readsChannel_56 : decode cX6_readsChannel 56 = .ok (.iload_n 2, 1) := by decide +kernel
theorem dX6_readsChannel_57 : decode cX6_readsChannel 57 = .ok (.iconst 1, 1) := by decide +kernel
theorem dX6_readsChannel_58 : decode cX6_readsChannel 58 = .ok (.iload_n 3, 1) := by decide +kernel
theorem dX6_readsChannel_59 : decode cX6_readsChannel 59 = .ok (.ishl, 1) := by decide +kernel
theorem dX6_readsChannel_60 : decode cX6_readsChannel 60 = .ok (.ior, 1) := by decide +kernel
theorem dX6_readsChannel_61 : decode cX6_readsChannel 61 = .ok (.istore_n 2, 1) := by decide +kernel
theorem dX6_readsChannel_62 : decode cX6_readsChannel 62 = .ok (.aload_n 0, 1) := by decide +kernel
theorem dX6_readsChannel_63 : decode cX6_readsChannel 63 = .ok (.iload_n 1, 1) := by decide +kernel
theorem dX6_readsChannel_64 : decode cX6_readsChannel 64 = .ok (.iload_n 3, 1) := by decide +kernel
theorem dX6_readsChannel_65 : decode cX6_readsChannel 65 = .ok (.invokevirtual 145, 3) := by decide +kernel
theorem dX6_readsChannel_68 : decode cX6_readsChannel 68 = .ok (.ifCond .ne 5, 3) := by decide +kernel
theorem dX6_readsChannel_71 : decode cX6_readsChannel 71 = .ok (.iconst 0, 1) := by decide +kernel
theorem dX6_readsChannel_72 : decode cX6_readsChannel 72 = .ok (.ireturn, 1) := by decide +kernel
theorem dX6_readsChannel_73 : decode cX6_readsChannel 73 = .ok (.goto (-54), 3) := by decide +kernel
theorem dX6_readsChannel_76 : decode cX6_readsChannel 76 = .ok (.aload_n 0, 1) := by decide +kernel
theorem dX6_readsChannel_77 : decode cX6_readsChannel 77 = .ok (.dup, 1) := by decide +kernel
theorem dX6_readsChannel_78 : decode cX6_readsChannel 78 = .ok (.getfield 125, 3) := by decide +kernel
theorem dX6_readsChannel_81 : decode cX6_readsChannel 81 = .ok (.iconst 1, 1) := by decide +kernel
theorem dX6_readsChannel_82 : decode cX6_readsChannel 82 = .ok (.iadd, 1) := by decide +kernel
theorem dX6_readsChannel_83 : decode cX6_readsChannel 83 = .ok (.putfield 125, 3) := by decide +kernel
theorem dX6_readsChannel_86 : decode cX6_readsChannel 86 = .ok (.iconst 1, 1) := by decide +kernel
theorem dX6_readsChannel_87 : decode cX6_readsChannel 87 = .ok (.ireturn, 1) := by decide +kernel
set_option maxRecDepth 20000 in
theorem ggX6_readsSend_X6_reads : GoodIn wsX6_readsSend wsX6_reads := goodIn_r _ [7, 8, 9, 10, 11, 1, 12, 13, 14, 6, 15, 16, 17, 18, 23, 24, 25, 26, 27, 28, 29, 30, 31, 32, 33, 34, 35, 36, 37] (by decide +kernel) (by decide +kernel)
set_option maxRecDepth 20000 in
theorem gX6_readsSend_X6_reads : GoodIn wsX6_readsSend (wsV RX6 135 RX6 yX6_reads wsX6_reads) := goodIn_app (goodIn_of _ (by decide +kernel)) ggX6_readsSend_X6_reads
set_option maxRecDepth 20000 in
theorem ggX6_readsSend_X6_takes : GoodIn wsX6_readsSend wsX6_takes := goodIn_r _ [22, 8, 12, 13, 14, 6, 15, 9, 10, 23, 24, 25, 26, 27, 28, 29, 30, 31, 32, 33, 34, 35, 36, 37] (by decide +kernel) (by decide +kernel)
set_option maxRecDepth 20000 in
theorem gX6_readsSend_X6_takes : GoodIn wsX6_readsSend (wsV RX6 148 RX6 yX6_takes wsX6_takes) := goodIn_app (goodIn_of _ (by decide +kernel)) ggX6_readsSend_X6_takes
theorem dX6_readsSend_0 : decode cX6_readsSend 0 = .ok (.aload_n 0, 1) := by decide +kernel
theorem dX6_readsSend_1 : decode cX6_readsSend 1 = .ok (.iconst 0, 1) := by decide +kernel
theorem dX6_readsSend_2 : decode cX6_readsSend 2 = .ok (.bipush 11, 2) := by decide +kernel
theorem dX6_readsSend_4 : decode cX6_readsSend 4 = .ok (.invokevirtual 135, 3) := by decide +kernel
theorem dX6_readsSend_7 : decode cX6_readsSend 7 = .ok (.ifCond .ne 5, 3) := by decide +kernel
theorem dX6_readsSend_10 : decode cX6_readsSend 10 = .ok (.iconst 0, 1) := by decide +kernel
theorem dX6_readsSend_11 : decode cX6_readsSend 11 = .ok (.ireturn, 1) := by decide +kernel
theorem dX6_readsSend_12 : decode cX6_readsSend 12 = .ok (.aload_n 0, 1) := by decide +kernel
theorem dX6_readsSend_13 : decode cX6_readsSend 13 = .ok (.getfield 132, 3) := by decide +kernel
theorem dX6_readsSend_16 : decode cX6_readsSend 16 = .ok (.istore_n 2, 1) := by decide +kernel
theorem dX6_readsSend_17 : decode cX6_readsSend 17 = .ok (.aload_n 0, 1) := by decide +kernel
theorem dX6_readsSend_18 : decode cX6_readsSend 18 = .ok (.bipush 61, 2) := by decide +kernel
theorem dX6_readsSend_20 : decode cX6_readsSend 20 = .ok (.invokevirtual 148, 3) := by decide +kernel
theorem dX6_readsSend_23 : decode cX6_readsSend 23 = .ok (.ifCond .eq 13, 3) := by decide +kernel
theorem dX6_readsSend_26 : decode cX6_readsSend 26 = .ok (.aload_n 0, 1) := by decide +kernel
theorem dX6_readsSend_27 : decode cX6_readsSend 27 = .ok (.iconst 0, 1) := by decide +kernel
theorem dX6_readsSend_28 : decode cX6_readsSend 28 = .ok (.bipush 100, 2) := by decide +kernel
theorem dX6_readsSend_30 : decode cX6_readsSend 30 = .ok (.invokevirtual 135, 3) := by decide +kernel
theorem dX6_readsSend_33 : decode cX6_readsSend 33 = .ok (.ifCond .ne 5, 3) := by decide +kernel
theorem dX6_readsSend_36 : decode cX6_readsSend 36 = .ok (.iconst 0, 1) := by decide +kernel
theorem dX6_readsSend_37 : decode cX6_readsSend 37 = .ok (.ireturn, 1) := by decide +kernel
theorem dX6_readsSend_38 : decode cX6_readsSend 38 = .ok (.aload_n 0, 1) := by decide +kernel
theorem dX6_readsSend_39 : decode cX6_readsSend 39 = .ok (.getfield 7, 3) := by decide +kernel
theorem dX6_readsSend_42 : decode cX6_readsSend 42 = .ok (.bipush 88, 2) := by decide +kernel
theorem dX6_readsSend_44 : decode cX6_readsSend 44 = .ok (.bipush 12, 2) := by decide +kernel
theorem dX6_readsSend_46 : decode cX6_readsSend 46 = .ok (.iload_n 1, 1) := by decide +kernel
theorem dX6_readsSend_47 : decode cX6_readsSend 47 = .ok (.imul, 1) := by decide +kernel
theorem dX6_readsSend_48 : decode cX6_readsSend 48 = .ok (.iadd, 1) := by decide +kernel
theorem dX6_readsSend_49 : decode cX6_readsSend 49 = .ok (.iload_n 2, 1) := by decide +kernel
theorem dX6_readsSend_50 : decode cX6_readsSend 50 = .ok (.iadd, 1) := by decide +kernel
theorem dX6_readsSend_51 : decode cX6_readsSend 51 = .ok (.aload_n 0, 1) := by decide +kernel
theorem dX6_readsSend_52 : decode cX6_readsSend 52 = .ok (.getfield 132, 3) := by decide +kernel
theorem dX6_readsSend_55 : decode cX6_readsSend 55 = .ok (.iastore, 1) := by decide +kernel
theorem dX6_readsSend_56 : decode cX6_readsSend 56 = .ok (.iconst 1, 1) := by decide +kernel
theorem dX6_readsSend_57 : decode cX6_readsSend 57 = .ok (.ireturn, 1) := by decide +kernel
set_option maxRecDepth 20000 in
theorem ggX6_readsFeed_X6_reads : GoodIn wsX6_readsFeed wsX6_reads := goodIn_r _ [6, 7, 8, 9, 10, 1, 11, 12, 13, 5, 14, 15, 16, 17, 27, 28, 29, 30, 31, 32, 33, 34, 35, 36, 37, 38, 39, 40, 41] (by decide +kernel) (by decide +kernel)
set_option maxRecDepth 20000 in
theorem gX6_readsFeed_X6_reads : GoodIn wsX6_readsFeed (wsV RX6 135 RX6 yX6_reads wsX6_reads) := goodIn_app (goodIn_of _ (by decide +kernel)) ggX6_readsFeed_X6_reads
set_option maxRecDepth 20000 in
theorem ggX6_readsFeed_X6_takes : GoodIn wsX6_readsFeed wsX6_takes := goodIn_r _ [21, 7, 11, 12, 13, 5, 14, 8, 9, 27, 28, 29, 30, 31, 32, 33, 34, 35, 36, 37, 38, 39, 40, 41] (by decide +kernel) (by decide +kernel)
set_option maxRecDepth 20000 in
theorem gX6_readsFeed_X6_takes : GoodIn wsX6_readsFeed (wsV RX6 148 RX6 yX6_takes wsX6_takes) := goodIn_app (goodIn_of _ (by decide +kernel)) ggX6_readsFeed_X6_takes
set_option maxRecDepth 20000 in
theorem ggX6_readsFeed_X6_readsSend : GoodIn wsX6_readsFeed wsX6_readsSend := goodIn_r _ [25, 1, 26, 2, 3, 4, 5, 6, 7, 8, 9, 10, 11, 12, 13, 14, 15, 16, 17, 18, 19, 20, 21, 27, 28, 29, 30, 31, 32, 33, 34, 35, 36, 37, 38, 39, 40, 41] (by decide +kernel) (by decide +kernel)
set_option maxRecDepth 20000 in
theorem gX6_readsFeed_X6_readsSend : GoodIn wsX6_readsFeed (wsV RX6 151 RX6 yX6_readsSend wsX6_readsSend) := goodIn_app (goodIn_of _ (by decide +kernel)) ggX6_readsFeed_X6_readsSend
theorem dX6_readsFeed_0 : decode cX6_readsFeed 0 = .ok (.aload_n 0, 1) := by decide +kernel
theorem dX6_readsFeed_1 : decode cX6_readsFeed 1 = .ok (.iconst 0, 1) := by decide +kernel
theorem dX6_readsFeed_2 : decode cX6_readsFeed 2 = .ok (.iconst 3, 1) := by decide +kernel
theorem dX6_readsFeed_3 : decode cX6_readsFeed 3 = .ok (.invokevirtual 135, 3) := by decide +kernel
theorem dX6_readsFeed_6 : decode cX6_readsFeed 6 = .ok (.ifCond .ne 5, 3) := by decide +kernel
theorem dX6_readsFeed_9 : decode cX6_readsFeed 9 = .ok (.iconst 0, 1) := by decide +kernel
theorem dX6_readsFeed_10 : decode cX6_readsFeed 10 = .ok (.ireturn, 1) := by decide +kernel
theorem dX6_readsFeed_11 : decode cX6_readsFeed 11 = .ok (.aload_n 0, 1) := by decide +kernel
theorem dX6_readsFeed_12 : decode cX6_readsFeed 12 = .ok (.getfield 132, 3) := by decide +kernel
theorem dX6_readsFeed_15 : decode cX6_readsFeed 15 = .ok (.istore_n 1, 1) := by decide +kernel
theorem dX6_readsFeed_16 : decode cX6_readsFeed 16 = .ok (.aload_n 0, 1) := by decide +kernel
theorem dX6_readsFeed_17 : decode cX6_readsFeed 17 = .ok (.bipush 58, 2) := by decide +kernel
theorem dX6_readsFeed_19 : decode cX6_readsFeed 19 = .ok (.invokevirtual 148, 3) := by decide +kernel
theorem dX6_readsFeed_22 : decode cX6_readsFeed 22 = .ok (.ifCond .ne 5, 3) := by decide +kernel
theorem dX6_readsFeed_25 : decode cX6_readsFeed 25 = .ok (.iconst 0, 1) := by decide +kernel
theorem dX6_readsFeed_26 : decode cX6_readsFeed 26 = .ok (.ireturn, 1) := by decide +kernel
theorem dX6_readsFeed_27 : decode cX6_readsFeed 27 = .ok (.aload_n 0, 1) := by decide +kernel
theorem dX6_readsFeed_28 : decode cX6_readsFeed 28 = .ok (.bipush 59, 2) := by decide +kernel
theorem dX6_readsFeed_30 : decode cX6_readsFeed 30 = .ok (.invokevirtual 148, 3) := by decide +kernel
theorem dX6_readsFeed_33 : decode cX6_readsFeed 33 = .ok (.ifCond .eq 5, 3) := by decide +kernel
theorem dX6_readsFeed_36 : decode cX6_readsFeed 36 = .ok (.iconst 1, 1) := by decide +kernel
theorem dX6_readsFeed_37 : decode cX6_readsFeed 37 = .ok (.ireturn, 1) := by decide +kernel
theorem dX6_readsFeed_38 : decode cX6_readsFeed 38 = .ok (.iconst 1, 1) := by decide +kernel
theorem dX6_readsFeed_39 : decode cX6_readsFeed 39 = .ok (.istore_n 2, 1) := by decide +kernel
theorem dX6_readsFeed_40 : decode cX6_readsFeed 40 = .ok (.iload_n 2, 1) := by decide +kernel
theorem dX6_readsFeed_41 : decode cX6_readsFeed 41 = .ok (.ifCond .eq 23, 3) := by decide +kernel
theorem dX6_readsFeed_44 : decode cX6_readsFeed 44 = .ok (.aload_n 0, 1) := by decide +kernel
theorem dX6_readsFeed_45 : decode cX6_readsFeed 45 = .ok (.iload_n 1, 1) := by decide +kernel
theorem dX6_readsFeed_46 : decode cX6_readsFeed 46 = .ok (.invokevirtual 151, 3) := by decide +kernel
theorem dX6_readsFeed_49 : decode cX6_readsFeed 49 = .ok (.ifCond .ne 5, 3) := by decide +kernel
theorem dX6_readsFeed_52 : decode cX6_readsFeed 52 = .ok (.iconst 0, 1) := by decide +kernel
theorem dX6_readsFeed_53 : decode cX6_readsFeed 53 = .ok (.ireturn, 1) := by decide +kernel
theorem dX6_readsFeed_54 : decode cX6_readsFeed 54 = .ok (.aload_n 0, 1) := by decide +kernel
theorem dX6_readsFeed_55 : decode cX6_readsFeed 55 = .ok (.bipush 44, 2) := by decide +kernel
theorem dX6_readsFeed_57 : decode cX6_readsFeed 57 = .ok (.invokevirtual 148, 3) := by decide +kernel
theorem dX6_readsFeed_60 : decode cX6_readsFeed 60 = .ok (.istore_n 2, 1) := by decide +kernel
theorem dX6_readsFeed_61 : decode cX6_readsFeed 61 = .ok (.goto (-21), 3) := by decide +kernel
theorem dX6_readsFeed_64 : decode cX6_readsFeed 64 = .ok (.aload_n 0, 1) := by decide +kernel
theorem dX6_readsFeed_65 : decode cX6_readsFeed 65 = .ok (.bipush 59, 2) := by decide +kernel
theorem dX6_readsFeed_67 : decode cX6_readsFeed 67 = .ok (.invokevirtual 148, 3) := by decide +kernel
theorem dX6_readsFeed_70 : decode cX6_readsFeed 70 = .ok (.ireturn, 1) := by decide +kernel
set_option maxRecDepth 20000 in
theorem ggX6_readsItem_X6_takes : GoodIn wsX6_readsItem wsX6_takes := goodIn_r _ [5, 6, 7, 8, 9, 4, 10, 11, 12, 53, 54, 55, 56, 57, 58, 59, 60, 61, 62, 63, 64, 65, 66, 67] (by decide +kernel) (by decide +kernel)
set_option maxRecDepth 20000 in
theorem gX6_readsItem_X6_takes : GoodIn wsX6_readsItem (wsV RX6 148 RX6 yX6_takes wsX6_takes) := goodIn_app (goodIn_of _ (by decide +kernel)) ggX6_readsItem_X6_takes
set_option maxRecDepth 20000 in
theorem ggX6_readsItem_X6_readsChannel : GoodIn wsX6_readsItem wsX6_readsChannel := goodIn_r _ [16, 17, 6, 18, 19, 20, 4, 21, 11, 12, 22, 7, 8, 9, 10, 23, 24, 25, 26, 27, 28, 29, 30, 31, 32, 33, 34, 35, 36, 37, 38, 39, 40, 41, 42, 43, 44, 53, 54, 55, 56, 57, 58, 59, 60, 61, 62, 63, 64, 65, 66, 67] (by decide +kernel) (by decide +kernel)
set_option maxRecDepth 20000 in
theorem gX6_readsItem_X6_readsChannel : GoodIn wsX6_readsItem (wsV RX6 154 RX6 yX6_readsChannel wsX6_readsChannel) := goodIn_app (goodIn_of _ (by decide +kernel)) ggX6_readsItem_X6_readsChannel
set_option maxRecDepth 20000 in
theorem ggX6_readsItem_X6_readsFeed : GoodIn wsX6_readsItem wsX6_readsFeed := goodIn_r _ [48, 17, 18, 19, 20, 4, 21, 6, 11, 12, 22, 7, 8, 9, 10, 23, 24, 25, 1, 2, 3, 5, 49, 50, 51, 52, 44, 53, 54, 55, 56, 57, 58, 59, 60, 61, 62, 63, 64, 65, 66, 67] (by decide +kernel) (by decide +kernel)
set_option maxRecDepth 20000 in
theorem gX6_readsItem_X6_readsFeed : GoodIn wsX6_readsItem (wsV RX6 157 RX6 yX6_readsFeed wsX6_readsFeed) := goodIn_app (goodIn_of _ (by decide +kernel)) ggX6_readsItem_X6_readsFeed
theorem dX6_readsItem_0 : decode cX6_readsItem 0 = .ok (.aload_n 0, 1) := by decide +kernel
theorem dX6_readsItem_1 : decode cX6_readsItem 1 = .ok (.bipush 99, 2) := by decide +kernel
theorem dX6_readsItem_3 : decode cX6_readsItem 3 = .ok (.invokevirtual 148, 3) := by decide +kernel
theorem dX6_readsItem_6 : decode cX6_readsItem 6 = .ok (.ifCond .eq 8, 3) := by decide +kernel
theorem dX6_readsItem_9 : decode cX6_readsItem 9 = .ok (.aload_n 0, 1) := by decide +kernel
theorem dX6_readsItem_10 : decode cX6_readsItem 10 = .ok (.invokevirtual 154, 3) := by decide +kernel
theorem dX6_readsItem_13 : decode cX6_readsItem 13 = .ok (.ireturn, 1) := by decide +kernel
theorem dX6_readsItem_14 : decode cX6_readsItem 14 = .ok (.aload_n 0, 1) := by decide +kernel
theorem dX6_readsItem_15 : decode cX6_readsItem 15 = .ok (.bipush 120, 2) := by decide +kernel
theorem dX6_readsItem_17 : decode cX6_readsItem 17 = .ok (.invokevirtual 148, 3) := by decide +kernel
theorem dX6_readsItem_20 : decode cX6_readsItem 20 = .ok (.ifCond .eq 14, 3) := by decide +kernel
theorem dX6_readsItem_23 : decode cX6_readsItem 23 = .ok (.aload_n 0, 1) := by decide +kernel
theorem dX6_readsItem_24 : decode cX6_readsItem 24 = .ok (.invokevirtual 157, 3) := by decide +kernel
theorem dX6_readsItem_27 : decode cX6_readsItem 27 = .ok (.ifCond .eq 7, 3) := by decide +kernel
theorem dX6_readsItem_30 : decode cX6_readsItem 30 = .ok (.iconst 1, 1) := by decide +kernel
theorem dX6_readsItem_31 : decode cX6_readsItem 31 = .ok (.goto 4, 3) := by decide +kernel
theorem dX6_readsItem_34 : decode cX6_readsItem 34 = .ok (.iconst 0, 1) := by decide +kernel
theorem dX6_readsItem_35 : decode cX6_readsItem 35 = .ok (.ireturn, 1) := by decide +kernel
set_option maxRecDepth 20000 in
theorem ggX6_load_X6_hold : GoodIn wsX6_load wsX6_hold := goodIn_r _ [8, 9, 10, 73, 74, 75, 76, 77, 78, 79, 80, 81, 82, 83, 84, 85, 86, 87] (by decide +kernel) (by decide +kernel)
set_option maxRecDepth 20000 in
theorem gX6_load_X6_hold : GoodIn wsX6_load (wsV RX6 160 RX6 yX6_hold wsX6_hold) := goodIn_app (goodIn_of _ (by decide +kernel)) ggX6_load_X6_hold
set_option maxRecDepth 20000 in
theorem ggX6_load_X6_here : GoodIn wsX6_load wsX6_here := goodIn_r _ [14, 2, 3, 15, 73, 74, 75, 76, 77, 78, 79, 80, 81, 82, 83, 84, 85, 86, 87] (by decide +kernel) (by decide +kernel)
set_option maxRecDepth 20000 in
theorem gX6_load_X6_here : GoodIn wsX6_load (wsV RX6 128 RX6 yX6_here wsX6_here) := goodIn_app (goodIn_of _ (by decide +kernel)) ggX6_load_X6_here
set_option maxRecDepth 20000 in
theorem ggX6_load_X6_readsItem : GoodIn wsX6_load wsX6_readsItem := goodIn_r _ [19, 20, 21, 22, 7, 23, 2, 11, 12, 13, 14, 3, 15, 24, 25, 26, 27, 28, 29, 30, 31, 32, 33, 34, 35, 36, 37, 38, 39, 40, 41, 42, 43, 44, 45, 46, 47, 48, 49, 50, 51, 52, 53, 54, 10, 55, 56, 57, 58, 59, 60, 61, 62, 73, 74, 75, 76, 77, 78, 79, 80, 81, 82, 83, 84, 85, 86, 87] (by decide +kernel) (by decide +kernel)
set_option maxRecDepth 20000 in
theorem gX6_load_X6_readsItem : GoodIn wsX6_load (wsV RX6 163 RX6 yX6_readsItem wsX6_readsItem) := goodIn_app (goodIn_of _ (by decide +kernel)) ggX6_load_X6_readsItem
set_option maxRecDepth 20000 in
theorem ggX6_load_X6_exchange : GoodIn wsX6_load wsX6_exchange := goodIn_r _ [66, 10, 9, 73, 74, 75, 76, 77, 78, 79, 80, 81, 82, 83, 84, 85, 86, 87] (by decide +kernel) (by decide +kernel)
set_option maxRecDepth 20000 in
theorem gX6_load_X6_exchange : GoodIn wsX6_load (wsV RX6 166 RX6 yX6_exchange wsX6_exchange) := goodIn_app (goodIn_of _ (by decide +kernel)) ggX6_load_X6_exchange
set_option maxRecDepth 20000 in
theorem ggX6_load_X6_act : GoodIn wsX6_load wsX6_act := goodIn_r _ [70, 71, 72, 10, 73, 74, 75, 76, 77, 78, 79, 80, 81, 82, 83, 84, 85, 86, 87] (by decide +kernel) (by decide +kernel)
set_option maxRecDepth 20000 in
theorem gX6_load_X6_act : GoodIn wsX6_load (wsV RX6 90 RX6 yX6_act wsX6_act) := goodIn_app (goodIn_of _ (by decide +kernel)) ggX6_load_X6_act
theorem dX6_load_0 : decode cX6_load 0 = .ok (.aload_n 0, 1) := by decide +kernel
theorem dX6_load_1 : decode cX6_load 1 = .ok (.iconst 0, 1) := by decide +kernel
theorem dX6_load_2 : decode cX6_load 2 = .ok (.putfield 28, 3) := by decide +kernel
theorem dX6_load_5 : decode cX6_load 5 = .ok (.aload_n 0, 1) := by decide +kernel
theorem dX6_load_6 : decode cX6_load 6 = .ok (.invokevirtual 160, 3) := by decide +kernel
theorem dX6_load_9 : decode cX6_load 9 = .ok (.aload_n 0, 1) := by decide +kernel
theorem dX6_load_10 : decode cX6_load 10 = .ok (.iconst 0, 1) := by decide +kernel
theorem dX6_load_11 : decode cX6_load 11 = .ok (.putfield 125, 3) := by decide +kernel
theorem dX6_load_14 : decode cX6_load 14 = .ok (.iconst 0, 1) := by decide +kernel
theorem dX6_load_15 : decode cX6_load 15 = .ok (.istore_n 1, 1) := by decide +kernel
theorem dX6_load_16 : decode cX6_load 16 = .ok (.iconst 1, 1) := by decide +kernel
theorem dX6_load_17 : decode cX6_load 17 = .ok (.istore_n 2, 1) := by decide +kernel
theorem dX6_load_18 : decode cX6_load 18 = .ok (.iload_n 2, 1) := by decide +kernel
theorem dX6_load_19 : decode cX6_load 19 = .ok (.ifCond .eq 21, 3) := by decide +kernel
theorem dX6_load_22 : decode cX6_load 22 = .ok (.aload_n 0, 1) := by decide +kernel
theorem dX6_load_23 : decode cX6_load 23 = .ok (.invokevirtual 128, 3) := by decide +kernel
theorem dX6_load_26 : decode cX6_load 26 = .ok (.ifCond .lt 14, 3) := by decide +kernel
theorem dX6_load_29 : decode cX6_load 29 = .ok (.aload_n 0, 1) := by decide +kernel
theorem dX6_load_30 : decode cX6_load 30 = .ok (.invokevirtual 163, 3) := by decide +kernel
theorem dX6_load_33 : decode cX6_load 33 = .ok (.istore_n 2, 1) := by decide +kernel
theorem dX6_load_34 : decode cX6_load 34 = .ok (.iinc 1 1, 3) := by decide +kernel
theorem dX6_load_37 : decode cX6_load 37 = .ok (.goto (-19), 3) := by decide +kernel
theorem dX6_load_40 : decode cX6_load 40 = .ok (.aload_n 0, 1) := by decide +kernel
theorem dX6_load_41 : decode cX6_load 41 = .ok (.invokevirtual 166, 3) := by decide +kernel
theorem dX6_load_44 : decode cX6_load 44 = .ok (.iload_n 2, 1) := by decide +kernel
theorem dX6_load_45 : decode cX6_load 45 = .ok (.ifCond .ne 12, 3) := by decide +kernel
theorem dX6_load_48 : decode cX6_load 48 = .ok (.sipush (-1000), 3) := by decide +kernel
theorem dX6_load_51 : decode cX6_load 51 = .ok (.aload_n 0, 1) := by decide +kernel
theorem dX6_load_52 : decode cX6_load 52 = .ok (.getfield 125, 3) := by decide +kernel
theorem dX6_load_55 : decode cX6_load 55 = .ok (.isub, 1) := by decide +kernel
theorem dX6_load_56 : decode cX6_load 56 = .ok (.ireturn, 1) := by decide +kernel
theorem dX6_load_57 : decode cX6_load 57 = .ok (.aload_n 0, 1) := by decide +kernel
theorem dX6_load_58 : decode cX6_load 58 = .ok (.invokevirtual 90, 3) := by decide +kernel
theorem dX6_load_61 : decode cX6_load 61 = .ok (.aload_n 0, 1) := by decide +kernel
theorem dX6_load_62 : decode cX6_load 62 = .ok (.invokevirtual 166, 3) := by decide +kernel
theorem dX6_load_65 : decode cX6_load 65 = .ok (.aload_n 0, 1) := by decide +kernel
theorem dX6_load_66 : decode cX6_load 66 = .ok (.iconst 0, 1) := by decide +kernel
theorem dX6_load_67 : decode cX6_load 67 = .ok (.putfield 122, 3) := by decide +kernel
theorem dX6_load_70 : decode cX6_load 70 = .ok (.iload_n 1, 1) := by decide +kernel
theorem dX6_load_71 : decode cX6_load 71 = .ok (.ireturn, 1) := by decide +kernel
set_option maxRecDepth 20000 in
theorem ggX6_heard_X6_level : GoodIn wsX6_heard wsX6_level := goodIn_r _ [5, 6, 7, 8, 9, 4, 10, 11, 12, 13, 14, 15, 16, 17, 18, 19, 20, 21, 22, 23, 24, 25, 26, 27, 28, 29, 30, 31, 32, 33, 34, 35, 36] (by decide +kernel) (by decide +kernel)
set_option maxRecDepth 20000 in
theorem gX6_heard_X6_level : GoodIn wsX6_heard (wsV RX6 55 RX6 yX6_level wsX6_level) := goodIn_app (goodIn_of _ (by decide +kernel)) ggX6_heard_X6_level
theorem dX6_heard_0 : decode cX6_heard 0 = .ok (.iconst 0, 1) := by decide +kernel
theorem dX6_heard_1 : decode cX6_heard 1 = .ok (.istore_n 1, 1) := by decide +kernel
theorem dX6_heard_2 : decode cX6_heard 2 = .ok (.iconst 0, 1) := by decide +kernel
theorem dX6_heard_3 : decode cX6_heard 3 = .ok (.istore_n 2, 1) := by decide +kernel
