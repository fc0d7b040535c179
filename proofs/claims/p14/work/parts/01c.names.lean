theorem dX3_measure_42 : decode cX3_measure 42 = .ok (.if_icmp .gt 50, 3) := by decide +kernel
theorem dX3_measure_45 : decode cX3_measure 45 = .ok (.iconst 0, 1) := by decide +kernel
theorem dX3_measure_46 : decode cX3_measure 46 = .ok (.istore_n 3, 1) := by decide +kernel
theorem dX3_measure_47 : decode cX3_measure 47 = .ok (.iload_n 3, 1) := by decide +kernel
theorem dX3_measure_48 : decode cX3_measure 48 = .ok (.bipush 12, 2) := by decide +kernel
theorem dX3_measure_50 : decode cX3_measure 50 = .ok (.if_icmp .ge 36, 3) := by decide +kernel
theorem dX3_measure_53 : decode cX3_measure 53 = .ok (.aload_n 0, 1) := by decide +kernel
theorem dX3_measure_54 : decode cX3_measure 54 = .ok (.getfield 15, 3) := by decide +kernel
theorem dX3_measure_57 : decode cX3_measure 57 = .ok (.iload_n 3, 1) := by decide +kernel
theorem dX3_measure_58 : decode cX3_measure 58 = .ok (.iaload, 1) := by decide +kernel
theorem dX3_measure_59 : decode cX3_measure 59 = .ok (.ifCond .ne 21, 3) := by decide +kernel
theorem dX3_measure_62 : decode cX3_measure 62 = .ok (.aload_n 0, 1) := by decide +kernel
theorem dX3_measure_63 : decode cX3_measure 63 = .ok (.iload_n 3, 1) := by decide +kernel
theorem dX3_measure_64 : decode cX3_measure 64 = .ok (.iload_n 2, 1) := by decide +kernel
theorem dX3_measure_65 : decode cX3_measure 65 = .ok (.iconst 1, 1) := by decide +kernel
theorem dX3_measure_66 : decode cX3_measure 66 = .ok (.isub, 1) := by decide +kernel
theorem dX3_measure_67 : decode cX3_measure 67 = .ok (.invokevirtual 60, 3) := by decide +kernel
theorem dX3_measure_70 : decode cX3_measure 70 = .ok (.ifCond .lt 10, 3) := by decide +kernel
theorem dX3_measure_73 : decode cX3_measure 73 = .ok (.aload_n 0, 1) := by decide +kernel
theorem dX3_measure_74 : decode cX3_measure 74 = .ok (.getfield 15, 3) := by decide +kernel
theorem dX3_measure_77 : decode cX3_measure 77 = .ok (.iload_n 3, 1) := by decide +kernel
theorem dX3_measure_78 : decode cX3_measure 78 = .ok (.iload_n 2, 1) := by decide +kernel
theorem dX3_measure_79 : decode cX3_measure 79 = .ok (.iastore, 1) := by decide +kernel
theorem dX3_measure_80 : decode cX3_measure 80 = .ok (.iinc 3 1, 3) := by decide +kernel
theorem dX3_measure_83 : decode cX3_measure 83 = .ok (.goto (-36), 3) := by decide +kernel
theorem dX3_measure_86 : decode cX3_measure 86 = .ok (.iinc 2 1, 3) := by decide +kernel
theorem dX3_measure_89 : decode cX3_measure 89 = .ok (.goto (-49), 3) := by decide +kernel
theorem dX3_measure_92 : decode cX3_measure 92 = .ok (.return_, 1) := by decide +kernel
set_option maxRecDepth 20000 in
theorem ggX3_nextAt_X5_hasBit : GoodIn wsX3_nextAt wsX5_hasBit := goodIn_r _ [6] (by decide +kernel) (by decide +kernel)
set_option maxRecDepth 20000 in
theorem gX3_nextAt_X5_hasBit_n34 : GoodIn wsX3_nextAt (wsX5_hasBit) := ggX3_nextAt_X5_hasBit
theorem dX3_nextAt_0 : decode cX3_nextAt 0 = .ok (.iconst (-1), 1) := by decide +kernel
theorem dX3_nextAt_1 : decode cX3_nextAt 1 = .ok (.istore_n 3, 1) := by decide +kernel
theorem dX3_nextAt_2 : decode cX3_nextAt 2 = .ok (.iconst 0, 1) := by decide +kernel
theorem dX3_nextAt_3 : decode cX3_nextAt 3 = .ok (.istore 4, 2) := by decide +kernel
theorem dX3_nextAt_5 : decode cX3_nextAt 5 = .ok (.iload 4, 2) := by decide +kernel
theorem dX3_nextAt_7 : decode cX3_nextAt 7 = .ok (.iconst 4, 1) := by decide +kernel
theorem dX3_nextAt_8 : decode cX3_nextAt 8 = .ok (.if_icmp .ge 64, 3) := by decide +kernel
theorem dX3_nextAt_11 : decode cX3_nextAt 11 = .ok (.aload_n 0, 1) := by decide +kernel
theorem dX3_nextAt_12 : decode cX3_nextAt 12 = .ok (.getfield 21, 3) := by decide +kernel
theorem dX3_nextAt_15 : decode cX3_nextAt 15 = .ok (.getfield 31, 3) := by decide +kernel
theorem dX3_nextAt_18 : decode cX3_nextAt 18 = .ok (.iload 4, 2) := by decide +kernel
theorem dX3_nextAt_20 : decode cX3_nextAt 20 = .ok (.iaload, 1) := by decide +kernel
theorem dX3_nextAt_21 : decode cX3_nextAt 21 = .ok (.istore 5, 2) := by decide +kernel
theorem dX3_nextAt_23 : decode cX3_nextAt 23 = .ok (.aload_n 0, 1) := by decide +kernel
theorem dX3_nextAt_24 : decode cX3_nextAt 24 = .ok (.getfield 9, 3) := by decide +kernel
theorem dX3_nextAt_27 : decode cX3_nextAt 27 = .ok (.iload_n 1, 1) := by decide +kernel
theorem dX3_nextAt_28 : decode cX3_nextAt 28 = .ok (.iaload, 1) := by decide +kernel
theorem dX3_nextAt_29 : decode cX3_nextAt 29 = .ok (.iload 4, 2) := by decide +kernel
theorem dX3_nextAt_31 : decode cX3_nextAt 31 = .ok (.invokestatic 34, 3) := by decide +kernel
theorem dX3_nextAt_34 : decode cX3_nextAt 34 = .ok (.ifCond .eq 32, 3) := by decide +kernel
theorem dX3_nextAt_37 : decode cX3_nextAt 37 = .ok (.iload 5, 2) := by decide +kernel
theorem dX3_nextAt_39 : decode cX3_nextAt 39 = .ok (.ifCond .lt 27, 3) := by decide +kernel
theorem dX3_nextAt_42 : decode cX3_nextAt 42 = .ok (.aload_n 0, 1) := by decide +kernel
theorem dX3_nextAt_43 : decode cX3_nextAt 43 = .ok (.getfield 15, 3) := by decide +kernel
theorem dX3_nextAt_46 : decode cX3_nextAt 46 = .ok (.iload 5, 2) := by decide +kernel
theorem dX3_nextAt_48 : decode cX3_nextAt 48 = .ok (.iaload, 1) := by decide +kernel
theorem dX3_nextAt_49 : decode cX3_nextAt 49 = .ok (.iload_n 2, 1) := by decide +kernel
theorem dX3_nextAt_50 : decode cX3_nextAt 50 = .ok (.if_icmp .ne 16, 3) := by decide +kernel
theorem dX3_nextAt_53 : decode cX3_nextAt 53 = .ok (.iload_n 3, 1) := by decide +kernel
theorem dX3_nextAt_54 : decode cX3_nextAt 54 = .ok (.ifCond .lt 9, 3) := by decide +kernel
theorem dX3_nextAt_57 : decode cX3_nextAt 57 = .ok (.iload 5, 2) := by decide +kernel
theorem dX3_nextAt_59 : decode cX3_nextAt 59 = .ok (.iload_n 3, 1) := by decide +kernel
theorem dX3_nextAt_60 : decode cX3_nextAt 60 = .ok (.if_icmp .ge 6, 3) := by decide +kernel
theorem dX3_nextAt_63 : decode cX3_nextAt 63 = .ok (.iload 5, 2) := by decide +kernel
theorem dX3_nextAt_65 : decode cX3_nextAt 65 = .ok (.istore_n 3, 1) := by decide +kernel
theorem dX3_nextAt_66 : decode cX3_nextAt 66 = .ok (.iinc 4 1, 3) := by decide +kernel
theorem dX3_nextAt_69 : decode cX3_nextAt 69 = .ok (.goto (-64), 3) := by decide +kernel
theorem dX3_nextAt_72 : decode cX3_nextAt 72 = .ok (.iload_n 3, 1) := by decide +kernel
theorem dX3_nextAt_73 : decode cX3_nextAt 73 = .ok (.ireturn, 1) := by decide +kernel
set_option maxRecDepth 20000 in
theorem ggX3_greatestGain_X3_spread : GoodIn wsX3_greatestGain wsX3_spread := goodIn_r _ [7, 2, 1, 8, 9, 10, 11, 12, 13, 14, 15, 16, 17, 18, 19, 20, 21, 22, 23, 24, 25, 26, 27, 28, 29, 30, 31, 32, 33, 34, 35, 36, 37, 38, 39, 40, 41, 42, 43, 44, 45, 46, 47, 48, 49, 50, 51, 52, 53, 54, 55, 56, 57, 58, 59, 60, 61, 62] (by decide +kernel) (by decide +kernel)
set_option maxRecDepth 20000 in
theorem gX3_greatestGain_X3_spread : GoodIn wsX3_greatestGain (wsV RX3 63 RX3 yX3_spread wsX3_spread) := goodIn_app (goodIn_of _ (by decide +kernel)) ggX3_greatestGain_X3_spread
theorem dX3_greatestGain_0 : decode cX3_greatestGain 0 = .ok (.iconst 0, 1) := by decide +kernel
theorem dX3_greatestGain_1 : decode cX3_greatestGain 1 = .ok (.istore_n 3, 1) := by decide +kernel
theorem dX3_greatestGain_2 : decode cX3_greatestGain 2 = .ok (.iload_n 3, 1) := by decide +kernel
theorem dX3_greatestGain_3 : decode cX3_greatestGain 3 = .ok (.iconst 4, 1) := by decide +kernel
theorem dX3_greatestGain_4 : decode cX3_greatestGain 4 = .ok (.if_icmp .ge 17, 3) := by decide +kernel
theorem dX3_greatestGain_7 : decode cX3_greatestGain 7 = .ok (.aload_n 0, 1) := by decide +kernel
theorem dX3_greatestGain_8 : decode cX3_greatestGain 8 = .ok (.getfield 18, 3) := by decide +kernel
theorem dX3_greatestGain_11 : decode cX3_greatestGain 11 = .ok (.iload_n 3, 1) := by decide +kernel
theorem dX3_greatestGain_12 : decode cX3_greatestGain 12 = .ok (.bipush (-99), 2) := by decide +kernel
theorem dX3_greatestGain_14 : decode cX3_greatestGain 14 = .ok (.iastore, 1) := by decide +kernel
theorem dX3_greatestGain_15 : decode cX3_greatestGain 15 = .ok (.iinc 3 1, 3) := by decide +kernel
theorem dX3_greatestGain_18 : decode cX3_greatestGain 18 = .ok (.goto (-16), 3) := by decide +kernel
theorem dX3_greatestGain_21 : decode cX3_greatestGain 21 = .ok (.aload_n 0, 1) := by decide +kernel
theorem dX3_greatestGain_22 : decode cX3_greatestGain 22 = .ok (.iload_n 1, 1) := by decide +kernel
theorem dX3_greatestGain_23 : decode cX3_greatestGain 23 = .ok (.bipush 100, 2) := by decide +kernel
theorem dX3_greatestGain_25 : decode cX3_greatestGain 25 = .ok (.invokevirtual 63, 3) := by decide +kernel
theorem dX3_greatestGain_28 : decode cX3_greatestGain 28 = .ok (.iconst 2, 1) := by decide +kernel
theorem dX3_greatestGain_29 : decode cX3_greatestGain 29 = .ok (.istore_n 3, 1) := by decide +kernel
theorem dX3_greatestGain_30 : decode cX3_greatestGain 30 = .ok (.iload_n 3, 1) := by decide +kernel
theorem dX3_greatestGain_31 : decode cX3_greatestGain 31 = .ok (.iconst 4, 1) := by decide +kernel
theorem dX3_greatestGain_32 : decode cX3_greatestGain 32 = .ok (.if_icmp .gt 66, 3) := by decide +kernel
theorem dX3_greatestGain_35 : decode cX3_greatestGain 35 = .ok (.iconst 0, 1) := by decide +kernel
theorem dX3_greatestGain_36 : decode cX3_greatestGain 36 = .ok (.istore 4, 2) := by decide +kernel
theorem dX3_greatestGain_38 : decode cX3_greatestGain 38 = .ok (.iload 4, 2) := by decide +kernel
theorem dX3_greatestGain_40 : decode cX3_greatestGain 40 = .ok (.iconst 4, 1) := by decide +kernel
theorem dX3_greatestGain_41 : decode cX3_greatestGain 41 = .ok (.if_icmp .ge 51, 3) := by decide +kernel
theorem dX3_greatestGain_44 : decode cX3_greatestGain 44 = .ok (.aload_n 0, 1) := by decide +kernel
theorem dX3_greatestGain_45 : decode cX3_greatestGain 45 = .ok (.getfield 21, 3) := by decide +kernel
theorem dX3_greatestGain_48 : decode cX3_greatestGain 48 = .ok (.getfield 31, 3) := by decide +kernel
theorem dX3_greatestGain_51 : decode cX3_greatestGain 51 = .ok (.iload 4, 2) := by decide +kernel
theorem dX3_greatestGain_53 : decode cX3_greatestGain 53 = .ok (.iaload, 1) := by decide +kernel
theorem dX3_greatestGain_54 : decode cX3_greatestGain 54 = .ok (.istore 5, 2) := by decide +kernel
theorem dX3_greatestGain_56 : decode cX3_greatestGain 56 = .ok (.aload_n 0, 1) := by decide +kernel
theorem dX3_greatestGain_57 : decode cX3_greatestGain 57 = .ok (.getfield 18, 3) := by decide +kernel
theorem dX3_greatestGain_60 : decode cX3_greatestGain 60 = .ok (.iload 4, 2) := by decide +kernel
theorem dX3_greatestGain_62 : decode cX3_greatestGain 62 = .ok (.iaload, 1) := by decide +kernel
theorem dX3_greatestGain_63 : decode cX3_greatestGain 63 = .ok (.bipush (-99), 2) := by decide +kernel
theorem dX3_greatestGain_65 : decode cX3_greatestGain 65 = .ok (.if_icmp .eq 21, 3) := by decide +kernel
theorem dX3_greatestGain_68 : decode cX3_greatestGain 68 = .ok (.iload 5, 2) := by decide +kernel
theorem dX3_greatestGain_70 : decode cX3_greatestGain 70 = .ok (.ifCond .lt 16, 3) := by decide +kernel
theorem dX3_greatestGain_73 : decode cX3_greatestGain 73 = .ok (.aload_n 0, 1) := by decide +kernel
theorem dX3_greatestGain_74 : decode cX3_greatestGain 74 = .ok (.iload 5, 2) := by decide +kernel
theorem dX3_greatestGain_76 : decode cX3_greatestGain 76 = .ok (.aload_n 0, 1) := by decide +kernel
theorem dX3_greatestGain_77 : decode cX3_greatestGain 77 = .ok (.getfield 18, 3) := by decide +kernel
theorem dX3_greatestGain_80 : decode cX3_greatestGain 80 = .ok (.iload 4, 2) := by decide +kernel
theorem dX3_greatestGain_82 : decode cX3_greatestGain 82 = .ok (.iaload, 1) := by decide +kernel
theorem dX3_greatestGain_83 : decode cX3_greatestGain 83 = .ok (.invokevirtual 63, 3) := by decide +kernel
theorem dX3_greatestGain_86 : decode cX3_greatestGain 86 = .ok (.iinc 4 1, 3) := by decide +kernel
theorem dX3_greatestGain_89 : decode cX3_greatestGain 89 = .ok (.goto (-51), 3) := by decide +kernel
theorem dX3_greatestGain_92 : decode cX3_greatestGain 92 = .ok (.iinc 3 1, 3) := by decide +kernel
theorem dX3_greatestGain_95 : decode cX3_greatestGain 95 = .ok (.goto (-65), 3) := by decide +kernel
theorem dX3_greatestGain_98 : decode cX3_greatestGain 98 = .ok (.aload_n 0, 1) := by decide +kernel
theorem dX3_greatestGain_99 : decode cX3_greatestGain 99 = .ok (.getfield 18, 3) := by decide +kernel
theorem dX3_greatestGain_102 : decode cX3_greatestGain 102 = .ok (.iload_n 2, 1) := by decide +kernel
theorem dX3_greatestGain_103 : decode cX3_greatestGain 103 = .ok (.iaload, 1) := by decide +kernel
theorem dX3_greatestGain_104 : decode cX3_greatestGain 104 = .ok (.ireturn, 1) := by decide +kernel
set_option maxRecDepth 20000 in
theorem ggX3_spread_X4_gainOf : GoodIn wsX3_spread wsX4_gainOf := goodIn_r _ [11, 12, 13, 14, 10, 15, 16, 17, 18, 19, 20, 21, 22, 23, 24, 25, 26, 27, 28, 29, 30, 31, 32, 33, 34, 35, 40, 41, 42, 43, 44, 45, 46, 47, 48, 49, 50, 51, 52, 53, 54, 55, 56, 57] (by decide +kernel) (by decide +kernel)
set_option maxRecDepth 20000 in
theorem gX3_spread_X4_gainOf : GoodIn wsX3_spread (wsV RX3 25 RX4 yX4_gainOf wsX4_gainOf) := goodIn_app (goodIn_of _ (by decide +kernel)) ggX3_spread_X4_gainOf
theorem dX3_spread_0 : decode cX3_spread 0 = .ok (.iconst 0, 1) := by decide +kernel
theorem dX3_spread_1 : decode cX3_spread 1 = .ok (.istore_n 3, 1) := by decide +kernel
theorem dX3_spread_2 : decode cX3_spread 2 = .ok (.iload_n 3, 1) := by decide +kernel
theorem dX3_spread_3 : decode cX3_spread 3 = .ok (.iconst 4, 1) := by decide +kernel
theorem dX3_spread_4 : decode cX3_spread 4 = .ok (.if_icmp .ge 47, 3) := by decide +kernel
theorem dX3_spread_7 : decode cX3_spread 7 = .ok (.aload_n 0, 1) := by decide +kernel
theorem dX3_spread_8 : decode cX3_spread 8 = .ok (.getfield 21, 3) := by decide +kernel
theorem dX3_spread_11 : decode cX3_spread 11 = .ok (.iload_n 3, 1) := by decide +kernel
theorem dX3_spread_12 : decode cX3_spread 12 = .ok (.iload_n 1, 1) := by decide +kernel
theorem dX3_spread_13 : decode cX3_spread 13 = .ok (.invokevirtual 25, 3) := by decide +kernel
theorem dX3_spread_16 : decode cX3_spread 16 = .ok (.istore 4, 2) := by decide +kernel
theorem dX3_spread_18 : decode cX3_spread 18 = .ok (.iload 4, 2) := by decide +kernel
theorem dX3_spread_20 : decode cX3_spread 20 = .ok (.ifCond .le 25, 3) := by decide +kernel
theorem dX3_spread_23 : decode cX3_spread 23 = .ok (.aload_n 0, 1) := by decide +kernel
theorem dX3_spread_24 : decode cX3_spread 24 = .ok (.getfield 18, 3) := by decide +kernel
theorem dX3_spread_27 : decode cX3_spread 27 = .ok (.iload_n 3, 1) := by decide +kernel
theorem dX3_spread_28 : decode cX3_spread 28 = .ok (.aload_n 0, 1) := by decide +kernel
theorem dX3_spread_29 : decode cX3_spread 29 = .ok (.getfield 18, 3) := by decide +kernel
theorem dX3_spread_32 : decode cX3_spread 32 = .ok (.iload_n 3, 1) := by decide +kernel
theorem dX3_spread_33 : decode cX3_spread 33 = .ok (.iaload, 1) := by decide +kernel
theorem dX3_spread_34 : decode cX3_spread 34 = .ok (.iload_n 2, 1) := by decide +kernel
theorem dX3_spread_35 : decode cX3_spread 35 = .ok (.iload 4, 2) := by decide +kernel
theorem dX3_spread_37 : decode cX3_spread 37 = .ok (.imul, 1) := by decide +kernel
theorem dX3_spread_38 : decode cX3_spread 38 = .ok (.bipush 100, 2) := by decide +kernel
theorem dX3_spread_40 : decode cX3_spread 40 = .ok (.idiv, 1) := by decide +kernel
theorem dX3_spread_41 : decode cX3_spread 41 = .ok (.invokestatic 67, 3) := by decide +kernel
theorem dX3_spread_44 : decode cX3_spread 44 = .ok (.iastore, 1) := by decide +kernel
theorem dX3_spread_45 : decode cX3_spread 45 = .ok (.iinc 3 1, 3) := by decide +kernel
theorem dX3_spread_48 : decode cX3_spread 48 = .ok (.goto (-46), 3) := by decide +kernel
theorem dX3_spread_51 : decode cX3_spread 51 = .ok (.return_, 1) := by decide +kernel
set_option maxRecDepth 20000 in
theorem ggX4_init_X0_init : GoodIn wsX4_init wsX0_init := goodIn_r _ [19, 20, 2, 3, 4, 21, 40, 41, 42, 43, 44] (by decide +kernel) (by decide +kernel)
set_option maxRecDepth 20000 in
theorem gX4_init_X0_init_n41 : GoodIn wsX4_init (wsX0_init) := ggX4_init_X0_init
theorem dX4_init_0 : decode cX4_init 0 = .ok (.aload_n 0, 1) := by decide +kernel
theorem dX4_init_1 : decode cX4_init 1 = .ok (.invokespecial 3, 3) := by decide +kernel
theorem dX4_init_4 : decode cX4_init 4 = .ok (.aload_n 0, 1) := by decide +kernel
theorem dX4_init_5 : decode cX4_init 5 = .ok (.bipush 12, 2) := by decide +kernel
theorem dX4_init_7 : decode cX4_init 7 = .ok (.newarray .int, 2) := by decide +kernel
theorem dX4_init_9 : decode cX4_init 9 = .ok (.putfield 9, 3) := by decide +kernel
theorem dX4_init_12 : decode cX4_init 12 = .ok (.aload_n 0, 1) := by decide +kernel
theorem dX4_init_13 : decode cX4_init 13 = .ok (.bipush 16, 2) := by decide +kernel
theorem dX4_init_15 : decode cX4_init 15 = .ok (.newarray .int, 2) := by decide +kernel
theorem dX4_init_17 : decode cX4_init 17 = .ok (.putfield 15, 3) := by decide +kernel
theorem dX4_init_20 : decode cX4_init 20 = .ok (.aload_n 0, 1) := by decide +kernel
theorem dX4_init_21 : decode cX4_init 21 = .ok (.bipush 12, 2) := by decide +kernel
theorem dX4_init_23 : decode cX4_init 23 = .ok (.newarray .int, 2) := by decide +kernel
theorem dX4_init_25 : decode cX4_init 25 = .ok (.putfield 18, 3) := by decide +kernel
theorem dX4_init_28 : decode cX4_init 28 = .ok (.aload_n 0, 1) := by decide +kernel
theorem dX4_init_29 : decode cX4_init 29 = .ok (.bipush 48, 2) := by decide +kernel
theorem dX4_init_31 : decode cX4_init 31 = .ok (.newarray .int, 2) := by decide +kernel
theorem dX4_init_33 : decode cX4_init 33 = .ok (.putfield 21, 3) := by decide +kernel
theorem dX4_init_36 : decode cX4_init 36 = .ok (.aload_n 0, 1) := by decide +kernel
theorem dX4_init_37 : decode cX4_init 37 = .ok (.iconst 4, 1) := by decide +kernel
theorem dX4_init_38 : decode cX4_init 38 = .ok (.newarray .int, 2) := by decide +kernel
theorem dX4_init_40 : decode cX4_init 40 = .ok (.putfield 24, 3) := by decide +kernel
theorem dX4_init_43 : decode cX4_init 43 = .ok (.aload_n 0, 1) := by decide +kernel
theorem dX4_init_44 : decode cX4_init 44 = .ok (.iconst 4, 1) := by decide +kernel
theorem dX4_init_45 : decode cX4_init 45 = .ok (.newarray .int, 2) := by decide +kernel
theorem dX4_init_47 : decode cX4_init 47 = .ok (.putfield 27, 3) := by decide +kernel
theorem dX4_init_50 : decode cX4_init 50 = .ok (.aload_n 0, 1) := by decide +kernel
theorem dX4_init_51 : decode cX4_init 51 = .ok (.bipush 12, 2) := by decide +kernel
theorem dX4_init_53 : decode cX4_init 53 = .ok (.newarray .int, 2) := by decide +kernel
theorem dX4_init_55 : decode cX4_init 55 = .ok (.putfield 30, 3) := by decide +kernel
theorem dX4_init_58 : decode cX4_init 58 = .ok (.aload_n 0, 1) := by decide +kernel
theorem dX4_init_59 : decode cX4_init 59 = .ok (.iconst 4, 1) := by decide +kernel
theorem dX4_init_60 : decode cX4_init 60 = .ok (.newarray .int, 2) := by decide +kernel
theorem dX4_init_62 : decode cX4_init 62 = .ok (.putfield 33, 3) := by decide +kernel
theorem dX4_init_65 : decode cX4_init 65 = .ok (.aload_n 0, 1) := by decide +kernel
theorem dX4_init_66 : decode cX4_init 66 = .ok (.bipush 102, 2) := by decide +kernel
theorem dX4_init_68 : decode cX4_init 68 = .ok (.newarray .int, 2) := by decide +kernel
theorem dX4_init_70 : decode cX4_init 70 = .ok (.putfield 36, 3) := by decide +kernel
theorem dX4_init_73 : decode cX4_init 73 = .ok (.aload_n 0, 1) := by decide +kernel
theorem dX4_init_74 : decode cX4_init 74 = .ok (.new 39, 3) := by decide +kernel
theorem dX4_init_77 : decode cX4_init 77 = .ok (.dup, 1) := by decide +kernel
theorem dX4_init_78 : decode cX4_init 78 = .ok (.invokespecial 41, 3) := by decide +kernel
theorem dX4_init_81 : decode cX4_init 81 = .ok (.putfield 42, 3) := by decide +kernel
theorem dX4_init_84 : decode cX4_init 84 = .ok (.iconst 0, 1) := by decide +kernel
theorem dX4_init_85 : decode cX4_init 85 = .ok (.istore_n 1, 1) := by decide +kernel
theorem dX4_init_86 : decode cX4_init 86 = .ok (.iload_n 1, 1) := by decide +kernel
theorem dX4_init_87 : decode cX4_init 87 = .ok (.iconst 4, 1) := by decide +kernel
theorem dX4_init_88 : decode cX4_init 88 = .ok (.if_icmp .ge 20, 3) := by decide +kernel
theorem dX4_init_91 : decode cX4_init 91 = .ok (.aload_n 0, 1) := by decide +kernel
theorem dX4_init_92 : decode cX4_init 92 = .ok (.getfield 15, 3) := by decide +kernel
theorem dX4_init_95 : decode cX4_init 95 = .ok (.bipush 12, 2) := by decide +kernel
theorem dX4_init_97 : decode cX4_init 97 = .ok (.iload_n 1, 1) := by decide +kernel
theorem dX4_init_98 : decode cX4_init 98 = .ok (.iadd, 1) := by decide +kernel
theorem dX4_init_99 : decode cX4_init 99 = .ok (.bipush 100, 2) := by decide +kernel
theorem dX4_init_101 : decode cX4_init 101 = .ok (.iastore, 1) := by decide +kernel
theorem dX4_init_102 : decode cX4_init 102 = .ok (.iinc 1 1, 3) := by decide +kernel
theorem dX4_init_105 : decode cX4_init 105 = .ok (.goto (-19), 3) := by decide +kernel
theorem dX4_init_108 : decode cX4_init 108 = .ok (.iconst 0, 1) := by decide +kernel
theorem dX4_init_109 : decode cX4_init 109 = .ok (.istore_n 1, 1) := by decide +kernel
theorem dX4_init_110 : decode cX4_init 110 = .ok (.iload_n 1, 1) := by decide +kernel
theorem dX4_init_111 : decode cX4_init 111 = .ok (.iconst 4, 1) := by decide +kernel
theorem dX4_init_112 : decode cX4_init 112 = .ok (.if_icmp .ge 16, 3) := by decide +kernel
theorem dX4_init_115 : decode cX4_init 115 = .ok (.aload_n 0, 1) := by decide +kernel
theorem dX4_init_116 : decode cX4_init 116 = .ok (.getfield 27, 3) := by decide +kernel
theorem dX4_init_119 : decode cX4_init 119 = .ok (.iload_n 1, 1) := by decide +kernel
theorem dX4_init_120 : decode cX4_init 120 = .ok (.iconst (-1), 1) := by decide +kernel
theorem dX4_init_121 : decode cX4_init 121 = .ok (.iastore, 1) := by decide +kernel
theorem dX4_init_122 : decode cX4_init 122 = .ok (.iinc 1 1, 3) := by decide +kernel
theorem dX4_init_125 : decode cX4_init 125 = .ok (.goto (-15), 3) := by decide +kernel
theorem dX4_init_128 : decode cX4_init 128 = .ok (.return_, 1) := by decide +kernel
set_option maxRecDepth 20000 in
theorem ggX4_copyFrom_X0_copyFrom : GoodIn wsX4_copyFrom wsX0_copyFrom := goodIn_r _ [27, 28, 29, 30, 31, 32, 33, 3, 4, 5, 52, 53, 54, 55, 56] (by decide +kernel) (by decide +kernel)
set_option maxRecDepth 20000 in
theorem gX4_copyFrom_X0_copyFrom : GoodIn wsX4_copyFrom (wsV RX4 77 RX0 yX0_copyFrom wsX0_copyFrom) := goodIn_app (goodIn_of _ (by decide +kernel)) ggX4_copyFrom_X0_copyFrom
theorem dX4_copyFrom_0 : decode cX4_copyFrom 0 = .ok (.aload_n 1, 1) := by decide +kernel
theorem dX4_copyFrom_1 : decode cX4_copyFrom 1 = .ok (.getfield 9, 3) := by decide +kernel
theorem dX4_copyFrom_4 : decode cX4_copyFrom 4 = .ok (.iconst 0, 1) := by decide +kernel
theorem dX4_copyFrom_5 : decode cX4_copyFrom 5 = .ok (.aload_n 0, 1) := by decide +kernel
theorem dX4_copyFrom_6 : decode cX4_copyFrom 6 = .ok (.getfield 9, 3) := by decide +kernel
theorem dX4_copyFrom_9 : decode cX4_copyFrom 9 = .ok (.iconst 0, 1) := by decide +kernel
theorem dX4_copyFrom_10 : decode cX4_copyFrom 10 = .ok (.bipush 12, 2) := by decide +kernel
theorem dX4_copyFrom_12 : decode cX4_copyFrom 12 = .ok (.invokestatic 46, 3) := by decide +kernel
theorem dX4_copyFrom_15 : decode cX4_copyFrom 15 = .ok (.aload_n 1, 1) := by decide +kernel
theorem dX4_copyFrom_16 : decode cX4_copyFrom 16 = .ok (.getfield 15, 3) := by decide +kernel
theorem dX4_copyFrom_19 : decode cX4_copyFrom 19 = .ok (.iconst 0, 1) := by decide +kernel
theorem dX4_copyFrom_20 : decode cX4_copyFrom 20 = .ok (.aload_n 0, 1) := by decide +kernel
theorem dX4_copyFrom_21 : decode cX4_copyFrom 21 = .ok (.getfield 15, 3) := by decide +kernel
theorem dX4_copyFrom_24 : decode cX4_copyFrom 24 = .ok (.iconst 0, 1) := by decide +kernel
theorem dX4_copyFrom_25 : decode cX4_copyFrom 25 = .ok (.bipush 16, 2) := by decide +kernel
theorem dX4_copyFrom_27 : decode cX4_copyFrom 27 = .ok (.invokestatic 46, 3) := by decide +kernel
theorem dX4_copyFrom_30 : decode cX4_copyFrom 30 = .ok (.aload_n 1, 1) := by decide +kernel
theorem dX4_copyFrom_31 : decode cX4_copyFrom 31 = .ok (.getfield 18, 3) := by decide +kernel
theorem dX4_copyFrom_34 : decode cX4_copyFrom 34 = .ok (.iconst 0, 1) := by decide +kernel
theorem dX4_copyFrom_35 : decode cX4_copyFrom 35 = .ok (.aload_n 0, 1) := by decide +kernel
theorem dX4_copyFrom_36 : decode cX4_copyFrom 36 = .ok (.getfield 18, 3) := by decide +kernel
theorem dX4_copyFrom_39 : decode cX4_copyFrom 39 = .ok (.iconst 0, 1) := by decide +kernel
theorem dX4_copyFrom_40 : decode cX4_copyFrom 40 = .ok (.bipush 12, 2) := by decide +kernel
theorem dX4_copyFrom_42 : decode cX4_copyFrom 42 = .ok (.invokestatic 46, 3) := by decide +kernel
theorem dX4_copyFrom_45 : decode cX4_copyFrom 45 = .ok (.aload_n 0, 1) := by decide +kernel
theorem dX4_copyFrom_46 : decode cX4_copyFrom 46 = .ok (.aload_n 1, 1) := by decide +kernel
theorem dX4_copyFrom_47 : decode cX4_copyFrom 47 = .ok (.getfield 52, 3) := by decide +kernel
theorem dX4_copyFrom_50 : decode cX4_copyFrom 50 = .ok (.putfield 52, 3) := by decide +kernel
theorem dX4_copyFrom_53 : decode cX4_copyFrom 53 = .ok (.aload_n 0, 1) := by decide +kernel
theorem dX4_copyFrom_54 : decode cX4_copyFrom 54 = .ok (.aload_n 1, 1) := by decide +kernel
theorem dX4_copyFrom_55 : decode cX4_copyFrom 55 = .ok (.getfield 56, 3) := by decide +kernel
theorem dX4_copyFrom_58 : decode cX4_copyFrom 58 = .ok (.putfield 56, 3) := by decide +kernel
theorem dX4_copyFrom_61 : decode cX4_copyFrom 61 = .ok (.aload_n 0, 1) := by decide +kernel
theorem dX4_copyFrom_62 : decode cX4_copyFrom 62 = .ok (.aload_n 1, 1) := by decide +kernel
theorem dX4_copyFrom_63 : decode cX4_copyFrom 63 = .ok (.getfield 59, 3) := by decide +kernel
theorem dX4_copyFrom_66 : decode cX4_copyFrom 66 = .ok (.putfield 59, 3) := by decide +kernel
theorem dX4_copyFrom_69 : decode cX4_copyFrom 69 = .ok (.aload_n 1, 1) := by decide +kernel
theorem dX4_copyFrom_70 : decode cX4_copyFrom 70 = .ok (.getfield 21, 3) := by decide +kernel
theorem dX4_copyFrom_73 : decode cX4_copyFrom 73 = .ok (.iconst 0, 1) := by decide +kernel
theorem dX4_copyFrom_74 : decode cX4_copyFrom 74 = .ok (.aload_n 0, 1) := by decide +kernel
theorem dX4_copyFrom_75 : decode cX4_copyFrom 75 = .ok (.getfield 21, 3) := by decide +kernel
theorem dX4_copyFrom_78 : decode cX4_copyFrom 78 = .ok (.iconst 0, 1) := by decide +kernel
theorem dX4_copyFrom_79 : decode cX4_copyFrom 79 = .ok (.bipush 48, 2) := by decide +kernel
theorem dX4_copyFrom_81 : decode cX4_copyFrom 81 = .ok (.invokestatic 46, 3) := by decide +kernel
theorem dX4_copyFrom_84 : decode cX4_copyFrom 84 = .ok (.aload_n 1, 1) := by decide +kernel
theorem dX4_copyFrom_85 : decode cX4_copyFrom 85 = .ok (.getfield 24, 3) := by decide +kernel
theorem dX4_copyFrom_88 : decode cX4_copyFrom 88 = .ok (.iconst 0, 1) := by decide +kernel
theorem dX4_copyFrom_89 : decode cX4_copyFrom 89 = .ok (.aload_n 0, 1) := by decide +kernel
theorem dX4_copyFrom_90 : decode cX4_copyFrom 90 = .ok (.getfield 24, 3) := by decide +kernel
theorem dX4_copyFrom_93 : decode cX4_copyFrom 93 = .ok (.iconst 0, 1) := by decide +kernel
theorem dX4_copyFrom_94 : decode cX4_copyFrom 94 = .ok (.iconst 4, 1) := by decide +kernel
theorem dX4_copyFrom_95 : decode cX4_copyFrom 95 = .ok (.invokestatic 46, 3) := by decide +kernel
theorem dX4_copyFrom_98 : decode cX4_copyFrom 98 = .ok (.aload_n 1, 1) := by decide +kernel
theorem dX4_copyFrom_99 : decode cX4_copyFrom 99 = .ok (.getfield 27, 3) := by decide +kernel
theorem dX4_copyFrom_102 : decode cX4_copyFrom 102 = .ok (.iconst 0, 1) := by decide +kernel
theorem dX4_copyFrom_103 : decode cX4_copyFrom 103 = .ok (.aload_n 0, 1) := by decide +kernel
theorem dX4_copyFrom_104 : decode cX4_copyFrom 104 = .ok (.getfield 27, 3) := by decide +kernel
theorem dX4_copyFrom_107 : decode cX4_copyFrom 107 = .ok (.iconst 0, 1) := by decide +kernel
theorem dX4_copyFrom_108 : decode cX4_copyFrom 108 = .ok (.iconst 4, 1) := by decide +kernel
theorem dX4_copyFrom_109 : decode cX4_copyFrom 109 = .ok (.invokestatic 46, 3) := by decide +kernel
theorem dX4_copyFrom_112 : decode cX4_copyFrom 112 = .ok (.aload_n 1, 1) := by decide +kernel
theorem dX4_copyFrom_113 : decode cX4_copyFrom 113 = .ok (.getfield 30, 3) := by decide +kernel
theorem dX4_copyFrom_116 : decode cX4_copyFrom 116 = .ok (.iconst 0, 1) := by decide +kernel
theorem dX4_copyFrom_117 : decode cX4_copyFrom 117 = .ok (.aload_n 0, 1) := by decide +kernel
theorem dX4_copyFrom_118 : decode cX4_copyFrom 118 = .ok (.getfield 30, 3) := by decide +kernel
theorem dX4_copyFrom_121 : decode cX4_copyFrom 121 = .ok (.iconst 0, 1) := by decide +kernel
theorem dX4_copyFrom_122 : decode cX4_copyFrom 122 = .ok (.bipush 12, 2) := by decide +kernel
theorem dX4_copyFrom_124 : decode cX4_copyFrom 124 = .ok (.invokestatic 46, 3) := by decide +kernel
theorem dX4_copyFrom_127 : decode cX4_copyFrom 127 = .ok (.aload_n 1, 1) := by decide +kernel
theorem dX4_copyFrom_128 : decode cX4_copyFrom 128 = .ok (.getfield 33, 3) := by decide +kernel
theorem dX4_copyFrom_131 : decode cX4_copyFrom 131 = .ok (.iconst 0, 1) := by decide +kernel
theorem dX4_copyFrom_132 : decode cX4_copyFrom 132 = .ok (.aload_n 0, 1) := by decide +kernel
theorem dX4_copyFrom_133 : decode cX4_copyFrom 133 = .ok (.getfield 33, 3) := by decide +kernel
theorem dX4_copyFrom_136 : decode cX4_copyFrom 136 = .ok (.iconst 0, 1) := by decide +kernel
theorem dX4_copyFrom_137 : decode cX4_copyFrom 137 = .ok (.iconst 4, 1) := by decide +kernel
theorem dX4_copyFrom_138 : decode cX4_copyFrom 138 = .ok (.invokestatic 46, 3) := by decide +kernel
theorem dX4_copyFrom_141 : decode cX4_copyFrom 141 = .ok (.aload_n 0, 1) := by decide +kernel
theorem dX4_copyFrom_142 : decode cX4_copyFrom 142 = .ok (.aload_n 1, 1) := by decide +kernel
theorem dX4_copyFrom_143 : decode cX4_copyFrom 143 = .ok (.getfield 62, 3) := by decide +kernel
theorem dX4_copyFrom_146 : decode cX4_copyFrom 146 = .ok (.putfield 62, 3) := by decide +kernel
theorem dX4_copyFrom_149 : decode cX4_copyFrom 149 = .ok (.aload_n 0, 1) := by decide +kernel
theorem dX4_copyFrom_150 : decode cX4_copyFrom 150 = .ok (.aload_n 1, 1) := by decide +kernel
theorem dX4_copyFrom_151 : decode cX4_copyFrom 151 = .ok (.getfield 65, 3) := by decide +kernel
theorem dX4_copyFrom_154 : decode cX4_copyFrom 154 = .ok (.putfield 65, 3) := by decide +kernel
theorem dX4_copyFrom_157 : decode cX4_copyFrom 157 = .ok (.aload_n 0, 1) := by decide +kernel
theorem dX4_copyFrom_158 : decode cX4_copyFrom 158 = .ok (.aload_n 1, 1) := by decide +kernel
theorem dX4_copyFrom_159 : decode cX4_copyFrom 159 = .ok (.getfield 68, 3) := by decide +kernel
theorem dX4_copyFrom_162 : decode cX4_copyFrom 162 = .ok (.putfield 68, 3) := by decide +kernel
theorem dX4_copyFrom_165 : decode cX4_copyFrom 165 = .ok (.aload_n 0, 1) := by decide +kernel
theorem dX4_copyFrom_166 : decode cX4_copyFrom 166 = .ok (.aload_n 1, 1) := by decide +kernel
theorem dX4_copyFrom_167 : decode cX4_copyFrom 167 = .ok (.getfield 71, 3) := by decide +kernel
theorem dX4_copyFrom_170 : decode cX4_copyFrom 170 = .ok (.putfield 71, 3) := by decide +kernel
theorem dX4_copyFrom_173 : decode cX4_copyFrom 173 = .ok (.aload_n 1, 1) := by decide +kernel
theorem dX4_copyFrom_174 : decode cX4_copyFrom 174 = .ok (.getfield 36, 3) := by decide +kernel
theorem dX4_copyFrom_177 : decode cX4_copyFrom 177 = .ok (.iconst 0, 1) := by decide +kernel
theorem dX4_copyFrom_178 : decode cX4_copyFrom 178 = .ok (.aload_n 0, 1) := by decide +kernel
theorem dX4_copyFrom_179 : decode cX4_copyFrom 179 = .ok (.getfield 36, 3) := by decide +kernel
theorem dX4_copyFrom_182 : decode cX4_copyFrom 182 = .ok (.iconst 0, 1) := by decide +kernel
theorem dX4_copyFrom_183 : decode cX4_copyFrom 183 = .ok (.bipush 102, 2) := by decide +kernel
theorem dX4_copyFrom_185 : decode cX4_copyFrom 185 = .ok (.invokestatic 46, 3) := by decide +kernel
theorem dX4_copyFrom_188 : decode cX4_copyFrom 188 = .ok (.aload_n 0, 1) := by decide +kernel
theorem dX4_copyFrom_189 : decode cX4_copyFrom 189 = .ok (.aload_n 1, 1) := by decide +kernel
theorem dX4_copyFrom_190 : decode cX4_copyFrom 190 = .ok (.getfield 74, 3) := by decide +kernel
theorem dX4_copyFrom_193 : decode cX4_copyFrom 193 = .ok (.putfield 74, 3) := by decide +kernel
theorem dX4_copyFrom_196 : decode cX4_copyFrom 196 = .ok (.aload_n 0, 1) := by decide +kernel
theorem dX4_copyFrom_197 : decode cX4_copyFrom 197 = .ok (.getfield 42, 3) := by decide +kernel
theorem dX4_copyFrom_200 : decode cX4_copyFrom 200 = .ok (.aload_n 1, 1) := by decide +kernel
theorem dX4_copyFrom_201 : decode cX4_copyFrom 201 = .ok (.getfield 42, 3) := by decide +kernel
theorem dX4_copyFrom_204 : decode cX4_copyFrom 204 = .ok (.invokevirtual 77, 3) := by decide +kernel
theorem dX4_copyFrom_207 : decode cX4_copyFrom 207 = .ok (.return_, 1) := by decide +kernel
set_option maxRecDepth 20000 in
theorem ggX4_channelProperty_X5_hasBit : GoodIn wsX4_channelProperty wsX5_hasBit := goodIn_r _ [8] (by decide +kernel) (by decide +kernel)
set_option maxRecDepth 20000 in
theorem gX4_channelProperty_X5_hasBit_n81 : GoodIn wsX4_channelProperty (wsX5_hasBit) := ggX4_channelProperty_X5_hasBit
theorem dX4_channelProperty_0 : decode cX4_channelProperty 0 = .ok (.iload_n 2, 1) := by decide +kernel
theorem dX4_channelProperty_1 : decode cX4_channelProperty 1 = .ok (.tableswitch 79 0 3 #[31, 38, 45, 62], 31) := by decide +kernel
theorem dX4_channelProperty_32 : decode cX4_channelProperty 32 = .ok (.aload_n 0, 1) := by decide +kernel
theorem dX4_channelProperty_33 : decode cX4_channelProperty 33 = .ok (.getfield 9, 3) := by decide +kernel
theorem dX4_channelProperty_36 : decode cX4_channelProperty 36 = .ok (.iload_n 1, 1) := by decide +kernel
theorem dX4_channelProperty_37 : decode cX4_channelProperty 37 = .ok (.iaload, 1) := by decide +kernel
theorem dX4_channelProperty_38 : decode cX4_channelProperty 38 = .ok (.ireturn, 1) := by decide +kernel
theorem dX4_channelProperty_39 : decode cX4_channelProperty 39 = .ok (.aload_n 0, 1) := by decide +kernel
theorem dX4_channelProperty_40 : decode cX4_channelProperty 40 = .ok (.getfield 15, 3) := by decide +kernel
theorem dX4_channelProperty_43 : decode cX4_channelProperty 43 = .ok (.iload_n 1, 1) := by decide +kernel
theorem dX4_channelProperty_44 : decode cX4_channelProperty 44 = .ok (.iaload, 1) := by decide +kernel
theorem dX4_channelProperty_45 : decode cX4_channelProperty 45 = .ok (.ireturn, 1) := by decide +kernel
theorem dX4_channelProperty_46 : decode cX4_channelProperty 46 = .ok (.aload_n 0, 1) := by decide +kernel
theorem dX4_channelProperty_47 : decode cX4_channelProperty 47 = .ok (.getfield 52, 3) := by decide +kernel
theorem dX4_channelProperty_50 : decode cX4_channelProperty 50 = .ok (.iload_n 1, 1) := by decide +kernel
theorem dX4_channelProperty_51 : decode cX4_channelProperty 51 = .ok (.invokestatic 81, 3) := by decide +kernel
theorem dX4_channelProperty_54 : decode cX4_channelProperty 54 = .ok (.ifCond .eq 7, 3) := by decide +kernel
theorem dX4_channelProperty_57 : decode cX4_channelProperty 57 = .ok (.iconst 1, 1) := by decide +kernel
theorem dX4_channelProperty_58 : decode cX4_channelProperty 58 = .ok (.goto 4, 3) := by decide +kernel
theorem dX4_channelProperty_61 : decode cX4_channelProperty 61 = .ok (.iconst 0, 1) := by decide +kernel
theorem dX4_channelProperty_62 : decode cX4_channelProperty 62 = .ok (.ireturn, 1) := by decide +kernel
theorem dX4_channelProperty_63 : decode cX4_channelProperty 63 = .ok (.aload_n 0, 1) := by decide +kernel
theorem dX4_channelProperty_64 : decode cX4_channelProperty 64 = .ok (.getfield 56, 3) := by decide +kernel
theorem dX4_channelProperty_67 : decode cX4_channelProperty 67 = .ok (.iload_n 1, 1) := by decide +kernel
theorem dX4_channelProperty_68 : decode cX4_channelProperty 68 = .ok (.invokestatic 81, 3) := by decide +kernel
theorem dX4_channelProperty_71 : decode cX4_channelProperty 71 = .ok (.ifCond .eq 7, 3) := by decide +kernel
theorem dX4_channelProperty_74 : decode cX4_channelProperty 74 = .ok (.iconst 1, 1) := by decide +kernel
theorem dX4_channelProperty_75 : decode cX4_channelProperty 75 = .ok (.goto 4, 3) := by decide +kernel
theorem dX4_channelProperty_78 : decode cX4_channelProperty 78 = .ok (.iconst 0, 1) := by decide +kernel
theorem dX4_channelProperty_79 : decode cX4_channelProperty 79 = .ok (.ireturn, 1) := by decide +kernel
theorem dX4_channelProperty_80 : decode cX4_channelProperty 80 = .ok (.aload_n 0, 1) := by decide +kernel
theorem dX4_channelProperty_81 : decode cX4_channelProperty 81 = .ok (.getfield 18, 3) := by decide +kernel
theorem dX4_channelProperty_84 : decode cX4_channelProperty 84 = .ok (.iload_n 1, 1) := by decide +kernel
theorem dX4_channelProperty_85 : decode cX4_channelProperty 85 = .ok (.iaload, 1) := by decide +kernel
theorem dX4_channelProperty_86 : decode cX4_channelProperty 86 = .ok (.ireturn, 1) := by decide +kernel
set_option maxRecDepth 20000 in
theorem ggX4_setChannelByHand_X5_withBit : GoodIn wsX4_setChannelByHand wsX5_withBit := goodIn_r _ [9] (by decide +kernel) (by decide +kernel)
set_option maxRecDepth 20000 in
theorem gX4_setChannelByHand_X5_withBit_n85 : GoodIn wsX4_setChannelByHand (wsX5_withBit) := ggX4_setChannelByHand_X5_withBit
set_option maxRecDepth 20000 in
theorem ggX4_setChannelByHand_X0_touch : GoodIn wsX4_setChannelByHand wsX0_touch := goodIn_r _ [14, 15, 16, 17, 18, 13, 19, 20, 39, 40, 41, 42, 43] (by decide +kernel) (by decide +kernel)
set_option maxRecDepth 20000 in
theorem gX4_setChannelByHand_X0_touch : GoodIn wsX4_setChannelByHand (wsV RX4 89 RX0 yX0_touch wsX0_touch) := goodIn_app (goodIn_of _ (by decide +kernel)) ggX4_setChannelByHand_X0_touch
theorem dX4_setChannelByHand_0 : decode cX4_setChannelByHand 0 = .ok (.iload_n 2, 1) := by decide +kernel
theorem dX4_setChannelByHand_1 : decode cX4_setChannelByHand 1 = .ok (.tableswitch 83 0 3 #[31, 41, 51, 67], 31) := by decide +kernel
theorem dX4_setChannelByHand_32 : decode cX4_setChannelByHand 32 = .ok (.aload_n 0, 1) := by decide +kernel
theorem dX4_setChannelByHand_33 : decode cX4_setChannelByHand 33 = .ok (.getfield 9, 3) := by decide +kernel
theorem dX4_setChannelByHand_36 : decode cX4_setChannelByHand 36 = .ok (.iload_n 1, 1) := by decide +kernel
theorem dX4_setChannelByHand_37 : decode cX4_setChannelByHand 37 = .ok (.iload_n 3, 1) := by decide +kernel
theorem dX4_setChannelByHand_38 : decode cX4_setChannelByHand 38 = .ok (.iastore, 1) := by decide +kernel
theorem dX4_setChannelByHand_39 : decode cX4_setChannelByHand 39 = .ok (.goto 52, 3) := by decide +kernel
theorem dX4_setChannelByHand_42 : decode cX4_setChannelByHand 42 = .ok (.aload_n 0, 1) := by decide +kernel
theorem dX4_setChannelByHand_43 : decode cX4_setChannelByHand 43 = .ok (.getfield 15, 3) := by decide +kernel
theorem dX4_setChannelByHand_46 : decode cX4_setChannelByHand 46 = .ok (.iload_n 1, 1) := by decide +kernel
theorem dX4_setChannelByHand_47 : decode cX4_setChannelByHand 47 = .ok (.iload_n 3, 1) := by decide +kernel
theorem dX4_setChannelByHand_48 : decode cX4_setChannelByHand 48 = .ok (.iastore, 1) := by decide +kernel
theorem dX4_setChannelByHand_49 : decode cX4_setChannelByHand 49 = .ok (.goto 42, 3) := by decide +kernel
theorem dX4_setChannelByHand_52 : decode cX4_setChannelByHand 52 = .ok (.aload_n 0, 1) := by decide +kernel
theorem dX4_setChannelByHand_53 : decode cX4_setChannelByHand 53 = .ok (.aload_n 0, 1) := by decide +kernel
theorem dX4_setChannelByHand_54 : decode cX4_setChannelByHand 54 = .ok (.getfield 52, 3) := by decide +kernel
theorem dX4_setChannelByHand_57 : decode cX4_setChannelByHand 57 = .ok (.iload_n 1, 1) := by decide +kernel
theorem dX4_setChannelByHand_58 : decode cX4_setChannelByHand 58 = .ok (.iload_n 3, 1) := by decide +kernel
theorem dX4_setChannelByHand_59 : decode cX4_setChannelByHand 59 = .ok (.invokestatic 85, 3) := by decide +kernel
theorem dX4_setChannelByHand_62 : decode cX4_setChannelByHand 62 = .ok (.putfield 52, 3) := by decide +kernel
theorem dX4_setChannelByHand_65 : decode cX4_setChannelByHand 65 = .ok (.goto 26, 3) := by decide +kernel
theorem dX4_setChannelByHand_68 : decode cX4_setChannelByHand 68 = .ok (.aload_n 0, 1) := by decide +kernel
theorem dX4_setChannelByHand_69 : decode cX4_setChannelByHand 69 = .ok (.aload_n 0, 1) := by decide +kernel
theorem dX4_setChannelByHand_70 : decode cX4_setChannelByHand 70 = .ok (.getfield 56, 3) := by decide +kernel
theorem dX4_setChannelByHand_73 : decode cX4_setChannelByHand 73 = .ok (.iload_n 1, 1) := by decide +kernel
theorem dX4_setChannelByHand_74 : decode cX4_setChannelByHand 74 = .ok (.iload_n 3, 1) := by decide +kernel
theorem dX4_setChannelByHand_75 : decode cX4_setChannelByHand 75 = .ok (.invokestatic 85, 3) := by decide +kernel
theorem dX4_setChannelByHand_78 : decode cX4_setChannelByHand 78 = .ok (.putfield 56, 3) := by decide +kernel
theorem dX4_setChannelByHand_81 : decode cX4_setChannelByHand 81 = .ok (.goto 10, 3) := by decide +kernel
theorem dX4_setChannelByHand_84 : decode cX4_setChannelByHand 84 = .ok (.aload_n 0, 1) := by decide +kernel
theorem dX4_setChannelByHand_85 : decode cX4_setChannelByHand 85 = .ok (.getfield 18, 3) := by decide +kernel
theorem dX4_setChannelByHand_88 : decode cX4_setChannelByHand 88 = .ok (.iload_n 1, 1) := by decide +kernel
theorem dX4_setChannelByHand_89 : decode cX4_setChannelByHand 89 = .ok (.iload_n 3, 1) := by decide +kernel
theorem dX4_setChannelByHand_90 : decode cX4_setChannelByHand 90 = .ok (.iastore, 1) := by decide +kernel
theorem dX4_setChannelByHand_91 : decode cX4_setChannelByHand 91 = .ok (.iload_n 2, 1) := by decide +kernel
theorem dX4_setChannelByHand_92 : decode cX4_setChannelByHand 92 = .ok (.iconst 1, 1) := by decide +kernel
theorem dX4_setChannelByHand_93 : decode cX4_setChannelByHand 93 = .ok (.if_icmp .eq 8, 3) := by decide +kernel
theorem dX4_setChannelByHand_96 : decode cX4_setChannelByHand 96 = .ok (.iload_n 2, 1) := by decide +kernel
theorem dX4_setChannelByHand_97 : decode cX4_setChannelByHand 97 = .ok (.iconst 2, 1) := by decide +kernel
theorem dX4_setChannelByHand_98 : decode cX4_setChannelByHand 98 = .ok (.if_icmp .ne 11, 3) := by decide +kernel
theorem dX4_setChannelByHand_101 : decode cX4_setChannelByHand 101 = .ok (.aload_n 0, 1) := by decide +kernel
theorem dX4_setChannelByHand_102 : decode cX4_setChannelByHand 102 = .ok (.getfield 42, 3) := by decide +kernel
theorem dX4_setChannelByHand_105 : decode cX4_setChannelByHand 105 = .ok (.iload_n 1, 1) := by decide +kernel
theorem dX4_setChannelByHand_106 : decode cX4_setChannelByHand 106 = .ok (.invokevirtual 89, 3) := by decide +kernel
theorem dX4_setChannelByHand_109 : decode cX4_setChannelByHand 109 = .ok (.return_, 1) := by decide +kernel
set_option maxRecDepth 20000 in
theorem ggX4_groupProperty_X5_hasBit : GoodIn wsX4_groupProperty wsX5_hasBit := goodIn_r _ [5] (by decide +kernel) (by decide +kernel)
set_option maxRecDepth 20000 in
theorem gX4_groupProperty_X5_hasBit_n81 : GoodIn wsX4_groupProperty (wsX5_hasBit) := ggX4_groupProperty_X5_hasBit
theorem dX4_groupProperty_0 : decode cX4_groupProperty 0 = .ok (.iload_n 2, 1) := by decide +kernel
theorem dX4_groupProperty_1 : decode cX4_groupProperty 1 = .ok (.ifCond .ne 13, 3) := by decide +kernel
theorem dX4_groupProperty_4 : decode cX4_groupProperty 4 = .ok (.aload_n 0, 1) := by decide +kernel
theorem dX4_groupProperty_5 : decode cX4_groupProperty 5 = .ok (.getfield 15, 3) := by decide +kernel
theorem dX4_groupProperty_8 : decode cX4_groupProperty 8 = .ok (.bipush 12, 2) := by decide +kernel
theorem dX4_groupProperty_10 : decode cX4_groupProperty 10 = .ok (.iload_n 1, 1) := by decide +kernel
theorem dX4_groupProperty_11 : decode cX4_groupProperty 11 = .ok (.iadd, 1) := by decide +kernel
theorem dX4_groupProperty_12 : decode cX4_groupProperty 12 = .ok (.iaload, 1) := by decide +kernel
theorem dX4_groupProperty_13 : decode cX4_groupProperty 13 = .ok (.ireturn, 1) := by decide +kernel
theorem dX4_groupProperty_14 : decode cX4_groupProperty 14 = .ok (.aload_n 0, 1) := by decide +kernel
theorem dX4_groupProperty_15 : decode cX4_groupProperty 15 = .ok (.getfield 59, 3) := by decide +kernel
theorem dX4_groupProperty_18 : decode cX4_groupProperty 18 = .ok (.iload_n 1, 1) := by decide +kernel
theorem dX4_groupProperty_19 : decode cX4_groupProperty 19 = .ok (.invokestatic 81, 3) := by decide +kernel
theorem dX4_groupProperty_22 : decode cX4_groupProperty 22 = .ok (.ifCond .eq 7, 3) := by decide +kernel
theorem dX4_groupProperty_25 : decode cX4_groupProperty 25 = .ok (.iconst 1, 1) := by decide +kernel
theorem dX4_groupProperty_26 : decode cX4_groupProperty 26 = .ok (.goto 4, 3) := by decide +kernel
theorem dX4_groupProperty_29 : decode cX4_groupProperty 29 = .ok (.iconst 0, 1) := by decide +kernel
theorem dX4_groupProperty_30 : decode cX4_groupProperty 30 = .ok (.ireturn, 1) := by decide +kernel
set_option maxRecDepth 20000 in
theorem ggX4_setGroupByHand_X5_withBit : GoodIn wsX4_setGroupByHand wsX5_withBit := goodIn_r _ [6] (by decide +kernel) (by decide +kernel)
set_option maxRecDepth 20000 in
theorem gX4_setGroupByHand_X5_withBit_n85 : GoodIn wsX4_setGroupByHand (wsX5_withBit) := ggX4_setGroupByHand_X5_withBit
set_option maxRecDepth 20000 in
theorem ggX4_setGroupByHand_X0_touch : GoodIn wsX4_setGroupByHand wsX0_touch := goodIn_r _ [11, 12, 13, 14, 15, 10, 16, 17, 36, 37, 38, 39, 40] (by decide +kernel) (by decide +kernel)
set_option maxRecDepth 20000 in
theorem gX4_setGroupByHand_X0_touch : GoodIn wsX4_setGroupByHand (wsV RX4 89 RX0 yX0_touch wsX0_touch) := goodIn_app (goodIn_of _ (by decide +kernel)) ggX4_setGroupByHand_X0_touch
theorem dX4_setGroupByHand_0 : decode cX4_setGroupByHand 0 = .ok (.iload_n 2, 1) := by decide +kernel
theorem dX4_setGroupByHand_1 : decode cX4_setGroupByHand 1 = .ok (.iconst 1, 1) := by decide +kernel
theorem dX4_setGroupByHand_2 : decode cX4_setGroupByHand 2 = .ok (.if_icmp .ne 17, 3) := by decide +kernel
theorem dX4_setGroupByHand_5 : decode cX4_setGroupByHand 5 = .ok (.aload_n 0, 1) := by decide +kernel
theorem dX4_setGroupByHand_6 : decode cX4_setGroupByHand 6 = .ok (.aload_n 0, 1) := by decide +kernel
theorem dX4_setGroupByHand_7 : decode cX4_setGroupByHand 7 = .ok (.getfield 59, 3) := by decide +kernel
theorem dX4_setGroupByHand_10 : decode cX4_setGroupByHand 10 = .ok (.iload_n 1, 1) := by decide +kernel
theorem dX4_setGroupByHand_11 : decode cX4_setGroupByHand 11 = .ok (.iload_n 3, 1) := by decide +kernel
theorem dX4_setGroupByHand_12 : decode cX4_setGroupByHand 12 = .ok (.invokestatic 85, 3) := by decide +kernel
theorem dX4_setGroupByHand_15 : decode cX4_setGroupByHand 15 = .ok (.putfield 59, 3) := by decide +kernel
theorem dX4_setGroupByHand_18 : decode cX4_setGroupByHand 18 = .ok (.return_, 1) := by decide +kernel
theorem dX4_setGroupByHand_19 : decode cX4_setGroupByHand 19 = .ok (.aload_n 0, 1) := by decide +kernel
theorem dX4_setGroupByHand_20 : decode cX4_setGroupByHand 20 = .ok (.getfield 15, 3) := by decide +kernel
theorem dX4_setGroupByHand_23 : decode cX4_setGroupByHand 23 = .ok (.bipush 12, 2) := by decide +kernel
theorem dX4_setGroupByHand_25 : decode cX4_setGroupByHand 25 = .ok (.iload_n 1, 1) := by decide +kernel
theorem dX4_setGroupByHand_26 : decode cX4_setGroupByHand 26 = .ok (.iadd, 1) := by decide +kernel
theorem dX4_setGroupByHand_27 : decode cX4_setGroupByHand 27 = .ok (.iload_n 3, 1) := by decide +kernel
theorem dX4_setGroupByHand_28 : decode cX4_setGroupByHand 28 = .ok (.iastore, 1) := by decide +kernel
theorem dX4_setGroupByHand_29 : decode cX4_setGroupByHand 29 = .ok (.aload_n 0, 1) := by decide +kernel
theorem dX4_setGroupByHand_30 : decode cX4_setGroupByHand 30 = .ok (.getfield 42, 3) := by decide +kernel
theorem dX4_setGroupByHand_33 : decode cX4_setGroupByHand 33 = .ok (.bipush 12, 2) := by decide +kernel
theorem dX4_setGroupByHand_35 : decode cX4_setGroupByHand 35 = .ok (.iload_n 1, 1) := by decide +kernel
theorem dX4_setGroupByHand_36 : decode cX4_setGroupByHand 36 = .ok (.iadd, 1) := by decide +kernel
theorem dX4_setGroupByHand_37 : decode cX4_setGroupByHand 37 = .ok (.invokevirtual 89, 3) := by decide +kernel
theorem dX4_setGroupByHand_40 : decode cX4_setGroupByHand 40 = .ok (.return_, 1) := by decide +kernel
set_option maxRecDepth 20000 in
theorem ggX4_membersOf_X5_hasBit : GoodIn wsX4_membersOf wsX5_hasBit := goodIn_r _ [4] (by decide +kernel) (by decide +kernel)
set_option maxRecDepth 20000 in
theorem gX4_membersOf_X5_hasBit_n81 : GoodIn wsX4_membersOf (wsX5_hasBit) := ggX4_membersOf_X5_hasBit
theorem dX4_membersOf_0 : decode cX4_membersOf 0 = .ok (.iconst 0, 1) := by decide +kernel
theorem dX4_membersOf_1 : decode cX4_membersOf 1 = .ok (.istore_n 2, 1) := by decide +kernel
theorem dX4_membersOf_2 : decode cX4_membersOf 2 = .ok (.iconst 0, 1) := by decide +kernel
theorem dX4_membersOf_3 : decode cX4_membersOf 3 = .ok (.istore_n 3, 1) := by decide +kernel
theorem dX4_membersOf_4 : decode cX4_membersOf 4 = .ok (.iload_n 3, 1) := by decide +kernel
theorem dX4_membersOf_5 : decode cX4_membersOf 5 = .ok (.bipush 12, 2) := by decide +kernel
theorem dX4_membersOf_7 : decode cX4_membersOf 7 = .ok (.if_icmp .ge 25, 3) := by decide +kernel
theorem dX4_membersOf_10 : decode cX4_membersOf 10 = .ok (.aload_n 0, 1) := by decide +kernel
theorem dX4_membersOf_11 : decode cX4_membersOf 11 = .ok (.getfield 18, 3) := by decide +kernel
theorem dX4_membersOf_14 : decode cX4_membersOf 14 = .ok (.iload_n 3, 1) := by decide +kernel
theorem dX4_membersOf_15 : decode cX4_membersOf 15 = .ok (.iaload, 1) := by decide +kernel
theorem dX4_membersOf_16 : decode cX4_membersOf 16 = .ok (.iload_n 1, 1) := by decide +kernel
theorem dX4_membersOf_17 : decode cX4_membersOf 17 = .ok (.invokestatic 81, 3) := by decide +kernel
theorem dX4_membersOf_20 : decode cX4_membersOf 20 = .ok (.ifCond .eq 6, 3) := by decide +kernel
theorem dX4_membersOf_23 : decode cX4_membersOf 23 = .ok (.iinc 2 1, 3) := by decide +kernel
theorem dX4_membersOf_26 : decode cX4_membersOf 26 = .ok (.iinc 3 1, 3) := by decide +kernel
theorem dX4_membersOf_29 : decode cX4_membersOf 29 = .ok (.goto (-25), 3) := by decide +kernel
theorem dX4_membersOf_32 : decode cX4_membersOf 32 = .ok (.iload_n 2, 1) := by decide +kernel
theorem dX4_membersOf_33 : decode cX4_membersOf 33 = .ok (.ireturn, 1) := by decide +kernel
theorem dX4_feedBackInto_0 : decode cX4_feedBackInto 0 = .ok (.iload_n 1, 1) := by decide +kernel
theorem dX4_feedBackInto_1 : decode cX4_feedBackInto 1 = .ok (.ifCond .ge 6, 3) := by decide +kernel
theorem dX4_feedBackInto_4 : decode cX4_feedBackInto 4 = .ok (.bipush (-99), 2) := by decide +kernel
theorem dX4_feedBackInto_6 : decode cX4_feedBackInto 6 = .ok (.ireturn, 1) := by decide +kernel
theorem dX4_feedBackInto_7 : decode cX4_feedBackInto 7 = .ok (.iconst 0, 1) := by decide +kernel
theorem dX4_feedBackInto_8 : decode cX4_feedBackInto 8 = .ok (.istore_n 2, 1) := by decide +kernel
theorem dX4_feedBackInto_9 : decode cX4_feedBackInto 9 = .ok (.iload_n 2, 1) := by decide +kernel
theorem dX4_feedBackInto_10 : decode cX4_feedBackInto 10 = .ok (.iconst 4, 1) := by decide +kernel
theorem dX4_feedBackInto_11 : decode cX4_feedBackInto 11 = .ok (.if_icmp .ge 21, 3) := by decide +kernel
theorem dX4_feedBackInto_14 : decode cX4_feedBackInto 14 = .ok (.aload_n 0, 1) := by decide +kernel
theorem dX4_feedBackInto_15 : decode cX4_feedBackInto 15 = .ok (.getfield 27, 3) := by decide +kernel
theorem dX4_feedBackInto_18 : decode cX4_feedBackInto 18 = .ok (.iload_n 2, 1) := by decide +kernel
theorem dX4_feedBackInto_19 : decode cX4_feedBackInto 19 = .ok (.iaload, 1) := by decide +kernel
theorem dX4_feedBackInto_20 : decode cX4_feedBackInto 20 = .ok (.iload_n 1, 1) := by decide +kernel
theorem dX4_feedBackInto_21 : decode cX4_feedBackInto 21 = .ok (.if_icmp .ne 5, 3) := by decide +kernel
theorem dX4_feedBackInto_24 : decode cX4_feedBackInto 24 = .ok (.iload_n 2, 1) := by decide +kernel
theorem dX4_feedBackInto_25 : decode cX4_feedBackInto 25 = .ok (.ireturn, 1) := by decide +kernel
theorem dX4_feedBackInto_26 : decode cX4_feedBackInto 26 = .ok (.iinc 2 1, 3) := by decide +kernel
theorem dX4_feedBackInto_29 : decode cX4_feedBackInto 29 = .ok (.goto (-20), 3) := by decide +kernel
theorem dX4_feedBackInto_32 : decode cX4_feedBackInto 32 = .ok (.bipush (-99), 2) := by decide +kernel
theorem dX4_feedBackInto_34 : decode cX4_feedBackInto 34 = .ok (.ireturn, 1) := by decide +kernel
set_option maxRecDepth 20000 in
theorem ggX4_isSoloedAway_X5_hasBit : GoodIn wsX4_isSoloedAway wsX5_hasBit := goodIn_r _ [6] (by decide +kernel) (by decide +kernel)
set_option maxRecDepth 20000 in
theorem gX4_isSoloedAway_X5_hasBit_n81 : GoodIn wsX4_isSoloedAway (wsX5_hasBit) := ggX4_isSoloedAway_X5_hasBit
theorem dX4_isSoloedAway_0 : decode cX4_isSoloedAway 0 = .ok (.aload_n 0, 1) := by decide +kernel
theorem dX4_isSoloedAway_1 : decode cX4_isSoloedAway 1 = .ok (.getfield 59, 3) := by decide +kernel
theorem dX4_isSoloedAway_4 : decode cX4_isSoloedAway 4 = .ok (.ifCond .eq 32, 3) := by decide +kernel
theorem dX4_isSoloedAway_7 : decode cX4_isSoloedAway 7 = .ok (.aload_n 0, 1) := by decide +kernel
theorem dX4_isSoloedAway_8 : decode cX4_isSoloedAway 8 = .ok (.getfield 56, 3) := by decide +kernel
theorem dX4_isSoloedAway_11 : decode cX4_isSoloedAway 11 = .ok (.iload_n 1, 1) := by decide +kernel
theorem dX4_isSoloedAway_12 : decode cX4_isSoloedAway 12 = .ok (.invokestatic 81, 3) := by decide +kernel
theorem dX4_isSoloedAway_15 : decode cX4_isSoloedAway 15 = .ok (.ifCond .ne 21, 3) := by decide +kernel
theorem dX4_isSoloedAway_18 : decode cX4_isSoloedAway 18 = .ok (.aload_n 0, 1) := by decide +kernel
theorem dX4_isSoloedAway_19 : decode cX4_isSoloedAway 19 = .ok (.getfield 18, 3) := by decide +kernel
theorem dX4_isSoloedAway_22 : decode cX4_isSoloedAway 22 = .ok (.iload_n 1, 1) := by decide +kernel
theorem dX4_isSoloedAway_23 : decode cX4_isSoloedAway 23 = .ok (.iaload, 1) := by decide +kernel
theorem dX4_isSoloedAway_24 : decode cX4_isSoloedAway 24 = .ok (.aload_n 0, 1) := by decide +kernel
theorem dX4_isSoloedAway_25 : decode cX4_isSoloedAway 25 = .ok (.getfield 59, 3) := by decide +kernel
theorem dX4_isSoloedAway_28 : decode cX4_isSoloedAway 28 = .ok (.iand, 1) := by decide +kernel
theorem dX4_isSoloedAway_29 : decode cX4_isSoloedAway 29 = .ok (.ifCond .ne 7, 3) := by decide +kernel
theorem dX4_isSoloedAway_32 : decode cX4_isSoloedAway 32 = .ok (.iconst 1, 1) := by decide +kernel
theorem dX4_isSoloedAway_33 : decode cX4_isSoloedAway 33 = .ok (.goto 4, 3) := by decide +kernel
theorem dX4_isSoloedAway_36 : decode cX4_isSoloedAway 36 = .ok (.iconst 0, 1) := by decide +kernel
theorem dX4_isSoloedAway_37 : decode cX4_isSoloedAway 37 = .ok (.ireturn, 1) := by decide +kernel
set_option maxRecDepth 20000 in
theorem ggX4_levelOf_X5_hasBit : GoodIn wsX4_levelOf wsX5_hasBit := goodIn_r _ [6] (by decide +kernel) (by decide +kernel)
set_option maxRecDepth 20000 in
theorem gX4_levelOf_X5_hasBit_n81 : GoodIn wsX4_levelOf (wsX5_hasBit) := ggX4_levelOf_X5_hasBit
set_option maxRecDepth 20000 in
theorem ggX4_levelOf_X4_isSoloedAway : GoodIn wsX4_levelOf wsX4_isSoloedAway := goodIn_r _ [11, 12, 13, 3, 4, 5, 6, 14, 15, 16, 17, 18, 19, 20, 21, 22, 23, 24, 25, 26, 27, 28, 29, 30, 31] (by decide +kernel) (by decide +kernel)
set_option maxRecDepth 20000 in
theorem gX4_levelOf_X4_isSoloedAway : GoodIn wsX4_levelOf (wsV RX4 93 RX4 yX4_isSoloedAway wsX4_isSoloedAway) := goodIn_app (goodIn_of _ (by decide +kernel)) ggX4_levelOf_X4_isSoloedAway
theorem dX4_levelOf_0 : decode cX4_levelOf 0 = .ok (.aload_n 0, 1) := by decide +kernel
theorem dX4_levelOf_1 : decode cX4_levelOf 1 = .ok (.getfield 52, 3) := by decide +kernel
theorem dX4_levelOf_4 : decode cX4_levelOf 4 = .ok (.iload_n 1, 1) := by decide +kernel
theorem dX4_levelOf_5 : decode cX4_levelOf 5 = .ok (.invokestatic 81, 3) := by decide +kernel
theorem dX4_levelOf_8 : decode cX4_levelOf 8 = .ok (.ifCond .ne 11, 3) := by decide +kernel
theorem dX4_levelOf_11 : decode cX4_levelOf 11 = .ok (.aload_n 0, 1) := by decide +kernel
theorem dX4_levelOf_12 : decode cX4_levelOf 12 = .ok (.iload_n 1, 1) := by decide +kernel
theorem dX4_levelOf_13 : decode cX4_levelOf 13 = .ok (.invokevirtual 93, 3) := by decide +kernel
theorem dX4_levelOf_16 : decode cX4_levelOf 16 = .ok (.ifCond .eq 5, 3) := by decide +kernel
theorem dX4_levelOf_19 : decode cX4_levelOf 19 = .ok (.iconst 0, 1) := by decide +kernel
theorem dX4_levelOf_20 : decode cX4_levelOf 20 = .ok (.ireturn, 1) := by decide +kernel
theorem dX4_levelOf_21 : decode cX4_levelOf 21 = .ok (.aload_n 0, 1) := by decide +kernel
theorem dX4_levelOf_22 : decode cX4_levelOf 22 = .ok (.getfield 15, 3) := by decide +kernel
theorem dX4_levelOf_25 : decode cX4_levelOf 25 = .ok (.iload_n 1, 1) := by decide +kernel
theorem dX4_levelOf_26 : decode cX4_levelOf 26 = .ok (.iaload, 1) := by decide +kernel
theorem dX4_levelOf_27 : decode cX4_levelOf 27 = .ok (.istore_n 2, 1) := by decide +kernel
theorem dX4_levelOf_28 : decode cX4_levelOf 28 = .ok (.iconst 0, 1) := by decide +kernel
theorem dX4_levelOf_29 : decode cX4_levelOf 29 = .ok (.istore_n 3, 1) := by decide +kernel
theorem dX4_levelOf_30 : decode cX4_levelOf 30 = .ok (.iload_n 3, 1) := by decide +kernel
theorem dX4_levelOf_31 : decode cX4_levelOf 31 = .ok (.iconst 4, 1) := by decide +kernel
theorem dX4_levelOf_32 : decode cX4_levelOf 32 = .ok (.if_icmp .ge 37, 3) := by decide +kernel
theorem dX4_levelOf_35 : decode cX4_levelOf 35 = .ok (.aload_n 0, 1) := by decide +kernel
theorem dX4_levelOf_36 : decode cX4_levelOf 36 = .ok (.getfield 18, 3) := by decide +kernel
theorem dX4_levelOf_39 : decode cX4_levelOf 39 = .ok (.iload_n 1, 1) := by decide +kernel
theorem dX4_levelOf_40 : decode cX4_levelOf 40 = .ok (.iaload, 1) := by decide +kernel
theorem dX4_levelOf_41 : decode cX4_levelOf 41 = .ok (.iload_n 3, 1) := by decide +kernel
theorem dX4_levelOf_42 : decode cX4_levelOf 42 = .ok (.invokestatic 81, 3) := by decide +kernel
theorem dX4_levelOf_45 : decode cX4_levelOf 45 = .ok (.ifCond .eq 18, 3) := by decide +kernel
theorem dX4_levelOf_48 : decode cX4_levelOf 48 = .ok (.iload_n 2, 1) := by decide +kernel
theorem dX4_levelOf_49 : decode cX4_levelOf 49 = .ok (.aload_n 0, 1) := by decide +kernel
theorem dX4_levelOf_50 : decode cX4_levelOf 50 = .ok (.getfield 15, 3) := by decide +kernel
theorem dX4_levelOf_53 : decode cX4_levelOf 53 = .ok (.bipush 12, 2) := by decide +kernel
theorem dX4_levelOf_55 : decode cX4_levelOf 55 = .ok (.iload_n 3, 1) := by decide +kernel
theorem dX4_levelOf_56 : decode cX4_levelOf 56 = .ok (.iadd, 1) := by decide +kernel
theorem dX4_levelOf_57 : decode cX4_levelOf 57 = .ok (.iaload, 1) := by decide +kernel
theorem dX4_levelOf_58 : decode cX4_levelOf 58 = .ok (.imul, 1) := by decide +kernel
theorem dX4_levelOf_59 : decode cX4_levelOf 59 = .ok (.bipush 100, 2) := by decide +kernel
theorem dX4_levelOf_61 : decode cX4_levelOf 61 = .ok (.idiv, 1) := by decide +kernel
theorem dX4_levelOf_62 : decode cX4_levelOf 62 = .ok (.istore_n 2, 1) := by decide +kernel
theorem dX4_levelOf_63 : decode cX4_levelOf 63 = .ok (.iinc 3 1, 3) := by decide +kernel
theorem dX4_levelOf_66 : decode cX4_levelOf 66 = .ok (.goto (-36), 3) := by decide +kernel
theorem dX4_levelOf_69 : decode cX4_levelOf 69 = .ok (.iload_n 2, 1) := by decide +kernel
theorem dX4_levelOf_70 : decode cX4_levelOf 70 = .ok (.ireturn, 1) := by decide +kernel
set_option maxRecDepth 20000 in
theorem ggX4_audibleChannels_X4_levelOf : GoodIn wsX4_audibleChannels wsX4_levelOf := goodIn_r _ [5, 6, 7, 8, 9, 10, 11, 12, 13, 14, 4, 15, 16, 17, 18, 19, 20, 21, 22, 23, 24, 25, 26, 27, 28, 29, 30, 31, 32, 33, 34, 35] (by decide +kernel) (by decide +kernel)
set_option maxRecDepth 20000 in
theorem gX4_audibleChannels_X4_levelOf : GoodIn wsX4_audibleChannels (wsV RX4 97 RX4 yX4_levelOf wsX4_levelOf) := goodIn_app (goodIn_of _ (by decide +kernel)) ggX4_audibleChannels_X4_levelOf
theorem dX4_audibleChannels_0 : decode cX4_audibleChannels 0 = .ok (.iconst 0, 1) := by decide +kernel
theorem dX4_audibleChannels_1 : decode cX4_audibleChannels 1 = .ok (.istore_n 1, 1) := by decide +kernel
theorem dX4_audibleChannels_2 : decode cX4_audibleChannels 2 = .ok (.iconst 0, 1) := by decide +kernel
theorem dX4_audibleChannels_3 : decode cX4_audibleChannels 3 = .ok (.istore_n 2, 1) := by decide +kernel
theorem dX4_audibleChannels_4 : decode cX4_audibleChannels 4 = .ok (.iload_n 2, 1) := by decide +kernel
theorem dX4_audibleChannels_5 : decode cX4_audibleChannels 5 = .ok (.bipush 12, 2) := by decide +kernel
theorem dX4_audibleChannels_7 : decode cX4_audibleChannels 7 = .ok (.if_icmp .ge 23, 3) := by decide +kernel
theorem dX4_audibleChannels_10 : decode cX4_audibleChannels 10 = .ok (.aload_n 0, 1) := by decide +kernel
theorem dX4_audibleChannels_11 : decode cX4_audibleChannels 11 = .ok (.iload_n 2, 1) := by decide +kernel
theorem dX4_audibleChannels_12 : decode cX4_audibleChannels 12 = .ok (.invokevirtual 97, 3) := by decide +kernel
theorem dX4_audibleChannels_15 : decode cX4_audibleChannels 15 = .ok (.ifCond .le 9, 3) := by decide +kernel
theorem dX4_audibleChannels_18 : decode cX4_audibleChannels 18 = .ok (.iload_n 1, 1) := by decide +kernel
theorem dX4_audibleChannels_19 : decode cX4_audibleChannels 19 = .ok (.iconst 1, 1) := by decide +kernel
theorem dX4_audibleChannels_20 : decode cX4_audibleChannels 20 = .ok (.iload_n 2, 1) := by decide +kernel
theorem dX4_audibleChannels_21 : decode cX4_audibleChannels 21 = .ok (.ishl, 1) := by decide +kernel
theorem dX4_audibleChannels_22 : decode cX4_audibleChannels 22 = .ok (.ior, 1) := by decide +kernel
theorem dX4_audibleChannels_23 : decode cX4_audibleChannels 23 = .ok (.istore_n 1, 1) := by decide +kernel
theorem dX4_audibleChannels_24 : decode cX4_audibleChannels 24 = .ok (.iinc 2 1, 3) := by decide +kernel
theorem dX4_audibleChannels_27 : decode cX4_audibleChannels 27 = .ok (.goto (-23), 3) := by decide +kernel
theorem dX4_audibleChannels_30 : decode cX4_audibleChannels 30 = .ok (.iload_n 1, 1) := by decide +kernel
theorem dX4_audibleChannels_31 : decode cX4_audibleChannels 31 = .ok (.ireturn, 1) := by decide +kernel
set_option maxRecDepth 20000 in
theorem ggX4_gainOf_X4_levelOf : GoodIn wsX4_gainOf wsX4_levelOf := goodIn_r _ [5, 6, 7, 8, 9, 10, 11, 12, 13, 14, 4, 15, 16, 17, 26, 27, 28, 29, 30, 31, 32, 33, 34, 35, 36, 37, 38, 39, 40, 41, 42, 43] (by decide +kernel) (by decide +kernel)
set_option maxRecDepth 20000 in
theorem gX4_gainOf_X4_levelOf : GoodIn wsX4_gainOf (wsV RX4 97 RX4 yX4_levelOf wsX4_levelOf) := goodIn_app (goodIn_of _ (by decide +kernel)) ggX4_gainOf_X4_levelOf
set_option maxRecDepth 20000 in
theorem ggX4_gainOf_X4_gainAt : GoodIn wsX4_gainOf wsX4_gainAt := goodIn_r _ [21, 22, 23, 9, 10, 11, 24, 25, 26, 27, 28, 29, 30, 31, 32, 33, 34, 35, 36, 37, 38, 39, 40, 41, 42, 43] (by decide +kernel) (by decide +kernel)
set_option maxRecDepth 20000 in
theorem gX4_gainOf_X4_gainAt : GoodIn wsX4_gainOf (wsV RX4 101 RX4 yX4_gainAt wsX4_gainAt) := goodIn_app (goodIn_of _ (by decide +kernel)) ggX4_gainOf_X4_gainAt
theorem dX4_gainOf_0 : decode cX4_gainOf 0 = .ok (.aload_n 0, 1) := by decide +kernel
theorem dX4_gainOf_1 : decode cX4_gainOf 1 = .ok (.iload_n 1, 1) := by decide +kernel
theorem dX4_gainOf_2 : decode cX4_gainOf 2 = .ok (.iload_n 2, 1) := by decide +kernel
theorem dX4_gainOf_3 : decode cX4_gainOf 3 = .ok (.aload_n 0, 1) := by decide +kernel
theorem dX4_gainOf_4 : decode cX4_gainOf 4 = .ok (.iload_n 2, 1) := by decide +kernel
theorem dX4_gainOf_5 : decode cX4_gainOf 5 = .ok (.invokevirtual 97, 3) := by decide +kernel
theorem dX4_gainOf_8 : decode cX4_gainOf 8 = .ok (.invokevirtual 101, 3) := by decide +kernel
theorem dX4_gainOf_11 : decode cX4_gainOf 11 = .ok (.ireturn, 1) := by decide +kernel
set_option maxRecDepth 20000 in
theorem ggX4_gainAt_X5_hasBit : GoodIn wsX4_gainAt wsX5_hasBit := goodIn_r _ [5] (by decide +kernel) (by decide +kernel)
set_option maxRecDepth 20000 in
theorem gX4_gainAt_X5_hasBit_n81 : GoodIn wsX4_gainAt (wsX5_hasBit) := ggX4_gainAt_X5_hasBit
set_option maxRecDepth 20000 in
theorem ggX4_gainAt_X5_sendIndex : GoodIn wsX4_gainAt wsX5_sendIndex := goodIn_r _ [7] (by decide +kernel) (by decide +kernel)
set_option maxRecDepth 20000 in
theorem gX4_gainAt_X5_sendIndex_n104 : GoodIn wsX4_gainAt (wsX5_sendIndex) := ggX4_gainAt_X5_sendIndex
theorem dX4_gainAt_0 : decode cX4_gainAt 0 = .ok (.aload_n 0, 1) := by decide +kernel
theorem dX4_gainAt_1 : decode cX4_gainAt 1 = .ok (.getfield 24, 3) := by decide +kernel
theorem dX4_gainAt_4 : decode cX4_gainAt 4 = .ok (.iload_n 1, 1) := by decide +kernel
theorem dX4_gainAt_5 : decode cX4_gainAt 5 = .ok (.iaload, 1) := by decide +kernel
theorem dX4_gainAt_6 : decode cX4_gainAt 6 = .ok (.iload_n 2, 1) := by decide +kernel
theorem dX4_gainAt_7 : decode cX4_gainAt 7 = .ok (.invokestatic 81, 3) := by decide +kernel
theorem dX4_gainAt_10 : decode cX4_gainAt 10 = .ok (.ifCond .eq 5, 3) := by decide +kernel
theorem dX4_gainAt_13 : decode cX4_gainAt 13 = .ok (.iconst 0, 1) := by decide +kernel
theorem dX4_gainAt_14 : decode cX4_gainAt 14 = .ok (.ireturn, 1) := by decide +kernel
theorem dX4_gainAt_15 : decode cX4_gainAt 15 = .ok (.iload_n 3, 1) := by decide +kernel
theorem dX4_gainAt_16 : decode cX4_gainAt 16 = .ok (.aload_n 0, 1) := by decide +kernel
theorem dX4_gainAt_17 : decode cX4_gainAt 17 = .ok (.getfield 21, 3) := by decide +kernel
theorem dX4_gainAt_20 : decode cX4_gainAt 20 = .ok (.iload_n 1, 1) := by decide +kernel
theorem dX4_gainAt_21 : decode cX4_gainAt 21 = .ok (.iload_n 2, 1) := by decide +kernel
theorem dX4_gainAt_22 : decode cX4_gainAt 22 = .ok (.invokestatic 104, 3) := by decide +kernel
theorem dX4_gainAt_25 : decode cX4_gainAt 25 = .ok (.iaload, 1) := by decide +kernel
theorem dX4_gainAt_26 : decode cX4_gainAt 26 = .ok (.imul, 1) := by decide +kernel
theorem dX4_gainAt_27 : decode cX4_gainAt 27 = .ok (.bipush 100, 2) := by decide +kernel
theorem dX4_gainAt_29 : decode cX4_gainAt 29 = .ok (.idiv, 1) := by decide +kernel
theorem dX4_gainAt_30 : decode cX4_gainAt 30 = .ok (.ireturn, 1) := by decide +kernel
set_option maxRecDepth 20000 in
theorem ggX4_channelsReaching_X4_gainOf : GoodIn wsX4_channelsReaching wsX4_gainOf := goodIn_r _ [5, 6, 7, 8, 4, 9, 10, 11, 12, 13, 14, 15, 16, 17, 18, 19, 20, 21, 22, 23, 24, 25, 26, 27, 28, 29, 30, 31, 32, 33, 34, 35, 36, 37, 38, 39, 40, 41, 42, 43, 44, 45, 46, 47] (by decide +kernel) (by decide +kernel)
set_option maxRecDepth 20000 in
theorem gX4_channelsReaching_X4_gainOf : GoodIn wsX4_channelsReaching (wsV RX4 108 RX4 yX4_gainOf wsX4_gainOf) := goodIn_app (goodIn_of _ (by decide +kernel)) ggX4_channelsReaching_X4_gainOf
theorem dX4_channelsReaching_0 : decode cX4_channelsReaching 0 = .ok (.iconst 0, 1) := by decide +kernel
theorem dX4_channelsReaching_1 : decode cX4_channelsReaching 1 = .ok (.istore_n 2, 1) := by decide +kernel
theorem dX4_channelsReaching_2 : decode cX4_channelsReaching 2 = .ok (.iconst 0, 1) := by decide +kernel
theorem dX4_channelsReaching_3 : decode cX4_channelsReaching 3 = .ok (.istore_n 3, 1) := by decide +kernel
theorem dX4_channelsReaching_4 : decode cX4_channelsReaching 4 = .ok (.iload_n 3, 1) := by decide +kernel
theorem dX4_channelsReaching_5 : decode cX4_channelsReaching 5 = .ok (.bipush 12, 2) := by decide +kernel
theorem dX4_channelsReaching_7 : decode cX4_channelsReaching 7 = .ok (.if_icmp .ge 24, 3) := by decide +kernel
theorem dX4_channelsReaching_10 : decode cX4_channelsReaching 10 = .ok (.aload_n 0, 1) := by decide +kernel
theorem dX4_channelsReaching_11 : decode cX4_channelsReaching 11 = .ok (.iload_n 1, 1) := by decide +kernel
theorem dX4_channelsReaching_12 : decode cX4_channelsReaching 12 = .ok (.iload_n 3, 1) := by decide +kernel
theorem dX4_channelsReaching_13 : decode cX4_channelsReaching 13 = .ok (.invokevirtual 108, 3) := by decide +kernel
theorem dX4_channelsReaching_16 : decode cX4_channelsReaching 16 = .ok (.ifCond .le 9, 3) := by decide +kernel
theorem dX4_channelsReaching_19 : decode cX4_channelsReaching 19 = .ok (.iload_n 2, 1) := by decide +kernel
theorem dX4_channelsReaching_20 : decode cX4_channelsReaching 20 = .ok (.iconst 1, 1) := by decide +kernel
theorem dX4_channelsReaching_21 : decode cX4_channelsReaching 21 = .ok (.iload_n 3, 1) := by decide +kernel
theorem dX4_channelsReaching_22 : decode cX4_channelsReaching 22 = .ok (.ishl, 1) := by decide +kernel
theorem dX4_channelsReaching_23 : decode cX4_channelsReaching 23 = .ok (.ior, 1) := by decide +kernel
theorem dX4_channelsReaching_24 : decode cX4_channelsReaching 24 = .ok (.istore_n 2, 1) := by decide +kernel
theorem dX4_channelsReaching_25 : decode cX4_channelsReaching 25 = .ok (.iinc 3 1, 3) := by decide +kernel
theorem dX4_channelsReaching_28 : decode cX4_channelsReaching 28 = .ok (.goto (-24), 3) := by decide +kernel
theorem dX4_channelsReaching_31 : decode cX4_channelsReaching 31 = .ok (.iload_n 2, 1) := by decide +kernel
theorem dX4_channelsReaching_32 : decode cX4_channelsReaching 32 = .ok (.ireturn, 1) := by decide +kernel
theorem dX4_keepScene_0 : decode cX4_keepScene 0 = .ok (.aload_n 0, 1) := by decide +kernel
theorem dX4_keepScene_1 : decode cX4_keepScene 1 = .ok (.getfield 15, 3) := by decide +kernel
theorem dX4_keepScene_4 : decode cX4_keepScene 4 = .ok (.iconst 0, 1) := by decide +kernel
theorem dX4_keepScene_5 : decode cX4_keepScene 5 = .ok (.aload_n 0, 1) := by decide +kernel
theorem dX4_keepScene_6 : decode cX4_keepScene 6 = .ok (.getfield 36, 3) := by decide +kernel
theorem dX4_keepScene_9 : decode cX4_keepScene 9 = .ok (.iload_n 1, 1) := by decide +kernel
theorem dX4_keepScene_10 : decode cX4_keepScene 10 = .ok (.bipush 17, 2) := by decide +kernel
theorem dX4_keepScene_12 : decode cX4_keepScene 12 = .ok (.imul, 1) := by decide +kernel
theorem dX4_keepScene_13 : decode cX4_keepScene 13 = .ok (.bipush 16, 2) := by decide +kernel
theorem dX4_keepScene_15 : decode cX4_keepScene 15 = .ok (.invokestatic 46, 3) := by decide +kernel
theorem dX4_keepScene_18 : decode cX4_keepScene 18 = .ok (.aload_n 0, 1) := by decide +kernel
theorem dX4_keepScene_19 : decode cX4_keepScene 19 = .ok (.getfield 36, 3) := by decide +kernel
theorem dX4_keepScene_22 : decode cX4_keepScene 22 = .ok (.iload_n 1, 1) := by decide +kernel
theorem dX4_keepScene_23 : decode cX4_keepScene 23 = .ok (.bipush 17, 2) := by decide +kernel
theorem dX4_keepScene_25 : decode cX4_keepScene 25 = .ok (.imul, 1) := by decide +kernel
theorem dX4_keepScene_26 : decode cX4_keepScene 26 = .ok (.bipush 16, 2) := by decide +kernel
theorem dX4_keepScene_28 : decode cX4_keepScene 28 = .ok (.iadd, 1) := by decide +kernel
theorem dX4_keepScene_29 : decode cX4_keepScene 29 = .ok (.aload_n 0, 1) := by decide +kernel
theorem dX4_keepScene_30 : decode cX4_keepScene 30 = .ok (.getfield 52, 3) := by decide +kernel
theorem dX4_keepScene_33 : decode cX4_keepScene 33 = .ok (.iastore, 1) := by decide +kernel
theorem dX4_keepScene_34 : decode cX4_keepScene 34 = .ok (.aload_n 0, 1) := by decide +kernel
theorem dX4_keepScene_35 : decode cX4_keepScene 35 = .ok (.dup, 1) := by decide +kernel
theorem dX4_keepScene_36 : decode cX4_keepScene 36 = .ok (.getfield 74, 3) := by decide +kernel
theorem dX4_keepScene_39 : decode cX4_keepScene 39 = .ok (.iconst 1, 1) := by decide +kernel
theorem dX4_keepScene_40 : decode cX4_keepScene 40 = .ok (.iload_n 1, 1) := by decide +kernel
theorem dX4_keepScene_41 : decode cX4_keepScene 41 = .ok (.ishl, 1) := by decide +kernel
theorem dX4_keepScene_42 : decode cX4_keepScene 42 = .ok (.ior, 1) := by decide +kernel
theorem dX4_keepScene_43 : decode cX4_keepScene 43 = .ok (.putfield 74, 3) := by decide +kernel
theorem dX4_keepScene_46 : decode cX4_keepScene 46 = .ok (.return_, 1) := by decide +kernel
theorem dX4_slidersUnlike_0 : decode cX4_slidersUnlike 0 = .ok (.iconst 0, 1) := by decide +kernel
theorem dX4_slidersUnlike_1 : decode cX4_slidersUnlike 1 = .ok (.istore_n 2, 1) := by decide +kernel
theorem dX4_slidersUnlike_2 : decode cX4_slidersUnlike 2 = .ok (.iconst 0, 1) := by decide +kernel
theorem dX4_slidersUnlike_3 : decode cX4_slidersUnlike 3 = .ok (.istore_n 3, 1) := by decide +kernel
theorem dX4_slidersUnlike_4 : decode cX4_slidersUnlike 4 = .ok (.iload_n 3, 1) := by decide +kernel
theorem dX4_slidersUnlike_5 : decode cX4_slidersUnlike 5 = .ok (.bipush 16, 2) := by decide +kernel
theorem dX4_slidersUnlike_7 : decode cX4_slidersUnlike 7 = .ok (.if_icmp .ge 32, 3) := by decide +kernel
theorem dX4_slidersUnlike_10 : decode cX4_slidersUnlike 10 = .ok (.aload_n 0, 1) := by decide +kernel
theorem dX4_slidersUnlike_11 : decode cX4_slidersUnlike 11 = .ok (.getfield 15, 3) := by decide +kernel
theorem dX4_slidersUnlike_14 : decode cX4_slidersUnlike 14 = .ok (.iload_n 3, 1) := by decide +kernel
theorem dX4_slidersUnlike_15 : decode cX4_slidersUnlike 15 = .ok (.iaload, 1) := by decide +kernel
theorem dX4_slidersUnlike_16 : decode cX4_slidersUnlike 16 = .ok (.aload_n 0, 1) := by decide +kernel
theorem dX4_slidersUnlike_17 : decode cX4_slidersUnlike 17 = .ok (.getfield 36, 3) := by decide +kernel
theorem dX4_slidersUnlike_20 : decode cX4_slidersUnlike 20 = .ok (.iload_n 1, 1) := by decide +kernel
theorem dX4_slidersUnlike_21 : decode cX4_slidersUnlike 21 = .ok (.bipush 17, 2) := by decide +kernel
theorem dX4_slidersUnlike_23 : decode cX4_slidersUnlike 23 = .ok (.imul, 1) := by decide +kernel
theorem dX4_slidersUnlike_24 : decode cX4_slidersUnlike 24 = .ok (.iload_n 3, 1) := by decide +kernel
theorem dX4_slidersUnlike_25 : decode cX4_slidersUnlike 25 = .ok (.iadd, 1) := by decide +kernel
theorem dX4_slidersUnlike_26 : decode cX4_slidersUnlike 26 = .ok (.iaload, 1) := by decide +kernel
theorem dX4_slidersUnlike_27 : decode cX4_slidersUnlike 27 = .ok (.if_icmp .eq 6, 3) := by decide +kernel
theorem dX4_slidersUnlike_30 : decode cX4_slidersUnlike 30 = .ok (.iinc 2 1, 3) := by decide +kernel
theorem dX4_slidersUnlike_33 : decode cX4_slidersUnlike 33 = .ok (.iinc 3 1, 3) := by decide +kernel
theorem dX4_slidersUnlike_36 : decode cX4_slidersUnlike 36 = .ok (.goto (-32), 3) := by decide +kernel
theorem dX4_slidersUnlike_39 : decode cX4_slidersUnlike 39 = .ok (.iload_n 2, 1) := by decide +kernel
theorem dX4_slidersUnlike_40 : decode cX4_slidersUnlike 40 = .ok (.ireturn, 1) := by decide +kernel
set_option maxRecDepth 20000 in
theorem ggX4_beginFade_X0_begin : GoodIn wsX4_beginFade wsX0_begin := goodIn_r _ [13, 14, 15, 16, 17, 18, 19, 5, 6, 7, 42, 43, 44, 45, 46] (by decide +kernel) (by decide +kernel)
set_option maxRecDepth 20000 in
theorem gX4_beginFade_X0_begin : GoodIn wsX4_beginFade (wsV RX4 111 RX0 yX0_begin wsX0_begin) := goodIn_app (goodIn_of _ (by decide +kernel)) ggX4_beginFade_X0_begin
set_option maxRecDepth 20000 in
theorem ggX4_beginFade_X0_end : GoodIn wsX4_beginFade wsX0_end := goodIn_r _ [23, 15, 16, 17, 42, 43, 44, 45, 46] (by decide +kernel) (by decide +kernel)
set_option maxRecDepth 20000 in
theorem gX4_beginFade_X0_end : GoodIn wsX4_beginFade (wsV RX4 115 RX0 yX0_end wsX0_end) := goodIn_app (goodIn_of _ (by decide +kernel)) ggX4_beginFade_X0_end
theorem dX4_beginFade_0 : decode cX4_beginFade 0 = .ok (.iload_n 2, 1) := by decide +kernel
theorem dX4_beginFade_1 : decode cX4_beginFade 1 = .ok (.ifCond .le 17, 3) := by decide +kernel
theorem dX4_beginFade_4 : decode cX4_beginFade 4 = .ok (.aload_n 0, 1) := by decide +kernel
theorem dX4_beginFade_5 : decode cX4_beginFade 5 = .ok (.getfield 42, 3) := by decide +kernel
theorem dX4_beginFade_8 : decode cX4_beginFade 8 = .ok (.iload_n 1, 1) := by decide +kernel
theorem dX4_beginFade_9 : decode cX4_beginFade 9 = .ok (.iload_n 2, 1) := by decide +kernel
theorem dX4_beginFade_10 : decode cX4_beginFade 10 = .ok (.aload_n 0, 1) := by decide +kernel
theorem dX4_beginFade_11 : decode cX4_beginFade 11 = .ok (.getfield 15, 3) := by decide +kernel
theorem dX4_beginFade_14 : decode cX4_beginFade 14 = .ok (.invokevirtual 111, 3) := by decide +kernel
theorem dX4_beginFade_17 : decode cX4_beginFade 17 = .ok (.return_, 1) := by decide +kernel
theorem dX4_beginFade_18 : decode cX4_beginFade 18 = .ok (.aload_n 0, 1) := by decide +kernel
theorem dX4_beginFade_19 : decode cX4_beginFade 19 = .ok (.getfield 42, 3) := by decide +kernel
theorem dX4_beginFade_22 : decode cX4_beginFade 22 = .ok (.invokevirtual 115, 3) := by decide +kernel
theorem dX4_beginFade_25 : decode cX4_beginFade 25 = .ok (.aload_n 0, 1) := by decide +kernel
theorem dX4_beginFade_26 : decode cX4_beginFade 26 = .ok (.getfield 36, 3) := by decide +kernel
theorem dX4_beginFade_29 : decode cX4_beginFade 29 = .ok (.iload_n 1, 1) := by decide +kernel
theorem dX4_beginFade_30 : decode cX4_beginFade 30 = .ok (.bipush 17, 2) := by decide +kernel
theorem dX4_beginFade_32 : decode cX4_beginFade 32 = .ok (.imul, 1) := by decide +kernel
theorem dX4_beginFade_33 : decode cX4_beginFade 33 = .ok (.aload_n 0, 1) := by decide +kernel
theorem dX4_beginFade_34 : decode cX4_beginFade 34 = .ok (.getfield 15, 3) := by decide +kernel
theorem dX4_beginFade_37 : decode cX4_beginFade 37 = .ok (.iconst 0, 1) := by decide +kernel
theorem dX4_beginFade_38 : decode cX4_beginFade 38 = .ok (.bipush 16, 2) := by decide +kernel
theorem dX4_beginFade_40 : decode cX4_beginFade 40 = .ok (.invokestatic 46, 3) := by decide +kernel
theorem dX4_beginFade_43 : decode cX4_beginFade 43 = .ok (.aload_n 0, 1) := by decide +kernel
theorem dX4_beginFade_44 : decode cX4_beginFade 44 = .ok (.aload_n 0, 1) := by decide +kernel
theorem dX4_beginFade_45 : decode cX4_beginFade 45 = .ok (.getfield 36, 3) := by decide +kernel
theorem dX4_beginFade_48 : decode cX4_beginFade 48 = .ok (.iload_n 1, 1) := by decide +kernel
theorem dX4_beginFade_49 : decode cX4_beginFade 49 = .ok (.bipush 17, 2) := by decide +kernel
theorem dX4_beginFade_51 : decode cX4_beginFade 51 = .ok (.imul, 1) := by decide +kernel
theorem dX4_beginFade_52 : decode cX4_beginFade 52 = .ok (.bipush 16, 2) := by decide +kernel
theorem dX4_beginFade_54 : decode cX4_beginFade 54 = .ok (.iadd, 1) := by decide +kernel
theorem dX4_beginFade_55 : decode cX4_beginFade 55 = .ok (.iaload, 1) := by decide +kernel
theorem dX4_beginFade_56 : decode cX4_beginFade 56 = .ok (.putfield 52, 3) := by decide +kernel
theorem dX4_beginFade_59 : decode cX4_beginFade 59 = .ok (.return_, 1) := by decide +kernel
set_option maxRecDepth 20000 in
theorem ggX4_goOn_X0_isGoingOn : GoodIn wsX4_goOn wsX0_isGoingOn := goodIn_r _ [7, 8, 106, 107, 108, 109, 110] (by decide +kernel) (by decide +kernel)
set_option maxRecDepth 20000 in
theorem gX4_goOn_X0_isGoingOn : GoodIn wsX4_goOn (wsV RX4 118 RX0 yX0_isGoingOn wsX0_isGoingOn) := goodIn_app (goodIn_of _ (by decide +kernel)) ggX4_goOn_X0_isGoingOn
set_option maxRecDepth 20000 in
theorem ggX4_goOn_X4_stepFade : GoodIn wsX4_goOn wsX4_stepFade := goodIn_r _ [13, 1, 14, 15, 16, 17, 18, 19, 6, 20, 21, 22, 23, 24, 25, 26, 27, 28, 8, 29, 30, 31, 32, 33, 34, 35, 36, 37, 38, 88, 89, 90, 91, 92, 93, 94, 95, 96, 97, 98, 99, 100, 101, 102, 103, 104, 105, 106, 107, 108, 109, 110] (by decide +kernel) (by decide +kernel)
set_option maxRecDepth 20000 in
theorem gX4_goOn_X4_stepFade : GoodIn wsX4_goOn (wsV RX4 122 RX4 yX4_stepFade wsX4_stepFade) := goodIn_app (goodIn_of _ (by decide +kernel)) ggX4_goOn_X4_stepFade
set_option maxRecDepth 20000 in
theorem ggX4_goOn_X4_takeSignals : GoodIn wsX4_goOn wsX4_takeSignals := goodIn_r _ [42, 43, 44, 45, 46, 47, 48, 49, 50, 51, 52, 53, 54, 88, 89, 90, 91, 92, 93, 94, 95, 96, 97, 98, 99, 100, 101, 102, 103, 104, 105] (by decide +kernel) (by decide +kernel)
set_option maxRecDepth 20000 in
theorem gX4_goOn_X4_takeSignals : GoodIn wsX4_goOn (wsV RX4 125 RX4 yX4_takeSignals wsX4_takeSignals) := goodIn_app (goodIn_of _ (by decide +kernel)) ggX4_goOn_X4_takeSignals
set_option maxRecDepth 20000 in
theorem ggX4_goOn_X4_mix : GoodIn wsX4_goOn wsX4_mix := goodIn_r _ [58, 50, 59, 44, 60, 61, 62, 53, 63, 64, 65, 66, 12, 67, 16, 14, 68, 22, 23, 24, 69, 70, 71, 72, 73, 74, 75, 76, 77, 78, 79, 80, 81, 82, 83, 84, 85, 86, 87, 88, 89, 90, 91, 92, 93, 94, 95, 96, 97, 98, 99, 100, 101, 102, 103, 104, 105] (by decide +kernel) (by decide +kernel)
set_option maxRecDepth 20000 in
theorem gX4_goOn_X4_mix : GoodIn wsX4_goOn (wsV RX4 128 RX4 yX4_mix wsX4_mix) := goodIn_app (goodIn_of _ (by decide +kernel)) ggX4_goOn_X4_mix
theorem dX4_goOn_0 : decode cX4_goOn 0 = .ok (.iconst 0, 1) := by decide +kernel
theorem dX4_goOn_1 : decode cX4_goOn 1 = .ok (.istore_n 2, 1) := by decide +kernel
theorem dX4_goOn_2 : decode cX4_goOn 2 = .ok (.iload_n 2, 1) := by decide +kernel
theorem dX4_goOn_3 : decode cX4_goOn 3 = .ok (.iload_n 1, 1) := by decide +kernel
theorem dX4_goOn_4 : decode cX4_goOn 4 = .ok (.if_icmp .ge 41, 3) := by decide +kernel
theorem dX4_goOn_7 : decode cX4_goOn 7 = .ok (.aload_n 0, 1) := by decide +kernel
theorem dX4_goOn_8 : decode cX4_goOn 8 = .ok (.getfield 42, 3) := by decide +kernel
theorem dX4_goOn_11 : decode cX4_goOn 11 = .ok (.invokevirtual 118, 3) := by decide +kernel
theorem dX4_goOn_14 : decode cX4_goOn 14 = .ok (.ifCond .eq 7, 3) := by decide +kernel
theorem dX4_goOn_17 : decode cX4_goOn 17 = .ok (.aload_n 0, 1) := by decide +kernel
theorem dX4_goOn_18 : decode cX4_goOn 18 = .ok (.invokevirtual 122, 3) := by decide +kernel
theorem dX4_goOn_21 : decode cX4_goOn 21 = .ok (.aload_n 0, 1) := by decide +kernel
theorem dX4_goOn_22 : decode cX4_goOn 22 = .ok (.invokevirtual 125, 3) := by decide +kernel
theorem dX4_goOn_25 : decode cX4_goOn 25 = .ok (.aload_n 0, 1) := by decide +kernel
theorem dX4_goOn_26 : decode cX4_goOn 26 = .ok (.invokevirtual 128, 3) := by decide +kernel
theorem dX4_goOn_29 : decode cX4_goOn 29 = .ok (.aload_n 0, 1) := by decide +kernel
theorem dX4_goOn_30 : decode cX4_goOn 30 = .ok (.dup, 1) := by decide +kernel
theorem dX4_goOn_31 : decode cX4_goOn 31 = .ok (.getfield 62, 3) := by decide +kernel
theorem dX4_goOn_34 : decode cX4_goOn 34 = .ok (.iconst 1, 1) := by decide +kernel
theorem dX4_goOn_35 : decode cX4_goOn 35 = .ok (.iadd, 1) := by decide +kernel
theorem dX4_goOn_36 : decode cX4_goOn 36 = .ok (.putfield 62, 3) := by decide +kernel
theorem dX4_goOn_39 : decode cX4_goOn 39 = .ok (.iinc 2 1, 3) := by decide +kernel
theorem dX4_goOn_42 : decode cX4_goOn 42 = .ok (.goto (-40), 3) := by decide +kernel
theorem dX4_goOn_45 : decode cX4_goOn 45 = .ok (.return_, 1) := by decide +kernel
set_option maxRecDepth 20000 in
theorem ggX4_stepFade_X0_isTouched : GoodIn wsX4_stepFade wsX0_isTouched := goodIn_r _ [9, 10, 11, 12, 13, 47, 48, 49, 50, 51] (by decide +kernel) (by decide +kernel)
set_option maxRecDepth 20000 in
theorem gX4_stepFade_X0_isTouched : GoodIn wsX4_stepFade (wsV RX4 137 RX0 yX0_isTouched wsX0_isTouched) := goodIn_app (goodIn_of _ (by decide +kernel)) ggX4_stepFade_X0_isTouched
set_option maxRecDepth 20000 in
theorem ggX4_stepFade_X0_positionOf : GoodIn wsX4_stepFade wsX0_positionOf := goodIn_r _ [17, 18, 19, 20, 47, 48, 49, 50, 51] (by decide +kernel) (by decide +kernel)
set_option maxRecDepth 20000 in
theorem gX4_stepFade_X0_positionOf : GoodIn wsX4_stepFade (wsV RX4 140 RX0 yX0_positionOf wsX0_positionOf) := goodIn_app (goodIn_of _ (by decide +kernel)) ggX4_stepFade_X0_positionOf
set_option maxRecDepth 20000 in
theorem ggX4_stepFade_X0_isInTheMiddle : GoodIn wsX4_stepFade wsX0_isInTheMiddle := goodIn_r _ [24, 20, 18, 47, 48, 49, 50, 51] (by decide +kernel) (by decide +kernel)
set_option maxRecDepth 20000 in
theorem gX4_stepFade_X0_isInTheMiddle : GoodIn wsX4_stepFade (wsV RX4 143 RX0 yX0_isInTheMiddle wsX0_isInTheMiddle) := goodIn_app (goodIn_of _ (by decide +kernel)) ggX4_stepFade_X0_isInTheMiddle
set_option maxRecDepth 20000 in
theorem ggX4_stepFade_X0_end : GoodIn wsX4_stepFade wsX0_end := goodIn_r _ [28, 20, 18, 10, 47, 48, 49, 50, 51] (by decide +kernel) (by decide +kernel)
set_option maxRecDepth 20000 in
theorem gX4_stepFade_X0_end : GoodIn wsX4_stepFade (wsV RX4 115 RX0 yX0_end wsX0_end) := goodIn_app (goodIn_of _ (by decide +kernel)) ggX4_stepFade_X0_end
theorem dX4_stepFade_0 : decode cX4_stepFade 0 = .ok (.aload_n 0, 1) := by decide +kernel
theorem dX4_stepFade_1 : decode cX4_stepFade 1 = .ok (.getfield 42, 3) := by decide +kernel
theorem dX4_stepFade_4 : decode cX4_stepFade 4 = .ok (.getfield 131, 3) := by decide +kernel
theorem dX4_stepFade_7 : decode cX4_stepFade 7 = .ok (.bipush 17, 2) := by decide +kernel
theorem dX4_stepFade_9 : decode cX4_stepFade 9 = .ok (.imul, 1) := by decide +kernel
theorem dX4_stepFade_10 : decode cX4_stepFade 10 = .ok (.istore_n 1, 1) := by decide +kernel
theorem dX4_stepFade_11 : decode cX4_stepFade 11 = .ok (.aload_n 0, 1) := by decide +kernel
theorem dX4_stepFade_12 : decode cX4_stepFade 12 = .ok (.getfield 42, 3) := by decide +kernel
theorem dX4_stepFade_15 : decode cX4_stepFade 15 = .ok (.dup, 1) := by decide +kernel
theorem dX4_stepFade_16 : decode cX4_stepFade 16 = .ok (.getfield 134, 3) := by decide +kernel
theorem dX4_stepFade_19 : decode cX4_stepFade 19 = .ok (.iconst 1, 1) := by decide +kernel
theorem dX4_stepFade_20 : decode cX4_stepFade 20 = .ok (.iadd, 1) := by decide +kernel
theorem dX4_stepFade_21 : decode cX4_stepFade 21 = .ok (.putfield 134, 3) := by decide +kernel
theorem dX4_stepFade_24 : decode cX4_stepFade 24 = .ok (.iconst 0, 1) := by decide +kernel
theorem dX4_stepFade_25 : decode cX4_stepFade 25 = .ok (.istore_n 2, 1) := by decide +kernel
theorem dX4_stepFade_26 : decode cX4_stepFade 26 = .ok (.iload_n 2, 1) := by decide +kernel
theorem dX4_stepFade_27 : decode cX4_stepFade 27 = .ok (.bipush 16, 2) := by decide +kernel
theorem dX4_stepFade_29 : decode cX4_stepFade 29 = .ok (.if_icmp .ge 42, 3) := by decide +kernel
theorem dX4_stepFade_32 : decode cX4_stepFade 32 = .ok (.aload_n 0, 1) := by decide +kernel
theorem dX4_stepFade_33 : decode cX4_stepFade 33 = .ok (.getfield 42, 3) := by decide +kernel
theorem dX4_stepFade_36 : decode cX4_stepFade 36 = .ok (.iload_n 2, 1) := by decide +kernel
theorem dX4_stepFade_37 : decode cX4_stepFade 37 = .ok (.invokevirtual 137, 3) := by decide +kernel
theorem dX4_stepFade_40 : decode cX4_stepFade 40 = .ok (.ifCond .ne 25, 3) := by decide +kernel
theorem dX4_stepFade_43 : decode cX4_stepFade 43 = .ok (.aload_n 0, 1) := by decide +kernel
theorem dX4_stepFade_44 : decode cX4_stepFade 44 = .ok (.getfield 15, 3) := by decide +kernel
theorem dX4_stepFade_47 : decode cX4_stepFade 47 = .ok (.iload_n 2, 1) := by decide +kernel
theorem dX4_stepFade_48 : decode cX4_stepFade 48 = .ok (.aload_n 0, 1) := by decide +kernel
theorem dX4_stepFade_49 : decode cX4_stepFade 49 = .ok (.getfield 42, 3) := by decide +kernel
theorem dX4_stepFade_52 : decode cX4_stepFade 52 = .ok (.iload_n 2, 1) := by decide +kernel
theorem dX4_stepFade_53 : decode cX4_stepFade 53 = .ok (.aload_n 0, 1) := by decide +kernel
theorem dX4_stepFade_54 : decode cX4_stepFade 54 = .ok (.getfield 36, 3) := by decide +kernel
theorem dX4_stepFade_57 : decode cX4_stepFade 57 = .ok (.iload_n 1, 1) := by decide +kernel
theorem dX4_stepFade_58 : decode cX4_stepFade 58 = .ok (.iload_n 2, 1) := by decide +kernel
theorem dX4_stepFade_59 : decode cX4_stepFade 59 = .ok (.iadd, 1) := by decide +kernel
theorem dX4_stepFade_60 : decode cX4_stepFade 60 = .ok (.iaload, 1) := by decide +kernel
theorem dX4_stepFade_61 : decode cX4_stepFade 61 = .ok (.invokevirtual 140, 3) := by decide +kernel
theorem dX4_stepFade_64 : decode cX4_stepFade 64 = .ok (.iastore, 1) := by decide +kernel
theorem dX4_stepFade_65 : decode cX4_stepFade 65 = .ok (.iinc 2 1, 3) := by decide +kernel
theorem dX4_stepFade_68 : decode cX4_stepFade 68 = .ok (.goto (-42), 3) := by decide +kernel
theorem dX4_stepFade_71 : decode cX4_stepFade 71 = .ok (.aload_n 0, 1) := by decide +kernel
theorem dX4_stepFade_72 : decode cX4_stepFade 72 = .ok (.getfield 42, 3) := by decide +kernel
theorem dX4_stepFade_75 : decode cX4_stepFade 75 = .ok (.invokevirtual 143, 3) := by decide +kernel
theorem dX4_stepFade_78 : decode cX4_stepFade 78 = .ok (.ifCond .eq 39, 3) := by decide +kernel
theorem dX4_stepFade_81 : decode cX4_stepFade 81 = .ok (.aload_n 0, 1) := by decide +kernel
theorem dX4_stepFade_82 : decode cX4_stepFade 82 = .ok (.aload_n 0, 1) := by decide +kernel
theorem dX4_stepFade_83 : decode cX4_stepFade 83 = .ok (.getfield 52, 3) := by decide +kernel
theorem dX4_stepFade_86 : decode cX4_stepFade 86 = .ok (.aload_n 0, 1) := by decide +kernel
theorem dX4_stepFade_87 : decode cX4_stepFade 87 = .ok (.getfield 42, 3) := by decide +kernel
theorem dX4_stepFade_90 : decode cX4_stepFade 90 = .ok (.getfield 146, 3) := by decide +kernel
theorem dX4_stepFade_93 : decode cX4_stepFade 93 = .ok (.iand, 1) := by decide +kernel
theorem dX4_stepFade_94 : decode cX4_stepFade 94 = .ok (.aload_n 0, 1) := by decide +kernel
theorem dX4_stepFade_95 : decode cX4_stepFade 95 = .ok (.getfield 36, 3) := by decide +kernel
theorem dX4_stepFade_98 : decode cX4_stepFade 98 = .ok (.iload_n 1, 1) := by decide +kernel
theorem dX4_stepFade_99 : decode cX4_stepFade 99 = .ok (.bipush 16, 2) := by decide +kernel
theorem dX4_stepFade_101 : decode cX4_stepFade 101 = .ok (.iadd, 1) := by decide +kernel
theorem dX4_stepFade_102 : decode cX4_stepFade 102 = .ok (.iaload, 1) := by decide +kernel
theorem dX4_stepFade_103 : decode cX4_stepFade 103 = .ok (.aload_n 0, 1) := by decide +kernel
theorem dX4_stepFade_104 : decode cX4_stepFade 104 = .ok (.getfield 42, 3) := by decide +kernel
theorem dX4_stepFade_107 : decode cX4_stepFade 107 = .ok (.getfield 146, 3) := by decide +kernel
theorem dX4_stepFade_110 : decode cX4_stepFade 110 = .ok (.iconst (-1), 1) := by decide +kernel
theorem dX4_stepFade_111 : decode cX4_stepFade 111 = .ok (.ixor, 1) := by decide +kernel
theorem dX4_stepFade_112 : decode cX4_stepFade 112 = .ok (.iand, 1) := by decide +kernel
theorem dX4_stepFade_113 : decode cX4_stepFade 113 = .ok (.ior, 1) := by decide +kernel
theorem dX4_stepFade_114 : decode cX4_stepFade 114 = .ok (.putfield 52, 3) := by decide +kernel
theorem dX4_stepFade_117 : decode cX4_stepFade 117 = .ok (.aload_n 0, 1) := by decide +kernel
theorem dX4_stepFade_118 : decode cX4_stepFade 118 = .ok (.getfield 42, 3) := by decide +kernel
theorem dX4_stepFade_121 : decode cX4_stepFade 121 = .ok (.getfield 134, 3) := by decide +kernel
theorem dX4_stepFade_124 : decode cX4_stepFade 124 = .ok (.aload_n 0, 1) := by decide +kernel
theorem dX4_stepFade_125 : decode cX4_stepFade 125 = .ok (.getfield 42, 3) := by decide +kernel
theorem dX4_stepFade_128 : decode cX4_stepFade 128 = .ok (.getfield 149, 3) := by decide +kernel
theorem dX4_stepFade_131 : decode cX4_stepFade 131 = .ok (.if_icmp .lt 10, 3) := by decide +kernel
theorem dX4_stepFade_134 : decode cX4_stepFade 134 = .ok (.aload_n 0, 1) := by decide +kernel
theorem dX4_stepFade_135 : decode cX4_stepFade 135 = .ok (.getfield 42, 3) := by decide +kernel
theorem dX4_stepFade_138 : decode cX4_stepFade 138 = .ok (.invokevirtual 115, 3) := by decide +kernel
theorem dX4_stepFade_141 : decode cX4_stepFade 141 = .ok (.return_, 1) := by decide +kernel
theorem dX4_takeSignals_0 : decode cX4_takeSignals 0 = .ok (.aload_n 0, 1) := by decide +kernel
theorem dX4_takeSignals_1 : decode cX4_takeSignals 1 = .ok (.getfield 9, 3) := by decide +kernel
theorem dX4_takeSignals_4 : decode cX4_takeSignals 4 = .ok (.iconst 0, 1) := by decide +kernel
theorem dX4_takeSignals_5 : decode cX4_takeSignals 5 = .ok (.aload_n 0, 1) := by decide +kernel
theorem dX4_takeSignals_6 : decode cX4_takeSignals 6 = .ok (.getfield 30, 3) := by decide +kernel
theorem dX4_takeSignals_9 : decode cX4_takeSignals 9 = .ok (.iconst 0, 1) := by decide +kernel
theorem dX4_takeSignals_10 : decode cX4_takeSignals 10 = .ok (.bipush 12, 2) := by decide +kernel
theorem dX4_takeSignals_12 : decode cX4_takeSignals 12 = .ok (.invokestatic 46, 3) := by decide +kernel
theorem dX4_takeSignals_15 : decode cX4_takeSignals 15 = .ok (.iconst 0, 1) := by decide +kernel
theorem dX4_takeSignals_16 : decode cX4_takeSignals 16 = .ok (.istore_n 1, 1) := by decide +kernel
theorem dX4_takeSignals_17 : decode cX4_takeSignals 17 = .ok (.iload_n 1, 1) := by decide +kernel
theorem dX4_takeSignals_18 : decode cX4_takeSignals 18 = .ok (.iconst 4, 1) := by decide +kernel
theorem dX4_takeSignals_19 : decode cX4_takeSignals 19 = .ok (.if_icmp .ge 45, 3) := by decide +kernel
theorem dX4_takeSignals_22 : decode cX4_takeSignals 22 = .ok (.aload_n 0, 1) := by decide +kernel
theorem dX4_takeSignals_23 : decode cX4_takeSignals 23 = .ok (.getfield 27, 3) := by decide +kernel
theorem dX4_takeSignals_26 : decode cX4_takeSignals 26 = .ok (.iload_n 1, 1) := by decide +kernel
theorem dX4_takeSignals_27 : decode cX4_takeSignals 27 = .ok (.iaload, 1) := by decide +kernel
theorem dX4_takeSignals_28 : decode cX4_takeSignals 28 = .ok (.istore_n 2, 1) := by decide +kernel
theorem dX4_takeSignals_29 : decode cX4_takeSignals 29 = .ok (.iload_n 2, 1) := by decide +kernel
theorem dX4_takeSignals_30 : decode cX4_takeSignals 30 = .ok (.ifCond .lt 28, 3) := by decide +kernel
theorem dX4_takeSignals_33 : decode cX4_takeSignals 33 = .ok (.aload_n 0, 1) := by decide +kernel
theorem dX4_takeSignals_34 : decode cX4_takeSignals 34 = .ok (.getfield 30, 3) := by decide +kernel
theorem dX4_takeSignals_37 : decode cX4_takeSignals 37 = .ok (.iload_n 2, 1) := by decide +kernel
theorem dX4_takeSignals_38 : decode cX4_takeSignals 38 = .ok (.aload_n 0, 1) := by decide +kernel
theorem dX4_takeSignals_39 : decode cX4_takeSignals 39 = .ok (.getfield 30, 3) := by decide +kernel
theorem dX4_takeSignals_42 : decode cX4_takeSignals 42 = .ok (.iload_n 2, 1) := by decide +kernel
theorem dX4_takeSignals_43 : decode cX4_takeSignals 43 = .ok (.iaload, 1) := by decide +kernel
theorem dX4_takeSignals_44 : decode cX4_takeSignals 44 = .ok (.aload_n 0, 1) := by decide +kernel
theorem dX4_takeSignals_45 : decode cX4_takeSignals 45 = .ok (.getfield 33, 3) := by decide +kernel
theorem dX4_takeSignals_48 : decode cX4_takeSignals 48 = .ok (.iload_n 1, 1) := by decide +kernel
theorem dX4_takeSignals_49 : decode cX4_takeSignals 49 = .ok (.iaload, 1) := by decide +kernel
theorem dX4_takeSignals_50 : decode cX4_takeSignals 50 = .ok (.iadd, 1) := by decide +kernel
theorem dX4_takeSignals_51 : decode cX4_takeSignals 51 = .ok (.sipush 9999, 3) := by decide +kernel
theorem dX4_takeSignals_54 : decode cX4_takeSignals 54 = .ok (.invokestatic 150, 3) := by decide +kernel
theorem dX4_takeSignals_57 : decode cX4_takeSignals 57 = .ok (.iastore, 1) := by decide +kernel
theorem dX4_takeSignals_58 : decode cX4_takeSignals 58 = .ok (.iinc 1 1, 3) := by decide +kernel
theorem dX4_takeSignals_61 : decode cX4_takeSignals 61 = .ok (.goto (-44), 3) := by decide +kernel
theorem dX4_takeSignals_64 : decode cX4_takeSignals 64 = .ok (.return_, 1) := by decide +kernel
set_option maxRecDepth 20000 in
theorem ggX4_mix_X4_levelOf : GoodIn wsX4_mix wsX4_levelOf := goodIn_r _ [13, 14, 15, 16, 17, 18, 19, 20, 21, 22, 12, 23, 24, 25, 39, 40, 41, 42, 43, 44, 45, 46, 47, 48, 49, 50, 51, 52, 53, 54, 55, 56] (by decide +kernel) (by decide +kernel)
set_option maxRecDepth 20000 in
theorem gX4_mix_X4_levelOf : GoodIn wsX4_mix (wsV RX4 97 RX4 yX4_levelOf wsX4_levelOf) := goodIn_app (goodIn_of _ (by decide +kernel)) ggX4_mix_X4_levelOf
set_option maxRecDepth 20000 in
theorem ggX4_mix_X4_gainAt : GoodIn wsX4_mix wsX4_gainAt := goodIn_r _ [29, 30, 31, 17, 18, 19, 32, 33, 39, 40, 41, 42, 43, 44, 45, 46, 47, 48, 49, 50, 51, 52, 53, 54, 55, 56] (by decide +kernel) (by decide +kernel)
set_option maxRecDepth 20000 in
theorem gX4_mix_X4_gainAt : GoodIn wsX4_mix (wsV RX4 101 RX4 yX4_gainAt wsX4_gainAt) := goodIn_app (goodIn_of _ (by decide +kernel)) ggX4_mix_X4_gainAt
set_option maxRecDepth 20000 in
theorem ggX4_mix_X4_clip : GoodIn wsX4_mix wsX4_clip := goodIn_r _ [37, 1, 38, 39, 40, 41, 42, 43, 44, 45, 46, 47, 48, 49, 50, 51, 52, 53, 54, 55, 56] (by decide +kernel) (by decide +kernel)
set_option maxRecDepth 20000 in
theorem gX4_mix_X4_clip : GoodIn wsX4_mix (wsV RX4 155 RX4 yX4_clip wsX4_clip) := goodIn_app (goodIn_of _ (by decide +kernel)) ggX4_mix_X4_clip
theorem dX4_mix_0 : decode cX4_mix 0 = .ok (.iconst 0, 1) := by decide +kernel
theorem dX4_mix_1 : decode cX4_mix 1 = .ok (.istore_n 1, 1) := by decide +kernel
theorem dX4_mix_2 : decode cX4_mix 2 = .ok (.iload_n 1, 1) := by decide +kernel
theorem dX4_mix_3 : decode cX4_mix 3 = .ok (.iconst 4, 1) := by decide +kernel
theorem dX4_mix_4 : decode cX4_mix 4 = .ok (.if_icmp .ge 16, 3) := by decide +kernel
theorem dX4_mix_7 : decode cX4_mix 7 = .ok (.aload_n 0, 1) := by decide +kernel
theorem dX4_mix_8 : decode cX4_mix 8 = .ok (.getfield 33, 3) := by decide +kernel
theorem dX4_mix_11 : decode cX4_mix 11 = .ok (.iload_n 1, 1) := by decide +kernel
theorem dX4_mix_12 : decode cX4_mix 12 = .ok (.iconst 0, 1) := by decide +kernel
theorem dX4_mix_13 : decode cX4_mix 13 = .ok (.iastore, 1) := by decide +kernel
theorem dX4_mix_14 : decode cX4_mix 14 = .ok (.iinc 1 1, 3) := by decide +kernel
theorem dX4_mix_17 : decode cX4_mix 17 = .ok (.goto (-15), 3) := by decide +kernel
theorem dX4_mix_20 : decode cX4_mix 20 = .ok (.aload_n 0, 1) := by decide +kernel
theorem dX4_mix_21 : decode cX4_mix 21 = .ok (.iconst 0, 1) := by decide +kernel
theorem dX4_mix_22 : decode cX4_mix 22 = .ok (.putfield 65, 3) := by decide +kernel
theorem dX4_mix_25 : decode cX4_mix 25 = .ok (.iconst 0, 1) := by decide +kernel
theorem dX4_mix_26 : decode cX4_mix 26 = .ok (.istore_n 1, 1) := by decide +kernel
theorem dX4_mix_27 : decode cX4_mix 27 = .ok (.iload_n 1, 1) := by decide +kernel
theorem dX4_mix_28 : decode cX4_mix 28 = .ok (.bipush 12, 2) := by decide +kernel
theorem dX4_mix_30 : decode cX4_mix 30 = .ok (.if_icmp .ge 74, 3) := by decide +kernel
theorem dX4_mix_33 : decode cX4_mix 33 = .ok (.aload_n 0, 1) := by decide +kernel
theorem dX4_mix_34 : decode cX4_mix 34 = .ok (.iload_n 1, 1) := by decide +kernel
theorem dX4_mix_35 : decode cX4_mix 35 = .ok (.invokevirtual 97, 3) := by decide +kernel
theorem dX4_mix_38 : decode cX4_mix 38 = .ok (.istore_n 2, 1) := by decide +kernel
theorem dX4_mix_39 : decode cX4_mix 39 = .ok (.aload_n 0, 1) := by decide +kernel
theorem dX4_mix_40 : decode cX4_mix 40 = .ok (.dup, 1) := by decide +kernel
theorem dX4_mix_41 : decode cX4_mix 41 = .ok (.getfield 65, 3) := by decide +kernel
theorem dX4_mix_44 : decode cX4_mix 44 = .ok (.aload_n 0, 1) := by decide +kernel
theorem dX4_mix_45 : decode cX4_mix 45 = .ok (.getfield 30, 3) := by decide +kernel
theorem dX4_mix_48 : decode cX4_mix 48 = .ok (.iload_n 1, 1) := by decide +kernel
theorem dX4_mix_49 : decode cX4_mix 49 = .ok (.iaload, 1) := by decide +kernel
theorem dX4_mix_50 : decode cX4_mix 50 = .ok (.iload_n 2, 1) := by decide +kernel
theorem dX4_mix_51 : decode cX4_mix 51 = .ok (.imul, 1) := by decide +kernel
theorem dX4_mix_52 : decode cX4_mix 52 = .ok (.bipush 100, 2) := by decide +kernel
theorem dX4_mix_54 : decode cX4_mix 54 = .ok (.idiv, 1) := by decide +kernel
theorem dX4_mix_55 : decode cX4_mix 55 = .ok (.iadd, 1) := by decide +kernel
theorem dX4_mix_56 : decode cX4_mix 56 = .ok (.putfield 65, 3) := by decide +kernel
theorem dX4_mix_59 : decode cX4_mix 59 = .ok (.iconst 0, 1) := by decide +kernel
theorem dX4_mix_60 : decode cX4_mix 60 = .ok (.istore_n 3, 1) := by decide +kernel
theorem dX4_mix_61 : decode cX4_mix 61 = .ok (.iload_n 3, 1) := by decide +kernel
theorem dX4_mix_62 : decode cX4_mix 62 = .ok (.iconst 4, 1) := by decide +kernel
theorem dX4_mix_63 : decode cX4_mix 63 = .ok (.if_icmp .ge 35, 3) := by decide +kernel
theorem dX4_mix_66 : decode cX4_mix 66 = .ok (.aload_n 0, 1) := by decide +kernel
theorem dX4_mix_67 : decode cX4_mix 67 = .ok (.getfield 33, 3) := by decide +kernel
theorem dX4_mix_70 : decode cX4_mix 70 = .ok (.iload_n 3, 1) := by decide +kernel
theorem dX4_mix_71 : decode cX4_mix 71 = .ok (.dup2, 1) := by decide +kernel
theorem dX4_mix_72 : decode cX4_mix 72 = .ok (.iaload, 1) := by decide +kernel
theorem dX4_mix_73 : decode cX4_mix 73 = .ok (.aload_n 0, 1) := by decide +kernel
theorem dX4_mix_74 : decode cX4_mix 74 = .ok (.getfield 30, 3) := by decide +kernel
theorem dX4_mix_77 : decode cX4_mix 77 = .ok (.iload_n 1, 1) := by decide +kernel
theorem dX4_mix_78 : decode cX4_mix 78 = .ok (.iaload, 1) := by decide +kernel
theorem dX4_mix_79 : decode cX4_mix 79 = .ok (.aload_n 0, 1) := by decide +kernel
theorem dX4_mix_80 : decode cX4_mix 80 = .ok (.iload_n 3, 1) := by decide +kernel
theorem dX4_mix_81 : decode cX4_mix 81 = .ok (.iload_n 1, 1) := by decide +kernel
theorem dX4_mix_82 : decode cX4_mix 82 = .ok (.iload_n 2, 1) := by decide +kernel
theorem dX4_mix_83 : decode cX4_mix 83 = .ok (.invokevirtual 101, 3) := by decide +kernel
theorem dX4_mix_86 : decode cX4_mix 86 = .ok (.imul, 1) := by decide +kernel
theorem dX4_mix_87 : decode cX4_mix 87 = .ok (.bipush 100, 2) := by decide +kernel
theorem dX4_mix_89 : decode cX4_mix 89 = .ok (.idiv, 1) := by decide +kernel
theorem dX4_mix_90 : decode cX4_mix 90 = .ok (.iadd, 1) := by decide +kernel
theorem dX4_mix_91 : decode cX4_mix 91 = .ok (.iastore, 1) := by decide +kernel
theorem dX4_mix_92 : decode cX4_mix 92 = .ok (.iinc 3 1, 3) := by decide +kernel
theorem dX4_mix_95 : decode cX4_mix 95 = .ok (.goto (-34), 3) := by decide +kernel
theorem dX4_mix_98 : decode cX4_mix 98 = .ok (.iinc 1 1, 3) := by decide +kernel
theorem dX4_mix_101 : decode cX4_mix 101 = .ok (.goto (-74), 3) := by decide +kernel
theorem dX4_mix_104 : decode cX4_mix 104 = .ok (.aload_n 0, 1) := by decide +kernel
theorem dX4_mix_105 : decode cX4_mix 105 = .ok (.invokevirtual 155, 3) := by decide +kernel
theorem dX4_mix_108 : decode cX4_mix 108 = .ok (.aload_n 0, 1) := by decide +kernel
theorem dX4_mix_109 : decode cX4_mix 109 = .ok (.aload_n 0, 1) := by decide +kernel
theorem dX4_mix_110 : decode cX4_mix 110 = .ok (.getfield 68, 3) := by decide +kernel
theorem dX4_mix_113 : decode cX4_mix 113 = .ok (.aload_n 0, 1) := by decide +kernel
theorem dX4_mix_114 : decode cX4_mix 114 = .ok (.getfield 65, 3) := by decide +kernel
theorem dX4_mix_117 : decode cX4_mix 117 = .ok (.invokestatic 158, 3) := by decide +kernel
theorem dX4_mix_120 : decode cX4_mix 120 = .ok (.putfield 68, 3) := by decide +kernel
theorem dX4_mix_123 : decode cX4_mix 123 = .ok (.return_, 1) := by decide +kernel
theorem dX4_clip_0 : decode cX4_clip 0 = .ok (.iconst 0, 1) := by decide +kernel
theorem dX4_clip_1 : decode cX4_clip 1 = .ok (.istore_n 1, 1) := by decide +kernel
theorem dX4_clip_2 : decode cX4_clip 2 = .ok (.iload_n 1, 1) := by decide +kernel
theorem dX4_clip_3 : decode cX4_clip 3 = .ok (.iconst 4, 1) := by decide +kernel
theorem dX4_clip_4 : decode cX4_clip 4 = .ok (.if_icmp .ge 40, 3) := by decide +kernel
theorem dX4_clip_7 : decode cX4_clip 7 = .ok (.aload_n 0, 1) := by decide +kernel
theorem dX4_clip_8 : decode cX4_clip 8 = .ok (.getfield 33, 3) := by decide +kernel
theorem dX4_clip_11 : decode cX4_clip 11 = .ok (.iload_n 1, 1) := by decide +kernel
theorem dX4_clip_12 : decode cX4_clip 12 = .ok (.iaload, 1) := by decide +kernel
theorem dX4_clip_13 : decode cX4_clip 13 = .ok (.sipush 9999, 3) := by decide +kernel
theorem dX4_clip_16 : decode cX4_clip 16 = .ok (.if_icmp .le 22, 3) := by decide +kernel
theorem dX4_clip_19 : decode cX4_clip 19 = .ok (.aload_n 0, 1) := by decide +kernel
theorem dX4_clip_20 : decode cX4_clip 20 = .ok (.getfield 33, 3) := by decide +kernel
theorem dX4_clip_23 : decode cX4_clip 23 = .ok (.iload_n 1, 1) := by decide +kernel
theorem dX4_clip_24 : decode cX4_clip 24 = .ok (.sipush 9999, 3) := by decide +kernel
theorem dX4_clip_27 : decode cX4_clip 27 = .ok (.iastore, 1) := by decide +kernel
theorem dX4_clip_28 : decode cX4_clip 28 = .ok (.aload_n 0, 1) := by decide +kernel
theorem dX4_clip_29 : decode cX4_clip 29 = .ok (.dup, 1) := by decide +kernel
theorem dX4_clip_30 : decode cX4_clip 30 = .ok (.getfield 71, 3) := by decide +kernel
theorem dX4_clip_33 : decode cX4_clip 33 = .ok (.iconst 1, 1) := by decide +kernel
theorem dX4_clip_34 : decode cX4_clip 34 = .ok (.iadd, 1) := by decide +kernel
theorem dX4_clip_35 : decode cX4_clip 35 = .ok (.putfield 71, 3) := by decide +kernel
theorem dX4_clip_38 : decode cX4_clip 38 = .ok (.iinc 1 1, 3) := by decide +kernel
theorem dX4_clip_41 : decode cX4_clip 41 = .ok (.goto (-39), 3) := by decide +kernel
theorem dX4_clip_44 : decode cX4_clip 44 = .ok (.return_, 1) := by decide +kernel
set_option maxRecDepth 20000 in
theorem ggX5_init_X4_init : GoodIn wsX5_init wsX4_init := goodIn_r _ [23, 24, 2, 3, 25, 26, 27, 28, 29, 30, 31, 32, 33, 34, 35, 36, 37, 38, 39, 40, 41, 42, 63, 64, 65, 66, 67, 68, 69, 70, 71, 72, 73, 74, 75, 76, 77, 78, 79, 80, 96, 97, 98, 99, 100] (by decide +kernel) (by decide +kernel)
set_option maxRecDepth 20000 in
theorem gX5_init_X4_init : GoodIn wsX5_init (wsX4_init) := ggX5_init_X4_init
set_option maxRecDepth 20000 in
theorem ggX5_init_X1_init : GoodIn wsX5_init wsX1_init := goodIn_r _ [45, 46, 2, 3, 47, 48, 5, 6, 49, 22, 23, 24, 25, 26, 27, 28, 29, 30, 31, 32, 33, 34, 35, 36, 37, 38, 39, 40, 41, 42, 86, 87, 88, 63, 64, 65, 66, 67, 68, 69, 70, 71, 72, 73, 74, 75, 76, 77, 78, 79, 80, 96, 97, 98, 99, 100] (by decide +kernel) (by decide +kernel)
set_option maxRecDepth 20000 in
theorem gX5_init_X1_init : GoodIn wsX5_init (wsX1_init) := ggX5_init_X1_init
