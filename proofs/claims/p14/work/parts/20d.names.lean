theorem dX6_heard_4 : decode cX6_heard 4 = .ok (.iload_n 2, 1) := by decide +kernel
theorem dX6_heard_5 : decode cX6_heard 5 = .ok (.bipush 12, 2) := by decide +kernel
theorem dX6_heard_7 : decode cX6_heard 7 = .ok (.if_icmp .ge 27, 3) := by decide +kernel
theorem dX6_heard_10 : decode cX6_heard 10 = .ok (.iload_n 1, 1) := by decide +kernel
theorem dX6_heard_11 : decode cX6_heard 11 = .ok (.aload_n 0, 1) := by decide +kernel
theorem dX6_heard_12 : decode cX6_heard 12 = .ok (.iload_n 2, 1) := by decide +kernel
theorem dX6_heard_13 : decode cX6_heard 13 = .ok (.invokevirtual 55, 3) := by decide +kernel
theorem dX6_heard_16 : decode cX6_heard 16 = .ok (.ifCond .le 9, 3) := by decide +kernel
theorem dX6_heard_19 : decode cX6_heard 19 = .ok (.iconst 1, 1) := by decide +kernel
theorem dX6_heard_20 : decode cX6_heard 20 = .ok (.iload_n 2, 1) := by decide +kernel
theorem dX6_heard_21 : decode cX6_heard 21 = .ok (.ishl, 1) := by decide +kernel
theorem dX6_heard_22 : decode cX6_heard 22 = .ok (.goto 4, 3) := by decide +kernel
theorem dX6_heard_25 : decode cX6_heard 25 = .ok (.iconst 0, 1) := by decide +kernel
theorem dX6_heard_26 : decode cX6_heard 26 = .ok (.ior, 1) := by decide +kernel
theorem dX6_heard_27 : decode cX6_heard 27 = .ok (.istore_n 1, 1) := by decide +kernel
theorem dX6_heard_28 : decode cX6_heard 28 = .ok (.iinc 2 1, 3) := by decide +kernel
theorem dX6_heard_31 : decode cX6_heard 31 = .ok (.goto (-27), 3) := by decide +kernel
theorem dX6_heard_34 : decode cX6_heard 34 = .ok (.iload_n 1, 1) := by decide +kernel
theorem dX6_heard_35 : decode cX6_heard 35 = .ok (.ireturn, 1) := by decide +kernel
set_option maxRecDepth 20000 in
theorem ggX6_count_X6_scenes : GoodIn wsX6_count wsX6_scenes := goodIn_r _ [9, 2, 33, 34, 35, 36, 37, 38, 39, 40, 41, 42, 43, 44, 45, 46, 47] (by decide +kernel) (by decide +kernel)
set_option maxRecDepth 20000 in
theorem gX6_count_X6_scenes : GoodIn wsX6_count (wsV RX6 109 RX6 yX6_scenes wsX6_scenes) := goodIn_app (goodIn_of _ (by decide +kernel)) ggX6_count_X6_scenes
set_option maxRecDepth 20000 in
theorem ggX6_count_X6_soloed : GoodIn wsX6_count wsX6_soloed := goodIn_r _ [13, 2, 33, 34, 35, 36, 37, 38, 39, 40, 41, 42, 43, 44, 45, 46, 47] (by decide +kernel) (by decide +kernel)
set_option maxRecDepth 20000 in
theorem gX6_count_X6_soloed : GoodIn wsX6_count (wsV RX6 39 RX6 yX6_soloed wsX6_soloed) := goodIn_app (goodIn_of _ (by decide +kernel)) ggX6_count_X6_soloed
set_option maxRecDepth 20000 in
theorem ggX6_count_X6_heard : GoodIn wsX6_count wsX6_heard := goodIn_r _ [17, 18, 19, 20, 8, 21, 2, 22, 23, 24, 25, 26, 27, 28, 29, 10, 11, 12, 13, 30, 31, 32, 33, 34, 35, 36, 37, 38, 39, 40, 41, 42, 43, 44, 45, 46, 47] (by decide +kernel) (by decide +kernel)
set_option maxRecDepth 20000 in
theorem gX6_count_X6_heard : GoodIn wsX6_count (wsV RX6 169 RX6 yX6_heard wsX6_heard) := goodIn_app (goodIn_of _ (by decide +kernel)) ggX6_count_X6_heard
theorem dX6_count_0 : decode cX6_count 0 = .ok (.aload_n 0, 1) := by decide +kernel
theorem dX6_count_1 : decode cX6_count 1 = .ok (.iconst 0, 1) := by decide +kernel
theorem dX6_count_2 : decode cX6_count 2 = .ok (.putfield 28, 3) := by decide +kernel
theorem dX6_count_5 : decode cX6_count 5 = .ok (.iload_n 1, 1) := by decide +kernel
theorem dX6_count_6 : decode cX6_count 6 = .ok (.tableswitch 144 0 10 #[58, 58, 58, 58, 69, 94, 119, 124, 129, 134, 139], 58) := by decide +kernel
theorem dX6_count_64 : decode cX6_count 64 = .ok (.aload_n 0, 1) := by decide +kernel
theorem dX6_count_65 : decode cX6_count 65 = .ok (.getfield 7, 3) := by decide +kernel
theorem dX6_count_68 : decode cX6_count 68 = .ok (.sipush 140, 3) := by decide +kernel
theorem dX6_count_71 : decode cX6_count 71 = .ok (.iload_n 1, 1) := by decide +kernel
theorem dX6_count_72 : decode cX6_count 72 = .ok (.iadd, 1) := by decide +kernel
theorem dX6_count_73 : decode cX6_count 73 = .ok (.iaload, 1) := by decide +kernel
theorem dX6_count_74 : decode cX6_count 74 = .ok (.ireturn, 1) := by decide +kernel
theorem dX6_count_75 : decode cX6_count 75 = .ok (.aload_n 0, 1) := by decide +kernel
theorem dX6_count_76 : decode cX6_count 76 = .ok (.getfield 7, 3) := by decide +kernel
theorem dX6_count_79 : decode cX6_count 79 = .ok (.sipush 144, 3) := by decide +kernel
theorem dX6_count_82 : decode cX6_count 82 = .ok (.iaload, 1) := by decide +kernel
theorem dX6_count_83 : decode cX6_count 83 = .ok (.ifCond .ge 8, 3) := by decide +kernel
theorem dX6_count_86 : decode cX6_count 86 = .ok (.bipush (-99), 2) := by decide +kernel
theorem dX6_count_88 : decode cX6_count 88 = .ok (.goto 11, 3) := by decide +kernel
theorem dX6_count_91 : decode cX6_count 91 = .ok (.aload_n 0, 1) := by decide +kernel
theorem dX6_count_92 : decode cX6_count 92 = .ok (.getfield 7, 3) := by decide +kernel
theorem dX6_count_95 : decode cX6_count 95 = .ok (.sipush 144, 3) := by decide +kernel
theorem dX6_count_98 : decode cX6_count 98 = .ok (.iaload, 1) := by decide +kernel
theorem dX6_count_99 : decode cX6_count 99 = .ok (.ireturn, 1) := by decide +kernel
theorem dX6_count_100 : decode cX6_count 100 = .ok (.aload_n 0, 1) := by decide +kernel
theorem dX6_count_101 : decode cX6_count 101 = .ok (.getfield 7, 3) := by decide +kernel
theorem dX6_count_104 : decode cX6_count 104 = .ok (.sipush 144, 3) := by decide +kernel
theorem dX6_count_107 : decode cX6_count 107 = .ok (.iaload, 1) := by decide +kernel
theorem dX6_count_108 : decode cX6_count 108 = .ok (.ifCond .ge 8, 3) := by decide +kernel
theorem dX6_count_111 : decode cX6_count 111 = .ok (.bipush (-99), 2) := by decide +kernel
theorem dX6_count_113 : decode cX6_count 113 = .ok (.goto 11, 3) := by decide +kernel
theorem dX6_count_116 : decode cX6_count 116 = .ok (.aload_n 0, 1) := by decide +kernel
theorem dX6_count_117 : decode cX6_count 117 = .ok (.getfield 7, 3) := by decide +kernel
theorem dX6_count_120 : decode cX6_count 120 = .ok (.sipush 145, 3) := by decide +kernel
theorem dX6_count_123 : decode cX6_count 123 = .ok (.iaload, 1) := by decide +kernel
theorem dX6_count_124 : decode cX6_count 124 = .ok (.ireturn, 1) := by decide +kernel
theorem dX6_count_125 : decode cX6_count 125 = .ok (.aload_n 0, 1) := by decide +kernel
theorem dX6_count_126 : decode cX6_count 126 = .ok (.invokevirtual 109, 3) := by decide +kernel
theorem dX6_count_129 : decode cX6_count 129 = .ok (.ireturn, 1) := by decide +kernel
theorem dX6_count_130 : decode cX6_count 130 = .ok (.aload_n 0, 1) := by decide +kernel
theorem dX6_count_131 : decode cX6_count 131 = .ok (.invokevirtual 39, 3) := by decide +kernel
theorem dX6_count_134 : decode cX6_count 134 = .ok (.ireturn, 1) := by decide +kernel
theorem dX6_count_135 : decode cX6_count 135 = .ok (.aload_n 0, 1) := by decide +kernel
theorem dX6_count_136 : decode cX6_count 136 = .ok (.invokevirtual 169, 3) := by decide +kernel
theorem dX6_count_139 : decode cX6_count 139 = .ok (.ireturn, 1) := by decide +kernel
theorem dX6_count_140 : decode cX6_count 140 = .ok (.aload_n 0, 1) := by decide +kernel
theorem dX6_count_141 : decode cX6_count 141 = .ok (.getfield 32, 3) := by decide +kernel
theorem dX6_count_144 : decode cX6_count 144 = .ok (.ireturn, 1) := by decide +kernel
theorem dX6_count_145 : decode cX6_count 145 = .ok (.aload_n 0, 1) := by decide +kernel
theorem dX6_count_146 : decode cX6_count 146 = .ok (.getfield 122, 3) := by decide +kernel
theorem dX6_count_149 : decode cX6_count 149 = .ok (.ireturn, 1) := by decide +kernel
theorem dX6_count_150 : decode cX6_count 150 = .ok (.iconst (-1), 1) := by decide +kernel
theorem dX6_count_151 : decode cX6_count 151 = .ok (.ireturn, 1) := by decide +kernel
set_option maxRecDepth 20000 in
theorem ggX6_touched_X6_has : GoodIn wsX6_touched wsX6_has := goodIn_r _ [5] (by decide +kernel) (by decide +kernel)
set_option maxRecDepth 20000 in
theorem gX6_touched_X6_has : GoodIn wsX6_touched (va_wsS RX6 51 yX6_has wsX6_has) := goodIn_app (goodIn_of _ (by decide +kernel)) ggX6_touched_X6_has
theorem dX6_touched_0 : decode cX6_touched 0 = .ok (.aload_n 0, 1) := by decide +kernel
theorem dX6_touched_1 : decode cX6_touched 1 = .ok (.getfield 7, 3) := by decide +kernel
theorem dX6_touched_4 : decode cX6_touched 4 = .ok (.sipush 144, 3) := by decide +kernel
theorem dX6_touched_7 : decode cX6_touched 7 = .ok (.iaload, 1) := by decide +kernel
theorem dX6_touched_8 : decode cX6_touched 8 = .ok (.ifCond .lt 15, 3) := by decide +kernel
theorem dX6_touched_11 : decode cX6_touched 11 = .ok (.iload_n 1, 1) := by decide +kernel
theorem dX6_touched_12 : decode cX6_touched 12 = .ok (.iload_n 2, 1) := by decide +kernel
theorem dX6_touched_13 : decode cX6_touched 13 = .ok (.invokestatic 51, 3) := by decide +kernel
theorem dX6_touched_16 : decode cX6_touched 16 = .ok (.ifCond .eq 7, 3) := by decide +kernel
theorem dX6_touched_19 : decode cX6_touched 19 = .ok (.iconst 1, 1) := by decide +kernel
theorem dX6_touched_20 : decode cX6_touched 20 = .ok (.goto 4, 3) := by decide +kernel
theorem dX6_touched_23 : decode cX6_touched 23 = .ok (.iconst 0, 1) := by decide +kernel
theorem dX6_touched_24 : decode cX6_touched 24 = .ok (.ireturn, 1) := by decide +kernel
set_option maxRecDepth 20000 in
theorem ggX6_channel_X6_isChannel : GoodIn wsX6_channel wsX6_isChannel := goodIn_r _ [6, 7, 8, 5, 9] (by decide +kernel) (by decide +kernel)
set_option maxRecDepth 20000 in
theorem gX6_channel_X6_isChannel : GoodIn wsX6_channel (va_wsS RX6 84 yX6_isChannel wsX6_isChannel) := goodIn_app (goodIn_of _ (by decide +kernel)) ggX6_channel_X6_isChannel
set_option maxRecDepth 20000 in
theorem ggX6_channel_X6_in : GoodIn wsX6_channel wsX6_in := goodIn_r _ [9] (by decide +kernel) (by decide +kernel)
set_option maxRecDepth 20000 in
theorem gX6_channel_X6_in : GoodIn wsX6_channel (va_wsS RX6 35 yX6_in wsX6_in) := goodIn_app (goodIn_of _ (by decide +kernel)) ggX6_channel_X6_in
set_option maxRecDepth 20000 in
theorem ggX6_channel_X6_level : GoodIn wsX6_channel wsX6_level := goodIn_r _ [13, 2, 14, 15, 16, 5, 17, 18, 19, 20, 21, 22, 23, 24, 25, 26, 27, 28, 37, 38, 39, 40, 41, 42, 43, 44, 45, 46, 47, 48, 49, 50, 51] (by decide +kernel) (by decide +kernel)
set_option maxRecDepth 20000 in
theorem gX6_channel_X6_level : GoodIn wsX6_channel (wsV RX6 55 RX6 yX6_level wsX6_level) := goodIn_app (goodIn_of _ (by decide +kernel)) ggX6_channel_X6_level
set_option maxRecDepth 20000 in
theorem ggX6_channel_X6_touched : GoodIn wsX6_channel wsX6_touched := goodIn_r _ [32, 2, 26, 27, 5, 28, 37, 38, 39, 40, 41, 42, 43, 44, 45, 46, 47, 48, 49, 50, 51] (by decide +kernel) (by decide +kernel)
set_option maxRecDepth 20000 in
theorem gX6_channel_X6_touched : GoodIn wsX6_channel (wsV RX6 172 RX6 yX6_touched wsX6_touched) := goodIn_app (goodIn_of _ (by decide +kernel)) ggX6_channel_X6_touched
set_option maxRecDepth 20000 in
theorem ggX6_channel_X6_backInto : GoodIn wsX6_channel wsX6_backInto := goodIn_r _ [36, 2, 37, 38, 39, 40, 41, 42, 43, 44, 45, 46, 47, 48, 49, 50, 51] (by decide +kernel) (by decide +kernel)
set_option maxRecDepth 20000 in
theorem gX6_channel_X6_backInto : GoodIn wsX6_channel (wsV RX6 75 RX6 yX6_backInto wsX6_backInto) := goodIn_app (goodIn_of _ (by decide +kernel)) ggX6_channel_X6_backInto
set_option maxRecDepth 20000 in
theorem ggX6_channel_X6_of : GoodIn wsX6_channel wsX6_of := goodIn_r _ [17, 2, 37, 38, 39, 40, 41, 42, 43, 44, 45, 46, 47, 48, 49, 50, 51] (by decide +kernel) (by decide +kernel)
set_option maxRecDepth 20000 in
theorem gX6_channel_X6_of : GoodIn wsX6_channel (wsV RX6 43 RX6 yX6_of wsX6_of) := goodIn_app (goodIn_of _ (by decide +kernel)) ggX6_channel_X6_of
theorem dX6_channel_0 : decode cX6_channel 0 = .ok (.aload_n 0, 1) := by decide +kernel
theorem dX6_channel_1 : decode cX6_channel 1 = .ok (.iconst 0, 1) := by decide +kernel
theorem dX6_channel_2 : decode cX6_channel 2 = .ok (.putfield 28, 3) := by decide +kernel
theorem dX6_channel_5 : decode cX6_channel 5 = .ok (.iload_n 1, 1) := by decide +kernel
theorem dX6_channel_6 : decode cX6_channel 6 = .ok (.invokestatic 84, 3) := by decide +kernel
theorem dX6_channel_9 : decode cX6_channel 9 = .ok (.ifCond .eq 13, 3) := by decide +kernel
theorem dX6_channel_12 : decode cX6_channel 12 = .ok (.iload_n 2, 1) := by decide +kernel
theorem dX6_channel_13 : decode cX6_channel 13 = .ok (.iconst 0, 1) := by decide +kernel
theorem dX6_channel_14 : decode cX6_channel 14 = .ok (.bipush 8, 2) := by decide +kernel
theorem dX6_channel_16 : decode cX6_channel 16 = .ok (.invokestatic 35, 3) := by decide +kernel
theorem dX6_channel_19 : decode cX6_channel 19 = .ok (.ifCond .ne 5, 3) := by decide +kernel
theorem dX6_channel_22 : decode cX6_channel 22 = .ok (.iconst (-1), 1) := by decide +kernel
theorem dX6_channel_23 : decode cX6_channel 23 = .ok (.ireturn, 1) := by decide +kernel
theorem dX6_channel_24 : decode cX6_channel 24 = .ok (.iload_n 2, 1) := by decide +kernel
theorem dX6_channel_25 : decode cX6_channel 25 = .ok (.tableswitch 67 5 8 #[31, 37, 47, 61], 31) := by decide +kernel
theorem dX6_channel_56 : decode cX6_channel 56 = .ok (.aload_n 0, 1) := by decide +kernel
theorem dX6_channel_57 : decode cX6_channel 57 = .ok (.iload_n 1, 1) := by decide +kernel
theorem dX6_channel_58 : decode cX6_channel 58 = .ok (.invokevirtual 55, 3) := by decide +kernel
theorem dX6_channel_61 : decode cX6_channel 61 = .ok (.ireturn, 1) := by decide +kernel
theorem dX6_channel_62 : decode cX6_channel 62 = .ok (.aload_n 0, 1) := by decide +kernel
theorem dX6_channel_63 : decode cX6_channel 63 = .ok (.getfield 7, 3) := by decide +kernel
theorem dX6_channel_66 : decode cX6_channel 66 = .ok (.bipush 60, 2) := by decide +kernel
theorem dX6_channel_68 : decode cX6_channel 68 = .ok (.iload_n 1, 1) := by decide +kernel
theorem dX6_channel_69 : decode cX6_channel 69 = .ok (.iadd, 1) := by decide +kernel
theorem dX6_channel_70 : decode cX6_channel 70 = .ok (.iaload, 1) := by decide +kernel
theorem dX6_channel_71 : decode cX6_channel 71 = .ok (.ireturn, 1) := by decide +kernel
theorem dX6_channel_72 : decode cX6_channel 72 = .ok (.aload_n 0, 1) := by decide +kernel
theorem dX6_channel_73 : decode cX6_channel 73 = .ok (.aload_n 0, 1) := by decide +kernel
theorem dX6_channel_74 : decode cX6_channel 74 = .ok (.getfield 7, 3) := by decide +kernel
theorem dX6_channel_77 : decode cX6_channel 77 = .ok (.sipush 179, 3) := by decide +kernel
theorem dX6_channel_80 : decode cX6_channel 80 = .ok (.iaload, 1) := by decide +kernel
theorem dX6_channel_81 : decode cX6_channel 81 = .ok (.iload_n 1, 1) := by decide +kernel
theorem dX6_channel_82 : decode cX6_channel 82 = .ok (.invokevirtual 172, 3) := by decide +kernel
theorem dX6_channel_85 : decode cX6_channel 85 = .ok (.ireturn, 1) := by decide +kernel
theorem dX6_channel_86 : decode cX6_channel 86 = .ok (.aload_n 0, 1) := by decide +kernel
theorem dX6_channel_87 : decode cX6_channel 87 = .ok (.iload_n 1, 1) := by decide +kernel
theorem dX6_channel_88 : decode cX6_channel 88 = .ok (.invokevirtual 75, 3) := by decide +kernel
theorem dX6_channel_91 : decode cX6_channel 91 = .ok (.ireturn, 1) := by decide +kernel
theorem dX6_channel_92 : decode cX6_channel 92 = .ok (.aload_n 0, 1) := by decide +kernel
theorem dX6_channel_93 : decode cX6_channel 93 = .ok (.iload_n 1, 1) := by decide +kernel
theorem dX6_channel_94 : decode cX6_channel 94 = .ok (.iload_n 2, 1) := by decide +kernel
theorem dX6_channel_95 : decode cX6_channel 95 = .ok (.invokevirtual 43, 3) := by decide +kernel
theorem dX6_channel_98 : decode cX6_channel 98 = .ok (.ireturn, 1) := by decide +kernel
set_option maxRecDepth 20000 in
theorem ggX6_members_X6_of : GoodIn wsX6_members wsX6_of := goodIn_r _ [5, 6, 10, 11, 12, 13, 14, 15, 16, 17, 18, 19, 20, 21, 22, 23, 24] (by decide +kernel) (by decide +kernel)
set_option maxRecDepth 20000 in
theorem gX6_members_X6_of : GoodIn wsX6_members (wsV RX6 43 RX6 yX6_of wsX6_of) := goodIn_app (goodIn_of _ (by decide +kernel)) ggX6_members_X6_of
set_option maxRecDepth 20000 in
theorem ggX6_members_X6_has : GoodIn wsX6_members wsX6_has := goodIn_r _ [9] (by decide +kernel) (by decide +kernel)
set_option maxRecDepth 20000 in
theorem gX6_members_X6_has : GoodIn wsX6_members (va_wsS RX6 51 yX6_has wsX6_has) := goodIn_app (goodIn_of _ (by decide +kernel)) ggX6_members_X6_has
theorem dX6_members_0 : decode cX6_members 0 = .ok (.iconst 0, 1) := by decide +kernel
theorem dX6_members_1 : decode cX6_members 1 = .ok (.istore_n 2, 1) := by decide +kernel
theorem dX6_members_2 : decode cX6_members 2 = .ok (.iconst 0, 1) := by decide +kernel
theorem dX6_members_3 : decode cX6_members 3 = .ok (.istore_n 3, 1) := by decide +kernel
theorem dX6_members_4 : decode cX6_members 4 = .ok (.iload_n 3, 1) := by decide +kernel
theorem dX6_members_5 : decode cX6_members 5 = .ok (.bipush 12, 2) := by decide +kernel
theorem dX6_members_7 : decode cX6_members 7 = .ok (.if_icmp .ge 30, 3) := by decide +kernel
theorem dX6_members_10 : decode cX6_members 10 = .ok (.iload_n 2, 1) := by decide +kernel
theorem dX6_members_11 : decode cX6_members 11 = .ok (.aload_n 0, 1) := by decide +kernel
theorem dX6_members_12 : decode cX6_members 12 = .ok (.iload_n 3, 1) := by decide +kernel
theorem dX6_members_13 : decode cX6_members 13 = .ok (.iconst 4, 1) := by decide +kernel
theorem dX6_members_14 : decode cX6_members 14 = .ok (.invokevirtual 43, 3) := by decide +kernel
theorem dX6_members_17 : decode cX6_members 17 = .ok (.iload_n 1, 1) := by decide +kernel
theorem dX6_members_18 : decode cX6_members 18 = .ok (.invokestatic 51, 3) := by decide +kernel
theorem dX6_members_21 : decode cX6_members 21 = .ok (.ifCond .eq 7, 3) := by decide +kernel
theorem dX6_members_24 : decode cX6_members 24 = .ok (.iconst 1, 1) := by decide +kernel
theorem dX6_members_25 : decode cX6_members 25 = .ok (.goto 4, 3) := by decide +kernel
theorem dX6_members_28 : decode cX6_members 28 = .ok (.iconst 0, 1) := by decide +kernel
theorem dX6_members_29 : decode cX6_members 29 = .ok (.iadd, 1) := by decide +kernel
theorem dX6_members_30 : decode cX6_members 30 = .ok (.istore_n 2, 1) := by decide +kernel
theorem dX6_members_31 : decode cX6_members 31 = .ok (.iinc 3 1, 3) := by decide +kernel
theorem dX6_members_34 : decode cX6_members 34 = .ok (.goto (-30), 3) := by decide +kernel
theorem dX6_members_37 : decode cX6_members 37 = .ok (.iload_n 2, 1) := by decide +kernel
theorem dX6_members_38 : decode cX6_members 38 = .ok (.ireturn, 1) := by decide +kernel
set_option maxRecDepth 20000 in
theorem ggX6_group_X6_isFour : GoodIn wsX6_group wsX6_isFour := goodIn_r _ [6, 7, 8, 5, 9] (by decide +kernel) (by decide +kernel)
set_option maxRecDepth 20000 in
theorem gX6_group_X6_isFour : GoodIn wsX6_group (va_wsS RX6 97 yX6_isFour wsX6_isFour) := goodIn_app (goodIn_of _ (by decide +kernel)) ggX6_group_X6_isFour
set_option maxRecDepth 20000 in
theorem ggX6_group_X6_in : GoodIn wsX6_group wsX6_in := goodIn_r _ [9] (by decide +kernel) (by decide +kernel)
set_option maxRecDepth 20000 in
theorem gX6_group_X6_in : GoodIn wsX6_group (va_wsS RX6 35 yX6_in wsX6_in) := goodIn_app (goodIn_of _ (by decide +kernel)) ggX6_group_X6_in
set_option maxRecDepth 20000 in
theorem ggX6_group_X6_members : GoodIn wsX6_group wsX6_members := goodIn_r _ [13, 14, 15, 16, 5, 17, 2, 18, 19, 20, 25, 26, 27, 28, 29, 30, 31, 32, 33, 34, 35, 36, 37, 38, 39] (by decide +kernel) (by decide +kernel)
set_option maxRecDepth 20000 in
theorem gX6_group_X6_members : GoodIn wsX6_group (wsV RX6 175 RX6 yX6_members wsX6_members) := goodIn_app (goodIn_of _ (by decide +kernel)) ggX6_group_X6_members
set_option maxRecDepth 20000 in
theorem ggX6_group_X6_touched : GoodIn wsX6_group wsX6_touched := goodIn_r _ [24, 2, 18, 19, 5, 20, 25, 26, 27, 28, 29, 30, 31, 32, 33, 34, 35, 36, 37, 38, 39] (by decide +kernel) (by decide +kernel)
set_option maxRecDepth 20000 in
theorem gX6_group_X6_touched : GoodIn wsX6_group (wsV RX6 172 RX6 yX6_touched wsX6_touched) := goodIn_app (goodIn_of _ (by decide +kernel)) ggX6_group_X6_touched
theorem dX6_group_0 : decode cX6_group 0 = .ok (.aload_n 0, 1) := by decide +kernel
theorem dX6_group_1 : decode cX6_group 1 = .ok (.iconst 0, 1) := by decide +kernel
theorem dX6_group_2 : decode cX6_group 2 = .ok (.putfield 28, 3) := by decide +kernel
theorem dX6_group_5 : decode cX6_group 5 = .ok (.iload_n 1, 1) := by decide +kernel
theorem dX6_group_6 : decode cX6_group 6 = .ok (.invokestatic 97, 3) := by decide +kernel
theorem dX6_group_9 : decode cX6_group 9 = .ok (.ifCond .eq 12, 3) := by decide +kernel
theorem dX6_group_12 : decode cX6_group 12 = .ok (.iload_n 2, 1) := by decide +kernel
theorem dX6_group_13 : decode cX6_group 13 = .ok (.iconst 0, 1) := by decide +kernel
theorem dX6_group_14 : decode cX6_group 14 = .ok (.iconst 3, 1) := by decide +kernel
theorem dX6_group_15 : decode cX6_group 15 = .ok (.invokestatic 35, 3) := by decide +kernel
theorem dX6_group_18 : decode cX6_group 18 = .ok (.ifCond .ne 5, 3) := by decide +kernel
theorem dX6_group_21 : decode cX6_group 21 = .ok (.iconst (-1), 1) := by decide +kernel
theorem dX6_group_22 : decode cX6_group 22 = .ok (.ireturn, 1) := by decide +kernel
theorem dX6_group_23 : decode cX6_group 23 = .ok (.iload_n 2, 1) := by decide +kernel
theorem dX6_group_24 : decode cX6_group 24 = .ok (.ifCond .ne 15, 3) := by decide +kernel
theorem dX6_group_27 : decode cX6_group 27 = .ok (.aload_n 0, 1) := by decide +kernel
theorem dX6_group_28 : decode cX6_group 28 = .ok (.getfield 7, 3) := by decide +kernel
theorem dX6_group_31 : decode cX6_group 31 = .ok (.bipush 72, 2) := by decide +kernel
theorem dX6_group_33 : decode cX6_group 33 = .ok (.iload_n 1, 1) := by decide +kernel
theorem dX6_group_34 : decode cX6_group 34 = .ok (.iadd, 1) := by decide +kernel
theorem dX6_group_35 : decode cX6_group 35 = .ok (.iaload, 1) := by decide +kernel
theorem dX6_group_36 : decode cX6_group 36 = .ok (.goto 46, 3) := by decide +kernel
theorem dX6_group_39 : decode cX6_group 39 = .ok (.iload_n 2, 1) := by decide +kernel
theorem dX6_group_40 : decode cX6_group 40 = .ok (.iconst 1, 1) := by decide +kernel
theorem dX6_group_41 : decode cX6_group 41 = .ok (.if_icmp .ne 15, 3) := by decide +kernel
theorem dX6_group_44 : decode cX6_group 44 = .ok (.aload_n 0, 1) := by decide +kernel
theorem dX6_group_45 : decode cX6_group 45 = .ok (.getfield 7, 3) := by decide +kernel
theorem dX6_group_48 : decode cX6_group 48 = .ok (.bipush 76, 2) := by decide +kernel
theorem dX6_group_50 : decode cX6_group 50 = .ok (.iload_n 1, 1) := by decide +kernel
theorem dX6_group_51 : decode cX6_group 51 = .ok (.iadd, 1) := by decide +kernel
theorem dX6_group_52 : decode cX6_group 52 = .ok (.iaload, 1) := by decide +kernel
theorem dX6_group_53 : decode cX6_group 53 = .ok (.goto 29, 3) := by decide +kernel
theorem dX6_group_56 : decode cX6_group 56 = .ok (.iload_n 2, 1) := by decide +kernel
theorem dX6_group_57 : decode cX6_group 57 = .ok (.iconst 2, 1) := by decide +kernel
theorem dX6_group_58 : decode cX6_group 58 = .ok (.if_icmp .ne 11, 3) := by decide +kernel
theorem dX6_group_61 : decode cX6_group 61 = .ok (.aload_n 0, 1) := by decide +kernel
theorem dX6_group_62 : decode cX6_group 62 = .ok (.iload_n 1, 1) := by decide +kernel
theorem dX6_group_63 : decode cX6_group 63 = .ok (.invokevirtual 175, 3) := by decide +kernel
theorem dX6_group_66 : decode cX6_group 66 = .ok (.goto 16, 3) := by decide +kernel
theorem dX6_group_69 : decode cX6_group 69 = .ok (.aload_n 0, 1) := by decide +kernel
theorem dX6_group_70 : decode cX6_group 70 = .ok (.aload_n 0, 1) := by decide +kernel
theorem dX6_group_71 : decode cX6_group 71 = .ok (.getfield 7, 3) := by decide +kernel
theorem dX6_group_74 : decode cX6_group 74 = .ok (.sipush 180, 3) := by decide +kernel
theorem dX6_group_77 : decode cX6_group 77 = .ok (.iaload, 1) := by decide +kernel
theorem dX6_group_78 : decode cX6_group 78 = .ok (.iload_n 1, 1) := by decide +kernel
theorem dX6_group_79 : decode cX6_group 79 = .ok (.invokevirtual 172, 3) := by decide +kernel
theorem dX6_group_82 : decode cX6_group 82 = .ok (.ireturn, 1) := by decide +kernel
set_option maxRecDepth 20000 in
theorem ggX6_reaching_X6_gain : GoodIn wsX6_reaching wsX6_gain := goodIn_r _ [5, 6, 7, 8, 4, 9, 10, 11, 12, 13, 14, 15, 16, 17, 18, 19, 20, 21, 22, 23, 24, 25, 26, 27, 28, 29, 30, 31, 32, 33, 34, 35, 36, 37, 38, 39, 40, 41, 42, 43, 44] (by decide +kernel) (by decide +kernel)
set_option maxRecDepth 20000 in
theorem gX6_reaching_X6_gain : GoodIn wsX6_reaching (wsV RX6 78 RX6 yX6_gain wsX6_gain) := goodIn_app (goodIn_of _ (by decide +kernel)) ggX6_reaching_X6_gain
theorem dX6_reaching_0 : decode cX6_reaching 0 = .ok (.iconst 0, 1) := by decide +kernel
theorem dX6_reaching_1 : decode cX6_reaching 1 = .ok (.istore_n 2, 1) := by decide +kernel
theorem dX6_reaching_2 : decode cX6_reaching 2 = .ok (.iconst 0, 1) := by decide +kernel
theorem dX6_reaching_3 : decode cX6_reaching 3 = .ok (.istore_n 3, 1) := by decide +kernel
theorem dX6_reaching_4 : decode cX6_reaching 4 = .ok (.iload_n 3, 1) := by decide +kernel
theorem dX6_reaching_5 : decode cX6_reaching 5 = .ok (.bipush 12, 2) := by decide +kernel
theorem dX6_reaching_7 : decode cX6_reaching 7 = .ok (.if_icmp .ge 28, 3) := by decide +kernel
theorem dX6_reaching_10 : decode cX6_reaching 10 = .ok (.iload_n 2, 1) := by decide +kernel
theorem dX6_reaching_11 : decode cX6_reaching 11 = .ok (.aload_n 0, 1) := by decide +kernel
theorem dX6_reaching_12 : decode cX6_reaching 12 = .ok (.iload_n 1, 1) := by decide +kernel
theorem dX6_reaching_13 : decode cX6_reaching 13 = .ok (.iload_n 3, 1) := by decide +kernel
theorem dX6_reaching_14 : decode cX6_reaching 14 = .ok (.invokevirtual 78, 3) := by decide +kernel
theorem dX6_reaching_17 : decode cX6_reaching 17 = .ok (.ifCond .le 9, 3) := by decide +kernel
theorem dX6_reaching_20 : decode cX6_reaching 20 = .ok (.iconst 1, 1) := by decide +kernel
theorem dX6_reaching_21 : decode cX6_reaching 21 = .ok (.iload_n 3, 1) := by decide +kernel
theorem dX6_reaching_22 : decode cX6_reaching 22 = .ok (.ishl, 1) := by decide +kernel
theorem dX6_reaching_23 : decode cX6_reaching 23 = .ok (.goto 4, 3) := by decide +kernel
theorem dX6_reaching_26 : decode cX6_reaching 26 = .ok (.iconst 0, 1) := by decide +kernel
theorem dX6_reaching_27 : decode cX6_reaching 27 = .ok (.ior, 1) := by decide +kernel
theorem dX6_reaching_28 : decode cX6_reaching 28 = .ok (.istore_n 2, 1) := by decide +kernel
theorem dX6_reaching_29 : decode cX6_reaching 29 = .ok (.iinc 3 1, 3) := by decide +kernel
theorem dX6_reaching_32 : decode cX6_reaching 32 = .ok (.goto (-28), 3) := by decide +kernel
theorem dX6_reaching_35 : decode cX6_reaching 35 = .ok (.iload_n 2, 1) := by decide +kernel
theorem dX6_reaching_36 : decode cX6_reaching 36 = .ok (.ireturn, 1) := by decide +kernel
set_option maxRecDepth 20000 in
theorem ggX6_feed_X6_isFour : GoodIn wsX6_feed wsX6_isFour := goodIn_r _ [6, 7, 8, 5, 9] (by decide +kernel) (by decide +kernel)
set_option maxRecDepth 20000 in
theorem gX6_feed_X6_isFour : GoodIn wsX6_feed (va_wsS RX6 97 yX6_isFour wsX6_isFour) := goodIn_app (goodIn_of _ (by decide +kernel)) ggX6_feed_X6_isFour
set_option maxRecDepth 20000 in
theorem ggX6_feed_X6_in : GoodIn wsX6_feed wsX6_in := goodIn_r _ [9] (by decide +kernel) (by decide +kernel)
set_option maxRecDepth 20000 in
theorem gX6_feed_X6_in : GoodIn wsX6_feed (va_wsS RX6 35 yX6_in wsX6_in) := goodIn_app (goodIn_of _ (by decide +kernel)) ggX6_feed_X6_in
set_option maxRecDepth 20000 in
theorem ggX6_feed_X6_reaching : GoodIn wsX6_feed wsX6_reaching := goodIn_r _ [13, 14, 15, 16, 5, 17, 2, 18, 19, 20, 21, 22, 23, 24, 25, 26, 27, 28, 29, 30, 31, 32, 33, 34, 35, 36, 37, 38, 39, 40, 41, 42, 43, 44, 45, 46, 47, 48, 49, 50, 51, 52, 53, 54, 55] (by decide +kernel) (by decide +kernel)
set_option maxRecDepth 20000 in
theorem gX6_feed_X6_reaching : GoodIn wsX6_feed (wsV RX6 178 RX6 yX6_reaching wsX6_reaching) := goodIn_app (goodIn_of _ (by decide +kernel)) ggX6_feed_X6_reaching
theorem dX6_feed_0 : decode cX6_feed 0 = .ok (.aload_n 0, 1) := by decide +kernel
theorem dX6_feed_1 : decode cX6_feed 1 = .ok (.iconst 0, 1) := by decide +kernel
theorem dX6_feed_2 : decode cX6_feed 2 = .ok (.putfield 28, 3) := by decide +kernel
theorem dX6_feed_5 : decode cX6_feed 5 = .ok (.iload_n 1, 1) := by decide +kernel
theorem dX6_feed_6 : decode cX6_feed 6 = .ok (.invokestatic 97, 3) := by decide +kernel
theorem dX6_feed_9 : decode cX6_feed 9 = .ok (.ifCond .eq 12, 3) := by decide +kernel
theorem dX6_feed_12 : decode cX6_feed 12 = .ok (.iload_n 2, 1) := by decide +kernel
theorem dX6_feed_13 : decode cX6_feed 13 = .ok (.iconst 0, 1) := by decide +kernel
theorem dX6_feed_14 : decode cX6_feed 14 = .ok (.iconst 3, 1) := by decide +kernel
theorem dX6_feed_15 : decode cX6_feed 15 = .ok (.invokestatic 35, 3) := by decide +kernel
theorem dX6_feed_18 : decode cX6_feed 18 = .ok (.ifCond .ne 5, 3) := by decide +kernel
theorem dX6_feed_21 : decode cX6_feed 21 = .ok (.iconst (-1), 1) := by decide +kernel
theorem dX6_feed_22 : decode cX6_feed 22 = .ok (.ireturn, 1) := by decide +kernel
theorem dX6_feed_23 : decode cX6_feed 23 = .ok (.iload_n 2, 1) := by decide +kernel
theorem dX6_feed_24 : decode cX6_feed 24 = .ok (.tableswitch 77 0 2 #[28, 38, 66], 28) := by decide +kernel
theorem dX6_feed_52 : decode cX6_feed 52 = .ok (.aload_n 0, 1) := by decide +kernel
theorem dX6_feed_53 : decode cX6_feed 53 = .ok (.getfield 7, 3) := by decide +kernel
theorem dX6_feed_56 : decode cX6_feed 56 = .ok (.bipush 80, 2) := by decide +kernel
theorem dX6_feed_58 : decode cX6_feed 58 = .ok (.iload_n 1, 1) := by decide +kernel
theorem dX6_feed_59 : decode cX6_feed 59 = .ok (.iadd, 1) := by decide +kernel
theorem dX6_feed_60 : decode cX6_feed 60 = .ok (.iaload, 1) := by decide +kernel
theorem dX6_feed_61 : decode cX6_feed 61 = .ok (.ireturn, 1) := by decide +kernel
theorem dX6_feed_62 : decode cX6_feed 62 = .ok (.aload_n 0, 1) := by decide +kernel
theorem dX6_feed_63 : decode cX6_feed 63 = .ok (.getfield 7, 3) := by decide +kernel
theorem dX6_feed_66 : decode cX6_feed 66 = .ok (.bipush 84, 2) := by decide +kernel
theorem dX6_feed_68 : decode cX6_feed 68 = .ok (.iload_n 1, 1) := by decide +kernel
theorem dX6_feed_69 : decode cX6_feed 69 = .ok (.iadd, 1) := by decide +kernel
theorem dX6_feed_70 : decode cX6_feed 70 = .ok (.iaload, 1) := by decide +kernel
theorem dX6_feed_71 : decode cX6_feed 71 = .ok (.iconst (-1), 1) := by decide +kernel
theorem dX6_feed_72 : decode cX6_feed 72 = .ok (.if_icmp .ne 8, 3) := by decide +kernel
theorem dX6_feed_75 : decode cX6_feed 75 = .ok (.bipush (-99), 2) := by decide +kernel
theorem dX6_feed_77 : decode cX6_feed 77 = .ok (.goto 12, 3) := by decide +kernel
theorem dX6_feed_80 : decode cX6_feed 80 = .ok (.aload_n 0, 1) := by decide +kernel
theorem dX6_feed_81 : decode cX6_feed 81 = .ok (.getfield 7, 3) := by decide +kernel
theorem dX6_feed_84 : decode cX6_feed 84 = .ok (.bipush 84, 2) := by decide +kernel
theorem dX6_feed_86 : decode cX6_feed 86 = .ok (.iload_n 1, 1) := by decide +kernel
theorem dX6_feed_87 : decode cX6_feed 87 = .ok (.iadd, 1) := by decide +kernel
theorem dX6_feed_88 : decode cX6_feed 88 = .ok (.iaload, 1) := by decide +kernel
theorem dX6_feed_89 : decode cX6_feed 89 = .ok (.ireturn, 1) := by decide +kernel
theorem dX6_feed_90 : decode cX6_feed 90 = .ok (.aload_n 0, 1) := by decide +kernel
theorem dX6_feed_91 : decode cX6_feed 91 = .ok (.getfield 7, 3) := by decide +kernel
theorem dX6_feed_94 : decode cX6_feed 94 = .ok (.sipush 136, 3) := by decide +kernel
theorem dX6_feed_97 : decode cX6_feed 97 = .ok (.iload_n 1, 1) := by decide +kernel
theorem dX6_feed_98 : decode cX6_feed 98 = .ok (.iadd, 1) := by decide +kernel
theorem dX6_feed_99 : decode cX6_feed 99 = .ok (.iaload, 1) := by decide +kernel
theorem dX6_feed_100 : decode cX6_feed 100 = .ok (.ireturn, 1) := by decide +kernel
theorem dX6_feed_101 : decode cX6_feed 101 = .ok (.aload_n 0, 1) := by decide +kernel
theorem dX6_feed_102 : decode cX6_feed 102 = .ok (.iload_n 1, 1) := by decide +kernel
theorem dX6_feed_103 : decode cX6_feed 103 = .ok (.invokevirtual 178, 3) := by decide +kernel
theorem dX6_feed_106 : decode cX6_feed 106 = .ok (.ireturn, 1) := by decide +kernel
set_option maxRecDepth 20000 in
theorem ggX6_send_X6_isFour : GoodIn wsX6_send wsX6_isFour := goodIn_r _ [5, 6, 7, 4, 8] (by decide +kernel) (by decide +kernel)
set_option maxRecDepth 20000 in
theorem gX6_send_X6_isFour : GoodIn wsX6_send (va_wsS RX6 97 yX6_isFour wsX6_isFour) := goodIn_app (goodIn_of _ (by decide +kernel)) ggX6_send_X6_isFour
set_option maxRecDepth 20000 in
theorem ggX6_send_X6_isChannel : GoodIn wsX6_send wsX6_isChannel := goodIn_r _ [11, 6, 7, 4, 8] (by decide +kernel) (by decide +kernel)
set_option maxRecDepth 20000 in
theorem gX6_send_X6_isChannel : GoodIn wsX6_send (va_wsS RX6 84 yX6_isChannel wsX6_isChannel) := goodIn_app (goodIn_of _ (by decide +kernel)) ggX6_send_X6_isChannel
set_option maxRecDepth 20000 in
theorem ggX6_send_X6_in : GoodIn wsX6_send wsX6_in := goodIn_r _ [8] (by decide +kernel) (by decide +kernel)
set_option maxRecDepth 20000 in
theorem gX6_send_X6_in : GoodIn wsX6_send (va_wsS RX6 35 yX6_in wsX6_in) := goodIn_app (goodIn_of _ (by decide +kernel)) ggX6_send_X6_in
set_option maxRecDepth 20000 in
theorem ggX6_send_X6_sendOf : GoodIn wsX6_send wsX6_sendOf := goodIn_r _ [15, 16, 40, 41, 42, 43, 44, 45, 46, 47, 48, 49, 50, 51, 52, 53, 54] (by decide +kernel) (by decide +kernel)
set_option maxRecDepth 20000 in
theorem gX6_send_X6_sendOf : GoodIn wsX6_send (wsV RX6 59 RX6 yX6_sendOf wsX6_sendOf) := goodIn_app (goodIn_of _ (by decide +kernel)) ggX6_send_X6_sendOf
set_option maxRecDepth 20000 in
theorem ggX6_send_X6_gain : GoodIn wsX6_send wsX6_gain := goodIn_r _ [20, 16, 21, 22, 4, 23, 24, 25, 26, 27, 28, 29, 30, 31, 32, 33, 34, 35, 36, 37, 38, 39, 12, 13, 14, 15, 40, 41, 42, 43, 44, 45, 46, 47, 48, 49, 50, 51, 52, 53, 54] (by decide +kernel) (by decide +kernel)
set_option maxRecDepth 20000 in
theorem gX6_send_X6_gain : GoodIn wsX6_send (wsV RX6 78 RX6 yX6_gain wsX6_gain) := goodIn_app (goodIn_of _ (by decide +kernel)) ggX6_send_X6_gain
theorem dX6_send_0 : decode cX6_send 0 = .ok (.aload_n 0, 1) := by decide +kernel
theorem dX6_send_1 : decode cX6_send 1 = .ok (.iconst 0, 1) := by decide +kernel
theorem dX6_send_2 : decode cX6_send 2 = .ok (.putfield 28, 3) := by decide +kernel
theorem dX6_send_5 : decode cX6_send 5 = .ok (.iload_n 1, 1) := by decide +kernel
theorem dX6_send_6 : decode cX6_send 6 = .ok (.invokestatic 97, 3) := by decide +kernel
theorem dX6_send_9 : decode cX6_send 9 = .ok (.ifCond .eq 19, 3) := by decide +kernel
theorem dX6_send_12 : decode cX6_send 12 = .ok (.iload_n 2, 1) := by decide +kernel
theorem dX6_send_13 : decode cX6_send 13 = .ok (.invokestatic 84, 3) := by decide +kernel
theorem dX6_send_16 : decode cX6_send 16 = .ok (.ifCond .eq 12, 3) := by decide +kernel
theorem dX6_send_19 : decode cX6_send 19 = .ok (.iload_n 3, 1) := by decide +kernel
theorem dX6_send_20 : decode cX6_send 20 = .ok (.iconst 0, 1) := by decide +kernel
theorem dX6_send_21 : decode cX6_send 21 = .ok (.iconst 1, 1) := by decide +kernel
theorem dX6_send_22 : decode cX6_send 22 = .ok (.invokestatic 35, 3) := by decide +kernel
theorem dX6_send_25 : decode cX6_send 25 = .ok (.ifCond .ne 5, 3) := by decide +kernel
theorem dX6_send_28 : decode cX6_send 28 = .ok (.iconst (-1), 1) := by decide +kernel
theorem dX6_send_29 : decode cX6_send 29 = .ok (.ireturn, 1) := by decide +kernel
theorem dX6_send_30 : decode cX6_send 30 = .ok (.iload_n 3, 1) := by decide +kernel
theorem dX6_send_31 : decode cX6_send 31 = .ok (.ifCond .ne 12, 3) := by decide +kernel
theorem dX6_send_34 : decode cX6_send 34 = .ok (.aload_n 0, 1) := by decide +kernel
theorem dX6_send_35 : decode cX6_send 35 = .ok (.iload_n 1, 1) := by decide +kernel
theorem dX6_send_36 : decode cX6_send 36 = .ok (.iload_n 2, 1) := by decide +kernel
theorem dX6_send_37 : decode cX6_send 37 = .ok (.invokevirtual 59, 3) := by decide +kernel
theorem dX6_send_40 : decode cX6_send 40 = .ok (.goto 9, 3) := by decide +kernel
theorem dX6_send_43 : decode cX6_send 43 = .ok (.aload_n 0, 1) := by decide +kernel
theorem dX6_send_44 : decode cX6_send 44 = .ok (.iload_n 1, 1) := by decide +kernel
theorem dX6_send_45 : decode cX6_send 45 = .ok (.iload_n 2, 1) := by decide +kernel
theorem dX6_send_46 : decode cX6_send 46 = .ok (.invokevirtual 78, 3) := by decide +kernel
theorem dX6_send_49 : decode cX6_send 49 = .ok (.ireturn, 1) := by decide +kernel
set_option maxRecDepth 20000 in
theorem ggX6_scene_X6_isScene : GoodIn wsX6_scene wsX6_isScene := goodIn_r _ [6, 7, 8, 5, 9] (by decide +kernel) (by decide +kernel)
set_option maxRecDepth 20000 in
theorem gX6_scene_X6_isScene : GoodIn wsX6_scene (va_wsS RX6 103 yX6_isScene wsX6_isScene) := goodIn_app (goodIn_of _ (by decide +kernel)) ggX6_scene_X6_isScene
set_option maxRecDepth 20000 in
theorem ggX6_scene_X6_in : GoodIn wsX6_scene wsX6_in := goodIn_r _ [9] (by decide +kernel) (by decide +kernel)
set_option maxRecDepth 20000 in
theorem gX6_scene_X6_in : GoodIn wsX6_scene (va_wsS RX6 35 yX6_in wsX6_in) := goodIn_app (goodIn_of _ (by decide +kernel)) ggX6_scene_X6_in
theorem dX6_scene_0 : decode cX6_scene 0 = .ok (.aload_n 0, 1) := by decide +kernel
theorem dX6_scene_1 : decode cX6_scene 1 = .ok (.iconst 0, 1) := by decide +kernel
theorem dX6_scene_2 : decode cX6_scene 2 = .ok (.putfield 28, 3) := by decide +kernel
theorem dX6_scene_5 : decode cX6_scene 5 = .ok (.iload_n 1, 1) := by decide +kernel
theorem dX6_scene_6 : decode cX6_scene 6 = .ok (.invokestatic 103, 3) := by decide +kernel
theorem dX6_scene_9 : decode cX6_scene 9 = .ok (.ifCond .eq 13, 3) := by decide +kernel
theorem dX6_scene_12 : decode cX6_scene 12 = .ok (.iload_n 2, 1) := by decide +kernel
theorem dX6_scene_13 : decode cX6_scene 13 = .ok (.iconst 0, 1) := by decide +kernel
theorem dX6_scene_14 : decode cX6_scene 14 = .ok (.bipush 16, 2) := by decide +kernel
theorem dX6_scene_16 : decode cX6_scene 16 = .ok (.invokestatic 35, 3) := by decide +kernel
theorem dX6_scene_19 : decode cX6_scene 19 = .ok (.ifCond .ne 5, 3) := by decide +kernel
theorem dX6_scene_22 : decode cX6_scene 22 = .ok (.iconst (-1), 1) := by decide +kernel
theorem dX6_scene_23 : decode cX6_scene 23 = .ok (.ireturn, 1) := by decide +kernel
theorem dX6_scene_24 : decode cX6_scene 24 = .ok (.sipush 181, 3) := by decide +kernel
theorem dX6_scene_27 : decode cX6_scene 27 = .ok (.bipush 18, 2) := by decide +kernel
theorem dX6_scene_29 : decode cX6_scene 29 = .ok (.iload_n 1, 1) := by decide +kernel
theorem dX6_scene_30 : decode cX6_scene 30 = .ok (.imul, 1) := by decide +kernel
theorem dX6_scene_31 : decode cX6_scene 31 = .ok (.iadd, 1) := by decide +kernel
theorem dX6_scene_32 : decode cX6_scene 32 = .ok (.istore_n 3, 1) := by decide +kernel
theorem dX6_scene_33 : decode cX6_scene 33 = .ok (.aload_n 0, 1) := by decide +kernel
theorem dX6_scene_34 : decode cX6_scene 34 = .ok (.getfield 7, 3) := by decide +kernel
theorem dX6_scene_37 : decode cX6_scene 37 = .ok (.iload_n 3, 1) := by decide +kernel
theorem dX6_scene_38 : decode cX6_scene 38 = .ok (.iaload, 1) := by decide +kernel
theorem dX6_scene_39 : decode cX6_scene 39 = .ok (.ifCond .ne 8, 3) := by decide +kernel
theorem dX6_scene_42 : decode cX6_scene 42 = .ok (.bipush (-99), 2) := by decide +kernel
theorem dX6_scene_44 : decode cX6_scene 44 = .ok (.goto 13, 3) := by decide +kernel
theorem dX6_scene_47 : decode cX6_scene 47 = .ok (.aload_n 0, 1) := by decide +kernel
theorem dX6_scene_48 : decode cX6_scene 48 = .ok (.getfield 7, 3) := by decide +kernel
theorem dX6_scene_51 : decode cX6_scene 51 = .ok (.iload_n 3, 1) := by decide +kernel
theorem dX6_scene_52 : decode cX6_scene 52 = .ok (.iconst 1, 1) := by decide +kernel
theorem dX6_scene_53 : decode cX6_scene 53 = .ok (.iadd, 1) := by decide +kernel
theorem dX6_scene_54 : decode cX6_scene 54 = .ok (.iload_n 2, 1) := by decide +kernel
theorem dX6_scene_55 : decode cX6_scene 55 = .ok (.iadd, 1) := by decide +kernel
theorem dX6_scene_56 : decode cX6_scene 56 = .ok (.iaload, 1) := by decide +kernel
theorem dX6_scene_57 : decode cX6_scene 57 = .ok (.ireturn, 1) := by decide +kernel
set_option maxRecDepth 20000 in
theorem ggX6_why_X6_isChannel : GoodIn wsX6_why wsX6_isChannel := goodIn_r _ [5, 6, 7, 4, 8] (by decide +kernel) (by decide +kernel)
set_option maxRecDepth 20000 in
theorem gX6_why_X6_isChannel : GoodIn wsX6_why (va_wsS RX6 84 yX6_isChannel wsX6_isChannel) := goodIn_app (goodIn_of _ (by decide +kernel)) ggX6_why_X6_isChannel
set_option maxRecDepth 20000 in
theorem ggX6_why_X6_level : GoodIn wsX6_why wsX6_level := goodIn_r _ [12, 13, 14, 15, 16, 4, 17, 18, 19, 20, 21, 22, 23, 24, 25, 26, 27, 28, 29, 30, 31, 32, 33, 34, 35, 36, 37, 38, 39, 40, 41, 42, 43] (by decide +kernel) (by decide +kernel)
set_option maxRecDepth 20000 in
theorem gX6_why_X6_level : GoodIn wsX6_why (wsV RX6 55 RX6 yX6_level wsX6_level) := goodIn_app (goodIn_of _ (by decide +kernel)) ggX6_why_X6_level
set_option maxRecDepth 20000 in
theorem ggX6_why_X6_of : GoodIn wsX6_why wsX6_of := goodIn_r _ [17, 13, 29, 30, 31, 32, 33, 34, 35, 36, 37, 38, 39, 40, 41, 42, 43] (by decide +kernel) (by decide +kernel)
set_option maxRecDepth 20000 in
theorem gX6_why_X6_of : GoodIn wsX6_why (wsV RX6 43 RX6 yX6_of wsX6_of) := goodIn_app (goodIn_of _ (by decide +kernel)) ggX6_why_X6_of
set_option maxRecDepth 20000 in
theorem ggX6_why_X6_isShut : GoodIn wsX6_why wsX6_isShut := goodIn_r _ [21, 22, 23, 24, 4, 25, 13, 14, 15, 16, 17, 29, 30, 31, 32, 33, 34, 35, 36, 37, 38, 39, 40, 41, 42, 43] (by decide +kernel) (by decide +kernel)
set_option maxRecDepth 20000 in
theorem gX6_why_X6_isShut : GoodIn wsX6_why (wsV RX6 47 RX6 yX6_isShut wsX6_isShut) := goodIn_app (goodIn_of _ (by decide +kernel)) ggX6_why_X6_isShut
theorem dX6_why_0 : decode cX6_why 0 = .ok (.aload_n 0, 1) := by decide +kernel
theorem dX6_why_1 : decode cX6_why 1 = .ok (.iconst 0, 1) := by decide +kernel
theorem dX6_why_2 : decode cX6_why 2 = .ok (.putfield 28, 3) := by decide +kernel
theorem dX6_why_5 : decode cX6_why 5 = .ok (.iload_n 1, 1) := by decide +kernel
theorem dX6_why_6 : decode cX6_why 6 = .ok (.invokestatic 84, 3) := by decide +kernel
theorem dX6_why_9 : decode cX6_why 9 = .ok (.ifCond .ne 5, 3) := by decide +kernel
theorem dX6_why_12 : decode cX6_why 12 = .ok (.iconst (-1), 1) := by decide +kernel
theorem dX6_why_13 : decode cX6_why 13 = .ok (.ireturn, 1) := by decide +kernel
theorem dX6_why_14 : decode cX6_why 14 = .ok (.aload_n 0, 1) := by decide +kernel
theorem dX6_why_15 : decode cX6_why 15 = .ok (.iload_n 1, 1) := by decide +kernel
theorem dX6_why_16 : decode cX6_why 16 = .ok (.invokevirtual 55, 3) := by decide +kernel
theorem dX6_why_19 : decode cX6_why 19 = .ok (.ifCond .le 5, 3) := by decide +kernel
theorem dX6_why_22 : decode cX6_why 22 = .ok (.iconst 0, 1) := by decide +kernel
theorem dX6_why_23 : decode cX6_why 23 = .ok (.ireturn, 1) := by decide +kernel
theorem dX6_why_24 : decode cX6_why 24 = .ok (.aload_n 0, 1) := by decide +kernel
theorem dX6_why_25 : decode cX6_why 25 = .ok (.iload_n 1, 1) := by decide +kernel
theorem dX6_why_26 : decode cX6_why 26 = .ok (.iconst 2, 1) := by decide +kernel
theorem dX6_why_27 : decode cX6_why 27 = .ok (.invokevirtual 43, 3) := by decide +kernel
theorem dX6_why_30 : decode cX6_why 30 = .ok (.iconst 1, 1) := by decide +kernel
theorem dX6_why_31 : decode cX6_why 31 = .ok (.if_icmp .ne 7, 3) := by decide +kernel
theorem dX6_why_34 : decode cX6_why 34 = .ok (.iconst 1, 1) := by decide +kernel
theorem dX6_why_35 : decode cX6_why 35 = .ok (.goto 29, 3) := by decide +kernel
theorem dX6_why_38 : decode cX6_why 38 = .ok (.aload_n 0, 1) := by decide +kernel
theorem dX6_why_39 : decode cX6_why 39 = .ok (.iload_n 1, 1) := by decide +kernel
theorem dX6_why_40 : decode cX6_why 40 = .ok (.invokevirtual 47, 3) := by decide +kernel
theorem dX6_why_43 : decode cX6_why 43 = .ok (.ifCond .eq 7, 3) := by decide +kernel
theorem dX6_why_46 : decode cX6_why 46 = .ok (.iconst 2, 1) := by decide +kernel
theorem dX6_why_47 : decode cX6_why 47 = .ok (.goto 17, 3) := by decide +kernel
theorem dX6_why_50 : decode cX6_why 50 = .ok (.aload_n 0, 1) := by decide +kernel
theorem dX6_why_51 : decode cX6_why 51 = .ok (.iload_n 1, 1) := by decide +kernel
theorem dX6_why_52 : decode cX6_why 52 = .ok (.iconst 1, 1) := by decide +kernel
theorem dX6_why_53 : decode cX6_why 53 = .ok (.invokevirtual 43, 3) := by decide +kernel
theorem dX6_why_56 : decode cX6_why 56 = .ok (.ifCond .ne 7, 3) := by decide +kernel
theorem dX6_why_59 : decode cX6_why 59 = .ok (.iconst 3, 1) := by decide +kernel
theorem dX6_why_60 : decode cX6_why 60 = .ok (.goto 4, 3) := by decide +kernel
theorem dX6_why_63 : decode cX6_why 63 = .ok (.iconst 4, 1) := by decide +kernel
theorem dX6_why_64 : decode cX6_why 64 = .ok (.ireturn, 1) := by decide +kernel
set_option maxRecDepth 20000 in
theorem ggX6_goes_X6_gain : GoodIn wsX6_goes wsX6_gain := goodIn_r _ [9, 4, 10, 11, 8, 12, 13, 14, 15, 16, 17, 18, 19, 20, 21, 22, 23, 24, 25, 26, 27, 28, 29, 30, 31, 32, 33, 34, 35, 36, 37, 38, 39, 40, 41, 42, 43, 44, 45, 46, 47] (by decide +kernel) (by decide +kernel)
set_option maxRecDepth 20000 in
theorem gX6_goes_X6_gain : GoodIn wsX6_goes (wsV RX6 78 RX6 yX6_gain wsX6_gain) := goodIn_app (goodIn_of _ (by decide +kernel)) ggX6_goes_X6_gain
theorem dX6_goes_0 : decode cX6_goes 0 = .ok (.aload_n 0, 1) := by decide +kernel
theorem dX6_goes_1 : decode cX6_goes 1 = .ok (.iload_n 1, 1) := by decide +kernel
theorem dX6_goes_2 : decode cX6_goes 2 = .ok (.aload_n 0, 1) := by decide +kernel
theorem dX6_goes_3 : decode cX6_goes 3 = .ok (.getfield 22, 3) := by decide +kernel
theorem dX6_goes_6 : decode cX6_goes 6 = .ok (.aload_n 0, 1) := by decide +kernel
theorem dX6_goes_7 : decode cX6_goes 7 = .ok (.getfield 181, 3) := by decide +kernel
theorem dX6_goes_10 : decode cX6_goes 10 = .ok (.iconst 1, 1) := by decide +kernel
theorem dX6_goes_11 : decode cX6_goes 11 = .ok (.isub, 1) := by decide +kernel
theorem dX6_goes_12 : decode cX6_goes 12 = .ok (.iaload, 1) := by decide +kernel
theorem dX6_goes_13 : decode cX6_goes 13 = .ok (.invokevirtual 78, 3) := by decide +kernel
theorem dX6_goes_16 : decode cX6_goes 16 = .ok (.istore_n 3, 1) := by decide +kernel
theorem dX6_goes_17 : decode cX6_goes 17 = .ok (.aload_n 0, 1) := by decide +kernel
theorem dX6_goes_18 : decode cX6_goes 18 = .ok (.aload_n 0, 1) := by decide +kernel
theorem dX6_goes_19 : decode cX6_goes 19 = .ok (.getfield 184, 3) := by decide +kernel
theorem dX6_goes_22 : decode cX6_goes 22 = .ok (.iload_n 3, 1) := by decide +kernel
theorem dX6_goes_23 : decode cX6_goes 23 = .ok (.imul, 1) := by decide +kernel
theorem dX6_goes_24 : decode cX6_goes 24 = .ok (.bipush 100, 2) := by decide +kernel
theorem dX6_goes_26 : decode cX6_goes 26 = .ok (.idiv, 1) := by decide +kernel
theorem dX6_goes_27 : decode cX6_goes 27 = .ok (.putfield 184, 3) := by decide +kernel
theorem dX6_goes_30 : decode cX6_goes 30 = .ok (.iload_n 3, 1) := by decide +kernel
theorem dX6_goes_31 : decode cX6_goes 31 = .ok (.ifCond .eq 20, 3) := by decide +kernel
theorem dX6_goes_34 : decode cX6_goes 34 = .ok (.iload_n 2, 1) := by decide +kernel
theorem dX6_goes_35 : decode cX6_goes 35 = .ok (.ifCond .ne 18, 3) := by decide +kernel
theorem dX6_goes_38 : decode cX6_goes 38 = .ok (.aload_n 0, 1) := by decide +kernel
theorem dX6_goes_39 : decode cX6_goes 39 = .ok (.getfield 7, 3) := by decide +kernel
theorem dX6_goes_42 : decode cX6_goes 42 = .ok (.bipush 84, 2) := by decide +kernel
theorem dX6_goes_44 : decode cX6_goes 44 = .ok (.iload_n 1, 1) := by decide +kernel
theorem dX6_goes_45 : decode cX6_goes 45 = .ok (.iadd, 1) := by decide +kernel
theorem dX6_goes_46 : decode cX6_goes 46 = .ok (.iaload, 1) := by decide +kernel
theorem dX6_goes_47 : decode cX6_goes 47 = .ok (.iconst (-1), 1) := by decide +kernel
theorem dX6_goes_48 : decode cX6_goes 48 = .ok (.if_icmp .ne 5, 3) := by decide +kernel
theorem dX6_goes_51 : decode cX6_goes 51 = .ok (.iconst 0, 1) := by decide +kernel
theorem dX6_goes_52 : decode cX6_goes 52 = .ok (.ireturn, 1) := by decide +kernel
theorem dX6_goes_53 : decode cX6_goes 53 = .ok (.iload_n 2, 1) := by decide +kernel
theorem dX6_goes_54 : decode cX6_goes 54 = .ok (.ifCond .ne 31, 3) := by decide +kernel
theorem dX6_goes_57 : decode cX6_goes 57 = .ok (.aload_n 0, 1) := by decide +kernel
theorem dX6_goes_58 : decode cX6_goes 58 = .ok (.getfield 22, 3) := by decide +kernel
theorem dX6_goes_61 : decode cX6_goes 61 = .ok (.aload_n 0, 1) := by decide +kernel
theorem dX6_goes_62 : decode cX6_goes 62 = .ok (.getfield 181, 3) := by decide +kernel
theorem dX6_goes_65 : decode cX6_goes 65 = .ok (.aload_n 0, 1) := by decide +kernel
theorem dX6_goes_66 : decode cX6_goes 66 = .ok (.getfield 7, 3) := by decide +kernel
theorem dX6_goes_69 : decode cX6_goes 69 = .ok (.bipush 84, 2) := by decide +kernel
theorem dX6_goes_71 : decode cX6_goes 71 = .ok (.iload_n 1, 1) := by decide +kernel
theorem dX6_goes_72 : decode cX6_goes 72 = .ok (.iadd, 1) := by decide +kernel
theorem dX6_goes_73 : decode cX6_goes 73 = .ok (.iaload, 1) := by decide +kernel
theorem dX6_goes_74 : decode cX6_goes 74 = .ok (.iastore, 1) := by decide +kernel
theorem dX6_goes_75 : decode cX6_goes 75 = .ok (.aload_n 0, 1) := by decide +kernel
theorem dX6_goes_76 : decode cX6_goes 76 = .ok (.dup, 1) := by decide +kernel
theorem dX6_goes_77 : decode cX6_goes 77 = .ok (.getfield 181, 3) := by decide +kernel
theorem dX6_goes_80 : decode cX6_goes 80 = .ok (.iconst 1, 1) := by decide +kernel
theorem dX6_goes_81 : decode cX6_goes 81 = .ok (.iadd, 1) := by decide +kernel
theorem dX6_goes_82 : decode cX6_goes 82 = .ok (.putfield 181, 3) := by decide +kernel
theorem dX6_goes_85 : decode cX6_goes 85 = .ok (.iconst 1, 1) := by decide +kernel
theorem dX6_goes_86 : decode cX6_goes 86 = .ok (.ireturn, 1) := by decide +kernel
theorem dX6_isBetter_0 : decode cX6_isBetter 0 = .ok (.aload_n 0, 1) := by decide +kernel
theorem dX6_isBetter_1 : decode cX6_isBetter 1 = .ok (.getfield 187, 3) := by decide +kernel
theorem dX6_isBetter_4 : decode cX6_isBetter 4 = .ok (.ifCond .eq 14, 3) := by decide +kernel
theorem dX6_isBetter_7 : decode cX6_isBetter 7 = .ok (.aload_n 0, 1) := by decide +kernel
theorem dX6_isBetter_8 : decode cX6_isBetter 8 = .ok (.getfield 181, 3) := by decide +kernel
theorem dX6_isBetter_11 : decode cX6_isBetter 11 = .ok (.aload_n 0, 1) := by decide +kernel
theorem dX6_isBetter_12 : decode cX6_isBetter 12 = .ok (.getfield 187, 3) := by decide +kernel
theorem dX6_isBetter_15 : decode cX6_isBetter 15 = .ok (.if_icmp .eq 27, 3) := by decide +kernel
theorem dX6_isBetter_18 : decode cX6_isBetter 18 = .ok (.aload_n 0, 1) := by decide +kernel
theorem dX6_isBetter_19 : decode cX6_isBetter 19 = .ok (.getfield 187, 3) := by decide +kernel
theorem dX6_isBetter_22 : decode cX6_isBetter 22 = .ok (.ifCond .eq 14, 3) := by decide +kernel
theorem dX6_isBetter_25 : decode cX6_isBetter 25 = .ok (.aload_n 0, 1) := by decide +kernel
theorem dX6_isBetter_26 : decode cX6_isBetter 26 = .ok (.getfield 181, 3) := by decide +kernel
theorem dX6_isBetter_29 : decode cX6_isBetter 29 = .ok (.aload_n 0, 1) := by decide +kernel
theorem dX6_isBetter_30 : decode cX6_isBetter 30 = .ok (.getfield 187, 3) := by decide +kernel
theorem dX6_isBetter_33 : decode cX6_isBetter 33 = .ok (.if_icmp .ge 7, 3) := by decide +kernel
theorem dX6_isBetter_36 : decode cX6_isBetter 36 = .ok (.iconst 1, 1) := by decide +kernel
theorem dX6_isBetter_37 : decode cX6_isBetter 37 = .ok (.goto 4, 3) := by decide +kernel
theorem dX6_isBetter_40 : decode cX6_isBetter 40 = .ok (.iconst 0, 1) := by decide +kernel
theorem dX6_isBetter_41 : decode cX6_isBetter 41 = .ok (.ireturn, 1) := by decide +kernel
theorem dX6_isBetter_42 : decode cX6_isBetter 42 = .ok (.iconst 0, 1) := by decide +kernel
theorem dX6_isBetter_43 : decode cX6_isBetter 43 = .ok (.istore_n 1, 1) := by decide +kernel
theorem dX6_isBetter_44 : decode cX6_isBetter 44 = .ok (.iload_n 1, 1) := by decide +kernel
theorem dX6_isBetter_45 : decode cX6_isBetter 45 = .ok (.aload_n 0, 1) := by decide +kernel
theorem dX6_isBetter_46 : decode cX6_isBetter 46 = .ok (.getfield 181, 3) := by decide +kernel
theorem dX6_isBetter_49 : decode cX6_isBetter 49 = .ok (.if_icmp .ge 45, 3) := by decide +kernel
theorem dX6_isBetter_52 : decode cX6_isBetter 52 = .ok (.aload_n 0, 1) := by decide +kernel
theorem dX6_isBetter_53 : decode cX6_isBetter 53 = .ok (.getfield 22, 3) := by decide +kernel
theorem dX6_isBetter_56 : decode cX6_isBetter 56 = .ok (.iload_n 1, 1) := by decide +kernel
theorem dX6_isBetter_57 : decode cX6_isBetter 57 = .ok (.iaload, 1) := by decide +kernel
theorem dX6_isBetter_58 : decode cX6_isBetter 58 = .ok (.aload_n 0, 1) := by decide +kernel
theorem dX6_isBetter_59 : decode cX6_isBetter 59 = .ok (.getfield 25, 3) := by decide +kernel
theorem dX6_isBetter_62 : decode cX6_isBetter 62 = .ok (.iload_n 1, 1) := by decide +kernel
theorem dX6_isBetter_63 : decode cX6_isBetter 63 = .ok (.iaload, 1) := by decide +kernel
theorem dX6_isBetter_64 : decode cX6_isBetter 64 = .ok (.if_icmp .eq 24, 3) := by decide +kernel
theorem dX6_isBetter_67 : decode cX6_isBetter 67 = .ok (.aload_n 0, 1) := by decide +kernel
theorem dX6_isBetter_68 : decode cX6_isBetter 68 = .ok (.getfield 22, 3) := by decide +kernel
theorem dX6_isBetter_71 : decode cX6_isBetter 71 = .ok (.iload_n 1, 1) := by decide +kernel
theorem dX6_isBetter_72 : decode cX6_isBetter 72 = .ok (.iaload, 1) := by decide +kernel
theorem dX6_isBetter_73 : decode cX6_isBetter 73 = .ok (.aload_n 0, 1) := by decide +kernel
theorem dX6_isBetter_74 : decode cX6_isBetter 74 = .ok (.getfield 25, 3) := by decide +kernel
theorem dX6_isBetter_77 : decode cX6_isBetter 77 = .ok (.iload_n 1, 1) := by decide +kernel
theorem dX6_isBetter_78 : decode cX6_isBetter 78 = .ok (.iaload, 1) := by decide +kernel
theorem dX6_isBetter_79 : decode cX6_isBetter 79 = .ok (.if_icmp .ge 7, 3) := by decide +kernel
theorem dX6_isBetter_82 : decode cX6_isBetter 82 = .ok (.iconst 1, 1) := by decide +kernel
theorem dX6_isBetter_83 : decode cX6_isBetter 83 = .ok (.goto 4, 3) := by decide +kernel
theorem dX6_isBetter_86 : decode cX6_isBetter 86 = .ok (.iconst 0, 1) := by decide +kernel
theorem dX6_isBetter_87 : decode cX6_isBetter 87 = .ok (.ireturn, 1) := by decide +kernel
theorem dX6_isBetter_88 : decode cX6_isBetter 88 = .ok (.iinc 1 1, 3) := by decide +kernel
theorem dX6_isBetter_91 : decode cX6_isBetter 91 = .ok (.goto (-47), 3) := by decide +kernel
theorem dX6_isBetter_94 : decode cX6_isBetter 94 = .ok (.iconst 0, 1) := by decide +kernel
theorem dX6_isBetter_95 : decode cX6_isBetter 95 = .ok (.ireturn, 1) := by decide +kernel
set_option maxRecDepth 20000 in
theorem ggX6_tries_X6_goes : GoodIn wsX6_tries wsX6_goes := goodIn_r _ [11, 1, 2, 3, 12, 13, 14, 15, 10, 16, 17, 18, 19, 20, 21, 22, 23, 24, 25, 26, 27, 28, 29, 30, 31, 32, 33, 34, 35, 36, 37, 38, 39, 47, 48, 49, 50, 51, 52, 53, 54, 55, 56, 57, 58, 59, 60, 61] (by decide +kernel) (by decide +kernel)
set_option maxRecDepth 20000 in
theorem gX6_tries_X6_goes : GoodIn wsX6_tries (wsV RX6 190 RX6 yX6_goes wsX6_goes) := goodIn_app (goodIn_of _ (by decide +kernel)) ggX6_tries_X6_goes
set_option maxRecDepth 20000 in
theorem ggX6_tries_X6_more : GoodIn wsX6_tries wsX6_more := goodIn_r _ [42] (by decide +kernel) (by decide +kernel)
set_option maxRecDepth 20000 in
theorem gX6_tries_X6_more : GoodIn wsX6_tries (va_wsS RX6 81 yX6_more wsX6_more) := goodIn_app (goodIn_of _ (by decide +kernel)) ggX6_tries_X6_more
set_option maxRecDepth 20000 in
theorem ggX6_tries_X6_isBetter : GoodIn wsX6_tries wsX6_isBetter := goodIn_r _ [46, 5, 2, 1, 6, 47, 48, 49, 50, 51, 52, 53, 54, 55, 56, 57, 58, 59, 60, 61] (by decide +kernel) (by decide +kernel)
set_option maxRecDepth 20000 in
theorem gX6_tries_X6_isBetter : GoodIn wsX6_tries (wsV RX6 197 RX6 yX6_isBetter wsX6_isBetter) := goodIn_app (goodIn_of _ (by decide +kernel)) ggX6_tries_X6_isBetter
theorem dX6_tries_0 : decode cX6_tries 0 = .ok (.aload_n 0, 1) := by decide +kernel
theorem dX6_tries_1 : decode cX6_tries 1 = .ok (.getfield 22, 3) := by decide +kernel
theorem dX6_tries_4 : decode cX6_tries 4 = .ok (.iconst 0, 1) := by decide +kernel
theorem dX6_tries_5 : decode cX6_tries 5 = .ok (.iload_n 1, 1) := by decide +kernel
theorem dX6_tries_6 : decode cX6_tries 6 = .ok (.iastore, 1) := by decide +kernel
theorem dX6_tries_7 : decode cX6_tries 7 = .ok (.aload_n 0, 1) := by decide +kernel
theorem dX6_tries_8 : decode cX6_tries 8 = .ok (.iconst 1, 1) := by decide +kernel
theorem dX6_tries_9 : decode cX6_tries 9 = .ok (.putfield 181, 3) := by decide +kernel
theorem dX6_tries_12 : decode cX6_tries 12 = .ok (.aload_n 0, 1) := by decide +kernel
theorem dX6_tries_13 : decode cX6_tries 13 = .ok (.bipush 100, 2) := by decide +kernel
theorem dX6_tries_15 : decode cX6_tries 15 = .ok (.putfield 184, 3) := by decide +kernel
theorem dX6_tries_18 : decode cX6_tries 18 = .ok (.iload_n 2, 1) := by decide +kernel
theorem dX6_tries_19 : decode cX6_tries 19 = .ok (.iconst 4, 1) := by decide +kernel
theorem dX6_tries_20 : decode cX6_tries 20 = .ok (.if_icmp .ge 12, 3) := by decide +kernel
theorem dX6_tries_23 : decode cX6_tries 23 = .ok (.aload_n 0, 1) := by decide +kernel
theorem dX6_tries_24 : decode cX6_tries 24 = .ok (.iload_n 2, 1) := by decide +kernel
theorem dX6_tries_25 : decode cX6_tries 25 = .ok (.iconst 0, 1) := by decide +kernel
theorem dX6_tries_26 : decode cX6_tries 26 = .ok (.invokevirtual 190, 3) := by decide +kernel
theorem dX6_tries_29 : decode cX6_tries 29 = .ok (.ifCond .eq 43, 3) := by decide +kernel
theorem dX6_tries_32 : decode cX6_tries 32 = .ok (.iload_n 3, 1) := by decide +kernel
theorem dX6_tries_33 : decode cX6_tries 33 = .ok (.iconst 4, 1) := by decide +kernel
theorem dX6_tries_34 : decode cX6_tries 34 = .ok (.if_icmp .ge 12, 3) := by decide +kernel
theorem dX6_tries_37 : decode cX6_tries 37 = .ok (.aload_n 0, 1) := by decide +kernel
theorem dX6_tries_38 : decode cX6_tries 38 = .ok (.iload_n 3, 1) := by decide +kernel
theorem dX6_tries_39 : decode cX6_tries 39 = .ok (.iconst 0, 1) := by decide +kernel
theorem dX6_tries_40 : decode cX6_tries 40 = .ok (.invokevirtual 190, 3) := by decide +kernel
theorem dX6_tries_43 : decode cX6_tries 43 = .ok (.ifCond .eq 29, 3) := by decide +kernel
theorem dX6_tries_46 : decode cX6_tries 46 = .ok (.iload 4, 2) := by decide +kernel
theorem dX6_tries_48 : decode cX6_tries 48 = .ok (.iconst 4, 1) := by decide +kernel
theorem dX6_tries_49 : decode cX6_tries 49 = .ok (.if_icmp .ge 13, 3) := by decide +kernel
theorem dX6_tries_52 : decode cX6_tries 52 = .ok (.aload_n 0, 1) := by decide +kernel
theorem dX6_tries_53 : decode cX6_tries 53 = .ok (.iload 4, 2) := by decide +kernel
theorem dX6_tries_55 : decode cX6_tries 55 = .ok (.iconst 0, 1) := by decide +kernel
theorem dX6_tries_56 : decode cX6_tries 56 = .ok (.invokevirtual 190, 3) := by decide +kernel
theorem dX6_tries_59 : decode cX6_tries 59 = .ok (.ifCond .eq 13, 3) := by decide +kernel
theorem dX6_tries_62 : decode cX6_tries 62 = .ok (.aload_n 0, 1) := by decide +kernel
theorem dX6_tries_63 : decode cX6_tries 63 = .ok (.iload 5, 2) := by decide +kernel
theorem dX6_tries_65 : decode cX6_tries 65 = .ok (.iconst 1, 1) := by decide +kernel
theorem dX6_tries_66 : decode cX6_tries 66 = .ok (.invokevirtual 190, 3) := by decide +kernel
theorem dX6_tries_69 : decode cX6_tries 69 = .ok (.ifCond .ne 4, 3) := by decide +kernel
theorem dX6_tries_72 : decode cX6_tries 72 = .ok (.return_, 1) := by decide +kernel
theorem dX6_tries_73 : decode cX6_tries 73 = .ok (.aload_n 0, 1) := by decide +kernel
theorem dX6_tries_74 : decode cX6_tries 74 = .ok (.aload_n 0, 1) := by decide +kernel
theorem dX6_tries_75 : decode cX6_tries 75 = .ok (.getfield 194, 3) := by decide +kernel
theorem dX6_tries_78 : decode cX6_tries 78 = .ok (.aload_n 0, 1) := by decide +kernel
theorem dX6_tries_79 : decode cX6_tries 79 = .ok (.getfield 184, 3) := by decide +kernel
theorem dX6_tries_82 : decode cX6_tries 82 = .ok (.invokestatic 81, 3) := by decide +kernel
theorem dX6_tries_85 : decode cX6_tries 85 = .ok (.putfield 194, 3) := by decide +kernel
theorem dX6_tries_88 : decode cX6_tries 88 = .ok (.aload_n 0, 1) := by decide +kernel
theorem dX6_tries_89 : decode cX6_tries 89 = .ok (.invokevirtual 197, 3) := by decide +kernel
theorem dX6_tries_92 : decode cX6_tries 92 = .ok (.ifCond .eq 43, 3) := by decide +kernel
theorem dX6_tries_95 : decode cX6_tries 95 = .ok (.aload_n 0, 1) := by decide +kernel
theorem dX6_tries_96 : decode cX6_tries 96 = .ok (.aload_n 0, 1) := by decide +kernel
theorem dX6_tries_97 : decode cX6_tries 97 = .ok (.getfield 181, 3) := by decide +kernel
theorem dX6_tries_100 : decode cX6_tries 100 = .ok (.putfield 187, 3) := by decide +kernel
theorem dX6_tries_103 : decode cX6_tries 103 = .ok (.iconst 0, 1) := by decide +kernel
theorem dX6_tries_104 : decode cX6_tries 104 = .ok (.istore 6, 2) := by decide +kernel
theorem dX6_tries_106 : decode cX6_tries 106 = .ok (.iload 6, 2) := by decide +kernel
theorem dX6_tries_108 : decode cX6_tries 108 = .ok (.aload_n 0, 1) := by decide +kernel
theorem dX6_tries_109 : decode cX6_tries 109 = .ok (.getfield 181, 3) := by decide +kernel
theorem dX6_tries_112 : decode cX6_tries 112 = .ok (.if_icmp .ge 23, 3) := by decide +kernel
theorem dX6_tries_115 : decode cX6_tries 115 = .ok (.aload_n 0, 1) := by decide +kernel
theorem dX6_tries_116 : decode cX6_tries 116 = .ok (.getfield 25, 3) := by decide +kernel
theorem dX6_tries_119 : decode cX6_tries 119 = .ok (.iload 6, 2) := by decide +kernel
theorem dX6_tries_121 : decode cX6_tries 121 = .ok (.aload_n 0, 1) := by decide +kernel
theorem dX6_tries_122 : decode cX6_tries 122 = .ok (.getfield 22, 3) := by decide +kernel
theorem dX6_tries_125 : decode cX6_tries 125 = .ok (.iload 6, 2) := by decide +kernel
theorem dX6_tries_127 : decode cX6_tries 127 = .ok (.iaload, 1) := by decide +kernel
theorem dX6_tries_128 : decode cX6_tries 128 = .ok (.iastore, 1) := by decide +kernel
theorem dX6_tries_129 : decode cX6_tries 129 = .ok (.iinc 6 1, 3) := by decide +kernel
theorem dX6_tries_132 : decode cX6_tries 132 = .ok (.goto (-26), 3) := by decide +kernel
theorem dX6_tries_135 : decode cX6_tries 135 = .ok (.return_, 1) := by decide +kernel
theorem dX6_areDifferent_0 : decode cX6_areDifferent 0 = .ok (.iload_n 0, 1) := by decide +kernel
theorem dX6_areDifferent_1 : decode cX6_areDifferent 1 = .ok (.iload_n 3, 1) := by decide +kernel
theorem dX6_areDifferent_2 : decode cX6_areDifferent 2 = .ok (.if_icmp .eq 33, 3) := by decide +kernel
theorem dX6_areDifferent_5 : decode cX6_areDifferent 5 = .ok (.iload_n 1, 1) := by decide +kernel
theorem dX6_areDifferent_6 : decode cX6_areDifferent 6 = .ok (.iload_n 3, 1) := by decide +kernel
theorem dX6_areDifferent_7 : decode cX6_areDifferent 7 = .ok (.if_icmp .eq 28, 3) := by decide +kernel
theorem dX6_areDifferent_10 : decode cX6_areDifferent 10 = .ok (.iload_n 2, 1) := by decide +kernel
theorem dX6_areDifferent_11 : decode cX6_areDifferent 11 = .ok (.iload_n 3, 1) := by decide +kernel
theorem dX6_areDifferent_12 : decode cX6_areDifferent 12 = .ok (.if_icmp .eq 23, 3) := by decide +kernel
theorem dX6_areDifferent_15 : decode cX6_areDifferent 15 = .ok (.iload_n 1, 1) := by decide +kernel
theorem dX6_areDifferent_16 : decode cX6_areDifferent 16 = .ok (.iconst 4, 1) := by decide +kernel
theorem dX6_areDifferent_17 : decode cX6_areDifferent 17 = .ok (.if_icmp .ge 8, 3) := by decide +kernel
theorem dX6_areDifferent_20 : decode cX6_areDifferent 20 = .ok (.iload_n 0, 1) := by decide +kernel
theorem dX6_areDifferent_21 : decode cX6_areDifferent 21 = .ok (.iconst 4, 1) := by decide +kernel
theorem dX6_areDifferent_22 : decode cX6_areDifferent 22 = .ok (.if_icmp .eq 13, 3) := by decide +kernel
theorem dX6_areDifferent_25 : decode cX6_areDifferent 25 = .ok (.iload_n 2, 1) := by decide +kernel
theorem dX6_areDifferent_26 : decode cX6_areDifferent 26 = .ok (.iconst 4, 1) := by decide +kernel
theorem dX6_areDifferent_27 : decode cX6_areDifferent 27 = .ok (.if_icmp .ge 10, 3) := by decide +kernel
theorem dX6_areDifferent_30 : decode cX6_areDifferent 30 = .ok (.iload_n 1, 1) := by decide +kernel
theorem dX6_areDifferent_31 : decode cX6_areDifferent 31 = .ok (.iconst 4, 1) := by decide +kernel
theorem dX6_areDifferent_32 : decode cX6_areDifferent 32 = .ok (.if_icmp .ne 5, 3) := by decide +kernel
theorem dX6_areDifferent_35 : decode cX6_areDifferent 35 = .ok (.iconst 0, 1) := by decide +kernel
theorem dX6_areDifferent_36 : decode cX6_areDifferent 36 = .ok (.ireturn, 1) := by decide +kernel
theorem dX6_areDifferent_37 : decode cX6_areDifferent 37 = .ok (.iload_n 0, 1) := by decide +kernel
theorem dX6_areDifferent_38 : decode cX6_areDifferent 38 = .ok (.iconst 4, 1) := by decide +kernel
theorem dX6_areDifferent_39 : decode cX6_areDifferent 39 = .ok (.if_icmp .eq 13, 3) := by decide +kernel
theorem dX6_areDifferent_42 : decode cX6_areDifferent 42 = .ok (.iload_n 0, 1) := by decide +kernel
theorem dX6_areDifferent_43 : decode cX6_areDifferent 43 = .ok (.iload_n 1, 1) := by decide +kernel
theorem dX6_areDifferent_44 : decode cX6_areDifferent 44 = .ok (.if_icmp .eq 22, 3) := by decide +kernel
theorem dX6_areDifferent_47 : decode cX6_areDifferent 47 = .ok (.iload_n 0, 1) := by decide +kernel
theorem dX6_areDifferent_48 : decode cX6_areDifferent 48 = .ok (.iload_n 2, 1) := by decide +kernel
theorem dX6_areDifferent_49 : decode cX6_areDifferent 49 = .ok (.if_icmp .eq 17, 3) := by decide +kernel
theorem dX6_areDifferent_52 : decode cX6_areDifferent 52 = .ok (.iload_n 1, 1) := by decide +kernel
theorem dX6_areDifferent_53 : decode cX6_areDifferent 53 = .ok (.iconst 4, 1) := by decide +kernel
theorem dX6_areDifferent_54 : decode cX6_areDifferent 54 = .ok (.if_icmp .eq 8, 3) := by decide +kernel
theorem dX6_areDifferent_57 : decode cX6_areDifferent 57 = .ok (.iload_n 1, 1) := by decide +kernel
theorem dX6_areDifferent_58 : decode cX6_areDifferent 58 = .ok (.iload_n 2, 1) := by decide +kernel
theorem dX6_areDifferent_59 : decode cX6_areDifferent 59 = .ok (.if_icmp .eq 7, 3) := by decide +kernel
theorem dX6_areDifferent_62 : decode cX6_areDifferent 62 = .ok (.iconst 1, 1) := by decide +kernel
theorem dX6_areDifferent_63 : decode cX6_areDifferent 63 = .ok (.goto 4, 3) := by decide +kernel
theorem dX6_areDifferent_66 : decode cX6_areDifferent 66 = .ok (.iconst 0, 1) := by decide +kernel
theorem dX6_areDifferent_67 : decode cX6_areDifferent 67 = .ok (.ireturn, 1) := by decide +kernel
set_option maxRecDepth 20000 in
theorem ggX6_finds_X6_areDifferent : GoodIn wsX6_finds wsX6_areDifferent := goodIn_r _ [6] (by decide +kernel) (by decide +kernel)
set_option maxRecDepth 20000 in
theorem gX6_finds_X6_areDifferent : GoodIn wsX6_finds (va_wsS RX6 200 yX6_areDifferent wsX6_areDifferent) := goodIn_app (goodIn_of _ (by decide +kernel)) ggX6_finds_X6_areDifferent
set_option maxRecDepth 20000 in
theorem ggX6_finds_X6_tries : GoodIn wsX6_finds wsX6_tries := goodIn_r _ [10, 11, 12, 13, 2, 1, 14, 15, 16, 17, 5, 18, 19, 20, 21, 22, 23, 24, 25, 26, 27, 28, 29, 30, 31, 32, 33, 34, 35, 36, 37, 38, 39, 40, 41, 42, 43, 44, 45, 46, 47, 48, 49, 50, 51, 52, 53, 54, 55, 56, 57, 58, 59, 60, 61, 62, 63, 64, 65, 66, 67, 68] (by decide +kernel) (by decide +kernel)
set_option maxRecDepth 20000 in
theorem gX6_finds_X6_tries : GoodIn wsX6_finds (wsV RX6 204 RX6 yX6_tries wsX6_tries) := goodIn_app (goodIn_of _ (by decide +kernel)) ggX6_finds_X6_tries
theorem dX6_finds_0 : decode cX6_finds 0 = .ok (.aload_n 0, 1) := by decide +kernel
theorem dX6_finds_1 : decode cX6_finds 1 = .ok (.iconst 0, 1) := by decide +kernel
theorem dX6_finds_2 : decode cX6_finds 2 = .ok (.putfield 187, 3) := by decide +kernel
theorem dX6_finds_5 : decode cX6_finds 5 = .ok (.aload_n 0, 1) := by decide +kernel
theorem dX6_finds_6 : decode cX6_finds 6 = .ok (.bipush (-99), 2) := by decide +kernel
theorem dX6_finds_8 : decode cX6_finds 8 = .ok (.putfield 194, 3) := by decide +kernel
theorem dX6_finds_11 : decode cX6_finds 11 = .ok (.iconst 0, 1) := by decide +kernel
theorem dX6_finds_12 : decode cX6_finds 12 = .ok (.istore_n 3, 1) := by decide +kernel
theorem dX6_finds_13 : decode cX6_finds 13 = .ok (.iload_n 3, 1) := by decide +kernel
theorem dX6_finds_14 : decode cX6_finds 14 = .ok (.iconst 4, 1) := by decide +kernel
theorem dX6_finds_15 : decode cX6_finds 15 = .ok (.if_icmp .gt 62, 3) := by decide +kernel
theorem dX6_finds_18 : decode cX6_finds 18 = .ok (.iconst 0, 1) := by decide +kernel
theorem dX6_finds_19 : decode cX6_finds 19 = .ok (.istore 4, 2) := by decide +kernel
theorem dX6_finds_21 : decode cX6_finds 21 = .ok (.iload 4, 2) := by decide +kernel
theorem dX6_finds_23 : decode cX6_finds 23 = .ok (.iconst 4, 1) := by decide +kernel
theorem dX6_finds_24 : decode cX6_finds 24 = .ok (.if_icmp .gt 47, 3) := by decide +kernel
theorem dX6_finds_27 : decode cX6_finds 27 = .ok (.iconst 0, 1) := by decide +kernel
theorem dX6_finds_28 : decode cX6_finds 28 = .ok (.istore 5, 2) := by decide +kernel
theorem dX6_finds_30 : decode cX6_finds 30 = .ok (.iload 5, 2) := by decide +kernel
theorem dX6_finds_32 : decode cX6_finds 32 = .ok (.iconst 4, 1) := by decide +kernel
theorem dX6_finds_33 : decode cX6_finds 33 = .ok (.if_icmp .gt 32, 3) := by decide +kernel
theorem dX6_finds_36 : decode cX6_finds 36 = .ok (.iload_n 3, 1) := by decide +kernel
theorem dX6_finds_37 : decode cX6_finds 37 = .ok (.iload 4, 2) := by decide +kernel
theorem dX6_finds_39 : decode cX6_finds 39 = .ok (.iload 5, 2) := by decide +kernel
theorem dX6_finds_41 : decode cX6_finds 41 = .ok (.iload_n 2, 1) := by decide +kernel
theorem dX6_finds_42 : decode cX6_finds 42 = .ok (.invokestatic 200, 3) := by decide +kernel
theorem dX6_finds_45 : decode cX6_finds 45 = .ok (.ifCond .eq 14, 3) := by decide +kernel
theorem dX6_finds_48 : decode cX6_finds 48 = .ok (.aload_n 0, 1) := by decide +kernel
theorem dX6_finds_49 : decode cX6_finds 49 = .ok (.iload_n 1, 1) := by decide +kernel
theorem dX6_finds_50 : decode cX6_finds 50 = .ok (.iload_n 3, 1) := by decide +kernel
theorem dX6_finds_51 : decode cX6_finds 51 = .ok (.iload 4, 2) := by decide +kernel
theorem dX6_finds_53 : decode cX6_finds 53 = .ok (.iload 5, 2) := by decide +kernel
theorem dX6_finds_55 : decode cX6_finds 55 = .ok (.iload_n 2, 1) := by decide +kernel
theorem dX6_finds_56 : decode cX6_finds 56 = .ok (.invokevirtual 204, 3) := by decide +kernel
theorem dX6_finds_59 : decode cX6_finds 59 = .ok (.iinc 5 1, 3) := by decide +kernel
theorem dX6_finds_62 : decode cX6_finds 62 = .ok (.goto (-32), 3) := by decide +kernel
theorem dX6_finds_65 : decode cX6_finds 65 = .ok (.iinc 4 1, 3) := by decide +kernel
theorem dX6_finds_68 : decode cX6_finds 68 = .ok (.goto (-47), 3) := by decide +kernel
theorem dX6_finds_71 : decode cX6_finds 71 = .ok (.iinc 3 1, 3) := by decide +kernel
theorem dX6_finds_74 : decode cX6_finds 74 = .ok (.goto (-61), 3) := by decide +kernel
theorem dX6_finds_77 : decode cX6_finds 77 = .ok (.aload_n 0, 1) := by decide +kernel
theorem dX6_finds_78 : decode cX6_finds 78 = .ok (.getfield 187, 3) := by decide +kernel
theorem dX6_finds_81 : decode cX6_finds 81 = .ok (.ifCond .le 7, 3) := by decide +kernel
theorem dX6_finds_84 : decode cX6_finds 84 = .ok (.iconst 1, 1) := by decide +kernel
theorem dX6_finds_85 : decode cX6_finds 85 = .ok (.goto 4, 3) := by decide +kernel
theorem dX6_finds_88 : decode cX6_finds 88 = .ok (.iconst 0, 1) := by decide +kernel
theorem dX6_finds_89 : decode cX6_finds 89 = .ok (.ireturn, 1) := by decide +kernel
set_option maxRecDepth 20000 in
theorem ggX6_path_X6_isChannel : GoodIn wsX6_path wsX6_isChannel := goodIn_r _ [7, 8, 9, 6, 10] (by decide +kernel) (by decide +kernel)
set_option maxRecDepth 20000 in
theorem gX6_path_X6_isChannel : GoodIn wsX6_path (va_wsS RX6 84 yX6_isChannel wsX6_isChannel) := goodIn_app (goodIn_of _ (by decide +kernel)) ggX6_path_X6_isChannel
set_option maxRecDepth 20000 in
theorem ggX6_path_X6_isFour : GoodIn wsX6_path wsX6_isFour := goodIn_r _ [13, 8, 9, 6, 10] (by decide +kernel) (by decide +kernel)
set_option maxRecDepth 20000 in
theorem gX6_path_X6_isFour : GoodIn wsX6_path (va_wsS RX6 97 yX6_isFour wsX6_isFour) := goodIn_app (goodIn_of _ (by decide +kernel)) ggX6_path_X6_isFour
set_option maxRecDepth 20000 in
theorem ggX6_path_X6_finds : GoodIn wsX6_path wsX6_finds := goodIn_r _ [17, 2, 18, 19, 20, 6, 21, 22, 23, 24, 25, 26, 27, 28, 3, 29, 30, 31, 32, 33, 34, 35, 36, 37, 38, 39, 40, 41, 42, 43, 44, 45, 46, 47, 48, 49, 50, 51, 52, 53, 54, 55, 56, 57, 58, 59, 60, 61, 62, 63, 64, 65, 66, 67, 68, 69, 70, 71, 72, 73, 74, 75, 76, 77, 78, 79, 80, 81, 82] (by decide +kernel) (by decide +kernel)
set_option maxRecDepth 20000 in
theorem gX6_path_X6_finds : GoodIn wsX6_path (wsV RX6 208 RX6 yX6_finds wsX6_finds) := goodIn_app (goodIn_of _ (by decide +kernel)) ggX6_path_X6_finds
theorem dX6_path_0 : decode cX6_path 0 = .ok (.aload_n 0, 1) := by decide +kernel
theorem dX6_path_1 : decode cX6_path 1 = .ok (.iconst 0, 1) := by decide +kernel
theorem dX6_path_2 : decode cX6_path 2 = .ok (.putfield 28, 3) := by decide +kernel
theorem dX6_path_5 : decode cX6_path 5 = .ok (.iload_n 1, 1) := by decide +kernel
theorem dX6_path_6 : decode cX6_path 6 = .ok (.invokestatic 84, 3) := by decide +kernel
theorem dX6_path_9 : decode cX6_path 9 = .ok (.ifCond .eq 15, 3) := by decide +kernel
theorem dX6_path_12 : decode cX6_path 12 = .ok (.iload_n 2, 1) := by decide +kernel
theorem dX6_path_13 : decode cX6_path 13 = .ok (.invokestatic 97, 3) := by decide +kernel
theorem dX6_path_16 : decode cX6_path 16 = .ok (.ifCond .eq 8, 3) := by decide +kernel
theorem dX6_path_19 : decode cX6_path 19 = .ok (.iload_n 3, 1) := by decide +kernel
theorem dX6_path_20 : decode cX6_path 20 = .ok (.iconst (-1), 1) := by decide +kernel
theorem dX6_path_21 : decode cX6_path 21 = .ok (.if_icmp .ge 5, 3) := by decide +kernel
theorem dX6_path_24 : decode cX6_path 24 = .ok (.iconst (-1), 1) := by decide +kernel
theorem dX6_path_25 : decode cX6_path 25 = .ok (.ireturn, 1) := by decide +kernel
theorem dX6_path_26 : decode cX6_path 26 = .ok (.aload_n 0, 1) := by decide +kernel
theorem dX6_path_27 : decode cX6_path 27 = .ok (.iload_n 1, 1) := by decide +kernel
theorem dX6_path_28 : decode cX6_path 28 = .ok (.iload_n 2, 1) := by decide +kernel
theorem dX6_path_29 : decode cX6_path 29 = .ok (.invokevirtual 208, 3) := by decide +kernel
theorem dX6_path_32 : decode cX6_path 32 = .ok (.ifCond .eq 11, 3) := by decide +kernel
theorem dX6_path_35 : decode cX6_path 35 = .ok (.iload_n 3, 1) := by decide +kernel
theorem dX6_path_36 : decode cX6_path 36 = .ok (.aload_n 0, 1) := by decide +kernel
theorem dX6_path_37 : decode cX6_path 37 = .ok (.getfield 187, 3) := by decide +kernel
theorem dX6_path_40 : decode cX6_path 40 = .ok (.if_icmp .lt 6, 3) := by decide +kernel
theorem dX6_path_43 : decode cX6_path 43 = .ok (.bipush (-99), 2) := by decide +kernel
theorem dX6_path_45 : decode cX6_path 45 = .ok (.ireturn, 1) := by decide +kernel
theorem dX6_path_46 : decode cX6_path 46 = .ok (.iload_n 3, 1) := by decide +kernel
theorem dX6_path_47 : decode cX6_path 47 = .ok (.ifCond .ge 10, 3) := by decide +kernel
theorem dX6_path_50 : decode cX6_path 50 = .ok (.aload_n 0, 1) := by decide +kernel
theorem dX6_path_51 : decode cX6_path 51 = .ok (.getfield 187, 3) := by decide +kernel
theorem dX6_path_54 : decode cX6_path 54 = .ok (.goto 9, 3) := by decide +kernel
theorem dX6_path_57 : decode cX6_path 57 = .ok (.aload_n 0, 1) := by decide +kernel
theorem dX6_path_58 : decode cX6_path 58 = .ok (.getfield 25, 3) := by decide +kernel
theorem dX6_path_61 : decode cX6_path 61 = .ok (.iload_n 3, 1) := by decide +kernel
theorem dX6_path_62 : decode cX6_path 62 = .ok (.iaload, 1) := by decide +kernel
theorem dX6_path_63 : decode cX6_path 63 = .ok (.ireturn, 1) := by decide +kernel
set_option maxRecDepth 20000 in
theorem ggX6_loudest_X6_isChannel : GoodIn wsX6_loudest wsX6_isChannel := goodIn_r _ [6, 7, 8, 5, 9] (by decide +kernel) (by decide +kernel)
set_option maxRecDepth 20000 in
theorem gX6_loudest_X6_isChannel : GoodIn wsX6_loudest (va_wsS RX6 84 yX6_isChannel wsX6_isChannel) := goodIn_app (goodIn_of _ (by decide +kernel)) ggX6_loudest_X6_isChannel
set_option maxRecDepth 20000 in
theorem ggX6_loudest_X6_isFour : GoodIn wsX6_loudest wsX6_isFour := goodIn_r _ [12, 7, 8, 5, 9] (by decide +kernel) (by decide +kernel)
set_option maxRecDepth 20000 in
theorem gX6_loudest_X6_isFour : GoodIn wsX6_loudest (va_wsS RX6 97 yX6_isFour wsX6_isFour) := goodIn_app (goodIn_of _ (by decide +kernel)) ggX6_loudest_X6_isFour
set_option maxRecDepth 20000 in
theorem ggX6_loudest_X6_finds : GoodIn wsX6_loudest wsX6_finds := goodIn_r _ [16, 17, 2, 18, 19, 5, 20, 21, 22, 23, 24, 25, 26, 27, 28, 29, 30, 31, 32, 33, 34, 35, 36, 37, 38, 39, 40, 41, 42, 43, 44, 45, 46, 47, 48, 49, 50, 51, 52, 53, 54, 55, 56, 57, 58, 59, 60, 61, 62, 63, 64, 65, 66, 67, 68, 69, 70, 71, 72, 73, 74, 75, 76, 77, 78, 79, 80, 81, 82] (by decide +kernel) (by decide +kernel)
set_option maxRecDepth 20000 in
theorem gX6_loudest_X6_finds : GoodIn wsX6_loudest (wsV RX6 208 RX6 yX6_finds wsX6_finds) := goodIn_app (goodIn_of _ (by decide +kernel)) ggX6_loudest_X6_finds
theorem dX6_loudest_0 : decode cX6_loudest 0 = .ok (.aload_n 0, 1) := by decide +kernel
theorem dX6_loudest_1 : decode cX6_loudest 1 = .ok (.iconst 0, 1) := by decide +kernel
theorem dX6_loudest_2 : decode cX6_loudest 2 = .ok (.putfield 28, 3) := by decide +kernel
theorem dX6_loudest_5 : decode cX6_loudest 5 = .ok (.iload_n 1, 1) := by decide +kernel
theorem dX6_loudest_6 : decode cX6_loudest 6 = .ok (.invokestatic 84, 3) := by decide +kernel
theorem dX6_loudest_9 : decode cX6_loudest 9 = .ok (.ifCond .eq 10, 3) := by decide +kernel
theorem dX6_loudest_12 : decode cX6_loudest 12 = .ok (.iload_n 2, 1) := by decide +kernel
theorem dX6_loudest_13 : decode cX6_loudest 13 = .ok (.invokestatic 97, 3) := by decide +kernel
theorem dX6_loudest_16 : decode cX6_loudest 16 = .ok (.ifCond .ne 5, 3) := by decide +kernel
theorem dX6_loudest_19 : decode cX6_loudest 19 = .ok (.iconst (-1), 1) := by decide +kernel
theorem dX6_loudest_20 : decode cX6_loudest 20 = .ok (.ireturn, 1) := by decide +kernel
theorem dX6_loudest_21 : decode cX6_loudest 21 = .ok (.aload_n 0, 1) := by decide +kernel
theorem dX6_loudest_22 : decode cX6_loudest 22 = .ok (.iload_n 1, 1) := by decide +kernel
theorem dX6_loudest_23 : decode cX6_loudest 23 = .ok (.iload_n 2, 1) := by decide +kernel
theorem dX6_loudest_24 : decode cX6_loudest 24 = .ok (.invokevirtual 208, 3) := by decide +kernel
theorem dX6_loudest_27 : decode cX6_loudest 27 = .ok (.ifCond .eq 10, 3) := by decide +kernel
theorem dX6_loudest_30 : decode cX6_loudest 30 = .ok (.aload_n 0, 1) := by decide +kernel
theorem dX6_loudest_31 : decode cX6_loudest 31 = .ok (.getfield 194, 3) := by decide +kernel
theorem dX6_loudest_34 : decode cX6_loudest 34 = .ok (.goto 5, 3) := by decide +kernel
theorem dX6_loudest_37 : decode cX6_loudest 37 = .ok (.bipush (-99), 2) := by decide +kernel
theorem dX6_loudest_39 : decode cX6_loudest 39 = .ok (.ireturn, 1) := by decide +kernel
set_option maxRecDepth 20000 in
theorem ggX6_loops_X6_finds : GoodIn wsX6_loops wsX6_finds := goodIn_r _ [7, 8, 9, 10, 11, 6, 12, 13, 14, 15, 16, 17, 18, 19, 20, 21, 22, 23, 24, 2, 25, 26, 27, 28, 29, 30, 31, 32, 33, 34, 35, 36, 37, 38, 39, 40, 41, 42, 43, 44, 45, 46, 47, 48, 49, 50, 51, 52, 53, 54, 55, 56, 57, 58, 59, 60, 61, 62, 63, 64, 65, 66, 67, 68, 69, 70, 71, 72, 73] (by decide +kernel) (by decide +kernel)
set_option maxRecDepth 20000 in
theorem gX6_loops_X6_finds : GoodIn wsX6_loops (wsV RX6 208 RX6 yX6_finds wsX6_finds) := goodIn_app (goodIn_of _ (by decide +kernel)) ggX6_loops_X6_finds
theorem dX6_loops_0 : decode cX6_loops 0 = .ok (.aload_n 0, 1) := by decide +kernel
theorem dX6_loops_1 : decode cX6_loops 1 = .ok (.iconst 0, 1) := by decide +kernel
theorem dX6_loops_2 : decode cX6_loops 2 = .ok (.putfield 28, 3) := by decide +kernel
theorem dX6_loops_5 : decode cX6_loops 5 = .ok (.iconst 0, 1) := by decide +kernel
theorem dX6_loops_6 : decode cX6_loops 6 = .ok (.istore_n 1, 1) := by decide +kernel
theorem dX6_loops_7 : decode cX6_loops 7 = .ok (.iconst 0, 1) := by decide +kernel
theorem dX6_loops_8 : decode cX6_loops 8 = .ok (.istore_n 2, 1) := by decide +kernel
theorem dX6_loops_9 : decode cX6_loops 9 = .ok (.iload_n 2, 1) := by decide +kernel
theorem dX6_loops_10 : decode cX6_loops 10 = .ok (.iconst 4, 1) := by decide +kernel
theorem dX6_loops_11 : decode cX6_loops 11 = .ok (.if_icmp .ge 49, 3) := by decide +kernel
theorem dX6_loops_14 : decode cX6_loops 14 = .ok (.iload_n 1, 1) := by decide +kernel
theorem dX6_loops_15 : decode cX6_loops 15 = .ok (.aload_n 0, 1) := by decide +kernel
theorem dX6_loops_16 : decode cX6_loops 16 = .ok (.getfield 7, 3) := by decide +kernel
theorem dX6_loops_19 : decode cX6_loops 19 = .ok (.bipush 84, 2) := by decide +kernel
theorem dX6_loops_21 : decode cX6_loops 21 = .ok (.iload_n 2, 1) := by decide +kernel
theorem dX6_loops_22 : decode cX6_loops 22 = .ok (.iadd, 1) := by decide +kernel
theorem dX6_loops_23 : decode cX6_loops 23 = .ok (.iaload, 1) := by decide +kernel
theorem dX6_loops_24 : decode cX6_loops 24 = .ok (.iconst (-1), 1) := by decide +kernel
theorem dX6_loops_25 : decode cX6_loops 25 = .ok (.if_icmp .eq 26, 3) := by decide +kernel
theorem dX6_loops_28 : decode cX6_loops 28 = .ok (.aload_n 0, 1) := by decide +kernel
theorem dX6_loops_29 : decode cX6_loops 29 = .ok (.aload_n 0, 1) := by decide +kernel
theorem dX6_loops_30 : decode cX6_loops 30 = .ok (.getfield 7, 3) := by decide +kernel
theorem dX6_loops_33 : decode cX6_loops 33 = .ok (.bipush 84, 2) := by decide +kernel
theorem dX6_loops_35 : decode cX6_loops 35 = .ok (.iload_n 2, 1) := by decide +kernel
theorem dX6_loops_36 : decode cX6_loops 36 = .ok (.iadd, 1) := by decide +kernel
theorem dX6_loops_37 : decode cX6_loops 37 = .ok (.iaload, 1) := by decide +kernel
theorem dX6_loops_38 : decode cX6_loops 38 = .ok (.iload_n 2, 1) := by decide +kernel
theorem dX6_loops_39 : decode cX6_loops 39 = .ok (.invokevirtual 208, 3) := by decide +kernel
theorem dX6_loops_42 : decode cX6_loops 42 = .ok (.ifCond .eq 9, 3) := by decide +kernel
theorem dX6_loops_45 : decode cX6_loops 45 = .ok (.iconst 1, 1) := by decide +kernel
theorem dX6_loops_46 : decode cX6_loops 46 = .ok (.iload_n 2, 1) := by decide +kernel
theorem dX6_loops_47 : decode cX6_loops 47 = .ok (.ishl, 1) := by decide +kernel
theorem dX6_loops_48 : decode cX6_loops 48 = .ok (.goto 4, 3) := by decide +kernel
theorem dX6_loops_51 : decode cX6_loops 51 = .ok (.iconst 0, 1) := by decide +kernel
theorem dX6_loops_52 : decode cX6_loops 52 = .ok (.ior, 1) := by decide +kernel
theorem dX6_loops_53 : decode cX6_loops 53 = .ok (.istore_n 1, 1) := by decide +kernel
theorem dX6_loops_54 : decode cX6_loops 54 = .ok (.iinc 2 1, 3) := by decide +kernel
theorem dX6_loops_57 : decode cX6_loops 57 = .ok (.goto (-48), 3) := by decide +kernel
theorem dX6_loops_60 : decode cX6_loops 60 = .ok (.iload_n 1, 1) := by decide +kernel
theorem dX6_loops_61 : decode cX6_loops 61 = .ok (.ireturn, 1) := by decide +kernel
set_option maxRecDepth 20000 in
theorem ggX6_hearersOf_X6_has : GoodIn wsX6_hearersOf wsX6_has := goodIn_r _ [5] (by decide +kernel) (by decide +kernel)
set_option maxRecDepth 20000 in
theorem gX6_hearersOf_X6_has : GoodIn wsX6_hearersOf (va_wsS RX6 51 yX6_has wsX6_has) := goodIn_app (goodIn_of _ (by decide +kernel)) ggX6_hearersOf_X6_has
set_option maxRecDepth 20000 in
theorem ggX6_hearersOf_X6_finds : GoodIn wsX6_hearersOf wsX6_finds := goodIn_r _ [9, 10, 11, 12, 13, 4, 14, 15, 16, 17, 18, 19, 20, 21, 22, 23, 24, 25, 26, 1, 27, 28, 29, 30, 2, 3, 5, 31, 32, 33, 34, 35, 36, 37, 38, 39, 40, 41, 42, 43, 44, 45, 46, 47, 48, 49, 50, 51, 52, 53, 54, 55, 56, 57, 58, 59, 60, 61, 62, 63, 64, 65, 66, 67, 68, 69, 70, 71, 72] (by decide +kernel) (by decide +kernel)
set_option maxRecDepth 20000 in
theorem gX6_hearersOf_X6_finds : GoodIn wsX6_hearersOf (wsV RX6 208 RX6 yX6_finds wsX6_finds) := goodIn_app (goodIn_of _ (by decide +kernel)) ggX6_hearersOf_X6_finds
theorem dX6_hearersOf_0 : decode cX6_hearersOf 0 = .ok (.iconst 0, 1) := by decide +kernel
theorem dX6_hearersOf_1 : decode cX6_hearersOf 1 = .ok (.istore_n 2, 1) := by decide +kernel
theorem dX6_hearersOf_2 : decode cX6_hearersOf 2 = .ok (.iconst 0, 1) := by decide +kernel
theorem dX6_hearersOf_3 : decode cX6_hearersOf 3 = .ok (.istore_n 3, 1) := by decide +kernel
theorem dX6_hearersOf_4 : decode cX6_hearersOf 4 = .ok (.iload_n 3, 1) := by decide +kernel
theorem dX6_hearersOf_5 : decode cX6_hearersOf 5 = .ok (.bipush 12, 2) := by decide +kernel
theorem dX6_hearersOf_7 : decode cX6_hearersOf 7 = .ok (.if_icmp .ge 44, 3) := by decide +kernel
theorem dX6_hearersOf_10 : decode cX6_hearersOf 10 = .ok (.iload_n 2, 1) := by decide +kernel
theorem dX6_hearersOf_11 : decode cX6_hearersOf 11 = .ok (.aload_n 0, 1) := by decide +kernel
theorem dX6_hearersOf_12 : decode cX6_hearersOf 12 = .ok (.getfield 7, 3) := by decide +kernel
theorem dX6_hearersOf_15 : decode cX6_hearersOf 15 = .ok (.bipush 80, 2) := by decide +kernel
theorem dX6_hearersOf_17 : decode cX6_hearersOf 17 = .ok (.iload_n 1, 1) := by decide +kernel
theorem dX6_hearersOf_18 : decode cX6_hearersOf 18 = .ok (.iadd, 1) := by decide +kernel
theorem dX6_hearersOf_19 : decode cX6_hearersOf 19 = .ok (.iaload, 1) := by decide +kernel
theorem dX6_hearersOf_20 : decode cX6_hearersOf 20 = .ok (.iload_n 3, 1) := by decide +kernel
theorem dX6_hearersOf_21 : decode cX6_hearersOf 21 = .ok (.invokestatic 51, 3) := by decide +kernel
theorem dX6_hearersOf_24 : decode cX6_hearersOf 24 = .ok (.ifCond .eq 18, 3) := by decide +kernel
theorem dX6_hearersOf_27 : decode cX6_hearersOf 27 = .ok (.aload_n 0, 1) := by decide +kernel
theorem dX6_hearersOf_28 : decode cX6_hearersOf 28 = .ok (.iload_n 3, 1) := by decide +kernel
theorem dX6_hearersOf_29 : decode cX6_hearersOf 29 = .ok (.iload_n 1, 1) := by decide +kernel
theorem dX6_hearersOf_30 : decode cX6_hearersOf 30 = .ok (.invokevirtual 208, 3) := by decide +kernel
theorem dX6_hearersOf_33 : decode cX6_hearersOf 33 = .ok (.ifCond .eq 9, 3) := by decide +kernel
theorem dX6_hearersOf_36 : decode cX6_hearersOf 36 = .ok (.iconst 1, 1) := by decide +kernel
theorem dX6_hearersOf_37 : decode cX6_hearersOf 37 = .ok (.iload_n 3, 1) := by decide +kernel
theorem dX6_hearersOf_38 : decode cX6_hearersOf 38 = .ok (.ishl, 1) := by decide +kernel
theorem dX6_hearersOf_39 : decode cX6_hearersOf 39 = .ok (.goto 4, 3) := by decide +kernel
theorem dX6_hearersOf_42 : decode cX6_hearersOf 42 = .ok (.iconst 0, 1) := by decide +kernel
theorem dX6_hearersOf_43 : decode cX6_hearersOf 43 = .ok (.ior, 1) := by decide +kernel
theorem dX6_hearersOf_44 : decode cX6_hearersOf 44 = .ok (.istore_n 2, 1) := by decide +kernel
theorem dX6_hearersOf_45 : decode cX6_hearersOf 45 = .ok (.iinc 3 1, 3) := by decide +kernel
theorem dX6_hearersOf_48 : decode cX6_hearersOf 48 = .ok (.goto (-44), 3) := by decide +kernel
theorem dX6_hearersOf_51 : decode cX6_hearersOf 51 = .ok (.iload_n 2, 1) := by decide +kernel
theorem dX6_hearersOf_52 : decode cX6_hearersOf 52 = .ok (.ireturn, 1) := by decide +kernel
set_option maxRecDepth 20000 in
theorem ggX6_hearers_X6_isFour : GoodIn wsX6_hearers wsX6_isFour := goodIn_r _ [5, 6, 7, 4, 8] (by decide +kernel) (by decide +kernel)
set_option maxRecDepth 20000 in
theorem gX6_hearers_X6_isFour : GoodIn wsX6_hearers (va_wsS RX6 97 yX6_isFour wsX6_isFour) := goodIn_app (goodIn_of _ (by decide +kernel)) ggX6_hearers_X6_isFour
set_option maxRecDepth 20000 in
theorem ggX6_hearers_X6_hearersOf : GoodIn wsX6_hearers wsX6_hearersOf := goodIn_r _ [12, 13, 14, 15, 4, 16, 17, 18, 19, 20, 21, 22, 23, 24, 25, 26, 27, 28, 29, 30, 31, 32, 33, 34, 35, 36, 37, 38, 39, 40, 41, 42, 43, 44, 45, 46, 47, 48, 49, 50, 51, 52, 53, 54, 55, 56, 57, 58, 59, 60, 61, 62, 63, 64, 65, 66, 67, 68, 69, 70, 71, 72, 73, 74, 75, 76, 77, 78, 79, 80, 81, 82, 83] (by decide +kernel) (by decide +kernel)
set_option maxRecDepth 20000 in
theorem gX6_hearers_X6_hearersOf : GoodIn wsX6_hearers (wsV RX6 211 RX6 yX6_hearersOf wsX6_hearersOf) := goodIn_app (goodIn_of _ (by decide +kernel)) ggX6_hearers_X6_hearersOf
theorem dX6_hearers_0 : decode cX6_hearers 0 = .ok (.aload_n 0, 1) := by decide +kernel
theorem dX6_hearers_1 : decode cX6_hearers 1 = .ok (.iconst 0, 1) := by decide +kernel
theorem dX6_hearers_2 : decode cX6_hearers 2 = .ok (.putfield 28, 3) := by decide +kernel
theorem dX6_hearers_5 : decode cX6_hearers 5 = .ok (.iload_n 1, 1) := by decide +kernel
theorem dX6_hearers_6 : decode cX6_hearers 6 = .ok (.invokestatic 97, 3) := by decide +kernel
theorem dX6_hearers_9 : decode cX6_hearers 9 = .ok (.ifCond .eq 11, 3) := by decide +kernel
theorem dX6_hearers_12 : decode cX6_hearers 12 = .ok (.aload_n 0, 1) := by decide +kernel
theorem dX6_hearers_13 : decode cX6_hearers 13 = .ok (.iload_n 1, 1) := by decide +kernel
theorem dX6_hearers_14 : decode cX6_hearers 14 = .ok (.invokevirtual 211, 3) := by decide +kernel
theorem dX6_hearers_17 : decode cX6_hearers 17 = .ok (.goto 4, 3) := by decide +kernel
theorem dX6_hearers_20 : decode cX6_hearers 20 = .ok (.iconst (-1), 1) := by decide +kernel
theorem dX6_hearers_21 : decode cX6_hearers 21 = .ok (.ireturn, 1) := by decide +kernel
set_option maxRecDepth 20000 in
theorem ggX6_outputIn_X6_isFour : GoodIn wsX6_outputIn wsX6_isFour := goodIn_r _ [6, 7, 8, 5, 9] (by decide +kernel) (by decide +kernel)
set_option maxRecDepth 20000 in
theorem gX6_outputIn_X6_isFour : GoodIn wsX6_outputIn (va_wsS RX6 97 yX6_isFour wsX6_isFour) := goodIn_app (goodIn_of _ (by decide +kernel)) ggX6_outputIn_X6_isFour
set_option maxRecDepth 20000 in
theorem ggX6_outputIn_X6_in : GoodIn wsX6_outputIn wsX6_in := goodIn_r _ [9] (by decide +kernel) (by decide +kernel)
set_option maxRecDepth 20000 in
theorem gX6_outputIn_X6_in : GoodIn wsX6_outputIn (va_wsS RX6 35 yX6_in wsX6_in) := goodIn_app (goodIn_of _ (by decide +kernel)) ggX6_outputIn_X6_in
set_option maxRecDepth 20000 in
theorem ggX6_outputIn_X6_hold : GoodIn wsX6_outputIn wsX6_hold := goodIn_r _ [13, 14, 2, 72, 73, 74, 75, 76, 77, 78, 79, 80, 81, 82, 83, 84, 85, 86] (by decide +kernel) (by decide +kernel)
set_option maxRecDepth 20000 in
theorem gX6_outputIn_X6_hold : GoodIn wsX6_outputIn (wsV RX6 160 RX6 yX6_hold wsX6_hold) := goodIn_app (goodIn_of _ (by decide +kernel)) ggX6_outputIn_X6_hold
set_option maxRecDepth 20000 in
theorem ggX6_outputIn_X6_tick : GoodIn wsX6_outputIn wsX6_tick := goodIn_r _ [18, 2, 19, 20, 21, 5, 22, 23, 24, 25, 26, 27, 28, 29, 30, 31, 32, 33, 34, 35, 36, 37, 38, 39, 40, 41, 42, 43, 44, 45, 46, 47, 48, 49, 50, 51, 52, 53, 54, 55, 56, 57, 58, 59, 60, 61, 62, 63, 64, 65, 66, 67, 72, 73, 74, 75, 76, 77, 78, 79, 80, 81, 82, 83, 84, 85, 86] (by decide +kernel) (by decide +kernel)
set_option maxRecDepth 20000 in
theorem gX6_outputIn_X6_tick : GoodIn wsX6_outputIn (wsV RX6 119 RX6 yX6_tick wsX6_tick) := goodIn_app (goodIn_of _ (by decide +kernel)) ggX6_outputIn_X6_tick
set_option maxRecDepth 20000 in
theorem ggX6_outputIn_X6_release : GoodIn wsX6_outputIn wsX6_release := goodIn_r _ [71, 2, 14, 72, 73, 74, 75, 76, 77, 78, 79, 80, 81, 82, 83, 84, 85, 86] (by decide +kernel) (by decide +kernel)
set_option maxRecDepth 20000 in
theorem gX6_outputIn_X6_release : GoodIn wsX6_outputIn (wsV RX6 214 RX6 yX6_release wsX6_release) := goodIn_app (goodIn_of _ (by decide +kernel)) ggX6_outputIn_X6_release
theorem dX6_outputIn_0 : decode cX6_outputIn 0 = .ok (.aload_n 0, 1) := by decide +kernel
theorem dX6_outputIn_1 : decode cX6_outputIn 1 = .ok (.iconst 0, 1) := by decide +kernel
theorem dX6_outputIn_2 : decode cX6_outputIn 2 = .ok (.putfield 28, 3) := by decide +kernel
theorem dX6_outputIn_5 : decode cX6_outputIn 5 = .ok (.iload_n 1, 1) := by decide +kernel
theorem dX6_outputIn_6 : decode cX6_outputIn 6 = .ok (.invokestatic 97, 3) := by decide +kernel
theorem dX6_outputIn_9 : decode cX6_outputIn 9 = .ok (.ifCond .eq 13, 3) := by decide +kernel
theorem dX6_outputIn_12 : decode cX6_outputIn 12 = .ok (.iload_n 2, 1) := by decide +kernel
theorem dX6_outputIn_13 : decode cX6_outputIn 13 = .ok (.iconst 0, 1) := by decide +kernel
theorem dX6_outputIn_14 : decode cX6_outputIn 14 = .ok (.bipush 100, 2) := by decide +kernel
theorem dX6_outputIn_16 : decode cX6_outputIn 16 = .ok (.invokestatic 35, 3) := by decide +kernel
theorem dX6_outputIn_19 : decode cX6_outputIn 19 = .ok (.ifCond .ne 5, 3) := by decide +kernel
theorem dX6_outputIn_22 : decode cX6_outputIn 22 = .ok (.iconst (-1), 1) := by decide +kernel
theorem dX6_outputIn_23 : decode cX6_outputIn 23 = .ok (.ireturn, 1) := by decide +kernel
theorem dX6_outputIn_24 : decode cX6_outputIn 24 = .ok (.aload_n 0, 1) := by decide +kernel
theorem dX6_outputIn_25 : decode cX6_outputIn 25 = .ok (.invokevirtual 160, 3) := by decide +kernel
theorem dX6_outputIn_28 : decode cX6_outputIn 28 = .ok (.iconst 0, 1) := by decide +kernel
theorem dX6_outputIn_29 : decode cX6_outputIn 29 = .ok (.istore_n 3, 1) := by decide +kernel
theorem dX6_outputIn_30 : decode cX6_outputIn 30 = .ok (.iload_n 3, 1) := by decide +kernel
theorem dX6_outputIn_31 : decode cX6_outputIn 31 = .ok (.iload_n 2, 1) := by decide +kernel
theorem dX6_outputIn_32 : decode cX6_outputIn 32 = .ok (.if_icmp .ge 13, 3) := by decide +kernel
theorem dX6_outputIn_35 : decode cX6_outputIn 35 = .ok (.aload_n 0, 1) := by decide +kernel
theorem dX6_outputIn_36 : decode cX6_outputIn 36 = .ok (.invokevirtual 119, 3) := by decide +kernel
theorem dX6_outputIn_39 : decode cX6_outputIn 39 = .ok (.iinc 3 1, 3) := by decide +kernel
theorem dX6_outputIn_42 : decode cX6_outputIn 42 = .ok (.goto (-12), 3) := by decide +kernel
theorem dX6_outputIn_45 : decode cX6_outputIn 45 = .ok (.aload_n 0, 1) := by decide +kernel
theorem dX6_outputIn_46 : decode cX6_outputIn 46 = .ok (.getfield 7, 3) := by decide +kernel
theorem dX6_outputIn_49 : decode cX6_outputIn 49 = .ok (.sipush 136, 3) := by decide +kernel
theorem dX6_outputIn_52 : decode cX6_outputIn 52 = .ok (.iload_n 1, 1) := by decide +kernel
theorem dX6_outputIn_53 : decode cX6_outputIn 53 = .ok (.iadd, 1) := by decide +kernel
theorem dX6_outputIn_54 : decode cX6_outputIn 54 = .ok (.iaload, 1) := by decide +kernel
theorem dX6_outputIn_55 : decode cX6_outputIn 55 = .ok (.istore_n 3, 1) := by decide +kernel
theorem dX6_outputIn_56 : decode cX6_outputIn 56 = .ok (.aload_n 0, 1) := by decide +kernel
theorem dX6_outputIn_57 : decode cX6_outputIn 57 = .ok (.invokevirtual 214, 3) := by decide +kernel
theorem dX6_outputIn_60 : decode cX6_outputIn 60 = .ok (.iload_n 3, 1) := by decide +kernel
theorem dX6_outputIn_61 : decode cX6_outputIn 61 = .ok (.ireturn, 1) := by decide +kernel
set_option maxRecDepth 20000 in
theorem ggX6_cut_X6_isFour : GoodIn wsX6_cut wsX6_isFour := goodIn_r _ [6, 7, 8, 5, 9] (by decide +kernel) (by decide +kernel)
set_option maxRecDepth 20000 in
theorem gX6_cut_X6_isFour : GoodIn wsX6_cut (va_wsS RX6 97 yX6_isFour wsX6_isFour) := goodIn_app (goodIn_of _ (by decide +kernel)) ggX6_cut_X6_isFour
set_option maxRecDepth 20000 in
theorem ggX6_cut_X6_hearersOf : GoodIn wsX6_cut wsX6_hearersOf := goodIn_r _ [13, 2, 14, 15, 5, 16, 17, 18, 19, 20, 21, 22, 23, 24, 25, 26, 27, 28, 29, 30, 31, 32, 33, 34, 35, 36, 37, 38, 39, 40, 41, 42, 43, 44, 45, 46, 47, 48, 49, 50, 51, 52, 53, 54, 55, 56, 57, 58, 59, 60, 61, 62, 63, 64, 65, 66, 67, 68, 69, 70, 71, 72, 73, 74, 75, 76, 77, 78, 79, 80, 81, 82, 83] (by decide +kernel) (by decide +kernel)
set_option maxRecDepth 20000 in
theorem gX6_cut_X6_hearersOf : GoodIn wsX6_cut (wsV RX6 211 RX6 yX6_hearersOf wsX6_hearersOf) := goodIn_app (goodIn_of _ (by decide +kernel)) ggX6_cut_X6_hearersOf
theorem dX6_cut_0 : decode cX6_cut 0 = .ok (.aload_n 0, 1) := by decide +kernel
theorem dX6_cut_1 : decode cX6_cut 1 = .ok (.iconst 0, 1) := by decide +kernel
theorem dX6_cut_2 : decode cX6_cut 2 = .ok (.putfield 28, 3) := by decide +kernel
theorem dX6_cut_5 : decode cX6_cut 5 = .ok (.iload_n 1, 1) := by decide +kernel
theorem dX6_cut_6 : decode cX6_cut 6 = .ok (.invokestatic 97, 3) := by decide +kernel
theorem dX6_cut_9 : decode cX6_cut 9 = .ok (.ifCond .ne 5, 3) := by decide +kernel
theorem dX6_cut_12 : decode cX6_cut 12 = .ok (.iconst (-1), 1) := by decide +kernel
theorem dX6_cut_13 : decode cX6_cut 13 = .ok (.ireturn, 1) := by decide +kernel
theorem dX6_cut_14 : decode cX6_cut 14 = .ok (.aload_n 0, 1) := by decide +kernel
theorem dX6_cut_15 : decode cX6_cut 15 = .ok (.iload_n 1, 1) := by decide +kernel
theorem dX6_cut_16 : decode cX6_cut 16 = .ok (.invokevirtual 211, 3) := by decide +kernel
theorem dX6_cut_19 : decode cX6_cut 19 = .ok (.ifCond .ne 6, 3) := by decide +kernel
theorem dX6_cut_22 : decode cX6_cut 22 = .ok (.bipush (-2), 2) := by decide +kernel
theorem dX6_cut_24 : decode cX6_cut 24 = .ok (.ireturn, 1) := by decide +kernel
theorem dX6_cut_25 : decode cX6_cut 25 = .ok (.iconst 0, 1) := by decide +kernel
theorem dX6_cut_26 : decode cX6_cut 26 = .ok (.istore_n 2, 1) := by decide +kernel
theorem dX6_cut_27 : decode cX6_cut 27 = .ok (.iload_n 2, 1) := by decide +kernel
theorem dX6_cut_28 : decode cX6_cut 28 = .ok (.bipush 48, 2) := by decide +kernel
theorem dX6_cut_30 : decode cX6_cut 30 = .ok (.if_icmp .ge 72, 3) := by decide +kernel
theorem dX6_cut_33 : decode cX6_cut 33 = .ok (.aload_n 0, 1) := by decide +kernel
theorem dX6_cut_34 : decode cX6_cut 34 = .ok (.getfield 7, 3) := by decide +kernel
theorem dX6_cut_37 : decode cX6_cut 37 = .ok (.bipush 88, 2) := by decide +kernel
theorem dX6_cut_39 : decode cX6_cut 39 = .ok (.iload_n 2, 1) := by decide +kernel
theorem dX6_cut_40 : decode cX6_cut 40 = .ok (.iadd, 1) := by decide +kernel
theorem dX6_cut_41 : decode cX6_cut 41 = .ok (.iaload, 1) := by decide +kernel
theorem dX6_cut_42 : decode cX6_cut 42 = .ok (.istore_n 3, 1) := by decide +kernel
theorem dX6_cut_43 : decode cX6_cut 43 = .ok (.aload_n 0, 1) := by decide +kernel
theorem dX6_cut_44 : decode cX6_cut 44 = .ok (.getfield 7, 3) := by decide +kernel
theorem dX6_cut_47 : decode cX6_cut 47 = .ok (.bipush 88, 2) := by decide +kernel
theorem dX6_cut_49 : decode cX6_cut 49 = .ok (.iload_n 2, 1) := by decide +kernel
theorem dX6_cut_50 : decode cX6_cut 50 = .ok (.iadd, 1) := by decide +kernel
theorem dX6_cut_51 : decode cX6_cut 51 = .ok (.iconst 0, 1) := by decide +kernel
theorem dX6_cut_52 : decode cX6_cut 52 = .ok (.iastore, 1) := by decide +kernel
theorem dX6_cut_53 : decode cX6_cut 53 = .ok (.aload_n 0, 1) := by decide +kernel
theorem dX6_cut_54 : decode cX6_cut 54 = .ok (.iload_n 1, 1) := by decide +kernel
theorem dX6_cut_55 : decode cX6_cut 55 = .ok (.invokevirtual 211, 3) := by decide +kernel
theorem dX6_cut_58 : decode cX6_cut 58 = .ok (.ifCond .ne 7, 3) := by decide +kernel
theorem dX6_cut_61 : decode cX6_cut 61 = .ok (.iconst 1, 1) := by decide +kernel
theorem dX6_cut_62 : decode cX6_cut 62 = .ok (.goto 4, 3) := by decide +kernel
theorem dX6_cut_65 : decode cX6_cut 65 = .ok (.iconst 0, 1) := by decide +kernel
theorem dX6_cut_66 : decode cX6_cut 66 = .ok (.istore 4, 2) := by decide +kernel
theorem dX6_cut_68 : decode cX6_cut 68 = .ok (.aload_n 0, 1) := by decide +kernel
theorem dX6_cut_69 : decode cX6_cut 69 = .ok (.getfield 7, 3) := by decide +kernel
theorem dX6_cut_72 : decode cX6_cut 72 = .ok (.bipush 88, 2) := by decide +kernel
theorem dX6_cut_74 : decode cX6_cut 74 = .ok (.iload_n 2, 1) := by decide +kernel
theorem dX6_cut_75 : decode cX6_cut 75 = .ok (.iadd, 1) := by decide +kernel
theorem dX6_cut_76 : decode cX6_cut 76 = .ok (.iload_n 3, 1) := by decide +kernel
theorem dX6_cut_77 : decode cX6_cut 77 = .ok (.iastore, 1) := by decide +kernel
theorem dX6_cut_78 : decode cX6_cut 78 = .ok (.iload 4, 2) := by decide +kernel
theorem dX6_cut_80 : decode cX6_cut 80 = .ok (.ifCond .eq 16, 3) := by decide +kernel
theorem dX6_cut_83 : decode cX6_cut 83 = .ok (.bipush 100, 2) := by decide +kernel
theorem dX6_cut_85 : decode cX6_cut 85 = .ok (.iload_n 2, 1) := by decide +kernel
theorem dX6_cut_86 : decode cX6_cut 86 = .ok (.bipush 12, 2) := by decide +kernel
theorem dX6_cut_88 : decode cX6_cut 88 = .ok (.idiv, 1) := by decide +kernel
theorem dX6_cut_89 : decode cX6_cut 89 = .ok (.imul, 1) := by decide +kernel
theorem dX6_cut_90 : decode cX6_cut 90 = .ok (.iload_n 2, 1) := by decide +kernel
theorem dX6_cut_91 : decode cX6_cut 91 = .ok (.bipush 12, 2) := by decide +kernel
theorem dX6_cut_93 : decode cX6_cut 93 = .ok (.irem, 1) := by decide +kernel
theorem dX6_cut_94 : decode cX6_cut 94 = .ok (.iadd, 1) := by decide +kernel
theorem dX6_cut_95 : decode cX6_cut 95 = .ok (.ireturn, 1) := by decide +kernel
theorem dX6_cut_96 : decode cX6_cut 96 = .ok (.iinc 2 1, 3) := by decide +kernel
theorem dX6_cut_99 : decode cX6_cut 99 = .ok (.goto (-72), 3) := by decide +kernel
theorem dX6_cut_102 : decode cX6_cut 102 = .ok (.bipush (-99), 2) := by decide +kernel
theorem dX6_cut_104 : decode cX6_cut 104 = .ok (.ireturn, 1) := by decide +kernel
