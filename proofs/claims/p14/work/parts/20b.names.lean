theorem dX6_init_0 : decode cX6_init 0 = .ok (.aload_n 0, 1) := by decide +kernel
theorem dX6_init_1 : decode cX6_init 1 = .ok (.invokespecial 1, 3) := by decide +kernel
theorem dX6_init_4 : decode cX6_init 4 = .ok (.aload_n 0, 1) := by decide +kernel
theorem dX6_init_5 : decode cX6_init 5 = .ok (.sipush 289, 3) := by decide +kernel
theorem dX6_init_8 : decode cX6_init 8 = .ok (.newarray .int, 2) := by decide +kernel
theorem dX6_init_10 : decode cX6_init 10 = .ok (.putfield 7, 3) := by decide +kernel
theorem dX6_init_13 : decode cX6_init 13 = .ok (.aload_n 0, 1) := by decide +kernel
theorem dX6_init_14 : decode cX6_init 14 = .ok (.sipush 289, 3) := by decide +kernel
theorem dX6_init_17 : decode cX6_init 17 = .ok (.newarray .int, 2) := by decide +kernel
theorem dX6_init_19 : decode cX6_init 19 = .ok (.putfield 13, 3) := by decide +kernel
theorem dX6_init_22 : decode cX6_init 22 = .ok (.aload_n 0, 1) := by decide +kernel
theorem dX6_init_23 : decode cX6_init 23 = .ok (.sipush 1445, 3) := by decide +kernel
theorem dX6_init_26 : decode cX6_init 26 = .ok (.newarray .int, 2) := by decide +kernel
theorem dX6_init_28 : decode cX6_init 28 = .ok (.putfield 16, 3) := by decide +kernel
theorem dX6_init_31 : decode cX6_init 31 = .ok (.aload_n 0, 1) := by decide +kernel
theorem dX6_init_32 : decode cX6_init 32 = .ok (.sipush 140, 3) := by decide +kernel
theorem dX6_init_35 : decode cX6_init 35 = .ok (.newarray .int, 2) := by decide +kernel
theorem dX6_init_37 : decode cX6_init 37 = .ok (.putfield 19, 3) := by decide +kernel
theorem dX6_init_40 : decode cX6_init 40 = .ok (.aload_n 0, 1) := by decide +kernel
theorem dX6_init_41 : decode cX6_init 41 = .ok (.iconst 4, 1) := by decide +kernel
theorem dX6_init_42 : decode cX6_init 42 = .ok (.newarray .int, 2) := by decide +kernel
theorem dX6_init_44 : decode cX6_init 44 = .ok (.putfield 22, 3) := by decide +kernel
theorem dX6_init_47 : decode cX6_init 47 = .ok (.aload_n 0, 1) := by decide +kernel
theorem dX6_init_48 : decode cX6_init 48 = .ok (.iconst 4, 1) := by decide +kernel
theorem dX6_init_49 : decode cX6_init 49 = .ok (.newarray .int, 2) := by decide +kernel
theorem dX6_init_51 : decode cX6_init 51 = .ok (.putfield 25, 3) := by decide +kernel
theorem dX6_init_54 : decode cX6_init 54 = .ok (.aload_n 0, 1) := by decide +kernel
theorem dX6_init_55 : decode cX6_init 55 = .ok (.iconst 0, 1) := by decide +kernel
theorem dX6_init_56 : decode cX6_init 56 = .ok (.putfield 28, 3) := by decide +kernel
theorem dX6_init_59 : decode cX6_init 59 = .ok (.iconst 0, 1) := by decide +kernel
theorem dX6_init_60 : decode cX6_init 60 = .ok (.istore_n 1, 1) := by decide +kernel
theorem dX6_init_61 : decode cX6_init 61 = .ok (.iload_n 1, 1) := by decide +kernel
theorem dX6_init_62 : decode cX6_init 62 = .ok (.iconst 4, 1) := by decide +kernel
theorem dX6_init_63 : decode cX6_init 63 = .ok (.if_icmp .ge 30, 3) := by decide +kernel
theorem dX6_init_66 : decode cX6_init 66 = .ok (.aload_n 0, 1) := by decide +kernel
theorem dX6_init_67 : decode cX6_init 67 = .ok (.getfield 7, 3) := by decide +kernel
theorem dX6_init_70 : decode cX6_init 70 = .ok (.bipush 72, 2) := by decide +kernel
theorem dX6_init_72 : decode cX6_init 72 = .ok (.iload_n 1, 1) := by decide +kernel
theorem dX6_init_73 : decode cX6_init 73 = .ok (.iadd, 1) := by decide +kernel
theorem dX6_init_74 : decode cX6_init 74 = .ok (.bipush 100, 2) := by decide +kernel
theorem dX6_init_76 : decode cX6_init 76 = .ok (.iastore, 1) := by decide +kernel
theorem dX6_init_77 : decode cX6_init 77 = .ok (.aload_n 0, 1) := by decide +kernel
theorem dX6_init_78 : decode cX6_init 78 = .ok (.getfield 7, 3) := by decide +kernel
theorem dX6_init_81 : decode cX6_init 81 = .ok (.bipush 84, 2) := by decide +kernel
theorem dX6_init_83 : decode cX6_init 83 = .ok (.iload_n 1, 1) := by decide +kernel
theorem dX6_init_84 : decode cX6_init 84 = .ok (.iadd, 1) := by decide +kernel
theorem dX6_init_85 : decode cX6_init 85 = .ok (.iconst (-1), 1) := by decide +kernel
theorem dX6_init_86 : decode cX6_init 86 = .ok (.iastore, 1) := by decide +kernel
theorem dX6_init_87 : decode cX6_init 87 = .ok (.iinc 1 1, 3) := by decide +kernel
theorem dX6_init_90 : decode cX6_init 90 = .ok (.goto (-29), 3) := by decide +kernel
theorem dX6_init_93 : decode cX6_init 93 = .ok (.aload_n 0, 1) := by decide +kernel
theorem dX6_init_94 : decode cX6_init 94 = .ok (.getfield 7, 3) := by decide +kernel
theorem dX6_init_97 : decode cX6_init 97 = .ok (.sipush 144, 3) := by decide +kernel
theorem dX6_init_100 : decode cX6_init 100 = .ok (.iconst (-1), 1) := by decide +kernel
theorem dX6_init_101 : decode cX6_init 101 = .ok (.iastore, 1) := by decide +kernel
theorem dX6_init_102 : decode cX6_init 102 = .ok (.return_, 1) := by decide +kernel
theorem dX6_in_0 : decode cX6_in 0 = .ok (.iload_n 0, 1) := by decide +kernel
theorem dX6_in_1 : decode cX6_in 1 = .ok (.iload_n 1, 1) := by decide +kernel
theorem dX6_in_2 : decode cX6_in 2 = .ok (.if_icmp .lt 12, 3) := by decide +kernel
theorem dX6_in_5 : decode cX6_in 5 = .ok (.iload_n 0, 1) := by decide +kernel
theorem dX6_in_6 : decode cX6_in 6 = .ok (.iload_n 2, 1) := by decide +kernel
theorem dX6_in_7 : decode cX6_in 7 = .ok (.if_icmp .gt 7, 3) := by decide +kernel
theorem dX6_in_10 : decode cX6_in 10 = .ok (.iconst 1, 1) := by decide +kernel
theorem dX6_in_11 : decode cX6_in 11 = .ok (.goto 4, 3) := by decide +kernel
theorem dX6_in_14 : decode cX6_in 14 = .ok (.iconst 0, 1) := by decide +kernel
theorem dX6_in_15 : decode cX6_in 15 = .ok (.ireturn, 1) := by decide +kernel
theorem dX6_more_0 : decode cX6_more 0 = .ok (.iload_n 0, 1) := by decide +kernel
theorem dX6_more_1 : decode cX6_more 1 = .ok (.iload_n 1, 1) := by decide +kernel
theorem dX6_more_2 : decode cX6_more 2 = .ok (.if_icmp .le 7, 3) := by decide +kernel
theorem dX6_more_5 : decode cX6_more 5 = .ok (.iload_n 0, 1) := by decide +kernel
theorem dX6_more_6 : decode cX6_more 6 = .ok (.goto 4, 3) := by decide +kernel
theorem dX6_more_9 : decode cX6_more 9 = .ok (.iload_n 1, 1) := by decide +kernel
theorem dX6_more_10 : decode cX6_more 10 = .ok (.ireturn, 1) := by decide +kernel
theorem dX6_act_0 : decode cX6_act 0 = .ok (.aload_n 0, 1) := by decide +kernel
theorem dX6_act_1 : decode cX6_act 1 = .ok (.getfield 32, 3) := by decide +kernel
theorem dX6_act_4 : decode cX6_act 4 = .ok (.iconst 5, 1) := by decide +kernel
theorem dX6_act_5 : decode cX6_act 5 = .ok (.if_icmp .ne 44, 3) := by decide +kernel
theorem dX6_act_8 : decode cX6_act 8 = .ok (.iconst 0, 1) := by decide +kernel
theorem dX6_act_9 : decode cX6_act 9 = .ok (.istore_n 1, 1) := by decide +kernel
theorem dX6_act_10 : decode cX6_act 10 = .ok (.iload_n 1, 1) := by decide +kernel
theorem dX6_act_11 : decode cX6_act 11 = .ok (.sipush 1156, 3) := by decide +kernel
theorem dX6_act_14 : decode cX6_act 14 = .ok (.if_icmp .ge 25, 3) := by decide +kernel
theorem dX6_act_17 : decode cX6_act 17 = .ok (.aload_n 0, 1) := by decide +kernel
theorem dX6_act_18 : decode cX6_act 18 = .ok (.getfield 16, 3) := by decide +kernel
theorem dX6_act_21 : decode cX6_act 21 = .ok (.iload_n 1, 1) := by decide +kernel
theorem dX6_act_22 : decode cX6_act 22 = .ok (.aload_n 0, 1) := by decide +kernel
theorem dX6_act_23 : decode cX6_act 23 = .ok (.getfield 16, 3) := by decide +kernel
theorem dX6_act_26 : decode cX6_act 26 = .ok (.iload_n 1, 1) := by decide +kernel
theorem dX6_act_27 : decode cX6_act 27 = .ok (.sipush 289, 3) := by decide +kernel
theorem dX6_act_30 : decode cX6_act 30 = .ok (.iadd, 1) := by decide +kernel
theorem dX6_act_31 : decode cX6_act 31 = .ok (.iaload, 1) := by decide +kernel
theorem dX6_act_32 : decode cX6_act 32 = .ok (.iastore, 1) := by decide +kernel
theorem dX6_act_33 : decode cX6_act 33 = .ok (.iinc 1 1, 3) := by decide +kernel
theorem dX6_act_36 : decode cX6_act 36 = .ok (.goto (-26), 3) := by decide +kernel
theorem dX6_act_39 : decode cX6_act 39 = .ok (.aload_n 0, 1) := by decide +kernel
theorem dX6_act_40 : decode cX6_act 40 = .ok (.dup, 1) := by decide +kernel
theorem dX6_act_41 : decode cX6_act 41 = .ok (.getfield 32, 3) := by decide +kernel
theorem dX6_act_44 : decode cX6_act 44 = .ok (.iconst 1, 1) := by decide +kernel
theorem dX6_act_45 : decode cX6_act 45 = .ok (.isub, 1) := by decide +kernel
theorem dX6_act_46 : decode cX6_act 46 = .ok (.putfield 32, 3) := by decide +kernel
theorem dX6_act_49 : decode cX6_act 49 = .ok (.iconst 0, 1) := by decide +kernel
theorem dX6_act_50 : decode cX6_act 50 = .ok (.istore_n 1, 1) := by decide +kernel
theorem dX6_act_51 : decode cX6_act 51 = .ok (.iload_n 1, 1) := by decide +kernel
theorem dX6_act_52 : decode cX6_act 52 = .ok (.sipush 289, 3) := by decide +kernel
theorem dX6_act_55 : decode cX6_act 55 = .ok (.if_icmp .ge 30, 3) := by decide +kernel
theorem dX6_act_58 : decode cX6_act 58 = .ok (.aload_n 0, 1) := by decide +kernel
theorem dX6_act_59 : decode cX6_act 59 = .ok (.getfield 16, 3) := by decide +kernel
theorem dX6_act_62 : decode cX6_act 62 = .ok (.sipush 289, 3) := by decide +kernel
theorem dX6_act_65 : decode cX6_act 65 = .ok (.aload_n 0, 1) := by decide +kernel
theorem dX6_act_66 : decode cX6_act 66 = .ok (.getfield 32, 3) := by decide +kernel
theorem dX6_act_69 : decode cX6_act 69 = .ok (.imul, 1) := by decide +kernel
theorem dX6_act_70 : decode cX6_act 70 = .ok (.iload_n 1, 1) := by decide +kernel
theorem dX6_act_71 : decode cX6_act 71 = .ok (.iadd, 1) := by decide +kernel
theorem dX6_act_72 : decode cX6_act 72 = .ok (.aload_n 0, 1) := by decide +kernel
theorem dX6_act_73 : decode cX6_act 73 = .ok (.getfield 7, 3) := by decide +kernel
theorem dX6_act_76 : decode cX6_act 76 = .ok (.iload_n 1, 1) := by decide +kernel
theorem dX6_act_77 : decode cX6_act 77 = .ok (.iaload, 1) := by decide +kernel
theorem dX6_act_78 : decode cX6_act 78 = .ok (.iastore, 1) := by decide +kernel
theorem dX6_act_79 : decode cX6_act 79 = .ok (.iinc 1 1, 3) := by decide +kernel
theorem dX6_act_82 : decode cX6_act 82 = .ok (.goto (-31), 3) := by decide +kernel
theorem dX6_act_85 : decode cX6_act 85 = .ok (.aload_n 0, 1) := by decide +kernel
theorem dX6_act_86 : decode cX6_act 86 = .ok (.dup, 1) := by decide +kernel
theorem dX6_act_87 : decode cX6_act 87 = .ok (.getfield 32, 3) := by decide +kernel
theorem dX6_act_90 : decode cX6_act 90 = .ok (.iconst 1, 1) := by decide +kernel
theorem dX6_act_91 : decode cX6_act 91 = .ok (.iadd, 1) := by decide +kernel
theorem dX6_act_92 : decode cX6_act 92 = .ok (.putfield 32, 3) := by decide +kernel
theorem dX6_act_95 : decode cX6_act 95 = .ok (.return_, 1) := by decide +kernel
theorem dX6_hold_0 : decode cX6_hold 0 = .ok (.iconst 0, 1) := by decide +kernel
theorem dX6_hold_1 : decode cX6_hold 1 = .ok (.istore_n 1, 1) := by decide +kernel
theorem dX6_hold_2 : decode cX6_hold 2 = .ok (.iload_n 1, 1) := by decide +kernel
theorem dX6_hold_3 : decode cX6_hold 3 = .ok (.sipush 289, 3) := by decide +kernel
theorem dX6_hold_6 : decode cX6_hold 6 = .ok (.if_icmp .ge 21, 3) := by decide +kernel
theorem dX6_hold_9 : decode cX6_hold 9 = .ok (.aload_n 0, 1) := by decide +kernel
theorem dX6_hold_10 : decode cX6_hold 10 = .ok (.getfield 13, 3) := by decide +kernel
theorem dX6_hold_13 : decode cX6_hold 13 = .ok (.iload_n 1, 1) := by decide +kernel
theorem dX6_hold_14 : decode cX6_hold 14 = .ok (.aload_n 0, 1) := by decide +kernel
theorem dX6_hold_15 : decode cX6_hold 15 = .ok (.getfield 7, 3) := by decide +kernel
theorem dX6_hold_18 : decode cX6_hold 18 = .ok (.iload_n 1, 1) := by decide +kernel
theorem dX6_hold_19 : decode cX6_hold 19 = .ok (.iaload, 1) := by decide +kernel
theorem dX6_hold_20 : decode cX6_hold 20 = .ok (.iastore, 1) := by decide +kernel
theorem dX6_hold_21 : decode cX6_hold 21 = .ok (.iinc 1 1, 3) := by decide +kernel
theorem dX6_hold_24 : decode cX6_hold 24 = .ok (.goto (-22), 3) := by decide +kernel
theorem dX6_hold_27 : decode cX6_hold 27 = .ok (.return_, 1) := by decide +kernel
theorem dX6_release_0 : decode cX6_release 0 = .ok (.iconst 0, 1) := by decide +kernel
theorem dX6_release_1 : decode cX6_release 1 = .ok (.istore_n 1, 1) := by decide +kernel
theorem dX6_release_2 : decode cX6_release 2 = .ok (.iload_n 1, 1) := by decide +kernel
theorem dX6_release_3 : decode cX6_release 3 = .ok (.sipush 289, 3) := by decide +kernel
theorem dX6_release_6 : decode cX6_release 6 = .ok (.if_icmp .ge 21, 3) := by decide +kernel
theorem dX6_release_9 : decode cX6_release 9 = .ok (.aload_n 0, 1) := by decide +kernel
theorem dX6_release_10 : decode cX6_release 10 = .ok (.getfield 7, 3) := by decide +kernel
theorem dX6_release_13 : decode cX6_release 13 = .ok (.iload_n 1, 1) := by decide +kernel
theorem dX6_release_14 : decode cX6_release 14 = .ok (.aload_n 0, 1) := by decide +kernel
theorem dX6_release_15 : decode cX6_release 15 = .ok (.getfield 13, 3) := by decide +kernel
theorem dX6_release_18 : decode cX6_release 18 = .ok (.iload_n 1, 1) := by decide +kernel
theorem dX6_release_19 : decode cX6_release 19 = .ok (.iaload, 1) := by decide +kernel
theorem dX6_release_20 : decode cX6_release 20 = .ok (.iastore, 1) := by decide +kernel
theorem dX6_release_21 : decode cX6_release 21 = .ok (.iinc 1 1, 3) := by decide +kernel
theorem dX6_release_24 : decode cX6_release 24 = .ok (.goto (-22), 3) := by decide +kernel
theorem dX6_release_27 : decode cX6_release 27 = .ok (.return_, 1) := by decide +kernel
theorem dX6_exchange_0 : decode cX6_exchange 0 = .ok (.iconst 0, 1) := by decide +kernel
theorem dX6_exchange_1 : decode cX6_exchange 1 = .ok (.istore_n 1, 1) := by decide +kernel
theorem dX6_exchange_2 : decode cX6_exchange 2 = .ok (.iload_n 1, 1) := by decide +kernel
theorem dX6_exchange_3 : decode cX6_exchange 3 = .ok (.sipush 289, 3) := by decide +kernel
theorem dX6_exchange_6 : decode cX6_exchange 6 = .ok (.if_icmp .ge 35, 3) := by decide +kernel
theorem dX6_exchange_9 : decode cX6_exchange 9 = .ok (.aload_n 0, 1) := by decide +kernel
theorem dX6_exchange_10 : decode cX6_exchange 10 = .ok (.getfield 7, 3) := by decide +kernel
theorem dX6_exchange_13 : decode cX6_exchange 13 = .ok (.iload_n 1, 1) := by decide +kernel
theorem dX6_exchange_14 : decode cX6_exchange 14 = .ok (.iaload, 1) := by decide +kernel
theorem dX6_exchange_15 : decode cX6_exchange 15 = .ok (.istore_n 2, 1) := by decide +kernel
theorem dX6_exchange_16 : decode cX6_exchange 16 = .ok (.aload_n 0, 1) := by decide +kernel
theorem dX6_exchange_17 : decode cX6_exchange 17 = .ok (.getfield 7, 3) := by decide +kernel
theorem dX6_exchange_20 : decode cX6_exchange 20 = .ok (.iload_n 1, 1) := by decide +kernel
theorem dX6_exchange_21 : decode cX6_exchange 21 = .ok (.aload_n 0, 1) := by decide +kernel
theorem dX6_exchange_22 : decode cX6_exchange 22 = .ok (.getfield 13, 3) := by decide +kernel
theorem dX6_exchange_25 : decode cX6_exchange 25 = .ok (.iload_n 1, 1) := by decide +kernel
theorem dX6_exchange_26 : decode cX6_exchange 26 = .ok (.iaload, 1) := by decide +kernel
theorem dX6_exchange_27 : decode cX6_exchange 27 = .ok (.iastore, 1) := by decide +kernel
theorem dX6_exchange_28 : decode cX6_exchange 28 = .ok (.aload_n 0, 1) := by decide +kernel
theorem dX6_exchange_29 : decode cX6_exchange 29 = .ok (.getfield 13, 3) := by decide +kernel
theorem dX6_exchange_32 : decode cX6_exchange 32 = .ok (.iload_n 1, 1) := by decide +kernel
theorem dX6_exchange_33 : decode cX6_exchange 33 = .ok (.iload_n 2, 1) := by decide +kernel
theorem dX6_exchange_34 : decode cX6_exchange 34 = .ok (.iastore, 1) := by decide +kernel
theorem dX6_exchange_35 : decode cX6_exchange 35 = .ok (.iinc 1 1, 3) := by decide +kernel
theorem dX6_exchange_38 : decode cX6_exchange 38 = .ok (.goto (-36), 3) := by decide +kernel
theorem dX6_exchange_41 : decode cX6_exchange 41 = .ok (.return_, 1) := by decide +kernel
set_option maxRecDepth 20000 in
theorem ggX6_isChannel_X6_in : GoodIn wsX6_isChannel wsX6_in := goodIn_r _ [4] (by decide +kernel) (by decide +kernel)
set_option maxRecDepth 20000 in
theorem gX6_isChannel_X6_in : GoodIn wsX6_isChannel (va_wsS RX6 35 yX6_in wsX6_in) := goodIn_app (goodIn_of _ (by decide +kernel)) ggX6_isChannel_X6_in
theorem dX6_isChannel_0 : decode cX6_isChannel 0 = .ok (.iload_n 0, 1) := by decide +kernel
theorem dX6_isChannel_1 : decode cX6_isChannel 1 = .ok (.iconst 0, 1) := by decide +kernel
theorem dX6_isChannel_2 : decode cX6_isChannel 2 = .ok (.bipush 11, 2) := by decide +kernel
theorem dX6_isChannel_4 : decode cX6_isChannel 4 = .ok (.invokestatic 35, 3) := by decide +kernel
theorem dX6_isChannel_7 : decode cX6_isChannel 7 = .ok (.ireturn, 1) := by decide +kernel
set_option maxRecDepth 20000 in
theorem ggX6_isFour_X6_in : GoodIn wsX6_isFour wsX6_in := goodIn_r _ [4] (by decide +kernel) (by decide +kernel)
set_option maxRecDepth 20000 in
theorem gX6_isFour_X6_in : GoodIn wsX6_isFour (va_wsS RX6 35 yX6_in wsX6_in) := goodIn_app (goodIn_of _ (by decide +kernel)) ggX6_isFour_X6_in
theorem dX6_isFour_0 : decode cX6_isFour 0 = .ok (.iload_n 0, 1) := by decide +kernel
theorem dX6_isFour_1 : decode cX6_isFour 1 = .ok (.iconst 0, 1) := by decide +kernel
theorem dX6_isFour_2 : decode cX6_isFour 2 = .ok (.iconst 3, 1) := by decide +kernel
theorem dX6_isFour_3 : decode cX6_isFour 3 = .ok (.invokestatic 35, 3) := by decide +kernel
theorem dX6_isFour_6 : decode cX6_isFour 6 = .ok (.ireturn, 1) := by decide +kernel
theorem dX6_of_0 : decode cX6_of 0 = .ok (.aload_n 0, 1) := by decide +kernel
theorem dX6_of_1 : decode cX6_of 1 = .ok (.getfield 7, 3) := by decide +kernel
theorem dX6_of_4 : decode cX6_of 4 = .ok (.iconst 5, 1) := by decide +kernel
theorem dX6_of_5 : decode cX6_of 5 = .ok (.iload_n 1, 1) := by decide +kernel
theorem dX6_of_6 : decode cX6_of 6 = .ok (.imul, 1) := by decide +kernel
theorem dX6_of_7 : decode cX6_of 7 = .ok (.iload_n 2, 1) := by decide +kernel
theorem dX6_of_8 : decode cX6_of 8 = .ok (.iadd, 1) := by decide +kernel
theorem dX6_of_9 : decode cX6_of 9 = .ok (.iaload, 1) := by decide +kernel
theorem dX6_of_10 : decode cX6_of 10 = .ok (.ireturn, 1) := by decide +kernel
theorem dX6_has_0 : decode cX6_has 0 = .ok (.iload_n 0, 1) := by decide +kernel
theorem dX6_has_1 : decode cX6_has 1 = .ok (.iload_n 1, 1) := by decide +kernel
theorem dX6_has_2 : decode cX6_has 2 = .ok (.ishr, 1) := by decide +kernel
theorem dX6_has_3 : decode cX6_has 3 = .ok (.iconst 1, 1) := by decide +kernel
theorem dX6_has_4 : decode cX6_has 4 = .ok (.iand, 1) := by decide +kernel
theorem dX6_has_5 : decode cX6_has 5 = .ok (.iconst 1, 1) := by decide +kernel
theorem dX6_has_6 : decode cX6_has 6 = .ok (.if_icmp .ne 7, 3) := by decide +kernel
theorem dX6_has_9 : decode cX6_has 9 = .ok (.iconst 1, 1) := by decide +kernel
theorem dX6_has_10 : decode cX6_has 10 = .ok (.goto 4, 3) := by decide +kernel
theorem dX6_has_13 : decode cX6_has 13 = .ok (.iconst 0, 1) := by decide +kernel
theorem dX6_has_14 : decode cX6_has 14 = .ok (.ireturn, 1) := by decide +kernel
theorem dX6_soloed_0 : decode cX6_soloed 0 = .ok (.iconst 0, 1) := by decide +kernel
theorem dX6_soloed_1 : decode cX6_soloed 1 = .ok (.istore_n 1, 1) := by decide +kernel
theorem dX6_soloed_2 : decode cX6_soloed 2 = .ok (.iconst 0, 1) := by decide +kernel
theorem dX6_soloed_3 : decode cX6_soloed 3 = .ok (.istore_n 2, 1) := by decide +kernel
theorem dX6_soloed_4 : decode cX6_soloed 4 = .ok (.iload_n 2, 1) := by decide +kernel
theorem dX6_soloed_5 : decode cX6_soloed 5 = .ok (.iconst 4, 1) := by decide +kernel
theorem dX6_soloed_6 : decode cX6_soloed 6 = .ok (.if_icmp .ge 23, 3) := by decide +kernel
theorem dX6_soloed_9 : decode cX6_soloed 9 = .ok (.iload_n 1, 1) := by decide +kernel
theorem dX6_soloed_10 : decode cX6_soloed 10 = .ok (.aload_n 0, 1) := by decide +kernel
theorem dX6_soloed_11 : decode cX6_soloed 11 = .ok (.getfield 7, 3) := by decide +kernel
theorem dX6_soloed_14 : decode cX6_soloed 14 = .ok (.bipush 76, 2) := by decide +kernel
theorem dX6_soloed_16 : decode cX6_soloed 16 = .ok (.iload_n 2, 1) := by decide +kernel
theorem dX6_soloed_17 : decode cX6_soloed 17 = .ok (.iadd, 1) := by decide +kernel
theorem dX6_soloed_18 : decode cX6_soloed 18 = .ok (.iaload, 1) := by decide +kernel
theorem dX6_soloed_19 : decode cX6_soloed 19 = .ok (.iload_n 2, 1) := by decide +kernel
theorem dX6_soloed_20 : decode cX6_soloed 20 = .ok (.ishl, 1) := by decide +kernel
theorem dX6_soloed_21 : decode cX6_soloed 21 = .ok (.ior, 1) := by decide +kernel
theorem dX6_soloed_22 : decode cX6_soloed 22 = .ok (.istore_n 1, 1) := by decide +kernel
theorem dX6_soloed_23 : decode cX6_soloed 23 = .ok (.iinc 2 1, 3) := by decide +kernel
theorem dX6_soloed_26 : decode cX6_soloed 26 = .ok (.goto (-22), 3) := by decide +kernel
theorem dX6_soloed_29 : decode cX6_soloed 29 = .ok (.iload_n 1, 1) := by decide +kernel
theorem dX6_soloed_30 : decode cX6_soloed 30 = .ok (.ireturn, 1) := by decide +kernel
set_option maxRecDepth 20000 in
theorem ggX6_isShut_X6_soloed : GoodIn wsX6_isShut wsX6_soloed := goodIn_r _ [5, 6, 11, 12, 13, 14, 15, 16, 17, 18, 19, 20, 21, 22, 23, 24, 25] (by decide +kernel) (by decide +kernel)
set_option maxRecDepth 20000 in
theorem gX6_isShut_X6_soloed : GoodIn wsX6_isShut (wsV RX6 39 RX6 yX6_soloed wsX6_soloed) := goodIn_app (goodIn_of _ (by decide +kernel)) ggX6_isShut_X6_soloed
set_option maxRecDepth 20000 in
theorem ggX6_isShut_X6_of : GoodIn wsX6_isShut wsX6_of := goodIn_r _ [10, 6, 11, 12, 13, 14, 15, 16, 17, 18, 19, 20, 21, 22, 23, 24, 25] (by decide +kernel) (by decide +kernel)
set_option maxRecDepth 20000 in
theorem gX6_isShut_X6_of : GoodIn wsX6_isShut (wsV RX6 43 RX6 yX6_of wsX6_of) := goodIn_app (goodIn_of _ (by decide +kernel)) ggX6_isShut_X6_of
theorem dX6_isShut_0 : decode cX6_isShut 0 = .ok (.aload_n 0, 1) := by decide +kernel
theorem dX6_isShut_1 : decode cX6_isShut 1 = .ok (.invokevirtual 39, 3) := by decide +kernel
theorem dX6_isShut_4 : decode cX6_isShut 4 = .ok (.ifCond .eq 30, 3) := by decide +kernel
theorem dX6_isShut_7 : decode cX6_isShut 7 = .ok (.aload_n 0, 1) := by decide +kernel
theorem dX6_isShut_8 : decode cX6_isShut 8 = .ok (.iload_n 1, 1) := by decide +kernel
theorem dX6_isShut_9 : decode cX6_isShut 9 = .ok (.iconst 3, 1) := by decide +kernel
theorem dX6_isShut_10 : decode cX6_isShut 10 = .ok (.invokevirtual 43, 3) := by decide +kernel
theorem dX6_isShut_13 : decode cX6_isShut 13 = .ok (.ifCond .ne 21, 3) := by decide +kernel
theorem dX6_isShut_16 : decode cX6_isShut 16 = .ok (.aload_n 0, 1) := by decide +kernel
theorem dX6_isShut_17 : decode cX6_isShut 17 = .ok (.iload_n 1, 1) := by decide +kernel
theorem dX6_isShut_18 : decode cX6_isShut 18 = .ok (.iconst 4, 1) := by decide +kernel
theorem dX6_isShut_19 : decode cX6_isShut 19 = .ok (.invokevirtual 43, 3) := by decide +kernel
theorem dX6_isShut_22 : decode cX6_isShut 22 = .ok (.aload_n 0, 1) := by decide +kernel
theorem dX6_isShut_23 : decode cX6_isShut 23 = .ok (.invokevirtual 39, 3) := by decide +kernel
theorem dX6_isShut_26 : decode cX6_isShut 26 = .ok (.iand, 1) := by decide +kernel
theorem dX6_isShut_27 : decode cX6_isShut 27 = .ok (.ifCond .ne 7, 3) := by decide +kernel
theorem dX6_isShut_30 : decode cX6_isShut 30 = .ok (.iconst 1, 1) := by decide +kernel
theorem dX6_isShut_31 : decode cX6_isShut 31 = .ok (.goto 4, 3) := by decide +kernel
theorem dX6_isShut_34 : decode cX6_isShut 34 = .ok (.iconst 0, 1) := by decide +kernel
theorem dX6_isShut_35 : decode cX6_isShut 35 = .ok (.ireturn, 1) := by decide +kernel
set_option maxRecDepth 20000 in
theorem ggX6_level_X6_of : GoodIn wsX6_level wsX6_of := goodIn_r _ [6, 1, 18, 19, 20, 21, 22, 23, 24, 25, 26, 27, 28, 29, 30, 31, 32] (by decide +kernel) (by decide +kernel)
set_option maxRecDepth 20000 in
theorem gX6_level_X6_of : GoodIn wsX6_level (wsV RX6 43 RX6 yX6_of wsX6_of) := goodIn_app (goodIn_of _ (by decide +kernel)) ggX6_level_X6_of
set_option maxRecDepth 20000 in
theorem ggX6_level_X6_isShut : GoodIn wsX6_level wsX6_isShut := goodIn_r _ [10, 11, 12, 13, 5, 14, 1, 2, 3, 4, 6, 18, 19, 20, 21, 22, 23, 24, 25, 26, 27, 28, 29, 30, 31, 32] (by decide +kernel) (by decide +kernel)
set_option maxRecDepth 20000 in
theorem gX6_level_X6_isShut : GoodIn wsX6_level (wsV RX6 47 RX6 yX6_isShut wsX6_isShut) := goodIn_app (goodIn_of _ (by decide +kernel)) ggX6_level_X6_isShut
set_option maxRecDepth 20000 in
theorem ggX6_level_X6_has : GoodIn wsX6_level wsX6_has := goodIn_r _ [17] (by decide +kernel) (by decide +kernel)
set_option maxRecDepth 20000 in
theorem gX6_level_X6_has : GoodIn wsX6_level (va_wsS RX6 51 yX6_has wsX6_has) := goodIn_app (goodIn_of _ (by decide +kernel)) ggX6_level_X6_has
theorem dX6_level_0 : decode cX6_level 0 = .ok (.aload_n 0, 1) := by decide +kernel
theorem dX6_level_1 : decode cX6_level 1 = .ok (.iload_n 1, 1) := by decide +kernel
theorem dX6_level_2 : decode cX6_level 2 = .ok (.iconst 2, 1) := by decide +kernel
theorem dX6_level_3 : decode cX6_level 3 = .ok (.invokevirtual 43, 3) := by decide +kernel
theorem dX6_level_6 : decode cX6_level 6 = .ok (.iconst 1, 1) := by decide +kernel
theorem dX6_level_7 : decode cX6_level 7 = .ok (.if_icmp .eq 11, 3) := by decide +kernel
theorem dX6_level_10 : decode cX6_level 10 = .ok (.aload_n 0, 1) := by decide +kernel
theorem dX6_level_11 : decode cX6_level 11 = .ok (.iload_n 1, 1) := by decide +kernel
theorem dX6_level_12 : decode cX6_level 12 = .ok (.invokevirtual 47, 3) := by decide +kernel
theorem dX6_level_15 : decode cX6_level 15 = .ok (.ifCond .eq 5, 3) := by decide +kernel
theorem dX6_level_18 : decode cX6_level 18 = .ok (.iconst 0, 1) := by decide +kernel
theorem dX6_level_19 : decode cX6_level 19 = .ok (.ireturn, 1) := by decide +kernel
theorem dX6_level_20 : decode cX6_level 20 = .ok (.aload_n 0, 1) := by decide +kernel
theorem dX6_level_21 : decode cX6_level 21 = .ok (.iload_n 1, 1) := by decide +kernel
theorem dX6_level_22 : decode cX6_level 22 = .ok (.iconst 1, 1) := by decide +kernel
theorem dX6_level_23 : decode cX6_level 23 = .ok (.invokevirtual 43, 3) := by decide +kernel
theorem dX6_level_26 : decode cX6_level 26 = .ok (.istore_n 2, 1) := by decide +kernel
theorem dX6_level_27 : decode cX6_level 27 = .ok (.iconst 0, 1) := by decide +kernel
theorem dX6_level_28 : decode cX6_level 28 = .ok (.istore_n 3, 1) := by decide +kernel
theorem dX6_level_29 : decode cX6_level 29 = .ok (.iload_n 3, 1) := by decide +kernel
theorem dX6_level_30 : decode cX6_level 30 = .ok (.iconst 4, 1) := by decide +kernel
theorem dX6_level_31 : decode cX6_level 31 = .ok (.if_icmp .ge 41, 3) := by decide +kernel
theorem dX6_level_34 : decode cX6_level 34 = .ok (.aload_n 0, 1) := by decide +kernel
theorem dX6_level_35 : decode cX6_level 35 = .ok (.iload_n 1, 1) := by decide +kernel
theorem dX6_level_36 : decode cX6_level 36 = .ok (.iconst 4, 1) := by decide +kernel
theorem dX6_level_37 : decode cX6_level 37 = .ok (.invokevirtual 43, 3) := by decide +kernel
theorem dX6_level_40 : decode cX6_level 40 = .ok (.iload_n 3, 1) := by decide +kernel
theorem dX6_level_41 : decode cX6_level 41 = .ok (.invokestatic 51, 3) := by decide +kernel
theorem dX6_level_44 : decode cX6_level 44 = .ok (.ifCond .eq 20, 3) := by decide +kernel
theorem dX6_level_47 : decode cX6_level 47 = .ok (.iload_n 2, 1) := by decide +kernel
theorem dX6_level_48 : decode cX6_level 48 = .ok (.aload_n 0, 1) := by decide +kernel
theorem dX6_level_49 : decode cX6_level 49 = .ok (.getfield 7, 3) := by decide +kernel
theorem dX6_level_52 : decode cX6_level 52 = .ok (.bipush 72, 2) := by decide +kernel
theorem dX6_level_54 : decode cX6_level 54 = .ok (.iload_n 3, 1) := by decide +kernel
theorem dX6_level_55 : decode cX6_level 55 = .ok (.iadd, 1) := by decide +kernel
theorem dX6_level_56 : decode cX6_level 56 = .ok (.iaload, 1) := by decide +kernel
theorem dX6_level_57 : decode cX6_level 57 = .ok (.imul, 1) := by decide +kernel
theorem dX6_level_58 : decode cX6_level 58 = .ok (.bipush 100, 2) := by decide +kernel
theorem dX6_level_60 : decode cX6_level 60 = .ok (.idiv, 1) := by decide +kernel
theorem dX6_level_61 : decode cX6_level 61 = .ok (.goto 4, 3) := by decide +kernel
theorem dX6_level_64 : decode cX6_level 64 = .ok (.iload_n 2, 1) := by decide +kernel
theorem dX6_level_65 : decode cX6_level 65 = .ok (.istore_n 2, 1) := by decide +kernel
theorem dX6_level_66 : decode cX6_level 66 = .ok (.iinc 3 1, 3) := by decide +kernel
theorem dX6_level_69 : decode cX6_level 69 = .ok (.goto (-40), 3) := by decide +kernel
theorem dX6_level_72 : decode cX6_level 72 = .ok (.iload_n 2, 1) := by decide +kernel
theorem dX6_level_73 : decode cX6_level 73 = .ok (.ireturn, 1) := by decide +kernel
theorem dX6_sendOf_0 : decode cX6_sendOf 0 = .ok (.aload_n 0, 1) := by decide +kernel
theorem dX6_sendOf_1 : decode cX6_sendOf 1 = .ok (.getfield 7, 3) := by decide +kernel
theorem dX6_sendOf_4 : decode cX6_sendOf 4 = .ok (.bipush 88, 2) := by decide +kernel
theorem dX6_sendOf_6 : decode cX6_sendOf 6 = .ok (.bipush 12, 2) := by decide +kernel
theorem dX6_sendOf_8 : decode cX6_sendOf 8 = .ok (.iload_n 1, 1) := by decide +kernel
theorem dX6_sendOf_9 : decode cX6_sendOf 9 = .ok (.imul, 1) := by decide +kernel
theorem dX6_sendOf_10 : decode cX6_sendOf 10 = .ok (.iadd, 1) := by decide +kernel
theorem dX6_sendOf_11 : decode cX6_sendOf 11 = .ok (.iload_n 2, 1) := by decide +kernel
theorem dX6_sendOf_12 : decode cX6_sendOf 12 = .ok (.iadd, 1) := by decide +kernel
theorem dX6_sendOf_13 : decode cX6_sendOf 13 = .ok (.iaload, 1) := by decide +kernel
theorem dX6_sendOf_14 : decode cX6_sendOf 14 = .ok (.ireturn, 1) := by decide +kernel
set_option maxRecDepth 20000 in
theorem ggX6_gain_X6_has : GoodIn wsX6_gain wsX6_has := goodIn_r _ [5] (by decide +kernel) (by decide +kernel)
set_option maxRecDepth 20000 in
theorem gX6_gain_X6_has : GoodIn wsX6_gain (va_wsS RX6 51 yX6_has wsX6_has) := goodIn_app (goodIn_of _ (by decide +kernel)) ggX6_gain_X6_has
set_option maxRecDepth 20000 in
theorem ggX6_gain_X6_level : GoodIn wsX6_gain wsX6_level := goodIn_r _ [9, 1, 10, 11, 12, 4, 13, 14, 15, 16, 17, 18, 19, 20, 21, 2, 3, 5, 26, 27, 28, 29, 30, 31, 32, 33, 34, 35, 36, 37, 38, 39, 40] (by decide +kernel) (by decide +kernel)
set_option maxRecDepth 20000 in
theorem gX6_gain_X6_level : GoodIn wsX6_gain (wsV RX6 55 RX6 yX6_level wsX6_level) := goodIn_app (goodIn_of _ (by decide +kernel)) ggX6_gain_X6_level
set_option maxRecDepth 20000 in
theorem ggX6_gain_X6_sendOf : GoodIn wsX6_gain wsX6_sendOf := goodIn_r _ [25, 1, 26, 27, 28, 29, 30, 31, 32, 33, 34, 35, 36, 37, 38, 39, 40] (by decide +kernel) (by decide +kernel)
set_option maxRecDepth 20000 in
theorem gX6_gain_X6_sendOf : GoodIn wsX6_gain (wsV RX6 59 RX6 yX6_sendOf wsX6_sendOf) := goodIn_app (goodIn_of _ (by decide +kernel)) ggX6_gain_X6_sendOf
theorem dX6_gain_0 : decode cX6_gain 0 = .ok (.aload_n 0, 1) := by decide +kernel
theorem dX6_gain_1 : decode cX6_gain 1 = .ok (.getfield 7, 3) := by decide +kernel
theorem dX6_gain_4 : decode cX6_gain 4 = .ok (.bipush 80, 2) := by decide +kernel
theorem dX6_gain_6 : decode cX6_gain 6 = .ok (.iload_n 1, 1) := by decide +kernel
theorem dX6_gain_7 : decode cX6_gain 7 = .ok (.iadd, 1) := by decide +kernel
theorem dX6_gain_8 : decode cX6_gain 8 = .ok (.iaload, 1) := by decide +kernel
theorem dX6_gain_9 : decode cX6_gain 9 = .ok (.iload_n 2, 1) := by decide +kernel
theorem dX6_gain_10 : decode cX6_gain 10 = .ok (.invokestatic 51, 3) := by decide +kernel
theorem dX6_gain_13 : decode cX6_gain 13 = .ok (.ifCond .eq 7, 3) := by decide +kernel
theorem dX6_gain_16 : decode cX6_gain 16 = .ok (.iconst 0, 1) := by decide +kernel
theorem dX6_gain_17 : decode cX6_gain 17 = .ok (.goto 18, 3) := by decide +kernel
theorem dX6_gain_20 : decode cX6_gain 20 = .ok (.aload_n 0, 1) := by decide +kernel
theorem dX6_gain_21 : decode cX6_gain 21 = .ok (.iload_n 2, 1) := by decide +kernel
theorem dX6_gain_22 : decode cX6_gain 22 = .ok (.invokevirtual 55, 3) := by decide +kernel
theorem dX6_gain_25 : decode cX6_gain 25 = .ok (.aload_n 0, 1) := by decide +kernel
theorem dX6_gain_26 : decode cX6_gain 26 = .ok (.iload_n 1, 1) := by decide +kernel
theorem dX6_gain_27 : decode cX6_gain 27 = .ok (.iload_n 2, 1) := by decide +kernel
theorem dX6_gain_28 : decode cX6_gain 28 = .ok (.invokevirtual 59, 3) := by decide +kernel
theorem dX6_gain_31 : decode cX6_gain 31 = .ok (.imul, 1) := by decide +kernel
theorem dX6_gain_32 : decode cX6_gain 32 = .ok (.bipush 100, 2) := by decide +kernel
theorem dX6_gain_34 : decode cX6_gain 34 = .ok (.idiv, 1) := by decide +kernel
theorem dX6_gain_35 : decode cX6_gain 35 = .ok (.ireturn, 1) := by decide +kernel
theorem dX6_backInto_0 : decode cX6_backInto 0 = .ok (.iconst 0, 1) := by decide +kernel
theorem dX6_backInto_1 : decode cX6_backInto 1 = .ok (.istore_n 2, 1) := by decide +kernel
theorem dX6_backInto_2 : decode cX6_backInto 2 = .ok (.iload_n 2, 1) := by decide +kernel
theorem dX6_backInto_3 : decode cX6_backInto 3 = .ok (.iconst 4, 1) := by decide +kernel
theorem dX6_backInto_4 : decode cX6_backInto 4 = .ok (.if_icmp .ge 24, 3) := by decide +kernel
theorem dX6_backInto_7 : decode cX6_backInto 7 = .ok (.aload_n 0, 1) := by decide +kernel
theorem dX6_backInto_8 : decode cX6_backInto 8 = .ok (.getfield 7, 3) := by decide +kernel
theorem dX6_backInto_11 : decode cX6_backInto 11 = .ok (.bipush 84, 2) := by decide +kernel
theorem dX6_backInto_13 : decode cX6_backInto 13 = .ok (.iload_n 2, 1) := by decide +kernel
theorem dX6_backInto_14 : decode cX6_backInto 14 = .ok (.iadd, 1) := by decide +kernel
theorem dX6_backInto_15 : decode cX6_backInto 15 = .ok (.iaload, 1) := by decide +kernel
theorem dX6_backInto_16 : decode cX6_backInto 16 = .ok (.iload_n 1, 1) := by decide +kernel
theorem dX6_backInto_17 : decode cX6_backInto 17 = .ok (.if_icmp .ne 5, 3) := by decide +kernel
theorem dX6_backInto_20 : decode cX6_backInto 20 = .ok (.iload_n 2, 1) := by decide +kernel
theorem dX6_backInto_21 : decode cX6_backInto 21 = .ok (.ireturn, 1) := by decide +kernel
theorem dX6_backInto_22 : decode cX6_backInto 22 = .ok (.iinc 2 1, 3) := by decide +kernel
theorem dX6_backInto_25 : decode cX6_backInto 25 = .ok (.goto (-23), 3) := by decide +kernel
theorem dX6_backInto_28 : decode cX6_backInto 28 = .ok (.bipush (-99), 2) := by decide +kernel
theorem dX6_backInto_30 : decode cX6_backInto 30 = .ok (.ireturn, 1) := by decide +kernel
theorem dX6_at_0 : decode cX6_at 0 = .ok (.iload_n 0, 1) := by decide +kernel
theorem dX6_at_1 : decode cX6_at 1 = .ok (.bipush 12, 2) := by decide +kernel
theorem dX6_at_3 : decode cX6_at 3 = .ok (.if_icmp .ge 11, 3) := by decide +kernel
theorem dX6_at_6 : decode cX6_at 6 = .ok (.iconst 5, 1) := by decide +kernel
theorem dX6_at_7 : decode cX6_at 7 = .ok (.iload_n 0, 1) := by decide +kernel
theorem dX6_at_8 : decode cX6_at 8 = .ok (.imul, 1) := by decide +kernel
theorem dX6_at_9 : decode cX6_at 9 = .ok (.iconst 1, 1) := by decide +kernel
theorem dX6_at_10 : decode cX6_at 10 = .ok (.iadd, 1) := by decide +kernel
theorem dX6_at_11 : decode cX6_at 11 = .ok (.goto 10, 3) := by decide +kernel
theorem dX6_at_14 : decode cX6_at 14 = .ok (.bipush 72, 2) := by decide +kernel
theorem dX6_at_16 : decode cX6_at 16 = .ok (.iload_n 0, 1) := by decide +kernel
theorem dX6_at_17 : decode cX6_at 17 = .ok (.iadd, 1) := by decide +kernel
theorem dX6_at_18 : decode cX6_at 18 = .ok (.bipush 12, 2) := by decide +kernel
theorem dX6_at_20 : decode cX6_at 20 = .ok (.isub, 1) := by decide +kernel
theorem dX6_at_21 : decode cX6_at 21 = .ok (.ireturn, 1) := by decide +kernel
set_option maxRecDepth 20000 in
theorem ggX6_isTouched_X6_has : GoodIn wsX6_isTouched wsX6_has := goodIn_r _ [5] (by decide +kernel) (by decide +kernel)
set_option maxRecDepth 20000 in
theorem gX6_isTouched_X6_has : GoodIn wsX6_isTouched (va_wsS RX6 51 yX6_has wsX6_has) := goodIn_app (goodIn_of _ (by decide +kernel)) ggX6_isTouched_X6_has
theorem dX6_isTouched_0 : decode cX6_isTouched 0 = .ok (.iload_n 1, 1) := by decide +kernel
theorem dX6_isTouched_1 : decode cX6_isTouched 1 = .ok (.bipush 12, 2) := by decide +kernel
theorem dX6_isTouched_3 : decode cX6_isTouched 3 = .ok (.if_icmp .ge 18, 3) := by decide +kernel
theorem dX6_isTouched_6 : decode cX6_isTouched 6 = .ok (.aload_n 0, 1) := by decide +kernel
theorem dX6_isTouched_7 : decode cX6_isTouched 7 = .ok (.getfield 7, 3) := by decide +kernel
theorem dX6_isTouched_10 : decode cX6_isTouched 10 = .ok (.sipush 179, 3) := by decide +kernel
theorem dX6_isTouched_13 : decode cX6_isTouched 13 = .ok (.iaload, 1) := by decide +kernel
theorem dX6_isTouched_14 : decode cX6_isTouched 14 = .ok (.iload_n 1, 1) := by decide +kernel
theorem dX6_isTouched_15 : decode cX6_isTouched 15 = .ok (.invokestatic 51, 3) := by decide +kernel
theorem dX6_isTouched_18 : decode cX6_isTouched 18 = .ok (.goto 18, 3) := by decide +kernel
theorem dX6_isTouched_21 : decode cX6_isTouched 21 = .ok (.aload_n 0, 1) := by decide +kernel
theorem dX6_isTouched_22 : decode cX6_isTouched 22 = .ok (.getfield 7, 3) := by decide +kernel
theorem dX6_isTouched_25 : decode cX6_isTouched 25 = .ok (.sipush 180, 3) := by decide +kernel
theorem dX6_isTouched_28 : decode cX6_isTouched 28 = .ok (.iaload, 1) := by decide +kernel
theorem dX6_isTouched_29 : decode cX6_isTouched 29 = .ok (.iload_n 1, 1) := by decide +kernel
theorem dX6_isTouched_30 : decode cX6_isTouched 30 = .ok (.bipush 12, 2) := by decide +kernel
theorem dX6_isTouched_32 : decode cX6_isTouched 32 = .ok (.isub, 1) := by decide +kernel
theorem dX6_isTouched_33 : decode cX6_isTouched 33 = .ok (.invokestatic 51, 3) := by decide +kernel
theorem dX6_isTouched_36 : decode cX6_isTouched 36 = .ok (.ireturn, 1) := by decide +kernel
set_option maxRecDepth 20000 in
theorem ggX6_muted_X6_of : GoodIn wsX6_muted wsX6_of := goodIn_r _ [5, 6, 7, 8, 9, 10, 11, 12, 13, 14, 15, 16, 17, 18, 19, 20, 21] (by decide +kernel) (by decide +kernel)
set_option maxRecDepth 20000 in
theorem gX6_muted_X6_of : GoodIn wsX6_muted (wsV RX6 43 RX6 yX6_of wsX6_of) := goodIn_app (goodIn_of _ (by decide +kernel)) ggX6_muted_X6_of
theorem dX6_muted_0 : decode cX6_muted 0 = .ok (.iconst 0, 1) := by decide +kernel
theorem dX6_muted_1 : decode cX6_muted 1 = .ok (.istore_n 1, 1) := by decide +kernel
theorem dX6_muted_2 : decode cX6_muted 2 = .ok (.iconst 0, 1) := by decide +kernel
theorem dX6_muted_3 : decode cX6_muted 3 = .ok (.istore_n 2, 1) := by decide +kernel
theorem dX6_muted_4 : decode cX6_muted 4 = .ok (.iload_n 2, 1) := by decide +kernel
theorem dX6_muted_5 : decode cX6_muted 5 = .ok (.bipush 12, 2) := by decide +kernel
theorem dX6_muted_7 : decode cX6_muted 7 = .ok (.if_icmp .ge 20, 3) := by decide +kernel
theorem dX6_muted_10 : decode cX6_muted 10 = .ok (.iload_n 1, 1) := by decide +kernel
theorem dX6_muted_11 : decode cX6_muted 11 = .ok (.aload_n 0, 1) := by decide +kernel
theorem dX6_muted_12 : decode cX6_muted 12 = .ok (.iload_n 2, 1) := by decide +kernel
theorem dX6_muted_13 : decode cX6_muted 13 = .ok (.iconst 2, 1) := by decide +kernel
theorem dX6_muted_14 : decode cX6_muted 14 = .ok (.invokevirtual 43, 3) := by decide +kernel
theorem dX6_muted_17 : decode cX6_muted 17 = .ok (.iload_n 2, 1) := by decide +kernel
theorem dX6_muted_18 : decode cX6_muted 18 = .ok (.ishl, 1) := by decide +kernel
theorem dX6_muted_19 : decode cX6_muted 19 = .ok (.ior, 1) := by decide +kernel
theorem dX6_muted_20 : decode cX6_muted 20 = .ok (.istore_n 1, 1) := by decide +kernel
theorem dX6_muted_21 : decode cX6_muted 21 = .ok (.iinc 2 1, 3) := by decide +kernel
theorem dX6_muted_24 : decode cX6_muted 24 = .ok (.goto (-20), 3) := by decide +kernel
theorem dX6_muted_27 : decode cX6_muted 27 = .ok (.iload_n 1, 1) := by decide +kernel
theorem dX6_muted_28 : decode cX6_muted 28 = .ok (.ireturn, 1) := by decide +kernel
set_option maxRecDepth 20000 in
theorem ggX6_mute_X6_has : GoodIn wsX6_mute wsX6_has := goodIn_r _ [5] (by decide +kernel) (by decide +kernel)
set_option maxRecDepth 20000 in
theorem gX6_mute_X6_has : GoodIn wsX6_mute (va_wsS RX6 51 yX6_has wsX6_has) := goodIn_app (goodIn_of _ (by decide +kernel)) ggX6_mute_X6_has
set_option maxRecDepth 20000 in
theorem ggX6_mute_X6_of : GoodIn wsX6_mute wsX6_of := goodIn_r _ [9, 1, 10, 11, 12, 13, 14, 15, 16, 17, 18, 19, 20, 21, 22, 23, 24] (by decide +kernel) (by decide +kernel)
set_option maxRecDepth 20000 in
theorem gX6_mute_X6_of : GoodIn wsX6_mute (wsV RX6 43 RX6 yX6_of wsX6_of) := goodIn_app (goodIn_of _ (by decide +kernel)) ggX6_mute_X6_of
theorem dX6_mute_0 : decode cX6_mute 0 = .ok (.iconst 0, 1) := by decide +kernel
theorem dX6_mute_1 : decode cX6_mute 1 = .ok (.istore_n 2, 1) := by decide +kernel
theorem dX6_mute_2 : decode cX6_mute 2 = .ok (.iload_n 2, 1) := by decide +kernel
theorem dX6_mute_3 : decode cX6_mute 3 = .ok (.bipush 12, 2) := by decide +kernel
theorem dX6_mute_5 : decode cX6_mute 5 = .ok (.if_icmp .ge 48, 3) := by decide +kernel
theorem dX6_mute_8 : decode cX6_mute 8 = .ok (.aload_n 0, 1) := by decide +kernel
theorem dX6_mute_9 : decode cX6_mute 9 = .ok (.getfield 7, 3) := by decide +kernel
theorem dX6_mute_12 : decode cX6_mute 12 = .ok (.iconst 5, 1) := by decide +kernel
theorem dX6_mute_13 : decode cX6_mute 13 = .ok (.iload_n 2, 1) := by decide +kernel
theorem dX6_mute_14 : decode cX6_mute 14 = .ok (.imul, 1) := by decide +kernel
theorem dX6_mute_15 : decode cX6_mute 15 = .ok (.iconst 2, 1) := by decide +kernel
theorem dX6_mute_16 : decode cX6_mute 16 = .ok (.iadd, 1) := by decide +kernel
theorem dX6_mute_17 : decode cX6_mute 17 = .ok (.aload_n 0, 1) := by decide +kernel
theorem dX6_mute_18 : decode cX6_mute 18 = .ok (.getfield 7, 3) := by decide +kernel
theorem dX6_mute_21 : decode cX6_mute 21 = .ok (.sipush 179, 3) := by decide +kernel
theorem dX6_mute_24 : decode cX6_mute 24 = .ok (.iaload, 1) := by decide +kernel
theorem dX6_mute_25 : decode cX6_mute 25 = .ok (.iload_n 2, 1) := by decide +kernel
theorem dX6_mute_26 : decode cX6_mute 26 = .ok (.invokestatic 51, 3) := by decide +kernel
theorem dX6_mute_29 : decode cX6_mute 29 = .ok (.ifCond .eq 12, 3) := by decide +kernel
theorem dX6_mute_32 : decode cX6_mute 32 = .ok (.aload_n 0, 1) := by decide +kernel
theorem dX6_mute_33 : decode cX6_mute 33 = .ok (.iload_n 2, 1) := by decide +kernel
theorem dX6_mute_34 : decode cX6_mute 34 = .ok (.iconst 2, 1) := by decide +kernel
theorem dX6_mute_35 : decode cX6_mute 35 = .ok (.invokevirtual 43, 3) := by decide +kernel
theorem dX6_mute_38 : decode cX6_mute 38 = .ok (.goto 8, 3) := by decide +kernel
theorem dX6_mute_41 : decode cX6_mute 41 = .ok (.iload_n 1, 1) := by decide +kernel
theorem dX6_mute_42 : decode cX6_mute 42 = .ok (.iload_n 2, 1) := by decide +kernel
theorem dX6_mute_43 : decode cX6_mute 43 = .ok (.ishr, 1) := by decide +kernel
theorem dX6_mute_44 : decode cX6_mute 44 = .ok (.iconst 1, 1) := by decide +kernel
theorem dX6_mute_45 : decode cX6_mute 45 = .ok (.iand, 1) := by decide +kernel
theorem dX6_mute_46 : decode cX6_mute 46 = .ok (.iastore, 1) := by decide +kernel
theorem dX6_mute_47 : decode cX6_mute 47 = .ok (.iinc 2 1, 3) := by decide +kernel
theorem dX6_mute_50 : decode cX6_mute 50 = .ok (.goto (-48), 3) := by decide +kernel
theorem dX6_mute_53 : decode cX6_mute 53 = .ok (.return_, 1) := by decide +kernel
set_option maxRecDepth 20000 in
theorem ggX6_fade_X6_isTouched : GoodIn wsX6_fade wsX6_isTouched := goodIn_r _ [6, 1, 7, 8, 5, 9, 21, 22, 23, 24, 25, 26, 27, 28, 29, 30, 31, 32, 33, 34, 35] (by decide +kernel) (by decide +kernel)
set_option maxRecDepth 20000 in
theorem gX6_fade_X6_isTouched : GoodIn wsX6_fade (wsV RX6 62 RX6 yX6_isTouched wsX6_isTouched) := goodIn_app (goodIn_of _ (by decide +kernel)) ggX6_fade_X6_isTouched
set_option maxRecDepth 20000 in
theorem ggX6_fade_X6_at : GoodIn wsX6_fade wsX6_at := goodIn_r _ [12] (by decide +kernel) (by decide +kernel)
set_option maxRecDepth 20000 in
theorem gX6_fade_X6_at : GoodIn wsX6_fade (va_wsS RX6 65 yX6_at wsX6_at) := goodIn_app (goodIn_of _ (by decide +kernel)) ggX6_fade_X6_at
set_option maxRecDepth 20000 in
theorem ggX6_fade_X6_mute : GoodIn wsX6_fade wsX6_mute := goodIn_r _ [16, 1, 7, 8, 5, 9, 17, 18, 19, 20, 21, 22, 23, 24, 25, 26, 27, 28, 29, 30, 31, 32, 33, 34, 35] (by decide +kernel) (by decide +kernel)
set_option maxRecDepth 20000 in
theorem gX6_fade_X6_mute : GoodIn wsX6_fade (wsV RX6 68 RX6 yX6_mute wsX6_mute) := goodIn_app (goodIn_of _ (by decide +kernel)) ggX6_fade_X6_mute
theorem dX6_fade_0 : decode cX6_fade 0 = .ok (.aload_n 0, 1) := by decide +kernel
theorem dX6_fade_1 : decode cX6_fade 1 = .ok (.getfield 7, 3) := by decide +kernel
theorem dX6_fade_4 : decode cX6_fade 4 = .ok (.sipush 144, 3) := by decide +kernel
theorem dX6_fade_7 : decode cX6_fade 7 = .ok (.dup2, 1) := by decide +kernel
theorem dX6_fade_8 : decode cX6_fade 8 = .ok (.iaload, 1) := by decide +kernel
theorem dX6_fade_9 : decode cX6_fade 9 = .ok (.iconst 1, 1) := by decide +kernel
theorem dX6_fade_10 : decode cX6_fade 10 = .ok (.iadd, 1) := by decide +kernel
theorem dX6_fade_11 : decode cX6_fade 11 = .ok (.iastore, 1) := by decide +kernel
theorem dX6_fade_12 : decode cX6_fade 12 = .ok (.aload_n 0, 1) := by decide +kernel
theorem dX6_fade_13 : decode cX6_fade 13 = .ok (.getfield 7, 3) := by decide +kernel
theorem dX6_fade_16 : decode cX6_fade 16 = .ok (.sipush 144, 3) := by decide +kernel
theorem dX6_fade_19 : decode cX6_fade 19 = .ok (.iaload, 1) := by decide +kernel
theorem dX6_fade_20 : decode cX6_fade 20 = .ok (.istore_n 1, 1) := by decide +kernel
theorem dX6_fade_21 : decode cX6_fade 21 = .ok (.aload_n 0, 1) := by decide +kernel
theorem dX6_fade_22 : decode cX6_fade 22 = .ok (.getfield 7, 3) := by decide +kernel
theorem dX6_fade_25 : decode cX6_fade 25 = .ok (.sipush 145, 3) := by decide +kernel
theorem dX6_fade_28 : decode cX6_fade 28 = .ok (.iaload, 1) := by decide +kernel
theorem dX6_fade_29 : decode cX6_fade 29 = .ok (.istore_n 2, 1) := by decide +kernel
theorem dX6_fade_30 : decode cX6_fade 30 = .ok (.iconst 0, 1) := by decide +kernel
theorem dX6_fade_31 : decode cX6_fade 31 = .ok (.istore_n 3, 1) := by decide +kernel
theorem dX6_fade_32 : decode cX6_fade 32 = .ok (.iload_n 3, 1) := by decide +kernel
theorem dX6_fade_33 : decode cX6_fade 33 = .ok (.bipush 16, 2) := by decide +kernel
theorem dX6_fade_35 : decode cX6_fade 35 = .ok (.if_icmp .ge 62, 3) := by decide +kernel
theorem dX6_fade_38 : decode cX6_fade 38 = .ok (.aload_n 0, 1) := by decide +kernel
theorem dX6_fade_39 : decode cX6_fade 39 = .ok (.iload_n 3, 1) := by decide +kernel
theorem dX6_fade_40 : decode cX6_fade 40 = .ok (.invokevirtual 62, 3) := by decide +kernel
theorem dX6_fade_43 : decode cX6_fade 43 = .ok (.ifCond .ne 48, 3) := by decide +kernel
theorem dX6_fade_46 : decode cX6_fade 46 = .ok (.aload_n 0, 1) := by decide +kernel
theorem dX6_fade_47 : decode cX6_fade 47 = .ok (.getfield 7, 3) := by decide +kernel
theorem dX6_fade_50 : decode cX6_fade 50 = .ok (.iload_n 3, 1) := by decide +kernel
theorem dX6_fade_51 : decode cX6_fade 51 = .ok (.invokestatic 65, 3) := by decide +kernel
theorem dX6_fade_54 : decode cX6_fade 54 = .ok (.aload_n 0, 1) := by decide +kernel
theorem dX6_fade_55 : decode cX6_fade 55 = .ok (.getfield 7, 3) := by decide +kernel
theorem dX6_fade_58 : decode cX6_fade 58 = .ok (.sipush 146, 3) := by decide +kernel
theorem dX6_fade_61 : decode cX6_fade 61 = .ok (.iload_n 3, 1) := by decide +kernel
theorem dX6_fade_62 : decode cX6_fade 62 = .ok (.iadd, 1) := by decide +kernel
theorem dX6_fade_63 : decode cX6_fade 63 = .ok (.iaload, 1) := by decide +kernel
theorem dX6_fade_64 : decode cX6_fade 64 = .ok (.aload_n 0, 1) := by decide +kernel
theorem dX6_fade_65 : decode cX6_fade 65 = .ok (.getfield 7, 3) := by decide +kernel
theorem dX6_fade_68 : decode cX6_fade 68 = .ok (.sipush 162, 3) := by decide +kernel
theorem dX6_fade_71 : decode cX6_fade 71 = .ok (.iload_n 3, 1) := by decide +kernel
theorem dX6_fade_72 : decode cX6_fade 72 = .ok (.iadd, 1) := by decide +kernel
theorem dX6_fade_73 : decode cX6_fade 73 = .ok (.iaload, 1) := by decide +kernel
theorem dX6_fade_74 : decode cX6_fade 74 = .ok (.aload_n 0, 1) := by decide +kernel
theorem dX6_fade_75 : decode cX6_fade 75 = .ok (.getfield 7, 3) := by decide +kernel
theorem dX6_fade_78 : decode cX6_fade 78 = .ok (.sipush 146, 3) := by decide +kernel
theorem dX6_fade_81 : decode cX6_fade 81 = .ok (.iload_n 3, 1) := by decide +kernel
theorem dX6_fade_82 : decode cX6_fade 82 = .ok (.iadd, 1) := by decide +kernel
theorem dX6_fade_83 : decode cX6_fade 83 = .ok (.iaload, 1) := by decide +kernel
theorem dX6_fade_84 : decode cX6_fade 84 = .ok (.isub, 1) := by decide +kernel
theorem dX6_fade_85 : decode cX6_fade 85 = .ok (.iload_n 1, 1) := by decide +kernel
theorem dX6_fade_86 : decode cX6_fade 86 = .ok (.imul, 1) := by decide +kernel
theorem dX6_fade_87 : decode cX6_fade 87 = .ok (.iload_n 2, 1) := by decide +kernel
theorem dX6_fade_88 : decode cX6_fade 88 = .ok (.idiv, 1) := by decide +kernel
theorem dX6_fade_89 : decode cX6_fade 89 = .ok (.iadd, 1) := by decide +kernel
theorem dX6_fade_90 : decode cX6_fade 90 = .ok (.iastore, 1) := by decide +kernel
theorem dX6_fade_91 : decode cX6_fade 91 = .ok (.iinc 3 1, 3) := by decide +kernel
theorem dX6_fade_94 : decode cX6_fade 94 = .ok (.goto (-62), 3) := by decide +kernel
theorem dX6_fade_97 : decode cX6_fade 97 = .ok (.iconst 2, 1) := by decide +kernel
theorem dX6_fade_98 : decode cX6_fade 98 = .ok (.iload_n 1, 1) := by decide +kernel
theorem dX6_fade_99 : decode cX6_fade 99 = .ok (.imul, 1) := by decide +kernel
theorem dX6_fade_100 : decode cX6_fade 100 = .ok (.iload_n 2, 1) := by decide +kernel
theorem dX6_fade_101 : decode cX6_fade 101 = .ok (.if_icmp .eq 12, 3) := by decide +kernel
theorem dX6_fade_104 : decode cX6_fade 104 = .ok (.iconst 2, 1) := by decide +kernel
theorem dX6_fade_105 : decode cX6_fade 105 = .ok (.iload_n 1, 1) := by decide +kernel
theorem dX6_fade_106 : decode cX6_fade 106 = .ok (.imul, 1) := by decide +kernel
theorem dX6_fade_107 : decode cX6_fade 107 = .ok (.iload_n 2, 1) := by decide +kernel
theorem dX6_fade_108 : decode cX6_fade 108 = .ok (.iconst 1, 1) := by decide +kernel
theorem dX6_fade_109 : decode cX6_fade 109 = .ok (.iadd, 1) := by decide +kernel
theorem dX6_fade_110 : decode cX6_fade 110 = .ok (.if_icmp .ne 15, 3) := by decide +kernel
theorem dX6_fade_113 : decode cX6_fade 113 = .ok (.aload_n 0, 1) := by decide +kernel
theorem dX6_fade_114 : decode cX6_fade 114 = .ok (.aload_n 0, 1) := by decide +kernel
theorem dX6_fade_115 : decode cX6_fade 115 = .ok (.getfield 7, 3) := by decide +kernel
theorem dX6_fade_118 : decode cX6_fade 118 = .ok (.sipush 178, 3) := by decide +kernel
theorem dX6_fade_121 : decode cX6_fade 121 = .ok (.iaload, 1) := by decide +kernel
theorem dX6_fade_122 : decode cX6_fade 122 = .ok (.invokevirtual 68, 3) := by decide +kernel
theorem dX6_fade_125 : decode cX6_fade 125 = .ok (.aload_n 0, 1) := by decide +kernel
theorem dX6_fade_126 : decode cX6_fade 126 = .ok (.getfield 7, 3) := by decide +kernel
theorem dX6_fade_129 : decode cX6_fade 129 = .ok (.sipush 144, 3) := by decide +kernel
theorem dX6_fade_132 : decode cX6_fade 132 = .ok (.iload_n 1, 1) := by decide +kernel
theorem dX6_fade_133 : decode cX6_fade 133 = .ok (.iload_n 2, 1) := by decide +kernel
theorem dX6_fade_134 : decode cX6_fade 134 = .ok (.if_icmp .ne 7, 3) := by decide +kernel
theorem dX6_fade_137 : decode cX6_fade 137 = .ok (.iconst (-1), 1) := by decide +kernel
theorem dX6_fade_138 : decode cX6_fade 138 = .ok (.goto 4, 3) := by decide +kernel
theorem dX6_fade_141 : decode cX6_fade 141 = .ok (.iload_n 1, 1) := by decide +kernel
theorem dX6_fade_142 : decode cX6_fade 142 = .ok (.iastore, 1) := by decide +kernel
theorem dX6_fade_143 : decode cX6_fade 143 = .ok (.return_, 1) := by decide +kernel
set_option maxRecDepth 20000 in
theorem ggX6_tick_X6_fade : GoodIn wsX6_tick wsX6_fade := goodIn_r _ [6, 1, 7, 8, 9, 5, 10, 11, 12, 13, 14, 15, 16, 17, 18, 19, 20, 21, 22, 23, 24, 52, 53, 54, 55, 56, 57, 58, 59, 60, 61, 62, 63, 64, 65, 66] (by decide +kernel) (by decide +kernel)
set_option maxRecDepth 20000 in
theorem gX6_tick_X6_fade : GoodIn wsX6_tick (wsV RX6 72 RX6 yX6_fade wsX6_fade) := goodIn_app (goodIn_of _ (by decide +kernel)) ggX6_tick_X6_fade
set_option maxRecDepth 20000 in
theorem ggX6_tick_X6_backInto : GoodIn wsX6_tick wsX6_backInto := goodIn_r _ [28, 1, 52, 53, 54, 55, 56, 57, 58, 59, 60, 61, 62, 63, 64, 65, 66] (by decide +kernel) (by decide +kernel)
set_option maxRecDepth 20000 in
theorem gX6_tick_X6_backInto : GoodIn wsX6_tick (wsV RX6 75 RX6 yX6_backInto wsX6_backInto) := goodIn_app (goodIn_of _ (by decide +kernel)) ggX6_tick_X6_backInto
set_option maxRecDepth 20000 in
theorem ggX6_tick_X6_of : GoodIn wsX6_tick wsX6_of := goodIn_r _ [24, 1, 52, 53, 54, 55, 56, 57, 58, 59, 60, 61, 62, 63, 64, 65, 66] (by decide +kernel) (by decide +kernel)
set_option maxRecDepth 20000 in
theorem gX6_tick_X6_of : GoodIn wsX6_tick (wsV RX6 43 RX6 yX6_of wsX6_of) := goodIn_app (goodIn_of _ (by decide +kernel)) ggX6_tick_X6_of
set_option maxRecDepth 20000 in
theorem ggX6_tick_X6_gain : GoodIn wsX6_tick wsX6_gain := goodIn_r _ [32, 1, 11, 12, 5, 13, 33, 34, 35, 36, 21, 22, 23, 24, 37, 38, 39, 40, 41, 42, 43, 44, 45, 46, 47, 48, 52, 53, 54, 55, 56, 57, 58, 59, 60, 61, 62, 63, 64, 65, 66] (by decide +kernel) (by decide +kernel)
set_option maxRecDepth 20000 in
theorem gX6_tick_X6_gain : GoodIn wsX6_tick (wsV RX6 78 RX6 yX6_gain wsX6_gain) := goodIn_app (goodIn_of _ (by decide +kernel)) ggX6_tick_X6_gain
set_option maxRecDepth 20000 in
theorem ggX6_tick_X6_level : GoodIn wsX6_tick wsX6_level := goodIn_r _ [36, 1, 21, 22, 23, 5, 24, 37, 38, 39, 40, 41, 42, 43, 44, 11, 12, 13, 52, 53, 54, 55, 56, 57, 58, 59, 60, 61, 62, 63, 64, 65, 66] (by decide +kernel) (by decide +kernel)
set_option maxRecDepth 20000 in
theorem gX6_tick_X6_level : GoodIn wsX6_tick (wsV RX6 55 RX6 yX6_level wsX6_level) := goodIn_app (goodIn_of _ (by decide +kernel)) ggX6_tick_X6_level
set_option maxRecDepth 20000 in
theorem ggX6_tick_X6_more : GoodIn wsX6_tick wsX6_more := goodIn_r _ [51] (by decide +kernel) (by decide +kernel)
set_option maxRecDepth 20000 in
theorem gX6_tick_X6_more : GoodIn wsX6_tick (va_wsS RX6 81 yX6_more wsX6_more) := goodIn_app (goodIn_of _ (by decide +kernel)) ggX6_tick_X6_more
theorem dX6_tick_0 : decode cX6_tick 0 = .ok (.aload_n 0, 1) := by decide +kernel
theorem dX6_tick_1 : decode cX6_tick 1 = .ok (.getfield 7, 3) := by decide +kernel
theorem dX6_tick_4 : decode cX6_tick 4 = .ok (.sipush 144, 3) := by decide +kernel
theorem dX6_tick_7 : decode cX6_tick 7 = .ok (.iaload, 1) := by decide +kernel
theorem dX6_tick_8 : decode cX6_tick 8 = .ok (.ifCond .lt 7, 3) := by decide +kernel
theorem dX6_tick_11 : decode cX6_tick 11 = .ok (.aload_n 0, 1) := by decide +kernel
theorem dX6_tick_12 : decode cX6_tick 12 = .ok (.invokevirtual 72, 3) := by decide +kernel
theorem dX6_tick_15 : decode cX6_tick 15 = .ok (.iconst 0, 1) := by decide +kernel
theorem dX6_tick_16 : decode cX6_tick 16 = .ok (.istore_n 1, 1) := by decide +kernel
theorem dX6_tick_17 : decode cX6_tick 17 = .ok (.iload_n 1, 1) := by decide +kernel
theorem dX6_tick_18 : decode cX6_tick 18 = .ok (.bipush 12, 2) := by decide +kernel
theorem dX6_tick_20 : decode cX6_tick 20 = .ok (.if_icmp .ge 66, 3) := by decide +kernel
theorem dX6_tick_23 : decode cX6_tick 23 = .ok (.aload_n 0, 1) := by decide +kernel
theorem dX6_tick_24 : decode cX6_tick 24 = .ok (.iload_n 1, 1) := by decide +kernel
theorem dX6_tick_25 : decode cX6_tick 25 = .ok (.invokevirtual 75, 3) := by decide +kernel
theorem dX6_tick_28 : decode cX6_tick 28 = .ok (.istore_n 2, 1) := by decide +kernel
theorem dX6_tick_29 : decode cX6_tick 29 = .ok (.aload_n 0, 1) := by decide +kernel
theorem dX6_tick_30 : decode cX6_tick 30 = .ok (.iload_n 1, 1) := by decide +kernel
theorem dX6_tick_31 : decode cX6_tick 31 = .ok (.iconst 0, 1) := by decide +kernel
theorem dX6_tick_32 : decode cX6_tick 32 = .ok (.invokevirtual 43, 3) := by decide +kernel
theorem dX6_tick_35 : decode cX6_tick 35 = .ok (.iload_n 2, 1) := by decide +kernel
theorem dX6_tick_36 : decode cX6_tick 36 = .ok (.bipush (-99), 2) := by decide +kernel
theorem dX6_tick_38 : decode cX6_tick 38 = .ok (.if_icmp .ne 7, 3) := by decide +kernel
theorem dX6_tick_41 : decode cX6_tick 41 = .ok (.iconst 0, 1) := by decide +kernel
theorem dX6_tick_42 : decode cX6_tick 42 = .ok (.goto 13, 3) := by decide +kernel
theorem dX6_tick_45 : decode cX6_tick 45 = .ok (.aload_n 0, 1) := by decide +kernel
theorem dX6_tick_46 : decode cX6_tick 46 = .ok (.getfield 7, 3) := by decide +kernel
theorem dX6_tick_49 : decode cX6_tick 49 = .ok (.sipush 136, 3) := by decide +kernel
theorem dX6_tick_52 : decode cX6_tick 52 = .ok (.iload_n 2, 1) := by decide +kernel
theorem dX6_tick_53 : decode cX6_tick 53 = .ok (.iadd, 1) := by decide +kernel
theorem dX6_tick_54 : decode cX6_tick 54 = .ok (.iaload, 1) := by decide +kernel
theorem dX6_tick_55 : decode cX6_tick 55 = .ok (.iadd, 1) := by decide +kernel
theorem dX6_tick_56 : decode cX6_tick 56 = .ok (.istore_n 3, 1) := by decide +kernel
theorem dX6_tick_57 : decode cX6_tick 57 = .ok (.aload_n 0, 1) := by decide +kernel
theorem dX6_tick_58 : decode cX6_tick 58 = .ok (.getfield 7, 3) := by decide +kernel
theorem dX6_tick_61 : decode cX6_tick 61 = .ok (.bipush 60, 2) := by decide +kernel
theorem dX6_tick_63 : decode cX6_tick 63 = .ok (.iload_n 1, 1) := by decide +kernel
theorem dX6_tick_64 : decode cX6_tick 64 = .ok (.iadd, 1) := by decide +kernel
theorem dX6_tick_65 : decode cX6_tick 65 = .ok (.iload_n 3, 1) := by decide +kernel
theorem dX6_tick_66 : decode cX6_tick 66 = .ok (.sipush 9999, 3) := by decide +kernel
theorem dX6_tick_69 : decode cX6_tick 69 = .ok (.if_icmp .le 9, 3) := by decide +kernel
theorem dX6_tick_72 : decode cX6_tick 72 = .ok (.sipush 9999, 3) := by decide +kernel
theorem dX6_tick_75 : decode cX6_tick 75 = .ok (.goto 4, 3) := by decide +kernel
theorem dX6_tick_78 : decode cX6_tick 78 = .ok (.iload_n 3, 1) := by decide +kernel
theorem dX6_tick_79 : decode cX6_tick 79 = .ok (.iastore, 1) := by decide +kernel
theorem dX6_tick_80 : decode cX6_tick 80 = .ok (.iinc 1 1, 3) := by decide +kernel
theorem dX6_tick_83 : decode cX6_tick 83 = .ok (.goto (-66), 3) := by decide +kernel
theorem dX6_tick_86 : decode cX6_tick 86 = .ok (.iconst 0, 1) := by decide +kernel
theorem dX6_tick_87 : decode cX6_tick 87 = .ok (.istore_n 1, 1) := by decide +kernel
theorem dX6_tick_88 : decode cX6_tick 88 = .ok (.iload_n 1, 1) := by decide +kernel
theorem dX6_tick_89 : decode cX6_tick 89 = .ok (.iconst 4, 1) := by decide +kernel
theorem dX6_tick_90 : decode cX6_tick 90 = .ok (.if_icmp .ge 94, 3) := by decide +kernel
theorem dX6_tick_93 : decode cX6_tick 93 = .ok (.iconst 0, 1) := by decide +kernel
theorem dX6_tick_94 : decode cX6_tick 94 = .ok (.istore_n 2, 1) := by decide +kernel
theorem dX6_tick_95 : decode cX6_tick 95 = .ok (.iconst 0, 1) := by decide +kernel
theorem dX6_tick_96 : decode cX6_tick 96 = .ok (.istore_n 3, 1) := by decide +kernel
theorem dX6_tick_97 : decode cX6_tick 97 = .ok (.iload_n 3, 1) := by decide +kernel
theorem dX6_tick_98 : decode cX6_tick 98 = .ok (.bipush 12, 2) := by decide +kernel
theorem dX6_tick_100 : decode cX6_tick 100 = .ok (.if_icmp .ge 31, 3) := by decide +kernel
theorem dX6_tick_103 : decode cX6_tick 103 = .ok (.iload_n 2, 1) := by decide +kernel
theorem dX6_tick_104 : decode cX6_tick 104 = .ok (.aload_n 0, 1) := by decide +kernel
theorem dX6_tick_105 : decode cX6_tick 105 = .ok (.getfield 7, 3) := by decide +kernel
theorem dX6_tick_108 : decode cX6_tick 108 = .ok (.bipush 60, 2) := by decide +kernel
theorem dX6_tick_110 : decode cX6_tick 110 = .ok (.iload_n 3, 1) := by decide +kernel
theorem dX6_tick_111 : decode cX6_tick 111 = .ok (.iadd, 1) := by decide +kernel
theorem dX6_tick_112 : decode cX6_tick 112 = .ok (.iaload, 1) := by decide +kernel
theorem dX6_tick_113 : decode cX6_tick 113 = .ok (.aload_n 0, 1) := by decide +kernel
theorem dX6_tick_114 : decode cX6_tick 114 = .ok (.iload_n 1, 1) := by decide +kernel
theorem dX6_tick_115 : decode cX6_tick 115 = .ok (.iload_n 3, 1) := by decide +kernel
theorem dX6_tick_116 : decode cX6_tick 116 = .ok (.invokevirtual 78, 3) := by decide +kernel
theorem dX6_tick_119 : decode cX6_tick 119 = .ok (.imul, 1) := by decide +kernel
theorem dX6_tick_120 : decode cX6_tick 120 = .ok (.bipush 100, 2) := by decide +kernel
theorem dX6_tick_122 : decode cX6_tick 122 = .ok (.idiv, 1) := by decide +kernel
theorem dX6_tick_123 : decode cX6_tick 123 = .ok (.iadd, 1) := by decide +kernel
theorem dX6_tick_124 : decode cX6_tick 124 = .ok (.istore_n 2, 1) := by decide +kernel
theorem dX6_tick_125 : decode cX6_tick 125 = .ok (.iinc 3 1, 3) := by decide +kernel
theorem dX6_tick_128 : decode cX6_tick 128 = .ok (.goto (-31), 3) := by decide +kernel
theorem dX6_tick_131 : decode cX6_tick 131 = .ok (.aload_n 0, 1) := by decide +kernel
theorem dX6_tick_132 : decode cX6_tick 132 = .ok (.getfield 7, 3) := by decide +kernel
theorem dX6_tick_135 : decode cX6_tick 135 = .ok (.sipush 136, 3) := by decide +kernel
theorem dX6_tick_138 : decode cX6_tick 138 = .ok (.iload_n 1, 1) := by decide +kernel
theorem dX6_tick_139 : decode cX6_tick 139 = .ok (.iadd, 1) := by decide +kernel
theorem dX6_tick_140 : decode cX6_tick 140 = .ok (.iload_n 2, 1) := by decide +kernel
theorem dX6_tick_141 : decode cX6_tick 141 = .ok (.sipush 9999, 3) := by decide +kernel
theorem dX6_tick_144 : decode cX6_tick 144 = .ok (.if_icmp .le 9, 3) := by decide +kernel
theorem dX6_tick_147 : decode cX6_tick 147 = .ok (.sipush 9999, 3) := by decide +kernel
theorem dX6_tick_150 : decode cX6_tick 150 = .ok (.goto 4, 3) := by decide +kernel
theorem dX6_tick_153 : decode cX6_tick 153 = .ok (.iload_n 2, 1) := by decide +kernel
theorem dX6_tick_154 : decode cX6_tick 154 = .ok (.iastore, 1) := by decide +kernel
theorem dX6_tick_155 : decode cX6_tick 155 = .ok (.aload_n 0, 1) := by decide +kernel
theorem dX6_tick_156 : decode cX6_tick 156 = .ok (.getfield 7, 3) := by decide +kernel
theorem dX6_tick_159 : decode cX6_tick 159 = .ok (.sipush 143, 3) := by decide +kernel
theorem dX6_tick_162 : decode cX6_tick 162 = .ok (.dup2, 1) := by decide +kernel
theorem dX6_tick_163 : decode cX6_tick 163 = .ok (.iaload, 1) := by decide +kernel
theorem dX6_tick_164 : decode cX6_tick 164 = .ok (.iload_n 2, 1) := by decide +kernel
theorem dX6_tick_165 : decode cX6_tick 165 = .ok (.sipush 9999, 3) := by decide +kernel
theorem dX6_tick_168 : decode cX6_tick 168 = .ok (.if_icmp .le 7, 3) := by decide +kernel
theorem dX6_tick_171 : decode cX6_tick 171 = .ok (.iconst 1, 1) := by decide +kernel
theorem dX6_tick_172 : decode cX6_tick 172 = .ok (.goto 4, 3) := by decide +kernel
theorem dX6_tick_175 : decode cX6_tick 175 = .ok (.iconst 0, 1) := by decide +kernel
theorem dX6_tick_176 : decode cX6_tick 176 = .ok (.iadd, 1) := by decide +kernel
theorem dX6_tick_177 : decode cX6_tick 177 = .ok (.iastore, 1) := by decide +kernel
theorem dX6_tick_178 : decode cX6_tick 178 = .ok (.iinc 1 1, 3) := by decide +kernel
theorem dX6_tick_181 : decode cX6_tick 181 = .ok (.goto (-93), 3) := by decide +kernel
theorem dX6_tick_184 : decode cX6_tick 184 = .ok (.iconst 0, 1) := by decide +kernel
theorem dX6_tick_185 : decode cX6_tick 185 = .ok (.istore_n 1, 1) := by decide +kernel
theorem dX6_tick_186 : decode cX6_tick 186 = .ok (.iconst 0, 1) := by decide +kernel
theorem dX6_tick_187 : decode cX6_tick 187 = .ok (.istore_n 2, 1) := by decide +kernel
theorem dX6_tick_188 : decode cX6_tick 188 = .ok (.iload_n 2, 1) := by decide +kernel
theorem dX6_tick_189 : decode cX6_tick 189 = .ok (.bipush 12, 2) := by decide +kernel
theorem dX6_tick_191 : decode cX6_tick 191 = .ok (.if_icmp .ge 30, 3) := by decide +kernel
theorem dX6_tick_194 : decode cX6_tick 194 = .ok (.iload_n 1, 1) := by decide +kernel
theorem dX6_tick_195 : decode cX6_tick 195 = .ok (.aload_n 0, 1) := by decide +kernel
theorem dX6_tick_196 : decode cX6_tick 196 = .ok (.getfield 7, 3) := by decide +kernel
theorem dX6_tick_199 : decode cX6_tick 199 = .ok (.bipush 60, 2) := by decide +kernel
theorem dX6_tick_201 : decode cX6_tick 201 = .ok (.iload_n 2, 1) := by decide +kernel
theorem dX6_tick_202 : decode cX6_tick 202 = .ok (.iadd, 1) := by decide +kernel
theorem dX6_tick_203 : decode cX6_tick 203 = .ok (.iaload, 1) := by decide +kernel
theorem dX6_tick_204 : decode cX6_tick 204 = .ok (.aload_n 0, 1) := by decide +kernel
theorem dX6_tick_205 : decode cX6_tick 205 = .ok (.iload_n 2, 1) := by decide +kernel
theorem dX6_tick_206 : decode cX6_tick 206 = .ok (.invokevirtual 55, 3) := by decide +kernel
theorem dX6_tick_209 : decode cX6_tick 209 = .ok (.imul, 1) := by decide +kernel
theorem dX6_tick_210 : decode cX6_tick 210 = .ok (.bipush 100, 2) := by decide +kernel
theorem dX6_tick_212 : decode cX6_tick 212 = .ok (.idiv, 1) := by decide +kernel
theorem dX6_tick_213 : decode cX6_tick 213 = .ok (.iadd, 1) := by decide +kernel
theorem dX6_tick_214 : decode cX6_tick 214 = .ok (.istore_n 1, 1) := by decide +kernel
theorem dX6_tick_215 : decode cX6_tick 215 = .ok (.iinc 2 1, 3) := by decide +kernel
theorem dX6_tick_218 : decode cX6_tick 218 = .ok (.goto (-30), 3) := by decide +kernel
theorem dX6_tick_221 : decode cX6_tick 221 = .ok (.aload_n 0, 1) := by decide +kernel
theorem dX6_tick_222 : decode cX6_tick 222 = .ok (.getfield 7, 3) := by decide +kernel
theorem dX6_tick_225 : decode cX6_tick 225 = .ok (.sipush 141, 3) := by decide +kernel
theorem dX6_tick_228 : decode cX6_tick 228 = .ok (.iload_n 1, 1) := by decide +kernel
theorem dX6_tick_229 : decode cX6_tick 229 = .ok (.iastore, 1) := by decide +kernel
theorem dX6_tick_230 : decode cX6_tick 230 = .ok (.aload_n 0, 1) := by decide +kernel
theorem dX6_tick_231 : decode cX6_tick 231 = .ok (.getfield 7, 3) := by decide +kernel
theorem dX6_tick_234 : decode cX6_tick 234 = .ok (.sipush 142, 3) := by decide +kernel
theorem dX6_tick_237 : decode cX6_tick 237 = .ok (.aload_n 0, 1) := by decide +kernel
theorem dX6_tick_238 : decode cX6_tick 238 = .ok (.getfield 7, 3) := by decide +kernel
theorem dX6_tick_241 : decode cX6_tick 241 = .ok (.sipush 142, 3) := by decide +kernel
theorem dX6_tick_244 : decode cX6_tick 244 = .ok (.iaload, 1) := by decide +kernel
theorem dX6_tick_245 : decode cX6_tick 245 = .ok (.iload_n 1, 1) := by decide +kernel
theorem dX6_tick_246 : decode cX6_tick 246 = .ok (.invokestatic 81, 3) := by decide +kernel
theorem dX6_tick_249 : decode cX6_tick 249 = .ok (.iastore, 1) := by decide +kernel
theorem dX6_tick_250 : decode cX6_tick 250 = .ok (.aload_n 0, 1) := by decide +kernel
theorem dX6_tick_251 : decode cX6_tick 251 = .ok (.getfield 7, 3) := by decide +kernel
theorem dX6_tick_254 : decode cX6_tick 254 = .ok (.sipush 140, 3) := by decide +kernel
theorem dX6_tick_257 : decode cX6_tick 257 = .ok (.dup2, 1) := by decide +kernel
theorem dX6_tick_258 : decode cX6_tick 258 = .ok (.iaload, 1) := by decide +kernel
theorem dX6_tick_259 : decode cX6_tick 259 = .ok (.iconst 1, 1) := by decide +kernel
theorem dX6_tick_260 : decode cX6_tick 260 = .ok (.iadd, 1) := by decide +kernel
theorem dX6_tick_261 : decode cX6_tick 261 = .ok (.iastore, 1) := by decide +kernel
theorem dX6_tick_262 : decode cX6_tick 262 = .ok (.return_, 1) := by decide +kernel
set_option maxRecDepth 20000 in
theorem ggX6_isPart_X6_in : GoodIn wsX6_isPart wsX6_in := goodIn_r _ [4] (by decide +kernel) (by decide +kernel)
set_option maxRecDepth 20000 in
theorem gX6_isPart_X6_in : GoodIn wsX6_isPart (va_wsS RX6 35 yX6_in wsX6_in) := goodIn_app (goodIn_of _ (by decide +kernel)) ggX6_isPart_X6_in
theorem dX6_isPart_0 : decode cX6_isPart 0 = .ok (.iload_n 0, 1) := by decide +kernel
theorem dX6_isPart_1 : decode cX6_isPart 1 = .ok (.tableswitch 67 0 4 #[35, 44, 52, 52, 59], 35) := by decide +kernel
theorem dX6_isPart_36 : decode cX6_isPart 36 = .ok (.iload_n 1, 1) := by decide +kernel
theorem dX6_isPart_37 : decode cX6_isPart 37 = .ok (.iconst 0, 1) := by decide +kernel
theorem dX6_isPart_38 : decode cX6_isPart 38 = .ok (.sipush 1000, 3) := by decide +kernel
theorem dX6_isPart_41 : decode cX6_isPart 41 = .ok (.invokestatic 35, 3) := by decide +kernel
theorem dX6_isPart_44 : decode cX6_isPart 44 = .ok (.ireturn, 1) := by decide +kernel
theorem dX6_isPart_45 : decode cX6_isPart 45 = .ok (.iload_n 1, 1) := by decide +kernel
theorem dX6_isPart_46 : decode cX6_isPart 46 = .ok (.iconst 0, 1) := by decide +kernel
theorem dX6_isPart_47 : decode cX6_isPart 47 = .ok (.bipush 100, 2) := by decide +kernel
theorem dX6_isPart_49 : decode cX6_isPart 49 = .ok (.invokestatic 35, 3) := by decide +kernel
theorem dX6_isPart_52 : decode cX6_isPart 52 = .ok (.ireturn, 1) := by decide +kernel
theorem dX6_isPart_53 : decode cX6_isPart 53 = .ok (.iload_n 1, 1) := by decide +kernel
theorem dX6_isPart_54 : decode cX6_isPart 54 = .ok (.iconst 0, 1) := by decide +kernel
theorem dX6_isPart_55 : decode cX6_isPart 55 = .ok (.iconst 1, 1) := by decide +kernel
theorem dX6_isPart_56 : decode cX6_isPart 56 = .ok (.invokestatic 35, 3) := by decide +kernel
theorem dX6_isPart_59 : decode cX6_isPart 59 = .ok (.ireturn, 1) := by decide +kernel
theorem dX6_isPart_60 : decode cX6_isPart 60 = .ok (.iload_n 1, 1) := by decide +kernel
theorem dX6_isPart_61 : decode cX6_isPart 61 = .ok (.iconst 0, 1) := by decide +kernel
theorem dX6_isPart_62 : decode cX6_isPart 62 = .ok (.bipush 15, 2) := by decide +kernel
theorem dX6_isPart_64 : decode cX6_isPart 64 = .ok (.invokestatic 35, 3) := by decide +kernel
theorem dX6_isPart_67 : decode cX6_isPart 67 = .ok (.ireturn, 1) := by decide +kernel
theorem dX6_isPart_68 : decode cX6_isPart 68 = .ok (.iconst 0, 1) := by decide +kernel
theorem dX6_isPart_69 : decode cX6_isPart 69 = .ok (.ireturn, 1) := by decide +kernel
theorem dX6_setByHand_0 : decode cX6_setByHand 0 = .ok (.aload_n 0, 1) := by decide +kernel
theorem dX6_setByHand_1 : decode cX6_setByHand 1 = .ok (.getfield 7, 3) := by decide +kernel
theorem dX6_setByHand_4 : decode cX6_setByHand 4 = .ok (.iconst 5, 1) := by decide +kernel
theorem dX6_setByHand_5 : decode cX6_setByHand 5 = .ok (.iload_n 1, 1) := by decide +kernel
theorem dX6_setByHand_6 : decode cX6_setByHand 6 = .ok (.imul, 1) := by decide +kernel
theorem dX6_setByHand_7 : decode cX6_setByHand 7 = .ok (.iload_n 2, 1) := by decide +kernel
theorem dX6_setByHand_8 : decode cX6_setByHand 8 = .ok (.iadd, 1) := by decide +kernel
theorem dX6_setByHand_9 : decode cX6_setByHand 9 = .ok (.iload_n 3, 1) := by decide +kernel
theorem dX6_setByHand_10 : decode cX6_setByHand 10 = .ok (.iastore, 1) := by decide +kernel
theorem dX6_setByHand_11 : decode cX6_setByHand 11 = .ok (.aload_n 0, 1) := by decide +kernel
theorem dX6_setByHand_12 : decode cX6_setByHand 12 = .ok (.getfield 7, 3) := by decide +kernel
theorem dX6_setByHand_15 : decode cX6_setByHand 15 = .ok (.sipush 179, 3) := by decide +kernel
theorem dX6_setByHand_18 : decode cX6_setByHand 18 = .ok (.dup2, 1) := by decide +kernel
theorem dX6_setByHand_19 : decode cX6_setByHand 19 = .ok (.iaload, 1) := by decide +kernel
theorem dX6_setByHand_20 : decode cX6_setByHand 20 = .ok (.aload_n 0, 1) := by decide +kernel
theorem dX6_setByHand_21 : decode cX6_setByHand 21 = .ok (.getfield 7, 3) := by decide +kernel
theorem dX6_setByHand_24 : decode cX6_setByHand 24 = .ok (.sipush 144, 3) := by decide +kernel
theorem dX6_setByHand_27 : decode cX6_setByHand 27 = .ok (.iaload, 1) := by decide +kernel
theorem dX6_setByHand_28 : decode cX6_setByHand 28 = .ok (.ifCond .lt 19, 3) := by decide +kernel
theorem dX6_setByHand_31 : decode cX6_setByHand 31 = .ok (.iload_n 2, 1) := by decide +kernel
theorem dX6_setByHand_32 : decode cX6_setByHand 32 = .ok (.iconst 1, 1) := by decide +kernel
theorem dX6_setByHand_33 : decode cX6_setByHand 33 = .ok (.if_icmp .eq 8, 3) := by decide +kernel
theorem dX6_setByHand_36 : decode cX6_setByHand 36 = .ok (.iload_n 2, 1) := by decide +kernel
theorem dX6_setByHand_37 : decode cX6_setByHand 37 = .ok (.iconst 2, 1) := by decide +kernel
theorem dX6_setByHand_38 : decode cX6_setByHand 38 = .ok (.if_icmp .ne 9, 3) := by decide +kernel
theorem dX6_setByHand_41 : decode cX6_setByHand 41 = .ok (.iconst 1, 1) := by decide +kernel
theorem dX6_setByHand_42 : decode cX6_setByHand 42 = .ok (.iload_n 1, 1) := by decide +kernel
theorem dX6_setByHand_43 : decode cX6_setByHand 43 = .ok (.ishl, 1) := by decide +kernel
theorem dX6_setByHand_44 : decode cX6_setByHand 44 = .ok (.goto 4, 3) := by decide +kernel
theorem dX6_setByHand_47 : decode cX6_setByHand 47 = .ok (.iconst 0, 1) := by decide +kernel
theorem dX6_setByHand_48 : decode cX6_setByHand 48 = .ok (.ior, 1) := by decide +kernel
theorem dX6_setByHand_49 : decode cX6_setByHand 49 = .ok (.iastore, 1) := by decide +kernel
theorem dX6_setByHand_50 : decode cX6_setByHand 50 = .ok (.return_, 1) := by decide +kernel
set_option maxRecDepth 20000 in
theorem ggX6_setChannel_X6_isChannel : GoodIn wsX6_setChannel wsX6_isChannel := goodIn_r _ [5, 6, 7, 4, 8] (by decide +kernel) (by decide +kernel)
set_option maxRecDepth 20000 in
theorem gX6_setChannel_X6_isChannel : GoodIn wsX6_setChannel (va_wsS RX6 84 yX6_isChannel wsX6_isChannel) := goodIn_app (goodIn_of _ (by decide +kernel)) ggX6_setChannel_X6_isChannel
set_option maxRecDepth 20000 in
theorem ggX6_setChannel_X6_isPart : GoodIn wsX6_setChannel wsX6_isPart := goodIn_r _ [11, 6, 7, 4, 8] (by decide +kernel) (by decide +kernel)
set_option maxRecDepth 20000 in
theorem gX6_setChannel_X6_isPart : GoodIn wsX6_setChannel (va_wsS RX6 87 yX6_isPart wsX6_isPart) := goodIn_app (goodIn_of _ (by decide +kernel)) ggX6_setChannel_X6_isPart
set_option maxRecDepth 20000 in
theorem ggX6_setChannel_X6_act : GoodIn wsX6_setChannel wsX6_act := goodIn_r _ [15, 16, 17, 18, 27, 28, 29, 30, 31, 32, 33, 34, 35, 36, 37, 38, 39, 40, 41] (by decide +kernel) (by decide +kernel)
set_option maxRecDepth 20000 in
theorem gX6_setChannel_X6_act : GoodIn wsX6_setChannel (wsV RX6 90 RX6 yX6_act wsX6_act) := goodIn_app (goodIn_of _ (by decide +kernel)) ggX6_setChannel_X6_act
set_option maxRecDepth 20000 in
theorem ggX6_setChannel_X6_of : GoodIn wsX6_setChannel wsX6_of := goodIn_r _ [22, 18, 27, 28, 29, 30, 31, 32, 33, 34, 35, 36, 37, 38, 39, 40, 41] (by decide +kernel) (by decide +kernel)
set_option maxRecDepth 20000 in
theorem gX6_setChannel_X6_of : GoodIn wsX6_setChannel (wsV RX6 43 RX6 yX6_of wsX6_of) := goodIn_app (goodIn_of _ (by decide +kernel)) ggX6_setChannel_X6_of
set_option maxRecDepth 20000 in
theorem ggX6_setChannel_X6_setByHand : GoodIn wsX6_setChannel wsX6_setByHand := goodIn_r _ [26, 18, 27, 28, 29, 30, 31, 32, 33, 34, 35, 36, 37, 38, 39, 40, 41] (by decide +kernel) (by decide +kernel)
set_option maxRecDepth 20000 in
theorem gX6_setChannel_X6_setByHand : GoodIn wsX6_setChannel (wsV RX6 93 RX6 yX6_setByHand wsX6_setByHand) := goodIn_app (goodIn_of _ (by decide +kernel)) ggX6_setChannel_X6_setByHand
theorem dX6_setChannel_0 : decode cX6_setChannel 0 = .ok (.aload_n 0, 1) := by decide +kernel
theorem dX6_setChannel_1 : decode cX6_setChannel 1 = .ok (.iconst 0, 1) := by decide +kernel
theorem dX6_setChannel_2 : decode cX6_setChannel 2 = .ok (.putfield 28, 3) := by decide +kernel
theorem dX6_setChannel_5 : decode cX6_setChannel 5 = .ok (.iload_n 1, 1) := by decide +kernel
theorem dX6_setChannel_6 : decode cX6_setChannel 6 = .ok (.invokestatic 84, 3) := by decide +kernel
theorem dX6_setChannel_9 : decode cX6_setChannel 9 = .ok (.ifCond .eq 11, 3) := by decide +kernel
theorem dX6_setChannel_12 : decode cX6_setChannel 12 = .ok (.iload_n 2, 1) := by decide +kernel
theorem dX6_setChannel_13 : decode cX6_setChannel 13 = .ok (.iload_n 3, 1) := by decide +kernel
theorem dX6_setChannel_14 : decode cX6_setChannel 14 = .ok (.invokestatic 87, 3) := by decide +kernel
theorem dX6_setChannel_17 : decode cX6_setChannel 17 = .ok (.ifCond .ne 5, 3) := by decide +kernel
theorem dX6_setChannel_20 : decode cX6_setChannel 20 = .ok (.iconst (-1), 1) := by decide +kernel
theorem dX6_setChannel_21 : decode cX6_setChannel 21 = .ok (.ireturn, 1) := by decide +kernel
theorem dX6_setChannel_22 : decode cX6_setChannel 22 = .ok (.aload_n 0, 1) := by decide +kernel
theorem dX6_setChannel_23 : decode cX6_setChannel 23 = .ok (.invokevirtual 90, 3) := by decide +kernel
theorem dX6_setChannel_26 : decode cX6_setChannel 26 = .ok (.aload_n 0, 1) := by decide +kernel
theorem dX6_setChannel_27 : decode cX6_setChannel 27 = .ok (.iload_n 1, 1) := by decide +kernel
theorem dX6_setChannel_28 : decode cX6_setChannel 28 = .ok (.iload_n 2, 1) := by decide +kernel
theorem dX6_setChannel_29 : decode cX6_setChannel 29 = .ok (.invokevirtual 43, 3) := by decide +kernel
theorem dX6_setChannel_32 : decode cX6_setChannel 32 = .ok (.istore 4, 2) := by decide +kernel
theorem dX6_setChannel_34 : decode cX6_setChannel 34 = .ok (.aload_n 0, 1) := by decide +kernel
theorem dX6_setChannel_35 : decode cX6_setChannel 35 = .ok (.iload_n 1, 1) := by decide +kernel
theorem dX6_setChannel_36 : decode cX6_setChannel 36 = .ok (.iload_n 2, 1) := by decide +kernel
theorem dX6_setChannel_37 : decode cX6_setChannel 37 = .ok (.iload_n 3, 1) := by decide +kernel
theorem dX6_setChannel_38 : decode cX6_setChannel 38 = .ok (.invokevirtual 93, 3) := by decide +kernel
theorem dX6_setChannel_41 : decode cX6_setChannel 41 = .ok (.iload 4, 2) := by decide +kernel
theorem dX6_setChannel_43 : decode cX6_setChannel 43 = .ok (.ireturn, 1) := by decide +kernel
set_option maxRecDepth 20000 in
theorem ggX6_setGroup_X6_isFour : GoodIn wsX6_setGroup wsX6_isFour := goodIn_r _ [6, 7, 8, 5, 9] (by decide +kernel) (by decide +kernel)
set_option maxRecDepth 20000 in
theorem gX6_setGroup_X6_isFour : GoodIn wsX6_setGroup (va_wsS RX6 97 yX6_isFour wsX6_isFour) := goodIn_app (goodIn_of _ (by decide +kernel)) ggX6_setGroup_X6_isFour
set_option maxRecDepth 20000 in
theorem ggX6_setGroup_X6_in : GoodIn wsX6_setGroup wsX6_in := goodIn_r _ [9] (by decide +kernel) (by decide +kernel)
set_option maxRecDepth 20000 in
theorem gX6_setGroup_X6_in : GoodIn wsX6_setGroup (va_wsS RX6 35 yX6_in wsX6_in) := goodIn_app (goodIn_of _ (by decide +kernel)) ggX6_setGroup_X6_in
set_option maxRecDepth 20000 in
theorem ggX6_setGroup_X6_act : GoodIn wsX6_setGroup wsX6_act := goodIn_r _ [13, 14, 15, 2, 16, 17, 18, 19, 20, 21, 22, 23, 24, 25, 26, 27, 28, 29, 30] (by decide +kernel) (by decide +kernel)
set_option maxRecDepth 20000 in
theorem gX6_setGroup_X6_act : GoodIn wsX6_setGroup (wsV RX6 90 RX6 yX6_act wsX6_act) := goodIn_app (goodIn_of _ (by decide +kernel)) ggX6_setGroup_X6_act
theorem dX6_setGroup_0 : decode cX6_setGroup 0 = .ok (.aload_n 0, 1) := by decide +kernel
theorem dX6_setGroup_1 : decode cX6_setGroup 1 = .ok (.iconst 0, 1) := by decide +kernel
theorem dX6_setGroup_2 : decode cX6_setGroup 2 = .ok (.putfield 28, 3) := by decide +kernel
theorem dX6_setGroup_5 : decode cX6_setGroup 5 = .ok (.iload_n 1, 1) := by decide +kernel
theorem dX6_setGroup_6 : decode cX6_setGroup 6 = .ok (.invokestatic 97, 3) := by decide +kernel
theorem dX6_setGroup_9 : decode cX6_setGroup 9 = .ok (.ifCond .eq 30, 3) := by decide +kernel
theorem dX6_setGroup_12 : decode cX6_setGroup 12 = .ok (.iload_n 2, 1) := by decide +kernel
theorem dX6_setGroup_13 : decode cX6_setGroup 13 = .ok (.iconst 0, 1) := by decide +kernel
theorem dX6_setGroup_14 : decode cX6_setGroup 14 = .ok (.iconst 1, 1) := by decide +kernel
theorem dX6_setGroup_15 : decode cX6_setGroup 15 = .ok (.invokestatic 35, 3) := by decide +kernel
theorem dX6_setGroup_18 : decode cX6_setGroup 18 = .ok (.ifCond .eq 21, 3) := by decide +kernel
theorem dX6_setGroup_21 : decode cX6_setGroup 21 = .ok (.iload_n 3, 1) := by decide +kernel
theorem dX6_setGroup_22 : decode cX6_setGroup 22 = .ok (.iconst 0, 1) := by decide +kernel
theorem dX6_setGroup_23 : decode cX6_setGroup 23 = .ok (.iload_n 2, 1) := by decide +kernel
theorem dX6_setGroup_24 : decode cX6_setGroup 24 = .ok (.ifCond .ne 8, 3) := by decide +kernel
theorem dX6_setGroup_27 : decode cX6_setGroup 27 = .ok (.bipush 100, 2) := by decide +kernel
theorem dX6_setGroup_29 : decode cX6_setGroup 29 = .ok (.goto 4, 3) := by decide +kernel
theorem dX6_setGroup_32 : decode cX6_setGroup 32 = .ok (.iconst 1, 1) := by decide +kernel
theorem dX6_setGroup_33 : decode cX6_setGroup 33 = .ok (.invokestatic 35, 3) := by decide +kernel
theorem dX6_setGroup_36 : decode cX6_setGroup 36 = .ok (.ifCond .ne 5, 3) := by decide +kernel
theorem dX6_setGroup_39 : decode cX6_setGroup 39 = .ok (.iconst (-1), 1) := by decide +kernel
theorem dX6_setGroup_40 : decode cX6_setGroup 40 = .ok (.ireturn, 1) := by decide +kernel
theorem dX6_setGroup_41 : decode cX6_setGroup 41 = .ok (.aload_n 0, 1) := by decide +kernel
theorem dX6_setGroup_42 : decode cX6_setGroup 42 = .ok (.invokevirtual 90, 3) := by decide +kernel
theorem dX6_setGroup_45 : decode cX6_setGroup 45 = .ok (.iload_n 2, 1) := by decide +kernel
theorem dX6_setGroup_46 : decode cX6_setGroup 46 = .ok (.ifCond .ne 8, 3) := by decide +kernel
theorem dX6_setGroup_49 : decode cX6_setGroup 49 = .ok (.bipush 72, 2) := by decide +kernel
theorem dX6_setGroup_51 : decode cX6_setGroup 51 = .ok (.goto 5, 3) := by decide +kernel
theorem dX6_setGroup_54 : decode cX6_setGroup 54 = .ok (.bipush 76, 2) := by decide +kernel
theorem dX6_setGroup_56 : decode cX6_setGroup 56 = .ok (.iload_n 1, 1) := by decide +kernel
theorem dX6_setGroup_57 : decode cX6_setGroup 57 = .ok (.iadd, 1) := by decide +kernel
theorem dX6_setGroup_58 : decode cX6_setGroup 58 = .ok (.istore 4, 2) := by decide +kernel
theorem dX6_setGroup_60 : decode cX6_setGroup 60 = .ok (.aload_n 0, 1) := by decide +kernel
theorem dX6_setGroup_61 : decode cX6_setGroup 61 = .ok (.getfield 7, 3) := by decide +kernel
theorem dX6_setGroup_64 : decode cX6_setGroup 64 = .ok (.iload 4, 2) := by decide +kernel
theorem dX6_setGroup_66 : decode cX6_setGroup 66 = .ok (.iaload, 1) := by decide +kernel
theorem dX6_setGroup_67 : decode cX6_setGroup 67 = .ok (.istore 5, 2) := by decide +kernel
theorem dX6_setGroup_69 : decode cX6_setGroup 69 = .ok (.aload_n 0, 1) := by decide +kernel
theorem dX6_setGroup_70 : decode cX6_setGroup 70 = .ok (.getfield 7, 3) := by decide +kernel
theorem dX6_setGroup_73 : decode cX6_setGroup 73 = .ok (.iload 4, 2) := by decide +kernel
theorem dX6_setGroup_75 : decode cX6_setGroup 75 = .ok (.iload_n 3, 1) := by decide +kernel
theorem dX6_setGroup_76 : decode cX6_setGroup 76 = .ok (.iastore, 1) := by decide +kernel
theorem dX6_setGroup_77 : decode cX6_setGroup 77 = .ok (.aload_n 0, 1) := by decide +kernel
theorem dX6_setGroup_78 : decode cX6_setGroup 78 = .ok (.getfield 7, 3) := by decide +kernel
theorem dX6_setGroup_81 : decode cX6_setGroup 81 = .ok (.sipush 180, 3) := by decide +kernel
theorem dX6_setGroup_84 : decode cX6_setGroup 84 = .ok (.dup2, 1) := by decide +kernel
theorem dX6_setGroup_85 : decode cX6_setGroup 85 = .ok (.iaload, 1) := by decide +kernel
theorem dX6_setGroup_86 : decode cX6_setGroup 86 = .ok (.aload_n 0, 1) := by decide +kernel
theorem dX6_setGroup_87 : decode cX6_setGroup 87 = .ok (.getfield 7, 3) := by decide +kernel
theorem dX6_setGroup_90 : decode cX6_setGroup 90 = .ok (.sipush 144, 3) := by decide +kernel
theorem dX6_setGroup_93 : decode cX6_setGroup 93 = .ok (.iaload, 1) := by decide +kernel
theorem dX6_setGroup_94 : decode cX6_setGroup 94 = .ok (.ifCond .lt 13, 3) := by decide +kernel
theorem dX6_setGroup_97 : decode cX6_setGroup 97 = .ok (.iload_n 2, 1) := by decide +kernel
theorem dX6_setGroup_98 : decode cX6_setGroup 98 = .ok (.ifCond .ne 9, 3) := by decide +kernel
theorem dX6_setGroup_101 : decode cX6_setGroup 101 = .ok (.iconst 1, 1) := by decide +kernel
theorem dX6_setGroup_102 : decode cX6_setGroup 102 = .ok (.iload_n 1, 1) := by decide +kernel
theorem dX6_setGroup_103 : decode cX6_setGroup 103 = .ok (.ishl, 1) := by decide +kernel
theorem dX6_setGroup_104 : decode cX6_setGroup 104 = .ok (.goto 4, 3) := by decide +kernel
theorem dX6_setGroup_107 : decode cX6_setGroup 107 = .ok (.iconst 0, 1) := by decide +kernel
theorem dX6_setGroup_108 : decode cX6_setGroup 108 = .ok (.ior, 1) := by decide +kernel
theorem dX6_setGroup_109 : decode cX6_setGroup 109 = .ok (.iastore, 1) := by decide +kernel
theorem dX6_setGroup_110 : decode cX6_setGroup 110 = .ok (.iload 5, 2) := by decide +kernel
theorem dX6_setGroup_112 : decode cX6_setGroup 112 = .ok (.ireturn, 1) := by decide +kernel
set_option maxRecDepth 20000 in
theorem ggX6_setSend_X6_isFour : GoodIn wsX6_setSend wsX6_isFour := goodIn_r _ [6, 7, 8, 5, 9] (by decide +kernel) (by decide +kernel)
set_option maxRecDepth 20000 in
theorem gX6_setSend_X6_isFour : GoodIn wsX6_setSend (va_wsS RX6 97 yX6_isFour wsX6_isFour) := goodIn_app (goodIn_of _ (by decide +kernel)) ggX6_setSend_X6_isFour
set_option maxRecDepth 20000 in
theorem ggX6_setSend_X6_isChannel : GoodIn wsX6_setSend wsX6_isChannel := goodIn_r _ [12, 7, 8, 5, 9] (by decide +kernel) (by decide +kernel)
set_option maxRecDepth 20000 in
theorem gX6_setSend_X6_isChannel : GoodIn wsX6_setSend (va_wsS RX6 84 yX6_isChannel wsX6_isChannel) := goodIn_app (goodIn_of _ (by decide +kernel)) ggX6_setSend_X6_isChannel
set_option maxRecDepth 20000 in
theorem ggX6_setSend_X6_in : GoodIn wsX6_setSend wsX6_in := goodIn_r _ [9] (by decide +kernel) (by decide +kernel)
set_option maxRecDepth 20000 in
theorem gX6_setSend_X6_in : GoodIn wsX6_setSend (va_wsS RX6 35 yX6_in wsX6_in) := goodIn_app (goodIn_of _ (by decide +kernel)) ggX6_setSend_X6_in
set_option maxRecDepth 20000 in
theorem ggX6_setSend_X6_act : GoodIn wsX6_setSend wsX6_act := goodIn_r _ [16, 17, 18, 2, 23, 24, 25, 26, 27, 28, 29, 30, 31, 32, 33, 34, 35, 36, 37] (by decide +kernel) (by decide +kernel)
set_option maxRecDepth 20000 in
theorem gX6_setSend_X6_act : GoodIn wsX6_setSend (wsV RX6 90 RX6 yX6_act wsX6_act) := goodIn_app (goodIn_of _ (by decide +kernel)) ggX6_setSend_X6_act
set_option maxRecDepth 20000 in
theorem ggX6_setSend_X6_sendOf : GoodIn wsX6_setSend wsX6_sendOf := goodIn_r _ [22, 2, 23, 24, 25, 26, 27, 28, 29, 30, 31, 32, 33, 34, 35, 36, 37] (by decide +kernel) (by decide +kernel)
set_option maxRecDepth 20000 in
theorem gX6_setSend_X6_sendOf : GoodIn wsX6_setSend (wsV RX6 59 RX6 yX6_sendOf wsX6_sendOf) := goodIn_app (goodIn_of _ (by decide +kernel)) ggX6_setSend_X6_sendOf
theorem dX6_setSend_0 : decode cX6_setSend 0 = .ok (.aload_n 0, 1) := by decide +kernel
theorem dX6_setSend_1 : decode cX6_setSend 1 = .ok (.iconst 0, 1) := by decide +kernel
theorem dX6_setSend_2 : decode cX6_setSend 2 = .ok (.putfield 28, 3) := by decide +kernel
theorem dX6_setSend_5 : decode cX6_setSend 5 = .ok (.iload_n 1, 1) := by decide +kernel
theorem dX6_setSend_6 : decode cX6_setSend 6 = .ok (.invokestatic 97, 3) := by decide +kernel
theorem dX6_setSend_9 : decode cX6_setSend 9 = .ok (.ifCond .eq 20, 3) := by decide +kernel
theorem dX6_setSend_12 : decode cX6_setSend 12 = .ok (.iload_n 2, 1) := by decide +kernel
theorem dX6_setSend_13 : decode cX6_setSend 13 = .ok (.invokestatic 84, 3) := by decide +kernel
theorem dX6_setSend_16 : decode cX6_setSend 16 = .ok (.ifCond .eq 13, 3) := by decide +kernel
theorem dX6_setSend_19 : decode cX6_setSend 19 = .ok (.iload_n 3, 1) := by decide +kernel
theorem dX6_setSend_20 : decode cX6_setSend 20 = .ok (.iconst 0, 1) := by decide +kernel
theorem dX6_setSend_21 : decode cX6_setSend 21 = .ok (.bipush 100, 2) := by decide +kernel
theorem dX6_setSend_23 : decode cX6_setSend 23 = .ok (.invokestatic 35, 3) := by decide +kernel
theorem dX6_setSend_26 : decode cX6_setSend 26 = .ok (.ifCond .ne 5, 3) := by decide +kernel
theorem dX6_setSend_29 : decode cX6_setSend 29 = .ok (.iconst (-1), 1) := by decide +kernel
theorem dX6_setSend_30 : decode cX6_setSend 30 = .ok (.ireturn, 1) := by decide +kernel
theorem dX6_setSend_31 : decode cX6_setSend 31 = .ok (.aload_n 0, 1) := by decide +kernel
theorem dX6_setSend_32 : decode cX6_setSend 32 = .ok (.invokevirtual 90, 3) := by decide +kernel
theorem dX6_setSend_35 : decode cX6_setSend 35 = .ok (.aload_n 0, 1) := by decide +kernel
theorem dX6_setSend_36 : decode cX6_setSend 36 = .ok (.iload_n 1, 1) := by decide +kernel
theorem dX6_setSend_37 : decode cX6_setSend 37 = .ok (.iload_n 2, 1) := by decide +kernel
theorem dX6_setSend_38 : decode cX6_setSend 38 = .ok (.invokevirtual 59, 3) := by decide +kernel
theorem dX6_setSend_41 : decode cX6_setSend 41 = .ok (.istore 4, 2) := by decide +kernel
theorem dX6_setSend_43 : decode cX6_setSend 43 = .ok (.aload_n 0, 1) := by decide +kernel
theorem dX6_setSend_44 : decode cX6_setSend 44 = .ok (.getfield 7, 3) := by decide +kernel
theorem dX6_setSend_47 : decode cX6_setSend 47 = .ok (.bipush 88, 2) := by decide +kernel
theorem dX6_setSend_49 : decode cX6_setSend 49 = .ok (.bipush 12, 2) := by decide +kernel
theorem dX6_setSend_51 : decode cX6_setSend 51 = .ok (.iload_n 1, 1) := by decide +kernel
theorem dX6_setSend_52 : decode cX6_setSend 52 = .ok (.imul, 1) := by decide +kernel
theorem dX6_setSend_53 : decode cX6_setSend 53 = .ok (.iadd, 1) := by decide +kernel
theorem dX6_setSend_54 : decode cX6_setSend 54 = .ok (.iload_n 2, 1) := by decide +kernel
theorem dX6_setSend_55 : decode cX6_setSend 55 = .ok (.iadd, 1) := by decide +kernel
theorem dX6_setSend_56 : decode cX6_setSend 56 = .ok (.iload_n 3, 1) := by decide +kernel
theorem dX6_setSend_57 : decode cX6_setSend 57 = .ok (.iastore, 1) := by decide +kernel
theorem dX6_setSend_58 : decode cX6_setSend 58 = .ok (.iload 4, 2) := by decide +kernel
theorem dX6_setSend_60 : decode cX6_setSend 60 = .ok (.ireturn, 1) := by decide +kernel
theorem dX6_bits_0 : decode cX6_bits 0 = .ok (.iconst 0, 1) := by decide +kernel
theorem dX6_bits_1 : decode cX6_bits 1 = .ok (.istore_n 1, 1) := by decide +kernel
theorem dX6_bits_2 : decode cX6_bits 2 = .ok (.iconst 0, 1) := by decide +kernel
theorem dX6_bits_3 : decode cX6_bits 3 = .ok (.istore_n 2, 1) := by decide +kernel
theorem dX6_bits_4 : decode cX6_bits 4 = .ok (.iload_n 2, 1) := by decide +kernel
theorem dX6_bits_5 : decode cX6_bits 5 = .ok (.bipush 12, 2) := by decide +kernel
theorem dX6_bits_7 : decode cX6_bits 7 = .ok (.if_icmp .ge 17, 3) := by decide +kernel
theorem dX6_bits_10 : decode cX6_bits 10 = .ok (.iload_n 1, 1) := by decide +kernel
theorem dX6_bits_11 : decode cX6_bits 11 = .ok (.iload_n 0, 1) := by decide +kernel
theorem dX6_bits_12 : decode cX6_bits 12 = .ok (.iload_n 2, 1) := by decide +kernel
theorem dX6_bits_13 : decode cX6_bits 13 = .ok (.ishr, 1) := by decide +kernel
theorem dX6_bits_14 : decode cX6_bits 14 = .ok (.iconst 1, 1) := by decide +kernel
theorem dX6_bits_15 : decode cX6_bits 15 = .ok (.iand, 1) := by decide +kernel
theorem dX6_bits_16 : decode cX6_bits 16 = .ok (.iadd, 1) := by decide +kernel
theorem dX6_bits_17 : decode cX6_bits 17 = .ok (.istore_n 1, 1) := by decide +kernel
theorem dX6_bits_18 : decode cX6_bits 18 = .ok (.iinc 2 1, 3) := by decide +kernel
theorem dX6_bits_21 : decode cX6_bits 21 = .ok (.goto (-17), 3) := by decide +kernel
theorem dX6_bits_24 : decode cX6_bits 24 = .ok (.iload_n 1, 1) := by decide +kernel
theorem dX6_bits_25 : decode cX6_bits 25 = .ok (.ireturn, 1) := by decide +kernel
set_option maxRecDepth 20000 in
theorem ggX6_setOwner_X6_isFour : GoodIn wsX6_setOwner wsX6_isFour := goodIn_r _ [6, 7, 8, 5, 9] (by decide +kernel) (by decide +kernel)
set_option maxRecDepth 20000 in
theorem gX6_setOwner_X6_isFour : GoodIn wsX6_setOwner (va_wsS RX6 97 yX6_isFour wsX6_isFour) := goodIn_app (goodIn_of _ (by decide +kernel)) ggX6_setOwner_X6_isFour
set_option maxRecDepth 20000 in
theorem ggX6_setOwner_X6_isChannel : GoodIn wsX6_setOwner wsX6_isChannel := goodIn_r _ [12, 7, 8, 5, 9] (by decide +kernel) (by decide +kernel)
set_option maxRecDepth 20000 in
theorem gX6_setOwner_X6_isChannel : GoodIn wsX6_setOwner (va_wsS RX6 84 yX6_isChannel wsX6_isChannel) := goodIn_app (goodIn_of _ (by decide +kernel)) ggX6_setOwner_X6_isChannel
set_option maxRecDepth 20000 in
theorem ggX6_setOwner_X6_in : GoodIn wsX6_setOwner wsX6_in := goodIn_r _ [9] (by decide +kernel) (by decide +kernel)
set_option maxRecDepth 20000 in
theorem gX6_setOwner_X6_in : GoodIn wsX6_setOwner (va_wsS RX6 35 yX6_in wsX6_in) := goodIn_app (goodIn_of _ (by decide +kernel)) ggX6_setOwner_X6_in
set_option maxRecDepth 20000 in
theorem ggX6_setOwner_X6_act : GoodIn wsX6_setOwner wsX6_act := goodIn_r _ [16, 17, 18, 2, 22, 23, 24, 25, 26, 27, 28, 29, 30, 31, 32, 33, 34, 35, 36] (by decide +kernel) (by decide +kernel)
set_option maxRecDepth 20000 in
theorem gX6_setOwner_X6_act : GoodIn wsX6_setOwner (wsV RX6 90 RX6 yX6_act wsX6_act) := goodIn_app (goodIn_of _ (by decide +kernel)) ggX6_setOwner_X6_act
set_option maxRecDepth 20000 in
theorem ggX6_setOwner_X6_bits : GoodIn wsX6_setOwner wsX6_bits := goodIn_r _ [21] (by decide +kernel) (by decide +kernel)
set_option maxRecDepth 20000 in
theorem gX6_setOwner_X6_bits : GoodIn wsX6_setOwner (va_wsS RX6 100 yX6_bits wsX6_bits) := goodIn_app (goodIn_of _ (by decide +kernel)) ggX6_setOwner_X6_bits
theorem dX6_setOwner_0 : decode cX6_setOwner 0 = .ok (.aload_n 0, 1) := by decide +kernel
theorem dX6_setOwner_1 : decode cX6_setOwner 1 = .ok (.iconst 0, 1) := by decide +kernel
theorem dX6_setOwner_2 : decode cX6_setOwner 2 = .ok (.putfield 28, 3) := by decide +kernel
theorem dX6_setOwner_5 : decode cX6_setOwner 5 = .ok (.iload_n 1, 1) := by decide +kernel
theorem dX6_setOwner_6 : decode cX6_setOwner 6 = .ok (.invokestatic 97, 3) := by decide +kernel
theorem dX6_setOwner_9 : decode cX6_setOwner 9 = .ok (.ifCond .eq 19, 3) := by decide +kernel
theorem dX6_setOwner_12 : decode cX6_setOwner 12 = .ok (.iload_n 2, 1) := by decide +kernel
theorem dX6_setOwner_13 : decode cX6_setOwner 13 = .ok (.invokestatic 84, 3) := by decide +kernel
theorem dX6_setOwner_16 : decode cX6_setOwner 16 = .ok (.ifCond .eq 12, 3) := by decide +kernel
theorem dX6_setOwner_19 : decode cX6_setOwner 19 = .ok (.iload_n 3, 1) := by decide +kernel
theorem dX6_setOwner_20 : decode cX6_setOwner 20 = .ok (.iconst 0, 1) := by decide +kernel
theorem dX6_setOwner_21 : decode cX6_setOwner 21 = .ok (.iconst 1, 1) := by decide +kernel
theorem dX6_setOwner_22 : decode cX6_setOwner 22 = .ok (.invokestatic 35, 3) := by decide +kernel
theorem dX6_setOwner_25 : decode cX6_setOwner 25 = .ok (.ifCond .ne 5, 3) := by decide +kernel
theorem dX6_setOwner_28 : decode cX6_setOwner 28 = .ok (.iconst (-1), 1) := by decide +kernel
theorem dX6_setOwner_29 : decode cX6_setOwner 29 = .ok (.ireturn, 1) := by decide +kernel
theorem dX6_setOwner_30 : decode cX6_setOwner 30 = .ok (.aload_n 0, 1) := by decide +kernel
theorem dX6_setOwner_31 : decode cX6_setOwner 31 = .ok (.invokevirtual 90, 3) := by decide +kernel
theorem dX6_setOwner_34 : decode cX6_setOwner 34 = .ok (.aload_n 0, 1) := by decide +kernel
theorem dX6_setOwner_35 : decode cX6_setOwner 35 = .ok (.getfield 7, 3) := by decide +kernel
theorem dX6_setOwner_38 : decode cX6_setOwner 38 = .ok (.bipush 80, 2) := by decide +kernel
theorem dX6_setOwner_40 : decode cX6_setOwner 40 = .ok (.iload_n 1, 1) := by decide +kernel
theorem dX6_setOwner_41 : decode cX6_setOwner 41 = .ok (.iadd, 1) := by decide +kernel
theorem dX6_setOwner_42 : decode cX6_setOwner 42 = .ok (.aload_n 0, 1) := by decide +kernel
theorem dX6_setOwner_43 : decode cX6_setOwner 43 = .ok (.getfield 7, 3) := by decide +kernel
theorem dX6_setOwner_46 : decode cX6_setOwner 46 = .ok (.bipush 80, 2) := by decide +kernel
theorem dX6_setOwner_48 : decode cX6_setOwner 48 = .ok (.iload_n 1, 1) := by decide +kernel
theorem dX6_setOwner_49 : decode cX6_setOwner 49 = .ok (.iadd, 1) := by decide +kernel
theorem dX6_setOwner_50 : decode cX6_setOwner 50 = .ok (.iaload, 1) := by decide +kernel
theorem dX6_setOwner_51 : decode cX6_setOwner 51 = .ok (.iconst 1, 1) := by decide +kernel
theorem dX6_setOwner_52 : decode cX6_setOwner 52 = .ok (.iload_n 2, 1) := by decide +kernel
theorem dX6_setOwner_53 : decode cX6_setOwner 53 = .ok (.ishl, 1) := by decide +kernel
theorem dX6_setOwner_54 : decode cX6_setOwner 54 = .ok (.iconst (-1), 1) := by decide +kernel
theorem dX6_setOwner_55 : decode cX6_setOwner 55 = .ok (.ixor, 1) := by decide +kernel
theorem dX6_setOwner_56 : decode cX6_setOwner 56 = .ok (.iand, 1) := by decide +kernel
theorem dX6_setOwner_57 : decode cX6_setOwner 57 = .ok (.iload_n 3, 1) := by decide +kernel
theorem dX6_setOwner_58 : decode cX6_setOwner 58 = .ok (.iload_n 2, 1) := by decide +kernel
theorem dX6_setOwner_59 : decode cX6_setOwner 59 = .ok (.ishl, 1) := by decide +kernel
theorem dX6_setOwner_60 : decode cX6_setOwner 60 = .ok (.ior, 1) := by decide +kernel
theorem dX6_setOwner_61 : decode cX6_setOwner 61 = .ok (.iastore, 1) := by decide +kernel
theorem dX6_setOwner_62 : decode cX6_setOwner 62 = .ok (.aload_n 0, 1) := by decide +kernel
theorem dX6_setOwner_63 : decode cX6_setOwner 63 = .ok (.getfield 7, 3) := by decide +kernel
theorem dX6_setOwner_66 : decode cX6_setOwner 66 = .ok (.bipush 80, 2) := by decide +kernel
theorem dX6_setOwner_68 : decode cX6_setOwner 68 = .ok (.iload_n 1, 1) := by decide +kernel
theorem dX6_setOwner_69 : decode cX6_setOwner 69 = .ok (.iadd, 1) := by decide +kernel
theorem dX6_setOwner_70 : decode cX6_setOwner 70 = .ok (.iaload, 1) := by decide +kernel
theorem dX6_setOwner_71 : decode cX6_setOwner 71 = .ok (.invokestatic 100, 3) := by decide +kernel
theorem dX6_setOwner_74 : decode cX6_setOwner 74 = .ok (.ireturn, 1) := by decide +kernel
set_option maxRecDepth 20000 in
theorem ggX6_setReturn_X6_isFour : GoodIn wsX6_setReturn wsX6_isFour := goodIn_r _ [6, 7, 8, 5, 9] (by decide +kernel) (by decide +kernel)
