theorem dL_cell_0 : decode cL_cell 0 = .ok (.iload_n 1, 1) := by decide +kernel
theorem dL_cell_1 : decode cL_cell 1 = .ok (.aload_n 0, 1) := by decide +kernel
theorem dL_cell_2 : decode cL_cell 2 = .ok (.arraylength, 1) := by decide +kernel
theorem dL_cell_3 : decode cL_cell 3 = .ok (.if_icmp .ge 9, 3) := by decide +kernel
theorem dL_cell_6 : decode cL_cell 6 = .ok (.aload_n 0, 1) := by decide +kernel
theorem dL_cell_7 : decode cL_cell 7 = .ok (.iload_n 1, 1) := by decide +kernel
theorem dL_cell_8 : decode cL_cell 8 = .ok (.iaload, 1) := by decide +kernel
theorem dL_cell_9 : decode cL_cell 9 = .ok (.goto 15, 3) := by decide +kernel
theorem dL_cell_12 : decode cL_cell 12 = .ok (.sipush 7919, 3) := by decide +kernel
theorem dL_cell_15 : decode cL_cell 15 = .ok (.iload_n 1, 1) := by decide +kernel
theorem dL_cell_16 : decode cL_cell 16 = .ok (.iconst 3, 1) := by decide +kernel
theorem dL_cell_17 : decode cL_cell 17 = .ok (.iadd, 1) := by decide +kernel
theorem dL_cell_18 : decode cL_cell 18 = .ok (.imul, 1) := by decide +kernel
theorem dL_cell_19 : decode cL_cell 19 = .ok (.iload_n 1, 1) := by decide +kernel
theorem dL_cell_20 : decode cL_cell 20 = .ok (.bipush 11, 2) := by decide +kernel
theorem dL_cell_22 : decode cL_cell 22 = .ok (.iadd, 1) := by decide +kernel
theorem dL_cell_23 : decode cL_cell 23 = .ok (.imul, 1) := by decide +kernel
theorem dL_cell_24 : decode cL_cell 24 = .ok (.ireturn, 1) := by decide +kernel
theorem dL_low_0 : decode cL_low 0 = .ok (.iload_n 0, 1) := by decide +kernel
theorem dL_low_1 : decode cL_low 1 = .ok (.ldc 7, 2) := by decide +kernel
theorem dL_low_3 : decode cL_low 3 = .ok (.iand, 1) := by decide +kernel
theorem dL_low_4 : decode cL_low 4 = .ok (.iload_n 1, 1) := by decide +kernel
theorem dL_low_5 : decode cL_low 5 = .ok (.irem, 1) := by decide +kernel
theorem dL_low_6 : decode cL_low 6 = .ok (.ireturn, 1) := by decide +kernel
set_option maxRecDepth 20000 in
theorem ggL_digest_X5_count : GoodIn wsL_digest wsX5_count := goodIn_r _ [7, 8, 9, 10, 11, 12, 13, 14, 15, 16, 17, 18, 19, 20, 21, 22, 23, 24, 25, 26, 27, 28, 29, 30, 31, 32, 33, 34, 35, 36, 6, 37, 38, 39, 40, 41, 42, 43, 112, 113, 114, 115, 116, 117, 118, 119, 120, 121, 122, 123, 124, 125, 126, 127, 128, 129, 130, 131, 132, 133, 134, 135, 136, 137, 138, 139, 140, 141, 142, 143, 144, 145] (by decide +kernel) (by decide +kernel)
set_option maxRecDepth 20000 in
theorem gL_digest_X5_count : GoodIn wsL_digest (wsV RL 12 RX5 yX5_count wsX5_count) := goodIn_app (goodIn_of _ (by decide +kernel)) ggL_digest_X5_count
set_option maxRecDepth 20000 in
theorem ggL_digest_X5_channel : GoodIn wsL_digest wsX5_channel := goodIn_r _ [47, 48, 8, 49, 50, 6, 51, 52, 53, 54, 27, 55, 56, 34, 33, 43, 35, 36, 37, 57, 30, 31, 32, 38, 39, 40, 41, 42, 58, 59, 60, 14, 61, 62, 63, 64, 65, 66, 67, 112, 113, 114, 115, 116, 117, 118, 119, 120, 121, 122, 123, 124, 125, 126, 127, 128, 129, 130, 131, 132, 133, 134, 135, 136, 137, 138, 139] (by decide +kernel) (by decide +kernel)
set_option maxRecDepth 20000 in
theorem gL_digest_X5_channel : GoodIn wsL_digest (wsV RL 18 RX5 yX5_channel wsX5_channel) := goodIn_app (goodIn_of _ (by decide +kernel)) ggL_digest_X5_channel
set_option maxRecDepth 20000 in
theorem ggL_digest_X5_group : GoodIn wsL_digest wsX5_group := goodIn_r _ [71, 72, 8, 49, 50, 6, 51, 73, 74, 75, 27, 76, 34, 42, 36, 37, 77, 78, 79, 80, 35, 58, 59, 60, 14, 61, 62, 112, 113, 114, 115, 116, 117, 118, 119, 120, 121, 122, 123, 124, 125, 126, 127, 128, 129, 130, 131, 132, 133, 134, 135, 136, 137, 138, 139] (by decide +kernel) (by decide +kernel)
set_option maxRecDepth 20000 in
theorem gL_digest_X5_group : GoodIn wsL_digest (wsV RL 22 RX5 yX5_group wsX5_group) := goodIn_app (goodIn_of _ (by decide +kernel)) ggL_digest_X5_group
set_option maxRecDepth 20000 in
theorem ggL_digest_X5_feed : GoodIn wsL_digest wsX5_feed := goodIn_r _ [84, 8, 49, 50, 6, 51, 85, 86, 87, 27, 88, 89, 90, 91, 92, 29, 30, 31, 32, 33, 34, 35, 36, 37, 38, 39, 40, 41, 42, 43, 93, 94, 95, 96, 97, 98, 99, 100, 112, 113, 114, 115, 116, 117, 118, 119, 120, 121, 122, 123, 124, 125, 126, 127, 128, 129, 130, 131, 132, 133, 134] (by decide +kernel) (by decide +kernel)
set_option maxRecDepth 20000 in
theorem gL_digest_X5_feed : GoodIn wsL_digest (wsV RL 25 RX5 yX5_feed wsX5_feed) := goodIn_app (goodIn_of _ (by decide +kernel)) ggL_digest_X5_feed
set_option maxRecDepth 20000 in
theorem ggL_digest_X5_send : GoodIn wsL_digest wsX5_send := goodIn_r _ [104, 8, 49, 50, 6, 51, 105, 99, 100, 106, 90, 91, 27, 92, 29, 30, 31, 32, 33, 34, 35, 36, 37, 38, 39, 40, 41, 42, 43, 93, 94, 95, 96, 97, 98, 112, 113, 114, 115, 116, 117, 118, 119, 120, 121, 122, 123, 124, 125, 126, 127, 128, 129, 130, 131, 132, 133, 134] (by decide +kernel) (by decide +kernel)
set_option maxRecDepth 20000 in
theorem gL_digest_X5_send : GoodIn wsL_digest (wsV RL 28 RX5 yX5_send wsX5_send) := goodIn_app (goodIn_of _ (by decide +kernel)) ggL_digest_X5_send
set_option maxRecDepth 20000 in
theorem ggL_digest_X5_scene : GoodIn wsL_digest wsX5_scene := goodIn_r _ [110, 8, 49, 50, 6, 51, 111, 36, 37, 112, 113, 114, 115, 116, 117, 118, 119, 120, 121, 122, 123, 124, 125, 126, 127, 128, 129, 130, 131, 132, 133, 134] (by decide +kernel) (by decide +kernel)
set_option maxRecDepth 20000 in
theorem gL_digest_X5_scene : GoodIn wsL_digest (wsV RL 32 RX5 yX5_scene wsX5_scene) := goodIn_app (goodIn_of _ (by decide +kernel)) ggL_digest_X5_scene
theorem dL_digest_0 : decode cL_digest 0 = .ok (.ldc2_w 8, 3) := by decide +kernel
theorem dL_digest_3 : decode cL_digest 3 = .ok (.lstore_n 1, 1) := by decide +kernel
theorem dL_digest_4 : decode cL_digest 4 = .ok (.iconst 0, 1) := by decide +kernel
theorem dL_digest_5 : decode cL_digest 5 = .ok (.istore_n 3, 1) := by decide +kernel
theorem dL_digest_6 : decode cL_digest 6 = .ok (.iload_n 3, 1) := by decide +kernel
theorem dL_digest_7 : decode cL_digest 7 = .ok (.bipush 9, 2) := by decide +kernel
theorem dL_digest_9 : decode cL_digest 9 = .ok (.if_icmp .ge 22, 3) := by decide +kernel
theorem dL_digest_12 : decode cL_digest 12 = .ok (.ldc2_w 10, 3) := by decide +kernel
theorem dL_digest_15 : decode cL_digest 15 = .ok (.lload_n 1, 1) := by decide +kernel
theorem dL_digest_16 : decode cL_digest 16 = .ok (.lmul, 1) := by decide +kernel
theorem dL_digest_17 : decode cL_digest 17 = .ok (.aload_n 0, 1) := by decide +kernel
theorem dL_digest_18 : decode cL_digest 18 = .ok (.iload_n 3, 1) := by decide +kernel
theorem dL_digest_19 : decode cL_digest 19 = .ok (.invokevirtual 12, 3) := by decide +kernel
theorem dL_digest_22 : decode cL_digest 22 = .ok (.i2l, 1) := by decide +kernel
theorem dL_digest_23 : decode cL_digest 23 = .ok (.ladd, 1) := by decide +kernel
theorem dL_digest_24 : decode cL_digest 24 = .ok (.lstore_n 1, 1) := by decide +kernel
theorem dL_digest_25 : decode cL_digest 25 = .ok (.iinc 3 1, 3) := by decide +kernel
theorem dL_digest_28 : decode cL_digest 28 = .ok (.goto (-22), 3) := by decide +kernel
theorem dL_digest_31 : decode cL_digest 31 = .ok (.iconst 0, 1) := by decide +kernel
theorem dL_digest_32 : decode cL_digest 32 = .ok (.istore_n 3, 1) := by decide +kernel
theorem dL_digest_33 : decode cL_digest 33 = .ok (.iload_n 3, 1) := by decide +kernel
theorem dL_digest_34 : decode cL_digest 34 = .ok (.bipush 12, 2) := by decide +kernel
theorem dL_digest_36 : decode cL_digest 36 = .ok (.if_icmp .ge 40, 3) := by decide +kernel
theorem dL_digest_39 : decode cL_digest 39 = .ok (.iconst 0, 1) := by decide +kernel
theorem dL_digest_40 : decode cL_digest 40 = .ok (.istore 4, 2) := by decide +kernel
theorem dL_digest_42 : decode cL_digest 42 = .ok (.iload 4, 2) := by decide +kernel
theorem dL_digest_44 : decode cL_digest 44 = .ok (.bipush 9, 2) := by decide +kernel
theorem dL_digest_46 : decode cL_digest 46 = .ok (.if_icmp .ge 24, 3) := by decide +kernel
theorem dL_digest_49 : decode cL_digest 49 = .ok (.ldc2_w 10, 3) := by decide +kernel
theorem dL_digest_52 : decode cL_digest 52 = .ok (.lload_n 1, 1) := by decide +kernel
theorem dL_digest_53 : decode cL_digest 53 = .ok (.lmul, 1) := by decide +kernel
theorem dL_digest_54 : decode cL_digest 54 = .ok (.aload_n 0, 1) := by decide +kernel
theorem dL_digest_55 : decode cL_digest 55 = .ok (.iload_n 3, 1) := by decide +kernel
theorem dL_digest_56 : decode cL_digest 56 = .ok (.iload 4, 2) := by decide +kernel
theorem dL_digest_58 : decode cL_digest 58 = .ok (.invokevirtual 18, 3) := by decide +kernel
theorem dL_digest_61 : decode cL_digest 61 = .ok (.i2l, 1) := by decide +kernel
theorem dL_digest_62 : decode cL_digest 62 = .ok (.ladd, 1) := by decide +kernel
theorem dL_digest_63 : decode cL_digest 63 = .ok (.lstore_n 1, 1) := by decide +kernel
theorem dL_digest_64 : decode cL_digest 64 = .ok (.iinc 4 1, 3) := by decide +kernel
theorem dL_digest_67 : decode cL_digest 67 = .ok (.goto (-25), 3) := by decide +kernel
theorem dL_digest_70 : decode cL_digest 70 = .ok (.iinc 3 1, 3) := by decide +kernel
theorem dL_digest_73 : decode cL_digest 73 = .ok (.goto (-40), 3) := by decide +kernel
theorem dL_digest_76 : decode cL_digest 76 = .ok (.iconst 0, 1) := by decide +kernel
theorem dL_digest_77 : decode cL_digest 77 = .ok (.istore_n 3, 1) := by decide +kernel
theorem dL_digest_78 : decode cL_digest 78 = .ok (.iload_n 3, 1) := by decide +kernel
theorem dL_digest_79 : decode cL_digest 79 = .ok (.iconst 4, 1) := by decide +kernel
theorem dL_digest_80 : decode cL_digest 80 = .ok (.if_icmp .ge 86, 3) := by decide +kernel
theorem dL_digest_83 : decode cL_digest 83 = .ok (.iconst 0, 1) := by decide +kernel
theorem dL_digest_84 : decode cL_digest 84 = .ok (.istore 4, 2) := by decide +kernel
theorem dL_digest_86 : decode cL_digest 86 = .ok (.iload 4, 2) := by decide +kernel
theorem dL_digest_88 : decode cL_digest 88 = .ok (.iconst 4, 1) := by decide +kernel
theorem dL_digest_89 : decode cL_digest 89 = .ok (.if_icmp .ge 39, 3) := by decide +kernel
theorem dL_digest_92 : decode cL_digest 92 = .ok (.ldc2_w 10, 3) := by decide +kernel
theorem dL_digest_95 : decode cL_digest 95 = .ok (.lload_n 1, 1) := by decide +kernel
theorem dL_digest_96 : decode cL_digest 96 = .ok (.lmul, 1) := by decide +kernel
theorem dL_digest_97 : decode cL_digest 97 = .ok (.aload_n 0, 1) := by decide +kernel
theorem dL_digest_98 : decode cL_digest 98 = .ok (.iload_n 3, 1) := by decide +kernel
theorem dL_digest_99 : decode cL_digest 99 = .ok (.iload 4, 2) := by decide +kernel
theorem dL_digest_101 : decode cL_digest 101 = .ok (.invokevirtual 22, 3) := by decide +kernel
theorem dL_digest_104 : decode cL_digest 104 = .ok (.i2l, 1) := by decide +kernel
theorem dL_digest_105 : decode cL_digest 105 = .ok (.ladd, 1) := by decide +kernel
theorem dL_digest_106 : decode cL_digest 106 = .ok (.lstore_n 1, 1) := by decide +kernel
theorem dL_digest_107 : decode cL_digest 107 = .ok (.ldc2_w 10, 3) := by decide +kernel
theorem dL_digest_110 : decode cL_digest 110 = .ok (.lload_n 1, 1) := by decide +kernel
theorem dL_digest_111 : decode cL_digest 111 = .ok (.lmul, 1) := by decide +kernel
theorem dL_digest_112 : decode cL_digest 112 = .ok (.aload_n 0, 1) := by decide +kernel
theorem dL_digest_113 : decode cL_digest 113 = .ok (.iload_n 3, 1) := by decide +kernel
theorem dL_digest_114 : decode cL_digest 114 = .ok (.iload 4, 2) := by decide +kernel
theorem dL_digest_116 : decode cL_digest 116 = .ok (.invokevirtual 25, 3) := by decide +kernel
theorem dL_digest_119 : decode cL_digest 119 = .ok (.i2l, 1) := by decide +kernel
theorem dL_digest_120 : decode cL_digest 120 = .ok (.ladd, 1) := by decide +kernel
theorem dL_digest_121 : decode cL_digest 121 = .ok (.lstore_n 1, 1) := by decide +kernel
theorem dL_digest_122 : decode cL_digest 122 = .ok (.iinc 4 1, 3) := by decide +kernel
theorem dL_digest_125 : decode cL_digest 125 = .ok (.goto (-39), 3) := by decide +kernel
theorem dL_digest_128 : decode cL_digest 128 = .ok (.iconst 0, 1) := by decide +kernel
theorem dL_digest_129 : decode cL_digest 129 = .ok (.istore 4, 2) := by decide +kernel
theorem dL_digest_131 : decode cL_digest 131 = .ok (.iload 4, 2) := by decide +kernel
theorem dL_digest_133 : decode cL_digest 133 = .ok (.bipush 12, 2) := by decide +kernel
theorem dL_digest_135 : decode cL_digest 135 = .ok (.if_icmp .ge 25, 3) := by decide +kernel
theorem dL_digest_138 : decode cL_digest 138 = .ok (.ldc2_w 10, 3) := by decide +kernel
theorem dL_digest_141 : decode cL_digest 141 = .ok (.lload_n 1, 1) := by decide +kernel
theorem dL_digest_142 : decode cL_digest 142 = .ok (.lmul, 1) := by decide +kernel
theorem dL_digest_143 : decode cL_digest 143 = .ok (.aload_n 0, 1) := by decide +kernel
theorem dL_digest_144 : decode cL_digest 144 = .ok (.iload_n 3, 1) := by decide +kernel
theorem dL_digest_145 : decode cL_digest 145 = .ok (.iload 4, 2) := by decide +kernel
theorem dL_digest_147 : decode cL_digest 147 = .ok (.iconst 0, 1) := by decide +kernel
theorem dL_digest_148 : decode cL_digest 148 = .ok (.invokevirtual 28, 3) := by decide +kernel
theorem dL_digest_151 : decode cL_digest 151 = .ok (.i2l, 1) := by decide +kernel
theorem dL_digest_152 : decode cL_digest 152 = .ok (.ladd, 1) := by decide +kernel
theorem dL_digest_153 : decode cL_digest 153 = .ok (.lstore_n 1, 1) := by decide +kernel
theorem dL_digest_154 : decode cL_digest 154 = .ok (.iinc 4 1, 3) := by decide +kernel
theorem dL_digest_157 : decode cL_digest 157 = .ok (.goto (-26), 3) := by decide +kernel
theorem dL_digest_160 : decode cL_digest 160 = .ok (.iinc 3 1, 3) := by decide +kernel
theorem dL_digest_163 : decode cL_digest 163 = .ok (.goto (-85), 3) := by decide +kernel
theorem dL_digest_166 : decode cL_digest 166 = .ok (.iconst 0, 1) := by decide +kernel
theorem dL_digest_167 : decode cL_digest 167 = .ok (.istore_n 3, 1) := by decide +kernel
theorem dL_digest_168 : decode cL_digest 168 = .ok (.iload_n 3, 1) := by decide +kernel
theorem dL_digest_169 : decode cL_digest 169 = .ok (.bipush 6, 2) := by decide +kernel
theorem dL_digest_171 : decode cL_digest 171 = .ok (.if_icmp .ge 40, 3) := by decide +kernel
theorem dL_digest_174 : decode cL_digest 174 = .ok (.iconst 0, 1) := by decide +kernel
theorem dL_digest_175 : decode cL_digest 175 = .ok (.istore 4, 2) := by decide +kernel
theorem dL_digest_177 : decode cL_digest 177 = .ok (.iload 4, 2) := by decide +kernel
theorem dL_digest_179 : decode cL_digest 179 = .ok (.bipush 17, 2) := by decide +kernel
theorem dL_digest_181 : decode cL_digest 181 = .ok (.if_icmp .ge 24, 3) := by decide +kernel
theorem dL_digest_184 : decode cL_digest 184 = .ok (.ldc2_w 10, 3) := by decide +kernel
theorem dL_digest_187 : decode cL_digest 187 = .ok (.lload_n 1, 1) := by decide +kernel
theorem dL_digest_188 : decode cL_digest 188 = .ok (.lmul, 1) := by decide +kernel
theorem dL_digest_189 : decode cL_digest 189 = .ok (.aload_n 0, 1) := by decide +kernel
theorem dL_digest_190 : decode cL_digest 190 = .ok (.iload_n 3, 1) := by decide +kernel
theorem dL_digest_191 : decode cL_digest 191 = .ok (.iload 4, 2) := by decide +kernel
theorem dL_digest_193 : decode cL_digest 193 = .ok (.invokevirtual 32, 3) := by decide +kernel
theorem dL_digest_196 : decode cL_digest 196 = .ok (.i2l, 1) := by decide +kernel
theorem dL_digest_197 : decode cL_digest 197 = .ok (.ladd, 1) := by decide +kernel
theorem dL_digest_198 : decode cL_digest 198 = .ok (.lstore_n 1, 1) := by decide +kernel
theorem dL_digest_199 : decode cL_digest 199 = .ok (.iinc 4 1, 3) := by decide +kernel
theorem dL_digest_202 : decode cL_digest 202 = .ok (.goto (-25), 3) := by decide +kernel
theorem dL_digest_205 : decode cL_digest 205 = .ok (.iinc 3 1, 3) := by decide +kernel
theorem dL_digest_208 : decode cL_digest 208 = .ok (.goto (-40), 3) := by decide +kernel
theorem dL_digest_211 : decode cL_digest 211 = .ok (.lload_n 1, 1) := by decide +kernel
theorem dL_digest_212 : decode cL_digest 212 = .ok (.lreturn, 1) := by decide +kernel
set_option maxRecDepth 20000 in
theorem ggL_act_L_low : GoodIn wsL_act wsL_low := goodIn_r _ [4, 5] (by decide +kernel) (by decide +kernel)
set_option maxRecDepth 20000 in
theorem gL_act_L_low : GoodIn wsL_act (va_wsS RL 35 yL_low wsL_low) := goodIn_app (goodIn_of _ (by decide +kernel)) ggL_act_L_low
set_option maxRecDepth 20000 in
theorem ggL_act_X5_setChannel : GoodIn wsL_act wsX5_setChannel := goodIn_r _ [10, 11, 12, 13, 14, 15, 9, 16, 17, 18, 19, 20, 21, 22, 23, 24, 25, 26, 27, 28, 29, 30, 31, 32, 33, 34, 35, 36, 37, 38, 39, 40, 41, 42, 43, 44, 45, 46, 47, 48, 49, 50, 51, 52, 53, 54, 55, 56, 57, 58, 59, 60, 61, 62, 63, 64, 65, 66, 67, 68, 69, 70, 71, 72, 73, 74, 75, 76, 77, 78, 79, 80, 81, 82, 83, 84, 85, 86, 87, 88, 89, 216, 217, 218, 219, 220, 221, 222, 223, 224, 225, 226, 227, 228, 229, 230, 231, 232, 233, 234, 235, 236, 237, 238, 239, 240, 241, 242, 243, 244, 245, 246] (by decide +kernel) (by decide +kernel)
set_option maxRecDepth 20000 in
theorem gL_act_X5_setChannel : GoodIn wsL_act (wsV RL 40 RX5 yX5_setChannel wsX5_setChannel) := goodIn_app (goodIn_of _ (by decide +kernel)) ggL_act_X5_setChannel
set_option maxRecDepth 20000 in
theorem ggL_act_X5_setGroup : GoodIn wsL_act wsX5_setGroup := goodIn_r _ [93, 94, 12, 13, 14, 15, 9, 16, 17, 18, 19, 20, 21, 22, 23, 24, 25, 26, 27, 28, 29, 30, 31, 32, 33, 34, 35, 36, 37, 38, 39, 40, 41, 42, 43, 44, 45, 46, 47, 48, 49, 50, 51, 52, 53, 54, 55, 56, 57, 58, 59, 60, 61, 62, 63, 64, 65, 66, 67, 68, 69, 95, 96, 97, 98, 74, 75, 99, 100, 101, 102, 80, 81, 82, 83, 84, 85, 86, 87, 88, 89, 216, 217, 218, 219, 220, 221, 222, 223, 224, 225, 226, 227, 228, 229, 230, 231, 232, 233, 234, 235, 236, 237, 238, 239, 240, 241, 242, 243, 244, 245, 246] (by decide +kernel) (by decide +kernel)
set_option maxRecDepth 20000 in
theorem gL_act_X5_setGroup : GoodIn wsL_act (wsV RL 43 RX5 yX5_setGroup wsX5_setGroup) := goodIn_app (goodIn_of _ (by decide +kernel)) ggL_act_X5_setGroup
set_option maxRecDepth 20000 in
theorem ggL_act_X5_setSend : GoodIn wsL_act wsX5_setSend := goodIn_r _ [106, 12, 13, 14, 15, 9, 16, 17, 18, 19, 20, 21, 22, 23, 24, 25, 26, 27, 28, 29, 30, 31, 32, 33, 34, 35, 36, 37, 38, 39, 40, 41, 42, 43, 44, 45, 46, 47, 48, 49, 50, 51, 52, 53, 54, 55, 56, 57, 58, 59, 60, 61, 62, 63, 64, 65, 66, 67, 68, 69, 107, 108, 109, 216, 217, 218, 219, 220, 224, 225, 226, 227, 228, 229, 230, 231, 232, 233, 234, 235, 236, 237, 238, 239, 240, 241, 221, 222, 223, 242, 243, 244, 245, 246] (by decide +kernel) (by decide +kernel)
set_option maxRecDepth 20000 in
theorem gL_act_X5_setSend : GoodIn wsL_act (wsV RL 46 RX5 yX5_setSend wsX5_setSend) := goodIn_app (goodIn_of _ (by decide +kernel)) ggL_act_X5_setSend
set_option maxRecDepth 20000 in
theorem ggL_act_X5_setOwner : GoodIn wsL_act wsX5_setOwner := goodIn_r _ [113, 12, 13, 14, 15, 9, 16, 17, 18, 19, 20, 21, 22, 23, 24, 25, 26, 27, 28, 29, 30, 31, 32, 33, 34, 35, 36, 37, 38, 39, 40, 41, 42, 43, 44, 45, 46, 47, 48, 49, 50, 51, 52, 53, 54, 55, 56, 57, 58, 59, 60, 61, 62, 63, 64, 65, 66, 67, 68, 69, 114, 80, 81, 115, 116, 117, 118, 119, 120, 121, 216, 217, 218, 219, 220, 224, 225, 226, 227, 228, 229, 230, 231, 232, 233, 234, 235, 236, 237, 238, 239, 240, 241, 221, 222, 223, 242, 243, 244, 245, 246] (by decide +kernel) (by decide +kernel)
set_option maxRecDepth 20000 in
theorem gL_act_X5_setOwner : GoodIn wsL_act (wsV RL 49 RX5 yX5_setOwner wsX5_setOwner) := goodIn_app (goodIn_of _ (by decide +kernel)) ggL_act_X5_setOwner
set_option maxRecDepth 20000 in
theorem ggL_act_X5_setReturn : GoodIn wsL_act wsX5_setReturn := goodIn_r _ [125, 13, 12, 14, 15, 9, 16, 17, 18, 19, 126, 127, 128, 35, 129, 49, 20, 21, 22, 23, 24, 25, 26, 27, 28, 29, 30, 31, 32, 33, 34, 36, 37, 38, 39, 40, 41, 42, 43, 44, 45, 46, 47, 48, 50, 51, 52, 53, 54, 55, 56, 57, 58, 59, 60, 61, 62, 63, 64, 65, 66, 67, 68, 69, 216, 217, 218, 219, 220, 224, 225, 226, 227, 228, 229, 230, 231, 232, 233, 234, 235, 236, 237, 238, 239, 240, 241, 221, 222, 223, 242, 243, 244, 245, 246] (by decide +kernel) (by decide +kernel)
set_option maxRecDepth 20000 in
theorem gL_act_X5_setReturn : GoodIn wsL_act (wsV RL 52 RX5 yX5_setReturn wsX5_setReturn) := goodIn_app (goodIn_of _ (by decide +kernel)) ggL_act_X5_setReturn
set_option maxRecDepth 20000 in
theorem ggL_act_X5_store : GoodIn wsL_act wsX5_store := goodIn_r _ [133, 12, 13, 14, 15, 9, 16, 20, 21, 22, 23, 24, 25, 26, 27, 28, 29, 30, 31, 32, 33, 34, 35, 36, 37, 38, 39, 40, 41, 42, 43, 44, 45, 46, 47, 48, 49, 50, 51, 52, 53, 54, 55, 56, 57, 58, 59, 60, 61, 62, 63, 64, 65, 66, 67, 68, 69, 134, 135, 136, 137, 115, 116, 117, 118, 119, 120, 121, 216, 217, 218, 219, 220, 224, 225, 226, 227, 228, 229, 230, 231, 232, 233, 234, 235, 236, 237, 238, 239, 240, 241, 221, 222, 223, 242, 243, 244, 245, 246] (by decide +kernel) (by decide +kernel)
set_option maxRecDepth 20000 in
theorem gL_act_X5_store : GoodIn wsL_act (wsV RL 55 RX5 yX5_store wsX5_store) := goodIn_app (goodIn_of _ (by decide +kernel)) ggL_act_X5_store
set_option maxRecDepth 20000 in
theorem ggL_act_X5_recall : GoodIn wsL_act wsX5_recall := goodIn_r _ [141, 13, 12, 14, 15, 9, 16, 17, 18, 19, 142, 74, 75, 20, 21, 22, 23, 24, 25, 26, 27, 28, 29, 30, 31, 32, 33, 34, 35, 36, 37, 38, 39, 40, 41, 42, 43, 44, 45, 46, 47, 48, 49, 50, 51, 52, 53, 54, 55, 56, 57, 58, 59, 60, 61, 62, 63, 64, 65, 66, 67, 68, 69, 143, 144, 145, 146, 147, 148, 149, 150, 151, 152, 153, 154, 155, 156, 157, 158, 216, 217, 218, 219, 220, 224, 225, 226, 227, 228, 229, 230, 231, 232, 233, 234, 235, 236, 237, 238, 239, 240, 241, 221, 222, 223, 242, 243, 244, 245, 246] (by decide +kernel) (by decide +kernel)
set_option maxRecDepth 20000 in
theorem gL_act_X5_recall : GoodIn wsL_act (wsV RL 58 RX5 yX5_recall wsX5_recall) := goodIn_app (goodIn_of _ (by decide +kernel)) ggL_act_X5_recall
set_option maxRecDepth 20000 in
theorem ggL_act_X5_reset : GoodIn wsL_act wsX5_reset := goodIn_r _ [162, 12, 13, 20, 21, 22, 23, 24, 25, 26, 27, 28, 29, 30, 31, 32, 33, 34, 35, 36, 37, 38, 39, 40, 41, 42, 43, 44, 45, 46, 47, 48, 49, 50, 51, 52, 53, 54, 55, 56, 57, 58, 59, 60, 61, 62, 63, 64, 65, 66, 67, 68, 69, 216, 217, 218, 219, 220, 224, 225, 226, 227, 228, 229, 230, 231, 232, 233, 234, 235, 236, 237, 238, 239, 240, 241, 221, 222, 223, 242, 243, 244, 245, 246] (by decide +kernel) (by decide +kernel)
set_option maxRecDepth 20000 in
theorem gL_act_X5_reset : GoodIn wsL_act (wsV RL 61 RX5 yX5_reset wsX5_reset) := goodIn_app (goodIn_of _ (by decide +kernel)) ggL_act_X5_reset
set_option maxRecDepth 20000 in
theorem ggL_act_X5_run : GoodIn wsL_act wsX5_run := goodIn_r _ [166, 13, 12, 17, 18, 9, 19, 20, 21, 22, 23, 24, 25, 26, 27, 28, 29, 30, 31, 32, 33, 34, 35, 36, 37, 38, 39, 40, 41, 42, 43, 44, 45, 46, 47, 48, 49, 50, 51, 52, 53, 54, 55, 56, 57, 58, 59, 60, 61, 62, 63, 64, 65, 66, 67, 68, 69, 167, 168, 169, 170, 171, 87, 88, 89, 172, 173, 174, 175, 176, 177, 178, 179, 74, 75, 180, 181, 182, 183, 184, 185, 186, 187, 155, 156, 157, 158, 188, 189, 190, 191, 192, 193, 194, 195, 196, 197, 198, 199, 200, 201, 202, 203, 204, 205, 206, 207, 208, 209, 210, 211, 108, 109, 212, 213, 214, 215, 216, 217, 218, 219, 220, 224, 225, 226, 227, 228, 229, 230, 231, 232, 233, 234, 235, 236, 237, 238, 239, 240, 241, 221, 222, 223, 242, 243, 244, 245, 246] (by decide +kernel) (by decide +kernel)
set_option maxRecDepth 20000 in
theorem gL_act_X5_run : GoodIn wsL_act (wsV RL 65 RX5 yX5_run wsX5_run) := goodIn_app (goodIn_of _ (by decide +kernel)) ggL_act_X5_run
theorem dL_act_0 : decode cL_act 0 = .ok (.iload_n 1, 1) := by decide +kernel
theorem dL_act_1 : decode cL_act 1 = .ok (.iconst 4, 1) := by decide +kernel
theorem dL_act_2 : decode cL_act 2 = .ok (.ishr, 1) := by decide +kernel
theorem dL_act_3 : decode cL_act 3 = .ok (.istore_n 2, 1) := by decide +kernel
theorem dL_act_4 : decode cL_act 4 = .ok (.iload_n 2, 1) := by decide +kernel
theorem dL_act_5 : decode cL_act 5 = .ok (.bipush 6, 2) := by decide +kernel
theorem dL_act_7 : decode cL_act 7 = .ok (.invokestatic 35, 3) := by decide +kernel
theorem dL_act_10 : decode cL_act 10 = .ok (.istore_n 3, 1) := by decide +kernel
theorem dL_act_11 : decode cL_act 11 = .ok (.iload_n 1, 1) := by decide +kernel
theorem dL_act_12 : decode cL_act 12 = .ok (.bipush 7, 2) := by decide +kernel
theorem dL_act_14 : decode cL_act 14 = .ok (.ishr, 1) := by decide +kernel
theorem dL_act_15 : decode cL_act 15 = .ok (.iconst 3, 1) := by decide +kernel
theorem dL_act_16 : decode cL_act 16 = .ok (.iand, 1) := by decide +kernel
theorem dL_act_17 : decode cL_act 17 = .ok (.istore 4, 2) := by decide +kernel
theorem dL_act_19 : decode cL_act 19 = .ok (.iload_n 1, 1) := by decide +kernel
theorem dL_act_20 : decode cL_act 20 = .ok (.iconst 3, 1) := by decide +kernel
theorem dL_act_21 : decode cL_act 21 = .ok (.ishr, 1) := by decide +kernel
theorem dL_act_22 : decode cL_act 22 = .ok (.bipush 101, 2) := by decide +kernel
theorem dL_act_24 : decode cL_act 24 = .ok (.invokestatic 35, 3) := by decide +kernel
theorem dL_act_27 : decode cL_act 27 = .ok (.istore 5, 2) := by decide +kernel
theorem dL_act_29 : decode cL_act 29 = .ok (.iload_n 1, 1) := by decide +kernel
theorem dL_act_30 : decode cL_act 30 = .ok (.bipush 15, 2) := by decide +kernel
theorem dL_act_32 : decode cL_act 32 = .ok (.iand, 1) := by decide +kernel
theorem dL_act_33 : decode cL_act 33 = .ok (.tableswitch 239 0 14 #[75, 91, 91, 100, 120, 134, 166, 166, 166, 176, 190, 190, 205, 215, 234], 75) := by decide +kernel
theorem dL_act_108 : decode cL_act 108 = .ok (.aload_n 0, 1) := by decide +kernel
theorem dL_act_109 : decode cL_act 109 = .ok (.iload_n 3, 1) := by decide +kernel
theorem dL_act_110 : decode cL_act 110 = .ok (.iconst 0, 1) := by decide +kernel
theorem dL_act_111 : decode cL_act 111 = .ok (.iload_n 1, 1) := by decide +kernel
theorem dL_act_112 : decode cL_act 112 = .ok (.iconst 3, 1) := by decide +kernel
theorem dL_act_113 : decode cL_act 113 = .ok (.imul, 1) := by decide +kernel
theorem dL_act_114 : decode cL_act 114 = .ok (.sipush 1001, 3) := by decide +kernel
theorem dL_act_117 : decode cL_act 117 = .ok (.invokestatic 35, 3) := by decide +kernel
theorem dL_act_120 : decode cL_act 120 = .ok (.invokevirtual 40, 3) := by decide +kernel
theorem dL_act_123 : decode cL_act 123 = .ok (.ireturn, 1) := by decide +kernel
theorem dL_act_124 : decode cL_act 124 = .ok (.aload_n 0, 1) := by decide +kernel
theorem dL_act_125 : decode cL_act 125 = .ok (.iload_n 3, 1) := by decide +kernel
theorem dL_act_126 : decode cL_act 126 = .ok (.iconst 1, 1) := by decide +kernel
theorem dL_act_127 : decode cL_act 127 = .ok (.iload 5, 2) := by decide +kernel
theorem dL_act_129 : decode cL_act 129 = .ok (.invokevirtual 40, 3) := by decide +kernel
theorem dL_act_132 : decode cL_act 132 = .ok (.ireturn, 1) := by decide +kernel
theorem dL_act_133 : decode cL_act 133 = .ok (.aload_n 0, 1) := by decide +kernel
theorem dL_act_134 : decode cL_act 134 = .ok (.iload_n 3, 1) := by decide +kernel
theorem dL_act_135 : decode cL_act 135 = .ok (.iconst 2, 1) := by decide +kernel
theorem dL_act_136 : decode cL_act 136 = .ok (.iload_n 1, 1) := by decide +kernel
theorem dL_act_137 : decode cL_act 137 = .ok (.bipush 8, 2) := by decide +kernel
theorem dL_act_139 : decode cL_act 139 = .ok (.ishr, 1) := by decide +kernel
theorem dL_act_140 : decode cL_act 140 = .ok (.iconst 1, 1) := by decide +kernel
theorem dL_act_141 : decode cL_act 141 = .ok (.iand, 1) := by decide +kernel
theorem dL_act_142 : decode cL_act 142 = .ok (.iadd, 1) := by decide +kernel
theorem dL_act_143 : decode cL_act 143 = .ok (.iload_n 1, 1) := by decide +kernel
theorem dL_act_144 : decode cL_act 144 = .ok (.bipush 7, 2) := by decide +kernel
theorem dL_act_146 : decode cL_act 146 = .ok (.ishr, 1) := by decide +kernel
