theorem dL_cell_0 : decode cL_cell 0 = .ok (.iload_n 1, 1) := by decide +kernel
theorem dL_cell_1 : decode cL_cell 1 = .ok (.aload_n 0, 1) := by decide +kernel
theorem dL_cell_2 : decode cL_cell 2 = .ok (.arraylength, 1) := by decide +kernel
theorem dL_cell_3 : decode cL_cell 3 = .ok (.if_icmp .ge 9, 3) := by decide +kernel
theorem dL_cell_6 : decode cL_cell 6 = .ok (.aload_n 0, 1) := by decide +kernel
theorem dL_cell_7 : decode cL_cell 7 = .ok (.iload_n 1, 1) := by decide +kernel
theorem dL_cell_8 : decode cL_cell 8 = .ok (.iaload, 1) := by decide +kernel
theorem dL_cell_9 : decode cL_cell 9 = .ok (.goto 15, 3) := by decide +kernel
theorem dL_cell_12 : decode cL_cell 12 = .ok (.sipush 7919, 3) := by decide +kernel
theorem dL_cell_15 : decode cL_cell 15 = .ok (.iload_n 1, 1) := by decide +kernel
theorem dL_cell_16 : decode cL_cell 16 = .ok (.iconst 3, 1) := by decide +kernel
theorem dL_cell_17 : decode cL_cell 17 = .ok (.iadd, 1) := by decide +kernel
theorem dL_cell_18 : decode cL_cell 18 = .ok (.imul, 1) := by decide +kernel
theorem dL_cell_19 : decode cL_cell 19 = .ok (.iload_n 1, 1) := by decide +kernel
theorem dL_cell_20 : decode cL_cell 20 = .ok (.bipush 11, 2) := by decide +kernel
theorem dL_cell_22 : decode cL_cell 22 = .ok (.iadd, 1) := by decide +kernel
theorem dL_cell_23 : decode cL_cell 23 = .ok (.imul, 1) := by decide +kernel
theorem dL_cell_24 : decode cL_cell 24 = .ok (.ireturn, 1) := by decide +kernel
theorem dL_low_0 : decode cL_low 0 = .ok (.iload_n 0, 1) := by decide +kernel
theorem dL_low_1 : decode cL_low 1 = .ok (.ldc 7, 2) := by decide +kernel
theorem dL_low_3 : decode cL_low 3 = .ok (.iand, 1) := by decide +kernel
theorem dL_low_4 : decode cL_low 4 = .ok (.iload_n 1, 1) := by decide +kernel
theorem dL_low_5 : decode cL_low 5 = .ok (.irem, 1) := by decide +kernel
theorem dL_low_6 : decode cL_low 6 = .ok (.ireturn, 1) := by decide +kernel
set_option maxRecDepth 20000 in
theorem ggL_digest_X5_count : GoodIn wsL_digest wsX5_count := goodIn_r _ [7, 8, 9, 10, 11, 12, 13, 14, 15, 16, 17, 18, 19, 20, 21, 22, 23, 24, 25, 26, 27, 28, 29, 30, 31, 32, 33, 34, 35, 36, 6, 37, 38, 39, 40, 41, 42, 43, 112, 113, 114, 115, 116, 117, 118, 119, 120, 121, 122, 123, 124, 125, 126, 127, 128, 129, 130, 131, 132, 133, 134, 135, 136, 137, 138, 139, 140, 141, 142, 143, 144, 145] (by decide +kernel) (by decide +kernel)
set_option maxRecDepth 20000 in
theorem gL_digest_X5_count : GoodIn wsL_digest (wsV RL 12 RX5 yX5_count wsX5_count) := goodIn_app (goodIn_of _ (by decide +kernel)) ggL_digest_X5_count
set_option maxRecDepth 20000 in
theorem ggL_digest_X5_channel : GoodIn wsL_digest wsX5_channel := goodIn_r _ [47, 48, 8, 49, 50, 6, 51, 52, 53, 54, 27, 55, 56, 34, 33, 43, 35, 36, 37, 57, 30, 31, 32, 38, 39, 40, 41, 42, 58, 59, 60, 14, 61, 62, 63, 64, 65, 66, 67, 112, 113, 114, 115, 116, 117, 118, 119, 120, 121, 122, 123, 124, 125, 126, 127, 128, 129, 130, 131, 132, 133, 134, 135, 136, 137, 138, 139] (by decide +kernel) (by decide +kernel)
set_option maxRecDepth 20000 in
theorem gL_digest_X5_channel : GoodIn wsL_digest (wsV RL 18 RX5 yX5_channel wsX5_channel) := goodIn_app (goodIn_of _ (by decide +kernel)) ggL_digest_X5_channel
set_option maxRecDepth 20000 in
theorem ggL_digest_X5_group : GoodIn wsL_digest wsX5_group := goodIn_r _ [71, 72, 8, 49, 50, 6, 51, 73, 74, 75, 27, 76, 34, 42, 36, 37, 77, 78, 79, 80, 35, 58, 59, 60, 14, 61, 62, 112, 113, 114, 115, 116, 117, 118, 119, 120, 121, 122, 123, 124, 125, 126, 127, 128, 129, 130, 131, 132, 133, 134, 135, 136, 137, 138, 139] (by decide +kernel) (by decide +kernel)
set_option maxRecDepth 20000 in
theorem gL_digest_X5_group : GoodIn wsL_digest (wsV RL 22 RX5 yX5_group wsX5_group) := goodIn_app (goodIn_of _ (by decide +kernel)) ggL_digest_X5_group
set_option maxRecDepth 20000 in
theorem ggL_digest_X5_feed : GoodIn wsL_digest wsX5_feed := goodIn_r _ [84, 8, 49, 50, 6, 51, 85, 86, 87, 27, 88, 89, 90, 91, 92, 29, 30, 31, 32, 33, 34, 35, 36, 37, 38, 39, 40, 41, 42, 43, 93, 94, 95, 96, 97, 98, 99, 100, 112, 113, 114, 115, 116, 117, 118, 119, 120, 121, 122, 123, 124, 125, 126, 127, 128, 129, 130, 131, 132, 133, 134] (by decide +kernel) (by decide +kernel)
set_option maxRecDepth 20000 in
theorem gL_digest_X5_feed : GoodIn wsL_digest (wsV RL 25 RX5 yX5_feed wsX5_feed) := goodIn_app (goodIn_of _ (by decide +kernel)) ggL_digest_X5_feed
set_option maxRecDepth 20000 in
theorem ggL_digest_X5_send : GoodIn wsL_digest wsX5_send := goodIn_r _ [104, 8, 49, 50, 6, 51, 105, 99, 100, 106, 90, 91, 27, 92, 29, 30, 31, 32, 33, 34, 35, 36, 37, 38, 39, 40, 41, 42, 43, 93, 94, 95, 96, 97, 98, 112, 113, 114, 115, 116, 117, 118, 119, 120, 121, 122, 123, 124, 125, 126, 127, 128, 129, 130, 131, 132, 133, 134] (by decide +kernel) (by decide +kernel)
set_option maxRecDepth 20000 in
theorem gL_digest_X5_send : GoodIn wsL_digest (wsV RL 28 RX5 yX5_send wsX5_send) := goodIn_app (goodIn_of _ (by decide +kernel)) ggL_digest_X5_send
set_option maxRecDepth 20000 in
theorem ggL_digest_X5_scene : GoodIn wsL_digest wsX5_scene := goodIn_r _ [110, 8, 49, 50, 6, 51, 111, 36, 37, 112, 113, 114, 115, 116, 117, 118, 119, 120, 121, 122, 123, 124, 125, 126, 127, 128, 129, 130, 131, 132, 133, 134] (by decide +kernel) (by decide +kernel)
set_option maxRecDepth 20000 in
theorem gL_digest_X5_scene : GoodIn wsL_digest (wsV RL 32 RX5 yX5_scene wsX5_scene) := goodIn_app (goodIn_of _ (by decide +kernel)) ggL_digest_X5_scene
theorem dL_digest_0 : decode cL_digest 0 = .ok (.ldc2_w 8, 3) := by decide +kernel
theorem dL_digest_3 : decode cL_digest 3 = .ok (.lstore_n 1, 1) := by decide +kernel
theorem dL_digest_4 : decode cL_digest 4 = .ok (.iconst 0, 1) := by decide +kernel
theorem dL_digest_5 : decode cL_digest 5 = .ok (.istore_n 3, 1) := by decide +kernel
theorem dL_digest_6 : decode cL_digest 6 = .ok (.iload_n 3, 1) := by decide +kernel
theorem dL_digest_7 : decode cL_digest 7 = .ok (.bipush 9, 2) := by decide +kernel
theorem dL_digest_9 : decode cL_digest 9 = .ok (.if_icmp .ge 22, 3) := by decide +kernel
theorem dL_digest_12 : decode cL_digest 12 = .ok (.ldc2_w 10, 3) := by decide +kernel
theorem dL_digest_15 : decode cL_digest 15 = .ok (.lload_n 1, 1) := by decide +kernel
theorem dL_digest_16 : decode cL_digest 16 = .ok (.lmul, 1) := by decide +kernel
theorem dL_digest_17 : decode cL_digest 17 = .ok (.aload_n 0, 1) := by decide +kernel
theorem dL_digest_18 : decode cL_digest 18 = .ok (.iload_n 3, 1) := by decide +kernel
theorem dL_digest_19 : decode cL_digest 19 = .ok (.invokevirtual 12, 3) := by decide +kernel
theorem dL_digest_22 : decode cL_digest 22 = .ok (.i2l, 1) := by decide +kernel
theorem dL_digest_23 : decode cL_digest 23 = .ok (.ladd, 1) := by decide +kernel
theorem dL_digest_24 : decode cL_digest 24 = .ok (.lstore_n 1, 1) := by decide +kernel
theorem dL_digest_25 : decode cL_digest 25 = .ok (.iinc 3 1, 3) := by decide +kernel
theorem dL_digest_28 : decode cL_digest 28 = .ok (.goto (-22), 3) := by decide +kernel
theorem dL_digest_31 : decode cL_digest 31 = .ok (.iconst 0, 1) := by decide +kernel
theorem dL_digest_32 : decode cL_digest 32 = .ok (.istore_n 3, 1) := by decide +kernel
theorem dL_digest_33 : decode cL_digest 33 = .ok (.iload_n 3, 1) := by decide +kernel
theorem dL_digest_34 : decode cL_digest 34 = .ok (.bipush 12, 2) := by decide +kernel
theorem dL_digest_36 : decode cL_digest 36 = .ok (.if_icmp .ge 40, 3) := by decide +kernel
theorem dL_digest_39 : decode cL_digest 39 = .ok (.iconst 0, 1) := by decide +kernel
theorem dL_digest_40 : decode cL_digest 40 = .ok (.istore 4, 2) := by decide +kernel
theorem dL_digest_42 : decode cL_digest 42 = .ok (.iload 4, 2) := by decide +kernel
theorem dL_digest_44 : decode cL_digest 44 = .ok (.bipush 9, 2) := by decide +kernel
theorem dL_digest_46 : decode cL_digest 46 = .ok (.if_icmp .ge 24, 3) := by decide +kernel
theorem dL_digest_49 : decode cL_digest 49 = .ok (.ldc2_w 10, 3) := by decide +kernel
theorem dL_digest_52 : decode cL_digest 52 = .ok (.lload_n 1, 1) := by decide +kernel
theorem dL_digest_53 : decode cL_digest 53 = .ok (.lmul, 1) := by decide +kernel
theorem dL_digest_54 : decode cL_digest 54 = .ok (.aload_n 0, 1) := by decide +kernel
theorem dL_digest_55 : decode cL_digest 55 = .ok (.iload_n 3, 1) := by decide +kernel
theorem dL_digest_56 : decode cL_digest 56 = .ok (.iload 4, 2) := by decide +kernel
theorem dL_digest_58 : decode cL_digest 58 = .ok (.invokevirtual 18, 3) := by decide +kernel
theorem dL_digest_61 : decode cL_digest 61 = .ok (.i2l, 1) := by decide +kernel
theorem dL_digest_62 : decode cL_digest 62 = .ok (.ladd, 1) := by decide +kernel
theorem dL_digest_63 : decode cL_digest 63 = .ok (.lstore_n 1, 1) := by decide +kernel
theorem dL_digest_64 : decode cL_digest 64 = .ok (.iinc 4 1, 3) := by decide +kernel
theorem dL_digest_67 : decode cL_digest 67 = .ok (.goto (-25), 3) := by decide +kernel
theorem dL_digest_70 : decode cL_digest 70 = .ok (.iinc 3 1, 3) := by decide +kernel
theorem dL_digest_73 : decode cL_digest 73 = .ok (.goto (-40), 3) := by decide +kernel
theorem dL_digest_76 : decode cL_digest 76 = .ok (.iconst 0, 1) := by decide +kernel
theorem dL_digest_77 : decode cL_digest 77 = .ok (.istore_n 3, 1) := by decide +kernel
theorem dL_digest_78 : decode cL_digest 78 = .ok (.iload_n 3, 1) := by decide +kernel
theorem dL_digest_79 : decode cL_digest 79 = .ok (.iconst 4, 1) := by decide +kernel
theorem dL_digest_80 : decode cL_digest 80 = .ok (.if_icmp .ge 86, 3) := by decide +kernel
theorem dL_digest_83 : decode cL_digest 83 = .ok (.iconst 0, 1) := by decide +kernel
theorem dL_digest_84 : decode cL_digest 84 = .ok (.istore 4, 2) := by decide +kernel
theorem dL_digest_86 : decode cL_digest 86 = .ok (.iload 4, 2) := by decide +kernel
theorem dL_digest_88 : decode cL_digest 88 = .ok (.iconst 4, 1) := by decide +kernel
theorem dL_digest_89 : decode cL_digest 89 = .ok (.if_icmp .ge 39, 3) := by decide +kernel
theorem dL_digest_92 : decode cL_digest 92 = .ok (.ldc2_w 10, 3) := by decide +kernel
theorem dL_digest_95 : decode cL_digest 95 = .ok (.lload_n 1, 1) := by decide +kernel
theorem dL_digest_96 : decode cL_digest 96 = .ok (.lmul, 1) := by decide +kernel
theorem dL_digest_97 : decode cL_digest 97 = .ok (.aload_n 0, 1) := by decide +kernel
theorem dL_digest_98 : decode cL_digest 98 = .ok (.iload_n 3, 1) := by decide +kernel
theorem dL_digest_99 : decode cL_digest 99 = .ok (.iload 4, 2) := by decide +kernel
theorem dL_digest_101 : decode cL_digest 101 = .ok (.invokevirtual 22, 3) := by decide +kernel
theorem dL_digest_104 : decode cL_digest 104 = .ok (.i2l, 1) := by decide +kernel
theorem dL_digest_105 : decode cL_digest 105 = .ok (.ladd, 1) := by decide +kernel
theorem dL_digest_106 : decode cL_digest 106 = .ok (.lstore_n 1, 1) := by decide +kernel
theorem dL_digest_107 : decode cL_digest 107 = .ok (.ldc2_w 10, 3) := by decide +kernel
theorem dL_digest_110 : decode cL_digest 110 = .ok (.lload_n 1, 1) := by decide +kernel
theorem dL_digest_111 : decode cL_digest 111 = .ok (.lmul, 1) := by decide +kernel
theorem dL_digest_112 : decode cL_digest 112 = .ok (.aload_n 0, 1) := by decide +kernel
theorem dL_digest_113 : decode cL_digest 113 = .ok (.iload_n 3, 1) := by decide +kernel
theorem dL_digest_114 : decode cL_digest 114 = .ok (.iload 4, 2) := by decide +kernel
theorem dL_digest_116 : decode cL_digest 116 = .ok (.invokevirtual 25, 3) := by decide +kernel
theorem dL_digest_119 : decode cL_digest 119 = .ok (.i2l, 1) := by decide +kernel
theorem dL_digest_120 : decode cL_digest 120 = .ok (.ladd, 1) := by decide +kernel
theorem dL_digest_121 : decode cL_digest 121 = .ok (.lstore_n 1, 1) := by decide +kernel
theorem dL_digest_122 : decode cL_digest 122 = .ok (.iinc 4 1, 3) := by decide +kernel
theorem dL_digest_125 : decode cL_digest 125 = .ok (.goto (-39), 3) := by decide +kernel
theorem dL_digest_128 : decode cL_digest 128 = .ok (.iconst 0, 1) := by decide +kernel
theorem dL_digest_129 : decode cL_digest 129 = .ok (.istore 4, 2) := by decide +kernel
theorem dL_digest_131 : decode cL_digest 131 = .ok (.iload 4, 2) := by decide +kernel
theorem dL_digest_133 : decode cL_digest 133 = .ok (.bipush 12, 2) := by decide +kernel
theorem dL_digest_135 : decode cL_digest 135 = .ok (.if_icmp .ge 25, 3) := by decide +kernel
theorem dL_digest_138 : decode cL_digest 138 = .ok (.ldc2_w 10, 3) := by decide +kernel
theorem dL_digest_141 : decode cL_digest 141 = .ok (.lload_n 1, 1) := by decide +kernel
theorem dL_digest_142 : decode cL_digest 142 = .ok (.lmul, 1) := by decide +kernel
theorem dL_digest_143 : decode cL_digest 143 = .ok (.aload_n 0, 1) := by decide +kernel
theorem dL_digest_144 : decode cL_digest 144 = .ok (.iload_n 3, 1) := by decide +kernel
theorem dL_digest_145 : decode cL_digest 145 = .ok (.iload 4, 2) := by decide +kernel
theorem dL_digest_147 : decode cL_digest 147 = .ok (.iconst 0, 1) := by decide +kernel
theorem dL_digest_148 : decode cL_digest 148 = .ok (.invokevirtual 28, 3) := by decide +kernel
theorem dL_digest_151 : decode cL_digest 151 = .ok (.i2l, 1) := by decide +kernel
theorem dL_digest_152 : decode cL_digest 152 = .ok (.ladd, 1) := by decide +kernel
theorem dL_digest_153 : decode cL_digest 153 = .ok (.lstore_n 1, 1) := by decide +kernel
theorem dL_digest_154 : decode cL_digest 154 = .ok (.iinc 4 1, 3) := by decide +kernel
theorem dL_digest_157 : decode cL_digest 157 = .ok (.goto (-26), 3) := by decide +kernel
theorem dL_digest_160 : decode cL_digest 160 = .ok (.iinc 3 1, 3) := by decide +kernel
theorem dL_digest_163 : decode cL_digest 163 = .ok (.goto (-85), 3) := by decide +kernel
theorem dL_digest_166 : decode cL_digest 166 = .ok (.iconst 0, 1) := by decide +kernel
theorem dL_digest_167 : decode cL_digest 167 = .ok (.istore_n 3, 1) := by decide +kernel
theorem dL_digest_168 : decode cL_digest 168 = .ok (.iload_n 3, 1) := by decide +kernel
theorem dL_digest_169 : decode cL_digest 169 = .ok (.bipush 6, 2) := by decide +kernel
theorem dL_digest_171 : decode cL_digest 171 = .ok (.if_icmp .ge 40, 3) := by decide +kernel
theorem dL_digest_174 : decode cL_digest 174 = .ok (.iconst 0, 1) := by decide +kernel
theorem dL_digest_175 : decode cL_digest 175 = .ok (.istore 4, 2) := by decide +kernel
theorem dL_digest_177 : decode cL_digest 177 = .ok (.iload 4, 2) := by decide +kernel
theorem dL_digest_179 : decode cL_digest 179 = .ok (.bipush 17, 2) := by decide +kernel
theorem dL_digest_181 : decode cL_digest 181 = .ok (.if_icmp .ge 24, 3) := by decide +kernel
theorem dL_digest_184 : decode cL_digest 184 = .ok (.ldc2_w 10, 3) := by decide +kernel
theorem dL_digest_187 : decode cL_digest 187 = .ok (.lload_n 1, 1) := by decide +kernel
theorem dL_digest_188 : decode cL_digest 188 = .ok (.lmul, 1) := by decide +kernel
theorem dL_digest_189 : decode cL_digest 189 = .ok (.aload_n 0, 1) := by decide +kernel
theorem dL_digest_190 : decode cL_digest 190 = .ok (.iload_n 3, 1) := by decide +kernel
theorem dL_digest_191 : decode cL_digest 191 = .ok (.iload 4, 2) := by decide +kernel
theorem dL_digest_193 : decode cL_digest 193 = .ok (.invokevirtual 32, 3) := by decide +kernel
theorem dL_digest_196 : decode cL_digest 196 = .ok (.i2l, 1) := by decide +kernel
theorem dL_digest_197 : decode cL_digest 197 = .ok (.ladd, 1) := by decide +kernel
theorem dL_digest_198 : decode cL_digest 198 = .ok (.lstore_n 1, 1) := by decide +kernel
theorem dL_digest_199 : decode cL_digest 199 = .ok (.iinc 4 1, 3) := by decide +kernel
theorem dL_digest_202 : decode cL_digest 202 = .ok (.goto (-25), 3) := by decide +kernel
theorem dL_digest_205 : decode cL_digest 205 = .ok (.iinc 3 1, 3) := by decide +kernel
theorem dL_digest_208 : decode cL_digest 208 = .ok (.goto (-40), 3) := by decide +kernel
theorem dL_digest_211 : decode cL_digest 211 = .ok (.lload_n 1, 1) := by decide +kernel
theorem dL_digest_212 : decode cL_digest 212 = .ok (.lreturn, 1) := by decide +kernel
set_option maxRecDepth 20000 in
theorem ggL_act_L_low : GoodIn wsL_act wsL_low := goodIn_r _ [4, 5] (by decide +kernel) (by decide +kernel)
set_option maxRecDepth 20000 in
theorem gL_act_L_low : GoodIn wsL_act (va_wsS RL 35 yL_low wsL_low) := goodIn_app (goodIn_of _ (by decide +kernel)) ggL_act_L_low
set_option maxRecDepth 20000 in
theorem ggL_act_X5_setChannel : GoodIn wsL_act wsX5_setChannel := goodIn_r _ [10, 11, 12, 13, 14, 15, 9, 16, 17, 18, 19, 20, 21, 22, 23, 24, 25, 26, 27, 28, 29, 30, 31, 32, 33, 34, 35, 36, 37, 38, 39, 40, 41, 42, 43, 44, 45, 46, 47, 48, 49, 50, 51, 52, 53, 54, 55, 56, 57, 58, 59, 60, 61, 62, 63, 64, 65, 66, 67, 68, 69, 70, 71, 72, 73, 74, 75, 76, 77, 78, 79, 80, 81, 82, 83, 84, 85, 86, 87, 88, 89, 216, 217, 218, 219, 220, 221, 222, 223, 224, 225, 226, 227, 228, 229, 230, 231, 232, 233, 234, 235, 236, 237, 238, 239, 240, 241, 242, 243, 244, 245, 246] (by decide +kernel) (by decide +kernel)
set_option maxRecDepth 20000 in
theorem gL_act_X5_setChannel : GoodIn wsL_act (wsV RL 40 RX5 yX5_setChannel wsX5_setChannel) := goodIn_app (goodIn_of _ (by decide +kernel)) ggL_act_X5_setChannel
set_option maxRecDepth 20000 in
theorem ggL_act_X5_setGroup : GoodIn wsL_act wsX5_setGroup := goodIn_r _ [93, 94, 12, 13, 14, 15, 9, 16, 17, 18, 19, 20, 21, 22, 23, 24, 25, 26, 27, 28, 29, 30, 31, 32, 33, 34, 35, 36, 37, 38, 39, 40, 41, 42, 43, 44, 45, 46, 47, 48, 49, 50, 51, 52, 53, 54, 55, 56, 57, 58, 59, 60, 61, 62, 63, 64, 65, 66, 67, 68, 69, 95, 96, 97, 98, 74, 75, 99, 100, 101, 102, 80, 81, 82, 83, 84, 85, 86, 87, 88, 89, 216, 217, 218, 219, 220, 221, 222, 223, 224, 225, 226, 227, 228, 229, 230, 231, 232, 233, 234, 235, 236, 237, 238, 239, 240, 241, 242, 243, 244, 245, 246] (by decide +kernel) (by decide +kernel)
set_option maxRecDepth 20000 in
theorem gL_act_X5_setGroup : GoodIn wsL_act (wsV RL 43 RX5 yX5_setGroup wsX5_setGroup) := goodIn_app (goodIn_of _ (by decide +kernel)) ggL_act_X5_setGroup
set_option maxRecDepth 20000 in
theorem ggL_act_X5_setSend : GoodIn wsL_act wsX5_setSend := goodIn_r _ [106, 12, 13, 14, 15, 9, 16, 17, 18, 19, 20, 21, 22, 23, 24, 25, 26, 27, 28, 29, 30, 31, 32, 33, 34, 35, 36, 37, 38, 39, 40, 41, 42, 43, 44, 45, 46, 47, 48, 49, 50, 51, 52, 53, 54, 55, 56, 57, 58, 59, 60, 61, 62, 63, 64, 65, 66, 67, 68, 69, 107, 108, 109, 216, 217, 218, 219, 220, 224, 225, 226, 227, 228, 229, 230, 231, 232, 233, 234, 235, 236, 237, 238, 239, 240, 241, 221, 222, 223, 242, 243, 244, 245, 246] (by decide +kernel) (by decide +kernel)
set_option maxRecDepth 20000 in
theorem gL_act_X5_setSend : GoodIn wsL_act (wsV RL 46 RX5 yX5_setSend wsX5_setSend) := goodIn_app (goodIn_of _ (by decide +kernel)) ggL_act_X5_setSend
set_option maxRecDepth 20000 in
theorem ggL_act_X5_setOwner : GoodIn wsL_act wsX5_setOwner := goodIn_r _ [113, 12, 13, 14, 15, 9, 16, 17, 18, 19, 20, 21, 22, 23, 24, 25, 26, 27, 28, 29, 30, 31, 32, 33, 34, 35, 36, 37, 38, 39, 40, 41, 42, 43, 44, 45, 46, 47, 48, 49, 50, 51, 52, 53, 54, 55, 56, 57, 58, 59, 60, 61, 62, 63, 64, 65, 66, 67, 68, 69, 114, 80, 81, 115, 116, 117, 118, 119, 120, 121, 216, 217, 218, 219, 220, 224, 225, 226, 227, 228, 229, 230, 231, 232, 233, 234, 235, 236, 237, 238, 239, 240, 241, 221, 222, 223, 242, 243, 244, 245, 246] (by decide +kernel) (by decide +kernel)
set_option maxRecDepth 20000 in
theorem gL_act_X5_setOwner : GoodIn wsL_act (wsV RL 49 RX5 yX5_setOwner wsX5_setOwner) := goodIn_app (goodIn_of _ (by decide +kernel)) ggL_act_X5_setOwner
set_option maxRecDepth 20000 in
theorem ggL_act_X5_setReturn : GoodIn wsL_act wsX5_setReturn := goodIn_r _ [125, 13, 12, 14, 15, 9, 16, 17, 18, 19, 126, 127, 128, 35, 129, 49, 20, 21, 22, 23, 24, 25, 26, 27, 28, 29, 30, 31, 32, 33, 34, 36, 37, 38, 39, 40, 41, 42, 43, 44, 45, 46, 47, 48, 50, 51, 52, 53, 54, 55, 56, 57, 58, 59, 60, 61, 62, 63, 64, 65, 66, 67, 68, 69, 216, 217, 218, 219, 220, 224, 225, 226, 227, 228, 229, 230, 231, 232, 233, 234, 235, 236, 237, 238, 239, 240, 241, 221, 222, 223, 242, 243, 244, 245, 246] (by decide +kernel) (by decide +kernel)
set_option maxRecDepth 20000 in
theorem gL_act_X5_setReturn : GoodIn wsL_act (wsV RL 52 RX5 yX5_setReturn wsX5_setReturn) := goodIn_app (goodIn_of _ (by decide +kernel)) ggL_act_X5_setReturn
set_option maxRecDepth 20000 in
theorem ggL_act_X5_store : GoodIn wsL_act wsX5_store := goodIn_r _ [133, 12, 13, 14, 15, 9, 16, 20, 21, 22, 23, 24, 25, 26, 27, 28, 29, 30, 31, 32, 33, 34, 35, 36, 37, 38, 39, 40, 41, 42, 43, 44, 45, 46, 47, 48, 49, 50, 51, 52, 53, 54, 55, 56, 57, 58, 59, 60, 61, 62, 63, 64, 65, 66, 67, 68, 69, 134, 135, 136, 137, 115, 116, 117, 118, 119, 120, 121, 216, 217, 218, 219, 220, 224, 225, 226, 227, 228, 229, 230, 231, 232, 233, 234, 235, 236, 237, 238, 239, 240, 241, 221, 222, 223, 242, 243, 244, 245, 246] (by decide +kernel) (by decide +kernel)
set_option maxRecDepth 20000 in
theorem gL_act_X5_store : GoodIn wsL_act (wsV RL 55 RX5 yX5_store wsX5_store) := goodIn_app (goodIn_of _ (by decide +kernel)) ggL_act_X5_store
set_option maxRecDepth 20000 in
theorem ggL_act_X5_recall : GoodIn wsL_act wsX5_recall := goodIn_r _ [141, 13, 12, 14, 15, 9, 16, 17, 18, 19, 142, 74, 75, 20, 21, 22, 23, 24, 25, 26, 27, 28, 29, 30, 31, 32, 33, 34, 35, 36, 37, 38, 39, 40, 41, 42, 43, 44, 45, 46, 47, 48, 49, 50, 51, 52, 53, 54, 55, 56, 57, 58, 59, 60, 61, 62, 63, 64, 65, 66, 67, 68, 69, 143, 144, 145, 146, 147, 148, 149, 150, 151, 152, 153, 154, 155, 156, 157, 158, 216, 217, 218, 219, 220, 224, 225, 226, 227, 228, 229, 230, 231, 232, 233, 234, 235, 236, 237, 238, 239, 240, 241, 221, 222, 223, 242, 243, 244, 245, 246] (by decide +kernel) (by decide +kernel)
set_option maxRecDepth 20000 in
theorem gL_act_X5_recall : GoodIn wsL_act (wsV RL 58 RX5 yX5_recall wsX5_recall) := goodIn_app (goodIn_of _ (by decide +kernel)) ggL_act_X5_recall
set_option maxRecDepth 20000 in
theorem ggL_act_X5_reset : GoodIn wsL_act wsX5_reset := goodIn_r _ [162, 12, 13, 20, 21, 22, 23, 24, 25, 26, 27, 28, 29, 30, 31, 32, 33, 34, 35, 36, 37, 38, 39, 40, 41, 42, 43, 44, 45, 46, 47, 48, 49, 50, 51, 52, 53, 54, 55, 56, 57, 58, 59, 60, 61, 62, 63, 64, 65, 66, 67, 68, 69, 216, 217, 218, 219, 220, 224, 225, 226, 227, 228, 229, 230, 231, 232, 233, 234, 235, 236, 237, 238, 239, 240, 241, 221, 222, 223, 242, 243, 244, 245, 246] (by decide +kernel) (by decide +kernel)
set_option maxRecDepth 20000 in
theorem gL_act_X5_reset : GoodIn wsL_act (wsV RL 61 RX5 yX5_reset wsX5_reset) := goodIn_app (goodIn_of _ (by decide +kernel)) ggL_act_X5_reset
set_option maxRecDepth 20000 in
theorem ggL_act_X5_run : GoodIn wsL_act wsX5_run := goodIn_r _ [166, 13, 12, 17, 18, 9, 19, 20, 21, 22, 23, 24, 25, 26, 27, 28, 29, 30, 31, 32, 33, 34, 35, 36, 37, 38, 39, 40, 41, 42, 43, 44, 45, 46, 47, 48, 49, 50, 51, 52, 53, 54, 55, 56, 57, 58, 59, 60, 61, 62, 63, 64, 65, 66, 67, 68, 69, 167, 168, 169, 170, 171, 87, 88, 89, 172, 173, 174, 175, 176, 177, 178, 179, 74, 75, 180, 181, 182, 183, 184, 185, 186, 187, 155, 156, 157, 158, 188, 189, 190, 191, 192, 193, 194, 195, 196, 197, 198, 199, 200, 201, 202, 203, 204, 205, 206, 207, 208, 209, 210, 211, 108, 109, 212, 213, 214, 215, 216, 217, 218, 219, 220, 224, 225, 226, 227, 228, 229, 230, 231, 232, 233, 234, 235, 236, 237, 238, 239, 240, 241, 221, 222, 223, 242, 243, 244, 245, 246] (by decide +kernel) (by decide +kernel)
set_option maxRecDepth 20000 in
theorem gL_act_X5_run : GoodIn wsL_act (wsV RL 65 RX5 yX5_run wsX5_run) := goodIn_app (goodIn_of _ (by decide +kernel)) ggL_act_X5_run
theorem dL_act_0 : decode cL_act 0 = .ok (.iload_n 1, 1) := by decide +kernel
theorem dL_act_1 : decode cL_act 1 = .ok (.iconst 4, 1) := by decide +kernel
theorem dL_act_2 : decode cL_act 2 = .ok (.ishr, 1) := by decide +kernel
theorem dL_act_3 : decode cL_act 3 = .ok (.istore_n 2, 1) := by decide +kernel
theorem dL_act_4 : decode cL_act 4 = .ok (.iload_n 2, 1) := by decide +kernel
theorem dL_act_5 : decode cL_act 5 = .ok (.bipush 6, 2) := by decide +kernel
theorem dL_act_7 : decode cL_act 7 = .ok (.invokestatic 35, 3) := by decide +kernel
theorem dL_act_10 : decode cL_act 10 = .ok (.istore_n 3, 1) := by decide +kernel
theorem dL_act_11 : decode cL_act 11 = .ok (.iload_n 1, 1) := by decide +kernel
theorem dL_act_12 : decode cL_act 12 = .ok (.bipush 7, 2) := by decide +kernel
theorem dL_act_14 : decode cL_act 14 = .ok (.ishr, 1) := by decide +kernel
theorem dL_act_15 : decode cL_act 15 = .ok (.iconst 3, 1) := by decide +kernel
theorem dL_act_16 : decode cL_act 16 = .ok (.iand, 1) := by decide +kernel
theorem dL_act_17 : decode cL_act 17 = .ok (.istore 4, 2) := by decide +kernel
theorem dL_act_19 : decode cL_act 19 = .ok (.iload_n 1, 1) := by decide +kernel
theorem dL_act_20 : decode cL_act 20 = .ok (.iconst 3, 1) := by decide +kernel
theorem dL_act_21 : decode cL_act 21 = .ok (.ishr, 1) := by decide +kernel
theorem dL_act_22 : decode cL_act 22 = .ok (.bipush 101, 2) := by decide +kernel
theorem dL_act_24 : decode cL_act 24 = .ok (.invokestatic 35, 3) := by decide +kernel
theorem dL_act_27 : decode cL_act 27 = .ok (.istore 5, 2) := by decide +kernel
theorem dL_act_29 : decode cL_act 29 = .ok (.iload_n 1, 1) := by decide +kernel
theorem dL_act_30 : decode cL_act 30 = .ok (.bipush 15, 2) := by decide +kernel
theorem dL_act_32 : decode cL_act 32 = .ok (.iand, 1) := by decide +kernel
theorem dL_act_33 : decode cL_act 33 = .ok (.tableswitch 239 0 14 #[75, 91, 91, 100, 120, 134, 166, 166, 166, 176, 190, 190, 205, 215, 234], 75) := by decide +kernel
theorem dL_act_108 : decode cL_act 108 = .ok (.aload_n 0, 1) := by decide +kernel
theorem dL_act_109 : decode cL_act 109 = .ok (.iload_n 3, 1) := by decide +kernel
theorem dL_act_110 : decode cL_act 110 = .ok (.iconst 0, 1) := by decide +kernel
theorem dL_act_111 : decode cL_act 111 = .ok (.iload_n 1, 1) := by decide +kernel
theorem dL_act_112 : decode cL_act 112 = .ok (.iconst 3, 1) := by decide +kernel
theorem dL_act_113 : decode cL_act 113 = .ok (.imul, 1) := by decide +kernel
theorem dL_act_114 : decode cL_act 114 = .ok (.sipush 1001, 3) := by decide +kernel
theorem dL_act_117 : decode cL_act 117 = .ok (.invokestatic 35, 3) := by decide +kernel
theorem dL_act_120 : decode cL_act 120 = .ok (.invokevirtual 40, 3) := by decide +kernel
theorem dL_act_123 : decode cL_act 123 = .ok (.ireturn, 1) := by decide +kernel
theorem dL_act_124 : decode cL_act 124 = .ok (.aload_n 0, 1) := by decide +kernel
theorem dL_act_125 : decode cL_act 125 = .ok (.iload_n 3, 1) := by decide +kernel
theorem dL_act_126 : decode cL_act 126 = .ok (.iconst 1, 1) := by decide +kernel
theorem dL_act_127 : decode cL_act 127 = .ok (.iload 5, 2) := by decide +kernel
theorem dL_act_129 : decode cL_act 129 = .ok (.invokevirtual 40, 3) := by decide +kernel
theorem dL_act_132 : decode cL_act 132 = .ok (.ireturn, 1) := by decide +kernel
theorem dL_act_133 : decode cL_act 133 = .ok (.aload_n 0, 1) := by decide +kernel
theorem dL_act_134 : decode cL_act 134 = .ok (.iload_n 3, 1) := by decide +kernel
theorem dL_act_135 : decode cL_act 135 = .ok (.iconst 2, 1) := by decide +kernel
theorem dL_act_136 : decode cL_act 136 = .ok (.iload_n 1, 1) := by decide +kernel
theorem dL_act_137 : decode cL_act 137 = .ok (.bipush 8, 2) := by decide +kernel
theorem dL_act_139 : decode cL_act 139 = .ok (.ishr, 1) := by decide +kernel
theorem dL_act_140 : decode cL_act 140 = .ok (.iconst 1, 1) := by decide +kernel
theorem dL_act_141 : decode cL_act 141 = .ok (.iand, 1) := by decide +kernel
theorem dL_act_142 : decode cL_act 142 = .ok (.iadd, 1) := by decide +kernel
theorem dL_act_143 : decode cL_act 143 = .ok (.iload_n 1, 1) := by decide +kernel
theorem dL_act_144 : decode cL_act 144 = .ok (.bipush 7, 2) := by decide +kernel
theorem dL_act_146 : decode cL_act 146 = .ok (.ishr, 1) := by decide +kernel
theorem dL_act_147 : decode cL_act 147 = .ok (.iconst 1, 1) := by decide +kernel
theorem dL_act_148 : decode cL_act 148 = .ok (.iand, 1) := by decide +kernel
theorem dL_act_149 : decode cL_act 149 = .ok (.invokevirtual 40, 3) := by decide +kernel
theorem dL_act_152 : decode cL_act 152 = .ok (.ireturn, 1) := by decide +kernel
theorem dL_act_153 : decode cL_act 153 = .ok (.aload_n 0, 1) := by decide +kernel
theorem dL_act_154 : decode cL_act 154 = .ok (.iload_n 3, 1) := by decide +kernel
theorem dL_act_155 : decode cL_act 155 = .ok (.iconst 4, 1) := by decide +kernel
theorem dL_act_156 : decode cL_act 156 = .ok (.iload_n 1, 1) := by decide +kernel
theorem dL_act_157 : decode cL_act 157 = .ok (.bipush 6, 2) := by decide +kernel
theorem dL_act_159 : decode cL_act 159 = .ok (.ishr, 1) := by decide +kernel
theorem dL_act_160 : decode cL_act 160 = .ok (.bipush 15, 2) := by decide +kernel
theorem dL_act_162 : decode cL_act 162 = .ok (.iand, 1) := by decide +kernel
theorem dL_act_163 : decode cL_act 163 = .ok (.invokevirtual 40, 3) := by decide +kernel
theorem dL_act_166 : decode cL_act 166 = .ok (.ireturn, 1) := by decide +kernel
theorem dL_act_167 : decode cL_act 167 = .ok (.aload_n 0, 1) := by decide +kernel
theorem dL_act_168 : decode cL_act 168 = .ok (.iload 4, 2) := by decide +kernel
theorem dL_act_170 : decode cL_act 170 = .ok (.iload_n 1, 1) := by decide +kernel
theorem dL_act_171 : decode cL_act 171 = .ok (.bipush 9, 2) := by decide +kernel
theorem dL_act_173 : decode cL_act 173 = .ok (.ishr, 1) := by decide +kernel
theorem dL_act_174 : decode cL_act 174 = .ok (.iconst 1, 1) := by decide +kernel
theorem dL_act_175 : decode cL_act 175 = .ok (.iand, 1) := by decide +kernel
theorem dL_act_176 : decode cL_act 176 = .ok (.iload_n 1, 1) := by decide +kernel
theorem dL_act_177 : decode cL_act 177 = .ok (.bipush 9, 2) := by decide +kernel
theorem dL_act_179 : decode cL_act 179 = .ok (.ishr, 1) := by decide +kernel
theorem dL_act_180 : decode cL_act 180 = .ok (.iconst 1, 1) := by decide +kernel
theorem dL_act_181 : decode cL_act 181 = .ok (.iand, 1) := by decide +kernel
theorem dL_act_182 : decode cL_act 182 = .ok (.ifCond .ne 8, 3) := by decide +kernel
theorem dL_act_185 : decode cL_act 185 = .ok (.iload 5, 2) := by decide +kernel
theorem dL_act_187 : decode cL_act 187 = .ok (.goto 8, 3) := by decide +kernel
theorem dL_act_190 : decode cL_act 190 = .ok (.iload_n 1, 1) := by decide +kernel
theorem dL_act_191 : decode cL_act 191 = .ok (.iconst 4, 1) := by decide +kernel
theorem dL_act_192 : decode cL_act 192 = .ok (.ishr, 1) := by decide +kernel
theorem dL_act_193 : decode cL_act 193 = .ok (.iconst 1, 1) := by decide +kernel
theorem dL_act_194 : decode cL_act 194 = .ok (.iand, 1) := by decide +kernel
theorem dL_act_195 : decode cL_act 195 = .ok (.invokevirtual 43, 3) := by decide +kernel
theorem dL_act_198 : decode cL_act 198 = .ok (.ireturn, 1) := by decide +kernel
theorem dL_act_199 : decode cL_act 199 = .ok (.aload_n 0, 1) := by decide +kernel
theorem dL_act_200 : decode cL_act 200 = .ok (.iload 4, 2) := by decide +kernel
theorem dL_act_202 : decode cL_act 202 = .ok (.iload_n 3, 1) := by decide +kernel
theorem dL_act_203 : decode cL_act 203 = .ok (.iload 5, 2) := by decide +kernel
theorem dL_act_205 : decode cL_act 205 = .ok (.invokevirtual 46, 3) := by decide +kernel
theorem dL_act_208 : decode cL_act 208 = .ok (.ireturn, 1) := by decide +kernel
theorem dL_act_209 : decode cL_act 209 = .ok (.aload_n 0, 1) := by decide +kernel
theorem dL_act_210 : decode cL_act 210 = .ok (.iload 4, 2) := by decide +kernel
theorem dL_act_212 : decode cL_act 212 = .ok (.iload_n 3, 1) := by decide +kernel
theorem dL_act_213 : decode cL_act 213 = .ok (.iload_n 1, 1) := by decide +kernel
theorem dL_act_214 : decode cL_act 214 = .ok (.bipush 9, 2) := by decide +kernel
theorem dL_act_216 : decode cL_act 216 = .ok (.ishr, 1) := by decide +kernel
theorem dL_act_217 : decode cL_act 217 = .ok (.iconst 1, 1) := by decide +kernel
theorem dL_act_218 : decode cL_act 218 = .ok (.iand, 1) := by decide +kernel
theorem dL_act_219 : decode cL_act 219 = .ok (.invokevirtual 49, 3) := by decide +kernel
theorem dL_act_222 : decode cL_act 222 = .ok (.ireturn, 1) := by decide +kernel
theorem dL_act_223 : decode cL_act 223 = .ok (.aload_n 0, 1) := by decide +kernel
theorem dL_act_224 : decode cL_act 224 = .ok (.iload 4, 2) := by decide +kernel
theorem dL_act_226 : decode cL_act 226 = .ok (.iload_n 2, 1) := by decide +kernel
theorem dL_act_227 : decode cL_act 227 = .ok (.bipush 7, 2) := by decide +kernel
theorem dL_act_229 : decode cL_act 229 = .ok (.invokestatic 35, 3) := by decide +kernel
theorem dL_act_232 : decode cL_act 232 = .ok (.iconst 1, 1) := by decide +kernel
theorem dL_act_233 : decode cL_act 233 = .ok (.isub, 1) := by decide +kernel
theorem dL_act_234 : decode cL_act 234 = .ok (.invokevirtual 52, 3) := by decide +kernel
theorem dL_act_237 : decode cL_act 237 = .ok (.ireturn, 1) := by decide +kernel
theorem dL_act_238 : decode cL_act 238 = .ok (.aload_n 0, 1) := by decide +kernel
theorem dL_act_239 : decode cL_act 239 = .ok (.iload_n 2, 1) := by decide +kernel
theorem dL_act_240 : decode cL_act 240 = .ok (.iconst 3, 1) := by decide +kernel
theorem dL_act_241 : decode cL_act 241 = .ok (.invokestatic 35, 3) := by decide +kernel
theorem dL_act_244 : decode cL_act 244 = .ok (.invokevirtual 55, 3) := by decide +kernel
theorem dL_act_247 : decode cL_act 247 = .ok (.ireturn, 1) := by decide +kernel
theorem dL_act_248 : decode cL_act 248 = .ok (.aload_n 0, 1) := by decide +kernel
theorem dL_act_249 : decode cL_act 249 = .ok (.iload_n 2, 1) := by decide +kernel
theorem dL_act_250 : decode cL_act 250 = .ok (.iconst 3, 1) := by decide +kernel
theorem dL_act_251 : decode cL_act 251 = .ok (.invokestatic 35, 3) := by decide +kernel
theorem dL_act_254 : decode cL_act 254 = .ok (.iload_n 1, 1) := by decide +kernel
theorem dL_act_255 : decode cL_act 255 = .ok (.bipush 6, 2) := by decide +kernel
theorem dL_act_257 : decode cL_act 257 = .ok (.ishr, 1) := by decide +kernel
theorem dL_act_258 : decode cL_act 258 = .ok (.bipush 9, 2) := by decide +kernel
theorem dL_act_260 : decode cL_act 260 = .ok (.invokestatic 35, 3) := by decide +kernel
theorem dL_act_263 : decode cL_act 263 = .ok (.invokevirtual 58, 3) := by decide +kernel
theorem dL_act_266 : decode cL_act 266 = .ok (.ireturn, 1) := by decide +kernel
theorem dL_act_267 : decode cL_act 267 = .ok (.aload_n 0, 1) := by decide +kernel
theorem dL_act_268 : decode cL_act 268 = .ok (.invokevirtual 61, 3) := by decide +kernel
theorem dL_act_271 : decode cL_act 271 = .ok (.ireturn, 1) := by decide +kernel
theorem dL_act_272 : decode cL_act 272 = .ok (.aload_n 0, 1) := by decide +kernel
theorem dL_act_273 : decode cL_act 273 = .ok (.iconst 1, 1) := by decide +kernel
theorem dL_act_274 : decode cL_act 274 = .ok (.iload_n 2, 1) := by decide +kernel
theorem dL_act_275 : decode cL_act 275 = .ok (.bipush 9, 2) := by decide +kernel
theorem dL_act_277 : decode cL_act 277 = .ok (.invokestatic 35, 3) := by decide +kernel
theorem dL_act_280 : decode cL_act 280 = .ok (.iadd, 1) := by decide +kernel
theorem dL_act_281 : decode cL_act 281 = .ok (.invokevirtual 65, 3) := by decide +kernel
theorem dL_act_284 : decode cL_act 284 = .ok (.ireturn, 1) := by decide +kernel
set_option maxRecDepth 20000 in
theorem ggL_isRight_X5_channel : GoodIn wsL_isRight wsX5_channel := goodIn_r _ [5, 6, 7, 8, 9, 4, 10, 11, 12, 13, 14, 15, 16, 17, 18, 19, 20, 21, 22, 23, 24, 25, 26, 27, 28, 29, 30, 31, 32, 33, 34, 35, 36, 37, 38, 39, 40, 41, 42, 247, 248, 249, 250, 251, 252, 253, 254, 255, 256, 257, 258, 259, 260, 261, 262, 263, 264, 265, 266, 267, 268, 269, 270, 271, 272, 273, 274] (by decide +kernel) (by decide +kernel)
set_option maxRecDepth 20000 in
theorem gL_isRight_X5_channel : GoodIn wsL_isRight (wsV RL 18 RX5 yX5_channel wsX5_channel) := goodIn_app (goodIn_of _ (by decide +kernel)) ggL_isRight_X5_channel
set_option maxRecDepth 20000 in
theorem ggL_isRight_X5_why : GoodIn wsL_isRight wsX5_why := goodIn_r _ [46, 7, 8, 9, 4, 10, 23, 24, 25, 14, 26, 18, 17, 20, 21, 22, 27, 28, 29, 30, 31, 19, 47, 48, 247, 248, 249, 250, 251, 252, 253, 254, 255, 256, 257, 258, 259, 260, 261, 262, 263, 264, 265, 266, 267, 268, 269] (by decide +kernel) (by decide +kernel)
set_option maxRecDepth 20000 in
theorem gL_isRight_X5_why : GoodIn wsL_isRight (wsV RL 68 RX5 yX5_why wsX5_why) := goodIn_app (goodIn_of _ (by decide +kernel)) ggL_isRight_X5_why
set_option maxRecDepth 20000 in
theorem ggL_isRight_X5_count : GoodIn wsL_isRight wsX5_count := goodIn_r _ [52, 7, 53, 54, 55, 56, 57, 35, 58, 59, 60, 61, 62, 63, 64, 65, 66, 67, 68, 69, 14, 70, 71, 24, 25, 26, 18, 17, 20, 21, 4, 22, 27, 28, 29, 30, 31, 19, 247, 248, 249, 250, 251, 252, 253, 254, 255, 256, 257, 258, 259, 260, 261, 262, 263, 264, 265, 266, 267, 268, 269, 270, 271, 272, 273, 274, 275, 276, 277, 278, 279, 280] (by decide +kernel) (by decide +kernel)
set_option maxRecDepth 20000 in
theorem gL_isRight_X5_count : GoodIn wsL_isRight (wsV RL 12 RX5 yX5_count wsX5_count) := goodIn_app (goodIn_of _ (by decide +kernel)) ggL_isRight_X5_count
set_option maxRecDepth 20000 in
theorem ggL_isRight_X5_feed : GoodIn wsL_isRight wsX5_feed := goodIn_r _ [75, 7, 8, 9, 4, 10, 76, 77, 78, 14, 79, 80, 81, 82, 83, 71, 24, 25, 26, 18, 17, 20, 21, 22, 27, 28, 29, 30, 31, 19, 84, 85, 86, 87, 88, 89, 90, 91, 247, 248, 249, 250, 251, 252, 253, 254, 255, 256, 257, 258, 259, 260, 261, 262, 263, 264, 265, 266, 267, 268, 269] (by decide +kernel) (by decide +kernel)
set_option maxRecDepth 20000 in
theorem gL_isRight_X5_feed : GoodIn wsL_isRight (wsV RL 25 RX5 yX5_feed wsX5_feed) := goodIn_app (goodIn_of _ (by decide +kernel)) ggL_isRight_X5_feed
set_option maxRecDepth 20000 in
theorem ggL_isRight_X5_send : GoodIn wsL_isRight wsX5_send := goodIn_r _ [95, 7, 8, 9, 4, 10, 96, 90, 91, 97, 81, 82, 14, 83, 71, 24, 25, 26, 18, 17, 20, 21, 22, 27, 28, 29, 30, 31, 19, 84, 85, 86, 87, 88, 89, 247, 248, 249, 250, 251, 252, 253, 254, 255, 256, 257, 258, 259, 260, 261, 262, 263, 264, 265, 266, 267, 268, 269] (by decide +kernel) (by decide +kernel)
set_option maxRecDepth 20000 in
theorem gL_isRight_X5_send : GoodIn wsL_isRight (wsV RL 28 RX5 yX5_send wsX5_send) := goodIn_app (goodIn_of _ (by decide +kernel)) ggL_isRight_X5_send
set_option maxRecDepth 20000 in
theorem ggL_isRight_X5_path : GoodIn wsL_isRight wsX5_path := goodIn_r _ [101, 102, 8, 9, 4, 10, 103, 104, 105, 106, 107, 108, 109, 110, 81, 82, 14, 83, 71, 24, 25, 26, 18, 17, 20, 21, 22, 27, 28, 29, 30, 31, 19, 84, 85, 86, 87, 88, 89, 90, 91, 111, 112, 113, 114, 115, 116, 117, 118, 119, 120, 121, 122, 123, 247, 248, 249, 250, 251, 281, 282, 283, 284, 252, 253, 254, 255, 256, 257, 258, 259, 260, 261, 262, 263, 264, 265, 266, 267, 268, 269] (by decide +kernel) (by decide +kernel)
set_option maxRecDepth 20000 in
theorem gL_isRight_X5_path : GoodIn wsL_isRight (wsV RL 71 RX5 yX5_path wsX5_path) := goodIn_app (goodIn_of _ (by decide +kernel)) ggL_isRight_X5_path
set_option maxRecDepth 20000 in
theorem ggL_isRight_X5_loudest : GoodIn wsL_isRight wsX5_loudest := goodIn_r _ [127, 102, 8, 9, 4, 10, 128, 129, 130, 106, 131, 132, 109, 133, 134, 135, 136, 137, 138, 139, 140, 110, 81, 82, 14, 83, 71, 24, 25, 26, 18, 17, 20, 21, 22, 27, 28, 29, 30, 31, 19, 84, 85, 86, 87, 88, 89, 90, 91, 247, 248, 249, 250, 251, 281, 282, 283, 284, 252, 253, 254, 255, 256, 257, 258, 259, 260, 261, 262, 263, 264, 265, 266, 267, 268, 269] (by decide +kernel) (by decide +kernel)
set_option maxRecDepth 20000 in
theorem gL_isRight_X5_loudest : GoodIn wsL_isRight (wsV RL 74 RX5 yX5_loudest wsX5_loudest) := goodIn_app (goodIn_of _ (by decide +kernel)) ggL_isRight_X5_loudest
set_option maxRecDepth 20000 in
theorem ggL_isRight_X5_hearers : GoodIn wsL_isRight wsX5_hearers := goodIn_r _ [144, 102, 8, 9, 4, 10, 103, 104, 105, 106, 107, 108, 109, 110, 81, 82, 14, 83, 71, 24, 25, 26, 18, 17, 20, 21, 22, 27, 28, 29, 30, 31, 19, 84, 85, 86, 87, 88, 89, 90, 91, 145, 146, 147, 148, 149, 150, 151, 152, 247, 248, 249, 250, 251, 281, 282, 283, 284, 252, 253, 254, 255, 256, 257, 258, 259, 260, 261, 262, 263, 264, 265, 266, 267, 268, 269] (by decide +kernel) (by decide +kernel)
set_option maxRecDepth 20000 in
theorem gL_isRight_X5_hearers : GoodIn wsL_isRight (wsV RL 77 RX5 yX5_hearers wsX5_hearers) := goodIn_app (goodIn_of _ (by decide +kernel)) ggL_isRight_X5_hearers
set_option maxRecDepth 20000 in
theorem ggL_isRight_X5_loops : GoodIn wsL_isRight wsX5_loops := goodIn_r _ [156, 102, 103, 104, 105, 106, 107, 108, 109, 110, 81, 82, 14, 83, 71, 24, 25, 26, 18, 17, 20, 21, 4, 22, 27, 28, 29, 30, 31, 19, 84, 85, 86, 87, 88, 89, 90, 91, 157, 158, 159, 160, 149, 150, 151, 152, 247, 248, 249, 250, 251, 281, 282, 283, 284, 252, 253, 254, 255, 256, 257, 258, 259, 260, 261, 262, 263, 264, 265, 266, 267, 268, 269] (by decide +kernel) (by decide +kernel)
set_option maxRecDepth 20000 in
theorem gL_isRight_X5_loops : GoodIn wsL_isRight (wsV RL 80 RX5 yX5_loops wsX5_loops) := goodIn_app (goodIn_of _ (by decide +kernel)) ggL_isRight_X5_loops
set_option maxRecDepth 20000 in
theorem ggL_isRight_X5_cut : GoodIn wsL_isRight wsX5_cut := goodIn_r _ [164, 102, 8, 9, 4, 10, 103, 104, 105, 106, 107, 108, 109, 110, 81, 82, 14, 83, 71, 24, 25, 26, 18, 17, 20, 21, 22, 27, 28, 29, 30, 31, 19, 84, 85, 86, 87, 88, 89, 90, 91, 145, 146, 147, 148, 149, 150, 151, 152, 165, 166, 167, 168, 169, 170, 171, 172, 173, 174, 175, 247, 248, 249, 250, 251, 281, 282, 283, 284, 252, 253, 254, 255, 256, 257, 258, 259, 260, 261, 262, 263, 264, 265, 266, 267, 268, 269] (by decide +kernel) (by decide +kernel)
set_option maxRecDepth 20000 in
theorem gL_isRight_X5_cut : GoodIn wsL_isRight (wsV RL 83 RX5 yX5_cut wsX5_cut) := goodIn_app (goodIn_of _ (by decide +kernel)) ggL_isRight_X5_cut
set_option maxRecDepth 20000 in
theorem ggL_isRight_X5_outputIn : GoodIn wsL_isRight wsX5_outputIn := goodIn_r _ [179, 180, 7, 8, 9, 4, 10, 181, 182, 183, 184, 185, 186, 14, 187, 16, 188, 189, 190, 191, 17, 20, 18, 19, 31, 89, 88, 42, 192, 193, 194, 195, 196, 197, 198, 199, 200, 201, 202, 203, 35, 204, 205, 206, 59, 37, 207, 208, 209, 210, 211, 212, 213, 56, 57, 58, 214, 215, 216, 217, 218, 33, 34, 36, 21, 22, 219, 220, 221, 222, 223, 224, 225, 226, 227, 228, 229, 230, 231, 232, 233, 234, 235, 236, 139, 237, 238, 239, 240, 241, 242, 138, 140, 71, 24, 25, 26, 27, 28, 29, 30, 84, 85, 86, 87, 90, 91, 243, 244, 245, 246, 247, 248, 249, 250, 251, 252, 253, 254, 255, 256, 257, 258, 259, 260, 261, 262, 263, 264, 265, 266, 267, 268, 269, 270, 271, 272, 273, 274] (by decide +kernel) (by decide +kernel)
set_option maxRecDepth 20000 in
theorem gL_isRight_X5_outputIn : GoodIn wsL_isRight (wsV RL 86 RX5 yX5_outputIn wsX5_outputIn) := goodIn_app (goodIn_of _ (by decide +kernel)) ggL_isRight_X5_outputIn
theorem dL_isRight_0 : decode cL_isRight 0 = .ok (.iconst 0, 1) := by decide +kernel
theorem dL_isRight_1 : decode cL_isRight 1 = .ok (.istore_n 1, 1) := by decide +kernel
theorem dL_isRight_2 : decode cL_isRight 2 = .ok (.iconst 0, 1) := by decide +kernel
theorem dL_isRight_3 : decode cL_isRight 3 = .ok (.istore_n 2, 1) := by decide +kernel
theorem dL_isRight_4 : decode cL_isRight 4 = .ok (.iload_n 2, 1) := by decide +kernel
theorem dL_isRight_5 : decode cL_isRight 5 = .ok (.bipush 12, 2) := by decide +kernel
theorem dL_isRight_7 : decode cL_isRight 7 = .ok (.if_icmp .ge 467, 3) := by decide +kernel
theorem dL_isRight_10 : decode cL_isRight 10 = .ok (.aload_n 0, 1) := by decide +kernel
theorem dL_isRight_11 : decode cL_isRight 11 = .ok (.iload_n 2, 1) := by decide +kernel
theorem dL_isRight_12 : decode cL_isRight 12 = .ok (.iconst 5, 1) := by decide +kernel
theorem dL_isRight_13 : decode cL_isRight 13 = .ok (.invokevirtual 18, 3) := by decide +kernel
theorem dL_isRight_16 : decode cL_isRight 16 = .ok (.istore_n 3, 1) := by decide +kernel
theorem dL_isRight_17 : decode cL_isRight 17 = .ok (.aload_n 0, 1) := by decide +kernel
theorem dL_isRight_18 : decode cL_isRight 18 = .ok (.iload_n 2, 1) := by decide +kernel
theorem dL_isRight_19 : decode cL_isRight 19 = .ok (.invokevirtual 68, 3) := by decide +kernel
theorem dL_isRight_22 : decode cL_isRight 22 = .ok (.istore 4, 2) := by decide +kernel
theorem dL_isRight_24 : decode cL_isRight 24 = .ok (.iload_n 1, 1) := by decide +kernel
theorem dL_isRight_25 : decode cL_isRight 25 = .ok (.iload_n 3, 1) := by decide +kernel
theorem dL_isRight_26 : decode cL_isRight 26 = .ok (.ifCond .le 9, 3) := by decide +kernel
theorem dL_isRight_29 : decode cL_isRight 29 = .ok (.iconst 1, 1) := by decide +kernel
theorem dL_isRight_30 : decode cL_isRight 30 = .ok (.iload_n 2, 1) := by decide +kernel
theorem dL_isRight_31 : decode cL_isRight 31 = .ok (.ishl, 1) := by decide +kernel
theorem dL_isRight_32 : decode cL_isRight 32 = .ok (.goto 4, 3) := by decide +kernel
theorem dL_isRight_35 : decode cL_isRight 35 = .ok (.iconst 0, 1) := by decide +kernel
theorem dL_isRight_36 : decode cL_isRight 36 = .ok (.ior, 1) := by decide +kernel
theorem dL_isRight_37 : decode cL_isRight 37 = .ok (.istore_n 1, 1) := by decide +kernel
theorem dL_isRight_38 : decode cL_isRight 38 = .ok (.aload_n 0, 1) := by decide +kernel
theorem dL_isRight_39 : decode cL_isRight 39 = .ok (.iload_n 2, 1) := by decide +kernel
theorem dL_isRight_40 : decode cL_isRight 40 = .ok (.bipush 8, 2) := by decide +kernel
theorem dL_isRight_42 : decode cL_isRight 42 = .ok (.invokevirtual 18, 3) := by decide +kernel
theorem dL_isRight_45 : decode cL_isRight 45 = .ok (.istore 5, 2) := by decide +kernel
theorem dL_isRight_47 : decode cL_isRight 47 = .ok (.iload_n 3, 1) := by decide +kernel
theorem dL_isRight_48 : decode cL_isRight 48 = .ok (.ifCond .lt 133, 3) := by decide +kernel
theorem dL_isRight_51 : decode cL_isRight 51 = .ok (.iload_n 3, 1) := by decide +kernel
theorem dL_isRight_52 : decode cL_isRight 52 = .ok (.aload_n 0, 1) := by decide +kernel
theorem dL_isRight_53 : decode cL_isRight 53 = .ok (.iload_n 2, 1) := by decide +kernel
theorem dL_isRight_54 : decode cL_isRight 54 = .ok (.iconst 1, 1) := by decide +kernel
theorem dL_isRight_55 : decode cL_isRight 55 = .ok (.invokevirtual 18, 3) := by decide +kernel
theorem dL_isRight_58 : decode cL_isRight 58 = .ok (.if_icmp .gt 123, 3) := by decide +kernel
theorem dL_isRight_61 : decode cL_isRight 61 = .ok (.iload 4, 2) := by decide +kernel
theorem dL_isRight_63 : decode cL_isRight 63 = .ok (.ifCond .ne 7, 3) := by decide +kernel
theorem dL_isRight_66 : decode cL_isRight 66 = .ok (.iconst 1, 1) := by decide +kernel
theorem dL_isRight_67 : decode cL_isRight 67 = .ok (.goto 4, 3) := by decide +kernel
theorem dL_isRight_70 : decode cL_isRight 70 = .ok (.iconst 0, 1) := by decide +kernel
theorem dL_isRight_71 : decode cL_isRight 71 = .ok (.iload_n 3, 1) := by decide +kernel
theorem dL_isRight_72 : decode cL_isRight 72 = .ok (.ifCond .le 7, 3) := by decide +kernel
theorem dL_isRight_75 : decode cL_isRight 75 = .ok (.iconst 1, 1) := by decide +kernel
theorem dL_isRight_76 : decode cL_isRight 76 = .ok (.goto 4, 3) := by decide +kernel
theorem dL_isRight_79 : decode cL_isRight 79 = .ok (.iconst 0, 1) := by decide +kernel
theorem dL_isRight_80 : decode cL_isRight 80 = .ok (.if_icmp .ne 101, 3) := by decide +kernel
theorem dL_isRight_83 : decode cL_isRight 83 = .ok (.iload 4, 2) := by decide +kernel
theorem dL_isRight_85 : decode cL_isRight 85 = .ok (.iconst 1, 1) := by decide +kernel
theorem dL_isRight_86 : decode cL_isRight 86 = .ok (.if_icmp .ne 7, 3) := by decide +kernel
theorem dL_isRight_89 : decode cL_isRight 89 = .ok (.iconst 1, 1) := by decide +kernel
theorem dL_isRight_90 : decode cL_isRight 90 = .ok (.goto 4, 3) := by decide +kernel
theorem dL_isRight_93 : decode cL_isRight 93 = .ok (.iconst 0, 1) := by decide +kernel
theorem dL_isRight_94 : decode cL_isRight 94 = .ok (.aload_n 0, 1) := by decide +kernel
theorem dL_isRight_95 : decode cL_isRight 95 = .ok (.iload_n 2, 1) := by decide +kernel
theorem dL_isRight_96 : decode cL_isRight 96 = .ok (.iconst 2, 1) := by decide +kernel
theorem dL_isRight_97 : decode cL_isRight 97 = .ok (.invokevirtual 18, 3) := by decide +kernel
theorem dL_isRight_100 : decode cL_isRight 100 = .ok (.iconst 1, 1) := by decide +kernel
theorem dL_isRight_101 : decode cL_isRight 101 = .ok (.if_icmp .ne 7, 3) := by decide +kernel
theorem dL_isRight_104 : decode cL_isRight 104 = .ok (.iconst 1, 1) := by decide +kernel
theorem dL_isRight_105 : decode cL_isRight 105 = .ok (.goto 4, 3) := by decide +kernel
theorem dL_isRight_108 : decode cL_isRight 108 = .ok (.iconst 0, 1) := by decide +kernel
theorem dL_isRight_109 : decode cL_isRight 109 = .ok (.if_icmp .ne 72, 3) := by decide +kernel
theorem dL_isRight_112 : decode cL_isRight 112 = .ok (.iload 4, 2) := by decide +kernel
theorem dL_isRight_114 : decode cL_isRight 114 = .ok (.iconst 3, 1) := by decide +kernel
theorem dL_isRight_115 : decode cL_isRight 115 = .ok (.if_icmp .ne 12, 3) := by decide +kernel
theorem dL_isRight_118 : decode cL_isRight 118 = .ok (.aload_n 0, 1) := by decide +kernel
theorem dL_isRight_119 : decode cL_isRight 119 = .ok (.iload_n 2, 1) := by decide +kernel
theorem dL_isRight_120 : decode cL_isRight 120 = .ok (.iconst 1, 1) := by decide +kernel
theorem dL_isRight_121 : decode cL_isRight 121 = .ok (.invokevirtual 18, 3) := by decide +kernel
theorem dL_isRight_124 : decode cL_isRight 124 = .ok (.ifCond .ne 57, 3) := by decide +kernel
theorem dL_isRight_127 : decode cL_isRight 127 = .ok (.iload 4, 2) := by decide +kernel
theorem dL_isRight_129 : decode cL_isRight 129 = .ok (.iconst 2, 1) := by decide +kernel
theorem dL_isRight_130 : decode cL_isRight 130 = .ok (.if_icmp .ne 12, 3) := by decide +kernel
theorem dL_isRight_133 : decode cL_isRight 133 = .ok (.aload_n 0, 1) := by decide +kernel
theorem dL_isRight_134 : decode cL_isRight 134 = .ok (.bipush 7, 2) := by decide +kernel
theorem dL_isRight_136 : decode cL_isRight 136 = .ok (.invokevirtual 12, 3) := by decide +kernel
theorem dL_isRight_139 : decode cL_isRight 139 = .ok (.ifCond .eq 42, 3) := by decide +kernel
theorem dL_isRight_142 : decode cL_isRight 142 = .ok (.iload 5, 2) := by decide +kernel
theorem dL_isRight_144 : decode cL_isRight 144 = .ok (.ifCond .lt 14, 3) := by decide +kernel
theorem dL_isRight_147 : decode cL_isRight 147 = .ok (.aload_n 0, 1) := by decide +kernel
theorem dL_isRight_148 : decode cL_isRight 148 = .ok (.iload 5, 2) := by decide +kernel
theorem dL_isRight_150 : decode cL_isRight 150 = .ok (.iconst 1, 1) := by decide +kernel
theorem dL_isRight_151 : decode cL_isRight 151 = .ok (.invokevirtual 25, 3) := by decide +kernel
theorem dL_isRight_154 : decode cL_isRight 154 = .ok (.iload_n 2, 1) := by decide +kernel
theorem dL_isRight_155 : decode cL_isRight 155 = .ok (.if_icmp .ne 26, 3) := by decide +kernel
theorem dL_isRight_158 : decode cL_isRight 158 = .ok (.aload_n 0, 1) := by decide +kernel
theorem dL_isRight_159 : decode cL_isRight 159 = .ok (.iload_n 2, 1) := by decide +kernel
theorem dL_isRight_160 : decode cL_isRight 160 = .ok (.bipush 6, 2) := by decide +kernel
theorem dL_isRight_162 : decode cL_isRight 162 = .ok (.invokevirtual 18, 3) := by decide +kernel
theorem dL_isRight_165 : decode cL_isRight 165 = .ok (.ifCond .lt 16, 3) := by decide +kernel
theorem dL_isRight_168 : decode cL_isRight 168 = .ok (.aload_n 0, 1) := by decide +kernel
theorem dL_isRight_169 : decode cL_isRight 169 = .ok (.iload_n 2, 1) := by decide +kernel
theorem dL_isRight_170 : decode cL_isRight 170 = .ok (.bipush 6, 2) := by decide +kernel
theorem dL_isRight_172 : decode cL_isRight 172 = .ok (.invokevirtual 18, 3) := by decide +kernel
theorem dL_isRight_175 : decode cL_isRight 175 = .ok (.sipush 9999, 3) := by decide +kernel
theorem dL_isRight_178 : decode cL_isRight 178 = .ok (.if_icmp .le 5, 3) := by decide +kernel
theorem dL_isRight_181 : decode cL_isRight 181 = .ok (.iconst 0, 1) := by decide +kernel
theorem dL_isRight_182 : decode cL_isRight 182 = .ok (.ireturn, 1) := by decide +kernel
theorem dL_isRight_183 : decode cL_isRight 183 = .ok (.iconst 0, 1) := by decide +kernel
theorem dL_isRight_184 : decode cL_isRight 184 = .ok (.istore 6, 2) := by decide +kernel
theorem dL_isRight_186 : decode cL_isRight 186 = .ok (.iload 6, 2) := by decide +kernel
theorem dL_isRight_188 : decode cL_isRight 188 = .ok (.iconst 4, 1) := by decide +kernel
theorem dL_isRight_189 : decode cL_isRight 189 = .ok (.if_icmp .ge 279, 3) := by decide +kernel
theorem dL_isRight_192 : decode cL_isRight 192 = .ok (.aload_n 0, 1) := by decide +kernel
theorem dL_isRight_193 : decode cL_isRight 193 = .ok (.iload 6, 2) := by decide +kernel
theorem dL_isRight_195 : decode cL_isRight 195 = .ok (.iload_n 2, 1) := by decide +kernel
theorem dL_isRight_196 : decode cL_isRight 196 = .ok (.iconst 1, 1) := by decide +kernel
theorem dL_isRight_197 : decode cL_isRight 197 = .ok (.invokevirtual 28, 3) := by decide +kernel
theorem dL_isRight_200 : decode cL_isRight 200 = .ok (.istore 7, 2) := by decide +kernel
theorem dL_isRight_202 : decode cL_isRight 202 = .ok (.aload_n 0, 1) := by decide +kernel
theorem dL_isRight_203 : decode cL_isRight 203 = .ok (.iload_n 2, 1) := by decide +kernel
theorem dL_isRight_204 : decode cL_isRight 204 = .ok (.iload 6, 2) := by decide +kernel
theorem dL_isRight_206 : decode cL_isRight 206 = .ok (.iconst (-1), 1) := by decide +kernel
theorem dL_isRight_207 : decode cL_isRight 207 = .ok (.invokevirtual 71, 3) := by decide +kernel
theorem dL_isRight_210 : decode cL_isRight 210 = .ok (.istore 8, 2) := by decide +kernel
theorem dL_isRight_212 : decode cL_isRight 212 = .ok (.aload_n 0, 1) := by decide +kernel
theorem dL_isRight_213 : decode cL_isRight 213 = .ok (.iload_n 2, 1) := by decide +kernel
theorem dL_isRight_214 : decode cL_isRight 214 = .ok (.iload 6, 2) := by decide +kernel
theorem dL_isRight_216 : decode cL_isRight 216 = .ok (.invokevirtual 74, 3) := by decide +kernel
theorem dL_isRight_219 : decode cL_isRight 219 = .ok (.istore 9, 2) := by decide +kernel
theorem dL_isRight_221 : decode cL_isRight 221 = .ok (.aload_n 0, 1) := by decide +kernel
theorem dL_isRight_222 : decode cL_isRight 222 = .ok (.iload 6, 2) := by decide +kernel
theorem dL_isRight_224 : decode cL_isRight 224 = .ok (.iconst 0, 1) := by decide +kernel
theorem dL_isRight_225 : decode cL_isRight 225 = .ok (.invokevirtual 25, 3) := by decide +kernel
theorem dL_isRight_228 : decode cL_isRight 228 = .ok (.iload_n 2, 1) := by decide +kernel
theorem dL_isRight_229 : decode cL_isRight 229 = .ok (.ishr, 1) := by decide +kernel
theorem dL_isRight_230 : decode cL_isRight 230 = .ok (.iconst 1, 1) := by decide +kernel
theorem dL_isRight_231 : decode cL_isRight 231 = .ok (.iand, 1) := by decide +kernel
theorem dL_isRight_232 : decode cL_isRight 232 = .ok (.iconst 1, 1) := by decide +kernel
theorem dL_isRight_233 : decode cL_isRight 233 = .ok (.if_icmp .ne 7, 3) := by decide +kernel
theorem dL_isRight_236 : decode cL_isRight 236 = .ok (.iconst 1, 1) := by decide +kernel
theorem dL_isRight_237 : decode cL_isRight 237 = .ok (.goto 4, 3) := by decide +kernel
theorem dL_isRight_240 : decode cL_isRight 240 = .ok (.iconst 0, 1) := by decide +kernel
theorem dL_isRight_241 : decode cL_isRight 241 = .ok (.istore 10, 2) := by decide +kernel
theorem dL_isRight_243 : decode cL_isRight 243 = .ok (.iload 7, 2) := by decide +kernel
theorem dL_isRight_245 : decode cL_isRight 245 = .ok (.iload_n 3, 1) := by decide +kernel
theorem dL_isRight_246 : decode cL_isRight 246 = .ok (.if_icmp .gt 111, 3) := by decide +kernel
theorem dL_isRight_249 : decode cL_isRight 249 = .ok (.iload 10, 2) := by decide +kernel
theorem dL_isRight_251 : decode cL_isRight 251 = .ok (.ifCond .eq 8, 3) := by decide +kernel
theorem dL_isRight_254 : decode cL_isRight 254 = .ok (.iload 7, 2) := by decide +kernel
theorem dL_isRight_256 : decode cL_isRight 256 = .ok (.ifCond .ne 101, 3) := by decide +kernel
theorem dL_isRight_259 : decode cL_isRight 259 = .ok (.aload_n 0, 1) := by decide +kernel
theorem dL_isRight_260 : decode cL_isRight 260 = .ok (.iload 6, 2) := by decide +kernel
theorem dL_isRight_262 : decode cL_isRight 262 = .ok (.iconst 3, 1) := by decide +kernel
theorem dL_isRight_263 : decode cL_isRight 263 = .ok (.invokevirtual 25, 3) := by decide +kernel
theorem dL_isRight_266 : decode cL_isRight 266 = .ok (.iload_n 2, 1) := by decide +kernel
theorem dL_isRight_267 : decode cL_isRight 267 = .ok (.ishr, 1) := by decide +kernel
theorem dL_isRight_268 : decode cL_isRight 268 = .ok (.iconst 1, 1) := by decide +kernel
theorem dL_isRight_269 : decode cL_isRight 269 = .ok (.iand, 1) := by decide +kernel
theorem dL_isRight_270 : decode cL_isRight 270 = .ok (.iconst 1, 1) := by decide +kernel
theorem dL_isRight_271 : decode cL_isRight 271 = .ok (.if_icmp .ne 7, 3) := by decide +kernel
theorem dL_isRight_274 : decode cL_isRight 274 = .ok (.iconst 1, 1) := by decide +kernel
theorem dL_isRight_275 : decode cL_isRight 275 = .ok (.goto 4, 3) := by decide +kernel
theorem dL_isRight_278 : decode cL_isRight 278 = .ok (.iconst 0, 1) := by decide +kernel
theorem dL_isRight_279 : decode cL_isRight 279 = .ok (.iload 7, 2) := by decide +kernel
theorem dL_isRight_281 : decode cL_isRight 281 = .ok (.ifCond .le 7, 3) := by decide +kernel
theorem dL_isRight_284 : decode cL_isRight 284 = .ok (.iconst 1, 1) := by decide +kernel
theorem dL_isRight_285 : decode cL_isRight 285 = .ok (.goto 4, 3) := by decide +kernel
theorem dL_isRight_288 : decode cL_isRight 288 = .ok (.iconst 0, 1) := by decide +kernel
theorem dL_isRight_289 : decode cL_isRight 289 = .ok (.if_icmp .ne 68, 3) := by decide +kernel
theorem dL_isRight_292 : decode cL_isRight 292 = .ok (.iload 8, 2) := by decide +kernel
theorem dL_isRight_294 : decode cL_isRight 294 = .ok (.iconst 1, 1) := by decide +kernel
theorem dL_isRight_295 : decode cL_isRight 295 = .ok (.if_icmp .ne 7, 3) := by decide +kernel
theorem dL_isRight_298 : decode cL_isRight 298 = .ok (.iconst 1, 1) := by decide +kernel
theorem dL_isRight_299 : decode cL_isRight 299 = .ok (.goto 4, 3) := by decide +kernel
theorem dL_isRight_302 : decode cL_isRight 302 = .ok (.iconst 0, 1) := by decide +kernel
theorem dL_isRight_303 : decode cL_isRight 303 = .ok (.iload 7, 2) := by decide +kernel
theorem dL_isRight_305 : decode cL_isRight 305 = .ok (.ifCond .le 7, 3) := by decide +kernel
theorem dL_isRight_308 : decode cL_isRight 308 = .ok (.iconst 1, 1) := by decide +kernel
theorem dL_isRight_309 : decode cL_isRight 309 = .ok (.goto 4, 3) := by decide +kernel
theorem dL_isRight_312 : decode cL_isRight 312 = .ok (.iconst 0, 1) := by decide +kernel
theorem dL_isRight_313 : decode cL_isRight 313 = .ok (.if_icmp .ne 44, 3) := by decide +kernel
theorem dL_isRight_316 : decode cL_isRight 316 = .ok (.iload 8, 2) := by decide +kernel
theorem dL_isRight_318 : decode cL_isRight 318 = .ok (.ifCond .le 7, 3) := by decide +kernel
theorem dL_isRight_321 : decode cL_isRight 321 = .ok (.iconst 1, 1) := by decide +kernel
theorem dL_isRight_322 : decode cL_isRight 322 = .ok (.goto 4, 3) := by decide +kernel
theorem dL_isRight_325 : decode cL_isRight 325 = .ok (.iconst 0, 1) := by decide +kernel
theorem dL_isRight_326 : decode cL_isRight 326 = .ok (.iload 9, 2) := by decide +kernel
theorem dL_isRight_328 : decode cL_isRight 328 = .ok (.ifCond .lt 7, 3) := by decide +kernel
theorem dL_isRight_331 : decode cL_isRight 331 = .ok (.iconst 1, 1) := by decide +kernel
theorem dL_isRight_332 : decode cL_isRight 332 = .ok (.goto 4, 3) := by decide +kernel
theorem dL_isRight_335 : decode cL_isRight 335 = .ok (.iconst 0, 1) := by decide +kernel
theorem dL_isRight_336 : decode cL_isRight 336 = .ok (.if_icmp .ne 21, 3) := by decide +kernel
theorem dL_isRight_339 : decode cL_isRight 339 = .ok (.iload 9, 2) := by decide +kernel
theorem dL_isRight_341 : decode cL_isRight 341 = .ok (.iload_n 3, 1) := by decide +kernel
theorem dL_isRight_342 : decode cL_isRight 342 = .ok (.if_icmp .gt 15, 3) := by decide +kernel
theorem dL_isRight_345 : decode cL_isRight 345 = .ok (.iload 7, 2) := by decide +kernel
theorem dL_isRight_347 : decode cL_isRight 347 = .ok (.iload 9, 2) := by decide +kernel
theorem dL_isRight_349 : decode cL_isRight 349 = .ok (.if_icmp .le 10, 3) := by decide +kernel
theorem dL_isRight_352 : decode cL_isRight 352 = .ok (.iload 7, 2) := by decide +kernel
theorem dL_isRight_354 : decode cL_isRight 354 = .ok (.ifCond .le 5, 3) := by decide +kernel
theorem dL_isRight_357 : decode cL_isRight 357 = .ok (.iconst 0, 1) := by decide +kernel
theorem dL_isRight_358 : decode cL_isRight 358 = .ok (.ireturn, 1) := by decide +kernel
theorem dL_isRight_359 : decode cL_isRight 359 = .ok (.iload 8, 2) := by decide +kernel
theorem dL_isRight_361 : decode cL_isRight 361 = .ok (.ifCond .le 62, 3) := by decide +kernel
theorem dL_isRight_364 : decode cL_isRight 364 = .ok (.iload 8, 2) := by decide +kernel
theorem dL_isRight_366 : decode cL_isRight 366 = .ok (.iconst 4, 1) := by decide +kernel
theorem dL_isRight_367 : decode cL_isRight 367 = .ok (.if_icmp .gt 54, 3) := by decide +kernel
theorem dL_isRight_370 : decode cL_isRight 370 = .ok (.aload_n 0, 1) := by decide +kernel
theorem dL_isRight_371 : decode cL_isRight 371 = .ok (.iload_n 2, 1) := by decide +kernel
theorem dL_isRight_372 : decode cL_isRight 372 = .ok (.iload 6, 2) := by decide +kernel
theorem dL_isRight_374 : decode cL_isRight 374 = .ok (.iconst 0, 1) := by decide +kernel
theorem dL_isRight_375 : decode cL_isRight 375 = .ok (.invokevirtual 71, 3) := by decide +kernel
theorem dL_isRight_378 : decode cL_isRight 378 = .ok (.iload_n 2, 1) := by decide +kernel
theorem dL_isRight_379 : decode cL_isRight 379 = .ok (.if_icmp .ne 42, 3) := by decide +kernel
theorem dL_isRight_382 : decode cL_isRight 382 = .ok (.aload_n 0, 1) := by decide +kernel
theorem dL_isRight_383 : decode cL_isRight 383 = .ok (.iload_n 2, 1) := by decide +kernel
theorem dL_isRight_384 : decode cL_isRight 384 = .ok (.iload 6, 2) := by decide +kernel
theorem dL_isRight_386 : decode cL_isRight 386 = .ok (.iload 8, 2) := by decide +kernel
theorem dL_isRight_388 : decode cL_isRight 388 = .ok (.invokevirtual 71, 3) := by decide +kernel
theorem dL_isRight_391 : decode cL_isRight 391 = .ok (.bipush (-99), 2) := by decide +kernel
theorem dL_isRight_393 : decode cL_isRight 393 = .ok (.if_icmp .ne 28, 3) := by decide +kernel
theorem dL_isRight_396 : decode cL_isRight 396 = .ok (.aload_n 0, 1) := by decide +kernel
theorem dL_isRight_397 : decode cL_isRight 397 = .ok (.iload 6, 2) := by decide +kernel
theorem dL_isRight_399 : decode cL_isRight 399 = .ok (.iconst 3, 1) := by decide +kernel
theorem dL_isRight_400 : decode cL_isRight 400 = .ok (.invokevirtual 25, 3) := by decide +kernel
theorem dL_isRight_403 : decode cL_isRight 403 = .ok (.aload_n 0, 1) := by decide +kernel
theorem dL_isRight_404 : decode cL_isRight 404 = .ok (.iload_n 2, 1) := by decide +kernel
theorem dL_isRight_405 : decode cL_isRight 405 = .ok (.iload 6, 2) := by decide +kernel
theorem dL_isRight_407 : decode cL_isRight 407 = .ok (.iload 8, 2) := by decide +kernel
theorem dL_isRight_409 : decode cL_isRight 409 = .ok (.iconst 1, 1) := by decide +kernel
theorem dL_isRight_410 : decode cL_isRight 410 = .ok (.isub, 1) := by decide +kernel
theorem dL_isRight_411 : decode cL_isRight 411 = .ok (.invokevirtual 71, 3) := by decide +kernel
theorem dL_isRight_414 : decode cL_isRight 414 = .ok (.ishr, 1) := by decide +kernel
theorem dL_isRight_415 : decode cL_isRight 415 = .ok (.iconst 1, 1) := by decide +kernel
theorem dL_isRight_416 : decode cL_isRight 416 = .ok (.iand, 1) := by decide +kernel
theorem dL_isRight_417 : decode cL_isRight 417 = .ok (.iconst 1, 1) := by decide +kernel
theorem dL_isRight_418 : decode cL_isRight 418 = .ok (.if_icmp .eq 5, 3) := by decide +kernel
theorem dL_isRight_421 : decode cL_isRight 421 = .ok (.iconst 0, 1) := by decide +kernel
theorem dL_isRight_422 : decode cL_isRight 422 = .ok (.ireturn, 1) := by decide +kernel
theorem dL_isRight_423 : decode cL_isRight 423 = .ok (.aload_n 0, 1) := by decide +kernel
theorem dL_isRight_424 : decode cL_isRight 424 = .ok (.iload 6, 2) := by decide +kernel
theorem dL_isRight_426 : decode cL_isRight 426 = .ok (.invokevirtual 77, 3) := by decide +kernel
theorem dL_isRight_429 : decode cL_isRight 429 = .ok (.iload_n 2, 1) := by decide +kernel
theorem dL_isRight_430 : decode cL_isRight 430 = .ok (.ishr, 1) := by decide +kernel
theorem dL_isRight_431 : decode cL_isRight 431 = .ok (.iconst 1, 1) := by decide +kernel
theorem dL_isRight_432 : decode cL_isRight 432 = .ok (.iand, 1) := by decide +kernel
theorem dL_isRight_433 : decode cL_isRight 433 = .ok (.iconst 1, 1) := by decide +kernel
theorem dL_isRight_434 : decode cL_isRight 434 = .ok (.if_icmp .ne 7, 3) := by decide +kernel
theorem dL_isRight_437 : decode cL_isRight 437 = .ok (.iconst 1, 1) := by decide +kernel
theorem dL_isRight_438 : decode cL_isRight 438 = .ok (.goto 4, 3) := by decide +kernel
theorem dL_isRight_441 : decode cL_isRight 441 = .ok (.iconst 0, 1) := by decide +kernel
theorem dL_isRight_442 : decode cL_isRight 442 = .ok (.iload 10, 2) := by decide +kernel
theorem dL_isRight_444 : decode cL_isRight 444 = .ok (.ifCond .eq 12, 3) := by decide +kernel
theorem dL_isRight_447 : decode cL_isRight 447 = .ok (.iload 8, 2) := by decide +kernel
theorem dL_isRight_449 : decode cL_isRight 449 = .ok (.ifCond .le 7, 3) := by decide +kernel
theorem dL_isRight_452 : decode cL_isRight 452 = .ok (.iconst 1, 1) := by decide +kernel
theorem dL_isRight_453 : decode cL_isRight 453 = .ok (.goto 4, 3) := by decide +kernel
theorem dL_isRight_456 : decode cL_isRight 456 = .ok (.iconst 0, 1) := by decide +kernel
theorem dL_isRight_457 : decode cL_isRight 457 = .ok (.if_icmp .eq 5, 3) := by decide +kernel
theorem dL_isRight_460 : decode cL_isRight 460 = .ok (.iconst 0, 1) := by decide +kernel
theorem dL_isRight_461 : decode cL_isRight 461 = .ok (.ireturn, 1) := by decide +kernel
theorem dL_isRight_462 : decode cL_isRight 462 = .ok (.iinc 6 1, 3) := by decide +kernel
theorem dL_isRight_465 : decode cL_isRight 465 = .ok (.goto (-279), 3) := by decide +kernel
theorem dL_isRight_468 : decode cL_isRight 468 = .ok (.iinc 2 1, 3) := by decide +kernel
theorem dL_isRight_471 : decode cL_isRight 471 = .ok (.goto (-467), 3) := by decide +kernel
theorem dL_isRight_474 : decode cL_isRight 474 = .ok (.aload_n 0, 1) := by decide +kernel
theorem dL_isRight_475 : decode cL_isRight 475 = .ok (.invokevirtual 80, 3) := by decide +kernel
theorem dL_isRight_478 : decode cL_isRight 478 = .ok (.istore_n 2, 1) := by decide +kernel
theorem dL_isRight_479 : decode cL_isRight 479 = .ok (.iconst 0, 1) := by decide +kernel
theorem dL_isRight_480 : decode cL_isRight 480 = .ok (.istore_n 3, 1) := by decide +kernel
theorem dL_isRight_481 : decode cL_isRight 481 = .ok (.iload_n 3, 1) := by decide +kernel
theorem dL_isRight_482 : decode cL_isRight 482 = .ok (.iconst 4, 1) := by decide +kernel
theorem dL_isRight_483 : decode cL_isRight 483 = .ok (.if_icmp .ge 133, 3) := by decide +kernel
theorem dL_isRight_486 : decode cL_isRight 486 = .ok (.aload_n 0, 1) := by decide +kernel
theorem dL_isRight_487 : decode cL_isRight 487 = .ok (.iload_n 3, 1) := by decide +kernel
theorem dL_isRight_488 : decode cL_isRight 488 = .ok (.iconst 1, 1) := by decide +kernel
theorem dL_isRight_489 : decode cL_isRight 489 = .ok (.invokevirtual 25, 3) := by decide +kernel
theorem dL_isRight_492 : decode cL_isRight 492 = .ok (.istore 4, 2) := by decide +kernel
theorem dL_isRight_494 : decode cL_isRight 494 = .ok (.iload_n 2, 1) := by decide +kernel
theorem dL_isRight_495 : decode cL_isRight 495 = .ok (.iload_n 3, 1) := by decide +kernel
theorem dL_isRight_496 : decode cL_isRight 496 = .ok (.ishr, 1) := by decide +kernel
theorem dL_isRight_497 : decode cL_isRight 497 = .ok (.iconst 1, 1) := by decide +kernel
theorem dL_isRight_498 : decode cL_isRight 498 = .ok (.iand, 1) := by decide +kernel
theorem dL_isRight_499 : decode cL_isRight 499 = .ok (.iconst 1, 1) := by decide +kernel
theorem dL_isRight_500 : decode cL_isRight 500 = .ok (.if_icmp .ne 7, 3) := by decide +kernel
theorem dL_isRight_503 : decode cL_isRight 503 = .ok (.iconst 1, 1) := by decide +kernel
theorem dL_isRight_504 : decode cL_isRight 504 = .ok (.goto 4, 3) := by decide +kernel
theorem dL_isRight_507 : decode cL_isRight 507 = .ok (.iconst 0, 1) := by decide +kernel
theorem dL_isRight_508 : decode cL_isRight 508 = .ok (.iload 4, 2) := by decide +kernel
theorem dL_isRight_510 : decode cL_isRight 510 = .ok (.ifCond .lt 27, 3) := by decide +kernel
theorem dL_isRight_513 : decode cL_isRight 513 = .ok (.aload_n 0, 1) := by decide +kernel
theorem dL_isRight_514 : decode cL_isRight 514 = .ok (.iload 4, 2) := by decide +kernel
theorem dL_isRight_516 : decode cL_isRight 516 = .ok (.ifCond .ge 7, 3) := by decide +kernel
theorem dL_isRight_519 : decode cL_isRight 519 = .ok (.iconst 0, 1) := by decide +kernel
theorem dL_isRight_520 : decode cL_isRight 520 = .ok (.goto 5, 3) := by decide +kernel
theorem dL_isRight_523 : decode cL_isRight 523 = .ok (.iload 4, 2) := by decide +kernel
theorem dL_isRight_525 : decode cL_isRight 525 = .ok (.iload_n 3, 1) := by decide +kernel
theorem dL_isRight_526 : decode cL_isRight 526 = .ok (.iconst (-1), 1) := by decide +kernel
theorem dL_isRight_527 : decode cL_isRight 527 = .ok (.invokevirtual 71, 3) := by decide +kernel
theorem dL_isRight_530 : decode cL_isRight 530 = .ok (.ifCond .le 7, 3) := by decide +kernel
theorem dL_isRight_533 : decode cL_isRight 533 = .ok (.iconst 1, 1) := by decide +kernel
theorem dL_isRight_534 : decode cL_isRight 534 = .ok (.goto 4, 3) := by decide +kernel
theorem dL_isRight_537 : decode cL_isRight 537 = .ok (.iconst 0, 1) := by decide +kernel
theorem dL_isRight_538 : decode cL_isRight 538 = .ok (.if_icmp .ne 70, 3) := by decide +kernel
theorem dL_isRight_541 : decode cL_isRight 541 = .ok (.aload_n 0, 1) := by decide +kernel
theorem dL_isRight_542 : decode cL_isRight 542 = .ok (.iload_n 3, 1) := by decide +kernel
theorem dL_isRight_543 : decode cL_isRight 543 = .ok (.iconst 2, 1) := by decide +kernel
theorem dL_isRight_544 : decode cL_isRight 544 = .ok (.invokevirtual 25, 3) := by decide +kernel
theorem dL_isRight_547 : decode cL_isRight 547 = .ok (.ifCond .lt 61, 3) := by decide +kernel
theorem dL_isRight_550 : decode cL_isRight 550 = .ok (.aload_n 0, 1) := by decide +kernel
theorem dL_isRight_551 : decode cL_isRight 551 = .ok (.iload_n 3, 1) := by decide +kernel
theorem dL_isRight_552 : decode cL_isRight 552 = .ok (.iconst 2, 1) := by decide +kernel
theorem dL_isRight_553 : decode cL_isRight 553 = .ok (.invokevirtual 25, 3) := by decide +kernel
theorem dL_isRight_556 : decode cL_isRight 556 = .ok (.sipush 9999, 3) := by decide +kernel
theorem dL_isRight_559 : decode cL_isRight 559 = .ok (.if_icmp .gt 49, 3) := by decide +kernel
theorem dL_isRight_562 : decode cL_isRight 562 = .ok (.aload_n 0, 1) := by decide +kernel
theorem dL_isRight_563 : decode cL_isRight 563 = .ok (.iload_n 3, 1) := by decide +kernel
theorem dL_isRight_564 : decode cL_isRight 564 = .ok (.invokevirtual 77, 3) := by decide +kernel
theorem dL_isRight_567 : decode cL_isRight 567 = .ok (.ifCond .ne 7, 3) := by decide +kernel
theorem dL_isRight_570 : decode cL_isRight 570 = .ok (.iconst 1, 1) := by decide +kernel
theorem dL_isRight_571 : decode cL_isRight 571 = .ok (.goto 4, 3) := by decide +kernel
theorem dL_isRight_574 : decode cL_isRight 574 = .ok (.iconst 0, 1) := by decide +kernel
theorem dL_isRight_575 : decode cL_isRight 575 = .ok (.aload_n 0, 1) := by decide +kernel
theorem dL_isRight_576 : decode cL_isRight 576 = .ok (.iload_n 3, 1) := by decide +kernel
theorem dL_isRight_577 : decode cL_isRight 577 = .ok (.invokevirtual 83, 3) := by decide +kernel
theorem dL_isRight_580 : decode cL_isRight 580 = .ok (.bipush (-2), 2) := by decide +kernel
theorem dL_isRight_582 : decode cL_isRight 582 = .ok (.if_icmp .ne 7, 3) := by decide +kernel
theorem dL_isRight_585 : decode cL_isRight 585 = .ok (.iconst 1, 1) := by decide +kernel
theorem dL_isRight_586 : decode cL_isRight 586 = .ok (.goto 4, 3) := by decide +kernel
theorem dL_isRight_589 : decode cL_isRight 589 = .ok (.iconst 0, 1) := by decide +kernel
theorem dL_isRight_590 : decode cL_isRight 590 = .ok (.if_icmp .ne 18, 3) := by decide +kernel
theorem dL_isRight_593 : decode cL_isRight 593 = .ok (.aload_n 0, 1) := by decide +kernel
theorem dL_isRight_594 : decode cL_isRight 594 = .ok (.iload_n 3, 1) := by decide +kernel
theorem dL_isRight_595 : decode cL_isRight 595 = .ok (.iconst 0, 1) := by decide +kernel
theorem dL_isRight_596 : decode cL_isRight 596 = .ok (.invokevirtual 86, 3) := by decide +kernel
theorem dL_isRight_599 : decode cL_isRight 599 = .ok (.aload_n 0, 1) := by decide +kernel
theorem dL_isRight_600 : decode cL_isRight 600 = .ok (.iload_n 3, 1) := by decide +kernel
theorem dL_isRight_601 : decode cL_isRight 601 = .ok (.iconst 2, 1) := by decide +kernel
theorem dL_isRight_602 : decode cL_isRight 602 = .ok (.invokevirtual 25, 3) := by decide +kernel
theorem dL_isRight_605 : decode cL_isRight 605 = .ok (.if_icmp .eq 5, 3) := by decide +kernel
theorem dL_isRight_608 : decode cL_isRight 608 = .ok (.iconst 0, 1) := by decide +kernel
theorem dL_isRight_609 : decode cL_isRight 609 = .ok (.ireturn, 1) := by decide +kernel
theorem dL_isRight_610 : decode cL_isRight 610 = .ok (.iinc 3 1, 3) := by decide +kernel
theorem dL_isRight_613 : decode cL_isRight 613 = .ok (.goto (-132), 3) := by decide +kernel
theorem dL_isRight_616 : decode cL_isRight 616 = .ok (.aload_n 0, 1) := by decide +kernel
theorem dL_isRight_617 : decode cL_isRight 617 = .ok (.iconst 4, 1) := by decide +kernel
theorem dL_isRight_618 : decode cL_isRight 618 = .ok (.invokevirtual 12, 3) := by decide +kernel
theorem dL_isRight_621 : decode cL_isRight 621 = .ok (.istore_n 3, 1) := by decide +kernel
theorem dL_isRight_622 : decode cL_isRight 622 = .ok (.iload_n 1, 1) := by decide +kernel
theorem dL_isRight_623 : decode cL_isRight 623 = .ok (.aload_n 0, 1) := by decide +kernel
theorem dL_isRight_624 : decode cL_isRight 624 = .ok (.bipush 8, 2) := by decide +kernel
theorem dL_isRight_626 : decode cL_isRight 626 = .ok (.invokevirtual 12, 3) := by decide +kernel
theorem dL_isRight_629 : decode cL_isRight 629 = .ok (.if_icmp .ne 53, 3) := by decide +kernel
theorem dL_isRight_632 : decode cL_isRight 632 = .ok (.aload_n 0, 1) := by decide +kernel
theorem dL_isRight_633 : decode cL_isRight 633 = .ok (.iconst 1, 1) := by decide +kernel
theorem dL_isRight_634 : decode cL_isRight 634 = .ok (.invokevirtual 12, 3) := by decide +kernel
theorem dL_isRight_637 : decode cL_isRight 637 = .ok (.ifCond .lt 45, 3) := by decide +kernel
theorem dL_isRight_640 : decode cL_isRight 640 = .ok (.iload_n 3, 1) := by decide +kernel
theorem dL_isRight_641 : decode cL_isRight 641 = .ok (.ifCond .ge 7, 3) := by decide +kernel
theorem dL_isRight_644 : decode cL_isRight 644 = .ok (.iconst 1, 1) := by decide +kernel
theorem dL_isRight_645 : decode cL_isRight 645 = .ok (.goto 4, 3) := by decide +kernel
theorem dL_isRight_648 : decode cL_isRight 648 = .ok (.iconst 0, 1) := by decide +kernel
theorem dL_isRight_649 : decode cL_isRight 649 = .ok (.aload_n 0, 1) := by decide +kernel
theorem dL_isRight_650 : decode cL_isRight 650 = .ok (.iconst 5, 1) := by decide +kernel
theorem dL_isRight_651 : decode cL_isRight 651 = .ok (.invokevirtual 12, 3) := by decide +kernel
theorem dL_isRight_654 : decode cL_isRight 654 = .ok (.ifCond .ge 7, 3) := by decide +kernel
theorem dL_isRight_657 : decode cL_isRight 657 = .ok (.iconst 1, 1) := by decide +kernel
theorem dL_isRight_658 : decode cL_isRight 658 = .ok (.goto 4, 3) := by decide +kernel
theorem dL_isRight_661 : decode cL_isRight 661 = .ok (.iconst 0, 1) := by decide +kernel
theorem dL_isRight_662 : decode cL_isRight 662 = .ok (.if_icmp .ne 20, 3) := by decide +kernel
theorem dL_isRight_665 : decode cL_isRight 665 = .ok (.iload_n 3, 1) := by decide +kernel
theorem dL_isRight_666 : decode cL_isRight 666 = .ok (.ifCond .lt 12, 3) := by decide +kernel
theorem dL_isRight_669 : decode cL_isRight 669 = .ok (.iload_n 3, 1) := by decide +kernel
theorem dL_isRight_670 : decode cL_isRight 670 = .ok (.aload_n 0, 1) := by decide +kernel
theorem dL_isRight_671 : decode cL_isRight 671 = .ok (.iconst 5, 1) := by decide +kernel
theorem dL_isRight_672 : decode cL_isRight 672 = .ok (.invokevirtual 12, 3) := by decide +kernel
theorem dL_isRight_675 : decode cL_isRight 675 = .ok (.if_icmp .ge 7, 3) := by decide +kernel
theorem dL_isRight_678 : decode cL_isRight 678 = .ok (.iconst 1, 1) := by decide +kernel
theorem dL_isRight_679 : decode cL_isRight 679 = .ok (.goto 4, 3) := by decide +kernel
theorem dL_isRight_682 : decode cL_isRight 682 = .ok (.iconst 0, 1) := by decide +kernel
theorem dL_isRight_683 : decode cL_isRight 683 = .ok (.ireturn, 1) := by decide +kernel
set_option maxRecDepth 20000 in
theorem ggL_law_X5_init : GoodIn wsL_law wsX5_init := goodIn_r _ [5, 6, 7, 8, 9, 10, 11, 12, 13, 14, 15, 16, 17, 18, 19, 20, 21, 22, 23, 24, 25, 26, 27, 28, 29, 30, 31, 32, 33, 34, 35, 36, 37, 38, 39, 40, 41, 42, 43, 44, 45, 46, 47, 48, 49, 50, 51, 52, 53, 54, 55, 56, 57, 58, 59, 60, 61, 62, 63, 64, 65, 66, 67, 549, 550, 551, 552, 553, 554, 555, 556, 557, 558, 559, 560, 561, 562, 563, 564, 565, 566, 544, 545, 546, 547, 548, 567, 568, 569, 570, 571, 572, 573, 574, 575, 576, 577, 578, 579, 580, 581] (by decide +kernel) (by decide +kernel)
set_option maxRecDepth 20000 in
theorem gL_law_X5_init : GoodIn wsL_law (wsX5_init) := ggL_law_X5_init
set_option maxRecDepth 20000 in
theorem ggL_law_L_cell : GoodIn wsL_law wsL_cell := goodIn_r _ [71] (by decide +kernel) (by decide +kernel)
set_option maxRecDepth 20000 in
theorem gL_law_L_cell : GoodIn wsL_law (va_wsS RL 90 yL_cell wsL_cell) := goodIn_app (goodIn_of _ (by decide +kernel)) ggL_law_L_cell
set_option maxRecDepth 20000 in
theorem ggL_law_L_digest : GoodIn wsL_law wsL_digest := goodIn_r _ [74, 75, 76, 77, 78, 79, 2, 80, 12, 17, 25, 81, 82, 83, 42, 84, 85, 86, 87, 88, 89, 90, 91, 92, 93, 94, 95, 11, 96, 97, 98, 99, 100, 101, 32, 33, 102, 103, 104, 105, 106, 107, 108, 109, 110, 111, 112, 113, 114, 115, 116, 117, 118, 119, 120, 121, 31, 122, 123, 124, 125, 126, 127, 128, 129, 130, 131, 36, 132, 133, 134, 135, 136, 137, 138, 139, 140, 141, 142, 143, 144, 145, 146, 147, 148, 149, 150, 151, 152, 153, 154, 155, 156, 157, 158, 159, 160, 35, 34, 161, 162, 163, 164, 165, 166, 167, 168, 169, 170, 171, 172, 173, 544, 545, 546, 547, 548, 549, 550, 551, 552, 553, 554, 555, 556, 557, 558, 559, 560, 561, 562, 563, 564, 565, 566, 577, 578, 579, 580, 581, 567, 568, 569, 574, 575, 576] (by decide +kernel) (by decide +kernel)
set_option maxRecDepth 20000 in
theorem gL_law_L_digest : GoodIn wsL_law (va_wsS RL 94 yL_digest wsL_digest) := goodIn_app (goodIn_of _ (by decide +kernel)) ggL_law_L_digest
set_option maxRecDepth 20000 in
theorem ggL_law_L_low : GoodIn wsL_law wsL_low := goodIn_r _ [176, 177] (by decide +kernel) (by decide +kernel)
set_option maxRecDepth 20000 in
theorem gL_law_L_low : GoodIn wsL_law (va_wsS RL 35 yL_low wsL_low) := goodIn_app (goodIn_of _ (by decide +kernel)) ggL_law_L_low
set_option maxRecDepth 20000 in
theorem ggL_law_X5_outputIn : GoodIn wsL_law wsX5_outputIn := goodIn_r _ [181, 13, 12, 115, 116, 2, 117, 182, 183, 184, 185, 186, 187, 11, 188, 31, 189, 190, 191, 192, 32, 33, 101, 109, 108, 34, 35, 36, 37, 38, 193, 194, 195, 196, 39, 197, 43, 198, 199, 200, 42, 201, 202, 203, 85, 127, 47, 204, 205, 206, 207, 208, 209, 82, 83, 84, 210, 211, 212, 213, 214, 124, 125, 126, 102, 103, 215, 216, 217, 218, 219, 220, 221, 222, 223, 224, 225, 226, 227, 228, 229, 230, 231, 232, 233, 234, 235, 236, 237, 238, 239, 240, 241, 97, 98, 99, 100, 104, 105, 106, 107, 157, 158, 159, 160, 161, 162, 242, 243, 244, 245, 544, 545, 546, 547, 548, 549, 550, 551, 552, 553, 554, 555, 556, 557, 558, 559, 560, 561, 562, 563, 564, 565, 566, 577, 578, 579, 580, 581] (by decide +kernel) (by decide +kernel)
set_option maxRecDepth 20000 in
theorem gL_law_X5_outputIn : GoodIn wsL_law (wsV RL 86 RX5 yX5_outputIn wsX5_outputIn) := goodIn_app (goodIn_of _ (by decide +kernel)) ggL_law_X5_outputIn
set_option maxRecDepth 20000 in
theorem ggL_law_X5_count : GoodIn wsL_law wsX5_count := goodIn_r _ [80, 12, 17, 25, 81, 82, 83, 42, 84, 85, 86, 87, 88, 89, 90, 91, 92, 93, 94, 95, 11, 96, 97, 98, 99, 100, 101, 32, 33, 102, 2, 103, 104, 105, 106, 107, 108, 109, 544, 545, 546, 547, 548, 549, 550, 551, 552, 553, 554, 555, 556, 557, 558, 559, 560, 561, 562, 563, 564, 565, 566, 577, 578, 579, 580, 581, 567, 568, 569, 574, 575, 576] (by decide +kernel) (by decide +kernel)
set_option maxRecDepth 20000 in
theorem gL_law_X5_count : GoodIn wsL_law (wsV RL 12 RX5 yX5_count wsX5_count) := goodIn_app (goodIn_of _ (by decide +kernel)) ggL_law_X5_count
set_option maxRecDepth 20000 in
theorem ggL_law_L_act : GoodIn wsL_law wsL_act := goodIn_r _ [248, 174, 175, 70, 176, 177, 249, 250, 251, 2, 252, 114, 17, 12, 115, 116, 117, 182, 183, 184, 253, 254, 255, 16, 256, 53, 257, 258, 259, 232, 233, 234, 260, 186, 187, 11, 188, 31, 189, 190, 191, 192, 32, 33, 101, 109, 108, 34, 35, 36, 37, 38, 193, 194, 195, 196, 39, 197, 43, 198, 199, 200, 42, 201, 202, 203, 85, 127, 47, 204, 118, 119, 120, 121, 102, 103, 261, 262, 263, 264, 265, 266, 267, 268, 269, 270, 271, 82, 83, 84, 272, 273, 274, 275, 136, 137, 138, 139, 140, 276, 277, 278, 279, 280, 281, 282, 283, 167, 161, 162, 284, 285, 286, 287, 288, 86, 87, 88, 89, 90, 91, 92, 289, 290, 291, 292, 128, 129, 130, 131, 293, 294, 295, 296, 297, 298, 299, 300, 301, 302, 303, 304, 173, 305, 306, 307, 308, 309, 310, 311, 312, 313, 314, 315, 316, 223, 224, 225, 226, 317, 318, 319, 320, 321, 322, 323, 324, 205, 206, 207, 208, 209, 210, 211, 212, 213, 214, 124, 125, 126, 215, 216, 217, 218, 219, 220, 221, 222, 227, 228, 229, 230, 231, 235, 236, 237, 238, 239, 240, 241, 97, 98, 99, 100, 104, 105, 106, 107, 157, 158, 159, 160, 242, 243, 244, 245, 544, 545, 546, 547, 548, 567, 568, 569, 549, 550, 551, 552, 553, 554, 555, 556, 557, 558, 559, 560, 561, 562, 563, 564, 565, 566, 577, 578, 579, 580, 581] (by decide +kernel) (by decide +kernel)
set_option maxRecDepth 20000 in
theorem gL_law_L_act : GoodIn wsL_law (va_wsS RL 98 yL_act wsL_act) := goodIn_app (goodIn_of _ (by decide +kernel)) ggL_law_L_act
set_option maxRecDepth 20000 in
theorem ggL_law_L_isRight : GoodIn wsL_law wsL_isRight := goodIn_r _ [327, 110, 111, 112, 2, 113, 114, 12, 115, 116, 117, 118, 119, 120, 11, 121, 31, 32, 101, 109, 33, 102, 103, 122, 98, 99, 100, 104, 105, 106, 107, 108, 123, 124, 125, 42, 126, 127, 128, 129, 130, 131, 36, 328, 329, 330, 331, 173, 332, 77, 78, 79, 80, 17, 25, 81, 82, 83, 84, 85, 86, 87, 88, 89, 90, 91, 92, 93, 94, 95, 96, 97, 145, 146, 147, 148, 149, 150, 151, 152, 153, 154, 155, 156, 157, 158, 159, 160, 35, 34, 161, 162, 163, 164, 165, 166, 167, 168, 333, 334, 335, 336, 21, 337, 338, 339, 20, 340, 59, 62, 341, 342, 343, 344, 345, 60, 346, 347, 348, 349, 350, 351, 352, 353, 354, 355, 356, 357, 358, 359, 360, 361, 61, 362, 363, 364, 365, 366, 240, 233, 241, 367, 368, 369, 370, 371, 372, 373, 374, 375, 376, 377, 378, 379, 380, 381, 382, 383, 384, 385, 386, 387, 388, 389, 390, 391, 392, 393, 394, 395, 396, 397, 398, 265, 266, 399, 178, 179, 180, 181, 13, 182, 183, 184, 185, 186, 187, 188, 189, 190, 191, 192, 37, 38, 193, 194, 195, 196, 39, 197, 43, 198, 199, 200, 201, 202, 203, 47, 204, 205, 206, 207, 208, 209, 210, 211, 212, 213, 214, 215, 216, 217, 218, 219, 220, 221, 222, 223, 224, 225, 226, 227, 228, 229, 230, 231, 232, 234, 235, 236, 237, 238, 239, 242, 243, 244, 245, 544, 545, 546, 547, 548, 549, 550, 551, 552, 553, 554, 555, 556, 557, 558, 559, 560, 561, 562, 563, 564, 565, 566, 577, 578, 579, 580, 581, 567, 568, 569, 574, 575, 576, 570, 571, 572, 573] (by decide +kernel) (by decide +kernel)
set_option maxRecDepth 20000 in
theorem gL_law_L_isRight : GoodIn wsL_law (va_wsS RL 102 yL_isRight wsL_isRight) := goodIn_app (goodIn_of _ (by decide +kernel)) ggL_law_L_isRight
set_option maxRecDepth 20000 in
theorem ggL_law_X5_feed : GoodIn wsL_law wsX5_feed := goodIn_r _ [148, 12, 115, 116, 2, 117, 149, 150, 151, 11, 152, 153, 154, 155, 156, 97, 98, 99, 100, 101, 32, 33, 102, 103, 104, 105, 106, 107, 108, 109, 157, 158, 159, 160, 35, 34, 161, 162, 544, 545, 546, 547, 548, 549, 550, 551, 552, 553, 554, 555, 556, 557, 558, 559, 560, 561, 562, 563, 564, 565, 566] (by decide +kernel) (by decide +kernel)
set_option maxRecDepth 20000 in
theorem gL_law_X5_feed : GoodIn wsL_law (wsV RL 25 RX5 yX5_feed wsX5_feed) := goodIn_app (goodIn_of _ (by decide +kernel)) ggL_law_X5_feed
set_option maxRecDepth 20000 in
theorem ggL_law_X5_undo : GoodIn wsL_law wsX5_undo := goodIn_r _ [403, 17, 12, 404, 405, 406, 16, 407, 257, 258, 53, 260, 186, 187, 11, 188, 31, 189, 190, 191, 192, 32, 33, 101, 109, 108, 34, 35, 36, 37, 38, 193, 194, 195, 196, 39, 197, 43, 198, 199, 200, 42, 201, 202, 203, 85, 127, 47, 204, 544, 545, 546, 547, 548, 567, 568, 569, 549, 550, 551, 552, 553, 554, 555, 556, 557, 558, 559, 560, 561, 562, 563, 564, 565, 566, 577, 578, 579, 580, 581] (by decide +kernel) (by decide +kernel)
set_option maxRecDepth 20000 in
theorem gL_law_X5_undo : GoodIn wsL_law (wsV RL 106 RX5 yX5_undo wsX5_undo) := goodIn_app (goodIn_of _ (by decide +kernel)) ggL_law_X5_undo
set_option maxRecDepth 20000 in
theorem ggL_law_X5_cut : GoodIn wsL_law wsX5_cut := goodIn_r _ [390, 21, 115, 116, 2, 117, 337, 338, 339, 20, 340, 59, 62, 341, 154, 155, 11, 156, 97, 98, 99, 100, 101, 32, 33, 102, 103, 104, 105, 106, 107, 108, 109, 157, 158, 159, 160, 35, 34, 161, 162, 371, 372, 373, 374, 375, 376, 377, 378, 391, 392, 393, 394, 395, 396, 397, 398, 265, 266, 399, 544, 545, 546, 547, 548, 570, 571, 572, 573, 549, 550, 551, 552, 553, 554, 555, 556, 557, 558, 559, 560, 561, 562, 563, 564, 565, 566] (by decide +kernel) (by decide +kernel)
set_option maxRecDepth 20000 in
theorem gL_law_X5_cut : GoodIn wsL_law (wsV RL 83 RX5 yX5_cut wsX5_cut) := goodIn_app (goodIn_of _ (by decide +kernel)) ggL_law_X5_cut
set_option maxRecDepth 20000 in
theorem ggL_law_X5_setSend : GoodIn wsL_law wsX5_setSend := goodIn_r _ [283, 17, 12, 115, 116, 2, 117, 182, 183, 184, 253, 254, 255, 16, 256, 53, 257, 258, 259, 232, 233, 234, 260, 186, 187, 11, 188, 31, 189, 190, 191, 192, 32, 33, 101, 109, 108, 34, 35, 36, 37, 38, 193, 194, 195, 196, 39, 197, 43, 198, 199, 200, 42, 201, 202, 203, 85, 127, 47, 204, 167, 161, 162, 544, 545, 546, 547, 548, 549, 550, 551, 552, 553, 554, 555, 556, 557, 558, 559, 560, 561, 562, 563, 564, 565, 566, 567, 568, 569, 577, 578, 579, 580, 581] (by decide +kernel) (by decide +kernel)
set_option maxRecDepth 20000 in
theorem gL_law_X5_setSend : GoodIn wsL_law (wsV RL 46 RX5 yX5_setSend wsX5_setSend) := goodIn_app (goodIn_of _ (by decide +kernel)) ggL_law_X5_setSend
set_option maxRecDepth 20000 in
theorem ggL_law_X5_hearers : GoodIn wsL_law wsX5_hearers := goodIn_r _ [370, 21, 115, 116, 2, 117, 337, 338, 339, 20, 340, 59, 62, 341, 154, 155, 11, 156, 97, 98, 99, 100, 101, 32, 33, 102, 103, 104, 105, 106, 107, 108, 109, 157, 158, 159, 160, 35, 34, 161, 162, 371, 372, 373, 374, 375, 376, 377, 378, 544, 545, 546, 547, 548, 570, 571, 572, 573, 549, 550, 551, 552, 553, 554, 555, 556, 557, 558, 559, 560, 561, 562, 563, 564, 565, 566] (by decide +kernel) (by decide +kernel)
set_option maxRecDepth 20000 in
theorem gL_law_X5_hearers : GoodIn wsL_law (wsV RL 77 RX5 yX5_hearers wsX5_hearers) := goodIn_app (goodIn_of _ (by decide +kernel)) ggL_law_X5_hearers
set_option maxRecDepth 20000 in
theorem ggL_law_X5_setChannel : GoodIn wsL_law wsX5_setChannel := goodIn_r _ [252, 114, 17, 12, 115, 116, 2, 117, 182, 183, 184, 253, 254, 255, 16, 256, 53, 257, 258, 259, 232, 233, 234, 260, 186, 187, 11, 188, 31, 189, 190, 191, 192, 32, 33, 101, 109, 108, 34, 35, 36, 37, 38, 193, 194, 195, 196, 39, 197, 43, 198, 199, 200, 42, 201, 202, 203, 85, 127, 47, 204, 118, 119, 120, 121, 102, 103, 261, 262, 263, 264, 265, 266, 267, 268, 269, 270, 271, 82, 83, 84, 544, 545, 546, 547, 548, 567, 568, 569, 549, 550, 551, 552, 553, 554, 555, 556, 557, 558, 559, 560, 561, 562, 563, 564, 565, 566, 577, 578, 579, 580, 581] (by decide +kernel) (by decide +kernel)
set_option maxRecDepth 20000 in
theorem gL_law_X5_setChannel : GoodIn wsL_law (wsV RL 40 RX5 yX5_setChannel wsX5_setChannel) := goodIn_app (goodIn_of _ (by decide +kernel)) ggL_law_X5_setChannel
set_option maxRecDepth 20000 in
theorem ggL_law_X5_setGroup : GoodIn wsL_law wsX5_setGroup := goodIn_r _ [275, 136, 17, 12, 115, 116, 2, 117, 182, 183, 184, 253, 254, 255, 16, 256, 53, 257, 258, 259, 232, 233, 234, 260, 186, 187, 11, 188, 31, 189, 190, 191, 192, 32, 33, 101, 109, 108, 34, 35, 36, 37, 38, 193, 194, 195, 196, 39, 197, 43, 198, 199, 200, 42, 201, 202, 203, 85, 127, 47, 204, 137, 138, 139, 140, 102, 103, 276, 277, 278, 279, 265, 266, 267, 268, 269, 270, 271, 82, 83, 84, 544, 545, 546, 547, 548, 567, 568, 569, 549, 550, 551, 552, 553, 554, 555, 556, 557, 558, 559, 560, 561, 562, 563, 564, 565, 566, 577, 578, 579, 580, 581] (by decide +kernel) (by decide +kernel)
set_option maxRecDepth 20000 in
theorem gL_law_X5_setGroup : GoodIn wsL_law (wsV RL 43 RX5 yX5_setGroup wsX5_setGroup) := goodIn_app (goodIn_of _ (by decide +kernel)) ggL_law_X5_setGroup
set_option maxRecDepth 20000 in
theorem ggL_law_X5_setReturn : GoodIn wsL_law wsX5_setReturn := goodIn_r _ [292, 12, 17, 115, 116, 2, 117, 182, 183, 184, 128, 129, 130, 11, 131, 36, 253, 254, 255, 16, 256, 53, 257, 258, 259, 232, 233, 234, 260, 186, 187, 188, 31, 189, 190, 191, 192, 32, 33, 101, 109, 108, 34, 35, 37, 38, 193, 194, 195, 196, 39, 197, 43, 198, 199, 200, 42, 201, 202, 203, 85, 127, 47, 204, 544, 545, 546, 547, 548, 549, 550, 551, 552, 553, 554, 555, 556, 557, 558, 559, 560, 561, 562, 563, 564, 565, 566, 567, 568, 569, 577, 578, 579, 580, 581] (by decide +kernel) (by decide +kernel)
set_option maxRecDepth 20000 in
theorem gL_law_X5_setReturn : GoodIn wsL_law (wsV RL 52 RX5 yX5_setReturn wsX5_setReturn) := goodIn_app (goodIn_of _ (by decide +kernel)) ggL_law_X5_setReturn
set_option maxRecDepth 20000 in
theorem ggL_law_X5_recall : GoodIn wsL_law wsX5_recall := goodIn_r _ [304, 12, 17, 115, 116, 2, 117, 182, 183, 184, 173, 102, 103, 253, 254, 255, 16, 256, 53, 257, 258, 259, 232, 233, 234, 260, 186, 187, 11, 188, 31, 189, 190, 191, 192, 32, 33, 101, 109, 108, 34, 35, 36, 37, 38, 193, 194, 195, 196, 39, 197, 43, 198, 199, 200, 42, 201, 202, 203, 85, 127, 47, 204, 305, 306, 307, 308, 309, 310, 311, 312, 313, 314, 315, 316, 223, 224, 225, 226, 544, 545, 546, 547, 548, 549, 550, 551, 552, 553, 554, 555, 556, 557, 558, 559, 560, 561, 562, 563, 564, 565, 566, 567, 568, 569, 577, 578, 579, 580, 581] (by decide +kernel) (by decide +kernel)
set_option maxRecDepth 20000 in
theorem gL_law_X5_recall : GoodIn wsL_law (wsV RL 58 RX5 yX5_recall wsX5_recall) := goodIn_app (goodIn_of _ (by decide +kernel)) ggL_law_X5_recall
set_option maxRecDepth 20000 in
theorem ggL_law_X5_run : GoodIn wsL_law wsX5_run := goodIn_r _ [324, 12, 17, 182, 183, 2, 184, 253, 254, 255, 16, 256, 53, 257, 258, 259, 232, 233, 234, 260, 186, 187, 11, 188, 31, 189, 190, 191, 192, 32, 33, 101, 109, 108, 34, 35, 36, 37, 38, 193, 194, 195, 196, 39, 197, 43, 198, 199, 200, 42, 201, 202, 203, 85, 127, 47, 204, 205, 206, 207, 208, 209, 82, 83, 84, 210, 211, 212, 213, 214, 124, 125, 126, 102, 103, 215, 216, 217, 218, 219, 220, 221, 222, 223, 224, 225, 226, 227, 228, 229, 230, 231, 235, 236, 237, 238, 239, 240, 241, 97, 98, 99, 100, 104, 105, 106, 107, 157, 158, 159, 160, 161, 162, 242, 243, 244, 245, 544, 545, 546, 547, 548, 549, 550, 551, 552, 553, 554, 555, 556, 557, 558, 559, 560, 561, 562, 563, 564, 565, 566, 567, 568, 569, 577, 578, 579, 580, 581] (by decide +kernel) (by decide +kernel)
set_option maxRecDepth 20000 in
theorem gL_law_X5_run : GoodIn wsL_law (wsV RL 65 RX5 yX5_run wsX5_run) := goodIn_app (goodIn_of _ (by decide +kernel)) ggL_law_X5_run
set_option maxRecDepth 20000 in
theorem ggL_law_X5_path : GoodIn wsL_law wsX5_path := goodIn_r _ [336, 21, 115, 116, 2, 117, 337, 338, 339, 20, 340, 59, 62, 341, 154, 155, 11, 156, 97, 98, 99, 100, 101, 32, 33, 102, 103, 104, 105, 106, 107, 108, 109, 157, 158, 159, 160, 35, 34, 161, 162, 342, 343, 344, 345, 60, 346, 347, 348, 349, 350, 351, 352, 353, 544, 545, 546, 547, 548, 570, 571, 572, 573, 549, 550, 551, 552, 553, 554, 555, 556, 557, 558, 559, 560, 561, 562, 563, 564, 565, 566] (by decide +kernel) (by decide +kernel)
set_option maxRecDepth 20000 in
theorem gL_law_X5_path : GoodIn wsL_law (wsV RL 71 RX5 yX5_path wsX5_path) := goodIn_app (goodIn_of _ (by decide +kernel)) ggL_law_X5_path
set_option maxRecDepth 20000 in
theorem ggL_law_X5_load : GoodIn wsL_law wsX5_load := goodIn_r _ [411, 13, 12, 25, 17, 185, 186, 187, 11, 188, 31, 189, 190, 191, 192, 32, 33, 101, 109, 108, 34, 35, 36, 37, 38, 193, 194, 195, 196, 39, 197, 43, 198, 199, 200, 42, 201, 202, 203, 85, 127, 47, 204, 412, 413, 414, 24, 415, 416, 417, 418, 419, 420, 421, 67, 422, 423, 424, 425, 426, 427, 428, 429, 430, 431, 432, 433, 434, 435, 436, 437, 438, 232, 233, 234, 116, 2, 117, 439, 440, 441, 442, 443, 444, 445, 446, 447, 448, 449, 450, 451, 452, 453, 454, 455, 456, 457, 458, 459, 460, 461, 462, 463, 464, 465, 466, 467, 468, 469, 470, 471, 240, 241, 472, 473, 474, 475, 476, 477, 478, 479, 480, 481, 482, 483, 484, 485, 486, 487, 488, 489, 490, 491, 492, 493, 494, 495, 496, 497, 498, 499, 500, 501, 502, 503, 504, 505, 506, 507, 508, 509, 510, 511, 512, 513, 514, 515, 516, 517, 518, 519, 520, 521, 522, 523, 524, 525, 526, 102, 103, 527, 528, 529, 530, 531, 532, 533, 534, 535, 262, 263, 264, 265, 266, 267, 268, 269, 270, 271, 82, 83, 84, 536, 537, 538, 539, 540, 541, 542, 543, 161, 162, 253, 254, 255, 16, 256, 53, 257, 258, 259, 260, 544, 545, 546, 547, 548, 574, 575, 576, 549, 550, 551, 552, 553, 554, 555, 556, 557, 558, 559, 560, 561, 562, 563, 564, 565, 566, 577, 578, 579, 580, 581, 567, 568, 569] (by decide +kernel) (by decide +kernel)
set_option maxRecDepth 20000 in
theorem gL_law_X5_load : GoodIn wsL_law (wsV RL 109 RX5 yX5_load wsX5_load) := goodIn_app (goodIn_of _ (by decide +kernel)) ggL_law_X5_load
theorem dL_law_0 : decode cL_law 0 = .ok (.new 13, 3) := by decide +kernel
theorem dL_law_3 : decode cL_law 3 = .ok (.dup, 1) := by decide +kernel
theorem dL_law_4 : decode cL_law 4 = .ok (.invokespecial 89, 3) := by decide +kernel
theorem dL_law_7 : decode cL_law 7 = .ok (.astore_n 1, 1) := by decide +kernel
theorem dL_law_8 : decode cL_law 8 = .ok (.iconst 0, 1) := by decide +kernel
theorem dL_law_9 : decode cL_law 9 = .ok (.istore_n 2, 1) := by decide +kernel
theorem dL_law_10 : decode cL_law 10 = .ok (.iload_n 2, 1) := by decide +kernel
theorem dL_law_11 : decode cL_law 11 = .ok (.bipush 18, 2) := by decide +kernel
theorem dL_law_13 : decode cL_law 13 = .ok (.if_icmp .ge 289, 3) := by decide +kernel
theorem dL_law_16 : decode cL_law 16 = .ok (.aload_n 0, 1) := by decide +kernel
theorem dL_law_17 : decode cL_law 17 = .ok (.iload_n 2, 1) := by decide +kernel
theorem dL_law_18 : decode cL_law 18 = .ok (.invokestatic 90, 3) := by decide +kernel
theorem dL_law_21 : decode cL_law 21 = .ok (.istore_n 3, 1) := by decide +kernel
theorem dL_law_22 : decode cL_law 22 = .ok (.aload_n 1, 1) := by decide +kernel
theorem dL_law_23 : decode cL_law 23 = .ok (.invokestatic 94, 3) := by decide +kernel
theorem dL_law_26 : decode cL_law 26 = .ok (.lstore 4, 2) := by decide +kernel
theorem dL_law_28 : decode cL_law 28 = .ok (.iload_n 3, 1) := by decide +kernel
theorem dL_law_29 : decode cL_law 29 = .ok (.bipush 6, 2) := by decide +kernel
theorem dL_law_31 : decode cL_law 31 = .ok (.ishr, 1) := by decide +kernel
theorem dL_law_32 : decode cL_law 32 = .ok (.iconst 3, 1) := by decide +kernel
theorem dL_law_33 : decode cL_law 33 = .ok (.iand, 1) := by decide +kernel
theorem dL_law_34 : decode cL_law 34 = .ok (.istore 6, 2) := by decide +kernel
theorem dL_law_36 : decode cL_law 36 = .ok (.iconst 1, 1) := by decide +kernel
theorem dL_law_37 : decode cL_law 37 = .ok (.iload_n 3, 1) := by decide +kernel
theorem dL_law_38 : decode cL_law 38 = .ok (.iconst 4, 1) := by decide +kernel
theorem dL_law_39 : decode cL_law 39 = .ok (.ishr, 1) := by decide +kernel
theorem dL_law_40 : decode cL_law 40 = .ok (.bipush 9, 2) := by decide +kernel
theorem dL_law_42 : decode cL_law 42 = .ok (.invokestatic 35, 3) := by decide +kernel
theorem dL_law_45 : decode cL_law 45 = .ok (.iadd, 1) := by decide +kernel
theorem dL_law_46 : decode cL_law 46 = .ok (.istore 7, 2) := by decide +kernel
theorem dL_law_48 : decode cL_law 48 = .ok (.aload_n 1, 1) := by decide +kernel
theorem dL_law_49 : decode cL_law 49 = .ok (.iload 6, 2) := by decide +kernel
theorem dL_law_51 : decode cL_law 51 = .ok (.iload 7, 2) := by decide +kernel
theorem dL_law_53 : decode cL_law 53 = .ok (.invokevirtual 86, 3) := by decide +kernel
theorem dL_law_56 : decode cL_law 56 = .ok (.istore 8, 2) := by decide +kernel
theorem dL_law_58 : decode cL_law 58 = .ok (.aload_n 1, 1) := by decide +kernel
theorem dL_law_59 : decode cL_law 59 = .ok (.iconst 2, 1) := by decide +kernel
theorem dL_law_60 : decode cL_law 60 = .ok (.invokevirtual 12, 3) := by decide +kernel
theorem dL_law_63 : decode cL_law 63 = .ok (.istore 9, 2) := by decide +kernel
theorem dL_law_65 : decode cL_law 65 = .ok (.aload_n 1, 1) := by decide +kernel
theorem dL_law_66 : decode cL_law 66 = .ok (.iload_n 3, 1) := by decide +kernel
theorem dL_law_67 : decode cL_law 67 = .ok (.invokestatic 98, 3) := by decide +kernel
theorem dL_law_70 : decode cL_law 70 = .ok (.istore 10, 2) := by decide +kernel
theorem dL_law_72 : decode cL_law 72 = .ok (.iload 10, 2) := by decide +kernel
theorem dL_law_74 : decode cL_law 74 = .ok (.iconst (-1), 1) := by decide +kernel
theorem dL_law_75 : decode cL_law 75 = .ok (.if_icmp .ne 12, 3) := by decide +kernel
theorem dL_law_78 : decode cL_law 78 = .ok (.iload_n 3, 1) := by decide +kernel
theorem dL_law_79 : decode cL_law 79 = .ok (.bipush 15, 2) := by decide +kernel
theorem dL_law_81 : decode cL_law 81 = .ok (.iand, 1) := by decide +kernel
theorem dL_law_82 : decode cL_law 82 = .ok (.bipush 10, 2) := by decide +kernel
theorem dL_law_84 : decode cL_law 84 = .ok (.if_icmp .lt 17, 3) := by decide +kernel
theorem dL_law_87 : decode cL_law 87 = .ok (.iload 10, 2) := by decide +kernel
theorem dL_law_89 : decode cL_law 89 = .ok (.bipush (-2), 2) := by decide +kernel
theorem dL_law_91 : decode cL_law 91 = .ok (.if_icmp .eq 10, 3) := by decide +kernel
theorem dL_law_94 : decode cL_law 94 = .ok (.iload 10, 2) := by decide +kernel
theorem dL_law_96 : decode cL_law 96 = .ok (.bipush (-3), 2) := by decide +kernel
theorem dL_law_98 : decode cL_law 98 = .ok (.if_icmp .ne 13, 3) := by decide +kernel
theorem dL_law_101 : decode cL_law 101 = .ok (.aload_n 1, 1) := by decide +kernel
theorem dL_law_102 : decode cL_law 102 = .ok (.invokestatic 94, 3) := by decide +kernel
theorem dL_law_105 : decode cL_law 105 = .ok (.lload 4, 2) := by decide +kernel
theorem dL_law_107 : decode cL_law 107 = .ok (.lcmp, 1) := by decide +kernel
theorem dL_law_108 : decode cL_law 108 = .ok (.ifCond .ne 10, 3) := by decide +kernel
theorem dL_law_111 : decode cL_law 111 = .ok (.aload_n 1, 1) := by decide +kernel
theorem dL_law_112 : decode cL_law 112 = .ok (.invokestatic 102, 3) := by decide +kernel
theorem dL_law_115 : decode cL_law 115 = .ok (.ifCond .ne 5, 3) := by decide +kernel
theorem dL_law_118 : decode cL_law 118 = .ok (.iconst 0, 1) := by decide +kernel
theorem dL_law_119 : decode cL_law 119 = .ok (.ireturn, 1) := by decide +kernel
theorem dL_law_120 : decode cL_law 120 = .ok (.iload_n 3, 1) := by decide +kernel
theorem dL_law_121 : decode cL_law 121 = .ok (.bipush 15, 2) := by decide +kernel
theorem dL_law_123 : decode cL_law 123 = .ok (.iand, 1) := by decide +kernel
theorem dL_law_124 : decode cL_law 124 = .ok (.bipush 15, 2) := by decide +kernel
theorem dL_law_126 : decode cL_law 126 = .ok (.if_icmp .ne 47, 3) := by decide +kernel
theorem dL_law_129 : decode cL_law 129 = .ok (.aload_n 1, 1) := by decide +kernel
theorem dL_law_130 : decode cL_law 130 = .ok (.iload 6, 2) := by decide +kernel
theorem dL_law_132 : decode cL_law 132 = .ok (.iconst 2, 1) := by decide +kernel
theorem dL_law_133 : decode cL_law 133 = .ok (.invokevirtual 25, 3) := by decide +kernel
theorem dL_law_136 : decode cL_law 136 = .ok (.iload 8, 2) := by decide +kernel
theorem dL_law_138 : decode cL_law 138 = .ok (.if_icmp .ne 33, 3) := by decide +kernel
theorem dL_law_141 : decode cL_law 141 = .ok (.iload 10, 2) := by decide +kernel
theorem dL_law_143 : decode cL_law 143 = .ok (.aload_n 1, 1) := by decide +kernel
theorem dL_law_144 : decode cL_law 144 = .ok (.iconst 1, 1) := by decide +kernel
theorem dL_law_145 : decode cL_law 145 = .ok (.invokevirtual 12, 3) := by decide +kernel
theorem dL_law_148 : decode cL_law 148 = .ok (.if_icmp .ne 23, 3) := by decide +kernel
theorem dL_law_151 : decode cL_law 151 = .ok (.aload_n 1, 1) := by decide +kernel
theorem dL_law_152 : decode cL_law 152 = .ok (.iconst 2, 1) := by decide +kernel
theorem dL_law_153 : decode cL_law 153 = .ok (.invokevirtual 12, 3) := by decide +kernel
theorem dL_law_156 : decode cL_law 156 = .ok (.iload 9, 2) := by decide +kernel
theorem dL_law_158 : decode cL_law 158 = .ok (.if_icmp .lt 13, 3) := by decide +kernel
theorem dL_law_161 : decode cL_law 161 = .ok (.aload_n 1, 1) := by decide +kernel
theorem dL_law_162 : decode cL_law 162 = .ok (.iconst 2, 1) := by decide +kernel
theorem dL_law_163 : decode cL_law 163 = .ok (.invokevirtual 12, 3) := by decide +kernel
theorem dL_law_166 : decode cL_law 166 = .ok (.iload 10, 2) := by decide +kernel
theorem dL_law_168 : decode cL_law 168 = .ok (.if_icmp .ge 5, 3) := by decide +kernel
theorem dL_law_171 : decode cL_law 171 = .ok (.iconst 0, 1) := by decide +kernel
theorem dL_law_172 : decode cL_law 172 = .ok (.ireturn, 1) := by decide +kernel
theorem dL_law_173 : decode cL_law 173 = .ok (.iload 10, 2) := by decide +kernel
theorem dL_law_175 : decode cL_law 175 = .ok (.ifCond .lt 55, 3) := by decide +kernel
theorem dL_law_178 : decode cL_law 178 = .ok (.iload_n 2, 1) := by decide +kernel
theorem dL_law_179 : decode cL_law 179 = .ok (.iconst 3, 1) := by decide +kernel
theorem dL_law_180 : decode cL_law 180 = .ok (.iand, 1) := by decide +kernel
theorem dL_law_181 : decode cL_law 181 = .ok (.iconst 2, 1) := by decide +kernel
theorem dL_law_182 : decode cL_law 182 = .ok (.if_icmp .ne 48, 3) := by decide +kernel
theorem dL_law_185 : decode cL_law 185 = .ok (.aload_n 1, 1) := by decide +kernel
theorem dL_law_186 : decode cL_law 186 = .ok (.invokestatic 94, 3) := by decide +kernel
theorem dL_law_189 : decode cL_law 189 = .ok (.lstore 11, 2) := by decide +kernel
theorem dL_law_191 : decode cL_law 191 = .ok (.aload_n 1, 1) := by decide +kernel
theorem dL_law_192 : decode cL_law 192 = .ok (.invokevirtual 106, 3) := by decide +kernel
theorem dL_law_195 : decode cL_law 195 = .ok (.ifCond .lt 33, 3) := by decide +kernel
theorem dL_law_198 : decode cL_law 198 = .ok (.aload_n 1, 1) := by decide +kernel
theorem dL_law_199 : decode cL_law 199 = .ok (.invokestatic 94, 3) := by decide +kernel
theorem dL_law_202 : decode cL_law 202 = .ok (.lload 4, 2) := by decide +kernel
theorem dL_law_204 : decode cL_law 204 = .ok (.lcmp, 1) := by decide +kernel
theorem dL_law_205 : decode cL_law 205 = .ok (.ifCond .ne 23, 3) := by decide +kernel
theorem dL_law_208 : decode cL_law 208 = .ok (.aload_n 1, 1) := by decide +kernel
theorem dL_law_209 : decode cL_law 209 = .ok (.iload_n 3, 1) := by decide +kernel
theorem dL_law_210 : decode cL_law 210 = .ok (.invokestatic 98, 3) := by decide +kernel
theorem dL_law_213 : decode cL_law 213 = .ok (.iload 10, 2) := by decide +kernel
theorem dL_law_215 : decode cL_law 215 = .ok (.if_icmp .ne 13, 3) := by decide +kernel
theorem dL_law_218 : decode cL_law 218 = .ok (.aload_n 1, 1) := by decide +kernel
theorem dL_law_219 : decode cL_law 219 = .ok (.invokestatic 94, 3) := by decide +kernel
theorem dL_law_222 : decode cL_law 222 = .ok (.lload 11, 2) := by decide +kernel
theorem dL_law_224 : decode cL_law 224 = .ok (.lcmp, 1) := by decide +kernel
theorem dL_law_225 : decode cL_law 225 = .ok (.ifCond .eq 5, 3) := by decide +kernel
theorem dL_law_228 : decode cL_law 228 = .ok (.iconst 0, 1) := by decide +kernel
theorem dL_law_229 : decode cL_law 229 = .ok (.ireturn, 1) := by decide +kernel
theorem dL_law_230 : decode cL_law 230 = .ok (.aload_n 1, 1) := by decide +kernel
theorem dL_law_231 : decode cL_law 231 = .ok (.iload 6, 2) := by decide +kernel
theorem dL_law_233 : decode cL_law 233 = .ok (.invokevirtual 83, 3) := by decide +kernel
theorem dL_law_236 : decode cL_law 236 = .ok (.istore 11, 2) := by decide +kernel
theorem dL_law_238 : decode cL_law 238 = .ok (.iload 11, 2) := by decide +kernel
theorem dL_law_240 : decode cL_law 240 = .ok (.ifCond .lt 56, 3) := by decide +kernel
theorem dL_law_243 : decode cL_law 243 = .ok (.aload_n 1, 1) := by decide +kernel
theorem dL_law_244 : decode cL_law 244 = .ok (.invokestatic 94, 3) := by decide +kernel
theorem dL_law_247 : decode cL_law 247 = .ok (.lstore 12, 2) := by decide +kernel
theorem dL_law_249 : decode cL_law 249 = .ok (.aload_n 1, 1) := by decide +kernel
theorem dL_law_250 : decode cL_law 250 = .ok (.iload 11, 2) := by decide +kernel
theorem dL_law_252 : decode cL_law 252 = .ok (.bipush 100, 2) := by decide +kernel
theorem dL_law_254 : decode cL_law 254 = .ok (.idiv, 1) := by decide +kernel
theorem dL_law_255 : decode cL_law 255 = .ok (.iload 11, 2) := by decide +kernel
theorem dL_law_257 : decode cL_law 257 = .ok (.bipush 100, 2) := by decide +kernel
theorem dL_law_259 : decode cL_law 259 = .ok (.irem, 1) := by decide +kernel
theorem dL_law_260 : decode cL_law 260 = .ok (.iconst 0, 1) := by decide +kernel
theorem dL_law_261 : decode cL_law 261 = .ok (.invokevirtual 46, 3) := by decide +kernel
theorem dL_law_264 : decode cL_law 264 = .ok (.iconst 1, 1) := by decide +kernel
theorem dL_law_265 : decode cL_law 265 = .ok (.if_icmp .lt 29, 3) := by decide +kernel
theorem dL_law_268 : decode cL_law 268 = .ok (.aload_n 1, 1) := by decide +kernel
theorem dL_law_269 : decode cL_law 269 = .ok (.iload 6, 2) := by decide +kernel
theorem dL_law_271 : decode cL_law 271 = .ok (.invokevirtual 77, 3) := by decide +kernel
theorem dL_law_274 : decode cL_law 274 = .ok (.ifCond .ne 20, 3) := by decide +kernel
theorem dL_law_277 : decode cL_law 277 = .ok (.aload_n 1, 1) := by decide +kernel
theorem dL_law_278 : decode cL_law 278 = .ok (.invokevirtual 106, 3) := by decide +kernel
theorem dL_law_281 : decode cL_law 281 = .ok (.ifCond .lt 13, 3) := by decide +kernel
theorem dL_law_284 : decode cL_law 284 = .ok (.aload_n 1, 1) := by decide +kernel
theorem dL_law_285 : decode cL_law 285 = .ok (.invokestatic 94, 3) := by decide +kernel
theorem dL_law_288 : decode cL_law 288 = .ok (.lload 12, 2) := by decide +kernel
theorem dL_law_290 : decode cL_law 290 = .ok (.lcmp, 1) := by decide +kernel
theorem dL_law_291 : decode cL_law 291 = .ok (.ifCond .eq 5, 3) := by decide +kernel
theorem dL_law_294 : decode cL_law 294 = .ok (.iconst 0, 1) := by decide +kernel
theorem dL_law_295 : decode cL_law 295 = .ok (.ireturn, 1) := by decide +kernel
theorem dL_law_296 : decode cL_law 296 = .ok (.iinc 2 1, 3) := by decide +kernel
theorem dL_law_299 : decode cL_law 299 = .ok (.goto (-289), 3) := by decide +kernel
theorem dL_law_302 : decode cL_law 302 = .ok (.aload_n 1, 1) := by decide +kernel
theorem dL_law_303 : decode cL_law 303 = .ok (.invokestatic 94, 3) := by decide +kernel
theorem dL_law_306 : decode cL_law 306 = .ok (.lstore_n 2, 1) := by decide +kernel
theorem dL_law_307 : decode cL_law 307 = .ok (.aload_n 1, 1) := by decide +kernel
theorem dL_law_308 : decode cL_law 308 = .ok (.bipush 12, 2) := by decide +kernel
theorem dL_law_310 : decode cL_law 310 = .ok (.iconst 0, 1) := by decide +kernel
theorem dL_law_311 : decode cL_law 311 = .ok (.iconst 0, 1) := by decide +kernel
theorem dL_law_312 : decode cL_law 312 = .ok (.invokevirtual 40, 3) := by decide +kernel
theorem dL_law_315 : decode cL_law 315 = .ok (.iconst (-1), 1) := by decide +kernel
theorem dL_law_316 : decode cL_law 316 = .ok (.if_icmp .ne 91, 3) := by decide +kernel
theorem dL_law_319 : decode cL_law 319 = .ok (.aload_n 1, 1) := by decide +kernel
theorem dL_law_320 : decode cL_law 320 = .ok (.iconst 0, 1) := by decide +kernel
theorem dL_law_321 : decode cL_law 321 = .ok (.iconst 0, 1) := by decide +kernel
theorem dL_law_322 : decode cL_law 322 = .ok (.sipush 1001, 3) := by decide +kernel
theorem dL_law_325 : decode cL_law 325 = .ok (.invokevirtual 40, 3) := by decide +kernel
theorem dL_law_328 : decode cL_law 328 = .ok (.iconst (-1), 1) := by decide +kernel
theorem dL_law_329 : decode cL_law 329 = .ok (.if_icmp .ne 78, 3) := by decide +kernel
theorem dL_law_332 : decode cL_law 332 = .ok (.aload_n 1, 1) := by decide +kernel
theorem dL_law_333 : decode cL_law 333 = .ok (.iconst 0, 1) := by decide +kernel
theorem dL_law_334 : decode cL_law 334 = .ok (.iconst 1, 1) := by decide +kernel
theorem dL_law_335 : decode cL_law 335 = .ok (.iconst 2, 1) := by decide +kernel
theorem dL_law_336 : decode cL_law 336 = .ok (.invokevirtual 43, 3) := by decide +kernel
theorem dL_law_339 : decode cL_law 339 = .ok (.iconst (-1), 1) := by decide +kernel
theorem dL_law_340 : decode cL_law 340 = .ok (.if_icmp .ne 67, 3) := by decide +kernel
theorem dL_law_343 : decode cL_law 343 = .ok (.aload_n 1, 1) := by decide +kernel
theorem dL_law_344 : decode cL_law 344 = .ok (.iconst 0, 1) := by decide +kernel
theorem dL_law_345 : decode cL_law 345 = .ok (.iconst 0, 1) := by decide +kernel
theorem dL_law_346 : decode cL_law 346 = .ok (.bipush 101, 2) := by decide +kernel
theorem dL_law_348 : decode cL_law 348 = .ok (.invokevirtual 46, 3) := by decide +kernel
theorem dL_law_351 : decode cL_law 351 = .ok (.iconst (-1), 1) := by decide +kernel
theorem dL_law_352 : decode cL_law 352 = .ok (.if_icmp .ne 55, 3) := by decide +kernel
theorem dL_law_355 : decode cL_law 355 = .ok (.aload_n 1, 1) := by decide +kernel
theorem dL_law_356 : decode cL_law 356 = .ok (.iconst 0, 1) := by decide +kernel
theorem dL_law_357 : decode cL_law 357 = .ok (.bipush 12, 2) := by decide +kernel
theorem dL_law_359 : decode cL_law 359 = .ok (.invokevirtual 52, 3) := by decide +kernel
theorem dL_law_362 : decode cL_law 362 = .ok (.iconst (-1), 1) := by decide +kernel
theorem dL_law_363 : decode cL_law 363 = .ok (.if_icmp .ne 44, 3) := by decide +kernel
theorem dL_law_366 : decode cL_law 366 = .ok (.aload_n 1, 1) := by decide +kernel
theorem dL_law_367 : decode cL_law 367 = .ok (.bipush 6, 2) := by decide +kernel
theorem dL_law_369 : decode cL_law 369 = .ok (.iconst 0, 1) := by decide +kernel
theorem dL_law_370 : decode cL_law 370 = .ok (.invokevirtual 58, 3) := by decide +kernel
theorem dL_law_373 : decode cL_law 373 = .ok (.iconst (-1), 1) := by decide +kernel
theorem dL_law_374 : decode cL_law 374 = .ok (.if_icmp .ne 33, 3) := by decide +kernel
theorem dL_law_377 : decode cL_law 377 = .ok (.aload_n 1, 1) := by decide +kernel
theorem dL_law_378 : decode cL_law 378 = .ok (.iconst 0, 1) := by decide +kernel
theorem dL_law_379 : decode cL_law 379 = .ok (.invokevirtual 65, 3) := by decide +kernel
theorem dL_law_382 : decode cL_law 382 = .ok (.iconst (-1), 1) := by decide +kernel
theorem dL_law_383 : decode cL_law 383 = .ok (.if_icmp .ne 24, 3) := by decide +kernel
theorem dL_law_386 : decode cL_law 386 = .ok (.aload_n 1, 1) := by decide +kernel
theorem dL_law_387 : decode cL_law 387 = .ok (.iconst 0, 1) := by decide +kernel
theorem dL_law_388 : decode cL_law 388 = .ok (.iconst 0, 1) := by decide +kernel
theorem dL_law_389 : decode cL_law 389 = .ok (.bipush (-2), 2) := by decide +kernel
theorem dL_law_391 : decode cL_law 391 = .ok (.invokevirtual 71, 3) := by decide +kernel
theorem dL_law_394 : decode cL_law 394 = .ok (.iconst (-1), 1) := by decide +kernel
theorem dL_law_395 : decode cL_law 395 = .ok (.if_icmp .ne 12, 3) := by decide +kernel
theorem dL_law_398 : decode cL_law 398 = .ok (.aload_n 1, 1) := by decide +kernel
theorem dL_law_399 : decode cL_law 399 = .ok (.invokestatic 94, 3) := by decide +kernel
theorem dL_law_402 : decode cL_law 402 = .ok (.lload_n 2, 1) := by decide +kernel
theorem dL_law_403 : decode cL_law 403 = .ok (.lcmp, 1) := by decide +kernel
theorem dL_law_404 : decode cL_law 404 = .ok (.ifCond .eq 5, 3) := by decide +kernel
theorem dL_law_407 : decode cL_law 407 = .ok (.iconst 0, 1) := by decide +kernel
theorem dL_law_408 : decode cL_law 408 = .ok (.ireturn, 1) := by decide +kernel
theorem dL_law_409 : decode cL_law 409 = .ok (.aload_n 1, 1) := by decide +kernel
theorem dL_law_410 : decode cL_law 410 = .ok (.invokevirtual 109, 3) := by decide +kernel
theorem dL_law_413 : decode cL_law 413 = .ok (.ifCond .ne 35, 3) := by decide +kernel
theorem dL_law_416 : decode cL_law 416 = .ok (.aload_n 1, 1) := by decide +kernel
theorem dL_law_417 : decode cL_law 417 = .ok (.invokestatic 94, 3) := by decide +kernel
theorem dL_law_420 : decode cL_law 420 = .ok (.lload_n 2, 1) := by decide +kernel
theorem dL_law_421 : decode cL_law 421 = .ok (.lcmp, 1) := by decide +kernel
theorem dL_law_422 : decode cL_law 422 = .ok (.ifCond .ne 26, 3) := by decide +kernel
theorem dL_law_425 : decode cL_law 425 = .ok (.aload_n 1, 1) := by decide +kernel
theorem dL_law_426 : decode cL_law 426 = .ok (.bipush 11, 2) := by decide +kernel
theorem dL_law_428 : decode cL_law 428 = .ok (.invokevirtual 12, 3) := by decide +kernel
theorem dL_law_431 : decode cL_law 431 = .ok (.iconst (-1), 1) := by decide +kernel
theorem dL_law_432 : decode cL_law 432 = .ok (.if_icmp .ne 16, 3) := by decide +kernel
theorem dL_law_435 : decode cL_law 435 = .ok (.aload_n 1, 1) := by decide +kernel
theorem dL_law_436 : decode cL_law 436 = .ok (.iconst 4, 1) := by decide +kernel
theorem dL_law_437 : decode cL_law 437 = .ok (.invokevirtual 83, 3) := by decide +kernel
theorem dL_law_440 : decode cL_law 440 = .ok (.iconst (-1), 1) := by decide +kernel
theorem dL_law_441 : decode cL_law 441 = .ok (.if_icmp .ne 7, 3) := by decide +kernel
theorem dL_law_444 : decode cL_law 444 = .ok (.iconst 1, 1) := by decide +kernel
theorem dL_law_445 : decode cL_law 445 = .ok (.goto 4, 3) := by decide +kernel
theorem dL_law_448 : decode cL_law 448 = .ok (.iconst 0, 1) := by decide +kernel
theorem dL_law_449 : decode cL_law 449 = .ok (.ireturn, 1) := by decide +kernel
