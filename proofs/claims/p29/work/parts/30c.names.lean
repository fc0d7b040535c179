theorem dL_act_147 : decode cL_act 147 = .ok (.iconst 1, 1) := by decide +kernel
theorem dL_act_148 : decode cL_act 148 = .ok (.iand, 1) := by decide +kernel
theorem dL_act_149 : decode cL_act 149 = .ok (.invokevirtual 40, 3) := by decide +kernel
theorem dL_act_152 : decode cL_act 152 = .ok (.ireturn, 1) := by decide +kernel
theorem dL_act_153 : decode cL_act 153 = .ok (.aload_n 0, 1) := by decide +kernel
theorem dL_act_154 : decode cL_act 154 = .ok (.iload_n 3, 1) := by decide +kernel
theorem dL_act_155 : decode cL_act 155 = .ok (.iconst 4, 1) := by decide +kernel
theorem dL_act_156 : decode cL_act 156 = .ok (.iload_n 1, 1) := by decide +kernel
theorem dL_act_157 : decode cL_act 157 = .ok (.bipush 6, 2) := by decide +kernel
theorem dL_act_159 : decode cL_act 159 = .ok (.ishr, 1) := by decide +kernel
theorem dL_act_160 : decode cL_act 160 = .ok (.bipush 15, 2) := by decide +kernel
theorem dL_act_162 : decode cL_act 162 = .ok (.iand, 1) := by decide +kernel
theorem dL_act_163 : decode cL_act 163 = .ok (.invokevirtual 40, 3) := by decide +kernel
theorem dL_act_166 : decode cL_act 166 = .ok (.ireturn, 1) := by decide +kernel
theorem dL_act_167 : decode cL_act 167 = .ok (.aload_n 0, 1) := by decide +kernel
theorem dL_act_168 : decode cL_act 168 = .ok (.iload 4, 2) := by decide +kernel
theorem dL_act_170 : decode cL_act 170 = .ok (.iload_n 1, 1) := by decide +kernel
theorem dL_act_171 : decode cL_act 171 = .ok (.bipush 9, 2) := by decide +kernel
theorem dL_act_173 : decode cL_act 173 = .ok (.ishr, 1) := by decide +kernel
theorem dL_act_174 : decode cL_act 174 = .ok (.iconst 1, 1) := by decide +kernel
theorem dL_act_175 : decode cL_act 175 = .ok (.iand, 1) := by decide +kernel
theorem dL_act_176 : decode cL_act 176 = .ok (.iload_n 1, 1) := by decide +kernel
theorem dL_act_177 : decode cL_act 177 = .ok (.bipush 9, 2) := by decide +kernel
theorem dL_act_179 : decode cL_act 179 = .ok (.ishr, 1) := by decide +kernel
theorem dL_act_180 : decode cL_act 180 = .ok (.iconst 1, 1) := by decide +kernel
theorem dL_act_181 : decode cL_act 181 = .ok (.iand, 1) := by decide +kernel
theorem dL_act_182 : decode cL_act 182 = .ok (.ifCond .ne 8, 3) := by decide +kernel
theorem dL_act_185 : decode cL_act 185 = .ok (.iload 5, 2) := by decide +kernel
theorem dL_act_187 : decode cL_act 187 = .ok (.goto 8, 3) := by decide +kernel
theorem dL_act_190 : decode cL_act 190 = .ok (.iload_n 1, 1) := by decide +kernel
theorem dL_act_191 : decode cL_act 191 = .ok (.iconst 4, 1) := by decide +kernel
theorem dL_act_192 : decode cL_act 192 = .ok (.ishr, 1) := by decide +kernel
theorem dL_act_193 : decode cL_act 193 = .ok (.iconst 1, 1) := by decide +kernel
theorem dL_act_194 : decode cL_act 194 = .ok (.iand, 1) := by decide +kernel
theorem dL_act_195 : decode cL_act 195 = .ok (.invokevirtual 43, 3) := by decide +kernel
theorem dL_act_198 : decode cL_act 198 = .ok (.ireturn, 1) := by decide +kernel
theorem dL_act_199 : decode cL_act 199 = .ok (.aload_n 0, 1) := by decide +kernel
theorem dL_act_200 : decode cL_act 200 = .ok (.iload 4, 2) := by decide +kernel
theorem dL_act_202 : decode cL_act 202 = .ok (.iload_n 3, 1) := by decide +kernel
theorem dL_act_203 : decode cL_act 203 = .ok (.iload 5, 2) := by decide +kernel
theorem dL_act_205 : decode cL_act 205 = .ok (.invokevirtual 46, 3) := by decide +kernel
theorem dL_act_208 : decode cL_act 208 = .ok (.ireturn, 1) := by decide +kernel
theorem dL_act_209 : decode cL_act 209 = .ok (.aload_n 0, 1) := by decide +kernel
theorem dL_act_210 : decode cL_act 210 = .ok (.iload 4, 2) := by decide +kernel
theorem dL_act_212 : decode cL_act 212 = .ok (.iload_n 3, 1) := by decide +kernel
theorem dL_act_213 : decode cL_act 213 = .ok (.iload_n 1, 1) := by decide +kernel
theorem dL_act_214 : decode cL_act 214 = .ok (.bipush 9, 2) := by decide +kernel
theorem dL_act_216 : decode cL_act 216 = .ok (.ishr, 1) := by decide +kernel
theorem dL_act_217 : decode cL_act 217 = .ok (.iconst 1, 1) := by decide +kernel
theorem dL_act_218 : decode cL_act 218 = .ok (.iand, 1) := by decide +kernel
theorem dL_act_219 : decode cL_act 219 = .ok (.invokevirtual 49, 3) := by decide +kernel
theorem dL_act_222 : decode cL_act 222 = .ok (.ireturn, 1) := by decide +kernel
theorem dL_act_223 : decode cL_act 223 = .ok (.aload_n 0, 1) := by decide +kernel
theorem dL_act_224 : decode cL_act 224 = .ok (.iload 4, 2) := by decide +kernel
theorem dL_act_226 : decode cL_act 226 = .ok (.iload_n 2, 1) := by decide +kernel
theorem dL_act_227 : decode cL_act 227 = .ok (.bipush 7, 2) := by decide +kernel
theorem dL_act_229 : decode cL_act 229 = .ok (.invokestatic 35, 3) := by decide +kernel
theorem dL_act_232 : decode cL_act 232 = .ok (.iconst 1, 1) := by decide +kernel
theorem dL_act_233 : decode cL_act 233 = .ok (.isub, 1) := by decide +kernel
theorem dL_act_234 : decode cL_act 234 = .ok (.invokevirtual 52, 3) := by decide +kernel
theorem dL_act_237 : decode cL_act 237 = .ok (.ireturn, 1) := by decide +kernel
theorem dL_act_238 : decode cL_act 238 = .ok (.aload_n 0, 1) := by decide +kernel
theorem dL_act_239 : decode cL_act 239 = .ok (.iload_n 2, 1) := by decide +kernel
theorem dL_act_240 : decode cL_act 240 = .ok (.iconst 3, 1) := by decide +kernel
theorem dL_act_241 : decode cL_act 241 = .ok (.invokestatic 35, 3) := by decide +kernel
theorem dL_act_244 : decode cL_act 244 = .ok (.invokevirtual 55, 3) := by decide +kernel
theorem dL_act_247 : decode cL_act 247 = .ok (.ireturn, 1) := by decide +kernel
theorem dL_act_248 : decode cL_act 248 = .ok (.aload_n 0, 1) := by decide +kernel
theorem dL_act_249 : decode cL_act 249 = .ok (.iload_n 2, 1) := by decide +kernel
theorem dL_act_250 : decode cL_act 250 = .ok (.iconst 3, 1) := by decide +kernel
theorem dL_act_251 : decode cL_act 251 = .ok (.invokestatic 35, 3) := by decide +kernel
theorem dL_act_254 : decode cL_act 254 = .ok (.iload_n 1, 1) := by decide +kernel
theorem dL_act_255 : decode cL_act 255 = .ok (.bipush 6, 2) := by decide +kernel
theorem dL_act_257 : decode cL_act 257 = .ok (.ishr, 1) := by decide +kernel
theorem dL_act_258 : decode cL_act 258 = .ok (.bipush 9, 2) := by decide +kernel
theorem dL_act_260 : decode cL_act 260 = .ok (.invokestatic 35, 3) := by decide +kernel
theorem dL_act_263 : decode cL_act 263 = .ok (.invokevirtual 58, 3) := by decide +kernel
theorem dL_act_266 : decode cL_act 266 = .ok (.ireturn, 1) := by decide +kernel
theorem dL_act_267 : decode cL_act 267 = .ok (.aload_n 0, 1) := by decide +kernel
theorem dL_act_268 : decode cL_act 268 = .ok (.invokevirtual 61, 3) := by decide +kernel
theorem dL_act_271 : decode cL_act 271 = .ok (.ireturn, 1) := by decide +kernel
theorem dL_act_272 : decode cL_act 272 = .ok (.aload_n 0, 1) := by decide +kernel
theorem dL_act_273 : decode cL_act 273 = .ok (.iconst 1, 1) := by decide +kernel
theorem dL_act_274 : decode cL_act 274 = .ok (.iload_n 2, 1) := by decide +kernel
theorem dL_act_275 : decode cL_act 275 = .ok (.bipush 9, 2) := by decide +kernel
theorem dL_act_277 : decode cL_act 277 = .ok (.invokestatic 35, 3) := by decide +kernel
theorem dL_act_280 : decode cL_act 280 = .ok (.iadd, 1) := by decide +kernel
theorem dL_act_281 : decode cL_act 281 = .ok (.invokevirtual 65, 3) := by decide +kernel
theorem dL_act_284 : decode cL_act 284 = .ok (.ireturn, 1) := by decide +kernel
set_option maxRecDepth 20000 in
theorem ggL_isRight_X5_channel : GoodIn wsL_isRight wsX5_channel := goodIn_r _ [5, 6, 7, 8, 9, 4, 10, 11, 12, 13, 14, 15, 16, 17, 18, 19, 20, 21, 22, 23, 24, 25, 26, 27, 28, 29, 30, 31, 32, 33, 34, 35, 36, 37, 38, 39, 40, 41, 42, 247, 248, 249, 250, 251, 252, 253, 254, 255, 256, 257, 258, 259, 260, 261, 262, 263, 264, 265, 266, 267, 268, 269, 270, 271, 272, 273, 274] (by decide +kernel) (by decide +kernel)
set_option maxRecDepth 20000 in
theorem gL_isRight_X5_channel : GoodIn wsL_isRight (wsV RL 18 RX5 yX5_channel wsX5_channel) := goodIn_app (goodIn_of _ (by decide +kernel)) ggL_isRight_X5_channel
set_option maxRecDepth 20000 in
theorem ggL_isRight_X5_why : GoodIn wsL_isRight wsX5_why := goodIn_r _ [46, 7, 8, 9, 4, 10, 23, 24, 25, 14, 26, 18, 17, 20, 21, 22, 27, 28, 29, 30, 31, 19, 47, 48, 247, 248, 249, 250, 251, 252, 253, 254, 255, 256, 257, 258, 259, 260, 261, 262, 263, 264, 265, 266, 267, 268, 269] (by decide +kernel) (by decide +kernel)
set_option maxRecDepth 20000 in
theorem gL_isRight_X5_why : GoodIn wsL_isRight (wsV RL 68 RX5 yX5_why wsX5_why) := goodIn_app (goodIn_of _ (by decide +kernel)) ggL_isRight_X5_why
set_option maxRecDepth 20000 in
theorem ggL_isRight_X5_count : GoodIn wsL_isRight wsX5_count := goodIn_r _ [52, 7, 53, 54, 55, 56, 57, 35, 58, 59, 60, 61, 62, 63, 64, 65, 66, 67, 68, 69, 14, 70, 71, 24, 25, 26, 18, 17, 20, 21, 4, 22, 27, 28, 29, 30, 31, 19, 247, 248, 249, 250, 251, 252, 253, 254, 255, 256, 257, 258, 259, 260, 261, 262, 263, 264, 265, 266, 267, 268, 269, 270, 271, 272, 273, 274, 275, 276, 277, 278, 279, 280] (by decide +kernel) (by decide +kernel)
set_option maxRecDepth 20000 in
theorem gL_isRight_X5_count : GoodIn wsL_isRight (wsV RL 12 RX5 yX5_count wsX5_count) := goodIn_app (goodIn_of _ (by decide +kernel)) ggL_isRight_X5_count
set_option maxRecDepth 20000 in
theorem ggL_isRight_X5_feed : GoodIn wsL_isRight wsX5_feed := goodIn_r _ [75, 7, 8, 9, 4, 10, 76, 77, 78, 14, 79, 80, 81, 82, 83, 71, 24, 25, 26, 18, 17, 20, 21, 22, 27, 28, 29, 30, 31, 19, 84, 85, 86, 87, 88, 89, 90, 91, 247, 248, 249, 250, 251, 252, 253, 254, 255, 256, 257, 258, 259, 260, 261, 262, 263, 264, 265, 266, 267, 268, 269] (by decide +kernel) (by decide +kernel)
set_option maxRecDepth 20000 in
theorem gL_isRight_X5_feed : GoodIn wsL_isRight (wsV RL 25 RX5 yX5_feed wsX5_feed) := goodIn_app (goodIn_of _ (by decide +kernel)) ggL_isRight_X5_feed
set_option maxRecDepth 20000 in
theorem ggL_isRight_X5_send : GoodIn wsL_isRight wsX5_send := goodIn_r _ [95, 7, 8, 9, 4, 10, 96, 90, 91, 97, 81, 82, 14, 83, 71, 24, 25, 26, 18, 17, 20, 21, 22, 27, 28, 29, 30, 31, 19, 84, 85, 86, 87, 88, 89, 247, 248, 249, 250, 251, 252, 253, 254, 255, 256, 257, 258, 259, 260, 261, 262, 263, 264, 265, 266, 267, 268, 269] (by decide +kernel) (by decide +kernel)
set_option maxRecDepth 20000 in
theorem gL_isRight_X5_send : GoodIn wsL_isRight (wsV RL 28 RX5 yX5_send wsX5_send) := goodIn_app (goodIn_of _ (by decide +kernel)) ggL_isRight_X5_send
set_option maxRecDepth 20000 in
theorem ggL_isRight_X5_path : GoodIn wsL_isRight wsX5_path := goodIn_r _ [101, 102, 8, 9, 4, 10, 103, 104, 105, 106, 107, 108, 109, 110, 81, 82, 14, 83, 71, 24, 25, 26, 18, 17, 20, 21, 22, 27, 28, 29, 30, 31, 19, 84, 85, 86, 87, 88, 89, 90, 91, 111, 112, 113, 114, 115, 116, 117, 118, 119, 120, 121, 122, 123, 247, 248, 249, 250, 251, 281, 282, 283, 284, 252, 253, 254, 255, 256, 257, 258, 259, 260, 261, 262, 263, 264, 265, 266, 267, 268, 269] (by decide +kernel) (by decide +kernel)
set_option maxRecDepth 20000 in
theorem gL_isRight_X5_path : GoodIn wsL_isRight (wsV RL 71 RX5 yX5_path wsX5_path) := goodIn_app (goodIn_of _ (by decide +kernel)) ggL_isRight_X5_path
set_option maxRecDepth 20000 in
theorem ggL_isRight_X5_loudest : GoodIn wsL_isRight wsX5_loudest := goodIn_r _ [127, 102, 8, 9, 4, 10, 128, 129, 130, 106, 131, 132, 109, 133, 134, 135, 136, 137, 138, 139, 140, 110, 81, 82, 14, 83, 71, 24, 25, 26, 18, 17, 20, 21, 22, 27, 28, 29, 30, 31, 19, 84, 85, 86, 87, 88, 89, 90, 91, 247, 248, 249, 250, 251, 281, 282, 283, 284, 252, 253, 254, 255, 256, 257, 258, 259, 260, 261, 262, 263, 264, 265, 266, 267, 268, 269] (by decide +kernel) (by decide +kernel)
set_option maxRecDepth 20000 in
theorem gL_isRight_X5_loudest : GoodIn wsL_isRight (wsV RL 74 RX5 yX5_loudest wsX5_loudest) := goodIn_app (goodIn_of _ (by decide +kernel)) ggL_isRight_X5_loudest
set_option maxRecDepth 20000 in
theorem ggL_isRight_X5_hearers : GoodIn wsL_isRight wsX5_hearers := goodIn_r _ [144, 102, 8, 9, 4, 10, 103, 104, 105, 106, 107, 108, 109, 110, 81, 82, 14, 83, 71, 24, 25, 26, 18, 17, 20, 21, 22, 27, 28, 29, 30, 31, 19, 84, 85, 86, 87, 88, 89, 90, 91, 145, 146, 147, 148, 149, 150, 151, 152, 247, 248, 249, 250, 251, 281, 282, 283, 284, 252, 253, 254, 255, 256, 257, 258, 259, 260, 261, 262, 263, 264, 265, 266, 267, 268, 269] (by decide +kernel) (by decide +kernel)
set_option maxRecDepth 20000 in
theorem gL_isRight_X5_hearers : GoodIn wsL_isRight (wsV RL 77 RX5 yX5_hearers wsX5_hearers) := goodIn_app (goodIn_of _ (by decide +kernel)) ggL_isRight_X5_hearers
set_option maxRecDepth 20000 in
theorem ggL_isRight_X5_loops : GoodIn wsL_isRight wsX5_loops := goodIn_r _ [156, 102, 103, 104, 105, 106, 107, 108, 109, 110, 81, 82, 14, 83, 71, 24, 25, 26, 18, 17, 20, 21, 4, 22, 27, 28, 29, 30, 31, 19, 84, 85, 86, 87, 88, 89, 90, 91, 157, 158, 159, 160, 149, 150, 151, 152, 247, 248, 249, 250, 251, 281, 282, 283, 284, 252, 253, 254, 255, 256, 257, 258, 259, 260, 261, 262, 263, 264, 265, 266, 267, 268, 269] (by decide +kernel) (by decide +kernel)
set_option maxRecDepth 20000 in
theorem gL_isRight_X5_loops : GoodIn wsL_isRight (wsV RL 80 RX5 yX5_loops wsX5_loops) := goodIn_app (goodIn_of _ (by decide +kernel)) ggL_isRight_X5_loops
set_option maxRecDepth 20000 in
theorem ggL_isRight_X5_cut : GoodIn wsL_isRight wsX5_cut := goodIn_r _ [164, 102, 8, 9, 4, 10, 103, 104, 105, 106, 107, 108, 109, 110, 81, 82, 14, 83, 71, 24, 25, 26, 18, 17, 20, 21, 22, 27, 28, 29, 30, 31, 19, 84, 85, 86, 87, 88, 89, 90, 91, 145, 146, 147, 148, 149, 150, 151, 152, 165, 166, 167, 168, 169, 170, 171, 172, 173, 174, 175, 247, 248, 249, 250, 251, 281, 282, 283, 284, 252, 253, 254, 255, 256, 257, 258, 259, 260, 261, 262, 263, 264, 265, 266, 267, 268, 269] (by decide +kernel) (by decide +kernel)
set_option maxRecDepth 20000 in
theorem gL_isRight_X5_cut : GoodIn wsL_isRight (wsV RL 83 RX5 yX5_cut wsX5_cut) := goodIn_app (goodIn_of _ (by decide +kernel)) ggL_isRight_X5_cut
set_option maxRecDepth 20000 in
theorem ggL_isRight_X5_outputIn : GoodIn wsL_isRight wsX5_outputIn := goodIn_r _ [179, 180, 7, 8, 9, 4, 10, 181, 182, 183, 184, 185, 186, 14, 187, 16, 188, 189, 190, 191, 17, 20, 18, 19, 31, 89, 88, 42, 192, 193, 194, 195, 196, 197, 198, 199, 200, 201, 202, 203, 35, 204, 205, 206, 59, 37, 207, 208, 209, 210, 211, 212, 213, 56, 57, 58, 214, 215, 216, 217, 218, 33, 34, 36, 21, 22, 219, 220, 221, 222, 223, 224, 225, 226, 227, 228, 229, 230, 231, 232, 233, 234, 235, 236, 139, 237, 238, 239, 240, 241, 242, 138, 140, 71, 24, 25, 26, 27, 28, 29, 30, 84, 85, 86, 87, 90, 91, 243, 244, 245, 246, 247, 248, 249, 250, 251, 252, 253, 254, 255, 256, 257, 258, 259, 260, 261, 262, 263, 264, 265, 266, 267, 268, 269, 270, 271, 272, 273, 274] (by decide +kernel) (by decide +kernel)
set_option maxRecDepth 20000 in
theorem gL_isRight_X5_outputIn : GoodIn wsL_isRight (wsV RL 86 RX5 yX5_outputIn wsX5_outputIn) := goodIn_app (goodIn_of _ (by decide +kernel)) ggL_isRight_X5_outputIn
theorem dL_isRight_0 : decode cL_isRight 0 = .ok (.iconst 0, 1) := by decide +kernel
theorem dL_isRight_1 : decode cL_isRight 1 = .ok (.istore_n 1, 1) := by decide +kernel
theorem dL_isRight_2 : decode cL_isRight 2 = .ok (.iconst 0, 1) := by decide +kernel
theorem dL_isRight_3 : decode cL_isRight 3 = .ok (.istore_n 2, 1) := by decide +kernel
theorem dL_isRight_4 : decode cL_isRight 4 = .ok (.iload_n 2, 1) := by decide +kernel
theorem dL_isRight_5 : decode cL_isRight 5 = .ok (.bipush 12, 2) := by decide +kernel
theorem dL_isRight_7 : decode cL_isRight 7 = .ok (.if_icmp .ge 467, 3) := by decide +kernel
theorem dL_isRight_10 : decode cL_isRight 10 = .ok (.aload_n 0, 1) := by decide +kernel
theorem dL_isRight_11 : decode cL_isRight 11 = .ok (.iload_n 2, 1) := by decide +kernel
theorem dL_isRight_12 : decode cL_isRight 12 = .ok (.iconst 5, 1) := by decide +kernel
theorem dL_isRight_13 : decode cL_isRight 13 = .ok (.invokevirtual 18, 3) := by decide +kernel
theorem dL_isRight_16 : decode cL_isRight 16 = .ok (.istore_n 3, 1) := by decide +kernel
theorem dL_isRight_17 : decode cL_isRight 17 = .ok (.aload_n 0, 1) := by decide +kernel
theorem dL_isRight_18 : decode cL_isRight 18 = .ok (.iload_n 2, 1) := by decide +kernel
theorem dL_isRight_19 : decode cL_isRight 19 = .ok (.invokevirtual 68, 3) := by decide +kernel
theorem dL_isRight_22 : decode cL_isRight 22 = .ok (.istore 4, 2) := by decide +kernel
theorem dL_isRight_24 : decode cL_isRight 24 = .ok (.iload_n 1, 1) := by decide +kernel
theorem dL_isRight_25 : decode cL_isRight 25 = .ok (.iload_n 3, 1) := by decide +kernel
theorem dL_isRight_26 : decode cL_isRight 26 = .ok (.ifCond .le 9, 3) := by decide +kernel
theorem dL_isRight_29 : decode cL_isRight 29 = .ok (.iconst 1, 1) := by decide +kernel
theorem dL_isRight_30 : decode cL_isRight 30 = .ok (.iload_n 2, 1) := by decide +kernel
theorem dL_isRight_31 : decode cL_isRight 31 = .ok (.ishl, 1) := by decide +kernel
theorem dL_isRight_32 : decode cL_isRight 32 = .ok (.goto 4, 3) := by decide +kernel
theorem dL_isRight_35 : decode cL_isRight 35 = .ok (.iconst 0, 1) := by decide +kernel
theorem dL_isRight_36 : decode cL_isRight 36 = .ok (.ior, 1) := by decide +kernel
theorem dL_isRight_37 : decode cL_isRight 37 = .ok (.istore_n 1, 1) := by decide +kernel
theorem dL_isRight_38 : decode cL_isRight 38 = .ok (.aload_n 0, 1) := by decide +kernel
theorem dL_isRight_39 : decode cL_isRight 39 = .ok (.iload_n 2, 1) := by decide +kernel
theorem dL_isRight_40 : decode cL_isRight 40 = .ok (.bipush 8, 2) := by decide +kernel
theorem dL_isRight_42 : decode cL_isRight 42 = .ok (.invokevirtual 18, 3) := by decide +kernel
theorem dL_isRight_45 : decode cL_isRight 45 = .ok (.istore 5, 2) := by decide +kernel
theorem dL_isRight_47 : decode cL_isRight 47 = .ok (.iload_n 3, 1) := by decide +kernel
theorem dL_isRight_48 : decode cL_isRight 48 = .ok (.ifCond .lt 133, 3) := by decide +kernel
theorem dL_isRight_51 : decode cL_isRight 51 = .ok (.iload_n 3, 1) := by decide +kernel
theorem dL_isRight_52 : decode cL_isRight 52 = .ok (.aload_n 0, 1) := by decide +kernel
theorem dL_isRight_53 : decode cL_isRight 53 = .ok (.iload_n 2, 1) := by decide +kernel
theorem dL_isRight_54 : decode cL_isRight 54 = .ok (.iconst 1, 1) := by decide +kernel
theorem dL_isRight_55 : decode cL_isRight 55 = .ok (.invokevirtual 18, 3) := by decide +kernel
theorem dL_isRight_58 : decode cL_isRight 58 = .ok (.if_icmp .gt 123, 3) := by decide +kernel
theorem dL_isRight_61 : decode cL_isRight 61 = .ok (.iload 4, 2) := by decide +kernel
theorem dL_isRight_63 : decode cL_isRight 63 = .ok (.ifCond .ne 7, 3) := by decide +kernel
theorem dL_isRight_66 : decode cL_isRight 66 = .ok (.iconst 1, 1) := by decide +kernel
theorem dL_isRight_67 : decode cL_isRight 67 = .ok (.goto 4, 3) := by decide +kernel
theorem dL_isRight_70 : decode cL_isRight 70 = .ok (.iconst 0, 1) := by decide +kernel
theorem dL_isRight_71 : decode cL_isRight 71 = .ok (.iload_n 3, 1) := by decide +kernel
theorem dL_isRight_72 : decode cL_isRight 72 = .ok (.ifCond .le 7, 3) := by decide +kernel
theorem dL_isRight_75 : decode cL_isRight 75 = .ok (.iconst 1, 1) := by decide +kernel
theorem dL_isRight_76 : decode cL_isRight 76 = .ok (.goto 4, 3) := by decide +kernel
theorem dL_isRight_79 : decode cL_isRight 79 = .ok (.iconst 0, 1) := by decide +kernel
theorem dL_isRight_80 : decode cL_isRight 80 = .ok (.if_icmp .ne 101, 3) := by decide +kernel
theorem dL_isRight_83 : decode cL_isRight 83 = .ok (.iload 4, 2) := by decide +kernel
theorem dL_isRight_85 : decode cL_isRight 85 = .ok (.iconst 1, 1) := by decide +kernel
theorem dL_isRight_86 : decode cL_isRight 86 = .ok (.if_icmp .ne 7, 3) := by decide +kernel
theorem dL_isRight_89 : decode cL_isRight 89 = .ok (.iconst 1, 1) := by decide +kernel
theorem dL_isRight_90 : decode cL_isRight 90 = .ok (.goto 4, 3) := by decide +kernel
theorem dL_isRight_93 : decode cL_isRight 93 = .ok (.iconst 0, 1) := by decide +kernel
theorem dL_isRight_94 : decode cL_isRight 94 = .ok (.aload_n 0, 1) := by decide +kernel
theorem dL_isRight_95 : decode cL_isRight 95 = .ok (.iload_n 2, 1) := by decide +kernel
theorem dL_isRight_96 : decode cL_isRight 96 = .ok (.iconst 2, 1) := by decide +kernel
theorem dL_isRight_97 : decode cL_isRight 97 = .ok (.invokevirtual 18, 3) := by decide +kernel
theorem dL_isRight_100 : decode cL_isRight 100 = .ok (.iconst 1, 1) := by decide +kernel
theorem dL_isRight_101 : decode cL_isRight 101 = .ok (.if_icmp .ne 7, 3) := by decide +kernel
theorem dL_isRight_104 : decode cL_isRight 104 = .ok (.iconst 1, 1) := by decide +kernel
theorem dL_isRight_105 : decode cL_isRight 105 = .ok (.goto 4, 3) := by decide +kernel
theorem dL_isRight_108 : decode cL_isRight 108 = .ok (.iconst 0, 1) := by decide +kernel
theorem dL_isRight_109 : decode cL_isRight 109 = .ok (.if_icmp .ne 72, 3) := by decide +kernel
theorem dL_isRight_112 : decode cL_isRight 112 = .ok (.iload 4, 2) := by decide +kernel
theorem dL_isRight_114 : decode cL_isRight 114 = .ok (.iconst 3, 1) := by decide +kernel
theorem dL_isRight_115 : decode cL_isRight 115 = .ok (.if_icmp .ne 12, 3) := by decide +kernel
theorem dL_isRight_118 : decode cL_isRight 118 = .ok (.aload_n 0, 1) := by decide +kernel
theorem dL_isRight_119 : decode cL_isRight 119 = .ok (.iload_n 2, 1) := by decide +kernel
theorem dL_isRight_120 : decode cL_isRight 120 = .ok (.iconst 1, 1) := by decide +kernel
theorem dL_isRight_121 : decode cL_isRight 121 = .ok (.invokevirtual 18, 3) := by decide +kernel
theorem dL_isRight_124 : decode cL_isRight 124 = .ok (.ifCond .ne 57, 3) := by decide +kernel
theorem dL_isRight_127 : decode cL_isRight 127 = .ok (.iload 4, 2) := by decide +kernel
theorem dL_isRight_129 : decode cL_isRight 129 = .ok (.iconst 2, 1) := by decide +kernel
theorem dL_isRight_130 : decode cL_isRight 130 = .ok (.if_icmp .ne 12, 3) := by decide +kernel
theorem dL_isRight_133 : decode cL_isRight 133 = .ok (.aload_n 0, 1) := by decide +kernel
theorem dL_isRight_134 : decode cL_isRight 134 = .ok (.bipush 7, 2) := by decide +kernel
theorem dL_isRight_136 : decode cL_isRight 136 = .ok (.invokevirtual 12, 3) := by decide +kernel
theorem dL_isRight_139 : decode cL_isRight 139 = .ok (.ifCond .eq 42, 3) := by decide +kernel
theorem dL_isRight_142 : decode cL_isRight 142 = .ok (.iload 5, 2) := by decide +kernel
theorem dL_isRight_144 : decode cL_isRight 144 = .ok (.ifCond .lt 14, 3) := by decide +kernel
theorem dL_isRight_147 : decode cL_isRight 147 = .ok (.aload_n 0, 1) := by decide +kernel
theorem dL_isRight_148 : decode cL_isRight 148 = .ok (.iload 5, 2) := by decide +kernel
theorem dL_isRight_150 : decode cL_isRight 150 = .ok (.iconst 1, 1) := by decide +kernel
theorem dL_isRight_151 : decode cL_isRight 151 = .ok (.invokevirtual 25, 3) := by decide +kernel
theorem dL_isRight_154 : decode cL_isRight 154 = .ok (.iload_n 2, 1) := by decide +kernel
theorem dL_isRight_155 : decode cL_isRight 155 = .ok (.if_icmp .ne 26, 3) := by decide +kernel
theorem dL_isRight_158 : decode cL_isRight 158 = .ok (.aload_n 0, 1) := by decide +kernel
theorem dL_isRight_159 : decode cL_isRight 159 = .ok (.iload_n 2, 1) := by decide +kernel
theorem dL_isRight_160 : decode cL_isRight 160 = .ok (.bipush 6, 2) := by decide +kernel
theorem dL_isRight_162 : decode cL_isRight 162 = .ok (.invokevirtual 18, 3) := by decide +kernel
theorem dL_isRight_165 : decode cL_isRight 165 = .ok (.ifCond .lt 16, 3) := by decide +kernel
theorem dL_isRight_168 : decode cL_isRight 168 = .ok (.aload_n 0, 1) := by decide +kernel
theorem dL_isRight_169 : decode cL_isRight 169 = .ok (.iload_n 2, 1) := by decide +kernel
theorem dL_isRight_170 : decode cL_isRight 170 = .ok (.bipush 6, 2) := by decide +kernel
theorem dL_isRight_172 : decode cL_isRight 172 = .ok (.invokevirtual 18, 3) := by decide +kernel
theorem dL_isRight_175 : decode cL_isRight 175 = .ok (.sipush 9999, 3) := by decide +kernel
theorem dL_isRight_178 : decode cL_isRight 178 = .ok (.if_icmp .le 5, 3) := by decide +kernel
theorem dL_isRight_181 : decode cL_isRight 181 = .ok (.iconst 0, 1) := by decide +kernel
theorem dL_isRight_182 : decode cL_isRight 182 = .ok (.ireturn, 1) := by decide +kernel
theorem dL_isRight_183 : decode cL_isRight 183 = .ok (.iconst 0, 1) := by decide +kernel
theorem dL_isRight_184 : decode cL_isRight 184 = .ok (.istore 6, 2) := by decide +kernel
theorem dL_isRight_186 : decode cL_isRight 186 = .ok (.iload 6, 2) := by decide +kernel
theorem dL_isRight_188 : decode cL_isRight 188 = .ok (.iconst 4, 1) := by decide +kernel
theorem dL_isRight_189 : decode cL_isRight 189 = .ok (.if_icmp .ge 279, 3) := by decide +kernel
theorem dL_isRight_192 : decode cL_isRight 192 = .ok (.aload_n 0, 1) := by decide +kernel
theorem dL_isRight_193 : decode cL_isRight 193 = .ok (.iload 6, 2) := by decide +kernel
theorem dL_isRight_195 : decode cL_isRight 195 = .ok (.iload_n 2, 1) := by decide +kernel
theorem dL_isRight_196 : decode cL_isRight 196 = .ok (.iconst 1, 1) := by decide +kernel
theorem dL_isRight_197 : decode cL_isRight 197 = .ok (.invokevirtual 28, 3) := by decide +kernel
theorem dL_isRight_200 : decode cL_isRight 200 = .ok (.istore 7, 2) := by decide +kernel
theorem dL_isRight_202 : decode cL_isRight 202 = .ok (.aload_n 0, 1) := by decide +kernel
theorem dL_isRight_203 : decode cL_isRight 203 = .ok (.iload_n 2, 1) := by decide +kernel
theorem dL_isRight_204 : decode cL_isRight 204 = .ok (.iload 6, 2) := by decide +kernel
theorem dL_isRight_206 : decode cL_isRight 206 = .ok (.iconst (-1), 1) := by decide +kernel
theorem dL_isRight_207 : decode cL_isRight 207 = .ok (.invokevirtual 71, 3) := by decide +kernel
theorem dL_isRight_210 : decode cL_isRight 210 = .ok (.istore 8, 2) := by decide +kernel
theorem dL_isRight_212 : decode cL_isRight 212 = .ok (.aload_n 0, 1) := by decide +kernel
theorem dL_isRight_213 : decode cL_isRight 213 = .ok (.iload_n 2, 1) := by decide +kernel
theorem dL_isRight_214 : decode cL_isRight 214 = .ok (.iload 6, 2) := by decide +kernel
theorem dL_isRight_216 : decode cL_isRight 216 = .ok (.invokevirtual 74, 3) := by decide +kernel
theorem dL_isRight_219 : decode cL_isRight 219 = .ok (.istore 9, 2) := by decide +kernel
theorem dL_isRight_221 : decode cL_isRight 221 = .ok (.aload_n 0, 1) := by decide +kernel
theorem dL_isRight_222 : decode cL_isRight 222 = .ok (.iload 6, 2) := by decide +kernel
theorem dL_isRight_224 : decode cL_isRight 224 = .ok (.iconst 0, 1) := by decide +kernel
