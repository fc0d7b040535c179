set_option maxRecDepth 20000 in
theorem ggL_law_L_low : GoodIn wsL_law wsL_low := goodIn_r _ [176, 177] (by decide +kernel) (by decide +kernel)
set_option maxRecDepth 20000 in
theorem gL_law_L_low : GoodIn wsL_law (va_wsS RL 35 yL_low wsL_low) := goodIn_app (goodIn_of _ (by decide +kernel)) ggL_law_L_low
set_option maxRecDepth 20000 in
theorem ggL_law_X5_outputIn : GoodIn wsL_law wsX5_outputIn := goodIn_r _ [181, 13, 12, 115, 116, 2, 117, 182, 183, 184, 185, 186, 187, 11, 188, 31, 189, 190, 191, 192, 32, 33, 101, 109, 108, 34, 35, 36, 37, 38, 193, 194, 195, 196, 39, 197, 43, 198, 199, 200, 42, 201, 202, 203, 85, 127, 47, 204, 205, 206, 207, 208, 209, 82, 83, 84, 210, 211, 212, 213, 214, 124, 125, 126, 102, 103, 215, 216, 217, 218, 219, 220, 221, 222, 223, 224, 225, 226, 227, 228, 229, 230, 231, 232, 233, 234, 235, 236, 237, 238, 239, 240, 241, 97, 98, 99, 100, 104, 105, 106, 107, 157, 158, 159, 160, 161, 162, 242, 243, 244, 245, 544, 545, 546, 547, 548, 549, 550, 551, 552, 553, 554, 555, 556, 557, 558, 559, 560, 561, 562, 563, 564, 565, 566, 577, 578, 579, 580, 581] (by decide +kernel) (by decide +kernel)
set_option maxRecDepth 20000 in
theorem gL_law_X5_outputIn : GoodIn wsL_law (wsV RL 86 RX5 yX5_outputIn wsX5_outputIn) := goodIn_app (goodIn_of _ (by decide +kernel)) ggL_law_X5_outputIn
set_option maxRecDepth 20000 in
theorem ggL_law_X5_count : GoodIn wsL_law wsX5_count := goodIn_r _ [80, 12, 17, 25, 81, 82, 83, 42, 84, 85, 86, 87, 88, 89, 90, 91, 92, 93, 94, 95, 11, 96, 97, 98, 99, 100, 101, 32, 33, 102, 2, 103, 104, 105, 106, 107, 108, 109, 544, 545, 546, 547, 548, 549, 550, 551, 552, 553, 554, 555, 556, 557, 558, 559, 560, 561, 562, 563, 564, 565, 566, 577, 578, 579, 580, 581, 567, 568, 569, 574, 575, 576] (by decide +kernel) (by decide +kernel)
set_option maxRecDepth 20000 in
theorem gL_law_X5_count : GoodIn wsL_law (wsV RL 12 RX5 yX5_count wsX5_count) := goodIn_app (goodIn_of _ (by decide +kernel)) ggL_law_X5_count
set_option maxRecDepth 20000 in
theorem giL_law_L_act_0 : GoodIn wsL_law (.code yL_act cL_act 6 (some .int) :: wsL_act_r1) := goodIn_r _ [248, 174, 175, 70, 176, 177, 249, 250, 251, 2, 252, 114, 17, 12, 115, 116, 117, 182, 183, 184, 253, 254, 255, 16, 256] (by decide +kernel) (by decide +kernel)
set_option maxRecDepth 20000 in
theorem giL_law_L_act_1 : GoodIn wsL_law (wsL_act_r2) := goodIn_r _ [53, 257, 258, 259, 232, 233, 234, 260, 186, 187, 11, 188, 31, 189, 190, 191, 192, 32, 33, 101, 109, 108, 34, 35] (by decide +kernel) (by decide +kernel)
set_option maxRecDepth 20000 in
theorem giL_law_L_act_2 : GoodIn wsL_law (wsL_act_r3) := goodIn_r _ [36, 37, 38, 193, 194, 195, 196, 39, 197, 43, 198, 199, 200, 42, 201, 202, 203, 85, 127, 47, 204, 118, 119, 120] (by decide +kernel) (by decide +kernel)
set_option maxRecDepth 20000 in
theorem giL_law_L_act_3 : GoodIn wsL_law (wsL_act_r4) := goodIn_r _ [121, 102, 103, 261, 262, 263, 264, 265, 266, 267, 268, 269, 270, 271, 82, 83, 84, 272, 273, 274, 275, 136, 137, 138] (by decide +kernel) (by decide +kernel)
set_option maxRecDepth 20000 in
theorem giL_law_L_act_4 : GoodIn wsL_law (wsL_act_r5) := goodIn_r _ [139, 140, 276, 277, 278, 279, 280, 281, 282, 283, 167, 161, 162, 284, 285, 286, 287, 288, 86, 87, 88, 89, 90, 91] (by decide +kernel) (by decide +kernel)
set_option maxRecDepth 20000 in
theorem giL_law_L_act_5 : GoodIn wsL_law (wsL_act_r6) := goodIn_r _ [92, 289, 290, 291, 292, 128, 129, 130, 131, 293, 294, 295, 296, 297, 298, 299, 300, 301, 302, 303, 304, 173, 305, 306] (by decide +kernel) (by decide +kernel)
set_option maxRecDepth 20000 in
theorem giL_law_L_act_6 : GoodIn wsL_law (wsL_act_r7) := goodIn_r _ [307, 308, 309, 310, 311, 312, 313, 314, 315, 316, 223, 224, 225, 226, 317, 318, 319, 320, 321, 322, 323, 324, 205, 206] (by decide +kernel) (by decide +kernel)
set_option maxRecDepth 20000 in
theorem giL_law_L_act_7 : GoodIn wsL_law (wsL_act_r8) := goodIn_r _ [207, 208, 209, 210, 211, 212, 213, 214, 124, 125, 126, 215, 216, 217, 218, 219, 220, 221, 222, 227, 228, 229, 230, 231] (by decide +kernel) (by decide +kernel)
set_option maxRecDepth 20000 in
theorem giL_law_L_act_8 : GoodIn wsL_law (wsL_act_r9) := goodIn_r _ [235, 236, 237, 238, 239, 240, 241, 97, 98, 99, 100, 104, 105, 106, 107, 157, 158, 159, 160, 242, 243, 244, 245] (by decide +kernel) (by decide +kernel)
set_option maxRecDepth 20000 in
theorem giL_law_L_act_9 : GoodIn wsL_law (wsX50) := goodIn_r _ [544, 545, 546, 547, 548] (by decide +kernel) (by decide +kernel)
set_option maxRecDepth 20000 in
theorem giL_law_L_act_10 : GoodIn wsL_law (wsX10) := goodIn_r _ [567, 568, 569] (by decide +kernel) (by decide +kernel)
set_option maxRecDepth 20000 in
theorem giL_law_L_act_11 : GoodIn wsL_law (wsX40) := goodIn_r _ [549, 550, 551, 552, 553, 554, 555, 556, 557, 558, 559, 560, 561, 562, 563, 564, 565, 566] (by decide +kernel) (by decide +kernel)
set_option maxRecDepth 20000 in
theorem giL_law_L_act_12 : GoodIn wsL_law (wsX00) := goodIn_r _ [577, 578, 579, 580, 581] (by decide +kernel) (by decide +kernel)
set_option maxRecDepth 20000 in
theorem ggL_law_L_act : GoodIn wsL_law wsL_act := (goodIn_ca (goodIn_ca (goodIn_ca (goodIn_ca (goodIn_ca giL_law_L_act_0 (goodIn_app giL_law_L_act_1 (goodIn_app giL_law_L_act_2 (goodIn_app giL_law_L_act_3 (goodIn_app giL_law_L_act_4 (goodIn_app giL_law_L_act_5 (goodIn_app giL_law_L_act_6 (goodIn_app giL_law_L_act_7 giL_law_L_act_8)))))))) giL_law_L_act_9) giL_law_L_act_10) giL_law_L_act_11) giL_law_L_act_12)
set_option maxRecDepth 20000 in
theorem gL_law_L_act : GoodIn wsL_law (va_wsS RL 98 yL_act wsL_act) := goodIn_app (goodIn_of _ (by decide +kernel)) ggL_law_L_act
set_option maxRecDepth 20000 in
theorem giL_law_L_isRight_0 : GoodIn wsL_law (.code yL_isRight cL_isRight 11 (some .boolean) :: wsL_isRight_r1) := goodIn_r _ [327, 110, 111, 112, 2, 113, 114, 12, 115, 116, 117, 118, 119, 120, 11, 121, 31, 32, 101, 109, 33, 102, 103, 122, 98] (by decide +kernel) (by decide +kernel)
set_option maxRecDepth 20000 in
theorem giL_law_L_isRight_1 : GoodIn wsL_law (wsL_isRight_r2) := goodIn_r _ [99, 100, 104, 105, 106, 107, 108, 123, 124, 125, 42, 126, 127, 128, 129, 130, 131, 36, 328, 329, 330, 331, 173, 332] (by decide +kernel) (by decide +kernel)
set_option maxRecDepth 20000 in
theorem giL_law_L_isRight_2 : GoodIn wsL_law (wsL_isRight_r3) := goodIn_r _ [77, 78, 79, 80, 17, 25, 81, 82, 83, 84, 85, 86, 87, 88, 89, 90, 91, 92, 93, 94, 95, 96, 97, 145] (by decide +kernel) (by decide +kernel)
set_option maxRecDepth 20000 in
theorem giL_law_L_isRight_3 : GoodIn wsL_law (wsL_isRight_r4) := goodIn_r _ [146, 147, 148, 149, 150, 151, 152, 153, 154, 155, 156, 157, 158, 159, 160, 35, 34, 161, 162, 163, 164, 165, 166, 167] (by decide +kernel) (by decide +kernel)
set_option maxRecDepth 20000 in
theorem giL_law_L_isRight_4 : GoodIn wsL_law (wsL_isRight_r5) := goodIn_r _ [168, 333, 334, 335, 336, 21, 337, 338, 339, 20, 340, 59, 62, 341, 342, 343, 344, 345, 60, 346, 347, 348, 349, 350] (by decide +kernel) (by decide +kernel)
set_option maxRecDepth 20000 in
theorem giL_law_L_isRight_5 : GoodIn wsL_law (wsL_isRight_r6) := goodIn_r _ [351, 352, 353, 354, 355, 356, 357, 358, 359, 360, 361, 61, 362, 363, 364, 365, 366, 240, 233, 241, 367, 368, 369, 370] (by decide +kernel) (by decide +kernel)
set_option maxRecDepth 20000 in
theorem giL_law_L_isRight_6 : GoodIn wsL_law (wsL_isRight_r7) := goodIn_r _ [371, 372, 373, 374, 375, 376, 377, 378, 379, 380, 381, 382, 383, 384, 385, 386, 387, 388, 389, 390, 391, 392, 393, 394] (by decide +kernel) (by decide +kernel)
set_option maxRecDepth 20000 in
theorem giL_law_L_isRight_7 : GoodIn wsL_law (wsL_isRight_r8) := goodIn_r _ [395, 396, 397, 398, 265, 266, 399, 178, 179, 180, 181, 13, 182, 183, 184, 185, 186, 187, 188, 189, 190, 191, 192, 37] (by decide +kernel) (by decide +kernel)
set_option maxRecDepth 20000 in
theorem giL_law_L_isRight_8 : GoodIn wsL_law (wsL_isRight_r9) := goodIn_r _ [38, 193, 194, 195, 196, 39, 197, 43, 198, 199, 200, 201, 202, 203, 47, 204, 205, 206, 207, 208, 209, 210, 211, 212] (by decide +kernel) (by decide +kernel)
set_option maxRecDepth 20000 in
theorem giL_law_L_isRight_9 : GoodIn wsL_law (wsL_isRight_r10) := goodIn_r _ [213, 214, 215, 216, 217, 218, 219, 220, 221, 222, 223, 224, 225, 226, 227, 228, 229, 230, 231, 232, 234, 235, 236, 237] (by decide +kernel) (by decide +kernel)
set_option maxRecDepth 20000 in
theorem giL_law_L_isRight_10 : GoodIn wsL_law (wsL_isRight_r11) := goodIn_r _ [238, 239, 242, 243, 244, 245] (by decide +kernel) (by decide +kernel)
set_option maxRecDepth 20000 in
theorem giL_law_L_isRight_11 : GoodIn wsL_law (wsX50) := goodIn_r _ [544, 545, 546, 547, 548] (by decide +kernel) (by decide +kernel)
set_option maxRecDepth 20000 in
theorem giL_law_L_isRight_12 : GoodIn wsL_law (wsX40) := goodIn_r _ [549, 550, 551, 552, 553, 554, 555, 556, 557, 558, 559, 560, 561, 562, 563, 564, 565, 566] (by decide +kernel) (by decide +kernel)
set_option maxRecDepth 20000 in
theorem giL_law_L_isRight_13 : GoodIn wsL_law (wsX00) := goodIn_r _ [577, 578, 579, 580, 581] (by decide +kernel) (by decide +kernel)
set_option maxRecDepth 20000 in
theorem giL_law_L_isRight_14 : GoodIn wsL_law (wsX10) := goodIn_r _ [567, 568, 569] (by decide +kernel) (by decide +kernel)
set_option maxRecDepth 20000 in
theorem giL_law_L_isRight_15 : GoodIn wsL_law (wsX20) := goodIn_r _ [574, 575, 576] (by decide +kernel) (by decide +kernel)
set_option maxRecDepth 20000 in
theorem giL_law_L_isRight_16 : GoodIn wsL_law (wsX30) := goodIn_r _ [570, 571, 572, 573] (by decide +kernel) (by decide +kernel)
set_option maxRecDepth 20000 in
theorem ggL_law_L_isRight : GoodIn wsL_law wsL_isRight := (goodIn_ca (goodIn_ca (goodIn_ca (goodIn_ca (goodIn_ca (goodIn_ca (goodIn_ca giL_law_L_isRight_0 (goodIn_app giL_law_L_isRight_1 (goodIn_app giL_law_L_isRight_2 (goodIn_app giL_law_L_isRight_3 (goodIn_app giL_law_L_isRight_4 (goodIn_app giL_law_L_isRight_5 (goodIn_app giL_law_L_isRight_6 (goodIn_app giL_law_L_isRight_7 (goodIn_app giL_law_L_isRight_8 (goodIn_app giL_law_L_isRight_9 giL_law_L_isRight_10)))))))))) giL_law_L_isRight_11) giL_law_L_isRight_12) giL_law_L_isRight_13) giL_law_L_isRight_14) giL_law_L_isRight_15) giL_law_L_isRight_16)
set_option maxRecDepth 20000 in
theorem gL_law_L_isRight : GoodIn wsL_law (va_wsS RL 102 yL_isRight wsL_isRight) := goodIn_app (goodIn_of _ (by decide +kernel)) ggL_law_L_isRight
set_option maxRecDepth 20000 in
theorem ggL_law_X5_feed : GoodIn wsL_law wsX5_feed := goodIn_r _ [148, 12, 115, 116, 2, 117, 149, 150, 151, 11, 152, 153, 154, 155, 156, 97, 98, 99, 100, 101, 32, 33, 102, 103, 104, 105, 106, 107, 108, 109, 157, 158, 159, 160, 35, 34, 161, 162, 544, 545, 546, 547, 548, 549, 550, 551, 552, 553, 554, 555, 556, 557, 558, 559, 560, 561, 562, 563, 564, 565, 566] (by decide +kernel) (by decide +kernel)
set_option maxRecDepth 20000 in
theorem gL_law_X5_feed : GoodIn wsL_law (wsV RL 25 RX5 yX5_feed wsX5_feed) := goodIn_app (goodIn_of _ (by decide +kernel)) ggL_law_X5_feed
set_option maxRecDepth 20000 in
theorem ggL_law_X5_undo : GoodIn wsL_law wsX5_undo := goodIn_r _ [403, 17, 12, 404, 405, 406, 16, 407, 257, 258, 53, 260, 186, 187, 11, 188, 31, 189, 190, 191, 192, 32, 33, 101, 109, 108, 34, 35, 36, 37, 38, 193, 194, 195, 196, 39, 197, 43, 198, 199, 200, 42, 201, 202, 203, 85, 127, 47, 204, 544, 545, 546, 547, 548, 567, 568, 569, 549, 550, 551, 552, 553, 554, 555, 556, 557, 558, 559, 560, 561, 562, 563, 564, 565, 566, 577, 578, 579, 580, 581] (by decide +kernel) (by decide +kernel)
set_option maxRecDepth 20000 in
theorem gL_law_X5_undo : GoodIn wsL_law (wsV RL 106 RX5 yX5_undo wsX5_undo) := goodIn_app (goodIn_of _ (by decide +kernel)) ggL_law_X5_undo
set_option maxRecDepth 20000 in
theorem ggL_law_X5_cut : GoodIn wsL_law wsX5_cut := goodIn_r _ [390, 21, 115, 116, 2, 117, 337, 338, 339, 20, 340, 59, 62, 341, 154, 155, 11, 156, 97, 98, 99, 100, 101, 32, 33, 102, 103, 104, 105, 106, 107, 108, 109, 157, 158, 159, 160, 35, 34, 161, 162, 371, 372, 373, 374, 375, 376, 377, 378, 391, 392, 393, 394, 395, 396, 397, 398, 265, 266, 399, 544, 545, 546, 547, 548, 570, 571, 572, 573, 549, 550, 551, 552, 553, 554, 555, 556, 557, 558, 559, 560, 561, 562, 563, 564, 565, 566] (by decide +kernel) (by decide +kernel)
set_option maxRecDepth 20000 in
theorem gL_law_X5_cut : GoodIn wsL_law (wsV RL 83 RX5 yX5_cut wsX5_cut) := goodIn_app (goodIn_of _ (by decide +kernel)) ggL_law_X5_cut
set_option maxRecDepth 20000 in
theorem ggL_law_X5_setSend : GoodIn wsL_law wsX5_setSend := goodIn_r _ [283, 17, 12, 115, 116, 2, 117, 182, 183, 184, 253, 254, 255, 16, 256, 53, 257, 258, 259, 232, 233, 234, 260, 186, 187, 11, 188, 31, 189, 190, 191, 192, 32, 33, 101, 109, 108, 34, 35, 36, 37, 38, 193, 194, 195, 196, 39, 197, 43, 198, 199, 200, 42, 201, 202, 203, 85, 127, 47, 204, 167, 161, 162, 544, 545, 546, 547, 548, 549, 550, 551, 552, 553, 554, 555, 556, 557, 558, 559, 560, 561, 562, 563, 564, 565, 566, 567, 568, 569, 577, 578, 579, 580, 581] (by decide +kernel) (by decide +kernel)
set_option maxRecDepth 20000 in
theorem gL_law_X5_setSend : GoodIn wsL_law (wsV RL 46 RX5 yX5_setSend wsX5_setSend) := goodIn_app (goodIn_of _ (by decide +kernel)) ggL_law_X5_setSend
set_option maxRecDepth 20000 in
theorem ggL_law_X5_hearers : GoodIn wsL_law wsX5_hearers := goodIn_r _ [370, 21, 115, 116, 2, 117, 337, 338, 339, 20, 340, 59, 62, 341, 154, 155, 11, 156, 97, 98, 99, 100, 101, 32, 33, 102, 103, 104, 105, 106, 107, 108, 109, 157, 158, 159, 160, 35, 34, 161, 162, 371, 372, 373, 374, 375, 376, 377, 378, 544, 545, 546, 547, 548, 570, 571, 572, 573, 549, 550, 551, 552, 553, 554, 555, 556, 557, 558, 559, 560, 561, 562, 563, 564, 565, 566] (by decide +kernel) (by decide +kernel)
set_option maxRecDepth 20000 in
theorem gL_law_X5_hearers : GoodIn wsL_law (wsV RL 77 RX5 yX5_hearers wsX5_hearers) := goodIn_app (goodIn_of _ (by decide +kernel)) ggL_law_X5_hearers
set_option maxRecDepth 20000 in
theorem ggL_law_X5_setChannel : GoodIn wsL_law wsX5_setChannel := goodIn_r _ [252, 114, 17, 12, 115, 116, 2, 117, 182, 183, 184, 253, 254, 255, 16, 256, 53, 257, 258, 259, 232, 233, 234, 260, 186, 187, 11, 188, 31, 189, 190, 191, 192, 32, 33, 101, 109, 108, 34, 35, 36, 37, 38, 193, 194, 195, 196, 39, 197, 43, 198, 199, 200, 42, 201, 202, 203, 85, 127, 47, 204, 118, 119, 120, 121, 102, 103, 261, 262, 263, 264, 265, 266, 267, 268, 269, 270, 271, 82, 83, 84, 544, 545, 546, 547, 548, 567, 568, 569, 549, 550, 551, 552, 553, 554, 555, 556, 557, 558, 559, 560, 561, 562, 563, 564, 565, 566, 577, 578, 579, 580, 581] (by decide +kernel) (by decide +kernel)
set_option maxRecDepth 20000 in
theorem gL_law_X5_setChannel : GoodIn wsL_law (wsV RL 40 RX5 yX5_setChannel wsX5_setChannel) := goodIn_app (goodIn_of _ (by decide +kernel)) ggL_law_X5_setChannel
set_option maxRecDepth 20000 in
theorem ggL_law_X5_setGroup : GoodIn wsL_law wsX5_setGroup := goodIn_r _ [275, 136, 17, 12, 115, 116, 2, 117, 182, 183, 184, 253, 254, 255, 16, 256, 53, 257, 258, 259, 232, 233, 234, 260, 186, 187, 11, 188, 31, 189, 190, 191, 192, 32, 33, 101, 109, 108, 34, 35, 36, 37, 38, 193, 194, 195, 196, 39, 197, 43, 198, 199, 200, 42, 201, 202, 203, 85, 127, 47, 204, 137, 138, 139, 140, 102, 103, 276, 277, 278, 279, 265, 266, 267, 268, 269, 270, 271, 82, 83, 84, 544, 545, 546, 547, 548, 567, 568, 569, 549, 550, 551, 552, 553, 554, 555, 556, 557, 558, 559, 560, 561, 562, 563, 564, 565, 566, 577, 578, 579, 580, 581] (by decide +kernel) (by decide +kernel)
set_option maxRecDepth 20000 in
theorem gL_law_X5_setGroup : GoodIn wsL_law (wsV RL 43 RX5 yX5_setGroup wsX5_setGroup) := goodIn_app (goodIn_of _ (by decide +kernel)) ggL_law_X5_setGroup
set_option maxRecDepth 20000 in
theorem ggL_law_X5_setReturn : GoodIn wsL_law wsX5_setReturn := goodIn_r _ [292, 12, 17, 115, 116, 2, 117, 182, 183, 184, 128, 129, 130, 11, 131, 36, 253, 254, 255, 16, 256, 53, 257, 258, 259, 232, 233, 234, 260, 186, 187, 188, 31, 189, 190, 191, 192, 32, 33, 101, 109, 108, 34, 35, 37, 38, 193, 194, 195, 196, 39, 197, 43, 198, 199, 200, 42, 201, 202, 203, 85, 127, 47, 204, 544, 545, 546, 547, 548, 549, 550, 551, 552, 553, 554, 555, 556, 557, 558, 559, 560, 561, 562, 563, 564, 565, 566, 567, 568, 569, 577, 578, 579, 580, 581] (by decide +kernel) (by decide +kernel)
set_option maxRecDepth 20000 in
theorem gL_law_X5_setReturn : GoodIn wsL_law (wsV RL 52 RX5 yX5_setReturn wsX5_setReturn) := goodIn_app (goodIn_of _ (by decide +kernel)) ggL_law_X5_setReturn
set_option maxRecDepth 20000 in
theorem ggL_law_X5_recall : GoodIn wsL_law wsX5_recall := goodIn_r _ [304, 12, 17, 115, 116, 2, 117, 182, 183, 184, 173, 102, 103, 253, 254, 255, 16, 256, 53, 257, 258, 259, 232, 233, 234, 260, 186, 187, 11, 188, 31, 189, 190, 191, 192, 32, 33, 101, 109, 108, 34, 35, 36, 37, 38, 193, 194, 195, 196, 39, 197, 43, 198, 199, 200, 42, 201, 202, 203, 85, 127, 47, 204, 305, 306, 307, 308, 309, 310, 311, 312, 313, 314, 315, 316, 223, 224, 225, 226, 544, 545, 546, 547, 548, 549, 550, 551, 552, 553, 554, 555, 556, 557, 558, 559, 560, 561, 562, 563, 564, 565, 566, 567, 568, 569, 577, 578, 579, 580, 581] (by decide +kernel) (by decide +kernel)
set_option maxRecDepth 20000 in
theorem gL_law_X5_recall : GoodIn wsL_law (wsV RL 58 RX5 yX5_recall wsX5_recall) := goodIn_app (goodIn_of _ (by decide +kernel)) ggL_law_X5_recall
set_option maxRecDepth 20000 in
theorem ggL_law_X5_run : GoodIn wsL_law wsX5_run := goodIn_r _ [324, 12, 17, 182, 183, 2, 184, 253, 254, 255, 16, 256, 53, 257, 258, 259, 232, 233, 234, 260, 186, 187, 11, 188, 31, 189, 190, 191, 192, 32, 33, 101, 109, 108, 34, 35, 36, 37, 38, 193, 194, 195, 196, 39, 197, 43, 198, 199, 200, 42, 201, 202, 203, 85, 127, 47, 204, 205, 206, 207, 208, 209, 82, 83, 84, 210, 211, 212, 213, 214, 124, 125, 126, 102, 103, 215, 216, 217, 218, 219, 220, 221, 222, 223, 224, 225, 226, 227, 228, 229, 230, 231, 235, 236, 237, 238, 239, 240, 241, 97, 98, 99, 100, 104, 105, 106, 107, 157, 158, 159, 160, 161, 162, 242, 243, 244, 245, 544, 545, 546, 547, 548, 549, 550, 551, 552, 553, 554, 555, 556, 557, 558, 559, 560, 561, 562, 563, 564, 565, 566, 567, 568, 569, 577, 578, 579, 580, 581] (by decide +kernel) (by decide +kernel)
set_option maxRecDepth 20000 in
theorem gL_law_X5_run : GoodIn wsL_law (wsV RL 65 RX5 yX5_run wsX5_run) := goodIn_app (goodIn_of _ (by decide +kernel)) ggL_law_X5_run
set_option maxRecDepth 20000 in
theorem ggL_law_X5_path : GoodIn wsL_law wsX5_path := goodIn_r _ [336, 21, 115, 116, 2, 117, 337, 338, 339, 20, 340, 59, 62, 341, 154, 155, 11, 156, 97, 98, 99, 100, 101, 32, 33, 102, 103, 104, 105, 106, 107, 108, 109, 157, 158, 159, 160, 35, 34, 161, 162, 342, 343, 344, 345, 60, 346, 347, 348, 349, 350, 351, 352, 353, 544, 545, 546, 547, 548, 570, 571, 572, 573, 549, 550, 551, 552, 553, 554, 555, 556, 557, 558, 559, 560, 561, 562, 563, 564, 565, 566] (by decide +kernel) (by decide +kernel)
set_option maxRecDepth 20000 in
theorem gL_law_X5_path : GoodIn wsL_law (wsV RL 71 RX5 yX5_path wsX5_path) := goodIn_app (goodIn_of _ (by decide +kernel)) ggL_law_X5_path
set_option maxRecDepth 20000 in
theorem ggL_law_X5_load : GoodIn wsL_law wsX5_load := goodIn_r _ [411, 13, 12, 25, 17, 185, 186, 187, 11, 188, 31, 189, 190, 191, 192, 32, 33, 101, 109, 108, 34, 35, 36, 37, 38, 193, 194, 195, 196, 39, 197, 43, 198, 199, 200, 42, 201, 202, 203, 85, 127, 47, 204, 412, 413, 414, 24, 415, 416, 417, 418, 419, 420, 421, 67, 422, 423, 424, 425, 426, 427, 428, 429, 430, 431, 432, 433, 434, 435, 436, 437, 438, 232, 233, 234, 116, 2, 117, 439, 440, 441, 442, 443, 444, 445, 446, 447, 448, 449, 450, 451, 452, 453, 454, 455, 456, 457, 458, 459, 460, 461, 462, 463, 464, 465, 466, 467, 468, 469, 470, 471, 240, 241, 472, 473, 474, 475, 476, 477, 478, 479, 480, 481, 482, 483, 484, 485, 486, 487, 488, 489, 490, 491, 492, 493, 494, 495, 496, 497, 498, 499, 500, 501, 502, 503, 504, 505, 506, 507, 508, 509, 510, 511, 512, 513, 514, 515, 516, 517, 518, 519, 520, 521, 522, 523, 524, 525, 526, 102, 103, 527, 528, 529, 530, 531, 532, 533, 534, 535, 262, 263, 264, 265, 266, 267, 268, 269, 270, 271, 82, 83, 84, 536, 537, 538, 539, 540, 541, 542, 543, 161, 162, 253, 254, 255, 16, 256, 53, 257, 258, 259, 260, 544, 545, 546, 547, 548, 574, 575, 576, 549, 550, 551, 552, 553, 554, 555, 556, 557, 558, 559, 560, 561, 562, 563, 564, 565, 566, 577, 578, 579, 580, 581, 567, 568, 569] (by decide +kernel) (by decide +kernel)
set_option maxRecDepth 20000 in
theorem gL_law_X5_load : GoodIn wsL_law (wsV RL 109 RX5 yX5_load wsX5_load) := goodIn_app (goodIn_of _ (by decide +kernel)) ggL_law_X5_load
theorem dL_law_0 : decode cL_law 0 = .ok (.new 13, 3) := by decide +kernel
theorem dL_law_3 : decode cL_law 3 = .ok (.dup, 1) := by decide +kernel
theorem dL_law_4 : decode cL_law 4 = .ok (.invokespecial 89, 3) := by decide +kernel
theorem dL_law_7 : decode cL_law 7 = .ok (.astore_n 1, 1) := by decide +kernel
theorem dL_law_8 : decode cL_law 8 = .ok (.iconst 0, 1) := by decide +kernel
theorem dL_law_9 : decode cL_law 9 = .ok (.istore_n 2, 1) := by decide +kernel
theorem dL_law_10 : decode cL_law 10 = .ok (.iload_n 2, 1) := by decide +kernel
theorem dL_law_11 : decode cL_law 11 = .ok (.bipush 18, 2) := by decide +kernel
theorem dL_law_13 : decode cL_law 13 = .ok (.if_icmp .ge 289, 3) := by decide +kernel
theorem dL_law_16 : decode cL_law 16 = .ok (.aload_n 0, 1) := by decide +kernel
theorem dL_law_17 : decode cL_law 17 = .ok (.iload_n 2, 1) := by decide +kernel
theorem dL_law_18 : decode cL_law 18 = .ok (.invokestatic 90, 3) := by decide +kernel
theorem dL_law_21 : decode cL_law 21 = .ok (.istore_n 3, 1) := by decide +kernel
theorem dL_law_22 : decode cL_law 22 = .ok (.aload_n 1, 1) := by decide +kernel
theorem dL_law_23 : decode cL_law 23 = .ok (.invokestatic 94, 3) := by decide +kernel
theorem dL_law_26 : decode cL_law 26 = .ok (.lstore 4, 2) := by decide +kernel
theorem dL_law_28 : decode cL_law 28 = .ok (.iload_n 3, 1) := by decide +kernel
theorem dL_law_29 : decode cL_law 29 = .ok (.bipush 6, 2) := by decide +kernel
theorem dL_law_31 : decode cL_law 31 = .ok (.ishr, 1) := by decide +kernel
theorem dL_law_32 : decode cL_law 32 = .ok (.iconst 3, 1) := by decide +kernel
theorem dL_law_33 : decode cL_law 33 = .ok (.iand, 1) := by decide +kernel
theorem dL_law_34 : decode cL_law 34 = .ok (.istore 6, 2) := by decide +kernel
theorem dL_law_36 : decode cL_law 36 = .ok (.iconst 1, 1) := by decide +kernel
theorem dL_law_37 : decode cL_law 37 = .ok (.iload_n 3, 1) := by decide +kernel
theorem dL_law_38 : decode cL_law 38 = .ok (.iconst 4, 1) := by decide +kernel
theorem dL_law_39 : decode cL_law 39 = .ok (.ishr, 1) := by decide +kernel
theorem dL_law_40 : decode cL_law 40 = .ok (.bipush 9, 2) := by decide +kernel
theorem dL_law_42 : decode cL_law 42 = .ok (.invokestatic 35, 3) := by decide +kernel
theorem dL_law_45 : decode cL_law 45 = .ok (.iadd, 1) := by decide +kernel
theorem dL_law_46 : decode cL_law 46 = .ok (.istore 7, 2) := by decide +kernel
theorem dL_law_48 : decode cL_law 48 = .ok (.aload_n 1, 1) := by decide +kernel
theorem dL_law_49 : decode cL_law 49 = .ok (.iload 6, 2) := by decide +kernel
theorem dL_law_51 : decode cL_law 51 = .ok (.iload 7, 2) := by decide +kernel
theorem dL_law_53 : decode cL_law 53 = .ok (.invokevirtual 86, 3) := by decide +kernel
theorem dL_law_56 : decode cL_law 56 = .ok (.istore 8, 2) := by decide +kernel
theorem dL_law_58 : decode cL_law 58 = .ok (.aload_n 1, 1) := by decide +kernel
theorem dL_law_59 : decode cL_law 59 = .ok (.iconst 2, 1) := by decide +kernel
theorem dL_law_60 : decode cL_law 60 = .ok (.invokevirtual 12, 3) := by decide +kernel
theorem dL_law_63 : decode cL_law 63 = .ok (.istore 9, 2) := by decide +kernel
theorem dL_law_65 : decode cL_law 65 = .ok (.aload_n 1, 1) := by decide +kernel
theorem dL_law_66 : decode cL_law 66 = .ok (.iload_n 3, 1) := by decide +kernel
theorem dL_law_67 : decode cL_law 67 = .ok (.invokestatic 98, 3) := by decide +kernel
theorem dL_law_70 : decode cL_law 70 = .ok (.istore 10, 2) := by decide +kernel
theorem dL_law_72 : decode cL_law 72 = .ok (.iload 10, 2) := by decide +kernel
theorem dL_law_74 : decode cL_law 74 = .ok (.iconst (-1), 1) := by decide +kernel
theorem dL_law_75 : decode cL_law 75 = .ok (.if_icmp .ne 12, 3) := by decide +kernel
theorem dL_law_78 : decode cL_law 78 = .ok (.iload_n 3, 1) := by decide +kernel
theorem dL_law_79 : decode cL_law 79 = .ok (.bipush 15, 2) := by decide +kernel
theorem dL_law_81 : decode cL_law 81 = .ok (.iand, 1) := by decide +kernel
theorem dL_law_82 : decode cL_law 82 = .ok (.bipush 10, 2) := by decide +kernel
theorem dL_law_84 : decode cL_law 84 = .ok (.if_icmp .lt 17, 3) := by decide +kernel
theorem dL_law_87 : decode cL_law 87 = .ok (.iload 10, 2) := by decide +kernel
theorem dL_law_89 : decode cL_law 89 = .ok (.bipush (-2), 2) := by decide +kernel
theorem dL_law_91 : decode cL_law 91 = .ok (.if_icmp .eq 10, 3) := by decide +kernel
theorem dL_law_94 : decode cL_law 94 = .ok (.iload 10, 2) := by decide +kernel
theorem dL_law_96 : decode cL_law 96 = .ok (.bipush (-3), 2) := by decide +kernel
theorem dL_law_98 : decode cL_law 98 = .ok (.if_icmp .ne 13, 3) := by decide +kernel
theorem dL_law_101 : decode cL_law 101 = .ok (.aload_n 1, 1) := by decide +kernel
theorem dL_law_102 : decode cL_law 102 = .ok (.invokestatic 94, 3) := by decide +kernel
theorem dL_law_105 : decode cL_law 105 = .ok (.lload 4, 2) := by decide +kernel
theorem dL_law_107 : decode cL_law 107 = .ok (.lcmp, 1) := by decide +kernel
theorem dL_law_108 : decode cL_law 108 = .ok (.ifCond .ne 10, 3) := by decide +kernel
theorem dL_law_111 : decode cL_law 111 = .ok (.aload_n 1, 1) := by decide +kernel
theorem dL_law_112 : decode cL_law 112 = .ok (.invokestatic 102, 3) := by decide +kernel
theorem dL_law_115 : decode cL_law 115 = .ok (.ifCond .ne 5, 3) := by decide +kernel
theorem dL_law_118 : decode cL_law 118 = .ok (.iconst 0, 1) := by decide +kernel
theorem dL_law_119 : decode cL_law 119 = .ok (.ireturn, 1) := by decide +kernel
theorem dL_law_120 : decode cL_law 120 = .ok (.iload_n 3, 1) := by decide +kernel
theorem dL_law_121 : decode cL_law 121 = .ok (.bipush 15, 2) := by decide +kernel
theorem dL_law_123 : decode cL_law 123 = .ok (.iand, 1) := by decide +kernel
theorem dL_law_124 : decode cL_law 124 = .ok (.bipush 15, 2) := by decide +kernel
theorem dL_law_126 : decode cL_law 126 = .ok (.if_icmp .ne 47, 3) := by decide +kernel
theorem dL_law_129 : decode cL_law 129 = .ok (.aload_n 1, 1) := by decide +kernel
theorem dL_law_130 : decode cL_law 130 = .ok (.iload 6, 2) := by decide +kernel
theorem dL_law_132 : decode cL_law 132 = .ok (.iconst 2, 1) := by decide +kernel
theorem dL_law_133 : decode cL_law 133 = .ok (.invokevirtual 25, 3) := by decide +kernel
theorem dL_law_136 : decode cL_law 136 = .ok (.iload 8, 2) := by decide +kernel
theorem dL_law_138 : decode cL_law 138 = .ok (.if_icmp .ne 33, 3) := by decide +kernel
theorem dL_law_141 : decode cL_law 141 = .ok (.iload 10, 2) := by decide +kernel
theorem dL_law_143 : decode cL_law 143 = .ok (.aload_n 1, 1) := by decide +kernel
theorem dL_law_144 : decode cL_law 144 = .ok (.iconst 1, 1) := by decide +kernel
theorem dL_law_145 : decode cL_law 145 = .ok (.invokevirtual 12, 3) := by decide +kernel
theorem dL_law_148 : decode cL_law 148 = .ok (.if_icmp .ne 23, 3) := by decide +kernel
theorem dL_law_151 : decode cL_law 151 = .ok (.aload_n 1, 1) := by decide +kernel
theorem dL_law_152 : decode cL_law 152 = .ok (.iconst 2, 1) := by decide +kernel
theorem dL_law_153 : decode cL_law 153 = .ok (.invokevirtual 12, 3) := by decide +kernel
theorem dL_law_156 : decode cL_law 156 = .ok (.iload 9, 2) := by decide +kernel
theorem dL_law_158 : decode cL_law 158 = .ok (.if_icmp .lt 13, 3) := by decide +kernel
theorem dL_law_161 : decode cL_law 161 = .ok (.aload_n 1, 1) := by decide +kernel
theorem dL_law_162 : decode cL_law 162 = .ok (.iconst 2, 1) := by decide +kernel
theorem dL_law_163 : decode cL_law 163 = .ok (.invokevirtual 12, 3) := by decide +kernel
theorem dL_law_166 : decode cL_law 166 = .ok (.iload 10, 2) := by decide +kernel
theorem dL_law_168 : decode cL_law 168 = .ok (.if_icmp .ge 5, 3) := by decide +kernel
theorem dL_law_171 : decode cL_law 171 = .ok (.iconst 0, 1) := by decide +kernel
theorem dL_law_172 : decode cL_law 172 = .ok (.ireturn, 1) := by decide +kernel
theorem dL_law_173 : decode cL_law 173 = .ok (.iload 10, 2) := by decide +kernel
theorem dL_law_175 : decode cL_law 175 = .ok (.ifCond .lt 55, 3) := by decide +kernel
theorem dL_law_178 : decode cL_law 178 = .ok (.iload_n 2, 1) := by decide +kernel
theorem dL_law_179 : decode cL_law 179 = .ok (.iconst 3, 1) := by decide +kernel
theorem dL_law_180 : decode cL_law 180 = .ok (.iand, 1) := by decide +kernel
theorem dL_law_181 : decode cL_law 181 = .ok (.iconst 2, 1) := by decide +kernel
theorem dL_law_182 : decode cL_law 182 = .ok (.if_icmp .ne 48, 3) := by decide +kernel
theorem dL_law_185 : decode cL_law 185 = .ok (.aload_n 1, 1) := by decide +kernel
theorem dL_law_186 : decode cL_law 186 = .ok (.invokestatic 94, 3) := by decide +kernel
theorem dL_law_189 : decode cL_law 189 = .ok (.lstore 11, 2) := by decide +kernel
theorem dL_law_191 : decode cL_law 191 = .ok (.aload_n 1, 1) := by decide +kernel
theorem dL_law_192 : decode cL_law 192 = .ok (.invokevirtual 106, 3) := by decide +kernel
theorem dL_law_195 : decode cL_law 195 = .ok (.ifCond .lt 33, 3) := by decide +kernel
theorem dL_law_198 : decode cL_law 198 = .ok (.aload_n 1, 1) := by decide +kernel
theorem dL_law_199 : decode cL_law 199 = .ok (.invokestatic 94, 3) := by decide +kernel
theorem dL_law_202 : decode cL_law 202 = .ok (.lload 4, 2) := by decide +kernel
theorem dL_law_204 : decode cL_law 204 = .ok (.lcmp, 1) := by decide +kernel
theorem dL_law_205 : decode cL_law 205 = .ok (.ifCond .ne 23, 3) := by decide +kernel
theorem dL_law_208 : decode cL_law 208 = .ok (.aload_n 1, 1) := by decide +kernel
theorem dL_law_209 : decode cL_law 209 = .ok (.iload_n 3, 1) := by decide +kernel
theorem dL_law_210 : decode cL_law 210 = .ok (.invokestatic 98, 3) := by decide +kernel
theorem dL_law_213 : decode cL_law 213 = .ok (.iload 10, 2) := by decide +kernel
theorem dL_law_215 : decode cL_law 215 = .ok (.if_icmp .ne 13, 3) := by decide +kernel
theorem dL_law_218 : decode cL_law 218 = .ok (.aload_n 1, 1) := by decide +kernel
theorem dL_law_219 : decode cL_law 219 = .ok (.invokestatic 94, 3) := by decide +kernel
theorem dL_law_222 : decode cL_law 222 = .ok (.lload 11, 2) := by decide +kernel
theorem dL_law_224 : decode cL_law 224 = .ok (.lcmp, 1) := by decide +kernel
theorem dL_law_225 : decode cL_law 225 = .ok (.ifCond .eq 5, 3) := by decide +kernel
theorem dL_law_228 : decode cL_law 228 = .ok (.iconst 0, 1) := by decide +kernel
theorem dL_law_229 : decode cL_law 229 = .ok (.ireturn, 1) := by decide +kernel
theorem dL_law_230 : decode cL_law 230 = .ok (.aload_n 1, 1) := by decide +kernel
theorem dL_law_231 : decode cL_law 231 = .ok (.iload 6, 2) := by decide +kernel
theorem dL_law_233 : decode cL_law 233 = .ok (.invokevirtual 83, 3) := by decide +kernel
theorem dL_law_236 : decode cL_law 236 = .ok (.istore 11, 2) := by decide +kernel
theorem dL_law_238 : decode cL_law 238 = .ok (.iload 11, 2) := by decide +kernel
theorem dL_law_240 : decode cL_law 240 = .ok (.ifCond .lt 56, 3) := by decide +kernel
theorem dL_law_243 : decode cL_law 243 = .ok (.aload_n 1, 1) := by decide +kernel
theorem dL_law_244 : decode cL_law 244 = .ok (.invokestatic 94, 3) := by decide +kernel
theorem dL_law_247 : decode cL_law 247 = .ok (.lstore 12, 2) := by decide +kernel
theorem dL_law_249 : decode cL_law 249 = .ok (.aload_n 1, 1) := by decide +kernel
theorem dL_law_250 : decode cL_law 250 = .ok (.iload 11, 2) := by decide +kernel
theorem dL_law_252 : decode cL_law 252 = .ok (.bipush 100, 2) := by decide +kernel
theorem dL_law_254 : decode cL_law 254 = .ok (.idiv, 1) := by decide +kernel
theorem dL_law_255 : decode cL_law 255 = .ok (.iload 11, 2) := by decide +kernel
theorem dL_law_257 : decode cL_law 257 = .ok (.bipush 100, 2) := by decide +kernel
theorem dL_law_259 : decode cL_law 259 = .ok (.irem, 1) := by decide +kernel
theorem dL_law_260 : decode cL_law 260 = .ok (.iconst 0, 1) := by decide +kernel
theorem dL_law_261 : decode cL_law 261 = .ok (.invokevirtual 46, 3) := by decide +kernel
theorem dL_law_264 : decode cL_law 264 = .ok (.iconst 1, 1) := by decide +kernel
theorem dL_law_265 : decode cL_law 265 = .ok (.if_icmp .lt 29, 3) := by decide +kernel
theorem dL_law_268 : decode cL_law 268 = .ok (.aload_n 1, 1) := by decide +kernel
theorem dL_law_269 : decode cL_law 269 = .ok (.iload 6, 2) := by decide +kernel
theorem dL_law_271 : decode cL_law 271 = .ok (.invokevirtual 77, 3) := by decide +kernel
theorem dL_law_274 : decode cL_law 274 = .ok (.ifCond .ne 20, 3) := by decide +kernel
theorem dL_law_277 : decode cL_law 277 = .ok (.aload_n 1, 1) := by decide +kernel
theorem dL_law_278 : decode cL_law 278 = .ok (.invokevirtual 106, 3) := by decide +kernel
theorem dL_law_281 : decode cL_law 281 = .ok (.ifCond .lt 13, 3) := by decide +kernel
theorem dL_law_284 : decode cL_law 284 = .ok (.aload_n 1, 1) := by decide +kernel
theorem dL_law_285 : decode cL_law 285 = .ok (.invokestatic 94, 3) := by decide +kernel
theorem dL_law_288 : decode cL_law 288 = .ok (.lload 12, 2) := by decide +kernel
theorem dL_law_290 : decode cL_law 290 = .ok (.lcmp, 1) := by decide +kernel
theorem dL_law_291 : decode cL_law 291 = .ok (.ifCond .eq 5, 3) := by decide +kernel
theorem dL_law_294 : decode cL_law 294 = .ok (.iconst 0, 1) := by decide +kernel
theorem dL_law_295 : decode cL_law 295 = .ok (.ireturn, 1) := by decide +kernel
theorem dL_law_296 : decode cL_law 296 = .ok (.iinc 2 1, 3) := by decide +kernel
theorem dL_law_299 : decode cL_law 299 = .ok (.goto (-289), 3) := by decide +kernel
theorem dL_law_302 : decode cL_law 302 = .ok (.aload_n 1, 1) := by decide +kernel
theorem dL_law_303 : decode cL_law 303 = .ok (.invokestatic 94, 3) := by decide +kernel
theorem dL_law_306 : decode cL_law 306 = .ok (.lstore_n 2, 1) := by decide +kernel
theorem dL_law_307 : decode cL_law 307 = .ok (.aload_n 1, 1) := by decide +kernel
theorem dL_law_308 : decode cL_law 308 = .ok (.bipush 12, 2) := by decide +kernel
theorem dL_law_310 : decode cL_law 310 = .ok (.iconst 0, 1) := by decide +kernel
theorem dL_law_311 : decode cL_law 311 = .ok (.iconst 0, 1) := by decide +kernel
theorem dL_law_312 : decode cL_law 312 = .ok (.invokevirtual 40, 3) := by decide +kernel
theorem dL_law_315 : decode cL_law 315 = .ok (.iconst (-1), 1) := by decide +kernel
theorem dL_law_316 : decode cL_law 316 = .ok (.if_icmp .ne 91, 3) := by decide +kernel
theorem dL_law_319 : decode cL_law 319 = .ok (.aload_n 1, 1) := by decide +kernel
theorem dL_law_320 : decode cL_law 320 = .ok (.iconst 0, 1) := by decide +kernel
theorem dL_law_321 : decode cL_law 321 = .ok (.iconst 0, 1) := by decide +kernel
theorem dL_law_322 : decode cL_law 322 = .ok (.sipush 1001, 3) := by decide +kernel
theorem dL_law_325 : decode cL_law 325 = .ok (.invokevirtual 40, 3) := by decide +kernel
theorem dL_law_328 : decode cL_law 328 = .ok (.iconst (-1), 1) := by decide +kernel
theorem dL_law_329 : decode cL_law 329 = .ok (.if_icmp .ne 78, 3) := by decide +kernel
theorem dL_law_332 : decode cL_law 332 = .ok (.aload_n 1, 1) := by decide +kernel
theorem dL_law_333 : decode cL_law 333 = .ok (.iconst 0, 1) := by decide +kernel
theorem dL_law_334 : decode cL_law 334 = .ok (.iconst 1, 1) := by decide +kernel
theorem dL_law_335 : decode cL_law 335 = .ok (.iconst 2, 1) := by decide +kernel
theorem dL_law_336 : decode cL_law 336 = .ok (.invokevirtual 43, 3) := by decide +kernel
theorem dL_law_339 : decode cL_law 339 = .ok (.iconst (-1), 1) := by decide +kernel
theorem dL_law_340 : decode cL_law 340 = .ok (.if_icmp .ne 67, 3) := by decide +kernel
theorem dL_law_343 : decode cL_law 343 = .ok (.aload_n 1, 1) := by decide +kernel
theorem dL_law_344 : decode cL_law 344 = .ok (.iconst 0, 1) := by decide +kernel
theorem dL_law_345 : decode cL_law 345 = .ok (.iconst 0, 1) := by decide +kernel
theorem dL_law_346 : decode cL_law 346 = .ok (.bipush 101, 2) := by decide +kernel
theorem dL_law_348 : decode cL_law 348 = .ok (.invokevirtual 46, 3) := by decide +kernel
theorem dL_law_351 : decode cL_law 351 = .ok (.iconst (-1), 1) := by decide +kernel
theorem dL_law_352 : decode cL_law 352 = .ok (.if_icmp .ne 55, 3) := by decide +kernel
