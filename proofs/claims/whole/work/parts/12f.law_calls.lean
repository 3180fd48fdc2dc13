set_option maxRecDepth 20000 in
theorem ggL_law_X3_init : GoodIn wsL_law wsX3_init := goodIn_r _ [9, 10, 11, 12, 13, 14, 15, 16, 17, 18, 19, 20, 21, 22, 23, 24, 25, 26, 27, 28, 29, 30, 31, 32, 33, 34, 35, 36, 37, 38, 39, 40, 41, 42, 43, 44, 45, 46, 47, 48, 49, 50, 51, 52, 53, 54, 55, 56, 57, 58, 59, 60, 61, 62, 63, 500, 501, 502, 503, 504, 505, 506, 467, 468, 469, 470, 471, 472, 473, 474, 475, 476, 477, 478, 479, 480, 507, 508, 509, 510, 511, 512, 513] (by decide +kernel) (by decide +kernel)
set_option maxRecDepth 20000 in
theorem gL_law_X3_init : GoodIn wsL_law (wsX3_init) := ggL_law_X3_init
set_option maxRecDepth 20000 in
theorem ggL_law_X4_init : GoodIn wsL_law wsX4_init := goodIn_r _ [66, 67, 11, 12, 32, 68, 69, 70, 71, 72, 73, 74, 75, 76, 77, 78, 79, 80, 81, 82, 83, 84, 85, 86, 87, 88, 89, 90, 91, 92, 93, 94, 95, 481, 482, 483, 484, 485, 486, 487, 488, 489, 490, 491, 492, 493, 494, 495, 496, 497, 498, 499] (by decide +kernel) (by decide +kernel)
set_option maxRecDepth 20000 in
theorem gL_law_X4_init : GoodIn wsL_law (wsX4_init) := ggL_law_X4_init
set_option maxRecDepth 20000 in
theorem ggL_law_X3_code : GoodIn wsL_law wsX3_code := goodIn_r _ [99, 100, 101, 102, 2, 103, 17, 19, 21, 104, 15, 105, 106, 47, 46, 107, 108, 109, 49, 110, 111, 112, 113, 467, 468, 469, 470, 471, 472, 473, 474, 475, 476, 477, 478, 479, 480, 500, 501, 502, 503, 504, 505, 506] (by decide +kernel) (by decide +kernel)
set_option maxRecDepth 20000 in
theorem gL_law_X3_code : GoodIn wsL_law (wsV RL 15 RX3 yX3_code wsX3_code) := goodIn_app (goodIn_of _ (by decide +kernel)) ggL_law_X3_code
set_option maxRecDepth 20000 in
theorem ggL_law_X4_code : GoodIn wsL_law wsX4_code := goodIn_r _ [117, 68, 83, 118, 119, 5, 120, 121, 122, 123, 124, 125, 126, 127, 128, 82, 481, 482, 483, 484, 485, 486, 487, 488, 489, 490, 491, 492, 493, 494, 495, 496, 497, 498, 499] (by decide +kernel) (by decide +kernel)
set_option maxRecDepth 20000 in
theorem gL_law_X4_code : GoodIn wsL_law (wsV RL 19 RX4 yX4_code wsX4_code) := goodIn_app (goodIn_of _ (by decide +kernel)) ggL_law_X4_code
set_option maxRecDepth 20000 in
theorem ggL_law_X3_name : GoodIn wsL_law wsX3_name := goodIn_r _ [132, 100, 101, 102, 2, 103, 17, 19, 21, 133, 15, 134, 135, 48, 110, 111, 112, 113, 47, 136, 137, 138, 46, 467, 468, 469, 470, 471, 472, 473, 474, 475, 476, 477, 478, 479, 480, 500, 501, 502, 503, 504, 505, 506] (by decide +kernel) (by decide +kernel)
set_option maxRecDepth 20000 in
theorem gL_law_X3_name : GoodIn wsL_law (wsV RL 20 RX3 yX3_name wsX3_name) := goodIn_app (goodIn_of _ (by decide +kernel)) ggL_law_X3_name
set_option maxRecDepth 20000 in
theorem ggL_law_X4_name : GoodIn wsL_law wsX4_name := goodIn_r _ [142, 118, 119, 5, 120, 121, 122, 123, 143, 144, 145, 146, 68, 147, 148, 149, 150, 84, 124, 125, 126, 127, 128, 82, 481, 482, 483, 484, 485, 486, 487, 488, 489, 490, 491, 492, 493, 494, 495, 496, 497, 498, 499] (by decide +kernel) (by decide +kernel)
set_option maxRecDepth 20000 in
theorem gL_law_X4_name : GoodIn wsL_law (wsV RL 24 RX4 yX4_name wsX4_name) := goodIn_app (goodIn_of _ (by decide +kernel)) ggL_law_X4_name
set_option maxRecDepth 20000 in
theorem ggL_law_X3_swap : GoodIn wsL_law wsX3_swap := goodIn_r _ [154, 100, 101, 102, 2, 103, 17, 19, 21, 111, 15, 112, 113, 47, 155, 156, 157, 158, 133, 134, 135, 48, 110, 159, 160, 161, 162, 49, 467, 468, 469, 470, 471, 472, 473, 474, 475, 476, 477, 478, 479, 480, 500, 501, 502, 503, 504, 505, 506] (by decide +kernel) (by decide +kernel)
set_option maxRecDepth 20000 in
theorem gL_law_X3_swap : GoodIn wsL_law (wsV RL 25 RX3 yX3_swap wsX3_swap) := goodIn_app (goodIn_of _ (by decide +kernel)) ggL_law_X3_swap
set_option maxRecDepth 20000 in
theorem ggL_law_X4_swap : GoodIn wsL_law wsX4_swap := goodIn_r _ [166, 83, 84, 118, 119, 5, 120, 121, 122, 123, 143, 144, 145, 146, 68, 147, 148, 149, 150, 481, 482, 483, 484, 485, 486, 487, 488, 489, 490, 491, 492, 493, 494, 495, 496, 497, 498, 499] (by decide +kernel) (by decide +kernel)
set_option maxRecDepth 20000 in
theorem gL_law_X4_swap : GoodIn wsL_law (wsV RL 29 RX4 yX4_swap wsX4_swap) := goodIn_app (goodIn_of _ (by decide +kernel)) ggL_law_X4_swap
set_option maxRecDepth 20000 in
theorem ggL_law_X3_rule : GoodIn wsL_law wsX3_rule := goodIn_r _ [170, 29, 100, 101, 102, 2, 103, 17, 19, 21, 111, 15, 112, 113, 47, 133, 134, 135, 48, 110, 171, 172, 173, 174, 30, 175, 176, 177, 43, 44, 178, 179, 180, 181, 182, 183, 184, 185, 186, 187, 188, 189, 190, 191, 192, 193, 467, 468, 469, 470, 471, 472, 473, 474, 475, 476, 477, 478, 479, 480, 500, 501, 502, 503, 504, 505, 506] (by decide +kernel) (by decide +kernel)
set_option maxRecDepth 20000 in
theorem gL_law_X3_rule : GoodIn wsL_law (wsV RL 30 RX3 yX3_rule wsX3_rule) := goodIn_app (goodIn_of _ (by decide +kernel)) ggL_law_X3_rule
set_option maxRecDepth 20000 in
theorem ggL_law_X4_rule : GoodIn wsL_law wsX4_rule := goodIn_r _ [197, 198, 199, 118, 119, 5, 120, 121, 122, 123, 143, 144, 145, 146, 68, 200, 201, 202, 203, 85, 87, 147, 148, 149, 150, 84, 204, 205, 206, 207, 208, 209, 210, 211, 212, 213, 214, 215, 216, 481, 482, 483, 484, 485, 486, 487, 488, 489, 490, 491, 492, 493, 494, 495, 496, 497, 498, 499] (by decide +kernel) (by decide +kernel)
set_option maxRecDepth 20000 in
theorem gL_law_X4_rule : GoodIn wsL_law (wsV RL 34 RX4 yX4_rule wsX4_rule) := goodIn_app (goodIn_of _ (by decide +kernel)) ggL_law_X4_rule
set_option maxRecDepth 20000 in
theorem ggL_law_X3_result : GoodIn wsL_law wsX3_result := goodIn_r _ [220, 29, 467, 468, 469, 470, 471, 472, 473, 474, 475, 476, 477, 478, 479, 480] (by decide +kernel) (by decide +kernel)
set_option maxRecDepth 20000 in
theorem gL_law_X3_result : GoodIn wsL_law (wsV RL 35 RX3 yX3_result wsX3_result) := goodIn_app (goodIn_of _ (by decide +kernel)) ggL_law_X3_result
set_option maxRecDepth 20000 in
theorem ggL_law_X4_result : GoodIn wsL_law wsX4_result := goodIn_r _ [224, 199, 481, 482, 483, 484, 485, 486, 487, 488, 489, 490, 491, 492, 493, 494, 495, 496, 497, 498, 499] (by decide +kernel) (by decide +kernel)
set_option maxRecDepth 20000 in
theorem gL_law_X4_result : GoodIn wsL_law (wsV RL 39 RX4 yX4_result wsX4_result) := goodIn_app (goodIn_of _ (by decide +kernel)) ggL_law_X4_result
set_option maxRecDepth 20000 in
theorem ggL_law_X3_fail : GoodIn wsL_law wsX3_fail := goodIn_r _ [228, 100, 101, 102, 2, 103, 17, 19, 21, 229, 230, 231, 500, 501, 502, 503, 504, 505, 506, 467, 468, 469, 470, 471, 472, 473, 474, 475, 476, 477, 478, 479, 480] (by decide +kernel) (by decide +kernel)
set_option maxRecDepth 20000 in
theorem gL_law_X3_fail : GoodIn wsL_law (wsV RL 40 RX3 yX3_fail wsX3_fail) := goodIn_app (goodIn_of _ (by decide +kernel)) ggL_law_X3_fail
set_option maxRecDepth 20000 in
theorem ggL_law_X4_fail : GoodIn wsL_law wsX4_fail := goodIn_r _ [235, 85, 87, 118, 119, 5, 120, 121, 122, 123, 481, 482, 483, 484, 485, 486, 487, 488, 489, 490, 491, 492, 493, 494, 495, 496, 497, 498, 499] (by decide +kernel) (by decide +kernel)
set_option maxRecDepth 20000 in
theorem gL_law_X4_fail : GoodIn wsL_law (wsV RL 44 RX4 yX4_fail wsX4_fail) := goodIn_app (goodIn_of _ (by decide +kernel)) ggL_law_X4_fail
set_option maxRecDepth 20000 in
theorem ggL_law_X3_started : GoodIn wsL_law wsX3_started := goodIn_r _ [239, 100, 101, 102, 2, 103, 17, 19, 21, 500, 501, 502, 503, 504, 505, 506, 467, 468, 469, 470, 471, 472, 473, 474, 475, 476, 477, 478, 479, 480] (by decide +kernel) (by decide +kernel)
set_option maxRecDepth 20000 in
theorem gL_law_X3_started : GoodIn wsL_law (wsV RL 45 RX3 yX3_started wsX3_started) := goodIn_app (goodIn_of _ (by decide +kernel)) ggL_law_X3_started
set_option maxRecDepth 20000 in
theorem ggL_law_X4_started : GoodIn wsL_law wsX4_started := goodIn_r _ [243, 85, 118, 119, 5, 120, 121, 122, 123, 481, 482, 483, 484, 485, 486, 487, 488, 489, 490, 491, 492, 493, 494, 495, 496, 497, 498, 499] (by decide +kernel) (by decide +kernel)
set_option maxRecDepth 20000 in
theorem gL_law_X4_started : GoodIn wsL_law (wsV RL 49 RX4 yX4_started wsX4_started) := goodIn_app (goodIn_of _ (by decide +kernel)) ggL_law_X4_started
set_option maxRecDepth 20000 in
theorem ggL_law_X3_clear : GoodIn wsL_law wsX3_clear := goodIn_r _ [247, 248, 249, 250, 2, 251, 23, 100, 101, 102, 103, 17, 19, 21, 252, 39, 253, 254, 62, 255, 256, 257, 258, 259, 260, 261, 262, 263, 264, 63, 467, 468, 469, 470, 471, 472, 473, 474, 475, 476, 477, 478, 479, 480, 512, 513] (by decide +kernel) (by decide +kernel)
set_option maxRecDepth 20000 in
theorem gL_law_X3_clear : GoodIn wsL_law (wsV RL 50 RX3 yX3_clear wsX3_clear) := goodIn_app (goodIn_of _ (by decide +kernel)) ggL_law_X3_clear
set_option maxRecDepth 20000 in
theorem ggL_law_X4_clear : GoodIn wsL_law wsX4_clear := goodIn_r _ [268, 89, 88, 269, 270, 5, 271, 121, 122, 123, 118, 119, 120, 272, 273, 274, 481, 482, 483, 484, 485, 486, 487, 488, 489, 490, 491, 492, 493, 494, 495, 496, 497, 498, 499] (by decide +kernel) (by decide +kernel)
set_option maxRecDepth 20000 in
theorem gL_law_X4_clear : GoodIn wsL_law (wsV RL 54 RX4 yX4_clear wsX4_clear) := goodIn_app (goodIn_of _ (by decide +kernel)) ggL_law_X4_clear
set_option maxRecDepth 20000 in
theorem ggL_law_X3_put : GoodIn wsL_law wsX3_put := goodIn_r _ [278, 248, 249, 250, 2, 251, 23, 111, 15, 112, 113, 47, 133, 134, 135, 48, 110, 279, 39, 280, 281, 63, 62, 229, 230, 231, 512, 513, 467, 468, 469, 470, 471, 472, 473, 474, 475, 476, 477, 478, 479, 480, 500, 501, 502, 503, 504, 505, 506] (by decide +kernel) (by decide +kernel)
set_option maxRecDepth 20000 in
theorem gL_law_X3_put : GoodIn wsL_law (wsV RL 55 RX3 yX3_put wsX3_put) := goodIn_app (goodIn_of _ (by decide +kernel)) ggL_law_X3_put
set_option maxRecDepth 20000 in
theorem ggL_law_X4_put : GoodIn wsL_law wsX4_put := goodIn_r _ [285, 88, 89, 269, 270, 5, 271, 121, 122, 123, 143, 144, 145, 146, 68, 147, 148, 149, 150, 84, 481, 482, 483, 484, 485, 486, 487, 488, 489, 490, 491, 492, 493, 494, 495, 496, 497, 498, 499] (by decide +kernel) (by decide +kernel)
set_option maxRecDepth 20000 in
theorem gL_law_X4_put : GoodIn wsL_law (wsV RL 59 RX4 yX4_put wsX4_put) := goodIn_app (goodIn_of _ (by decide +kernel)) ggL_law_X4_put
set_option maxRecDepth 20000 in
theorem ggL_law_X3_join : GoodIn wsL_law wsX3_join := goodIn_r _ [289, 248, 249, 250, 2, 251, 23, 290, 291, 292, 262, 39, 263, 264, 63, 62, 252, 253, 254, 255, 256, 257, 258, 259, 260, 261, 512, 513, 467, 468, 469, 470, 471, 472, 473, 474, 475, 476, 477, 478, 479, 480, 500, 501, 502, 503, 504, 505, 506] (by decide +kernel) (by decide +kernel)
set_option maxRecDepth 20000 in
theorem gL_law_X3_join : GoodIn wsL_law (wsV RL 60 RX3 yX3_join wsX3_join) := goodIn_app (goodIn_of _ (by decide +kernel)) ggL_law_X3_join
set_option maxRecDepth 20000 in
theorem ggL_law_X4_join : GoodIn wsL_law wsX4_join := goodIn_r _ [296, 88, 68, 89, 121, 122, 5, 123, 269, 270, 271, 272, 273, 274, 481, 482, 483, 484, 485, 486, 487, 488, 489, 490, 491, 492, 493, 494, 495, 496, 497, 498, 499] (by decide +kernel) (by decide +kernel)
set_option maxRecDepth 20000 in
theorem gL_law_X4_join : GoodIn wsL_law (wsV RL 64 RX4 yX4_join wsX4_join) := goodIn_app (goodIn_of _ (by decide +kernel)) ggL_law_X4_join
set_option maxRecDepth 20000 in
theorem ggL_law_X3_member : GoodIn wsL_law wsX3_member := goodIn_r _ [300, 248, 249, 250, 2, 251, 23, 133, 15, 134, 135, 48, 110, 111, 112, 113, 47, 279, 39, 280, 281, 63, 62, 512, 513, 500, 501, 502, 503, 504, 505, 506, 467, 468, 469, 470, 471, 472, 473, 474, 475, 476, 477, 478, 479, 480] (by decide +kernel) (by decide +kernel)
set_option maxRecDepth 20000 in
theorem gL_law_X3_member : GoodIn wsL_law (wsV RL 65 RX3 yX3_member wsX3_member) := goodIn_app (goodIn_of _ (by decide +kernel)) ggL_law_X3_member
set_option maxRecDepth 20000 in
theorem ggL_law_X4_member : GoodIn wsL_law wsX4_member := goodIn_r _ [304, 68, 88, 89, 269, 270, 5, 271, 121, 122, 123, 147, 148, 149, 150, 84, 143, 144, 145, 146, 481, 482, 483, 484, 485, 486, 487, 488, 489, 490, 491, 492, 493, 494, 495, 496, 497, 498, 499] (by decide +kernel) (by decide +kernel)
set_option maxRecDepth 20000 in
theorem gL_law_X4_member : GoodIn wsL_law (wsV RL 68 RX4 yX4_member wsX4_member) := goodIn_app (goodIn_of _ (by decide +kernel)) ggL_law_X4_member
set_option maxRecDepth 20000 in
theorem ggL_law_X3_about : GoodIn wsL_law wsX3_about := goodIn_r _ [308, 248, 249, 250, 2, 251, 23, 252, 39, 253, 254, 62, 255, 256, 257, 258, 259, 260, 261, 512, 513, 500, 501, 502, 503, 504, 505, 506, 467, 468, 469, 470, 471, 472, 473, 474, 475, 476, 477, 478, 479, 480] (by decide +kernel) (by decide +kernel)
set_option maxRecDepth 20000 in
theorem gL_law_X3_about : GoodIn wsL_law (wsV RL 69 RX3 yX3_about wsX3_about) := goodIn_app (goodIn_of _ (by decide +kernel)) ggL_law_X3_about
set_option maxRecDepth 20000 in
theorem ggL_law_X4_about : GoodIn wsL_law wsX4_about := goodIn_r _ [312, 89, 88, 269, 270, 5, 271, 121, 122, 123, 272, 273, 274, 481, 482, 483, 484, 485, 486, 487, 488, 489, 490, 491, 492, 493, 494, 495, 496, 497, 498, 499] (by decide +kernel) (by decide +kernel)
set_option maxRecDepth 20000 in
theorem gL_law_X4_about : GoodIn wsL_law (wsV RL 72 RX4 yX4_about wsX4_about) := goodIn_app (goodIn_of _ (by decide +kernel)) ggL_law_X4_about
set_option maxRecDepth 20000 in
theorem ggL_law_X3_record : GoodIn wsL_law wsX3_record := goodIn_r _ [316, 33, 317, 318, 319, 2, 320, 27, 28, 321, 322, 323, 324, 325, 326, 327, 328, 21, 133, 15, 134, 135, 48, 110, 111, 112, 113, 47, 329, 330, 331, 332, 31, 34, 35, 333, 334, 335, 336, 337, 338, 339, 340, 341, 342, 343, 344, 507, 508, 509, 510, 511, 467, 468, 469, 470, 471, 472, 473, 474, 475, 476, 477, 478, 479, 480, 500, 501, 502, 503, 504, 505, 506] (by decide +kernel) (by decide +kernel)
set_option maxRecDepth 20000 in
theorem gL_law_X3_record : GoodIn wsL_law (wsV RL 73 RX3 yX3_record wsX3_record) := goodIn_app (goodIn_of _ (by decide +kernel)) ggL_law_X3_record
set_option maxRecDepth 20000 in
theorem ggL_law_X4_record : GoodIn wsL_law wsX4_record := goodIn_r _ [348, 90, 95, 349, 91, 350, 351, 5, 352, 147, 148, 149, 150, 84, 143, 144, 145, 146, 68, 121, 122, 123, 353, 354, 355, 356, 357, 358, 359, 360, 361, 92, 93, 481, 482, 483, 484, 485, 486, 487, 488, 489, 490, 491, 492, 493, 494, 495, 496, 497, 498, 499] (by decide +kernel) (by decide +kernel)
set_option maxRecDepth 20000 in
theorem gL_law_X4_record : GoodIn wsL_law (wsV RL 77 RX4 yX4_record wsX4_record) := goodIn_app (goodIn_of _ (by decide +kernel)) ggL_law_X4_record
set_option maxRecDepth 20000 in
theorem ggL_law_X3_lay : GoodIn wsL_law wsX3_lay := goodIn_r _ [365, 317, 318, 319, 2, 320, 27, 28, 366, 26, 367, 368, 53, 369, 370, 371, 55, 321, 322, 323, 324, 325, 326, 327, 328, 21, 133, 15, 134, 135, 48, 110, 111, 112, 113, 47, 507, 508, 509, 510, 511, 467, 468, 469, 470, 471, 472, 473, 474, 475, 476, 477, 478, 479, 480, 500, 501, 502, 503, 504, 505, 506] (by decide +kernel) (by decide +kernel)
set_option maxRecDepth 20000 in
theorem gL_law_X3_lay : GoodIn wsL_law (wsV RL 78 RX3 yX3_lay wsX3_lay) := goodIn_app (goodIn_of _ (by decide +kernel)) ggL_law_X3_lay
set_option maxRecDepth 20000 in
theorem ggL_law_X4_lay : GoodIn wsL_law wsX4_lay := goodIn_r _ [375, 91, 376, 377, 378, 5, 379, 90, 350, 351, 352, 121, 122, 123, 380, 381, 382, 383, 384, 385, 147, 148, 149, 150, 84, 143, 144, 145, 146, 68, 481, 482, 483, 484, 485, 486, 487, 488, 489, 490, 491, 492, 493, 494, 495, 496, 497, 498, 499] (by decide +kernel) (by decide +kernel)
set_option maxRecDepth 20000 in
theorem gL_law_X4_lay : GoodIn wsL_law (wsV RL 81 RX4 yX4_lay wsX4_lay) := goodIn_app (goodIn_of _ (by decide +kernel)) ggL_law_X4_lay
set_option maxRecDepth 20000 in
theorem ggL_law_X3_cell : GoodIn wsL_law wsX3_cell := goodIn_r _ [389, 390, 317, 318, 319, 2, 320, 27, 28, 366, 26, 367, 368, 53, 369, 370, 371, 55, 391, 392, 393, 394, 325, 326, 327, 328, 21, 107, 15, 108, 109, 49, 110, 111, 112, 113, 47, 507, 508, 509, 510, 511, 467, 468, 469, 470, 471, 472, 473, 474, 475, 476, 477, 478, 479, 480, 500, 501, 502, 503, 504, 505, 506] (by decide +kernel) (by decide +kernel)
set_option maxRecDepth 20000 in
theorem gL_law_X3_cell : GoodIn wsL_law (wsV RL 82 RX3 yX3_cell wsX3_cell) := goodIn_app (goodIn_of _ (by decide +kernel)) ggL_law_X3_cell
set_option maxRecDepth 20000 in
theorem ggL_law_X4_cell : GoodIn wsL_law wsX4_cell := goodIn_r _ [398, 91, 399, 376, 377, 378, 5, 379, 90, 350, 351, 352, 121, 122, 123, 380, 381, 382, 400, 401, 402, 403, 383, 384, 385, 404, 405, 406, 407, 83, 481, 482, 483, 484, 485, 486, 487, 488, 489, 490, 491, 492, 493, 494, 495, 496, 497, 498, 499] (by decide +kernel) (by decide +kernel)
set_option maxRecDepth 20000 in
theorem gL_law_X4_cell : GoodIn wsL_law (wsV RL 85 RX4 yX4_cell wsX4_cell) := goodIn_app (goodIn_of _ (by decide +kernel)) ggL_law_X4_cell
set_option maxRecDepth 20000 in
theorem ggL_law_X3_back : GoodIn wsL_law wsX3_back := goodIn_r _ [411, 317, 318, 319, 2, 320, 27, 28, 366, 26, 367, 368, 53, 412, 413, 414, 415, 33, 329, 330, 331, 332, 31, 34, 35, 333, 334, 335, 336, 337, 338, 339, 340, 341, 325, 326, 327, 328, 21, 342, 343, 344, 467, 468, 469, 470, 471, 472, 473, 474, 475, 476, 477, 478, 479, 480, 507, 508, 509, 510, 511, 500, 501, 502, 503, 504, 505, 506] (by decide +kernel) (by decide +kernel)
set_option maxRecDepth 20000 in
theorem gL_law_X3_back : GoodIn wsL_law (wsV RL 86 RX3 yX3_back wsX3_back) := goodIn_app (goodIn_of _ (by decide +kernel)) ggL_law_X3_back
set_option maxRecDepth 20000 in
theorem ggL_law_X4_back : GoodIn wsL_law wsX4_back := goodIn_r _ [419, 91, 349, 376, 377, 378, 5, 379, 90, 350, 351, 352, 121, 122, 123, 380, 381, 382, 353, 354, 355, 356, 357, 358, 359, 360, 361, 92, 93, 481, 482, 483, 484, 485, 486, 487, 488, 489, 490, 491, 492, 493, 494, 495, 496, 497, 498, 499] (by decide +kernel) (by decide +kernel)
set_option maxRecDepth 20000 in
theorem gL_law_X4_back : GoodIn wsL_law (wsV RL 89 RX4 yX4_back wsX4_back) := goodIn_app (goodIn_of _ (by decide +kernel)) ggL_law_X4_back
set_option maxRecDepth 20000 in
theorem ggL_law_X3_part : GoodIn wsL_law wsX3_part := goodIn_r _ [423, 35, 34, 369, 26, 370, 371, 55, 391, 392, 393, 2, 394, 325, 326, 327, 328, 27, 21, 107, 15, 108, 109, 49, 110, 111, 112, 113, 47, 467, 468, 469, 470, 471, 472, 473, 474, 475, 476, 477, 478, 479, 480, 507, 508, 509, 510, 511, 500, 501, 502, 503, 504, 505, 506] (by decide +kernel) (by decide +kernel)
set_option maxRecDepth 20000 in
theorem gL_law_X3_part : GoodIn wsL_law (wsV RL 90 RX3 yX3_part wsX3_part) := goodIn_app (goodIn_of _ (by decide +kernel)) ggL_law_X3_part
set_option maxRecDepth 20000 in
theorem ggL_law_X4_part : GoodIn wsL_law wsX4_part := goodIn_r _ [427, 92, 93, 380, 381, 5, 382, 121, 122, 123, 400, 401, 402, 403, 383, 384, 385, 404, 405, 406, 407, 83, 481, 482, 483, 484, 485, 486, 487, 488, 489, 490, 491, 492, 493, 494, 495, 496, 497, 498, 499] (by decide +kernel) (by decide +kernel)
set_option maxRecDepth 20000 in
theorem gL_law_X4_part : GoodIn wsL_law (wsV RL 93 RX4 yX4_part wsX4_part) := goodIn_app (goodIn_of _ (by decide +kernel)) ggL_law_X4_part
set_option maxRecDepth 20000 in
theorem ggL_law_X3_filter : GoodIn wsL_law wsX3_filter := goodIn_r _ [431, 37, 33, 317, 318, 319, 2, 320, 27, 28, 248, 249, 250, 251, 23, 369, 26, 370, 371, 55, 412, 413, 414, 415, 366, 367, 368, 53, 391, 392, 393, 394, 325, 326, 327, 328, 21, 107, 15, 108, 109, 49, 110, 111, 112, 113, 47, 333, 334, 335, 336, 337, 338, 339, 340, 341, 342, 343, 344, 279, 39, 280, 281, 63, 62, 432, 433, 434, 435, 36, 512, 513, 507, 508, 509, 510, 511, 467, 468, 469, 470, 471, 472, 473, 474, 475, 476, 477, 478, 479, 480, 500, 501, 502, 503, 504, 505, 506] (by decide +kernel) (by decide +kernel)
set_option maxRecDepth 20000 in
theorem gL_law_X3_filter : GoodIn wsL_law (wsV RL 94 RX3 yX3_filter wsX3_filter) := goodIn_app (goodIn_of _ (by decide +kernel)) ggL_law_X3_filter
set_option maxRecDepth 20000 in
theorem ggL_law_X4_filter : GoodIn wsL_law wsX4_filter := goodIn_r _ [439, 88, 440, 90, 91, 89, 94, 350, 351, 5, 352, 269, 270, 271, 121, 122, 123, 380, 381, 382, 353, 354, 355, 356, 357, 400, 401, 402, 403, 383, 384, 385, 404, 405, 406, 407, 83, 481, 482, 483, 484, 485, 486, 487, 488, 489, 490, 491, 492, 493, 494, 495, 496, 497, 498, 499] (by decide +kernel) (by decide +kernel)
set_option maxRecDepth 20000 in
theorem gL_law_X4_filter : GoodIn wsL_law (wsV RL 97 RX4 yX4_filter wsX4_filter) := goodIn_app (goodIn_of _ (by decide +kernel)) ggL_law_X4_filter
set_option maxRecDepth 20000 in
theorem ggL_law_X3_found : GoodIn wsL_law wsX3_found := goodIn_r _ [444, 37, 36, 467, 468, 469, 470, 471, 472, 473, 474, 475, 476, 477, 478, 479, 480] (by decide +kernel) (by decide +kernel)
set_option maxRecDepth 20000 in
theorem gL_law_X3_found : GoodIn wsL_law (wsV RL 98 RX3 yX3_found wsX3_found) := goodIn_app (goodIn_of _ (by decide +kernel)) ggL_law_X3_found
set_option maxRecDepth 20000 in
theorem ggL_law_X4_found : GoodIn wsL_law wsX4_found := goodIn_r _ [448, 440, 94, 121, 122, 5, 123, 481, 482, 483, 484, 485, 486, 487, 488, 489, 490, 491, 492, 493, 494, 495, 496, 497, 498, 499] (by decide +kernel) (by decide +kernel)
set_option maxRecDepth 20000 in
theorem gL_law_X4_found : GoodIn wsL_law (wsV RL 101 RX4 yX4_found wsX4_found) := goodIn_app (goodIn_of _ (by decide +kernel)) ggL_law_X4_found
set_option maxRecDepth 20000 in
theorem ggL_law_X3_sum : GoodIn wsL_law wsX3_sum := goodIn_r _ [452, 453, 33, 317, 318, 319, 2, 320, 27, 28, 412, 413, 414, 415, 366, 26, 367, 368, 53, 333, 334, 335, 336, 337, 338, 339, 340, 341, 325, 326, 327, 328, 21, 342, 343, 344, 171, 172, 173, 174, 19, 30, 175, 15, 176, 177, 43, 44, 178, 179, 180, 181, 182, 183, 184, 185, 186, 187, 188, 189, 190, 191, 192, 193, 507, 508, 509, 510, 511, 467, 468, 469, 470, 471, 472, 473, 474, 475, 476, 477, 478, 479, 480, 500, 501, 502, 503, 504, 505, 506] (by decide +kernel) (by decide +kernel)
set_option maxRecDepth 20000 in
theorem gL_law_X3_sum : GoodIn wsL_law (wsV RL 102 RX3 yX3_sum wsX3_sum) := goodIn_app (goodIn_of _ (by decide +kernel)) ggL_law_X3_sum
set_option maxRecDepth 20000 in
theorem ggL_law_X4_sum : GoodIn wsL_law wsX4_sum := goodIn_r _ [457, 458, 90, 91, 198, 350, 351, 5, 352, 353, 354, 355, 356, 357, 121, 122, 123, 200, 201, 202, 203, 85, 87, 204, 205, 206, 207, 208, 209, 210, 211, 212, 213, 214, 215, 216, 481, 482, 483, 484, 485, 486, 487, 488, 489, 490, 491, 492, 493, 494, 495, 496, 497, 498, 499] (by decide +kernel) (by decide +kernel)
set_option maxRecDepth 20000 in
theorem gL_law_X4_sum : GoodIn wsL_law (wsV RL 106 RX4 yX4_sum wsX4_sum) := goodIn_app (goodIn_of _ (by decide +kernel)) ggL_law_X4_sum
set_option maxRecDepth 20000 in
theorem ggL_law_X3_count : GoodIn wsL_law wsX3_count := goodIn_r _ [462, 27, 28, 30, 31, 467, 468, 469, 470, 471, 472, 473, 474, 475, 476, 477, 478, 479, 480, 507, 508, 509, 510, 511] (by decide +kernel) (by decide +kernel)
set_option maxRecDepth 20000 in
theorem gL_law_X3_count : GoodIn wsL_law (wsV RL 107 RX3 yX3_count wsX3_count) := goodIn_app (goodIn_of _ (by decide +kernel)) ggL_law_X3_count
set_option maxRecDepth 20000 in
theorem ggL_law_X4_count : GoodIn wsL_law wsX4_count := goodIn_r _ [466, 90, 216, 349, 481, 482, 483, 484, 485, 486, 487, 488, 489, 490, 491, 492, 493, 494, 495, 496, 497, 498, 499] (by decide +kernel) (by decide +kernel)
set_option maxRecDepth 20000 in
theorem gL_law_X4_count : GoodIn wsL_law (wsV RL 110 RX4 yX4_count wsX4_count) := goodIn_app (goodIn_of _ (by decide +kernel)) ggL_law_X4_count
