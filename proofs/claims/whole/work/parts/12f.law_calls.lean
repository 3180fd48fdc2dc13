set_option maxRecDepth 20000 in
theorem ggL_law_X3_init : GoodIn wsL_law wsX3_init := goodIn_r _ [9, 10, 11, 12, 13, 14, 15, 16, 17, 18, 19, 20, 21, 22, 23, 24, 25, 26, 27, 28, 29, 30, 31, 32, 33, 34, 35, 36, 37, 38, 39, 40, 41, 42, 43, 44, 45, 46, 47, 48, 49, 50, 51, 52, 53, 54, 55, 56, 57, 58, 59, 60, 61, 62, 63, 488, 489, 490, 491, 492, 493, 494, 455, 456, 457, 458, 459, 460, 461, 462, 463, 464, 465, 466, 467, 468, 495, 496, 497, 498, 499, 500, 501] (by decide +kernel) (by decide +kernel)
set_option maxRecDepth 20000 in
theorem gL_law_X3_init : GoodIn wsL_law (wsX3_init) := ggL_law_X3_init
set_option maxRecDepth 20000 in
theorem ggL_law_X4_init : GoodIn wsL_law wsX4_init := goodIn_r _ [66, 67, 11, 12, 32, 68, 69, 70, 71, 72, 73, 74, 75, 76, 77, 78, 79, 80, 81, 82, 83, 84, 85, 86, 87, 88, 89, 90, 91, 92, 93, 94, 95, 469, 470, 471, 472, 473, 474, 475, 476, 477, 478, 479, 480, 481, 482, 483, 484, 485, 486, 487] (by decide +kernel) (by decide +kernel)
set_option maxRecDepth 20000 in
theorem gL_law_X4_init : GoodIn wsL_law (wsX4_init) := ggL_law_X4_init
set_option maxRecDepth 20000 in
theorem ggL_law_X3_code : GoodIn wsL_law wsX3_code := goodIn_r _ [99, 100, 101, 102, 2, 103, 17, 19, 21, 104, 15, 105, 106, 47, 46, 107, 108, 109, 49, 110, 111, 112, 113, 455, 456, 457, 458, 459, 460, 461, 462, 463, 464, 465, 466, 467, 468, 488, 489, 490, 491, 492, 493, 494] (by decide +kernel) (by decide +kernel)
set_option maxRecDepth 20000 in
theorem gL_law_X3_code : GoodIn wsL_law (wsV RL 15 RX3 yX3_code wsX3_code) := goodIn_app (goodIn_of _ (by decide +kernel)) ggL_law_X3_code
set_option maxRecDepth 20000 in
theorem ggL_law_X4_code : GoodIn wsL_law wsX4_code := goodIn_r _ [117, 68, 83, 118, 119, 5, 120, 121, 122, 123, 124, 125, 126, 127, 128, 82, 469, 470, 471, 472, 473, 474, 475, 476, 477, 478, 479, 480, 481, 482, 483, 484, 485, 486, 487] (by decide +kernel) (by decide +kernel)
set_option maxRecDepth 20000 in
theorem gL_law_X4_code : GoodIn wsL_law (wsV RL 19 RX4 yX4_code wsX4_code) := goodIn_app (goodIn_of _ (by decide +kernel)) ggL_law_X4_code
set_option maxRecDepth 20000 in
theorem ggL_law_X3_name : GoodIn wsL_law wsX3_name := goodIn_r _ [132, 100, 101, 102, 2, 103, 17, 19, 21, 111, 15, 112, 113, 47, 488, 489, 490, 491, 492, 493, 494, 455, 456, 457, 458, 459, 460, 461, 462, 463, 464, 465, 466, 467, 468] (by decide +kernel) (by decide +kernel)
set_option maxRecDepth 20000 in
theorem gL_law_X3_name : GoodIn wsL_law (wsV RL 20 RX3 yX3_name wsX3_name) := goodIn_app (goodIn_of _ (by decide +kernel)) ggL_law_X3_name
set_option maxRecDepth 20000 in
theorem ggL_law_X4_name : GoodIn wsL_law wsX4_name := goodIn_r _ [136, 118, 119, 5, 120, 121, 122, 123, 137, 138, 139, 140, 68, 141, 142, 143, 144, 84, 124, 125, 126, 127, 128, 82, 469, 470, 471, 472, 473, 474, 475, 476, 477, 478, 479, 480, 481, 482, 483, 484, 485, 486, 487] (by decide +kernel) (by decide +kernel)
set_option maxRecDepth 20000 in
theorem gL_law_X4_name : GoodIn wsL_law (wsV RL 24 RX4 yX4_name wsX4_name) := goodIn_app (goodIn_of _ (by decide +kernel)) ggL_law_X4_name
set_option maxRecDepth 20000 in
theorem ggL_law_X3_swap : GoodIn wsL_law wsX3_swap := goodIn_r _ [148, 100, 101, 102, 2, 103, 17, 19, 21, 111, 15, 112, 113, 47, 149, 150, 151, 48, 49, 110, 455, 456, 457, 458, 459, 460, 461, 462, 463, 464, 465, 466, 467, 468, 488, 489, 490, 491, 492, 493, 494] (by decide +kernel) (by decide +kernel)
set_option maxRecDepth 20000 in
theorem gL_law_X3_swap : GoodIn wsL_law (wsV RL 25 RX3 yX3_swap wsX3_swap) := goodIn_app (goodIn_of _ (by decide +kernel)) ggL_law_X3_swap
set_option maxRecDepth 20000 in
theorem ggL_law_X4_swap : GoodIn wsL_law wsX4_swap := goodIn_r _ [155, 83, 84, 118, 119, 5, 120, 121, 122, 123, 137, 138, 139, 140, 68, 141, 142, 143, 144, 469, 470, 471, 472, 473, 474, 475, 476, 477, 478, 479, 480, 481, 482, 483, 484, 485, 486, 487] (by decide +kernel) (by decide +kernel)
set_option maxRecDepth 20000 in
theorem gL_law_X4_swap : GoodIn wsL_law (wsV RL 29 RX4 yX4_swap wsX4_swap) := goodIn_app (goodIn_of _ (by decide +kernel)) ggL_law_X4_swap
set_option maxRecDepth 20000 in
theorem ggL_law_X3_rule : GoodIn wsL_law wsX3_rule := goodIn_r _ [159, 29, 100, 101, 102, 2, 103, 17, 19, 21, 111, 15, 112, 113, 47, 160, 161, 162, 48, 110, 163, 164, 165, 166, 30, 167, 168, 169, 43, 44, 170, 171, 172, 173, 174, 175, 176, 177, 178, 179, 180, 181, 182, 183, 184, 185, 455, 456, 457, 458, 459, 460, 461, 462, 463, 464, 465, 466, 467, 468, 488, 489, 490, 491, 492, 493, 494] (by decide +kernel) (by decide +kernel)
set_option maxRecDepth 20000 in
theorem gL_law_X3_rule : GoodIn wsL_law (wsV RL 30 RX3 yX3_rule wsX3_rule) := goodIn_app (goodIn_of _ (by decide +kernel)) ggL_law_X3_rule
set_option maxRecDepth 20000 in
theorem ggL_law_X4_rule : GoodIn wsL_law wsX4_rule := goodIn_r _ [189, 190, 191, 118, 119, 5, 120, 121, 122, 123, 137, 138, 139, 140, 68, 192, 193, 194, 195, 85, 87, 141, 142, 143, 144, 84, 196, 197, 198, 199, 200, 201, 202, 203, 204, 205, 206, 207, 208, 469, 470, 471, 472, 473, 474, 475, 476, 477, 478, 479, 480, 481, 482, 483, 484, 485, 486, 487] (by decide +kernel) (by decide +kernel)
set_option maxRecDepth 20000 in
theorem gL_law_X4_rule : GoodIn wsL_law (wsV RL 34 RX4 yX4_rule wsX4_rule) := goodIn_app (goodIn_of _ (by decide +kernel)) ggL_law_X4_rule
set_option maxRecDepth 20000 in
theorem ggL_law_X3_result : GoodIn wsL_law wsX3_result := goodIn_r _ [212, 29, 455, 456, 457, 458, 459, 460, 461, 462, 463, 464, 465, 466, 467, 468] (by decide +kernel) (by decide +kernel)
set_option maxRecDepth 20000 in
theorem gL_law_X3_result : GoodIn wsL_law (wsV RL 35 RX3 yX3_result wsX3_result) := goodIn_app (goodIn_of _ (by decide +kernel)) ggL_law_X3_result
set_option maxRecDepth 20000 in
theorem ggL_law_X4_result : GoodIn wsL_law wsX4_result := goodIn_r _ [216, 191, 469, 470, 471, 472, 473, 474, 475, 476, 477, 478, 479, 480, 481, 482, 483, 484, 485, 486, 487] (by decide +kernel) (by decide +kernel)
set_option maxRecDepth 20000 in
theorem gL_law_X4_result : GoodIn wsL_law (wsV RL 39 RX4 yX4_result wsX4_result) := goodIn_app (goodIn_of _ (by decide +kernel)) ggL_law_X4_result
set_option maxRecDepth 20000 in
theorem ggL_law_X3_fail : GoodIn wsL_law wsX3_fail := goodIn_r _ [220, 100, 101, 102, 2, 103, 17, 19, 21, 221, 222, 223, 488, 489, 490, 491, 492, 493, 494, 455, 456, 457, 458, 459, 460, 461, 462, 463, 464, 465, 466, 467, 468] (by decide +kernel) (by decide +kernel)
set_option maxRecDepth 20000 in
theorem gL_law_X3_fail : GoodIn wsL_law (wsV RL 40 RX3 yX3_fail wsX3_fail) := goodIn_app (goodIn_of _ (by decide +kernel)) ggL_law_X3_fail
set_option maxRecDepth 20000 in
theorem ggL_law_X4_fail : GoodIn wsL_law wsX4_fail := goodIn_r _ [227, 85, 87, 118, 119, 5, 120, 121, 122, 123, 469, 470, 471, 472, 473, 474, 475, 476, 477, 478, 479, 480, 481, 482, 483, 484, 485, 486, 487] (by decide +kernel) (by decide +kernel)
set_option maxRecDepth 20000 in
theorem gL_law_X4_fail : GoodIn wsL_law (wsV RL 44 RX4 yX4_fail wsX4_fail) := goodIn_app (goodIn_of _ (by decide +kernel)) ggL_law_X4_fail
set_option maxRecDepth 20000 in
theorem ggL_law_X3_started : GoodIn wsL_law wsX3_started := goodIn_r _ [231, 100, 101, 102, 2, 103, 17, 19, 21, 488, 489, 490, 491, 492, 493, 494, 455, 456, 457, 458, 459, 460, 461, 462, 463, 464, 465, 466, 467, 468] (by decide +kernel) (by decide +kernel)
set_option maxRecDepth 20000 in
theorem gL_law_X3_started : GoodIn wsL_law (wsV RL 45 RX3 yX3_started wsX3_started) := goodIn_app (goodIn_of _ (by decide +kernel)) ggL_law_X3_started
set_option maxRecDepth 20000 in
theorem ggL_law_X4_started : GoodIn wsL_law wsX4_started := goodIn_r _ [235, 85, 118, 119, 5, 120, 121, 122, 123, 469, 470, 471, 472, 473, 474, 475, 476, 477, 478, 479, 480, 481, 482, 483, 484, 485, 486, 487] (by decide +kernel) (by decide +kernel)
set_option maxRecDepth 20000 in
theorem gL_law_X4_started : GoodIn wsL_law (wsV RL 49 RX4 yX4_started wsX4_started) := goodIn_app (goodIn_of _ (by decide +kernel)) ggL_law_X4_started
set_option maxRecDepth 20000 in
theorem ggL_law_X3_clear : GoodIn wsL_law wsX3_clear := goodIn_r _ [239, 240, 241, 242, 2, 243, 23, 100, 101, 102, 103, 17, 19, 21, 244, 39, 245, 246, 62, 247, 248, 249, 250, 251, 252, 253, 254, 255, 256, 63, 455, 456, 457, 458, 459, 460, 461, 462, 463, 464, 465, 466, 467, 468, 500, 501] (by decide +kernel) (by decide +kernel)
set_option maxRecDepth 20000 in
theorem gL_law_X3_clear : GoodIn wsL_law (wsV RL 50 RX3 yX3_clear wsX3_clear) := goodIn_app (goodIn_of _ (by decide +kernel)) ggL_law_X3_clear
set_option maxRecDepth 20000 in
theorem ggL_law_X4_clear : GoodIn wsL_law wsX4_clear := goodIn_r _ [260, 89, 88, 261, 262, 5, 263, 121, 122, 123, 118, 119, 120, 264, 265, 266, 469, 470, 471, 472, 473, 474, 475, 476, 477, 478, 479, 480, 481, 482, 483, 484, 485, 486, 487] (by decide +kernel) (by decide +kernel)
set_option maxRecDepth 20000 in
theorem gL_law_X4_clear : GoodIn wsL_law (wsV RL 54 RX4 yX4_clear wsX4_clear) := goodIn_app (goodIn_of _ (by decide +kernel)) ggL_law_X4_clear
set_option maxRecDepth 20000 in
theorem ggL_law_X3_put : GoodIn wsL_law wsX3_put := goodIn_r _ [270, 240, 241, 242, 2, 243, 23, 111, 15, 112, 113, 47, 160, 161, 162, 48, 110, 271, 39, 272, 273, 63, 62, 221, 222, 223, 500, 501, 455, 456, 457, 458, 459, 460, 461, 462, 463, 464, 465, 466, 467, 468, 488, 489, 490, 491, 492, 493, 494] (by decide +kernel) (by decide +kernel)
set_option maxRecDepth 20000 in
theorem gL_law_X3_put : GoodIn wsL_law (wsV RL 55 RX3 yX3_put wsX3_put) := goodIn_app (goodIn_of _ (by decide +kernel)) ggL_law_X3_put
set_option maxRecDepth 20000 in
theorem ggL_law_X4_put : GoodIn wsL_law wsX4_put := goodIn_r _ [277, 88, 89, 261, 262, 5, 263, 121, 122, 123, 137, 138, 139, 140, 68, 141, 142, 143, 144, 84, 469, 470, 471, 472, 473, 474, 475, 476, 477, 478, 479, 480, 481, 482, 483, 484, 485, 486, 487] (by decide +kernel) (by decide +kernel)
set_option maxRecDepth 20000 in
theorem gL_law_X4_put : GoodIn wsL_law (wsV RL 59 RX4 yX4_put wsX4_put) := goodIn_app (goodIn_of _ (by decide +kernel)) ggL_law_X4_put
set_option maxRecDepth 20000 in
theorem ggL_law_X3_join : GoodIn wsL_law wsX3_join := goodIn_r _ [281, 240, 241, 242, 2, 243, 23, 282, 283, 284, 254, 39, 255, 256, 63, 62, 244, 245, 246, 247, 248, 249, 250, 251, 252, 253, 500, 501, 455, 456, 457, 458, 459, 460, 461, 462, 463, 464, 465, 466, 467, 468, 488, 489, 490, 491, 492, 493, 494] (by decide +kernel) (by decide +kernel)
set_option maxRecDepth 20000 in
theorem gL_law_X3_join : GoodIn wsL_law (wsV RL 60 RX3 yX3_join wsX3_join) := goodIn_app (goodIn_of _ (by decide +kernel)) ggL_law_X3_join
set_option maxRecDepth 20000 in
theorem ggL_law_X4_join : GoodIn wsL_law wsX4_join := goodIn_r _ [288, 88, 68, 89, 121, 122, 5, 123, 261, 262, 263, 264, 265, 266, 469, 470, 471, 472, 473, 474, 475, 476, 477, 478, 479, 480, 481, 482, 483, 484, 485, 486, 487] (by decide +kernel) (by decide +kernel)
set_option maxRecDepth 20000 in
theorem gL_law_X4_join : GoodIn wsL_law (wsV RL 64 RX4 yX4_join wsX4_join) := goodIn_app (goodIn_of _ (by decide +kernel)) ggL_law_X4_join
set_option maxRecDepth 20000 in
theorem ggL_law_X3_member : GoodIn wsL_law wsX3_member := goodIn_r _ [292, 240, 241, 242, 2, 243, 23, 160, 15, 161, 162, 48, 110, 111, 112, 113, 47, 271, 39, 272, 273, 63, 62, 500, 501, 488, 489, 490, 491, 492, 493, 494, 455, 456, 457, 458, 459, 460, 461, 462, 463, 464, 465, 466, 467, 468] (by decide +kernel) (by decide +kernel)
set_option maxRecDepth 20000 in
theorem gL_law_X3_member : GoodIn wsL_law (wsV RL 65 RX3 yX3_member wsX3_member) := goodIn_app (goodIn_of _ (by decide +kernel)) ggL_law_X3_member
set_option maxRecDepth 20000 in
theorem ggL_law_X4_member : GoodIn wsL_law wsX4_member := goodIn_r _ [296, 68, 88, 89, 261, 262, 5, 263, 121, 122, 123, 141, 142, 143, 144, 84, 137, 138, 139, 140, 469, 470, 471, 472, 473, 474, 475, 476, 477, 478, 479, 480, 481, 482, 483, 484, 485, 486, 487] (by decide +kernel) (by decide +kernel)
set_option maxRecDepth 20000 in
theorem gL_law_X4_member : GoodIn wsL_law (wsV RL 68 RX4 yX4_member wsX4_member) := goodIn_app (goodIn_of _ (by decide +kernel)) ggL_law_X4_member
set_option maxRecDepth 20000 in
theorem ggL_law_X3_about : GoodIn wsL_law wsX3_about := goodIn_r _ [300, 240, 241, 242, 2, 243, 23, 244, 39, 245, 246, 62, 247, 248, 249, 250, 251, 252, 253, 500, 501, 488, 489, 490, 491, 492, 493, 494, 455, 456, 457, 458, 459, 460, 461, 462, 463, 464, 465, 466, 467, 468] (by decide +kernel) (by decide +kernel)
set_option maxRecDepth 20000 in
theorem gL_law_X3_about : GoodIn wsL_law (wsV RL 69 RX3 yX3_about wsX3_about) := goodIn_app (goodIn_of _ (by decide +kernel)) ggL_law_X3_about
set_option maxRecDepth 20000 in
theorem ggL_law_X4_about : GoodIn wsL_law wsX4_about := goodIn_r _ [304, 89, 88, 261, 262, 5, 263, 121, 122, 123, 264, 265, 266, 469, 470, 471, 472, 473, 474, 475, 476, 477, 478, 479, 480, 481, 482, 483, 484, 485, 486, 487] (by decide +kernel) (by decide +kernel)
set_option maxRecDepth 20000 in
theorem gL_law_X4_about : GoodIn wsL_law (wsV RL 72 RX4 yX4_about wsX4_about) := goodIn_app (goodIn_of _ (by decide +kernel)) ggL_law_X4_about
set_option maxRecDepth 20000 in
theorem ggL_law_X3_record : GoodIn wsL_law wsX3_record := goodIn_r _ [308, 33, 309, 310, 311, 2, 312, 27, 28, 313, 314, 315, 316, 317, 318, 319, 320, 21, 160, 15, 161, 162, 48, 110, 111, 112, 113, 47, 321, 322, 323, 324, 31, 34, 35, 325, 326, 327, 328, 329, 330, 331, 332, 333, 334, 335, 336, 495, 496, 497, 498, 499, 455, 456, 457, 458, 459, 460, 461, 462, 463, 464, 465, 466, 467, 468, 488, 489, 490, 491, 492, 493, 494] (by decide +kernel) (by decide +kernel)
set_option maxRecDepth 20000 in
theorem gL_law_X3_record : GoodIn wsL_law (wsV RL 73 RX3 yX3_record wsX3_record) := goodIn_app (goodIn_of _ (by decide +kernel)) ggL_law_X3_record
set_option maxRecDepth 20000 in
theorem ggL_law_X4_record : GoodIn wsL_law wsX4_record := goodIn_r _ [340, 90, 95, 341, 91, 342, 343, 5, 344, 141, 142, 143, 144, 84, 137, 138, 139, 140, 68, 121, 122, 123, 345, 346, 347, 348, 349, 350, 351, 352, 353, 92, 93, 469, 470, 471, 472, 473, 474, 475, 476, 477, 478, 479, 480, 481, 482, 483, 484, 485, 486, 487] (by decide +kernel) (by decide +kernel)
set_option maxRecDepth 20000 in
theorem gL_law_X4_record : GoodIn wsL_law (wsV RL 77 RX4 yX4_record wsX4_record) := goodIn_app (goodIn_of _ (by decide +kernel)) ggL_law_X4_record
set_option maxRecDepth 20000 in
theorem ggL_law_X3_lay : GoodIn wsL_law wsX3_lay := goodIn_r _ [357, 309, 310, 311, 2, 312, 27, 28, 358, 26, 359, 360, 53, 361, 362, 363, 55, 313, 314, 315, 316, 317, 318, 319, 320, 21, 160, 15, 161, 162, 48, 110, 111, 112, 113, 47, 495, 496, 497, 498, 499, 455, 456, 457, 458, 459, 460, 461, 462, 463, 464, 465, 466, 467, 468, 488, 489, 490, 491, 492, 493, 494] (by decide +kernel) (by decide +kernel)
set_option maxRecDepth 20000 in
theorem gL_law_X3_lay : GoodIn wsL_law (wsV RL 78 RX3 yX3_lay wsX3_lay) := goodIn_app (goodIn_of _ (by decide +kernel)) ggL_law_X3_lay
set_option maxRecDepth 20000 in
theorem ggL_law_X4_lay : GoodIn wsL_law wsX4_lay := goodIn_r _ [367, 91, 368, 369, 370, 5, 371, 90, 342, 343, 344, 121, 122, 123, 372, 373, 374, 375, 376, 377, 141, 142, 143, 144, 84, 137, 138, 139, 140, 68, 469, 470, 471, 472, 473, 474, 475, 476, 477, 478, 479, 480, 481, 482, 483, 484, 485, 486, 487] (by decide +kernel) (by decide +kernel)
set_option maxRecDepth 20000 in
theorem gL_law_X4_lay : GoodIn wsL_law (wsV RL 81 RX4 yX4_lay wsX4_lay) := goodIn_app (goodIn_of _ (by decide +kernel)) ggL_law_X4_lay
set_option maxRecDepth 20000 in
theorem ggL_law_X3_cell : GoodIn wsL_law wsX3_cell := goodIn_r _ [381, 382, 309, 310, 311, 2, 312, 27, 28, 358, 26, 359, 360, 53, 361, 362, 363, 55, 383, 384, 385, 386, 317, 318, 319, 320, 21, 107, 15, 108, 109, 49, 110, 111, 112, 113, 47, 495, 496, 497, 498, 499, 455, 456, 457, 458, 459, 460, 461, 462, 463, 464, 465, 466, 467, 468, 488, 489, 490, 491, 492, 493, 494] (by decide +kernel) (by decide +kernel)
set_option maxRecDepth 20000 in
theorem gL_law_X3_cell : GoodIn wsL_law (wsV RL 82 RX3 yX3_cell wsX3_cell) := goodIn_app (goodIn_of _ (by decide +kernel)) ggL_law_X3_cell
set_option maxRecDepth 20000 in
theorem ggL_law_X4_cell : GoodIn wsL_law wsX4_cell := goodIn_r _ [390, 91, 391, 368, 369, 370, 5, 371, 90, 342, 343, 344, 121, 122, 123, 372, 373, 374, 392, 393, 394, 395, 375, 376, 377, 396, 397, 398, 399, 83, 469, 470, 471, 472, 473, 474, 475, 476, 477, 478, 479, 480, 481, 482, 483, 484, 485, 486, 487] (by decide +kernel) (by decide +kernel)
set_option maxRecDepth 20000 in
theorem gL_law_X4_cell : GoodIn wsL_law (wsV RL 85 RX4 yX4_cell wsX4_cell) := goodIn_app (goodIn_of _ (by decide +kernel)) ggL_law_X4_cell
set_option maxRecDepth 20000 in
theorem ggL_law_X3_back : GoodIn wsL_law wsX3_back := goodIn_r _ [403, 309, 310, 311, 2, 312, 27, 28, 358, 26, 359, 360, 53, 404, 405, 406, 407, 33, 321, 322, 323, 324, 31, 34, 35, 325, 326, 327, 328, 329, 330, 331, 332, 333, 317, 318, 319, 320, 21, 334, 335, 336, 455, 456, 457, 458, 459, 460, 461, 462, 463, 464, 465, 466, 467, 468, 495, 496, 497, 498, 499, 488, 489, 490, 491, 492, 493, 494] (by decide +kernel) (by decide +kernel)
set_option maxRecDepth 20000 in
theorem gL_law_X3_back : GoodIn wsL_law (wsV RL 86 RX3 yX3_back wsX3_back) := goodIn_app (goodIn_of _ (by decide +kernel)) ggL_law_X3_back
set_option maxRecDepth 20000 in
theorem ggL_law_X4_back : GoodIn wsL_law wsX4_back := goodIn_r _ [411, 91, 341, 368, 369, 370, 5, 371, 90, 342, 343, 344, 121, 122, 123, 372, 373, 374, 345, 346, 347, 348, 349, 350, 351, 352, 353, 92, 93, 469, 470, 471, 472, 473, 474, 475, 476, 477, 478, 479, 480, 481, 482, 483, 484, 485, 486, 487] (by decide +kernel) (by decide +kernel)
set_option maxRecDepth 20000 in
theorem gL_law_X4_back : GoodIn wsL_law (wsV RL 89 RX4 yX4_back wsX4_back) := goodIn_app (goodIn_of _ (by decide +kernel)) ggL_law_X4_back
set_option maxRecDepth 20000 in
theorem ggL_law_X3_part : GoodIn wsL_law wsX3_part := goodIn_r _ [415, 35, 34, 361, 26, 362, 363, 55, 383, 384, 385, 2, 386, 317, 318, 319, 320, 27, 21, 107, 15, 108, 109, 49, 110, 111, 112, 113, 47, 455, 456, 457, 458, 459, 460, 461, 462, 463, 464, 465, 466, 467, 468, 495, 496, 497, 498, 499, 488, 489, 490, 491, 492, 493, 494] (by decide +kernel) (by decide +kernel)
set_option maxRecDepth 20000 in
theorem gL_law_X3_part : GoodIn wsL_law (wsV RL 90 RX3 yX3_part wsX3_part) := goodIn_app (goodIn_of _ (by decide +kernel)) ggL_law_X3_part
set_option maxRecDepth 20000 in
theorem ggL_law_X4_part : GoodIn wsL_law wsX4_part := goodIn_r _ [419, 92, 93, 372, 373, 5, 374, 121, 122, 123, 392, 393, 394, 395, 375, 376, 377, 396, 397, 398, 399, 83, 469, 470, 471, 472, 473, 474, 475, 476, 477, 478, 479, 480, 481, 482, 483, 484, 485, 486, 487] (by decide +kernel) (by decide +kernel)
set_option maxRecDepth 20000 in
theorem gL_law_X4_part : GoodIn wsL_law (wsV RL 93 RX4 yX4_part wsX4_part) := goodIn_app (goodIn_of _ (by decide +kernel)) ggL_law_X4_part
set_option maxRecDepth 20000 in
theorem ggL_law_X3_filter : GoodIn wsL_law wsX3_filter := goodIn_r _ [423, 37, 33, 36, 309, 310, 311, 2, 312, 27, 28, 240, 241, 242, 243, 23, 361, 26, 362, 363, 55, 404, 405, 406, 407, 358, 359, 360, 53, 383, 384, 385, 386, 317, 318, 319, 320, 21, 107, 15, 108, 109, 49, 110, 111, 112, 113, 47, 325, 326, 327, 328, 329, 330, 331, 332, 333, 334, 335, 336, 271, 39, 272, 273, 63, 62, 500, 501, 495, 496, 497, 498, 499, 455, 456, 457, 458, 459, 460, 461, 462, 463, 464, 465, 466, 467, 468, 488, 489, 490, 491, 492, 493, 494] (by decide +kernel) (by decide +kernel)
set_option maxRecDepth 20000 in
theorem gL_law_X3_filter : GoodIn wsL_law (wsV RL 94 RX3 yX3_filter wsX3_filter) := goodIn_app (goodIn_of _ (by decide +kernel)) ggL_law_X3_filter
set_option maxRecDepth 20000 in
theorem ggL_law_X4_filter : GoodIn wsL_law wsX4_filter := goodIn_r _ [427, 88, 428, 90, 91, 89, 94, 342, 343, 5, 344, 261, 262, 263, 121, 122, 123, 372, 373, 374, 345, 346, 347, 348, 349, 392, 393, 394, 395, 375, 376, 377, 396, 397, 398, 399, 83, 469, 470, 471, 472, 473, 474, 475, 476, 477, 478, 479, 480, 481, 482, 483, 484, 485, 486, 487] (by decide +kernel) (by decide +kernel)
set_option maxRecDepth 20000 in
theorem gL_law_X4_filter : GoodIn wsL_law (wsV RL 97 RX4 yX4_filter wsX4_filter) := goodIn_app (goodIn_of _ (by decide +kernel)) ggL_law_X4_filter
set_option maxRecDepth 20000 in
theorem ggL_law_X3_found : GoodIn wsL_law wsX3_found := goodIn_r _ [432, 37, 36, 455, 456, 457, 458, 459, 460, 461, 462, 463, 464, 465, 466, 467, 468] (by decide +kernel) (by decide +kernel)
set_option maxRecDepth 20000 in
theorem gL_law_X3_found : GoodIn wsL_law (wsV RL 98 RX3 yX3_found wsX3_found) := goodIn_app (goodIn_of _ (by decide +kernel)) ggL_law_X3_found
set_option maxRecDepth 20000 in
theorem ggL_law_X4_found : GoodIn wsL_law wsX4_found := goodIn_r _ [436, 428, 94, 121, 122, 5, 123, 469, 470, 471, 472, 473, 474, 475, 476, 477, 478, 479, 480, 481, 482, 483, 484, 485, 486, 487] (by decide +kernel) (by decide +kernel)
set_option maxRecDepth 20000 in
theorem gL_law_X4_found : GoodIn wsL_law (wsV RL 101 RX4 yX4_found wsX4_found) := goodIn_app (goodIn_of _ (by decide +kernel)) ggL_law_X4_found
set_option maxRecDepth 20000 in
theorem ggL_law_X3_sum : GoodIn wsL_law wsX3_sum := goodIn_r _ [440, 441, 33, 309, 310, 311, 2, 312, 27, 28, 404, 405, 406, 407, 358, 26, 359, 360, 53, 325, 326, 327, 328, 329, 330, 331, 332, 333, 317, 318, 319, 320, 21, 334, 335, 336, 163, 164, 165, 166, 19, 30, 167, 15, 168, 169, 43, 44, 170, 171, 172, 173, 174, 175, 176, 177, 178, 179, 180, 181, 182, 183, 184, 185, 495, 496, 497, 498, 499, 455, 456, 457, 458, 459, 460, 461, 462, 463, 464, 465, 466, 467, 468, 488, 489, 490, 491, 492, 493, 494] (by decide +kernel) (by decide +kernel)
set_option maxRecDepth 20000 in
theorem gL_law_X3_sum : GoodIn wsL_law (wsV RL 102 RX3 yX3_sum wsX3_sum) := goodIn_app (goodIn_of _ (by decide +kernel)) ggL_law_X3_sum
set_option maxRecDepth 20000 in
theorem ggL_law_X4_sum : GoodIn wsL_law wsX4_sum := goodIn_r _ [445, 446, 90, 91, 190, 342, 343, 5, 344, 345, 346, 347, 348, 349, 121, 122, 123, 192, 193, 194, 195, 85, 87, 196, 197, 198, 199, 200, 201, 202, 203, 204, 205, 206, 207, 208, 469, 470, 471, 472, 473, 474, 475, 476, 477, 478, 479, 480, 481, 482, 483, 484, 485, 486, 487] (by decide +kernel) (by decide +kernel)
set_option maxRecDepth 20000 in
theorem gL_law_X4_sum : GoodIn wsL_law (wsV RL 106 RX4 yX4_sum wsX4_sum) := goodIn_app (goodIn_of _ (by decide +kernel)) ggL_law_X4_sum
set_option maxRecDepth 20000 in
theorem ggL_law_X3_count : GoodIn wsL_law wsX3_count := goodIn_r _ [450, 27, 28, 30, 31, 455, 456, 457, 458, 459, 460, 461, 462, 463, 464, 465, 466, 467, 468, 495, 496, 497, 498, 499] (by decide +kernel) (by decide +kernel)
set_option maxRecDepth 20000 in
theorem gL_law_X3_count : GoodIn wsL_law (wsV RL 107 RX3 yX3_count wsX3_count) := goodIn_app (goodIn_of _ (by decide +kernel)) ggL_law_X3_count
set_option maxRecDepth 20000 in
theorem ggL_law_X4_count : GoodIn wsL_law wsX4_count := goodIn_r _ [454, 90, 208, 341, 469, 470, 471, 472, 473, 474, 475, 476, 477, 478, 479, 480, 481, 482, 483, 484, 485, 486, 487] (by decide +kernel) (by decide +kernel)
set_option maxRecDepth 20000 in
theorem gL_law_X4_count : GoodIn wsL_law (wsV RL 110 RX4 yX4_count wsX4_count) := goodIn_app (goodIn_of _ (by decide +kernel)) ggL_law_X4_count
