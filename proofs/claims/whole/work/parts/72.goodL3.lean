set_option maxRecDepth 20000 in
theorem ggL_law_X5_empty : GoodIn wsL_law wsX5_empty := goodIn_r _ [217, 172, 95, 96, 150, 475, 476, 477, 478, 479, 480, 481, 482, 483, 484, 485, 486, 487, 488, 489, 490, 491, 492, 493] (by decide +kernel) (by decide +kernel)
set_option maxRecDepth 20000 in
theorem gL_law_X5_empty : GoodIn wsL_law (wsV RL 84 RX5 yX5_empty wsX5_empty) := goodIn_app (goodIn_of _ (by decide +kernel)) ggL_law_X5_empty
set_option maxRecDepth 20000 in
theorem ggL_law_L_open : GoodIn wsL_law wsL_open := goodIn_ca (goodIn_r _ [220, 100, 221, 222, 223, 2, 224, 106, 107, 22, 17, 184, 225, 226, 227, 228, 229, 230, 21, 231, 50, 126, 127, 128, 129, 232, 233, 234, 235, 236, 237, 238, 468, 469, 470, 471, 472, 473, 474, 494, 495, 496, 497, 498, 499] (by decide +kernel) (by decide +kernel)) (goodIn_sub (fun _ h => List.mem_append_left _ (List.mem_append_left _ (List.mem_append_right _ h))) (by decide +kernel))
set_option maxRecDepth 20000 in
theorem gL_law_L_open : GoodIn wsL_law (va_wsS RL 85 yL_open wsL_open) := goodIn_app (goodIn_of _ (by decide +kernel)) ggL_law_L_open
set_option maxRecDepth 20000 in
theorem ggL_law_X5_open : GoodIn wsL_law wsX5_open := goodIn_r _ [242, 95, 96, 168, 169, 170, 5, 171, 172, 243, 244, 245, 246, 247, 248, 249, 250, 251, 252, 164, 165, 166, 167, 253, 254, 255, 256, 79, 475, 476, 477, 478, 479, 480, 481, 482, 483, 484, 485, 486, 487, 488, 489, 490, 491, 492, 493] (by decide +kernel) (by decide +kernel)
set_option maxRecDepth 20000 in
theorem gL_law_X5_open : GoodIn wsL_law (wsV RL 87 RX5 yX5_open wsX5_open) := goodIn_app (goodIn_of _ (by decide +kernel)) ggL_law_X5_open
set_option maxRecDepth 20000 in
theorem ggL_law_L_threats : GoodIn wsL_law wsL_threats := goodIn_ca (goodIn_r _ [259, 100, 260, 261, 262, 2, 263, 106, 107, 22, 17, 225, 226, 227, 264, 265, 266, 267, 268, 269, 270, 21, 271, 50, 53, 272, 273, 274, 275, 276, 233, 234, 235, 236, 237, 238, 468, 469, 470, 471, 472, 473, 474, 494, 495, 496, 497, 498, 499] (by decide +kernel) (by decide +kernel)) (goodIn_sub (fun _ h => List.mem_append_left _ (List.mem_append_left _ (List.mem_append_right _ h))) (by decide +kernel))
set_option maxRecDepth 20000 in
theorem gL_law_L_threats : GoodIn wsL_law (va_wsS RL 88 yL_threats wsL_threats) := goodIn_app (goodIn_of _ (by decide +kernel)) ggL_law_L_threats
set_option maxRecDepth 20000 in
theorem ggL_law_X5_threats : GoodIn wsL_law wsX5_threats := goodIn_r _ [280, 95, 96, 79, 168, 169, 170, 5, 171, 172, 281, 282, 283, 284, 247, 248, 249, 250, 251, 252, 164, 165, 166, 167, 243, 244, 245, 246, 253, 254, 255, 256, 475, 476, 477, 478, 479, 480, 481, 482, 483, 484, 485, 486, 487, 488, 489, 490, 491, 492, 493] (by decide +kernel) (by decide +kernel)
set_option maxRecDepth 20000 in
theorem gL_law_X5_threats : GoodIn wsL_law (wsV RL 90 RX5 yX5_threats wsX5_threats) := goodIn_app (goodIn_of _ (by decide +kernel)) ggL_law_X5_threats
set_option maxRecDepth 20000 in
theorem ggL_law_L_value : GoodIn wsL_law wsL_value := goodIn_ca (goodIn_r _ [287, 101, 288, 289, 290, 2, 291, 108, 109, 26, 292, 293, 294, 295, 130, 131, 132, 133, 33, 18, 114, 115, 116, 117, 118, 119, 120, 121, 22, 17, 122, 123, 124, 21, 125, 50, 126, 127, 128, 129, 296, 297, 298, 299, 138, 139, 140, 141, 300, 301, 302, 303, 304, 25, 305, 306, 62, 307, 308, 309, 310, 52, 53, 311, 269, 270, 271, 272, 273, 274, 275, 312, 313, 314, 315, 316, 233, 234, 235, 236, 237, 238, 317, 318, 319, 320, 61, 321, 42, 39, 43, 322, 38, 40, 323, 324, 325, 60, 326, 67, 327, 328, 329, 330, 331, 332, 333, 334, 68, 335, 336, 337, 338, 339, 340, 341, 342, 343, 69, 344, 345, 346, 347, 348, 349, 350, 351, 352, 353, 354, 355, 63, 356, 357, 358, 359, 360, 361, 362, 363, 468, 469, 470, 471, 472, 473, 474, 494, 495, 496, 497, 498, 499, 500, 501, 502, 504, 505, 506] (by decide +kernel) (by decide +kernel)) (goodIn_sub (fun _ h => List.mem_append_left _ (List.mem_append_right _ h)) (by decide +kernel))
set_option maxRecDepth 20000 in
theorem gL_law_L_value : GoodIn wsL_law (va_wsS RL 91 yL_value wsL_value) := goodIn_app (goodIn_of _ (by decide +kernel)) ggL_law_L_value
set_option maxRecDepth 20000 in
theorem ggL_law_X5_value : GoodIn wsL_law wsX5_value := goodIn_r _ [367, 85, 368, 369, 370, 5, 371, 95, 96, 150, 152, 153, 154, 155, 81, 79, 80, 156, 157, 158, 159, 160, 161, 162, 163, 164, 165, 166, 167, 168, 169, 170, 171, 172, 372, 373, 374, 375, 151, 89, 90, 87, 88, 83, 84, 376, 86, 92, 377, 378, 379, 380, 91, 381, 382, 383, 384, 385, 386, 387, 388, 389, 390, 391, 392, 393, 394, 395, 396, 397, 398, 399, 400, 401, 402, 403, 404, 405, 406, 475, 476, 477, 478, 479, 480, 481, 482, 483, 484, 485, 486, 487, 488, 489, 490, 491, 492, 493] (by decide +kernel) (by decide +kernel)
set_option maxRecDepth 20000 in
theorem gL_law_X5_value : GoodIn wsL_law (wsV RL 93 RX5 yX5_value wsX5_value) := goodIn_app (goodIn_of _ (by decide +kernel)) ggL_law_X5_value
set_option maxRecDepth 20000 in
theorem ggL_law_L_valueOf : GoodIn wsL_law wsL_valueOf := goodIn_ca (goodIn_ca (goodIn_r _ [409, 100, 101, 410, 411, 412, 2, 413, 106, 107, 108, 109, 110, 111, 112, 113, 22, 292, 293, 294, 295, 130, 131, 132, 133, 33, 18, 114, 115, 116, 117, 118, 119, 120, 121, 17, 122, 123, 124, 21, 125, 50, 126, 127, 128, 129, 134, 135, 136, 137, 32, 414, 415, 416, 417, 26, 296, 297, 298, 299, 138, 139, 140, 141, 142, 143, 144, 145, 49, 300, 301, 302, 303, 304, 25, 305, 306, 62, 307, 308, 309, 310, 52, 53, 311, 269, 270, 271, 272, 273, 274, 275, 312, 313, 314, 315, 316, 233, 234, 235, 236, 237, 238, 317, 318, 319, 320, 61, 321, 42, 39, 43, 322, 38, 40, 323, 324, 325, 60, 326, 67, 327, 328, 329, 330, 331, 332, 333, 334, 68, 335, 336, 337, 338, 339, 340, 341, 342, 343, 69, 344, 345, 346, 347, 348, 349, 350, 351, 352, 353, 354, 355, 63, 356, 357, 358, 359, 360, 361, 362, 363, 468, 469, 470, 471, 472, 473, 474, 494, 495, 496, 497, 498, 499, 500, 501, 502, 504, 505, 506] (by decide +kernel) (by decide +kernel)) (goodIn_sub (fun _ h => List.mem_append_left _ (List.mem_append_left _ (List.mem_append_right _ h))) (by decide +kernel))) (goodIn_sub (fun _ h => List.mem_append_left _ (List.mem_append_right _ h)) (by decide +kernel))
set_option maxRecDepth 20000 in
theorem gL_law_L_valueOf : GoodIn wsL_law (va_wsS RL 94 yL_valueOf wsL_valueOf) := goodIn_app (goodIn_of _ (by decide +kernel)) ggL_law_L_valueOf
