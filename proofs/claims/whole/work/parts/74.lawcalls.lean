set_option maxRecDepth 1000000 in
theorem ggL_law_X3_init : GoodIn wsL_law wsX3_init := goodIn_r _ [9, 10, 11, 12, 13, 14, 15, 16, 17, 18, 19, 20, 21, 22, 23, 24, 25, 26, 27, 28, 29, 30, 31, 32, 33, 34, 35, 36, 37, 38, 39, 40, 41, 42, 571, 572, 547, 548, 549, 573, 574, 575, 576, 577, 578, 579, 580, 581, 582, 583, 584, 585, 586, 587, 588, 589, 590] rfl (by decide +kernel)
set_option maxRecDepth 1000000 in
theorem gL_law_X3_init : GoodIn wsL_law (wsX3_init) := ggL_law_X3_init
set_option maxRecDepth 1000000 in
theorem ggL_law_X4_init : GoodIn wsL_law wsX4_init := goodIn_r _ [45, 46, 11, 12, 28, 47, 48, 49, 50, 51, 52, 53, 54, 55, 56, 5, 57, 550, 551, 552, 553, 554, 555, 556, 557, 558, 559, 560, 561, 562, 563, 564, 565, 566, 567, 568, 569, 570] rfl (by decide +kernel)
set_option maxRecDepth 1000000 in
theorem gL_law_X4_init : GoodIn wsL_law (wsX4_init) := ggL_law_X4_init
set_option maxRecDepth 1000000 in
theorem ggL_law_L_set : GoodIn wsL_law wsL_set := goodIn_ca (goodIn_ca (goodIn_r _ [61, 62, 63, 64, 65, 66, 2, 67, 68, 69, 16, 70, 71, 72, 73, 74, 75, 76, 77, 78, 79, 547, 548, 549, 571, 572] rfl (by decide +kernel)) (goodIn_sub (fun _ h => List.mem_append_left _ (List.mem_append_left _ (List.mem_append_right _ h))) (by decide +kernel))) (goodIn_sub (fun _ h => List.mem_append_left _ (List.mem_append_right _ h)) (by decide +kernel))
set_option maxRecDepth 1000000 in
theorem gL_law_L_set : GoodIn wsL_law (va_wsS RL 81 yL_set wsL_set) := goodIn_app (goodIn_of _ (by decide +kernel)) ggL_law_L_set
set_option maxRecDepth 1000000 in
theorem ggL_law_X4_set : GoodIn wsL_law wsX4_set := goodIn_r _ [83, 84, 49, 50, 85, 86, 5, 87, 88, 89, 90, 550, 551, 552, 553, 554, 555, 556, 557, 558, 559, 560, 561, 562, 563, 564, 565, 566, 567, 568, 569, 570] rfl (by decide +kernel)
set_option maxRecDepth 1000000 in
theorem gL_law_X4_set : GoodIn wsL_law (wsV RL 86 RX4 yX4_set wsX4_set) := goodIn_app (goodIn_of _ (by decide +kernel)) ggL_law_X4_set
set_option maxRecDepth 1000000 in
theorem ggL_law_X4_thrown : GoodIn wsL_law wsX4_thrown := goodIn_r _ [94, 84, 550, 551, 552, 553, 554, 555, 556, 557, 558, 559, 560, 561, 562, 563, 564, 565, 566, 567, 568, 569, 570] rfl (by decide +kernel)
set_option maxRecDepth 1000000 in
theorem gL_law_X4_thrown : GoodIn wsL_law (wsV RL 87 RX4 yX4_thrown wsX4_thrown) := goodIn_app (goodIn_of _ (by decide +kernel)) ggL_law_X4_thrown
set_option maxRecDepth 1000000 in
theorem ggL_law_X3_start : GoodIn wsL_law wsX3_start := goodIn_r _ [98, 20, 16, 99, 100, 101, 19, 102, 35, 36, 103, 104, 105, 106, 107, 108, 109, 110, 111, 112, 113, 114, 15, 115, 29, 116, 117, 118, 119, 30, 120, 121, 122, 123, 547, 548, 549, 573, 574, 575, 576, 577, 578, 579, 580, 581, 582, 583, 571, 572] rfl (by decide +kernel)
set_option maxRecDepth 1000000 in
theorem gL_law_X3_start : GoodIn wsL_law (wsV RL 90 RX3 yX3_start wsX3_start) := goodIn_app (goodIn_of _ (by decide +kernel)) ggL_law_X3_start
set_option maxRecDepth 1000000 in
theorem ggL_law_X4_start : GoodIn wsL_law wsX4_start := goodIn_r _ [127, 84, 128, 129, 130, 131, 132, 133, 134, 51, 135, 136, 137, 5, 138, 49, 50, 550, 551, 552, 553, 554, 555, 556, 557, 558, 559, 560, 561, 562, 563, 564, 565, 566, 567, 568, 569, 570] rfl (by decide +kernel)
set_option maxRecDepth 1000000 in
theorem gL_law_X4_start : GoodIn wsL_law (wsV RL 93 RX4 yX4_start wsX4_start) := goodIn_app (goodIn_of _ (by decide +kernel)) ggL_law_X4_start
set_option maxRecDepth 1000000 in
theorem ggL_law_L_put : GoodIn wsL_law wsL_put := goodIn_ca (goodIn_ca (goodIn_ca (goodIn_r _ [141, 62, 63, 142, 143, 144, 145, 2, 146, 20, 72, 73, 74, 75, 76, 77, 78, 79, 68, 69, 147, 148, 149, 150, 151, 152, 153, 154, 155, 156, 157, 158, 159, 160, 161, 19, 162, 35, 104, 163, 105, 108, 164, 165, 166, 15, 167, 29, 168, 169, 170, 171, 30, 172, 173, 174, 175, 176, 177, 178, 179, 180, 181, 182, 183, 106, 107, 184, 185, 186, 187, 111, 188, 189, 190, 191, 110, 36, 547, 548, 549, 573, 574, 575, 576, 577, 578, 579, 580, 581, 582, 583, 571, 572] rfl (by decide +kernel)) (goodIn_sub (fun _ h => List.mem_append_left _ (List.mem_append_right _ h)) (by decide +kernel))) (goodIn_sub (fun _ h => List.mem_append_left _ (List.mem_append_left _ (List.mem_append_right _ h))) (by decide +kernel))) (goodIn_sub (fun _ h => List.mem_append_right _ h) (by decide +kernel))
set_option maxRecDepth 1000000 in
theorem gL_law_L_put : GoodIn wsL_law (va_wsS RL 94 yL_put wsL_put) := goodIn_app (goodIn_of _ (by decide +kernel)) ggL_law_L_put
set_option maxRecDepth 1000000 in
theorem ggL_law_X4_put : GoodIn wsL_law wsX4_put := goodIn_r _ [195, 84, 85, 86, 5, 87, 88, 89, 90, 196, 197, 198, 199, 128, 133, 200, 201, 202, 203, 47, 49, 129, 50, 204, 205, 206, 207, 132, 51, 130, 208, 209, 210, 211, 48, 212, 213, 214, 215, 216, 217, 218, 219, 131, 550, 551, 552, 553, 554, 555, 556, 557, 558, 559, 560, 561, 562, 563, 564, 565, 566, 567, 568, 569, 570] rfl (by decide +kernel)
set_option maxRecDepth 1000000 in
theorem gL_law_X4_put : GoodIn wsL_law (wsV RL 97 RX4 yX4_put wsX4_put) := goodIn_app (goodIn_of _ (by decide +kernel)) ggL_law_X4_put
set_option maxRecDepth 1000000 in
theorem ggL_law_L_pass : GoodIn wsL_law wsL_pass := goodIn_ca (goodIn_ca (goodIn_r _ [222, 63, 142, 223, 224, 225, 2, 226, 20, 77, 78, 79, 68, 69, 147, 148, 149, 150, 151, 152, 153, 154, 155, 156, 157, 158, 227, 228, 229, 19, 230, 105, 104, 108, 180, 181, 182, 183, 106, 107, 184, 185, 186, 187, 111, 188, 189, 190, 191, 110, 36, 547, 548, 549, 573, 574, 575, 576, 577, 578, 579, 580, 581, 582, 583] rfl (by decide +kernel)) (goodIn_sub (fun _ h => List.mem_append_left _ (List.mem_append_left _ (List.mem_append_right _ h))) (by decide +kernel))) (goodIn_sub (fun _ h => List.mem_append_right _ h) (by decide +kernel))
set_option maxRecDepth 1000000 in
theorem gL_law_L_pass : GoodIn wsL_law (va_wsS RL 98 yL_pass wsL_pass) := goodIn_app (goodIn_of _ (by decide +kernel)) ggL_law_L_pass
set_option maxRecDepth 1000000 in
theorem ggL_law_X4_pass : GoodIn wsL_law wsX4_pass := goodIn_r _ [234, 84, 88, 89, 5, 90, 196, 197, 198, 199, 128, 133, 235, 236, 237, 238, 130, 132, 129, 204, 205, 206, 207, 51, 216, 217, 218, 219, 131, 550, 551, 552, 553, 554, 555, 556, 557, 558, 559, 560, 561, 562, 563, 564, 565, 566, 567, 568, 569, 570] rfl (by decide +kernel)
set_option maxRecDepth 1000000 in
theorem gL_law_X4_pass : GoodIn wsL_law (wsV RL 101 RX4 yX4_pass wsX4_pass) := goodIn_app (goodIn_of _ (by decide +kernel)) ggL_law_X4_pass
set_option maxRecDepth 1000000 in
theorem ggL_law_L_golomb : GoodIn wsL_law wsL_golomb := goodIn_ca (goodIn_ca (goodIn_r _ [241, 63, 142, 242, 243, 244, 2, 245, 20, 246, 247, 248, 68, 69, 249, 250, 251, 252, 253, 254, 255, 256, 257, 258, 259, 147, 148, 149, 150, 151, 152, 153, 154, 155, 156, 157, 158, 260, 261, 262, 19, 263, 264, 228, 229, 230, 105, 104, 108, 180, 181, 182, 183, 106, 107, 184, 185, 186, 187, 111, 188, 189, 190, 191, 110, 36, 547, 548, 549, 573, 574, 575, 576, 577, 578, 579, 580, 581, 582, 583] rfl (by decide +kernel)) (goodIn_sub (fun _ h => List.mem_append_left _ (List.mem_append_left _ (List.mem_append_right _ h))) (by decide +kernel))) (goodIn_sub (fun _ h => List.mem_append_right _ h) (by decide +kernel))
set_option maxRecDepth 1000000 in
theorem gL_law_L_golomb : GoodIn wsL_law (va_wsS RL 102 yL_golomb wsL_golomb) := goodIn_app (goodIn_of _ (by decide +kernel)) ggL_law_L_golomb
set_option maxRecDepth 1000000 in
theorem ggL_law_X4_golomb : GoodIn wsL_law wsX4_golomb := goodIn_r _ [268, 269, 270, 84, 271, 272, 5, 273, 196, 197, 198, 199, 128, 133, 235, 236, 237, 238, 130, 132, 129, 204, 205, 206, 207, 51, 216, 217, 218, 219, 131, 550, 551, 552, 553, 554, 555, 556, 557, 558, 559, 560, 561, 562, 563, 564, 565, 566, 567, 568, 569, 570] rfl (by decide +kernel)
set_option maxRecDepth 1000000 in
theorem gL_law_X4_golomb : GoodIn wsL_law (wsV RL 105 RX4 yX4_golomb wsX4_golomb) := goodIn_app (goodIn_of _ (by decide +kernel)) ggL_law_X4_golomb
set_option maxRecDepth 1000000 in
theorem ggL_law_L_unary : GoodIn wsL_law wsL_unary := goodIn_ca (goodIn_ca (goodIn_ca (goodIn_r _ [276, 62, 63, 142, 277, 278, 279, 2, 280, 68, 69, 20, 281, 282, 283, 75, 76, 284, 285, 286, 147, 148, 149, 150, 151, 152, 153, 154, 155, 156, 157, 158, 287, 288, 289, 19, 290, 291, 292, 293, 173, 174, 175, 294, 160, 161, 162, 35, 104, 163, 105, 108, 164, 165, 166, 15, 167, 29, 168, 169, 170, 171, 30, 172, 176, 177, 178, 179, 180, 181, 182, 183, 106, 107, 184, 185, 186, 187, 111, 188, 189, 190, 191, 110, 36, 547, 548, 549, 573, 574, 575, 576, 577, 578, 579, 580, 581, 582, 583, 571, 572] rfl (by decide +kernel)) (goodIn_sub (fun _ h => List.mem_append_left _ (List.mem_append_left _ (List.mem_append_right _ h))) (by decide +kernel))) (goodIn_sub (fun _ h => List.mem_append_left _ (List.mem_append_right _ h)) (by decide +kernel))) (goodIn_sub (fun _ h => List.mem_append_right _ h) (by decide +kernel))
set_option maxRecDepth 1000000 in
theorem gL_law_L_unary : GoodIn wsL_law (va_wsS RL 106 yL_unary wsL_unary) := goodIn_app (goodIn_of _ (by decide +kernel)) ggL_law_L_unary
set_option maxRecDepth 1000000 in
theorem ggL_law_X4_unary : GoodIn wsL_law wsX4_unary := goodIn_r _ [298, 84, 196, 197, 198, 5, 199, 128, 133, 200, 201, 202, 203, 47, 49, 129, 50, 204, 205, 206, 207, 132, 51, 130, 208, 209, 210, 211, 48, 212, 213, 214, 215, 216, 217, 218, 219, 131, 550, 551, 552, 553, 554, 555, 556, 557, 558, 559, 560, 561, 562, 563, 564, 565, 566, 567, 568, 569, 570] rfl (by decide +kernel)
set_option maxRecDepth 1000000 in
theorem gL_law_X4_unary : GoodIn wsL_law (wsV RL 109 RX4 yX4_unary wsX4_unary) := goodIn_app (goodIn_of _ (by decide +kernel)) ggL_law_X4_unary
set_option maxRecDepth 1000000 in
theorem ggL_law_L_mark : GoodIn wsL_law wsL_mark := goodIn_ca (goodIn_r _ [301, 142, 302, 303, 304, 2, 305, 20, 147, 148, 149, 150, 151, 152, 153, 154, 155, 156, 157, 158, 306, 307, 308, 19, 309, 104, 108, 176, 177, 178, 179, 105, 180, 181, 182, 183, 106, 107, 184, 185, 186, 187, 111, 188, 189, 190, 191, 110, 36, 547, 548, 549, 573, 574, 575, 576, 577, 578, 579, 580, 581, 582, 583] rfl (by decide +kernel)) (goodIn_sub (fun _ h => List.mem_append_right _ h) (by decide +kernel))
set_option maxRecDepth 1000000 in
theorem gL_law_L_mark : GoodIn wsL_law (va_wsS RL 110 yL_mark wsL_mark) := goodIn_app (goodIn_of _ (by decide +kernel)) ggL_law_L_mark
set_option maxRecDepth 1000000 in
theorem ggL_law_X4_mark : GoodIn wsL_law wsX4_mark := goodIn_r _ [313, 84, 129, 133, 196, 197, 198, 5, 199, 128, 212, 213, 214, 215, 130, 216, 217, 218, 219, 131, 132, 550, 551, 552, 553, 554, 555, 556, 557, 558, 559, 560, 561, 562, 563, 564, 565, 566, 567, 568, 569, 570] rfl (by decide +kernel)
set_option maxRecDepth 1000000 in
theorem gL_law_X4_mark : GoodIn wsL_law (wsV RL 113 RX4 yX4_mark wsX4_mark) := goodIn_app (goodIn_of _ (by decide +kernel)) ggL_law_X4_mark
set_option maxRecDepth 1000000 in
theorem ggL_law_L_finish : GoodIn wsL_law wsL_finish := goodIn_ca (goodIn_r _ [316, 142, 317, 318, 319, 2, 320, 20, 321, 154, 155, 156, 157, 151, 152, 158, 322, 323, 324, 19, 325, 104, 105, 110, 103, 109, 176, 177, 178, 179, 180, 181, 182, 183, 106, 107, 184, 185, 186, 187, 111, 188, 189, 190, 191, 36, 547, 548, 549, 573, 574, 575, 576, 577, 578, 579, 580, 581, 582, 583] rfl (by decide +kernel)) (goodIn_sub (fun _ h => List.mem_append_right _ h) (by decide +kernel))
set_option maxRecDepth 1000000 in
theorem gL_law_L_finish : GoodIn wsL_law (va_wsS RL 114 yL_finish wsL_finish) := goodIn_app (goodIn_of _ (by decide +kernel)) ggL_law_L_finish
set_option maxRecDepth 1000000 in
theorem ggL_law_X4_finish : GoodIn wsL_law wsX4_finish := goodIn_r _ [329, 128, 84, 129, 132, 134, 52, 51, 131, 204, 205, 206, 5, 207, 130, 212, 213, 214, 215, 216, 217, 218, 219, 550, 551, 552, 553, 554, 555, 556, 557, 558, 559, 560, 561, 562, 563, 564, 565, 566, 567, 568, 569, 570] rfl (by decide +kernel)
set_option maxRecDepth 1000000 in
theorem gL_law_X4_finish : GoodIn wsL_law (wsV RL 117 RX4 yX4_finish wsX4_finish) := goodIn_app (goodIn_of _ (by decide +kernel)) ggL_law_X4_finish
set_option maxRecDepth 1000000 in
theorem ggL_law_X3_size : GoodIn wsL_law wsX3_size := goodIn_r _ [333, 20, 321, 547, 548, 549, 573, 574, 575, 576, 577, 578, 579, 580, 581, 582, 583] rfl (by decide +kernel)
set_option maxRecDepth 1000000 in
theorem gL_law_X3_size : GoodIn wsL_law (wsV RL 118 RX3 yX3_size wsX3_size) := goodIn_app (goodIn_of _ (by decide +kernel)) ggL_law_X3_size
set_option maxRecDepth 1000000 in
theorem ggL_law_X4_size : GoodIn wsL_law wsX4_size := goodIn_r _ [337, 84, 134, 550, 551, 552, 553, 554, 555, 556, 557, 558, 559, 560, 561, 562, 563, 564, 565, 566, 567, 568, 569, 570] rfl (by decide +kernel)
set_option maxRecDepth 1000000 in
theorem gL_law_X4_size : GoodIn wsL_law (wsV RL 121 RX4 yX4_size wsX4_size) := goodIn_app (goodIn_of _ (by decide +kernel)) ggL_law_X4_size
set_option maxRecDepth 1000000 in
theorem ggL_law_L_at : GoodIn wsL_law wsL_at := goodIn_ca (goodIn_r _ [340, 62, 341, 342, 343, 2, 344, 20, 345, 346, 347, 348, 349, 75, 76, 321, 547, 548, 549, 573, 574, 575, 576, 577, 578, 579, 580, 581, 582, 583] rfl (by decide +kernel)) (goodIn_sub (fun _ h => List.mem_append_left _ (List.mem_append_right _ h)) (by decide +kernel))
set_option maxRecDepth 1000000 in
theorem gL_law_L_at : GoodIn wsL_law (va_wsS RL 122 yL_at wsL_at) := goodIn_app (goodIn_of _ (by decide +kernel)) ggL_law_L_at
set_option maxRecDepth 1000000 in
theorem ggL_law_X4_at : GoodIn wsL_law wsX4_at := goodIn_r _ [353, 134, 84, 52, 550, 551, 552, 553, 554, 555, 556, 557, 558, 559, 560, 561, 562, 563, 564, 565, 566, 567, 568, 569, 570] rfl (by decide +kernel)
set_option maxRecDepth 1000000 in
theorem gL_law_X4_at : GoodIn wsL_law (wsV RL 125 RX4 yX4_at wsX4_at) := goodIn_app (goodIn_of _ (by decide +kernel)) ggL_law_X4_at
set_option maxRecDepth 1000000 in
theorem ggL_law_L_alter : GoodIn wsL_law wsL_alter := goodIn_ca (goodIn_ca (goodIn_r _ [356, 62, 63, 357, 358, 359, 2, 360, 68, 69, 20, 345, 346, 347, 348, 349, 75, 76, 321, 547, 548, 549, 573, 574, 575, 576, 577, 578, 579, 580, 581, 582, 583] rfl (by decide +kernel)) (goodIn_sub (fun _ h => List.mem_append_left _ (List.mem_append_left _ (List.mem_append_right _ h))) (by decide +kernel))) (goodIn_sub (fun _ h => List.mem_append_left _ (List.mem_append_right _ h)) (by decide +kernel))
set_option maxRecDepth 1000000 in
theorem gL_law_L_alter : GoodIn wsL_law (va_wsS RL 126 yL_alter wsL_alter) := goodIn_app (goodIn_of _ (by decide +kernel)) ggL_law_L_alter
set_option maxRecDepth 1000000 in
theorem ggL_law_X4_alter : GoodIn wsL_law wsX4_alter := goodIn_r _ [364, 134, 84, 52, 550, 551, 552, 553, 554, 555, 556, 557, 558, 559, 560, 561, 562, 563, 564, 565, 566, 567, 568, 569, 570] rfl (by decide +kernel)
set_option maxRecDepth 1000000 in
theorem gL_law_X4_alter : GoodIn wsL_law (wsV RL 128 RX4 yX4_alter wsX4_alter) := goodIn_app (goodIn_of _ (by decide +kernel)) ggL_law_X4_alter
set_option maxRecDepth 1000000 in
theorem ggL_law_L_load : GoodIn wsL_law wsL_load := goodIn_ca (goodIn_r _ [367, 142, 368, 369, 370, 2, 371, 151, 152, 20, 321, 24, 16, 345, 372, 373, 374, 23, 375, 41, 42, 376, 117, 118, 119, 377, 378, 379, 380, 381, 382, 113, 114, 15, 115, 29, 116, 30, 383, 384, 385, 386, 387, 388, 389, 390, 547, 548, 549, 573, 574, 575, 576, 577, 578, 579, 580, 581, 582, 583, 584, 585, 586, 587, 588, 589, 590, 571, 572] rfl (by decide +kernel)) (goodIn_sub (fun _ h => List.mem_append_right _ h) (by decide +kernel))
set_option maxRecDepth 1000000 in
theorem gL_law_L_load : GoodIn wsL_law (va_wsS RL 129 yL_load wsL_load) := goodIn_app (goodIn_of _ (by decide +kernel)) ggL_law_L_load
set_option maxRecDepth 1000000 in
theorem ggL_law_X4_load : GoodIn wsL_law wsX4_load := goodIn_r _ [394, 134, 84, 395, 53, 52, 396, 397, 398, 399, 135, 136, 137, 5, 138, 49, 50, 400, 401, 402, 403, 550, 551, 552, 553, 554, 555, 556, 557, 558, 559, 560, 561, 562, 563, 564, 565, 566, 567, 568, 569, 570] rfl (by decide +kernel)
set_option maxRecDepth 1000000 in
theorem gL_law_X4_load : GoodIn wsL_law (wsV RL 131 RX4 yX4_load wsX4_load) := goodIn_app (goodIn_of _ (by decide +kernel)) ggL_law_X4_load
set_option maxRecDepth 1000000 in
theorem ggL_law_L_get : GoodIn wsL_law wsL_get := goodIn_ca (goodIn_ca (goodIn_r _ [406, 62, 142, 407, 408, 409, 2, 410, 24, 72, 73, 74, 75, 76, 411, 412, 413, 414, 151, 152, 415, 416, 417, 418, 23, 419, 41, 379, 420, 380, 421, 165, 166, 15, 167, 29, 422, 169, 170, 171, 30, 172, 173, 174, 175, 423, 424, 425, 426, 383, 384, 385, 386, 387, 388, 389, 390, 378, 377, 42, 547, 548, 549, 584, 585, 586, 587, 588, 589, 590, 571, 572] rfl (by decide +kernel)) (goodIn_sub (fun _ h => List.mem_append_left _ (List.mem_append_right _ h)) (by decide +kernel))) (goodIn_sub (fun _ h => List.mem_append_right _ h) (by decide +kernel))
set_option maxRecDepth 1000000 in
theorem gL_law_L_get : GoodIn wsL_law (va_wsS RL 132 yL_get wsL_get) := goodIn_app (goodIn_of _ (by decide +kernel)) ggL_law_L_get
set_option maxRecDepth 1000000 in
theorem ggL_law_X4_get : GoodIn wsL_law wsX4_get := goodIn_r _ [430, 399, 84, 85, 86, 5, 87, 431, 432, 433, 434, 47, 49, 396, 397, 50, 208, 209, 210, 211, 48, 435, 436, 437, 438, 400, 401, 402, 403, 398, 395, 53, 550, 551, 552, 553, 554, 555, 556, 557, 558, 559, 560, 561, 562, 563, 564, 565, 566, 567, 568, 569, 570] rfl (by decide +kernel)
set_option maxRecDepth 1000000 in
theorem gL_law_X4_get : GoodIn wsL_law (wsV RL 134 RX4 yX4_get wsX4_get) := goodIn_app (goodIn_of _ (by decide +kernel)) ggL_law_X4_get
set_option maxRecDepth 1000000 in
theorem ggL_law_L_getPass : GoodIn wsL_law wsL_getPass := goodIn_ca (goodIn_r _ [441, 142, 442, 443, 444, 2, 445, 24, 411, 412, 413, 414, 151, 152, 415, 446, 447, 448, 23, 449, 380, 379, 383, 384, 385, 386, 387, 388, 389, 390, 378, 377, 42, 547, 548, 549, 584, 585, 586, 587, 588, 589, 590] rfl (by decide +kernel)) (goodIn_sub (fun _ h => List.mem_append_right _ h) (by decide +kernel))
set_option maxRecDepth 1000000 in
theorem gL_law_L_getPass : GoodIn wsL_law (va_wsS RL 135 yL_getPass wsL_getPass) := goodIn_app (goodIn_of _ (by decide +kernel)) ggL_law_L_getPass
set_option maxRecDepth 1000000 in
theorem ggL_law_X4_getPass : GoodIn wsL_law wsX4_getPass := goodIn_r _ [453, 399, 84, 454, 455, 456, 5, 457, 397, 396, 400, 401, 402, 403, 398, 395, 53, 550, 551, 552, 553, 554, 555, 556, 557, 558, 559, 560, 561, 562, 563, 564, 565, 566, 567, 568, 569, 570] rfl (by decide +kernel)
set_option maxRecDepth 1000000 in
theorem gL_law_X4_getPass : GoodIn wsL_law (wsV RL 137 RX4 yX4_getPass wsX4_getPass) := goodIn_app (goodIn_of _ (by decide +kernel)) ggL_law_X4_getPass
set_option maxRecDepth 1000000 in
theorem ggL_law_L_getGolomb : GoodIn wsL_law wsL_getGolomb := goodIn_ca (goodIn_ca (goodIn_r _ [460, 63, 142, 461, 462, 463, 2, 464, 24, 465, 246, 247, 248, 68, 69, 411, 412, 413, 414, 151, 152, 415, 466, 467, 468, 23, 469, 470, 471, 447, 448, 449, 380, 379, 383, 384, 385, 386, 387, 388, 389, 390, 378, 377, 42, 472, 473, 474, 475, 381, 476, 477, 478, 479, 547, 548, 549, 584, 585, 586, 587, 588, 589, 590] rfl (by decide +kernel)) (goodIn_sub (fun _ h => List.mem_append_left _ (List.mem_append_left _ (List.mem_append_right _ h))) (by decide +kernel))) (goodIn_sub (fun _ h => List.mem_append_right _ h) (by decide +kernel))
set_option maxRecDepth 1000000 in
theorem gL_law_L_getGolomb : GoodIn wsL_law (va_wsS RL 138 yL_getGolomb wsL_getGolomb) := goodIn_app (goodIn_of _ (by decide +kernel)) ggL_law_L_getGolomb
set_option maxRecDepth 1000000 in
theorem ggL_law_X4_getGolomb : GoodIn wsL_law wsX4_getGolomb := goodIn_r _ [483, 399, 84, 484, 270, 485, 454, 455, 456, 5, 457, 397, 396, 400, 401, 402, 403, 398, 395, 53, 550, 551, 552, 553, 554, 555, 556, 557, 558, 559, 560, 561, 562, 563, 564, 565, 566, 567, 568, 569, 570] rfl (by decide +kernel)
set_option maxRecDepth 1000000 in
theorem gL_law_X4_getGolomb : GoodIn wsL_law (wsV RL 141 RX4 yX4_getGolomb wsX4_getGolomb) := goodIn_app (goodIn_of _ (by decide +kernel)) ggL_law_X4_getGolomb
set_option maxRecDepth 1000000 in
theorem ggL_law_L_getUnary : GoodIn wsL_law wsL_getUnary := goodIn_ca (goodIn_ca (goodIn_ca (goodIn_r _ [488, 62, 63, 142, 489, 490, 491, 2, 492, 24, 281, 282, 283, 75, 76, 284, 285, 286, 68, 69, 411, 412, 413, 414, 151, 152, 415, 493, 494, 495, 23, 496, 291, 292, 293, 173, 174, 175, 497, 417, 418, 419, 41, 379, 420, 380, 421, 165, 166, 15, 167, 29, 422, 169, 170, 171, 30, 172, 423, 424, 425, 426, 383, 384, 385, 386, 387, 388, 389, 390, 378, 377, 42, 547, 548, 549, 584, 585, 586, 587, 588, 589, 590, 571, 572] rfl (by decide +kernel)) (goodIn_sub (fun _ h => List.mem_append_left _ (List.mem_append_right _ h)) (by decide +kernel))) (goodIn_sub (fun _ h => List.mem_append_left _ (List.mem_append_left _ (List.mem_append_right _ h))) (by decide +kernel))) (goodIn_sub (fun _ h => List.mem_append_right _ h) (by decide +kernel))
set_option maxRecDepth 1000000 in
theorem gL_law_L_getUnary : GoodIn wsL_law (va_wsS RL 142 yL_getUnary wsL_getUnary) := goodIn_app (goodIn_of _ (by decide +kernel)) ggL_law_L_getUnary
set_option maxRecDepth 1000000 in
theorem ggL_law_X4_getUnary : GoodIn wsL_law wsX4_getUnary := goodIn_r _ [501, 399, 84, 431, 432, 433, 5, 434, 47, 49, 396, 397, 50, 208, 209, 210, 211, 48, 435, 436, 437, 438, 400, 401, 402, 403, 398, 395, 53, 550, 551, 552, 553, 554, 555, 556, 557, 558, 559, 560, 561, 562, 563, 564, 565, 566, 567, 568, 569, 570] rfl (by decide +kernel)
set_option maxRecDepth 1000000 in
theorem gL_law_X4_getUnary : GoodIn wsL_law (wsV RL 145 RX4 yX4_getUnary wsX4_getUnary) := goodIn_app (goodIn_of _ (by decide +kernel)) ggL_law_X4_getUnary
set_option maxRecDepth 1000000 in
theorem ggL_law_L_ended : GoodIn wsL_law wsL_ended := goodIn_ca (goodIn_r _ [504, 142, 505, 506, 507, 2, 508, 24, 411, 412, 413, 414, 151, 152, 415, 509, 510, 511, 23, 512, 379, 380, 381, 423, 424, 425, 426, 383, 384, 385, 386, 387, 388, 389, 390, 378, 377, 42, 547, 548, 549, 584, 585, 586, 587, 588, 589, 590] rfl (by decide +kernel)) (goodIn_sub (fun _ h => List.mem_append_right _ h) (by decide +kernel))
set_option maxRecDepth 1000000 in
theorem gL_law_L_ended : GoodIn wsL_law (va_wsS RL 146 yL_ended wsL_ended) := goodIn_app (goodIn_of _ (by decide +kernel)) ggL_law_L_ended
set_option maxRecDepth 1000000 in
theorem ggL_law_X4_ended : GoodIn wsL_law wsX4_ended := goodIn_r _ [516, 399, 84, 396, 397, 435, 436, 437, 5, 438, 400, 401, 402, 403, 398, 395, 53, 550, 551, 552, 553, 554, 555, 556, 557, 558, 559, 560, 561, 562, 563, 564, 565, 566, 567, 568, 569, 570] rfl (by decide +kernel)
set_option maxRecDepth 1000000 in
theorem gL_law_X4_ended : GoodIn wsL_law (wsV RL 148 RX4 yX4_ended wsX4_ended) := goodIn_app (goodIn_of _ (by decide +kernel)) ggL_law_X4_ended
set_option maxRecDepth 1000000 in
theorem ggL_law_L_about : GoodIn wsL_law wsL_about := goodIn_ca (goodIn_r _ [519, 62, 520, 521, 522, 2, 523, 24, 524, 20, 525, 70, 71, 72, 73, 74, 75, 76, 547, 548, 549, 584, 585, 586, 587, 588, 589, 590, 573, 574, 575, 576, 577, 578, 579, 580, 581, 582, 583, 571, 572] rfl (by decide +kernel)) (goodIn_sub (fun _ h => List.mem_append_left _ (List.mem_append_right _ h)) (by decide +kernel))
set_option maxRecDepth 1000000 in
theorem gL_law_L_about : GoodIn wsL_law (va_wsS RL 149 yL_about wsL_about) := goodIn_app (goodIn_of _ (by decide +kernel)) ggL_law_L_about
set_option maxRecDepth 1000000 in
theorem ggL_law_X4_about : GoodIn wsL_law wsX4_about := goodIn_r _ [529, 84, 49, 50, 85, 86, 5, 87, 550, 551, 552, 553, 554, 555, 556, 557, 558, 559, 560, 561, 562, 563, 564, 565, 566, 567, 568, 569, 570] rfl (by decide +kernel)
set_option maxRecDepth 1000000 in
theorem gL_law_X4_about : GoodIn wsL_law (wsV RL 152 RX4 yX4_about wsX4_about) := goodIn_app (goodIn_of _ (by decide +kernel)) ggL_law_X4_about
set_option maxRecDepth 1000000 in
theorem ggL_law_L_engine : GoodIn wsL_law wsL_engine := goodIn_ca (goodIn_r _ [532, 63, 533, 534, 535, 2, 536, 68, 69, 20, 537, 538, 539, 540, 153, 24, 541, 542, 547, 548, 549, 573, 574, 575, 576, 577, 578, 579, 580, 581, 582, 583, 584, 585, 586, 587, 588, 589, 590] rfl (by decide +kernel)) (goodIn_sub (fun _ h => List.mem_append_left _ (List.mem_append_left _ (List.mem_append_right _ h))) (by decide +kernel))
set_option maxRecDepth 1000000 in
theorem gL_law_L_engine : GoodIn wsL_law (va_wsS RL 153 yL_engine wsL_engine) := goodIn_app (goodIn_of _ (by decide +kernel)) ggL_law_L_engine
set_option maxRecDepth 1000000 in
theorem ggL_law_X4_engine : GoodIn wsL_law wsX4_engine := goodIn_r _ [546, 84, 129, 130, 131, 132, 133, 396, 397, 550, 551, 552, 553, 554, 555, 556, 557, 558, 559, 560, 561, 562, 563, 564, 565, 566, 567, 568, 569, 570] rfl (by decide +kernel)
set_option maxRecDepth 1000000 in
theorem gL_law_X4_engine : GoodIn wsL_law (wsV RL 155 RX4 yX4_engine wsX4_engine) := goodIn_app (goodIn_of _ (by decide +kernel)) ggL_law_X4_engine

