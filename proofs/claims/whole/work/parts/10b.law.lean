set_option maxRecDepth 20000 in
theorem ggL_law_X1_init : GoodIn wsL_law wsX1_init := goodIn_r _ [9, 10, 11, 12, 13, 14, 15, 16, 17, 18, 19, 20, 21, 22, 23, 24, 25, 26, 27, 28, 29, 30, 31, 32, 33, 579, 580, 581, 582, 583, 584, 585, 596, 597, 598, 599, 600, 601, 602, 603, 604, 605] (by decide +kernel) (by decide +kernel)
set_option maxRecDepth 20000 in
theorem gL_law_X1_init : GoodIn wsL_law (wsX1_init) := ggL_law_X1_init
set_option maxRecDepth 20000 in
theorem ggL_law_X3_init : GoodIn wsL_law wsX3_init := goodIn_r _ [36, 37, 11, 12, 15, 38, 39, 40, 41, 42, 43, 44, 45, 46, 47, 48, 49, 50, 51, 52, 53, 54, 55, 56, 57, 58, 59, 60, 61, 62, 586, 587, 588, 589, 590, 591, 592, 593, 594, 595, 606, 607, 608, 609, 610, 611, 612, 613, 614, 615] (by decide +kernel) (by decide +kernel)
set_option maxRecDepth 20000 in
theorem gL_law_X3_init : GoodIn wsL_law (wsX3_init) := ggL_law_X3_init
set_option maxRecDepth 20000 in
theorem ggL_law_L_build : GoodIn wsL_law wsL_build := goodIn_ca (goodIn_ca (goodIn_r _ [66, 67, 68, 69, 70, 71, 2, 72, 73, 74, 75, 76, 77, 14, 13, 19, 20, 78, 79, 80, 22, 23, 24, 25, 11, 12, 15, 26, 27, 28, 29, 30, 31, 32, 33, 579, 580, 581, 582, 583, 584, 585, 596, 597, 598, 599, 600, 601, 602, 603, 604, 605] (by decide +kernel) (by decide +kernel)) (goodIn_sub (fun _ h => List.mem_append_left _ (List.mem_append_left _ (List.mem_append_right _ h))) (by decide +kernel))) (goodIn_sub (fun _ h => List.mem_append_left _ (List.mem_append_right _ h)) (by decide +kernel))
set_option maxRecDepth 20000 in
theorem gL_law_L_build : GoodIn wsL_law (va_wsS RL 73 yL_build wsL_build) := goodIn_app (goodIn_of _ (by decide +kernel)) ggL_law_L_build
set_option maxRecDepth 20000 in
theorem ggL_law_X3_build : GoodIn wsL_law wsX3_build := goodIn_r _ [84, 85, 86, 38, 39, 40, 47, 87, 88, 5, 89, 90, 91, 92, 93, 586, 587, 588, 589, 590, 591, 592, 593, 594, 595, 606, 607, 608, 609, 610, 611, 612, 613, 614, 615] (by decide +kernel) (by decide +kernel)
set_option maxRecDepth 20000 in
theorem gL_law_X3_build : GoodIn wsL_law (wsV RL 78 RX3 yX3_build wsX3_build) := goodIn_app (goodIn_of _ (by decide +kernel)) ggL_law_X3_build
set_option maxRecDepth 20000 in
theorem ggL_law_X3_thrown : GoodIn wsL_law wsX3_thrown := goodIn_r _ [97, 85, 586, 587, 588, 589, 590, 591, 592, 593, 594, 595] (by decide +kernel) (by decide +kernel)
set_option maxRecDepth 20000 in
theorem gL_law_X3_thrown : GoodIn wsL_law (wsV RL 79 RX3 yX3_thrown wsX3_thrown) := goodIn_app (goodIn_of _ (by decide +kernel)) ggL_law_X3_thrown
set_option maxRecDepth 20000 in
theorem ggL_law_L_bring : GoodIn wsL_law wsL_bring := goodIn_ca (goodIn_ca (goodIn_ca (goodIn_r _ [100, 101, 67, 68, 102, 103, 104, 2, 105, 106, 107, 73, 74, 75, 76, 16, 108, 109, 110, 78, 79, 80, 579, 580, 581, 582, 583, 584, 585] (by decide +kernel) (by decide +kernel)) (goodIn_sub (fun _ h => List.mem_append_right _ h) (by decide +kernel))) (goodIn_sub (fun _ h => List.mem_append_left _ (List.mem_append_left _ (List.mem_append_right _ h))) (by decide +kernel))) (goodIn_sub (fun _ h => List.mem_append_left _ (List.mem_append_right _ h)) (by decide +kernel))
set_option maxRecDepth 20000 in
theorem gL_law_L_bring : GoodIn wsL_law (va_wsS RL 83 yL_bring wsL_bring) := goodIn_app (goodIn_of _ (by decide +kernel)) ggL_law_L_bring
set_option maxRecDepth 20000 in
theorem ggL_law_X3_bring : GoodIn wsL_law wsX3_bring := goodIn_r _ [114, 85, 43, 87, 88, 5, 89, 90, 91, 92, 93, 586, 587, 588, 589, 590, 591, 592, 593, 594, 595] (by decide +kernel) (by decide +kernel)
set_option maxRecDepth 20000 in
theorem gL_law_X3_bring : GoodIn wsL_law (wsV RL 86 RX3 yX3_bring wsX3_bring) := goodIn_app (goodIn_of _ (by decide +kernel)) ggL_law_X3_bring
set_option maxRecDepth 20000 in
theorem ggL_law_L_setWeather : GoodIn wsL_law wsL_setWeather := goodIn_ca (goodIn_ca (goodIn_r _ [117, 101, 67, 118, 119, 120, 2, 121, 106, 107, 73, 74, 17, 18, 78, 79, 80, 579, 580, 581, 582, 583, 584, 585] (by decide +kernel) (by decide +kernel)) (goodIn_sub (fun _ h => List.mem_append_right _ h) (by decide +kernel))) (goodIn_sub (fun _ h => List.mem_append_left _ (List.mem_append_left _ (List.mem_append_right _ h))) (by decide +kernel))
set_option maxRecDepth 20000 in
theorem gL_law_L_setWeather : GoodIn wsL_law (va_wsS RL 87 yL_setWeather wsL_setWeather) := goodIn_app (goodIn_of _ (by decide +kernel)) ggL_law_L_setWeather
set_option maxRecDepth 20000 in
theorem ggL_law_X3_setWeather : GoodIn wsL_law wsX3_setWeather := goodIn_r _ [125, 85, 41, 42, 87, 88, 5, 89, 90, 91, 92, 93, 586, 587, 588, 589, 590, 591, 592, 593, 594, 595] (by decide +kernel) (by decide +kernel)
set_option maxRecDepth 20000 in
theorem gL_law_X3_setWeather : GoodIn wsL_law (wsV RL 89 RX3 yX3_setWeather wsX3_setWeather) := goodIn_app (goodIn_of _ (by decide +kernel)) ggL_law_X3_setWeather
set_option maxRecDepth 20000 in
theorem ggL_law_L_lay : GoodIn wsL_law wsL_lay := goodIn_ca (goodIn_ca (goodIn_ca (goodIn_r _ [128, 101, 67, 68, 129, 130, 131, 2, 132, 106, 107, 73, 74, 75, 76, 16, 133, 134, 135, 136, 14, 78, 79, 80, 137, 138, 139, 20, 140, 30, 141, 142, 143, 144, 31, 108, 109, 110, 145, 146, 147, 148, 149, 150, 151, 152, 153, 154, 155, 156, 157, 158, 159, 27, 160, 161, 162, 163, 164, 165, 166, 26, 28, 29, 167, 168, 169, 170, 171, 579, 580, 581, 582, 583, 584, 585, 596, 597, 598, 599, 600, 601, 602, 603, 604, 605] (by decide +kernel) (by decide +kernel)) (goodIn_sub (fun _ h => List.mem_append_right _ h) (by decide +kernel))) (goodIn_sub (fun _ h => List.mem_append_left _ (List.mem_append_left _ (List.mem_append_right _ h))) (by decide +kernel))) (goodIn_sub (fun _ h => List.mem_append_left _ (List.mem_append_right _ h)) (by decide +kernel))
set_option maxRecDepth 20000 in
theorem gL_law_L_lay : GoodIn wsL_law (va_wsS RL 90 yL_lay wsL_lay) := goodIn_app (goodIn_of _ (by decide +kernel)) ggL_law_L_lay
set_option maxRecDepth 20000 in
theorem ggL_law_X3_lay : GoodIn wsL_law wsX3_lay := goodIn_r _ [175, 85, 43, 47, 176, 177, 178, 5, 179, 38, 180, 181, 182, 183, 39, 184, 185, 186, 187, 86, 87, 88, 89, 90, 91, 92, 93, 188, 189, 190, 191, 192, 193, 194, 46, 195, 57, 196, 197, 198, 199, 200, 201, 202, 203, 204, 205, 58, 59, 60, 586, 587, 588, 589, 590, 591, 592, 593, 594, 595, 606, 607, 608, 609, 610, 611, 612, 613, 614, 615] (by decide +kernel) (by decide +kernel)
set_option maxRecDepth 20000 in
theorem gL_law_X3_lay : GoodIn wsL_law (wsV RL 93 RX3 yX3_lay wsX3_lay) := goodIn_app (goodIn_of _ (by decide +kernel)) ggL_law_X3_lay
set_option maxRecDepth 20000 in
theorem ggL_law_L_layCourse : GoodIn wsL_law wsL_layCourse := goodIn_ca (goodIn_ca (goodIn_r _ [208, 101, 67, 209, 210, 211, 2, 212, 106, 107, 73, 74, 16, 133, 134, 135, 136, 14, 78, 79, 80, 213, 142, 143, 20, 144, 31, 108, 109, 110, 145, 146, 147, 214, 215, 216, 217, 30, 148, 149, 150, 151, 152, 153, 154, 155, 156, 157, 158, 159, 27, 160, 161, 162, 163, 164, 165, 166, 26, 28, 29, 167, 138, 139, 140, 141, 168, 169, 170, 171, 579, 580, 581, 582, 583, 584, 585, 596, 597, 598, 599, 600, 601, 602, 603, 604, 605] (by decide +kernel) (by decide +kernel)) (goodIn_sub (fun _ h => List.mem_append_right _ h) (by decide +kernel))) (goodIn_sub (fun _ h => List.mem_append_left _ (List.mem_append_left _ (List.mem_append_right _ h))) (by decide +kernel))
set_option maxRecDepth 20000 in
theorem gL_law_L_layCourse : GoodIn wsL_law (va_wsS RL 94 yL_layCourse wsL_layCourse) := goodIn_app (goodIn_of _ (by decide +kernel)) ggL_law_L_layCourse
set_option maxRecDepth 20000 in
theorem ggL_law_X3_layCourse : GoodIn wsL_law wsX3_layCourse := goodIn_r _ [221, 85, 38, 43, 47, 180, 181, 182, 5, 183, 39, 184, 185, 186, 187, 86, 87, 88, 89, 90, 91, 92, 93, 188, 189, 190, 191, 192, 193, 194, 46, 195, 57, 196, 197, 198, 199, 200, 201, 202, 203, 204, 205, 58, 59, 60, 586, 587, 588, 589, 590, 591, 592, 593, 594, 595, 606, 607, 608, 609, 610, 611, 612, 613, 614, 615] (by decide +kernel) (by decide +kernel)
set_option maxRecDepth 20000 in
theorem gL_law_X3_layCourse : GoodIn wsL_law (wsV RL 97 RX3 yX3_layCourse wsX3_layCourse) := goodIn_app (goodIn_of _ (by decide +kernel)) ggL_law_X3_layCourse
set_option maxRecDepth 20000 in
theorem ggL_law_L_mend : GoodIn wsL_law wsL_mend := goodIn_ca (goodIn_ca (goodIn_r _ [224, 101, 68, 225, 226, 227, 2, 228, 106, 107, 75, 76, 16, 133, 134, 135, 136, 14, 78, 79, 80, 137, 138, 139, 20, 140, 30, 141, 142, 143, 144, 31, 229, 230, 231, 232, 26, 152, 153, 154, 155, 156, 157, 158, 159, 27, 168, 169, 170, 171, 108, 109, 110, 233, 234, 235, 236, 29, 28, 237, 238, 239, 240, 241, 579, 580, 581, 582, 583, 584, 585, 596, 597, 598, 599, 600, 601, 602, 603, 604, 605] (by decide +kernel) (by decide +kernel)) (goodIn_sub (fun _ h => List.mem_append_right _ h) (by decide +kernel))) (goodIn_sub (fun _ h => List.mem_append_left _ (List.mem_append_right _ h)) (by decide +kernel))
set_option maxRecDepth 20000 in
theorem gL_law_L_mend : GoodIn wsL_law (va_wsS RL 98 yL_mend wsL_mend) := goodIn_app (goodIn_of _ (by decide +kernel)) ggL_law_L_mend
set_option maxRecDepth 20000 in
theorem ggL_law_X3_mend : GoodIn wsL_law wsX3_mend := goodIn_r _ [245, 85, 47, 43, 176, 177, 178, 5, 179, 38, 180, 181, 182, 183, 39, 184, 185, 186, 187, 86, 87, 88, 89, 90, 91, 92, 93, 201, 196, 197, 246, 247, 248, 46, 249, 60, 59, 250, 238, 239, 240, 58, 586, 587, 588, 589, 590, 591, 592, 593, 594, 595, 606, 607, 608, 609, 610, 611, 612, 613, 614, 615] (by decide +kernel) (by decide +kernel)
set_option maxRecDepth 20000 in
theorem gL_law_X3_mend : GoodIn wsL_law (wsV RL 100 RX3 yX3_mend wsX3_mend) := goodIn_app (goodIn_of _ (by decide +kernel)) ggL_law_X3_mend
set_option maxRecDepth 20000 in
theorem ggL_law_L_bind : GoodIn wsL_law wsL_bind := goodIn_ca (goodIn_ca (goodIn_r _ [253, 101, 68, 254, 255, 256, 2, 257, 106, 107, 75, 76, 16, 133, 134, 135, 136, 14, 78, 79, 80, 214, 215, 216, 20, 217, 30, 258, 259, 260, 261, 33, 579, 580, 581, 582, 583, 584, 585, 596, 597, 598, 599, 600, 601, 602, 603, 604, 605] (by decide +kernel) (by decide +kernel)) (goodIn_sub (fun _ h => List.mem_append_right _ h) (by decide +kernel))) (goodIn_sub (fun _ h => List.mem_append_left _ (List.mem_append_right _ h)) (by decide +kernel))
set_option maxRecDepth 20000 in
theorem gL_law_L_bind : GoodIn wsL_law (va_wsS RL 101 yL_bind wsL_bind) := goodIn_app (goodIn_of _ (by decide +kernel)) ggL_law_L_bind
set_option maxRecDepth 20000 in
theorem ggL_law_X3_bind : GoodIn wsL_law wsX3_bind := goodIn_r _ [265, 85, 43, 38, 47, 184, 185, 186, 5, 187, 86, 87, 88, 89, 90, 91, 92, 93, 586, 587, 588, 589, 590, 591, 592, 593, 594, 595, 606, 607, 608, 609, 610, 611, 612, 613, 614, 615] (by decide +kernel) (by decide +kernel)
set_option maxRecDepth 20000 in
theorem gL_law_X3_bind : GoodIn wsL_law (wsV RL 104 RX3 yX3_bind wsX3_bind) := goodIn_app (goodIn_of _ (by decide +kernel)) ggL_law_X3_bind
set_option maxRecDepth 20000 in
theorem ggL_law_L_yealm : GoodIn wsL_law wsL_yealm := goodIn_ca (goodIn_r _ [268, 101, 269, 270, 271, 2, 272, 106, 107, 133, 134, 135, 136, 14, 78, 79, 80, 137, 138, 139, 20, 140, 30, 141, 142, 143, 144, 31, 273, 274, 275, 276, 26, 27, 28, 29, 152, 153, 154, 155, 156, 157, 158, 159, 168, 169, 170, 171, 277, 278, 279, 280, 281, 282, 283, 284, 579, 580, 581, 582, 583, 584, 585, 596, 597, 598, 599, 600, 601, 602, 603, 604, 605] (by decide +kernel) (by decide +kernel)) (goodIn_sub (fun _ h => List.mem_append_right _ h) (by decide +kernel))
set_option maxRecDepth 20000 in
theorem gL_law_L_yealm : GoodIn wsL_law (va_wsS RL 105 yL_yealm wsL_yealm) := goodIn_app (goodIn_of _ (by decide +kernel)) ggL_law_L_yealm
set_option maxRecDepth 20000 in
theorem ggL_law_X3_yealm : GoodIn wsL_law wsX3_yealm := goodIn_r _ [288, 85, 176, 177, 178, 5, 179, 38, 180, 181, 182, 183, 39, 184, 185, 186, 187, 86, 87, 88, 89, 289, 290, 291, 292, 15, 47, 201, 196, 197, 293, 294, 295, 46, 296, 52, 297, 193, 194, 195, 57, 90, 91, 92, 93, 586, 587, 588, 589, 590, 591, 592, 593, 594, 595, 606, 607, 608, 609, 610, 611, 612, 613, 614, 615] (by decide +kernel) (by decide +kernel)
set_option maxRecDepth 20000 in
theorem gL_law_X3_yealm : GoodIn wsL_law (wsV RL 108 RX3 yX3_yealm wsX3_yealm) := goodIn_app (goodIn_of _ (by decide +kernel)) ggL_law_X3_yealm
set_option maxRecDepth 20000 in
theorem ggL_law_L_roof : GoodIn wsL_law wsL_roof := goodIn_ca (goodIn_r _ [300, 101, 301, 302, 303, 2, 304, 106, 107, 133, 134, 135, 136, 14, 78, 79, 80, 305, 306, 307, 20, 308, 30, 31, 32, 33, 309, 310, 311, 312, 313, 314, 152, 153, 154, 155, 156, 157, 158, 159, 27, 315, 316, 317, 318, 319, 320, 321, 322, 323, 324, 325, 326, 579, 580, 581, 582, 583, 584, 585, 596, 597, 598, 599, 600, 601, 602, 603, 604, 605] (by decide +kernel) (by decide +kernel)) (goodIn_sub (fun _ h => List.mem_append_right _ h) (by decide +kernel))
set_option maxRecDepth 20000 in
theorem gL_law_L_roof : GoodIn wsL_law (va_wsS RL 109 yL_roof wsL_roof) := goodIn_app (goodIn_of _ (by decide +kernel)) ggL_law_L_roof
set_option maxRecDepth 20000 in
theorem ggL_law_X3_roof : GoodIn wsL_law wsX3_roof := goodIn_r _ [330, 85, 184, 185, 186, 5, 187, 86, 87, 88, 89, 331, 332, 333, 334, 15, 38, 39, 40, 47, 335, 336, 337, 46, 338, 57, 339, 340, 341, 342, 58, 343, 344, 345, 346, 52, 196, 197, 297, 193, 194, 195, 90, 91, 92, 93, 586, 587, 588, 589, 590, 591, 592, 593, 594, 595, 606, 607, 608, 609, 610, 611, 612, 613, 614, 615] (by decide +kernel) (by decide +kernel)
set_option maxRecDepth 20000 in
theorem gL_law_X3_roof : GoodIn wsL_law (wsV RL 111 RX3 yX3_roof wsX3_roof) := goodIn_app (goodIn_of _ (by decide +kernel)) ggL_law_X3_roof
set_option maxRecDepth 20000 in
theorem ggL_law_L_count : GoodIn wsL_law wsL_count := goodIn_ca (goodIn_r _ [349, 101, 350, 351, 352, 2, 353, 106, 107, 78, 79, 80, 354, 355, 356, 357, 358, 77, 16, 359, 360, 361, 362, 14, 305, 306, 307, 20, 308, 30, 31, 32, 33, 309, 310, 311, 312, 313, 314, 152, 153, 154, 155, 156, 157, 158, 159, 27, 315, 316, 317, 318, 319, 320, 321, 322, 323, 324, 325, 326, 363, 364, 365, 366, 17, 367, 368, 369, 370, 371, 372, 373, 374, 375, 376, 377, 378, 18, 579, 580, 581, 582, 583, 584, 585, 596, 597, 598, 599, 600, 601, 602, 603, 604, 605] (by decide +kernel) (by decide +kernel)) (goodIn_sub (fun _ h => List.mem_append_right _ h) (by decide +kernel))
set_option maxRecDepth 20000 in
theorem gL_law_L_count : GoodIn wsL_law (va_wsS RL 112 yL_count wsL_count) := goodIn_app (goodIn_of _ (by decide +kernel)) ggL_law_L_count
set_option maxRecDepth 20000 in
theorem ggL_law_X3_count : GoodIn wsL_law wsX3_count := goodIn_r _ [382, 85, 87, 88, 5, 89, 383, 384, 385, 386, 86, 47, 15, 43, 41, 42, 335, 336, 337, 46, 338, 57, 343, 344, 345, 346, 52, 58, 196, 197, 297, 193, 194, 195, 90, 91, 92, 93, 586, 587, 588, 589, 590, 591, 592, 593, 594, 595, 606, 607, 608, 609, 610, 611, 612, 613, 614, 615] (by decide +kernel) (by decide +kernel)
set_option maxRecDepth 20000 in
theorem gL_law_X3_count : GoodIn wsL_law (wsV RL 114 RX3 yX3_count wsX3_count) := goodIn_app (goodIn_of _ (by decide +kernel)) ggL_law_X3_count
set_option maxRecDepth 20000 in
theorem ggL_law_L_pass : GoodIn wsL_law wsL_pass := goodIn_ca (goodIn_r _ [389, 67, 390, 391, 392, 2, 393, 73, 74, 14, 358, 78, 79, 80, 363, 364, 365, 366, 17, 367, 368, 369, 370, 371, 372, 373, 374, 375, 376, 377, 378, 18, 394, 395, 396, 20, 397, 30, 398, 399, 400, 401, 310, 309, 402, 403, 404, 405, 31, 27, 406, 407, 239, 408, 152, 153, 154, 155, 156, 157, 158, 159, 168, 169, 170, 171, 409, 410, 411, 412, 29, 32, 26, 277, 278, 279, 280, 281, 282, 283, 284, 413, 414, 415, 416, 237, 238, 240, 417, 418, 419, 420, 421, 422, 423, 424, 28, 33, 425, 426, 427, 428, 429, 430, 431, 432, 579, 580, 581, 582, 583, 584, 585, 596, 597, 598, 599, 600, 601, 602, 603, 604, 605] (by decide +kernel) (by decide +kernel)) (goodIn_sub (fun _ h => List.mem_append_left _ (List.mem_append_left _ (List.mem_append_right _ h))) (by decide +kernel))
set_option maxRecDepth 20000 in
theorem gL_law_L_pass : GoodIn wsL_law (va_wsS RL 115 yL_pass wsL_pass) := goodIn_app (goodIn_of _ (by decide +kernel)) ggL_law_L_pass
set_option maxRecDepth 20000 in
theorem ggL_law_X3_pass : GoodIn wsL_law wsX3_pass := goodIn_r _ [436, 85, 86, 47, 87, 88, 5, 89, 90, 91, 92, 93, 437, 438, 439, 46, 440, 52, 57, 58, 62, 56, 60, 250, 238, 239, 240, 55, 54, 441, 407, 408, 442, 443, 444, 445, 196, 197, 446, 294, 295, 296, 297, 193, 194, 195, 447, 448, 449, 450, 451, 203, 204, 205, 59, 452, 453, 454, 455, 586, 587, 588, 589, 590, 591, 592, 593, 594, 595, 606, 607, 608, 609, 610, 611, 612, 613, 614, 615] (by decide +kernel) (by decide +kernel)
set_option maxRecDepth 20000 in
theorem gL_law_X3_pass : GoodIn wsL_law (wsV RL 117 RX3 yX3_pass wsX3_pass) := goodIn_app (goodIn_of _ (by decide +kernel)) ggL_law_X3_pass
set_option maxRecDepth 20000 in
theorem ggL_law_L_tears : GoodIn wsL_law wsL_tears := goodIn_ca (goodIn_ca (goodIn_r _ [458, 101, 67, 459, 460, 461, 2, 462, 106, 107, 73, 74, 133, 134, 135, 136, 14, 78, 79, 80, 463, 464, 465, 20, 466, 31, 30, 421, 422, 423, 424, 28, 27, 33, 152, 153, 154, 155, 156, 157, 158, 159, 168, 169, 170, 171, 277, 278, 279, 280, 281, 282, 283, 284, 425, 426, 427, 428, 579, 580, 581, 582, 583, 584, 585, 596, 597, 598, 599, 600, 601, 602, 603, 604, 605] (by decide +kernel) (by decide +kernel)) (goodIn_sub (fun _ h => List.mem_append_right _ h) (by decide +kernel))) (goodIn_sub (fun _ h => List.mem_append_left _ (List.mem_append_left _ (List.mem_append_right _ h))) (by decide +kernel))
set_option maxRecDepth 20000 in
theorem gL_law_L_tears : GoodIn wsL_law (va_wsS RL 118 yL_tears wsL_tears) := goodIn_app (goodIn_of _ (by decide +kernel)) ggL_law_L_tears
set_option maxRecDepth 20000 in
theorem ggL_law_X3_tears : GoodIn wsL_law wsX3_tears := goodIn_r _ [470, 85, 39, 38, 47, 184, 185, 186, 5, 187, 86, 87, 88, 89, 90, 91, 92, 93, 471, 453, 454, 46, 455, 52, 59, 58, 54, 57, 196, 197, 446, 294, 295, 296, 297, 193, 194, 195, 586, 587, 588, 589, 590, 591, 592, 593, 594, 595, 606, 607, 608, 609, 610, 611, 612, 613, 614, 615] (by decide +kernel) (by decide +kernel)
set_option maxRecDepth 20000 in
theorem gL_law_X3_tears : GoodIn wsL_law (wsV RL 120 RX3 yX3_tears wsX3_tears) := goodIn_app (goodIn_of _ (by decide +kernel)) ggL_law_X3_tears
set_option maxRecDepth 20000 in
theorem ggL_law_L_holds : GoodIn wsL_law wsL_holds := goodIn_ca (goodIn_r _ [474, 101, 475, 476, 477, 2, 478, 106, 107, 21, 133, 134, 135, 136, 14, 78, 79, 80, 479, 324, 325, 20, 326, 30, 31, 319, 320, 321, 322, 156, 157, 158, 159, 27, 152, 153, 154, 155, 480, 481, 482, 483, 32, 33, 26, 484, 485, 486, 487, 28, 29, 363, 364, 365, 366, 17, 367, 368, 369, 370, 358, 371, 372, 373, 374, 375, 376, 377, 378, 18, 394, 395, 396, 397, 398, 399, 400, 401, 310, 309, 402, 403, 404, 405, 406, 407, 239, 408, 168, 169, 170, 171, 409, 410, 411, 412, 277, 278, 279, 280, 281, 282, 283, 284, 413, 414, 415, 416, 237, 238, 240, 417, 418, 419, 420, 421, 422, 423, 424, 425, 426, 427, 428, 429, 430, 431, 432, 579, 580, 581, 582, 583, 584, 585, 596, 597, 598, 599, 600, 601, 602, 603, 604, 605] (by decide +kernel) (by decide +kernel)) (goodIn_sub (fun _ h => List.mem_append_right _ h) (by decide +kernel))
set_option maxRecDepth 20000 in
theorem gL_law_L_holds : GoodIn wsL_law (va_wsS RL 121 yL_holds wsL_holds) := goodIn_app (goodIn_of _ (by decide +kernel)) ggL_law_L_holds
set_option maxRecDepth 20000 in
theorem ggL_law_X3_holds : GoodIn wsL_law wsX3_holds := goodIn_r _ [491, 85, 47, 48, 184, 185, 186, 5, 187, 86, 87, 88, 89, 90, 91, 92, 93, 343, 344, 345, 46, 346, 52, 58, 196, 197, 297, 193, 194, 195, 57, 492, 493, 494, 495, 496, 54, 55, 56, 59, 60, 497, 498, 499, 500, 501, 485, 486, 487, 437, 438, 439, 440, 62, 250, 238, 239, 240, 441, 407, 408, 442, 443, 444, 445, 446, 294, 295, 296, 447, 448, 449, 450, 451, 203, 204, 205, 452, 453, 454, 455, 586, 587, 588, 589, 590, 591, 592, 593, 594, 595, 606, 607, 608, 609, 610, 611, 612, 613, 614, 615] (by decide +kernel) (by decide +kernel)
set_option maxRecDepth 20000 in
theorem gL_law_X3_holds : GoodIn wsL_law (wsV RL 123 RX3 yX3_holds wsX3_holds) := goodIn_app (goodIn_of _ (by decide +kernel)) ggL_law_X3_holds
set_option maxRecDepth 20000 in
theorem ggL_law_L_foresee : GoodIn wsL_law wsL_foresee := goodIn_ca (goodIn_ca (goodIn_r _ [504, 101, 67, 505, 506, 507, 2, 508, 106, 107, 73, 74, 21, 133, 134, 135, 136, 14, 78, 79, 80, 480, 481, 482, 20, 483, 30, 31, 32, 33, 26, 484, 485, 486, 487, 27, 28, 29, 363, 364, 365, 366, 17, 367, 368, 369, 370, 358, 371, 372, 373, 374, 375, 376, 377, 378, 18, 394, 395, 396, 397, 398, 399, 400, 401, 310, 309, 402, 403, 404, 405, 406, 407, 239, 408, 152, 153, 154, 155, 156, 157, 158, 159, 168, 169, 170, 171, 409, 410, 411, 412, 277, 278, 279, 280, 281, 282, 283, 284, 413, 414, 415, 416, 237, 238, 240, 417, 418, 419, 420, 421, 422, 423, 424, 425, 426, 427, 428, 429, 430, 431, 432, 509, 312, 313, 314, 479, 324, 325, 326, 319, 320, 321, 322, 510, 511, 512, 513, 579, 580, 581, 582, 583, 584, 585, 596, 597, 598, 599, 600, 601, 602, 603, 604, 605] (by decide +kernel) (by decide +kernel)) (goodIn_sub (fun _ h => List.mem_append_right _ h) (by decide +kernel))) (goodIn_sub (fun _ h => List.mem_append_left _ (List.mem_append_left _ (List.mem_append_right _ h))) (by decide +kernel))
set_option maxRecDepth 20000 in
theorem gL_law_L_foresee : GoodIn wsL_law (va_wsS RL 124 yL_foresee wsL_foresee) := goodIn_app (goodIn_of _ (by decide +kernel)) ggL_law_L_foresee
set_option maxRecDepth 20000 in
theorem ggL_law_X3_foresee : GoodIn wsL_law wsX3_foresee := goodIn_r _ [517, 85, 48, 47, 184, 185, 186, 5, 187, 86, 87, 88, 89, 90, 91, 92, 93, 492, 493, 494, 46, 495, 496, 54, 55, 56, 57, 58, 59, 60, 497, 498, 499, 500, 501, 485, 486, 487, 437, 438, 439, 440, 52, 62, 250, 238, 239, 240, 441, 407, 408, 442, 443, 444, 445, 196, 197, 446, 294, 295, 296, 297, 193, 194, 195, 447, 448, 449, 450, 451, 203, 204, 205, 452, 453, 454, 455, 335, 336, 337, 338, 343, 344, 345, 346, 586, 587, 588, 589, 590, 591, 592, 593, 594, 595, 606, 607, 608, 609, 610, 611, 612, 613, 614, 615] (by decide +kernel) (by decide +kernel)
set_option maxRecDepth 20000 in
theorem gL_law_X3_foresee : GoodIn wsL_law (wsV RL 126 RX3 yX3_foresee wsX3_foresee) := goodIn_app (goodIn_of _ (by decide +kernel)) ggL_law_X3_foresee
set_option maxRecDepth 20000 in
theorem ggL_law_L_advise : GoodIn wsL_law wsL_advise := goodIn_ca (goodIn_ca (goodIn_r _ [520, 101, 67, 521, 522, 523, 2, 524, 106, 107, 73, 74, 133, 134, 135, 136, 14, 78, 79, 80, 214, 215, 216, 20, 217, 30, 525, 526, 527, 528, 21, 480, 481, 482, 483, 31, 32, 33, 26, 484, 485, 486, 487, 27, 28, 29, 233, 234, 235, 236, 237, 238, 239, 240, 152, 153, 154, 155, 156, 157, 158, 159, 168, 169, 170, 171, 363, 364, 365, 366, 17, 367, 368, 369, 370, 358, 371, 372, 373, 374, 375, 376, 377, 378, 18, 529, 399, 400, 401, 310, 309, 402, 403, 404, 405, 406, 407, 408, 409, 410, 411, 412, 277, 278, 279, 280, 281, 282, 283, 284, 413, 414, 415, 416, 417, 418, 419, 420, 421, 422, 423, 424, 425, 426, 427, 428, 530, 430, 431, 432, 531, 532, 533, 534, 535, 579, 580, 581, 582, 583, 584, 585, 596, 597, 598, 599, 600, 601, 602, 603, 604, 605] (by decide +kernel) (by decide +kernel)) (goodIn_sub (fun _ h => List.mem_append_right _ h) (by decide +kernel))) (goodIn_sub (fun _ h => List.mem_append_left _ (List.mem_append_left _ (List.mem_append_right _ h))) (by decide +kernel))
set_option maxRecDepth 20000 in
theorem gL_law_L_advise : GoodIn wsL_law (va_wsS RL 127 yL_advise wsL_advise) := goodIn_app (goodIn_of _ (by decide +kernel)) ggL_law_L_advise
set_option maxRecDepth 20000 in
theorem ggL_law_X3_advise : GoodIn wsL_law wsX3_advise := goodIn_r _ [539, 85, 38, 39, 47, 184, 185, 186, 5, 187, 86, 87, 88, 89, 90, 91, 92, 93, 540, 541, 542, 543, 48, 492, 493, 494, 46, 495, 496, 54, 55, 56, 57, 58, 59, 60, 497, 498, 499, 500, 501, 485, 486, 487, 246, 247, 248, 249, 250, 238, 239, 240, 437, 438, 439, 440, 52, 62, 441, 407, 408, 442, 443, 444, 445, 196, 197, 446, 294, 295, 296, 297, 193, 194, 195, 447, 448, 449, 450, 451, 203, 204, 205, 452, 453, 454, 455, 335, 336, 337, 338, 201, 586, 587, 588, 589, 590, 591, 592, 593, 594, 595, 606, 607, 608, 609, 610, 611, 612, 613, 614, 615] (by decide +kernel) (by decide +kernel)
set_option maxRecDepth 20000 in
theorem gL_law_X3_advise : GoodIn wsL_law (wsV RL 129 RX3 yX3_advise wsX3_advise) := goodIn_app (goodIn_of _ (by decide +kernel)) ggL_law_X3_advise
set_option maxRecDepth 20000 in
theorem ggL_law_L_needs : GoodIn wsL_law wsL_needs := goodIn_ca (goodIn_ca (goodIn_r _ [546, 101, 67, 547, 548, 549, 2, 550, 106, 107, 73, 74, 133, 134, 135, 136, 14, 78, 79, 80, 214, 215, 216, 20, 217, 30, 531, 532, 533, 534, 31, 509, 312, 313, 314, 152, 153, 154, 155, 156, 157, 158, 159, 27, 160, 161, 162, 579, 580, 581, 582, 583, 584, 585, 596, 597, 598, 599, 600, 601, 602, 603, 604, 605] (by decide +kernel) (by decide +kernel)) (goodIn_sub (fun _ h => List.mem_append_right _ h) (by decide +kernel))) (goodIn_sub (fun _ h => List.mem_append_left _ (List.mem_append_left _ (List.mem_append_right _ h))) (by decide +kernel))
set_option maxRecDepth 20000 in
theorem gL_law_L_needs : GoodIn wsL_law (va_wsS RL 130 yL_needs wsL_needs) := goodIn_app (goodIn_of _ (by decide +kernel)) ggL_law_L_needs
set_option maxRecDepth 20000 in
theorem ggL_law_X3_needs : GoodIn wsL_law wsX3_needs := goodIn_r _ [554, 85, 38, 39, 47, 184, 185, 186, 5, 187, 86, 87, 88, 89, 90, 91, 92, 93, 335, 336, 337, 46, 338, 57, 198, 199, 200, 586, 587, 588, 589, 590, 591, 592, 593, 594, 595, 606, 607, 608, 609, 610, 611, 612, 613, 614, 615] (by decide +kernel) (by decide +kernel)
set_option maxRecDepth 20000 in
theorem gL_law_X3_needs : GoodIn wsL_law (wsV RL 132 RX3 yX3_needs wsX3_needs) := goodIn_app (goodIn_of _ (by decide +kernel)) ggL_law_X3_needs
set_option maxRecDepth 20000 in
theorem ggL_law_X1_mean : GoodIn wsL_law wsX1_mean := goodIn_r _ [558, 14, 509, 312, 313, 20, 314, 31, 30, 152, 153, 154, 155, 156, 157, 158, 159, 27, 559, 316, 317, 318, 319, 320, 321, 322, 579, 580, 581, 582, 583, 584, 585, 596, 597, 598, 599, 600, 601, 602, 603, 604, 605] (by decide +kernel) (by decide +kernel)
set_option maxRecDepth 20000 in
theorem gL_law_X1_mean : GoodIn wsL_law (wsV RL 133 RX1 yX1_mean wsX1_mean) := goodIn_app (goodIn_of _ (by decide +kernel)) ggL_law_X1_mean
set_option maxRecDepth 20000 in
theorem ggL_law_X3_mean : GoodIn wsL_law wsX3_mean := goodIn_r _ [563, 85, 86, 47, 339, 340, 341, 46, 342, 58, 335, 336, 337, 338, 57, 586, 587, 588, 589, 590, 591, 592, 593, 594, 595, 606, 607, 608, 609, 610, 611, 612, 613, 614, 615] (by decide +kernel) (by decide +kernel)
set_option maxRecDepth 20000 in
theorem gL_law_X3_mean : GoodIn wsL_law (wsV RL 137 RX3 yX3_mean wsX3_mean) := goodIn_app (goodIn_of _ (by decide +kernel)) ggL_law_X3_mean
set_option maxRecDepth 20000 in
theorem ggL_law_X1_digest : GoodIn wsL_law wsX1_digest := goodIn_r _ [567, 568, 569, 17, 18, 14, 354, 355, 356, 2, 357, 358, 77, 16, 359, 360, 361, 362, 305, 306, 307, 20, 308, 30, 31, 32, 33, 309, 310, 311, 312, 313, 314, 152, 153, 154, 155, 156, 157, 158, 159, 27, 315, 316, 317, 318, 319, 320, 321, 322, 323, 324, 325, 326, 363, 364, 365, 366, 367, 368, 369, 370, 371, 372, 373, 374, 375, 376, 377, 378, 570, 571, 572, 531, 532, 533, 534, 214, 215, 216, 217, 273, 274, 275, 276, 26, 28, 29, 168, 169, 170, 171, 277, 278, 279, 280, 281, 282, 283, 284, 579, 580, 581, 582, 583, 584, 585, 596, 597, 598, 599, 600, 601, 602, 603, 604, 605] (by decide +kernel) (by decide +kernel)
set_option maxRecDepth 20000 in
theorem gL_law_X1_digest : GoodIn wsL_law (wsV RL 138 RX1 yX1_digest wsX1_digest) := goodIn_app (goodIn_of _ (by decide +kernel)) ggL_law_X1_digest
set_option maxRecDepth 20000 in
theorem ggL_law_X3_digest : GoodIn wsL_law wsX3_digest := goodIn_r _ [576, 85, 577, 578, 41, 42, 86, 39, 38, 383, 384, 385, 5, 386, 47, 15, 43, 335, 336, 337, 46, 338, 57, 343, 344, 345, 346, 52, 58, 196, 197, 297, 193, 194, 195, 331, 332, 333, 334, 40, 339, 340, 341, 342, 289, 290, 291, 292, 201, 293, 294, 295, 296, 586, 587, 588, 589, 590, 591, 592, 593, 594, 595, 606, 607, 608, 609, 610, 611, 612, 613, 614, 615] (by decide +kernel) (by decide +kernel)
set_option maxRecDepth 20000 in
theorem gL_law_X3_digest : GoodIn wsL_law (wsV RL 142 RX3 yX3_digest wsX3_digest) := goodIn_app (goodIn_of _ (by decide +kernel)) ggL_law_X3_digest
