set_option maxRecDepth 20000 in
theorem ggL_law_X6_back : GoodIn wsL_law wsX6_back := goodIn_r _ [366, 136, 193, 101, 138, 139, 140, 5, 141, 142, 584, 585, 586, 587, 588, 589, 590, 591, 592, 593, 594, 595, 596, 597, 598] (by decide +kernel) (by decide +kernel)
set_option maxRecDepth 20000 in
theorem gL_law_X6_back : GoodIn wsL_law (wsV RL 103 RX6 yX6_back wsX6_back) := goodIn_app (goodIn_of _ (by decide +kernel)) ggL_law_X6_back
set_option maxRecDepth 20000 in
theorem ggL_law_L_seek : GoodIn wsL_law wsL_seek := goodIn_ca (goodIn_r _ [369, 109, 370, 371, 372, 2, 373, 30, 25, 122, 123, 124, 125, 126, 374, 375, 376, 24, 377, 59, 60, 67, 64, 378, 379, 380, 381, 246, 247, 248, 19, 249, 53, 255, 256, 257, 258, 68, 259, 160, 161, 162, 47, 49, 163, 164, 165, 166, 382, 383, 384, 385, 386, 387, 50, 388, 389, 390, 391, 51, 171, 172, 173, 63, 174, 175, 176, 177, 178, 73, 74, 179, 579, 580, 581, 582, 583, 608, 609, 610, 611, 612, 613, 614, 599, 600, 601, 602, 603, 604, 605, 606, 607, 621, 622, 623, 624, 625, 626, 627] (by decide +kernel) (by decide +kernel)) (goodIn_sub (fun _ h => List.mem_append_left _ (List.mem_append_left _ (List.mem_append_right _ h))) (by decide +kernel))
set_option maxRecDepth 20000 in
theorem gL_law_L_seek : GoodIn wsL_law (va_wsS RL 104 yL_seek wsL_seek) := goodIn_app (goodIn_of _ (by decide +kernel)) ggL_law_L_seek
set_option maxRecDepth 20000 in
theorem ggL_law_X6_seek : GoodIn wsL_law wsX6_seek := goodIn_r _ [395, 136, 100, 192, 101, 222, 138, 139, 140, 5, 141, 142, 194, 195, 196, 197, 285, 286, 287, 288, 97, 99, 396, 397, 398, 399, 400, 401, 402, 403, 293, 294, 295, 584, 585, 586, 587, 588, 589, 590, 591, 592, 593, 594, 595, 596, 597, 598] (by decide +kernel) (by decide +kernel)
set_option maxRecDepth 20000 in
theorem gL_law_X6_seek : GoodIn wsL_law (wsV RL 106 RX6 yX6_seek wsX6_seek) := goodIn_app (goodIn_of _ (by decide +kernel)) ggL_law_X6_seek
set_option maxRecDepth 20000 in
theorem ggL_law_L_rewind : GoodIn wsL_law wsL_rewind := goodIn_ca (goodIn_r _ [406, 109, 407, 408, 409, 2, 410, 30, 25, 122, 123, 124, 125, 126, 167, 168, 169, 24, 170, 64, 68, 171, 172, 173, 63, 174, 175, 176, 177, 178, 73, 74, 179, 579, 580, 581, 582, 583, 608, 609, 610, 611, 612, 613, 614, 621, 622, 623, 624, 625, 626, 627] (by decide +kernel) (by decide +kernel)) (goodIn_sub (fun _ h => List.mem_append_left _ (List.mem_append_left _ (List.mem_append_right _ h))) (by decide +kernel))
set_option maxRecDepth 20000 in
theorem gL_law_L_rewind : GoodIn wsL_law (va_wsS RL 107 yL_rewind wsL_rewind) := goodIn_app (goodIn_of _ (by decide +kernel)) ggL_law_L_rewind
set_option maxRecDepth 20000 in
theorem ggL_law_X6_rewind : GoodIn wsL_law wsX6_rewind := goodIn_r _ [414, 136, 192, 138, 139, 140, 5, 141, 142, 194, 195, 196, 197, 101, 584, 585, 586, 587, 588, 589, 590, 591, 592, 593, 594, 595, 596, 597, 598] (by decide +kernel) (by decide +kernel)
set_option maxRecDepth 20000 in
theorem gL_law_X6_rewind : GoodIn wsL_law (wsV RL 110 RX6 yX6_rewind wsX6_rewind) := goodIn_app (goodIn_of _ (by decide +kernel)) ggL_law_X6_rewind
set_option maxRecDepth 20000 in
theorem ggL_law_L_count : GoodIn wsL_law wsL_count := goodIn_ca (goodIn_ca (goodIn_r _ [417, 201, 109, 418, 419, 420, 2, 421, 30, 20, 21, 206, 207, 208, 209, 210, 211, 212, 213, 122, 123, 124, 125, 126, 422, 247, 248, 19, 249, 53, 423, 382, 383, 384, 385, 386, 387, 50, 388, 389, 390, 391, 51, 579, 580, 581, 582, 583, 599, 600, 601, 602, 603, 604, 605, 606, 607] (by decide +kernel) (by decide +kernel)) (goodIn_sub (fun _ h => List.mem_append_left _ (List.mem_append_right _ h)) (by decide +kernel))) (goodIn_sub (fun _ h => List.mem_append_left _ (List.mem_append_left _ (List.mem_append_right _ h))) (by decide +kernel))
set_option maxRecDepth 20000 in
theorem gL_law_L_count : GoodIn wsL_law (va_wsS RL 111 yL_count wsL_count) := goodIn_app (goodIn_of _ (by decide +kernel)) ggL_law_L_count
set_option maxRecDepth 20000 in
theorem ggL_law_X6_count : GoodIn wsL_law wsX6_count := goodIn_r _ [427, 136, 428, 138, 139, 140, 5, 141, 142, 396, 397, 398, 399, 100, 97, 400, 401, 402, 403, 293, 294, 295, 584, 585, 586, 587, 588, 589, 590, 591, 592, 593, 594, 595, 596, 597, 598] (by decide +kernel) (by decide +kernel)
set_option maxRecDepth 20000 in
theorem gL_law_X6_count : GoodIn wsL_law (wsV RL 113 RX6 yX6_count wsX6_count) := goodIn_app (goodIn_of _ (by decide +kernel)) ggL_law_X6_count
set_option maxRecDepth 20000 in
theorem ggL_law_L_rows : GoodIn wsL_law wsL_rows := goodIn_ca (goodIn_r _ [431, 109, 432, 433, 434, 2, 435, 30, 122, 123, 124, 125, 126, 114, 115, 116, 117, 20, 21, 422, 247, 248, 19, 249, 53, 388, 389, 390, 391, 51, 579, 580, 581, 582, 583, 599, 600, 601, 602, 603, 604, 605, 606, 607] (by decide +kernel) (by decide +kernel)) (goodIn_sub (fun _ h => List.mem_append_left _ (List.mem_append_left _ (List.mem_append_right _ h))) (by decide +kernel))
set_option maxRecDepth 20000 in
theorem gL_law_L_rows : GoodIn wsL_law (va_wsS RL 114 yL_rows wsL_rows) := goodIn_app (goodIn_of _ (by decide +kernel)) ggL_law_L_rows
set_option maxRecDepth 20000 in
theorem ggL_law_X6_rows : GoodIn wsL_law wsX6_rows := goodIn_r _ [439, 136, 100, 97, 138, 139, 140, 5, 141, 142, 400, 401, 402, 403, 584, 585, 586, 587, 588, 589, 590, 591, 592, 593, 594, 595, 596, 597, 598] (by decide +kernel) (by decide +kernel)
set_option maxRecDepth 20000 in
theorem gL_law_X6_rows : GoodIn wsL_law (wsV RL 117 RX6 yX6_rows wsX6_rows) := goodIn_app (goodIn_of _ (by decide +kernel)) ggL_law_X6_rows
set_option maxRecDepth 20000 in
theorem ggL_law_L_groups : GoodIn wsL_law wsL_groups := goodIn_ca (goodIn_ca (goodIn_r _ [442, 109, 443, 444, 445, 446, 2, 447, 448, 449, 30, 20, 29, 21, 122, 123, 124, 125, 126, 450, 451, 452, 19, 453, 53, 454, 455, 456, 457, 159, 160, 161, 162, 47, 49, 163, 164, 165, 166, 458, 385, 386, 387, 50, 459, 460, 461, 28, 462, 79, 463, 464, 465, 466, 87, 85, 86, 88, 467, 247, 248, 249, 468, 469, 470, 471, 84, 472, 473, 474, 475, 476, 477, 478, 36, 479, 480, 481, 482, 483, 314, 315, 316, 48, 484, 485, 486, 487, 488, 489, 52, 490, 491, 492, 493, 494, 81, 495, 496, 579, 580, 581, 582, 583, 599, 600, 601, 602, 603, 604, 605, 606, 607, 615, 616, 617, 618, 619, 620, 628, 629, 630, 631] (by decide +kernel) (by decide +kernel)) (goodIn_sub (fun _ h => List.mem_append_right _ h) (by decide +kernel))) (goodIn_sub (fun _ h => List.mem_append_left _ (List.mem_append_left _ (List.mem_append_right _ h))) (by decide +kernel))
set_option maxRecDepth 20000 in
theorem gL_law_L_groups : GoodIn wsL_law (va_wsS RL 118 yL_groups wsL_groups) := goodIn_app (goodIn_of _ (by decide +kernel)) ggL_law_L_groups
set_option maxRecDepth 20000 in
theorem ggL_law_X6_groups : GoodIn wsL_law wsX6_groups := goodIn_r _ [500, 136, 102, 137, 138, 139, 140, 5, 141, 142, 501, 502, 503, 504, 100, 285, 286, 287, 288, 97, 99, 400, 401, 402, 403, 584, 585, 586, 587, 588, 589, 590, 591, 592, 593, 594, 595, 596, 597, 598] (by decide +kernel) (by decide +kernel)
set_option maxRecDepth 20000 in
theorem gL_law_X6_groups : GoodIn wsL_law (wsV RL 120 RX6 yX6_groups wsX6_groups) := goodIn_app (goodIn_of _ (by decide +kernel)) ggL_law_X6_groups
set_option maxRecDepth 20000 in
theorem ggL_law_L_group : GoodIn wsL_law wsL_group := goodIn_ca (goodIn_ca (goodIn_r _ [507, 201, 109, 508, 509, 510, 2, 511, 30, 29, 512, 513, 514, 28, 515, 88, 516, 517, 518, 519, 87, 206, 207, 208, 209, 210, 211, 212, 213, 122, 123, 124, 125, 126, 520, 521, 522, 523, 81, 524, 579, 580, 581, 582, 583, 615, 616, 617, 618, 619, 620] (by decide +kernel) (by decide +kernel)) (goodIn_sub (fun _ h => List.mem_append_left _ (List.mem_append_right _ h)) (by decide +kernel))) (goodIn_sub (fun _ h => List.mem_append_left _ (List.mem_append_left _ (List.mem_append_right _ h))) (by decide +kernel))
set_option maxRecDepth 20000 in
theorem gL_law_L_group : GoodIn wsL_law (va_wsS RL 121 yL_group wsL_group) := goodIn_app (goodIn_of _ (by decide +kernel)) ggL_law_L_group
set_option maxRecDepth 20000 in
theorem ggL_law_X6_group : GoodIn wsL_law wsX6_group := goodIn_r _ [528, 136, 137, 529, 530, 531, 532, 100, 97, 98, 501, 502, 503, 5, 504, 285, 286, 287, 288, 99, 400, 401, 402, 403, 138, 139, 140, 141, 142, 584, 585, 586, 587, 588, 589, 590, 591, 592, 593, 594, 595, 596, 597, 598] (by decide +kernel) (by decide +kernel)
set_option maxRecDepth 20000 in
theorem gL_law_X6_group : GoodIn wsL_law (wsV RL 124 RX6 yX6_group wsX6_group) := goodIn_app (goodIn_of _ (by decide +kernel)) ggL_law_X6_group
set_option maxRecDepth 20000 in
theorem ggL_law_X6_thrown : GoodIn wsL_law wsX6_thrown := goodIn_r _ [536, 142, 584, 585, 586, 587, 588, 589, 590, 591, 592, 593, 594, 595, 596, 597, 598] (by decide +kernel) (by decide +kernel)
set_option maxRecDepth 20000 in
theorem gL_law_X6_thrown : GoodIn wsL_law (wsV RL 125 RX6 yX6_thrown wsX6_thrown) := goodIn_app (goodIn_of _ (by decide +kernel)) ggL_law_X6_thrown
set_option maxRecDepth 20000 in
theorem ggL_law_L_sorted : GoodIn wsL_law wsL_sorted := goodIn_ca (goodIn_ca (goodIn_r _ [539, 201, 109, 540, 541, 542, 2, 543, 30, 114, 115, 116, 117, 20, 21, 311, 164, 165, 19, 166, 53, 206, 207, 208, 209, 210, 211, 212, 213, 122, 123, 124, 125, 126, 312, 160, 161, 162, 47, 49, 163, 313, 314, 315, 316, 48, 317, 318, 319, 320, 579, 580, 581, 582, 583, 599, 600, 601, 602, 603, 604, 605, 606, 607] (by decide +kernel) (by decide +kernel)) (goodIn_sub (fun _ h => List.mem_append_left _ (List.mem_append_right _ h)) (by decide +kernel))) (goodIn_sub (fun _ h => List.mem_append_left _ (List.mem_append_left _ (List.mem_append_right _ h))) (by decide +kernel))
set_option maxRecDepth 20000 in
theorem gL_law_L_sorted : GoodIn wsL_law (va_wsS RL 128 yL_sorted wsL_sorted) := goodIn_app (goodIn_of _ (by decide +kernel)) ggL_law_L_sorted
set_option maxRecDepth 20000 in
theorem ggL_law_X6_sorted : GoodIn wsL_law wsX6_sorted := goodIn_r _ [547, 100, 136, 99, 138, 139, 140, 5, 141, 142, 285, 286, 287, 288, 97, 325, 326, 327, 328, 98, 584, 585, 586, 587, 588, 589, 590, 591, 592, 593, 594, 595, 596, 597, 598] (by decide +kernel) (by decide +kernel)
set_option maxRecDepth 20000 in
theorem gL_law_X6_sorted : GoodIn wsL_law (wsV RL 130 RX6 yX6_sorted wsX6_sorted) := goodIn_app (goodIn_of _ (by decide +kernel)) ggL_law_X6_sorted
set_option maxRecDepth 20000 in
theorem ggL_law_L_about : GoodIn wsL_law wsL_about := goodIn_ca (goodIn_r _ [550, 201, 551, 552, 553, 2, 554, 25, 20, 21, 30, 206, 207, 208, 209, 210, 211, 212, 213, 555, 556, 557, 24, 558, 68, 422, 247, 248, 19, 249, 53, 559, 560, 561, 562, 67, 579, 580, 581, 582, 583, 608, 609, 610, 611, 612, 613, 614, 599, 600, 601, 602, 603, 604, 605, 606, 607] (by decide +kernel) (by decide +kernel)) (goodIn_sub (fun _ h => List.mem_append_left _ (List.mem_append_right _ h)) (by decide +kernel))
set_option maxRecDepth 20000 in
theorem gL_law_L_about : GoodIn wsL_law (va_wsS RL 131 yL_about wsL_about) := goodIn_app (goodIn_of _ (by decide +kernel)) ggL_law_L_about
set_option maxRecDepth 20000 in
theorem ggL_law_X6_about : GoodIn wsL_law wsX6_about := goodIn_r _ [566, 192, 100, 136, 222, 138, 139, 140, 5, 141, 142, 584, 585, 586, 587, 588, 589, 590, 591, 592, 593, 594, 595, 596, 597, 598] (by decide +kernel) (by decide +kernel)
set_option maxRecDepth 20000 in
theorem gL_law_X6_about : GoodIn wsL_law (wsV RL 133 RX6 yX6_about wsX6_about) := goodIn_app (goodIn_of _ (by decide +kernel)) ggL_law_X6_about
set_option maxRecDepth 20000 in
theorem ggL_law_X5_clear : GoodIn wsL_law wsX5_clear := goodIn_r _ [570, 20, 21, 25, 30, 571, 572, 573, 19, 574, 53, 54, 214, 215, 216, 24, 217, 67, 579, 580, 581, 582, 583, 599, 600, 601, 602, 603, 604, 605, 606, 607, 608, 609, 610, 611, 612, 613, 614] (by decide +kernel) (by decide +kernel)
set_option maxRecDepth 20000 in
theorem gL_law_X5_clear : GoodIn wsL_law (wsV RL 134 RX5 yX5_clear wsX5_clear) := goodIn_app (goodIn_of _ (by decide +kernel)) ggL_law_X5_clear
set_option maxRecDepth 20000 in
theorem ggL_law_X6_clear : GoodIn wsL_law wsX6_clear := goodIn_r _ [578, 142, 100, 222, 136, 137, 193, 192, 194, 195, 196, 5, 197, 101, 584, 585, 586, 587, 588, 589, 590, 591, 592, 593, 594, 595, 596, 597, 598] (by decide +kernel) (by decide +kernel)
set_option maxRecDepth 20000 in
theorem gL_law_X6_clear : GoodIn wsL_law (wsV RL 137 RX6 yX6_clear wsX6_clear) := goodIn_app (goodIn_of _ (by decide +kernel)) ggL_law_X6_clear
