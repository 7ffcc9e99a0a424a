set_option maxRecDepth 20000 in
theorem ggX5_back_X0_hasMark : GoodIn wsX5_back wsX0_hasMark := goodIn_r _ [7, 8, 38, 39, 40, 41, 42, 43, 44] (by decide +kernel) (by decide +kernel)
set_option maxRecDepth 20000 in
theorem gX5_back_X0_hasMark : GoodIn wsX5_back (wsV RX5 113 RX0 yX0_hasMark wsX0_hasMark) := goodIn_app (goodIn_of _ (by decide +kernel)) ggX5_back_X0_hasMark
set_option maxRecDepth 20000 in
theorem ggX5_back_X5_requireState : GoodIn wsX5_back wsX5_requireState := goodIn_ca (goodIn_r _ [12, 13, 14] (by decide +kernel) (by decide +kernel)) (goodIn_sub (fun _ h => List.mem_cons_of_mem _ (List.mem_append_right _ h)) (by decide +kernel))
set_option maxRecDepth 20000 in
theorem gX5_back_X5_requireState : GoodIn wsX5_back (va_wsS RX5 53 yX5_requireState wsX5_requireState) := goodIn_app (goodIn_of _ (by decide +kernel)) ggX5_back_X5_requireState
set_option maxRecDepth 20000 in
theorem ggX5_back_X0_goToMark : GoodIn wsX5_back wsX0_goToMark := goodIn_r _ [18, 19, 20, 21, 22, 23, 24, 25, 26, 27, 28, 29, 30, 31, 32, 38, 39, 40, 41, 42, 43, 44, 45, 46, 47, 48, 49, 50, 51] (by decide +kernel) (by decide +kernel)
set_option maxRecDepth 20000 in
theorem gX5_back_X0_goToMark : GoodIn wsX5_back (wsV RX5 116 RX0 yX0_goToMark wsX0_goToMark) := goodIn_app (goodIn_of _ (by decide +kernel)) ggX5_back_X0_goToMark
set_option maxRecDepth 20000 in
theorem ggX5_seek_X5_requireState : GoodIn wsX5_seek wsX5_requireState := goodIn_ca (goodIn_r _ [6, 7, 8] (by decide +kernel) (by decide +kernel)) (goodIn_sub (fun _ h => List.mem_cons_of_mem _ (List.mem_append_right _ h)) (by decide +kernel))
set_option maxRecDepth 20000 in
theorem gX5_seek_X5_requireState : GoodIn wsX5_seek (va_wsS RX5 53 yX5_requireState wsX5_requireState) := goodIn_app (goodIn_of _ (by decide +kernel)) ggX5_seek_X5_requireState
set_option maxRecDepth 20000 in
theorem ggX5_seek_X0_goBefore : GoodIn wsX5_seek wsX0_goBefore := goodIn_r _ [13, 14, 15, 16, 17, 18, 19, 20, 12, 21, 22, 23, 24, 25, 26, 27, 28, 29, 30, 31, 32, 33, 34, 35, 36, 37, 38, 39, 40, 41, 42, 43, 5, 44, 45, 46, 47, 48, 49, 50, 51, 52, 53, 54, 55, 56, 57, 58, 59, 60, 61, 62, 63, 64, 65, 66, 72, 73, 74, 75, 76, 77, 78, 79, 80, 81, 82, 83, 84, 85, 86, 87, 88, 89, 90, 91, 92, 93, 94] (by decide +kernel) (by decide +kernel)
set_option maxRecDepth 20000 in
theorem gX5_seek_X0_goBefore : GoodIn wsX5_seek (wsV RX5 119 RX0 yX0_goBefore wsX0_goBefore) := goodIn_app (goodIn_of _ (by decide +kernel)) ggX5_seek_X0_goBefore
set_option maxRecDepth 20000 in
theorem ggX5_rewind_X5_requireState : GoodIn wsX5_rewind wsX5_requireState := goodIn_ca (goodIn_r _ [6, 7, 8] (by decide +kernel) (by decide +kernel)) (goodIn_sub (fun _ h => List.mem_cons_of_mem _ (List.mem_append_right _ h)) (by decide +kernel))
set_option maxRecDepth 20000 in
theorem gX5_rewind_X5_requireState : GoodIn wsX5_rewind (va_wsS RX5 53 yX5_requireState wsX5_requireState) := goodIn_app (goodIn_of _ (by decide +kernel)) ggX5_rewind_X5_requireState
set_option maxRecDepth 20000 in
theorem ggX5_rewind_X0_restart : GoodIn wsX5_rewind wsX0_restart := goodIn_r _ [13, 14, 15, 16, 17, 18, 19, 20, 21, 22, 23, 24, 25, 26, 27, 33, 34, 35, 36, 37, 38, 39, 40, 41, 42, 43, 44, 45, 46] (by decide +kernel) (by decide +kernel)
set_option maxRecDepth 20000 in
theorem gX5_rewind_X0_restart : GoodIn wsX5_rewind (wsV RX5 68 RX0 yX0_restart wsX0_restart) := goodIn_app (goodIn_of _ (by decide +kernel)) ggX5_rewind_X0_restart
set_option maxRecDepth 20000 in
theorem ggX5_count_X5_isBelow : GoodIn wsX5_count wsX5_isBelow := goodIn_r _ [7] (by decide +kernel) (by decide +kernel)
set_option maxRecDepth 20000 in
theorem gX5_count_X5_isBelow : GoodIn wsX5_count (va_wsS RX5 77 yX5_isBelow wsX5_isBelow) := goodIn_app (goodIn_of _ (by decide +kernel)) ggX5_count_X5_isBelow
set_option maxRecDepth 20000 in
theorem ggX5_count_X5_requireArgument : GoodIn wsX5_count wsX5_requireArgument := goodIn_ca (goodIn_r _ [10, 11, 12] (by decide +kernel) (by decide +kernel)) (goodIn_sub (fun _ h => List.mem_cons_of_mem _ (List.mem_append_left _ (List.mem_append_right _ h))) (by decide +kernel))
set_option maxRecDepth 20000 in
theorem gX5_count_X5_requireArgument : GoodIn wsX5_count (va_wsS RX5 81 yX5_requireArgument wsX5_requireArgument) := goodIn_app (goodIn_of _ (by decide +kernel)) ggX5_count_X5_requireArgument
set_option maxRecDepth 20000 in
theorem ggX5_count_X5_requireState : GoodIn wsX5_count wsX5_requireState := goodIn_ca (goodIn_r _ [15, 16, 17] (by decide +kernel) (by decide +kernel)) (goodIn_sub (fun _ h => List.mem_cons_of_mem _ (List.mem_append_right _ h)) (by decide +kernel))
set_option maxRecDepth 20000 in
theorem gX5_count_X5_requireState : GoodIn wsX5_count (va_wsS RX5 53 yX5_requireState wsX5_requireState) := goodIn_app (goodIn_of _ (by decide +kernel)) ggX5_count_X5_requireState
set_option maxRecDepth 20000 in
theorem ggX5_count_X4_size : GoodIn wsX5_count wsX4_size := goodIn_r _ [22, 23, 42, 43, 44, 45, 46, 47, 48, 49, 50] (by decide +kernel) (by decide +kernel)
set_option maxRecDepth 20000 in
theorem gX5_count_X4_size : GoodIn wsX5_count (wsV RX5 122 RX4 yX4_size wsX4_size) := goodIn_app (goodIn_of _ (by decide +kernel)) ggX5_count_X4_size
set_option maxRecDepth 20000 in
theorem ggX5_count_X5_pairsBefore : GoodIn wsX5_count wsX5_pairsBefore := goodIn_r _ [26, 27, 28, 29, 21, 30, 23, 31, 32, 33, 34, 35, 36, 42, 43, 44, 45, 46, 47, 48, 49, 50] (by decide +kernel) (by decide +kernel)
set_option maxRecDepth 20000 in
theorem gX5_count_X5_pairsBefore : GoodIn wsX5_count (va_wsS RX5 125 yX5_pairsBefore wsX5_pairsBefore) := goodIn_app (goodIn_of _ (by decide +kernel)) ggX5_count_X5_pairsBefore
set_option maxRecDepth 20000 in
theorem ggX5_rows_X5_requireState : GoodIn wsX5_rows wsX5_requireState := goodIn_ca (goodIn_r _ [5, 6, 7] (by decide +kernel) (by decide +kernel)) (goodIn_sub (fun _ h => List.mem_cons_of_mem _ (List.mem_append_right _ h)) (by decide +kernel))
set_option maxRecDepth 20000 in
theorem gX5_rows_X5_requireState : GoodIn wsX5_rows (va_wsS RX5 53 yX5_requireState wsX5_requireState) := goodIn_app (goodIn_of _ (by decide +kernel)) ggX5_rows_X5_requireState
set_option maxRecDepth 20000 in
theorem ggX5_rows_X5_tableOf : GoodIn wsX5_rows wsX5_tableOf := goodIn_r _ [11, 12, 13, 25, 26, 27, 28, 29] (by decide +kernel) (by decide +kernel)
set_option maxRecDepth 20000 in
theorem gX5_rows_X5_tableOf : GoodIn wsX5_rows (wsV RX5 45 RX5 yX5_tableOf wsX5_tableOf) := goodIn_app (goodIn_of _ (by decide +kernel)) ggX5_rows_X5_tableOf
set_option maxRecDepth 20000 in
theorem ggX5_rows_X4_size : GoodIn wsX5_rows wsX4_size := goodIn_r _ [18, 19, 30, 31, 32, 33, 34, 35, 36, 37, 38] (by decide +kernel) (by decide +kernel)
set_option maxRecDepth 20000 in
theorem gX5_rows_X4_size : GoodIn wsX5_rows (wsV RX5 122 RX4 yX4_size wsX4_size) := goodIn_app (goodIn_of _ (by decide +kernel)) ggX5_rows_X4_size
set_option maxRecDepth 20000 in
theorem ggX5_rows_X4_loneBefore : GoodIn wsX5_rows wsX4_loneBefore := goodIn_r _ [23, 19, 24, 30, 31, 32, 33, 34, 35, 36, 37, 38] (by decide +kernel) (by decide +kernel)
set_option maxRecDepth 20000 in
theorem gX5_rows_X4_loneBefore : GoodIn wsX5_rows (wsV RX5 129 RX4 yX4_loneBefore wsX4_loneBefore) := goodIn_app (goodIn_of _ (by decide +kernel)) ggX5_rows_X4_loneBefore
set_option maxRecDepth 20000 in
theorem ggX5_groups_X5_requireState : GoodIn wsX5_groups wsX5_requireState := goodIn_ca (goodIn_r _ [10, 11, 12] (by decide +kernel) (by decide +kernel)) (goodIn_sub (fun _ h => List.mem_cons_of_mem _ (List.mem_append_right _ h)) (by decide +kernel))
set_option maxRecDepth 20000 in
theorem gX5_groups_X5_requireState : GoodIn wsX5_groups (va_wsS RX5 53 yX5_requireState wsX5_requireState) := goodIn_app (goodIn_of _ (by decide +kernel)) ggX5_groups_X5_requireState
set_option maxRecDepth 20000 in
theorem ggX5_groups_X4_groupStarts : GoodIn wsX5_groups wsX4_groupStarts := goodIn_r _ [17, 18, 19, 20, 21, 16, 22, 23, 24, 25, 26, 27, 28, 29, 30, 31, 32, 33, 34, 35, 36, 37, 98, 99, 100, 101, 102, 103, 104, 105, 106] (by decide +kernel) (by decide +kernel)
set_option maxRecDepth 20000 in
theorem gX5_groups_X4_groupStarts : GoodIn wsX5_groups (wsV RX5 132 RX4 yX4_groupStarts wsX4_groupStarts) := goodIn_app (goodIn_of _ (by decide +kernel)) ggX5_groups_X4_groupStarts
set_option maxRecDepth 20000 in
theorem ggX5_groups_X1_room : GoodIn wsX5_groups wsX1_room := goodIn_r _ [42, 43, 107, 108, 109, 110, 111, 112] (by decide +kernel) (by decide +kernel)
set_option maxRecDepth 20000 in
theorem gX5_groups_X1_room : GoodIn wsX5_groups (wsV RX5 135 RX1 yX1_room wsX1_room) := goodIn_app (goodIn_of _ (by decide +kernel)) ggX5_groups_X1_room
set_option maxRecDepth 20000 in
theorem ggX5_groups_X1_tell : GoodIn wsX5_groups wsX1_tell := goodIn_r _ [47, 48, 43, 49, 50, 51, 52, 53, 54, 16, 55, 18, 56, 20, 21, 22, 23, 24, 25, 26, 27, 28, 29, 30, 31, 32, 33, 34, 35, 36, 37, 57, 58, 59, 60, 61, 62, 63, 64, 65, 66, 67, 68, 69, 70, 71, 72, 73, 74, 75, 76, 77, 78, 79, 80, 81, 82, 83, 84, 85, 86, 87, 88, 41, 89, 90, 91, 92, 107, 108, 109, 110, 111, 112, 98, 99, 100, 101, 102, 103, 104, 105, 106, 113, 114, 115, 116] (by decide +kernel) (by decide +kernel)
set_option maxRecDepth 20000 in
theorem gX5_groups_X1_tell : GoodIn wsX5_groups (wsV RX5 145 RX1 yX1_tell wsX1_tell) := goodIn_app (goodIn_of _ (by decide +kernel)) ggX5_groups_X1_tell
set_option maxRecDepth 20000 in
theorem ggX5_group_X1_isTold : GoodIn wsX5_group wsX1_isTold := goodIn_r _ [7, 8, 39, 40, 41, 42, 43, 44] (by decide +kernel) (by decide +kernel)
set_option maxRecDepth 20000 in
theorem gX5_group_X1_isTold : GoodIn wsX5_group (wsV RX5 149 RX1 yX1_isTold wsX1_isTold) := goodIn_app (goodIn_of _ (by decide +kernel)) ggX5_group_X1_isTold
set_option maxRecDepth 20000 in
theorem ggX5_group_X1_has : GoodIn wsX5_group wsX1_has := goodIn_r _ [12, 13, 39, 40, 41, 42, 43, 44] (by decide +kernel) (by decide +kernel)
set_option maxRecDepth 20000 in
theorem gX5_group_X1_has : GoodIn wsX5_group (wsV RX5 152 RX1 yX1_has wsX1_has) := goodIn_app (goodIn_of _ (by decide +kernel)) ggX5_group_X1_has
set_option maxRecDepth 20000 in
theorem ggX5_group_X5_isBelow : GoodIn wsX5_group wsX5_isBelow := goodIn_r _ [17] (by decide +kernel) (by decide +kernel)
set_option maxRecDepth 20000 in
theorem gX5_group_X5_isBelow : GoodIn wsX5_group (va_wsS RX5 77 yX5_isBelow wsX5_isBelow) := goodIn_app (goodIn_of _ (by decide +kernel)) ggX5_group_X5_isBelow
set_option maxRecDepth 20000 in
theorem ggX5_group_X5_requireArgument : GoodIn wsX5_group wsX5_requireArgument := goodIn_ca (goodIn_r _ [20, 21, 22] (by decide +kernel) (by decide +kernel)) (goodIn_sub (fun _ h => List.mem_cons_of_mem _ (List.mem_append_left _ (List.mem_append_right _ h))) (by decide +kernel))
set_option maxRecDepth 20000 in
theorem gX5_group_X5_requireArgument : GoodIn wsX5_group (va_wsS RX5 81 yX5_requireArgument wsX5_requireArgument) := goodIn_app (goodIn_of _ (by decide +kernel)) ggX5_group_X5_requireArgument
set_option maxRecDepth 20000 in
theorem ggX5_group_X5_requireState : GoodIn wsX5_group wsX5_requireState := goodIn_ca (goodIn_r _ [25, 26, 27] (by decide +kernel) (by decide +kernel)) (goodIn_sub (fun _ h => List.mem_cons_of_mem _ (List.mem_append_right _ h)) (by decide +kernel))
set_option maxRecDepth 20000 in
theorem gX5_group_X5_requireState : GoodIn wsX5_group (va_wsS RX5 53 yX5_requireState wsX5_requireState) := goodIn_app (goodIn_of _ (by decide +kernel)) ggX5_group_X5_requireState
set_option maxRecDepth 20000 in
theorem ggX5_group_X1_fact : GoodIn wsX5_group wsX1_fact := goodIn_r _ [31, 32, 33, 10, 11, 6, 12, 13, 15, 16, 17, 39, 40, 41, 42, 43, 44] (by decide +kernel) (by decide +kernel)
set_option maxRecDepth 20000 in
theorem gX5_group_X1_fact : GoodIn wsX5_group (wsV RX5 153 RX1 yX1_fact wsX1_fact) := goodIn_app (goodIn_of _ (by decide +kernel)) ggX5_group_X1_fact
set_option maxRecDepth 20000 in
theorem ggX5_sorted_X5_tableOf : GoodIn wsX5_sorted wsX5_tableOf := goodIn_r _ [6, 7, 8, 44, 45, 46, 47, 48] (by decide +kernel) (by decide +kernel)
set_option maxRecDepth 20000 in
theorem gX5_sorted_X5_tableOf : GoodIn wsX5_sorted (wsV RX5 45 RX5 yX5_tableOf wsX5_tableOf) := goodIn_app (goodIn_of _ (by decide +kernel)) ggX5_sorted_X5_tableOf
set_option maxRecDepth 20000 in
theorem ggX5_sorted_X4_has : GoodIn wsX5_sorted wsX4_has := goodIn_r _ [13, 14, 49, 50, 51, 52, 53, 54, 55, 56, 57] (by decide +kernel) (by decide +kernel)
set_option maxRecDepth 20000 in
theorem gX5_sorted_X4_has : GoodIn wsX5_sorted (wsV RX5 97 RX4 yX4_has wsX4_has) := goodIn_app (goodIn_of _ (by decide +kernel)) ggX5_sorted_X4_has
set_option maxRecDepth 20000 in
theorem ggX5_sorted_X5_isBelow : GoodIn wsX5_sorted wsX5_isBelow := goodIn_r _ [17] (by decide +kernel) (by decide +kernel)
set_option maxRecDepth 20000 in
theorem gX5_sorted_X5_isBelow : GoodIn wsX5_sorted (va_wsS RX5 77 yX5_isBelow wsX5_isBelow) := goodIn_app (goodIn_of _ (by decide +kernel)) ggX5_sorted_X5_isBelow
set_option maxRecDepth 20000 in
theorem ggX5_sorted_X5_requireArgument : GoodIn wsX5_sorted wsX5_requireArgument := goodIn_ca (goodIn_r _ [20, 21, 22] (by decide +kernel) (by decide +kernel)) (goodIn_sub (fun _ h => List.mem_cons_of_mem _ (List.mem_append_left _ (List.mem_append_right _ h))) (by decide +kernel))
set_option maxRecDepth 20000 in
theorem gX5_sorted_X5_requireArgument : GoodIn wsX5_sorted (va_wsS RX5 81 yX5_requireArgument wsX5_requireArgument) := goodIn_app (goodIn_of _ (by decide +kernel)) ggX5_sorted_X5_requireArgument
