set_option maxRecDepth 20000 in
theorem ggX5_init_X5_roomFor : GoodIn wsX5_init wsX5_roomFor := goodIn_r _ [21, 22, 23, 24, 25, 26, 27, 28] (by decide +kernel) (by decide +kernel)
set_option maxRecDepth 20000 in
theorem gX5_init_X5_roomFor : GoodIn wsX5_init (va_wsS RX5 9 yX5_roomFor wsX5_roomFor) := goodIn_app (goodIn_of _ (by decide +kernel)) ggX5_init_X5_roomFor
set_option maxRecDepth 20000 in
theorem ggX5_init_X4_init : GoodIn wsX5_init wsX4_init := goodIn_r _ [31, 32, 2, 3, 33, 34, 35, 36, 37, 38, 39, 40, 41, 42, 81, 82, 83, 84, 85, 86, 87, 88, 89] (by decide +kernel) (by decide +kernel)
set_option maxRecDepth 20000 in
theorem gX5_init_X4_init : GoodIn wsX5_init (wsX4_init) := ggX5_init_X4_init
set_option maxRecDepth 20000 in
theorem ggX5_init_X0_init : GoodIn wsX5_init wsX0_init := goodIn_r _ [45, 46, 2, 3, 47, 48, 49, 50, 51, 52, 53, 54, 55, 56, 57, 58, 59, 60, 61, 62, 95, 96, 97, 98, 99, 100, 101, 108, 109, 110, 111, 112, 113, 114] (by decide +kernel) (by decide +kernel)
set_option maxRecDepth 20000 in
theorem gX5_init_X0_init : GoodIn wsX5_init (wsX0_init) := ggX5_init_X0_init
set_option maxRecDepth 20000 in
theorem ggX5_init_X1_init : GoodIn wsX5_init wsX1_init := goodIn_r _ [65, 66, 2, 3, 67, 68, 69, 70, 71, 72, 73, 74, 75, 76, 77, 78, 79, 80, 102, 103, 104, 105, 106, 107, 115, 116, 117, 118] (by decide +kernel) (by decide +kernel)
set_option maxRecDepth 20000 in
theorem gX5_init_X1_init : GoodIn wsX5_init (wsX1_init) := ggX5_init_X1_init
set_option maxRecDepth 20000 in
theorem ggX5_add_X5_tableOf : GoodIn wsX5_add wsX5_tableOf := goodIn_r _ [6, 7, 8, 28, 29, 30, 31, 32] (by decide +kernel) (by decide +kernel)
set_option maxRecDepth 20000 in
theorem gX5_add_X5_tableOf : GoodIn wsX5_add (wsV RX5 45 RX5 yX5_tableOf wsX5_tableOf) := goodIn_app (goodIn_of _ (by decide +kernel)) ggX5_add_X5_tableOf
set_option maxRecDepth 20000 in
theorem ggX5_add_X4_hasRoom : GoodIn wsX5_add wsX4_hasRoom := goodIn_r _ [13, 14, 15, 33, 34, 35, 36, 37, 38, 39, 40, 41] (by decide +kernel) (by decide +kernel)
set_option maxRecDepth 20000 in
theorem gX5_add_X4_hasRoom : GoodIn wsX5_add (wsV RX5 49 RX4 yX4_hasRoom wsX4_hasRoom) := goodIn_app (goodIn_of _ (by decide +kernel)) ggX5_add_X4_hasRoom
set_option maxRecDepth 20000 in
theorem ggX5_add_X5_requireState : GoodIn wsX5_add wsX5_requireState := goodIn_ca (goodIn_r _ [18, 19, 20] (by decide +kernel) (by decide +kernel)) (goodIn_sub (fun _ h => List.mem_cons_of_mem _ (List.mem_append_right _ h)) (by decide +kernel))
set_option maxRecDepth 20000 in
theorem gX5_add_X5_requireState : GoodIn wsX5_add (va_wsS RX5 53 yX5_requireState wsX5_requireState) := goodIn_app (goodIn_of _ (by decide +kernel)) ggX5_add_X5_requireState
set_option maxRecDepth 20000 in
theorem ggX5_add_X4_append : GoodIn wsX5_add wsX4_append := goodIn_r _ [24, 25, 14, 26, 27, 10, 11, 12, 13, 15, 33, 34, 35, 36, 37, 38, 39, 40, 41] (by decide +kernel) (by decide +kernel)
set_option maxRecDepth 20000 in
theorem gX5_add_X4_append : GoodIn wsX5_add (wsV RX5 57 RX4 yX4_append wsX4_append) := goodIn_app (goodIn_of _ (by decide +kernel)) ggX5_add_X4_append
set_option maxRecDepth 20000 in
theorem ggX5_prepare_X4_sortRows : GoodIn wsX5_prepare wsX4_sortRows := goodIn_r _ [10, 11, 12, 13, 14, 15, 9, 16, 17, 18, 70, 71, 72, 73, 74, 75, 76, 77, 78] (by decide +kernel) (by decide +kernel)
set_option maxRecDepth 20000 in
theorem gX5_prepare_X4_sortRows : GoodIn wsX5_prepare (wsV RX5 61 RX4 yX4_sortRows wsX4_sortRows) := goodIn_app (goodIn_of _ (by decide +kernel)) ggX5_prepare_X4_sortRows
set_option maxRecDepth 20000 in
theorem ggX5_prepare_X4_findPartners : GoodIn wsX5_prepare wsX4_findPartners := goodIn_r _ [22, 12, 23, 24, 25, 26, 27, 28, 9, 29, 17, 18, 30, 31, 32, 33, 70, 71, 72, 73, 74, 75, 76, 77, 78] (by decide +kernel) (by decide +kernel)
set_option maxRecDepth 20000 in
theorem gX5_prepare_X4_findPartners : GoodIn wsX5_prepare (wsV RX5 64 RX4 yX4_findPartners wsX4_findPartners) := goodIn_app (goodIn_of _ (by decide +kernel)) ggX5_prepare_X4_findPartners
set_option maxRecDepth 20000 in
theorem ggX5_prepare_X0_restart : GoodIn wsX5_prepare wsX0_restart := goodIn_r _ [38, 39, 40, 41, 42, 43, 44, 45, 46, 47, 48, 49, 50, 51, 52, 79, 80, 81, 82, 83, 84, 85, 86, 87, 88, 89, 90, 91, 92] (by decide +kernel) (by decide +kernel)
set_option maxRecDepth 20000 in
theorem gX5_prepare_X0_restart : GoodIn wsX5_prepare (wsV RX5 68 RX0 yX0_restart wsX0_restart) := goodIn_app (goodIn_of _ (by decide +kernel)) ggX5_prepare_X0_restart
set_option maxRecDepth 20000 in
theorem ggX5_prepare_X0_forgetMark : GoodIn wsX5_prepare wsX0_forgetMark := goodIn_r _ [56, 57, 79, 80, 81, 82, 83, 84, 85] (by decide +kernel) (by decide +kernel)
set_option maxRecDepth 20000 in
theorem gX5_prepare_X0_forgetMark : GoodIn wsX5_prepare (wsV RX5 71 RX0 yX0_forgetMark wsX0_forgetMark) := goodIn_app (goodIn_of _ (by decide +kernel)) ggX5_prepare_X0_forgetMark
set_option maxRecDepth 20000 in
theorem ggX5_prepare_X1_forget : GoodIn wsX5_prepare wsX1_forget := goodIn_r _ [62, 63, 64, 93, 94, 95, 96, 97, 98] (by decide +kernel) (by decide +kernel)
set_option maxRecDepth 20000 in
theorem gX5_prepare_X1_forget : GoodIn wsX5_prepare (wsV RX5 74 RX1 yX1_forget wsX1_forget) := goodIn_app (goodIn_of _ (by decide +kernel)) ggX5_prepare_X1_forget
set_option maxRecDepth 20000 in
theorem ggX5_kind_X5_isBelow : GoodIn wsX5_kind wsX5_isBelow := goodIn_r _ [5] (by decide +kernel) (by decide +kernel)
set_option maxRecDepth 20000 in
theorem gX5_kind_X5_isBelow : GoodIn wsX5_kind (va_wsS RX5 77 yX5_isBelow wsX5_isBelow) := goodIn_app (goodIn_of _ (by decide +kernel)) ggX5_kind_X5_isBelow
set_option maxRecDepth 20000 in
theorem ggX5_kind_X5_requireArgument : GoodIn wsX5_kind wsX5_requireArgument := goodIn_ca (goodIn_r _ [8, 9, 10] (by decide +kernel) (by decide +kernel)) (goodIn_sub (fun _ h => List.mem_cons_of_mem _ (List.mem_append_right _ h)) (by decide +kernel))
set_option maxRecDepth 20000 in
theorem gX5_kind_X5_requireArgument : GoodIn wsX5_kind (va_wsS RX5 81 yX5_requireArgument wsX5_requireArgument) := goodIn_app (goodIn_of _ (by decide +kernel)) ggX5_kind_X5_requireArgument
set_option maxRecDepth 20000 in
theorem ggX5_kind_X0_useKind : GoodIn wsX5_kind wsX0_useKind := goodIn_r _ [15, 16, 45, 46, 47, 48, 49, 50, 51] (by decide +kernel) (by decide +kernel)
set_option maxRecDepth 20000 in
theorem gX5_kind_X0_useKind : GoodIn wsX5_kind (wsV RX5 84 RX0 yX0_useKind wsX0_useKind) := goodIn_app (goodIn_of _ (by decide +kernel)) ggX5_kind_X0_useKind
set_option maxRecDepth 20000 in
theorem ggX5_kind_X0_restart : GoodIn wsX5_kind wsX0_restart := goodIn_r _ [20, 21, 22, 23, 24, 25, 26, 27, 28, 29, 30, 31, 32, 33, 34, 45, 46, 47, 48, 49, 50, 51, 52, 53, 54, 55, 56, 57, 58] (by decide +kernel) (by decide +kernel)
set_option maxRecDepth 20000 in
theorem gX5_kind_X0_restart : GoodIn wsX5_kind (wsV RX5 68 RX0 yX0_restart wsX0_restart) := goodIn_app (goodIn_of _ (by decide +kernel)) ggX5_kind_X0_restart
set_option maxRecDepth 20000 in
theorem ggX5_kind_X0_forgetMark : GoodIn wsX5_kind wsX0_forgetMark := goodIn_r _ [38, 39, 45, 46, 47, 48, 49, 50, 51] (by decide +kernel) (by decide +kernel)
set_option maxRecDepth 20000 in
theorem gX5_kind_X0_forgetMark : GoodIn wsX5_kind (wsV RX5 71 RX0 yX0_forgetMark wsX0_forgetMark) := goodIn_app (goodIn_of _ (by decide +kernel)) ggX5_kind_X0_forgetMark
set_option maxRecDepth 20000 in
theorem ggX5_next_X5_requireState : GoodIn wsX5_next wsX5_requireState := goodIn_ca (goodIn_r _ [6, 7, 8] (by decide +kernel) (by decide +kernel)) (goodIn_sub (fun _ h => List.mem_cons_of_mem _ (List.mem_append_right _ h)) (by decide +kernel))
set_option maxRecDepth 20000 in
theorem gX5_next_X5_requireState : GoodIn wsX5_next (va_wsS RX5 53 yX5_requireState wsX5_requireState) := goodIn_app (goodIn_of _ (by decide +kernel)) ggX5_next_X5_requireState
set_option maxRecDepth 20000 in
theorem ggX5_next_X0_goOn : GoodIn wsX5_next wsX0_goOn := goodIn_r _ [13, 14, 15, 16, 17, 18, 19, 20, 21, 22, 23, 24, 25, 26, 27, 28, 29, 30, 31, 32, 33, 12, 34, 35, 36, 37, 38, 39, 40, 41, 42, 43, 44, 45, 46, 47, 48, 49, 50, 51, 52, 53, 54, 55, 56, 57, 58, 59, 60, 61, 62, 63, 64, 65, 66, 67, 68, 69, 70, 71, 72, 73, 74, 75, 76, 77, 78, 79, 80, 81, 82, 83, 89, 90, 91, 92, 93, 94, 95, 96, 97, 98, 99, 100, 101, 102, 103, 104, 105, 106, 107, 108, 109, 110, 111] (by decide +kernel) (by decide +kernel)
set_option maxRecDepth 20000 in
theorem gX5_next_X0_goOn : GoodIn wsX5_next (wsV RX5 87 RX0 yX0_goOn wsX0_goOn) := goodIn_app (goodIn_of _ (by decide +kernel)) ggX5_next_X0_goOn
set_option maxRecDepth 20000 in
theorem ggX5_pair_X5_isBelow : GoodIn wsX5_pair wsX5_isBelow := goodIn_r _ [8] (by decide +kernel) (by decide +kernel)
set_option maxRecDepth 20000 in
theorem gX5_pair_X5_isBelow : GoodIn wsX5_pair (va_wsS RX5 77 yX5_isBelow wsX5_isBelow) := goodIn_app (goodIn_of _ (by decide +kernel)) ggX5_pair_X5_isBelow
set_option maxRecDepth 20000 in
theorem ggX5_pair_X5_requireArgument : GoodIn wsX5_pair wsX5_requireArgument := goodIn_ca (goodIn_r _ [11, 12, 13] (by decide +kernel) (by decide +kernel)) (goodIn_sub (fun _ h => List.mem_cons_of_mem _ (List.mem_append_right _ h)) (by decide +kernel))
set_option maxRecDepth 20000 in
theorem gX5_pair_X5_requireArgument : GoodIn wsX5_pair (va_wsS RX5 81 yX5_requireArgument wsX5_requireArgument) := goodIn_app (goodIn_of _ (by decide +kernel)) ggX5_pair_X5_requireArgument
set_option maxRecDepth 20000 in
theorem ggX5_pair_X0_leftPlace : GoodIn wsX5_pair wsX0_leftPlace := goodIn_r _ [18, 19, 51, 52, 53, 54, 55, 56, 57, 58, 59, 60, 61, 62, 63, 64] (by decide +kernel) (by decide +kernel)
set_option maxRecDepth 20000 in
theorem gX5_pair_X0_leftPlace : GoodIn wsX5_pair (wsV RX5 90 RX0 yX0_leftPlace wsX0_leftPlace) := goodIn_app (goodIn_of _ (by decide +kernel)) ggX5_pair_X0_leftPlace
set_option maxRecDepth 20000 in
theorem ggX5_pair_X0_rightPlace : GoodIn wsX5_pair wsX0_rightPlace := goodIn_r _ [23, 19, 51, 52, 53, 54, 55, 56, 57, 58, 59, 60, 61, 62, 63, 64] (by decide +kernel) (by decide +kernel)
set_option maxRecDepth 20000 in
theorem gX5_pair_X0_rightPlace : GoodIn wsX5_pair (wsV RX5 94 RX0 yX0_rightPlace wsX0_rightPlace) := goodIn_app (goodIn_of _ (by decide +kernel)) ggX5_pair_X0_rightPlace
set_option maxRecDepth 20000 in
theorem ggX5_pair_X4_has : GoodIn wsX5_pair wsX4_has := goodIn_r _ [28, 29, 65, 66, 67, 68, 69, 70, 71, 72, 73] (by decide +kernel) (by decide +kernel)
set_option maxRecDepth 20000 in
theorem gX5_pair_X4_has : GoodIn wsX5_pair (wsV RX5 97 RX4 yX4_has wsX4_has) := goodIn_app (goodIn_of _ (by decide +kernel)) ggX5_pair_X4_has
set_option maxRecDepth 20000 in
theorem ggX5_pair_X4_keyAt : GoodIn wsX5_pair wsX4_keyAt := goodIn_r _ [33, 34, 35, 36, 25, 26, 27, 28, 29, 65, 66, 67, 68, 69, 70, 71, 72, 73] (by decide +kernel) (by decide +kernel)
set_option maxRecDepth 20000 in
theorem gX5_pair_X4_keyAt : GoodIn wsX5_pair (wsV RX5 101 RX4 yX4_keyAt wsX4_keyAt) := goodIn_app (goodIn_of _ (by decide +kernel)) ggX5_pair_X4_keyAt
set_option maxRecDepth 20000 in
theorem ggX5_pair_X4_valueAt : GoodIn wsX5_pair wsX4_valueAt := goodIn_r _ [40, 41, 35, 36, 25, 26, 27, 28, 29, 65, 66, 67, 68, 69, 70, 71, 72, 73] (by decide +kernel) (by decide +kernel)
set_option maxRecDepth 20000 in
theorem gX5_pair_X4_valueAt : GoodIn wsX5_pair (wsV RX5 104 RX4 yX4_valueAt wsX4_valueAt) := goodIn_app (goodIn_of _ (by decide +kernel)) ggX5_pair_X4_valueAt
set_option maxRecDepth 20000 in
theorem ggX5_pair_X4_numberAt : GoodIn wsX5_pair wsX4_numberAt := goodIn_r _ [45, 35, 36, 25, 26, 27, 28, 29, 65, 66, 67, 68, 69, 70, 71, 72, 73] (by decide +kernel) (by decide +kernel)
set_option maxRecDepth 20000 in
theorem gX5_pair_X4_numberAt : GoodIn wsX5_pair (wsV RX5 107 RX4 yX4_numberAt wsX4_numberAt) := goodIn_app (goodIn_of _ (by decide +kernel)) ggX5_pair_X4_numberAt
set_option maxRecDepth 20000 in
theorem ggX5_mark_X5_requireState : GoodIn wsX5_mark wsX5_requireState := goodIn_ca (goodIn_r _ [6, 7, 8] (by decide +kernel) (by decide +kernel)) (goodIn_sub (fun _ h => List.mem_cons_of_mem _ (List.mem_append_right _ h)) (by decide +kernel))
set_option maxRecDepth 20000 in
theorem gX5_mark_X5_requireState : GoodIn wsX5_mark (va_wsS RX5 53 yX5_requireState wsX5_requireState) := goodIn_app (goodIn_of _ (by decide +kernel)) ggX5_mark_X5_requireState
set_option maxRecDepth 20000 in
theorem ggX5_mark_X0_setMark : GoodIn wsX5_mark wsX0_setMark := goodIn_r _ [13, 14, 15, 16, 17, 18, 19, 20, 21, 22, 23, 24, 25, 26, 27, 28, 34, 35, 36, 37, 38, 39, 40, 41, 42, 43, 44, 45, 46, 47] (by decide +kernel) (by decide +kernel)
set_option maxRecDepth 20000 in
theorem gX5_mark_X0_setMark : GoodIn wsX5_mark (wsV RX5 110 RX0 yX0_setMark wsX0_setMark) := goodIn_app (goodIn_of _ (by decide +kernel)) ggX5_mark_X0_setMark
