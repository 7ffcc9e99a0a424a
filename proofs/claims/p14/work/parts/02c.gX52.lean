set_option maxRecDepth 20000 in
theorem ggX5_sorted_X5_requireState : GoodIn wsX5_sorted wsX5_requireState := goodIn_ca (goodIn_r _ [25, 26, 27] (by decide +kernel) (by decide +kernel)) (goodIn_sub (fun _ h => List.mem_cons_of_mem _ (List.mem_append_right _ h)) (by decide +kernel))
set_option maxRecDepth 20000 in
theorem gX5_sorted_X5_requireState : GoodIn wsX5_sorted (va_wsS RX5 53 yX5_requireState wsX5_requireState) := goodIn_app (goodIn_of _ (by decide +kernel)) ggX5_sorted_X5_requireState
set_option maxRecDepth 20000 in
theorem ggX5_sorted_X4_keyAt : GoodIn wsX5_sorted wsX4_keyAt := goodIn_r _ [31, 32, 33, 34, 10, 11, 12, 13, 14, 49, 50, 51, 52, 53, 54, 55, 56, 57] (by decide +kernel) (by decide +kernel)
set_option maxRecDepth 20000 in
theorem gX5_sorted_X4_keyAt : GoodIn wsX5_sorted (wsV RX5 101 RX4 yX4_keyAt wsX4_keyAt) := goodIn_app (goodIn_of _ (by decide +kernel)) ggX5_sorted_X4_keyAt
set_option maxRecDepth 20000 in
theorem ggX5_sorted_X4_valueAt : GoodIn wsX5_sorted wsX4_valueAt := goodIn_r _ [38, 39, 33, 34, 10, 11, 12, 13, 14, 49, 50, 51, 52, 53, 54, 55, 56, 57] (by decide +kernel) (by decide +kernel)
set_option maxRecDepth 20000 in
theorem gX5_sorted_X4_valueAt : GoodIn wsX5_sorted (wsV RX5 104 RX4 yX4_valueAt wsX4_valueAt) := goodIn_app (goodIn_of _ (by decide +kernel)) ggX5_sorted_X4_valueAt
set_option maxRecDepth 20000 in
theorem ggX5_sorted_X4_numberAt : GoodIn wsX5_sorted wsX4_numberAt := goodIn_r _ [43, 33, 34, 10, 11, 12, 13, 14, 49, 50, 51, 52, 53, 54, 55, 56, 57] (by decide +kernel) (by decide +kernel)
set_option maxRecDepth 20000 in
theorem gX5_sorted_X4_numberAt : GoodIn wsX5_sorted (wsV RX5 107 RX4 yX4_numberAt wsX4_numberAt) := goodIn_app (goodIn_of _ (by decide +kernel)) ggX5_sorted_X4_numberAt
set_option maxRecDepth 20000 in
theorem ggX5_about_X5_isBelow : GoodIn wsX5_about wsX5_isBelow := goodIn_r _ [8] (by decide +kernel) (by decide +kernel)
set_option maxRecDepth 20000 in
theorem gX5_about_X5_isBelow : GoodIn wsX5_about (va_wsS RX5 77 yX5_isBelow wsX5_isBelow) := goodIn_app (goodIn_of _ (by decide +kernel)) ggX5_about_X5_isBelow
set_option maxRecDepth 20000 in
theorem ggX5_about_X5_requireArgument : GoodIn wsX5_about wsX5_requireArgument := goodIn_ca (goodIn_r _ [11, 12, 13] (by decide +kernel) (by decide +kernel)) (goodIn_sub (fun _ h => List.mem_cons_of_mem _ (List.mem_append_right _ h)) (by decide +kernel))
set_option maxRecDepth 20000 in
theorem gX5_about_X5_requireArgument : GoodIn wsX5_about (va_wsS RX5 81 yX5_requireArgument wsX5_requireArgument) := goodIn_app (goodIn_of _ (by decide +kernel)) ggX5_about_X5_requireArgument
set_option maxRecDepth 20000 in
theorem ggX5_about_X0_cellsRead : GoodIn wsX5_about wsX0_cellsRead := goodIn_r _ [18, 19, 36, 37, 38, 39, 40, 41, 42] (by decide +kernel) (by decide +kernel)
set_option maxRecDepth 20000 in
theorem gX5_about_X0_cellsRead : GoodIn wsX5_about (wsV RX5 157 RX0 yX0_cellsRead wsX0_cellsRead) := goodIn_app (goodIn_of _ (by decide +kernel)) ggX5_about_X0_cellsRead
set_option maxRecDepth 20000 in
theorem ggX5_about_X4_size : GoodIn wsX5_about wsX4_size := goodIn_r _ [24, 25, 43, 44, 45, 46, 47, 48, 49, 50, 51] (by decide +kernel) (by decide +kernel)
set_option maxRecDepth 20000 in
theorem gX5_about_X4_size : GoodIn wsX5_about (wsV RX5 122 RX4 yX4_size wsX4_size) := goodIn_app (goodIn_of _ (by decide +kernel)) ggX5_about_X4_size
set_option maxRecDepth 20000 in
theorem ggX5_about_X0_kindInUse : GoodIn wsX5_about wsX0_kindInUse := goodIn_r _ [29, 30, 36, 37, 38, 39, 40, 41, 42] (by decide +kernel) (by decide +kernel)
set_option maxRecDepth 20000 in
theorem gX5_about_X0_kindInUse : GoodIn wsX5_about (wsV RX5 161 RX0 yX0_kindInUse wsX0_kindInUse) := goodIn_app (goodIn_of _ (by decide +kernel)) ggX5_about_X0_kindInUse
set_option maxRecDepth 20000 in
theorem ggX5_clear_X4_empty : GoodIn wsX5_clear wsX4_empty := goodIn_r _ [9, 10, 11, 23, 24, 25, 26, 27, 28, 29, 30, 31] (by decide +kernel) (by decide +kernel)
set_option maxRecDepth 20000 in
theorem gX5_clear_X4_empty : GoodIn wsX5_clear (wsV RX5 164 RX4 yX4_empty wsX4_empty) := goodIn_app (goodIn_of _ (by decide +kernel)) ggX5_clear_X4_empty
set_option maxRecDepth 20000 in
theorem ggX5_clear_X0_useKind : GoodIn wsX5_clear wsX0_useKind := goodIn_r _ [16, 17, 32, 33, 34, 35, 36, 37, 38] (by decide +kernel) (by decide +kernel)
set_option maxRecDepth 20000 in
theorem gX5_clear_X0_useKind : GoodIn wsX5_clear (wsV RX5 84 RX0 yX0_useKind wsX0_useKind) := goodIn_app (goodIn_of _ (by decide +kernel)) ggX5_clear_X0_useKind
set_option maxRecDepth 20000 in
theorem ggX5_pairsBefore_X4_partnersBefore : GoodIn wsX5_pairsBefore wsX4_partnersBefore := goodIn_r _ [5, 6, 7, 13, 14, 15, 16, 17, 18, 19, 20, 21] (by decide +kernel) (by decide +kernel)
set_option maxRecDepth 20000 in
theorem gX5_pairsBefore_X4_partnersBefore : GoodIn wsX5_pairsBefore (wsV RX5 185 RX4 yX4_partnersBefore wsX4_partnersBefore) := goodIn_app (goodIn_of _ (by decide +kernel)) ggX5_pairsBefore_X4_partnersBefore
set_option maxRecDepth 20000 in
theorem ggX5_pairsBefore_X4_loneBefore : GoodIn wsX5_pairsBefore wsX4_loneBefore := goodIn_r _ [11, 6, 12, 13, 14, 15, 16, 17, 18, 19, 20, 21] (by decide +kernel) (by decide +kernel)
set_option maxRecDepth 20000 in
theorem gX5_pairsBefore_X4_loneBefore : GoodIn wsX5_pairsBefore (wsV RX5 129 RX4 yX4_loneBefore wsX4_loneBefore) := goodIn_app (goodIn_of _ (by decide +kernel)) ggX5_pairsBefore_X4_loneBefore
