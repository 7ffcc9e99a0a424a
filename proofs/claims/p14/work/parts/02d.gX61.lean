set_option maxRecDepth 20000 in
theorem ggX6_groups_X6_refuses : GoodIn wsX6_groups wsX6_refuses := goodIn_r _ [8, 9, 25, 26, 27, 28, 29, 30, 31, 32, 33, 34, 35, 36, 37, 38, 39] (by decide +kernel) (by decide +kernel)
set_option maxRecDepth 20000 in
theorem gX6_groups_X6_refuses : GoodIn wsX6_groups (wsV RX6 39 RX6 yX6_refuses wsX6_refuses) := goodIn_app (goodIn_of _ (by decide +kernel)) ggX6_groups_X6_refuses
set_option maxRecDepth 20000 in
theorem ggX6_groups_X6_groupAt : GoodIn wsX6_groups wsX6_groupAt := goodIn_r _ [13, 14, 15, 16, 17, 7, 18, 19, 20, 21, 22, 23, 24, 25, 26, 27, 28, 29, 30, 31, 32, 33, 34, 35, 36, 37, 38, 39] (by decide +kernel) (by decide +kernel)
set_option maxRecDepth 20000 in
theorem gX6_groups_X6_groupAt : GoodIn wsX6_groups (wsV RX6 93 RX6 yX6_groupAt wsX6_groupAt) := goodIn_app (goodIn_of _ (by decide +kernel)) ggX6_groups_X6_groupAt
set_option maxRecDepth 20000 in
theorem ggX6_group_X6_groupAt : GoodIn wsX6_group wsX6_groupAt := goodIn_r _ [14, 7, 15, 16, 17, 13, 18, 8, 19, 20, 21, 22, 23, 29, 30, 31, 32, 33, 34, 35, 36, 37, 38, 39, 40, 41, 42, 43] (by decide +kernel) (by decide +kernel)
set_option maxRecDepth 20000 in
theorem gX6_group_X6_groupAt : GoodIn wsX6_group (wsV RX6 93 RX6 yX6_groupAt wsX6_groupAt) := goodIn_app (goodIn_of _ (by decide +kernel)) ggX6_group_X6_groupAt
set_option maxRecDepth 20000 in
theorem ggX6_group_X6_refuses : GoodIn wsX6_group wsX6_refuses := goodIn_r _ [27, 28, 29, 30, 31, 32, 33, 34, 35, 36, 37, 38, 39, 40, 41, 42, 43] (by decide +kernel) (by decide +kernel)
set_option maxRecDepth 20000 in
theorem gX6_group_X6_refuses : GoodIn wsX6_group (wsV RX6 39 RX6 yX6_refuses wsX6_refuses) := goodIn_app (goodIn_of _ (by decide +kernel)) ggX6_group_X6_refuses
set_option maxRecDepth 20000 in
theorem ggX6_group_X6_key : GoodIn wsX6_group wsX6_key := goodIn_r _ [18, 8, 19, 29, 30, 31, 32, 33, 34, 35, 36, 37, 38, 39, 40, 41, 42, 43] (by decide +kernel) (by decide +kernel)
set_option maxRecDepth 20000 in
theorem gX6_group_X6_key : GoodIn wsX6_group (wsV RX6 63 RX6 yX6_key wsX6_key) := goodIn_app (goodIn_of _ (by decide +kernel)) ggX6_group_X6_key
set_option maxRecDepth 20000 in
theorem ggX6_sorted_X6_refuses : GoodIn wsX6_sorted wsX6_refuses := goodIn_r _ [8, 9, 20, 21, 22, 23, 24, 25, 26, 27, 28, 29, 30, 31, 32, 33, 34] (by decide +kernel) (by decide +kernel)
set_option maxRecDepth 20000 in
theorem gX6_sorted_X6_refuses : GoodIn wsX6_sorted (wsV RX6 39 RX6 yX6_refuses wsX6_refuses) := goodIn_app (goodIn_of _ (by decide +kernel)) ggX6_sorted_X6_refuses
set_option maxRecDepth 20000 in
theorem ggX6_sorted_X6_key : GoodIn wsX6_sorted wsX6_key := goodIn_r _ [13, 14, 3, 20, 21, 22, 23, 24, 25, 26, 27, 28, 29, 30, 31, 32, 33, 34] (by decide +kernel) (by decide +kernel)
set_option maxRecDepth 20000 in
theorem gX6_sorted_X6_key : GoodIn wsX6_sorted (wsV RX6 63 RX6 yX6_key wsX6_key) := goodIn_app (goodIn_of _ (by decide +kernel)) ggX6_sorted_X6_key
set_option maxRecDepth 20000 in
theorem ggX6_sorted_X6_value : GoodIn wsX6_sorted wsX6_value := goodIn_r _ [18, 19, 3, 20, 21, 22, 23, 24, 25, 26, 27, 28, 29, 30, 31, 32, 33, 34] (by decide +kernel) (by decide +kernel)
set_option maxRecDepth 20000 in
theorem gX6_sorted_X6_value : GoodIn wsX6_sorted (wsV RX6 81 RX6 yX6_value wsX6_value) := goodIn_app (goodIn_of _ (by decide +kernel)) ggX6_sorted_X6_value
set_option maxRecDepth 20000 in
theorem ggX6_about_X6_refuses : GoodIn wsX6_about wsX6_refuses := goodIn_r _ [9, 10, 11, 12, 13, 14, 15, 16, 17, 18, 19, 20, 21, 22, 23, 24, 25] (by decide +kernel) (by decide +kernel)
set_option maxRecDepth 20000 in
theorem gX6_about_X6_refuses : GoodIn wsX6_about (wsV RX6 39 RX6 yX6_refuses wsX6_refuses) := goodIn_app (goodIn_of _ (by decide +kernel)) ggX6_about_X6_refuses
set_option maxRecDepth 20000 in
theorem ggX6_clear_X6_begins : GoodIn wsX6_clear wsX6_begins := goodIn_r _ [12, 13, 14, 15, 16, 17, 18, 19, 20, 21, 22, 23, 24, 25, 26, 27, 28] (by decide +kernel) (by decide +kernel)
set_option maxRecDepth 20000 in
theorem gX6_clear_X6_begins : GoodIn wsX6_clear (wsV RX6 50 RX6 yX6_begins wsX6_begins) := goodIn_app (goodIn_of _ (by decide +kernel)) ggX6_clear_X6_begins
