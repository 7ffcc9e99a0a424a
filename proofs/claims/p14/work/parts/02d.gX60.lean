set_option maxRecDepth 20000 in
theorem ggX6_init_X6_between : GoodIn wsX6_init wsX6_between := goodIn_r _ [15] (by decide +kernel) (by decide +kernel)
set_option maxRecDepth 20000 in
theorem gX6_init_X6_between : GoodIn wsX6_init (va_wsS RX6 28 yX6_between wsX6_between) := goodIn_app (goodIn_of _ (by decide +kernel)) ggX6_init_X6_between
set_option maxRecDepth 20000 in
theorem ggX6_add_X6_refuses : GoodIn wsX6_add wsX6_refuses := goodIn_r _ [11, 12, 13, 14, 15, 16, 17, 18, 19, 20, 21, 22, 23, 24, 25, 26, 27] (by decide +kernel) (by decide +kernel)
set_option maxRecDepth 20000 in
theorem gX6_add_X6_refuses : GoodIn wsX6_add (wsV RX6 39 RX6 yX6_refuses wsX6_refuses) := goodIn_app (goodIn_of _ (by decide +kernel)) ggX6_add_X6_refuses
set_option maxRecDepth 20000 in
theorem ggX6_prepare_X6_begins : GoodIn wsX6_prepare wsX6_begins := goodIn_r _ [13, 14, 15, 16, 17, 18, 19, 20, 21, 22, 23, 24, 25, 26, 27, 28, 29] (by decide +kernel) (by decide +kernel)
set_option maxRecDepth 20000 in
theorem gX6_prepare_X6_begins : GoodIn wsX6_prepare (wsV RX6 50 RX6 yX6_begins wsX6_begins) := goodIn_app (goodIn_of _ (by decide +kernel)) ggX6_prepare_X6_begins
set_option maxRecDepth 20000 in
theorem ggX6_kind_X6_refuses : GoodIn wsX6_kind wsX6_refuses := goodIn_r _ [8, 9, 15, 16, 17, 18, 19, 20, 21, 22, 23, 24, 25, 26, 27, 28, 29] (by decide +kernel) (by decide +kernel)
set_option maxRecDepth 20000 in
theorem gX6_kind_X6_refuses : GoodIn wsX6_kind (wsV RX6 39 RX6 yX6_refuses wsX6_refuses) := goodIn_app (goodIn_of _ (by decide +kernel)) ggX6_kind_X6_refuses
set_option maxRecDepth 20000 in
theorem ggX6_kind_X6_begins : GoodIn wsX6_kind wsX6_begins := goodIn_r _ [13, 14, 15, 16, 17, 18, 19, 20, 21, 22, 23, 24, 25, 26, 27, 28, 29] (by decide +kernel) (by decide +kernel)
set_option maxRecDepth 20000 in
theorem gX6_kind_X6_begins : GoodIn wsX6_kind (wsV RX6 50 RX6 yX6_begins wsX6_begins) := goodIn_app (goodIn_of _ (by decide +kernel)) ggX6_kind_X6_begins
set_option maxRecDepth 20000 in
theorem ggX6_goes_X6_key : GoodIn wsX6_goes wsX6_key := goodIn_r _ [8, 9, 10, 11, 12, 13, 14, 15, 16, 17, 18, 19, 20, 21, 22, 23, 24, 25] (by decide +kernel) (by decide +kernel)
set_option maxRecDepth 20000 in
theorem gX6_goes_X6_key : GoodIn wsX6_goes (wsV RX6 63 RX6 yX6_key wsX6_key) := goodIn_app (goodIn_of _ (by decide +kernel)) ggX6_goes_X6_key
set_option maxRecDepth 20000 in
theorem ggX6_next_X6_refuses : GoodIn wsX6_next wsX6_refuses := goodIn_r _ [11, 12, 30, 31, 32, 33, 34, 35, 36, 37, 38, 39, 40, 41, 42, 43, 44] (by decide +kernel) (by decide +kernel)
set_option maxRecDepth 20000 in
theorem gX6_next_X6_refuses : GoodIn wsX6_next (wsV RX6 39 RX6 yX6_refuses wsX6_refuses) := goodIn_app (goodIn_of _ (by decide +kernel)) ggX6_next_X6_refuses
set_option maxRecDepth 20000 in
theorem ggX6_next_X6_steps : GoodIn wsX6_next wsX6_steps := goodIn_r _ [16, 2, 30, 31, 32, 33, 34, 35, 36, 37, 38, 39, 40, 41, 42, 43, 44] (by decide +kernel) (by decide +kernel)
set_option maxRecDepth 20000 in
theorem gX6_next_X6_steps : GoodIn wsX6_next (wsV RX6 67 RX6 yX6_steps wsX6_steps) := goodIn_app (goodIn_of _ (by decide +kernel)) ggX6_next_X6_steps
set_option maxRecDepth 20000 in
theorem ggX6_next_X6_key : GoodIn wsX6_next wsX6_key := goodIn_r _ [20, 21, 22, 30, 31, 32, 33, 34, 35, 36, 37, 38, 39, 40, 41, 42, 43, 44] (by decide +kernel) (by decide +kernel)
set_option maxRecDepth 20000 in
theorem gX6_next_X6_key : GoodIn wsX6_next (wsV RX6 63 RX6 yX6_key wsX6_key) := goodIn_app (goodIn_of _ (by decide +kernel)) ggX6_next_X6_key
set_option maxRecDepth 20000 in
theorem ggX6_next_X6_goes : GoodIn wsX6_next wsX6_goes := goodIn_r _ [26, 2, 4, 3, 17, 18, 19, 10, 20, 21, 22, 30, 31, 32, 33, 34, 35, 36, 37, 38, 39, 40, 41, 42, 43, 44] (by decide +kernel) (by decide +kernel)
set_option maxRecDepth 20000 in
theorem gX6_next_X6_goes : GoodIn wsX6_next (wsV RX6 73 RX6 yX6_goes wsX6_goes) := goodIn_app (goodIn_of _ (by decide +kernel)) ggX6_next_X6_goes
set_option maxRecDepth 20000 in
theorem ggX6_next_X6_tells : GoodIn wsX6_next wsX6_tells := goodIn_r _ [29] (by decide +kernel) (by decide +kernel)
set_option maxRecDepth 20000 in
theorem gX6_next_X6_tells : GoodIn wsX6_next (va_wsS RX6 77 yX6_tells wsX6_tells) := goodIn_app (goodIn_of _ (by decide +kernel)) ggX6_next_X6_tells
set_option maxRecDepth 20000 in
theorem ggX6_pair_X6_refuses : GoodIn wsX6_pair wsX6_refuses := goodIn_r _ [8, 9, 20, 21, 22, 23, 24, 25, 26, 27, 28, 29, 30, 31, 32, 33, 34] (by decide +kernel) (by decide +kernel)
set_option maxRecDepth 20000 in
theorem gX6_pair_X6_refuses : GoodIn wsX6_pair (wsV RX6 39 RX6 yX6_refuses wsX6_refuses) := goodIn_app (goodIn_of _ (by decide +kernel)) ggX6_pair_X6_refuses
set_option maxRecDepth 20000 in
theorem ggX6_pair_X6_key : GoodIn wsX6_pair wsX6_key := goodIn_r _ [13, 14, 3, 20, 21, 22, 23, 24, 25, 26, 27, 28, 29, 30, 31, 32, 33, 34] (by decide +kernel) (by decide +kernel)
set_option maxRecDepth 20000 in
theorem gX6_pair_X6_key : GoodIn wsX6_pair (wsV RX6 63 RX6 yX6_key wsX6_key) := goodIn_app (goodIn_of _ (by decide +kernel)) ggX6_pair_X6_key
set_option maxRecDepth 20000 in
theorem ggX6_pair_X6_value : GoodIn wsX6_pair wsX6_value := goodIn_r _ [18, 19, 3, 20, 21, 22, 23, 24, 25, 26, 27, 28, 29, 30, 31, 32, 33, 34] (by decide +kernel) (by decide +kernel)
set_option maxRecDepth 20000 in
theorem gX6_pair_X6_value : GoodIn wsX6_pair (wsV RX6 81 RX6 yX6_value wsX6_value) := goodIn_app (goodIn_of _ (by decide +kernel)) ggX6_pair_X6_value
set_option maxRecDepth 20000 in
theorem ggX6_mark_X6_refuses : GoodIn wsX6_mark wsX6_refuses := goodIn_r _ [8, 9, 10, 11, 12, 13, 14, 15, 16, 17, 18, 19, 20, 21, 22, 23, 24] (by decide +kernel) (by decide +kernel)
set_option maxRecDepth 20000 in
theorem gX6_mark_X6_refuses : GoodIn wsX6_mark (wsV RX6 39 RX6 yX6_refuses wsX6_refuses) := goodIn_app (goodIn_of _ (by decide +kernel)) ggX6_mark_X6_refuses
set_option maxRecDepth 20000 in
theorem ggX6_back_X6_refuses : GoodIn wsX6_back wsX6_refuses := goodIn_r _ [8, 9, 10, 11, 12, 13, 14, 15, 16, 17, 18, 19, 20, 21, 22, 23, 24] (by decide +kernel) (by decide +kernel)
set_option maxRecDepth 20000 in
theorem gX6_back_X6_refuses : GoodIn wsX6_back (wsV RX6 39 RX6 yX6_refuses wsX6_refuses) := goodIn_app (goodIn_of _ (by decide +kernel)) ggX6_back_X6_refuses
set_option maxRecDepth 20000 in
theorem ggX6_pairs_X6_rowsOf : GoodIn wsX6_pairs wsX6_rowsOf := goodIn_r _ [7, 1, 2, 11, 12, 13, 14, 15, 16, 17, 18, 19, 20, 21, 22, 23, 24, 25] (by decide +kernel) (by decide +kernel)
set_option maxRecDepth 20000 in
theorem gX6_pairs_X6_rowsOf : GoodIn wsX6_pairs (wsV RX6 84 RX6 yX6_rowsOf wsX6_rowsOf) := goodIn_app (goodIn_of _ (by decide +kernel)) ggX6_pairs_X6_rowsOf
set_option maxRecDepth 20000 in
theorem ggX6_pairs_X6_tells : GoodIn wsX6_pairs wsX6_tells := goodIn_r _ [10] (by decide +kernel) (by decide +kernel)
set_option maxRecDepth 20000 in
theorem gX6_pairs_X6_tells : GoodIn wsX6_pairs (va_wsS RX6 77 yX6_tells wsX6_tells) := goodIn_app (goodIn_of _ (by decide +kernel)) ggX6_pairs_X6_tells
set_option maxRecDepth 20000 in
theorem ggX6_seek_X6_refuses : GoodIn wsX6_seek wsX6_refuses := goodIn_r _ [10, 11, 33, 34, 35, 36, 37, 38, 39, 40, 41, 42, 43, 44, 45, 46, 47] (by decide +kernel) (by decide +kernel)
set_option maxRecDepth 20000 in
theorem gX6_seek_X6_refuses : GoodIn wsX6_seek (wsV RX6 39 RX6 yX6_refuses wsX6_refuses) := goodIn_app (goodIn_of _ (by decide +kernel)) ggX6_seek_X6_refuses
set_option maxRecDepth 20000 in
theorem ggX6_seek_X6_begins : GoodIn wsX6_seek wsX6_begins := goodIn_r _ [15, 4, 33, 34, 35, 36, 37, 38, 39, 40, 41, 42, 43, 44, 45, 46, 47] (by decide +kernel) (by decide +kernel)
set_option maxRecDepth 20000 in
theorem gX6_seek_X6_begins : GoodIn wsX6_seek (wsV RX6 50 RX6 yX6_begins wsX6_begins) := goodIn_app (goodIn_of _ (by decide +kernel)) ggX6_seek_X6_begins
set_option maxRecDepth 20000 in
theorem ggX6_seek_X6_key : GoodIn wsX6_seek wsX6_key := goodIn_r _ [19, 20, 21, 33, 34, 35, 36, 37, 38, 39, 40, 41, 42, 43, 44, 45, 46, 47] (by decide +kernel) (by decide +kernel)
set_option maxRecDepth 20000 in
theorem gX6_seek_X6_key : GoodIn wsX6_seek (wsV RX6 63 RX6 yX6_key wsX6_key) := goodIn_app (goodIn_of _ (by decide +kernel)) ggX6_seek_X6_key
set_option maxRecDepth 20000 in
theorem ggX6_seek_X6_pairs : GoodIn wsX6_seek wsX6_pairs := goodIn_r _ [25, 2, 20, 26, 27, 28, 9, 29, 30, 31, 32, 33, 34, 35, 36, 37, 38, 39, 40, 41, 42, 43, 44, 45, 46, 47] (by decide +kernel) (by decide +kernel)
set_option maxRecDepth 20000 in
theorem gX6_seek_X6_pairs : GoodIn wsX6_seek (wsV RX6 87 RX6 yX6_pairs wsX6_pairs) := goodIn_app (goodIn_of _ (by decide +kernel)) ggX6_seek_X6_pairs
set_option maxRecDepth 20000 in
theorem ggX6_rewind_X6_refuses : GoodIn wsX6_rewind wsX6_refuses := goodIn_r _ [7, 8, 14, 15, 16, 17, 18, 19, 20, 21, 22, 23, 24, 25, 26, 27, 28] (by decide +kernel) (by decide +kernel)
set_option maxRecDepth 20000 in
theorem gX6_rewind_X6_refuses : GoodIn wsX6_rewind (wsV RX6 39 RX6 yX6_refuses wsX6_refuses) := goodIn_app (goodIn_of _ (by decide +kernel)) ggX6_rewind_X6_refuses
set_option maxRecDepth 20000 in
theorem ggX6_rewind_X6_begins : GoodIn wsX6_rewind wsX6_begins := goodIn_r _ [12, 13, 14, 15, 16, 17, 18, 19, 20, 21, 22, 23, 24, 25, 26, 27, 28] (by decide +kernel) (by decide +kernel)
set_option maxRecDepth 20000 in
theorem gX6_rewind_X6_begins : GoodIn wsX6_rewind (wsV RX6 50 RX6 yX6_begins wsX6_begins) := goodIn_app (goodIn_of _ (by decide +kernel)) ggX6_rewind_X6_begins
set_option maxRecDepth 20000 in
theorem ggX6_count_X6_refuses : GoodIn wsX6_count wsX6_refuses := goodIn_r _ [7, 8, 22, 23, 24, 25, 26, 27, 28, 29, 30, 31, 32, 33, 34, 35, 36] (by decide +kernel) (by decide +kernel)
set_option maxRecDepth 20000 in
theorem gX6_count_X6_refuses : GoodIn wsX6_count (wsV RX6 39 RX6 yX6_refuses wsX6_refuses) := goodIn_app (goodIn_of _ (by decide +kernel)) ggX6_count_X6_refuses
set_option maxRecDepth 20000 in
theorem ggX6_count_X6_pairs : GoodIn wsX6_count wsX6_pairs := goodIn_r _ [12, 13, 14, 15, 16, 17, 6, 18, 19, 20, 21, 22, 23, 24, 25, 26, 27, 28, 29, 30, 31, 32, 33, 34, 35, 36] (by decide +kernel) (by decide +kernel)
set_option maxRecDepth 20000 in
theorem gX6_count_X6_pairs : GoodIn wsX6_count (wsV RX6 87 RX6 yX6_pairs wsX6_pairs) := goodIn_app (goodIn_of _ (by decide +kernel)) ggX6_count_X6_pairs
set_option maxRecDepth 20000 in
theorem ggX6_rows_X6_refuses : GoodIn wsX6_rows wsX6_refuses := goodIn_r _ [8, 9, 14, 15, 16, 17, 18, 19, 20, 21, 22, 23, 24, 25, 26, 27, 28] (by decide +kernel) (by decide +kernel)
set_option maxRecDepth 20000 in
theorem gX6_rows_X6_refuses : GoodIn wsX6_rows (wsV RX6 39 RX6 yX6_refuses wsX6_refuses) := goodIn_app (goodIn_of _ (by decide +kernel)) ggX6_rows_X6_refuses
set_option maxRecDepth 20000 in
theorem ggX6_rows_X6_rowsOf : GoodIn wsX6_rows wsX6_rowsOf := goodIn_r _ [13, 2, 3, 14, 15, 16, 17, 18, 19, 20, 21, 22, 23, 24, 25, 26, 27, 28] (by decide +kernel) (by decide +kernel)
set_option maxRecDepth 20000 in
theorem gX6_rows_X6_rowsOf : GoodIn wsX6_rows (wsV RX6 84 RX6 yX6_rowsOf wsX6_rowsOf) := goodIn_app (goodIn_of _ (by decide +kernel)) ggX6_rows_X6_rowsOf
set_option maxRecDepth 20000 in
theorem ggX6_groupAt_X6_key : GoodIn wsX6_groupAt wsX6_key := goodIn_r _ [6, 7, 8, 13, 14, 15, 16, 17, 18, 19, 20, 21, 22, 23, 24, 25, 26, 27] (by decide +kernel) (by decide +kernel)
set_option maxRecDepth 20000 in
theorem gX6_groupAt_X6_key : GoodIn wsX6_groupAt (wsV RX6 63 RX6 yX6_key wsX6_key) := goodIn_app (goodIn_of _ (by decide +kernel)) ggX6_groupAt_X6_key
set_option maxRecDepth 20000 in
theorem ggX6_groupAt_X6_rowsOf : GoodIn wsX6_groupAt wsX6_rowsOf := goodIn_r _ [12, 1, 7, 13, 14, 15, 16, 17, 18, 19, 20, 21, 22, 23, 24, 25, 26, 27] (by decide +kernel) (by decide +kernel)
set_option maxRecDepth 20000 in
theorem gX6_groupAt_X6_rowsOf : GoodIn wsX6_groupAt (wsV RX6 84 RX6 yX6_rowsOf wsX6_rowsOf) := goodIn_app (goodIn_of _ (by decide +kernel)) ggX6_groupAt_X6_rowsOf
