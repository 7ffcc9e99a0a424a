set_option maxRecDepth 20000 in
theorem ggX1_tell_X4_keyAt : GoodIn wsX1_tell wsX4_keyAt := goodIn_r _ [19, 20, 21, 22, 23, 24, 9, 25, 11, 74, 75, 76, 77, 78, 79, 80, 81, 82] (by decide +kernel) (by decide +kernel)
set_option maxRecDepth 20000 in
theorem gX1_tell_X4_keyAt : GoodIn wsX1_tell (wsV RX1 61 RX4 yX4_keyAt wsX4_keyAt) := goodIn_app (goodIn_of _ (by decide +kernel)) ggX1_tell_X4_keyAt
set_option maxRecDepth 20000 in
theorem ggX1_tell_X1_write : GoodIn wsX1_tell wsX1_write := goodIn_r _ [64, 3, 4, 65, 66, 41, 42, 43, 67, 45, 46, 68, 69, 70, 71, 72, 73, 83, 84, 85, 86] (by decide +kernel) (by decide +kernel)
set_option maxRecDepth 20000 in
theorem gX1_tell_X1_write : GoodIn wsX1_tell (wsV RX1 64 RX1 yX1_write wsX1_write) := goodIn_app (goodIn_of _ (by decide +kernel)) ggX1_tell_X1_write
set_option maxRecDepth 20000 in
theorem ggX2_fits_X2_hasRightRows : GoodIn wsX2_fits wsX2_hasRightRows := goodIn_r _ [5, 6, 7, 14, 15, 16, 17, 18, 19, 20] (by decide +kernel) (by decide +kernel)
set_option maxRecDepth 20000 in
theorem gX2_fits_X2_hasRightRows : GoodIn wsX2_fits (wsV RX2 33 RX2 yX2_hasRightRows wsX2_hasRightRows) := goodIn_app (goodIn_of _ (by decide +kernel)) ggX2_fits_X2_hasRightRows
set_option maxRecDepth 20000 in
theorem ggX2_fits_X2_hasLeftRows : GoodIn wsX2_fits wsX2_hasLeftRows := goodIn_r _ [11, 12, 13, 14, 15, 16, 17, 18, 19, 20] (by decide +kernel) (by decide +kernel)
set_option maxRecDepth 20000 in
theorem gX2_fits_X2_hasLeftRows : GoodIn wsX2_fits (wsV RX2 37 RX2 yX2_hasLeftRows wsX2_hasLeftRows) := goodIn_app (goodIn_of _ (by decide +kernel)) ggX2_fits_X2_hasLeftRows
set_option maxRecDepth 20000 in
theorem ggX2_enterFirstPair_X2_hasLeftRows : GoodIn wsX2_enterFirstPair wsX2_hasLeftRows := goodIn_r _ [10, 1, 11, 17, 18, 19, 20, 21, 22, 23] (by decide +kernel) (by decide +kernel)
set_option maxRecDepth 20000 in
theorem gX2_enterFirstPair_X2_hasLeftRows : GoodIn wsX2_enterFirstPair (wsV RX2 37 RX2 yX2_hasLeftRows wsX2_hasLeftRows) := goodIn_app (goodIn_of _ (by decide +kernel)) ggX2_enterFirstPair_X2_hasLeftRows
set_option maxRecDepth 20000 in
theorem ggX2_enterFirstPair_X2_hasRightRows : GoodIn wsX2_enterFirstPair wsX2_hasRightRows := goodIn_r _ [15, 3, 16, 17, 18, 19, 20, 21, 22, 23] (by decide +kernel) (by decide +kernel)
set_option maxRecDepth 20000 in
theorem gX2_enterFirstPair_X2_hasRightRows : GoodIn wsX2_enterFirstPair (wsV RX2 33 RX2 yX2_hasRightRows wsX2_hasRightRows) := goodIn_app (goodIn_of _ (by decide +kernel)) ggX2_enterFirstPair_X2_hasRightRows
set_option maxRecDepth 20000 in
theorem ggX2_enterNextPair_X2_hasRightRows : GoodIn wsX2_enterNextPair wsX2_hasRightRows := goodIn_r _ [11, 5, 2, 12, 13, 14, 15, 16, 17, 18] (by decide +kernel) (by decide +kernel)
set_option maxRecDepth 20000 in
theorem gX2_enterNextPair_X2_hasRightRows : GoodIn wsX2_enterNextPair (wsV RX2 33 RX2 yX2_hasRightRows wsX2_hasRightRows) := goodIn_app (goodIn_of _ (by decide +kernel)) ggX2_enterNextPair_X2_hasRightRows
set_option maxRecDepth 20000 in
theorem ggX3_measure_X4_valueAt : GoodIn wsX3_measure wsX4_valueAt := goodIn_r _ [16, 17, 18, 19, 20, 21, 15, 22, 23, 37, 38, 39, 40, 41, 42, 43, 44, 45] (by decide +kernel) (by decide +kernel)
set_option maxRecDepth 20000 in
theorem gX3_measure_X4_valueAt : GoodIn wsX3_measure (wsV RX3 17 RX4 yX4_valueAt wsX4_valueAt) := goodIn_app (goodIn_of _ (by decide +kernel)) ggX3_measure_X4_valueAt
set_option maxRecDepth 20000 in
theorem ggX3_measure_X4_keyAt : GoodIn wsX3_measure wsX4_keyAt := goodIn_r _ [27, 28, 18, 19, 20, 21, 15, 22, 23, 37, 38, 39, 40, 41, 42, 43, 44, 45] (by decide +kernel) (by decide +kernel)
set_option maxRecDepth 20000 in
theorem gX3_measure_X4_keyAt : GoodIn wsX3_measure (wsV RX3 29 RX4 yX4_keyAt wsX4_keyAt) := goodIn_app (goodIn_of _ (by decide +kernel)) ggX3_measure_X4_keyAt
set_option maxRecDepth 20000 in
theorem ggX3_measure_X4_size : GoodIn wsX3_measure wsX4_size := goodIn_r _ [32, 23, 37, 38, 39, 40, 41, 42, 43, 44, 45] (by decide +kernel) (by decide +kernel)
set_option maxRecDepth 20000 in
theorem gX3_measure_X4_size : GoodIn wsX3_measure (wsV RX3 32 RX4 yX4_size wsX4_size) := goodIn_app (goodIn_of _ (by decide +kernel)) ggX3_measure_X4_size
set_option maxRecDepth 20000 in
theorem ggX4_append_X4_hasRoom : GoodIn wsX4_append wsX4_hasRoom := goodIn_r _ [8, 2, 9, 10, 11, 12, 13, 14, 15, 16, 17, 18] (by decide +kernel) (by decide +kernel)
set_option maxRecDepth 20000 in
theorem gX4_append_X4_hasRoom : GoodIn wsX4_append (wsV RX4 40 RX4 yX4_hasRoom wsX4_hasRoom) := goodIn_app (goodIn_of _ (by decide +kernel)) ggX4_append_X4_hasRoom
set_option maxRecDepth 20000 in
theorem ggX4_keyAt_X4_has : GoodIn wsX4_keyAt wsX4_has := goodIn_r _ [7, 8, 9, 10, 11, 12, 13, 14, 15, 16, 17] (by decide +kernel) (by decide +kernel)
set_option maxRecDepth 20000 in
theorem gX4_keyAt_X4_has : GoodIn wsX4_keyAt (wsV RX4 44 RX4 yX4_has wsX4_has) := goodIn_app (goodIn_of _ (by decide +kernel)) ggX4_keyAt_X4_has
set_option maxRecDepth 20000 in
theorem ggX4_valueAt_X4_has : GoodIn wsX4_valueAt wsX4_has := goodIn_r _ [7, 8, 9, 10, 11, 12, 13, 14, 15, 16, 17] (by decide +kernel) (by decide +kernel)
set_option maxRecDepth 20000 in
theorem gX4_valueAt_X4_has : GoodIn wsX4_valueAt (wsV RX4 44 RX4 yX4_has wsX4_has) := goodIn_app (goodIn_of _ (by decide +kernel)) ggX4_valueAt_X4_has
set_option maxRecDepth 20000 in
theorem ggX4_numberAt_X4_has : GoodIn wsX4_numberAt wsX4_has := goodIn_r _ [6, 7, 8, 9, 10, 11, 12, 13, 14, 15, 16] (by decide +kernel) (by decide +kernel)
set_option maxRecDepth 20000 in
theorem gX4_numberAt_X4_has : GoodIn wsX4_numberAt (wsV RX4 44 RX4 yX4_has wsX4_has) := goodIn_app (goodIn_of _ (by decide +kernel)) ggX4_numberAt_X4_has
set_option maxRecDepth 20000 in
theorem ggX4_sortRows_X4_putInOrder : GoodIn wsX4_sortRows wsX4_putInOrder := goodIn_r _ [7, 8, 9, 10, 11, 12, 13, 14, 15, 16, 17, 18] (by decide +kernel) (by decide +kernel)
set_option maxRecDepth 20000 in
theorem gX4_sortRows_X4_putInOrder : GoodIn wsX4_sortRows (wsV RX4 48 RX4 yX4_putInOrder wsX4_putInOrder) := goodIn_app (goodIn_of _ (by decide +kernel)) ggX4_sortRows_X4_putInOrder
set_option maxRecDepth 20000 in
theorem ggX4_findPartners_X4_keyAt : GoodIn wsX4_findPartners wsX4_keyAt := goodIn_r _ [9, 10, 11, 12, 13, 14, 8, 15, 1, 16, 17, 18, 19, 20, 21, 22, 23, 24] (by decide +kernel) (by decide +kernel)
set_option maxRecDepth 20000 in
theorem gX4_findPartners_X4_keyAt : GoodIn wsX4_findPartners (wsV RX4 52 RX4 yX4_keyAt wsX4_keyAt) := goodIn_app (goodIn_of _ (by decide +kernel)) ggX4_findPartners_X4_keyAt
set_option maxRecDepth 20000 in
theorem ggX4_firstPartnerOf_X4_has : GoodIn wsX4_firstPartnerOf wsX4_has := goodIn_r _ [6, 7, 8, 9, 10, 11, 12, 13, 14, 15, 16] (by decide +kernel) (by decide +kernel)
set_option maxRecDepth 20000 in
theorem gX4_firstPartnerOf_X4_has : GoodIn wsX4_firstPartnerOf (wsV RX4 44 RX4 yX4_has wsX4_has) := goodIn_app (goodIn_of _ (by decide +kernel)) ggX4_firstPartnerOf_X4_has
set_option maxRecDepth 20000 in
theorem ggX4_startsGroup_X4_keyAt : GoodIn wsX4_startsGroup wsX4_keyAt := goodIn_r _ [5, 6, 7, 8, 9, 10, 4, 11, 12, 18, 19, 20, 21, 22, 23, 24, 25, 26] (by decide +kernel) (by decide +kernel)
set_option maxRecDepth 20000 in
theorem gX4_startsGroup_X4_keyAt : GoodIn wsX4_startsGroup (wsV RX4 52 RX4 yX4_keyAt wsX4_keyAt) := goodIn_app (goodIn_of _ (by decide +kernel)) ggX4_startsGroup_X4_keyAt
set_option maxRecDepth 20000 in
theorem ggX4_startsGroup_X4_partnersBefore : GoodIn wsX4_startsGroup wsX4_partnersBefore := goodIn_r _ [16, 12, 17, 18, 19, 20, 21, 22, 23, 24, 25, 26] (by decide +kernel) (by decide +kernel)
set_option maxRecDepth 20000 in
theorem gX4_startsGroup_X4_partnersBefore : GoodIn wsX4_startsGroup (wsV RX4 56 RX4 yX4_partnersBefore wsX4_partnersBefore) := goodIn_app (goodIn_of _ (by decide +kernel)) ggX4_startsGroup_X4_partnersBefore
set_option maxRecDepth 20000 in
theorem ggX4_groupStarts_X4_startsGroup : GoodIn wsX4_groupStarts wsX4_startsGroup := goodIn_r _ [6, 7, 8, 9, 5, 10, 11, 12, 13, 14, 15, 16, 1, 17, 18, 19, 20, 21, 22, 23, 24, 25, 26, 27, 28, 29, 30] (by decide +kernel) (by decide +kernel)
set_option maxRecDepth 20000 in
theorem gX4_groupStarts_X4_startsGroup : GoodIn wsX4_groupStarts (wsV RX4 59 RX4 yX4_startsGroup wsX4_startsGroup) := goodIn_app (goodIn_of _ (by decide +kernel)) ggX4_groupStarts_X4_startsGroup
