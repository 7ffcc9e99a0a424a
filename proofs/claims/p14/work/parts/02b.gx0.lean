set_option maxRecDepth 20000 in
theorem ggX0_init_X2_init : GoodIn wsX0_init wsX2_init := goodIn_r _ [16, 17, 2, 3, 18, 19, 27, 28, 29, 30, 31, 32, 33] (by decide +kernel) (by decide +kernel)
set_option maxRecDepth 20000 in
theorem gX0_init_X2_init : GoodIn wsX0_init (wsX2_init) := ggX0_init_X2_init
set_option maxRecDepth 20000 in
theorem ggX0_restart_X2_stand : GoodIn wsX0_restart wsX2_stand := goodIn_r _ [7, 8, 9, 10, 11, 12, 13, 14, 22, 23, 24, 25, 26, 27, 28] (by decide +kernel) (by decide +kernel)
set_option maxRecDepth 20000 in
theorem gX0_restart_X2_stand : GoodIn wsX0_restart (wsV RX0 46 RX2 yX2_stand wsX2_stand) := goodIn_app (goodIn_of _ (by decide +kernel)) ggX0_restart_X2_stand
set_option maxRecDepth 20000 in
theorem ggX0_setMark_X2_copy : GoodIn wsX0_setMark wsX2_copy := goodIn_r _ [8, 9, 10, 11, 12, 13, 14, 15, 23, 24, 25, 26, 27, 28, 29] (by decide +kernel) (by decide +kernel)
set_option maxRecDepth 20000 in
theorem gX0_setMark_X2_copy : GoodIn wsX0_setMark (wsV RX0 50 RX2 yX2_copy wsX2_copy) := goodIn_app (goodIn_of _ (by decide +kernel)) ggX0_setMark_X2_copy
set_option maxRecDepth 20000 in
theorem ggX0_goToMark_X2_copy : GoodIn wsX0_goToMark wsX2_copy := goodIn_r _ [7, 8, 9, 10, 11, 12, 13, 14, 22, 23, 24, 25, 26, 27, 28] (by decide +kernel) (by decide +kernel)
set_option maxRecDepth 20000 in
theorem gX0_goToMark_X2_copy : GoodIn wsX0_goToMark (wsV RX0 50 RX2 yX2_copy wsX2_copy) := goodIn_app (goodIn_of _ (by decide +kernel)) ggX0_goToMark_X2_copy
set_option maxRecDepth 20000 in
theorem ggX0_goOn_X2_enterNextPair : GoodIn wsX0_goOn wsX2_enterNextPair := goodIn_r _ [7, 8, 9, 10, 11, 12, 13, 14, 15, 16, 6, 17, 79, 80, 81, 82, 83, 84, 85] (by decide +kernel) (by decide +kernel)
set_option maxRecDepth 20000 in
theorem gX0_goOn_X2_enterNextPair : GoodIn wsX0_goOn (wsV RX0 57 RX2 yX2_enterNextPair wsX2_enterNextPair) := goodIn_app (goodIn_of _ (by decide +kernel)) ggX0_goOn_X2_enterNextPair
set_option maxRecDepth 20000 in
theorem ggX0_goOn_X0_rowsAhead : GoodIn wsX0_goOn wsX0_rowsAhead := goodIn_r _ [22, 23, 1, 24, 25, 26, 27, 28, 29, 30, 72, 73, 74, 75, 76, 77, 78, 79, 80, 81, 82, 83, 84, 85, 86, 87, 88, 89, 90, 91, 92, 93, 94] (by decide +kernel) (by decide +kernel)
set_option maxRecDepth 20000 in
theorem gX0_goOn_X0_rowsAhead : GoodIn wsX0_goOn (wsV RX0 61 RX0 yX0_rowsAhead wsX0_rowsAhead) := goodIn_app (goodIn_of _ (by decide +kernel)) ggX0_goOn_X0_rowsAhead
set_option maxRecDepth 20000 in
theorem ggX0_goOn_X0_comeToNewKeys : GoodIn wsX0_goOn wsX0_comeToNewKeys := goodIn_r _ [34, 23, 1, 24, 35, 36, 37, 28, 38, 30, 39, 40, 41, 21, 42, 43, 44, 45, 46, 47, 48, 49, 50, 51, 52, 53, 54, 25, 26, 27, 29, 72, 73, 74, 75, 76, 77, 78, 79, 80, 81, 82, 83, 84, 85, 86, 87, 88, 89, 90, 91, 92, 93, 94] (by decide +kernel) (by decide +kernel)
set_option maxRecDepth 20000 in
theorem gX0_goOn_X0_comeToNewKeys : GoodIn wsX0_goOn (wsV RX0 65 RX0 yX0_comeToNewKeys wsX0_comeToNewKeys) := goodIn_app (goodIn_of _ (by decide +kernel)) ggX0_goOn_X0_comeToNewKeys
set_option maxRecDepth 20000 in
theorem ggX0_goOn_X2_fits : GoodIn wsX0_goOn wsX2_fits := goodIn_r _ [58, 14, 15, 16, 6, 17, 12, 9, 59, 60, 61, 62, 63, 11, 79, 80, 81, 82, 83, 84, 85] (by decide +kernel) (by decide +kernel)
set_option maxRecDepth 20000 in
theorem gX0_goOn_X2_fits : GoodIn wsX0_goOn (wsV RX0 68 RX2 yX2_fits wsX2_fits) := goodIn_app (goodIn_of _ (by decide +kernel)) ggX0_goOn_X2_fits
set_option maxRecDepth 20000 in
theorem ggX0_goOn_X2_enterFirstPair : GoodIn wsX0_goOn wsX2_enterFirstPair := goodIn_r _ [67, 63, 10, 12, 8, 13, 59, 60, 61, 6, 62, 11, 14, 15, 16, 17, 9, 79, 80, 81, 82, 83, 84, 85] (by decide +kernel) (by decide +kernel)
set_option maxRecDepth 20000 in
theorem gX0_goOn_X2_enterFirstPair : GoodIn wsX0_goOn (wsV RX0 72 RX2 yX2_enterFirstPair wsX2_enterFirstPair) := goodIn_app (goodIn_of _ (by decide +kernel)) ggX0_goOn_X2_enterFirstPair
set_option maxRecDepth 20000 in
theorem ggX0_goOn_X2_stand : GoodIn wsX0_goOn wsX2_stand := goodIn_r _ [71, 63, 11, 12, 9, 10, 8, 13, 79, 80, 81, 82, 83, 84, 85] (by decide +kernel) (by decide +kernel)
set_option maxRecDepth 20000 in
theorem gX0_goOn_X2_stand : GoodIn wsX0_goOn (wsV RX0 46 RX2 yX2_stand wsX2_stand) := goodIn_app (goodIn_of _ (by decide +kernel)) ggX0_goOn_X2_stand
set_option maxRecDepth 20000 in
theorem ggX0_goBefore_X0_firstNotBelow : GoodIn wsX0_goBefore wsX0_firstNotBelow := goodIn_r _ [9, 10, 11, 12, 13, 14, 15, 16, 17, 18, 8, 19, 20, 21, 22, 23, 24, 25, 26, 27, 28, 29, 30, 63, 64, 65, 66, 67, 68, 69, 70, 71, 56, 57, 58, 59, 60, 61, 62] (by decide +kernel) (by decide +kernel)
set_option maxRecDepth 20000 in
theorem gX0_goBefore_X0_firstNotBelow : GoodIn wsX0_goBefore (wsV RX0 81 RX0 yX0_firstNotBelow wsX0_firstNotBelow) := goodIn_app (goodIn_of _ (by decide +kernel)) ggX0_goBefore_X0_firstNotBelow
set_option maxRecDepth 20000 in
theorem ggX0_goBefore_X5_pairsBefore : GoodIn wsX0_goBefore wsX5_pairsBefore := goodIn_r _ [33, 34, 35, 36, 13, 37, 15, 38, 39, 40, 41, 42, 43, 63, 64, 65, 66, 67, 68, 69, 70, 71] (by decide +kernel) (by decide +kernel)
set_option maxRecDepth 20000 in
theorem gX0_goBefore_X5_pairsBefore_n85 : GoodIn wsX0_goBefore (wsX5_pairsBefore) := ggX0_goBefore_X5_pairsBefore
set_option maxRecDepth 20000 in
theorem ggX0_goBefore_X2_stand : GoodIn wsX0_goBefore wsX2_stand := goodIn_r _ [48, 49, 50, 51, 52, 53, 54, 55, 72, 73, 74, 75, 76, 77, 78] (by decide +kernel) (by decide +kernel)
set_option maxRecDepth 20000 in
theorem gX0_goBefore_X2_stand : GoodIn wsX0_goBefore (wsV RX0 46 RX2 yX2_stand wsX2_stand) := goodIn_app (goodIn_of _ (by decide +kernel)) ggX0_goBefore_X2_stand
set_option maxRecDepth 20000 in
theorem ggX0_goBefore_X4_size : GoodIn wsX0_goBefore wsX4_size := goodIn_r _ [14, 15, 63, 64, 65, 66, 67, 68, 69, 70, 71] (by decide +kernel) (by decide +kernel)
set_option maxRecDepth 20000 in
theorem gX0_goBefore_X4_size : GoodIn wsX0_goBefore (wsV RX0 89 RX4 yX4_size wsX4_size) := goodIn_app (goodIn_of _ (by decide +kernel)) ggX0_goBefore_X4_size
set_option maxRecDepth 20000 in
theorem ggX0_rowsAhead_X4_size : GoodIn wsX0_rowsAhead wsX4_size := goodIn_r _ [8, 9, 24, 25, 26, 27, 28, 29, 30, 31, 32] (by decide +kernel) (by decide +kernel)
set_option maxRecDepth 20000 in
theorem gX0_rowsAhead_X4_size : GoodIn wsX0_rowsAhead (wsV RX0 89 RX4 yX4_size wsX4_size) := goodIn_app (goodIn_of _ (by decide +kernel)) ggX0_rowsAhead_X4_size
set_option maxRecDepth 20000 in
theorem ggX0_comeToNewKeys_X4_has : GoodIn wsX0_comeToNewKeys wsX4_has := goodIn_r _ [8, 9, 45, 46, 47, 48, 49, 50, 51, 52, 53] (by decide +kernel) (by decide +kernel)
set_option maxRecDepth 20000 in
theorem gX0_comeToNewKeys_X4_has : GoodIn wsX0_comeToNewKeys (wsV RX0 94 RX4 yX4_has wsX4_has) := goodIn_app (goodIn_of _ (by decide +kernel)) ggX0_comeToNewKeys_X4_has
set_option maxRecDepth 20000 in
theorem ggX0_comeToNewKeys_X0_readKey : GoodIn wsX0_comeToNewKeys wsX0_readKey := goodIn_r _ [14, 15, 16, 17, 18, 7, 19, 20, 21, 22, 5, 6, 8, 9, 31, 32, 33, 34, 35, 36, 37, 45, 46, 47, 48, 49, 50, 51, 52, 53] (by decide +kernel) (by decide +kernel)
set_option maxRecDepth 20000 in
theorem gX0_comeToNewKeys_X0_readKey : GoodIn wsX0_comeToNewKeys (wsV RX0 97 RX0 yX0_readKey wsX0_readKey) := goodIn_app (goodIn_of _ (by decide +kernel)) ggX0_comeToNewKeys_X0_readKey
set_option maxRecDepth 20000 in
theorem ggX0_comeToNewKeys_X0_firstOtherKey : GoodIn wsX0_comeToNewKeys wsX0_firstOtherKey := goodIn_r _ [26, 10, 11, 12, 13, 14, 15, 16, 17, 18, 7, 19, 20, 21, 22, 5, 6, 8, 9, 27, 28, 29, 30, 31, 32, 33, 34, 35, 36, 37, 45, 46, 47, 48, 49, 50, 51, 52, 53] (by decide +kernel) (by decide +kernel)
set_option maxRecDepth 20000 in
theorem gX0_comeToNewKeys_X0_firstOtherKey : GoodIn wsX0_comeToNewKeys (wsV RX0 106 RX0 yX0_firstOtherKey wsX0_firstOtherKey) := goodIn_app (goodIn_of _ (by decide +kernel)) ggX0_comeToNewKeys_X0_firstOtherKey
set_option maxRecDepth 20000 in
theorem ggX0_firstOtherKey_X0_readKey : GoodIn wsX0_firstOtherKey wsX0_readKey := goodIn_r _ [5, 6, 7, 8, 9, 10, 11, 12, 13, 14, 15, 16, 17, 18, 23, 24, 25, 26, 27, 28, 29, 30, 31, 32, 33, 34, 35, 36, 37, 38] (by decide +kernel) (by decide +kernel)
set_option maxRecDepth 20000 in
theorem gX0_firstOtherKey_X0_readKey : GoodIn wsX0_firstOtherKey (wsV RX0 97 RX0 yX0_readKey wsX0_readKey) := goodIn_app (goodIn_of _ (by decide +kernel)) ggX0_firstOtherKey_X0_readKey
set_option maxRecDepth 20000 in
theorem ggX0_firstOtherKey_X4_size : GoodIn wsX0_firstOtherKey wsX4_size := goodIn_r _ [22, 18, 30, 31, 32, 33, 34, 35, 36, 37, 38] (by decide +kernel) (by decide +kernel)
set_option maxRecDepth 20000 in
theorem gX0_firstOtherKey_X4_size : GoodIn wsX0_firstOtherKey (wsV RX0 89 RX4 yX4_size wsX4_size) := goodIn_app (goodIn_of _ (by decide +kernel)) ggX0_firstOtherKey_X4_size
set_option maxRecDepth 20000 in
theorem ggX0_firstNotBelow_X4_size : GoodIn wsX0_firstNotBelow wsX4_size := goodIn_r _ [5, 6, 23, 24, 25, 26, 27, 28, 29, 30, 31] (by decide +kernel) (by decide +kernel)
set_option maxRecDepth 20000 in
theorem gX0_firstNotBelow_X4_size : GoodIn wsX0_firstNotBelow (wsV RX0 89 RX4 yX4_size wsX4_size) := goodIn_app (goodIn_of _ (by decide +kernel)) ggX0_firstNotBelow_X4_size
set_option maxRecDepth 20000 in
theorem ggX0_firstNotBelow_X0_readKey : GoodIn wsX0_firstNotBelow wsX0_readKey := goodIn_r _ [11, 12, 13, 14, 15, 4, 16, 17, 18, 19, 20, 21, 22, 6, 32, 33, 34, 35, 36, 37, 38, 23, 24, 25, 26, 27, 28, 29, 30, 31] (by decide +kernel) (by decide +kernel)
set_option maxRecDepth 20000 in
theorem gX0_firstNotBelow_X0_readKey : GoodIn wsX0_firstNotBelow (wsV RX0 97 RX0 yX0_readKey wsX0_readKey) := goodIn_app (goodIn_of _ (by decide +kernel)) ggX0_firstNotBelow_X0_readKey
set_option maxRecDepth 20000 in
theorem ggX0_readKey_X4_keyAt : GoodIn wsX0_readKey wsX4_keyAt := goodIn_r _ [6, 7, 8, 9, 10, 11, 5, 12, 13, 21, 22, 23, 24, 25, 26, 27, 28, 29] (by decide +kernel) (by decide +kernel)
set_option maxRecDepth 20000 in
theorem gX0_readKey_X4_keyAt : GoodIn wsX0_readKey (wsV RX0 109 RX4 yX4_keyAt wsX4_keyAt) := goodIn_app (goodIn_of _ (by decide +kernel)) ggX0_readKey_X4_keyAt
set_option maxRecDepth 20000 in
theorem ggX1_init_X3_init : GoodIn wsX1_init wsX3_init := goodIn_r _ [16, 17, 2, 3] (by decide +kernel) (by decide +kernel)
set_option maxRecDepth 20000 in
theorem gX1_init_X3_init_n22 : GoodIn wsX1_init (wsX3_init) := ggX1_init_X3_init
set_option maxRecDepth 20000 in
theorem ggX1_fact_X1_has : GoodIn wsX1_fact wsX1_has := goodIn_r _ [6, 7, 11, 12, 13, 14, 15, 16] (by decide +kernel) (by decide +kernel)
set_option maxRecDepth 20000 in
theorem gX1_fact_X1_has : GoodIn wsX1_fact (wsV RX1 37 RX1 yX1_has wsX1_has) := goodIn_app (goodIn_of _ (by decide +kernel)) ggX1_fact_X1_has
set_option maxRecDepth 20000 in
theorem ggX1_fact_X5_isBelow : GoodIn wsX1_fact wsX5_isBelow := goodIn_r _ [10] (by decide +kernel) (by decide +kernel)
set_option maxRecDepth 20000 in
theorem gX1_fact_X5_isBelow_n41 : GoodIn wsX1_fact (wsX5_isBelow) := ggX1_fact_X5_isBelow
set_option maxRecDepth 20000 in
theorem ggX1_tell_X4_size : GoodIn wsX1_tell wsX4_size := goodIn_r _ [10, 11, 74, 75, 76, 77, 78, 79, 80, 81, 82] (by decide +kernel) (by decide +kernel)
set_option maxRecDepth 20000 in
theorem gX1_tell_X4_size : GoodIn wsX1_tell (wsV RX1 45 RX4 yX4_size wsX4_size) := goodIn_app (goodIn_of _ (by decide +kernel)) ggX1_tell_X4_size
set_option maxRecDepth 20000 in
theorem ggX1_tell_X4_startsGroup : GoodIn wsX1_tell wsX4_startsGroup := goodIn_r _ [15, 16, 17, 18, 9, 19, 20, 21, 22, 23, 24, 25, 11, 26, 27, 28, 29, 30, 74, 75, 76, 77, 78, 79, 80, 81, 82] (by decide +kernel) (by decide +kernel)
set_option maxRecDepth 20000 in
theorem gX1_tell_X4_startsGroup : GoodIn wsX1_tell (wsV RX1 50 RX4 yX4_startsGroup wsX4_startsGroup) := goodIn_app (goodIn_of _ (by decide +kernel)) ggX1_tell_X4_startsGroup
set_option maxRecDepth 20000 in
theorem ggX1_tell_X3_measure : GoodIn wsX1_tell wsX3_measure := goodIn_r _ [35, 36, 37, 38, 39, 40, 41, 42, 43, 44, 45, 46, 47, 48, 49, 9, 50, 51, 21, 22, 23, 24, 25, 11, 52, 17, 18, 19, 20, 53, 7, 8, 10, 83, 84, 85, 86, 74, 75, 76, 77, 78, 79, 80, 81, 82] (by decide +kernel) (by decide +kernel)
set_option maxRecDepth 20000 in
theorem gX1_tell_X3_measure : GoodIn wsX1_tell (wsV RX1 53 RX3 yX3_measure wsX3_measure) := goodIn_app (goodIn_of _ (by decide +kernel)) ggX1_tell_X3_measure
set_option maxRecDepth 20000 in
theorem ggX1_tell_X4_firstPartnerOf : GoodIn wsX1_tell wsX4_firstPartnerOf := goodIn_r _ [57, 58, 22, 23, 24, 9, 25, 11, 74, 75, 76, 77, 78, 79, 80, 81, 82] (by decide +kernel) (by decide +kernel)
set_option maxRecDepth 20000 in
theorem gX1_tell_X4_firstPartnerOf : GoodIn wsX1_tell (wsV RX1 57 RX4 yX4_firstPartnerOf wsX4_firstPartnerOf) := goodIn_app (goodIn_of _ (by decide +kernel)) ggX1_tell_X4_firstPartnerOf
