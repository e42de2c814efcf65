set_option maxRecDepth 20000 in
theorem ggX10_route_X10_isSite : GoodIn wsX10_route wsX10_isSite := goodIn_r _ [8, 2, 9, 10, 11, 7, 12, 17, 18, 19, 20, 21, 22, 23, 24, 25, 26, 27, 28, 29, 30, 31, 32, 33, 34, 35, 36, 37, 38, 39, 40, 41, 42, 43, 44, 45, 46, 47, 48, 49, 50, 51, 52, 53, 54] (by decide +kernel) (by decide +kernel)
set_option maxRecDepth 20000 in
theorem gX10_route_X10_isSite : GoodIn wsX10_route (wsV RX10 40 RX10 yX10_isSite wsX10_isSite) := goodIn_app (goodIn_of _ (by decide +kernel)) ggX10_route_X10_isSite
set_option maxRecDepth 20000 in
theorem ggX10_route_X10_no : GoodIn wsX10_route wsX10_no := goodIn_r _ [16, 1, 17, 18] (by decide +kernel) (by decide +kernel)
set_option maxRecDepth 20000 in
theorem gX10_route_X10_no : GoodIn wsX10_route (wsV RX10 43 RX10 yX10_no wsX10_no) := goodIn_app (goodIn_of _ (by decide +kernel)) ggX10_route_X10_no
set_option maxRecDepth 20000 in
theorem ggX10_hasPolicy_X10_isBoth : GoodIn wsX10_hasPolicy wsX10_isBoth := goodIn_r _ [8, 9, 10, 11, 7, 12, 2, 13, 14, 15, 16, 17, 18, 19, 20, 21, 26, 27, 28, 29, 30, 31, 32, 33, 34, 35, 36, 37, 38, 39, 40, 41, 42, 43, 44, 45, 46, 47, 48, 49, 50, 51, 52, 53, 54, 55, 56, 57, 58, 59, 60, 61, 62, 63] (by decide +kernel) (by decide +kernel)
set_option maxRecDepth 20000 in
theorem gX10_hasPolicy_X10_isBoth : GoodIn wsX10_hasPolicy (wsV RX10 69 RX10 yX10_isBoth wsX10_isBoth) := goodIn_app (goodIn_of _ (by decide +kernel)) ggX10_hasPolicy_X10_isBoth
set_option maxRecDepth 20000 in
theorem ggX10_hasPolicy_X10_isNot : GoodIn wsX10_hasPolicy wsX10_isNot := goodIn_r _ [25, 1, 26, 27] (by decide +kernel) (by decide +kernel)
set_option maxRecDepth 20000 in
theorem gX10_hasPolicy_X10_isNot : GoodIn wsX10_hasPolicy (wsV RX10 73 RX10 yX10_isNot wsX10_isNot) := goodIn_app (goodIn_of _ (by decide +kernel)) ggX10_hasPolicy_X10_isNot
set_option maxRecDepth 20000 in
theorem ggX10_onHand_X10_isBoth : GoodIn wsX10_onHand wsX10_isBoth := goodIn_r _ [7, 8, 9, 10, 6, 11, 2, 12, 13, 14, 15, 16, 17, 18, 19, 20, 38, 39, 40, 41, 42, 43, 44, 45, 46, 47, 48, 49, 50, 51, 52, 53, 54, 55, 56, 57, 58, 59, 60, 61, 62, 63, 64, 65, 66, 67, 68, 69, 70, 71, 72, 73, 74, 75] (by decide +kernel) (by decide +kernel)
set_option maxRecDepth 20000 in
theorem gX10_onHand_X10_isBoth : GoodIn wsX10_onHand (wsV RX10 69 RX10 yX10_isBoth wsX10_isBoth) := goodIn_app (goodIn_of _ (by decide +kernel)) ggX10_onHand_X10_isBoth
set_option maxRecDepth 20000 in
theorem ggX10_onHand_X10_no : GoodIn wsX10_onHand wsX10_no := goodIn_r _ [37, 1, 38, 39] (by decide +kernel) (by decide +kernel)
set_option maxRecDepth 20000 in
theorem gX10_onHand_X10_no : GoodIn wsX10_onHand (wsV RX10 43 RX10 yX10_no wsX10_no) := goodIn_app (goodIn_of _ (by decide +kernel)) ggX10_onHand_X10_no
set_option maxRecDepth 20000 in
theorem ggX10_free_X10_isBoth : GoodIn wsX10_free wsX10_isBoth := goodIn_r _ [7, 8, 9, 10, 6, 11, 2, 12, 13, 14, 15, 16, 17, 18, 19, 20, 50, 51, 52, 53, 54, 55, 56, 57, 58, 59, 60, 61, 62, 63, 64, 65, 66, 67, 68, 69, 70, 71, 72, 73, 74, 75, 76, 77, 78, 79, 80, 81, 82, 83, 84, 85, 86, 87] (by decide +kernel) (by decide +kernel)
set_option maxRecDepth 20000 in
theorem gX10_free_X10_isBoth : GoodIn wsX10_free (wsV RX10 69 RX10 yX10_isBoth wsX10_isBoth) := goodIn_app (goodIn_of _ (by decide +kernel)) ggX10_free_X10_isBoth
set_option maxRecDepth 20000 in
theorem ggX10_free_X10_no : GoodIn wsX10_free wsX10_no := goodIn_r _ [49, 1, 50, 51] (by decide +kernel) (by decide +kernel)
set_option maxRecDepth 20000 in
theorem gX10_free_X10_no : GoodIn wsX10_free (wsV RX10 43 RX10 yX10_no wsX10_no) := goodIn_app (goodIn_of _ (by decide +kernel)) ggX10_free_X10_no
set_option maxRecDepth 20000 in
theorem ggX10_underWay_X10_isBoth : GoodIn wsX10_underWay wsX10_isBoth := goodIn_r _ [7, 8, 9, 10, 6, 11, 2, 12, 13, 14, 15, 16, 17, 18, 19, 20, 35, 36, 37, 38, 39, 40, 41, 42, 43, 44, 45, 46, 47, 48, 49, 50, 51, 52, 53, 54, 55, 56, 57, 58, 59, 60, 61, 62, 63, 64, 65, 66, 67, 68, 69, 70, 71, 72] (by decide +kernel) (by decide +kernel)
set_option maxRecDepth 20000 in
theorem gX10_underWay_X10_isBoth : GoodIn wsX10_underWay (wsV RX10 69 RX10 yX10_isBoth wsX10_isBoth) := goodIn_app (goodIn_of _ (by decide +kernel)) ggX10_underWay_X10_isBoth
set_option maxRecDepth 20000 in
theorem ggX10_underWay_X10_no : GoodIn wsX10_underWay wsX10_no := goodIn_r _ [34, 1, 35, 36] (by decide +kernel) (by decide +kernel)
set_option maxRecDepth 20000 in
theorem gX10_underWay_X10_no : GoodIn wsX10_underWay (wsV RX10 43 RX10 yX10_no wsX10_no) := goodIn_app (goodIn_of _ (by decide +kernel)) ggX10_underWay_X10_no
set_option maxRecDepth 20000 in
theorem ggX10_position_X10_isBoth : GoodIn wsX10_position wsX10_isBoth := goodIn_r _ [7, 8, 9, 10, 6, 11, 2, 12, 13, 14, 15, 16, 17, 18, 19, 20, 56, 57, 58, 59, 60, 61, 62, 63, 64, 65, 66, 67, 68, 69, 70, 71, 72, 73, 74, 75, 76, 77, 78, 79, 80, 81, 82, 83, 84, 85, 86, 87, 88, 89, 90, 91, 92, 93] (by decide +kernel) (by decide +kernel)
set_option maxRecDepth 20000 in
theorem gX10_position_X10_isBoth : GoodIn wsX10_position (wsV RX10 69 RX10 yX10_isBoth wsX10_isBoth) := goodIn_app (goodIn_of _ (by decide +kernel)) ggX10_position_X10_isBoth
set_option maxRecDepth 20000 in
theorem ggX10_position_X10_no : GoodIn wsX10_position wsX10_no := goodIn_r _ [55, 1, 56, 57] (by decide +kernel) (by decide +kernel)
set_option maxRecDepth 20000 in
theorem gX10_position_X10_no : GoodIn wsX10_position (wsV RX10 43 RX10 yX10_no wsX10_no) := goodIn_app (goodIn_of _ (by decide +kernel)) ggX10_position_X10_no
set_option maxRecDepth 20000 in
theorem ggX10_roomLeft_X10_isSite : GoodIn wsX10_roomLeft wsX10_isSite := goodIn_r _ [7, 2, 8, 9, 10, 6, 11, 25, 26, 27, 28, 29, 30, 31, 32, 33, 34, 35, 36, 37, 38, 39, 40, 41, 42, 43, 44, 45, 46, 47, 48, 49, 50, 51, 52, 53, 54, 55, 56, 57, 58, 59, 60, 61, 62] (by decide +kernel) (by decide +kernel)
set_option maxRecDepth 20000 in
theorem gX10_roomLeft_X10_isSite : GoodIn wsX10_roomLeft (wsV RX10 40 RX10 yX10_isSite wsX10_isSite) := goodIn_app (goodIn_of _ (by decide +kernel)) ggX10_roomLeft_X10_isSite
set_option maxRecDepth 20000 in
theorem ggX10_roomLeft_X10_no : GoodIn wsX10_roomLeft wsX10_no := goodIn_r _ [24, 1, 25, 26] (by decide +kernel) (by decide +kernel)
set_option maxRecDepth 20000 in
theorem gX10_roomLeft_X10_no : GoodIn wsX10_roomLeft (wsV RX10 43 RX10 yX10_no wsX10_no) := goodIn_app (goodIn_of _ (by decide +kernel)) ggX10_roomLeft_X10_no
set_option maxRecDepth 20000 in
theorem ggX10_expiring_X10_isBoth : GoodIn wsX10_expiring wsX10_isBoth := goodIn_r _ [11, 12, 13, 14, 10, 15, 2, 16, 17, 18, 19, 20, 21, 22, 23, 24, 36, 37, 38, 39, 40, 41, 42, 43, 44, 45, 46, 47, 48, 49, 50, 51, 52, 53, 54, 55, 56, 57, 58, 59, 60, 61, 62, 63, 64, 65, 66, 67, 68, 69, 70, 71, 72, 73] (by decide +kernel) (by decide +kernel)
set_option maxRecDepth 20000 in
theorem gX10_expiring_X10_isBoth : GoodIn wsX10_expiring (wsV RX10 69 RX10 yX10_isBoth wsX10_isBoth) := goodIn_app (goodIn_of _ (by decide +kernel)) ggX10_expiring_X10_isBoth
set_option maxRecDepth 20000 in
theorem ggX10_expiring_X10_no : GoodIn wsX10_expiring wsX10_no := goodIn_r _ [28, 1, 36, 37] (by decide +kernel) (by decide +kernel)
set_option maxRecDepth 20000 in
theorem gX10_expiring_X10_no : GoodIn wsX10_expiring (wsV RX10 43 RX10 yX10_no wsX10_no) := goodIn_app (goodIn_of _ (by decide +kernel)) ggX10_expiring_X10_no
set_option maxRecDepth 20000 in
theorem ggX10_couldTake_X10_isBoth : GoodIn wsX10_couldTake wsX10_isBoth := goodIn_r _ [8, 9, 10, 11, 7, 12, 2, 13, 14, 15, 16, 17, 18, 19, 20, 21, 46, 47, 48, 49, 50, 51, 52, 53, 54, 55, 56, 57, 58, 59, 60, 61, 62, 63, 64, 65, 66, 67, 68, 69, 70, 71, 72, 73, 74, 75, 76, 77, 78, 79, 80, 81, 82, 83] (by decide +kernel) (by decide +kernel)
set_option maxRecDepth 20000 in
theorem gX10_couldTake_X10_isBoth : GoodIn wsX10_couldTake (wsV RX10 69 RX10 yX10_isBoth wsX10_isBoth) := goodIn_app (goodIn_of _ (by decide +kernel)) ggX10_couldTake_X10_isBoth
set_option maxRecDepth 20000 in
theorem ggX10_couldTake_X10_isNot : GoodIn wsX10_couldTake wsX10_isNot := goodIn_r _ [25, 1, 46, 47] (by decide +kernel) (by decide +kernel)
set_option maxRecDepth 20000 in
theorem gX10_couldTake_X10_isNot : GoodIn wsX10_couldTake (wsV RX10 73 RX10 yX10_isNot wsX10_isNot) := goodIn_app (goodIn_of _ (by decide +kernel)) ggX10_couldTake_X10_isNot
set_option maxRecDepth 20000 in
theorem ggX10_rate_X10_isBoth : GoodIn wsX10_rate wsX10_isBoth := goodIn_r _ [7, 8, 9, 10, 6, 11, 2, 12, 13, 14, 15, 16, 17, 18, 19, 20, 41, 42, 43, 44, 45, 46, 47, 48, 49, 50, 51, 52, 53, 54, 55, 56, 57, 58, 59, 60, 61, 62, 63, 64, 65, 66, 67, 68, 69, 70, 71, 72, 73, 74, 75, 76, 77, 78] (by decide +kernel) (by decide +kernel)
set_option maxRecDepth 20000 in
theorem gX10_rate_X10_isBoth : GoodIn wsX10_rate (wsV RX10 69 RX10 yX10_isBoth wsX10_isBoth) := goodIn_app (goodIn_of _ (by decide +kernel)) ggX10_rate_X10_isBoth
set_option maxRecDepth 20000 in
theorem ggX10_rate_X10_no : GoodIn wsX10_rate wsX10_no := goodIn_r _ [24, 1, 41, 42] (by decide +kernel) (by decide +kernel)
set_option maxRecDepth 20000 in
theorem gX10_rate_X10_no : GoodIn wsX10_rate (wsV RX10 43 RX10 yX10_no wsX10_no) := goodIn_app (goodIn_of _ (by decide +kernel)) ggX10_rate_X10_no
set_option maxRecDepth 20000 in
theorem ggX10_pointFor_X10_isBoth : GoodIn wsX10_pointFor wsX10_isBoth := goodIn_r _ [12, 13, 14, 15, 11, 16, 2, 17, 18, 19, 20, 21, 22, 23, 24, 25, 41, 42, 43, 44, 45, 46, 47, 48, 49, 50, 51, 52, 53, 54, 55, 56, 57, 58, 59, 60, 61, 62, 63, 64, 65, 66, 67, 68, 69, 70, 71, 72, 73, 74, 75, 76, 77, 78] (by decide +kernel) (by decide +kernel)
set_option maxRecDepth 20000 in
theorem gX10_pointFor_X10_isBoth : GoodIn wsX10_pointFor (wsV RX10 69 RX10 yX10_isBoth wsX10_isBoth) := goodIn_app (goodIn_of _ (by decide +kernel)) ggX10_pointFor_X10_isBoth
set_option maxRecDepth 20000 in
theorem ggX10_pointFor_X10_no : GoodIn wsX10_pointFor wsX10_no := goodIn_r _ [29, 1, 41, 42] (by decide +kernel) (by decide +kernel)
set_option maxRecDepth 20000 in
theorem gX10_pointFor_X10_no : GoodIn wsX10_pointFor (wsV RX10 43 RX10 yX10_no wsX10_no) := goodIn_app (goodIn_of _ (by decide +kernel)) ggX10_pointFor_X10_no
set_option maxRecDepth 20000 in
theorem ggX10_classOf_X10_isItem : GoodIn wsX10_classOf wsX10_isItem := goodIn_r _ [7, 2, 8, 9, 10, 6, 11, 26, 27, 28, 29, 30, 31, 32, 33, 34, 35, 36, 37, 38, 39, 40, 41, 42, 43, 44, 45, 46, 47, 48, 49, 50, 51, 52, 53, 54, 55, 56, 57, 58, 59, 60, 61, 62, 63] (by decide +kernel) (by decide +kernel)
set_option maxRecDepth 20000 in
theorem gX10_classOf_X10_isItem : GoodIn wsX10_classOf (wsV RX10 36 RX10 yX10_isItem wsX10_isItem) := goodIn_app (goodIn_of _ (by decide +kernel)) ggX10_classOf_X10_isItem
set_option maxRecDepth 20000 in
theorem ggX10_classOf_X10_no : GoodIn wsX10_classOf wsX10_no := goodIn_r _ [25, 1, 26, 27] (by decide +kernel) (by decide +kernel)
set_option maxRecDepth 20000 in
theorem gX10_classOf_X10_no : GoodIn wsX10_classOf (wsV RX10 43 RX10 yX10_no wsX10_no) := goodIn_app (goodIn_of _ (by decide +kernel)) ggX10_classOf_X10_no
set_option maxRecDepth 20000 in
theorem ggX10_lacks_X10_isBoth : GoodIn wsX10_lacks wsX10_isBoth := goodIn_r _ [7, 8, 9, 10, 6, 11, 2, 12, 13, 14, 15, 16, 17, 18, 19, 20, 66, 67, 68, 69, 70, 71, 72, 73, 74, 75, 76, 77, 78, 79, 80, 81, 82, 83, 84, 85, 86, 87, 88, 89, 90, 91, 92, 93, 94, 95, 96, 97, 98, 99, 100, 101, 102, 103] (by decide +kernel) (by decide +kernel)
set_option maxRecDepth 20000 in
theorem gX10_lacks_X10_isBoth : GoodIn wsX10_lacks (wsV RX10 69 RX10 yX10_isBoth wsX10_isBoth) := goodIn_app (goodIn_of _ (by decide +kernel)) ggX10_lacks_X10_isBoth
set_option maxRecDepth 20000 in
theorem ggX10_lacks_X10_no : GoodIn wsX10_lacks wsX10_no := goodIn_r _ [65, 1, 66, 67] (by decide +kernel) (by decide +kernel)
set_option maxRecDepth 20000 in
theorem gX10_lacks_X10_no : GoodIn wsX10_lacks (wsV RX10 43 RX10 yX10_no wsX10_no) := goodIn_app (goodIn_of _ (by decide +kernel)) ggX10_lacks_X10_no
set_option maxRecDepth 20000 in
theorem ggX10_spares_X10_isBoth : GoodIn wsX10_spares wsX10_isBoth := goodIn_r _ [7, 8, 9, 10, 6, 11, 2, 12, 13, 14, 15, 16, 17, 18, 19, 20, 83, 84, 85, 86, 87, 88, 89, 90, 91, 92, 93, 94, 95, 96, 97, 98, 99, 100, 101, 102, 103, 104, 105, 106, 107, 108, 109, 110, 111, 112, 113, 114, 115, 116, 117, 118, 119, 120] (by decide +kernel) (by decide +kernel)
set_option maxRecDepth 20000 in
theorem gX10_spares_X10_isBoth : GoodIn wsX10_spares (wsV RX10 69 RX10 yX10_isBoth wsX10_isBoth) := goodIn_app (goodIn_of _ (by decide +kernel)) ggX10_spares_X10_isBoth
set_option maxRecDepth 20000 in
theorem ggX10_spares_X10_no : GoodIn wsX10_spares wsX10_no := goodIn_r _ [82, 1, 83, 84] (by decide +kernel) (by decide +kernel)
set_option maxRecDepth 20000 in
theorem gX10_spares_X10_no : GoodIn wsX10_spares (wsV RX10 43 RX10 yX10_no wsX10_no) := goodIn_app (goodIn_of _ (by decide +kernel)) ggX10_spares_X10_no
set_option maxRecDepth 20000 in
theorem ggX10_planned_X10_isBoth : GoodIn wsX10_planned wsX10_isBoth := goodIn_r _ [7, 8, 9, 10, 6, 11, 2, 12, 13, 14, 15, 16, 17, 18, 19, 20, 111, 112, 113, 114, 115, 116, 117, 118, 119, 120, 121, 122, 123, 124, 125, 126, 127, 128, 129, 130, 131, 132, 133, 134, 135, 136, 137, 138, 139, 140, 141, 142, 143, 144, 145, 146, 147, 148] (by decide +kernel) (by decide +kernel)
set_option maxRecDepth 20000 in
theorem gX10_planned_X10_isBoth : GoodIn wsX10_planned (wsV RX10 69 RX10 yX10_isBoth wsX10_isBoth) := goodIn_app (goodIn_of _ (by decide +kernel)) ggX10_planned_X10_isBoth
set_option maxRecDepth 20000 in
theorem ggX10_planned_X10_no : GoodIn wsX10_planned wsX10_no := goodIn_r _ [110, 1, 111, 112] (by decide +kernel) (by decide +kernel)
set_option maxRecDepth 20000 in
theorem gX10_planned_X10_no : GoodIn wsX10_planned (wsV RX10 43 RX10 yX10_no wsX10_no) := goodIn_app (goodIn_of _ (by decide +kernel)) ggX10_planned_X10_no
