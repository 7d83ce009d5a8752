/-! the law's calls -/
set_option maxRecDepth 20000 in
theorem ggL_law_X6_count : GoodIn wsL_law wsX6_count := goodIn_r _ [248, 21, 27, 359, 360, 361, 362, 363, 364, 365, 367, 368, 369, 370, 371, 372, 373, 374, 375, 376, 384, 385, 377, 378, 379, 380] (by decide +kernel) (by decide +kernel)
set_option maxRecDepth 20000 in
theorem gL_law_X6_count : GoodIn wsL_law (wsV RL 67 RX6 yX6_count wsX6_count) := goodIn_app (goodIn_of _ (by decide +kernel)) ggL_law_X6_count
set_option maxRecDepth 20000 in
theorem ggL_law_X6_event : GoodIn wsL_law wsX6_event := goodIn_r _ [252, 21, 116, 117, 118, 48, 119, 120, 253, 254, 255, 2, 256, 105, 106, 107, 125, 126, 127, 128, 65, 359, 360, 361, 362, 363, 364, 365, 367, 368, 369, 370, 371, 372, 373, 374, 375, 376, 384, 385] (by decide +kernel) (by decide +kernel)
set_option maxRecDepth 20000 in
theorem gL_law_X6_event : GoodIn wsL_law (wsV RL 70 RX6 yX6_event wsX6_event) := goodIn_app (goodIn_of _ (by decide +kernel)) ggL_law_X6_event
set_option maxRecDepth 20000 in
theorem ggL_law_X6_after : GoodIn wsL_law wsX6_after := goodIn_r _ [260, 23, 21, 105, 106, 2, 107, 261, 262, 263, 20, 264, 53, 54, 144, 145, 49, 50, 51, 52, 265, 94, 95, 96, 55, 97, 98, 99, 100, 266, 267, 268, 48, 269, 65, 270, 271, 272, 273, 120, 191, 156, 157, 158, 274, 275, 276, 277, 278, 5, 6, 7, 279, 280, 281, 282, 283, 284, 285, 286, 136, 137, 138, 139, 140, 141, 142, 143, 146, 147, 148, 149, 150, 151, 152, 153, 154, 155, 159, 160, 161, 162, 56, 163, 164, 165, 16, 166, 38, 39, 40, 41, 36, 167, 168, 169, 170, 171, 172, 173, 174, 175, 176, 177, 178, 179, 180, 181, 182, 183, 184, 185, 186, 359, 360, 361, 362, 363, 364, 365, 367, 368, 369, 370, 371, 372, 373, 374, 375, 376, 384, 385, 366] (by decide +kernel) (by decide +kernel)
set_option maxRecDepth 20000 in
theorem gL_law_X6_after : GoodIn wsL_law (wsV RL 73 RX6 yX6_after wsX6_after) := goodIn_app (goodIn_of _ (by decide +kernel)) ggL_law_X6_after
set_option maxRecDepth 20000 in
theorem ggL_law_X6_image : GoodIn wsL_law wsX6_image := goodIn_r _ [290, 22, 21, 291, 261, 262, 263, 20, 264, 53, 54, 144, 145, 49, 50, 51, 52, 265, 94, 95, 96, 55, 97, 98, 99, 100, 266, 267, 268, 48, 269, 65, 270, 271, 272, 273, 120, 359, 360, 361, 362, 363, 364, 365, 367, 368, 369, 370, 371, 372, 373, 374, 375, 376, 384, 385] (by decide +kernel) (by decide +kernel)
set_option maxRecDepth 20000 in
theorem gL_law_X6_image : GoodIn wsL_law (wsV RL 76 RX6 yX6_image wsX6_image) := goodIn_app (goodIn_of _ (by decide +kernel)) ggL_law_X6_image
set_option maxRecDepth 20000 in
theorem ggL_law_X6_told : GoodIn wsL_law wsX6_told := goodIn_r _ [135, 21, 136, 137, 138, 20, 139, 140, 141, 142, 143, 144, 145, 146, 147, 148, 149, 49, 150, 2, 151, 152, 153, 154, 105, 106, 107, 155, 156, 157, 48, 158, 120, 65, 159, 160, 161, 162, 56, 55, 53, 163, 164, 165, 16, 166, 38, 39, 40, 41, 36, 167, 168, 169, 170, 171, 172, 99, 173, 174, 175, 176, 177, 178, 179, 180, 181, 182, 183, 184, 185, 186, 359, 360, 361, 362, 363, 364, 365, 367, 368, 369, 370, 371, 372, 373, 374, 375, 376, 384, 385, 366] (by decide +kernel) (by decide +kernel)
set_option maxRecDepth 20000 in
theorem gL_law_X6_told : GoodIn wsL_law (wsV RL 32 RX6 yX6_told wsX6_told) := goodIn_app (goodIn_of _ (by decide +kernel)) ggL_law_X6_told
set_option maxRecDepth 20000 in
theorem ggL_law_X6_markOf : GoodIn wsL_law wsX6_markOf := goodIn_r _ [190, 21, 105, 106, 2, 107, 191, 156, 157, 48, 158, 120, 65, 359, 360, 361, 362, 363, 364, 365, 367, 368, 369, 370, 371, 372, 373, 374, 375, 376, 384, 385] (by decide +kernel) (by decide +kernel)
set_option maxRecDepth 20000 in
theorem gL_law_X6_markOf : GoodIn wsL_law (wsV RL 35 RX6 yX6_markOf wsX6_markOf) := goodIn_app (goodIn_of _ (by decide +kernel)) ggL_law_X6_markOf
