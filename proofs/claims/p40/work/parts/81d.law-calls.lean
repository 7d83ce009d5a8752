/-! the law's calls -/
set_option maxRecDepth 20000 in
theorem ggL_law_X6_undo : GoodIn wsL_law wsX6_undo := goodIn_r _ [295, 291, 21, 22, 261, 262, 263, 20, 264, 53, 54, 144, 145, 49, 50, 51, 52, 265, 94, 95, 96, 55, 97, 98, 99, 100, 266, 267, 268, 48, 269, 65, 270, 271, 272, 273, 120, 359, 360, 361, 362, 363, 364, 365, 367, 368, 369, 370, 371, 372, 373, 374, 375, 376, 384, 385] (by decide +kernel) (by decide +kernel)
set_option maxRecDepth 20000 in
theorem gL_law_X6_undo : GoodIn wsL_law (wsV RL 84 RX6 yX6_undo wsX6_undo) := goodIn_app (goodIn_of _ (by decide +kernel)) ggL_law_X6_undo
set_option maxRecDepth 20000 in
theorem ggL_law_X6_tape : GoodIn wsL_law wsX6_tape := goodIn_r _ [299, 31, 300, 301, 30, 302, 106, 2, 107, 303, 304, 305, 306, 76, 77, 307, 5, 6, 7, 308, 63, 64, 309, 310, 311, 312, 79, 313, 314, 315, 316, 317, 318, 319, 320, 321, 322, 323, 324, 325, 326, 327, 105, 359, 360, 361, 362, 363, 364, 365, 381, 382, 383] (by decide +kernel) (by decide +kernel)
set_option maxRecDepth 20000 in
theorem gL_law_X6_tape : GoodIn wsL_law (wsV RL 87 RX6 yX6_tape wsX6_tape) := goodIn_app (goodIn_of _ (by decide +kernel)) ggL_law_X6_tape
set_option maxRecDepth 20000 in
theorem ggL_law_X6_at : GoodIn wsL_law wsX6_at := goodIn_r _ [331, 21, 152, 153, 2, 154, 105, 106, 107, 332, 333, 334, 20, 335, 56, 55, 163, 164, 165, 16, 166, 38, 39, 40, 41, 36, 359, 360, 361, 362, 363, 364, 365, 367, 368, 369, 370, 371, 372, 373, 374, 375, 376, 366] (by decide +kernel) (by decide +kernel)
set_option maxRecDepth 20000 in
theorem gL_law_X6_at : GoodIn wsL_law (wsV RL 91 RX6 yX6_at wsX6_at) := goodIn_app (goodIn_of _ (by decide +kernel)) ggL_law_X6_at
set_option maxRecDepth 20000 in
theorem ggL_law_X6_item : GoodIn wsL_law wsX6_item := goodIn_r _ [339, 31, 300, 301, 30, 302, 106, 2, 107, 340, 322, 323, 324, 76, 341, 318, 319, 320, 77, 105, 342, 310, 311, 312, 79, 313, 314, 315, 316, 317, 321, 325, 326, 327, 359, 360, 361, 362, 363, 364, 365, 381, 382, 383] (by decide +kernel) (by decide +kernel)
set_option maxRecDepth 20000 in
theorem gL_law_X6_item : GoodIn wsL_law (wsV RL 94 RX6 yX6_item wsX6_item) := goodIn_app (goodIn_of _ (by decide +kernel)) ggL_law_X6_item
set_option maxRecDepth 20000 in
theorem ggL_law_X6_judge : GoodIn wsL_law wsX6_judge := goodIn_r _ [346, 31, 21, 152, 153, 2, 154, 105, 106, 107, 300, 301, 30, 302, 340, 322, 323, 324, 76, 341, 318, 319, 320, 77, 347, 348, 349, 350, 79, 313, 314, 315, 316, 317, 332, 333, 334, 20, 335, 56, 55, 163, 164, 165, 16, 166, 38, 39, 40, 41, 36, 359, 360, 361, 362, 363, 364, 365, 381, 382, 383, 367, 368, 369, 370, 371, 372, 373, 374, 375, 376, 366] (by decide +kernel) (by decide +kernel)
set_option maxRecDepth 20000 in
theorem gL_law_X6_judge : GoodIn wsL_law (wsV RL 98 RX6 yX6_judge wsX6_judge) := goodIn_app (goodIn_of _ (by decide +kernel)) ggL_law_X6_judge
set_option maxRecDepth 20000 in
theorem ggL_law_X6_book : GoodIn wsL_law wsX6_book := goodIn_r _ [354, 21, 116, 117, 118, 48, 119, 120, 152, 153, 2, 154, 105, 106, 107, 125, 126, 127, 128, 65, 359, 360, 361, 362, 363, 364, 365, 367, 368, 369, 370, 371, 372, 373, 374, 375, 376, 384, 385] (by decide +kernel) (by decide +kernel)
set_option maxRecDepth 20000 in
theorem gL_law_X6_book : GoodIn wsL_law (wsV RL 101 RX6 yX6_book wsX6_book) := goodIn_app (goodIn_of _ (by decide +kernel)) ggL_law_X6_book
set_option maxRecDepth 20000 in
theorem ggL_law_X6_looked : GoodIn wsL_law wsX6_looked := goodIn_r _ [358, 21, 191, 156, 157, 48, 158, 120, 65, 106, 2, 107, 332, 333, 334, 20, 335, 56, 55, 163, 164, 165, 16, 166, 38, 39, 40, 41, 36, 359, 360, 361, 362, 363, 364, 365, 367, 368, 369, 370, 371, 372, 373, 374, 375, 376, 384, 385, 366] (by decide +kernel) (by decide +kernel)
set_option maxRecDepth 20000 in
theorem gL_law_X6_looked : GoodIn wsL_law (wsV RL 104 RX6 yX6_looked wsX6_looked) := goodIn_app (goodIn_of _ (by decide +kernel)) ggL_law_X6_looked
