/-! the law's calls -/
set_option maxRecDepth 20000 in
theorem ggL_law_X6_clear : GoodIn wsL_law wsX6_clear := goodIn_r _ [115, 21, 116, 117, 118, 48, 119, 120, 359, 360, 361, 362, 363, 364, 365, 367, 368, 369, 370, 371, 372, 373, 374, 375, 376, 384, 385] (by decide +kernel) (by decide +kernel)
set_option maxRecDepth 20000 in
theorem gL_law_X6_clear : GoodIn wsL_law (wsV RL 46 RX6 yX6_clear wsX6_clear) := goodIn_app (goodIn_of _ (by decide +kernel)) ggL_law_X6_clear
set_option maxRecDepth 20000 in
theorem ggL_law_X6_mark : GoodIn wsL_law wsX6_mark := goodIn_r _ [124, 21, 105, 106, 2, 107, 125, 126, 127, 48, 128, 120, 65, 359, 360, 361, 362, 363, 364, 365, 367, 368, 369, 370, 371, 372, 373, 374, 375, 376, 384, 385] (by decide +kernel) (by decide +kernel)
set_option maxRecDepth 20000 in
theorem gL_law_X6_mark : GoodIn wsL_law (wsV RL 50 RX6 yX6_mark wsX6_mark) := goodIn_app (goodIn_of _ (by decide +kernel)) ggL_law_X6_mark
set_option maxRecDepth 20000 in
theorem ggL_law_L_state : GoodIn wsL_law wsL_state := goodIn_r _ [131, 3, 132, 133, 134, 2, 135, 21, 136, 137, 138, 20, 139, 140, 141, 142, 143, 144, 145, 146, 147, 148, 149, 49, 150, 151, 152, 153, 154, 105, 106, 107, 155, 156, 157, 48, 158, 120, 65, 159, 160, 161, 162, 56, 55, 53, 163, 164, 165, 16, 166, 38, 39, 40, 41, 36, 167, 168, 169, 170, 171, 172, 99, 173, 174, 175, 176, 177, 178, 179, 180, 181, 182, 183, 184, 185, 186, 187, 188, 189, 190, 191, 359, 360, 361, 362, 363, 364, 365, 367, 368, 369, 370, 371, 372, 373, 374, 375, 376, 384, 385, 366] (by decide +kernel) (by decide +kernel)
set_option maxRecDepth 20000 in
theorem gL_law_L_state : GoodIn wsL_law (va_wsS RL 53 yL_state wsL_state) := goodIn_app (goodIn_of _ (by decide +kernel)) ggL_law_L_state
set_option maxRecDepth 20000 in
theorem ggL_law_X6_feed : GoodIn wsL_law wsX6_feed := goodIn_r _ [195, 27, 105, 106, 2, 107, 196, 197, 198, 26, 199, 200, 69, 359, 360, 361, 362, 363, 364, 365, 377, 378, 379, 380] (by decide +kernel) (by decide +kernel)
set_option maxRecDepth 20000 in
theorem gL_law_X6_feed : GoodIn wsL_law (wsV RL 57 RX6 yX6_feed wsX6_feed) := goodIn_app (goodIn_of _ (by decide +kernel)) ggL_law_X6_feed
set_option maxRecDepth 20000 in
theorem ggL_law_X6_read : GoodIn wsL_law wsX6_read := goodIn_r _ [204, 27, 205, 206, 207, 26, 208, 71, 209, 200, 210, 117, 118, 48, 119, 120, 211, 212, 213, 214, 215, 216, 217, 218, 69, 219, 220, 221, 222, 223, 63, 6, 64, 106, 2, 107, 224, 225, 226, 227, 228, 126, 127, 128, 65, 229, 230, 231, 232, 191, 156, 157, 158, 233, 234, 235, 236, 237, 90, 91, 92, 21, 93, 94, 95, 20, 96, 53, 54, 55, 97, 98, 99, 100, 238, 102, 103, 104, 105, 239, 122, 123, 124, 125, 240, 109, 110, 111, 241, 113, 114, 115, 116, 359, 360, 361, 362, 363, 364, 365, 377, 378, 379, 380, 384, 385, 367, 368, 369, 370, 371, 372, 373, 374, 375, 376] (by decide +kernel) (by decide +kernel)
set_option maxRecDepth 20000 in
theorem gL_law_X6_read : GoodIn wsL_law (wsV RL 60 RX6 yX6_read wsX6_read) := goodIn_app (goodIn_of _ (by decide +kernel)) ggL_law_X6_read
set_option maxRecDepth 20000 in
theorem ggL_law_L_areSame : GoodIn wsL_law wsL_areSame := goodIn_r _ [244] (by decide +kernel) (by decide +kernel)
set_option maxRecDepth 20000 in
theorem gL_law_L_areSame : GoodIn wsL_law (va_wsS RL 63 yL_areSame wsL_areSame) := goodIn_app (goodIn_of _ (by decide +kernel)) ggL_law_L_areSame
