/-! the law's calls: their words among the law's words, by place -/
set_option maxRecDepth 20000 in
theorem ggL_law_X7_markOf : GoodIn wsL_law wsX7_markOf := goodIn_r _ [377, 87, 126, 127, 5, 128, 805, 806, 807, 808, 809, 810, 811, 812, 813, 814, 815, 816, 817, 818, 819] (by decide +kernel) (by decide +kernel)
set_option maxRecDepth 20000 in
theorem gL_law_X7_markOf : GoodIn wsL_law (wsV RL 51 RX7 yX7_markOf wsX7_markOf) := goodIn_app (goodIn_of _ (by decide +kernel)) ggL_law_X7_markOf
set_option maxRecDepth 20000 in
theorem ggL_law_X6_at : GoodIn wsL_law wsX6_at := goodIn_r _ [381, 20, 284, 285, 2, 286, 118, 119, 120, 382, 383, 384, 19, 385, 56, 55, 292, 293, 294, 15, 295, 38, 39, 40, 41, 36, 798, 799, 800, 801, 802, 803, 804, 821, 822, 823, 824, 825, 826, 827, 828, 829, 830, 820] (by decide +kernel) (by decide +kernel)
set_option maxRecDepth 20000 in
theorem gL_law_X6_at : GoodIn wsL_law (wsV RL 52 RX6 yX6_at wsX6_at) := goodIn_app (goodIn_of _ (by decide +kernel)) ggL_law_X6_at
set_option maxRecDepth 20000 in
theorem ggL_law_X7_at : GoodIn wsL_law wsX7_at := goodIn_r _ [389, 166, 167, 5, 168, 169, 126, 127, 128, 342, 343, 344, 345, 90, 320, 321, 322, 323, 87, 324, 325, 326, 346, 347, 348, 349, 350, 805, 806, 807, 808, 809, 810, 811, 812, 813, 814, 815, 816, 817, 818, 819] (by decide +kernel) (by decide +kernel)
set_option maxRecDepth 20000 in
theorem gL_law_X7_at : GoodIn wsL_law (wsV RL 55 RX7 yX7_at wsX7_at) := goodIn_app (goodIn_of _ (by decide +kernel)) ggL_law_X7_at
set_option maxRecDepth 20000 in
theorem ggL_law_X6_rule : GoodIn wsL_law wsX6_rule := goodIn_r _ [393, 20, 118, 119, 2, 120, 394, 282, 283, 284, 285, 286, 395, 289, 290, 19, 291, 56, 55, 53, 292, 293, 294, 15, 295, 38, 39, 40, 41, 36, 296, 297, 298, 299, 300, 301, 105, 302, 303, 304, 305, 306, 307, 308, 798, 799, 800, 801, 802, 803, 804, 821, 822, 823, 824, 825, 826, 827, 828, 829, 830, 820] (by decide +kernel) (by decide +kernel)
set_option maxRecDepth 20000 in
theorem gL_law_X6_rule : GoodIn wsL_law (wsV RL 56 RX6 yX6_rule wsX6_rule) := goodIn_app (goodIn_of _ (by decide +kernel)) ggL_law_X6_rule
set_option maxRecDepth 20000 in
theorem ggL_law_X7_rule : GoodIn wsL_law wsX7_rule := goodIn_r _ [399, 143, 144, 5, 145, 125, 126, 127, 128, 335, 336, 337, 166, 167, 168, 169, 338, 339, 340, 341, 342, 343, 344, 345, 90, 320, 321, 322, 323, 87, 324, 325, 326, 346, 347, 348, 349, 350, 351, 352, 353, 354, 355, 356, 357, 358, 359, 360, 361, 362, 363, 364, 365, 366, 367, 368, 369, 805, 806, 807, 808, 809, 810, 811, 812, 813, 814, 815, 816, 817, 818, 819] (by decide +kernel) (by decide +kernel)
set_option maxRecDepth 20000 in
theorem gL_law_X7_rule : GoodIn wsL_law (wsV RL 60 RX7 yX7_rule wsX7_rule) := goodIn_app (goodIn_of _ (by decide +kernel)) ggL_law_X7_rule
set_option maxRecDepth 20000 in
theorem ggL_law_X6_marked : GoodIn wsL_law wsX6_marked := goodIn_r _ [403, 20, 394, 282, 2, 283, 284, 285, 286, 118, 119, 120, 404, 279, 280, 19, 281, 49, 287, 217, 218, 48, 219, 137, 68, 288, 289, 290, 291, 56, 55, 53, 292, 293, 294, 15, 295, 38, 39, 40, 41, 36, 296, 297, 298, 299, 300, 301, 105, 302, 303, 304, 305, 306, 307, 308, 798, 799, 800, 801, 802, 803, 804, 821, 822, 823, 824, 825, 826, 827, 828, 829, 830, 838, 839, 820] (by decide +kernel) (by decide +kernel)
set_option maxRecDepth 20000 in
theorem gL_law_X6_marked : GoodIn wsL_law (wsV RL 61 RX6 yX6_marked wsX6_marked) := goodIn_app (goodIn_of _ (by decide +kernel)) ggL_law_X6_marked
set_option maxRecDepth 20000 in
theorem ggL_law_X7_marked : GoodIn wsL_law wsX7_marked := goodIn_r _ [408, 335, 336, 5, 337, 166, 167, 168, 169, 126, 127, 128, 331, 332, 333, 334, 87, 338, 339, 340, 341, 342, 343, 344, 345, 90, 320, 321, 322, 323, 324, 325, 326, 346, 347, 348, 349, 350, 351, 352, 353, 354, 355, 356, 357, 358, 359, 360, 361, 362, 363, 364, 365, 366, 367, 368, 369, 805, 806, 807, 808, 809, 810, 811, 812, 813, 814, 815, 816, 817, 818, 819] (by decide +kernel) (by decide +kernel)
set_option maxRecDepth 20000 in
theorem gL_law_X7_marked : GoodIn wsL_law (wsV RL 64 RX7 yX7_marked wsX7_marked) := goodIn_app (goodIn_of _ (by decide +kernel)) ggL_law_X7_marked
set_option maxRecDepth 20000 in
theorem ggL_law_X6_digit : GoodIn wsL_law wsX6_digit := goodIn_r _ [412, 20, 118, 119, 2, 120, 413, 414, 105, 415, 416, 417, 418, 798, 799, 800, 801, 802, 803, 804, 821, 822, 823, 824, 825, 826, 827, 828, 829, 830] (by decide +kernel) (by decide +kernel)
set_option maxRecDepth 20000 in
theorem gL_law_X6_digit : GoodIn wsL_law (wsV RL 65 RX6 yX6_digit wsX6_digit) := goodIn_app (goodIn_of _ (by decide +kernel)) ggL_law_X6_digit
set_option maxRecDepth 20000 in
theorem ggL_law_X7_digit : GoodIn wsL_law wsX7_digit := goodIn_r _ [422, 423, 87, 126, 127, 5, 128, 805, 806, 807, 808, 809, 810, 811, 812, 813, 814, 815, 816, 817, 818, 819] (by decide +kernel) (by decide +kernel)
set_option maxRecDepth 20000 in
theorem gL_law_X7_digit : GoodIn wsL_law (wsV RL 68 RX7 yX7_digit wsX7_digit) := goodIn_app (goodIn_of _ (by decide +kernel)) ggL_law_X7_digit
set_option maxRecDepth 20000 in
theorem ggL_law_X6_pure : GoodIn wsL_law wsX6_pure := goodIn_r _ [427, 20, 118, 119, 2, 120, 428, 429, 105, 430, 431, 432, 433, 798, 799, 800, 801, 802, 803, 804, 821, 822, 823, 824, 825, 826, 827, 828, 829, 830] (by decide +kernel) (by decide +kernel)
set_option maxRecDepth 20000 in
theorem gL_law_X6_pure : GoodIn wsL_law (wsV RL 69 RX6 yX6_pure wsX6_pure) := goodIn_app (goodIn_of _ (by decide +kernel)) ggL_law_X6_pure
set_option maxRecDepth 20000 in
theorem ggL_law_X7_pure : GoodIn wsL_law wsX7_pure := goodIn_r _ [437, 423, 87, 126, 127, 5, 128, 805, 806, 807, 808, 809, 810, 811, 812, 813, 814, 815, 816, 817, 818, 819] (by decide +kernel) (by decide +kernel)
set_option maxRecDepth 20000 in
theorem gL_law_X7_pure : GoodIn wsL_law (wsV RL 72 RX7 yX7_pure wsX7_pure) := goodIn_app (goodIn_of _ (by decide +kernel)) ggL_law_X7_pure
set_option maxRecDepth 20000 in
theorem ggL_law_X6_counted : GoodIn wsL_law wsX6_counted := goodIn_r _ [441, 284, 285, 2, 286, 118, 119, 120, 442, 443, 444, 445, 20, 382, 383, 384, 19, 385, 56, 55, 292, 293, 294, 15, 295, 38, 39, 40, 41, 36, 798, 799, 800, 801, 802, 803, 804, 821, 822, 823, 824, 825, 826, 827, 828, 829, 830, 820] (by decide +kernel) (by decide +kernel)
set_option maxRecDepth 20000 in
theorem gL_law_X6_counted : GoodIn wsL_law (wsV RL 73 RX6 yX6_counted wsX6_counted) := goodIn_app (goodIn_of _ (by decide +kernel)) ggL_law_X6_counted
set_option maxRecDepth 20000 in
theorem ggL_law_X7_counted : GoodIn wsL_law wsX7_counted := goodIn_r _ [449, 166, 167, 5, 168, 169, 126, 127, 128, 450, 451, 452, 453, 342, 343, 344, 345, 90, 320, 321, 322, 323, 87, 324, 325, 326, 346, 347, 348, 349, 350, 805, 806, 807, 808, 809, 810, 811, 812, 813, 814, 815, 816, 817, 818, 819] (by decide +kernel) (by decide +kernel)
set_option maxRecDepth 20000 in
theorem gL_law_X7_counted : GoodIn wsL_law (wsV RL 76 RX7 yX7_counted wsX7_counted) := goodIn_app (goodIn_of _ (by decide +kernel)) ggL_law_X7_counted
set_option maxRecDepth 20000 in
theorem ggL_law_X6_row : GoodIn wsL_law wsX6_row := goodIn_r _ [457, 284, 285, 2, 286, 118, 119, 120, 458, 459, 460, 461, 462, 463, 464, 465, 20, 382, 383, 384, 19, 385, 56, 55, 292, 293, 294, 15, 295, 38, 39, 40, 41, 36, 466, 467, 468, 469, 442, 443, 444, 445, 470, 471, 472, 473, 474, 475, 476, 477, 478, 66, 63, 67, 479, 301, 105, 302, 798, 799, 800, 801, 802, 803, 804, 821, 822, 823, 824, 825, 826, 827, 828, 829, 830, 820] (by decide +kernel) (by decide +kernel)
set_option maxRecDepth 20000 in
theorem gL_law_X6_row : GoodIn wsL_law (wsV RL 77 RX6 yX6_row wsX6_row) := goodIn_app (goodIn_of _ (by decide +kernel)) ggL_law_X6_row
set_option maxRecDepth 20000 in
theorem ggL_law_X7_row : GoodIn wsL_law wsX7_row := goodIn_r _ [483, 484, 485, 66, 63, 67, 166, 167, 5, 168, 169, 126, 127, 128, 486, 487, 488, 489, 342, 343, 344, 345, 90, 320, 321, 322, 323, 87, 324, 325, 326, 346, 347, 348, 349, 350, 450, 451, 452, 453, 358, 359, 360, 361, 805, 806, 807, 808, 809, 810, 811, 812, 813, 814, 815, 816, 817, 818, 819] (by decide +kernel) (by decide +kernel)
set_option maxRecDepth 20000 in
theorem gL_law_X7_row : GoodIn wsL_law (wsV RL 80 RX7 yX7_row wsX7_row) := goodIn_app (goodIn_of _ (by decide +kernel)) ggL_law_X7_row
set_option maxRecDepth 20000 in
theorem ggL_law_X6_kind : GoodIn wsL_law wsX6_kind := goodIn_r _ [493, 284, 285, 2, 286, 118, 119, 120, 462, 463, 464, 465, 20, 382, 383, 384, 19, 385, 56, 55, 292, 293, 294, 15, 295, 38, 39, 40, 41, 36, 798, 799, 800, 801, 802, 803, 804, 821, 822, 823, 824, 825, 826, 827, 828, 829, 830, 820] (by decide +kernel) (by decide +kernel)
set_option maxRecDepth 20000 in
theorem gL_law_X6_kind : GoodIn wsL_law (wsV RL 81 RX6 yX6_kind wsX6_kind) := goodIn_app (goodIn_of _ (by decide +kernel)) ggL_law_X6_kind
set_option maxRecDepth 20000 in
theorem ggL_law_X7_kind : GoodIn wsL_law wsX7_kind := goodIn_r _ [497, 166, 167, 5, 168, 169, 126, 127, 128, 320, 321, 322, 323, 87, 324, 325, 326, 450, 451, 452, 453, 342, 343, 344, 345, 90, 346, 347, 348, 349, 350, 805, 806, 807, 808, 809, 810, 811, 812, 813, 814, 815, 816, 817, 818, 819] (by decide +kernel) (by decide +kernel)
set_option maxRecDepth 20000 in
theorem gL_law_X7_kind : GoodIn wsL_law (wsV RL 84 RX7 yX7_kind wsX7_kind) := goodIn_app (goodIn_of _ (by decide +kernel)) ggL_law_X7_kind
set_option maxRecDepth 20000 in
theorem ggL_law_X6_upTo : GoodIn wsL_law wsX6_upTo := goodIn_r _ [501, 284, 285, 2, 286, 118, 119, 120, 502, 503, 504, 505, 442, 443, 444, 445, 20, 382, 383, 384, 19, 385, 56, 55, 292, 293, 294, 15, 295, 38, 39, 40, 41, 36, 506, 507, 508, 509, 510, 511, 512, 513, 798, 799, 800, 801, 802, 803, 804, 821, 822, 823, 824, 825, 826, 827, 828, 829, 830, 820] (by decide +kernel) (by decide +kernel)
set_option maxRecDepth 20000 in
theorem gL_law_X6_upTo : GoodIn wsL_law (wsV RL 85 RX6 yX6_upTo wsX6_upTo) := goodIn_app (goodIn_of _ (by decide +kernel)) ggL_law_X6_upTo
set_option maxRecDepth 20000 in
theorem ggL_law_X7_upTo : GoodIn wsL_law wsX7_upTo := goodIn_r _ [517, 518, 166, 167, 5, 168, 169, 126, 127, 128, 450, 451, 452, 453, 342, 343, 344, 345, 90, 320, 321, 322, 323, 87, 324, 325, 326, 346, 347, 348, 349, 350, 805, 806, 807, 808, 809, 810, 811, 812, 813, 814, 815, 816, 817, 818, 819] (by decide +kernel) (by decide +kernel)
set_option maxRecDepth 20000 in
theorem gL_law_X7_upTo : GoodIn wsL_law (wsV RL 88 RX7 yX7_upTo wsX7_upTo) := goodIn_app (goodIn_of _ (by decide +kernel)) ggL_law_X7_upTo
