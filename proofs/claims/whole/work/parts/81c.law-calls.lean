/-! the law's calls: their words among the law's words, by place -/
set_option maxRecDepth 20000 in
theorem ggL_law_X6_picture : GoodIn wsL_law wsX6_picture := goodIn_r _ [522, 20, 118, 119, 2, 120, 523, 273, 274, 19, 275, 276, 277, 278, 279, 280, 281, 49, 282, 283, 284, 285, 286, 287, 217, 218, 48, 219, 137, 68, 288, 289, 290, 291, 56, 55, 53, 292, 293, 294, 15, 295, 38, 39, 40, 41, 36, 296, 297, 298, 299, 300, 301, 105, 302, 303, 304, 305, 306, 307, 308, 798, 799, 800, 801, 802, 803, 804, 821, 822, 823, 824, 825, 826, 827, 828, 829, 830, 838, 839, 820] (by decide +kernel) (by decide +kernel)
set_option maxRecDepth 20000 in
theorem gL_law_X6_picture : GoodIn wsL_law (wsV RL 89 RX6 yX6_picture wsX6_picture) := goodIn_app (goodIn_of _ (by decide +kernel)) ggL_law_X6_picture
set_option maxRecDepth 20000 in
theorem ggL_law_X7_picture : GoodIn wsL_law wsX7_picture := goodIn_r _ [527, 528, 87, 126, 127, 5, 128, 331, 332, 333, 334, 335, 336, 337, 166, 167, 168, 169, 338, 339, 340, 341, 342, 343, 344, 345, 90, 320, 321, 322, 323, 324, 325, 326, 346, 347, 348, 349, 350, 351, 352, 353, 354, 355, 356, 357, 358, 359, 360, 361, 362, 363, 364, 365, 366, 367, 368, 369, 805, 806, 807, 808, 809, 810, 811, 812, 813, 814, 815, 816, 817, 818, 819] (by decide +kernel) (by decide +kernel)
set_option maxRecDepth 20000 in
theorem gL_law_X7_picture : GoodIn wsL_law (wsV RL 92 RX7 yX7_picture wsX7_picture) := goodIn_app (goodIn_of _ (by decide +kernel)) ggL_law_X7_picture
set_option maxRecDepth 20000 in
theorem ggL_law_X6_like : GoodIn wsL_law wsX6_like := goodIn_r _ [532, 284, 285, 2, 286, 118, 119, 120, 533, 534, 535, 536, 20, 382, 383, 384, 19, 385, 56, 55, 292, 293, 294, 15, 295, 38, 39, 40, 41, 36, 798, 799, 800, 801, 802, 803, 804, 821, 822, 823, 824, 825, 826, 827, 828, 829, 830, 820] (by decide +kernel) (by decide +kernel)
set_option maxRecDepth 20000 in
theorem gL_law_X6_like : GoodIn wsL_law (wsV RL 93 RX6 yX6_like wsX6_like) := goodIn_app (goodIn_of _ (by decide +kernel)) ggL_law_X6_like
set_option maxRecDepth 20000 in
theorem ggL_law_X7_like : GoodIn wsL_law wsX7_like := goodIn_r _ [540, 541, 166, 167, 5, 168, 169, 126, 127, 128, 542, 543, 544, 545, 342, 343, 344, 345, 90, 320, 321, 322, 323, 87, 324, 325, 326, 346, 347, 348, 349, 350, 805, 806, 807, 808, 809, 810, 811, 812, 813, 814, 815, 816, 817, 818, 819] (by decide +kernel) (by decide +kernel)
set_option maxRecDepth 20000 in
theorem gL_law_X7_like : GoodIn wsL_law (wsV RL 97 RX7 yX7_like wsX7_like) := goodIn_app (goodIn_of _ (by decide +kernel)) ggL_law_X7_like
set_option maxRecDepth 20000 in
theorem ggL_law_X6_scaled : GoodIn wsL_law wsX6_scaled := goodIn_r _ [549, 118, 119, 2, 120, 533, 534, 535, 536, 20, 382, 383, 384, 19, 385, 56, 55, 292, 293, 294, 15, 295, 38, 39, 40, 41, 36, 798, 799, 800, 801, 802, 803, 804, 821, 822, 823, 824, 825, 826, 827, 828, 829, 830, 820] (by decide +kernel) (by decide +kernel)
set_option maxRecDepth 20000 in
theorem gL_law_X6_scaled : GoodIn wsL_law (wsV RL 98 RX6 yX6_scaled wsX6_scaled) := goodIn_app (goodIn_of _ (by decide +kernel)) ggL_law_X6_scaled
set_option maxRecDepth 20000 in
theorem ggL_law_X7_scaled : GoodIn wsL_law wsX7_scaled := goodIn_r _ [553, 541, 554, 126, 127, 5, 128, 542, 543, 544, 545, 342, 343, 344, 345, 169, 90, 320, 321, 322, 323, 87, 324, 325, 326, 346, 347, 348, 349, 350, 805, 806, 807, 808, 809, 810, 811, 812, 813, 814, 815, 816, 817, 818, 819] (by decide +kernel) (by decide +kernel)
set_option maxRecDepth 20000 in
theorem gL_law_X7_scaled : GoodIn wsL_law (wsV RL 101 RX7 yX7_scaled wsX7_scaled) := goodIn_app (goodIn_of _ (by decide +kernel)) ggL_law_X7_scaled
set_option maxRecDepth 20000 in
theorem ggL_law_X6_see : GoodIn wsL_law wsX6_see := goodIn_r _ [558, 20, 150, 151, 152, 48, 153, 137, 394, 282, 2, 283, 284, 285, 286, 118, 119, 120, 133, 134, 135, 136, 68, 798, 799, 800, 801, 802, 803, 804, 821, 822, 823, 824, 825, 826, 827, 828, 829, 830, 838, 839] (by decide +kernel) (by decide +kernel)
set_option maxRecDepth 20000 in
theorem gL_law_X6_see : GoodIn wsL_law (wsV RL 102 RX6 yX6_see wsX6_see) := goodIn_app (goodIn_of _ (by decide +kernel)) ggL_law_X6_see
set_option maxRecDepth 20000 in
theorem ggL_law_X7_see : GoodIn wsL_law wsX7_see := goodIn_r _ [562, 87, 142, 335, 336, 5, 337, 166, 167, 168, 169, 126, 127, 128, 805, 806, 807, 808, 809, 810, 811, 812, 813, 814, 815, 816, 817, 818, 819] (by decide +kernel) (by decide +kernel)
set_option maxRecDepth 20000 in
theorem gL_law_X7_see : GoodIn wsL_law (wsV RL 105 RX7 yX7_see wsX7_see) := goodIn_app (goodIn_of _ (by decide +kernel)) ggL_law_X7_see
set_option maxRecDepth 20000 in
theorem ggL_law_X6_fits : GoodIn wsL_law wsX6_fits := goodIn_r _ [566, 567, 568, 569, 570, 2, 571, 20, 16, 572, 104, 105, 106, 216, 217, 218, 48, 219, 137, 68, 119, 120, 573, 293, 294, 15, 295, 38, 39, 40, 41, 36, 798, 799, 800, 801, 802, 803, 804, 821, 822, 823, 824, 825, 826, 827, 828, 829, 830, 838, 839, 820] (by decide +kernel) (by decide +kernel)
set_option maxRecDepth 20000 in
theorem gL_law_X6_fits : GoodIn wsL_law (wsV RL 106 RX6 yX6_fits wsX6_fits) := goodIn_app (goodIn_of _ (by decide +kernel)) ggL_law_X6_fits
set_option maxRecDepth 20000 in
theorem ggL_law_X7_fits : GoodIn wsL_law wsX7_fits := goodIn_r _ [577, 87, 90, 324, 325, 5, 326, 346, 347, 348, 349, 350, 805, 806, 807, 808, 809, 810, 811, 812, 813, 814, 815, 816, 817, 818, 819] (by decide +kernel) (by decide +kernel)
set_option maxRecDepth 20000 in
theorem gL_law_X7_fits : GoodIn wsL_law (wsV RL 109 RX7 yX7_fits wsX7_fits) := goodIn_app (goodIn_of _ (by decide +kernel)) ggL_law_X7_fits
set_option maxRecDepth 20000 in
theorem ggL_law_X6_odds : GoodIn wsL_law wsX6_odds := goodIn_r _ [581, 582, 20, 284, 285, 2, 286, 118, 119, 120, 395, 289, 290, 19, 291, 56, 55, 53, 292, 293, 294, 15, 295, 38, 39, 40, 41, 36, 296, 297, 298, 299, 300, 301, 105, 302, 303, 304, 305, 306, 307, 308, 583, 584, 585, 586, 587, 588, 798, 799, 800, 801, 802, 803, 804, 821, 822, 823, 824, 825, 826, 827, 828, 829, 830, 820] (by decide +kernel) (by decide +kernel)
set_option maxRecDepth 20000 in
theorem gL_law_X6_odds : GoodIn wsL_law (wsV RL 110 RX6 yX6_odds wsX6_odds) := goodIn_app (goodIn_of _ (by decide +kernel)) ggL_law_X6_odds
set_option maxRecDepth 20000 in
theorem ggL_law_X7_odds : GoodIn wsL_law wsX7_odds := goodIn_r _ [592, 593, 166, 167, 5, 168, 169, 126, 127, 128, 143, 144, 145, 125, 338, 339, 340, 341, 342, 343, 344, 345, 90, 320, 321, 322, 323, 87, 324, 325, 326, 346, 347, 348, 349, 350, 351, 352, 353, 354, 355, 356, 357, 358, 359, 360, 361, 362, 363, 364, 365, 366, 367, 368, 369, 594, 595, 596, 597, 598, 599, 805, 806, 807, 808, 809, 810, 811, 812, 813, 814, 815, 816, 817, 818, 819] (by decide +kernel) (by decide +kernel)
set_option maxRecDepth 20000 in
theorem gL_law_X7_odds : GoodIn wsL_law (wsV RL 114 RX7 yX7_odds wsX7_odds) := goodIn_app (goodIn_of _ (by decide +kernel)) ggL_law_X7_odds
set_option maxRecDepth 20000 in
theorem ggL_law_X6_mean : GoodIn wsL_law wsX6_mean := goodIn_r _ [603, 582, 284, 285, 2, 286, 118, 119, 120, 470, 471, 472, 473, 20, 382, 383, 384, 19, 385, 56, 55, 292, 293, 294, 15, 295, 38, 39, 40, 41, 36, 583, 584, 585, 586, 587, 105, 588, 798, 799, 800, 801, 802, 803, 804, 821, 822, 823, 824, 825, 826, 827, 828, 829, 830, 820] (by decide +kernel) (by decide +kernel)
set_option maxRecDepth 20000 in
theorem gL_law_X6_mean : GoodIn wsL_law (wsV RL 115 RX6 yX6_mean wsX6_mean) := goodIn_app (goodIn_of _ (by decide +kernel)) ggL_law_X6_mean
set_option maxRecDepth 20000 in
theorem ggL_law_X7_mean : GoodIn wsL_law wsX7_mean := goodIn_r _ [607, 593, 166, 167, 5, 168, 169, 126, 127, 128, 486, 487, 488, 489, 342, 343, 344, 345, 90, 320, 321, 322, 323, 87, 324, 325, 326, 346, 347, 348, 349, 350, 594, 595, 596, 597, 598, 599, 805, 806, 807, 808, 809, 810, 811, 812, 813, 814, 815, 816, 817, 818, 819] (by decide +kernel) (by decide +kernel)
set_option maxRecDepth 20000 in
theorem gL_law_X7_mean : GoodIn wsL_law (wsV RL 119 RX7 yX7_mean wsX7_mean) := goodIn_app (goodIn_of _ (by decide +kernel)) ggL_law_X7_mean
set_option maxRecDepth 20000 in
theorem ggL_law_X6_event : GoodIn wsL_law wsX6_event := goodIn_r _ [611, 20, 150, 151, 152, 48, 153, 137, 612, 613, 614, 2, 615, 118, 119, 120, 133, 134, 135, 136, 68, 798, 799, 800, 801, 802, 803, 804, 821, 822, 823, 824, 825, 826, 827, 828, 829, 830, 838, 839] (by decide +kernel) (by decide +kernel)
set_option maxRecDepth 20000 in
theorem gL_law_X6_event : GoodIn wsL_law (wsV RL 120 RX6 yX6_event wsX6_event) := goodIn_app (goodIn_of _ (by decide +kernel)) ggL_law_X6_event
set_option maxRecDepth 20000 in
theorem ggL_law_X7_event : GoodIn wsL_law wsX7_event := goodIn_r _ [619, 87, 484, 125, 620, 621, 126, 127, 5, 128, 805, 806, 807, 808, 809, 810, 811, 812, 813, 814, 815, 816, 817, 818, 819] (by decide +kernel) (by decide +kernel)
set_option maxRecDepth 20000 in
theorem gL_law_X7_event : GoodIn wsL_law (wsV RL 123 RX7 yX7_event wsX7_event) := goodIn_app (goodIn_of _ (by decide +kernel)) ggL_law_X7_event
set_option maxRecDepth 20000 in
theorem ggL_law_X6_after : GoodIn wsL_law wsX6_after := goodIn_r _ [625, 22, 20, 118, 119, 2, 120, 626, 627, 628, 19, 629, 53, 54, 276, 277, 49, 50, 51, 52, 630, 100, 101, 102, 55, 103, 104, 105, 106, 631, 632, 633, 48, 634, 68, 635, 636, 637, 638, 137, 216, 217, 218, 219, 639, 640, 641, 642, 643, 62, 63, 64, 644, 645, 646, 647, 648, 649, 650, 651, 268, 269, 270, 271, 272, 273, 274, 275, 278, 279, 280, 281, 282, 283, 284, 285, 286, 287, 288, 289, 290, 291, 56, 292, 293, 294, 15, 295, 38, 39, 40, 41, 36, 296, 297, 298, 299, 300, 301, 302, 303, 304, 305, 306, 307, 308, 309, 310, 311, 312, 313, 314, 315, 798, 799, 800, 801, 802, 803, 804, 821, 822, 823, 824, 825, 826, 827, 828, 829, 830, 838, 839, 820] (by decide +kernel) (by decide +kernel)
set_option maxRecDepth 20000 in
theorem gL_law_X6_after : GoodIn wsL_law (wsV RL 124 RX6 yX6_after wsX6_after) := goodIn_app (goodIn_of _ (by decide +kernel)) ggL_law_X6_after
set_option maxRecDepth 20000 in
theorem ggL_law_X7_after : GoodIn wsL_law wsX7_after := goodIn_r _ [655, 518, 87, 89, 126, 127, 5, 128, 656, 657, 658, 659, 660, 661, 662, 663, 62, 63, 64, 327, 328, 329, 330, 331, 332, 333, 334, 335, 336, 337, 166, 167, 168, 169, 338, 339, 340, 341, 342, 343, 344, 345, 90, 320, 321, 322, 323, 324, 325, 326, 346, 347, 348, 349, 350, 351, 352, 353, 354, 355, 356, 357, 358, 359, 360, 361, 362, 363, 364, 365, 366, 367, 368, 369, 805, 806, 807, 808, 809, 810, 811, 812, 813, 814, 815, 816, 817, 818, 819] (by decide +kernel) (by decide +kernel)
set_option maxRecDepth 20000 in
theorem gL_law_X7_after : GoodIn wsL_law (wsV RL 127 RX7 yX7_after wsX7_after) := goodIn_app (goodIn_of _ (by decide +kernel)) ggL_law_X7_after
set_option maxRecDepth 20000 in
theorem ggL_law_X6_book : GoodIn wsL_law wsX6_book := goodIn_r _ [667, 20, 150, 151, 152, 48, 153, 137, 284, 285, 2, 286, 118, 119, 120, 133, 134, 135, 136, 68, 798, 799, 800, 801, 802, 803, 804, 821, 822, 823, 824, 825, 826, 827, 828, 829, 830, 838, 839] (by decide +kernel) (by decide +kernel)
set_option maxRecDepth 20000 in
theorem gL_law_X6_book : GoodIn wsL_law (wsV RL 128 RX6 yX6_book wsX6_book) := goodIn_app (goodIn_of _ (by decide +kernel)) ggL_law_X6_book
