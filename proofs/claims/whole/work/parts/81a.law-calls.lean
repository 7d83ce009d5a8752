/-! the law's calls: their words among the law's words, by place -/
set_option maxRecDepth 20000 in
theorem ggL_law_X6_init : GoodIn wsL_law wsX6_init := goodIn_r _ [9, 10, 11, 12, 13, 14, 15, 16, 17, 18, 19, 20, 21, 22, 23, 24, 25, 26, 27, 28, 29, 30, 31, 32, 33, 34, 35, 36, 37, 38, 39, 40, 41, 42, 43, 44, 45, 46, 47, 48, 49, 50, 51, 52, 53, 54, 55, 56, 57, 58, 59, 60, 61, 62, 63, 64, 65, 66, 67, 68, 69, 70, 71, 72, 73, 74, 75, 76, 77, 78, 79, 80, 81, 82, 820, 798, 799, 800, 801, 802, 803, 804, 821, 822, 823, 824, 825, 826, 827, 828, 829, 830, 831, 832, 833, 834, 835, 836, 837, 838, 839] (by decide +kernel) (by decide +kernel)
set_option maxRecDepth 20000 in
theorem gL_law_X6_init : GoodIn wsL_law (wsX6_init) := ggL_law_X6_init
set_option maxRecDepth 20000 in
theorem ggL_law_X7_init : GoodIn wsL_law wsX7_init := goodIn_r _ [85, 86, 11, 12, 35, 87, 88, 89, 90, 91, 92, 93, 81, 94, 805, 806, 807, 808, 809, 810, 811, 812, 813, 814, 815, 816, 817, 818, 819] (by decide +kernel) (by decide +kernel)
set_option maxRecDepth 20000 in
theorem gL_law_X7_init : GoodIn wsL_law (wsX7_init) := ggL_law_X7_init
set_option maxRecDepth 20000 in
theorem ggL_law_X6_prime : GoodIn wsL_law wsX6_prime := goodIn_r _ [98, 20, 99, 100, 101, 19, 102, 53, 54, 55, 103, 104, 105, 106, 798, 799, 800, 801, 802, 803, 804, 821, 822, 823, 824, 825, 826, 827, 828, 829, 830] (by decide +kernel) (by decide +kernel)
set_option maxRecDepth 20000 in
theorem gL_law_X6_prime : GoodIn wsL_law (wsV RL 13 RX6 yX6_prime wsX6_prime) := goodIn_app (goodIn_of _ (by decide +kernel)) ggL_law_X6_prime
set_option maxRecDepth 20000 in
theorem ggL_law_X7_prime : GoodIn wsL_law wsX7_prime := goodIn_r _ [110, 87, 111, 112, 5, 113, 805, 806, 807, 808, 809, 810, 811, 812, 813, 814, 815, 816, 817, 818, 819] (by decide +kernel) (by decide +kernel)
set_option maxRecDepth 20000 in
theorem gL_law_X7_prime : GoodIn wsL_law (wsV RL 17 RX7 yX7_prime wsX7_prime) := goodIn_app (goodIn_of _ (by decide +kernel)) ggL_law_X7_prime
set_option maxRecDepth 20000 in
theorem ggL_law_X6_power : GoodIn wsL_law wsX6_power := goodIn_r _ [117, 20, 118, 119, 2, 120, 99, 100, 101, 19, 102, 53, 54, 55, 103, 104, 105, 106, 798, 799, 800, 801, 802, 803, 804, 821, 822, 823, 824, 825, 826, 827, 828, 829, 830] (by decide +kernel) (by decide +kernel)
set_option maxRecDepth 20000 in
theorem gL_law_X6_power : GoodIn wsL_law (wsV RL 18 RX6 yX6_power wsX6_power) := goodIn_app (goodIn_of _ (by decide +kernel)) ggL_law_X6_power
set_option maxRecDepth 20000 in
theorem ggL_law_X7_power_ : GoodIn wsL_law wsX7_power_ := goodIn_r _ [124, 125, 87, 126, 127, 5, 128, 805, 806, 807, 808, 809, 810, 811, 812, 813, 814, 815, 816, 817, 818, 819] (by decide +kernel) (by decide +kernel)
set_option maxRecDepth 20000 in
theorem gL_law_X7_power_ : GoodIn wsL_law (wsV RL 21 RX7 yX7_power_ wsX7_power_) := goodIn_app (goodIn_of _ (by decide +kernel)) ggL_law_X7_power_
set_option maxRecDepth 20000 in
theorem ggL_law_X6_mark : GoodIn wsL_law wsX6_mark := goodIn_r _ [132, 20, 118, 119, 2, 120, 133, 134, 135, 48, 136, 137, 68, 798, 799, 800, 801, 802, 803, 804, 821, 822, 823, 824, 825, 826, 827, 828, 829, 830, 838, 839] (by decide +kernel) (by decide +kernel)
set_option maxRecDepth 20000 in
theorem gL_law_X6_mark : GoodIn wsL_law (wsV RL 22 RX6 yX6_mark wsX6_mark) := goodIn_app (goodIn_of _ (by decide +kernel)) ggL_law_X6_mark
set_option maxRecDepth 20000 in
theorem ggL_law_X7_mark : GoodIn wsL_law wsX7_mark := goodIn_r _ [141, 142, 87, 143, 144, 5, 145, 125, 126, 127, 128, 805, 806, 807, 808, 809, 810, 811, 812, 813, 814, 815, 816, 817, 818, 819] (by decide +kernel) (by decide +kernel)
set_option maxRecDepth 20000 in
theorem gL_law_X7_mark : GoodIn wsL_law (wsV RL 26 RX7 yX7_mark wsX7_mark) := goodIn_app (goodIn_of _ (by decide +kernel)) ggL_law_X7_mark
set_option maxRecDepth 20000 in
theorem ggL_law_X6_clear : GoodIn wsL_law wsX6_clear := goodIn_r _ [149, 20, 150, 151, 152, 48, 153, 137, 798, 799, 800, 801, 802, 803, 804, 821, 822, 823, 824, 825, 826, 827, 828, 829, 830, 838, 839] (by decide +kernel) (by decide +kernel)
set_option maxRecDepth 20000 in
theorem gL_law_X6_clear : GoodIn wsL_law (wsV RL 27 RX6 yX6_clear wsX6_clear) := goodIn_app (goodIn_of _ (by decide +kernel)) ggL_law_X6_clear
set_option maxRecDepth 20000 in
theorem ggL_law_X7_clear : GoodIn wsL_law wsX7_clear := goodIn_r _ [157, 87, 805, 806, 807, 808, 809, 810, 811, 812, 813, 814, 815, 816, 817, 818, 819] (by decide +kernel) (by decide +kernel)
set_option maxRecDepth 20000 in
theorem gL_law_X7_clear : GoodIn wsL_law (wsV RL 31 RX7 yX7_clear wsX7_clear) := goodIn_app (goodIn_of _ (by decide +kernel)) ggL_law_X7_clear
set_option maxRecDepth 20000 in
theorem ggL_law_X6_window : GoodIn wsL_law wsX6_window := goodIn_r _ [161, 20, 118, 119, 2, 120, 798, 799, 800, 801, 802, 803, 804, 821, 822, 823, 824, 825, 826, 827, 828, 829, 830] (by decide +kernel) (by decide +kernel)
set_option maxRecDepth 20000 in
theorem gL_law_X6_window : GoodIn wsL_law (wsV RL 32 RX6 yX6_window wsX6_window) := goodIn_app (goodIn_of _ (by decide +kernel)) ggL_law_X6_window
set_option maxRecDepth 20000 in
theorem ggL_law_X7_window : GoodIn wsL_law wsX7_window := goodIn_r _ [165, 87, 166, 167, 5, 168, 169, 126, 127, 128, 805, 806, 807, 808, 809, 810, 811, 812, 813, 814, 815, 816, 817, 818, 819] (by decide +kernel) (by decide +kernel)
set_option maxRecDepth 20000 in
theorem gL_law_X7_window : GoodIn wsL_law (wsV RL 35 RX7 yX7_window wsX7_window) := goodIn_app (goodIn_of _ (by decide +kernel)) ggL_law_X7_window
set_option maxRecDepth 20000 in
theorem ggL_law_X6_feed : GoodIn wsL_law wsX6_feed := goodIn_r _ [173, 26, 118, 119, 2, 120, 174, 175, 176, 25, 177, 178, 72, 798, 799, 800, 801, 802, 803, 804, 831, 832, 833, 834] (by decide +kernel) (by decide +kernel)
set_option maxRecDepth 20000 in
theorem gL_law_X6_feed : GoodIn wsL_law (wsV RL 36 RX6 yX6_feed wsX6_feed) := goodIn_app (goodIn_of _ (by decide +kernel)) ggL_law_X6_feed
set_option maxRecDepth 20000 in
theorem ggL_law_X7_feed : GoodIn wsL_law wsX7_feed := goodIn_r _ [182, 169, 183, 91, 126, 127, 5, 128, 805, 806, 807, 808, 809, 810, 811, 812, 813, 814, 815, 816, 817, 818, 819] (by decide +kernel) (by decide +kernel)
set_option maxRecDepth 20000 in
theorem gL_law_X7_feed : GoodIn wsL_law (wsV RL 39 RX7 yX7_feed wsX7_feed) := goodIn_app (goodIn_of _ (by decide +kernel)) ggL_law_X7_feed
set_option maxRecDepth 20000 in
theorem ggL_law_X6_read : GoodIn wsL_law wsX6_read := goodIn_r _ [187, 26, 188, 189, 190, 25, 191, 74, 192, 178, 193, 151, 152, 48, 153, 137, 194, 195, 196, 197, 198, 199, 200, 201, 72, 202, 203, 204, 205, 206, 66, 63, 67, 119, 2, 120, 207, 208, 209, 210, 211, 134, 135, 136, 68, 212, 213, 214, 215, 216, 217, 218, 219, 220, 221, 222, 223, 224, 96, 97, 98, 20, 99, 100, 101, 19, 102, 53, 54, 55, 103, 104, 105, 106, 225, 115, 116, 117, 118, 226, 130, 131, 132, 133, 227, 159, 160, 161, 228, 147, 148, 149, 150, 798, 799, 800, 801, 802, 803, 804, 831, 832, 833, 834, 838, 839, 821, 822, 823, 824, 825, 826, 827, 828, 829, 830] (by decide +kernel) (by decide +kernel)
set_option maxRecDepth 20000 in
theorem gL_law_X6_read : GoodIn wsL_law (wsV RL 40 RX6 yX6_read wsX6_read) := goodIn_app (goodIn_of _ (by decide +kernel)) ggL_law_X6_read
set_option maxRecDepth 20000 in
theorem ggL_law_X7_read : GoodIn wsL_law wsX7_read := goodIn_r _ [232, 233, 183, 234, 235, 236, 5, 237, 238, 239, 240, 241, 242, 243, 244, 245, 246, 247, 248, 91, 249, 250, 251, 252, 253, 254, 126, 127, 128, 255, 256, 257, 258, 259, 108, 109, 110, 87, 111, 112, 113, 260, 122, 123, 124, 125, 261, 139, 140, 141, 142, 143, 144, 145, 262, 155, 156, 157, 263, 163, 164, 165, 166, 167, 168, 169, 805, 806, 807, 808, 809, 810, 811, 812, 813, 814, 815, 816, 817, 818, 819] (by decide +kernel) (by decide +kernel)
set_option maxRecDepth 20000 in
theorem gL_law_X7_read : GoodIn wsL_law (wsV RL 43 RX7 yX7_read wsX7_read) := goodIn_app (goodIn_of _ (by decide +kernel)) ggL_law_X7_read
set_option maxRecDepth 20000 in
theorem ggL_law_X6_told : GoodIn wsL_law wsX6_told := goodIn_r _ [267, 20, 268, 269, 270, 19, 271, 272, 273, 274, 275, 276, 277, 278, 279, 280, 281, 49, 282, 2, 283, 284, 285, 286, 118, 119, 120, 287, 217, 218, 48, 219, 137, 68, 288, 289, 290, 291, 56, 55, 53, 292, 293, 294, 15, 295, 38, 39, 40, 41, 36, 296, 297, 298, 299, 300, 301, 105, 302, 303, 304, 305, 306, 307, 308, 309, 310, 311, 312, 313, 314, 315, 798, 799, 800, 801, 802, 803, 804, 821, 822, 823, 824, 825, 826, 827, 828, 829, 830, 838, 839, 820] (by decide +kernel) (by decide +kernel)
set_option maxRecDepth 20000 in
theorem gL_law_X6_told : GoodIn wsL_law (wsV RL 44 RX6 yX6_told wsX6_told) := goodIn_app (goodIn_of _ (by decide +kernel)) ggL_law_X6_told
set_option maxRecDepth 20000 in
theorem ggL_law_X7_told : GoodIn wsL_law wsX7_told := goodIn_r _ [319, 87, 320, 321, 322, 5, 323, 324, 325, 326, 327, 328, 329, 330, 331, 332, 333, 334, 335, 336, 337, 166, 167, 168, 169, 126, 127, 128, 338, 339, 340, 341, 342, 343, 344, 345, 90, 346, 347, 348, 349, 350, 351, 352, 353, 354, 355, 356, 357, 358, 359, 360, 361, 362, 363, 364, 365, 366, 367, 368, 369, 805, 806, 807, 808, 809, 810, 811, 812, 813, 814, 815, 816, 817, 818, 819] (by decide +kernel) (by decide +kernel)
set_option maxRecDepth 20000 in
theorem gL_law_X7_told : GoodIn wsL_law (wsV RL 47 RX7 yX7_told wsX7_told) := goodIn_app (goodIn_of _ (by decide +kernel)) ggL_law_X7_told
set_option maxRecDepth 20000 in
theorem ggL_law_X6_markOf : GoodIn wsL_law wsX6_markOf := goodIn_r _ [373, 20, 118, 119, 2, 120, 216, 217, 218, 48, 219, 137, 68, 798, 799, 800, 801, 802, 803, 804, 821, 822, 823, 824, 825, 826, 827, 828, 829, 830, 838, 839] (by decide +kernel) (by decide +kernel)
set_option maxRecDepth 20000 in
theorem gL_law_X6_markOf : GoodIn wsL_law (wsV RL 48 RX6 yX6_markOf wsX6_markOf) := goodIn_app (goodIn_of _ (by decide +kernel)) ggL_law_X6_markOf
