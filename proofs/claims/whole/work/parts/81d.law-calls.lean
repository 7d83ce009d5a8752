/-! the law's calls: their words among the law's words, by place -/
set_option maxRecDepth 20000 in
theorem ggL_law_X7_book : GoodIn wsL_law wsX7_book := goodIn_r _ [671, 87, 142, 166, 167, 5, 168, 169, 126, 127, 128, 805, 806, 807, 808, 809, 810, 811, 812, 813, 814, 815, 816, 817, 818, 819] (by decide +kernel) (by decide +kernel)
set_option maxRecDepth 20000 in
theorem gL_law_X7_book : GoodIn wsL_law (wsV RL 131 RX7 yX7_book wsX7_book) := goodIn_app (goodIn_of _ (by decide +kernel)) ggL_law_X7_book
set_option maxRecDepth 20000 in
theorem ggL_law_X6_looked : GoodIn wsL_law wsX6_looked := goodIn_r _ [675, 20, 216, 217, 218, 48, 219, 137, 68, 119, 2, 120, 382, 383, 384, 19, 385, 56, 55, 292, 293, 294, 15, 295, 38, 39, 40, 41, 36, 798, 799, 800, 801, 802, 803, 804, 821, 822, 823, 824, 825, 826, 827, 828, 829, 830, 838, 839, 820] (by decide +kernel) (by decide +kernel)
set_option maxRecDepth 20000 in
theorem gL_law_X6_looked : GoodIn wsL_law (wsV RL 132 RX6 yX6_looked wsX6_looked) := goodIn_app (goodIn_of _ (by decide +kernel)) ggL_law_X6_looked
set_option maxRecDepth 20000 in
theorem ggL_law_X7_looked : GoodIn wsL_law wsX7_looked := goodIn_r _ [679, 87, 342, 343, 344, 5, 345, 169, 90, 320, 321, 322, 323, 324, 325, 326, 346, 347, 348, 349, 350, 126, 127, 128, 805, 806, 807, 808, 809, 810, 811, 812, 813, 814, 815, 816, 817, 818, 819] (by decide +kernel) (by decide +kernel)
set_option maxRecDepth 20000 in
theorem gL_law_X7_looked : GoodIn wsL_law (wsV RL 135 RX7 yX7_looked wsX7_looked) := goodIn_app (goodIn_of _ (by decide +kernel)) ggL_law_X7_looked
set_option maxRecDepth 20000 in
theorem ggL_law_X6_judge : GoodIn wsL_law wsX6_judge := goodIn_r _ [683, 30, 20, 284, 285, 2, 286, 118, 119, 120, 684, 685, 29, 686, 687, 688, 689, 690, 79, 691, 692, 693, 694, 80, 695, 696, 697, 698, 82, 699, 700, 701, 702, 703, 382, 383, 384, 19, 385, 56, 55, 292, 293, 294, 15, 295, 38, 39, 40, 41, 36, 798, 799, 800, 801, 802, 803, 804, 835, 836, 837, 821, 822, 823, 824, 825, 826, 827, 828, 829, 830, 820] (by decide +kernel) (by decide +kernel)
set_option maxRecDepth 20000 in
theorem gL_law_X6_judge : GoodIn wsL_law (wsV RL 136 RX6 yX6_judge wsX6_judge) := goodIn_app (goodIn_of _ (by decide +kernel)) ggL_law_X6_judge
set_option maxRecDepth 20000 in
theorem ggL_law_X7_judge : GoodIn wsL_law wsX7_judge := goodIn_r _ [707, 92, 93, 94, 166, 167, 5, 168, 169, 126, 127, 128, 708, 709, 710, 621, 342, 343, 344, 345, 90, 320, 321, 322, 323, 87, 324, 325, 326, 346, 347, 348, 349, 350, 805, 806, 807, 808, 809, 810, 811, 812, 813, 814, 815, 816, 817, 818, 819] (by decide +kernel) (by decide +kernel)
set_option maxRecDepth 20000 in
theorem gL_law_X7_judge : GoodIn wsL_law (wsV RL 139 RX7 yX7_judge wsX7_judge) := goodIn_app (goodIn_of _ (by decide +kernel)) ggL_law_X7_judge
set_option maxRecDepth 20000 in
theorem ggL_law_X6_image : GoodIn wsL_law wsX6_image := goodIn_r _ [714, 21, 20, 715, 626, 627, 628, 19, 629, 53, 54, 276, 277, 49, 50, 51, 52, 630, 100, 101, 102, 55, 103, 104, 105, 106, 631, 632, 633, 48, 634, 68, 635, 636, 637, 638, 137, 798, 799, 800, 801, 802, 803, 804, 821, 822, 823, 824, 825, 826, 827, 828, 829, 830, 838, 839] (by decide +kernel) (by decide +kernel)
set_option maxRecDepth 20000 in
theorem gL_law_X6_image : GoodIn wsL_law (wsV RL 140 RX6 yX6_image wsX6_image) := goodIn_app (goodIn_of _ (by decide +kernel)) ggL_law_X6_image
set_option maxRecDepth 20000 in
theorem ggL_law_X7_image : GoodIn wsL_law wsX7_image := goodIn_r _ [719, 87, 88, 720, 656, 657, 5, 658, 320, 321, 322, 323, 324, 325, 326, 805, 806, 807, 808, 809, 810, 811, 812, 813, 814, 815, 816, 817, 818, 819] (by decide +kernel) (by decide +kernel)
set_option maxRecDepth 20000 in
theorem gL_law_X7_image : GoodIn wsL_law (wsV RL 143 RX7 yX7_image wsX7_image) := goodIn_app (goodIn_of _ (by decide +kernel)) ggL_law_X7_image
set_option maxRecDepth 20000 in
theorem ggL_law_X6_undo : GoodIn wsL_law wsX6_undo := goodIn_r _ [724, 715, 20, 21, 626, 627, 628, 19, 629, 53, 54, 276, 277, 49, 50, 51, 52, 630, 100, 101, 102, 55, 103, 104, 105, 106, 631, 632, 633, 48, 634, 68, 635, 636, 637, 638, 137, 798, 799, 800, 801, 802, 803, 804, 821, 822, 823, 824, 825, 826, 827, 828, 829, 830, 838, 839] (by decide +kernel) (by decide +kernel)
set_option maxRecDepth 20000 in
theorem gL_law_X6_undo : GoodIn wsL_law (wsV RL 144 RX6 yX6_undo wsX6_undo) := goodIn_app (goodIn_of _ (by decide +kernel)) ggL_law_X6_undo
set_option maxRecDepth 20000 in
theorem ggL_law_X7_undo : GoodIn wsL_law wsX7_undo := goodIn_r _ [728, 720, 88, 87, 656, 657, 5, 658, 320, 321, 322, 323, 324, 325, 326, 805, 806, 807, 808, 809, 810, 811, 812, 813, 814, 815, 816, 817, 818, 819] (by decide +kernel) (by decide +kernel)
set_option maxRecDepth 20000 in
theorem gL_law_X7_undo : GoodIn wsL_law (wsV RL 147 RX7 yX7_undo wsX7_undo) := goodIn_app (goodIn_of _ (by decide +kernel)) ggL_law_X7_undo
set_option maxRecDepth 20000 in
theorem ggL_law_X6_count : GoodIn wsL_law wsX6_count := goodIn_r _ [732, 20, 26, 798, 799, 800, 801, 802, 803, 804, 821, 822, 823, 824, 825, 826, 827, 828, 829, 830, 838, 839, 831, 832, 833, 834] (by decide +kernel) (by decide +kernel)
set_option maxRecDepth 20000 in
theorem gL_law_X6_count : GoodIn wsL_law (wsV RL 148 RX6 yX6_count wsX6_count) := goodIn_app (goodIn_of _ (by decide +kernel)) ggL_law_X6_count
set_option maxRecDepth 20000 in
theorem ggL_law_X7_count : GoodIn wsL_law wsX7_count := goodIn_r _ [736, 87, 183, 805, 806, 807, 808, 809, 810, 811, 812, 813, 814, 815, 816, 817, 818, 819] (by decide +kernel) (by decide +kernel)
set_option maxRecDepth 20000 in
theorem gL_law_X7_count : GoodIn wsL_law (wsV RL 151 RX7 yX7_count wsX7_count) := goodIn_app (goodIn_of _ (by decide +kernel)) ggL_law_X7_count
set_option maxRecDepth 20000 in
theorem ggL_law_X6_tape : GoodIn wsL_law wsX6_tape := goodIn_r _ [740, 30, 684, 685, 29, 686, 119, 2, 120, 741, 742, 743, 744, 79, 80, 745, 62, 63, 64, 746, 66, 67, 747, 748, 749, 750, 82, 699, 700, 701, 702, 703, 692, 693, 694, 751, 688, 689, 690, 752, 753, 754, 118, 798, 799, 800, 801, 802, 803, 804, 835, 836, 837] (by decide +kernel) (by decide +kernel)
set_option maxRecDepth 20000 in
theorem gL_law_X6_tape : GoodIn wsL_law (wsV RL 152 RX6 yX6_tape wsX6_tape) := goodIn_app (goodIn_of _ (by decide +kernel)) ggL_law_X6_tape
set_option maxRecDepth 20000 in
theorem ggL_law_X7_tape : GoodIn wsL_law wsX7_tape := goodIn_r _ [758, 759, 125, 92, 93, 94, 708, 709, 5, 710, 621, 126, 127, 128, 805, 806, 807, 808, 809, 810, 811, 812, 813, 814, 815, 816, 817, 818, 819] (by decide +kernel) (by decide +kernel)
set_option maxRecDepth 20000 in
theorem gL_law_X7_tape : GoodIn wsL_law (wsV RL 155 RX7 yX7_tape wsX7_tape) := goodIn_app (goodIn_of _ (by decide +kernel)) ggL_law_X7_tape
set_option maxRecDepth 20000 in
theorem ggL_law_X6_item : GoodIn wsL_law wsX6_item := goodIn_r _ [763, 30, 684, 685, 29, 686, 119, 2, 120, 687, 688, 689, 690, 79, 691, 692, 693, 694, 80, 118, 764, 748, 749, 750, 82, 699, 700, 701, 702, 703, 751, 752, 753, 754, 798, 799, 800, 801, 802, 803, 804, 835, 836, 837] (by decide +kernel) (by decide +kernel)
set_option maxRecDepth 20000 in
theorem gL_law_X6_item : GoodIn wsL_law (wsV RL 158 RX6 yX6_item wsX6_item) := goodIn_app (goodIn_of _ (by decide +kernel)) ggL_law_X6_item
set_option maxRecDepth 20000 in
theorem ggL_law_X7_item : GoodIn wsL_law wsX7_item := goodIn_r _ [768, 92, 94, 708, 709, 5, 710, 621, 126, 127, 128, 769, 770, 771, 772, 93, 773, 774, 775, 805, 806, 807, 808, 809, 810, 811, 812, 813, 814, 815, 816, 817, 818, 819] (by decide +kernel) (by decide +kernel)
set_option maxRecDepth 20000 in
theorem gL_law_X7_item : GoodIn wsL_law (wsV RL 162 RX7 yX7_item wsX7_item) := goodIn_app (goodIn_of _ (by decide +kernel)) ggL_law_X7_item
set_option maxRecDepth 20000 in
theorem ggL_law_X6_peek : GoodIn wsL_law wsX6_peek := goodIn_r _ [779, 30, 582, 684, 685, 29, 686, 119, 2, 120, 691, 692, 693, 694, 80, 118, 695, 696, 697, 698, 82, 699, 700, 701, 702, 703, 798, 799, 800, 801, 802, 803, 804, 835, 836, 837] (by decide +kernel) (by decide +kernel)
set_option maxRecDepth 20000 in
theorem gL_law_X6_peek : GoodIn wsL_law (wsV RL 163 RX6 yX6_peek wsX6_peek) := goodIn_app (goodIn_of _ (by decide +kernel)) ggL_law_X6_peek
set_option maxRecDepth 20000 in
theorem ggL_law_X7_peek : GoodIn wsL_law wsX7_peek := goodIn_r _ [783, 94, 593, 708, 709, 5, 710, 621, 126, 127, 128, 769, 770, 771, 772, 93, 805, 806, 807, 808, 809, 810, 811, 812, 813, 814, 815, 816, 817, 818, 819] (by decide +kernel) (by decide +kernel)
set_option maxRecDepth 20000 in
theorem gL_law_X7_peek : GoodIn wsL_law (wsV RL 166 RX7 yX7_peek wsX7_peek) := goodIn_app (goodIn_of _ (by decide +kernel)) ggL_law_X7_peek
set_option maxRecDepth 20000 in
theorem ggL_law_X6_shift : GoodIn wsL_law wsX6_shift := goodIn_r _ [787, 30, 684, 685, 29, 686, 119, 2, 120, 687, 688, 689, 690, 79, 788, 700, 701, 702, 703, 692, 693, 694, 80, 789, 790, 791, 792, 82, 793, 636, 637, 638, 699, 798, 799, 800, 801, 802, 803, 804, 835, 836, 837] (by decide +kernel) (by decide +kernel)
set_option maxRecDepth 20000 in
theorem gL_law_X6_shift : GoodIn wsL_law (wsV RL 167 RX6 yX6_shift wsX6_shift) := goodIn_app (goodIn_of _ (by decide +kernel)) ggL_law_X6_shift
set_option maxRecDepth 20000 in
theorem ggL_law_X7_shift : GoodIn wsL_law wsX7_shift := goodIn_r _ [797, 92, 93, 94, 708, 709, 5, 710, 621, 126, 127, 128, 805, 806, 807, 808, 809, 810, 811, 812, 813, 814, 815, 816, 817, 818, 819] (by decide +kernel) (by decide +kernel)
set_option maxRecDepth 20000 in
theorem gL_law_X7_shift : GoodIn wsL_law (wsV RL 170 RX7 yX7_shift wsX7_shift) := goodIn_app (goodIn_of _ (by decide +kernel)) ggL_law_X7_shift
