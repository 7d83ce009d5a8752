/-! the law's words among the tables' words, by place -/
theorem memr_ {big : List Cond} (ws : List Cond) (ps : List Nat) (hp : ws = ps.filterMap (fun i => big[i]?)) : ∀ w ∈ ws, w ∈ big := by
  intro w hw
  rw [hp] at hw
  obtain ⟨i, -, hi⟩ := List.mem_filterMap.mp hw
  exact List.mem_of_getElem? hi
set_option maxRecDepth 20000 in
theorem lin_wsL_law_r1 : ∀ w ∈ wsL_law_r1, w ∈ lw_tbl := memr_ _ [51, 52, 40, 610, 611, 47, 948, 53, 54, 55, 56, 57, 58, 59, 60, 41, 182, 75, 76, 42, 183, 184, 185, 142] (by decide +kernel)
set_option maxRecDepth 20000 in
theorem lin_wsL_law_r2 : ∀ w ∈ wsL_law_r2, w ∈ lw_tbl := memr_ _ [143, 45, 186, 165, 166, 46, 187, 61, 62, 63, 64, 74, 70, 69, 65, 67, 0, 68, 77, 78, 79, 80, 81, 82] (by decide +kernel)
set_option maxRecDepth 20000 in
theorem lin_wsL_law_r3 : ∀ w ∈ wsL_law_r3, w ∈ lw_tbl := memr_ _ [43, 103, 105, 107, 109, 111, 113, 115, 102, 83, 84, 85, 86, 87, 88, 44, 89, 90, 91, 92, 93, 145, 146, 147] (by decide +kernel)
set_option maxRecDepth 20000 in
theorem lin_wsL_law_r4 : ∀ w ∈ wsL_law_r4, w ∈ lw_tbl := memr_ _ [150, 148, 151, 149, 168, 169, 170, 171, 172, 181, 173, 612, 613, 614, 615, 616, 617, 618, 620, 622, 628, 629, 630, 204] (by decide +kernel)
set_option maxRecDepth 20000 in
theorem lin_wsL_law_r5 : ∀ w ∈ wsL_law_r5, w ∈ lw_tbl := memr_ _ [205, 206, 207, 208, 209, 210, 211, 212, 213, 48, 214, 662, 663, 664, 665, 666, 667, 668, 215, 216, 217, 218, 219, 220] (by decide +kernel)
set_option maxRecDepth 20000 in
theorem lin_wsL_law_r6 : ∀ w ∈ wsL_law_r6, w ∈ lw_tbl := memr_ _ [221, 669, 670, 671, 672, 673, 674, 675, 676, 222, 223, 224, 225, 226, 227, 228, 229, 94, 677, 678, 679, 680, 684, 681] (by decide +kernel)
set_option maxRecDepth 20000 in
theorem lin_wsL_law_r7 : ∀ w ∈ wsL_law_r7, w ∈ lw_tbl := memr_ _ [682, 683, 230, 231, 232, 233, 234, 235, 236, 237, 685, 686, 687, 688, 238, 239, 240, 241, 689, 690, 691, 692, 693, 694] (by decide +kernel)
set_option maxRecDepth 20000 in
theorem lin_wsL_law_r8 : ∀ w ∈ wsL_law_r8, w ∈ lw_tbl := memr_ _ [695, 696, 242, 243, 244, 245, 246, 247, 248, 249, 153, 697, 698, 699, 700, 623, 250, 251, 252, 253, 254, 255, 256, 257] (by decide +kernel)
set_option maxRecDepth 20000 in
theorem lin_wsL_law_r9 : ∀ w ∈ wsL_law_r9, w ∈ lw_tbl := memr_ _ [155, 258, 259, 261, 1, 262, 263, 265, 2, 266, 267, 269, 3, 270, 272, 273, 275, 4, 276, 277, 278, 279, 280, 281] (by decide +kernel)
set_option maxRecDepth 20000 in
theorem lin_wsL_law_r10 : ∀ w ∈ wsL_law_r10, w ∈ lw_tbl := memr_ _ [282, 283, 284, 285, 287, 289, 5, 290, 291, 292, 293, 294, 295, 701, 702, 703, 704, 624, 705, 707, 19, 708, 709, 711] (by decide +kernel)
set_option maxRecDepth 20000 in
theorem lin_wsL_law_r11 : ∀ w ∈ wsL_law_r11, w ∈ lw_tbl := memr_ _ [20, 712, 625, 626, 627, 713, 715, 21, 716, 717, 719, 22, 720, 721, 722, 723, 725, 23, 726, 727, 728, 729, 730, 731] (by decide +kernel)
set_option maxRecDepth 20000 in
theorem lin_wsL_law_r12 : ∀ w ∈ wsL_law_r12, w ∈ lw_tbl := memr_ _ [296, 297, 298, 299, 300, 301, 302, 303, 304, 305, 306, 307, 117, 119, 308, 309, 310, 311, 313, 314, 315, 316, 317, 318] (by decide +kernel)
set_option maxRecDepth 20000 in
theorem lin_wsL_law_r13 : ∀ w ∈ wsL_law_r13, w ∈ lw_tbl := memr_ _ [319, 320, 321, 322, 323, 324, 325, 326, 327, 328, 329, 330, 331, 332, 333, 334, 335, 336, 337, 338, 339, 340, 341, 49] (by decide +kernel)
set_option maxRecDepth 20000 in
theorem lin_wsL_law_r14 : ∀ w ∈ wsL_law_r14, w ∈ lw_tbl := memr_ _ [342, 343, 344, 345, 732, 733, 734, 735, 736, 738, 24, 739, 740, 741, 742, 743, 745, 25, 746, 747, 749, 26, 750, 751] (by decide +kernel)
set_option maxRecDepth 20000 in
theorem lin_wsL_law_r15 : ∀ w ∈ wsL_law_r15, w ∈ lw_tbl := memr_ _ [752, 753, 754, 756, 27, 757, 758, 760, 28, 761, 762, 764, 29, 765, 621, 766, 768, 30, 769, 770, 771, 772, 773, 775] (by decide +kernel)
set_option maxRecDepth 20000 in
theorem lin_wsL_law_r16 : ∀ w ∈ wsL_law_r16, w ∈ lw_tbl := memr_ _ [31, 776, 777, 779, 32, 780, 781, 783, 33, 784, 346, 347, 348, 349, 785, 786, 787, 788, 350, 351, 352, 353, 354, 355] (by decide +kernel)
set_option maxRecDepth 20000 in
theorem lin_wsL_law_r17 : ∀ w ∈ wsL_law_r17, w ∈ lw_tbl := memr_ _ [356, 357, 789, 790, 791, 792, 358, 359, 360, 361, 362, 363, 793, 794, 795, 796, 364, 365, 366, 367, 368, 797, 798, 799] (by decide +kernel)
set_option maxRecDepth 20000 in
theorem lin_wsL_law_r18 : ∀ w ∈ wsL_law_r18, w ∈ lw_tbl := memr_ _ [800, 369, 370, 371, 372, 373, 374, 375, 376, 377, 378, 801, 802, 803, 804, 805, 379, 380, 381, 382, 383, 384, 385, 386] (by decide +kernel)
set_option maxRecDepth 20000 in
theorem lin_wsL_law_r19 : ∀ w ∈ wsL_law_r19, w ∈ lw_tbl := memr_ _ [387, 388, 806, 807, 808, 809, 389, 390, 391, 392, 393, 395, 6, 396, 810, 811, 812, 813, 814, 816, 34, 817, 397, 398] (by decide +kernel)
set_option maxRecDepth 20000 in
theorem lin_wsL_law_r20 : ∀ w ∈ wsL_law_r20, w ∈ lw_tbl := memr_ _ [399, 400, 401, 403, 7, 404, 405, 407, 8, 408, 409, 411, 9, 412, 413, 415, 10, 416, 417, 419, 11, 420, 422, 421] (by decide +kernel)
set_option maxRecDepth 20000 in
theorem lin_wsL_law_r21 : ∀ w ∈ wsL_law_r21, w ∈ lw_tbl := memr_ _ [818, 819, 820, 821, 822, 827, 823, 825, 35, 826, 423, 424, 425, 426, 828, 829, 830, 831, 427, 428, 429, 430, 431, 433] (by decide +kernel)
set_option maxRecDepth 20000 in
theorem lin_wsL_law_r22 : ∀ w ∈ wsL_law_r22, w ∈ lw_tbl := memr_ _ [12, 434, 435, 437, 13, 438, 439, 441, 14, 442, 832, 833, 834, 835, 836, 443, 444, 445, 446, 447, 837, 838, 839, 840] (by decide +kernel)
set_option maxRecDepth 20000 in
theorem lin_wsL_law_r23 : ∀ w ∈ wsL_law_r23, w ∈ lw_tbl := memr_ _ [841, 448, 449, 450, 451, 452, 454, 15, 455, 842, 843, 844, 845, 846, 847, 849, 36, 850, 456, 457, 458, 459, 851, 852] (by decide +kernel)
set_option maxRecDepth 20000 in
theorem lin_wsL_law_r24 : ∀ w ∈ wsL_law_r24, w ∈ lw_tbl := memr_ _ [853, 854, 855, 460, 461, 462, 463, 856, 857, 858, 859, 464, 465, 466, 467, 468, 470, 472, 16, 473, 474, 475, 860, 861] (by decide +kernel)
set_option maxRecDepth 20000 in
theorem lin_wsL_law_r25 : ∀ w ∈ wsL_law_r25, w ∈ lw_tbl := memr_ _ [862, 863, 476, 477, 478, 479, 480, 481, 482, 483, 484, 485, 486, 864, 865, 866, 867, 868, 869, 870, 871, 872, 873, 874] (by decide +kernel)
set_option maxRecDepth 20000 in
theorem lin_wsL_law_r26 : ∀ w ∈ wsL_law_r26, w ∈ lw_tbl := memr_ _ [487, 488, 489, 490, 875, 876, 877, 878, 491, 492, 493, 494, 495, 497, 17, 498, 879, 880, 881, 882, 883, 884, 499, 500] (by decide +kernel)
set_option maxRecDepth 20000 in
theorem lin_wsL_law_r27 : ∀ w ∈ wsL_law_r27, w ∈ lw_tbl := memr_ _ [501, 502, 503, 504, 505, 506, 507, 508, 509, 510, 511, 512, 514, 513, 50, 515, 516, 517, 518, 523, 519, 521, 18, 522] (by decide +kernel)
set_option maxRecDepth 20000 in
theorem lin_wsL_law_r28 : ∀ w ∈ wsL_law_r28, w ∈ lw_tbl := memr_ _ [524, 525, 526, 527, 885, 886, 887, 888, 889, 890, 891, 892, 894, 37, 895, 896, 528, 529, 530, 531, 897, 898, 899, 900] (by decide +kernel)
set_option maxRecDepth 20000 in
theorem lin_wsL_law_r29 : ∀ w ∈ wsL_law_r29, w ∈ lw_tbl := memr_ _ [532, 533, 534, 535, 901, 902, 903, 904, 536, 537, 538, 539, 540, 541, 542, 544, 545, 546, 547, 548, 549, 550, 551, 552] (by decide +kernel)
set_option maxRecDepth 20000 in
theorem lin_wsL_law_r30 : ∀ w ∈ wsL_law_r30, w ∈ lw_tbl := memr_ _ [553, 554, 555, 556, 557, 558, 559, 560, 905, 906, 907, 908, 909, 910, 911, 561, 562, 563, 564, 188, 912, 913, 914, 915] (by decide +kernel)
set_option maxRecDepth 20000 in
theorem lin_wsL_law_r31 : ∀ w ∈ wsL_law_r31, w ∈ lw_tbl := memr_ _ [619, 565, 566, 567, 568, 916, 917, 918, 919, 569, 570, 571, 572, 920, 921, 922, 923, 573, 574, 575, 576, 577, 578, 579] (by decide +kernel)
set_option maxRecDepth 20000 in
theorem lin_wsL_law_r32 : ∀ w ∈ wsL_law_r32, w ∈ lw_tbl := memr_ _ [580, 581, 582, 583, 584, 585, 586, 587, 588, 589, 590, 924, 925, 926, 927, 928, 591, 592, 593, 594, 595, 929, 930, 931] (by decide +kernel)
set_option maxRecDepth 20000 in
theorem lin_wsL_law_r33 : ∀ w ∈ wsL_law_r33, w ∈ lw_tbl := memr_ _ [932, 933, 935, 38, 936, 937, 938, 939, 596, 597, 598, 599, 940, 941, 942, 943, 600, 601, 602, 603, 604, 605, 606, 607] (by decide +kernel)
set_option maxRecDepth 20000 in
theorem lin_wsL_law_r34 : ∀ w ∈ wsL_law_r34, w ∈ lw_tbl := memr_ _ [608, 609, 944, 945, 946, 947] (by decide +kernel)
set_option maxRecDepth 20000 in
theorem lin_wsX60 : ∀ w ∈ wsX60, w ∈ lw_tbl := memr_ _ [189, 191, 193, 195, 197, 199, 201] (by decide +kernel)
set_option maxRecDepth 20000 in
theorem lin_wsX70 : ∀ w ∈ wsX70, w ∈ lw_tbl := memr_ _ [631, 633, 635, 637, 639, 641, 643, 645, 647, 649, 651, 653, 655, 657, 659] (by decide +kernel)
set_option maxRecDepth 20000 in
theorem lin_wsX50 : ∀ w ∈ wsX50, w ∈ lw_tbl := memr_ _ [71] (by decide +kernel)
set_option maxRecDepth 20000 in
theorem lin_wsX30 : ∀ w ∈ wsX30, w ∈ lw_tbl := memr_ _ [121, 123, 125, 127, 129, 131, 133, 135, 137, 139] (by decide +kernel)
set_option maxRecDepth 20000 in
theorem lin_wsX20 : ∀ w ∈ wsX20, w ∈ lw_tbl := memr_ _ [156, 158, 160, 162] (by decide +kernel)
set_option maxRecDepth 20000 in
theorem lin_wsX40 : ∀ w ∈ wsX40, w ∈ lw_tbl := memr_ _ [174, 176, 178] (by decide +kernel)
set_option maxRecDepth 20000 in
theorem lin_wsX10 : ∀ w ∈ wsX10, w ∈ lw_tbl := memr_ _ [97, 99] (by decide +kernel)
theorem wsL_law_in : ∀ w ∈ wsL_law, w ∈ lw_tbl := (List.forall_mem_append.mpr ⟨(List.forall_mem_append.mpr ⟨(List.forall_mem_append.mpr ⟨(List.forall_mem_append.mpr ⟨(List.forall_mem_append.mpr ⟨(List.forall_mem_append.mpr ⟨(List.forall_mem_append.mpr ⟨(List.forall_mem_append.mpr ⟨(List.forall_mem_append.mpr ⟨lin_wsL_law_r1, (List.forall_mem_append.mpr ⟨lin_wsL_law_r2, (List.forall_mem_append.mpr ⟨lin_wsL_law_r3, (List.forall_mem_append.mpr ⟨lin_wsL_law_r4, (List.forall_mem_append.mpr ⟨lin_wsL_law_r5, (List.forall_mem_append.mpr ⟨lin_wsL_law_r6, (List.forall_mem_append.mpr ⟨lin_wsL_law_r7, (List.forall_mem_append.mpr ⟨lin_wsL_law_r8, (List.forall_mem_append.mpr ⟨lin_wsL_law_r9, (List.forall_mem_append.mpr ⟨lin_wsL_law_r10, (List.forall_mem_append.mpr ⟨lin_wsL_law_r11, (List.forall_mem_append.mpr ⟨lin_wsL_law_r12, (List.forall_mem_append.mpr ⟨lin_wsL_law_r13, (List.forall_mem_append.mpr ⟨lin_wsL_law_r14, (List.forall_mem_append.mpr ⟨lin_wsL_law_r15, (List.forall_mem_append.mpr ⟨lin_wsL_law_r16, (List.forall_mem_append.mpr ⟨lin_wsL_law_r17, (List.forall_mem_append.mpr ⟨lin_wsL_law_r18, (List.forall_mem_append.mpr ⟨lin_wsL_law_r19, (List.forall_mem_append.mpr ⟨lin_wsL_law_r20, (List.forall_mem_append.mpr ⟨lin_wsL_law_r21, (List.forall_mem_append.mpr ⟨lin_wsL_law_r22, (List.forall_mem_append.mpr ⟨lin_wsL_law_r23, (List.forall_mem_append.mpr ⟨lin_wsL_law_r24, (List.forall_mem_append.mpr ⟨lin_wsL_law_r25, (List.forall_mem_append.mpr ⟨lin_wsL_law_r26, (List.forall_mem_append.mpr ⟨lin_wsL_law_r27, (List.forall_mem_append.mpr ⟨lin_wsL_law_r28, (List.forall_mem_append.mpr ⟨lin_wsL_law_r29, (List.forall_mem_append.mpr ⟨lin_wsL_law_r30, (List.forall_mem_append.mpr ⟨lin_wsL_law_r31, (List.forall_mem_append.mpr ⟨lin_wsL_law_r32, (List.forall_mem_append.mpr ⟨lin_wsL_law_r33, lin_wsL_law_r34⟩)⟩)⟩)⟩)⟩)⟩)⟩)⟩)⟩)⟩)⟩)⟩)⟩)⟩)⟩)⟩)⟩)⟩)⟩)⟩)⟩)⟩)⟩)⟩)⟩)⟩)⟩)⟩)⟩)⟩)⟩)⟩)⟩), lin_wsX60⟩), lin_wsX70⟩), lin_wsX50⟩), lin_wsX30⟩), lin_wsX20⟩), lin_wsX40⟩), lin_wsX10⟩), (fun _ h => absurd h List.not_mem_nil)⟩)
theorem inX0 : ∀ w ∈ wsX00, w ∈ lw_tbl := by decide +kernel
theorem inlX1 : ∀ w ∈ wsX10, w ∈ wsL_law := fun _ h => List.mem_append_left _ (List.mem_append_right _ h)
theorem inX1 : ∀ w ∈ wsX10, w ∈ lw_tbl := fun w h => wsL_law_in w (inlX1 w h)
theorem inlX2 : ∀ w ∈ wsX20, w ∈ wsL_law := fun _ h => List.mem_append_left _ (List.mem_append_left _ (List.mem_append_left _ (List.mem_append_right _ h)))
theorem inX2 : ∀ w ∈ wsX20, w ∈ lw_tbl := fun w h => wsL_law_in w (inlX2 w h)
theorem inlX3 : ∀ w ∈ wsX30, w ∈ wsL_law := fun _ h => List.mem_append_left _ (List.mem_append_left _ (List.mem_append_left _ (List.mem_append_left _ (List.mem_append_right _ h))))
theorem inX3 : ∀ w ∈ wsX30, w ∈ lw_tbl := fun w h => wsL_law_in w (inlX3 w h)
theorem inlX4 : ∀ w ∈ wsX40, w ∈ wsL_law := fun _ h => List.mem_append_left _ (List.mem_append_left _ (List.mem_append_right _ h))
theorem inX4 : ∀ w ∈ wsX40, w ∈ lw_tbl := fun w h => wsL_law_in w (inlX4 w h)
theorem inlX5 : ∀ w ∈ wsX50, w ∈ wsL_law := fun _ h => List.mem_append_left _ (List.mem_append_left _ (List.mem_append_left _ (List.mem_append_left _ (List.mem_append_left _ (List.mem_append_right _ h)))))
theorem inX5 : ∀ w ∈ wsX50, w ∈ lw_tbl := fun w h => wsL_law_in w (inlX5 w h)
theorem inlX6 : ∀ w ∈ wsX60, w ∈ wsL_law := fun _ h => List.mem_append_left _ (List.mem_append_left _ (List.mem_append_left _ (List.mem_append_left _ (List.mem_append_left _ (List.mem_append_left _ (List.mem_append_left _ (List.mem_append_right _ h)))))))
theorem inX6 : ∀ w ∈ wsX60, w ∈ lw_tbl := fun w h => wsL_law_in w (inlX6 w h)
theorem inlX7 : ∀ w ∈ wsX70, w ∈ wsL_law := fun _ h => List.mem_append_left _ (List.mem_append_left _ (List.mem_append_left _ (List.mem_append_left _ (List.mem_append_left _ (List.mem_append_left _ (List.mem_append_right _ h))))))
theorem inX7 : ∀ w ∈ wsX70, w ∈ lw_tbl := fun w h => wsL_law_in w (inlX7 w h)
theorem inJ6 : ∀ w ∈ wsJ60, w ∈ lw_tbl := by decide +kernel
theorem inJ9 : ∀ w ∈ wsJ90, w ∈ lw_tbl := by decide +kernel
theorem inJ10 : ∀ w ∈ wsJ100, w ∈ lw_tbl := by decide +kernel
