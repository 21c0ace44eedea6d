set_option maxRecDepth 20000 in
theorem ggL_law_X7_settle : GoodIn wsL_law wsX7_settle := goodIn_r _ [607, 23, 15, 96, 171, 218, 520, 521, 522, 22, 523, 43, 47, 51, 271, 274, 268, 270, 272, 275, 524, 525, 526, 42, 527, 232, 223, 55, 144, 145, 528, 529, 530, 46, 531, 59, 60, 61, 188, 189, 190, 532, 533, 534, 50, 535, 293, 323, 325, 294, 295, 296, 297, 298, 299, 536, 264, 265, 266, 267, 269, 273, 276, 277, 278, 279, 280, 281, 282, 283, 284, 285, 286, 287, 288, 289, 290, 291, 292, 300, 301, 302, 303, 304, 305, 306, 307, 308, 229, 230, 231, 233, 234, 220, 221, 222, 148, 2, 149, 309, 141, 142, 143, 146, 147, 310, 311, 312, 313, 314, 315, 316, 317, 318, 319, 320, 321, 322, 324, 326, 225, 226, 227, 327, 328, 329, 330, 331, 332, 333, 334, 335, 336, 337, 338, 339, 340, 341, 789, 790, 791, 792, 793, 794, 807, 808, 809, 810, 811, 812, 813, 814, 815, 816, 817, 832, 833, 834, 835, 836, 837, 827, 828, 829, 830, 831, 838, 839, 840, 841, 842, 843, 844, 845, 846] (by decide +kernel) (by decide +kernel)
set_option maxRecDepth 20000 in
theorem gL_law_X7_settle : GoodIn wsL_law (wsV RL 89 RX7 yX7_settle wsX7_settle) := goodIn_app (goodIn_of _ (by decide +kernel)) ggL_law_X7_settle
set_option maxRecDepth 20000 in
theorem ggL_law_X8_settle : GoodIn wsL_law wsX8_settle := goodIn_r _ [611, 82, 545, 546, 547, 5, 548, 83, 371, 372, 373, 374, 375, 376, 377, 378, 379, 380, 381, 382, 204, 383, 384, 385, 386, 387, 388, 389, 245, 246, 247, 248, 249, 241, 242, 243, 244, 128, 239, 250, 251, 252, 253, 203, 164, 165, 166, 159, 160, 161, 162, 157, 163, 390, 391, 392, 393, 394, 395, 396, 397, 398, 399, 400, 401, 402, 403, 404, 549, 550, 551, 552, 795, 796, 797, 798, 799, 800, 801, 802, 803, 804, 805, 806] (by decide +kernel) (by decide +kernel)
set_option maxRecDepth 20000 in
theorem gL_law_X8_settle : GoodIn wsL_law (wsV RL 92 RX8 yX8_settle wsX8_settle) := goodIn_app (goodIn_of _ (by decide +kernel)) ggL_law_X8_settle
set_option maxRecDepth 20000 in
theorem ggL_law_X7_say : GoodIn wsL_law wsX7_say := goodIn_r _ [615, 27, 616, 101, 102, 2, 103, 617, 618, 619, 26, 620, 621, 74, 789, 790, 791, 792, 793, 794, 818, 819, 820, 821, 822, 823, 824] (by decide +kernel) (by decide +kernel)
set_option maxRecDepth 20000 in
theorem gL_law_X7_say : GoodIn wsL_law (wsV RL 93 RX7 yX7_say wsX7_say) := goodIn_app (goodIn_of _ (by decide +kernel)) ggL_law_X7_say
set_option maxRecDepth 20000 in
theorem ggL_law_X8_say : GoodIn wsL_law wsX8_say := goodIn_r _ [625, 626, 627, 628, 86, 113, 114, 5, 115, 795, 796, 797, 798, 799, 800, 801, 802, 803, 804, 805, 806] (by decide +kernel) (by decide +kernel)
set_option maxRecDepth 20000 in
theorem gL_law_X8_say : GoodIn wsL_law (wsV RL 96 RX8 yX8_say wsX8_say) := goodIn_app (goodIn_of _ (by decide +kernel)) ggL_law_X8_say
set_option maxRecDepth 20000 in
theorem ggL_law_X7_wipe : GoodIn wsL_law wsX7_wipe := goodIn_r _ [632, 27, 616, 789, 790, 791, 792, 793, 794, 818, 819, 820, 821, 822, 823, 824] (by decide +kernel) (by decide +kernel)
set_option maxRecDepth 20000 in
theorem gL_law_X7_wipe : GoodIn wsL_law (wsV RL 97 RX7 yX7_wipe wsX7_wipe) := goodIn_app (goodIn_of _ (by decide +kernel)) ggL_law_X7_wipe
set_option maxRecDepth 20000 in
theorem ggL_law_X8_wipe : GoodIn wsL_law wsX8_wipe := goodIn_r _ [636, 628, 795, 796, 797, 798, 799, 800, 801, 802, 803, 804, 805, 806] (by decide +kernel) (by decide +kernel)
set_option maxRecDepth 20000 in
theorem gL_law_X8_wipe : GoodIn wsL_law (wsV RL 100 RX8 yX8_wipe wsX8_wipe) := goodIn_app (goodIn_of _ (by decide +kernel)) ggL_law_X8_wipe
set_option maxRecDepth 20000 in
theorem ggL_law_X7_fault : GoodIn wsL_law wsX7_fault := goodIn_r _ [640, 27, 641, 642, 643, 26, 644, 645, 646, 621, 647, 648, 649, 650, 76, 77, 651, 652, 653, 654, 655, 74, 656, 657, 658, 659, 660, 661, 662, 663, 664, 665, 666, 667, 668, 669, 670, 671, 672, 673, 674, 675, 676, 789, 790, 791, 792, 793, 794, 818, 819, 820, 821, 822, 823, 824] (by decide +kernel) (by decide +kernel)
set_option maxRecDepth 20000 in
theorem gL_law_X7_fault : GoodIn wsL_law (wsV RL 101 RX7 yX7_fault wsX7_fault) := goodIn_app (goodIn_of _ (by decide +kernel)) ggL_law_X7_fault
set_option maxRecDepth 20000 in
theorem ggL_law_X8_fault : GoodIn wsL_law wsX8_fault := goodIn_r _ [680, 681, 682, 683, 628, 684, 685, 686, 5, 687, 688, 689, 87, 690, 691, 692, 693, 86, 113, 114, 115, 694, 695, 696, 697, 698, 699, 700, 701, 702, 703, 588, 704, 705, 706, 707, 204, 795, 796, 797, 798, 799, 800, 801, 802, 803, 804, 805, 806] (by decide +kernel) (by decide +kernel)
set_option maxRecDepth 20000 in
theorem gL_law_X8_fault : GoodIn wsL_law (wsV RL 104 RX8 yX8_fault wsX8_fault) := goodIn_app (goodIn_of _ (by decide +kernel)) ggL_law_X8_fault
set_option maxRecDepth 20000 in
theorem ggL_law_X7_run : GoodIn wsL_law wsX7_run := goodIn_r _ [711, 27, 15, 99, 100, 16, 616, 641, 642, 643, 26, 644, 645, 646, 621, 647, 648, 649, 650, 76, 77, 651, 652, 653, 654, 655, 74, 656, 657, 658, 659, 660, 661, 662, 663, 664, 665, 666, 667, 668, 669, 670, 671, 672, 673, 674, 675, 676, 712, 713, 714, 715, 716, 717, 718, 719, 720, 721, 722, 723, 724, 725, 726, 14, 727, 32, 36, 728, 521, 522, 22, 523, 43, 47, 51, 271, 274, 268, 270, 272, 275, 524, 525, 526, 42, 527, 232, 223, 55, 144, 145, 528, 529, 530, 46, 531, 59, 60, 61, 188, 189, 190, 532, 533, 534, 50, 535, 293, 323, 325, 294, 295, 296, 297, 298, 299, 729, 730, 731, 35, 732, 353, 69, 733, 340, 333, 341, 734, 735, 736, 737, 738, 739, 740, 2, 741, 742, 96, 138, 97, 98, 171, 218, 743, 744, 259, 260, 261, 262, 263, 264, 265, 266, 267, 269, 273, 276, 277, 278, 279, 280, 281, 282, 283, 284, 285, 286, 287, 288, 289, 290, 291, 292, 300, 301, 302, 303, 304, 305, 306, 307, 308, 229, 230, 231, 233, 234, 220, 221, 222, 148, 149, 309, 141, 142, 143, 146, 147, 310, 311, 312, 313, 314, 315, 316, 317, 318, 319, 320, 321, 322, 324, 326, 225, 226, 227, 327, 328, 329, 330, 331, 332, 334, 335, 336, 337, 338, 339, 342, 343, 344, 345, 346, 347, 348, 349, 350, 351, 352, 354, 355, 356, 357, 358, 359, 360, 361, 362, 363, 364, 411, 421, 422, 423, 424, 425, 789, 790, 791, 792, 793, 794, 807, 808, 825, 826, 818, 819, 820, 821, 822, 823, 824, 809, 810, 811, 812, 813, 814, 815, 816, 817, 827, 828, 829, 830, 831, 832, 833, 834, 835, 836, 837, 838, 839, 840, 841, 842, 843, 844, 845, 846] (by decide +kernel) (by decide +kernel)
set_option maxRecDepth 20000 in
theorem gL_law_X7_run : GoodIn wsL_law (wsV RL 105 RX7 yX7_run wsX7_run) := goodIn_app (goodIn_of _ (by decide +kernel)) ggL_law_X7_run
/-! END calls 4 -/
