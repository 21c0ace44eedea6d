set_option maxRecDepth 20000 in
theorem ggL_law_X8_run : GoodIn wsL_law wsX8_run := goodIn_r _ [748, 82, 369, 683, 87, 628, 749, 678, 679, 5, 680, 681, 682, 684, 685, 686, 687, 688, 689, 690, 691, 692, 693, 86, 113, 114, 115, 694, 695, 696, 697, 698, 699, 700, 701, 702, 703, 588, 704, 705, 706, 707, 204, 750, 751, 752, 753, 545, 546, 547, 548, 83, 754, 755, 756, 757, 371, 372, 373, 374, 375, 376, 377, 378, 379, 380, 381, 382, 383, 384, 385, 386, 387, 388, 389, 245, 246, 247, 248, 249, 241, 242, 243, 244, 128, 239, 250, 251, 252, 253, 203, 164, 165, 166, 159, 160, 161, 162, 157, 163, 390, 391, 392, 393, 394, 395, 396, 397, 398, 399, 400, 401, 402, 403, 404, 758, 413, 414, 415, 416, 759, 427, 428, 429, 155, 430, 549, 550, 551, 552, 795, 796, 797, 798, 799, 800, 801, 802, 803, 804, 805, 806] (by decide +kernel) (by decide +kernel)
set_option maxRecDepth 20000 in
theorem gL_law_X8_run : GoodIn wsL_law (wsV RL 108 RX8 yX8_run wsX8_run) := goodIn_app (goodIn_of _ (by decide +kernel)) ggL_law_X8_run
set_option maxRecDepth 20000 in
theorem ggL_law_X7_count : GoodIn wsL_law wsX7_count := goodIn_r _ [763, 15, 96, 138, 99, 100, 97, 98, 410, 409, 171, 764, 172, 27, 616, 789, 790, 791, 792, 793, 794, 807, 808, 809, 810, 811, 812, 813, 814, 815, 816, 817, 825, 826, 827, 828, 829, 830, 831, 832, 833, 834, 835, 836, 837, 818, 819, 820, 821, 822, 823, 824] (by decide +kernel) (by decide +kernel)
set_option maxRecDepth 20000 in
theorem gL_law_X7_count : GoodIn wsL_law (wsV RL 109 RX7 yX7_count wsX7_count) := goodIn_app (goodIn_of _ (by decide +kernel)) ggL_law_X7_count
set_option maxRecDepth 20000 in
theorem ggL_law_X8_count : GoodIn wsL_law wsX8_count := goodIn_r _ [768, 82, 416, 628, 795, 796, 797, 798, 799, 800, 801, 802, 803, 804, 805, 806] (by decide +kernel) (by decide +kernel)
set_option maxRecDepth 20000 in
theorem gL_law_X8_count : GoodIn wsL_law (wsV RL 112 RX8 yX8_count wsX8_count) := goodIn_app (goodIn_of _ (by decide +kernel)) ggL_law_X8_count
set_option maxRecDepth 20000 in
theorem ggL_law_X7_save : GoodIn wsL_law wsX7_save := goodIn_r _ [772, 17, 15, 19, 99, 100, 773, 774, 775, 2, 776, 724, 725, 726, 14, 727, 32, 36, 728, 521, 522, 22, 523, 43, 47, 51, 271, 274, 268, 270, 272, 275, 524, 525, 526, 42, 527, 232, 223, 55, 144, 145, 528, 529, 530, 46, 531, 59, 60, 61, 188, 189, 190, 532, 533, 534, 50, 535, 293, 323, 325, 294, 295, 296, 297, 298, 299, 729, 730, 731, 35, 732, 353, 69, 733, 340, 333, 341, 734, 735, 736, 737, 789, 790, 791, 792, 793, 794, 807, 808, 825, 826, 809, 810, 811, 812, 813, 814, 815, 816, 817, 827, 828, 829, 830, 831, 832, 833, 834, 835, 836, 837, 838, 839, 840, 841, 842, 843, 844, 845, 846] (by decide +kernel) (by decide +kernel)
set_option maxRecDepth 20000 in
theorem gL_law_X7_save : GoodIn wsL_law (wsV RL 113 RX7 yX7_save wsX7_save) := goodIn_app (goodIn_of _ (by decide +kernel)) ggL_law_X7_save
set_option maxRecDepth 20000 in
theorem ggL_law_X8_save : GoodIn wsL_law wsX8_save := goodIn_r _ [780, 84, 82, 85, 113, 114, 5, 115, 795, 796, 797, 798, 799, 800, 801, 802, 803, 804, 805, 806] (by decide +kernel) (by decide +kernel)
set_option maxRecDepth 20000 in
theorem gL_law_X8_save : GoodIn wsL_law (wsV RL 116 RX8 yX8_save wsX8_save) := goodIn_app (goodIn_of _ (by decide +kernel)) ggL_law_X8_save
set_option maxRecDepth 20000 in
theorem ggL_law_X7_restore : GoodIn wsL_law wsX7_restore := goodIn_r _ [784, 19, 15, 17, 99, 100, 773, 774, 775, 2, 776, 724, 725, 726, 14, 727, 32, 36, 728, 521, 522, 22, 523, 43, 47, 51, 271, 274, 268, 270, 272, 275, 524, 525, 526, 42, 527, 232, 223, 55, 144, 145, 528, 529, 530, 46, 531, 59, 60, 61, 188, 189, 190, 532, 533, 534, 50, 535, 293, 323, 325, 294, 295, 296, 297, 298, 299, 729, 730, 731, 35, 732, 353, 69, 733, 340, 333, 341, 734, 735, 736, 737, 789, 790, 791, 792, 793, 794, 807, 808, 825, 826, 809, 810, 811, 812, 813, 814, 815, 816, 817, 827, 828, 829, 830, 831, 832, 833, 834, 835, 836, 837, 838, 839, 840, 841, 842, 843, 844, 845, 846] (by decide +kernel) (by decide +kernel)
set_option maxRecDepth 20000 in
theorem gL_law_X7_restore : GoodIn wsL_law (wsV RL 117 RX7 yX7_restore wsX7_restore) := goodIn_app (goodIn_of _ (by decide +kernel)) ggL_law_X7_restore
set_option maxRecDepth 20000 in
theorem ggL_law_X8_restore : GoodIn wsL_law wsX8_restore := goodIn_r _ [788, 85, 82, 84, 113, 114, 5, 115, 795, 796, 797, 798, 799, 800, 801, 802, 803, 804, 805, 806] (by decide +kernel) (by decide +kernel)
set_option maxRecDepth 20000 in
theorem gL_law_X8_restore : GoodIn wsL_law (wsV RL 120 RX8 yX8_restore wsX8_restore) := goodIn_app (goodIn_of _ (by decide +kernel)) ggL_law_X8_restore
/-! END calls 5 -/
