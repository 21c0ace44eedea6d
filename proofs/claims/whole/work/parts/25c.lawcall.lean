set_option maxRecDepth 20000 in
theorem ggL_law_X8_latest : GoodIn wsL_law wsX8_latest := goodIn_r _ [473, 453, 240, 82, 474, 113, 114, 5, 115, 795, 796, 797, 798, 799, 800, 801, 802, 803, 804, 805, 806] (by decide +kernel) (by decide +kernel)
set_option maxRecDepth 20000 in
theorem gL_law_X8_latest : GoodIn wsL_law (wsV RL 62 RX8 yX8_latest wsX8_latest) := goodIn_app (goodIn_of _ (by decide +kernel)) ggL_law_X8_latest
set_option maxRecDepth 20000 in
theorem ggL_law_X7_statistic : GoodIn wsL_law wsX7_statistic := goodIn_r _ [478, 217, 15, 99, 435, 101, 102, 2, 103, 479, 480, 481, 35, 482, 353, 444, 337, 333, 338, 440, 441, 442, 443, 483, 484, 485, 486, 487, 446, 447, 448, 69, 358, 359, 360, 361, 362, 363, 364, 488, 489, 490, 491, 492, 493, 494, 495, 496, 497, 498, 499, 500, 501, 502, 503, 504, 505, 506, 507, 789, 790, 791, 792, 793, 794, 807, 808, 825, 826] (by decide +kernel) (by decide +kernel)
set_option maxRecDepth 20000 in
theorem gL_law_X7_statistic : GoodIn wsL_law (wsV RL 63 RX7 yX7_statistic wsX7_statistic) := goodIn_app (goodIn_of _ (by decide +kernel)) ggL_law_X7_statistic
set_option maxRecDepth 20000 in
theorem ggL_law_X8_statistic : GoodIn wsL_law wsX8_statistic := goodIn_r _ [511, 128, 240, 82, 454, 113, 114, 5, 115, 455, 456, 457, 458, 376, 795, 796, 797, 798, 799, 800, 801, 802, 803, 804, 805, 806] (by decide +kernel) (by decide +kernel)
set_option maxRecDepth 20000 in
theorem gL_law_X8_statistic : GoodIn wsL_law (wsV RL 66 RX8 yX8_statistic wsX8_statistic) := goodIn_app (goodIn_of _ (by decide +kernel)) ggL_law_X8_statistic
set_option maxRecDepth 20000 in
theorem ggL_law_X7_wouldRead : GoodIn wsL_law wsX7_wouldRead := goodIn_r _ [515, 94, 95, 217, 101, 102, 2, 103, 516, 517, 518, 519, 23, 15, 96, 97, 98, 520, 521, 522, 22, 523, 43, 47, 51, 271, 274, 268, 270, 272, 275, 524, 525, 526, 42, 527, 232, 223, 55, 144, 145, 528, 529, 530, 46, 531, 59, 60, 61, 188, 189, 190, 532, 533, 534, 50, 535, 293, 323, 325, 294, 295, 296, 297, 298, 299, 536, 264, 265, 266, 267, 269, 273, 276, 277, 278, 279, 280, 281, 282, 283, 284, 285, 286, 287, 288, 289, 290, 291, 292, 300, 301, 302, 303, 304, 305, 306, 307, 308, 229, 230, 231, 233, 234, 220, 221, 222, 148, 149, 309, 141, 142, 143, 146, 147, 310, 311, 312, 313, 314, 315, 316, 317, 318, 319, 320, 321, 322, 324, 326, 225, 226, 227, 327, 328, 329, 330, 331, 332, 333, 334, 335, 336, 337, 338, 339, 340, 341, 789, 790, 791, 792, 793, 794, 807, 808, 809, 810, 811, 812, 813, 814, 815, 816, 817, 827, 828, 829, 830, 831, 832, 833, 834, 835, 836, 837, 838, 839, 840, 841, 842, 843, 844, 845, 846] (by decide +kernel) (by decide +kernel)
set_option maxRecDepth 20000 in
theorem gL_law_X7_wouldRead : GoodIn wsL_law (wsV RL 67 RX7 yX7_wouldRead wsX7_wouldRead) := goodIn_app (goodIn_of _ (by decide +kernel)) ggL_law_X7_wouldRead
set_option maxRecDepth 20000 in
theorem ggL_law_X8_wouldRead : GoodIn wsL_law wsX8_wouldRead := goodIn_r _ [540, 240, 108, 109, 5, 110, 111, 112, 113, 114, 115, 541, 542, 543, 544, 82, 545, 546, 547, 548, 83, 371, 372, 373, 374, 375, 376, 377, 378, 379, 380, 381, 382, 204, 383, 384, 385, 386, 387, 388, 389, 245, 246, 247, 248, 249, 241, 242, 243, 244, 128, 239, 250, 251, 252, 253, 203, 164, 165, 166, 159, 160, 161, 162, 157, 163, 390, 391, 392, 393, 394, 395, 396, 397, 398, 399, 400, 401, 402, 403, 404, 549, 550, 551, 552, 795, 796, 797, 798, 799, 800, 801, 802, 803, 804, 805, 806] (by decide +kernel) (by decide +kernel)
set_option maxRecDepth 20000 in
theorem gL_law_X8_wouldRead : GoodIn wsL_law (wsV RL 70 RX8 yX8_wouldRead wsX8_wouldRead) := goodIn_app (goodIn_of _ (by decide +kernel)) ggL_law_X8_wouldRead
set_option maxRecDepth 20000 in
theorem ggL_law_X7_ripple : GoodIn wsL_law wsX7_ripple := goodIn_r _ [556, 217, 15, 96, 171, 557, 101, 102, 2, 103, 558, 559, 560, 561, 23, 138, 97, 121, 562, 493, 333, 494, 563, 500, 501, 520, 521, 522, 22, 523, 43, 47, 51, 271, 274, 268, 270, 272, 275, 524, 525, 526, 42, 527, 232, 223, 55, 144, 145, 528, 529, 530, 46, 531, 59, 60, 61, 188, 189, 190, 532, 533, 534, 50, 535, 293, 323, 325, 294, 295, 296, 297, 298, 299, 536, 264, 265, 266, 267, 269, 273, 276, 277, 278, 279, 280, 281, 282, 283, 284, 285, 286, 287, 288, 289, 290, 291, 292, 300, 301, 302, 303, 304, 305, 306, 307, 308, 229, 230, 231, 233, 234, 220, 221, 222, 148, 149, 309, 141, 142, 143, 146, 147, 310, 311, 312, 313, 314, 315, 316, 317, 318, 319, 320, 321, 322, 324, 326, 225, 226, 227, 327, 328, 329, 330, 331, 332, 334, 335, 336, 337, 338, 339, 340, 341, 789, 790, 791, 792, 793, 794, 807, 808, 809, 810, 811, 812, 813, 814, 815, 816, 817, 832, 833, 834, 835, 836, 837, 827, 828, 829, 830, 831, 838, 839, 840, 841, 842, 843, 844, 845, 846] (by decide +kernel) (by decide +kernel)
set_option maxRecDepth 20000 in
theorem gL_law_X7_ripple : GoodIn wsL_law (wsV RL 71 RX7 yX7_ripple wsX7_ripple) := goodIn_app (goodIn_of _ (by decide +kernel)) ggL_law_X7_ripple
set_option maxRecDepth 20000 in
theorem ggL_law_X8_ripple : GoodIn wsL_law wsX8_ripple := goodIn_r _ [567, 384, 240, 113, 114, 5, 115, 568, 569, 570, 571, 82, 541, 542, 543, 544, 545, 546, 547, 548, 83, 371, 372, 373, 374, 375, 376, 377, 378, 379, 380, 381, 382, 204, 383, 385, 386, 387, 388, 389, 245, 246, 247, 248, 249, 241, 242, 243, 244, 128, 239, 250, 251, 252, 253, 203, 164, 165, 166, 159, 160, 161, 162, 157, 163, 390, 391, 392, 393, 394, 395, 396, 397, 398, 399, 400, 401, 402, 403, 404, 549, 550, 551, 552, 795, 796, 797, 798, 799, 800, 801, 802, 803, 804, 805, 806] (by decide +kernel) (by decide +kernel)
set_option maxRecDepth 20000 in
theorem gL_law_X8_ripple : GoodIn wsL_law (wsV RL 74 RX8 yX8_ripple wsX8_ripple) := goodIn_app (goodIn_of _ (by decide +kernel)) ggL_law_X8_ripple
/-! END calls 2 -/
