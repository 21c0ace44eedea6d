set_option maxRecDepth 20000 in
theorem ggL_law_X8_probe : GoodIn wsL_law wsX8_probe := goodIn_r _ [238, 155, 239, 240, 82, 113, 114, 5, 115, 241, 242, 243, 244, 128, 204, 245, 246, 247, 248, 249, 250, 251, 252, 253, 203, 164, 165, 166, 159, 160, 161, 162, 157, 163, 795, 796, 797, 798, 799, 800, 801, 802, 803, 804, 805, 806] (by decide +kernel) (by decide +kernel)
set_option maxRecDepth 20000 in
theorem gL_law_X8_probe : GoodIn wsL_law (wsV RL 39 RX8 yX8_probe wsX8_probe) := goodIn_app (goodIn_of _ (by decide +kernel)) ggL_law_X8_probe
set_option maxRecDepth 20000 in
theorem ggL_law_X7_read : GoodIn wsL_law wsX7_read := goodIn_r _ [257, 15, 99, 100, 258, 259, 260, 261, 14, 262, 32, 36, 263, 264, 265, 22, 266, 47, 267, 268, 269, 270, 271, 272, 51, 273, 274, 275, 276, 277, 278, 279, 280, 281, 282, 283, 284, 285, 286, 43, 287, 288, 289, 290, 291, 50, 292, 293, 294, 295, 296, 297, 298, 299, 300, 301, 302, 46, 303, 61, 60, 304, 305, 306, 307, 308, 229, 230, 42, 231, 232, 233, 234, 220, 221, 222, 55, 223, 148, 2, 149, 309, 141, 142, 143, 144, 145, 146, 147, 310, 311, 312, 313, 314, 315, 316, 317, 318, 319, 320, 321, 322, 323, 324, 325, 326, 225, 226, 227, 327, 328, 329, 330, 331, 332, 333, 334, 335, 336, 337, 338, 339, 340, 341, 342, 343, 344, 35, 345, 346, 347, 348, 349, 350, 351, 352, 353, 354, 355, 356, 357, 69, 358, 359, 360, 361, 362, 363, 364, 789, 790, 791, 792, 793, 794, 807, 808, 825, 826, 809, 810, 811, 812, 813, 814, 815, 816, 817, 832, 833, 834, 835, 836, 837, 838, 839, 840, 841, 842, 843, 844, 845, 846, 827, 828, 829, 830, 831] (by decide +kernel) (by decide +kernel)
set_option maxRecDepth 20000 in
theorem gL_law_X7_read : GoodIn wsL_law (wsV RL 40 RX7 yX7_read wsX7_read) := goodIn_app (goodIn_of _ (by decide +kernel)) ggL_law_X7_read
set_option maxRecDepth 20000 in
theorem ggL_law_X8_read : GoodIn wsL_law wsX8_read := goodIn_r _ [368, 82, 369, 370, 371, 372, 373, 5, 374, 375, 376, 377, 378, 379, 380, 381, 382, 204, 383, 384, 385, 386, 387, 388, 389, 245, 246, 247, 248, 249, 241, 242, 243, 244, 128, 239, 250, 251, 252, 253, 203, 164, 165, 166, 159, 160, 161, 162, 157, 163, 390, 391, 392, 393, 394, 395, 396, 397, 398, 399, 400, 401, 402, 403, 404, 795, 796, 797, 798, 799, 800, 801, 802, 803, 804, 805, 806] (by decide +kernel) (by decide +kernel)
set_option maxRecDepth 20000 in
theorem gL_law_X8_read : GoodIn wsL_law (wsV RL 44 RX8 yX8_read wsX8_read) := goodIn_app (goodIn_of _ (by decide +kernel)) ggL_law_X8_read
set_option maxRecDepth 20000 in
theorem ggL_law_X7_zero : GoodIn wsL_law wsX7_zero := goodIn_r _ [408, 15, 96, 409, 410, 411, 280, 281, 22, 282, 51, 273, 274, 283, 284, 285, 286, 47, 276, 43, 271, 287, 288, 289, 290, 291, 50, 292, 293, 294, 295, 296, 297, 298, 299, 300, 301, 302, 46, 303, 61, 60, 304, 305, 306, 307, 308, 229, 230, 42, 231, 232, 233, 234, 220, 221, 222, 55, 223, 148, 2, 149, 309, 141, 142, 143, 144, 145, 146, 147, 310, 311, 312, 313, 314, 315, 316, 317, 318, 319, 320, 321, 322, 323, 324, 325, 326, 789, 790, 791, 792, 793, 794, 807, 808, 809, 810, 811, 812, 813, 814, 815, 816, 817, 838, 839, 840, 841, 842, 843, 844, 845, 846, 832, 833, 834, 835, 836, 837, 827, 828, 829, 830, 831] (by decide +kernel) (by decide +kernel)
set_option maxRecDepth 20000 in
theorem gL_law_X7_zero : GoodIn wsL_law (wsV RL 45 RX7 yX7_zero wsX7_zero) := goodIn_app (goodIn_of _ (by decide +kernel)) ggL_law_X7_zero
set_option maxRecDepth 20000 in
theorem ggL_law_X8_zero : GoodIn wsL_law wsX8_zero := goodIn_r _ [415, 82, 416, 378, 379, 380, 5, 381, 382, 204, 383, 377, 375, 384, 385, 386, 387, 388, 389, 245, 246, 247, 248, 249, 241, 242, 243, 244, 128, 239, 250, 251, 252, 253, 203, 164, 165, 166, 159, 160, 161, 162, 157, 163, 390, 391, 392, 393, 394, 395, 396, 397, 398, 399, 795, 796, 797, 798, 799, 800, 801, 802, 803, 804, 805, 806] (by decide +kernel) (by decide +kernel)
set_option maxRecDepth 20000 in
theorem gL_law_X8_zero : GoodIn wsL_law (wsV RL 49 RX8 yX8_zero wsX8_zero) := goodIn_app (goodIn_of _ (by decide +kernel)) ggL_law_X8_zero
set_option maxRecDepth 20000 in
theorem ggL_law_X7_pass : GoodIn wsL_law wsX7_pass := goodIn_r _ [420, 135, 15, 96, 138, 101, 102, 2, 103, 421, 422, 423, 22, 424, 271, 425, 789, 790, 791, 792, 793, 794, 807, 808, 809, 810, 811, 812, 813, 814, 815, 816, 817] (by decide +kernel) (by decide +kernel)
set_option maxRecDepth 20000 in
theorem gL_law_X7_pass : GoodIn wsL_law (wsV RL 50 RX7 yX7_pass wsX7_pass) := goodIn_app (goodIn_of _ (by decide +kernel)) ggL_law_X7_pass
set_option maxRecDepth 20000 in
theorem ggL_law_X8_pass : GoodIn wsL_law wsX8_pass := goodIn_r _ [429, 155, 82, 430, 113, 114, 5, 115, 795, 796, 797, 798, 799, 800, 801, 802, 803, 804, 805, 806] (by decide +kernel) (by decide +kernel)
set_option maxRecDepth 20000 in
theorem gL_law_X8_pass : GoodIn wsL_law (wsV RL 53 RX8 yX8_pass wsX8_pass) := goodIn_app (goodIn_of _ (by decide +kernel)) ggL_law_X8_pass
set_option maxRecDepth 20000 in
theorem ggL_law_X7_log : GoodIn wsL_law wsX7_log := goodIn_r _ [434, 217, 15, 99, 435, 101, 102, 2, 103, 436, 437, 438, 35, 439, 353, 440, 441, 442, 443, 444, 337, 333, 338, 445, 446, 447, 448, 69, 358, 359, 360, 361, 362, 363, 364, 789, 790, 791, 792, 793, 794, 807, 808, 825, 826] (by decide +kernel) (by decide +kernel)
set_option maxRecDepth 20000 in
theorem gL_law_X7_log : GoodIn wsL_law (wsV RL 54 RX7 yX7_log wsX7_log) := goodIn_app (goodIn_of _ (by decide +kernel)) ggL_law_X7_log
set_option maxRecDepth 20000 in
theorem ggL_law_X8_log : GoodIn wsL_law wsX8_log := goodIn_r _ [452, 453, 240, 82, 454, 113, 114, 5, 115, 455, 456, 457, 458, 376, 795, 796, 797, 798, 799, 800, 801, 802, 803, 804, 805, 806] (by decide +kernel) (by decide +kernel)
set_option maxRecDepth 20000 in
theorem gL_law_X8_log : GoodIn wsL_law (wsV RL 57 RX8 yX8_log wsX8_log) := goodIn_app (goodIn_of _ (by decide +kernel)) ggL_law_X8_log
set_option maxRecDepth 20000 in
theorem ggL_law_X7_latest : GoodIn wsL_law wsX7_latest := goodIn_r _ [462, 217, 15, 96, 463, 464, 465, 101, 102, 2, 103, 466, 467, 468, 50, 469, 325, 294, 295, 296, 297, 298, 299, 789, 790, 791, 792, 793, 794, 807, 808, 809, 810, 811, 812, 813, 814, 815, 816, 817, 838, 839, 840, 841, 842, 843, 844, 845, 846] (by decide +kernel) (by decide +kernel)
set_option maxRecDepth 20000 in
theorem gL_law_X7_latest : GoodIn wsL_law (wsV RL 58 RX7 yX7_latest wsX7_latest) := goodIn_app (goodIn_of _ (by decide +kernel)) ggL_law_X7_latest
/-! END calls 1 -/
