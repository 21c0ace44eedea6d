set_option maxRecDepth 20000 in
theorem ggL_law_X7_init : GoodIn wsL_law wsX7_init := goodIn_r _ [8, 9, 10, 11, 12, 13, 14, 15, 16, 17, 18, 19, 20, 21, 22, 23, 24, 25, 26, 27, 28, 29, 30, 31, 32, 33, 34, 35, 36, 37, 38, 39, 40, 41, 42, 43, 44, 45, 46, 47, 48, 49, 50, 51, 52, 53, 54, 55, 56, 57, 58, 59, 60, 61, 62, 63, 64, 65, 66, 67, 68, 69, 70, 71, 72, 73, 74, 75, 76, 77, 807, 808, 789, 790, 791, 792, 793, 794, 809, 810, 811, 812, 813, 814, 815, 816, 817, 818, 819, 820, 821, 822, 823, 824, 825, 826, 827, 828, 829, 830, 831, 832, 833, 834, 835, 836, 837, 838, 839, 840, 841, 842, 843, 844, 845, 846] (by decide +kernel) (by decide +kernel)
set_option maxRecDepth 20000 in
theorem gL_law_X7_init : GoodIn wsL_law (wsX7_init) := ggL_law_X7_init
set_option maxRecDepth 20000 in
theorem ggL_law_X8_init : GoodIn wsL_law wsX8_init := goodIn_r _ [80, 81, 10, 11, 68, 82, 83, 84, 18, 85, 75, 86, 87, 88, 89, 795, 796, 797, 798, 799, 800, 801, 802, 803, 804, 805, 806] (by decide +kernel) (by decide +kernel)
set_option maxRecDepth 20000 in
theorem gL_law_X8_init : GoodIn wsL_law (wsX8_init) := ggL_law_X8_init
set_option maxRecDepth 20000 in
theorem ggL_law_X7_setLevel : GoodIn wsL_law wsX7_setLevel := goodIn_r _ [93, 94, 95, 15, 96, 97, 98, 99, 100, 101, 102, 2, 103, 789, 790, 791, 792, 793, 794, 807, 808, 809, 810, 811, 812, 813, 814, 815, 816, 817, 827, 828, 829, 830, 831, 825, 826] (by decide +kernel) (by decide +kernel)
set_option maxRecDepth 20000 in
theorem gL_law_X7_setLevel : GoodIn wsL_law (wsV RL 13 RX7 yX7_setLevel wsX7_setLevel) := goodIn_app (goodIn_of _ (by decide +kernel)) ggL_law_X7_setLevel
set_option maxRecDepth 20000 in
theorem ggL_law_X8_setLevel : GoodIn wsL_law wsX8_setLevel := goodIn_r _ [107, 82, 108, 109, 5, 110, 111, 112, 113, 114, 115, 795, 796, 797, 798, 799, 800, 801, 802, 803, 804, 805, 806] (by decide +kernel) (by decide +kernel)
set_option maxRecDepth 20000 in
theorem gL_law_X8_setLevel : GoodIn wsL_law (wsV RL 17 RX8 yX8_setLevel wsX8_setLevel) := goodIn_app (goodIn_of _ (by decide +kernel)) ggL_law_X8_setLevel
set_option maxRecDepth 20000 in
theorem ggL_law_X7_setHum : GoodIn wsL_law wsX7_setHum := goodIn_r _ [119, 120, 15, 96, 97, 121, 122, 101, 102, 2, 103, 789, 790, 791, 792, 793, 794, 807, 808, 809, 810, 811, 812, 813, 814, 815, 816, 817, 827, 828, 829, 830, 831] (by decide +kernel) (by decide +kernel)
set_option maxRecDepth 20000 in
theorem gL_law_X7_setHum : GoodIn wsL_law (wsV RL 18 RX7 yX7_setHum wsX7_setHum) := goodIn_app (goodIn_of _ (by decide +kernel)) ggL_law_X7_setHum
set_option maxRecDepth 20000 in
theorem ggL_law_X8_setHum : GoodIn wsL_law wsX8_setHum := goodIn_r _ [126, 127, 128, 129, 82, 113, 114, 5, 115, 795, 796, 797, 798, 799, 800, 801, 802, 803, 804, 805, 806] (by decide +kernel) (by decide +kernel)
set_option maxRecDepth 20000 in
theorem gL_law_X8_setHum : GoodIn wsL_law (wsV RL 22 RX8 yX8_setHum wsX8_setHum) := goodIn_app (goodIn_of _ (by decide +kernel)) ggL_law_X8_setHum
set_option maxRecDepth 20000 in
theorem ggL_law_X7_setOffset : GoodIn wsL_law wsX7_setOffset := goodIn_r _ [133, 134, 135, 15, 96, 97, 136, 137, 138, 139, 101, 102, 2, 103, 140, 141, 142, 42, 143, 144, 145, 146, 147, 148, 149, 789, 790, 791, 792, 793, 794, 807, 808, 809, 810, 811, 812, 813, 814, 815, 816, 817, 827, 828, 829, 830, 831] (by decide +kernel) (by decide +kernel)
set_option maxRecDepth 20000 in
theorem gL_law_X7_setOffset : GoodIn wsL_law (wsV RL 23 RX7 yX7_setOffset wsX7_setOffset) := goodIn_app (goodIn_of _ (by decide +kernel)) ggL_law_X7_setOffset
set_option maxRecDepth 20000 in
theorem ggL_law_X8_setOffset : GoodIn wsL_law wsX8_setOffset := goodIn_r _ [153, 154, 155, 156, 157, 82, 158, 113, 114, 5, 115, 159, 160, 161, 162, 163, 164, 165, 166, 795, 796, 797, 798, 799, 800, 801, 802, 803, 804, 805, 806] (by decide +kernel) (by decide +kernel)
set_option maxRecDepth 20000 in
theorem gL_law_X8_setOffset : GoodIn wsL_law (wsV RL 26 RX8 yX8_setOffset wsX8_setOffset) := goodIn_app (goodIn_of _ (by decide +kernel)) ggL_law_X8_setOffset
set_option maxRecDepth 20000 in
theorem ggL_law_X7_set : GoodIn wsL_law wsX7_set := goodIn_r _ [170, 15, 96, 171, 172, 173, 174, 2, 175, 176, 177, 178, 179, 180, 181, 182, 183, 101, 102, 103, 184, 185, 186, 46, 187, 59, 60, 61, 188, 189, 190, 191, 192, 193, 194, 789, 790, 791, 792, 793, 794, 807, 808, 809, 810, 811, 812, 813, 814, 815, 816, 817, 832, 833, 834, 835, 836, 837] (by decide +kernel) (by decide +kernel)
set_option maxRecDepth 20000 in
theorem gL_law_X7_set : GoodIn wsL_law (wsV RL 27 RX7 yX7_set wsX7_set) := goodIn_app (goodIn_of _ (by decide +kernel)) ggL_law_X7_set
set_option maxRecDepth 20000 in
theorem ggL_law_X8_set : GoodIn wsL_law wsX8_set := goodIn_r _ [198, 82, 199, 200, 5, 201, 128, 129, 202, 203, 204, 113, 114, 115, 795, 796, 797, 798, 799, 800, 801, 802, 803, 804, 805, 806] (by decide +kernel) (by decide +kernel)
set_option maxRecDepth 20000 in
theorem gL_law_X8_set : GoodIn wsL_law (wsV RL 30 RX8 yX8_set wsX8_set) := goodIn_app (goodIn_of _ (by decide +kernel)) ggL_law_X8_set
set_option maxRecDepth 20000 in
theorem ggL_law_X7_get : GoodIn wsL_law wsX7_get := goodIn_r _ [208, 15, 96, 171, 173, 174, 2, 175, 176, 177, 184, 185, 186, 46, 187, 59, 60, 61, 188, 189, 190, 789, 790, 791, 792, 793, 794, 807, 808, 809, 810, 811, 812, 813, 814, 815, 816, 817, 832, 833, 834, 835, 836, 837] (by decide +kernel) (by decide +kernel)
set_option maxRecDepth 20000 in
theorem gL_law_X7_get : GoodIn wsL_law (wsV RL 31 RX7 yX7_get wsX7_get) := goodIn_app (goodIn_of _ (by decide +kernel)) ggL_law_X7_get
set_option maxRecDepth 20000 in
theorem ggL_law_X8_get : GoodIn wsL_law wsX8_get := goodIn_r _ [212, 89, 82, 113, 114, 5, 115, 795, 796, 797, 798, 799, 800, 801, 802, 803, 804, 805, 806] (by decide +kernel) (by decide +kernel)
set_option maxRecDepth 20000 in
theorem gL_law_X8_get : GoodIn wsL_law (wsV RL 34 RX8 yX8_get wsX8_get) := goodIn_app (goodIn_of _ (by decide +kernel)) ggL_law_X8_get
set_option maxRecDepth 20000 in
theorem ggL_law_X7_probe : GoodIn wsL_law wsX7_probe := goodIn_r _ [216, 135, 217, 15, 96, 97, 138, 171, 218, 101, 102, 2, 103, 219, 220, 221, 42, 222, 55, 223, 224, 225, 226, 227, 228, 229, 230, 231, 232, 233, 234, 148, 149, 140, 141, 142, 143, 144, 145, 146, 147, 789, 790, 791, 792, 793, 794, 807, 808, 809, 810, 811, 812, 813, 814, 815, 816, 817, 832, 833, 834, 835, 836, 837, 827, 828, 829, 830, 831] (by decide +kernel) (by decide +kernel)
set_option maxRecDepth 20000 in
theorem gL_law_X7_probe : GoodIn wsL_law (wsV RL 35 RX7 yX7_probe wsX7_probe) := goodIn_app (goodIn_of _ (by decide +kernel)) ggL_law_X7_probe
/-! END calls 0 -/
