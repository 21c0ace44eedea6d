theorem lwin_mem {ws : List Cond} (ps : List Nat) (h : ws = ps.filterMap (fun i => lw_tbl[i]?)) : ∀ w ∈ ws, w ∈ lw_tbl := by
  intro w hw
  rw [h] at hw
  obtain ⟨i, -, hi⟩ := List.mem_filterMap.mp hw
  first | exact List.mem_of_getElem? hi | exact List.getElem?_mem hi
theorem lwin_app {a b : List Cond} (ha : ∀ w ∈ a, w ∈ lw_tbl) (hb : ∀ w ∈ b, w ∈ lw_tbl) : ∀ w ∈ a ++ b, w ∈ lw_tbl := fun w h => (List.mem_append.mp h).elim (ha w) (hb w)
set_option maxRecDepth 20000 in
theorem lwin_wsL_law_r1 : ∀ w ∈ wsL_law_r1, w ∈ lw_tbl := lwin_mem [48, 49, 37, 676, 677, 45, 50, 51, 52, 53, 54, 55, 56, 57, 38, 267, 268, 269, 264, 270, 232, 63, 39, 271] (by decide +kernel)
set_option maxRecDepth 20000 in
theorem lwin_wsL_law_r2 : ∀ w ∈ wsL_law_r2, w ∈ lw_tbl := lwin_mem [234, 235, 44, 272, 59, 60, 61, 62, 222, 207, 208, 43, 224, 65, 66, 67, 68, 69, 40, 167, 95, 96, 41, 169] (by decide +kernel)
set_option maxRecDepth 20000 in
theorem lwin_wsL_law_r3 : ∀ w ∈ wsL_law_r3, w ∈ lw_tbl := lwin_mem [127, 128, 42, 171, 71, 72, 73, 78, 98, 99, 100, 101, 104, 105, 130, 131, 132, 210, 211, 212, 221, 213, 237, 238] (by decide +kernel)
set_option maxRecDepth 20000 in
theorem lwin_wsL_law_r4 : ∀ w ∈ wsL_law_r4, w ∈ lw_tbl := lwin_mem [239, 265, 240, 266, 243, 244, 678, 679, 680, 681, 684, 685, 686, 687, 688, 694, 682, 683, 286, 287, 288, 289, 290, 291] (by decide +kernel)
set_option maxRecDepth 20000 in
theorem lwin_wsL_law_r5 : ∀ w ∈ wsL_law_r5, w ∈ lw_tbl := lwin_mem [223, 168, 75, 225, 215, 292, 293, 294, 721, 722, 723, 724, 725, 726, 727, 728, 729, 730, 731, 732, 295, 296, 297, 298] (by decide +kernel)
set_option maxRecDepth 20000 in
theorem lwin_wsL_law_r6 : ∀ w ∈ wsL_law_r6, w ∈ lw_tbl := lwin_mem [299, 79, 77, 733, 734, 735, 736, 737, 738, 739, 300, 301, 302, 303, 304, 305, 81, 83, 175, 315, 306, 307, 308, 309] (by decide +kernel)
set_option maxRecDepth 20000 in
theorem lwin_wsL_law_r7 : ∀ w ∈ wsL_law_r7, w ∈ lw_tbl := lwin_mem [80, 82, 310, 311, 313, 314, 740, 741, 742, 743, 744, 745, 746, 747, 756, 748, 750, 15, 751, 752, 753, 754, 755, 316] (by decide +kernel)
set_option maxRecDepth 20000 in
theorem lwin_wsL_law_r8 : ∀ w ∈ wsL_law_r8, w ∈ lw_tbl := lwin_mem [317, 318, 319, 170, 181, 320, 321, 322, 323, 325, 327, 328, 329, 330, 331, 332, 333, 334, 335, 336, 106, 109, 111, 337] (by decide +kernel)
set_option maxRecDepth 20000 in
theorem lwin_wsL_law_r9 : ∀ w ∈ wsL_law_r9, w ∈ lw_tbl := lwin_mem [338, 339, 340, 757, 758, 759, 760, 761, 762, 763, 764, 765, 766, 341, 342, 343, 344, 767, 768, 769, 770, 345, 346, 347] (by decide +kernel)
set_option maxRecDepth 20000 in
theorem lwin_wsL_law_r10 : ∀ w ∈ wsL_law_r10, w ∈ lw_tbl := lwin_mem [348, 349, 113, 350, 351, 352, 353, 76, 354, 355, 356, 357, 359, 360, 361, 362, 74, 364, 363, 771, 772, 773, 774, 775] (by decide +kernel)
set_option maxRecDepth 20000 in
theorem lwin_wsL_law_r11 : ∀ w ∈ wsL_law_r11, w ∈ lw_tbl := lwin_mem [776, 777, 779, 16, 780, 781, 783, 17, 784, 789, 785, 787, 18, 788, 365, 366, 367, 368, 369, 370, 371, 372, 373, 374] (by decide +kernel)
set_option maxRecDepth 20000 in
theorem lwin_wsL_law_r12 : ∀ w ∈ wsL_law_r12, w ∈ lw_tbl := lwin_mem [375, 376, 377, 107, 180, 112, 182, 174, 184, 139, 177, 186, 102, 416, 110, 378, 379, 380, 381, 382, 384, 0, 385, 141] (by decide +kernel)
set_option maxRecDepth 20000 in
theorem lwin_wsL_law_r13 : ∀ w ∈ wsL_law_r13, w ∈ lw_tbl := lwin_mem [143, 386, 387, 388, 389, 133, 140, 142, 144, 145, 146, 147, 390, 391, 392, 393, 394, 395, 396, 397, 398, 399, 400, 401] (by decide +kernel)
set_option maxRecDepth 20000 in
theorem lwin_wsL_law_r14 : ∀ w ∈ wsL_law_r14, w ∈ lw_tbl := lwin_mem [402, 403, 404, 405, 406, 407, 408, 409, 410, 411, 412, 135, 414, 138, 413, 417, 419, 1, 420, 421, 422, 46, 423, 137] (by decide +kernel)
set_option maxRecDepth 20000 in
theorem lwin_wsL_law_r15 : ∀ w ∈ wsL_law_r15, w ∈ lw_tbl := lwin_mem [424, 425, 426, 428, 429, 430, 431, 432, 433, 434, 187, 183, 172, 136, 185, 176, 178, 214, 435, 437, 2, 438, 439, 440] (by decide +kernel)
set_option maxRecDepth 20000 in
theorem lwin_wsL_law_r16 : ∀ w ∈ wsL_law_r16, w ∈ lw_tbl := lwin_mem [441, 442, 443, 46, 444, 790, 791, 792, 793, 794, 795, 796, 798, 19, 799, 820, 822, 691, 800, 802, 20, 803, 690, 809] (by decide +kernel)
set_option maxRecDepth 20000 in
theorem lwin_wsL_law_r17 : ∀ w ∈ wsL_law_r17, w ∈ lw_tbl := lwin_mem [821, 804, 806, 21, 807, 808, 810, 812, 22, 813, 814, 815, 816, 817, 818, 819, 823, 825, 23, 826, 827, 445, 446, 447] (by decide +kernel)
set_option maxRecDepth 20000 in
theorem lwin_wsL_law_r18 : ∀ w ∈ wsL_law_r18, w ∈ lw_tbl := lwin_mem [448, 179, 450, 449, 828, 829, 830, 831, 832, 451, 452, 453, 454, 455, 456, 457, 458, 459, 833, 834, 835, 836, 837, 460] (by decide +kernel)
set_option maxRecDepth 20000 in
theorem lwin_wsL_law_r19 : ∀ w ∈ wsL_law_r19, w ∈ lw_tbl := lwin_mem [461, 462, 463, 473, 464, 465, 466, 467, 468, 470, 3, 471, 472, 474, 475, 476, 477, 838, 839, 840, 841, 842, 847, 843] (by decide +kernel)
set_option maxRecDepth 20000 in
theorem lwin_wsL_law_r20 : ∀ w ∈ wsL_law_r20, w ∈ lw_tbl := lwin_mem [845, 24, 846, 478, 479, 480, 481, 173, 134, 482, 483, 484, 485, 486, 848, 849, 850, 851, 852, 487, 488, 489, 490, 491] (by decide +kernel)
set_option maxRecDepth 20000 in
theorem lwin_wsL_law_r21 : ∀ w ∈ wsL_law_r21, w ∈ lw_tbl := lwin_mem [492, 493, 494, 495, 496, 497, 498, 499, 500, 501, 502, 503, 504, 505, 506, 507, 508, 509, 510, 511, 512, 513, 514, 515] (by decide +kernel)
set_option maxRecDepth 20000 in
theorem lwin_wsL_law_r22 : ∀ w ∈ wsL_law_r22, w ∈ lw_tbl := lwin_mem [516, 517, 518, 519, 853, 854, 855, 856, 520, 521, 522, 523, 524, 526, 4, 527, 528, 529, 530, 531, 532, 533, 534, 535] (by decide +kernel)
set_option maxRecDepth 20000 in
theorem lwin_wsL_law_r23 : ∀ w ∈ wsL_law_r23, w ∈ lw_tbl := lwin_mem [536, 537, 538, 539, 540, 541, 542, 543, 544, 857, 858, 859, 860, 861, 863, 25, 864, 865, 867, 26, 868, 869, 871, 27] (by decide +kernel)
set_option maxRecDepth 20000 in
theorem lwin_wsL_law_r24 : ∀ w ∈ wsL_law_r24, w ∈ lw_tbl := lwin_mem [872, 545, 546, 547, 548, 103, 549, 551, 5, 552, 553, 554, 873, 874, 875, 876, 877, 879, 28, 880, 555, 556, 557, 558] (by decide +kernel)
set_option maxRecDepth 20000 in
theorem lwin_wsL_law_r25 : ∀ w ∈ wsL_law_r25, w ∈ lw_tbl := lwin_mem [881, 882, 883, 884, 559, 560, 561, 562, 885, 886, 887, 888, 889, 563, 564, 565, 566, 567, 568, 569, 570, 890, 891, 892] (by decide +kernel)
set_option maxRecDepth 20000 in
theorem lwin_wsL_law_r26 : ∀ w ∈ wsL_law_r26, w ∈ lw_tbl := lwin_mem [893, 894, 895, 896, 571, 572, 573, 574, 897, 898, 899, 900, 575, 576, 577, 578, 242, 579, 580, 581, 582, 241, 901, 902] (by decide +kernel)
set_option maxRecDepth 20000 in
theorem lwin_wsL_law_r27 : ∀ w ∈ wsL_law_r27, w ∈ lw_tbl := lwin_mem [903, 904, 905, 906, 689, 583, 584, 585, 586, 907, 908, 909, 910, 587, 588, 589, 590, 591, 592, 593, 594, 247, 245, 595] (by decide +kernel)
set_option maxRecDepth 20000 in
theorem lwin_wsL_law_r28 : ∀ w ∈ wsL_law_r28, w ∈ lw_tbl := lwin_mem [597, 6, 598, 248, 599, 601, 7, 602, 603, 605, 8, 606, 607, 609, 9, 610, 611, 613, 10, 614, 615, 617, 11, 618] (by decide +kernel)
set_option maxRecDepth 20000 in
theorem lwin_wsL_law_r29 : ∀ w ∈ wsL_law_r29, w ∈ lw_tbl := lwin_mem [619, 620, 622, 12, 623, 911, 912, 913, 914, 692, 693, 695, 915, 917, 29, 918, 923, 924, 919, 921, 30, 922, 925, 927] (by decide +kernel)
set_option maxRecDepth 20000 in
theorem lwin_wsL_law_r30 : ∀ w ∈ wsL_law_r30, w ∈ lw_tbl := lwin_mem [31, 928, 929, 930, 931, 933, 32, 934, 935, 937, 33, 938, 625, 626, 627, 628, 629, 630, 631, 632, 633, 634, 635, 636] (by decide +kernel)
set_option maxRecDepth 20000 in
theorem lwin_wsL_law_r31 : ∀ w ∈ wsL_law_r31, w ∈ lw_tbl := lwin_mem [637, 638, 639, 640, 641, 642, 643, 644, 645, 646, 647, 648, 649, 650, 651, 653, 652, 47, 654, 656, 13, 657, 246, 658] (by decide +kernel)
set_option maxRecDepth 20000 in
theorem lwin_wsL_law_r32 : ∀ w ∈ wsL_law_r32, w ∈ lw_tbl := lwin_mem [659, 939, 940, 941, 942, 943, 944, 946, 34, 947, 948, 950, 35, 951, 952, 953, 660, 661, 662, 663, 108, 954, 955, 956] (by decide +kernel)
set_option maxRecDepth 20000 in
theorem lwin_wsL_law_r33 : ∀ w ∈ wsL_law_r33, w ∈ lw_tbl := lwin_mem [957, 664, 665, 666, 667, 668, 670, 14, 671, 958, 959, 960, 961, 672, 673, 674, 675, 962, 963, 964, 965] (by decide +kernel)
set_option maxRecDepth 20000 in
theorem lwin_wsX70 : ∀ w ∈ wsX70, w ∈ lw_tbl := lwin_mem [273, 275, 277, 279, 281, 283] (by decide +kernel)
set_option maxRecDepth 20000 in
theorem lwin_wsX80 : ∀ w ∈ wsX80, w ∈ lw_tbl := lwin_mem [696, 698, 700, 702, 704, 706, 708, 710, 712, 714, 716, 718] (by decide +kernel)
set_option maxRecDepth 20000 in
theorem lwin_wsX60 : ∀ w ∈ wsX60, w ∈ lw_tbl := lwin_mem [226, 228] (by decide +kernel)
set_option maxRecDepth 20000 in
theorem lwin_wsX20 : ∀ w ∈ wsX20, w ∈ lw_tbl := lwin_mem [188, 190, 192, 194, 196, 198, 200, 202, 204] (by decide +kernel)
set_option maxRecDepth 20000 in
theorem lwin_wsX30 : ∀ w ∈ wsX30, w ∈ lw_tbl := lwin_mem [249, 251, 253, 255, 257, 259, 261] (by decide +kernel)
set_option maxRecDepth 20000 in
theorem lwin_wsX10 : ∀ w ∈ wsX10, w ∈ lw_tbl := lwin_mem [216, 218] (by decide +kernel)
set_option maxRecDepth 20000 in
theorem lwin_wsX50 : ∀ w ∈ wsX50, w ∈ lw_tbl := lwin_mem [84, 86, 88, 90, 92] (by decide +kernel)
set_option maxRecDepth 20000 in
theorem lwin_wsX40 : ∀ w ∈ wsX40, w ∈ lw_tbl := lwin_mem [114, 116, 118, 120, 122, 124] (by decide +kernel)
set_option maxRecDepth 20000 in
theorem lwin_wsX00 : ∀ w ∈ wsX00, w ∈ lw_tbl := lwin_mem [148, 150, 152, 154, 156, 158, 160, 162, 164] (by decide +kernel)
theorem wsL_law_in : ∀ w ∈ wsL_law, w ∈ lw_tbl := lwin_app (lwin_app (lwin_app (lwin_app (lwin_app (lwin_app (lwin_app (lwin_app (lwin_app (lwin_app (lwin_app lwin_wsL_law_r1 (lwin_app lwin_wsL_law_r2 (lwin_app lwin_wsL_law_r3 (lwin_app lwin_wsL_law_r4 (lwin_app lwin_wsL_law_r5 (lwin_app lwin_wsL_law_r6 (lwin_app lwin_wsL_law_r7 (lwin_app lwin_wsL_law_r8 (lwin_app lwin_wsL_law_r9 (lwin_app lwin_wsL_law_r10 (lwin_app lwin_wsL_law_r11 (lwin_app lwin_wsL_law_r12 (lwin_app lwin_wsL_law_r13 (lwin_app lwin_wsL_law_r14 (lwin_app lwin_wsL_law_r15 (lwin_app lwin_wsL_law_r16 (lwin_app lwin_wsL_law_r17 (lwin_app lwin_wsL_law_r18 (lwin_app lwin_wsL_law_r19 (lwin_app lwin_wsL_law_r20 (lwin_app lwin_wsL_law_r21 (lwin_app lwin_wsL_law_r22 (lwin_app lwin_wsL_law_r23 (lwin_app lwin_wsL_law_r24 (lwin_app lwin_wsL_law_r25 (lwin_app lwin_wsL_law_r26 (lwin_app lwin_wsL_law_r27 (lwin_app lwin_wsL_law_r28 (lwin_app lwin_wsL_law_r29 (lwin_app lwin_wsL_law_r30 (lwin_app lwin_wsL_law_r31 (lwin_app lwin_wsL_law_r32 lwin_wsL_law_r33)))))))))))))))))))))))))))))))) lwin_wsX70) lwin_wsX80) lwin_wsX60) lwin_wsX20) lwin_wsX30) lwin_wsX10) lwin_wsX50) lwin_wsX40) lwin_wsX00) (fun _ h => absurd h List.not_mem_nil)
theorem inlX0 : ∀ w ∈ wsX00, w ∈ wsL_law := fun _ h => List.mem_append_left _ (List.mem_append_right _ h)
theorem inX0 : ∀ w ∈ wsX00, w ∈ lw_tbl := fun w h => wsL_law_in w (inlX0 w h)
theorem inlX1 : ∀ w ∈ wsX10, w ∈ wsL_law := fun _ h => List.mem_append_left _ (List.mem_append_left _ (List.mem_append_left _ (List.mem_append_left _ (List.mem_append_right _ h))))
theorem inX1 : ∀ w ∈ wsX10, w ∈ lw_tbl := fun w h => wsL_law_in w (inlX1 w h)
theorem inlX2 : ∀ w ∈ wsX20, w ∈ wsL_law := fun _ h => List.mem_append_left _ (List.mem_append_left _ (List.mem_append_left _ (List.mem_append_left _ (List.mem_append_left _ (List.mem_append_left _ (List.mem_append_right _ h))))))
theorem inX2 : ∀ w ∈ wsX20, w ∈ lw_tbl := fun w h => wsL_law_in w (inlX2 w h)
theorem inlX3 : ∀ w ∈ wsX30, w ∈ wsL_law := fun _ h => List.mem_append_left _ (List.mem_append_left _ (List.mem_append_left _ (List.mem_append_left _ (List.mem_append_left _ (List.mem_append_right _ h)))))
theorem inX3 : ∀ w ∈ wsX30, w ∈ lw_tbl := fun w h => wsL_law_in w (inlX3 w h)
theorem inlX4 : ∀ w ∈ wsX40, w ∈ wsL_law := fun _ h => List.mem_append_left _ (List.mem_append_left _ (List.mem_append_right _ h))
theorem inX4 : ∀ w ∈ wsX40, w ∈ lw_tbl := fun w h => wsL_law_in w (inlX4 w h)
theorem inlX5 : ∀ w ∈ wsX50, w ∈ wsL_law := fun _ h => List.mem_append_left _ (List.mem_append_left _ (List.mem_append_left _ (List.mem_append_right _ h)))
theorem inX5 : ∀ w ∈ wsX50, w ∈ lw_tbl := fun w h => wsL_law_in w (inlX5 w h)
theorem inlX6 : ∀ w ∈ wsX60, w ∈ wsL_law := fun _ h => List.mem_append_left _ (List.mem_append_left _ (List.mem_append_left _ (List.mem_append_left _ (List.mem_append_left _ (List.mem_append_left _ (List.mem_append_left _ (List.mem_append_right _ h)))))))
theorem inX6 : ∀ w ∈ wsX60, w ∈ lw_tbl := fun w h => wsL_law_in w (inlX6 w h)
theorem inlX7 : ∀ w ∈ wsX70, w ∈ wsL_law := fun _ h => List.mem_append_left _ (List.mem_append_left _ (List.mem_append_left _ (List.mem_append_left _ (List.mem_append_left _ (List.mem_append_left _ (List.mem_append_left _ (List.mem_append_left _ (List.mem_append_left _ (List.mem_append_right _ h)))))))))
theorem inX7 : ∀ w ∈ wsX70, w ∈ lw_tbl := fun w h => wsL_law_in w (inlX7 w h)
theorem inlX8 : ∀ w ∈ wsX80, w ∈ wsL_law := fun _ h => List.mem_append_left _ (List.mem_append_left _ (List.mem_append_left _ (List.mem_append_left _ (List.mem_append_left _ (List.mem_append_left _ (List.mem_append_left _ (List.mem_append_left _ (List.mem_append_right _ h))))))))
theorem inX8 : ∀ w ∈ wsX80, w ∈ lw_tbl := fun w h => wsL_law_in w (inlX8 w h)
theorem inJ9 : ∀ w ∈ wsJ90, w ∈ lw_tbl := by decide +kernel
/-! END g -/
