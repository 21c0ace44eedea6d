abbrev csT : List (List Cond) := [k2_sels lw_privs_1, tables_1_1, tables_1_2, tables_1_3]
set_option maxRecDepth 20000 in
theorem hbT : lw_tbl = csT.flatten := rfl
theorem lwin_app {a b : List Cond} (ha : ∀ w ∈ a, w ∈ lw_tbl) (hb : ∀ w ∈ b, w ∈ lw_tbl) : ∀ w ∈ a ++ b, w ∈ lw_tbl := fun w h => (List.mem_append.mp h).elim (ha w) (hb w)
set_option maxRecDepth 20000 in
theorem lwin_wsL_law_r1 : ∀ w ∈ wsL_law_r1, w ∈ lw_tbl := in_c csT hbT _ [(1, 11), (1, 12), (1, 1), (3, 107), (3, 108), (1, 13), (1, 14), (1, 15), (1, 16), (1, 17), (1, 18), (1, 19), (1, 20), (1, 2), (1, 230), (1, 231), (1, 232), (1, 227), (1, 233), (1, 195), (1, 26), (1, 3), (1, 234), (1, 197)] rfl
set_option maxRecDepth 20000 in
theorem lwin_wsL_law_r2 : ∀ w ∈ wsL_law_r2, w ∈ lw_tbl := in_c csT hbT _ [(1, 198), (1, 8), (1, 235), (1, 22), (1, 23), (1, 24), (1, 25), (1, 185), (1, 170), (1, 171), (1, 7), (1, 187), (1, 28), (1, 29), (1, 30), (1, 31), (1, 32), (1, 4), (1, 130), (1, 58), (1, 59), (1, 5), (1, 132), (1, 90)] rfl
set_option maxRecDepth 20000 in
theorem lwin_wsL_law_r3 : ∀ w ∈ wsL_law_r3, w ∈ lw_tbl := in_c csT hbT _ [(1, 91), (1, 6), (1, 134), (1, 34), (1, 35), (1, 36), (1, 41), (1, 61), (1, 62), (1, 63), (1, 64), (1, 67), (1, 68), (1, 93), (1, 94), (1, 95), (1, 173), (1, 174), (1, 175), (1, 184), (1, 176), (1, 200), (1, 201), (1, 202)] rfl
set_option maxRecDepth 20000 in
theorem lwin_wsL_law_r4 : ∀ w ∈ wsL_law_r4, w ∈ lw_tbl := in_c csT hbT _ [(1, 228), (1, 203), (1, 229), (1, 206), (1, 207), (2, 37), (2, 38), (1, 0), (2, 39), (2, 40), (3, 223), (3, 224), (3, 225), (3, 226), (3, 78), (3, 227), (3, 228), (3, 73), (2, 41), (2, 42), (2, 43), (2, 44), (2, 166), (2, 167)] rfl
set_option maxRecDepth 20000 in
theorem lwin_wsL_law_r5 : ∀ w ∈ wsL_law_r5, w ∈ lw_tbl := in_c csT hbT _ [(2, 168), (2, 169), (2, 170), (2, 171), (1, 186), (1, 131), (1, 38), (1, 188), (1, 178), (2, 26), (2, 27), (2, 28), (2, 54), (2, 55), (2, 56), (2, 57), (2, 58), (1, 42), (1, 40), (2, 61), (2, 62), (2, 63), (2, 64), (2, 65)] rfl
set_option maxRecDepth 20000 in
theorem lwin_wsL_law_r6 : ∀ w ∈ wsL_law_r6, w ∈ lw_tbl := in_c csT hbT _ [(2, 66), (1, 44), (1, 46), (1, 138), (2, 76), (2, 67), (2, 68), (2, 69), (2, 70), (1, 43), (1, 45), (2, 71), (2, 72), (2, 74), (2, 75), (2, 9), (2, 10), (2, 11), (2, 12), (1, 133), (1, 144), (2, 13), (2, 14), (2, 15)] rfl
set_option maxRecDepth 20000 in
theorem lwin_wsL_law_r7 : ∀ w ∈ wsL_law_r7, w ∈ lw_tbl := in_c csT hbT _ [(2, 16), (2, 18), (2, 20), (2, 21), (2, 22), (2, 23), (2, 24), (2, 25), (2, 29), (2, 30), (2, 31), (2, 32), (1, 69), (1, 72), (1, 74), (2, 33), (2, 34), (2, 35), (2, 36), (2, 98), (2, 99), (2, 100), (2, 101), (2, 78)] rfl
set_option maxRecDepth 20000 in
theorem lwin_wsL_law_r8 : ∀ w ∈ wsL_law_r8, w ∈ lw_tbl := in_c csT hbT _ [(2, 79), (2, 80), (2, 81), (2, 82), (1, 76), (2, 83), (2, 84), (2, 85), (2, 86), (1, 39), (2, 87), (2, 88), (2, 89), (2, 90), (2, 92), (2, 93), (2, 94), (2, 95), (1, 37), (2, 97), (2, 96), (2, 102), (2, 103), (2, 104)] rfl
set_option maxRecDepth 20000 in
theorem lwin_wsL_law_r9 : ∀ w ∈ wsL_law_r9, w ∈ lw_tbl := in_c csT hbT _ [(2, 105), (2, 106), (2, 107), (2, 108), (2, 109), (1, 137), (2, 110), (3, 5), (3, 6), (3, 7), (3, 8), (3, 18), (3, 9), (3, 10), (3, 11), (3, 12), (1, 177), (3, 13), (3, 15), (0, 4), (3, 16), (3, 17), (2, 215), (1, 9)] rfl
set_option maxRecDepth 20000 in
theorem lwin_wsL_law_r10 : ∀ w ∈ wsL_law_r10, w ∈ lw_tbl := in_c csT hbT _ [(2, 216), (3, 19), (3, 20), (3, 21), (3, 22), (2, 239), (3, 0), (3, 1), (3, 2), (3, 3), (1, 9), (3, 4), (2, 152), (2, 153), (2, 154), (2, 155), (1, 136), (1, 97), (2, 156), (2, 157), (2, 158), (2, 159), (2, 160), (1, 101)] rfl
set_option maxRecDepth 20000 in
theorem lwin_wsL_law_r11 : ∀ w ∈ wsL_law_r11, w ∈ lw_tbl := in_c csT hbT _ [(1, 103), (1, 105), (1, 107), (1, 108), (1, 109), (1, 110), (3, 40), (3, 41), (3, 42), (3, 43), (3, 44), (3, 45), (3, 46), (3, 47), (3, 48), (3, 49), (3, 50), (3, 51), (3, 52), (3, 53), (3, 54), (3, 55), (3, 56), (3, 57)] rfl
set_option maxRecDepth 20000 in
theorem lwin_wsL_law_r12 : ∀ w ∈ wsL_law_r12, w ∈ lw_tbl := in_c csT hbT _ [(3, 58), (3, 59), (3, 60), (3, 61), (3, 62), (3, 63), (3, 64), (3, 65), (3, 66), (3, 67), (3, 68), (3, 69), (3, 70), (3, 71), (3, 72), (2, 176), (2, 177), (2, 178), (2, 179), (2, 180), (2, 182), (0, 1), (2, 183), (2, 184)] rfl
set_option maxRecDepth 20000 in
theorem lwin_wsL_law_r13 : ∀ w ∈ wsL_law_r13, w ∈ lw_tbl := in_c csT hbT _ [(2, 185), (2, 186), (2, 187), (1, 140), (1, 143), (1, 145), (1, 147), (1, 149), (2, 188), (2, 189), (2, 190), (2, 191), (2, 192), (2, 193), (2, 194), (2, 195), (2, 196), (2, 197), (2, 198), (2, 199), (1, 96), (1, 98), (2, 200), (2, 201)] rfl
set_option maxRecDepth 20000 in
theorem lwin_wsL_law_r14 : ∀ w ∈ wsL_law_r14, w ∈ lw_tbl := in_c csT hbT _ [(2, 202), (2, 203), (1, 70), (1, 75), (1, 102), (1, 65), (2, 206), (1, 73), (2, 204), (2, 116), (2, 117), (2, 118), (2, 119), (2, 121), (0, 0), (2, 122), (1, 104), (1, 106), (2, 123), (2, 124), (2, 125), (2, 126), (2, 127), (2, 128)] rfl
set_option maxRecDepth 20000 in
theorem lwin_wsL_law_r15 : ∀ w ∈ wsL_law_r15, w ∈ lw_tbl := in_c csT hbT _ [(2, 129), (2, 130), (2, 131), (2, 132), (2, 133), (2, 134), (2, 135), (2, 136), (2, 137), (2, 138), (2, 139), (2, 140), (2, 141), (2, 142), (2, 143), (2, 144), (2, 145), (2, 146), (2, 147), (2, 148), (2, 149), (2, 151), (2, 150), (2, 207)] rfl
set_option maxRecDepth 20000 in
theorem lwin_wsL_law_r16 : ∀ w ∈ wsL_law_r16, w ∈ lw_tbl := in_c csT hbT _ [(2, 209), (0, 2), (2, 210), (2, 211), (2, 212), (2, 213), (1, 100), (2, 214), (2, 218), (2, 219), (2, 220), (3, 110), (3, 111), (3, 112), (3, 113), (1, 66), (3, 114), (3, 116), (0, 6), (3, 117), (3, 118), (3, 119), (3, 120), (3, 121)] rfl
set_option maxRecDepth 20000 in
theorem lwin_wsL_law_r17 : ∀ w ∈ wsL_law_r17, w ∈ lw_tbl := in_c csT hbT _ [(3, 122), (3, 123), (3, 79), (3, 80), (3, 81), (3, 82), (3, 148), (3, 149), (3, 150), (3, 151), (1, 205), (3, 152), (3, 153), (3, 154), (3, 155), (1, 204), (2, 48), (2, 49), (2, 50), (2, 51), (2, 52), (1, 142), (1, 71), (3, 86)] rfl
set_option maxRecDepth 20000 in
theorem lwin_wsL_law_r18 : ∀ w ∈ wsL_law_r18, w ∈ lw_tbl := in_c csT hbT _ [(3, 87), (3, 88), (3, 89), (3, 90), (3, 92), (0, 5), (3, 93), (3, 94), (3, 95), (3, 96), (3, 97), (3, 98), (3, 99), (3, 100), (3, 101), (3, 102), (3, 103), (3, 104), (3, 106), (3, 105), (1, 10), (3, 124), (3, 125), (3, 126)] rfl
set_option maxRecDepth 20000 in
theorem lwin_wsL_law_r19 : ∀ w ∈ wsL_law_r19, w ∈ lw_tbl := in_c csT hbT _ [(3, 127), (3, 194), (3, 195), (3, 196), (3, 197), (3, 160), (3, 161), (3, 162), (3, 163), (1, 210), (1, 208), (3, 164), (3, 166), (0, 7), (3, 167), (1, 211), (3, 168), (3, 170), (0, 8), (3, 171), (3, 172), (3, 174), (0, 9), (3, 175)] rfl
set_option maxRecDepth 20000 in
theorem lwin_wsL_law_r20 : ∀ w ∈ wsL_law_r20, w ∈ lw_tbl := in_c csT hbT _ [(3, 176), (3, 178), (0, 10), (3, 179), (3, 180), (3, 182), (0, 11), (3, 183), (3, 184), (3, 186), (0, 12), (3, 187), (3, 188), (3, 189), (3, 191), (0, 13), (3, 192), (3, 198), (3, 199), (3, 200), (3, 201), (3, 202), (3, 203), (3, 204)] rfl
set_option maxRecDepth 20000 in
theorem lwin_wsL_law_r21 : ∀ w ∈ wsL_law_r21, w ∈ lw_tbl := in_c csT hbT _ [(3, 205), (3, 206), (3, 207), (3, 208), (3, 209), (3, 210), (3, 212), (0, 14), (3, 213), (1, 209), (3, 214), (3, 215), (2, 226), (2, 227), (2, 228), (2, 229), (2, 230), (2, 231), (2, 232), (2, 233), (2, 234), (1, 150), (1, 146), (1, 135)] rfl
set_option maxRecDepth 20000 in
theorem lwin_wsL_law_r22 : ∀ w ∈ wsL_law_r22, w ∈ lw_tbl := in_c csT hbT _ [(1, 99), (1, 148), (1, 139), (1, 141), (2, 235), (2, 237), (0, 3), (2, 238), (2, 115), (2, 45), (2, 46), (2, 47), (2, 53), (2, 59), (2, 60), (2, 77), (2, 161), (2, 162), (2, 163), (2, 164), (2, 165), (2, 111), (2, 112), (2, 113)] rfl
set_option maxRecDepth 20000 in
theorem lwin_wsL_law_r23 : ∀ w ∈ wsL_law_r23, w ∈ lw_tbl := in_c csT hbT _ [(2, 114), (2, 172), (2, 173), (2, 174), (2, 175), (3, 23), (3, 24), (3, 25), (3, 26), (3, 30), (3, 31), (3, 32), (2, 221), (2, 222), (2, 223), (2, 224), (2, 225), (3, 27), (3, 28), (3, 29), (3, 33), (3, 34), (3, 35), (3, 36)] rfl
set_option maxRecDepth 20000 in
theorem lwin_wsL_law_r24 : ∀ w ∈ wsL_law_r24, w ∈ lw_tbl := in_c csT hbT _ [(3, 37), (3, 38), (3, 39), (3, 74), (3, 75), (3, 76), (3, 77), (3, 83), (3, 84), (3, 85), (3, 109), (3, 128), (3, 129), (3, 130), (3, 139), (3, 131), (3, 132), (3, 133), (3, 134), (3, 135), (3, 136), (3, 137), (3, 138), (3, 140)] rfl
set_option maxRecDepth 20000 in
theorem lwin_wsL_law_r25 : ∀ w ∈ wsL_law_r25, w ∈ lw_tbl := in_c csT hbT _ [(3, 141), (3, 142), (3, 143), (3, 144), (3, 145), (3, 146), (3, 147), (3, 156), (3, 157), (3, 158), (3, 159), (3, 216), (3, 217), (3, 218), (3, 219), (3, 220), (3, 221), (3, 222)] rfl
set_option maxRecDepth 20000 in
theorem lwin_wsX70 : ∀ w ∈ wsX70, w ∈ lw_tbl := in_c csT hbT _ [(1, 236), (1, 238), (2, 0), (2, 2), (2, 4), (2, 6)] rfl
set_option maxRecDepth 20000 in
theorem lwin_wsX60 : ∀ w ∈ wsX60, w ∈ lw_tbl := in_c csT hbT _ [(1, 189), (1, 191)] rfl
set_option maxRecDepth 20000 in
theorem lwin_wsX20 : ∀ w ∈ wsX20, w ∈ lw_tbl := in_c csT hbT _ [(1, 151), (1, 153), (1, 155), (1, 157), (1, 159), (1, 161), (1, 163), (1, 165), (1, 167)] rfl
set_option maxRecDepth 20000 in
theorem lwin_wsX30 : ∀ w ∈ wsX30, w ∈ lw_tbl := in_c csT hbT _ [(1, 212), (1, 214), (1, 216), (1, 218), (1, 220), (1, 222), (1, 224)] rfl
set_option maxRecDepth 20000 in
theorem lwin_wsX10 : ∀ w ∈ wsX10, w ∈ lw_tbl := in_c csT hbT _ [(1, 179), (1, 181)] rfl
set_option maxRecDepth 20000 in
theorem lwin_wsX50 : ∀ w ∈ wsX50, w ∈ lw_tbl := in_c csT hbT _ [(1, 47), (1, 49), (1, 51), (1, 53), (1, 55)] rfl
set_option maxRecDepth 20000 in
theorem lwin_wsX40 : ∀ w ∈ wsX40, w ∈ lw_tbl := in_c csT hbT _ [(1, 77), (1, 79), (1, 81), (1, 83), (1, 85), (1, 87)] rfl
set_option maxRecDepth 20000 in
theorem lwin_wsX00 : ∀ w ∈ wsX00, w ∈ lw_tbl := in_c csT hbT _ [(1, 111), (1, 113), (1, 115), (1, 117), (1, 119), (1, 121), (1, 123), (1, 125), (1, 127)] rfl
theorem wsL_law_in : ∀ w ∈ wsL_law, w ∈ lw_tbl := lwin_app (lwin_app (lwin_app (lwin_app (lwin_app (lwin_app (lwin_app (lwin_app (lwin_app (lwin_app lwin_wsL_law_r1 (lwin_app lwin_wsL_law_r2 (lwin_app lwin_wsL_law_r3 (lwin_app lwin_wsL_law_r4 (lwin_app lwin_wsL_law_r5 (lwin_app lwin_wsL_law_r6 (lwin_app lwin_wsL_law_r7 (lwin_app lwin_wsL_law_r8 (lwin_app lwin_wsL_law_r9 (lwin_app lwin_wsL_law_r10 (lwin_app lwin_wsL_law_r11 (lwin_app lwin_wsL_law_r12 (lwin_app lwin_wsL_law_r13 (lwin_app lwin_wsL_law_r14 (lwin_app lwin_wsL_law_r15 (lwin_app lwin_wsL_law_r16 (lwin_app lwin_wsL_law_r17 (lwin_app lwin_wsL_law_r18 (lwin_app lwin_wsL_law_r19 (lwin_app lwin_wsL_law_r20 (lwin_app lwin_wsL_law_r21 (lwin_app lwin_wsL_law_r22 (lwin_app lwin_wsL_law_r23 (lwin_app lwin_wsL_law_r24 lwin_wsL_law_r25)))))))))))))))))))))))) lwin_wsX70) lwin_wsX60) lwin_wsX20) lwin_wsX30) lwin_wsX10) lwin_wsX50) lwin_wsX40) lwin_wsX00) (fun _ h => absurd h List.not_mem_nil)
theorem inlX0 : ∀ w ∈ wsX00, w ∈ wsL_law := fun _ h => List.mem_append_left _ (List.mem_append_right _ h)
theorem inX0 : ∀ w ∈ wsX00, w ∈ lw_tbl := fun w h => wsL_law_in w (inlX0 w h)
theorem inlX1 : ∀ w ∈ wsX10, w ∈ wsL_law := fun _ h => List.mem_append_left _ (List.mem_append_left _ (List.mem_append_left _ (List.mem_append_left _ (List.mem_append_right _ h))))
theorem inX1 : ∀ w ∈ wsX10, w ∈ lw_tbl := fun w h => wsL_law_in w (inlX1 w h)
theorem inlX2 : ∀ w ∈ wsX20, w ∈ wsL_law := fun _ h => List.mem_append_left _ (List.mem_append_left _ (List.mem_append_left _ (List.mem_append_left _ (List.mem_append_left _ (List.mem_append_left _ (List.mem_append_right _ h))))))
theorem inX2 : ∀ w ∈ wsX20, w ∈ lw_tbl := fun w h => wsL_law_in w (inlX2 w h)
theorem inlX3 : ∀ w ∈ wsX30, w ∈ wsL_law := fun _ h => List.mem_append_left _ (List.mem_append_left _ (List.mem_append_left _ (List.mem_append_left _ (List.mem_append_left _ (List.mem_append_right _ h)))))
theorem inX3 : ∀ w ∈ wsX30, w ∈ lw_tbl := fun w h => wsL_law_in w (inlX3 w h)
theorem inlX4 : ∀ w ∈ wsX40, w ∈ wsL_law := fun _ h => List.mem_append_left _ (List.mem_append_left _ (List.mem_append_right _ h))
theorem inX4 : ∀ w ∈ wsX40, w ∈ lw_tbl := fun w h => wsL_law_in w (inlX4 w h)
theorem inlX5 : ∀ w ∈ wsX50, w ∈ wsL_law := fun _ h => List.mem_append_left _ (List.mem_append_left _ (List.mem_append_left _ (List.mem_append_right _ h)))
theorem inX5 : ∀ w ∈ wsX50, w ∈ lw_tbl := fun w h => wsL_law_in w (inlX5 w h)
theorem inlX6 : ∀ w ∈ wsX60, w ∈ wsL_law := fun _ h => List.mem_append_left _ (List.mem_append_left _ (List.mem_append_left _ (List.mem_append_left _ (List.mem_append_left _ (List.mem_append_left _ (List.mem_append_left _ (List.mem_append_right _ h)))))))
theorem inX6 : ∀ w ∈ wsX60, w ∈ lw_tbl := fun w h => wsL_law_in w (inlX6 w h)
theorem inlX7 : ∀ w ∈ wsX70, w ∈ wsL_law := fun _ h => List.mem_append_left _ (List.mem_append_left _ (List.mem_append_left _ (List.mem_append_left _ (List.mem_append_left _ (List.mem_append_left _ (List.mem_append_left _ (List.mem_append_left _ (List.mem_append_right _ h))))))))
theorem inX7 : ∀ w ∈ wsX70, w ∈ lw_tbl := fun w h => wsL_law_in w (inlX7 w h)
theorem inX8 : ∀ w ∈ wsX80, w ∈ lw_tbl := by decide +kernel
theorem inJ9 : ∀ w ∈ wsJ90, w ∈ lw_tbl := by decide +kernel
/-! END g -/
