abbrev csT : List (List Cond) := [k2_sels lw_privs_1, k2_sels lw_privs_2, k2_sels lw_privs_3, tables_1_1, tables_1_2, tables_1_3, tables_1_4]
set_option maxRecDepth 20000 in
theorem hbT : lw_tbl = csT.flatten := rfl
theorem lwin_app {a b : List Cond} (ha : ∀ w ∈ a, w ∈ lw_tbl) (hb : ∀ w ∈ b, w ∈ lw_tbl) : ∀ w ∈ a ++ b, w ∈ lw_tbl := fun w h => (List.mem_append.mp h).elim (ha w) (hb w)
set_option maxRecDepth 20000 in
theorem lwin_wsL_law_r1 : ∀ w ∈ wsL_law_r1, w ∈ lw_tbl := in_c csT hbT _ [(3, 12), (3, 13), (3, 1), (5, 160), (5, 161), (3, 9), (3, 14), (3, 15), (3, 16), (3, 17), (3, 18), (3, 19), (3, 20), (3, 21), (3, 2), (3, 231), (3, 232), (3, 233), (3, 228), (3, 234), (3, 196), (3, 27), (3, 3), (3, 235)] rfl
set_option maxRecDepth 20000 in
theorem lwin_wsL_law_r2 : ∀ w ∈ wsL_law_r2, w ∈ lw_tbl := in_c csT hbT _ [(3, 198), (3, 199), (3, 8), (3, 236), (3, 23), (3, 24), (3, 25), (3, 26), (3, 186), (3, 171), (3, 172), (3, 7), (3, 188), (3, 29), (3, 30), (3, 31), (3, 32), (3, 33), (3, 4), (3, 131), (3, 59), (3, 60), (3, 5), (3, 133)] rfl
set_option maxRecDepth 20000 in
theorem lwin_wsL_law_r3 : ∀ w ∈ wsL_law_r3, w ∈ lw_tbl := in_c csT hbT _ [(3, 91), (3, 92), (3, 6), (3, 135), (3, 35), (3, 36), (3, 37), (3, 42), (3, 62), (3, 63), (3, 64), (3, 65), (3, 68), (3, 69), (3, 94), (3, 95), (3, 96), (3, 174), (3, 175), (3, 176), (3, 185), (3, 177), (3, 201), (3, 202)] rfl
set_option maxRecDepth 20000 in
theorem lwin_wsL_law_r4 : ∀ w ∈ wsL_law_r4, w ∈ lw_tbl := in_c csT hbT _ [(3, 203), (3, 229), (3, 204), (3, 230), (3, 207), (3, 208), (5, 162), (5, 163), (5, 164), (5, 165), (5, 168), (5, 169), (5, 170), (5, 171), (5, 172), (5, 178), (5, 166), (5, 167), (4, 10), (4, 11), (4, 12), (4, 13), (4, 14), (4, 15)] rfl
set_option maxRecDepth 20000 in
theorem lwin_wsL_law_r5 : ∀ w ∈ wsL_law_r5, w ∈ lw_tbl := in_c csT hbT _ [(3, 187), (3, 132), (3, 39), (3, 189), (3, 179), (4, 16), (4, 17), (4, 18), (5, 205), (5, 206), (5, 207), (5, 208), (5, 209), (5, 210), (5, 211), (5, 212), (5, 213), (5, 214), (5, 215), (5, 216), (4, 19), (4, 20), (4, 21), (4, 22)] rfl
set_option maxRecDepth 20000 in
theorem lwin_wsL_law_r6 : ∀ w ∈ wsL_law_r6, w ∈ lw_tbl := in_c csT hbT _ [(4, 23), (3, 43), (3, 41), (5, 217), (5, 218), (5, 219), (5, 220), (5, 221), (5, 222), (5, 223), (4, 24), (4, 25), (4, 26), (4, 27), (4, 28), (4, 29), (3, 45), (3, 47), (3, 139), (4, 39), (4, 30), (4, 31), (4, 32), (4, 33)] rfl
set_option maxRecDepth 20000 in
theorem lwin_wsL_law_r7 : ∀ w ∈ wsL_law_r7, w ∈ lw_tbl := in_c csT hbT _ [(3, 44), (3, 46), (4, 34), (4, 35), (4, 37), (4, 38), (5, 224), (5, 225), (5, 226), (5, 227), (5, 228), (5, 229), (5, 230), (5, 231), (6, 0), (5, 232), (5, 234), (0, 15), (5, 235), (5, 236), (5, 237), (5, 238), (5, 239), (4, 40)] rfl
set_option maxRecDepth 20000 in
theorem lwin_wsL_law_r8 : ∀ w ∈ wsL_law_r8, w ∈ lw_tbl := in_c csT hbT _ [(4, 41), (4, 42), (4, 43), (3, 134), (3, 145), (4, 44), (4, 45), (4, 46), (4, 47), (4, 49), (4, 51), (4, 52), (4, 53), (4, 54), (4, 55), (4, 56), (4, 57), (4, 58), (4, 59), (4, 60), (3, 70), (3, 73), (3, 75), (4, 61)] rfl
set_option maxRecDepth 20000 in
theorem lwin_wsL_law_r9 : ∀ w ∈ wsL_law_r9, w ∈ lw_tbl := in_c csT hbT _ [(4, 62), (4, 63), (4, 64), (6, 1), (6, 2), (6, 3), (6, 4), (6, 5), (6, 6), (6, 7), (6, 8), (6, 9), (6, 10), (4, 65), (4, 66), (4, 67), (4, 68), (6, 11), (6, 12), (6, 13), (6, 14), (4, 69), (4, 70), (4, 71)] rfl
set_option maxRecDepth 20000 in
theorem lwin_wsL_law_r10 : ∀ w ∈ wsL_law_r10, w ∈ lw_tbl := in_c csT hbT _ [(4, 72), (4, 73), (3, 77), (4, 74), (4, 75), (4, 76), (4, 77), (3, 40), (4, 78), (4, 79), (4, 80), (4, 81), (4, 83), (4, 84), (4, 85), (4, 86), (3, 38), (4, 88), (4, 87), (6, 15), (6, 16), (6, 17), (6, 18), (6, 19)] rfl
set_option maxRecDepth 20000 in
theorem lwin_wsL_law_r11 : ∀ w ∈ wsL_law_r11, w ∈ lw_tbl := in_c csT hbT _ [(6, 20), (6, 21), (6, 23), (1, 0), (6, 24), (6, 25), (6, 27), (1, 1), (6, 28), (6, 33), (6, 29), (6, 31), (1, 2), (6, 32), (4, 89), (4, 90), (4, 91), (4, 92), (4, 93), (4, 94), (4, 95), (4, 96), (4, 97), (4, 98)] rfl
set_option maxRecDepth 20000 in
theorem lwin_wsL_law_r12 : ∀ w ∈ wsL_law_r12, w ∈ lw_tbl := in_c csT hbT _ [(4, 99), (4, 100), (4, 101), (3, 71), (3, 144), (3, 76), (3, 146), (3, 138), (3, 148), (3, 103), (3, 141), (3, 150), (3, 66), (4, 140), (3, 74), (4, 102), (4, 103), (4, 104), (4, 105), (4, 106), (4, 108), (0, 0), (4, 109), (3, 105)] rfl
set_option maxRecDepth 20000 in
theorem lwin_wsL_law_r13 : ∀ w ∈ wsL_law_r13, w ∈ lw_tbl := in_c csT hbT _ [(3, 107), (4, 110), (4, 111), (4, 112), (4, 113), (3, 97), (3, 104), (3, 106), (3, 108), (3, 109), (3, 110), (3, 111), (4, 114), (4, 115), (4, 116), (4, 117), (4, 118), (4, 119), (4, 120), (4, 121), (4, 122), (4, 123), (4, 124), (4, 125)] rfl
set_option maxRecDepth 20000 in
theorem lwin_wsL_law_r14 : ∀ w ∈ wsL_law_r14, w ∈ lw_tbl := in_c csT hbT _ [(4, 126), (4, 127), (4, 128), (4, 129), (4, 130), (4, 131), (4, 132), (4, 133), (4, 134), (4, 135), (4, 136), (3, 99), (4, 138), (3, 102), (4, 137), (4, 141), (4, 143), (0, 1), (4, 144), (4, 145), (4, 146), (3, 10), (4, 147), (3, 101)] rfl
set_option maxRecDepth 20000 in
theorem lwin_wsL_law_r15 : ∀ w ∈ wsL_law_r15, w ∈ lw_tbl := in_c csT hbT _ [(4, 148), (4, 149), (4, 150), (4, 152), (4, 153), (4, 154), (4, 155), (4, 156), (4, 157), (4, 158), (3, 151), (3, 147), (3, 136), (3, 100), (3, 149), (3, 140), (3, 142), (3, 178), (4, 159), (4, 161), (0, 2), (4, 162), (4, 163), (4, 164)] rfl
set_option maxRecDepth 20000 in
theorem lwin_wsL_law_r16 : ∀ w ∈ wsL_law_r16, w ∈ lw_tbl := in_c csT hbT _ [(4, 165), (4, 166), (4, 167), (3, 10), (4, 168), (6, 34), (6, 35), (6, 36), (6, 37), (6, 38), (6, 39), (6, 40), (6, 42), (1, 3), (6, 43), (6, 64), (6, 66), (5, 175), (6, 44), (6, 46), (1, 4), (6, 47), (5, 174), (6, 53)] rfl
set_option maxRecDepth 20000 in
theorem lwin_wsL_law_r17 : ∀ w ∈ wsL_law_r17, w ∈ lw_tbl := in_c csT hbT _ [(6, 65), (6, 48), (6, 50), (1, 5), (6, 51), (6, 52), (6, 54), (6, 56), (1, 6), (6, 57), (6, 58), (6, 59), (6, 60), (6, 61), (6, 62), (6, 63), (6, 67), (6, 69), (1, 7), (6, 70), (6, 71), (4, 169), (4, 170), (4, 171)] rfl
set_option maxRecDepth 20000 in
theorem lwin_wsL_law_r18 : ∀ w ∈ wsL_law_r18, w ∈ lw_tbl := in_c csT hbT _ [(4, 172), (3, 143), (4, 174), (4, 173), (6, 72), (6, 73), (6, 74), (6, 75), (6, 76), (4, 175), (4, 176), (4, 177), (4, 178), (4, 179), (4, 180), (4, 181), (4, 182), (4, 183), (6, 77), (6, 78), (6, 79), (6, 80), (6, 81), (4, 184)] rfl
set_option maxRecDepth 20000 in
theorem lwin_wsL_law_r19 : ∀ w ∈ wsL_law_r19, w ∈ lw_tbl := in_c csT hbT _ [(4, 185), (4, 186), (4, 187), (4, 197), (4, 188), (4, 189), (4, 190), (4, 191), (4, 192), (4, 194), (0, 3), (4, 195), (4, 196), (4, 198), (4, 199), (4, 200), (4, 201), (6, 82), (6, 83), (6, 84), (6, 85), (6, 86), (6, 91), (6, 87)] rfl
set_option maxRecDepth 20000 in
theorem lwin_wsL_law_r20 : ∀ w ∈ wsL_law_r20, w ∈ lw_tbl := in_c csT hbT _ [(6, 89), (1, 8), (6, 90), (4, 202), (4, 203), (4, 204), (4, 205), (3, 137), (3, 98), (4, 206), (4, 207), (4, 208), (4, 209), (4, 210), (6, 92), (6, 93), (6, 94), (6, 95), (6, 96), (4, 211), (4, 212), (4, 213), (4, 214), (4, 215)] rfl
set_option maxRecDepth 20000 in
theorem lwin_wsL_law_r21 : ∀ w ∈ wsL_law_r21, w ∈ lw_tbl := in_c csT hbT _ [(4, 216), (4, 217), (4, 218), (4, 219), (4, 220), (4, 221), (4, 222), (4, 223), (4, 224), (4, 225), (4, 226), (4, 227), (4, 228), (4, 229), (4, 230), (4, 231), (4, 232), (4, 233), (4, 234), (4, 235), (4, 236), (4, 237), (4, 238), (4, 239)] rfl
set_option maxRecDepth 20000 in
theorem lwin_wsL_law_r22 : ∀ w ∈ wsL_law_r22, w ∈ lw_tbl := in_c csT hbT _ [(5, 0), (5, 1), (5, 2), (5, 3), (6, 97), (6, 98), (6, 99), (6, 100), (5, 4), (5, 5), (5, 6), (5, 7), (5, 8), (5, 10), (0, 4), (5, 11), (5, 12), (5, 13), (5, 14), (5, 15), (5, 16), (5, 17), (5, 18), (5, 19)] rfl
set_option maxRecDepth 20000 in
theorem lwin_wsL_law_r23 : ∀ w ∈ wsL_law_r23, w ∈ lw_tbl := in_c csT hbT _ [(5, 20), (5, 21), (5, 22), (5, 23), (5, 24), (5, 25), (5, 26), (5, 27), (5, 28), (6, 101), (6, 102), (6, 103), (6, 104), (6, 105), (6, 107), (1, 9), (6, 108), (6, 109), (6, 111), (1, 10), (6, 112), (6, 113), (6, 115), (1, 11)] rfl
set_option maxRecDepth 20000 in
theorem lwin_wsL_law_r24 : ∀ w ∈ wsL_law_r24, w ∈ lw_tbl := in_c csT hbT _ [(6, 116), (5, 29), (5, 30), (5, 31), (5, 32), (3, 67), (5, 33), (5, 35), (0, 5), (5, 36), (5, 37), (5, 38), (6, 117), (6, 118), (6, 119), (6, 120), (6, 121), (6, 123), (1, 12), (6, 124), (5, 39), (5, 40), (5, 41), (5, 42)] rfl
set_option maxRecDepth 20000 in
theorem lwin_wsL_law_r25 : ∀ w ∈ wsL_law_r25, w ∈ lw_tbl := in_c csT hbT _ [(6, 125), (6, 126), (6, 127), (6, 128), (5, 43), (5, 44), (5, 45), (5, 46), (6, 129), (6, 130), (6, 131), (6, 132), (6, 133), (5, 47), (5, 48), (5, 49), (5, 50), (5, 51), (5, 52), (5, 53), (5, 54), (6, 134), (6, 135), (6, 136)] rfl
set_option maxRecDepth 20000 in
theorem lwin_wsL_law_r26 : ∀ w ∈ wsL_law_r26, w ∈ lw_tbl := in_c csT hbT _ [(6, 137), (6, 138), (6, 139), (6, 140), (5, 55), (5, 56), (5, 57), (5, 58), (6, 141), (6, 142), (6, 143), (6, 144), (5, 59), (5, 60), (5, 61), (5, 62), (3, 206), (5, 63), (5, 64), (5, 65), (5, 66), (3, 205), (6, 145), (6, 146)] rfl
set_option maxRecDepth 20000 in
theorem lwin_wsL_law_r27 : ∀ w ∈ wsL_law_r27, w ∈ lw_tbl := in_c csT hbT _ [(6, 147), (6, 148), (6, 149), (6, 150), (5, 173), (5, 67), (5, 68), (5, 69), (5, 70), (6, 151), (6, 152), (6, 153), (6, 154), (5, 71), (5, 72), (5, 73), (5, 74), (5, 75), (5, 76), (5, 77), (5, 78), (3, 211), (3, 209), (5, 79)] rfl
set_option maxRecDepth 20000 in
theorem lwin_wsL_law_r28 : ∀ w ∈ wsL_law_r28, w ∈ lw_tbl := in_c csT hbT _ [(5, 81), (0, 6), (5, 82), (3, 212), (5, 83), (5, 85), (0, 7), (5, 86), (5, 87), (5, 89), (0, 8), (5, 90), (5, 91), (5, 93), (0, 9), (5, 94), (5, 95), (5, 97), (0, 10), (5, 98), (5, 99), (5, 101), (0, 11), (5, 102)] rfl
set_option maxRecDepth 20000 in
theorem lwin_wsL_law_r29 : ∀ w ∈ wsL_law_r29, w ∈ lw_tbl := in_c csT hbT _ [(5, 103), (5, 104), (5, 106), (0, 12), (5, 107), (6, 155), (6, 156), (6, 157), (6, 158), (5, 176), (5, 177), (5, 179), (6, 159), (6, 161), (1, 13), (6, 162), (6, 167), (6, 168), (6, 163), (6, 165), (1, 14), (6, 166), (6, 169), (6, 171)] rfl
set_option maxRecDepth 20000 in
theorem lwin_wsL_law_r30 : ∀ w ∈ wsL_law_r30, w ∈ lw_tbl := in_c csT hbT _ [(1, 15), (6, 172), (6, 173), (6, 174), (6, 175), (6, 177), (2, 0), (6, 178), (6, 179), (6, 181), (2, 1), (6, 182), (5, 109), (5, 110), (5, 111), (5, 112), (5, 113), (5, 114), (5, 115), (5, 116), (5, 117), (5, 118), (5, 119), (5, 120)] rfl
set_option maxRecDepth 20000 in
theorem lwin_wsL_law_r31 : ∀ w ∈ wsL_law_r31, w ∈ lw_tbl := in_c csT hbT _ [(5, 121), (5, 122), (5, 123), (5, 124), (5, 125), (5, 126), (5, 127), (5, 128), (5, 129), (5, 130), (5, 131), (5, 132), (5, 133), (5, 134), (5, 135), (5, 137), (5, 136), (3, 11), (5, 138), (5, 140), (0, 13), (5, 141), (3, 210), (5, 142)] rfl
set_option maxRecDepth 20000 in
theorem lwin_wsL_law_r32 : ∀ w ∈ wsL_law_r32, w ∈ lw_tbl := in_c csT hbT _ [(5, 143), (6, 183), (6, 184), (6, 185), (6, 186), (6, 187), (6, 188), (6, 190), (2, 2), (6, 191), (6, 192), (6, 194), (2, 3), (6, 195), (6, 196), (6, 197), (5, 144), (5, 145), (5, 146), (5, 147), (3, 72), (6, 198), (6, 199), (6, 200)] rfl
set_option maxRecDepth 20000 in
theorem lwin_wsL_law_r33 : ∀ w ∈ wsL_law_r33, w ∈ lw_tbl := in_c csT hbT _ [(6, 201), (5, 148), (5, 149), (5, 150), (5, 151), (5, 152), (5, 154), (0, 14), (5, 155), (6, 202), (6, 203), (6, 204), (6, 205), (5, 156), (5, 157), (5, 158), (5, 159), (6, 206), (6, 207), (6, 208), (6, 209)] rfl
set_option maxRecDepth 20000 in
theorem lwin_wsX70 : ∀ w ∈ wsX70, w ∈ lw_tbl := in_c csT hbT _ [(3, 237), (3, 239), (4, 1), (4, 3), (4, 5), (4, 7)] rfl
set_option maxRecDepth 20000 in
theorem lwin_wsX80 : ∀ w ∈ wsX80, w ∈ lw_tbl := in_c csT hbT _ [(5, 180), (5, 182), (5, 184), (5, 186), (5, 188), (5, 190), (5, 192), (5, 194), (5, 196), (5, 198), (5, 200), (5, 202)] rfl
set_option maxRecDepth 20000 in
theorem lwin_wsX60 : ∀ w ∈ wsX60, w ∈ lw_tbl := in_c csT hbT _ [(3, 190), (3, 192)] rfl
set_option maxRecDepth 20000 in
theorem lwin_wsX20 : ∀ w ∈ wsX20, w ∈ lw_tbl := in_c csT hbT _ [(3, 152), (3, 154), (3, 156), (3, 158), (3, 160), (3, 162), (3, 164), (3, 166), (3, 168)] rfl
set_option maxRecDepth 20000 in
theorem lwin_wsX30 : ∀ w ∈ wsX30, w ∈ lw_tbl := in_c csT hbT _ [(3, 213), (3, 215), (3, 217), (3, 219), (3, 221), (3, 223), (3, 225)] rfl
set_option maxRecDepth 20000 in
theorem lwin_wsX10 : ∀ w ∈ wsX10, w ∈ lw_tbl := in_c csT hbT _ [(3, 180), (3, 182)] rfl
set_option maxRecDepth 20000 in
theorem lwin_wsX50 : ∀ w ∈ wsX50, w ∈ lw_tbl := in_c csT hbT _ [(3, 48), (3, 50), (3, 52), (3, 54), (3, 56)] rfl
set_option maxRecDepth 20000 in
theorem lwin_wsX40 : ∀ w ∈ wsX40, w ∈ lw_tbl := in_c csT hbT _ [(3, 78), (3, 80), (3, 82), (3, 84), (3, 86), (3, 88)] rfl
set_option maxRecDepth 20000 in
theorem lwin_wsX00 : ∀ w ∈ wsX00, w ∈ lw_tbl := in_c csT hbT _ [(3, 112), (3, 114), (3, 116), (3, 118), (3, 120), (3, 122), (3, 124), (3, 126), (3, 128)] rfl
theorem wsL_law_in : ∀ w ∈ wsL_law, w ∈ lw_tbl := lwin_app (lwin_app (lwin_app (lwin_app (lwin_app (lwin_app (lwin_app (lwin_app (lwin_app (lwin_app (lwin_app lwin_wsL_law_r1 (lwin_app lwin_wsL_law_r2 (lwin_app lwin_wsL_law_r3 (lwin_app lwin_wsL_law_r4 (lwin_app lwin_wsL_law_r5 (lwin_app lwin_wsL_law_r6 (lwin_app lwin_wsL_law_r7 (lwin_app lwin_wsL_law_r8 (lwin_app lwin_wsL_law_r9 (lwin_app lwin_wsL_law_r10 (lwin_app lwin_wsL_law_r11 (lwin_app lwin_wsL_law_r12 (lwin_app lwin_wsL_law_r13 (lwin_app lwin_wsL_law_r14 (lwin_app lwin_wsL_law_r15 (lwin_app lwin_wsL_law_r16 (lwin_app lwin_wsL_law_r17 (lwin_app lwin_wsL_law_r18 (lwin_app lwin_wsL_law_r19 (lwin_app lwin_wsL_law_r20 (lwin_app lwin_wsL_law_r21 (lwin_app lwin_wsL_law_r22 (lwin_app lwin_wsL_law_r23 (lwin_app lwin_wsL_law_r24 (lwin_app lwin_wsL_law_r25 (lwin_app lwin_wsL_law_r26 (lwin_app lwin_wsL_law_r27 (lwin_app lwin_wsL_law_r28 (lwin_app lwin_wsL_law_r29 (lwin_app lwin_wsL_law_r30 (lwin_app lwin_wsL_law_r31 (lwin_app lwin_wsL_law_r32 lwin_wsL_law_r33)))))))))))))))))))))))))))))))) lwin_wsX70) lwin_wsX80) lwin_wsX60) lwin_wsX20) lwin_wsX30) lwin_wsX10) lwin_wsX50) lwin_wsX40) lwin_wsX00) (fun _ h => absurd h List.not_mem_nil)
theorem inlX0 : ∀ w ∈ wsX00, w ∈ wsL_law := fun _ h => List.mem_append_left _ (List.mem_append_right _ h)
theorem inX0 : ∀ w ∈ wsX00, w ∈ lw_tbl := fun w h => wsL_law_in w (inlX0 w h)
theorem inlX1 : ∀ w ∈ wsX10, w ∈ wsL_law := fun _ h => List.mem_append_left _ (List.mem_append_left _ (List.mem_append_left _ (List.mem_append_left _ (List.mem_append_right _ h))))
theorem inX1 : ∀ w ∈ wsX10, w ∈ lw_tbl := fun w h => wsL_law_in w (inlX1 w h)
theorem inlX2 : ∀ w ∈ wsX20, w ∈ wsL_law := fun _ h => List.mem_append_left _ (List.mem_append_left _ (List.mem_append_left _ (List.mem_append_left _ (List.mem_append_left _ (List.mem_append_left _ (List.mem_append_right _ h))))))
theorem inX2 : ∀ w ∈ wsX20, w ∈ lw_tbl := fun w h => wsL_law_in w (inlX2 w h)
theorem inlX3 : ∀ w ∈ wsX30, w ∈ wsL_law := fun _ h => List.mem_append_left _ (List.mem_append_left _ (List.mem_append_left _ (List.mem_append_left _ (List.mem_append_left _ (List.mem_append_right _ h)))))
theorem inX3 : ∀ w ∈ wsX30, w ∈ lw_tbl := fun w h => wsL_law_in w (inlX3 w h)
theorem inlX4 : ∀ w ∈ wsX40, w ∈ wsL_law := fun _ h => List.mem_append_left _ (List.mem_append_left _ (List.mem_append_right _ h))
theorem inX4 : ∀ w ∈ wsX40, w ∈ lw_tbl := fun w h => wsL_law_in w (inlX4 w h)
theorem inlX5 : ∀ w ∈ wsX50, w ∈ wsL_law := fun _ h => List.mem_append_left _ (List.mem_append_left _ (List.mem_append_left _ (List.mem_append_right _ h)))
theorem inX5 : ∀ w ∈ wsX50, w ∈ lw_tbl := fun w h => wsL_law_in w (inlX5 w h)
theorem inlX6 : ∀ w ∈ wsX60, w ∈ wsL_law := fun _ h => List.mem_append_left _ (List.mem_append_left _ (List.mem_append_left _ (List.mem_append_left _ (List.mem_append_left _ (List.mem_append_left _ (List.mem_append_left _ (List.mem_append_right _ h)))))))
theorem inX6 : ∀ w ∈ wsX60, w ∈ lw_tbl := fun w h => wsL_law_in w (inlX6 w h)
theorem inlX7 : ∀ w ∈ wsX70, w ∈ wsL_law := fun _ h => List.mem_append_left _ (List.mem_append_left _ (List.mem_append_left _ (List.mem_append_left _ (List.mem_append_left _ (List.mem_append_left _ (List.mem_append_left _ (List.mem_append_left _ (List.mem_append_left _ (List.mem_append_right _ h)))))))))
theorem inX7 : ∀ w ∈ wsX70, w ∈ lw_tbl := fun w h => wsL_law_in w (inlX7 w h)
theorem inlX8 : ∀ w ∈ wsX80, w ∈ wsL_law := fun _ h => List.mem_append_left _ (List.mem_append_left _ (List.mem_append_left _ (List.mem_append_left _ (List.mem_append_left _ (List.mem_append_left _ (List.mem_append_left _ (List.mem_append_left _ (List.mem_append_right _ h))))))))
theorem inX8 : ∀ w ∈ wsX80, w ∈ lw_tbl := fun w h => wsL_law_in w (inlX8 w h)
theorem inJ9 : ∀ w ∈ wsJ90, w ∈ lw_tbl := by decide +kernel
/-! END g -/
