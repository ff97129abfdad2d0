theorem z_in {big ws : List Cond} {is : List Nat} (h : ws.map some = is.map (fun i => big[i]?)) : ∀ w ∈ ws, w ∈ big := by
  intro w hw
  have h1 : some w ∈ is.map (fun i => big[i]?) := h ▸ List.mem_map_of_mem hw
  obtain ⟨i, -, e⟩ := List.mem_map.mp h1
  exact List.mem_of_getElem? e
set_option maxRecDepth 100000 in
theorem z_w1 : ∀ w ∈ wsL_law_r1, w ∈ lw_tbl := z_in2 z_tch (ps := [(2, 19), (2, 20), (2, 1), (5, 135), (5, 136), (2, 18), (2, 21), (2, 22), (2, 23), (2, 24), (2, 25), (2, 26), (2, 27), (2, 28), (2, 2), (4, 130), (2, 63), (4, 131), (2, 44), (2, 45), (2, 4), (4, 132), (2, 64), (2, 65)]) rfl
set_option maxRecDepth 100000 in
theorem z_w2 : ∀ w ∈ wsL_law_r2, w ∈ lw_tbl := z_in2 z_tch (ps := [(2, 5), (4, 133), (2, 86), (2, 87), (2, 7), (4, 134), (2, 113), (2, 114), (2, 9), (4, 135), (2, 121), (2, 122), (2, 10), (4, 136), (2, 138), (2, 139), (2, 11), (4, 137), (4, 138), (4, 139), (4, 140), (2, 29), (2, 30), (2, 31)]) rfl
set_option maxRecDepth 100000 in
theorem z_w3 : ∀ w ∈ wsL_law_r3, w ∈ lw_tbl := z_in2 z_tch (ps := [(2, 32), (2, 33), (2, 34), (2, 3), (2, 35), (2, 43), (2, 36), (2, 47), (2, 48), (2, 49), (2, 50), (2, 51), (2, 52), (2, 67), (2, 68), (2, 69), (2, 89), (2, 90), (2, 92), (2, 6), (2, 93), (2, 94), (2, 95), (2, 96)]) rfl
set_option maxRecDepth 100000 in
theorem z_w4 : ∀ w ∈ wsL_law_r4, w ∈ lw_tbl := z_in2 z_tch (ps := [(2, 8), (2, 109), (2, 97), (2, 98), (2, 99), (2, 100), (2, 101), (2, 102), (2, 116), (2, 117), (2, 124), (2, 125), (2, 126), (2, 137), (2, 127), (2, 128), (2, 140), (2, 141), (2, 142), (2, 143), (2, 144), (2, 218), (2, 220), (2, 146)]) rfl
set_option maxRecDepth 100000 in
theorem z_w5 : ∀ w ∈ wsL_law_r5, w ∈ lw_tbl := z_in2 z_tch (ps := [(2, 147), (2, 12), (2, 214), (2, 189), (2, 216), (2, 145), (2, 148), (2, 149), (2, 150), (2, 151), (2, 152), (2, 153), (2, 13), (2, 188), (2, 186), (2, 192), (2, 193), (2, 194), (2, 190), (2, 191), (2, 155), (2, 156), (2, 157), (2, 158)]) rfl
set_option maxRecDepth 100000 in
theorem z_w6 : ∀ w ∈ wsL_law_r6, w ∈ lw_tbl := z_in2 z_tch (ps := [(2, 159), (2, 160), (2, 161), (2, 162), (2, 164), (2, 165), (2, 187), (2, 239), (3, 0), (3, 1), (3, 2), (2, 37), (3, 3), (3, 5), (0, 0), (3, 6), (2, 215), (2, 217), (2, 219), (2, 221), (3, 7), (3, 8), (3, 9), (3, 10)]) rfl
set_option maxRecDepth 100000 in
theorem z_w7 : ∀ w ∈ wsL_law_r7, w ∈ lw_tbl := z_in2 z_tch (ps := [(2, 53), (3, 11), (3, 12), (3, 13), (3, 14), (3, 15), (3, 16), (3, 17), (3, 18), (3, 19), (3, 21), (0, 1), (3, 22), (3, 23), (3, 25), (0, 2), (3, 26), (3, 27), (3, 29), (0, 3), (3, 30), (3, 31), (3, 32), (3, 33)]) rfl
set_option maxRecDepth 100000 in
theorem z_w8 : ∀ w ∈ wsL_law_r8, w ∈ lw_tbl := z_in2 z_tch (ps := [(3, 35), (3, 36), (3, 55), (3, 56), (3, 57), (2, 14), (3, 58), (7, 93), (3, 59), (3, 60), (3, 61), (3, 62), (3, 63), (7, 94), (3, 65), (3, 66), (3, 67), (3, 68), (3, 69), (3, 70), (3, 71), (3, 72), (3, 73), (3, 74)]) rfl
set_option maxRecDepth 100000 in
theorem z_w9 : ∀ w ∈ wsL_law_r9, w ∈ lw_tbl := z_in2 z_tch (ps := [(2, 15), (3, 75), (3, 76), (3, 77), (3, 78), (3, 79), (3, 81), (3, 82), (2, 16), (3, 83), (3, 84), (3, 85), (2, 17), (3, 86), (3, 87), (3, 88), (3, 89), (3, 90), (3, 91), (3, 92), (3, 93), (3, 94), (3, 95), (3, 96)]) rfl
set_option maxRecDepth 100000 in
theorem z_w10 : ∀ w ∈ wsL_law_r10, w ∈ lw_tbl := z_in2 z_tch (ps := [(3, 97), (3, 99), (3, 101), (3, 103), (3, 104), (3, 105), (3, 106), (3, 107), (3, 108), (3, 109), (3, 110), (3, 111), (3, 112), (2, 70), (2, 71), (2, 72), (2, 74), (3, 113), (3, 114), (3, 115), (3, 116), (3, 117), (3, 118), (3, 119)]) rfl
set_option maxRecDepth 100000 in
theorem z_w11 : ∀ w ∈ wsL_law_r11, w ∈ lw_tbl := z_in2 z_tch (ps := [(3, 120), (3, 121), (3, 123), (0, 4), (3, 124), (3, 126), (3, 127), (3, 128), (3, 130), (0, 5), (3, 131), (2, 73), (3, 133), (3, 134), (3, 135), (3, 137), (0, 6), (3, 138), (3, 140), (3, 141), (3, 143), (3, 144), (3, 145), (3, 147)]) rfl
set_option maxRecDepth 100000 in
theorem z_w12 : ∀ w ∈ wsL_law_r12, w ∈ lw_tbl := z_in2 z_tch (ps := [(0, 7), (3, 148), (3, 149), (3, 150), (3, 151), (3, 152), (2, 195), (2, 196), (3, 153), (3, 154), (3, 155), (3, 156), (2, 163), (2, 166), (3, 157), (3, 158), (3, 159), (3, 160), (2, 103), (3, 161), (3, 162), (3, 163), (3, 164), (3, 165)]) rfl
set_option maxRecDepth 100000 in
theorem z_w13 : ∀ w ∈ wsL_law_r13, w ∈ lw_tbl := z_in2 z_tch (ps := [(3, 166), (3, 167), (3, 169), (0, 8), (3, 170), (3, 172), (3, 174), (0, 9), (3, 175), (3, 176), (3, 177), (3, 178), (3, 179), (3, 180), (3, 181), (3, 182), (3, 183), (3, 184), (3, 186), (0, 10), (3, 187), (3, 188), (3, 190), (0, 11)]) rfl
set_option maxRecDepth 100000 in
theorem z_w14 : ∀ w ∈ wsL_law_r14, w ∈ lw_tbl := z_in2 z_tch (ps := [(3, 191), (3, 192), (3, 193), (3, 194), (3, 195), (3, 197), (3, 198), (3, 199), (3, 200), (3, 201), (3, 202), (3, 203), (3, 204), (3, 205), (3, 206), (3, 207), (3, 209), (0, 12), (3, 210), (3, 213), (3, 214), (3, 215), (3, 217), (3, 218)]) rfl
set_option maxRecDepth 100000 in
theorem z_w15 : ∀ w ∈ wsL_law_r15, w ∈ lw_tbl := z_in2 z_tch (ps := [(3, 219), (3, 221), (0, 13), (3, 222), (3, 223), (3, 224), (3, 225), (3, 226), (3, 227), (3, 228), (3, 230), (3, 231), (3, 232), (3, 233), (3, 234), (3, 235), (3, 236), (3, 237), (3, 238), (3, 239), (4, 0), (4, 1), (4, 2), (4, 3)]) rfl
set_option maxRecDepth 100000 in
theorem z_w16 : ∀ w ∈ wsL_law_r16, w ∈ lw_tbl := z_in2 z_tch (ps := [(4, 4), (4, 5), (4, 7), (4, 8), (4, 9), (4, 10), (4, 12), (4, 13), (4, 14), (4, 15), (4, 16), (4, 17), (4, 18), (4, 19), (4, 20), (4, 21), (4, 22), (4, 24), (4, 25), (4, 39), (4, 40), (4, 41), (4, 42), (4, 43)]) rfl
set_option maxRecDepth 100000 in
theorem z_w17 : ∀ w ∈ wsL_law_r17, w ∈ lw_tbl := z_in2 z_tch (ps := [(4, 44), (7, 91), (1, 0), (4, 46), (4, 47), (4, 48), (4, 49), (4, 50), (4, 51), (4, 52), (4, 54), (4, 55), (4, 56), (4, 57), (4, 58), (4, 59), (4, 60), (4, 61), (4, 62), (4, 64), (0, 14), (4, 65), (4, 66), (4, 67)]) rfl
set_option maxRecDepth 100000 in
theorem z_w18 : ∀ w ∈ wsL_law_r18, w ∈ lw_tbl := z_in2 z_tch (ps := [(4, 68), (4, 69), (4, 72), (4, 80), (4, 81), (4, 82), (4, 83), (4, 84), (4, 86), (4, 87), (4, 97), (7, 92), (1, 1), (4, 99), (4, 100), (4, 101), (4, 102), (4, 103), (4, 104), (4, 105), (4, 106), (4, 107), (4, 108), (1, 2)]) rfl
set_option maxRecDepth 100000 in
theorem z_w19 : ∀ w ∈ wsL_law_r19, w ∈ lw_tbl := z_in2 z_tch (ps := [(4, 109), (4, 110), (4, 112), (4, 113), (4, 114), (4, 115), (4, 116), (4, 117), (4, 118), (1, 3), (4, 120), (4, 121), (4, 122), (4, 123), (4, 124), (4, 125), (4, 126), (4, 127), (4, 129), (5, 137), (5, 138), (5, 139), (5, 140), (5, 142)]) rfl
set_option maxRecDepth 100000 in
theorem z_w20 : ∀ w ∈ wsL_law_r20, w ∈ lw_tbl := z_in2 z_tch (ps := [(5, 144), (5, 145), (5, 147), (5, 148), (5, 149), (5, 151), (5, 152), (5, 153), (5, 154), (5, 155), (5, 157), (5, 159), (5, 160), (5, 162), (5, 163), (5, 167), (5, 169), (5, 171), (5, 172), (5, 180), (5, 181), (5, 182), (5, 183), (5, 143)]) rfl
set_option maxRecDepth 100000 in
theorem z_w21 : ∀ w ∈ wsL_law_r21, w ∈ lw_tbl := z_in2 z_tch (ps := [(4, 165), (4, 166), (4, 167), (4, 168), (4, 169), (4, 170), (4, 171), (4, 172), (4, 173), (6, 31), (6, 32), (6, 33), (6, 34), (6, 35), (6, 36), (5, 141), (6, 37), (6, 38), (6, 39), (4, 174), (4, 175), (4, 176), (4, 177), (6, 40)]) rfl
set_option maxRecDepth 100000 in
theorem z_w22 : ∀ w ∈ wsL_law_r22, w ∈ lw_tbl := z_in2 z_tch (ps := [(6, 41), (6, 42), (6, 43), (4, 178), (4, 179), (4, 180), (4, 181), (4, 182), (4, 183), (4, 184), (4, 185), (4, 186), (6, 44), (6, 45), (6, 46), (6, 47), (6, 48), (6, 50), (0, 25), (6, 51), (5, 146), (5, 176), (5, 177), (5, 178)]) rfl
set_option maxRecDepth 100000 in
theorem z_w23 : ∀ w ∈ wsL_law_r23, w ∈ lw_tbl := z_in2 z_tch (ps := [(5, 179), (5, 173), (5, 175), (6, 52), (6, 54), (0, 26), (6, 55), (6, 56), (6, 58), (0, 27), (6, 59), (5, 174), (6, 60), (6, 61), (6, 62), (6, 63), (6, 64), (6, 66), (0, 28), (6, 67), (6, 68), (6, 69), (6, 70), (6, 71)]) rfl
set_option maxRecDepth 100000 in
theorem z_w24 : ∀ w ∈ wsL_law_r24, w ∈ lw_tbl := z_in2 z_tch (ps := [(6, 73), (0, 29), (6, 74), (6, 75), (6, 76), (6, 77), (6, 78), (6, 79), (6, 80), (6, 81), (6, 82), (6, 84), (0, 30), (6, 85), (4, 187), (4, 188), (4, 189), (4, 190), (6, 86), (6, 87), (6, 88), (6, 89), (4, 191), (4, 192)]) rfl
set_option maxRecDepth 100000 in
theorem z_w25 : ∀ w ∈ wsL_law_r25, w ∈ lw_tbl := z_in2 z_tch (ps := [(4, 193), (4, 194), (4, 195), (4, 196), (4, 197), (4, 198), (4, 199), (4, 200), (6, 90), (6, 91), (6, 92), (6, 93), (6, 94), (6, 95), (6, 96), (4, 201), (4, 202), (4, 203), (4, 204), (4, 205), (4, 206), (4, 207), (4, 208), (4, 209)]) rfl
set_option maxRecDepth 100000 in
theorem z_w26 : ∀ w ∈ wsL_law_r26, w ∈ lw_tbl := z_in2 z_tch (ps := [(4, 210), (6, 97), (6, 98), (6, 99), (6, 100), (4, 211), (4, 212), (4, 213), (4, 214), (2, 223), (4, 215), (4, 216), (4, 217), (4, 218), (4, 219), (4, 220), (4, 221), (2, 222), (2, 224), (4, 222), (4, 223), (4, 224), (4, 225), (2, 129)]) rfl
set_option maxRecDepth 100000 in
theorem z_w27 : ∀ w ∈ wsL_law_r27, w ∈ lw_tbl := z_in2 z_tch (ps := [(4, 230), (4, 231), (4, 232), (4, 226), (4, 227), (4, 228), (4, 229), (4, 233), (4, 235), (0, 15), (4, 236), (4, 237), (4, 238), (4, 239), (5, 0), (5, 2), (0, 16), (5, 3), (5, 4), (5, 5), (5, 7), (0, 17), (5, 8), (5, 9)]) rfl
set_option maxRecDepth 100000 in
theorem z_w28 : ∀ w ∈ wsL_law_r28, w ∈ lw_tbl := z_in2 z_tch (ps := [(5, 11), (0, 18), (5, 12), (5, 13), (5, 15), (0, 19), (5, 16), (5, 17), (5, 18), (5, 19), (5, 21), (0, 20), (5, 22), (5, 23), (5, 25), (0, 21), (5, 26), (5, 27), (5, 28), (5, 29), (5, 30), (5, 31), (5, 33), (0, 22)]) rfl
set_option maxRecDepth 100000 in
theorem z_w29 : ∀ w ∈ wsL_law_r29, w ∈ lw_tbl := z_in2 z_tch (ps := [(5, 34), (5, 35), (5, 36), (5, 38), (0, 23), (5, 39), (5, 40), (5, 41), (5, 42), (5, 43), (5, 44), (5, 45), (5, 46), (5, 47), (5, 49), (5, 50), (5, 51), (5, 52), (6, 101), (6, 102), (6, 103), (6, 104), (5, 165), (6, 105)]) rfl
set_option maxRecDepth 100000 in
theorem z_w30 : ∀ w ∈ wsL_law_r30, w ∈ lw_tbl := z_in2 z_tch (ps := [(6, 106), (6, 107), (6, 108), (6, 109), (6, 111), (0, 31), (6, 112), (5, 150), (5, 156), (5, 158), (5, 161), (5, 164), (6, 113), (6, 115), (0, 32), (6, 116), (6, 117), (6, 119), (0, 33), (6, 120), (6, 121), (6, 122), (6, 123), (6, 124)]) rfl
set_option maxRecDepth 100000 in
theorem z_w31 : ∀ w ∈ wsL_law_r31, w ∈ lw_tbl := z_in2 z_tch (ps := [(6, 126), (0, 34), (6, 127), (6, 128), (6, 130), (0, 35), (6, 131), (6, 132), (6, 134), (0, 36), (6, 135), (6, 136), (6, 138), (0, 37), (6, 139), (6, 140), (6, 142), (0, 38), (6, 143), (6, 144), (6, 146), (0, 39), (6, 147), (6, 148)]) rfl
set_option maxRecDepth 100000 in
theorem z_w32 : ∀ w ∈ wsL_law_r32, w ∈ lw_tbl := z_in2 z_tch (ps := [(6, 150), (0, 40), (6, 151), (6, 152), (6, 154), (0, 41), (6, 155), (5, 166), (6, 156), (6, 158), (0, 42), (6, 159), (6, 160), (6, 162), (0, 43), (6, 163), (6, 164), (6, 166), (0, 44), (6, 167), (6, 168), (6, 170), (0, 45), (6, 171)]) rfl
set_option maxRecDepth 100000 in
theorem z_w33 : ∀ w ∈ wsL_law_r33, w ∈ lw_tbl := z_in2 z_tch (ps := [(6, 172), (6, 174), (0, 46), (6, 175), (6, 176), (6, 177), (6, 179), (0, 47), (6, 180), (6, 181), (6, 182), (6, 184), (0, 48), (6, 185), (6, 186), (6, 188), (0, 49), (6, 189), (6, 190), (6, 192), (0, 50), (6, 193), (6, 194), (6, 195)]) rfl
set_option maxRecDepth 100000 in
theorem z_w34 : ∀ w ∈ wsL_law_r34, w ∈ lw_tbl := z_in2 z_tch (ps := [(6, 197), (0, 51), (6, 198), (6, 199), (6, 201), (0, 52), (6, 202), (5, 53), (5, 54), (5, 55), (5, 56), (2, 225), (6, 203), (6, 204), (6, 205), (6, 206), (6, 207), (5, 57), (5, 58), (5, 59), (5, 60), (5, 61), (5, 62), (5, 63)]) rfl
set_option maxRecDepth 100000 in
theorem z_w35 : ∀ w ∈ wsL_law_r35, w ∈ lw_tbl := z_in2 z_tch (ps := [(5, 64), (5, 65), (6, 208), (6, 209), (6, 210), (6, 211), (5, 66), (5, 67), (5, 68), (5, 69), (5, 70), (5, 71), (5, 72), (5, 73), (6, 212), (6, 213), (6, 214), (6, 215), (5, 74), (5, 75), (5, 76), (5, 77), (6, 216), (6, 217)]) rfl
set_option maxRecDepth 100000 in
theorem z_w36 : ∀ w ∈ wsL_law_r36, w ∈ lw_tbl := z_in2 z_tch (ps := [(6, 218), (6, 219), (5, 78), (5, 79), (5, 80), (5, 81), (5, 82), (6, 220), (6, 221), (6, 222), (6, 223), (5, 83), (5, 84), (5, 85), (5, 86), (5, 87), (5, 88), (5, 89), (5, 90), (5, 95), (5, 91), (5, 93), (0, 24), (5, 94)]) rfl
set_option maxRecDepth 100000 in
theorem z_w37 : ∀ w ∈ wsL_law_r37, w ∈ lw_tbl := z_in2 z_tch (ps := [(6, 224), (6, 225), (6, 226), (6, 227), (5, 96), (5, 97), (5, 98), (5, 99), (5, 100), (5, 101), (5, 102), (5, 103), (5, 104), (5, 105), (6, 228), (6, 229), (6, 230), (6, 231), (5, 168), (6, 232), (6, 234), (0, 53), (6, 235), (6, 236)]) rfl
set_option maxRecDepth 100000 in
theorem z_w38 : ∀ w ∈ wsL_law_r38, w ∈ lw_tbl := z_in2 z_tch (ps := [(6, 238), (0, 54), (6, 239), (5, 170), (7, 0), (7, 2), (0, 55), (7, 3), (7, 4), (7, 6), (0, 56), (7, 7), (7, 8), (7, 10), (0, 57), (7, 11), (7, 12), (7, 14), (0, 58), (7, 15), (7, 16), (7, 17), (7, 19), (0, 59)]) rfl
set_option maxRecDepth 100000 in
theorem z_w39 : ∀ w ∈ wsL_law_r39, w ∈ lw_tbl := z_in2 z_tch (ps := [(7, 20), (7, 21), (7, 22), (7, 23), (7, 24), (7, 26), (0, 60), (7, 27), (5, 106), (5, 107), (5, 108), (5, 109), (7, 28), (7, 29), (7, 30), (7, 31), (5, 110), (5, 111), (5, 112), (5, 113), (5, 114), (7, 32), (7, 33), (7, 34)]) rfl
set_option maxRecDepth 100000 in
theorem z_w40 : ∀ w ∈ wsL_law_r40, w ∈ lw_tbl := z_in2 z_tch (ps := [(7, 35), (5, 115), (5, 116), (5, 117), (5, 118), (7, 36), (7, 37), (7, 38), (7, 39), (7, 40), (7, 42), (0, 61), (7, 43), (7, 44), (7, 46), (0, 62), (7, 47), (7, 48), (7, 49), (7, 50), (7, 51), (7, 53), (0, 63), (7, 54)]) rfl
set_option maxRecDepth 100000 in
theorem z_w41 : ∀ w ∈ wsL_law_r41, w ∈ lw_tbl := z_in2 z_tch (ps := [(7, 55), (7, 57), (0, 64), (7, 58), (7, 59), (7, 60), (7, 61), (7, 62), (7, 63), (7, 65), (0, 65), (7, 66), (7, 67), (7, 69), (0, 66), (7, 70), (7, 71), (7, 73), (0, 67), (7, 74), (7, 75), (7, 77), (0, 68), (7, 78)]) rfl
set_option maxRecDepth 100000 in
theorem z_w42 : ∀ w ∈ wsL_law_r42, w ∈ lw_tbl := z_in2 z_tch (ps := [(5, 119), (5, 120), (5, 121), (5, 122), (7, 79), (7, 80), (7, 81), (7, 82), (5, 123), (5, 124), (5, 125), (5, 126), (5, 127), (5, 128), (5, 129), (5, 130), (7, 83), (7, 84), (7, 85), (7, 86), (5, 131), (5, 132), (5, 133), (5, 134)]) rfl
set_option maxRecDepth 100000 in
theorem z_w43 : ∀ w ∈ wsL_law_r43, w ∈ lw_tbl := z_in2 z_tch (ps := [(7, 87), (7, 88), (7, 89), (7, 90)]) rfl
set_option maxRecDepth 100000 in
theorem z_X110 : ∀ w ∈ wsX110, w ∈ lw_tbl := z_in2 z_tch (ps := [(4, 141), (4, 143), (4, 145), (4, 147), (4, 149), (4, 151), (4, 153), (4, 155), (4, 157), (4, 159), (4, 161)]) rfl
set_option maxRecDepth 100000 in
theorem z_X120 : ∀ w ∈ wsX120, w ∈ lw_tbl := z_in2 z_tch (ps := [(5, 184), (5, 186), (5, 188), (5, 190), (5, 192), (5, 194), (5, 196), (5, 198), (5, 200), (5, 202), (5, 204), (5, 206), (5, 208), (5, 210), (5, 212), (5, 214), (5, 216), (5, 218), (5, 220), (5, 222), (5, 224), (5, 226), (5, 228), (5, 230), (5, 232), (5, 234), (5, 236), (5, 238), (6, 0), (6, 2), (6, 4), (6, 6), (6, 8), (6, 10), (6, 12), (6, 14), (6, 16), (6, 18), (6, 20), (6, 22), (6, 24), (6, 26), (6, 28)]) rfl
set_option maxRecDepth 100000 in
theorem z_X10 : ∀ w ∈ wsX10, w ∈ lw_tbl := z_in2 z_tch (ps := [(2, 38), (2, 40)]) rfl
set_option maxRecDepth 100000 in
theorem z_X80 : ∀ w ∈ wsX80, w ∈ lw_tbl := z_in2 z_tch (ps := [(2, 54), (2, 56), (2, 58), (2, 60)]) rfl
set_option maxRecDepth 100000 in
theorem z_X70 : ∀ w ∈ wsX70, w ∈ lw_tbl := z_in2 z_tch (ps := [(2, 75), (2, 77), (2, 79), (2, 81), (2, 83)]) rfl
set_option maxRecDepth 100000 in
theorem z_X40 : ∀ w ∈ wsX40, w ∈ lw_tbl := z_in2 z_tch (ps := [(2, 110)]) rfl
set_option maxRecDepth 100000 in
theorem z_X60 : ∀ w ∈ wsX60, w ∈ lw_tbl := z_in2 z_tch (ps := [(2, 119)]) rfl
set_option maxRecDepth 100000 in
theorem z_X20 : ∀ w ∈ wsX20, w ∈ lw_tbl := z_in2 z_tch (ps := [(2, 130), (2, 132), (2, 134)]) rfl
set_option maxRecDepth 100000 in
theorem z_X50 : ∀ w ∈ wsX50, w ∈ lw_tbl := z_in2 z_tch (ps := [(2, 226), (2, 228), (2, 230), (2, 232), (2, 234), (2, 236)]) rfl
set_option maxRecDepth 100000 in
theorem z_X30 : ∀ w ∈ wsX30, w ∈ lw_tbl := z_in2 z_tch (ps := [(2, 104), (2, 106)]) rfl
set_option maxRecDepth 100000 in
theorem z_X00 : ∀ w ∈ wsX00, w ∈ lw_tbl := z_in2 z_tch (ps := [(2, 197), (2, 199), (2, 201), (2, 203), (2, 205), (2, 207), (2, 209), (2, 211)]) rfl
set_option maxRecDepth 100000 in
theorem z_X90 : ∀ w ∈ wsX90, w ∈ lw_tbl := z_in2 z_tch (ps := [(2, 167), (2, 169), (2, 171), (2, 173), (2, 175), (2, 177), (2, 179), (2, 181), (2, 183)]) rfl
theorem z_law_in : ∀ w ∈ wsL_law, w ∈ lw_tbl := by
  unfold wsL_law
  exact List.forall_mem_append.mpr ⟨List.forall_mem_append.mpr ⟨List.forall_mem_append.mpr ⟨List.forall_mem_append.mpr ⟨List.forall_mem_append.mpr ⟨List.forall_mem_append.mpr ⟨List.forall_mem_append.mpr ⟨List.forall_mem_append.mpr ⟨List.forall_mem_append.mpr ⟨List.forall_mem_append.mpr ⟨List.forall_mem_append.mpr ⟨List.forall_mem_append.mpr ⟨List.forall_mem_append.mpr ⟨List.forall_mem_append.mpr ⟨z_w1, List.forall_mem_append.mpr ⟨z_w2, List.forall_mem_append.mpr ⟨z_w3, List.forall_mem_append.mpr ⟨z_w4, List.forall_mem_append.mpr ⟨z_w5, List.forall_mem_append.mpr ⟨z_w6, List.forall_mem_append.mpr ⟨z_w7, List.forall_mem_append.mpr ⟨z_w8, List.forall_mem_append.mpr ⟨z_w9, List.forall_mem_append.mpr ⟨z_w10, List.forall_mem_append.mpr ⟨z_w11, List.forall_mem_append.mpr ⟨z_w12, List.forall_mem_append.mpr ⟨z_w13, List.forall_mem_append.mpr ⟨z_w14, List.forall_mem_append.mpr ⟨z_w15, List.forall_mem_append.mpr ⟨z_w16, List.forall_mem_append.mpr ⟨z_w17, List.forall_mem_append.mpr ⟨z_w18, List.forall_mem_append.mpr ⟨z_w19, List.forall_mem_append.mpr ⟨z_w20, List.forall_mem_append.mpr ⟨z_w21, List.forall_mem_append.mpr ⟨z_w22, List.forall_mem_append.mpr ⟨z_w23, List.forall_mem_append.mpr ⟨z_w24, List.forall_mem_append.mpr ⟨z_w25, List.forall_mem_append.mpr ⟨z_w26, List.forall_mem_append.mpr ⟨z_w27, List.forall_mem_append.mpr ⟨z_w28, List.forall_mem_append.mpr ⟨z_w29, List.forall_mem_append.mpr ⟨z_w30, List.forall_mem_append.mpr ⟨z_w31, List.forall_mem_append.mpr ⟨z_w32, List.forall_mem_append.mpr ⟨z_w33, List.forall_mem_append.mpr ⟨z_w34, List.forall_mem_append.mpr ⟨z_w35, List.forall_mem_append.mpr ⟨z_w36, List.forall_mem_append.mpr ⟨z_w37, List.forall_mem_append.mpr ⟨z_w38, List.forall_mem_append.mpr ⟨z_w39, List.forall_mem_append.mpr ⟨z_w40, List.forall_mem_append.mpr ⟨z_w41, List.forall_mem_append.mpr ⟨z_w42, z_w43⟩⟩⟩⟩⟩⟩⟩⟩⟩⟩⟩⟩⟩⟩⟩⟩⟩⟩⟩⟩⟩⟩⟩⟩⟩⟩⟩⟩⟩⟩⟩⟩⟩⟩⟩⟩⟩⟩⟩⟩⟩⟩, z_X110⟩, z_X120⟩, z_X10⟩, z_X80⟩, z_X70⟩, z_X40⟩, z_X60⟩, z_X20⟩, z_X50⟩, z_X30⟩, z_X00⟩, z_X90⟩, fun _ h => absurd h List.not_mem_nil⟩
set_option maxRecDepth 100000 in
theorem z_M_in : ∀ w ∈ zM.map (fun q => Cond.methodLinkNest q.1 q.2.1 q.2.2.1 q.2.2.2), w ∈ lw_tbl := z_in2 z_tch (ps := [(2, 46), (2, 66), (2, 88), (2, 115), (2, 123), (2, 154), (3, 171), (3, 211), (3, 212), (3, 216), (3, 196), (5, 48), (2, 91), (4, 71), (4, 73), (4, 11), (2, 118), (4, 85), (4, 91), (4, 92), (4, 23), (3, 125), (3, 132), (3, 139), (3, 142), (3, 34), (4, 128)]) rfl
set_option maxRecDepth 100000 in
theorem z_D_in : ∀ w ∈ zDc.map (fun q => Cond.declares q), w ∈ lw_tbl := z_in2 z_tch (ps := [(3, 229), (4, 6), (4, 53), (4, 111)]) rfl
set_option maxRecDepth 100000 in
theorem z_E_in : ∀ w ∈ zE, w ∈ lw_tbl := z_in2 z_tch (ps := [(4, 74), (4, 75), (4, 95), (4, 96), (4, 76), (2, 6), (4, 77), (4, 79), (4, 78), (3, 0), (3, 1), (2, 2), (3, 2), (2, 37), (2, 36), (2, 38), (2, 40)]) rfl
set_option maxRecDepth 100000 in
theorem z_S_in : ∀ w ∈ zStr.map (fun q => Cond.stringRef q.1 q.2.1 q.2.2), w ∈ lw_tbl := z_in2 z_tch (ps := [(3, 37), (3, 38), (3, 39), (3, 40), (3, 41), (3, 42), (3, 43), (3, 44), (3, 45), (3, 46), (3, 47), (3, 48), (3, 49), (3, 50), (3, 51), (3, 52), (3, 53), (3, 54), (4, 26), (4, 27), (4, 28), (4, 29), (4, 30), (4, 31), (4, 32), (4, 33), (4, 34), (4, 35), (4, 36), (4, 37), (4, 38), (4, 70), (4, 88), (4, 89), (4, 90), (4, 93), (4, 94), (4, 119)]) rfl
set_option maxRecDepth 100000 in
theorem z_M_tab : (zM.map (fun q => Cond.methodLinkNest q.1 q.2.1 q.2.2.1 q.2.2.2)).all (fun w => w.onTables) = true := by decide +kernel
set_option maxRecDepth 100000 in
theorem z_D_tab : (zDc.map (fun q => Cond.declares q)).all (fun w => w.onTables) = true := by decide +kernel
/-- the literals' terms -/
def ztm (i : Nat) : Term := Term.string (zStr.getD i ("", 0, "")).1 (zStr.getD i ("", 0, "")).2.1
def zvt (i : Nat) : Term := Term.field (ztm i) "java/lang/String" "value" "[B"
/-- what the start gives of literal i -/
def zlw (i : Nat) : List Cond := [Cond.exactly (ztm i) "java/lang/String", Cond.eq (.field (ztm i) "java/lang/String" "coder" "B") (.int 0), Cond.arrayOf (zvt i) .byte, Cond.eq (.length (zvt i)) (.int (Int32.ofNat (zlen i)))] ++ (List.range (zlen i)).map (fun j => Cond.eq (.elem (zvt i) (.int (Int32.ofNat j))) (.int (zch i j)))
set_option maxRecDepth 100000 in
theorem z_l0 : (zlw 0).map some = ([9, 10, 11, 12, 13, 14, 15] : List Nat).map (fun i => (flatC (Jvm.Cond.and given_1 narrow_1))[i]?) := rfl
set_option maxRecDepth 100000 in
theorem z_l1 : (zlw 1).map some = ([16, 17, 18, 19, 20, 21, 22] : List Nat).map (fun i => (flatC (Jvm.Cond.and given_1 narrow_1))[i]?) := rfl
set_option maxRecDepth 100000 in
theorem z_l2 : (zlw 2).map some = ([23, 24, 25, 26, 27, 28, 29] : List Nat).map (fun i => (flatC (Jvm.Cond.and given_1 narrow_1))[i]?) := rfl
set_option maxRecDepth 100000 in
theorem z_l3 : (zlw 3).map some = ([30, 31, 32, 33, 34, 35, 36] : List Nat).map (fun i => (flatC (Jvm.Cond.and given_1 narrow_1))[i]?) := rfl
set_option maxRecDepth 100000 in
theorem z_l4 : (zlw 4).map some = ([37, 38, 39, 40, 41] : List Nat).map (fun i => (flatC (Jvm.Cond.and given_1 narrow_1))[i]?) := rfl
set_option maxRecDepth 100000 in
theorem z_l5 : (zlw 5).map some = ([42, 43, 44, 45, 46] : List Nat).map (fun i => (flatC (Jvm.Cond.and given_1 narrow_1))[i]?) := rfl
set_option maxRecDepth 100000 in
theorem z_l6 : (zlw 6).map some = ([47, 48, 49, 50, 51] : List Nat).map (fun i => (flatC (Jvm.Cond.and given_1 narrow_1))[i]?) := rfl
set_option maxRecDepth 100000 in
theorem z_l7 : (zlw 7).map some = ([52, 53, 54, 55, 56] : List Nat).map (fun i => (flatC (Jvm.Cond.and given_1 narrow_1))[i]?) := rfl
set_option maxRecDepth 100000 in
theorem z_l8 : (zlw 8).map some = ([57, 58, 59, 60, 61] : List Nat).map (fun i => (flatC (Jvm.Cond.and given_1 narrow_1))[i]?) := rfl
set_option maxRecDepth 100000 in
theorem z_l9 : (zlw 9).map some = ([62, 63, 64, 65, 66] : List Nat).map (fun i => (flatC (Jvm.Cond.and given_1 narrow_1))[i]?) := rfl
set_option maxRecDepth 100000 in
theorem z_l10 : (zlw 10).map some = ([67, 68, 69, 70, 71] : List Nat).map (fun i => (flatC (Jvm.Cond.and given_1 narrow_1))[i]?) := rfl
set_option maxRecDepth 100000 in
theorem z_l11 : (zlw 11).map some = ([72, 73, 74, 75, 76] : List Nat).map (fun i => (flatC (Jvm.Cond.and given_1 narrow_1))[i]?) := rfl
set_option maxRecDepth 100000 in
theorem z_l12 : (zlw 12).map some = ([77, 78, 79, 80, 81, 82] : List Nat).map (fun i => (flatC (Jvm.Cond.and given_1 narrow_1))[i]?) := rfl
set_option maxRecDepth 100000 in
theorem z_l13 : (zlw 13).map some = ([83, 84, 85, 86, 87, 88] : List Nat).map (fun i => (flatC (Jvm.Cond.and given_1 narrow_1))[i]?) := rfl
set_option maxRecDepth 100000 in
theorem z_l14 : (zlw 14).map some = ([89, 90, 91, 92, 93, 94] : List Nat).map (fun i => (flatC (Jvm.Cond.and given_1 narrow_1))[i]?) := rfl
set_option maxRecDepth 100000 in
theorem z_l15 : (zlw 15).map some = ([95, 96, 97, 98, 99] : List Nat).map (fun i => (flatC (Jvm.Cond.and given_1 narrow_1))[i]?) := rfl
set_option maxRecDepth 100000 in
theorem z_l16 : (zlw 16).map some = ([100, 101, 102, 103, 104, 105] : List Nat).map (fun i => (flatC (Jvm.Cond.and given_1 narrow_1))[i]?) := rfl
set_option maxRecDepth 100000 in
theorem z_l17 : (zlw 17).map some = ([106, 107, 108, 109] : List Nat).map (fun i => (flatC (Jvm.Cond.and given_1 narrow_1))[i]?) := rfl
set_option maxRecDepth 100000 in
theorem z_l18 : (zlw 18).map some = ([110, 111, 112, 113, 114, 115, 116, 117] : List Nat).map (fun i => (flatC (Jvm.Cond.and given_1 narrow_1))[i]?) := rfl
set_option maxRecDepth 100000 in
theorem z_l19 : (zlw 19).map some = ([118, 119, 120, 121, 122, 123, 124, 125, 126] : List Nat).map (fun i => (flatC (Jvm.Cond.and given_1 narrow_1))[i]?) := rfl
set_option maxRecDepth 100000 in
theorem z_l20 : (zlw 20).map some = ([127, 128, 129, 130, 131, 132, 133, 134, 135] : List Nat).map (fun i => (flatC (Jvm.Cond.and given_1 narrow_1))[i]?) := rfl
set_option maxRecDepth 100000 in
theorem z_l21 : (zlw 21).map some = ([136, 137, 138, 139, 140, 141, 142, 143] : List Nat).map (fun i => (flatC (Jvm.Cond.and given_1 narrow_1))[i]?) := rfl
set_option maxRecDepth 100000 in
theorem z_l22 : (zlw 22).map some = ([144, 145, 146, 147, 148, 149] : List Nat).map (fun i => (flatC (Jvm.Cond.and given_1 narrow_1))[i]?) := rfl
set_option maxRecDepth 100000 in
theorem z_l23 : (zlw 23).map some = ([150, 151, 152, 153, 154, 155] : List Nat).map (fun i => (flatC (Jvm.Cond.and given_1 narrow_1))[i]?) := rfl
set_option maxRecDepth 100000 in
theorem z_l24 : (zlw 24).map some = ([156, 157, 158, 159, 160, 161, 162, 163, 164, 165] : List Nat).map (fun i => (flatC (Jvm.Cond.and given_1 narrow_1))[i]?) := rfl
set_option maxRecDepth 100000 in
theorem z_l25 : (zlw 25).map some = ([166, 167, 168, 169, 170, 171, 172, 173, 174] : List Nat).map (fun i => (flatC (Jvm.Cond.and given_1 narrow_1))[i]?) := rfl
set_option maxRecDepth 100000 in
theorem z_l26 : (zlw 26).map some = ([175, 176, 177, 178, 179, 180, 181, 182, 183] : List Nat).map (fun i => (flatC (Jvm.Cond.and given_1 narrow_1))[i]?) := rfl
set_option maxRecDepth 100000 in
theorem z_l27 : (zlw 27).map some = ([184, 185, 186, 187, 188, 189, 190, 191] : List Nat).map (fun i => (flatC (Jvm.Cond.and given_1 narrow_1))[i]?) := rfl
set_option maxRecDepth 100000 in
theorem z_l28 : (zlw 28).map some = ([192, 193, 194, 195, 196, 197, 198, 199, 200, 201] : List Nat).map (fun i => (flatC (Jvm.Cond.and given_1 narrow_1))[i]?) := rfl
set_option maxRecDepth 100000 in
theorem z_l29 : (zlw 29).map some = ([202, 203, 204, 205, 206, 207, 208, 209, 210, 211] : List Nat).map (fun i => (flatC (Jvm.Cond.and given_1 narrow_1))[i]?) := rfl
set_option maxRecDepth 100000 in
theorem z_l30 : (zlw 30).map some = ([212, 213, 214, 215, 216, 217, 218, 219] : List Nat).map (fun i => (flatC (Jvm.Cond.and given_1 narrow_1))[i]?) := rfl
set_option maxRecDepth 100000 in
theorem z_l31 : (zlw 31).map some = ([220, 221, 222, 223, 224, 225] : List Nat).map (fun i => (flatC (Jvm.Cond.and given_1 narrow_1))[i]?) := rfl
set_option maxRecDepth 100000 in
theorem z_l32 : (zlw 32).map some = ([226, 227, 228, 229] : List Nat).map (fun i => (flatC (Jvm.Cond.and given_1 narrow_1))[i]?) := rfl
set_option maxRecDepth 100000 in
theorem z_l33 : (zlw 33).map some = ([231, 232, 233, 234, 235, 236, 237, 238, 239] : List Nat).map (fun i => (flatC (Jvm.Cond.and given_1 narrow_1))[i]?) := rfl
set_option maxRecDepth 100000 in
theorem z_l34 : (zlw 34).map some = ([240, 241, 242, 243, 244, 245, 246, 247, 248, 249] : List Nat).map (fun i => (flatC (Jvm.Cond.and given_1 narrow_1))[i]?) := rfl
set_option maxRecDepth 100000 in
theorem z_l35 : (zlw 35).map some = ([250, 251, 252, 253, 254, 255, 256, 257, 258, 259] : List Nat).map (fun i => (flatC (Jvm.Cond.and given_1 narrow_1))[i]?) := rfl
set_option maxRecDepth 100000 in
theorem z_l36 : (zlw 36).map some = ([260, 261, 262, 263, 264, 265, 266, 267] : List Nat).map (fun i => (flatC (Jvm.Cond.and given_1 narrow_1))[i]?) := rfl
set_option maxRecDepth 100000 in
theorem z_l37 : (zlw 37).map some = ([268, 269, 270, 271, 272, 273, 274, 275, 276, 277] : List Nat).map (fun i => (flatC (Jvm.Cond.and given_1 narrow_1))[i]?) := rfl
theorem z_lit : ∀ i : Nat, i < 38 → ∀ w ∈ zlw i, w ∈ flatC (Jvm.Cond.and given_1 narrow_1)
  | 0, _ => z_in z_l0
  | 1, _ => z_in z_l1
  | 2, _ => z_in z_l2
  | 3, _ => z_in z_l3
  | 4, _ => z_in z_l4
  | 5, _ => z_in z_l5
  | 6, _ => z_in z_l6
  | 7, _ => z_in z_l7
  | 8, _ => z_in z_l8
  | 9, _ => z_in z_l9
  | 10, _ => z_in z_l10
  | 11, _ => z_in z_l11
  | 12, _ => z_in z_l12
  | 13, _ => z_in z_l13
  | 14, _ => z_in z_l14
  | 15, _ => z_in z_l15
  | 16, _ => z_in z_l16
  | 17, _ => z_in z_l17
  | 18, _ => z_in z_l18
  | 19, _ => z_in z_l19
  | 20, _ => z_in z_l20
  | 21, _ => z_in z_l21
  | 22, _ => z_in z_l22
  | 23, _ => z_in z_l23
  | 24, _ => z_in z_l24
  | 25, _ => z_in z_l25
  | 26, _ => z_in z_l26
  | 27, _ => z_in z_l27
  | 28, _ => z_in z_l28
  | 29, _ => z_in z_l29
  | 30, _ => z_in z_l30
  | 31, _ => z_in z_l31
  | 32, _ => z_in z_l32
  | 33, _ => z_in z_l33
  | 34, _ => z_in z_l34
  | 35, _ => z_in z_l35
  | 36, _ => z_in z_l36
  | 37, _ => z_in z_l37
  | i + 38, h => absurd h (by omega)
set_option maxRecDepth 100000 in
theorem z_st1 : Cond.eq (.static "java/lang/String" "COMPACT_STRINGS" "Z") (.int 1) ∈ flatC (Jvm.Cond.and given_1 narrow_1) := List.mem_of_getElem? (i := 4) (by decide +kernel)
set_option maxRecDepth 100000 in
theorem z_st2 : Cond.isRef (.static "jdk/internal/util/Preconditions" "SIOOBE_FORMATTER" "Ljava/util/function/BiFunction;") ∈ flatC (Jvm.Cond.and given_1 narrow_1) := List.mem_of_getElem? (i := 5) (by decide +kernel)
set_option maxRecDepth 100000 in
theorem z_x0 : Cond.laysStatic "java/lang/String" "COMPACT_STRINGS" "Z" ∈ lw_tbl := List.mem_of_getElem? (i := 377) (by decide +kernel)
set_option maxRecDepth 100000 in
theorem z_x1 : Cond.initialized "java/lang/String" ∈ lw_tbl := List.mem_of_getElem? (i := 87) (by decide +kernel)
set_option maxRecDepth 100000 in
theorem z_x2 : Cond.laysStatic "jdk/internal/util/Preconditions" "SIOOBE_FORMATTER" "Ljava/util/function/BiFunction;" ∈ lw_tbl := List.mem_of_getElem? (i := 393) (by decide +kernel)
set_option maxRecDepth 100000 in
theorem z_x3 : Cond.initialized "jdk/internal/util/Preconditions" ∈ lw_tbl := List.mem_of_getElem? (i := 89) (by decide +kernel)
set_option maxRecDepth 100000 in
theorem z_x4 : Cond.arrayClass .int ∈ lw_tbl := List.mem_of_getElem? (i := 136) (by decide +kernel)
set_option maxRecDepth 100000 in
theorem z_x5 : Cond.arrayClass .long ∈ lw_tbl := List.mem_of_getElem? (i := 210) (by decide +kernel)
set_option maxRecDepth 100000 in
theorem z_x6 : Cond.arrayClass .char ∈ lw_tbl := List.mem_of_getElem? (i := 116) (by decide +kernel)
