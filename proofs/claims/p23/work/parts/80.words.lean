theorem z_in {big ws : List Cond} {is : List Nat} (h : ws.map some = is.map (fun i => big[i]?)) : ∀ w ∈ ws, w ∈ big := by
  intro w hw
  have h1 : some w ∈ is.map (fun i => big[i]?) := h ▸ List.mem_map_of_mem hw
  obtain ⟨i, -, e⟩ := List.mem_map.mp h1
  exact List.mem_of_getElem? e
set_option maxRecDepth 100000 in
theorem z_w1 : ∀ w ∈ wsL_law_r1, w ∈ lw_tbl := z_in2 z_tch (ps := [(2, 18), (2, 19), (2, 1), (2, 62), (2, 20), (2, 21), (2, 22), (2, 23), (2, 24), (2, 25), (2, 26), (2, 27), (2, 2), (4, 129), (4, 130), (2, 43), (2, 44), (2, 4), (4, 131), (2, 63), (2, 64), (2, 5), (4, 132), (2, 85)]) rfl
set_option maxRecDepth 100000 in
theorem z_w2 : ∀ w ∈ wsL_law_r2, w ∈ lw_tbl := z_in2 z_tch (ps := [(2, 86), (2, 7), (4, 133), (2, 112), (2, 113), (2, 9), (4, 134), (2, 120), (2, 121), (2, 10), (4, 135), (2, 137), (2, 138), (2, 11), (4, 136), (4, 137), (4, 138), (4, 139), (2, 28), (2, 29), (2, 30), (2, 31), (2, 32), (2, 33)]) rfl
set_option maxRecDepth 100000 in
theorem z_w3 : ∀ w ∈ wsL_law_r3, w ∈ lw_tbl := z_in2 z_tch (ps := [(2, 3), (2, 34), (2, 42), (2, 35), (2, 46), (2, 47), (2, 48), (2, 49), (2, 50), (2, 51), (2, 66), (2, 67), (2, 68), (2, 88), (2, 89), (2, 91), (2, 6), (2, 92), (2, 93), (2, 94), (2, 95), (2, 8), (2, 108), (2, 96)]) rfl
set_option maxRecDepth 100000 in
theorem z_w4 : ∀ w ∈ wsL_law_r4, w ∈ lw_tbl := z_in2 z_tch (ps := [(2, 97), (2, 98), (2, 99), (2, 100), (2, 101), (2, 115), (2, 116), (2, 123), (2, 124), (2, 125), (2, 136), (2, 126), (2, 127), (2, 139), (2, 140), (2, 141), (2, 142), (2, 143), (2, 217), (2, 219), (2, 145), (2, 146), (2, 12), (2, 213)]) rfl
set_option maxRecDepth 100000 in
theorem z_w5 : ∀ w ∈ wsL_law_r5, w ∈ lw_tbl := z_in2 z_tch (ps := [(2, 188), (2, 215), (2, 144), (2, 147), (2, 148), (2, 149), (2, 150), (2, 151), (2, 152), (2, 13), (2, 187), (2, 185), (2, 191), (2, 192), (2, 193), (2, 189), (2, 190), (2, 154), (2, 155), (2, 156), (2, 157), (2, 158), (2, 159), (2, 160)]) rfl
set_option maxRecDepth 100000 in
theorem z_w6 : ∀ w ∈ wsL_law_r6, w ∈ lw_tbl := z_in2 z_tch (ps := [(2, 161), (2, 163), (2, 164), (2, 186), (2, 238), (2, 239), (3, 0), (3, 1), (2, 36), (3, 2), (3, 4), (0, 0), (3, 5), (2, 214), (2, 216), (2, 218), (2, 220), (3, 6), (3, 7), (3, 8), (3, 9), (2, 52), (3, 10), (3, 11)]) rfl
set_option maxRecDepth 100000 in
theorem z_w7 : ∀ w ∈ wsL_law_r7, w ∈ lw_tbl := z_in2 z_tch (ps := [(3, 12), (3, 13), (3, 14), (3, 15), (3, 16), (3, 17), (3, 18), (3, 20), (0, 1), (3, 21), (3, 22), (3, 24), (0, 2), (3, 25), (3, 26), (3, 28), (0, 3), (3, 29), (3, 30), (3, 31), (3, 32), (3, 34), (3, 35), (3, 54)]) rfl
set_option maxRecDepth 100000 in
theorem z_w8 : ∀ w ∈ wsL_law_r8, w ∈ lw_tbl := z_in2 z_tch (ps := [(3, 55), (3, 56), (2, 14), (3, 57), (5, 136), (3, 58), (3, 59), (3, 60), (3, 61), (3, 62), (5, 137), (3, 64), (3, 65), (3, 66), (3, 67), (3, 68), (3, 69), (3, 70), (3, 71), (3, 72), (3, 73), (2, 15), (3, 74), (3, 75)]) rfl
set_option maxRecDepth 100000 in
theorem z_w9 : ∀ w ∈ wsL_law_r9, w ∈ lw_tbl := z_in2 z_tch (ps := [(3, 76), (3, 77), (3, 78), (3, 80), (3, 81), (2, 16), (3, 82), (3, 83), (3, 84), (2, 17), (3, 85), (3, 86), (3, 87), (3, 88), (3, 89), (3, 90), (3, 91), (3, 92), (3, 93), (3, 94), (3, 95), (3, 96), (3, 98), (3, 100)]) rfl
set_option maxRecDepth 100000 in
theorem z_w10 : ∀ w ∈ wsL_law_r10, w ∈ lw_tbl := z_in2 z_tch (ps := [(3, 102), (3, 103), (3, 104), (3, 105), (3, 106), (3, 107), (3, 108), (3, 109), (3, 110), (3, 111), (2, 69), (2, 70), (2, 71), (2, 73), (3, 112), (3, 113), (3, 114), (3, 115), (3, 116), (3, 117), (3, 118), (3, 119), (3, 120), (3, 122)]) rfl
set_option maxRecDepth 100000 in
theorem z_w11 : ∀ w ∈ wsL_law_r11, w ∈ lw_tbl := z_in2 z_tch (ps := [(0, 4), (3, 123), (3, 125), (3, 126), (3, 127), (3, 129), (0, 5), (3, 130), (2, 72), (3, 132), (3, 133), (3, 134), (3, 136), (0, 6), (3, 137), (3, 139), (3, 140), (3, 142), (3, 143), (3, 144), (3, 146), (0, 7), (3, 147), (3, 148)]) rfl
set_option maxRecDepth 100000 in
theorem z_w12 : ∀ w ∈ wsL_law_r12, w ∈ lw_tbl := z_in2 z_tch (ps := [(3, 149), (3, 150), (3, 151), (2, 194), (2, 195), (3, 152), (3, 153), (3, 154), (3, 155), (2, 162), (2, 165), (3, 156), (3, 157), (3, 158), (3, 159), (2, 102), (3, 160), (3, 161), (3, 162), (3, 163), (3, 164), (3, 165), (3, 166), (3, 168)]) rfl
set_option maxRecDepth 100000 in
theorem z_w13 : ∀ w ∈ wsL_law_r13, w ∈ lw_tbl := z_in2 z_tch (ps := [(0, 8), (3, 169), (3, 171), (3, 173), (0, 9), (3, 174), (3, 175), (3, 176), (3, 177), (3, 178), (3, 179), (3, 180), (3, 181), (3, 182), (3, 183), (3, 185), (0, 10), (3, 186), (3, 187), (3, 189), (0, 11), (3, 190), (3, 191), (3, 192)]) rfl
set_option maxRecDepth 100000 in
theorem z_w14 : ∀ w ∈ wsL_law_r14, w ∈ lw_tbl := z_in2 z_tch (ps := [(3, 193), (3, 194), (3, 196), (3, 197), (3, 198), (3, 199), (3, 200), (3, 201), (3, 202), (3, 203), (3, 204), (3, 205), (3, 206), (3, 208), (0, 12), (3, 209), (3, 212), (3, 213), (3, 214), (3, 216), (3, 217), (3, 218), (3, 220), (0, 13)]) rfl
set_option maxRecDepth 100000 in
theorem z_w15 : ∀ w ∈ wsL_law_r15, w ∈ lw_tbl := z_in2 z_tch (ps := [(3, 221), (3, 222), (3, 223), (3, 224), (3, 225), (3, 226), (3, 227), (3, 229), (3, 230), (3, 231), (3, 232), (3, 233), (3, 234), (3, 235), (3, 236), (3, 237), (3, 238), (3, 239), (4, 0), (4, 1), (4, 2), (4, 3), (4, 4), (4, 6)]) rfl
set_option maxRecDepth 100000 in
theorem z_w16 : ∀ w ∈ wsL_law_r16, w ∈ lw_tbl := z_in2 z_tch (ps := [(4, 7), (4, 8), (4, 9), (4, 11), (4, 12), (4, 13), (4, 14), (4, 15), (4, 16), (4, 17), (4, 18), (4, 19), (4, 20), (4, 21), (4, 23), (4, 24), (4, 38), (4, 39), (4, 40), (4, 41), (4, 42), (4, 43), (5, 134), (1, 0)]) rfl
set_option maxRecDepth 100000 in
theorem z_w17 : ∀ w ∈ wsL_law_r17, w ∈ lw_tbl := z_in2 z_tch (ps := [(4, 45), (4, 46), (4, 47), (4, 48), (4, 49), (4, 50), (4, 51), (4, 53), (4, 54), (4, 55), (4, 56), (4, 57), (4, 58), (4, 59), (4, 60), (4, 61), (4, 63), (0, 14), (4, 64), (4, 65), (4, 66), (4, 67), (4, 68), (4, 71)]) rfl
set_option maxRecDepth 100000 in
theorem z_w18 : ∀ w ∈ wsL_law_r18, w ∈ lw_tbl := z_in2 z_tch (ps := [(4, 79), (4, 80), (4, 81), (4, 82), (4, 83), (4, 85), (4, 86), (4, 96), (5, 135), (1, 1), (4, 98), (4, 99), (4, 100), (4, 101), (4, 102), (4, 103), (4, 104), (4, 105), (4, 106), (4, 107), (1, 2), (4, 108), (4, 109), (4, 111)]) rfl
set_option maxRecDepth 100000 in
theorem z_w19 : ∀ w ∈ wsL_law_r19, w ∈ lw_tbl := z_in2 z_tch (ps := [(4, 112), (4, 113), (4, 114), (4, 115), (4, 116), (4, 117), (1, 3), (4, 119), (4, 120), (4, 121), (4, 122), (4, 123), (4, 124), (4, 125), (4, 126), (4, 128), (5, 34), (5, 35), (5, 36), (5, 37), (2, 224), (4, 196), (4, 197), (4, 198)]) rfl
set_option maxRecDepth 100000 in
theorem z_w20 : ∀ w ∈ wsL_law_r20, w ∈ lw_tbl := z_in2 z_tch (ps := [(4, 199), (4, 200), (4, 201), (4, 202), (2, 221), (2, 223), (4, 203), (4, 204), (4, 205), (4, 206), (2, 128), (4, 211), (4, 212), (4, 213), (4, 207), (4, 208), (4, 209), (4, 210), (4, 214), (4, 216), (0, 15), (4, 217), (4, 218), (4, 219)]) rfl
set_option maxRecDepth 100000 in
theorem z_w21 : ∀ w ∈ wsL_law_r21, w ∈ lw_tbl := z_in2 z_tch (ps := [(4, 220), (4, 221), (4, 223), (0, 16), (4, 224), (4, 225), (4, 226), (4, 228), (0, 17), (4, 229), (4, 230), (4, 232), (0, 18), (4, 233), (4, 234), (4, 236), (0, 19), (4, 237), (4, 238), (4, 239), (5, 0), (5, 2), (0, 20), (5, 3)]) rfl
set_option maxRecDepth 100000 in
theorem z_w22 : ∀ w ∈ wsL_law_r22, w ∈ lw_tbl := z_in2 z_tch (ps := [(5, 4), (5, 6), (0, 21), (5, 7), (5, 8), (5, 9), (5, 10), (5, 11), (5, 12), (5, 14), (0, 22), (5, 15), (5, 16), (5, 17), (5, 19), (0, 23), (5, 20), (5, 21), (5, 22), (5, 23), (5, 24), (5, 25), (5, 26), (5, 27)]) rfl
set_option maxRecDepth 100000 in
theorem z_w23 : ∀ w ∈ wsL_law_r23, w ∈ lw_tbl := z_in2 z_tch (ps := [(5, 28), (5, 30), (5, 31), (5, 32), (5, 33), (4, 192), (4, 193), (4, 194), (4, 195), (2, 222), (5, 56), (5, 57), (5, 58), (5, 59), (5, 60), (5, 74), (5, 75), (5, 76), (5, 77), (5, 78), (5, 79), (5, 80), (5, 81), (5, 82)]) rfl
set_option maxRecDepth 100000 in
theorem z_w24 : ∀ w ∈ wsL_law_r24, w ∈ lw_tbl := z_in2 z_tch (ps := [(5, 83), (5, 109), (5, 110), (2, 0), (5, 111), (5, 104), (5, 105), (5, 106), (5, 107), (5, 108), (5, 112), (5, 113), (5, 114), (5, 115), (5, 92), (5, 93), (5, 94), (5, 95), (4, 168), (5, 116), (5, 117), (5, 118), (5, 119), (5, 120)]) rfl
set_option maxRecDepth 100000 in
theorem z_w25 : ∀ w ∈ wsL_law_r25, w ∈ lw_tbl := z_in2 z_tch (ps := [(5, 121), (4, 178), (4, 179), (4, 180), (4, 181), (4, 182), (4, 183), (4, 184), (4, 185), (4, 186), (4, 187), (4, 188), (4, 189), (4, 190), (4, 191), (5, 61), (5, 62), (5, 63), (5, 64), (5, 65), (5, 66), (5, 67), (5, 68), (5, 73)]) rfl
set_option maxRecDepth 100000 in
theorem z_w26 : ∀ w ∈ wsL_law_r26, w ∈ lw_tbl := z_in2 z_tch (ps := [(5, 69), (5, 71), (0, 24), (5, 72), (5, 84), (5, 85), (5, 86), (5, 87), (5, 38), (5, 39), (5, 40), (5, 41), (5, 42), (5, 43), (5, 44), (5, 45), (5, 122), (5, 123), (5, 124), (5, 125), (5, 126), (5, 127), (5, 128), (5, 129)]) rfl
set_option maxRecDepth 100000 in
theorem z_w27 : ∀ w ∈ wsL_law_r27, w ∈ lw_tbl := z_in2 z_tch (ps := [(5, 130), (5, 131), (5, 132), (5, 133), (5, 46), (5, 47), (5, 48), (5, 49), (5, 50), (5, 51), (5, 52), (5, 53), (5, 54), (5, 55), (4, 164), (4, 165), (4, 166), (4, 167), (5, 88), (5, 89), (5, 90), (5, 91), (5, 96), (5, 97)]) rfl
set_option maxRecDepth 100000 in
theorem z_w28 : ∀ w ∈ wsL_law_r28, w ∈ lw_tbl := z_in2 z_tch (ps := [(5, 98), (5, 99), (5, 100), (5, 101), (5, 102), (5, 103), (4, 169), (4, 170), (4, 171), (4, 172), (4, 173), (4, 174), (4, 175), (4, 176), (4, 177)]) rfl
set_option maxRecDepth 100000 in
theorem z_X110 : ∀ w ∈ wsX110, w ∈ lw_tbl := z_in2 z_tch (ps := [(4, 140), (4, 142), (4, 144), (4, 146), (4, 148), (4, 150), (4, 152), (4, 154), (4, 156), (4, 158), (4, 160)]) rfl
set_option maxRecDepth 100000 in
theorem z_X10 : ∀ w ∈ wsX10, w ∈ lw_tbl := z_in2 z_tch (ps := [(2, 37), (2, 39)]) rfl
set_option maxRecDepth 100000 in
theorem z_X80 : ∀ w ∈ wsX80, w ∈ lw_tbl := z_in2 z_tch (ps := [(2, 53), (2, 55), (2, 57), (2, 59)]) rfl
set_option maxRecDepth 100000 in
theorem z_X70 : ∀ w ∈ wsX70, w ∈ lw_tbl := z_in2 z_tch (ps := [(2, 74), (2, 76), (2, 78), (2, 80), (2, 82)]) rfl
set_option maxRecDepth 100000 in
theorem z_X40 : ∀ w ∈ wsX40, w ∈ lw_tbl := z_in2 z_tch (ps := [(2, 109)]) rfl
set_option maxRecDepth 100000 in
theorem z_X60 : ∀ w ∈ wsX60, w ∈ lw_tbl := z_in2 z_tch (ps := [(2, 118)]) rfl
set_option maxRecDepth 100000 in
theorem z_X20 : ∀ w ∈ wsX20, w ∈ lw_tbl := z_in2 z_tch (ps := [(2, 129), (2, 131), (2, 133)]) rfl
set_option maxRecDepth 100000 in
theorem z_X50 : ∀ w ∈ wsX50, w ∈ lw_tbl := z_in2 z_tch (ps := [(2, 225), (2, 227), (2, 229), (2, 231), (2, 233), (2, 235)]) rfl
set_option maxRecDepth 100000 in
theorem z_X30 : ∀ w ∈ wsX30, w ∈ lw_tbl := z_in2 z_tch (ps := [(2, 103), (2, 105)]) rfl
set_option maxRecDepth 100000 in
theorem z_X00 : ∀ w ∈ wsX00, w ∈ lw_tbl := z_in2 z_tch (ps := [(2, 196), (2, 198), (2, 200), (2, 202), (2, 204), (2, 206), (2, 208), (2, 210)]) rfl
set_option maxRecDepth 100000 in
theorem z_X90 : ∀ w ∈ wsX90, w ∈ lw_tbl := z_in2 z_tch (ps := [(2, 166), (2, 168), (2, 170), (2, 172), (2, 174), (2, 176), (2, 178), (2, 180), (2, 182)]) rfl
theorem z_law_in : ∀ w ∈ wsL_law, w ∈ lw_tbl := by
  unfold wsL_law
  exact List.forall_mem_append.mpr ⟨List.forall_mem_append.mpr ⟨List.forall_mem_append.mpr ⟨List.forall_mem_append.mpr ⟨List.forall_mem_append.mpr ⟨List.forall_mem_append.mpr ⟨List.forall_mem_append.mpr ⟨List.forall_mem_append.mpr ⟨List.forall_mem_append.mpr ⟨List.forall_mem_append.mpr ⟨List.forall_mem_append.mpr ⟨List.forall_mem_append.mpr ⟨List.forall_mem_append.mpr ⟨z_w1, List.forall_mem_append.mpr ⟨z_w2, List.forall_mem_append.mpr ⟨z_w3, List.forall_mem_append.mpr ⟨z_w4, List.forall_mem_append.mpr ⟨z_w5, List.forall_mem_append.mpr ⟨z_w6, List.forall_mem_append.mpr ⟨z_w7, List.forall_mem_append.mpr ⟨z_w8, List.forall_mem_append.mpr ⟨z_w9, List.forall_mem_append.mpr ⟨z_w10, List.forall_mem_append.mpr ⟨z_w11, List.forall_mem_append.mpr ⟨z_w12, List.forall_mem_append.mpr ⟨z_w13, List.forall_mem_append.mpr ⟨z_w14, List.forall_mem_append.mpr ⟨z_w15, List.forall_mem_append.mpr ⟨z_w16, List.forall_mem_append.mpr ⟨z_w17, List.forall_mem_append.mpr ⟨z_w18, List.forall_mem_append.mpr ⟨z_w19, List.forall_mem_append.mpr ⟨z_w20, List.forall_mem_append.mpr ⟨z_w21, List.forall_mem_append.mpr ⟨z_w22, List.forall_mem_append.mpr ⟨z_w23, List.forall_mem_append.mpr ⟨z_w24, List.forall_mem_append.mpr ⟨z_w25, List.forall_mem_append.mpr ⟨z_w26, List.forall_mem_append.mpr ⟨z_w27, z_w28⟩⟩⟩⟩⟩⟩⟩⟩⟩⟩⟩⟩⟩⟩⟩⟩⟩⟩⟩⟩⟩⟩⟩⟩⟩⟩⟩, z_X110⟩, z_X10⟩, z_X80⟩, z_X70⟩, z_X40⟩, z_X60⟩, z_X20⟩, z_X50⟩, z_X30⟩, z_X00⟩, z_X90⟩, fun _ h => absurd h List.not_mem_nil⟩
set_option maxRecDepth 100000 in
theorem z_M_in : ∀ w ∈ zM.map (fun q => Cond.methodLinkNest q.1 q.2.1 q.2.2.1 q.2.2.2), w ∈ lw_tbl := z_in2 z_tch (ps := [(2, 45), (2, 65), (2, 87), (2, 114), (2, 122), (2, 153), (3, 170), (3, 210), (3, 211), (3, 215), (3, 195), (5, 29), (2, 90), (4, 70), (4, 72), (4, 10), (2, 117), (4, 84), (4, 90), (4, 91), (4, 22), (3, 124), (3, 131), (3, 138), (3, 141), (3, 33), (4, 127)]) rfl
set_option maxRecDepth 100000 in
theorem z_D_in : ∀ w ∈ zDc.map (fun q => Cond.declares q), w ∈ lw_tbl := z_in2 z_tch (ps := [(3, 228), (4, 5), (4, 52), (4, 110)]) rfl
set_option maxRecDepth 100000 in
theorem z_E_in : ∀ w ∈ zE, w ∈ lw_tbl := z_in2 z_tch (ps := [(4, 73), (4, 74), (4, 94), (4, 95), (4, 75), (2, 6), (4, 76), (4, 78), (4, 77), (2, 239), (3, 0), (2, 2), (3, 1), (2, 36), (2, 35), (2, 37), (2, 39)]) rfl
set_option maxRecDepth 100000 in
theorem z_S_in : ∀ w ∈ zStr.map (fun q => Cond.stringRef q.1 q.2.1 q.2.2), w ∈ lw_tbl := z_in2 z_tch (ps := [(3, 36), (3, 37), (3, 38), (3, 39), (3, 40), (3, 41), (3, 42), (3, 43), (3, 44), (3, 45), (3, 46), (3, 47), (3, 48), (3, 49), (3, 50), (3, 51), (3, 52), (3, 53), (4, 25), (4, 26), (4, 27), (4, 28), (4, 29), (4, 30), (4, 31), (4, 32), (4, 33), (4, 34), (4, 35), (4, 36), (4, 37), (4, 69), (4, 87), (4, 88), (4, 89), (4, 92), (4, 93), (4, 118)]) rfl
set_option maxRecDepth 100000 in
theorem z_M_tab : (zM.map (fun q => Cond.methodLinkNest q.1 q.2.1 q.2.2.1 q.2.2.2)).all (fun w => w.onTables) = true := by decide +kernel
set_option maxRecDepth 100000 in
theorem z_D_tab : (zDc.map (fun q => Cond.declares q)).all (fun w => w.onTables) = true := by decide +kernel
/-- the literals' terms -/
def ztm (i : Nat) : Term := Term.string (zStr.getD i ("", 0, "")).1 (zStr.getD i ("", 0, "")).2.1
def zvt (i : Nat) : Term := Term.field (ztm i) "java/lang/String" "value" "[B"
/-- what the start gives of literal i -/
def zlw (i : Nat) : List Cond := [Cond.exactly (ztm i) "java/lang/String", Cond.eq (.field (ztm i) "java/lang/String" "coder" "B") (.int 0), Cond.arrayOf (zvt i) .byte, Cond.eq (.length (zvt i)) (.int (Int32.ofNat (zlen i)))] ++ (List.range (zlen i)).map (fun j => Cond.eq (.elem (zvt i) (.int (Int32.ofNat j))) (.int (zch i j)))
set_option maxRecDepth 100000 in
theorem z_l0 : (zlw 0).map some = ([9, 10, 11, 12, 13, 14, 15] : List Nat).map (fun i => (flatC (Jvm.Cond.and given_1 narrow_1))[i]?) := rfl
set_option maxRecDepth 100000 in
theorem z_l1 : (zlw 1).map some = ([16, 17, 18, 19, 20, 21, 22] : List Nat).map (fun i => (flatC (Jvm.Cond.and given_1 narrow_1))[i]?) := rfl
set_option maxRecDepth 100000 in
theorem z_l2 : (zlw 2).map some = ([23, 24, 25, 26, 27, 28, 29] : List Nat).map (fun i => (flatC (Jvm.Cond.and given_1 narrow_1))[i]?) := rfl
set_option maxRecDepth 100000 in
theorem z_l3 : (zlw 3).map some = ([30, 31, 32, 33, 34, 35, 36] : List Nat).map (fun i => (flatC (Jvm.Cond.and given_1 narrow_1))[i]?) := rfl
set_option maxRecDepth 100000 in
theorem z_l4 : (zlw 4).map some = ([37, 38, 39, 40, 41] : List Nat).map (fun i => (flatC (Jvm.Cond.and given_1 narrow_1))[i]?) := rfl
set_option maxRecDepth 100000 in
theorem z_l5 : (zlw 5).map some = ([42, 43, 44, 45, 46] : List Nat).map (fun i => (flatC (Jvm.Cond.and given_1 narrow_1))[i]?) := rfl
set_option maxRecDepth 100000 in
theorem z_l6 : (zlw 6).map some = ([47, 48, 49, 50, 51] : List Nat).map (fun i => (flatC (Jvm.Cond.and given_1 narrow_1))[i]?) := rfl
set_option maxRecDepth 100000 in
theorem z_l7 : (zlw 7).map some = ([52, 53, 54, 55, 56] : List Nat).map (fun i => (flatC (Jvm.Cond.and given_1 narrow_1))[i]?) := rfl
set_option maxRecDepth 100000 in
theorem z_l8 : (zlw 8).map some = ([57, 58, 59, 60, 61] : List Nat).map (fun i => (flatC (Jvm.Cond.and given_1 narrow_1))[i]?) := rfl
set_option maxRecDepth 100000 in
theorem z_l9 : (zlw 9).map some = ([62, 63, 64, 65, 66] : List Nat).map (fun i => (flatC (Jvm.Cond.and given_1 narrow_1))[i]?) := rfl
set_option maxRecDepth 100000 in
theorem z_l10 : (zlw 10).map some = ([67, 68, 69, 70, 71] : List Nat).map (fun i => (flatC (Jvm.Cond.and given_1 narrow_1))[i]?) := rfl
set_option maxRecDepth 100000 in
theorem z_l11 : (zlw 11).map some = ([72, 73, 74, 75, 76] : List Nat).map (fun i => (flatC (Jvm.Cond.and given_1 narrow_1))[i]?) := rfl
set_option maxRecDepth 100000 in
theorem z_l12 : (zlw 12).map some = ([77, 78, 79, 80, 81, 82] : List Nat).map (fun i => (flatC (Jvm.Cond.and given_1 narrow_1))[i]?) := rfl
set_option maxRecDepth 100000 in
theorem z_l13 : (zlw 13).map some = ([83, 84, 85, 86, 87, 88] : List Nat).map (fun i => (flatC (Jvm.Cond.and given_1 narrow_1))[i]?) := rfl
set_option maxRecDepth 100000 in
theorem z_l14 : (zlw 14).map some = ([89, 90, 91, 92, 93, 94] : List Nat).map (fun i => (flatC (Jvm.Cond.and given_1 narrow_1))[i]?) := rfl
set_option maxRecDepth 100000 in
theorem z_l15 : (zlw 15).map some = ([95, 96, 97, 98, 99] : List Nat).map (fun i => (flatC (Jvm.Cond.and given_1 narrow_1))[i]?) := rfl
set_option maxRecDepth 100000 in
theorem z_l16 : (zlw 16).map some = ([100, 101, 102, 103, 104, 105] : List Nat).map (fun i => (flatC (Jvm.Cond.and given_1 narrow_1))[i]?) := rfl
set_option maxRecDepth 100000 in
theorem z_l17 : (zlw 17).map some = ([106, 107, 108, 109] : List Nat).map (fun i => (flatC (Jvm.Cond.and given_1 narrow_1))[i]?) := rfl
set_option maxRecDepth 100000 in
theorem z_l18 : (zlw 18).map some = ([110, 111, 112, 113, 114, 115, 116, 117] : List Nat).map (fun i => (flatC (Jvm.Cond.and given_1 narrow_1))[i]?) := rfl
set_option maxRecDepth 100000 in
theorem z_l19 : (zlw 19).map some = ([118, 119, 120, 121, 122, 123, 124, 125, 126] : List Nat).map (fun i => (flatC (Jvm.Cond.and given_1 narrow_1))[i]?) := rfl
set_option maxRecDepth 100000 in
theorem z_l20 : (zlw 20).map some = ([127, 128, 129, 130, 131, 132, 133, 134, 135] : List Nat).map (fun i => (flatC (Jvm.Cond.and given_1 narrow_1))[i]?) := rfl
set_option maxRecDepth 100000 in
theorem z_l21 : (zlw 21).map some = ([136, 137, 138, 139, 140, 141, 142, 143] : List Nat).map (fun i => (flatC (Jvm.Cond.and given_1 narrow_1))[i]?) := rfl
set_option maxRecDepth 100000 in
theorem z_l22 : (zlw 22).map some = ([144, 145, 146, 147, 148, 149] : List Nat).map (fun i => (flatC (Jvm.Cond.and given_1 narrow_1))[i]?) := rfl
set_option maxRecDepth 100000 in
theorem z_l23 : (zlw 23).map some = ([150, 151, 152, 153, 154, 155] : List Nat).map (fun i => (flatC (Jvm.Cond.and given_1 narrow_1))[i]?) := rfl
set_option maxRecDepth 100000 in
theorem z_l24 : (zlw 24).map some = ([156, 157, 158, 159, 160, 161, 162, 163, 164, 165] : List Nat).map (fun i => (flatC (Jvm.Cond.and given_1 narrow_1))[i]?) := rfl
set_option maxRecDepth 100000 in
theorem z_l25 : (zlw 25).map some = ([166, 167, 168, 169, 170, 171, 172, 173, 174] : List Nat).map (fun i => (flatC (Jvm.Cond.and given_1 narrow_1))[i]?) := rfl
set_option maxRecDepth 100000 in
theorem z_l26 : (zlw 26).map some = ([175, 176, 177, 178, 179, 180, 181, 182, 183] : List Nat).map (fun i => (flatC (Jvm.Cond.and given_1 narrow_1))[i]?) := rfl
set_option maxRecDepth 100000 in
theorem z_l27 : (zlw 27).map some = ([184, 185, 186, 187, 188, 189, 190, 191] : List Nat).map (fun i => (flatC (Jvm.Cond.and given_1 narrow_1))[i]?) := rfl
set_option maxRecDepth 100000 in
theorem z_l28 : (zlw 28).map some = ([192, 193, 194, 195, 196, 197, 198, 199, 200, 201] : List Nat).map (fun i => (flatC (Jvm.Cond.and given_1 narrow_1))[i]?) := rfl
set_option maxRecDepth 100000 in
theorem z_l29 : (zlw 29).map some = ([202, 203, 204, 205, 206, 207, 208, 209, 210, 211] : List Nat).map (fun i => (flatC (Jvm.Cond.and given_1 narrow_1))[i]?) := rfl
set_option maxRecDepth 100000 in
theorem z_l30 : (zlw 30).map some = ([212, 213, 214, 215, 216, 217, 218, 219] : List Nat).map (fun i => (flatC (Jvm.Cond.and given_1 narrow_1))[i]?) := rfl
set_option maxRecDepth 100000 in
theorem z_l31 : (zlw 31).map some = ([220, 221, 222, 223, 224, 225] : List Nat).map (fun i => (flatC (Jvm.Cond.and given_1 narrow_1))[i]?) := rfl
set_option maxRecDepth 100000 in
theorem z_l32 : (zlw 32).map some = ([226, 227, 228, 229] : List Nat).map (fun i => (flatC (Jvm.Cond.and given_1 narrow_1))[i]?) := rfl
set_option maxRecDepth 100000 in
theorem z_l33 : (zlw 33).map some = ([231, 232, 233, 234, 235, 236, 237, 238, 239] : List Nat).map (fun i => (flatC (Jvm.Cond.and given_1 narrow_1))[i]?) := rfl
set_option maxRecDepth 100000 in
theorem z_l34 : (zlw 34).map some = ([240, 241, 242, 243, 244, 245, 246, 247, 248, 249] : List Nat).map (fun i => (flatC (Jvm.Cond.and given_1 narrow_1))[i]?) := rfl
set_option maxRecDepth 100000 in
theorem z_l35 : (zlw 35).map some = ([250, 251, 252, 253, 254, 255, 256, 257, 258, 259] : List Nat).map (fun i => (flatC (Jvm.Cond.and given_1 narrow_1))[i]?) := rfl
set_option maxRecDepth 100000 in
theorem z_l36 : (zlw 36).map some = ([260, 261, 262, 263, 264, 265, 266, 267] : List Nat).map (fun i => (flatC (Jvm.Cond.and given_1 narrow_1))[i]?) := rfl
set_option maxRecDepth 100000 in
theorem z_l37 : (zlw 37).map some = ([268, 269, 270, 271, 272, 273, 274, 275, 276, 277] : List Nat).map (fun i => (flatC (Jvm.Cond.and given_1 narrow_1))[i]?) := rfl
theorem z_lit : ∀ i : Nat, i < 38 → ∀ w ∈ zlw i, w ∈ flatC (Jvm.Cond.and given_1 narrow_1)
  | 0, _ => z_in z_l0
  | 1, _ => z_in z_l1
  | 2, _ => z_in z_l2
  | 3, _ => z_in z_l3
  | 4, _ => z_in z_l4
  | 5, _ => z_in z_l5
  | 6, _ => z_in z_l6
  | 7, _ => z_in z_l7
  | 8, _ => z_in z_l8
  | 9, _ => z_in z_l9
  | 10, _ => z_in z_l10
  | 11, _ => z_in z_l11
  | 12, _ => z_in z_l12
  | 13, _ => z_in z_l13
  | 14, _ => z_in z_l14
  | 15, _ => z_in z_l15
  | 16, _ => z_in z_l16
  | 17, _ => z_in z_l17
  | 18, _ => z_in z_l18
  | 19, _ => z_in z_l19
  | 20, _ => z_in z_l20
  | 21, _ => z_in z_l21
  | 22, _ => z_in z_l22
  | 23, _ => z_in z_l23
  | 24, _ => z_in z_l24
  | 25, _ => z_in z_l25
  | 26, _ => z_in z_l26
  | 27, _ => z_in z_l27
  | 28, _ => z_in z_l28
  | 29, _ => z_in z_l29
  | 30, _ => z_in z_l30
  | 31, _ => z_in z_l31
  | 32, _ => z_in z_l32
  | 33, _ => z_in z_l33
  | 34, _ => z_in z_l34
  | 35, _ => z_in z_l35
  | 36, _ => z_in z_l36
  | 37, _ => z_in z_l37
  | i + 38, h => absurd h (by omega)
set_option maxRecDepth 100000 in
theorem z_st1 : Cond.eq (.static "java/lang/String" "COMPACT_STRINGS" "Z") (.int 1) ∈ flatC (Jvm.Cond.and given_1 narrow_1) := List.mem_of_getElem? (i := 4) (by decide +kernel)
set_option maxRecDepth 100000 in
theorem z_st2 : Cond.isRef (.static "jdk/internal/util/Preconditions" "SIOOBE_FORMATTER" "Ljava/util/function/BiFunction;") ∈ flatC (Jvm.Cond.and given_1 narrow_1) := List.mem_of_getElem? (i := 5) (by decide +kernel)
set_option maxRecDepth 100000 in
theorem z_x0 : Cond.laysStatic "java/lang/String" "COMPACT_STRINGS" "Z" ∈ lw_tbl := List.mem_of_getElem? (i := 332) (by decide +kernel)
set_option maxRecDepth 100000 in
theorem z_x1 : Cond.initialized "java/lang/String" ∈ lw_tbl := List.mem_of_getElem? (i := 43) (by decide +kernel)
set_option maxRecDepth 100000 in
theorem z_x2 : Cond.laysStatic "jdk/internal/util/Preconditions" "SIOOBE_FORMATTER" "Ljava/util/function/BiFunction;" ∈ lw_tbl := List.mem_of_getElem? (i := 348) (by decide +kernel)
set_option maxRecDepth 100000 in
theorem z_x3 : Cond.initialized "jdk/internal/util/Preconditions" ∈ lw_tbl := List.mem_of_getElem? (i := 45) (by decide +kernel)
set_option maxRecDepth 100000 in
theorem z_x4 : Cond.arrayClass .int ∈ lw_tbl := List.mem_of_getElem? (i := 91) (by decide +kernel)
set_option maxRecDepth 100000 in
theorem z_x5 : Cond.arrayClass .long ∈ lw_tbl := List.mem_of_getElem? (i := 165) (by decide +kernel)
set_option maxRecDepth 100000 in
theorem z_x6 : Cond.arrayClass .char ∈ lw_tbl := List.mem_of_getElem? (i := 71) (by decide +kernel)
