theorem dX12_in_0 : decode cX12_in 0 = .ok (.lload_n 0, 1) := by decide +kernel
theorem dX12_in_1 : decode cX12_in 1 = .ok (.lload_n 2, 1) := by decide +kernel
theorem dX12_in_2 : decode cX12_in 2 = .ok (.lcmp, 1) := by decide +kernel
theorem dX12_in_3 : decode cX12_in 3 = .ok (.ifCond .lt 14, 3) := by decide +kernel
theorem dX12_in_6 : decode cX12_in 6 = .ok (.lload_n 0, 1) := by decide +kernel
theorem dX12_in_7 : decode cX12_in 7 = .ok (.lload 4, 2) := by decide +kernel
theorem dX12_in_9 : decode cX12_in 9 = .ok (.lcmp, 1) := by decide +kernel
theorem dX12_in_10 : decode cX12_in 10 = .ok (.ifCond .gt 7, 3) := by decide +kernel
theorem dX12_in_13 : decode cX12_in 13 = .ok (.iconst 1, 1) := by decide +kernel
theorem dX12_in_14 : decode cX12_in 14 = .ok (.goto 4, 3) := by decide +kernel
theorem dX12_in_17 : decode cX12_in 17 = .ok (.iconst 0, 1) := by decide +kernel
theorem dX12_in_18 : decode cX12_in 18 = .ok (.ireturn, 1) := by decide +kernel
set_option maxRecDepth 20000 in
theorem ggX12_append_X12_in : GoodIn wsX12_append wsX12_in := goodIn_r _ [8] (by decide +kernel) (by decide +kernel)
set_option maxRecDepth 20000 in
theorem gX12_append_X12_in : GoodIn wsX12_append (va_wsS RX12 91 yX12_in wsX12_in) := goodIn_app (goodIn_of _ (by decide +kernel)) ggX12_append_X12_in
theorem dX12_append_0 : decode cX12_append 0 = .ok (.iload_n 1, 1) := by decide +kernel
theorem dX12_append_1 : decode cX12_append 1 = .ok (.i2l, 1) := by decide +kernel
theorem dX12_append_2 : decode cX12_append 2 = .ok (.ldc2_w 87, 3) := by decide +kernel
theorem dX12_append_5 : decode cX12_append 5 = .ok (.ldc2_w 89, 3) := by decide +kernel
theorem dX12_append_8 : decode cX12_append 8 = .ok (.invokestatic 91, 3) := by decide +kernel
theorem dX12_append_11 : decode cX12_append 11 = .ok (.ifCond .ne 5, 3) := by decide +kernel
theorem dX12_append_14 : decode cX12_append 14 = .ok (.iconst (-1), 1) := by decide +kernel
theorem dX12_append_15 : decode cX12_append 15 = .ok (.ireturn, 1) := by decide +kernel
theorem dX12_append_16 : decode cX12_append 16 = .ok (.aload_n 0, 1) := by decide +kernel
theorem dX12_append_17 : decode cX12_append 17 = .ok (.getfield 95, 3) := by decide +kernel
theorem dX12_append_20 : decode cX12_append 20 = .ok (.bipush 80, 2) := by decide +kernel
theorem dX12_append_22 : decode cX12_append 22 = .ok (.if_icmp .ne 6, 3) := by decide +kernel
theorem dX12_append_25 : decode cX12_append 25 = .ok (.bipush (-4), 2) := by decide +kernel
theorem dX12_append_27 : decode cX12_append 27 = .ok (.ireturn, 1) := by decide +kernel
theorem dX12_append_28 : decode cX12_append 28 = .ok (.aload_n 0, 1) := by decide +kernel
theorem dX12_append_29 : decode cX12_append 29 = .ok (.getfield 7, 3) := by decide +kernel
theorem dX12_append_32 : decode cX12_append 32 = .ok (.aload_n 0, 1) := by decide +kernel
theorem dX12_append_33 : decode cX12_append 33 = .ok (.getfield 95, 3) := by decide +kernel
theorem dX12_append_36 : decode cX12_append 36 = .ok (.iload_n 1, 1) := by decide +kernel
theorem dX12_append_37 : decode cX12_append 37 = .ok (.iastore, 1) := by decide +kernel
theorem dX12_append_38 : decode cX12_append 38 = .ok (.aload_n 0, 1) := by decide +kernel
theorem dX12_append_39 : decode cX12_append 39 = .ok (.dup, 1) := by decide +kernel
theorem dX12_append_40 : decode cX12_append 40 = .ok (.getfield 95, 3) := by decide +kernel
theorem dX12_append_43 : decode cX12_append 43 = .ok (.iconst 1, 1) := by decide +kernel
theorem dX12_append_44 : decode cX12_append 44 = .ok (.iadd, 1) := by decide +kernel
theorem dX12_append_45 : decode cX12_append 45 = .ok (.putfield 95, 3) := by decide +kernel
theorem dX12_append_48 : decode cX12_append 48 = .ok (.aload_n 0, 1) := by decide +kernel
theorem dX12_append_49 : decode cX12_append 49 = .ok (.getfield 95, 3) := by decide +kernel
theorem dX12_append_52 : decode cX12_append 52 = .ok (.ireturn, 1) := by decide +kernel
theorem dX12_clearText_0 : decode cX12_clearText 0 = .ok (.aload_n 0, 1) := by decide +kernel
theorem dX12_clearText_1 : decode cX12_clearText 1 = .ok (.getfield 95, 3) := by decide +kernel
theorem dX12_clearText_4 : decode cX12_clearText 4 = .ok (.istore_n 1, 1) := by decide +kernel
theorem dX12_clearText_5 : decode cX12_clearText 5 = .ok (.aload_n 0, 1) := by decide +kernel
theorem dX12_clearText_6 : decode cX12_clearText 6 = .ok (.iconst 0, 1) := by decide +kernel
theorem dX12_clearText_7 : decode cX12_clearText 7 = .ok (.putfield 95, 3) := by decide +kernel
theorem dX12_clearText_10 : decode cX12_clearText 10 = .ok (.iload_n 1, 1) := by decide +kernel
theorem dX12_clearText_11 : decode cX12_clearText 11 = .ok (.ireturn, 1) := by decide +kernel
theorem dX12_at_0 : decode cX12_at 0 = .ok (.iload_n 1, 1) := by decide +kernel
theorem dX12_at_1 : decode cX12_at 1 = .ok (.aload_n 0, 1) := by decide +kernel
theorem dX12_at_2 : decode cX12_at 2 = .ok (.getfield 95, 3) := by decide +kernel
theorem dX12_at_5 : decode cX12_at 5 = .ok (.if_icmp .ge 12, 3) := by decide +kernel
theorem dX12_at_8 : decode cX12_at 8 = .ok (.aload_n 0, 1) := by decide +kernel
theorem dX12_at_9 : decode cX12_at 9 = .ok (.getfield 7, 3) := by decide +kernel
theorem dX12_at_12 : decode cX12_at 12 = .ok (.iload_n 1, 1) := by decide +kernel
theorem dX12_at_13 : decode cX12_at 13 = .ok (.iaload, 1) := by decide +kernel
theorem dX12_at_14 : decode cX12_at 14 = .ok (.goto 4, 3) := by decide +kernel
theorem dX12_at_17 : decode cX12_at 17 = .ok (.iconst 0, 1) := by decide +kernel
theorem dX12_at_18 : decode cX12_at 18 = .ok (.ireturn, 1) := by decide +kernel
set_option maxRecDepth 20000 in
theorem ggX12_functionAt_X12_at : GoodIn wsX12_functionAt wsX12_at := goodIn_r _ [5, 6, 7, 8, 9, 10, 11, 12, 13, 14, 15, 16, 17, 18, 19, 20, 21, 22, 23, 24, 25, 26, 27, 28, 29, 30, 31, 32, 33, 34, 35, 36, 37, 38, 39, 40, 41, 42, 43, 44, 45, 46, 47, 48, 49, 50] (by decide +kernel) (by decide +kernel)
set_option maxRecDepth 20000 in
theorem gX12_functionAt_X12_at : GoodIn wsX12_functionAt (wsV RX12 98 RX12 yX12_at wsX12_at) := goodIn_app (goodIn_of _ (by decide +kernel)) ggX12_functionAt_X12_at
theorem dX12_functionAt_0 : decode cX12_functionAt 0 = .ok (.aload_n 0, 1) := by decide +kernel
theorem dX12_functionAt_1 : decode cX12_functionAt 1 = .ok (.iload_n 1, 1) := by decide +kernel
theorem dX12_functionAt_2 : decode cX12_functionAt 2 = .ok (.invokevirtual 98, 3) := by decide +kernel
theorem dX12_functionAt_5 : decode cX12_functionAt 5 = .ok (.istore_n 2, 1) := by decide +kernel
theorem dX12_functionAt_6 : decode cX12_functionAt 6 = .ok (.aload_n 0, 1) := by decide +kernel
theorem dX12_functionAt_7 : decode cX12_functionAt 7 = .ok (.iload_n 1, 1) := by decide +kernel
theorem dX12_functionAt_8 : decode cX12_functionAt 8 = .ok (.iconst 1, 1) := by decide +kernel
theorem dX12_functionAt_9 : decode cX12_functionAt 9 = .ok (.iadd, 1) := by decide +kernel
theorem dX12_functionAt_10 : decode cX12_functionAt 10 = .ok (.invokevirtual 98, 3) := by decide +kernel
theorem dX12_functionAt_13 : decode cX12_functionAt 13 = .ok (.istore_n 3, 1) := by decide +kernel
theorem dX12_functionAt_14 : decode cX12_functionAt 14 = .ok (.aload_n 0, 1) := by decide +kernel
theorem dX12_functionAt_15 : decode cX12_functionAt 15 = .ok (.iload_n 1, 1) := by decide +kernel
theorem dX12_functionAt_16 : decode cX12_functionAt 16 = .ok (.iconst 2, 1) := by decide +kernel
theorem dX12_functionAt_17 : decode cX12_functionAt 17 = .ok (.iadd, 1) := by decide +kernel
theorem dX12_functionAt_18 : decode cX12_functionAt 18 = .ok (.invokevirtual 98, 3) := by decide +kernel
theorem dX12_functionAt_21 : decode cX12_functionAt 21 = .ok (.istore 4, 2) := by decide +kernel
theorem dX12_functionAt_23 : decode cX12_functionAt 23 = .ok (.iload_n 2, 1) := by decide +kernel
theorem dX12_functionAt_24 : decode cX12_functionAt 24 = .ok (.bipush 97, 2) := by decide +kernel
theorem dX12_functionAt_26 : decode cX12_functionAt 26 = .ok (.if_icmp .ne 20, 3) := by decide +kernel
theorem dX12_functionAt_29 : decode cX12_functionAt 29 = .ok (.iload_n 3, 1) := by decide +kernel
theorem dX12_functionAt_30 : decode cX12_functionAt 30 = .ok (.bipush 98, 2) := by decide +kernel
theorem dX12_functionAt_32 : decode cX12_functionAt 32 = .ok (.if_icmp .ne 14, 3) := by decide +kernel
theorem dX12_functionAt_35 : decode cX12_functionAt 35 = .ok (.iload 4, 2) := by decide +kernel
theorem dX12_functionAt_37 : decode cX12_functionAt 37 = .ok (.bipush 115, 2) := by decide +kernel
theorem dX12_functionAt_39 : decode cX12_functionAt 39 = .ok (.if_icmp .ne 7, 3) := by decide +kernel
theorem dX12_functionAt_42 : decode cX12_functionAt 42 = .ok (.iconst 0, 1) := by decide +kernel
theorem dX12_functionAt_43 : decode cX12_functionAt 43 = .ok (.goto 74, 3) := by decide +kernel
theorem dX12_functionAt_46 : decode cX12_functionAt 46 = .ok (.iload_n 2, 1) := by decide +kernel
theorem dX12_functionAt_47 : decode cX12_functionAt 47 = .ok (.bipush 115, 2) := by decide +kernel
theorem dX12_functionAt_49 : decode cX12_functionAt 49 = .ok (.if_icmp .ne 20, 3) := by decide +kernel
theorem dX12_functionAt_52 : decode cX12_functionAt 52 = .ok (.iload_n 3, 1) := by decide +kernel
theorem dX12_functionAt_53 : decode cX12_functionAt 53 = .ok (.bipush 103, 2) := by decide +kernel
theorem dX12_functionAt_55 : decode cX12_functionAt 55 = .ok (.if_icmp .ne 14, 3) := by decide +kernel
theorem dX12_functionAt_58 : decode cX12_functionAt 58 = .ok (.iload 4, 2) := by decide +kernel
theorem dX12_functionAt_60 : decode cX12_functionAt 60 = .ok (.bipush 110, 2) := by decide +kernel
theorem dX12_functionAt_62 : decode cX12_functionAt 62 = .ok (.if_icmp .ne 7, 3) := by decide +kernel
theorem dX12_functionAt_65 : decode cX12_functionAt 65 = .ok (.iconst 1, 1) := by decide +kernel
theorem dX12_functionAt_66 : decode cX12_functionAt 66 = .ok (.goto 51, 3) := by decide +kernel
theorem dX12_functionAt_69 : decode cX12_functionAt 69 = .ok (.iload_n 2, 1) := by decide +kernel
theorem dX12_functionAt_70 : decode cX12_functionAt 70 = .ok (.bipush 115, 2) := by decide +kernel
theorem dX12_functionAt_72 : decode cX12_functionAt 72 = .ok (.if_icmp .ne 20, 3) := by decide +kernel
theorem dX12_functionAt_75 : decode cX12_functionAt 75 = .ok (.iload_n 3, 1) := by decide +kernel
theorem dX12_functionAt_76 : decode cX12_functionAt 76 = .ok (.bipush 113, 2) := by decide +kernel
theorem dX12_functionAt_78 : decode cX12_functionAt 78 = .ok (.if_icmp .ne 14, 3) := by decide +kernel
theorem dX12_functionAt_81 : decode cX12_functionAt 81 = .ok (.iload 4, 2) := by decide +kernel
theorem dX12_functionAt_83 : decode cX12_functionAt 83 = .ok (.bipush 114, 2) := by decide +kernel
theorem dX12_functionAt_85 : decode cX12_functionAt 85 = .ok (.if_icmp .ne 7, 3) := by decide +kernel
theorem dX12_functionAt_88 : decode cX12_functionAt 88 = .ok (.iconst 2, 1) := by decide +kernel
theorem dX12_functionAt_89 : decode cX12_functionAt 89 = .ok (.goto 28, 3) := by decide +kernel
theorem dX12_functionAt_92 : decode cX12_functionAt 92 = .ok (.iload_n 2, 1) := by decide +kernel
theorem dX12_functionAt_93 : decode cX12_functionAt 93 = .ok (.bipush 100, 2) := by decide +kernel
theorem dX12_functionAt_95 : decode cX12_functionAt 95 = .ok (.if_icmp .ne 20, 3) := by decide +kernel
theorem dX12_functionAt_98 : decode cX12_functionAt 98 = .ok (.iload_n 3, 1) := by decide +kernel
theorem dX12_functionAt_99 : decode cX12_functionAt 99 = .ok (.bipush 98, 2) := by decide +kernel
theorem dX12_functionAt_101 : decode cX12_functionAt 101 = .ok (.if_icmp .ne 14, 3) := by decide +kernel
theorem dX12_functionAt_104 : decode cX12_functionAt 104 = .ok (.iload 4, 2) := by decide +kernel
theorem dX12_functionAt_106 : decode cX12_functionAt 106 = .ok (.bipush 108, 2) := by decide +kernel
theorem dX12_functionAt_108 : decode cX12_functionAt 108 = .ok (.if_icmp .ne 7, 3) := by decide +kernel
theorem dX12_functionAt_111 : decode cX12_functionAt 111 = .ok (.iconst 3, 1) := by decide +kernel
theorem dX12_functionAt_112 : decode cX12_functionAt 112 = .ok (.goto 5, 3) := by decide +kernel
theorem dX12_functionAt_115 : decode cX12_functionAt 115 = .ok (.bipush (-3), 2) := by decide +kernel
theorem dX12_functionAt_117 : decode cX12_functionAt 117 = .ok (.ireturn, 1) := by decide +kernel
theorem dX12_signOf_0 : decode cX12_signOf 0 = .ok (.iload_n 0, 1) := by decide +kernel
theorem dX12_signOf_1 : decode cX12_signOf 1 = .ok (.lookupswitch 207 #[(33, 174), (39, 205), (40, 137), (41, 140), (42, 128), (43, 123), (45, 125), (46, 191), (47, 131), (58, 188), (60, 146), (61, 143), (62, 160), (94, 134)], 123) := by decide +kernel
theorem dX12_signOf_124 : decode cX12_signOf 124 = .ok (.iconst 5, 1) := by decide +kernel
theorem dX12_signOf_125 : decode cX12_signOf 125 = .ok (.ireturn, 1) := by decide +kernel
theorem dX12_signOf_126 : decode cX12_signOf 126 = .ok (.bipush 6, 2) := by decide +kernel
theorem dX12_signOf_128 : decode cX12_signOf 128 = .ok (.ireturn, 1) := by decide +kernel
theorem dX12_signOf_129 : decode cX12_signOf 129 = .ok (.bipush 7, 2) := by decide +kernel
theorem dX12_signOf_131 : decode cX12_signOf 131 = .ok (.ireturn, 1) := by decide +kernel
theorem dX12_signOf_132 : decode cX12_signOf 132 = .ok (.bipush 8, 2) := by decide +kernel
theorem dX12_signOf_134 : decode cX12_signOf 134 = .ok (.ireturn, 1) := by decide +kernel
theorem dX12_signOf_135 : decode cX12_signOf 135 = .ok (.bipush 9, 2) := by decide +kernel
theorem dX12_signOf_137 : decode cX12_signOf 137 = .ok (.ireturn, 1) := by decide +kernel
theorem dX12_signOf_138 : decode cX12_signOf 138 = .ok (.bipush 10, 2) := by decide +kernel
theorem dX12_signOf_140 : decode cX12_signOf 140 = .ok (.ireturn, 1) := by decide +kernel
theorem dX12_signOf_141 : decode cX12_signOf 141 = .ok (.bipush 11, 2) := by decide +kernel
theorem dX12_signOf_143 : decode cX12_signOf 143 = .ok (.ireturn, 1) := by decide +kernel
theorem dX12_signOf_144 : decode cX12_signOf 144 = .ok (.bipush 12, 2) := by decide +kernel
theorem dX12_signOf_146 : decode cX12_signOf 146 = .ok (.ireturn, 1) := by decide +kernel
theorem dX12_signOf_147 : decode cX12_signOf 147 = .ok (.iload_n 1, 1) := by decide +kernel
theorem dX12_signOf_148 : decode cX12_signOf 148 = .ok (.bipush 61, 2) := by decide +kernel
theorem dX12_signOf_150 : decode cX12_signOf 150 = .ok (.if_icmp .ne 8, 3) := by decide +kernel
theorem dX12_signOf_153 : decode cX12_signOf 153 = .ok (.bipush 15, 2) := by decide +kernel
theorem dX12_signOf_155 : decode cX12_signOf 155 = .ok (.goto 5, 3) := by decide +kernel
theorem dX12_signOf_158 : decode cX12_signOf 158 = .ok (.bipush 13, 2) := by decide +kernel
theorem dX12_signOf_160 : decode cX12_signOf 160 = .ok (.ireturn, 1) := by decide +kernel
theorem dX12_signOf_161 : decode cX12_signOf 161 = .ok (.iload_n 1, 1) := by decide +kernel
theorem dX12_signOf_162 : decode cX12_signOf 162 = .ok (.bipush 61, 2) := by decide +kernel
theorem dX12_signOf_164 : decode cX12_signOf 164 = .ok (.if_icmp .ne 8, 3) := by decide +kernel
theorem dX12_signOf_167 : decode cX12_signOf 167 = .ok (.bipush 16, 2) := by decide +kernel
theorem dX12_signOf_169 : decode cX12_signOf 169 = .ok (.goto 5, 3) := by decide +kernel
theorem dX12_signOf_172 : decode cX12_signOf 172 = .ok (.bipush 14, 2) := by decide +kernel
theorem dX12_signOf_174 : decode cX12_signOf 174 = .ok (.ireturn, 1) := by decide +kernel
theorem dX12_signOf_175 : decode cX12_signOf 175 = .ok (.iload_n 1, 1) := by decide +kernel
theorem dX12_signOf_176 : decode cX12_signOf 176 = .ok (.bipush 61, 2) := by decide +kernel
theorem dX12_signOf_178 : decode cX12_signOf 178 = .ok (.if_icmp .ne 8, 3) := by decide +kernel
theorem dX12_signOf_181 : decode cX12_signOf 181 = .ok (.bipush 17, 2) := by decide +kernel
theorem dX12_signOf_183 : decode cX12_signOf 183 = .ok (.goto 5, 3) := by decide +kernel
theorem dX12_signOf_186 : decode cX12_signOf 186 = .ok (.bipush 21, 2) := by decide +kernel
theorem dX12_signOf_188 : decode cX12_signOf 188 = .ok (.ireturn, 1) := by decide +kernel
theorem dX12_signOf_189 : decode cX12_signOf 189 = .ok (.bipush 18, 2) := by decide +kernel
theorem dX12_signOf_191 : decode cX12_signOf 191 = .ok (.ireturn, 1) := by decide +kernel
theorem dX12_signOf_192 : decode cX12_signOf 192 = .ok (.iload_n 1, 1) := by decide +kernel
theorem dX12_signOf_193 : decode cX12_signOf 193 = .ok (.bipush 46, 2) := by decide +kernel
theorem dX12_signOf_195 : decode cX12_signOf 195 = .ok (.if_icmp .ne 8, 3) := by decide +kernel
theorem dX12_signOf_198 : decode cX12_signOf 198 = .ok (.bipush 19, 2) := by decide +kernel
theorem dX12_signOf_200 : decode cX12_signOf 200 = .ok (.goto 5, 3) := by decide +kernel
theorem dX12_signOf_203 : decode cX12_signOf 203 = .ok (.bipush 21, 2) := by decide +kernel
theorem dX12_signOf_205 : decode cX12_signOf 205 = .ok (.ireturn, 1) := by decide +kernel
theorem dX12_signOf_206 : decode cX12_signOf 206 = .ok (.iconst 4, 1) := by decide +kernel
theorem dX12_signOf_207 : decode cX12_signOf 207 = .ok (.ireturn, 1) := by decide +kernel
theorem dX12_signOf_208 : decode cX12_signOf 208 = .ok (.bipush 21, 2) := by decide +kernel
theorem dX12_signOf_210 : decode cX12_signOf 210 = .ok (.ireturn, 1) := by decide +kernel
set_option maxRecDepth 20000 in
theorem ggX12_read_X12_at : GoodIn wsX12_read wsX12_at := goodIn_r _ [12, 13, 14, 25, 26, 27, 28, 29, 30, 31, 32, 33, 34, 35, 36, 37, 38, 39, 40, 41, 42, 43, 44, 45, 46, 47, 48, 49, 50, 51, 52, 53, 54, 55, 56, 57, 58, 59, 60, 61, 62, 63, 64, 65, 66, 67] (by decide +kernel) (by decide +kernel)
set_option maxRecDepth 20000 in
theorem gX12_read_X12_at : GoodIn wsX12_read (wsV RX12 98 RX12 yX12_at wsX12_at) := goodIn_app (goodIn_of _ (by decide +kernel)) ggX12_read_X12_at
set_option maxRecDepth 20000 in
theorem ggX12_read_X12_in : GoodIn wsX12_read wsX12_in := goodIn_r _ [17] (by decide +kernel) (by decide +kernel)
set_option maxRecDepth 20000 in
theorem gX12_read_X12_in : GoodIn wsX12_read (va_wsS RX12 91 yX12_in wsX12_in) := goodIn_app (goodIn_of _ (by decide +kernel)) ggX12_read_X12_in
set_option maxRecDepth 20000 in
theorem ggX12_read_X12_functionAt : GoodIn wsX12_read wsX12_functionAt := goodIn_r _ [21, 8, 9, 10, 11, 12, 13, 14, 25, 26, 27, 28, 29, 30, 31, 32, 33, 34, 35, 36, 37, 38, 39, 40, 41, 42, 43, 44, 45, 46, 47, 48, 49, 50, 51, 52, 53, 54, 55, 56, 57, 58, 59, 60, 61, 62, 63, 64, 65, 66, 67] (by decide +kernel) (by decide +kernel)
set_option maxRecDepth 20000 in
theorem gX12_read_X12_functionAt : GoodIn wsX12_read (wsV RX12 119 RX12 yX12_functionAt wsX12_functionAt) := goodIn_app (goodIn_of _ (by decide +kernel)) ggX12_read_X12_functionAt
set_option maxRecDepth 20000 in
theorem ggX12_read_X12_signOf : GoodIn wsX12_read wsX12_signOf := goodIn_r _ [24] (by decide +kernel) (by decide +kernel)
set_option maxRecDepth 20000 in
theorem gX12_read_X12_signOf : GoodIn wsX12_read (va_wsS RX12 122 yX12_signOf wsX12_signOf) := goodIn_app (goodIn_of _ (by decide +kernel)) ggX12_read_X12_signOf
theorem dX12_read_0 : decode cX12_read 0 = .ok (.aload_n 0, 1) := by decide +kernel
theorem dX12_read_1 : decode cX12_read 1 = .ok (.iload_n 1, 1) := by decide +kernel
theorem dX12_read_2 : decode cX12_read 2 = .ok (.invokevirtual 98, 3) := by decide +kernel
theorem dX12_read_5 : decode cX12_read 5 = .ok (.istore_n 2, 1) := by decide +kernel
theorem dX12_read_6 : decode cX12_read 6 = .ok (.aload_n 0, 1) := by decide +kernel
theorem dX12_read_7 : decode cX12_read 7 = .ok (.iconst 0, 1) := by decide +kernel
theorem dX12_read_8 : decode cX12_read 8 = .ok (.putfield 102, 3) := by decide +kernel
theorem dX12_read_11 : decode cX12_read 11 = .ok (.aload_n 0, 1) := by decide +kernel
theorem dX12_read_12 : decode cX12_read 12 = .ok (.iload_n 1, 1) := by decide +kernel
theorem dX12_read_13 : decode cX12_read 13 = .ok (.iconst 1, 1) := by decide +kernel
theorem dX12_read_14 : decode cX12_read 14 = .ok (.iadd, 1) := by decide +kernel
theorem dX12_read_15 : decode cX12_read 15 = .ok (.putfield 105, 3) := by decide +kernel
theorem dX12_read_18 : decode cX12_read 18 = .ok (.iload_n 2, 1) := by decide +kernel
theorem dX12_read_19 : decode cX12_read 19 = .ok (.i2l, 1) := by decide +kernel
theorem dX12_read_20 : decode cX12_read 20 = .ok (.ldc2_w 108, 3) := by decide +kernel
theorem dX12_read_23 : decode cX12_read 23 = .ok (.ldc2_w 110, 3) := by decide +kernel
theorem dX12_read_26 : decode cX12_read 26 = .ok (.invokestatic 91, 3) := by decide +kernel
theorem dX12_read_29 : decode cX12_read 29 = .ok (.ifCond .eq 87, 3) := by decide +kernel
theorem dX12_read_32 : decode cX12_read 32 = .ok (.iload_n 1, 1) := by decide +kernel
theorem dX12_read_33 : decode cX12_read 33 = .ok (.istore_n 3, 1) := by decide +kernel
theorem dX12_read_34 : decode cX12_read 34 = .ok (.aload_n 0, 1) := by decide +kernel
theorem dX12_read_35 : decode cX12_read 35 = .ok (.iload_n 3, 1) := by decide +kernel
theorem dX12_read_36 : decode cX12_read 36 = .ok (.invokevirtual 98, 3) := by decide +kernel
theorem dX12_read_39 : decode cX12_read 39 = .ok (.i2l, 1) := by decide +kernel
theorem dX12_read_40 : decode cX12_read 40 = .ok (.ldc2_w 108, 3) := by decide +kernel
theorem dX12_read_43 : decode cX12_read 43 = .ok (.ldc2_w 110, 3) := by decide +kernel
theorem dX12_read_46 : decode cX12_read 46 = .ok (.invokestatic 91, 3) := by decide +kernel
theorem dX12_read_49 : decode cX12_read 49 = .ok (.ifCond .eq 41, 3) := by decide +kernel
theorem dX12_read_52 : decode cX12_read 52 = .ok (.aload_n 0, 1) := by decide +kernel
theorem dX12_read_53 : decode cX12_read 53 = .ok (.iload_n 3, 1) := by decide +kernel
theorem dX12_read_54 : decode cX12_read 54 = .ok (.iload_n 1, 1) := by decide +kernel
theorem dX12_read_55 : decode cX12_read 55 = .ok (.isub, 1) := by decide +kernel
theorem dX12_read_56 : decode cX12_read 56 = .ok (.bipush 6, 2) := by decide +kernel
theorem dX12_read_58 : decode cX12_read 58 = .ok (.if_icmp .ge 22, 3) := by decide +kernel
theorem dX12_read_61 : decode cX12_read 61 = .ok (.bipush 10, 2) := by decide +kernel
theorem dX12_read_63 : decode cX12_read 63 = .ok (.aload_n 0, 1) := by decide +kernel
theorem dX12_read_64 : decode cX12_read 64 = .ok (.getfield 102, 3) := by decide +kernel
theorem dX12_read_67 : decode cX12_read 67 = .ok (.imul, 1) := by decide +kernel
theorem dX12_read_68 : decode cX12_read 68 = .ok (.aload_n 0, 1) := by decide +kernel
theorem dX12_read_69 : decode cX12_read 69 = .ok (.iload_n 3, 1) := by decide +kernel
theorem dX12_read_70 : decode cX12_read 70 = .ok (.invokevirtual 98, 3) := by decide +kernel
theorem dX12_read_73 : decode cX12_read 73 = .ok (.iadd, 1) := by decide +kernel
theorem dX12_read_74 : decode cX12_read 74 = .ok (.bipush 48, 2) := by decide +kernel
theorem dX12_read_76 : decode cX12_read 76 = .ok (.isub, 1) := by decide +kernel
theorem dX12_read_77 : decode cX12_read 77 = .ok (.goto 4, 3) := by decide +kernel
theorem dX12_read_80 : decode cX12_read 80 = .ok (.iconst 0, 1) := by decide +kernel
theorem dX12_read_81 : decode cX12_read 81 = .ok (.putfield 102, 3) := by decide +kernel
theorem dX12_read_84 : decode cX12_read 84 = .ok (.iinc 3 1, 3) := by decide +kernel
theorem dX12_read_87 : decode cX12_read 87 = .ok (.goto (-53), 3) := by decide +kernel
theorem dX12_read_90 : decode cX12_read 90 = .ok (.aload_n 0, 1) := by decide +kernel
theorem dX12_read_91 : decode cX12_read 91 = .ok (.iload_n 3, 1) := by decide +kernel
theorem dX12_read_92 : decode cX12_read 92 = .ok (.iload_n 1, 1) := by decide +kernel
theorem dX12_read_93 : decode cX12_read 93 = .ok (.isub, 1) := by decide +kernel
theorem dX12_read_94 : decode cX12_read 94 = .ok (.bipush 6, 2) := by decide +kernel
theorem dX12_read_96 : decode cX12_read 96 = .ok (.if_icmp .le 8, 3) := by decide +kernel
theorem dX12_read_99 : decode cX12_read 99 = .ok (.bipush 21, 2) := by decide +kernel
theorem dX12_read_101 : decode cX12_read 101 = .ok (.goto 4, 3) := by decide +kernel
theorem dX12_read_104 : decode cX12_read 104 = .ok (.iconst 1, 1) := by decide +kernel
theorem dX12_read_105 : decode cX12_read 105 = .ok (.putfield 112, 3) := by decide +kernel
theorem dX12_read_108 : decode cX12_read 108 = .ok (.aload_n 0, 1) := by decide +kernel
theorem dX12_read_109 : decode cX12_read 109 = .ok (.iload_n 3, 1) := by decide +kernel
theorem dX12_read_110 : decode cX12_read 110 = .ok (.putfield 105, 3) := by decide +kernel
theorem dX12_read_113 : decode cX12_read 113 = .ok (.goto 152, 3) := by decide +kernel
theorem dX12_read_116 : decode cX12_read 116 = .ok (.iload_n 2, 1) := by decide +kernel
theorem dX12_read_117 : decode cX12_read 117 = .ok (.i2l, 1) := by decide +kernel
theorem dX12_read_118 : decode cX12_read 118 = .ok (.ldc2_w 115, 3) := by decide +kernel
theorem dX12_read_121 : decode cX12_read 121 = .ok (.ldc2_w 117, 3) := by decide +kernel
theorem dX12_read_124 : decode cX12_read 124 = .ok (.invokestatic 91, 3) := by decide +kernel
theorem dX12_read_127 : decode cX12_read 127 = .ok (.ifCond .eq 64, 3) := by decide +kernel
theorem dX12_read_130 : decode cX12_read 130 = .ok (.aload_n 0, 1) := by decide +kernel
theorem dX12_read_131 : decode cX12_read 131 = .ok (.iload_n 1, 1) := by decide +kernel
theorem dX12_read_132 : decode cX12_read 132 = .ok (.invokevirtual 119, 3) := by decide +kernel
theorem dX12_read_135 : decode cX12_read 135 = .ok (.istore_n 3, 1) := by decide +kernel
theorem dX12_read_136 : decode cX12_read 136 = .ok (.aload_n 0, 1) := by decide +kernel
theorem dX12_read_137 : decode cX12_read 137 = .ok (.iload_n 3, 1) := by decide +kernel
theorem dX12_read_138 : decode cX12_read 138 = .ok (.bipush (-3), 2) := by decide +kernel
theorem dX12_read_140 : decode cX12_read 140 = .ok (.if_icmp .ne 7, 3) := by decide +kernel
theorem dX12_read_143 : decode cX12_read 143 = .ok (.iconst 2, 1) := by decide +kernel
theorem dX12_read_144 : decode cX12_read 144 = .ok (.goto 4, 3) := by decide +kernel
theorem dX12_read_147 : decode cX12_read 147 = .ok (.iconst 3, 1) := by decide +kernel
theorem dX12_read_148 : decode cX12_read 148 = .ok (.putfield 112, 3) := by decide +kernel
theorem dX12_read_151 : decode cX12_read 151 = .ok (.aload_n 0, 1) := by decide +kernel
theorem dX12_read_152 : decode cX12_read 152 = .ok (.iload_n 3, 1) := by decide +kernel
theorem dX12_read_153 : decode cX12_read 153 = .ok (.bipush (-3), 2) := by decide +kernel
theorem dX12_read_155 : decode cX12_read 155 = .ok (.if_icmp .ne 10, 3) := by decide +kernel
theorem dX12_read_158 : decode cX12_read 158 = .ok (.iload_n 2, 1) := by decide +kernel
theorem dX12_read_159 : decode cX12_read 159 = .ok (.bipush 97, 2) := by decide +kernel
theorem dX12_read_161 : decode cX12_read 161 = .ok (.isub, 1) := by decide +kernel
theorem dX12_read_162 : decode cX12_read 162 = .ok (.goto 4, 3) := by decide +kernel
theorem dX12_read_165 : decode cX12_read 165 = .ok (.iload_n 3, 1) := by decide +kernel
theorem dX12_read_166 : decode cX12_read 166 = .ok (.putfield 102, 3) := by decide +kernel
theorem dX12_read_169 : decode cX12_read 169 = .ok (.aload_n 0, 1) := by decide +kernel
theorem dX12_read_170 : decode cX12_read 170 = .ok (.iload_n 3, 1) := by decide +kernel
theorem dX12_read_171 : decode cX12_read 171 = .ok (.bipush (-3), 2) := by decide +kernel
theorem dX12_read_173 : decode cX12_read 173 = .ok (.if_icmp .ne 9, 3) := by decide +kernel
theorem dX12_read_176 : decode cX12_read 176 = .ok (.iload_n 1, 1) := by decide +kernel
theorem dX12_read_177 : decode cX12_read 177 = .ok (.iconst 1, 1) := by decide +kernel
theorem dX12_read_178 : decode cX12_read 178 = .ok (.iadd, 1) := by decide +kernel
theorem dX12_read_179 : decode cX12_read 179 = .ok (.goto 6, 3) := by decide +kernel
theorem dX12_read_182 : decode cX12_read 182 = .ok (.iload_n 1, 1) := by decide +kernel
theorem dX12_read_183 : decode cX12_read 183 = .ok (.iconst 3, 1) := by decide +kernel
theorem dX12_read_184 : decode cX12_read 184 = .ok (.iadd, 1) := by decide +kernel
theorem dX12_read_185 : decode cX12_read 185 = .ok (.putfield 105, 3) := by decide +kernel
theorem dX12_read_188 : decode cX12_read 188 = .ok (.goto 77, 3) := by decide +kernel
theorem dX12_read_191 : decode cX12_read 191 = .ok (.aload_n 0, 1) := by decide +kernel
theorem dX12_read_192 : decode cX12_read 192 = .ok (.iload_n 2, 1) := by decide +kernel
theorem dX12_read_193 : decode cX12_read 193 = .ok (.aload_n 0, 1) := by decide +kernel
theorem dX12_read_194 : decode cX12_read 194 = .ok (.iload_n 1, 1) := by decide +kernel
theorem dX12_read_195 : decode cX12_read 195 = .ok (.iconst 1, 1) := by decide +kernel
theorem dX12_read_196 : decode cX12_read 196 = .ok (.iadd, 1) := by decide +kernel
theorem dX12_read_197 : decode cX12_read 197 = .ok (.invokevirtual 98, 3) := by decide +kernel
theorem dX12_read_200 : decode cX12_read 200 = .ok (.invokestatic 122, 3) := by decide +kernel
theorem dX12_read_203 : decode cX12_read 203 = .ok (.putfield 112, 3) := by decide +kernel
theorem dX12_read_206 : decode cX12_read 206 = .ok (.aload_n 0, 1) := by decide +kernel
theorem dX12_read_207 : decode cX12_read 207 = .ok (.getfield 112, 3) := by decide +kernel
theorem dX12_read_210 : decode cX12_read 210 = .ok (.bipush 15, 2) := by decide +kernel
theorem dX12_read_212 : decode cX12_read 212 = .ok (.if_icmp .eq 30, 3) := by decide +kernel
theorem dX12_read_215 : decode cX12_read 215 = .ok (.aload_n 0, 1) := by decide +kernel
theorem dX12_read_216 : decode cX12_read 216 = .ok (.getfield 112, 3) := by decide +kernel
theorem dX12_read_219 : decode cX12_read 219 = .ok (.bipush 16, 2) := by decide +kernel
theorem dX12_read_221 : decode cX12_read 221 = .ok (.if_icmp .eq 21, 3) := by decide +kernel
theorem dX12_read_224 : decode cX12_read 224 = .ok (.aload_n 0, 1) := by decide +kernel
theorem dX12_read_225 : decode cX12_read 225 = .ok (.getfield 112, 3) := by decide +kernel
theorem dX12_read_228 : decode cX12_read 228 = .ok (.bipush 17, 2) := by decide +kernel
theorem dX12_read_230 : decode cX12_read 230 = .ok (.if_icmp .eq 12, 3) := by decide +kernel
theorem dX12_read_233 : decode cX12_read 233 = .ok (.aload_n 0, 1) := by decide +kernel
theorem dX12_read_234 : decode cX12_read 234 = .ok (.getfield 112, 3) := by decide +kernel
theorem dX12_read_237 : decode cX12_read 237 = .ok (.bipush 19, 2) := by decide +kernel
theorem dX12_read_239 : decode cX12_read 239 = .ok (.if_icmp .ne 7, 3) := by decide +kernel
theorem dX12_read_242 : decode cX12_read 242 = .ok (.iconst 1, 1) := by decide +kernel
theorem dX12_read_243 : decode cX12_read 243 = .ok (.goto 4, 3) := by decide +kernel
theorem dX12_read_246 : decode cX12_read 246 = .ok (.iconst 0, 1) := by decide +kernel
theorem dX12_read_247 : decode cX12_read 247 = .ok (.istore_n 3, 1) := by decide +kernel
theorem dX12_read_248 : decode cX12_read 248 = .ok (.aload_n 0, 1) := by decide +kernel
theorem dX12_read_249 : decode cX12_read 249 = .ok (.iload_n 3, 1) := by decide +kernel
theorem dX12_read_250 : decode cX12_read 250 = .ok (.ifCond .eq 9, 3) := by decide +kernel
theorem dX12_read_253 : decode cX12_read 253 = .ok (.iload_n 1, 1) := by decide +kernel
theorem dX12_read_254 : decode cX12_read 254 = .ok (.iconst 2, 1) := by decide +kernel
theorem dX12_read_255 : decode cX12_read 255 = .ok (.iadd, 1) := by decide +kernel
theorem dX12_read_256 : decode cX12_read 256 = .ok (.goto 6, 3) := by decide +kernel
theorem dX12_read_259 : decode cX12_read 259 = .ok (.iload_n 1, 1) := by decide +kernel
theorem dX12_read_260 : decode cX12_read 260 = .ok (.iconst 1, 1) := by decide +kernel
theorem dX12_read_261 : decode cX12_read 261 = .ok (.iadd, 1) := by decide +kernel
theorem dX12_read_262 : decode cX12_read 262 = .ok (.putfield 105, 3) := by decide +kernel
theorem dX12_read_265 : decode cX12_read 265 = .ok (.return_, 1) := by decide +kernel
set_option maxRecDepth 20000 in
theorem ggX12_isRelation_X12_in : GoodIn wsX12_isRelation wsX12_in := goodIn_r _ [6] (by decide +kernel) (by decide +kernel)
set_option maxRecDepth 20000 in
theorem gX12_isRelation_X12_in : GoodIn wsX12_isRelation (va_wsS RX12 91 yX12_in wsX12_in) := goodIn_app (goodIn_of _ (by decide +kernel)) ggX12_isRelation_X12_in
theorem dX12_isRelation_0 : decode cX12_isRelation 0 = .ok (.iload_n 0, 1) := by decide +kernel
theorem dX12_isRelation_1 : decode cX12_isRelation 1 = .ok (.i2l, 1) := by decide +kernel
theorem dX12_isRelation_2 : decode cX12_isRelation 2 = .ok (.ldc2_w 126, 3) := by decide +kernel
theorem dX12_isRelation_5 : decode cX12_isRelation 5 = .ok (.ldc2_w 128, 3) := by decide +kernel
theorem dX12_isRelation_8 : decode cX12_isRelation 8 = .ok (.invokestatic 91, 3) := by decide +kernel
theorem dX12_isRelation_11 : decode cX12_isRelation 11 = .ok (.ireturn, 1) := by decide +kernel
set_option maxRecDepth 20000 in
theorem ggX12_mayFollow_X12_in : GoodIn wsX12_mayFollow wsX12_in := goodIn_r _ [10] (by decide +kernel) (by decide +kernel)
set_option maxRecDepth 20000 in
theorem gX12_mayFollow_X12_in : GoodIn wsX12_mayFollow (va_wsS RX12 91 yX12_in wsX12_in) := goodIn_app (goodIn_of _ (by decide +kernel)) ggX12_mayFollow_X12_in
set_option maxRecDepth 20000 in
theorem ggX12_mayFollow_X12_isRelation : GoodIn wsX12_mayFollow wsX12_isRelation := goodIn_r _ [13, 14, 15, 7, 8, 9, 10] (by decide +kernel) (by decide +kernel)
set_option maxRecDepth 20000 in
theorem gX12_mayFollow_X12_isRelation : GoodIn wsX12_mayFollow (va_wsS RX12 141 yX12_isRelation wsX12_isRelation) := goodIn_app (goodIn_of _ (by decide +kernel)) ggX12_mayFollow_X12_isRelation
theorem dX12_mayFollow_0 : decode cX12_mayFollow 0 = .ok (.iload_n 1, 1) := by decide +kernel
theorem dX12_mayFollow_1 : decode cX12_mayFollow 1 = .ok (.iconst 1, 1) := by decide +kernel
theorem dX12_mayFollow_2 : decode cX12_mayFollow 2 = .ok (.if_icmp .eq 14, 3) := by decide +kernel
theorem dX12_mayFollow_5 : decode cX12_mayFollow 5 = .ok (.iload_n 1, 1) := by decide +kernel
theorem dX12_mayFollow_6 : decode cX12_mayFollow 6 = .ok (.iconst 2, 1) := by decide +kernel
theorem dX12_mayFollow_7 : decode cX12_mayFollow 7 = .ok (.if_icmp .eq 9, 3) := by decide +kernel
theorem dX12_mayFollow_10 : decode cX12_mayFollow 10 = .ok (.iload_n 1, 1) := by decide +kernel
theorem dX12_mayFollow_11 : decode cX12_mayFollow 11 = .ok (.bipush 11, 2) := by decide +kernel
theorem dX12_mayFollow_13 : decode cX12_mayFollow 13 = .ok (.if_icmp .ne 7, 3) := by decide +kernel
theorem dX12_mayFollow_16 : decode cX12_mayFollow 16 = .ok (.iconst 1, 1) := by decide +kernel
theorem dX12_mayFollow_17 : decode cX12_mayFollow 17 = .ok (.goto 4, 3) := by decide +kernel
theorem dX12_mayFollow_20 : decode cX12_mayFollow 20 = .ok (.iconst 0, 1) := by decide +kernel
theorem dX12_mayFollow_21 : decode cX12_mayFollow 21 = .ok (.istore_n 3, 1) := by decide +kernel
theorem dX12_mayFollow_22 : decode cX12_mayFollow 22 = .ok (.iload_n 2, 1) := by decide +kernel
theorem dX12_mayFollow_23 : decode cX12_mayFollow 23 = .ok (.iconst 2, 1) := by decide +kernel
theorem dX12_mayFollow_24 : decode cX12_mayFollow 24 = .ok (.if_icmp .eq 14, 3) := by decide +kernel
theorem dX12_mayFollow_27 : decode cX12_mayFollow 27 = .ok (.iload_n 2, 1) := by decide +kernel
theorem dX12_mayFollow_28 : decode cX12_mayFollow 28 = .ok (.iconst 3, 1) := by decide +kernel
theorem dX12_mayFollow_29 : decode cX12_mayFollow 29 = .ok (.if_icmp .eq 9, 3) := by decide +kernel
theorem dX12_mayFollow_32 : decode cX12_mayFollow 32 = .ok (.iload_n 2, 1) := by decide +kernel
theorem dX12_mayFollow_33 : decode cX12_mayFollow 33 = .ok (.bipush 10, 2) := by decide +kernel
theorem dX12_mayFollow_35 : decode cX12_mayFollow 35 = .ok (.if_icmp .ne 7, 3) := by decide +kernel
theorem dX12_mayFollow_38 : decode cX12_mayFollow 38 = .ok (.iconst 1, 1) := by decide +kernel
theorem dX12_mayFollow_39 : decode cX12_mayFollow 39 = .ok (.goto 4, 3) := by decide +kernel
theorem dX12_mayFollow_42 : decode cX12_mayFollow 42 = .ok (.iconst 0, 1) := by decide +kernel
theorem dX12_mayFollow_43 : decode cX12_mayFollow 43 = .ok (.istore 4, 2) := by decide +kernel
theorem dX12_mayFollow_45 : decode cX12_mayFollow 45 = .ok (.iload_n 3, 1) := by decide +kernel
theorem dX12_mayFollow_46 : decode cX12_mayFollow 46 = .ok (.ifCond .eq 102, 3) := by decide +kernel
theorem dX12_mayFollow_49 : decode cX12_mayFollow 49 = .ok (.aload_n 0, 1) := by decide +kernel
theorem dX12_mayFollow_50 : decode cX12_mayFollow 50 = .ok (.getfield 130, 3) := by decide +kernel
theorem dX12_mayFollow_53 : decode cX12_mayFollow 53 = .ok (.ifCond .ne 14, 3) := by decide +kernel
theorem dX12_mayFollow_56 : decode cX12_mayFollow 56 = .ok (.aload_n 0, 1) := by decide +kernel
theorem dX12_mayFollow_57 : decode cX12_mayFollow 57 = .ok (.getfield 133, 3) := by decide +kernel
theorem dX12_mayFollow_60 : decode cX12_mayFollow 60 = .ok (.ifCond .ne 7, 3) := by decide +kernel
theorem dX12_mayFollow_63 : decode cX12_mayFollow 63 = .ok (.iconst 1, 1) := by decide +kernel
theorem dX12_mayFollow_64 : decode cX12_mayFollow 64 = .ok (.goto 4, 3) := by decide +kernel
theorem dX12_mayFollow_67 : decode cX12_mayFollow 67 = .ok (.iconst 0, 1) := by decide +kernel
theorem dX12_mayFollow_68 : decode cX12_mayFollow 68 = .ok (.istore 5, 2) := by decide +kernel
theorem dX12_mayFollow_70 : decode cX12_mayFollow 70 = .ok (.iload 4, 2) := by decide +kernel
theorem dX12_mayFollow_72 : decode cX12_mayFollow 72 = .ok (.ifCond .ne 70, 3) := by decide +kernel
theorem dX12_mayFollow_75 : decode cX12_mayFollow 75 = .ok (.iload_n 2, 1) := by decide +kernel
theorem dX12_mayFollow_76 : decode cX12_mayFollow 76 = .ok (.i2l, 1) := by decide +kernel
theorem dX12_mayFollow_77 : decode cX12_mayFollow 77 = .ok (.ldc2_w 137, 3) := by decide +kernel
theorem dX12_mayFollow_80 : decode cX12_mayFollow 80 = .ok (.ldc2_w 139, 3) := by decide +kernel
theorem dX12_mayFollow_83 : decode cX12_mayFollow 83 = .ok (.invokestatic 91, 3) := by decide +kernel
theorem dX12_mayFollow_86 : decode cX12_mayFollow 86 = .ok (.ifCond .ne 56, 3) := by decide +kernel
theorem dX12_mayFollow_89 : decode cX12_mayFollow 89 = .ok (.iload_n 2, 1) := by decide +kernel
theorem dX12_mayFollow_90 : decode cX12_mayFollow 90 = .ok (.bipush 11, 2) := by decide +kernel
theorem dX12_mayFollow_92 : decode cX12_mayFollow 92 = .ok (.if_icmp .ne 10, 3) := by decide +kernel
theorem dX12_mayFollow_95 : decode cX12_mayFollow 95 = .ok (.aload_n 0, 1) := by decide +kernel
theorem dX12_mayFollow_96 : decode cX12_mayFollow 96 = .ok (.getfield 130, 3) := by decide +kernel
theorem dX12_mayFollow_99 : decode cX12_mayFollow 99 = .ok (.ifCond .gt 43, 3) := by decide +kernel
theorem dX12_mayFollow_102 : decode cX12_mayFollow 102 = .ok (.iload_n 2, 1) := by decide +kernel
theorem dX12_mayFollow_103 : decode cX12_mayFollow 103 = .ok (.invokestatic 141, 3) := by decide +kernel
theorem dX12_mayFollow_106 : decode cX12_mayFollow 106 = .ok (.ifCond .eq 16, 3) := by decide +kernel
theorem dX12_mayFollow_109 : decode cX12_mayFollow 109 = .ok (.iload 5, 2) := by decide +kernel
theorem dX12_mayFollow_111 : decode cX12_mayFollow 111 = .ok (.ifCond .eq 11, 3) := by decide +kernel
theorem dX12_mayFollow_114 : decode cX12_mayFollow 114 = .ok (.aload_n 0, 1) := by decide +kernel
theorem dX12_mayFollow_115 : decode cX12_mayFollow 115 = .ok (.getfield 145, 3) := by decide +kernel
theorem dX12_mayFollow_118 : decode cX12_mayFollow 118 = .ok (.iconst 4, 1) := by decide +kernel
theorem dX12_mayFollow_119 : decode cX12_mayFollow 119 = .ok (.if_icmp .lt 23, 3) := by decide +kernel
theorem dX12_mayFollow_122 : decode cX12_mayFollow 122 = .ok (.iload_n 2, 1) := by decide +kernel
theorem dX12_mayFollow_123 : decode cX12_mayFollow 123 = .ok (.bipush 19, 2) := by decide +kernel
theorem dX12_mayFollow_125 : decode cX12_mayFollow 125 = .ok (.if_icmp .ne 21, 3) := by decide +kernel
theorem dX12_mayFollow_128 : decode cX12_mayFollow 128 = .ok (.aload_n 0, 1) := by decide +kernel
theorem dX12_mayFollow_129 : decode cX12_mayFollow 129 = .ok (.getfield 130, 3) := by decide +kernel
theorem dX12_mayFollow_132 : decode cX12_mayFollow 132 = .ok (.ifCond .ne 14, 3) := by decide +kernel
theorem dX12_mayFollow_135 : decode cX12_mayFollow 135 = .ok (.aload_n 0, 1) := by decide +kernel
theorem dX12_mayFollow_136 : decode cX12_mayFollow 136 = .ok (.getfield 133, 3) := by decide +kernel
theorem dX12_mayFollow_139 : decode cX12_mayFollow 139 = .ok (.ifCond .eq 7, 3) := by decide +kernel
theorem dX12_mayFollow_142 : decode cX12_mayFollow 142 = .ok (.iconst 1, 1) := by decide +kernel
theorem dX12_mayFollow_143 : decode cX12_mayFollow 143 = .ok (.goto 4, 3) := by decide +kernel
theorem dX12_mayFollow_146 : decode cX12_mayFollow 146 = .ok (.iconst 0, 1) := by decide +kernel
theorem dX12_mayFollow_147 : decode cX12_mayFollow 147 = .ok (.ireturn, 1) := by decide +kernel
theorem dX12_mayFollow_148 : decode cX12_mayFollow 148 = .ok (.iload_n 1, 1) := by decide +kernel
theorem dX12_mayFollow_149 : decode cX12_mayFollow 149 = .ok (.iconst 3, 1) := by decide +kernel
theorem dX12_mayFollow_150 : decode cX12_mayFollow 150 = .ok (.if_icmp .eq 8, 3) := by decide +kernel
theorem dX12_mayFollow_153 : decode cX12_mayFollow 153 = .ok (.iload_n 1, 1) := by decide +kernel
theorem dX12_mayFollow_154 : decode cX12_mayFollow 154 = .ok (.iconst 4, 1) := by decide +kernel
theorem dX12_mayFollow_155 : decode cX12_mayFollow 155 = .ok (.if_icmp .ne 32, 3) := by decide +kernel
theorem dX12_mayFollow_158 : decode cX12_mayFollow 158 = .ok (.iload 4, 2) := by decide +kernel
theorem dX12_mayFollow_160 : decode cX12_mayFollow 160 = .ok (.ifCond .ne 21, 3) := by decide +kernel
theorem dX12_mayFollow_163 : decode cX12_mayFollow 163 = .ok (.iload_n 2, 1) := by decide +kernel
theorem dX12_mayFollow_164 : decode cX12_mayFollow 164 = .ok (.iconst 1, 1) := by decide +kernel
theorem dX12_mayFollow_165 : decode cX12_mayFollow 165 = .ok (.if_icmp .eq 16, 3) := by decide +kernel
theorem dX12_mayFollow_168 : decode cX12_mayFollow 168 = .ok (.iload_n 2, 1) := by decide +kernel
theorem dX12_mayFollow_169 : decode cX12_mayFollow 169 = .ok (.iconst 4, 1) := by decide +kernel
theorem dX12_mayFollow_170 : decode cX12_mayFollow 170 = .ok (.if_icmp .ne 15, 3) := by decide +kernel
theorem dX12_mayFollow_173 : decode cX12_mayFollow 173 = .ok (.aload_n 0, 1) := by decide +kernel
theorem dX12_mayFollow_174 : decode cX12_mayFollow 174 = .ok (.getfield 148, 3) := by decide +kernel
theorem dX12_mayFollow_177 : decode cX12_mayFollow 177 = .ok (.iconst 3, 1) := by decide +kernel
theorem dX12_mayFollow_178 : decode cX12_mayFollow 178 = .ok (.if_icmp .ge 7, 3) := by decide +kernel
theorem dX12_mayFollow_181 : decode cX12_mayFollow 181 = .ok (.iconst 1, 1) := by decide +kernel
theorem dX12_mayFollow_182 : decode cX12_mayFollow 182 = .ok (.goto 4, 3) := by decide +kernel
theorem dX12_mayFollow_185 : decode cX12_mayFollow 185 = .ok (.iconst 0, 1) := by decide +kernel
theorem dX12_mayFollow_186 : decode cX12_mayFollow 186 = .ok (.ireturn, 1) := by decide +kernel
theorem dX12_mayFollow_187 : decode cX12_mayFollow 187 = .ok (.iload_n 1, 1) := by decide +kernel
theorem dX12_mayFollow_188 : decode cX12_mayFollow 188 = .ok (.ifCond .eq 22, 3) := by decide +kernel
theorem dX12_mayFollow_191 : decode cX12_mayFollow 191 = .ok (.iload_n 1, 1) := by decide +kernel
theorem dX12_mayFollow_192 : decode cX12_mayFollow 192 = .ok (.bipush 10, 2) := by decide +kernel
theorem dX12_mayFollow_194 : decode cX12_mayFollow 194 = .ok (.if_icmp .eq 16, 3) := by decide +kernel
theorem dX12_mayFollow_197 : decode cX12_mayFollow 197 = .ok (.iload_n 1, 1) := by decide +kernel
theorem dX12_mayFollow_198 : decode cX12_mayFollow 198 = .ok (.invokestatic 141, 3) := by decide +kernel
theorem dX12_mayFollow_201 : decode cX12_mayFollow 201 = .ok (.ifCond .ne 9, 3) := by decide +kernel
theorem dX12_mayFollow_204 : decode cX12_mayFollow 204 = .ok (.iload_n 1, 1) := by decide +kernel
theorem dX12_mayFollow_205 : decode cX12_mayFollow 205 = .ok (.bipush 19, 2) := by decide +kernel
theorem dX12_mayFollow_207 : decode cX12_mayFollow 207 = .ok (.if_icmp .ne 7, 3) := by decide +kernel
theorem dX12_mayFollow_210 : decode cX12_mayFollow 210 = .ok (.iconst 1, 1) := by decide +kernel
theorem dX12_mayFollow_211 : decode cX12_mayFollow 211 = .ok (.goto 4, 3) := by decide +kernel
theorem dX12_mayFollow_214 : decode cX12_mayFollow 214 = .ok (.iconst 0, 1) := by decide +kernel
theorem dX12_mayFollow_215 : decode cX12_mayFollow 215 = .ok (.istore 5, 2) := by decide +kernel
theorem dX12_mayFollow_217 : decode cX12_mayFollow 217 = .ok (.iload 4, 2) := by decide +kernel
theorem dX12_mayFollow_219 : decode cX12_mayFollow 219 = .ok (.ifCond .ne 19, 3) := by decide +kernel
theorem dX12_mayFollow_222 : decode cX12_mayFollow 222 = .ok (.iload_n 2, 1) := by decide +kernel
theorem dX12_mayFollow_223 : decode cX12_mayFollow 223 = .ok (.iconst 1, 1) := by decide +kernel
theorem dX12_mayFollow_224 : decode cX12_mayFollow 224 = .ok (.if_icmp .eq 14, 3) := by decide +kernel
theorem dX12_mayFollow_227 : decode cX12_mayFollow 227 = .ok (.iload_n 2, 1) := by decide +kernel
theorem dX12_mayFollow_228 : decode cX12_mayFollow 228 = .ok (.bipush 6, 2) := by decide +kernel
theorem dX12_mayFollow_230 : decode cX12_mayFollow 230 = .ok (.if_icmp .ne 12, 3) := by decide +kernel
theorem dX12_mayFollow_233 : decode cX12_mayFollow 233 = .ok (.iload 5, 2) := by decide +kernel
theorem dX12_mayFollow_235 : decode cX12_mayFollow 235 = .ok (.ifCond .eq 7, 3) := by decide +kernel
theorem dX12_mayFollow_238 : decode cX12_mayFollow 238 = .ok (.iconst 1, 1) := by decide +kernel
theorem dX12_mayFollow_239 : decode cX12_mayFollow 239 = .ok (.goto 4, 3) := by decide +kernel
theorem dX12_mayFollow_242 : decode cX12_mayFollow 242 = .ok (.iconst 0, 1) := by decide +kernel
theorem dX12_mayFollow_243 : decode cX12_mayFollow 243 = .ok (.ireturn, 1) := by decide +kernel
set_option maxRecDepth 20000 in
theorem ggX12_notes_X12_isRelation : GoodIn wsX12_notes wsX12_isRelation := goodIn_r _ [12, 13, 14, 15, 16, 11, 17] (by decide +kernel) (by decide +kernel)
set_option maxRecDepth 20000 in
theorem gX12_notes_X12_isRelation : GoodIn wsX12_notes (va_wsS RX12 141 yX12_isRelation wsX12_isRelation) := goodIn_app (goodIn_of _ (by decide +kernel)) ggX12_notes_X12_isRelation
theorem dX12_notes_0 : decode cX12_notes 0 = .ok (.aload_n 0, 1) := by decide +kernel
theorem dX12_notes_1 : decode cX12_notes 1 = .ok (.dup, 1) := by decide +kernel
theorem dX12_notes_2 : decode cX12_notes 2 = .ok (.getfield 130, 3) := by decide +kernel
theorem dX12_notes_5 : decode cX12_notes 5 = .ok (.iload_n 1, 1) := by decide +kernel
theorem dX12_notes_6 : decode cX12_notes 6 = .ok (.bipush 10, 2) := by decide +kernel
theorem dX12_notes_8 : decode cX12_notes 8 = .ok (.if_icmp .ne 7, 3) := by decide +kernel
theorem dX12_notes_11 : decode cX12_notes 11 = .ok (.iconst 1, 1) := by decide +kernel
theorem dX12_notes_12 : decode cX12_notes 12 = .ok (.goto 14, 3) := by decide +kernel
theorem dX12_notes_15 : decode cX12_notes 15 = .ok (.iload_n 1, 1) := by decide +kernel
theorem dX12_notes_16 : decode cX12_notes 16 = .ok (.bipush 11, 2) := by decide +kernel
theorem dX12_notes_18 : decode cX12_notes 18 = .ok (.if_icmp .ne 7, 3) := by decide +kernel
theorem dX12_notes_21 : decode cX12_notes 21 = .ok (.iconst (-1), 1) := by decide +kernel
theorem dX12_notes_22 : decode cX12_notes 22 = .ok (.goto 4, 3) := by decide +kernel
theorem dX12_notes_25 : decode cX12_notes 25 = .ok (.iconst 0, 1) := by decide +kernel
theorem dX12_notes_26 : decode cX12_notes 26 = .ok (.iadd, 1) := by decide +kernel
theorem dX12_notes_27 : decode cX12_notes 27 = .ok (.putfield 130, 3) := by decide +kernel
theorem dX12_notes_30 : decode cX12_notes 30 = .ok (.aload_n 0, 1) := by decide +kernel
theorem dX12_notes_31 : decode cX12_notes 31 = .ok (.iload_n 1, 1) := by decide +kernel
theorem dX12_notes_32 : decode cX12_notes 32 = .ok (.iconst 4, 1) := by decide +kernel
theorem dX12_notes_33 : decode cX12_notes 33 = .ok (.if_icmp .ne 12, 3) := by decide +kernel
theorem dX12_notes_36 : decode cX12_notes 36 = .ok (.aload_n 0, 1) := by decide +kernel
theorem dX12_notes_37 : decode cX12_notes 37 = .ok (.getfield 148, 3) := by decide +kernel
theorem dX12_notes_40 : decode cX12_notes 40 = .ok (.iconst 1, 1) := by decide +kernel
theorem dX12_notes_41 : decode cX12_notes 41 = .ok (.iadd, 1) := by decide +kernel
theorem dX12_notes_42 : decode cX12_notes 42 = .ok (.goto 4, 3) := by decide +kernel
theorem dX12_notes_45 : decode cX12_notes 45 = .ok (.iconst 0, 1) := by decide +kernel
theorem dX12_notes_46 : decode cX12_notes 46 = .ok (.putfield 148, 3) := by decide +kernel
theorem dX12_notes_49 : decode cX12_notes 49 = .ok (.aload_n 0, 1) := by decide +kernel
theorem dX12_notes_50 : decode cX12_notes 50 = .ok (.dup, 1) := by decide +kernel
theorem dX12_notes_51 : decode cX12_notes 51 = .ok (.getfield 145, 3) := by decide +kernel
theorem dX12_notes_54 : decode cX12_notes 54 = .ok (.iload_n 1, 1) := by decide +kernel
theorem dX12_notes_55 : decode cX12_notes 55 = .ok (.invokestatic 141, 3) := by decide +kernel
theorem dX12_notes_58 : decode cX12_notes 58 = .ok (.ifCond .eq 7, 3) := by decide +kernel
theorem dX12_notes_61 : decode cX12_notes 61 = .ok (.iconst 1, 1) := by decide +kernel
theorem dX12_notes_62 : decode cX12_notes 62 = .ok (.goto 4, 3) := by decide +kernel
theorem dX12_notes_65 : decode cX12_notes 65 = .ok (.iconst 0, 1) := by decide +kernel
theorem dX12_notes_66 : decode cX12_notes 66 = .ok (.iadd, 1) := by decide +kernel
theorem dX12_notes_67 : decode cX12_notes 67 = .ok (.putfield 145, 3) := by decide +kernel
theorem dX12_notes_70 : decode cX12_notes 70 = .ok (.aload_n 0, 1) := by decide +kernel
theorem dX12_notes_71 : decode cX12_notes 71 = .ok (.iload_n 1, 1) := by decide +kernel
theorem dX12_notes_72 : decode cX12_notes 72 = .ok (.bipush 18, 2) := by decide +kernel
theorem dX12_notes_74 : decode cX12_notes 74 = .ok (.if_icmp .eq 16, 3) := by decide +kernel
theorem dX12_notes_77 : decode cX12_notes 77 = .ok (.aload_n 0, 1) := by decide +kernel
theorem dX12_notes_78 : decode cX12_notes 78 = .ok (.getfield 133, 3) := by decide +kernel
theorem dX12_notes_81 : decode cX12_notes 81 = .ok (.ifCond .eq 13, 3) := by decide +kernel
theorem dX12_notes_84 : decode cX12_notes 84 = .ok (.iload_n 1, 1) := by decide +kernel
theorem dX12_notes_85 : decode cX12_notes 85 = .ok (.bipush 19, 2) := by decide +kernel
theorem dX12_notes_87 : decode cX12_notes 87 = .ok (.if_icmp .eq 7, 3) := by decide +kernel
theorem dX12_notes_90 : decode cX12_notes 90 = .ok (.iconst 1, 1) := by decide +kernel
theorem dX12_notes_91 : decode cX12_notes 91 = .ok (.goto 4, 3) := by decide +kernel
theorem dX12_notes_94 : decode cX12_notes 94 = .ok (.iconst 0, 1) := by decide +kernel
theorem dX12_notes_95 : decode cX12_notes 95 = .ok (.putfield 133, 3) := by decide +kernel
theorem dX12_notes_98 : decode cX12_notes 98 = .ok (.aload_n 0, 1) := by decide +kernel
theorem dX12_notes_99 : decode cX12_notes 99 = .ok (.getfield 19, 3) := by decide +kernel
theorem dX12_notes_102 : decode cX12_notes 102 = .ok (.aload_n 0, 1) := by decide +kernel
theorem dX12_notes_103 : decode cX12_notes 103 = .ok (.getfield 151, 3) := by decide +kernel
theorem dX12_notes_106 : decode cX12_notes 106 = .ok (.iload_n 1, 1) := by decide +kernel
theorem dX12_notes_107 : decode cX12_notes 107 = .ok (.iastore, 1) := by decide +kernel
theorem dX12_notes_108 : decode cX12_notes 108 = .ok (.aload_n 0, 1) := by decide +kernel
theorem dX12_notes_109 : decode cX12_notes 109 = .ok (.getfield 22, 3) := by decide +kernel
theorem dX12_notes_112 : decode cX12_notes 112 = .ok (.aload_n 0, 1) := by decide +kernel
theorem dX12_notes_113 : decode cX12_notes 113 = .ok (.getfield 151, 3) := by decide +kernel
theorem dX12_notes_116 : decode cX12_notes 116 = .ok (.aload_n 0, 1) := by decide +kernel
theorem dX12_notes_117 : decode cX12_notes 117 = .ok (.getfield 102, 3) := by decide +kernel
theorem dX12_notes_120 : decode cX12_notes 120 = .ok (.iastore, 1) := by decide +kernel
theorem dX12_notes_121 : decode cX12_notes 121 = .ok (.aload_n 0, 1) := by decide +kernel
theorem dX12_notes_122 : decode cX12_notes 122 = .ok (.dup, 1) := by decide +kernel
theorem dX12_notes_123 : decode cX12_notes 123 = .ok (.getfield 151, 3) := by decide +kernel
theorem dX12_notes_126 : decode cX12_notes 126 = .ok (.iconst 1, 1) := by decide +kernel
theorem dX12_notes_127 : decode cX12_notes 127 = .ok (.iadd, 1) := by decide +kernel
theorem dX12_notes_128 : decode cX12_notes 128 = .ok (.putfield 151, 3) := by decide +kernel
theorem dX12_notes_131 : decode cX12_notes 131 = .ok (.return_, 1) := by decide +kernel
set_option maxRecDepth 20000 in
theorem ggX12_check_X12_at : GoodIn wsX12_check wsX12_at := goodIn_r _ [14, 6, 15, 51, 52, 53, 54, 55, 56, 57, 58, 59, 60, 61, 62, 63, 64, 65, 66, 67, 68, 69, 70, 71, 72, 73, 74, 75, 76, 77, 78, 79, 80, 81, 82, 83, 84, 85, 86, 87, 88, 89, 90, 91, 92, 93] (by decide +kernel) (by decide +kernel)
set_option maxRecDepth 20000 in
theorem gX12_check_X12_at : GoodIn wsX12_check (wsV RX12 98 RX12 yX12_at wsX12_at) := goodIn_app (goodIn_of _ (by decide +kernel)) ggX12_check_X12_at
set_option maxRecDepth 20000 in
theorem ggX12_check_X12_read : GoodIn wsX12_check wsX12_read := goodIn_r _ [19, 20, 8, 21, 22, 7, 23, 24, 10, 11, 12, 13, 14, 6, 15, 25, 26, 27, 28, 29, 30, 31, 32, 33, 34, 51, 52, 53, 54, 55, 56, 57, 58, 59, 60, 61, 62, 63, 64, 65, 66, 67, 68, 69, 70, 71, 72, 73, 74, 75, 76, 77, 78, 79, 80, 81, 82, 83, 84, 85, 86, 87, 88, 89, 90, 91, 92, 93] (by decide +kernel) (by decide +kernel)
set_option maxRecDepth 20000 in
theorem gX12_check_X12_read : GoodIn wsX12_check (wsV RX12 154 RX12 yX12_read wsX12_read) := goodIn_app (goodIn_of _ (by decide +kernel)) ggX12_check_X12_read
set_option maxRecDepth 20000 in
theorem ggX12_check_X12_mayFollow : GoodIn wsX12_check wsX12_mayFollow := goodIn_r _ [38, 2, 4, 39, 40, 3, 5, 25, 26, 13, 27, 41, 42, 43, 44, 45, 51, 52, 53, 54, 55, 56, 57, 58, 59, 60, 61, 62, 63, 64, 65, 66, 67, 68, 69, 70, 71, 72, 73, 74, 75, 76, 77, 78, 79, 80, 81, 82, 83, 84, 85, 86, 87, 88, 89, 90, 91, 92, 93] (by decide +kernel) (by decide +kernel)
set_option maxRecDepth 20000 in
theorem gX12_check_X12_mayFollow : GoodIn wsX12_check (wsV RX12 158 RX12 yX12_mayFollow wsX12_mayFollow) := goodIn_app (goodIn_of _ (by decide +kernel)) ggX12_check_X12_mayFollow
set_option maxRecDepth 20000 in
theorem ggX12_check_X12_notes : GoodIn wsX12_check wsX12_notes := goodIn_r _ [49, 2, 5, 3, 4, 9, 1, 50, 20, 41, 42, 13, 43, 44, 45, 25, 26, 27, 51, 52, 53, 54, 55, 56, 57, 58, 59, 60, 61, 62, 63, 64, 65, 66, 67, 68, 69, 70, 71, 72, 73, 74, 75, 76, 77, 78, 79, 80, 81, 82, 83, 84, 85, 86, 87, 88, 89, 90, 91, 92, 93] (by decide +kernel) (by decide +kernel)
set_option maxRecDepth 20000 in
theorem gX12_check_X12_notes : GoodIn wsX12_check (wsV RX12 162 RX12 yX12_notes wsX12_notes) := goodIn_app (goodIn_of _ (by decide +kernel)) ggX12_check_X12_notes
theorem dX12_check_0 : decode cX12_check 0 = .ok (.aload_n 0, 1) := by decide +kernel
theorem dX12_check_1 : decode cX12_check 1 = .ok (.iconst 0, 1) := by decide +kernel
theorem dX12_check_2 : decode cX12_check 2 = .ok (.putfield 151, 3) := by decide +kernel
theorem dX12_check_5 : decode cX12_check 5 = .ok (.aload_n 0, 1) := by decide +kernel
theorem dX12_check_6 : decode cX12_check 6 = .ok (.iconst 0, 1) := by decide +kernel
theorem dX12_check_7 : decode cX12_check 7 = .ok (.putfield 130, 3) := by decide +kernel
theorem dX12_check_10 : decode cX12_check 10 = .ok (.aload_n 0, 1) := by decide +kernel
theorem dX12_check_11 : decode cX12_check 11 = .ok (.iconst 0, 1) := by decide +kernel
theorem dX12_check_12 : decode cX12_check 12 = .ok (.putfield 145, 3) := by decide +kernel
theorem dX12_check_15 : decode cX12_check 15 = .ok (.aload_n 0, 1) := by decide +kernel
theorem dX12_check_16 : decode cX12_check 16 = .ok (.iconst 0, 1) := by decide +kernel
theorem dX12_check_17 : decode cX12_check 17 = .ok (.putfield 133, 3) := by decide +kernel
theorem dX12_check_20 : decode cX12_check 20 = .ok (.aload_n 0, 1) := by decide +kernel
theorem dX12_check_21 : decode cX12_check 21 = .ok (.iconst 0, 1) := by decide +kernel
theorem dX12_check_22 : decode cX12_check 22 = .ok (.putfield 148, 3) := by decide +kernel
theorem dX12_check_25 : decode cX12_check 25 = .ok (.iconst 0, 1) := by decide +kernel
theorem dX12_check_26 : decode cX12_check 26 = .ok (.istore_n 1, 1) := by decide +kernel
theorem dX12_check_27 : decode cX12_check 27 = .ok (.iconst 0, 1) := by decide +kernel
theorem dX12_check_28 : decode cX12_check 28 = .ok (.istore_n 2, 1) := by decide +kernel
theorem dX12_check_29 : decode cX12_check 29 = .ok (.aload_n 0, 1) := by decide +kernel
theorem dX12_check_30 : decode cX12_check 30 = .ok (.iload_n 2, 1) := by decide +kernel
theorem dX12_check_31 : decode cX12_check 31 = .ok (.invokevirtual 98, 3) := by decide +kernel
theorem dX12_check_34 : decode cX12_check 34 = .ok (.bipush 32, 2) := by decide +kernel
theorem dX12_check_36 : decode cX12_check 36 = .ok (.if_icmp .ne 9, 3) := by decide +kernel
theorem dX12_check_39 : decode cX12_check 39 = .ok (.iinc 2 1, 3) := by decide +kernel
theorem dX12_check_42 : decode cX12_check 42 = .ok (.goto (-13), 3) := by decide +kernel
theorem dX12_check_45 : decode cX12_check 45 = .ok (.iload_n 2, 1) := by decide +kernel
theorem dX12_check_46 : decode cX12_check 46 = .ok (.aload_n 0, 1) := by decide +kernel
theorem dX12_check_47 : decode cX12_check 47 = .ok (.getfield 95, 3) := by decide +kernel
theorem dX12_check_50 : decode cX12_check 50 = .ok (.if_icmp .lt 6, 3) := by decide +kernel
theorem dX12_check_53 : decode cX12_check 53 = .ok (.goto 52, 3) := by decide +kernel
theorem dX12_check_56 : decode cX12_check 56 = .ok (.aload_n 0, 1) := by decide +kernel
theorem dX12_check_57 : decode cX12_check 57 = .ok (.iload_n 2, 1) := by decide +kernel
theorem dX12_check_58 : decode cX12_check 58 = .ok (.invokevirtual 154, 3) := by decide +kernel
theorem dX12_check_61 : decode cX12_check 61 = .ok (.aload_n 0, 1) := by decide +kernel
theorem dX12_check_62 : decode cX12_check 62 = .ok (.getfield 112, 3) := by decide +kernel
theorem dX12_check_65 : decode cX12_check 65 = .ok (.bipush 21, 2) := by decide +kernel
theorem dX12_check_67 : decode cX12_check 67 = .ok (.if_icmp .eq 15, 3) := by decide +kernel
theorem dX12_check_70 : decode cX12_check 70 = .ok (.aload_n 0, 1) := by decide +kernel
theorem dX12_check_71 : decode cX12_check 71 = .ok (.iload_n 1, 1) := by decide +kernel
theorem dX12_check_72 : decode cX12_check 72 = .ok (.aload_n 0, 1) := by decide +kernel
theorem dX12_check_73 : decode cX12_check 73 = .ok (.getfield 112, 3) := by decide +kernel
theorem dX12_check_76 : decode cX12_check 76 = .ok (.invokevirtual 158, 3) := by decide +kernel
theorem dX12_check_79 : decode cX12_check 79 = .ok (.ifCond .ne 5, 3) := by decide +kernel
theorem dX12_check_82 : decode cX12_check 82 = .ok (.iload_n 2, 1) := by decide +kernel
theorem dX12_check_83 : decode cX12_check 83 = .ok (.ireturn, 1) := by decide +kernel
theorem dX12_check_84 : decode cX12_check 84 = .ok (.aload_n 0, 1) := by decide +kernel
theorem dX12_check_85 : decode cX12_check 85 = .ok (.aload_n 0, 1) := by decide +kernel
theorem dX12_check_86 : decode cX12_check 86 = .ok (.getfield 112, 3) := by decide +kernel
theorem dX12_check_89 : decode cX12_check 89 = .ok (.invokevirtual 162, 3) := by decide +kernel
theorem dX12_check_92 : decode cX12_check 92 = .ok (.aload_n 0, 1) := by decide +kernel
theorem dX12_check_93 : decode cX12_check 93 = .ok (.getfield 112, 3) := by decide +kernel
theorem dX12_check_96 : decode cX12_check 96 = .ok (.istore_n 1, 1) := by decide +kernel
theorem dX12_check_97 : decode cX12_check 97 = .ok (.aload_n 0, 1) := by decide +kernel
theorem dX12_check_98 : decode cX12_check 98 = .ok (.getfield 105, 3) := by decide +kernel
theorem dX12_check_101 : decode cX12_check 101 = .ok (.istore_n 2, 1) := by decide +kernel
theorem dX12_check_102 : decode cX12_check 102 = .ok (.goto (-73), 3) := by decide +kernel
theorem dX12_check_105 : decode cX12_check 105 = .ok (.aload_n 0, 1) := by decide +kernel
theorem dX12_check_106 : decode cX12_check 106 = .ok (.getfield 19, 3) := by decide +kernel
theorem dX12_check_109 : decode cX12_check 109 = .ok (.aload_n 0, 1) := by decide +kernel
theorem dX12_check_110 : decode cX12_check 110 = .ok (.getfield 151, 3) := by decide +kernel
theorem dX12_check_113 : decode cX12_check 113 = .ok (.bipush 20, 2) := by decide +kernel
theorem dX12_check_115 : decode cX12_check 115 = .ok (.iastore, 1) := by decide +kernel
theorem dX12_check_116 : decode cX12_check 116 = .ok (.iload_n 1, 1) := by decide +kernel
theorem dX12_check_117 : decode cX12_check 117 = .ok (.iconst 1, 1) := by decide +kernel
theorem dX12_check_118 : decode cX12_check 118 = .ok (.if_icmp .eq 14, 3) := by decide +kernel
theorem dX12_check_121 : decode cX12_check 121 = .ok (.iload_n 1, 1) := by decide +kernel
theorem dX12_check_122 : decode cX12_check 122 = .ok (.iconst 2, 1) := by decide +kernel
theorem dX12_check_123 : decode cX12_check 123 = .ok (.if_icmp .eq 9, 3) := by decide +kernel
theorem dX12_check_126 : decode cX12_check 126 = .ok (.iload_n 1, 1) := by decide +kernel
theorem dX12_check_127 : decode cX12_check 127 = .ok (.bipush 11, 2) := by decide +kernel
theorem dX12_check_129 : decode cX12_check 129 = .ok (.if_icmp .ne 7, 3) := by decide +kernel
theorem dX12_check_132 : decode cX12_check 132 = .ok (.iconst 1, 1) := by decide +kernel
theorem dX12_check_133 : decode cX12_check 133 = .ok (.goto 4, 3) := by decide +kernel
theorem dX12_check_136 : decode cX12_check 136 = .ok (.iconst 0, 1) := by decide +kernel
theorem dX12_check_137 : decode cX12_check 137 = .ok (.istore_n 3, 1) := by decide +kernel
theorem dX12_check_138 : decode cX12_check 138 = .ok (.iload_n 3, 1) := by decide +kernel
theorem dX12_check_139 : decode cX12_check 139 = .ok (.ifCond .eq 22, 3) := by decide +kernel
theorem dX12_check_142 : decode cX12_check 142 = .ok (.aload_n 0, 1) := by decide +kernel
theorem dX12_check_143 : decode cX12_check 143 = .ok (.getfield 130, 3) := by decide +kernel
theorem dX12_check_146 : decode cX12_check 146 = .ok (.ifCond .ne 15, 3) := by decide +kernel
theorem dX12_check_149 : decode cX12_check 149 = .ok (.aload_n 0, 1) := by decide +kernel
theorem dX12_check_150 : decode cX12_check 150 = .ok (.getfield 133, 3) := by decide +kernel
theorem dX12_check_153 : decode cX12_check 153 = .ok (.ifCond .ne 8, 3) := by decide +kernel
theorem dX12_check_156 : decode cX12_check 156 = .ok (.bipush (-3), 2) := by decide +kernel
theorem dX12_check_158 : decode cX12_check 158 = .ok (.goto 7, 3) := by decide +kernel
theorem dX12_check_161 : decode cX12_check 161 = .ok (.aload_n 0, 1) := by decide +kernel
theorem dX12_check_162 : decode cX12_check 162 = .ok (.getfield 95, 3) := by decide +kernel
theorem dX12_check_165 : decode cX12_check 165 = .ok (.ireturn, 1) := by decide +kernel
set_option maxRecDepth 20000 in
theorem ggX12_syntaxError_X12_check : GoodIn wsX12_syntaxError wsX12_check := goodIn_r _ [5, 6, 7, 8, 9, 10, 11, 12, 13, 14, 15, 16, 17, 4, 18, 19, 20, 21, 22, 23, 24, 25, 26, 27, 28, 29, 30, 31, 32, 33, 34, 35, 36, 37, 38, 39, 40, 41, 42, 43, 44, 45, 46, 47, 48, 49, 50, 51, 52, 53, 54, 55, 56, 57, 58, 59, 60, 61, 62, 63, 64, 65, 66, 67, 68, 69, 70, 71, 72, 73, 74, 75, 76, 77, 78, 79, 80, 81, 82, 83, 84, 85, 86, 87, 88, 89, 90, 91, 92, 93, 94, 95, 96, 97] (by decide +kernel) (by decide +kernel)
set_option maxRecDepth 20000 in
theorem gX12_syntaxError_X12_check : GoodIn wsX12_syntaxError (wsV RX12 165 RX12 yX12_check wsX12_check) := goodIn_app (goodIn_of _ (by decide +kernel)) ggX12_syntaxError_X12_check
theorem dX12_syntaxError_0 : decode cX12_syntaxError 0 = .ok (.aload_n 0, 1) := by decide +kernel
theorem dX12_syntaxError_1 : decode cX12_syntaxError 1 = .ok (.invokevirtual 165, 3) := by decide +kernel
theorem dX12_syntaxError_4 : decode cX12_syntaxError 4 = .ok (.ireturn, 1) := by decide +kernel
set_option maxRecDepth 20000 in
theorem ggX12_accept_X12_check : GoodIn wsX12_accept wsX12_check := goodIn_r _ [12, 1, 13, 7, 14, 15, 16, 17, 18, 4, 19, 20, 21, 11, 22, 23, 24, 25, 26, 27, 28, 29, 30, 31, 32, 33, 34, 35, 36, 37, 38, 39, 40, 41, 42, 43, 44, 45, 46, 47, 48, 49, 50, 51, 52, 53, 54, 55, 56, 57, 6, 58, 59, 60, 61, 62, 63, 64, 65, 66, 67, 68, 69, 70, 71, 72, 73, 74, 75, 76, 77, 78, 79, 80, 81, 82, 83, 84, 85, 86, 87, 88, 89, 90, 91, 92, 93, 94, 95, 96, 97, 98, 99, 100] (by decide +kernel) (by decide +kernel)
set_option maxRecDepth 20000 in
theorem gX12_accept_X12_check : GoodIn wsX12_accept (wsV RX12 165 RX12 yX12_check wsX12_check) := goodIn_app (goodIn_of _ (by decide +kernel)) ggX12_accept_X12_check
theorem dX12_accept_0 : decode cX12_accept 0 = .ok (.aload_n 0, 1) := by decide +kernel
theorem dX12_accept_1 : decode cX12_accept 1 = .ok (.invokevirtual 165, 3) := by decide +kernel
theorem dX12_accept_4 : decode cX12_accept 4 = .ok (.bipush (-3), 2) := by decide +kernel
theorem dX12_accept_6 : decode cX12_accept 6 = .ok (.if_icmp .eq 6, 3) := by decide +kernel
theorem dX12_accept_9 : decode cX12_accept 9 = .ok (.bipush (-2), 2) := by decide +kernel
theorem dX12_accept_11 : decode cX12_accept 11 = .ok (.ireturn, 1) := by decide +kernel
theorem dX12_accept_12 : decode cX12_accept 12 = .ok (.aload_n 0, 1) := by decide +kernel
theorem dX12_accept_13 : decode cX12_accept 13 = .ok (.aload_n 0, 1) := by decide +kernel
theorem dX12_accept_14 : decode cX12_accept 14 = .ok (.getfield 151, 3) := by decide +kernel
theorem dX12_accept_17 : decode cX12_accept 17 = .ok (.putfield 83, 3) := by decide +kernel
theorem dX12_accept_20 : decode cX12_accept 20 = .ok (.iconst 0, 1) := by decide +kernel
theorem dX12_accept_21 : decode cX12_accept 21 = .ok (.istore_n 1, 1) := by decide +kernel
theorem dX12_accept_22 : decode cX12_accept 22 = .ok (.iload_n 1, 1) := by decide +kernel
theorem dX12_accept_23 : decode cX12_accept 23 = .ok (.aload_n 0, 1) := by decide +kernel
theorem dX12_accept_24 : decode cX12_accept 24 = .ok (.getfield 83, 3) := by decide +kernel
theorem dX12_accept_27 : decode cX12_accept 27 = .ok (.if_icmp .gt 33, 3) := by decide +kernel
theorem dX12_accept_30 : decode cX12_accept 30 = .ok (.aload_n 0, 1) := by decide +kernel
theorem dX12_accept_31 : decode cX12_accept 31 = .ok (.getfield 13, 3) := by decide +kernel
theorem dX12_accept_34 : decode cX12_accept 34 = .ok (.iload_n 1, 1) := by decide +kernel
theorem dX12_accept_35 : decode cX12_accept 35 = .ok (.aload_n 0, 1) := by decide +kernel
theorem dX12_accept_36 : decode cX12_accept 36 = .ok (.getfield 19, 3) := by decide +kernel
theorem dX12_accept_39 : decode cX12_accept 39 = .ok (.iload_n 1, 1) := by decide +kernel
theorem dX12_accept_40 : decode cX12_accept 40 = .ok (.iaload, 1) := by decide +kernel
theorem dX12_accept_41 : decode cX12_accept 41 = .ok (.iastore, 1) := by decide +kernel
theorem dX12_accept_42 : decode cX12_accept 42 = .ok (.aload_n 0, 1) := by decide +kernel
theorem dX12_accept_43 : decode cX12_accept 43 = .ok (.getfield 16, 3) := by decide +kernel
theorem dX12_accept_46 : decode cX12_accept 46 = .ok (.iload_n 1, 1) := by decide +kernel
theorem dX12_accept_47 : decode cX12_accept 47 = .ok (.aload_n 0, 1) := by decide +kernel
theorem dX12_accept_48 : decode cX12_accept 48 = .ok (.getfield 22, 3) := by decide +kernel
theorem dX12_accept_51 : decode cX12_accept 51 = .ok (.iload_n 1, 1) := by decide +kernel
theorem dX12_accept_52 : decode cX12_accept 52 = .ok (.iaload, 1) := by decide +kernel
theorem dX12_accept_53 : decode cX12_accept 53 = .ok (.iastore, 1) := by decide +kernel
theorem dX12_accept_54 : decode cX12_accept 54 = .ok (.iinc 1 1, 3) := by decide +kernel
theorem dX12_accept_57 : decode cX12_accept 57 = .ok (.goto (-35), 3) := by decide +kernel
theorem dX12_accept_60 : decode cX12_accept 60 = .ok (.aload_n 0, 1) := by decide +kernel
theorem dX12_accept_61 : decode cX12_accept 61 = .ok (.getfield 145, 3) := by decide +kernel
theorem dX12_accept_64 : decode cX12_accept 64 = .ok (.ireturn, 1) := by decide +kernel
set_option maxRecDepth 20000 in
theorem ggX12_setVariable_X12_in : GoodIn wsX12_setVariable wsX12_in := goodIn_r _ [8] (by decide +kernel) (by decide +kernel)
set_option maxRecDepth 20000 in
theorem gX12_setVariable_X12_in : GoodIn wsX12_setVariable (va_wsS RX12 91 yX12_in wsX12_in) := goodIn_app (goodIn_of _ (by decide +kernel)) ggX12_setVariable_X12_in
theorem dX12_setVariable_0 : decode cX12_setVariable 0 = .ok (.iload_n 1, 1) := by decide +kernel
theorem dX12_setVariable_1 : decode cX12_setVariable 1 = .ok (.i2l, 1) := by decide +kernel
theorem dX12_setVariable_2 : decode cX12_setVariable 2 = .ok (.lconst 0, 1) := by decide +kernel
theorem dX12_setVariable_3 : decode cX12_setVariable 3 = .ok (.ldc2_w 169, 3) := by decide +kernel
theorem dX12_setVariable_6 : decode cX12_setVariable 6 = .ok (.invokestatic 91, 3) := by decide +kernel
theorem dX12_setVariable_9 : decode cX12_setVariable 9 = .ok (.ifCond .eq 17, 3) := by decide +kernel
theorem dX12_setVariable_12 : decode cX12_setVariable 12 = .ok (.iload_n 2, 1) := by decide +kernel
theorem dX12_setVariable_13 : decode cX12_setVariable 13 = .ok (.i2l, 1) := by decide +kernel
theorem dX12_setVariable_14 : decode cX12_setVariable 14 = .ok (.ldc2_w 171, 3) := by decide +kernel
theorem dX12_setVariable_17 : decode cX12_setVariable 17 = .ok (.ldc2_w 173, 3) := by decide +kernel
theorem dX12_setVariable_20 : decode cX12_setVariable 20 = .ok (.invokestatic 91, 3) := by decide +kernel
theorem dX12_setVariable_23 : decode cX12_setVariable 23 = .ok (.ifCond .ne 5, 3) := by decide +kernel
theorem dX12_setVariable_26 : decode cX12_setVariable 26 = .ok (.iconst (-1), 1) := by decide +kernel
theorem dX12_setVariable_27 : decode cX12_setVariable 27 = .ok (.ireturn, 1) := by decide +kernel
theorem dX12_setVariable_28 : decode cX12_setVariable 28 = .ok (.aload_n 0, 1) := by decide +kernel
theorem dX12_setVariable_29 : decode cX12_setVariable 29 = .ok (.getfield 25, 3) := by decide +kernel
theorem dX12_setVariable_32 : decode cX12_setVariable 32 = .ok (.iload_n 1, 1) := by decide +kernel
theorem dX12_setVariable_33 : decode cX12_setVariable 33 = .ok (.iaload, 1) := by decide +kernel
theorem dX12_setVariable_34 : decode cX12_setVariable 34 = .ok (.istore_n 3, 1) := by decide +kernel
theorem dX12_setVariable_35 : decode cX12_setVariable 35 = .ok (.aload_n 0, 1) := by decide +kernel
theorem dX12_setVariable_36 : decode cX12_setVariable 36 = .ok (.getfield 25, 3) := by decide +kernel
theorem dX12_setVariable_39 : decode cX12_setVariable 39 = .ok (.iload_n 1, 1) := by decide +kernel
theorem dX12_setVariable_40 : decode cX12_setVariable 40 = .ok (.iload_n 2, 1) := by decide +kernel
theorem dX12_setVariable_41 : decode cX12_setVariable 41 = .ok (.iastore, 1) := by decide +kernel
theorem dX12_setVariable_42 : decode cX12_setVariable 42 = .ok (.iload_n 3, 1) := by decide +kernel
theorem dX12_setVariable_43 : decode cX12_setVariable 43 = .ok (.iload_n 2, 1) := by decide +kernel
theorem dX12_setVariable_44 : decode cX12_setVariable 44 = .ok (.if_icmp .ne 7, 3) := by decide +kernel
theorem dX12_setVariable_47 : decode cX12_setVariable 47 = .ok (.iconst 0, 1) := by decide +kernel
theorem dX12_setVariable_48 : decode cX12_setVariable 48 = .ok (.goto 4, 3) := by decide +kernel
theorem dX12_setVariable_51 : decode cX12_setVariable 51 = .ok (.iconst 1, 1) := by decide +kernel
theorem dX12_setVariable_52 : decode cX12_setVariable 52 = .ok (.ireturn, 1) := by decide +kernel
set_option maxRecDepth 20000 in
theorem ggX12_occurrences_X12_in : GoodIn wsX12_occurrences wsX12_in := goodIn_r _ [8] (by decide +kernel) (by decide +kernel)
set_option maxRecDepth 20000 in
theorem gX12_occurrences_X12_in : GoodIn wsX12_occurrences (va_wsS RX12 91 yX12_in wsX12_in) := goodIn_app (goodIn_of _ (by decide +kernel)) ggX12_occurrences_X12_in
theorem dX12_occurrences_0 : decode cX12_occurrences 0 = .ok (.iload_n 1, 1) := by decide +kernel
theorem dX12_occurrences_1 : decode cX12_occurrences 1 = .ok (.i2l, 1) := by decide +kernel
theorem dX12_occurrences_2 : decode cX12_occurrences 2 = .ok (.lconst 0, 1) := by decide +kernel
theorem dX12_occurrences_3 : decode cX12_occurrences 3 = .ok (.ldc2_w 169, 3) := by decide +kernel
theorem dX12_occurrences_6 : decode cX12_occurrences 6 = .ok (.invokestatic 91, 3) := by decide +kernel
theorem dX12_occurrences_9 : decode cX12_occurrences 9 = .ok (.ifCond .ne 5, 3) := by decide +kernel
theorem dX12_occurrences_12 : decode cX12_occurrences 12 = .ok (.iconst (-1), 1) := by decide +kernel
theorem dX12_occurrences_13 : decode cX12_occurrences 13 = .ok (.ireturn, 1) := by decide +kernel
theorem dX12_occurrences_14 : decode cX12_occurrences 14 = .ok (.iconst 0, 1) := by decide +kernel
theorem dX12_occurrences_15 : decode cX12_occurrences 15 = .ok (.istore_n 2, 1) := by decide +kernel
theorem dX12_occurrences_16 : decode cX12_occurrences 16 = .ok (.iconst 0, 1) := by decide +kernel
theorem dX12_occurrences_17 : decode cX12_occurrences 17 = .ok (.istore_n 3, 1) := by decide +kernel
theorem dX12_occurrences_18 : decode cX12_occurrences 18 = .ok (.iload_n 3, 1) := by decide +kernel
theorem dX12_occurrences_19 : decode cX12_occurrences 19 = .ok (.aload_n 0, 1) := by decide +kernel
theorem dX12_occurrences_20 : decode cX12_occurrences 20 = .ok (.getfield 83, 3) := by decide +kernel
theorem dX12_occurrences_23 : decode cX12_occurrences 23 = .ok (.if_icmp .ge 37, 3) := by decide +kernel
theorem dX12_occurrences_26 : decode cX12_occurrences 26 = .ok (.iload_n 2, 1) := by decide +kernel
theorem dX12_occurrences_27 : decode cX12_occurrences 27 = .ok (.aload_n 0, 1) := by decide +kernel
theorem dX12_occurrences_28 : decode cX12_occurrences 28 = .ok (.getfield 13, 3) := by decide +kernel
theorem dX12_occurrences_31 : decode cX12_occurrences 31 = .ok (.iload_n 3, 1) := by decide +kernel
theorem dX12_occurrences_32 : decode cX12_occurrences 32 = .ok (.iaload, 1) := by decide +kernel
theorem dX12_occurrences_33 : decode cX12_occurrences 33 = .ok (.iconst 2, 1) := by decide +kernel
theorem dX12_occurrences_34 : decode cX12_occurrences 34 = .ok (.if_icmp .ne 17, 3) := by decide +kernel
theorem dX12_occurrences_37 : decode cX12_occurrences 37 = .ok (.aload_n 0, 1) := by decide +kernel
theorem dX12_occurrences_38 : decode cX12_occurrences 38 = .ok (.getfield 16, 3) := by decide +kernel
theorem dX12_occurrences_41 : decode cX12_occurrences 41 = .ok (.iload_n 3, 1) := by decide +kernel
theorem dX12_occurrences_42 : decode cX12_occurrences 42 = .ok (.iaload, 1) := by decide +kernel
theorem dX12_occurrences_43 : decode cX12_occurrences 43 = .ok (.iload_n 1, 1) := by decide +kernel
theorem dX12_occurrences_44 : decode cX12_occurrences 44 = .ok (.if_icmp .ne 7, 3) := by decide +kernel
theorem dX12_occurrences_47 : decode cX12_occurrences 47 = .ok (.iconst 1, 1) := by decide +kernel
theorem dX12_occurrences_48 : decode cX12_occurrences 48 = .ok (.goto 4, 3) := by decide +kernel
theorem dX12_occurrences_51 : decode cX12_occurrences 51 = .ok (.iconst 0, 1) := by decide +kernel
theorem dX12_occurrences_52 : decode cX12_occurrences 52 = .ok (.iadd, 1) := by decide +kernel
theorem dX12_occurrences_53 : decode cX12_occurrences 53 = .ok (.istore_n 2, 1) := by decide +kernel
theorem dX12_occurrences_54 : decode cX12_occurrences 54 = .ok (.iinc 3 1, 3) := by decide +kernel
theorem dX12_occurrences_57 : decode cX12_occurrences 57 = .ok (.goto (-39), 3) := by decide +kernel
theorem dX12_occurrences_60 : decode cX12_occurrences 60 = .ok (.iload_n 2, 1) := by decide +kernel
theorem dX12_occurrences_61 : decode cX12_occurrences 61 = .ok (.ireturn, 1) := by decide +kernel
def fn_Ref_in (x0 : Int64) (x2 : Int64) (x4 : Int64) : Int32 := (if (lg_cmp x0 x2) < 0 then 0 else (if 0 < (lg_cmp x0 x4) then 0 else 1))
set_option maxHeartbeats 40000000 in
set_option maxRecDepth 100000 in
theorem ct_Ref_in (l : Launch) (D : va_G) (cI cJ cC : ClassId) (adK adV : Nat → Nat) (sz : Nat) (x0 : Int64) (x2 : Int64) (x4 : Int64) : Met l yX12_in wsX12_in ({ frames := 0, cells := 0, slots := 0, locals := 0 } : Room) (zP D cI cJ cC adK adV [.long x0, .long x2, .long x4] sz []) (zQi D cI cJ cC (fn_Ref_in x0 x2 x4) [] (va_A [] sz)) 0 0 (va_A [] sz) := by
  obtain ⟨rs, hM⟩ : ∃ rs, fn_Ref_in x0 x2 x4 = rs := ⟨_, rfl⟩
  rw [hM]
  refine Met.ofW (cc := cX12_in) (maxL := 6) (ret := (some .boolean)) (by decide) rfl ?_
  intro p e s m args below meth c s₁ B hml hv0
  obtain ⟨hargs, hsz, hP, hK, hD0, hX⟩ := hv0
  have hx := B.exec
  have hb := B.bytes
  have hr := B.returns
  have hts := atoms_spec (ws := wsX12_in) B.pre
  have hown : s.vm.findClass RX12 = some m.cls := findClass_of_methodNamed B.named
  have hlocks := B.notSynchronized
  subst hsz
  have hD := hD0.self (sz := s.heap.size)
  generalize hAe : va_A [] s.heap.size = A at hD hX ⊢
  have hA : ∀ q : Nat, s.heap.size ≤ q → A q := fun q h => by rw [← hAe]; exact Or.inr h
  have hS : va_S A s.heap s.heap [] := va_S.rf
  have hl := lv_entry ([.long x0, .long x2, .long x4]) (n := 6) (Nat.le_of_ble_eq_true rfl)
  rw [hargs, lg_entry_eq, ← hargs]
  generalize (lg_sl ([.long x0, .long x2, .long x4]) ++ List.replicate (6 - (lg_sl ([.long x0, .long x2, .long x4])).length) Slot.unset).toArray = ls at hl ⊢
  have hl : lv_has ls 6 [(0, .long x0), (2, .long x2), (4, .long x4)] := hl
  refine lv_lload_n hx hb dX12_in_0 rfl (lv_at hl 0 rfl) ?_
  refine lv_lload_n hx hb dX12_in_1 rfl (lv_at hl 1 rfl) ?_
  refine W.lcmp hx hb dX12_in_2 ?_
  refine lv_if_lt (tgt := 17) hx hb dX12_in_3 (by decide) (fun c1 => ?_) (fun c1 => ?_)
  · have hM := z_t c1 hM
    refine lv_iconst (v := 0) hx hb dX12_in_17 (by decide) ?_
    have hM := hM
    subst hM
    exact W.zret (v := 0) (ty := .boolean) hx hb hr rfl (fun t ht hW => ⟨⟨_, (), rfl, rfl, ⟨by rw [ht]; exact hP, va_K.moved hW.alike hK, hD⟩⟩, hS.F ht⟩) hS.2.2 dX12_in_18
  · have hM := z_f c1 hM
    refine lv_lload_n hx hb dX12_in_6 rfl (lv_at hl 0 rfl) ?_
    refine lv_lload hx hb dX12_in_7 (lv_at hl 2 rfl) ?_
    refine W.lcmp hx hb dX12_in_9 ?_
    refine lv_if_gt (tgt := 17) hx hb dX12_in_10 (by decide) (fun c2 => ?_) (fun c2 => ?_)
    · have hM := z_t c2 hM
      refine lv_iconst (v := 0) hx hb dX12_in_17 (by decide) ?_
      have hM := hM
      subst hM
      exact W.zret (v := 0) (ty := .boolean) hx hb hr rfl (fun t ht hW => ⟨⟨_, (), rfl, rfl, ⟨by rw [ht]; exact hP, va_K.moved hW.alike hK, hD⟩⟩, hS.F ht⟩) hS.2.2 dX12_in_18
    · have hM := z_f c2 hM
      refine lv_iconst (v := 1) hx hb dX12_in_13 (by decide) ?_
      refine lv_goto (tgt := 18) hx hb dX12_in_14 (by decide) ?_
      have hM := hM
      subst hM
      exact W.zret (v := 1) (ty := .boolean) hx hb hr rfl (fun t ht hW => ⟨⟨_, (), rfl, rfl, ⟨by rw [ht]; exact hP, va_K.moved hW.alike hK, hD⟩⟩, hS.F ht⟩) hS.2.2 dX12_in_18
def fn_Ref_append (m_length : Int32) (m_text : Nat → Int32) (x1 : Int32) : Option (Int32 × Int32 × (Nat → Int32)) := (if (fn_Ref_in (x1).toInt64 32 126) = 0 then some ((-1), m_length, m_text) else (if m_length = 80 then some ((-4), m_length, m_text) else (if (m_length < 0 ∨ 80 ≤ m_length.toNatClampNeg) then none else some ((m_length + 1), (m_length + 1), (upd m_text m_length.toNatClampNeg x1)))))
set_option maxHeartbeats 40000000 in
set_option maxRecDepth 100000 in
theorem ct_Ref_append (l : Launch) (D : va_G) (cI cJ cC : ClassId) (adK adV : Nat → Nat) (A_m A_m_text A_m_kind A_m_amount A_m_newKind A_m_newAmount A_m_variable A_m_sort A_m_left A_m_right A_m_what A_m_result A_m_root A_m_relation A_m_operands A_m_operators A_m_functions A_m_output A_m_tasks A_m_forms A_m_formLength A_m_row A_m_statuses A_m_outcomes A_m_heights : Nat) (sz : Nat) (m_length : Int32) (m_tokens : Int32) (m_newTokens : Int32) (m_nodes : Int32) (m_sums : Int32) (m_links : Int32) (m_operandMany : Int32) (m_operatorMany : Int32) (m_status : Int32) (m_outcome : Int64) (m_outputLength : Int32) (m_taskMany : Int32) (m_token : Int32) (m_tokenAmount : Int32) (m_ahead : Int32) (m_depth : Int32) (m_linkMany : Int32) (m_isRange : Int32) (m_primes : Int32) (m_text : Nat → Int32) (x1 : Int32) {rs : Int32 × Int32 × (Nat → Int32)} (hM : fn_Ref_append m_length m_text x1 = some rs) : Met l yX12_append wsX12_append ({ frames := 1, cells := 0, slots := 0, locals := 25 } : Room) (zP D cI cJ cC adK adV [.ref A_m, .int x1] sz [(A_m, .inr (11, (.int m_length :: .ref A_m_text :: .int m_tokens :: .ref A_m_kind :: .ref A_m_amount :: .int m_newTokens :: .ref A_m_newKind :: .ref A_m_newAmount :: .ref A_m_variable :: .int m_nodes :: .ref A_m_sort :: .ref A_m_left :: .ref A_m_right :: .ref A_m_what :: .ref A_m_result :: .int m_sums :: .ref A_m_root :: .int m_links :: .ref A_m_relation :: .ref A_m_operands :: .int m_operandMany :: .ref A_m_operators :: .ref A_m_functions :: .int m_operatorMany :: .int m_status :: .long m_outcome :: .ref A_m_output :: .int m_outputLength :: .ref A_m_tasks :: .int m_taskMany :: .ref A_m_forms :: .ref A_m_formLength :: .int m_token :: .int m_tokenAmount :: .int m_ahead :: .int m_depth :: .int m_linkMany :: .int m_isRange :: .int m_primes :: .ref A_m_row :: .ref A_m_statuses :: .ref A_m_outcomes :: .ref A_m_heights :: []))), (A_m_text, .inl (cI, 80, .inl m_text))]) (zQi D cI cJ cC rs.1 [(A_m, .inr (11, (.int rs.2.1 :: .ref A_m_text :: .int m_tokens :: .ref A_m_kind :: .ref A_m_amount :: .int m_newTokens :: .ref A_m_newKind :: .ref A_m_newAmount :: .ref A_m_variable :: .int m_nodes :: .ref A_m_sort :: .ref A_m_left :: .ref A_m_right :: .ref A_m_what :: .ref A_m_result :: .int m_sums :: .ref A_m_root :: .int m_links :: .ref A_m_relation :: .ref A_m_operands :: .int m_operandMany :: .ref A_m_operators :: .ref A_m_functions :: .int m_operatorMany :: .int m_status :: .long m_outcome :: .ref A_m_output :: .int m_outputLength :: .ref A_m_tasks :: .int m_taskMany :: .ref A_m_forms :: .ref A_m_formLength :: .int m_token :: .int m_tokenAmount :: .int m_ahead :: .int m_depth :: .int m_linkMany :: .int m_isRange :: .int m_primes :: .ref A_m_row :: .ref A_m_statuses :: .ref A_m_outcomes :: .ref A_m_heights :: []))), (A_m_text, .inl (cI, 80, .inl rs.2.2))] (va_A [(A_m, .inr (11, (.int m_length :: .ref A_m_text :: .int m_tokens :: .ref A_m_kind :: .ref A_m_amount :: .int m_newTokens :: .ref A_m_newKind :: .ref A_m_newAmount :: .ref A_m_variable :: .int m_nodes :: .ref A_m_sort :: .ref A_m_left :: .ref A_m_right :: .ref A_m_what :: .ref A_m_result :: .int m_sums :: .ref A_m_root :: .int m_links :: .ref A_m_relation :: .ref A_m_operands :: .int m_operandMany :: .ref A_m_operators :: .ref A_m_functions :: .int m_operatorMany :: .int m_status :: .long m_outcome :: .ref A_m_output :: .int m_outputLength :: .ref A_m_tasks :: .int m_taskMany :: .ref A_m_forms :: .ref A_m_formLength :: .int m_token :: .int m_tokenAmount :: .int m_ahead :: .int m_depth :: .int m_linkMany :: .int m_isRange :: .int m_primes :: .ref A_m_row :: .ref A_m_statuses :: .ref A_m_outcomes :: .ref A_m_heights :: []))), (A_m_text, .inl (cI, 80, .inl m_text))] sz)) 0 0 (va_A [(A_m, .inr (11, (.int m_length :: .ref A_m_text :: .int m_tokens :: .ref A_m_kind :: .ref A_m_amount :: .int m_newTokens :: .ref A_m_newKind :: .ref A_m_newAmount :: .ref A_m_variable :: .int m_nodes :: .ref A_m_sort :: .ref A_m_left :: .ref A_m_right :: .ref A_m_what :: .ref A_m_result :: .int m_sums :: .ref A_m_root :: .int m_links :: .ref A_m_relation :: .ref A_m_operands :: .int m_operandMany :: .ref A_m_operators :: .ref A_m_functions :: .int m_operatorMany :: .int m_status :: .long m_outcome :: .ref A_m_output :: .int m_outputLength :: .ref A_m_tasks :: .int m_taskMany :: .ref A_m_forms :: .ref A_m_formLength :: .int m_token :: .int m_tokenAmount :: .int m_ahead :: .int m_depth :: .int m_linkMany :: .int m_isRange :: .int m_primes :: .ref A_m_row :: .ref A_m_statuses :: .ref A_m_outcomes :: .ref A_m_heights :: []))), (A_m_text, .inl (cI, 80, .inl m_text))] sz) := by
  refine Met.ofW (cc := cX12_append) (maxL := 2) (ret := (some .int)) (by decide) rfl ?_
  intro p e s m args below meth c s₁ B hml hv0
  obtain ⟨hargs, hsz, hP, hK, hD0, hX⟩ := hv0
  have hx := B.exec
  have hb := B.bytes
  have hr := B.returns
  have hts := atoms_spec (ws := wsX12_append) B.pre
  have hown : s.vm.findClass RX12 = some m.cls := findClass_of_methodNamed B.named
  have hlocks := B.notSynchronized
  subst hsz
  have hD := hD0.self (sz := s.heap.size)
  generalize hAe : va_A [(A_m, .inr (11, (.int m_length :: .ref A_m_text :: .int m_tokens :: .ref A_m_kind :: .ref A_m_amount :: .int m_newTokens :: .ref A_m_newKind :: .ref A_m_newAmount :: .ref A_m_variable :: .int m_nodes :: .ref A_m_sort :: .ref A_m_left :: .ref A_m_right :: .ref A_m_what :: .ref A_m_result :: .int m_sums :: .ref A_m_root :: .int m_links :: .ref A_m_relation :: .ref A_m_operands :: .int m_operandMany :: .ref A_m_operators :: .ref A_m_functions :: .int m_operatorMany :: .int m_status :: .long m_outcome :: .ref A_m_output :: .int m_outputLength :: .ref A_m_tasks :: .int m_taskMany :: .ref A_m_forms :: .ref A_m_formLength :: .int m_token :: .int m_tokenAmount :: .int m_ahead :: .int m_depth :: .int m_linkMany :: .int m_isRange :: .int m_primes :: .ref A_m_row :: .ref A_m_statuses :: .ref A_m_outcomes :: .ref A_m_heights :: []))), (A_m_text, .inl (cI, 80, .inl m_text))] s.heap.size = A at hD hX ⊢
  have hA : ∀ q : Nat, s.heap.size ≤ q → A q := fun q h => by rw [← hAe]; exact Or.inr h
  have hS : va_S A s.heap s.heap [] := va_S.rf
  have hl := lv_entry ([.ref A_m, .int x1]) (n := 2) (Nat.le_of_ble_eq_true rfl)
  rw [hargs, lg_entry_eq, ← hargs]
  generalize (lg_sl ([.ref A_m, .int x1]) ++ List.replicate (2 - (lg_sl ([.ref A_m, .int x1])).length) Slot.unset).toArray = ls at hl ⊢
  have hl : lv_has ls 2 [(0, .ref A_m), (1, .int x1)] := hl
  have hw0 : ∀ w ∈ u_ws RX12 TX12 43, w ∈ wsX12_append := by decide +kernel
  have hw1 := hts (.fieldLink RX12 95 "NotationParserModel" "length" "I") (by decide +kernel)
  have hw2 := hts (.fieldLink RX12 7 "NotationParserModel" "text" "[I") (by decide +kernel)
  refine lv_iload_n hx hb dX12_append_0 rfl (lv_at hl 1 rfl) ?_
  refine lv_i2l hx hb dX12_append_1 rfl ?_
  refine lv_ldc2 hx hb hown (hts (.constantLong RX12 87 32) (by decide +kernel)) dX12_append_2 ?_
  refine lv_ldc2 hx hb hown (hts (.constantLong RX12 89 126) (by decide +kernel)) dX12_append_5 ?_
  obtain ⟨hPc, hDc, hFc⟩ := zcut (wc := []) hP hD hS hA [] rfl rfl (by decide)
  refine zc_i (ws' := [(A_m, .inr (11, (.int m_length :: .ref A_m_text :: .int m_tokens :: .ref A_m_kind :: .ref A_m_amount :: .int m_newTokens :: .ref A_m_newKind :: .ref A_m_newAmount :: .ref A_m_variable :: .int m_nodes :: .ref A_m_sort :: .ref A_m_left :: .ref A_m_right :: .ref A_m_what :: .ref A_m_result :: .int m_sums :: .ref A_m_root :: .int m_links :: .ref A_m_relation :: .ref A_m_operands :: .int m_operandMany :: .ref A_m_operators :: .ref A_m_functions :: .int m_operatorMany :: .int m_status :: .long m_outcome :: .ref A_m_output :: .int m_outputLength :: .ref A_m_tasks :: .int m_taskMany :: .ref A_m_forms :: .ref A_m_formLength :: .int m_token :: .int m_tokenAmount :: .int m_ahead :: .int m_depth :: .int m_linkMany :: .int m_isRange :: .int m_primes :: .ref A_m_row :: .ref A_m_statuses :: .ref A_m_outcomes :: .ref A_m_heights :: []))), (A_m_text, .inl (cI, 80, .inl m_text))]) (va_runS (As := [.long (x1).toInt64, .long 32, .long 126]) (rest := []) ⟨hx, hb, hml, hown, hts⟩ (ct_Ref_in l D cI cJ cC adK adV s.heap.size (x1).toInt64 32 126) (va_cwS 3 hts gX12_append_X12_in rfl rfl rfl (by decide +kernel) ⟨Nat.le_of_ble_eq_true rfl, Nat.le_of_ble_eq_true rfl⟩) ⟨zblind, zpre hX hS hFc hPc hK hDc⟩ rfl rfl hl.1 rfl (lv_room (Nat.le_of_ble_eq_true rfl)) dX12_append_8 ⟨Nat.zero_le _, Nat.zero_le _⟩) hP hD hS hFc [] rfl (by decide) rfl rfl (fun H2 locs hP hD hS => ?_)
  refine lv_if_ne (tgt := 16) hx hb dX12_append_11 (by decide) (fun c3 => ?_) (fun c3 => ?_)
  · have hM := z_f c3 hM
    refine lv_aload_n hx hb dX12_append_16 rfl (lv_at hl 0 rfl) ?_
    refine va_get (D := D) (ci := 11) (v := .int m_length) (C := RX12) (T := TX12) (N := 43) hx hb hts hw0 hown hK hP 0 rfl rfl 0 (by decide) hw1 (fun _ h9 => h9) rfl dX12_append_17 ?_
    refine lv_bipush (v := 80) hx hb dX12_append_20 (by decide) ?_
    refine lv_icmp_ne (tgt := 28) hx hb dX12_append_22 (by decide) (fun c4 => ?_) (fun c4 => ?_)
    · have hM := z_f c4 hM
      refine lv_aload_n hx hb dX12_append_28 rfl (lv_at hl 0 rfl) ?_
      refine va_get (D := D) (ci := 11) (v := .ref A_m_text) (C := RX12) (T := TX12) (N := 43) hx hb hts hw0 hown hK hP 0 rfl rfl 1 (by decide) hw2 (fun _ h9 => h9) rfl dX12_append_29 ?_
      refine lv_aload_n hx hb dX12_append_32 rfl (lv_at hl 0 rfl) ?_
      refine va_get (D := D) (ci := 11) (v := .int m_length) (C := RX12) (T := TX12) (N := 43) hx hb hts hw0 hown hK hP 0 rfl rfl 0 (by decide) hw1 (fun _ h9 => h9) rfl dX12_append_33 ?_
      refine lv_iload_n hx hb dX12_append_36 rfl (lv_at hl 1 rfl) ?_
      obtain ⟨g5, hM⟩ := z_g hM
      refine va_iast hx hb hK hP hD hS 1 0 rfl rfl g5 dX12_append_37 (fun H6 locs hP hD hS => ?_)
      have hP : va_P D vwCl [(A_m, .inr (11, (.int m_length :: .ref A_m_text :: .int m_tokens :: .ref A_m_kind :: .ref A_m_amount :: .int m_newTokens :: .ref A_m_newKind :: .ref A_m_newAmount :: .ref A_m_variable :: .int m_nodes :: .ref A_m_sort :: .ref A_m_left :: .ref A_m_right :: .ref A_m_what :: .ref A_m_result :: .int m_sums :: .ref A_m_root :: .int m_links :: .ref A_m_relation :: .ref A_m_operands :: .int m_operandMany :: .ref A_m_operators :: .ref A_m_functions :: .int m_operatorMany :: .int m_status :: .long m_outcome :: .ref A_m_output :: .int m_outputLength :: .ref A_m_tasks :: .int m_taskMany :: .ref A_m_forms :: .ref A_m_formLength :: .int m_token :: .int m_tokenAmount :: .int m_ahead :: .int m_depth :: .int m_linkMany :: .int m_isRange :: .int m_primes :: .ref A_m_row :: .ref A_m_statuses :: .ref A_m_outcomes :: .ref A_m_heights :: []))), (A_m_text, .inl (cI, 80, .inl (upd m_text m_length.toNatClampNeg x1)))] H6 := hP
      have hD : va_D A [(A_m, .inr (11, (.int m_length :: .ref A_m_text :: .int m_tokens :: .ref A_m_kind :: .ref A_m_amount :: .int m_newTokens :: .ref A_m_newKind :: .ref A_m_newAmount :: .ref A_m_variable :: .int m_nodes :: .ref A_m_sort :: .ref A_m_left :: .ref A_m_right :: .ref A_m_what :: .ref A_m_result :: .int m_sums :: .ref A_m_root :: .int m_links :: .ref A_m_relation :: .ref A_m_operands :: .int m_operandMany :: .ref A_m_operators :: .ref A_m_functions :: .int m_operatorMany :: .int m_status :: .long m_outcome :: .ref A_m_output :: .int m_outputLength :: .ref A_m_tasks :: .int m_taskMany :: .ref A_m_forms :: .ref A_m_formLength :: .int m_token :: .int m_tokenAmount :: .int m_ahead :: .int m_depth :: .int m_linkMany :: .int m_isRange :: .int m_primes :: .ref A_m_row :: .ref A_m_statuses :: .ref A_m_outcomes :: .ref A_m_heights :: []))), (A_m_text, .inl (cI, 80, .inl (upd m_text m_length.toNatClampNeg x1)))] := hD
      refine lv_aload_n hx hb dX12_append_38 rfl (lv_at hl 0 rfl) ?_
      refine lv_dup hx hb dX12_append_39 rfl ?_
      refine va_get (D := D) (ci := 11) (v := .int m_length) (C := RX12) (T := TX12) (N := 43) hx hb hts hw0 hown hK hP 0 rfl rfl 0 (by decide) hw1 (fun _ h9 => h9) rfl dX12_append_40 ?_
      refine lv_iconst (v := 1) hx hb dX12_append_43 (by decide) ?_
      refine lv_iadd hx hb dX12_append_44 ?_
      refine va_put (D := D) (ci := 11) (v := .int (m_length + 1)) (ty := .int) (C := RX12) (T := TX12) (N := 43) hx hb hts hw0 tyX12 tyX12_ok nmX12 hown hK hP hD hS 0 rfl rfl 0 (by decide) hw1 (fun _ h9 => h9) rfl (by decide +kernel) rfl rfl (Nat.le_of_ble_eq_true rfl) dX12_append_45 (fun H7 locs hP hD hS => ?_)
      have hP : va_P D vwCl [(A_m, .inr (11, (.int (m_length + 1) :: .ref A_m_text :: .int m_tokens :: .ref A_m_kind :: .ref A_m_amount :: .int m_newTokens :: .ref A_m_newKind :: .ref A_m_newAmount :: .ref A_m_variable :: .int m_nodes :: .ref A_m_sort :: .ref A_m_left :: .ref A_m_right :: .ref A_m_what :: .ref A_m_result :: .int m_sums :: .ref A_m_root :: .int m_links :: .ref A_m_relation :: .ref A_m_operands :: .int m_operandMany :: .ref A_m_operators :: .ref A_m_functions :: .int m_operatorMany :: .int m_status :: .long m_outcome :: .ref A_m_output :: .int m_outputLength :: .ref A_m_tasks :: .int m_taskMany :: .ref A_m_forms :: .ref A_m_formLength :: .int m_token :: .int m_tokenAmount :: .int m_ahead :: .int m_depth :: .int m_linkMany :: .int m_isRange :: .int m_primes :: .ref A_m_row :: .ref A_m_statuses :: .ref A_m_outcomes :: .ref A_m_heights :: []))), (A_m_text, .inl (cI, 80, .inl (upd m_text m_length.toNatClampNeg x1)))] H7 := hP
      have hD : va_D A [(A_m, .inr (11, (.int (m_length + 1) :: .ref A_m_text :: .int m_tokens :: .ref A_m_kind :: .ref A_m_amount :: .int m_newTokens :: .ref A_m_newKind :: .ref A_m_newAmount :: .ref A_m_variable :: .int m_nodes :: .ref A_m_sort :: .ref A_m_left :: .ref A_m_right :: .ref A_m_what :: .ref A_m_result :: .int m_sums :: .ref A_m_root :: .int m_links :: .ref A_m_relation :: .ref A_m_operands :: .int m_operandMany :: .ref A_m_operators :: .ref A_m_functions :: .int m_operatorMany :: .int m_status :: .long m_outcome :: .ref A_m_output :: .int m_outputLength :: .ref A_m_tasks :: .int m_taskMany :: .ref A_m_forms :: .ref A_m_formLength :: .int m_token :: .int m_tokenAmount :: .int m_ahead :: .int m_depth :: .int m_linkMany :: .int m_isRange :: .int m_primes :: .ref A_m_row :: .ref A_m_statuses :: .ref A_m_outcomes :: .ref A_m_heights :: []))), (A_m_text, .inl (cI, 80, .inl (upd m_text m_length.toNatClampNeg x1)))] := hD
      refine lv_aload_n hx hb dX12_append_48 rfl (lv_at hl 0 rfl) ?_
      refine va_get (D := D) (ci := 11) (v := .int (m_length + 1)) (C := RX12) (T := TX12) (N := 43) hx hb hts hw0 hown hK hP 0 rfl rfl 0 (by decide) hw1 (fun _ h9 => h9) rfl dX12_append_49 ?_
      have hM := Option.some.inj hM
      subst hM
      exact W.iret (v := (m_length + 1)) hx hb hr (fun t ht hW => ⟨⟨_, (), rfl, rfl, ⟨by rw [ht]; exact hP, va_K.moved hW.alike hK, hD⟩⟩, hS.F ht⟩) hS.2.2 dX12_append_52
    · have hM := z_t c4 hM
      refine lv_bipush (v := (-4)) hx hb dX12_append_25 (by decide) ?_
      have hM := Option.some.inj hM
      subst hM
      exact W.iret (v := (-4)) hx hb hr (fun t ht hW => ⟨⟨_, (), rfl, rfl, ⟨by rw [ht]; exact hP, va_K.moved hW.alike hK, hD⟩⟩, hS.F ht⟩) hS.2.2 dX12_append_27
  · have hM := z_t c3 hM
    refine lv_iconst (v := (-1)) hx hb dX12_append_14 (by decide) ?_
    have hM := Option.some.inj hM
    subst hM
    exact W.iret (v := (-1)) hx hb hr (fun t ht hW => ⟨⟨_, (), rfl, rfl, ⟨by rw [ht]; exact hP, va_K.moved hW.alike hK, hD⟩⟩, hS.F ht⟩) hS.2.2 dX12_append_15
def fn_Ref_clearText (m_length : Int32) : Int32 × Int32 := (m_length, 0)
set_option maxHeartbeats 40000000 in
set_option maxRecDepth 100000 in
theorem ct_Ref_clearText (l : Launch) (D : va_G) (cI cJ cC : ClassId) (adK adV : Nat → Nat) (A_m A_m_text A_m_kind A_m_amount A_m_newKind A_m_newAmount A_m_variable A_m_sort A_m_left A_m_right A_m_what A_m_result A_m_root A_m_relation A_m_operands A_m_operators A_m_functions A_m_output A_m_tasks A_m_forms A_m_formLength A_m_row A_m_statuses A_m_outcomes A_m_heights : Nat) (sz : Nat) (m_length : Int32) (m_tokens : Int32) (m_newTokens : Int32) (m_nodes : Int32) (m_sums : Int32) (m_links : Int32) (m_operandMany : Int32) (m_operatorMany : Int32) (m_status : Int32) (m_outcome : Int64) (m_outputLength : Int32) (m_taskMany : Int32) (m_token : Int32) (m_tokenAmount : Int32) (m_ahead : Int32) (m_depth : Int32) (m_linkMany : Int32) (m_isRange : Int32) (m_primes : Int32) : Met l yX12_clearText wsX12_clearText ({ frames := 0, cells := 0, slots := 0, locals := 0 } : Room) (zP D cI cJ cC adK adV [.ref A_m] sz [(A_m, .inr (11, (.int m_length :: .ref A_m_text :: .int m_tokens :: .ref A_m_kind :: .ref A_m_amount :: .int m_newTokens :: .ref A_m_newKind :: .ref A_m_newAmount :: .ref A_m_variable :: .int m_nodes :: .ref A_m_sort :: .ref A_m_left :: .ref A_m_right :: .ref A_m_what :: .ref A_m_result :: .int m_sums :: .ref A_m_root :: .int m_links :: .ref A_m_relation :: .ref A_m_operands :: .int m_operandMany :: .ref A_m_operators :: .ref A_m_functions :: .int m_operatorMany :: .int m_status :: .long m_outcome :: .ref A_m_output :: .int m_outputLength :: .ref A_m_tasks :: .int m_taskMany :: .ref A_m_forms :: .ref A_m_formLength :: .int m_token :: .int m_tokenAmount :: .int m_ahead :: .int m_depth :: .int m_linkMany :: .int m_isRange :: .int m_primes :: .ref A_m_row :: .ref A_m_statuses :: .ref A_m_outcomes :: .ref A_m_heights :: [])))]) (zQi D cI cJ cC (fn_Ref_clearText m_length).1 [(A_m, .inr (11, (.int (fn_Ref_clearText m_length).2 :: .ref A_m_text :: .int m_tokens :: .ref A_m_kind :: .ref A_m_amount :: .int m_newTokens :: .ref A_m_newKind :: .ref A_m_newAmount :: .ref A_m_variable :: .int m_nodes :: .ref A_m_sort :: .ref A_m_left :: .ref A_m_right :: .ref A_m_what :: .ref A_m_result :: .int m_sums :: .ref A_m_root :: .int m_links :: .ref A_m_relation :: .ref A_m_operands :: .int m_operandMany :: .ref A_m_operators :: .ref A_m_functions :: .int m_operatorMany :: .int m_status :: .long m_outcome :: .ref A_m_output :: .int m_outputLength :: .ref A_m_tasks :: .int m_taskMany :: .ref A_m_forms :: .ref A_m_formLength :: .int m_token :: .int m_tokenAmount :: .int m_ahead :: .int m_depth :: .int m_linkMany :: .int m_isRange :: .int m_primes :: .ref A_m_row :: .ref A_m_statuses :: .ref A_m_outcomes :: .ref A_m_heights :: [])))] (va_A [(A_m, .inr (11, (.int m_length :: .ref A_m_text :: .int m_tokens :: .ref A_m_kind :: .ref A_m_amount :: .int m_newTokens :: .ref A_m_newKind :: .ref A_m_newAmount :: .ref A_m_variable :: .int m_nodes :: .ref A_m_sort :: .ref A_m_left :: .ref A_m_right :: .ref A_m_what :: .ref A_m_result :: .int m_sums :: .ref A_m_root :: .int m_links :: .ref A_m_relation :: .ref A_m_operands :: .int m_operandMany :: .ref A_m_operators :: .ref A_m_functions :: .int m_operatorMany :: .int m_status :: .long m_outcome :: .ref A_m_output :: .int m_outputLength :: .ref A_m_tasks :: .int m_taskMany :: .ref A_m_forms :: .ref A_m_formLength :: .int m_token :: .int m_tokenAmount :: .int m_ahead :: .int m_depth :: .int m_linkMany :: .int m_isRange :: .int m_primes :: .ref A_m_row :: .ref A_m_statuses :: .ref A_m_outcomes :: .ref A_m_heights :: [])))] sz)) 0 0 (va_A [(A_m, .inr (11, (.int m_length :: .ref A_m_text :: .int m_tokens :: .ref A_m_kind :: .ref A_m_amount :: .int m_newTokens :: .ref A_m_newKind :: .ref A_m_newAmount :: .ref A_m_variable :: .int m_nodes :: .ref A_m_sort :: .ref A_m_left :: .ref A_m_right :: .ref A_m_what :: .ref A_m_result :: .int m_sums :: .ref A_m_root :: .int m_links :: .ref A_m_relation :: .ref A_m_operands :: .int m_operandMany :: .ref A_m_operators :: .ref A_m_functions :: .int m_operatorMany :: .int m_status :: .long m_outcome :: .ref A_m_output :: .int m_outputLength :: .ref A_m_tasks :: .int m_taskMany :: .ref A_m_forms :: .ref A_m_formLength :: .int m_token :: .int m_tokenAmount :: .int m_ahead :: .int m_depth :: .int m_linkMany :: .int m_isRange :: .int m_primes :: .ref A_m_row :: .ref A_m_statuses :: .ref A_m_outcomes :: .ref A_m_heights :: [])))] sz) := by
  obtain ⟨rs, hM⟩ : ∃ rs, fn_Ref_clearText m_length = rs := ⟨_, rfl⟩
  rw [hM]
  refine Met.ofW (cc := cX12_clearText) (maxL := 2) (ret := (some .int)) (by decide) rfl ?_
  intro p e s m args below meth c s₁ B hml hv0
  obtain ⟨hargs, hsz, hP, hK, hD0, hX⟩ := hv0
  have hx := B.exec
  have hb := B.bytes
  have hr := B.returns
  have hts := atoms_spec (ws := wsX12_clearText) B.pre
  have hown : s.vm.findClass RX12 = some m.cls := findClass_of_methodNamed B.named
  have hlocks := B.notSynchronized
  subst hsz
  have hD := hD0.self (sz := s.heap.size)
  generalize hAe : va_A [(A_m, .inr (11, (.int m_length :: .ref A_m_text :: .int m_tokens :: .ref A_m_kind :: .ref A_m_amount :: .int m_newTokens :: .ref A_m_newKind :: .ref A_m_newAmount :: .ref A_m_variable :: .int m_nodes :: .ref A_m_sort :: .ref A_m_left :: .ref A_m_right :: .ref A_m_what :: .ref A_m_result :: .int m_sums :: .ref A_m_root :: .int m_links :: .ref A_m_relation :: .ref A_m_operands :: .int m_operandMany :: .ref A_m_operators :: .ref A_m_functions :: .int m_operatorMany :: .int m_status :: .long m_outcome :: .ref A_m_output :: .int m_outputLength :: .ref A_m_tasks :: .int m_taskMany :: .ref A_m_forms :: .ref A_m_formLength :: .int m_token :: .int m_tokenAmount :: .int m_ahead :: .int m_depth :: .int m_linkMany :: .int m_isRange :: .int m_primes :: .ref A_m_row :: .ref A_m_statuses :: .ref A_m_outcomes :: .ref A_m_heights :: [])))] s.heap.size = A at hD hX ⊢
  have hA : ∀ q : Nat, s.heap.size ≤ q → A q := fun q h => by rw [← hAe]; exact Or.inr h
  have hS : va_S A s.heap s.heap [] := va_S.rf
  have hl := lv_entry ([.ref A_m]) (n := 2) (Nat.le_of_ble_eq_true rfl)
  rw [hargs, lg_entry_eq, ← hargs]
  generalize (lg_sl ([.ref A_m]) ++ List.replicate (2 - (lg_sl ([.ref A_m])).length) Slot.unset).toArray = ls at hl ⊢
  have hl : lv_has ls 2 [(0, .ref A_m)] := hl
  have hw0 : ∀ w ∈ u_ws RX12 TX12 43, w ∈ wsX12_clearText := by decide +kernel
  have hw1 := hts (.fieldLink RX12 95 "NotationParserModel" "length" "I") (by decide +kernel)
  refine lv_aload_n hx hb dX12_clearText_0 rfl (lv_at hl 0 rfl) ?_
  refine va_get (D := D) (ci := 11) (v := .int m_length) (C := RX12) (T := TX12) (N := 43) hx hb hts hw0 hown hK hP 0 rfl rfl 0 (by decide) hw1 (fun _ h9 => h9) rfl dX12_clearText_1 ?_
  refine lv_istore_n (lv' := [(1, .int m_length), (0, .ref A_m)]) hx hb dX12_clearText_4 rfl hl (by decide) rfl (fun ls hl => ?_)
  refine lv_aload_n hx hb dX12_clearText_5 rfl (lv_at hl 1 rfl) ?_
  refine lv_iconst (v := 0) hx hb dX12_clearText_6 (by decide) ?_
  refine va_put (D := D) (ci := 11) (v := .int 0) (ty := .int) (C := RX12) (T := TX12) (N := 43) hx hb hts hw0 tyX12 tyX12_ok nmX12 hown hK hP hD hS 0 rfl rfl 0 (by decide) hw1 (fun _ h9 => h9) rfl (by decide +kernel) rfl rfl (Nat.le_of_ble_eq_true rfl) dX12_clearText_7 (fun H1 locs hP hD hS => ?_)
  have hP : va_P D vwCl [(A_m, .inr (11, (.int 0 :: .ref A_m_text :: .int m_tokens :: .ref A_m_kind :: .ref A_m_amount :: .int m_newTokens :: .ref A_m_newKind :: .ref A_m_newAmount :: .ref A_m_variable :: .int m_nodes :: .ref A_m_sort :: .ref A_m_left :: .ref A_m_right :: .ref A_m_what :: .ref A_m_result :: .int m_sums :: .ref A_m_root :: .int m_links :: .ref A_m_relation :: .ref A_m_operands :: .int m_operandMany :: .ref A_m_operators :: .ref A_m_functions :: .int m_operatorMany :: .int m_status :: .long m_outcome :: .ref A_m_output :: .int m_outputLength :: .ref A_m_tasks :: .int m_taskMany :: .ref A_m_forms :: .ref A_m_formLength :: .int m_token :: .int m_tokenAmount :: .int m_ahead :: .int m_depth :: .int m_linkMany :: .int m_isRange :: .int m_primes :: .ref A_m_row :: .ref A_m_statuses :: .ref A_m_outcomes :: .ref A_m_heights :: [])))] H1 := hP
  have hD : va_D A [(A_m, .inr (11, (.int 0 :: .ref A_m_text :: .int m_tokens :: .ref A_m_kind :: .ref A_m_amount :: .int m_newTokens :: .ref A_m_newKind :: .ref A_m_newAmount :: .ref A_m_variable :: .int m_nodes :: .ref A_m_sort :: .ref A_m_left :: .ref A_m_right :: .ref A_m_what :: .ref A_m_result :: .int m_sums :: .ref A_m_root :: .int m_links :: .ref A_m_relation :: .ref A_m_operands :: .int m_operandMany :: .ref A_m_operators :: .ref A_m_functions :: .int m_operatorMany :: .int m_status :: .long m_outcome :: .ref A_m_output :: .int m_outputLength :: .ref A_m_tasks :: .int m_taskMany :: .ref A_m_forms :: .ref A_m_formLength :: .int m_token :: .int m_tokenAmount :: .int m_ahead :: .int m_depth :: .int m_linkMany :: .int m_isRange :: .int m_primes :: .ref A_m_row :: .ref A_m_statuses :: .ref A_m_outcomes :: .ref A_m_heights :: [])))] := hD
  refine lv_iload_n hx hb dX12_clearText_10 rfl (lv_at hl 0 rfl) ?_
  have hM := hM
  subst hM
  exact W.iret (v := m_length) hx hb hr (fun t ht hW => ⟨⟨_, (), rfl, rfl, ⟨by rw [ht]; exact hP, va_K.moved hW.alike hK, hD⟩⟩, hS.F ht⟩) hS.2.2 dX12_clearText_11
def fn_Ref_at (m_length : Int32) (m_text : Nat → Int32) (x1 : Int32) : Option (Int32) := (if m_length ≤ x1 then some 0 else (if (x1 < 0 ∨ 80 ≤ x1.toNatClampNeg) then none else some (m_text x1.toNatClampNeg)))
set_option maxHeartbeats 40000000 in
set_option maxRecDepth 100000 in
theorem ct_Ref_at (l : Launch) (D : va_G) (cI cJ cC : ClassId) (adK adV : Nat → Nat) (A_m A_m_text A_m_kind A_m_amount A_m_newKind A_m_newAmount A_m_variable A_m_sort A_m_left A_m_right A_m_what A_m_result A_m_root A_m_relation A_m_operands A_m_operators A_m_functions A_m_output A_m_tasks A_m_forms A_m_formLength A_m_row A_m_statuses A_m_outcomes A_m_heights : Nat) (sz : Nat) (m_length : Int32) (m_tokens : Int32) (m_newTokens : Int32) (m_nodes : Int32) (m_sums : Int32) (m_links : Int32) (m_operandMany : Int32) (m_operatorMany : Int32) (m_status : Int32) (m_outcome : Int64) (m_outputLength : Int32) (m_taskMany : Int32) (m_token : Int32) (m_tokenAmount : Int32) (m_ahead : Int32) (m_depth : Int32) (m_linkMany : Int32) (m_isRange : Int32) (m_primes : Int32) (m_text : Nat → Int32) (x1 : Int32) {rs : Int32} (hM : fn_Ref_at m_length m_text x1 = some rs) : Met l yX12_at wsX12_at ({ frames := 0, cells := 0, slots := 0, locals := 0 } : Room) (zP D cI cJ cC adK adV [.ref A_m, .int x1] sz [(A_m, .inr (11, (.int m_length :: .ref A_m_text :: .int m_tokens :: .ref A_m_kind :: .ref A_m_amount :: .int m_newTokens :: .ref A_m_newKind :: .ref A_m_newAmount :: .ref A_m_variable :: .int m_nodes :: .ref A_m_sort :: .ref A_m_left :: .ref A_m_right :: .ref A_m_what :: .ref A_m_result :: .int m_sums :: .ref A_m_root :: .int m_links :: .ref A_m_relation :: .ref A_m_operands :: .int m_operandMany :: .ref A_m_operators :: .ref A_m_functions :: .int m_operatorMany :: .int m_status :: .long m_outcome :: .ref A_m_output :: .int m_outputLength :: .ref A_m_tasks :: .int m_taskMany :: .ref A_m_forms :: .ref A_m_formLength :: .int m_token :: .int m_tokenAmount :: .int m_ahead :: .int m_depth :: .int m_linkMany :: .int m_isRange :: .int m_primes :: .ref A_m_row :: .ref A_m_statuses :: .ref A_m_outcomes :: .ref A_m_heights :: []))), (A_m_text, .inl (cI, 80, .inl m_text))]) (zQi D cI cJ cC rs [(A_m, .inr (11, (.int m_length :: .ref A_m_text :: .int m_tokens :: .ref A_m_kind :: .ref A_m_amount :: .int m_newTokens :: .ref A_m_newKind :: .ref A_m_newAmount :: .ref A_m_variable :: .int m_nodes :: .ref A_m_sort :: .ref A_m_left :: .ref A_m_right :: .ref A_m_what :: .ref A_m_result :: .int m_sums :: .ref A_m_root :: .int m_links :: .ref A_m_relation :: .ref A_m_operands :: .int m_operandMany :: .ref A_m_operators :: .ref A_m_functions :: .int m_operatorMany :: .int m_status :: .long m_outcome :: .ref A_m_output :: .int m_outputLength :: .ref A_m_tasks :: .int m_taskMany :: .ref A_m_forms :: .ref A_m_formLength :: .int m_token :: .int m_tokenAmount :: .int m_ahead :: .int m_depth :: .int m_linkMany :: .int m_isRange :: .int m_primes :: .ref A_m_row :: .ref A_m_statuses :: .ref A_m_outcomes :: .ref A_m_heights :: []))), (A_m_text, .inl (cI, 80, .inl m_text))] (va_A [(A_m, .inr (11, (.int m_length :: .ref A_m_text :: .int m_tokens :: .ref A_m_kind :: .ref A_m_amount :: .int m_newTokens :: .ref A_m_newKind :: .ref A_m_newAmount :: .ref A_m_variable :: .int m_nodes :: .ref A_m_sort :: .ref A_m_left :: .ref A_m_right :: .ref A_m_what :: .ref A_m_result :: .int m_sums :: .ref A_m_root :: .int m_links :: .ref A_m_relation :: .ref A_m_operands :: .int m_operandMany :: .ref A_m_operators :: .ref A_m_functions :: .int m_operatorMany :: .int m_status :: .long m_outcome :: .ref A_m_output :: .int m_outputLength :: .ref A_m_tasks :: .int m_taskMany :: .ref A_m_forms :: .ref A_m_formLength :: .int m_token :: .int m_tokenAmount :: .int m_ahead :: .int m_depth :: .int m_linkMany :: .int m_isRange :: .int m_primes :: .ref A_m_row :: .ref A_m_statuses :: .ref A_m_outcomes :: .ref A_m_heights :: []))), (A_m_text, .inl (cI, 80, .inl m_text))] sz)) 0 0 (va_A [(A_m, .inr (11, (.int m_length :: .ref A_m_text :: .int m_tokens :: .ref A_m_kind :: .ref A_m_amount :: .int m_newTokens :: .ref A_m_newKind :: .ref A_m_newAmount :: .ref A_m_variable :: .int m_nodes :: .ref A_m_sort :: .ref A_m_left :: .ref A_m_right :: .ref A_m_what :: .ref A_m_result :: .int m_sums :: .ref A_m_root :: .int m_links :: .ref A_m_relation :: .ref A_m_operands :: .int m_operandMany :: .ref A_m_operators :: .ref A_m_functions :: .int m_operatorMany :: .int m_status :: .long m_outcome :: .ref A_m_output :: .int m_outputLength :: .ref A_m_tasks :: .int m_taskMany :: .ref A_m_forms :: .ref A_m_formLength :: .int m_token :: .int m_tokenAmount :: .int m_ahead :: .int m_depth :: .int m_linkMany :: .int m_isRange :: .int m_primes :: .ref A_m_row :: .ref A_m_statuses :: .ref A_m_outcomes :: .ref A_m_heights :: []))), (A_m_text, .inl (cI, 80, .inl m_text))] sz) := by
  refine Met.ofW (cc := cX12_at) (maxL := 2) (ret := (some .int)) (by decide) rfl ?_
  intro p e s m args below meth c s₁ B hml hv0
  obtain ⟨hargs, hsz, hP, hK, hD0, hX⟩ := hv0
  have hx := B.exec
  have hb := B.bytes
  have hr := B.returns
  have hts := atoms_spec (ws := wsX12_at) B.pre
  have hown : s.vm.findClass RX12 = some m.cls := findClass_of_methodNamed B.named
  have hlocks := B.notSynchronized
  subst hsz
  have hD := hD0.self (sz := s.heap.size)
  generalize hAe : va_A [(A_m, .inr (11, (.int m_length :: .ref A_m_text :: .int m_tokens :: .ref A_m_kind :: .ref A_m_amount :: .int m_newTokens :: .ref A_m_newKind :: .ref A_m_newAmount :: .ref A_m_variable :: .int m_nodes :: .ref A_m_sort :: .ref A_m_left :: .ref A_m_right :: .ref A_m_what :: .ref A_m_result :: .int m_sums :: .ref A_m_root :: .int m_links :: .ref A_m_relation :: .ref A_m_operands :: .int m_operandMany :: .ref A_m_operators :: .ref A_m_functions :: .int m_operatorMany :: .int m_status :: .long m_outcome :: .ref A_m_output :: .int m_outputLength :: .ref A_m_tasks :: .int m_taskMany :: .ref A_m_forms :: .ref A_m_formLength :: .int m_token :: .int m_tokenAmount :: .int m_ahead :: .int m_depth :: .int m_linkMany :: .int m_isRange :: .int m_primes :: .ref A_m_row :: .ref A_m_statuses :: .ref A_m_outcomes :: .ref A_m_heights :: []))), (A_m_text, .inl (cI, 80, .inl m_text))] s.heap.size = A at hD hX ⊢
  have hA : ∀ q : Nat, s.heap.size ≤ q → A q := fun q h => by rw [← hAe]; exact Or.inr h
  have hS : va_S A s.heap s.heap [] := va_S.rf
  have hl := lv_entry ([.ref A_m, .int x1]) (n := 2) (Nat.le_of_ble_eq_true rfl)
  rw [hargs, lg_entry_eq, ← hargs]
  generalize (lg_sl ([.ref A_m, .int x1]) ++ List.replicate (2 - (lg_sl ([.ref A_m, .int x1])).length) Slot.unset).toArray = ls at hl ⊢
  have hl : lv_has ls 2 [(0, .ref A_m), (1, .int x1)] := hl
  have hw0 : ∀ w ∈ u_ws RX12 TX12 43, w ∈ wsX12_at := by decide +kernel
  have hw1 := hts (.fieldLink RX12 95 "NotationParserModel" "length" "I") (by decide +kernel)
  have hw2 := hts (.fieldLink RX12 7 "NotationParserModel" "text" "[I") (by decide +kernel)
  refine lv_iload_n hx hb dX12_at_0 rfl (lv_at hl 1 rfl) ?_
  refine lv_aload_n hx hb dX12_at_1 rfl (lv_at hl 0 rfl) ?_
  refine va_get (D := D) (ci := 11) (v := .int m_length) (C := RX12) (T := TX12) (N := 43) hx hb hts hw0 hown hK hP 0 rfl rfl 0 (by decide) hw1 (fun _ h9 => h9) rfl dX12_at_2 ?_
  refine lv_icmp_ge (tgt := 17) hx hb dX12_at_5 (by decide) (fun c1 => ?_) (fun c1 => ?_)
  · have hM := z_t c1 hM
    refine lv_iconst (v := 0) hx hb dX12_at_17 (by decide) ?_
    have hM := Option.some.inj hM
    subst hM
    exact W.iret (v := 0) hx hb hr (fun t ht hW => ⟨⟨_, (), rfl, rfl, ⟨by rw [ht]; exact hP, va_K.moved hW.alike hK, hD⟩⟩, hS.F ht⟩) hS.2.2 dX12_at_18
  · have hM := z_f c1 hM
    refine lv_aload_n hx hb dX12_at_8 rfl (lv_at hl 0 rfl) ?_
    refine va_get (D := D) (ci := 11) (v := .ref A_m_text) (C := RX12) (T := TX12) (N := 43) hx hb hts hw0 hown hK hP 0 rfl rfl 1 (by decide) hw2 (fun _ h9 => h9) rfl dX12_at_9 ?_
    refine lv_iload_n hx hb dX12_at_12 rfl (lv_at hl 1 rfl) ?_
    obtain ⟨g2, hM⟩ := z_g hM
    refine va_iald hx hb hK hP 1 0 rfl rfl g2 dX12_at_13 ?_
    refine lv_goto (tgt := 18) hx hb dX12_at_14 (by decide) ?_
    have hM := Option.some.inj hM
    subst hM
    exact W.iret (v := (m_text x1.toNatClampNeg)) hx hb hr (fun t ht hW => ⟨⟨_, (), rfl, rfl, ⟨by rw [ht]; exact hP, va_K.moved hW.alike hK, hD⟩⟩, hS.F ht⟩) hS.2.2 dX12_at_18
def fn_Ref_functionAt_b92 (m_length : Int32) (m_text : Nat → Int32) (x2 : Int32) (x3 : Int32) (x4 : Int32) : Option (Int32) := (if x2 = 100 then (if x3 = 98 then (if x4 = 108 then some 3 else some (-3)) else some (-3)) else some (-3))
def fn_Ref_functionAt_b69 (m_length : Int32) (m_text : Nat → Int32) (x2 : Int32) (x3 : Int32) (x4 : Int32) : Option (Int32) := (if x2 = 115 then (if x3 = 113 then (if x4 = 114 then some 2 else fn_Ref_functionAt_b92 m_length m_text x2 x3 x4) else fn_Ref_functionAt_b92 m_length m_text x2 x3 x4) else fn_Ref_functionAt_b92 m_length m_text x2 x3 x4)
def fn_Ref_functionAt_b46 (m_length : Int32) (m_text : Nat → Int32) (x2 : Int32) (x3 : Int32) (x4 : Int32) : Option (Int32) := (if x2 = 115 then (if x3 = 103 then (if x4 = 110 then some 1 else fn_Ref_functionAt_b69 m_length m_text x2 x3 x4) else fn_Ref_functionAt_b69 m_length m_text x2 x3 x4) else fn_Ref_functionAt_b69 m_length m_text x2 x3 x4)
def fn_Ref_functionAt (m_length : Int32) (m_text : Nat → Int32) (x1 : Int32) : Option (Int32) := ((fn_Ref_at m_length m_text x1).bind fun q1 => ((fn_Ref_at m_length m_text (x1 + 1)).bind fun q3 => ((fn_Ref_at m_length m_text (x1 + 2)).bind fun q5 => (if q1 = 97 then (if q3 = 98 then (if q5 = 115 then some 0 else fn_Ref_functionAt_b46 m_length m_text q1 q3 q5) else fn_Ref_functionAt_b46 m_length m_text q1 q3 q5) else fn_Ref_functionAt_b46 m_length m_text q1 q3 q5))))
set_option maxHeartbeats 40000000 in
set_option maxRecDepth 100000 in
theorem ct_Ref_functionAt (l : Launch) (D : va_G) (cI cJ cC : ClassId) (adK adV : Nat → Nat) (A_m A_m_text A_m_kind A_m_amount A_m_newKind A_m_newAmount A_m_variable A_m_sort A_m_left A_m_right A_m_what A_m_result A_m_root A_m_relation A_m_operands A_m_operators A_m_functions A_m_output A_m_tasks A_m_forms A_m_formLength A_m_row A_m_statuses A_m_outcomes A_m_heights : Nat) (sz : Nat) (m_length : Int32) (m_tokens : Int32) (m_newTokens : Int32) (m_nodes : Int32) (m_sums : Int32) (m_links : Int32) (m_operandMany : Int32) (m_operatorMany : Int32) (m_status : Int32) (m_outcome : Int64) (m_outputLength : Int32) (m_taskMany : Int32) (m_token : Int32) (m_tokenAmount : Int32) (m_ahead : Int32) (m_depth : Int32) (m_linkMany : Int32) (m_isRange : Int32) (m_primes : Int32) (m_text : Nat → Int32) (x1 : Int32) {rs : Int32} (hM : fn_Ref_functionAt m_length m_text x1 = some rs) : Met l yX12_functionAt wsX12_functionAt ({ frames := 1, cells := 0, slots := 0, locals := 21 } : Room) (zP D cI cJ cC adK adV [.ref A_m, .int x1] sz [(A_m, .inr (11, (.int m_length :: .ref A_m_text :: .int m_tokens :: .ref A_m_kind :: .ref A_m_amount :: .int m_newTokens :: .ref A_m_newKind :: .ref A_m_newAmount :: .ref A_m_variable :: .int m_nodes :: .ref A_m_sort :: .ref A_m_left :: .ref A_m_right :: .ref A_m_what :: .ref A_m_result :: .int m_sums :: .ref A_m_root :: .int m_links :: .ref A_m_relation :: .ref A_m_operands :: .int m_operandMany :: .ref A_m_operators :: .ref A_m_functions :: .int m_operatorMany :: .int m_status :: .long m_outcome :: .ref A_m_output :: .int m_outputLength :: .ref A_m_tasks :: .int m_taskMany :: .ref A_m_forms :: .ref A_m_formLength :: .int m_token :: .int m_tokenAmount :: .int m_ahead :: .int m_depth :: .int m_linkMany :: .int m_isRange :: .int m_primes :: .ref A_m_row :: .ref A_m_statuses :: .ref A_m_outcomes :: .ref A_m_heights :: []))), (A_m_text, .inl (cI, 80, .inl m_text))]) (zQi D cI cJ cC rs [(A_m, .inr (11, (.int m_length :: .ref A_m_text :: .int m_tokens :: .ref A_m_kind :: .ref A_m_amount :: .int m_newTokens :: .ref A_m_newKind :: .ref A_m_newAmount :: .ref A_m_variable :: .int m_nodes :: .ref A_m_sort :: .ref A_m_left :: .ref A_m_right :: .ref A_m_what :: .ref A_m_result :: .int m_sums :: .ref A_m_root :: .int m_links :: .ref A_m_relation :: .ref A_m_operands :: .int m_operandMany :: .ref A_m_operators :: .ref A_m_functions :: .int m_operatorMany :: .int m_status :: .long m_outcome :: .ref A_m_output :: .int m_outputLength :: .ref A_m_tasks :: .int m_taskMany :: .ref A_m_forms :: .ref A_m_formLength :: .int m_token :: .int m_tokenAmount :: .int m_ahead :: .int m_depth :: .int m_linkMany :: .int m_isRange :: .int m_primes :: .ref A_m_row :: .ref A_m_statuses :: .ref A_m_outcomes :: .ref A_m_heights :: []))), (A_m_text, .inl (cI, 80, .inl m_text))] (va_A [(A_m, .inr (11, (.int m_length :: .ref A_m_text :: .int m_tokens :: .ref A_m_kind :: .ref A_m_amount :: .int m_newTokens :: .ref A_m_newKind :: .ref A_m_newAmount :: .ref A_m_variable :: .int m_nodes :: .ref A_m_sort :: .ref A_m_left :: .ref A_m_right :: .ref A_m_what :: .ref A_m_result :: .int m_sums :: .ref A_m_root :: .int m_links :: .ref A_m_relation :: .ref A_m_operands :: .int m_operandMany :: .ref A_m_operators :: .ref A_m_functions :: .int m_operatorMany :: .int m_status :: .long m_outcome :: .ref A_m_output :: .int m_outputLength :: .ref A_m_tasks :: .int m_taskMany :: .ref A_m_forms :: .ref A_m_formLength :: .int m_token :: .int m_tokenAmount :: .int m_ahead :: .int m_depth :: .int m_linkMany :: .int m_isRange :: .int m_primes :: .ref A_m_row :: .ref A_m_statuses :: .ref A_m_outcomes :: .ref A_m_heights :: []))), (A_m_text, .inl (cI, 80, .inl m_text))] sz)) 0 0 (va_A [(A_m, .inr (11, (.int m_length :: .ref A_m_text :: .int m_tokens :: .ref A_m_kind :: .ref A_m_amount :: .int m_newTokens :: .ref A_m_newKind :: .ref A_m_newAmount :: .ref A_m_variable :: .int m_nodes :: .ref A_m_sort :: .ref A_m_left :: .ref A_m_right :: .ref A_m_what :: .ref A_m_result :: .int m_sums :: .ref A_m_root :: .int m_links :: .ref A_m_relation :: .ref A_m_operands :: .int m_operandMany :: .ref A_m_operators :: .ref A_m_functions :: .int m_operatorMany :: .int m_status :: .long m_outcome :: .ref A_m_output :: .int m_outputLength :: .ref A_m_tasks :: .int m_taskMany :: .ref A_m_forms :: .ref A_m_formLength :: .int m_token :: .int m_tokenAmount :: .int m_ahead :: .int m_depth :: .int m_linkMany :: .int m_isRange :: .int m_primes :: .ref A_m_row :: .ref A_m_statuses :: .ref A_m_outcomes :: .ref A_m_heights :: []))), (A_m_text, .inl (cI, 80, .inl m_text))] sz) := by
  refine Met.ofW (cc := cX12_functionAt) (maxL := 5) (ret := (some .int)) (by decide) rfl ?_
  intro p e s m args below meth c s₁ B hml hv0
  obtain ⟨hargs, hsz, hP, hK, hD0, hX⟩ := hv0
  have hx := B.exec
  have hb := B.bytes
  have hr := B.returns
  have hts := atoms_spec (ws := wsX12_functionAt) B.pre
  have hown : s.vm.findClass RX12 = some m.cls := findClass_of_methodNamed B.named
  have hlocks := B.notSynchronized
  subst hsz
  have hD := hD0.self (sz := s.heap.size)
  generalize hAe : va_A [(A_m, .inr (11, (.int m_length :: .ref A_m_text :: .int m_tokens :: .ref A_m_kind :: .ref A_m_amount :: .int m_newTokens :: .ref A_m_newKind :: .ref A_m_newAmount :: .ref A_m_variable :: .int m_nodes :: .ref A_m_sort :: .ref A_m_left :: .ref A_m_right :: .ref A_m_what :: .ref A_m_result :: .int m_sums :: .ref A_m_root :: .int m_links :: .ref A_m_relation :: .ref A_m_operands :: .int m_operandMany :: .ref A_m_operators :: .ref A_m_functions :: .int m_operatorMany :: .int m_status :: .long m_outcome :: .ref A_m_output :: .int m_outputLength :: .ref A_m_tasks :: .int m_taskMany :: .ref A_m_forms :: .ref A_m_formLength :: .int m_token :: .int m_tokenAmount :: .int m_ahead :: .int m_depth :: .int m_linkMany :: .int m_isRange :: .int m_primes :: .ref A_m_row :: .ref A_m_statuses :: .ref A_m_outcomes :: .ref A_m_heights :: []))), (A_m_text, .inl (cI, 80, .inl m_text))] s.heap.size = A at hD hX ⊢
  have hA : ∀ q : Nat, s.heap.size ≤ q → A q := fun q h => by rw [← hAe]; exact Or.inr h
  have hS : va_S A s.heap s.heap [] := va_S.rf
  have hl := lv_entry ([.ref A_m, .int x1]) (n := 5) (Nat.le_of_ble_eq_true rfl)
  rw [hargs, lg_entry_eq, ← hargs]
  generalize (lg_sl ([.ref A_m, .int x1]) ++ List.replicate (5 - (lg_sl ([.ref A_m, .int x1])).length) Slot.unset).toArray = ls at hl ⊢
  have hl : lv_has ls 5 [(0, .ref A_m), (1, .int x1)] := hl
  have B_92_2 : ∀ (x2 : Int32) (x3 : Int32) (x4 : Int32) (H : Heap) (locs : List Loc) (ls : Array Slot), va_P D vwCl [(A_m, .inr (11, (.int m_length :: .ref A_m_text :: .int m_tokens :: .ref A_m_kind :: .ref A_m_amount :: .int m_newTokens :: .ref A_m_newKind :: .ref A_m_newAmount :: .ref A_m_variable :: .int m_nodes :: .ref A_m_sort :: .ref A_m_left :: .ref A_m_right :: .ref A_m_what :: .ref A_m_result :: .int m_sums :: .ref A_m_root :: .int m_links :: .ref A_m_relation :: .ref A_m_operands :: .int m_operandMany :: .ref A_m_operators :: .ref A_m_functions :: .int m_operatorMany :: .int m_status :: .long m_outcome :: .ref A_m_output :: .int m_outputLength :: .ref A_m_tasks :: .int m_taskMany :: .ref A_m_forms :: .ref A_m_formLength :: .int m_token :: .int m_tokenAmount :: .int m_ahead :: .int m_depth :: .int m_linkMany :: .int m_isRange :: .int m_primes :: .ref A_m_row :: .ref A_m_statuses :: .ref A_m_outcomes :: .ref A_m_heights :: []))), (A_m_text, .inl (cI, 80, .inl m_text))] H → va_D A [(A_m, .inr (11, (.int m_length :: .ref A_m_text :: .int m_tokens :: .ref A_m_kind :: .ref A_m_amount :: .int m_newTokens :: .ref A_m_newKind :: .ref A_m_newAmount :: .ref A_m_variable :: .int m_nodes :: .ref A_m_sort :: .ref A_m_left :: .ref A_m_right :: .ref A_m_what :: .ref A_m_result :: .int m_sums :: .ref A_m_root :: .int m_links :: .ref A_m_relation :: .ref A_m_operands :: .int m_operandMany :: .ref A_m_operators :: .ref A_m_functions :: .int m_operatorMany :: .int m_status :: .long m_outcome :: .ref A_m_output :: .int m_outputLength :: .ref A_m_tasks :: .int m_taskMany :: .ref A_m_forms :: .ref A_m_formLength :: .int m_token :: .int m_tokenAmount :: .int m_ahead :: .int m_depth :: .int m_linkMany :: .int m_isRange :: .int m_primes :: .ref A_m_row :: .ref A_m_statuses :: .ref A_m_outcomes :: .ref A_m_heights :: []))), (A_m_text, .inl (cI, 80, .inl m_text))] → va_S A s.heap H locs → lv_has ls 5 [(2, .int x2), (3, .int x3), (4, .int x4)] → fn_Ref_functionAt_b92 m_length m_text x2 x3 x4 = some rs → W p l e (headSpec wsX12_functionAt ({ frames := 1, cells := 0, slots := 0, locals := 21 } : Room)).room s m args below meth c H locs 0 0 (MQ below (zQi D cI cJ cC rs [(A_m, .inr (11, (.int m_length :: .ref A_m_text :: .int m_tokens :: .ref A_m_kind :: .ref A_m_amount :: .int m_newTokens :: .ref A_m_newKind :: .ref A_m_newAmount :: .ref A_m_variable :: .int m_nodes :: .ref A_m_sort :: .ref A_m_left :: .ref A_m_right :: .ref A_m_what :: .ref A_m_result :: .int m_sums :: .ref A_m_root :: .int m_links :: .ref A_m_relation :: .ref A_m_operands :: .int m_operandMany :: .ref A_m_operators :: .ref A_m_functions :: .int m_operatorMany :: .int m_status :: .long m_outcome :: .ref A_m_output :: .int m_outputLength :: .ref A_m_tasks :: .int m_taskMany :: .ref A_m_forms :: .ref A_m_formLength :: .int m_token :: .int m_tokenAmount :: .int m_ahead :: .int m_depth :: .int m_linkMany :: .int m_isRange :: .int m_primes :: .ref A_m_row :: .ref A_m_statuses :: .ref A_m_outcomes :: .ref A_m_heights :: []))), (A_m_text, .inl (cI, 80, .inl m_text))] A) args s 0 0 A) (F0 m 92 ls []) := by
    intro  x2 x3 x4 H locs ls hP hD hS hl hM
    refine lv_iload_n hx hb dX12_functionAt_92 rfl (lv_at hl 0 rfl) ?_
    refine lv_bipush (v := 100) hx hb dX12_functionAt_93 (by decide) ?_
    refine lv_icmp_ne (tgt := 115) hx hb dX12_functionAt_95 (by decide) (fun c10 => ?_) (fun c10 => ?_)
    · have hM := z_f c10 hM
      refine lv_bipush (v := (-3)) hx hb dX12_functionAt_115 (by decide) ?_
      have hM := Option.some.inj hM
      subst hM
      exact W.iret (v := (-3)) hx hb hr (fun t ht hW => ⟨⟨_, (), rfl, rfl, ⟨by rw [ht]; exact hP, va_K.moved hW.alike hK, hD⟩⟩, hS.F ht⟩) hS.2.2 dX12_functionAt_117
    · have hM := z_t c10 hM
      refine lv_iload_n hx hb dX12_functionAt_98 rfl (lv_at hl 1 rfl) ?_
      refine lv_bipush (v := 98) hx hb dX12_functionAt_99 (by decide) ?_
      refine lv_icmp_ne (tgt := 115) hx hb dX12_functionAt_101 (by decide) (fun c11 => ?_) (fun c11 => ?_)
      · have hM := z_f c11 hM
        refine lv_bipush (v := (-3)) hx hb dX12_functionAt_115 (by decide) ?_
        have hM := Option.some.inj hM
        subst hM
        exact W.iret (v := (-3)) hx hb hr (fun t ht hW => ⟨⟨_, (), rfl, rfl, ⟨by rw [ht]; exact hP, va_K.moved hW.alike hK, hD⟩⟩, hS.F ht⟩) hS.2.2 dX12_functionAt_117
      · have hM := z_t c11 hM
        refine lv_iload hx hb dX12_functionAt_104 (lv_at hl 2 rfl) ?_
        refine lv_bipush (v := 108) hx hb dX12_functionAt_106 (by decide) ?_
        refine lv_icmp_ne (tgt := 115) hx hb dX12_functionAt_108 (by decide) (fun c12 => ?_) (fun c12 => ?_)
        · have hM := z_f c12 hM
          refine lv_bipush (v := (-3)) hx hb dX12_functionAt_115 (by decide) ?_
          have hM := Option.some.inj hM
          subst hM
          exact W.iret (v := (-3)) hx hb hr (fun t ht hW => ⟨⟨_, (), rfl, rfl, ⟨by rw [ht]; exact hP, va_K.moved hW.alike hK, hD⟩⟩, hS.F ht⟩) hS.2.2 dX12_functionAt_117
        · have hM := z_t c12 hM
          refine lv_iconst (v := 3) hx hb dX12_functionAt_111 (by decide) ?_
          refine lv_goto (tgt := 117) hx hb dX12_functionAt_112 (by decide) ?_
          have hM := Option.some.inj hM
          subst hM
          exact W.iret (v := 3) hx hb hr (fun t ht hW => ⟨⟨_, (), rfl, rfl, ⟨by rw [ht]; exact hP, va_K.moved hW.alike hK, hD⟩⟩, hS.F ht⟩) hS.2.2 dX12_functionAt_117
  have B_69_1 : ∀ (x2 : Int32) (x3 : Int32) (x4 : Int32) (H : Heap) (locs : List Loc) (ls : Array Slot), va_P D vwCl [(A_m, .inr (11, (.int m_length :: .ref A_m_text :: .int m_tokens :: .ref A_m_kind :: .ref A_m_amount :: .int m_newTokens :: .ref A_m_newKind :: .ref A_m_newAmount :: .ref A_m_variable :: .int m_nodes :: .ref A_m_sort :: .ref A_m_left :: .ref A_m_right :: .ref A_m_what :: .ref A_m_result :: .int m_sums :: .ref A_m_root :: .int m_links :: .ref A_m_relation :: .ref A_m_operands :: .int m_operandMany :: .ref A_m_operators :: .ref A_m_functions :: .int m_operatorMany :: .int m_status :: .long m_outcome :: .ref A_m_output :: .int m_outputLength :: .ref A_m_tasks :: .int m_taskMany :: .ref A_m_forms :: .ref A_m_formLength :: .int m_token :: .int m_tokenAmount :: .int m_ahead :: .int m_depth :: .int m_linkMany :: .int m_isRange :: .int m_primes :: .ref A_m_row :: .ref A_m_statuses :: .ref A_m_outcomes :: .ref A_m_heights :: []))), (A_m_text, .inl (cI, 80, .inl m_text))] H → va_D A [(A_m, .inr (11, (.int m_length :: .ref A_m_text :: .int m_tokens :: .ref A_m_kind :: .ref A_m_amount :: .int m_newTokens :: .ref A_m_newKind :: .ref A_m_newAmount :: .ref A_m_variable :: .int m_nodes :: .ref A_m_sort :: .ref A_m_left :: .ref A_m_right :: .ref A_m_what :: .ref A_m_result :: .int m_sums :: .ref A_m_root :: .int m_links :: .ref A_m_relation :: .ref A_m_operands :: .int m_operandMany :: .ref A_m_operators :: .ref A_m_functions :: .int m_operatorMany :: .int m_status :: .long m_outcome :: .ref A_m_output :: .int m_outputLength :: .ref A_m_tasks :: .int m_taskMany :: .ref A_m_forms :: .ref A_m_formLength :: .int m_token :: .int m_tokenAmount :: .int m_ahead :: .int m_depth :: .int m_linkMany :: .int m_isRange :: .int m_primes :: .ref A_m_row :: .ref A_m_statuses :: .ref A_m_outcomes :: .ref A_m_heights :: []))), (A_m_text, .inl (cI, 80, .inl m_text))] → va_S A s.heap H locs → lv_has ls 5 [(2, .int x2), (3, .int x3), (4, .int x4)] → fn_Ref_functionAt_b69 m_length m_text x2 x3 x4 = some rs → W p l e (headSpec wsX12_functionAt ({ frames := 1, cells := 0, slots := 0, locals := 21 } : Room)).room s m args below meth c H locs 0 0 (MQ below (zQi D cI cJ cC rs [(A_m, .inr (11, (.int m_length :: .ref A_m_text :: .int m_tokens :: .ref A_m_kind :: .ref A_m_amount :: .int m_newTokens :: .ref A_m_newKind :: .ref A_m_newAmount :: .ref A_m_variable :: .int m_nodes :: .ref A_m_sort :: .ref A_m_left :: .ref A_m_right :: .ref A_m_what :: .ref A_m_result :: .int m_sums :: .ref A_m_root :: .int m_links :: .ref A_m_relation :: .ref A_m_operands :: .int m_operandMany :: .ref A_m_operators :: .ref A_m_functions :: .int m_operatorMany :: .int m_status :: .long m_outcome :: .ref A_m_output :: .int m_outputLength :: .ref A_m_tasks :: .int m_taskMany :: .ref A_m_forms :: .ref A_m_formLength :: .int m_token :: .int m_tokenAmount :: .int m_ahead :: .int m_depth :: .int m_linkMany :: .int m_isRange :: .int m_primes :: .ref A_m_row :: .ref A_m_statuses :: .ref A_m_outcomes :: .ref A_m_heights :: []))), (A_m_text, .inl (cI, 80, .inl m_text))] A) args s 0 0 A) (F0 m 69 ls []) := by
    intro  x2 x3 x4 H locs ls hP hD hS hl hM
    refine lv_iload_n hx hb dX12_functionAt_69 rfl (lv_at hl 0 rfl) ?_
    refine lv_bipush (v := 115) hx hb dX12_functionAt_70 (by decide) ?_
    refine lv_icmp_ne (tgt := 92) hx hb dX12_functionAt_72 (by decide) (fun c9 => ?_) (fun c9 => ?_)
    · have hM := z_f c9 hM
      exact B_92_2  x2 x3 x4 _ _ ls hP hD hS (lv_sub hl [0, 1, 2] rfl) hM
    · have hM := z_t c9 hM
      refine lv_iload_n hx hb dX12_functionAt_75 rfl (lv_at hl 1 rfl) ?_
      refine lv_bipush (v := 113) hx hb dX12_functionAt_76 (by decide) ?_
      refine lv_icmp_ne (tgt := 92) hx hb dX12_functionAt_78 (by decide) (fun c13 => ?_) (fun c13 => ?_)
      · have hM := z_f c13 hM
        exact B_92_2  x2 x3 x4 _ _ ls hP hD hS (lv_sub hl [0, 1, 2] rfl) hM
      · have hM := z_t c13 hM
        refine lv_iload hx hb dX12_functionAt_81 (lv_at hl 2 rfl) ?_
        refine lv_bipush (v := 114) hx hb dX12_functionAt_83 (by decide) ?_
        refine lv_icmp_ne (tgt := 92) hx hb dX12_functionAt_85 (by decide) (fun c14 => ?_) (fun c14 => ?_)
        · have hM := z_f c14 hM
          exact B_92_2  x2 x3 x4 _ _ ls hP hD hS (lv_sub hl [0, 1, 2] rfl) hM
        · have hM := z_t c14 hM
          refine lv_iconst (v := 2) hx hb dX12_functionAt_88 (by decide) ?_
          refine lv_goto (tgt := 117) hx hb dX12_functionAt_89 (by decide) ?_
          have hM := Option.some.inj hM
          subst hM
          exact W.iret (v := 2) hx hb hr (fun t ht hW => ⟨⟨_, (), rfl, rfl, ⟨by rw [ht]; exact hP, va_K.moved hW.alike hK, hD⟩⟩, hS.F ht⟩) hS.2.2 dX12_functionAt_117
  have B_46_0 : ∀ (x2 : Int32) (x3 : Int32) (x4 : Int32) (H : Heap) (locs : List Loc) (ls : Array Slot), va_P D vwCl [(A_m, .inr (11, (.int m_length :: .ref A_m_text :: .int m_tokens :: .ref A_m_kind :: .ref A_m_amount :: .int m_newTokens :: .ref A_m_newKind :: .ref A_m_newAmount :: .ref A_m_variable :: .int m_nodes :: .ref A_m_sort :: .ref A_m_left :: .ref A_m_right :: .ref A_m_what :: .ref A_m_result :: .int m_sums :: .ref A_m_root :: .int m_links :: .ref A_m_relation :: .ref A_m_operands :: .int m_operandMany :: .ref A_m_operators :: .ref A_m_functions :: .int m_operatorMany :: .int m_status :: .long m_outcome :: .ref A_m_output :: .int m_outputLength :: .ref A_m_tasks :: .int m_taskMany :: .ref A_m_forms :: .ref A_m_formLength :: .int m_token :: .int m_tokenAmount :: .int m_ahead :: .int m_depth :: .int m_linkMany :: .int m_isRange :: .int m_primes :: .ref A_m_row :: .ref A_m_statuses :: .ref A_m_outcomes :: .ref A_m_heights :: []))), (A_m_text, .inl (cI, 80, .inl m_text))] H → va_D A [(A_m, .inr (11, (.int m_length :: .ref A_m_text :: .int m_tokens :: .ref A_m_kind :: .ref A_m_amount :: .int m_newTokens :: .ref A_m_newKind :: .ref A_m_newAmount :: .ref A_m_variable :: .int m_nodes :: .ref A_m_sort :: .ref A_m_left :: .ref A_m_right :: .ref A_m_what :: .ref A_m_result :: .int m_sums :: .ref A_m_root :: .int m_links :: .ref A_m_relation :: .ref A_m_operands :: .int m_operandMany :: .ref A_m_operators :: .ref A_m_functions :: .int m_operatorMany :: .int m_status :: .long m_outcome :: .ref A_m_output :: .int m_outputLength :: .ref A_m_tasks :: .int m_taskMany :: .ref A_m_forms :: .ref A_m_formLength :: .int m_token :: .int m_tokenAmount :: .int m_ahead :: .int m_depth :: .int m_linkMany :: .int m_isRange :: .int m_primes :: .ref A_m_row :: .ref A_m_statuses :: .ref A_m_outcomes :: .ref A_m_heights :: []))), (A_m_text, .inl (cI, 80, .inl m_text))] → va_S A s.heap H locs → lv_has ls 5 [(2, .int x2), (3, .int x3), (4, .int x4)] → fn_Ref_functionAt_b46 m_length m_text x2 x3 x4 = some rs → W p l e (headSpec wsX12_functionAt ({ frames := 1, cells := 0, slots := 0, locals := 21 } : Room)).room s m args below meth c H locs 0 0 (MQ below (zQi D cI cJ cC rs [(A_m, .inr (11, (.int m_length :: .ref A_m_text :: .int m_tokens :: .ref A_m_kind :: .ref A_m_amount :: .int m_newTokens :: .ref A_m_newKind :: .ref A_m_newAmount :: .ref A_m_variable :: .int m_nodes :: .ref A_m_sort :: .ref A_m_left :: .ref A_m_right :: .ref A_m_what :: .ref A_m_result :: .int m_sums :: .ref A_m_root :: .int m_links :: .ref A_m_relation :: .ref A_m_operands :: .int m_operandMany :: .ref A_m_operators :: .ref A_m_functions :: .int m_operatorMany :: .int m_status :: .long m_outcome :: .ref A_m_output :: .int m_outputLength :: .ref A_m_tasks :: .int m_taskMany :: .ref A_m_forms :: .ref A_m_formLength :: .int m_token :: .int m_tokenAmount :: .int m_ahead :: .int m_depth :: .int m_linkMany :: .int m_isRange :: .int m_primes :: .ref A_m_row :: .ref A_m_statuses :: .ref A_m_outcomes :: .ref A_m_heights :: []))), (A_m_text, .inl (cI, 80, .inl m_text))] A) args s 0 0 A) (F0 m 46 ls []) := by
    intro  x2 x3 x4 H locs ls hP hD hS hl hM
    refine lv_iload_n hx hb dX12_functionAt_46 rfl (lv_at hl 0 rfl) ?_
    refine lv_bipush (v := 115) hx hb dX12_functionAt_47 (by decide) ?_
    refine lv_icmp_ne (tgt := 69) hx hb dX12_functionAt_49 (by decide) (fun c8 => ?_) (fun c8 => ?_)
    · have hM := z_f c8 hM
      exact B_69_1  x2 x3 x4 _ _ ls hP hD hS (lv_sub hl [0, 1, 2] rfl) hM
    · have hM := z_t c8 hM
      refine lv_iload_n hx hb dX12_functionAt_52 rfl (lv_at hl 1 rfl) ?_
      refine lv_bipush (v := 103) hx hb dX12_functionAt_53 (by decide) ?_
      refine lv_icmp_ne (tgt := 69) hx hb dX12_functionAt_55 (by decide) (fun c15 => ?_) (fun c15 => ?_)
      · have hM := z_f c15 hM
        exact B_69_1  x2 x3 x4 _ _ ls hP hD hS (lv_sub hl [0, 1, 2] rfl) hM
      · have hM := z_t c15 hM
        refine lv_iload hx hb dX12_functionAt_58 (lv_at hl 2 rfl) ?_
        refine lv_bipush (v := 110) hx hb dX12_functionAt_60 (by decide) ?_
        refine lv_icmp_ne (tgt := 69) hx hb dX12_functionAt_62 (by decide) (fun c16 => ?_) (fun c16 => ?_)
        · have hM := z_f c16 hM
          exact B_69_1  x2 x3 x4 _ _ ls hP hD hS (lv_sub hl [0, 1, 2] rfl) hM
        · have hM := z_t c16 hM
          refine lv_iconst (v := 1) hx hb dX12_functionAt_65 (by decide) ?_
          refine lv_goto (tgt := 117) hx hb dX12_functionAt_66 (by decide) ?_
          have hM := Option.some.inj hM
          subst hM
          exact W.iret (v := 1) hx hb hr (fun t ht hW => ⟨⟨_, (), rfl, rfl, ⟨by rw [ht]; exact hP, va_K.moved hW.alike hK, hD⟩⟩, hS.F ht⟩) hS.2.2 dX12_functionAt_117
  refine lv_aload_n hx hb dX12_functionAt_0 rfl (lv_at hl 0 rfl) ?_
  refine lv_iload_n hx hb dX12_functionAt_1 rfl (lv_at hl 1 rfl) ?_
  obtain ⟨q1, hq1, hM⟩ := z_b hM
  obtain ⟨hPc, hDc, hFc⟩ := zcut (wc := [(A_m, .inr (11, (.int m_length :: .ref A_m_text :: .int m_tokens :: .ref A_m_kind :: .ref A_m_amount :: .int m_newTokens :: .ref A_m_newKind :: .ref A_m_newAmount :: .ref A_m_variable :: .int m_nodes :: .ref A_m_sort :: .ref A_m_left :: .ref A_m_right :: .ref A_m_what :: .ref A_m_result :: .int m_sums :: .ref A_m_root :: .int m_links :: .ref A_m_relation :: .ref A_m_operands :: .int m_operandMany :: .ref A_m_operators :: .ref A_m_functions :: .int m_operatorMany :: .int m_status :: .long m_outcome :: .ref A_m_output :: .int m_outputLength :: .ref A_m_tasks :: .int m_taskMany :: .ref A_m_forms :: .ref A_m_formLength :: .int m_token :: .int m_tokenAmount :: .int m_ahead :: .int m_depth :: .int m_linkMany :: .int m_isRange :: .int m_primes :: .ref A_m_row :: .ref A_m_statuses :: .ref A_m_outcomes :: .ref A_m_heights :: []))), (A_m_text, .inl (cI, 80, .inl m_text))]) hP hD hS hA [0, 1] rfl rfl (by decide)
  refine zc_i (ws' := [(A_m, .inr (11, (.int m_length :: .ref A_m_text :: .int m_tokens :: .ref A_m_kind :: .ref A_m_amount :: .int m_newTokens :: .ref A_m_newKind :: .ref A_m_newAmount :: .ref A_m_variable :: .int m_nodes :: .ref A_m_sort :: .ref A_m_left :: .ref A_m_right :: .ref A_m_what :: .ref A_m_result :: .int m_sums :: .ref A_m_root :: .int m_links :: .ref A_m_relation :: .ref A_m_operands :: .int m_operandMany :: .ref A_m_operators :: .ref A_m_functions :: .int m_operatorMany :: .int m_status :: .long m_outcome :: .ref A_m_output :: .int m_outputLength :: .ref A_m_tasks :: .int m_taskMany :: .ref A_m_forms :: .ref A_m_formLength :: .int m_token :: .int m_tokenAmount :: .int m_ahead :: .int m_depth :: .int m_linkMany :: .int m_isRange :: .int m_primes :: .ref A_m_row :: .ref A_m_statuses :: .ref A_m_outcomes :: .ref A_m_heights :: []))), (A_m_text, .inl (cI, 80, .inl m_text))]) (va_runV (As := [.int x1]) (rest := []) ⟨hx, hb, hml, hown, hts⟩ (ct_Ref_at l D cI cJ cC adK adV A_m A_m_text A_m_kind A_m_amount A_m_newKind A_m_newAmount A_m_variable A_m_sort A_m_left A_m_right A_m_what A_m_result A_m_root A_m_relation A_m_operands A_m_operators A_m_functions A_m_output A_m_tasks A_m_forms A_m_formLength A_m_row A_m_statuses A_m_outcomes A_m_heights s.heap.size m_length m_tokens m_newTokens m_nodes m_sums m_links m_operandMany m_operatorMany m_status m_outcome m_outputLength m_taskMany m_token m_tokenAmount m_ahead m_depth m_linkMany m_isRange m_primes m_text x1 hq1) (cwV 1 hts gX12_functionAt_X12_at rfl rfl rfl (by decide +kernel) ⟨Nat.le_of_ble_eq_true rfl, Nat.le_of_ble_eq_true rfl⟩) ⟨zblind, va_recv hK hP (ci := 11) (q0 := 0) rfl rfl, zpre hX hS hFc hPc hK hDc⟩ rfl rfl hl.1 rfl (lv_room (Nat.le_of_ble_eq_true rfl)) dX12_functionAt_2 ⟨Nat.zero_le _, Nat.zero_le _⟩) hP hD hS hFc [0, 1] rfl (by decide) rfl rfl (fun H2 locs hP hD hS => ?_)
  refine lv_istore_n (lv' := [(2, .int q1), (0, .ref A_m), (1, .int x1)]) hx hb dX12_functionAt_5 rfl hl (by decide) rfl (fun ls hl => ?_)
  refine lv_aload_n hx hb dX12_functionAt_6 rfl (lv_at hl 1 rfl) ?_
  refine lv_iload_n hx hb dX12_functionAt_7 rfl (lv_at hl 2 rfl) ?_
  refine lv_iconst (v := 1) hx hb dX12_functionAt_8 (by decide) ?_
  refine lv_iadd hx hb dX12_functionAt_9 ?_
  obtain ⟨q3, hq3, hM⟩ := z_b hM
  obtain ⟨hPc, hDc, hFc⟩ := zcut (wc := [(A_m, .inr (11, (.int m_length :: .ref A_m_text :: .int m_tokens :: .ref A_m_kind :: .ref A_m_amount :: .int m_newTokens :: .ref A_m_newKind :: .ref A_m_newAmount :: .ref A_m_variable :: .int m_nodes :: .ref A_m_sort :: .ref A_m_left :: .ref A_m_right :: .ref A_m_what :: .ref A_m_result :: .int m_sums :: .ref A_m_root :: .int m_links :: .ref A_m_relation :: .ref A_m_operands :: .int m_operandMany :: .ref A_m_operators :: .ref A_m_functions :: .int m_operatorMany :: .int m_status :: .long m_outcome :: .ref A_m_output :: .int m_outputLength :: .ref A_m_tasks :: .int m_taskMany :: .ref A_m_forms :: .ref A_m_formLength :: .int m_token :: .int m_tokenAmount :: .int m_ahead :: .int m_depth :: .int m_linkMany :: .int m_isRange :: .int m_primes :: .ref A_m_row :: .ref A_m_statuses :: .ref A_m_outcomes :: .ref A_m_heights :: []))), (A_m_text, .inl (cI, 80, .inl m_text))]) hP hD hS hA [0, 1] rfl rfl (by decide)
  refine zc_i (ws' := [(A_m, .inr (11, (.int m_length :: .ref A_m_text :: .int m_tokens :: .ref A_m_kind :: .ref A_m_amount :: .int m_newTokens :: .ref A_m_newKind :: .ref A_m_newAmount :: .ref A_m_variable :: .int m_nodes :: .ref A_m_sort :: .ref A_m_left :: .ref A_m_right :: .ref A_m_what :: .ref A_m_result :: .int m_sums :: .ref A_m_root :: .int m_links :: .ref A_m_relation :: .ref A_m_operands :: .int m_operandMany :: .ref A_m_operators :: .ref A_m_functions :: .int m_operatorMany :: .int m_status :: .long m_outcome :: .ref A_m_output :: .int m_outputLength :: .ref A_m_tasks :: .int m_taskMany :: .ref A_m_forms :: .ref A_m_formLength :: .int m_token :: .int m_tokenAmount :: .int m_ahead :: .int m_depth :: .int m_linkMany :: .int m_isRange :: .int m_primes :: .ref A_m_row :: .ref A_m_statuses :: .ref A_m_outcomes :: .ref A_m_heights :: []))), (A_m_text, .inl (cI, 80, .inl m_text))]) (va_runV (As := [.int (x1 + 1)]) (rest := []) ⟨hx, hb, hml, hown, hts⟩ (ct_Ref_at l D cI cJ cC adK adV A_m A_m_text A_m_kind A_m_amount A_m_newKind A_m_newAmount A_m_variable A_m_sort A_m_left A_m_right A_m_what A_m_result A_m_root A_m_relation A_m_operands A_m_operators A_m_functions A_m_output A_m_tasks A_m_forms A_m_formLength A_m_row A_m_statuses A_m_outcomes A_m_heights H2.size m_length m_tokens m_newTokens m_nodes m_sums m_links m_operandMany m_operatorMany m_status m_outcome m_outputLength m_taskMany m_token m_tokenAmount m_ahead m_depth m_linkMany m_isRange m_primes m_text (x1 + 1) hq3) (cwV 1 hts gX12_functionAt_X12_at rfl rfl rfl (by decide +kernel) ⟨Nat.le_of_ble_eq_true rfl, Nat.le_of_ble_eq_true rfl⟩) ⟨zblind, va_recv hK hP (ci := 11) (q0 := 0) rfl rfl, zpre hX hS hFc hPc hK hDc⟩ rfl rfl hl.1 rfl (lv_room (Nat.le_of_ble_eq_true rfl)) dX12_functionAt_10 ⟨Nat.zero_le _, Nat.zero_le _⟩) hP hD hS hFc [0, 1] rfl (by decide) rfl rfl (fun H4 locs hP hD hS => ?_)
  refine lv_istore_n (lv' := [(3, .int q3), (2, .int q1), (0, .ref A_m), (1, .int x1)]) hx hb dX12_functionAt_13 rfl hl (by decide) rfl (fun ls hl => ?_)
  refine lv_aload_n hx hb dX12_functionAt_14 rfl (lv_at hl 2 rfl) ?_
  refine lv_iload_n hx hb dX12_functionAt_15 rfl (lv_at hl 3 rfl) ?_
  refine lv_iconst (v := 2) hx hb dX12_functionAt_16 (by decide) ?_
  refine lv_iadd hx hb dX12_functionAt_17 ?_
  obtain ⟨q5, hq5, hM⟩ := z_b hM
  obtain ⟨hPc, hDc, hFc⟩ := zcut (wc := [(A_m, .inr (11, (.int m_length :: .ref A_m_text :: .int m_tokens :: .ref A_m_kind :: .ref A_m_amount :: .int m_newTokens :: .ref A_m_newKind :: .ref A_m_newAmount :: .ref A_m_variable :: .int m_nodes :: .ref A_m_sort :: .ref A_m_left :: .ref A_m_right :: .ref A_m_what :: .ref A_m_result :: .int m_sums :: .ref A_m_root :: .int m_links :: .ref A_m_relation :: .ref A_m_operands :: .int m_operandMany :: .ref A_m_operators :: .ref A_m_functions :: .int m_operatorMany :: .int m_status :: .long m_outcome :: .ref A_m_output :: .int m_outputLength :: .ref A_m_tasks :: .int m_taskMany :: .ref A_m_forms :: .ref A_m_formLength :: .int m_token :: .int m_tokenAmount :: .int m_ahead :: .int m_depth :: .int m_linkMany :: .int m_isRange :: .int m_primes :: .ref A_m_row :: .ref A_m_statuses :: .ref A_m_outcomes :: .ref A_m_heights :: []))), (A_m_text, .inl (cI, 80, .inl m_text))]) hP hD hS hA [0, 1] rfl rfl (by decide)
  refine zc_i (ws' := [(A_m, .inr (11, (.int m_length :: .ref A_m_text :: .int m_tokens :: .ref A_m_kind :: .ref A_m_amount :: .int m_newTokens :: .ref A_m_newKind :: .ref A_m_newAmount :: .ref A_m_variable :: .int m_nodes :: .ref A_m_sort :: .ref A_m_left :: .ref A_m_right :: .ref A_m_what :: .ref A_m_result :: .int m_sums :: .ref A_m_root :: .int m_links :: .ref A_m_relation :: .ref A_m_operands :: .int m_operandMany :: .ref A_m_operators :: .ref A_m_functions :: .int m_operatorMany :: .int m_status :: .long m_outcome :: .ref A_m_output :: .int m_outputLength :: .ref A_m_tasks :: .int m_taskMany :: .ref A_m_forms :: .ref A_m_formLength :: .int m_token :: .int m_tokenAmount :: .int m_ahead :: .int m_depth :: .int m_linkMany :: .int m_isRange :: .int m_primes :: .ref A_m_row :: .ref A_m_statuses :: .ref A_m_outcomes :: .ref A_m_heights :: []))), (A_m_text, .inl (cI, 80, .inl m_text))]) (va_runV (As := [.int (x1 + 2)]) (rest := []) ⟨hx, hb, hml, hown, hts⟩ (ct_Ref_at l D cI cJ cC adK adV A_m A_m_text A_m_kind A_m_amount A_m_newKind A_m_newAmount A_m_variable A_m_sort A_m_left A_m_right A_m_what A_m_result A_m_root A_m_relation A_m_operands A_m_operators A_m_functions A_m_output A_m_tasks A_m_forms A_m_formLength A_m_row A_m_statuses A_m_outcomes A_m_heights H4.size m_length m_tokens m_newTokens m_nodes m_sums m_links m_operandMany m_operatorMany m_status m_outcome m_outputLength m_taskMany m_token m_tokenAmount m_ahead m_depth m_linkMany m_isRange m_primes m_text (x1 + 2) hq5) (cwV 1 hts gX12_functionAt_X12_at rfl rfl rfl (by decide +kernel) ⟨Nat.le_of_ble_eq_true rfl, Nat.le_of_ble_eq_true rfl⟩) ⟨zblind, va_recv hK hP (ci := 11) (q0 := 0) rfl rfl, zpre hX hS hFc hPc hK hDc⟩ rfl rfl hl.1 rfl (lv_room (Nat.le_of_ble_eq_true rfl)) dX12_functionAt_18 ⟨Nat.zero_le _, Nat.zero_le _⟩) hP hD hS hFc [0, 1] rfl (by decide) rfl rfl (fun H6 locs hP hD hS => ?_)
  refine lv_istore (lv' := [(4, .int q5), (3, .int q3), (2, .int q1), (0, .ref A_m), (1, .int x1)]) hx hb dX12_functionAt_21 hl (by decide) rfl (fun ls hl => ?_)
  refine lv_iload_n hx hb dX12_functionAt_23 rfl (lv_at hl 2 rfl) ?_
  refine lv_bipush (v := 97) hx hb dX12_functionAt_24 (by decide) ?_
  refine lv_icmp_ne (tgt := 46) hx hb dX12_functionAt_26 (by decide) (fun c7 => ?_) (fun c7 => ?_)
  · have hM := z_f c7 hM
    exact B_46_0  q1 q3 q5 _ _ ls hP hD hS (lv_sub hl [2, 1, 0] rfl) hM
  · have hM := z_t c7 hM
    refine lv_iload_n hx hb dX12_functionAt_29 rfl (lv_at hl 1 rfl) ?_
    refine lv_bipush (v := 98) hx hb dX12_functionAt_30 (by decide) ?_
    refine lv_icmp_ne (tgt := 46) hx hb dX12_functionAt_32 (by decide) (fun c17 => ?_) (fun c17 => ?_)
    · have hM := z_f c17 hM
      exact B_46_0  q1 q3 q5 _ _ ls hP hD hS (lv_sub hl [2, 1, 0] rfl) hM
    · have hM := z_t c17 hM
      refine lv_iload hx hb dX12_functionAt_35 (lv_at hl 0 rfl) ?_
      refine lv_bipush (v := 115) hx hb dX12_functionAt_37 (by decide) ?_
      refine lv_icmp_ne (tgt := 46) hx hb dX12_functionAt_39 (by decide) (fun c18 => ?_) (fun c18 => ?_)
      · have hM := z_f c18 hM
        exact B_46_0  q1 q3 q5 _ _ ls hP hD hS (lv_sub hl [2, 1, 0] rfl) hM
      · have hM := z_t c18 hM
        refine lv_iconst (v := 0) hx hb dX12_functionAt_42 (by decide) ?_
        refine lv_goto (tgt := 117) hx hb dX12_functionAt_43 (by decide) ?_
        have hM := Option.some.inj hM
        subst hM
        exact W.iret (v := 0) hx hb hr (fun t ht hW => ⟨⟨_, (), rfl, rfl, ⟨by rw [ht]; exact hP, va_K.moved hW.alike hK, hD⟩⟩, hS.F ht⟩) hS.2.2 dX12_functionAt_117
def fn_Ref_signOf (x0 : Int32) (x1 : Int32) : Int32 := (if x0 = 33 then (if x1 = 61 then 17 else 21) else (if x0 = 39 then 4 else (if x0 = 40 then 10 else (if x0 = 41 then 11 else (if x0 = 42 then 7 else (if x0 = 43 then 5 else (if x0 = 45 then 6 else (if x0 = 46 then (if x1 = 46 then 19 else 21) else (if x0 = 47 then 8 else (if x0 = 58 then 18 else (if x0 = 60 then (if x1 = 61 then 15 else 13) else (if x0 = 61 then 12 else (if x0 = 62 then (if x1 = 61 then 16 else 14) else (if x0 = 94 then 9 else 21))))))))))))))
set_option maxHeartbeats 40000000 in
set_option maxRecDepth 100000 in
theorem ct_Ref_signOf (l : Launch) (D : va_G) (cI cJ cC : ClassId) (adK adV : Nat → Nat) (sz : Nat) (x0 : Int32) (x1 : Int32) : Met l yX12_signOf wsX12_signOf ({ frames := 0, cells := 0, slots := 0, locals := 0 } : Room) (zP D cI cJ cC adK adV [.int x0, .int x1] sz []) (zQi D cI cJ cC (fn_Ref_signOf x0 x1) [] (va_A [] sz)) 0 0 (va_A [] sz) := by
  obtain ⟨rs, hM⟩ : ∃ rs, fn_Ref_signOf x0 x1 = rs := ⟨_, rfl⟩
  rw [hM]
  refine Met.ofW (cc := cX12_signOf) (maxL := 2) (ret := (some .int)) (by decide) rfl ?_
  intro p e s m args below meth c s₁ B hml hv0
  obtain ⟨hargs, hsz, hP, hK, hD0, hX⟩ := hv0
  have hx := B.exec
  have hb := B.bytes
  have hr := B.returns
  have hts := atoms_spec (ws := wsX12_signOf) B.pre
  have hown : s.vm.findClass RX12 = some m.cls := findClass_of_methodNamed B.named
  have hlocks := B.notSynchronized
  subst hsz
  have hD := hD0.self (sz := s.heap.size)
  generalize hAe : va_A [] s.heap.size = A at hD hX ⊢
  have hA : ∀ q : Nat, s.heap.size ≤ q → A q := fun q h => by rw [← hAe]; exact Or.inr h
  have hS : va_S A s.heap s.heap [] := va_S.rf
  have hl := lv_entry ([.int x0, .int x1]) (n := 2) (Nat.le_of_ble_eq_true rfl)
  rw [hargs, lg_entry_eq, ← hargs]
  generalize (lg_sl ([.int x0, .int x1]) ++ List.replicate (2 - (lg_sl ([.int x0, .int x1])).length) Slot.unset).toArray = ls at hl ⊢
  have hl : lv_has ls 2 [(0, .int x0), (1, .int x1)] := hl
  refine lv_iload_n hx hb dX12_signOf_0 rfl (lv_at hl 0 rfl) ?_
  by_cases c1 : x0 = 33
  · have hM := z_t c1 hM
    refine lv_lookup (tgt := 175) (off := 174) hx hb dX12_signOf_1 (by decide +kernel) (by rw [c1]; decide +kernel) (by decide) ?_
    refine lv_iload_n hx hb dX12_signOf_175 rfl (lv_at hl 1 rfl) ?_
    refine lv_bipush (v := 61) hx hb dX12_signOf_176 (by decide) ?_
    refine lv_icmp_ne (tgt := 186) hx hb dX12_signOf_178 (by decide) (fun c2 => ?_) (fun c2 => ?_)
    · have hM := z_f c2 hM
      refine lv_bipush (v := 21) hx hb dX12_signOf_186 (by decide) ?_
      have hM := hM
      subst hM
      exact W.iret (v := 21) hx hb hr (fun t ht hW => ⟨⟨_, (), rfl, rfl, ⟨by rw [ht]; exact hP, va_K.moved hW.alike hK, hD⟩⟩, hS.F ht⟩) hS.2.2 dX12_signOf_188
    · have hM := z_t c2 hM
      refine lv_bipush (v := 17) hx hb dX12_signOf_181 (by decide) ?_
      refine lv_goto (tgt := 188) hx hb dX12_signOf_183 (by decide) ?_
      have hM := hM
      subst hM
      exact W.iret (v := 17) hx hb hr (fun t ht hW => ⟨⟨_, (), rfl, rfl, ⟨by rw [ht]; exact hP, va_K.moved hW.alike hK, hD⟩⟩, hS.F ht⟩) hS.2.2 dX12_signOf_188
  · have hM := z_f c1 hM
    by_cases c3 : x0 = 39
    · have hM := z_t c3 hM
      refine lv_lookup (tgt := 206) (off := 205) hx hb dX12_signOf_1 (by decide +kernel) (by rw [c3]; decide +kernel) (by decide) ?_
      refine lv_iconst (v := 4) hx hb dX12_signOf_206 (by decide) ?_
      have hM := hM
      subst hM
      exact W.iret (v := 4) hx hb hr (fun t ht hW => ⟨⟨_, (), rfl, rfl, ⟨by rw [ht]; exact hP, va_K.moved hW.alike hK, hD⟩⟩, hS.F ht⟩) hS.2.2 dX12_signOf_207
    · have hM := z_f c3 hM
      by_cases c4 : x0 = 40
      · have hM := z_t c4 hM
        refine lv_lookup (tgt := 138) (off := 137) hx hb dX12_signOf_1 (by decide +kernel) (by rw [c4]; decide +kernel) (by decide) ?_
        refine lv_bipush (v := 10) hx hb dX12_signOf_138 (by decide) ?_
        have hM := hM
        subst hM
        exact W.iret (v := 10) hx hb hr (fun t ht hW => ⟨⟨_, (), rfl, rfl, ⟨by rw [ht]; exact hP, va_K.moved hW.alike hK, hD⟩⟩, hS.F ht⟩) hS.2.2 dX12_signOf_140
      · have hM := z_f c4 hM
        by_cases c5 : x0 = 41
        · have hM := z_t c5 hM
          refine lv_lookup (tgt := 141) (off := 140) hx hb dX12_signOf_1 (by decide +kernel) (by rw [c5]; decide +kernel) (by decide) ?_
          refine lv_bipush (v := 11) hx hb dX12_signOf_141 (by decide) ?_
          have hM := hM
          subst hM
          exact W.iret (v := 11) hx hb hr (fun t ht hW => ⟨⟨_, (), rfl, rfl, ⟨by rw [ht]; exact hP, va_K.moved hW.alike hK, hD⟩⟩, hS.F ht⟩) hS.2.2 dX12_signOf_143
        · have hM := z_f c5 hM
          by_cases c6 : x0 = 42
          · have hM := z_t c6 hM
            refine lv_lookup (tgt := 129) (off := 128) hx hb dX12_signOf_1 (by decide +kernel) (by rw [c6]; decide +kernel) (by decide) ?_
            refine lv_bipush (v := 7) hx hb dX12_signOf_129 (by decide) ?_
            have hM := hM
            subst hM
            exact W.iret (v := 7) hx hb hr (fun t ht hW => ⟨⟨_, (), rfl, rfl, ⟨by rw [ht]; exact hP, va_K.moved hW.alike hK, hD⟩⟩, hS.F ht⟩) hS.2.2 dX12_signOf_131
          · have hM := z_f c6 hM
            by_cases c7 : x0 = 43
            · have hM := z_t c7 hM
              refine lv_lookup (tgt := 124) (off := 123) hx hb dX12_signOf_1 (by decide +kernel) (by rw [c7]; decide +kernel) (by decide) ?_
              refine lv_iconst (v := 5) hx hb dX12_signOf_124 (by decide) ?_
              have hM := hM
              subst hM
              exact W.iret (v := 5) hx hb hr (fun t ht hW => ⟨⟨_, (), rfl, rfl, ⟨by rw [ht]; exact hP, va_K.moved hW.alike hK, hD⟩⟩, hS.F ht⟩) hS.2.2 dX12_signOf_125
            · have hM := z_f c7 hM
              by_cases c8 : x0 = 45
              · have hM := z_t c8 hM
                refine lv_lookup (tgt := 126) (off := 125) hx hb dX12_signOf_1 (by decide +kernel) (by rw [c8]; decide +kernel) (by decide) ?_
                refine lv_bipush (v := 6) hx hb dX12_signOf_126 (by decide) ?_
                have hM := hM
                subst hM
                exact W.iret (v := 6) hx hb hr (fun t ht hW => ⟨⟨_, (), rfl, rfl, ⟨by rw [ht]; exact hP, va_K.moved hW.alike hK, hD⟩⟩, hS.F ht⟩) hS.2.2 dX12_signOf_128
              · have hM := z_f c8 hM
                by_cases c9 : x0 = 46
                · have hM := z_t c9 hM
                  refine lv_lookup (tgt := 192) (off := 191) hx hb dX12_signOf_1 (by decide +kernel) (by rw [c9]; decide +kernel) (by decide) ?_
                  refine lv_iload_n hx hb dX12_signOf_192 rfl (lv_at hl 1 rfl) ?_
                  refine lv_bipush (v := 46) hx hb dX12_signOf_193 (by decide) ?_
                  refine lv_icmp_ne (tgt := 203) hx hb dX12_signOf_195 (by decide) (fun c10 => ?_) (fun c10 => ?_)
                  · have hM := z_f c10 hM
                    refine lv_bipush (v := 21) hx hb dX12_signOf_203 (by decide) ?_
                    have hM := hM
                    subst hM
                    exact W.iret (v := 21) hx hb hr (fun t ht hW => ⟨⟨_, (), rfl, rfl, ⟨by rw [ht]; exact hP, va_K.moved hW.alike hK, hD⟩⟩, hS.F ht⟩) hS.2.2 dX12_signOf_205
                  · have hM := z_t c10 hM
                    refine lv_bipush (v := 19) hx hb dX12_signOf_198 (by decide) ?_
                    refine lv_goto (tgt := 205) hx hb dX12_signOf_200 (by decide) ?_
                    have hM := hM
                    subst hM
                    exact W.iret (v := 19) hx hb hr (fun t ht hW => ⟨⟨_, (), rfl, rfl, ⟨by rw [ht]; exact hP, va_K.moved hW.alike hK, hD⟩⟩, hS.F ht⟩) hS.2.2 dX12_signOf_205
                · have hM := z_f c9 hM
                  by_cases c11 : x0 = 47
                  · have hM := z_t c11 hM
                    refine lv_lookup (tgt := 132) (off := 131) hx hb dX12_signOf_1 (by decide +kernel) (by rw [c11]; decide +kernel) (by decide) ?_
                    refine lv_bipush (v := 8) hx hb dX12_signOf_132 (by decide) ?_
                    have hM := hM
                    subst hM
                    exact W.iret (v := 8) hx hb hr (fun t ht hW => ⟨⟨_, (), rfl, rfl, ⟨by rw [ht]; exact hP, va_K.moved hW.alike hK, hD⟩⟩, hS.F ht⟩) hS.2.2 dX12_signOf_134
                  · have hM := z_f c11 hM
                    by_cases c12 : x0 = 58
                    · have hM := z_t c12 hM
                      refine lv_lookup (tgt := 189) (off := 188) hx hb dX12_signOf_1 (by decide +kernel) (by rw [c12]; decide +kernel) (by decide) ?_
                      refine lv_bipush (v := 18) hx hb dX12_signOf_189 (by decide) ?_
                      have hM := hM
                      subst hM
                      exact W.iret (v := 18) hx hb hr (fun t ht hW => ⟨⟨_, (), rfl, rfl, ⟨by rw [ht]; exact hP, va_K.moved hW.alike hK, hD⟩⟩, hS.F ht⟩) hS.2.2 dX12_signOf_191
                    · have hM := z_f c12 hM
                      by_cases c13 : x0 = 60
                      · have hM := z_t c13 hM
                        refine lv_lookup (tgt := 147) (off := 146) hx hb dX12_signOf_1 (by decide +kernel) (by rw [c13]; decide +kernel) (by decide) ?_
                        refine lv_iload_n hx hb dX12_signOf_147 rfl (lv_at hl 1 rfl) ?_
                        refine lv_bipush (v := 61) hx hb dX12_signOf_148 (by decide) ?_
                        refine lv_icmp_ne (tgt := 158) hx hb dX12_signOf_150 (by decide) (fun c14 => ?_) (fun c14 => ?_)
                        · have hM := z_f c14 hM
                          refine lv_bipush (v := 13) hx hb dX12_signOf_158 (by decide) ?_
                          have hM := hM
                          subst hM
                          exact W.iret (v := 13) hx hb hr (fun t ht hW => ⟨⟨_, (), rfl, rfl, ⟨by rw [ht]; exact hP, va_K.moved hW.alike hK, hD⟩⟩, hS.F ht⟩) hS.2.2 dX12_signOf_160
                        · have hM := z_t c14 hM
                          refine lv_bipush (v := 15) hx hb dX12_signOf_153 (by decide) ?_
                          refine lv_goto (tgt := 160) hx hb dX12_signOf_155 (by decide) ?_
                          have hM := hM
                          subst hM
                          exact W.iret (v := 15) hx hb hr (fun t ht hW => ⟨⟨_, (), rfl, rfl, ⟨by rw [ht]; exact hP, va_K.moved hW.alike hK, hD⟩⟩, hS.F ht⟩) hS.2.2 dX12_signOf_160
                      · have hM := z_f c13 hM
                        by_cases c15 : x0 = 61
                        · have hM := z_t c15 hM
                          refine lv_lookup (tgt := 144) (off := 143) hx hb dX12_signOf_1 (by decide +kernel) (by rw [c15]; decide +kernel) (by decide) ?_
                          refine lv_bipush (v := 12) hx hb dX12_signOf_144 (by decide) ?_
                          have hM := hM
                          subst hM
                          exact W.iret (v := 12) hx hb hr (fun t ht hW => ⟨⟨_, (), rfl, rfl, ⟨by rw [ht]; exact hP, va_K.moved hW.alike hK, hD⟩⟩, hS.F ht⟩) hS.2.2 dX12_signOf_146
                        · have hM := z_f c15 hM
                          by_cases c16 : x0 = 62
                          · have hM := z_t c16 hM
                            refine lv_lookup (tgt := 161) (off := 160) hx hb dX12_signOf_1 (by decide +kernel) (by rw [c16]; decide +kernel) (by decide) ?_
                            refine lv_iload_n hx hb dX12_signOf_161 rfl (lv_at hl 1 rfl) ?_
                            refine lv_bipush (v := 61) hx hb dX12_signOf_162 (by decide) ?_
                            refine lv_icmp_ne (tgt := 172) hx hb dX12_signOf_164 (by decide) (fun c17 => ?_) (fun c17 => ?_)
                            · have hM := z_f c17 hM
                              refine lv_bipush (v := 14) hx hb dX12_signOf_172 (by decide) ?_
                              have hM := hM
                              subst hM
                              exact W.iret (v := 14) hx hb hr (fun t ht hW => ⟨⟨_, (), rfl, rfl, ⟨by rw [ht]; exact hP, va_K.moved hW.alike hK, hD⟩⟩, hS.F ht⟩) hS.2.2 dX12_signOf_174
                            · have hM := z_t c17 hM
                              refine lv_bipush (v := 16) hx hb dX12_signOf_167 (by decide) ?_
                              refine lv_goto (tgt := 174) hx hb dX12_signOf_169 (by decide) ?_
                              have hM := hM
                              subst hM
                              exact W.iret (v := 16) hx hb hr (fun t ht hW => ⟨⟨_, (), rfl, rfl, ⟨by rw [ht]; exact hP, va_K.moved hW.alike hK, hD⟩⟩, hS.F ht⟩) hS.2.2 dX12_signOf_174
                          · have hM := z_f c16 hM
                            by_cases c18 : x0 = 94
                            · have hM := z_t c18 hM
                              refine lv_lookup (tgt := 135) (off := 134) hx hb dX12_signOf_1 (by decide +kernel) (by rw [c18]; decide +kernel) (by decide) ?_
                              refine lv_bipush (v := 9) hx hb dX12_signOf_135 (by decide) ?_
                              have hM := hM
                              subst hM
                              exact W.iret (v := 9) hx hb hr (fun t ht hW => ⟨⟨_, (), rfl, rfl, ⟨by rw [ht]; exact hP, va_K.moved hW.alike hK, hD⟩⟩, hS.F ht⟩) hS.2.2 dX12_signOf_137
                            · have hM := z_f c18 hM
                              refine lv_lookup (tgt := 208) (off := 207) hx hb dX12_signOf_1 (by decide +kernel) ((lv_osw c1 rfl).trans ((lv_osw c3 rfl).trans ((lv_osw c4 rfl).trans ((lv_osw c5 rfl).trans ((lv_osw c6 rfl).trans ((lv_osw c7 rfl).trans ((lv_osw c8 rfl).trans ((lv_osw c9 rfl).trans ((lv_osw c11 rfl).trans ((lv_osw c12 rfl).trans ((lv_osw c13 rfl).trans ((lv_osw c15 rfl).trans ((lv_osw c16 rfl).trans ((lv_osw c18 rfl).trans rfl)))))))))))))) (by decide) ?_
                              refine lv_bipush (v := 21) hx hb dX12_signOf_208 (by decide) ?_
                              have hM := hM
                              subst hM
                              exact W.iret (v := 21) hx hb hr (fun t ht hW => ⟨⟨_, (), rfl, rfl, ⟨by rw [ht]; exact hP, va_K.moved hW.alike hK, hD⟩⟩, hS.F ht⟩) hS.2.2 dX12_signOf_210
def fn_Ref_read_b247 (m_length : Int32) (m_text : Nat → Int32) (m_token : Int32) (m_tokenAmount : Int32) (m_ahead : Int32) (x1 : Int32) (k0 : Int32) : Option (Int32 × Int32 × Int32) := (if k0 = 0 then some (m_token, m_tokenAmount, (x1 + 1)) else some (m_token, m_tokenAmount, (x1 + 2)))
def fn_Ref_read_b242 (m_length : Int32) (m_text : Nat → Int32) (m_token : Int32) (m_tokenAmount : Int32) (m_ahead : Int32) (x1 : Int32) : Option (Int32 × Int32 × Int32) := fn_Ref_read_b247 m_length m_text m_token m_tokenAmount m_ahead x1 1
def fn_Ref_read_b166 (m_length : Int32) (m_text : Nat → Int32) (m_token : Int32) (m_tokenAmount : Int32) (m_ahead : Int32) (x1 : Int32) (x3 : Int32) (k1 : Int32) : Option (Int32 × Int32 × Int32) := (if x3 = (-3) then some (m_token, k1, (x1 + 1)) else some (m_token, k1, (x1 + 3)))
def fn_Ref_read_b148 (m_length : Int32) (m_text : Nat → Int32) (m_token : Int32) (m_tokenAmount : Int32) (m_ahead : Int32) (x1 : Int32) (x2 : Int32) (x3 : Int32) (k1 : Int32) : Option (Int32 × Int32 × Int32) := (if x3 = (-3) then fn_Ref_read_b166 m_length m_text k1 m_tokenAmount m_ahead x1 x3 (x2 - 97) else fn_Ref_read_b166 m_length m_text k1 m_tokenAmount m_ahead x1 x3 x3)
def fn_Ref_read_b81 (m_length : Int32) (m_text : Nat → Int32) (k_34_4 : Int32 → Int32 → Int32 → Int32 → Int32 → Option (Int32 × Int32 × Int32)) (m_token : Int32) (m_tokenAmount : Int32) (m_ahead : Int32) (x1 : Int32) (x3 : Int32) (k1 : Int32) : Option (Int32 × Int32 × Int32) := k_34_4 m_token k1 m_ahead x1 (x3 + 1)
def fn_Ref_read_L34 (m_length : Int32) (m_text : Nat → Int32) : Nat → Int32 → Int32 → Int32 → Int32 → Int32 → Option (Int32 × Int32 × Int32)
  | 0 => fun _ _ _ _ _ => none
  | n + 1 => fun m_token m_tokenAmount m_ahead x1 x3 => ((fn_Ref_at m_length m_text x3).bind fun q32 => (if (fn_Ref_in (q32).toInt64 48 57) = 0 then (if (x3 - x1) ≤ 6 then some (1, m_tokenAmount, x3) else some (21, m_tokenAmount, x3)) else (if 6 ≤ (x3 - x1) then fn_Ref_read_b81 m_length m_text (fn_Ref_read_L34 m_length m_text n) m_token m_tokenAmount m_ahead x1 x3 0 else ((fn_Ref_at m_length m_text x3).bind fun q44 => fn_Ref_read_b81 m_length m_text (fn_Ref_read_L34 m_length m_text n) m_token m_tokenAmount m_ahead x1 x3 (((10 * m_tokenAmount) + q44) - 48)))))
def fn_Ref_read (m_length : Int32) (m_token : Int32) (m_tokenAmount : Int32) (m_ahead : Int32) (m_text : Nat → Int32) (x1 : Int32) : Option (Int32 × Int32 × Int32) := ((fn_Ref_at m_length m_text x1).bind fun q1 => (if (fn_Ref_in (q1).toInt64 48 57) = 0 then (if (fn_Ref_in (q1).toInt64 97 122) = 0 then ((fn_Ref_at m_length m_text (x1 + 1)).bind fun q11 => (if (fn_Ref_signOf q1 q11) = 15 then fn_Ref_read_b242 m_length m_text (fn_Ref_signOf q1 q11) 0 (x1 + 1) x1 else (if (fn_Ref_signOf q1 q11) = 16 then fn_Ref_read_b242 m_length m_text (fn_Ref_signOf q1 q11) 0 (x1 + 1) x1 else (if (fn_Ref_signOf q1 q11) = 17 then fn_Ref_read_b242 m_length m_text (fn_Ref_signOf q1 q11) 0 (x1 + 1) x1 else (if (fn_Ref_signOf q1 q11) = 19 then fn_Ref_read_b242 m_length m_text (fn_Ref_signOf q1 q11) 0 (x1 + 1) x1 else fn_Ref_read_b247 m_length m_text (fn_Ref_signOf q1 q11) 0 (x1 + 1) x1 0))))) else ((fn_Ref_functionAt m_length m_text x1).bind fun q23 => (if q23 = (-3) then fn_Ref_read_b148 m_length m_text m_token 0 (x1 + 1) x1 q1 q23 2 else fn_Ref_read_b148 m_length m_text m_token 0 (x1 + 1) x1 q1 q23 3))) else fn_Ref_read_L34 m_length m_text zFU m_token 0 (x1 + 1) x1 x1))
set_option maxHeartbeats 40000000 in
set_option maxRecDepth 100000 in
theorem ct_Ref_read (l : Launch) (D : va_G) (cI cJ cC : ClassId) (adK adV : Nat → Nat) (A_m A_m_text A_m_kind A_m_amount A_m_newKind A_m_newAmount A_m_variable A_m_sort A_m_left A_m_right A_m_what A_m_result A_m_root A_m_relation A_m_operands A_m_operators A_m_functions A_m_output A_m_tasks A_m_forms A_m_formLength A_m_row A_m_statuses A_m_outcomes A_m_heights : Nat) (sz : Nat) (m_length : Int32) (m_tokens : Int32) (m_newTokens : Int32) (m_nodes : Int32) (m_sums : Int32) (m_links : Int32) (m_operandMany : Int32) (m_operatorMany : Int32) (m_status : Int32) (m_outcome : Int64) (m_outputLength : Int32) (m_taskMany : Int32) (m_token : Int32) (m_tokenAmount : Int32) (m_ahead : Int32) (m_depth : Int32) (m_linkMany : Int32) (m_isRange : Int32) (m_primes : Int32) (m_text : Nat → Int32) (x1 : Int32) {rs : Int32 × Int32 × Int32} (hM : fn_Ref_read m_length m_token m_tokenAmount m_ahead m_text x1 = some rs) : Met l yX12_read wsX12_read ({ frames := 2, cells := 0, slots := 0, locals := 45 } : Room) (zP D cI cJ cC adK adV [.ref A_m, .int x1] sz [(A_m, .inr (11, (.int m_length :: .ref A_m_text :: .int m_tokens :: .ref A_m_kind :: .ref A_m_amount :: .int m_newTokens :: .ref A_m_newKind :: .ref A_m_newAmount :: .ref A_m_variable :: .int m_nodes :: .ref A_m_sort :: .ref A_m_left :: .ref A_m_right :: .ref A_m_what :: .ref A_m_result :: .int m_sums :: .ref A_m_root :: .int m_links :: .ref A_m_relation :: .ref A_m_operands :: .int m_operandMany :: .ref A_m_operators :: .ref A_m_functions :: .int m_operatorMany :: .int m_status :: .long m_outcome :: .ref A_m_output :: .int m_outputLength :: .ref A_m_tasks :: .int m_taskMany :: .ref A_m_forms :: .ref A_m_formLength :: .int m_token :: .int m_tokenAmount :: .int m_ahead :: .int m_depth :: .int m_linkMany :: .int m_isRange :: .int m_primes :: .ref A_m_row :: .ref A_m_statuses :: .ref A_m_outcomes :: .ref A_m_heights :: []))), (A_m_text, .inl (cI, 80, .inl m_text))]) (zQv D cI cJ cC [(A_m, .inr (11, (.int m_length :: .ref A_m_text :: .int m_tokens :: .ref A_m_kind :: .ref A_m_amount :: .int m_newTokens :: .ref A_m_newKind :: .ref A_m_newAmount :: .ref A_m_variable :: .int m_nodes :: .ref A_m_sort :: .ref A_m_left :: .ref A_m_right :: .ref A_m_what :: .ref A_m_result :: .int m_sums :: .ref A_m_root :: .int m_links :: .ref A_m_relation :: .ref A_m_operands :: .int m_operandMany :: .ref A_m_operators :: .ref A_m_functions :: .int m_operatorMany :: .int m_status :: .long m_outcome :: .ref A_m_output :: .int m_outputLength :: .ref A_m_tasks :: .int m_taskMany :: .ref A_m_forms :: .ref A_m_formLength :: .int rs.1 :: .int rs.2.1 :: .int rs.2.2 :: .int m_depth :: .int m_linkMany :: .int m_isRange :: .int m_primes :: .ref A_m_row :: .ref A_m_statuses :: .ref A_m_outcomes :: .ref A_m_heights :: []))), (A_m_text, .inl (cI, 80, .inl m_text))] (va_A [(A_m, .inr (11, (.int m_length :: .ref A_m_text :: .int m_tokens :: .ref A_m_kind :: .ref A_m_amount :: .int m_newTokens :: .ref A_m_newKind :: .ref A_m_newAmount :: .ref A_m_variable :: .int m_nodes :: .ref A_m_sort :: .ref A_m_left :: .ref A_m_right :: .ref A_m_what :: .ref A_m_result :: .int m_sums :: .ref A_m_root :: .int m_links :: .ref A_m_relation :: .ref A_m_operands :: .int m_operandMany :: .ref A_m_operators :: .ref A_m_functions :: .int m_operatorMany :: .int m_status :: .long m_outcome :: .ref A_m_output :: .int m_outputLength :: .ref A_m_tasks :: .int m_taskMany :: .ref A_m_forms :: .ref A_m_formLength :: .int m_token :: .int m_tokenAmount :: .int m_ahead :: .int m_depth :: .int m_linkMany :: .int m_isRange :: .int m_primes :: .ref A_m_row :: .ref A_m_statuses :: .ref A_m_outcomes :: .ref A_m_heights :: []))), (A_m_text, .inl (cI, 80, .inl m_text))] sz)) 0 0 (va_A [(A_m, .inr (11, (.int m_length :: .ref A_m_text :: .int m_tokens :: .ref A_m_kind :: .ref A_m_amount :: .int m_newTokens :: .ref A_m_newKind :: .ref A_m_newAmount :: .ref A_m_variable :: .int m_nodes :: .ref A_m_sort :: .ref A_m_left :: .ref A_m_right :: .ref A_m_what :: .ref A_m_result :: .int m_sums :: .ref A_m_root :: .int m_links :: .ref A_m_relation :: .ref A_m_operands :: .int m_operandMany :: .ref A_m_operators :: .ref A_m_functions :: .int m_operatorMany :: .int m_status :: .long m_outcome :: .ref A_m_output :: .int m_outputLength :: .ref A_m_tasks :: .int m_taskMany :: .ref A_m_forms :: .ref A_m_formLength :: .int m_token :: .int m_tokenAmount :: .int m_ahead :: .int m_depth :: .int m_linkMany :: .int m_isRange :: .int m_primes :: .ref A_m_row :: .ref A_m_statuses :: .ref A_m_outcomes :: .ref A_m_heights :: []))), (A_m_text, .inl (cI, 80, .inl m_text))] sz) := by
  refine Met.ofW (cc := cX12_read) (maxL := 4) (ret := none) (by decide) rfl ?_
  intro p e s m args below meth c s₁ B hml hv0
  obtain ⟨hargs, hsz, hP, hK, hD0, hX⟩ := hv0
  have hx := B.exec
  have hb := B.bytes
  have hr := B.returns
  have hts := atoms_spec (ws := wsX12_read) B.pre
  have hown : s.vm.findClass RX12 = some m.cls := findClass_of_methodNamed B.named
  have hlocks := B.notSynchronized
  subst hsz
  have hD := hD0.self (sz := s.heap.size)
  generalize hAe : va_A [(A_m, .inr (11, (.int m_length :: .ref A_m_text :: .int m_tokens :: .ref A_m_kind :: .ref A_m_amount :: .int m_newTokens :: .ref A_m_newKind :: .ref A_m_newAmount :: .ref A_m_variable :: .int m_nodes :: .ref A_m_sort :: .ref A_m_left :: .ref A_m_right :: .ref A_m_what :: .ref A_m_result :: .int m_sums :: .ref A_m_root :: .int m_links :: .ref A_m_relation :: .ref A_m_operands :: .int m_operandMany :: .ref A_m_operators :: .ref A_m_functions :: .int m_operatorMany :: .int m_status :: .long m_outcome :: .ref A_m_output :: .int m_outputLength :: .ref A_m_tasks :: .int m_taskMany :: .ref A_m_forms :: .ref A_m_formLength :: .int m_token :: .int m_tokenAmount :: .int m_ahead :: .int m_depth :: .int m_linkMany :: .int m_isRange :: .int m_primes :: .ref A_m_row :: .ref A_m_statuses :: .ref A_m_outcomes :: .ref A_m_heights :: []))), (A_m_text, .inl (cI, 80, .inl m_text))] s.heap.size = A at hD hX ⊢
  have hA : ∀ q : Nat, s.heap.size ≤ q → A q := fun q h => by rw [← hAe]; exact Or.inr h
  have hS : va_S A s.heap s.heap [] := va_S.rf
  have hl := lv_entry ([.ref A_m, .int x1]) (n := 4) (Nat.le_of_ble_eq_true rfl)
  rw [hargs, lg_entry_eq, ← hargs]
  generalize (lg_sl ([.ref A_m, .int x1]) ++ List.replicate (4 - (lg_sl ([.ref A_m, .int x1])).length) Slot.unset).toArray = ls at hl ⊢
  have hl : lv_has ls 4 [(0, .ref A_m), (1, .int x1)] := hl
  have hw0 : ∀ w ∈ u_ws RX12 TX12 43, w ∈ wsX12_read := by decide +kernel
  have hw1 := hts (.fieldLink RX12 102 "NotationParserModel" "tokenAmount" "I") (by decide +kernel)
  have hw2 := hts (.fieldLink RX12 105 "NotationParserModel" "ahead" "I") (by decide +kernel)
  have hw3 := hts (.fieldLink RX12 112 "NotationParserModel" "token" "I") (by decide +kernel)
  have B_247_1 : ∀ (m_token : Int32) (m_tokenAmount : Int32) (m_ahead : Int32) (x1 : Int32) (k0 : Int32) (H : Heap) (locs : List Loc) (ls : Array Slot), va_P D vwCl [(A_m, .inr (11, (.int m_length :: .ref A_m_text :: .int m_tokens :: .ref A_m_kind :: .ref A_m_amount :: .int m_newTokens :: .ref A_m_newKind :: .ref A_m_newAmount :: .ref A_m_variable :: .int m_nodes :: .ref A_m_sort :: .ref A_m_left :: .ref A_m_right :: .ref A_m_what :: .ref A_m_result :: .int m_sums :: .ref A_m_root :: .int m_links :: .ref A_m_relation :: .ref A_m_operands :: .int m_operandMany :: .ref A_m_operators :: .ref A_m_functions :: .int m_operatorMany :: .int m_status :: .long m_outcome :: .ref A_m_output :: .int m_outputLength :: .ref A_m_tasks :: .int m_taskMany :: .ref A_m_forms :: .ref A_m_formLength :: .int m_token :: .int m_tokenAmount :: .int m_ahead :: .int m_depth :: .int m_linkMany :: .int m_isRange :: .int m_primes :: .ref A_m_row :: .ref A_m_statuses :: .ref A_m_outcomes :: .ref A_m_heights :: []))), (A_m_text, .inl (cI, 80, .inl m_text))] H → va_D A [(A_m, .inr (11, (.int m_length :: .ref A_m_text :: .int m_tokens :: .ref A_m_kind :: .ref A_m_amount :: .int m_newTokens :: .ref A_m_newKind :: .ref A_m_newAmount :: .ref A_m_variable :: .int m_nodes :: .ref A_m_sort :: .ref A_m_left :: .ref A_m_right :: .ref A_m_what :: .ref A_m_result :: .int m_sums :: .ref A_m_root :: .int m_links :: .ref A_m_relation :: .ref A_m_operands :: .int m_operandMany :: .ref A_m_operators :: .ref A_m_functions :: .int m_operatorMany :: .int m_status :: .long m_outcome :: .ref A_m_output :: .int m_outputLength :: .ref A_m_tasks :: .int m_taskMany :: .ref A_m_forms :: .ref A_m_formLength :: .int m_token :: .int m_tokenAmount :: .int m_ahead :: .int m_depth :: .int m_linkMany :: .int m_isRange :: .int m_primes :: .ref A_m_row :: .ref A_m_statuses :: .ref A_m_outcomes :: .ref A_m_heights :: []))), (A_m_text, .inl (cI, 80, .inl m_text))] → va_S A s.heap H locs → lv_has ls 4 [(0, .ref A_m), (1, .int x1)] → fn_Ref_read_b247 m_length m_text m_token m_tokenAmount m_ahead x1 k0 = some rs → W p l e (headSpec wsX12_read ({ frames := 2, cells := 0, slots := 0, locals := 45 } : Room)).room s m args below meth c H locs 0 0 (MQ below (zQv D cI cJ cC [(A_m, .inr (11, (.int m_length :: .ref A_m_text :: .int m_tokens :: .ref A_m_kind :: .ref A_m_amount :: .int m_newTokens :: .ref A_m_newKind :: .ref A_m_newAmount :: .ref A_m_variable :: .int m_nodes :: .ref A_m_sort :: .ref A_m_left :: .ref A_m_right :: .ref A_m_what :: .ref A_m_result :: .int m_sums :: .ref A_m_root :: .int m_links :: .ref A_m_relation :: .ref A_m_operands :: .int m_operandMany :: .ref A_m_operators :: .ref A_m_functions :: .int m_operatorMany :: .int m_status :: .long m_outcome :: .ref A_m_output :: .int m_outputLength :: .ref A_m_tasks :: .int m_taskMany :: .ref A_m_forms :: .ref A_m_formLength :: .int rs.1 :: .int rs.2.1 :: .int rs.2.2 :: .int m_depth :: .int m_linkMany :: .int m_isRange :: .int m_primes :: .ref A_m_row :: .ref A_m_statuses :: .ref A_m_outcomes :: .ref A_m_heights :: []))), (A_m_text, .inl (cI, 80, .inl m_text))] A) args s 0 0 A) (F0 m 247 ls [.int k0]) := by
    intro  m_token m_tokenAmount m_ahead x1 k0 H locs ls hP hD hS hl hM
    refine lv_istore_n (lv' := [(3, .int k0), (0, .ref A_m), (1, .int x1)]) hx hb dX12_read_247 rfl hl (by decide) rfl (fun ls hl => ?_)
    refine lv_aload_n hx hb dX12_read_248 rfl (lv_at hl 1 rfl) ?_
    refine lv_iload_n hx hb dX12_read_249 rfl (lv_at hl 0 rfl) ?_
    refine lv_if_eq (tgt := 259) hx hb dX12_read_250 (by decide) (fun c17 => ?_) (fun c17 => ?_)
    · have hM := z_t c17 hM
      refine lv_iload_n hx hb dX12_read_259 rfl (lv_at hl 2 rfl) ?_
      refine lv_iconst (v := 1) hx hb dX12_read_260 (by decide) ?_
      refine lv_iadd hx hb dX12_read_261 ?_
      refine va_put (D := D) (ci := 11) (v := .int (x1 + 1)) (ty := .int) (C := RX12) (T := TX12) (N := 43) hx hb hts hw0 tyX12 tyX12_ok nmX12 hown hK hP hD hS 0 rfl rfl 34 (by decide) hw2 (fun _ h9 => h9) rfl (by decide +kernel) rfl rfl (Nat.le_of_ble_eq_true rfl) dX12_read_262 (fun H18 locs hP hD hS => ?_)
      have hP : va_P D vwCl [(A_m, .inr (11, (.int m_length :: .ref A_m_text :: .int m_tokens :: .ref A_m_kind :: .ref A_m_amount :: .int m_newTokens :: .ref A_m_newKind :: .ref A_m_newAmount :: .ref A_m_variable :: .int m_nodes :: .ref A_m_sort :: .ref A_m_left :: .ref A_m_right :: .ref A_m_what :: .ref A_m_result :: .int m_sums :: .ref A_m_root :: .int m_links :: .ref A_m_relation :: .ref A_m_operands :: .int m_operandMany :: .ref A_m_operators :: .ref A_m_functions :: .int m_operatorMany :: .int m_status :: .long m_outcome :: .ref A_m_output :: .int m_outputLength :: .ref A_m_tasks :: .int m_taskMany :: .ref A_m_forms :: .ref A_m_formLength :: .int m_token :: .int m_tokenAmount :: .int (x1 + 1) :: .int m_depth :: .int m_linkMany :: .int m_isRange :: .int m_primes :: .ref A_m_row :: .ref A_m_statuses :: .ref A_m_outcomes :: .ref A_m_heights :: []))), (A_m_text, .inl (cI, 80, .inl m_text))] H18 := hP
      have hD : va_D A [(A_m, .inr (11, (.int m_length :: .ref A_m_text :: .int m_tokens :: .ref A_m_kind :: .ref A_m_amount :: .int m_newTokens :: .ref A_m_newKind :: .ref A_m_newAmount :: .ref A_m_variable :: .int m_nodes :: .ref A_m_sort :: .ref A_m_left :: .ref A_m_right :: .ref A_m_what :: .ref A_m_result :: .int m_sums :: .ref A_m_root :: .int m_links :: .ref A_m_relation :: .ref A_m_operands :: .int m_operandMany :: .ref A_m_operators :: .ref A_m_functions :: .int m_operatorMany :: .int m_status :: .long m_outcome :: .ref A_m_output :: .int m_outputLength :: .ref A_m_tasks :: .int m_taskMany :: .ref A_m_forms :: .ref A_m_formLength :: .int m_token :: .int m_tokenAmount :: .int (x1 + 1) :: .int m_depth :: .int m_linkMany :: .int m_isRange :: .int m_primes :: .ref A_m_row :: .ref A_m_statuses :: .ref A_m_outcomes :: .ref A_m_heights :: []))), (A_m_text, .inl (cI, 80, .inl m_text))] := hD
      have hM := Option.some.inj hM
      subst hM
      exact W.vret hx hb hr (fun t ht hW => ⟨⟨(), rfl, trivial, ⟨by rw [ht]; exact hP, va_K.moved hW.alike hK, hD⟩⟩, hS.F ht⟩) hS.2.2 dX12_read_265
    · have hM := z_f c17 hM
      refine lv_iload_n hx hb dX12_read_253 rfl (lv_at hl 2 rfl) ?_
      refine lv_iconst (v := 2) hx hb dX12_read_254 (by decide) ?_
      refine lv_iadd hx hb dX12_read_255 ?_
      refine lv_goto (tgt := 262) hx hb dX12_read_256 (by decide) ?_
      refine va_put (D := D) (ci := 11) (v := .int (x1 + 2)) (ty := .int) (C := RX12) (T := TX12) (N := 43) hx hb hts hw0 tyX12 tyX12_ok nmX12 hown hK hP hD hS 0 rfl rfl 34 (by decide) hw2 (fun _ h9 => h9) rfl (by decide +kernel) rfl rfl (Nat.le_of_ble_eq_true rfl) dX12_read_262 (fun H19 locs hP hD hS => ?_)
      have hP : va_P D vwCl [(A_m, .inr (11, (.int m_length :: .ref A_m_text :: .int m_tokens :: .ref A_m_kind :: .ref A_m_amount :: .int m_newTokens :: .ref A_m_newKind :: .ref A_m_newAmount :: .ref A_m_variable :: .int m_nodes :: .ref A_m_sort :: .ref A_m_left :: .ref A_m_right :: .ref A_m_what :: .ref A_m_result :: .int m_sums :: .ref A_m_root :: .int m_links :: .ref A_m_relation :: .ref A_m_operands :: .int m_operandMany :: .ref A_m_operators :: .ref A_m_functions :: .int m_operatorMany :: .int m_status :: .long m_outcome :: .ref A_m_output :: .int m_outputLength :: .ref A_m_tasks :: .int m_taskMany :: .ref A_m_forms :: .ref A_m_formLength :: .int m_token :: .int m_tokenAmount :: .int (x1 + 2) :: .int m_depth :: .int m_linkMany :: .int m_isRange :: .int m_primes :: .ref A_m_row :: .ref A_m_statuses :: .ref A_m_outcomes :: .ref A_m_heights :: []))), (A_m_text, .inl (cI, 80, .inl m_text))] H19 := hP
      have hD : va_D A [(A_m, .inr (11, (.int m_length :: .ref A_m_text :: .int m_tokens :: .ref A_m_kind :: .ref A_m_amount :: .int m_newTokens :: .ref A_m_newKind :: .ref A_m_newAmount :: .ref A_m_variable :: .int m_nodes :: .ref A_m_sort :: .ref A_m_left :: .ref A_m_right :: .ref A_m_what :: .ref A_m_result :: .int m_sums :: .ref A_m_root :: .int m_links :: .ref A_m_relation :: .ref A_m_operands :: .int m_operandMany :: .ref A_m_operators :: .ref A_m_functions :: .int m_operatorMany :: .int m_status :: .long m_outcome :: .ref A_m_output :: .int m_outputLength :: .ref A_m_tasks :: .int m_taskMany :: .ref A_m_forms :: .ref A_m_formLength :: .int m_token :: .int m_tokenAmount :: .int (x1 + 2) :: .int m_depth :: .int m_linkMany :: .int m_isRange :: .int m_primes :: .ref A_m_row :: .ref A_m_statuses :: .ref A_m_outcomes :: .ref A_m_heights :: []))), (A_m_text, .inl (cI, 80, .inl m_text))] := hD
      have hM := Option.some.inj hM
      subst hM
      exact W.vret hx hb hr (fun t ht hW => ⟨⟨(), rfl, trivial, ⟨by rw [ht]; exact hP, va_K.moved hW.alike hK, hD⟩⟩, hS.F ht⟩) hS.2.2 dX12_read_265
  have B_242_0 : ∀ (m_token : Int32) (m_tokenAmount : Int32) (m_ahead : Int32) (x1 : Int32) (H : Heap) (locs : List Loc) (ls : Array Slot), va_P D vwCl [(A_m, .inr (11, (.int m_length :: .ref A_m_text :: .int m_tokens :: .ref A_m_kind :: .ref A_m_amount :: .int m_newTokens :: .ref A_m_newKind :: .ref A_m_newAmount :: .ref A_m_variable :: .int m_nodes :: .ref A_m_sort :: .ref A_m_left :: .ref A_m_right :: .ref A_m_what :: .ref A_m_result :: .int m_sums :: .ref A_m_root :: .int m_links :: .ref A_m_relation :: .ref A_m_operands :: .int m_operandMany :: .ref A_m_operators :: .ref A_m_functions :: .int m_operatorMany :: .int m_status :: .long m_outcome :: .ref A_m_output :: .int m_outputLength :: .ref A_m_tasks :: .int m_taskMany :: .ref A_m_forms :: .ref A_m_formLength :: .int m_token :: .int m_tokenAmount :: .int m_ahead :: .int m_depth :: .int m_linkMany :: .int m_isRange :: .int m_primes :: .ref A_m_row :: .ref A_m_statuses :: .ref A_m_outcomes :: .ref A_m_heights :: []))), (A_m_text, .inl (cI, 80, .inl m_text))] H → va_D A [(A_m, .inr (11, (.int m_length :: .ref A_m_text :: .int m_tokens :: .ref A_m_kind :: .ref A_m_amount :: .int m_newTokens :: .ref A_m_newKind :: .ref A_m_newAmount :: .ref A_m_variable :: .int m_nodes :: .ref A_m_sort :: .ref A_m_left :: .ref A_m_right :: .ref A_m_what :: .ref A_m_result :: .int m_sums :: .ref A_m_root :: .int m_links :: .ref A_m_relation :: .ref A_m_operands :: .int m_operandMany :: .ref A_m_operators :: .ref A_m_functions :: .int m_operatorMany :: .int m_status :: .long m_outcome :: .ref A_m_output :: .int m_outputLength :: .ref A_m_tasks :: .int m_taskMany :: .ref A_m_forms :: .ref A_m_formLength :: .int m_token :: .int m_tokenAmount :: .int m_ahead :: .int m_depth :: .int m_linkMany :: .int m_isRange :: .int m_primes :: .ref A_m_row :: .ref A_m_statuses :: .ref A_m_outcomes :: .ref A_m_heights :: []))), (A_m_text, .inl (cI, 80, .inl m_text))] → va_S A s.heap H locs → lv_has ls 4 [(0, .ref A_m), (1, .int x1)] → fn_Ref_read_b242 m_length m_text m_token m_tokenAmount m_ahead x1 = some rs → W p l e (headSpec wsX12_read ({ frames := 2, cells := 0, slots := 0, locals := 45 } : Room)).room s m args below meth c H locs 0 0 (MQ below (zQv D cI cJ cC [(A_m, .inr (11, (.int m_length :: .ref A_m_text :: .int m_tokens :: .ref A_m_kind :: .ref A_m_amount :: .int m_newTokens :: .ref A_m_newKind :: .ref A_m_newAmount :: .ref A_m_variable :: .int m_nodes :: .ref A_m_sort :: .ref A_m_left :: .ref A_m_right :: .ref A_m_what :: .ref A_m_result :: .int m_sums :: .ref A_m_root :: .int m_links :: .ref A_m_relation :: .ref A_m_operands :: .int m_operandMany :: .ref A_m_operators :: .ref A_m_functions :: .int m_operatorMany :: .int m_status :: .long m_outcome :: .ref A_m_output :: .int m_outputLength :: .ref A_m_tasks :: .int m_taskMany :: .ref A_m_forms :: .ref A_m_formLength :: .int rs.1 :: .int rs.2.1 :: .int rs.2.2 :: .int m_depth :: .int m_linkMany :: .int m_isRange :: .int m_primes :: .ref A_m_row :: .ref A_m_statuses :: .ref A_m_outcomes :: .ref A_m_heights :: []))), (A_m_text, .inl (cI, 80, .inl m_text))] A) args s 0 0 A) (F0 m 242 ls []) := by
    intro  m_token m_tokenAmount m_ahead x1 H locs ls hP hD hS hl hM
    refine lv_iconst (v := 1) hx hb dX12_read_242 (by decide) ?_
    refine lv_goto (tgt := 247) hx hb dX12_read_243 (by decide) ?_
    exact B_247_1  m_token m_tokenAmount m_ahead x1 1 _ _ ls hP hD hS (lv_sub hl [0, 1] rfl) hM
  have B_166_3 : ∀ (m_token : Int32) (m_tokenAmount : Int32) (m_ahead : Int32) (x1 : Int32) (x3 : Int32) (k1 : Int32) (H : Heap) (locs : List Loc) (ls : Array Slot), va_P D vwCl [(A_m, .inr (11, (.int m_length :: .ref A_m_text :: .int m_tokens :: .ref A_m_kind :: .ref A_m_amount :: .int m_newTokens :: .ref A_m_newKind :: .ref A_m_newAmount :: .ref A_m_variable :: .int m_nodes :: .ref A_m_sort :: .ref A_m_left :: .ref A_m_right :: .ref A_m_what :: .ref A_m_result :: .int m_sums :: .ref A_m_root :: .int m_links :: .ref A_m_relation :: .ref A_m_operands :: .int m_operandMany :: .ref A_m_operators :: .ref A_m_functions :: .int m_operatorMany :: .int m_status :: .long m_outcome :: .ref A_m_output :: .int m_outputLength :: .ref A_m_tasks :: .int m_taskMany :: .ref A_m_forms :: .ref A_m_formLength :: .int m_token :: .int m_tokenAmount :: .int m_ahead :: .int m_depth :: .int m_linkMany :: .int m_isRange :: .int m_primes :: .ref A_m_row :: .ref A_m_statuses :: .ref A_m_outcomes :: .ref A_m_heights :: []))), (A_m_text, .inl (cI, 80, .inl m_text))] H → va_D A [(A_m, .inr (11, (.int m_length :: .ref A_m_text :: .int m_tokens :: .ref A_m_kind :: .ref A_m_amount :: .int m_newTokens :: .ref A_m_newKind :: .ref A_m_newAmount :: .ref A_m_variable :: .int m_nodes :: .ref A_m_sort :: .ref A_m_left :: .ref A_m_right :: .ref A_m_what :: .ref A_m_result :: .int m_sums :: .ref A_m_root :: .int m_links :: .ref A_m_relation :: .ref A_m_operands :: .int m_operandMany :: .ref A_m_operators :: .ref A_m_functions :: .int m_operatorMany :: .int m_status :: .long m_outcome :: .ref A_m_output :: .int m_outputLength :: .ref A_m_tasks :: .int m_taskMany :: .ref A_m_forms :: .ref A_m_formLength :: .int m_token :: .int m_tokenAmount :: .int m_ahead :: .int m_depth :: .int m_linkMany :: .int m_isRange :: .int m_primes :: .ref A_m_row :: .ref A_m_statuses :: .ref A_m_outcomes :: .ref A_m_heights :: []))), (A_m_text, .inl (cI, 80, .inl m_text))] → va_S A s.heap H locs → lv_has ls 4 [(0, .ref A_m), (1, .int x1), (3, .int x3)] → fn_Ref_read_b166 m_length m_text m_token m_tokenAmount m_ahead x1 x3 k1 = some rs → W p l e (headSpec wsX12_read ({ frames := 2, cells := 0, slots := 0, locals := 45 } : Room)).room s m args below meth c H locs 0 0 (MQ below (zQv D cI cJ cC [(A_m, .inr (11, (.int m_length :: .ref A_m_text :: .int m_tokens :: .ref A_m_kind :: .ref A_m_amount :: .int m_newTokens :: .ref A_m_newKind :: .ref A_m_newAmount :: .ref A_m_variable :: .int m_nodes :: .ref A_m_sort :: .ref A_m_left :: .ref A_m_right :: .ref A_m_what :: .ref A_m_result :: .int m_sums :: .ref A_m_root :: .int m_links :: .ref A_m_relation :: .ref A_m_operands :: .int m_operandMany :: .ref A_m_operators :: .ref A_m_functions :: .int m_operatorMany :: .int m_status :: .long m_outcome :: .ref A_m_output :: .int m_outputLength :: .ref A_m_tasks :: .int m_taskMany :: .ref A_m_forms :: .ref A_m_formLength :: .int rs.1 :: .int rs.2.1 :: .int rs.2.2 :: .int m_depth :: .int m_linkMany :: .int m_isRange :: .int m_primes :: .ref A_m_row :: .ref A_m_statuses :: .ref A_m_outcomes :: .ref A_m_heights :: []))), (A_m_text, .inl (cI, 80, .inl m_text))] A) args s 0 0 A) (F0 m 166 ls [.int k1, .ref A_m]) := by
    intro  m_token m_tokenAmount m_ahead x1 x3 k1 H locs ls hP hD hS hl hM
    refine va_put (D := D) (ci := 11) (v := .int k1) (ty := .int) (C := RX12) (T := TX12) (N := 43) hx hb hts hw0 tyX12 tyX12_ok nmX12 hown hK hP hD hS 0 rfl rfl 33 (by decide) hw1 (fun _ h9 => h9) rfl (by decide +kernel) rfl rfl (Nat.le_of_ble_eq_true rfl) dX12_read_166 (fun H28 locs hP hD hS => ?_)
    have hP : va_P D vwCl [(A_m, .inr (11, (.int m_length :: .ref A_m_text :: .int m_tokens :: .ref A_m_kind :: .ref A_m_amount :: .int m_newTokens :: .ref A_m_newKind :: .ref A_m_newAmount :: .ref A_m_variable :: .int m_nodes :: .ref A_m_sort :: .ref A_m_left :: .ref A_m_right :: .ref A_m_what :: .ref A_m_result :: .int m_sums :: .ref A_m_root :: .int m_links :: .ref A_m_relation :: .ref A_m_operands :: .int m_operandMany :: .ref A_m_operators :: .ref A_m_functions :: .int m_operatorMany :: .int m_status :: .long m_outcome :: .ref A_m_output :: .int m_outputLength :: .ref A_m_tasks :: .int m_taskMany :: .ref A_m_forms :: .ref A_m_formLength :: .int m_token :: .int k1 :: .int m_ahead :: .int m_depth :: .int m_linkMany :: .int m_isRange :: .int m_primes :: .ref A_m_row :: .ref A_m_statuses :: .ref A_m_outcomes :: .ref A_m_heights :: []))), (A_m_text, .inl (cI, 80, .inl m_text))] H28 := hP
    have hD : va_D A [(A_m, .inr (11, (.int m_length :: .ref A_m_text :: .int m_tokens :: .ref A_m_kind :: .ref A_m_amount :: .int m_newTokens :: .ref A_m_newKind :: .ref A_m_newAmount :: .ref A_m_variable :: .int m_nodes :: .ref A_m_sort :: .ref A_m_left :: .ref A_m_right :: .ref A_m_what :: .ref A_m_result :: .int m_sums :: .ref A_m_root :: .int m_links :: .ref A_m_relation :: .ref A_m_operands :: .int m_operandMany :: .ref A_m_operators :: .ref A_m_functions :: .int m_operatorMany :: .int m_status :: .long m_outcome :: .ref A_m_output :: .int m_outputLength :: .ref A_m_tasks :: .int m_taskMany :: .ref A_m_forms :: .ref A_m_formLength :: .int m_token :: .int k1 :: .int m_ahead :: .int m_depth :: .int m_linkMany :: .int m_isRange :: .int m_primes :: .ref A_m_row :: .ref A_m_statuses :: .ref A_m_outcomes :: .ref A_m_heights :: []))), (A_m_text, .inl (cI, 80, .inl m_text))] := hD
    refine lv_aload_n hx hb dX12_read_169 rfl (lv_at hl 0 rfl) ?_
    refine lv_iload_n hx hb dX12_read_170 rfl (lv_at hl 2 rfl) ?_
    refine lv_bipush (v := (-3)) hx hb dX12_read_171 (by decide) ?_
    refine lv_icmp_ne (tgt := 182) hx hb dX12_read_173 (by decide) (fun c29 => ?_) (fun c29 => ?_)
    · have hM := z_f c29 hM
      refine lv_iload_n hx hb dX12_read_182 rfl (lv_at hl 1 rfl) ?_
      refine lv_iconst (v := 3) hx hb dX12_read_183 (by decide) ?_
      refine lv_iadd hx hb dX12_read_184 ?_
      refine va_put (D := D) (ci := 11) (v := .int (x1 + 3)) (ty := .int) (C := RX12) (T := TX12) (N := 43) hx hb hts hw0 tyX12 tyX12_ok nmX12 hown hK hP hD hS 0 rfl rfl 34 (by decide) hw2 (fun _ h9 => h9) rfl (by decide +kernel) rfl rfl (Nat.le_of_ble_eq_true rfl) dX12_read_185 (fun H30 locs hP hD hS => ?_)
      have hP : va_P D vwCl [(A_m, .inr (11, (.int m_length :: .ref A_m_text :: .int m_tokens :: .ref A_m_kind :: .ref A_m_amount :: .int m_newTokens :: .ref A_m_newKind :: .ref A_m_newAmount :: .ref A_m_variable :: .int m_nodes :: .ref A_m_sort :: .ref A_m_left :: .ref A_m_right :: .ref A_m_what :: .ref A_m_result :: .int m_sums :: .ref A_m_root :: .int m_links :: .ref A_m_relation :: .ref A_m_operands :: .int m_operandMany :: .ref A_m_operators :: .ref A_m_functions :: .int m_operatorMany :: .int m_status :: .long m_outcome :: .ref A_m_output :: .int m_outputLength :: .ref A_m_tasks :: .int m_taskMany :: .ref A_m_forms :: .ref A_m_formLength :: .int m_token :: .int k1 :: .int (x1 + 3) :: .int m_depth :: .int m_linkMany :: .int m_isRange :: .int m_primes :: .ref A_m_row :: .ref A_m_statuses :: .ref A_m_outcomes :: .ref A_m_heights :: []))), (A_m_text, .inl (cI, 80, .inl m_text))] H30 := hP
      have hD : va_D A [(A_m, .inr (11, (.int m_length :: .ref A_m_text :: .int m_tokens :: .ref A_m_kind :: .ref A_m_amount :: .int m_newTokens :: .ref A_m_newKind :: .ref A_m_newAmount :: .ref A_m_variable :: .int m_nodes :: .ref A_m_sort :: .ref A_m_left :: .ref A_m_right :: .ref A_m_what :: .ref A_m_result :: .int m_sums :: .ref A_m_root :: .int m_links :: .ref A_m_relation :: .ref A_m_operands :: .int m_operandMany :: .ref A_m_operators :: .ref A_m_functions :: .int m_operatorMany :: .int m_status :: .long m_outcome :: .ref A_m_output :: .int m_outputLength :: .ref A_m_tasks :: .int m_taskMany :: .ref A_m_forms :: .ref A_m_formLength :: .int m_token :: .int k1 :: .int (x1 + 3) :: .int m_depth :: .int m_linkMany :: .int m_isRange :: .int m_primes :: .ref A_m_row :: .ref A_m_statuses :: .ref A_m_outcomes :: .ref A_m_heights :: []))), (A_m_text, .inl (cI, 80, .inl m_text))] := hD
      refine lv_goto (tgt := 265) hx hb dX12_read_188 (by decide) ?_
      have hM := Option.some.inj hM
      subst hM
      exact W.vret hx hb hr (fun t ht hW => ⟨⟨(), rfl, trivial, ⟨by rw [ht]; exact hP, va_K.moved hW.alike hK, hD⟩⟩, hS.F ht⟩) hS.2.2 dX12_read_265
    · have hM := z_t c29 hM
      refine lv_iload_n hx hb dX12_read_176 rfl (lv_at hl 1 rfl) ?_
      refine lv_iconst (v := 1) hx hb dX12_read_177 (by decide) ?_
      refine lv_iadd hx hb dX12_read_178 ?_
      refine lv_goto (tgt := 185) hx hb dX12_read_179 (by decide) ?_
      refine va_put (D := D) (ci := 11) (v := .int (x1 + 1)) (ty := .int) (C := RX12) (T := TX12) (N := 43) hx hb hts hw0 tyX12 tyX12_ok nmX12 hown hK hP hD hS 0 rfl rfl 34 (by decide) hw2 (fun _ h9 => h9) rfl (by decide +kernel) rfl rfl (Nat.le_of_ble_eq_true rfl) dX12_read_185 (fun H31 locs hP hD hS => ?_)
      have hP : va_P D vwCl [(A_m, .inr (11, (.int m_length :: .ref A_m_text :: .int m_tokens :: .ref A_m_kind :: .ref A_m_amount :: .int m_newTokens :: .ref A_m_newKind :: .ref A_m_newAmount :: .ref A_m_variable :: .int m_nodes :: .ref A_m_sort :: .ref A_m_left :: .ref A_m_right :: .ref A_m_what :: .ref A_m_result :: .int m_sums :: .ref A_m_root :: .int m_links :: .ref A_m_relation :: .ref A_m_operands :: .int m_operandMany :: .ref A_m_operators :: .ref A_m_functions :: .int m_operatorMany :: .int m_status :: .long m_outcome :: .ref A_m_output :: .int m_outputLength :: .ref A_m_tasks :: .int m_taskMany :: .ref A_m_forms :: .ref A_m_formLength :: .int m_token :: .int k1 :: .int (x1 + 1) :: .int m_depth :: .int m_linkMany :: .int m_isRange :: .int m_primes :: .ref A_m_row :: .ref A_m_statuses :: .ref A_m_outcomes :: .ref A_m_heights :: []))), (A_m_text, .inl (cI, 80, .inl m_text))] H31 := hP
      have hD : va_D A [(A_m, .inr (11, (.int m_length :: .ref A_m_text :: .int m_tokens :: .ref A_m_kind :: .ref A_m_amount :: .int m_newTokens :: .ref A_m_newKind :: .ref A_m_newAmount :: .ref A_m_variable :: .int m_nodes :: .ref A_m_sort :: .ref A_m_left :: .ref A_m_right :: .ref A_m_what :: .ref A_m_result :: .int m_sums :: .ref A_m_root :: .int m_links :: .ref A_m_relation :: .ref A_m_operands :: .int m_operandMany :: .ref A_m_operators :: .ref A_m_functions :: .int m_operatorMany :: .int m_status :: .long m_outcome :: .ref A_m_output :: .int m_outputLength :: .ref A_m_tasks :: .int m_taskMany :: .ref A_m_forms :: .ref A_m_formLength :: .int m_token :: .int k1 :: .int (x1 + 1) :: .int m_depth :: .int m_linkMany :: .int m_isRange :: .int m_primes :: .ref A_m_row :: .ref A_m_statuses :: .ref A_m_outcomes :: .ref A_m_heights :: []))), (A_m_text, .inl (cI, 80, .inl m_text))] := hD
      refine lv_goto (tgt := 265) hx hb dX12_read_188 (by decide) ?_
      have hM := Option.some.inj hM
      subst hM
      exact W.vret hx hb hr (fun t ht hW => ⟨⟨(), rfl, trivial, ⟨by rw [ht]; exact hP, va_K.moved hW.alike hK, hD⟩⟩, hS.F ht⟩) hS.2.2 dX12_read_265
  have B_148_2 : ∀ (m_token : Int32) (m_tokenAmount : Int32) (m_ahead : Int32) (x1 : Int32) (x2 : Int32) (x3 : Int32) (k1 : Int32) (H : Heap) (locs : List Loc) (ls : Array Slot), va_P D vwCl [(A_m, .inr (11, (.int m_length :: .ref A_m_text :: .int m_tokens :: .ref A_m_kind :: .ref A_m_amount :: .int m_newTokens :: .ref A_m_newKind :: .ref A_m_newAmount :: .ref A_m_variable :: .int m_nodes :: .ref A_m_sort :: .ref A_m_left :: .ref A_m_right :: .ref A_m_what :: .ref A_m_result :: .int m_sums :: .ref A_m_root :: .int m_links :: .ref A_m_relation :: .ref A_m_operands :: .int m_operandMany :: .ref A_m_operators :: .ref A_m_functions :: .int m_operatorMany :: .int m_status :: .long m_outcome :: .ref A_m_output :: .int m_outputLength :: .ref A_m_tasks :: .int m_taskMany :: .ref A_m_forms :: .ref A_m_formLength :: .int m_token :: .int m_tokenAmount :: .int m_ahead :: .int m_depth :: .int m_linkMany :: .int m_isRange :: .int m_primes :: .ref A_m_row :: .ref A_m_statuses :: .ref A_m_outcomes :: .ref A_m_heights :: []))), (A_m_text, .inl (cI, 80, .inl m_text))] H → va_D A [(A_m, .inr (11, (.int m_length :: .ref A_m_text :: .int m_tokens :: .ref A_m_kind :: .ref A_m_amount :: .int m_newTokens :: .ref A_m_newKind :: .ref A_m_newAmount :: .ref A_m_variable :: .int m_nodes :: .ref A_m_sort :: .ref A_m_left :: .ref A_m_right :: .ref A_m_what :: .ref A_m_result :: .int m_sums :: .ref A_m_root :: .int m_links :: .ref A_m_relation :: .ref A_m_operands :: .int m_operandMany :: .ref A_m_operators :: .ref A_m_functions :: .int m_operatorMany :: .int m_status :: .long m_outcome :: .ref A_m_output :: .int m_outputLength :: .ref A_m_tasks :: .int m_taskMany :: .ref A_m_forms :: .ref A_m_formLength :: .int m_token :: .int m_tokenAmount :: .int m_ahead :: .int m_depth :: .int m_linkMany :: .int m_isRange :: .int m_primes :: .ref A_m_row :: .ref A_m_statuses :: .ref A_m_outcomes :: .ref A_m_heights :: []))), (A_m_text, .inl (cI, 80, .inl m_text))] → va_S A s.heap H locs → lv_has ls 4 [(0, .ref A_m), (1, .int x1), (2, .int x2), (3, .int x3)] → fn_Ref_read_b148 m_length m_text m_token m_tokenAmount m_ahead x1 x2 x3 k1 = some rs → W p l e (headSpec wsX12_read ({ frames := 2, cells := 0, slots := 0, locals := 45 } : Room)).room s m args below meth c H locs 0 0 (MQ below (zQv D cI cJ cC [(A_m, .inr (11, (.int m_length :: .ref A_m_text :: .int m_tokens :: .ref A_m_kind :: .ref A_m_amount :: .int m_newTokens :: .ref A_m_newKind :: .ref A_m_newAmount :: .ref A_m_variable :: .int m_nodes :: .ref A_m_sort :: .ref A_m_left :: .ref A_m_right :: .ref A_m_what :: .ref A_m_result :: .int m_sums :: .ref A_m_root :: .int m_links :: .ref A_m_relation :: .ref A_m_operands :: .int m_operandMany :: .ref A_m_operators :: .ref A_m_functions :: .int m_operatorMany :: .int m_status :: .long m_outcome :: .ref A_m_output :: .int m_outputLength :: .ref A_m_tasks :: .int m_taskMany :: .ref A_m_forms :: .ref A_m_formLength :: .int rs.1 :: .int rs.2.1 :: .int rs.2.2 :: .int m_depth :: .int m_linkMany :: .int m_isRange :: .int m_primes :: .ref A_m_row :: .ref A_m_statuses :: .ref A_m_outcomes :: .ref A_m_heights :: []))), (A_m_text, .inl (cI, 80, .inl m_text))] A) args s 0 0 A) (F0 m 148 ls [.int k1, .ref A_m]) := by
    intro  m_token m_tokenAmount m_ahead x1 x2 x3 k1 H locs ls hP hD hS hl hM
    refine va_put (D := D) (ci := 11) (v := .int k1) (ty := .int) (C := RX12) (T := TX12) (N := 43) hx hb hts hw0 tyX12 tyX12_ok nmX12 hown hK hP hD hS 0 rfl rfl 32 (by decide) hw3 (fun _ h9 => h9) rfl (by decide +kernel) rfl rfl (Nat.le_of_ble_eq_true rfl) dX12_read_148 (fun H26 locs hP hD hS => ?_)
    have hP : va_P D vwCl [(A_m, .inr (11, (.int m_length :: .ref A_m_text :: .int m_tokens :: .ref A_m_kind :: .ref A_m_amount :: .int m_newTokens :: .ref A_m_newKind :: .ref A_m_newAmount :: .ref A_m_variable :: .int m_nodes :: .ref A_m_sort :: .ref A_m_left :: .ref A_m_right :: .ref A_m_what :: .ref A_m_result :: .int m_sums :: .ref A_m_root :: .int m_links :: .ref A_m_relation :: .ref A_m_operands :: .int m_operandMany :: .ref A_m_operators :: .ref A_m_functions :: .int m_operatorMany :: .int m_status :: .long m_outcome :: .ref A_m_output :: .int m_outputLength :: .ref A_m_tasks :: .int m_taskMany :: .ref A_m_forms :: .ref A_m_formLength :: .int k1 :: .int m_tokenAmount :: .int m_ahead :: .int m_depth :: .int m_linkMany :: .int m_isRange :: .int m_primes :: .ref A_m_row :: .ref A_m_statuses :: .ref A_m_outcomes :: .ref A_m_heights :: []))), (A_m_text, .inl (cI, 80, .inl m_text))] H26 := hP
    have hD : va_D A [(A_m, .inr (11, (.int m_length :: .ref A_m_text :: .int m_tokens :: .ref A_m_kind :: .ref A_m_amount :: .int m_newTokens :: .ref A_m_newKind :: .ref A_m_newAmount :: .ref A_m_variable :: .int m_nodes :: .ref A_m_sort :: .ref A_m_left :: .ref A_m_right :: .ref A_m_what :: .ref A_m_result :: .int m_sums :: .ref A_m_root :: .int m_links :: .ref A_m_relation :: .ref A_m_operands :: .int m_operandMany :: .ref A_m_operators :: .ref A_m_functions :: .int m_operatorMany :: .int m_status :: .long m_outcome :: .ref A_m_output :: .int m_outputLength :: .ref A_m_tasks :: .int m_taskMany :: .ref A_m_forms :: .ref A_m_formLength :: .int k1 :: .int m_tokenAmount :: .int m_ahead :: .int m_depth :: .int m_linkMany :: .int m_isRange :: .int m_primes :: .ref A_m_row :: .ref A_m_statuses :: .ref A_m_outcomes :: .ref A_m_heights :: []))), (A_m_text, .inl (cI, 80, .inl m_text))] := hD
    refine lv_aload_n hx hb dX12_read_151 rfl (lv_at hl 0 rfl) ?_
    refine lv_iload_n hx hb dX12_read_152 rfl (lv_at hl 3 rfl) ?_
    refine lv_bipush (v := (-3)) hx hb dX12_read_153 (by decide) ?_
    refine lv_icmp_ne (tgt := 165) hx hb dX12_read_155 (by decide) (fun c27 => ?_) (fun c27 => ?_)
    · have hM := z_f c27 hM
      refine lv_iload_n hx hb dX12_read_165 rfl (lv_at hl 3 rfl) ?_
      exact B_166_3  k1 m_tokenAmount m_ahead x1 x3 x3 _ _ ls hP hD hS (lv_sub hl [0, 1, 3] rfl) hM
    · have hM := z_t c27 hM
      refine lv_iload_n hx hb dX12_read_158 rfl (lv_at hl 2 rfl) ?_
      refine lv_bipush (v := 97) hx hb dX12_read_159 (by decide) ?_
      refine lv_isub hx hb dX12_read_161 ?_
      refine lv_goto (tgt := 166) hx hb dX12_read_162 (by decide) ?_
      exact B_166_3  k1 m_tokenAmount m_ahead x1 x3 (x2 - 97) _ _ ls hP hD hS (lv_sub hl [0, 1, 3] rfl) hM
  have B_81_5 : ∀ (k_34_4 : Int32 → Int32 → Int32 → Int32 → Int32 → Option (Int32 × Int32 × Int32)) (hk_34_4 : ∀ (m_token : Int32) (m_tokenAmount : Int32) (m_ahead : Int32) (x1 : Int32) (x3 : Int32) (H : Heap) (locs : List Loc) (ls : Array Slot), va_P D vwCl [(A_m, .inr (11, (.int m_length :: .ref A_m_text :: .int m_tokens :: .ref A_m_kind :: .ref A_m_amount :: .int m_newTokens :: .ref A_m_newKind :: .ref A_m_newAmount :: .ref A_m_variable :: .int m_nodes :: .ref A_m_sort :: .ref A_m_left :: .ref A_m_right :: .ref A_m_what :: .ref A_m_result :: .int m_sums :: .ref A_m_root :: .int m_links :: .ref A_m_relation :: .ref A_m_operands :: .int m_operandMany :: .ref A_m_operators :: .ref A_m_functions :: .int m_operatorMany :: .int m_status :: .long m_outcome :: .ref A_m_output :: .int m_outputLength :: .ref A_m_tasks :: .int m_taskMany :: .ref A_m_forms :: .ref A_m_formLength :: .int m_token :: .int m_tokenAmount :: .int m_ahead :: .int m_depth :: .int m_linkMany :: .int m_isRange :: .int m_primes :: .ref A_m_row :: .ref A_m_statuses :: .ref A_m_outcomes :: .ref A_m_heights :: []))), (A_m_text, .inl (cI, 80, .inl m_text))] H → va_D A [(A_m, .inr (11, (.int m_length :: .ref A_m_text :: .int m_tokens :: .ref A_m_kind :: .ref A_m_amount :: .int m_newTokens :: .ref A_m_newKind :: .ref A_m_newAmount :: .ref A_m_variable :: .int m_nodes :: .ref A_m_sort :: .ref A_m_left :: .ref A_m_right :: .ref A_m_what :: .ref A_m_result :: .int m_sums :: .ref A_m_root :: .int m_links :: .ref A_m_relation :: .ref A_m_operands :: .int m_operandMany :: .ref A_m_operators :: .ref A_m_functions :: .int m_operatorMany :: .int m_status :: .long m_outcome :: .ref A_m_output :: .int m_outputLength :: .ref A_m_tasks :: .int m_taskMany :: .ref A_m_forms :: .ref A_m_formLength :: .int m_token :: .int m_tokenAmount :: .int m_ahead :: .int m_depth :: .int m_linkMany :: .int m_isRange :: .int m_primes :: .ref A_m_row :: .ref A_m_statuses :: .ref A_m_outcomes :: .ref A_m_heights :: []))), (A_m_text, .inl (cI, 80, .inl m_text))] → va_S A s.heap H locs → lv_has ls 4 [(0, .ref A_m), (1, .int x1), (3, .int x3)] → k_34_4 m_token m_tokenAmount m_ahead x1 x3 = some rs → W p l e (headSpec wsX12_read ({ frames := 2, cells := 0, slots := 0, locals := 45 } : Room)).room s m args below meth c H locs 0 0 (MQ below (zQv D cI cJ cC [(A_m, .inr (11, (.int m_length :: .ref A_m_text :: .int m_tokens :: .ref A_m_kind :: .ref A_m_amount :: .int m_newTokens :: .ref A_m_newKind :: .ref A_m_newAmount :: .ref A_m_variable :: .int m_nodes :: .ref A_m_sort :: .ref A_m_left :: .ref A_m_right :: .ref A_m_what :: .ref A_m_result :: .int m_sums :: .ref A_m_root :: .int m_links :: .ref A_m_relation :: .ref A_m_operands :: .int m_operandMany :: .ref A_m_operators :: .ref A_m_functions :: .int m_operatorMany :: .int m_status :: .long m_outcome :: .ref A_m_output :: .int m_outputLength :: .ref A_m_tasks :: .int m_taskMany :: .ref A_m_forms :: .ref A_m_formLength :: .int rs.1 :: .int rs.2.1 :: .int rs.2.2 :: .int m_depth :: .int m_linkMany :: .int m_isRange :: .int m_primes :: .ref A_m_row :: .ref A_m_statuses :: .ref A_m_outcomes :: .ref A_m_heights :: []))), (A_m_text, .inl (cI, 80, .inl m_text))] A) args s 0 0 A) (F0 m 34 ls [])) (m_token : Int32) (m_tokenAmount : Int32) (m_ahead : Int32) (x1 : Int32) (x3 : Int32) (k1 : Int32) (H : Heap) (locs : List Loc) (ls : Array Slot), va_P D vwCl [(A_m, .inr (11, (.int m_length :: .ref A_m_text :: .int m_tokens :: .ref A_m_kind :: .ref A_m_amount :: .int m_newTokens :: .ref A_m_newKind :: .ref A_m_newAmount :: .ref A_m_variable :: .int m_nodes :: .ref A_m_sort :: .ref A_m_left :: .ref A_m_right :: .ref A_m_what :: .ref A_m_result :: .int m_sums :: .ref A_m_root :: .int m_links :: .ref A_m_relation :: .ref A_m_operands :: .int m_operandMany :: .ref A_m_operators :: .ref A_m_functions :: .int m_operatorMany :: .int m_status :: .long m_outcome :: .ref A_m_output :: .int m_outputLength :: .ref A_m_tasks :: .int m_taskMany :: .ref A_m_forms :: .ref A_m_formLength :: .int m_token :: .int m_tokenAmount :: .int m_ahead :: .int m_depth :: .int m_linkMany :: .int m_isRange :: .int m_primes :: .ref A_m_row :: .ref A_m_statuses :: .ref A_m_outcomes :: .ref A_m_heights :: []))), (A_m_text, .inl (cI, 80, .inl m_text))] H → va_D A [(A_m, .inr (11, (.int m_length :: .ref A_m_text :: .int m_tokens :: .ref A_m_kind :: .ref A_m_amount :: .int m_newTokens :: .ref A_m_newKind :: .ref A_m_newAmount :: .ref A_m_variable :: .int m_nodes :: .ref A_m_sort :: .ref A_m_left :: .ref A_m_right :: .ref A_m_what :: .ref A_m_result :: .int m_sums :: .ref A_m_root :: .int m_links :: .ref A_m_relation :: .ref A_m_operands :: .int m_operandMany :: .ref A_m_operators :: .ref A_m_functions :: .int m_operatorMany :: .int m_status :: .long m_outcome :: .ref A_m_output :: .int m_outputLength :: .ref A_m_tasks :: .int m_taskMany :: .ref A_m_forms :: .ref A_m_formLength :: .int m_token :: .int m_tokenAmount :: .int m_ahead :: .int m_depth :: .int m_linkMany :: .int m_isRange :: .int m_primes :: .ref A_m_row :: .ref A_m_statuses :: .ref A_m_outcomes :: .ref A_m_heights :: []))), (A_m_text, .inl (cI, 80, .inl m_text))] → va_S A s.heap H locs → lv_has ls 4 [(0, .ref A_m), (1, .int x1), (3, .int x3)] → fn_Ref_read_b81 m_length m_text k_34_4 m_token m_tokenAmount m_ahead x1 x3 k1 = some rs → W p l e (headSpec wsX12_read ({ frames := 2, cells := 0, slots := 0, locals := 45 } : Room)).room s m args below meth c H locs 0 0 (MQ below (zQv D cI cJ cC [(A_m, .inr (11, (.int m_length :: .ref A_m_text :: .int m_tokens :: .ref A_m_kind :: .ref A_m_amount :: .int m_newTokens :: .ref A_m_newKind :: .ref A_m_newAmount :: .ref A_m_variable :: .int m_nodes :: .ref A_m_sort :: .ref A_m_left :: .ref A_m_right :: .ref A_m_what :: .ref A_m_result :: .int m_sums :: .ref A_m_root :: .int m_links :: .ref A_m_relation :: .ref A_m_operands :: .int m_operandMany :: .ref A_m_operators :: .ref A_m_functions :: .int m_operatorMany :: .int m_status :: .long m_outcome :: .ref A_m_output :: .int m_outputLength :: .ref A_m_tasks :: .int m_taskMany :: .ref A_m_forms :: .ref A_m_formLength :: .int rs.1 :: .int rs.2.1 :: .int rs.2.2 :: .int m_depth :: .int m_linkMany :: .int m_isRange :: .int m_primes :: .ref A_m_row :: .ref A_m_statuses :: .ref A_m_outcomes :: .ref A_m_heights :: []))), (A_m_text, .inl (cI, 80, .inl m_text))] A) args s 0 0 A) (F0 m 81 ls [.int k1, .ref A_m]) := by
    intro k_34_4 hk_34_4 m_token m_tokenAmount m_ahead x1 x3 k1 H locs ls hP hD hS hl hM
    refine va_put (D := D) (ci := 11) (v := .int k1) (ty := .int) (C := RX12) (T := TX12) (N := 43) hx hb hts hw0 tyX12 tyX12_ok nmX12 hown hK hP hD hS 0 rfl rfl 33 (by decide) hw1 (fun _ h9 => h9) rfl (by decide +kernel) rfl rfl (Nat.le_of_ble_eq_true rfl) dX12_read_81 (fun H43 locs hP hD hS => ?_)
    have hP : va_P D vwCl [(A_m, .inr (11, (.int m_length :: .ref A_m_text :: .int m_tokens :: .ref A_m_kind :: .ref A_m_amount :: .int m_newTokens :: .ref A_m_newKind :: .ref A_m_newAmount :: .ref A_m_variable :: .int m_nodes :: .ref A_m_sort :: .ref A_m_left :: .ref A_m_right :: .ref A_m_what :: .ref A_m_result :: .int m_sums :: .ref A_m_root :: .int m_links :: .ref A_m_relation :: .ref A_m_operands :: .int m_operandMany :: .ref A_m_operators :: .ref A_m_functions :: .int m_operatorMany :: .int m_status :: .long m_outcome :: .ref A_m_output :: .int m_outputLength :: .ref A_m_tasks :: .int m_taskMany :: .ref A_m_forms :: .ref A_m_formLength :: .int m_token :: .int k1 :: .int m_ahead :: .int m_depth :: .int m_linkMany :: .int m_isRange :: .int m_primes :: .ref A_m_row :: .ref A_m_statuses :: .ref A_m_outcomes :: .ref A_m_heights :: []))), (A_m_text, .inl (cI, 80, .inl m_text))] H43 := hP
    have hD : va_D A [(A_m, .inr (11, (.int m_length :: .ref A_m_text :: .int m_tokens :: .ref A_m_kind :: .ref A_m_amount :: .int m_newTokens :: .ref A_m_newKind :: .ref A_m_newAmount :: .ref A_m_variable :: .int m_nodes :: .ref A_m_sort :: .ref A_m_left :: .ref A_m_right :: .ref A_m_what :: .ref A_m_result :: .int m_sums :: .ref A_m_root :: .int m_links :: .ref A_m_relation :: .ref A_m_operands :: .int m_operandMany :: .ref A_m_operators :: .ref A_m_functions :: .int m_operatorMany :: .int m_status :: .long m_outcome :: .ref A_m_output :: .int m_outputLength :: .ref A_m_tasks :: .int m_taskMany :: .ref A_m_forms :: .ref A_m_formLength :: .int m_token :: .int k1 :: .int m_ahead :: .int m_depth :: .int m_linkMany :: .int m_isRange :: .int m_primes :: .ref A_m_row :: .ref A_m_statuses :: .ref A_m_outcomes :: .ref A_m_heights :: []))), (A_m_text, .inl (cI, 80, .inl m_text))] := hD
    refine lv_iinc (v := (x3 + 1)) (lv' := [(3, .int (x3 + 1)), (0, .ref A_m), (1, .int x1)]) hx hb dX12_read_84 hl (k := 2) rfl rfl (by decide) rfl (fun ls hl => ?_)
    refine lv_goto (tgt := 34) hx hb dX12_read_87 (by decide) ?_
    exact hk_34_4 m_token k1 m_ahead x1 (x3 + 1) _ _ ls hP hD hS (lv_sub hl [1, 2, 0] rfl) hM
  have L_34_4 : ∀ (n : Nat) (m_token : Int32) (m_tokenAmount : Int32) (m_ahead : Int32) (x1 : Int32) (x3 : Int32) (H : Heap) (locs : List Loc) (ls : Array Slot), va_P D vwCl [(A_m, .inr (11, (.int m_length :: .ref A_m_text :: .int m_tokens :: .ref A_m_kind :: .ref A_m_amount :: .int m_newTokens :: .ref A_m_newKind :: .ref A_m_newAmount :: .ref A_m_variable :: .int m_nodes :: .ref A_m_sort :: .ref A_m_left :: .ref A_m_right :: .ref A_m_what :: .ref A_m_result :: .int m_sums :: .ref A_m_root :: .int m_links :: .ref A_m_relation :: .ref A_m_operands :: .int m_operandMany :: .ref A_m_operators :: .ref A_m_functions :: .int m_operatorMany :: .int m_status :: .long m_outcome :: .ref A_m_output :: .int m_outputLength :: .ref A_m_tasks :: .int m_taskMany :: .ref A_m_forms :: .ref A_m_formLength :: .int m_token :: .int m_tokenAmount :: .int m_ahead :: .int m_depth :: .int m_linkMany :: .int m_isRange :: .int m_primes :: .ref A_m_row :: .ref A_m_statuses :: .ref A_m_outcomes :: .ref A_m_heights :: []))), (A_m_text, .inl (cI, 80, .inl m_text))] H → va_D A [(A_m, .inr (11, (.int m_length :: .ref A_m_text :: .int m_tokens :: .ref A_m_kind :: .ref A_m_amount :: .int m_newTokens :: .ref A_m_newKind :: .ref A_m_newAmount :: .ref A_m_variable :: .int m_nodes :: .ref A_m_sort :: .ref A_m_left :: .ref A_m_right :: .ref A_m_what :: .ref A_m_result :: .int m_sums :: .ref A_m_root :: .int m_links :: .ref A_m_relation :: .ref A_m_operands :: .int m_operandMany :: .ref A_m_operators :: .ref A_m_functions :: .int m_operatorMany :: .int m_status :: .long m_outcome :: .ref A_m_output :: .int m_outputLength :: .ref A_m_tasks :: .int m_taskMany :: .ref A_m_forms :: .ref A_m_formLength :: .int m_token :: .int m_tokenAmount :: .int m_ahead :: .int m_depth :: .int m_linkMany :: .int m_isRange :: .int m_primes :: .ref A_m_row :: .ref A_m_statuses :: .ref A_m_outcomes :: .ref A_m_heights :: []))), (A_m_text, .inl (cI, 80, .inl m_text))] → va_S A s.heap H locs → lv_has ls 4 [(0, .ref A_m), (1, .int x1), (3, .int x3)] → fn_Ref_read_L34 m_length m_text n m_token m_tokenAmount m_ahead x1 x3 = some rs → W p l e (headSpec wsX12_read ({ frames := 2, cells := 0, slots := 0, locals := 45 } : Room)).room s m args below meth c H locs 0 0 (MQ below (zQv D cI cJ cC [(A_m, .inr (11, (.int m_length :: .ref A_m_text :: .int m_tokens :: .ref A_m_kind :: .ref A_m_amount :: .int m_newTokens :: .ref A_m_newKind :: .ref A_m_newAmount :: .ref A_m_variable :: .int m_nodes :: .ref A_m_sort :: .ref A_m_left :: .ref A_m_right :: .ref A_m_what :: .ref A_m_result :: .int m_sums :: .ref A_m_root :: .int m_links :: .ref A_m_relation :: .ref A_m_operands :: .int m_operandMany :: .ref A_m_operators :: .ref A_m_functions :: .int m_operatorMany :: .int m_status :: .long m_outcome :: .ref A_m_output :: .int m_outputLength :: .ref A_m_tasks :: .int m_taskMany :: .ref A_m_forms :: .ref A_m_formLength :: .int rs.1 :: .int rs.2.1 :: .int rs.2.2 :: .int m_depth :: .int m_linkMany :: .int m_isRange :: .int m_primes :: .ref A_m_row :: .ref A_m_statuses :: .ref A_m_outcomes :: .ref A_m_heights :: []))), (A_m_text, .inl (cI, 80, .inl m_text))] A) args s 0 0 A) (F0 m 34 ls []) := by
    intro  n
    induction n with
    | zero => intro m_token m_tokenAmount m_ahead x1 x3 H locs ls _ _ _ _ hM; exact z_n hM
    | succ n ih =>
      intro m_token m_tokenAmount m_ahead x1 x3 H locs ls hP hD hS hl hM
      refine lv_aload_n hx hb dX12_read_34 rfl (lv_at hl 0 rfl) ?_
      refine lv_iload_n hx hb dX12_read_35 rfl (lv_at hl 2 rfl) ?_
      obtain ⟨q32, hq32, hM⟩ := z_b hM
      obtain ⟨hPc, hDc, hFc⟩ := zcut (wc := [(A_m, .inr (11, (.int m_length :: .ref A_m_text :: .int m_tokens :: .ref A_m_kind :: .ref A_m_amount :: .int m_newTokens :: .ref A_m_newKind :: .ref A_m_newAmount :: .ref A_m_variable :: .int m_nodes :: .ref A_m_sort :: .ref A_m_left :: .ref A_m_right :: .ref A_m_what :: .ref A_m_result :: .int m_sums :: .ref A_m_root :: .int m_links :: .ref A_m_relation :: .ref A_m_operands :: .int m_operandMany :: .ref A_m_operators :: .ref A_m_functions :: .int m_operatorMany :: .int m_status :: .long m_outcome :: .ref A_m_output :: .int m_outputLength :: .ref A_m_tasks :: .int m_taskMany :: .ref A_m_forms :: .ref A_m_formLength :: .int m_token :: .int m_tokenAmount :: .int m_ahead :: .int m_depth :: .int m_linkMany :: .int m_isRange :: .int m_primes :: .ref A_m_row :: .ref A_m_statuses :: .ref A_m_outcomes :: .ref A_m_heights :: []))), (A_m_text, .inl (cI, 80, .inl m_text))]) hP hD hS hA [0, 1] rfl rfl (by decide)
      refine zc_i (ws' := [(A_m, .inr (11, (.int m_length :: .ref A_m_text :: .int m_tokens :: .ref A_m_kind :: .ref A_m_amount :: .int m_newTokens :: .ref A_m_newKind :: .ref A_m_newAmount :: .ref A_m_variable :: .int m_nodes :: .ref A_m_sort :: .ref A_m_left :: .ref A_m_right :: .ref A_m_what :: .ref A_m_result :: .int m_sums :: .ref A_m_root :: .int m_links :: .ref A_m_relation :: .ref A_m_operands :: .int m_operandMany :: .ref A_m_operators :: .ref A_m_functions :: .int m_operatorMany :: .int m_status :: .long m_outcome :: .ref A_m_output :: .int m_outputLength :: .ref A_m_tasks :: .int m_taskMany :: .ref A_m_forms :: .ref A_m_formLength :: .int m_token :: .int m_tokenAmount :: .int m_ahead :: .int m_depth :: .int m_linkMany :: .int m_isRange :: .int m_primes :: .ref A_m_row :: .ref A_m_statuses :: .ref A_m_outcomes :: .ref A_m_heights :: []))), (A_m_text, .inl (cI, 80, .inl m_text))]) (va_runV (As := [.int x3]) (rest := []) ⟨hx, hb, hml, hown, hts⟩ (ct_Ref_at l D cI cJ cC adK adV A_m A_m_text A_m_kind A_m_amount A_m_newKind A_m_newAmount A_m_variable A_m_sort A_m_left A_m_right A_m_what A_m_result A_m_root A_m_relation A_m_operands A_m_operators A_m_functions A_m_output A_m_tasks A_m_forms A_m_formLength A_m_row A_m_statuses A_m_outcomes A_m_heights H.size m_length m_tokens m_newTokens m_nodes m_sums m_links m_operandMany m_operatorMany m_status m_outcome m_outputLength m_taskMany m_token m_tokenAmount m_ahead m_depth m_linkMany m_isRange m_primes m_text x3 hq32) (cwV 1 hts gX12_read_X12_at rfl rfl rfl (by decide +kernel) ⟨Nat.le_of_ble_eq_true rfl, Nat.le_of_ble_eq_true rfl⟩) ⟨zblind, va_recv hK hP (ci := 11) (q0 := 0) rfl rfl, zpre hX hS hFc hPc hK hDc⟩ rfl rfl hl.1 rfl (lv_room (Nat.le_of_ble_eq_true rfl)) dX12_read_36 ⟨Nat.zero_le _, Nat.zero_le _⟩) hP hD hS hFc [0, 1] rfl (by decide) rfl rfl (fun H33 locs hP hD hS => ?_)
      refine lv_i2l hx hb dX12_read_39 rfl ?_
      refine lv_ldc2 hx hb hown (hts (.constantLong RX12 108 48) (by decide +kernel)) dX12_read_40 ?_
      refine lv_ldc2 hx hb hown (hts (.constantLong RX12 110 57) (by decide +kernel)) dX12_read_43 ?_
      obtain ⟨hPc, hDc, hFc⟩ := zcut (wc := []) hP hD hS hA [] rfl rfl (by decide)
      refine zc_i (ws' := [(A_m, .inr (11, (.int m_length :: .ref A_m_text :: .int m_tokens :: .ref A_m_kind :: .ref A_m_amount :: .int m_newTokens :: .ref A_m_newKind :: .ref A_m_newAmount :: .ref A_m_variable :: .int m_nodes :: .ref A_m_sort :: .ref A_m_left :: .ref A_m_right :: .ref A_m_what :: .ref A_m_result :: .int m_sums :: .ref A_m_root :: .int m_links :: .ref A_m_relation :: .ref A_m_operands :: .int m_operandMany :: .ref A_m_operators :: .ref A_m_functions :: .int m_operatorMany :: .int m_status :: .long m_outcome :: .ref A_m_output :: .int m_outputLength :: .ref A_m_tasks :: .int m_taskMany :: .ref A_m_forms :: .ref A_m_formLength :: .int m_token :: .int m_tokenAmount :: .int m_ahead :: .int m_depth :: .int m_linkMany :: .int m_isRange :: .int m_primes :: .ref A_m_row :: .ref A_m_statuses :: .ref A_m_outcomes :: .ref A_m_heights :: []))), (A_m_text, .inl (cI, 80, .inl m_text))]) (va_runS (As := [.long (q32).toInt64, .long 48, .long 57]) (rest := []) ⟨hx, hb, hml, hown, hts⟩ (ct_Ref_in l D cI cJ cC adK adV H33.size (q32).toInt64 48 57) (va_cwS 3 hts gX12_read_X12_in rfl rfl rfl (by decide +kernel) ⟨Nat.le_of_ble_eq_true rfl, Nat.le_of_ble_eq_true rfl⟩) ⟨zblind, zpre hX hS hFc hPc hK hDc⟩ rfl rfl hl.1 rfl (lv_room (Nat.le_of_ble_eq_true rfl)) dX12_read_46 ⟨Nat.zero_le _, Nat.zero_le _⟩) hP hD hS hFc [] rfl (by decide) rfl rfl (fun H35 locs hP hD hS => ?_)
      refine lv_if_eq (tgt := 90) hx hb dX12_read_49 (by decide) (fun c36 => ?_) (fun c36 => ?_)
      · have hM := z_t c36 hM
        refine lv_aload_n hx hb dX12_read_90 rfl (lv_at hl 0 rfl) ?_
        refine lv_iload_n hx hb dX12_read_91 rfl (lv_at hl 2 rfl) ?_
        refine lv_iload_n hx hb dX12_read_92 rfl (lv_at hl 1 rfl) ?_
        refine lv_isub hx hb dX12_read_93 ?_
        refine lv_bipush (v := 6) hx hb dX12_read_94 (by decide) ?_
        refine lv_icmp_le (tgt := 104) hx hb dX12_read_96 (by decide) (fun c37 => ?_) (fun c37 => ?_)
        · have hM := z_t c37 hM
          refine lv_iconst (v := 1) hx hb dX12_read_104 (by decide) ?_
          refine va_put (D := D) (ci := 11) (v := .int 1) (ty := .int) (C := RX12) (T := TX12) (N := 43) hx hb hts hw0 tyX12 tyX12_ok nmX12 hown hK hP hD hS 0 rfl rfl 32 (by decide) hw3 (fun _ h9 => h9) rfl (by decide +kernel) rfl rfl (Nat.le_of_ble_eq_true rfl) dX12_read_105 (fun H38 locs hP hD hS => ?_)
          have hP : va_P D vwCl [(A_m, .inr (11, (.int m_length :: .ref A_m_text :: .int m_tokens :: .ref A_m_kind :: .ref A_m_amount :: .int m_newTokens :: .ref A_m_newKind :: .ref A_m_newAmount :: .ref A_m_variable :: .int m_nodes :: .ref A_m_sort :: .ref A_m_left :: .ref A_m_right :: .ref A_m_what :: .ref A_m_result :: .int m_sums :: .ref A_m_root :: .int m_links :: .ref A_m_relation :: .ref A_m_operands :: .int m_operandMany :: .ref A_m_operators :: .ref A_m_functions :: .int m_operatorMany :: .int m_status :: .long m_outcome :: .ref A_m_output :: .int m_outputLength :: .ref A_m_tasks :: .int m_taskMany :: .ref A_m_forms :: .ref A_m_formLength :: .int 1 :: .int m_tokenAmount :: .int m_ahead :: .int m_depth :: .int m_linkMany :: .int m_isRange :: .int m_primes :: .ref A_m_row :: .ref A_m_statuses :: .ref A_m_outcomes :: .ref A_m_heights :: []))), (A_m_text, .inl (cI, 80, .inl m_text))] H38 := hP
          have hD : va_D A [(A_m, .inr (11, (.int m_length :: .ref A_m_text :: .int m_tokens :: .ref A_m_kind :: .ref A_m_amount :: .int m_newTokens :: .ref A_m_newKind :: .ref A_m_newAmount :: .ref A_m_variable :: .int m_nodes :: .ref A_m_sort :: .ref A_m_left :: .ref A_m_right :: .ref A_m_what :: .ref A_m_result :: .int m_sums :: .ref A_m_root :: .int m_links :: .ref A_m_relation :: .ref A_m_operands :: .int m_operandMany :: .ref A_m_operators :: .ref A_m_functions :: .int m_operatorMany :: .int m_status :: .long m_outcome :: .ref A_m_output :: .int m_outputLength :: .ref A_m_tasks :: .int m_taskMany :: .ref A_m_forms :: .ref A_m_formLength :: .int 1 :: .int m_tokenAmount :: .int m_ahead :: .int m_depth :: .int m_linkMany :: .int m_isRange :: .int m_primes :: .ref A_m_row :: .ref A_m_statuses :: .ref A_m_outcomes :: .ref A_m_heights :: []))), (A_m_text, .inl (cI, 80, .inl m_text))] := hD
          refine lv_aload_n hx hb dX12_read_108 rfl (lv_at hl 0 rfl) ?_
          refine lv_iload_n hx hb dX12_read_109 rfl (lv_at hl 2 rfl) ?_
          refine va_put (D := D) (ci := 11) (v := .int x3) (ty := .int) (C := RX12) (T := TX12) (N := 43) hx hb hts hw0 tyX12 tyX12_ok nmX12 hown hK hP hD hS 0 rfl rfl 34 (by decide) hw2 (fun _ h9 => h9) rfl (by decide +kernel) rfl rfl (Nat.le_of_ble_eq_true rfl) dX12_read_110 (fun H39 locs hP hD hS => ?_)
          have hP : va_P D vwCl [(A_m, .inr (11, (.int m_length :: .ref A_m_text :: .int m_tokens :: .ref A_m_kind :: .ref A_m_amount :: .int m_newTokens :: .ref A_m_newKind :: .ref A_m_newAmount :: .ref A_m_variable :: .int m_nodes :: .ref A_m_sort :: .ref A_m_left :: .ref A_m_right :: .ref A_m_what :: .ref A_m_result :: .int m_sums :: .ref A_m_root :: .int m_links :: .ref A_m_relation :: .ref A_m_operands :: .int m_operandMany :: .ref A_m_operators :: .ref A_m_functions :: .int m_operatorMany :: .int m_status :: .long m_outcome :: .ref A_m_output :: .int m_outputLength :: .ref A_m_tasks :: .int m_taskMany :: .ref A_m_forms :: .ref A_m_formLength :: .int 1 :: .int m_tokenAmount :: .int x3 :: .int m_depth :: .int m_linkMany :: .int m_isRange :: .int m_primes :: .ref A_m_row :: .ref A_m_statuses :: .ref A_m_outcomes :: .ref A_m_heights :: []))), (A_m_text, .inl (cI, 80, .inl m_text))] H39 := hP
          have hD : va_D A [(A_m, .inr (11, (.int m_length :: .ref A_m_text :: .int m_tokens :: .ref A_m_kind :: .ref A_m_amount :: .int m_newTokens :: .ref A_m_newKind :: .ref A_m_newAmount :: .ref A_m_variable :: .int m_nodes :: .ref A_m_sort :: .ref A_m_left :: .ref A_m_right :: .ref A_m_what :: .ref A_m_result :: .int m_sums :: .ref A_m_root :: .int m_links :: .ref A_m_relation :: .ref A_m_operands :: .int m_operandMany :: .ref A_m_operators :: .ref A_m_functions :: .int m_operatorMany :: .int m_status :: .long m_outcome :: .ref A_m_output :: .int m_outputLength :: .ref A_m_tasks :: .int m_taskMany :: .ref A_m_forms :: .ref A_m_formLength :: .int 1 :: .int m_tokenAmount :: .int x3 :: .int m_depth :: .int m_linkMany :: .int m_isRange :: .int m_primes :: .ref A_m_row :: .ref A_m_statuses :: .ref A_m_outcomes :: .ref A_m_heights :: []))), (A_m_text, .inl (cI, 80, .inl m_text))] := hD
          refine lv_goto (tgt := 265) hx hb dX12_read_113 (by decide) ?_
          have hM := Option.some.inj hM
          subst hM
          exact W.vret hx hb hr (fun t ht hW => ⟨⟨(), rfl, trivial, ⟨by rw [ht]; exact hP, va_K.moved hW.alike hK, hD⟩⟩, hS.F ht⟩) hS.2.2 dX12_read_265
        · have hM := z_f c37 hM
          refine lv_bipush (v := 21) hx hb dX12_read_99 (by decide) ?_
          refine lv_goto (tgt := 105) hx hb dX12_read_101 (by decide) ?_
          refine va_put (D := D) (ci := 11) (v := .int 21) (ty := .int) (C := RX12) (T := TX12) (N := 43) hx hb hts hw0 tyX12 tyX12_ok nmX12 hown hK hP hD hS 0 rfl rfl 32 (by decide) hw3 (fun _ h9 => h9) rfl (by decide +kernel) rfl rfl (Nat.le_of_ble_eq_true rfl) dX12_read_105 (fun H40 locs hP hD hS => ?_)
          have hP : va_P D vwCl [(A_m, .inr (11, (.int m_length :: .ref A_m_text :: .int m_tokens :: .ref A_m_kind :: .ref A_m_amount :: .int m_newTokens :: .ref A_m_newKind :: .ref A_m_newAmount :: .ref A_m_variable :: .int m_nodes :: .ref A_m_sort :: .ref A_m_left :: .ref A_m_right :: .ref A_m_what :: .ref A_m_result :: .int m_sums :: .ref A_m_root :: .int m_links :: .ref A_m_relation :: .ref A_m_operands :: .int m_operandMany :: .ref A_m_operators :: .ref A_m_functions :: .int m_operatorMany :: .int m_status :: .long m_outcome :: .ref A_m_output :: .int m_outputLength :: .ref A_m_tasks :: .int m_taskMany :: .ref A_m_forms :: .ref A_m_formLength :: .int 21 :: .int m_tokenAmount :: .int m_ahead :: .int m_depth :: .int m_linkMany :: .int m_isRange :: .int m_primes :: .ref A_m_row :: .ref A_m_statuses :: .ref A_m_outcomes :: .ref A_m_heights :: []))), (A_m_text, .inl (cI, 80, .inl m_text))] H40 := hP
          have hD : va_D A [(A_m, .inr (11, (.int m_length :: .ref A_m_text :: .int m_tokens :: .ref A_m_kind :: .ref A_m_amount :: .int m_newTokens :: .ref A_m_newKind :: .ref A_m_newAmount :: .ref A_m_variable :: .int m_nodes :: .ref A_m_sort :: .ref A_m_left :: .ref A_m_right :: .ref A_m_what :: .ref A_m_result :: .int m_sums :: .ref A_m_root :: .int m_links :: .ref A_m_relation :: .ref A_m_operands :: .int m_operandMany :: .ref A_m_operators :: .ref A_m_functions :: .int m_operatorMany :: .int m_status :: .long m_outcome :: .ref A_m_output :: .int m_outputLength :: .ref A_m_tasks :: .int m_taskMany :: .ref A_m_forms :: .ref A_m_formLength :: .int 21 :: .int m_tokenAmount :: .int m_ahead :: .int m_depth :: .int m_linkMany :: .int m_isRange :: .int m_primes :: .ref A_m_row :: .ref A_m_statuses :: .ref A_m_outcomes :: .ref A_m_heights :: []))), (A_m_text, .inl (cI, 80, .inl m_text))] := hD
          refine lv_aload_n hx hb dX12_read_108 rfl (lv_at hl 0 rfl) ?_
          refine lv_iload_n hx hb dX12_read_109 rfl (lv_at hl 2 rfl) ?_
          refine va_put (D := D) (ci := 11) (v := .int x3) (ty := .int) (C := RX12) (T := TX12) (N := 43) hx hb hts hw0 tyX12 tyX12_ok nmX12 hown hK hP hD hS 0 rfl rfl 34 (by decide) hw2 (fun _ h9 => h9) rfl (by decide +kernel) rfl rfl (Nat.le_of_ble_eq_true rfl) dX12_read_110 (fun H41 locs hP hD hS => ?_)
          have hP : va_P D vwCl [(A_m, .inr (11, (.int m_length :: .ref A_m_text :: .int m_tokens :: .ref A_m_kind :: .ref A_m_amount :: .int m_newTokens :: .ref A_m_newKind :: .ref A_m_newAmount :: .ref A_m_variable :: .int m_nodes :: .ref A_m_sort :: .ref A_m_left :: .ref A_m_right :: .ref A_m_what :: .ref A_m_result :: .int m_sums :: .ref A_m_root :: .int m_links :: .ref A_m_relation :: .ref A_m_operands :: .int m_operandMany :: .ref A_m_operators :: .ref A_m_functions :: .int m_operatorMany :: .int m_status :: .long m_outcome :: .ref A_m_output :: .int m_outputLength :: .ref A_m_tasks :: .int m_taskMany :: .ref A_m_forms :: .ref A_m_formLength :: .int 21 :: .int m_tokenAmount :: .int x3 :: .int m_depth :: .int m_linkMany :: .int m_isRange :: .int m_primes :: .ref A_m_row :: .ref A_m_statuses :: .ref A_m_outcomes :: .ref A_m_heights :: []))), (A_m_text, .inl (cI, 80, .inl m_text))] H41 := hP
          have hD : va_D A [(A_m, .inr (11, (.int m_length :: .ref A_m_text :: .int m_tokens :: .ref A_m_kind :: .ref A_m_amount :: .int m_newTokens :: .ref A_m_newKind :: .ref A_m_newAmount :: .ref A_m_variable :: .int m_nodes :: .ref A_m_sort :: .ref A_m_left :: .ref A_m_right :: .ref A_m_what :: .ref A_m_result :: .int m_sums :: .ref A_m_root :: .int m_links :: .ref A_m_relation :: .ref A_m_operands :: .int m_operandMany :: .ref A_m_operators :: .ref A_m_functions :: .int m_operatorMany :: .int m_status :: .long m_outcome :: .ref A_m_output :: .int m_outputLength :: .ref A_m_tasks :: .int m_taskMany :: .ref A_m_forms :: .ref A_m_formLength :: .int 21 :: .int m_tokenAmount :: .int x3 :: .int m_depth :: .int m_linkMany :: .int m_isRange :: .int m_primes :: .ref A_m_row :: .ref A_m_statuses :: .ref A_m_outcomes :: .ref A_m_heights :: []))), (A_m_text, .inl (cI, 80, .inl m_text))] := hD
          refine lv_goto (tgt := 265) hx hb dX12_read_113 (by decide) ?_
          have hM := Option.some.inj hM
          subst hM
          exact W.vret hx hb hr (fun t ht hW => ⟨⟨(), rfl, trivial, ⟨by rw [ht]; exact hP, va_K.moved hW.alike hK, hD⟩⟩, hS.F ht⟩) hS.2.2 dX12_read_265
      · have hM := z_f c36 hM
        refine lv_aload_n hx hb dX12_read_52 rfl (lv_at hl 0 rfl) ?_
        refine lv_iload_n hx hb dX12_read_53 rfl (lv_at hl 2 rfl) ?_
        refine lv_iload_n hx hb dX12_read_54 rfl (lv_at hl 1 rfl) ?_
        refine lv_isub hx hb dX12_read_55 ?_
        refine lv_bipush (v := 6) hx hb dX12_read_56 (by decide) ?_
        refine lv_icmp_ge (tgt := 80) hx hb dX12_read_58 (by decide) (fun c42 => ?_) (fun c42 => ?_)
        · have hM := z_t c42 hM
          refine lv_iconst (v := 0) hx hb dX12_read_80 (by decide) ?_
          exact B_81_5 (fn_Ref_read_L34 m_length m_text n) ih m_token m_tokenAmount m_ahead x1 x3 0 _ _ ls hP hD hS (lv_sub hl [0, 1, 2] rfl) hM
        · have hM := z_f c42 hM
          refine lv_bipush (v := 10) hx hb dX12_read_61 (by decide) ?_
          refine lv_aload_n hx hb dX12_read_63 rfl (lv_at hl 0 rfl) ?_
          refine va_get (D := D) (ci := 11) (v := .int m_tokenAmount) (C := RX12) (T := TX12) (N := 43) hx hb hts hw0 hown hK hP 0 rfl rfl 33 (by decide) hw1 (fun _ h9 => h9) rfl dX12_read_64 ?_
          refine lv_imul hx hb dX12_read_67 ?_
          refine lv_aload_n hx hb dX12_read_68 rfl (lv_at hl 0 rfl) ?_
          refine lv_iload_n hx hb dX12_read_69 rfl (lv_at hl 2 rfl) ?_
          obtain ⟨q44, hq44, hM⟩ := z_b hM
          obtain ⟨hPc, hDc, hFc⟩ := zcut (wc := [(A_m, .inr (11, (.int m_length :: .ref A_m_text :: .int m_tokens :: .ref A_m_kind :: .ref A_m_amount :: .int m_newTokens :: .ref A_m_newKind :: .ref A_m_newAmount :: .ref A_m_variable :: .int m_nodes :: .ref A_m_sort :: .ref A_m_left :: .ref A_m_right :: .ref A_m_what :: .ref A_m_result :: .int m_sums :: .ref A_m_root :: .int m_links :: .ref A_m_relation :: .ref A_m_operands :: .int m_operandMany :: .ref A_m_operators :: .ref A_m_functions :: .int m_operatorMany :: .int m_status :: .long m_outcome :: .ref A_m_output :: .int m_outputLength :: .ref A_m_tasks :: .int m_taskMany :: .ref A_m_forms :: .ref A_m_formLength :: .int m_token :: .int m_tokenAmount :: .int m_ahead :: .int m_depth :: .int m_linkMany :: .int m_isRange :: .int m_primes :: .ref A_m_row :: .ref A_m_statuses :: .ref A_m_outcomes :: .ref A_m_heights :: []))), (A_m_text, .inl (cI, 80, .inl m_text))]) hP hD hS hA [0, 1] rfl rfl (by decide)
          refine zc_i (ws' := [(A_m, .inr (11, (.int m_length :: .ref A_m_text :: .int m_tokens :: .ref A_m_kind :: .ref A_m_amount :: .int m_newTokens :: .ref A_m_newKind :: .ref A_m_newAmount :: .ref A_m_variable :: .int m_nodes :: .ref A_m_sort :: .ref A_m_left :: .ref A_m_right :: .ref A_m_what :: .ref A_m_result :: .int m_sums :: .ref A_m_root :: .int m_links :: .ref A_m_relation :: .ref A_m_operands :: .int m_operandMany :: .ref A_m_operators :: .ref A_m_functions :: .int m_operatorMany :: .int m_status :: .long m_outcome :: .ref A_m_output :: .int m_outputLength :: .ref A_m_tasks :: .int m_taskMany :: .ref A_m_forms :: .ref A_m_formLength :: .int m_token :: .int m_tokenAmount :: .int m_ahead :: .int m_depth :: .int m_linkMany :: .int m_isRange :: .int m_primes :: .ref A_m_row :: .ref A_m_statuses :: .ref A_m_outcomes :: .ref A_m_heights :: []))), (A_m_text, .inl (cI, 80, .inl m_text))]) (va_runV (As := [.int x3]) (rest := [.int (10 * m_tokenAmount), .ref A_m]) ⟨hx, hb, hml, hown, hts⟩ (ct_Ref_at l D cI cJ cC adK adV A_m A_m_text A_m_kind A_m_amount A_m_newKind A_m_newAmount A_m_variable A_m_sort A_m_left A_m_right A_m_what A_m_result A_m_root A_m_relation A_m_operands A_m_operators A_m_functions A_m_output A_m_tasks A_m_forms A_m_formLength A_m_row A_m_statuses A_m_outcomes A_m_heights H35.size m_length m_tokens m_newTokens m_nodes m_sums m_links m_operandMany m_operatorMany m_status m_outcome m_outputLength m_taskMany m_token m_tokenAmount m_ahead m_depth m_linkMany m_isRange m_primes m_text x3 hq44) (cwV 1 hts gX12_read_X12_at rfl rfl rfl (by decide +kernel) ⟨Nat.le_of_ble_eq_true rfl, Nat.le_of_ble_eq_true rfl⟩) ⟨zblind, va_recv hK hP (ci := 11) (q0 := 0) rfl rfl, zpre hX hS hFc hPc hK hDc⟩ rfl rfl hl.1 rfl (lv_room (Nat.le_of_ble_eq_true rfl)) dX12_read_70 ⟨Nat.zero_le _, Nat.zero_le _⟩) hP hD hS hFc [0, 1] rfl (by decide) rfl rfl (fun H45 locs hP hD hS => ?_)
          refine lv_iadd hx hb dX12_read_73 ?_
          refine lv_bipush (v := 48) hx hb dX12_read_74 (by decide) ?_
          refine lv_isub hx hb dX12_read_76 ?_
          refine lv_goto (tgt := 81) hx hb dX12_read_77 (by decide) ?_
          exact B_81_5 (fn_Ref_read_L34 m_length m_text n) ih m_token m_tokenAmount m_ahead x1 x3 (((10 * m_tokenAmount) + q44) - 48) _ _ ls hP hD hS (lv_sub hl [0, 1, 2] rfl) hM
  refine lv_aload_n hx hb dX12_read_0 rfl (lv_at hl 0 rfl) ?_
  refine lv_iload_n hx hb dX12_read_1 rfl (lv_at hl 1 rfl) ?_
  obtain ⟨q1, hq1, hM⟩ := z_b hM
  obtain ⟨hPc, hDc, hFc⟩ := zcut (wc := [(A_m, .inr (11, (.int m_length :: .ref A_m_text :: .int m_tokens :: .ref A_m_kind :: .ref A_m_amount :: .int m_newTokens :: .ref A_m_newKind :: .ref A_m_newAmount :: .ref A_m_variable :: .int m_nodes :: .ref A_m_sort :: .ref A_m_left :: .ref A_m_right :: .ref A_m_what :: .ref A_m_result :: .int m_sums :: .ref A_m_root :: .int m_links :: .ref A_m_relation :: .ref A_m_operands :: .int m_operandMany :: .ref A_m_operators :: .ref A_m_functions :: .int m_operatorMany :: .int m_status :: .long m_outcome :: .ref A_m_output :: .int m_outputLength :: .ref A_m_tasks :: .int m_taskMany :: .ref A_m_forms :: .ref A_m_formLength :: .int m_token :: .int m_tokenAmount :: .int m_ahead :: .int m_depth :: .int m_linkMany :: .int m_isRange :: .int m_primes :: .ref A_m_row :: .ref A_m_statuses :: .ref A_m_outcomes :: .ref A_m_heights :: []))), (A_m_text, .inl (cI, 80, .inl m_text))]) hP hD hS hA [0, 1] rfl rfl (by decide)
  refine zc_i (ws' := [(A_m, .inr (11, (.int m_length :: .ref A_m_text :: .int m_tokens :: .ref A_m_kind :: .ref A_m_amount :: .int m_newTokens :: .ref A_m_newKind :: .ref A_m_newAmount :: .ref A_m_variable :: .int m_nodes :: .ref A_m_sort :: .ref A_m_left :: .ref A_m_right :: .ref A_m_what :: .ref A_m_result :: .int m_sums :: .ref A_m_root :: .int m_links :: .ref A_m_relation :: .ref A_m_operands :: .int m_operandMany :: .ref A_m_operators :: .ref A_m_functions :: .int m_operatorMany :: .int m_status :: .long m_outcome :: .ref A_m_output :: .int m_outputLength :: .ref A_m_tasks :: .int m_taskMany :: .ref A_m_forms :: .ref A_m_formLength :: .int m_token :: .int m_tokenAmount :: .int m_ahead :: .int m_depth :: .int m_linkMany :: .int m_isRange :: .int m_primes :: .ref A_m_row :: .ref A_m_statuses :: .ref A_m_outcomes :: .ref A_m_heights :: []))), (A_m_text, .inl (cI, 80, .inl m_text))]) (va_runV (As := [.int x1]) (rest := []) ⟨hx, hb, hml, hown, hts⟩ (ct_Ref_at l D cI cJ cC adK adV A_m A_m_text A_m_kind A_m_amount A_m_newKind A_m_newAmount A_m_variable A_m_sort A_m_left A_m_right A_m_what A_m_result A_m_root A_m_relation A_m_operands A_m_operators A_m_functions A_m_output A_m_tasks A_m_forms A_m_formLength A_m_row A_m_statuses A_m_outcomes A_m_heights s.heap.size m_length m_tokens m_newTokens m_nodes m_sums m_links m_operandMany m_operatorMany m_status m_outcome m_outputLength m_taskMany m_token m_tokenAmount m_ahead m_depth m_linkMany m_isRange m_primes m_text x1 hq1) (cwV 1 hts gX12_read_X12_at rfl rfl rfl (by decide +kernel) ⟨Nat.le_of_ble_eq_true rfl, Nat.le_of_ble_eq_true rfl⟩) ⟨zblind, va_recv hK hP (ci := 11) (q0 := 0) rfl rfl, zpre hX hS hFc hPc hK hDc⟩ rfl rfl hl.1 rfl (lv_room (Nat.le_of_ble_eq_true rfl)) dX12_read_2 ⟨Nat.zero_le _, Nat.zero_le _⟩) hP hD hS hFc [0, 1] rfl (by decide) rfl rfl (fun H2 locs hP hD hS => ?_)
  refine lv_istore_n (lv' := [(2, .int q1), (0, .ref A_m), (1, .int x1)]) hx hb dX12_read_5 rfl hl (by decide) rfl (fun ls hl => ?_)
  refine lv_aload_n hx hb dX12_read_6 rfl (lv_at hl 1 rfl) ?_
  refine lv_iconst (v := 0) hx hb dX12_read_7 (by decide) ?_
  refine va_put (D := D) (ci := 11) (v := .int 0) (ty := .int) (C := RX12) (T := TX12) (N := 43) hx hb hts hw0 tyX12 tyX12_ok nmX12 hown hK hP hD hS 0 rfl rfl 33 (by decide) hw1 (fun _ h9 => h9) rfl (by decide +kernel) rfl rfl (Nat.le_of_ble_eq_true rfl) dX12_read_8 (fun H3 locs hP hD hS => ?_)
  have hP : va_P D vwCl [(A_m, .inr (11, (.int m_length :: .ref A_m_text :: .int m_tokens :: .ref A_m_kind :: .ref A_m_amount :: .int m_newTokens :: .ref A_m_newKind :: .ref A_m_newAmount :: .ref A_m_variable :: .int m_nodes :: .ref A_m_sort :: .ref A_m_left :: .ref A_m_right :: .ref A_m_what :: .ref A_m_result :: .int m_sums :: .ref A_m_root :: .int m_links :: .ref A_m_relation :: .ref A_m_operands :: .int m_operandMany :: .ref A_m_operators :: .ref A_m_functions :: .int m_operatorMany :: .int m_status :: .long m_outcome :: .ref A_m_output :: .int m_outputLength :: .ref A_m_tasks :: .int m_taskMany :: .ref A_m_forms :: .ref A_m_formLength :: .int m_token :: .int 0 :: .int m_ahead :: .int m_depth :: .int m_linkMany :: .int m_isRange :: .int m_primes :: .ref A_m_row :: .ref A_m_statuses :: .ref A_m_outcomes :: .ref A_m_heights :: []))), (A_m_text, .inl (cI, 80, .inl m_text))] H3 := hP
  have hD : va_D A [(A_m, .inr (11, (.int m_length :: .ref A_m_text :: .int m_tokens :: .ref A_m_kind :: .ref A_m_amount :: .int m_newTokens :: .ref A_m_newKind :: .ref A_m_newAmount :: .ref A_m_variable :: .int m_nodes :: .ref A_m_sort :: .ref A_m_left :: .ref A_m_right :: .ref A_m_what :: .ref A_m_result :: .int m_sums :: .ref A_m_root :: .int m_links :: .ref A_m_relation :: .ref A_m_operands :: .int m_operandMany :: .ref A_m_operators :: .ref A_m_functions :: .int m_operatorMany :: .int m_status :: .long m_outcome :: .ref A_m_output :: .int m_outputLength :: .ref A_m_tasks :: .int m_taskMany :: .ref A_m_forms :: .ref A_m_formLength :: .int m_token :: .int 0 :: .int m_ahead :: .int m_depth :: .int m_linkMany :: .int m_isRange :: .int m_primes :: .ref A_m_row :: .ref A_m_statuses :: .ref A_m_outcomes :: .ref A_m_heights :: []))), (A_m_text, .inl (cI, 80, .inl m_text))] := hD
  refine lv_aload_n hx hb dX12_read_11 rfl (lv_at hl 1 rfl) ?_
  refine lv_iload_n hx hb dX12_read_12 rfl (lv_at hl 2 rfl) ?_
  refine lv_iconst (v := 1) hx hb dX12_read_13 (by decide) ?_
  refine lv_iadd hx hb dX12_read_14 ?_
  refine va_put (D := D) (ci := 11) (v := .int (x1 + 1)) (ty := .int) (C := RX12) (T := TX12) (N := 43) hx hb hts hw0 tyX12 tyX12_ok nmX12 hown hK hP hD hS 0 rfl rfl 34 (by decide) hw2 (fun _ h9 => h9) rfl (by decide +kernel) rfl rfl (Nat.le_of_ble_eq_true rfl) dX12_read_15 (fun H4 locs hP hD hS => ?_)
  have hP : va_P D vwCl [(A_m, .inr (11, (.int m_length :: .ref A_m_text :: .int m_tokens :: .ref A_m_kind :: .ref A_m_amount :: .int m_newTokens :: .ref A_m_newKind :: .ref A_m_newAmount :: .ref A_m_variable :: .int m_nodes :: .ref A_m_sort :: .ref A_m_left :: .ref A_m_right :: .ref A_m_what :: .ref A_m_result :: .int m_sums :: .ref A_m_root :: .int m_links :: .ref A_m_relation :: .ref A_m_operands :: .int m_operandMany :: .ref A_m_operators :: .ref A_m_functions :: .int m_operatorMany :: .int m_status :: .long m_outcome :: .ref A_m_output :: .int m_outputLength :: .ref A_m_tasks :: .int m_taskMany :: .ref A_m_forms :: .ref A_m_formLength :: .int m_token :: .int 0 :: .int (x1 + 1) :: .int m_depth :: .int m_linkMany :: .int m_isRange :: .int m_primes :: .ref A_m_row :: .ref A_m_statuses :: .ref A_m_outcomes :: .ref A_m_heights :: []))), (A_m_text, .inl (cI, 80, .inl m_text))] H4 := hP
  have hD : va_D A [(A_m, .inr (11, (.int m_length :: .ref A_m_text :: .int m_tokens :: .ref A_m_kind :: .ref A_m_amount :: .int m_newTokens :: .ref A_m_newKind :: .ref A_m_newAmount :: .ref A_m_variable :: .int m_nodes :: .ref A_m_sort :: .ref A_m_left :: .ref A_m_right :: .ref A_m_what :: .ref A_m_result :: .int m_sums :: .ref A_m_root :: .int m_links :: .ref A_m_relation :: .ref A_m_operands :: .int m_operandMany :: .ref A_m_operators :: .ref A_m_functions :: .int m_operatorMany :: .int m_status :: .long m_outcome :: .ref A_m_output :: .int m_outputLength :: .ref A_m_tasks :: .int m_taskMany :: .ref A_m_forms :: .ref A_m_formLength :: .int m_token :: .int 0 :: .int (x1 + 1) :: .int m_depth :: .int m_linkMany :: .int m_isRange :: .int m_primes :: .ref A_m_row :: .ref A_m_statuses :: .ref A_m_outcomes :: .ref A_m_heights :: []))), (A_m_text, .inl (cI, 80, .inl m_text))] := hD
  refine lv_iload_n hx hb dX12_read_18 rfl (lv_at hl 0 rfl) ?_
  refine lv_i2l hx hb dX12_read_19 rfl ?_
  refine lv_ldc2 hx hb hown (hts (.constantLong RX12 108 48) (by decide +kernel)) dX12_read_20 ?_
  refine lv_ldc2 hx hb hown (hts (.constantLong RX12 110 57) (by decide +kernel)) dX12_read_23 ?_
  obtain ⟨hPc, hDc, hFc⟩ := zcut (wc := []) hP hD hS hA [] rfl rfl (by decide)
  refine zc_i (ws' := [(A_m, .inr (11, (.int m_length :: .ref A_m_text :: .int m_tokens :: .ref A_m_kind :: .ref A_m_amount :: .int m_newTokens :: .ref A_m_newKind :: .ref A_m_newAmount :: .ref A_m_variable :: .int m_nodes :: .ref A_m_sort :: .ref A_m_left :: .ref A_m_right :: .ref A_m_what :: .ref A_m_result :: .int m_sums :: .ref A_m_root :: .int m_links :: .ref A_m_relation :: .ref A_m_operands :: .int m_operandMany :: .ref A_m_operators :: .ref A_m_functions :: .int m_operatorMany :: .int m_status :: .long m_outcome :: .ref A_m_output :: .int m_outputLength :: .ref A_m_tasks :: .int m_taskMany :: .ref A_m_forms :: .ref A_m_formLength :: .int m_token :: .int 0 :: .int (x1 + 1) :: .int m_depth :: .int m_linkMany :: .int m_isRange :: .int m_primes :: .ref A_m_row :: .ref A_m_statuses :: .ref A_m_outcomes :: .ref A_m_heights :: []))), (A_m_text, .inl (cI, 80, .inl m_text))]) (va_runS (As := [.long (q1).toInt64, .long 48, .long 57]) (rest := []) ⟨hx, hb, hml, hown, hts⟩ (ct_Ref_in l D cI cJ cC adK adV H4.size (q1).toInt64 48 57) (va_cwS 3 hts gX12_read_X12_in rfl rfl rfl (by decide +kernel) ⟨Nat.le_of_ble_eq_true rfl, Nat.le_of_ble_eq_true rfl⟩) ⟨zblind, zpre hX hS hFc hPc hK hDc⟩ rfl rfl hl.1 rfl (lv_room (Nat.le_of_ble_eq_true rfl)) dX12_read_26 ⟨Nat.zero_le _, Nat.zero_le _⟩) hP hD hS hFc [] rfl (by decide) rfl rfl (fun H6 locs hP hD hS => ?_)
  refine lv_if_eq (tgt := 116) hx hb dX12_read_29 (by decide) (fun c7 => ?_) (fun c7 => ?_)
  · have hM := z_t c7 hM
    refine lv_iload_n hx hb dX12_read_116 rfl (lv_at hl 0 rfl) ?_
    refine lv_i2l hx hb dX12_read_117 rfl ?_
    refine lv_ldc2 hx hb hown (hts (.constantLong RX12 115 97) (by decide +kernel)) dX12_read_118 ?_
    refine lv_ldc2 hx hb hown (hts (.constantLong RX12 117 122) (by decide +kernel)) dX12_read_121 ?_
    obtain ⟨hPc, hDc, hFc⟩ := zcut (wc := []) hP hD hS hA [] rfl rfl (by decide)
    refine zc_i (ws' := [(A_m, .inr (11, (.int m_length :: .ref A_m_text :: .int m_tokens :: .ref A_m_kind :: .ref A_m_amount :: .int m_newTokens :: .ref A_m_newKind :: .ref A_m_newAmount :: .ref A_m_variable :: .int m_nodes :: .ref A_m_sort :: .ref A_m_left :: .ref A_m_right :: .ref A_m_what :: .ref A_m_result :: .int m_sums :: .ref A_m_root :: .int m_links :: .ref A_m_relation :: .ref A_m_operands :: .int m_operandMany :: .ref A_m_operators :: .ref A_m_functions :: .int m_operatorMany :: .int m_status :: .long m_outcome :: .ref A_m_output :: .int m_outputLength :: .ref A_m_tasks :: .int m_taskMany :: .ref A_m_forms :: .ref A_m_formLength :: .int m_token :: .int 0 :: .int (x1 + 1) :: .int m_depth :: .int m_linkMany :: .int m_isRange :: .int m_primes :: .ref A_m_row :: .ref A_m_statuses :: .ref A_m_outcomes :: .ref A_m_heights :: []))), (A_m_text, .inl (cI, 80, .inl m_text))]) (va_runS (As := [.long (q1).toInt64, .long 97, .long 122]) (rest := []) ⟨hx, hb, hml, hown, hts⟩ (ct_Ref_in l D cI cJ cC adK adV H6.size (q1).toInt64 97 122) (va_cwS 3 hts gX12_read_X12_in rfl rfl rfl (by decide +kernel) ⟨Nat.le_of_ble_eq_true rfl, Nat.le_of_ble_eq_true rfl⟩) ⟨zblind, zpre hX hS hFc hPc hK hDc⟩ rfl rfl hl.1 rfl (lv_room (Nat.le_of_ble_eq_true rfl)) dX12_read_124 ⟨Nat.zero_le _, Nat.zero_le _⟩) hP hD hS hFc [] rfl (by decide) rfl rfl (fun H9 locs hP hD hS => ?_)
    refine lv_if_eq (tgt := 191) hx hb dX12_read_127 (by decide) (fun c10 => ?_) (fun c10 => ?_)
    · have hM := z_t c10 hM
      refine lv_aload_n hx hb dX12_read_191 rfl (lv_at hl 1 rfl) ?_
      refine lv_iload_n hx hb dX12_read_192 rfl (lv_at hl 0 rfl) ?_
      refine lv_aload_n hx hb dX12_read_193 rfl (lv_at hl 1 rfl) ?_
      refine lv_iload_n hx hb dX12_read_194 rfl (lv_at hl 2 rfl) ?_
      refine lv_iconst (v := 1) hx hb dX12_read_195 (by decide) ?_
      refine lv_iadd hx hb dX12_read_196 ?_
      obtain ⟨q11, hq11, hM⟩ := z_b hM
      obtain ⟨hPc, hDc, hFc⟩ := zcut (wc := [(A_m, .inr (11, (.int m_length :: .ref A_m_text :: .int m_tokens :: .ref A_m_kind :: .ref A_m_amount :: .int m_newTokens :: .ref A_m_newKind :: .ref A_m_newAmount :: .ref A_m_variable :: .int m_nodes :: .ref A_m_sort :: .ref A_m_left :: .ref A_m_right :: .ref A_m_what :: .ref A_m_result :: .int m_sums :: .ref A_m_root :: .int m_links :: .ref A_m_relation :: .ref A_m_operands :: .int m_operandMany :: .ref A_m_operators :: .ref A_m_functions :: .int m_operatorMany :: .int m_status :: .long m_outcome :: .ref A_m_output :: .int m_outputLength :: .ref A_m_tasks :: .int m_taskMany :: .ref A_m_forms :: .ref A_m_formLength :: .int m_token :: .int 0 :: .int (x1 + 1) :: .int m_depth :: .int m_linkMany :: .int m_isRange :: .int m_primes :: .ref A_m_row :: .ref A_m_statuses :: .ref A_m_outcomes :: .ref A_m_heights :: []))), (A_m_text, .inl (cI, 80, .inl m_text))]) hP hD hS hA [0, 1] rfl rfl (by decide)
      refine zc_i (ws' := [(A_m, .inr (11, (.int m_length :: .ref A_m_text :: .int m_tokens :: .ref A_m_kind :: .ref A_m_amount :: .int m_newTokens :: .ref A_m_newKind :: .ref A_m_newAmount :: .ref A_m_variable :: .int m_nodes :: .ref A_m_sort :: .ref A_m_left :: .ref A_m_right :: .ref A_m_what :: .ref A_m_result :: .int m_sums :: .ref A_m_root :: .int m_links :: .ref A_m_relation :: .ref A_m_operands :: .int m_operandMany :: .ref A_m_operators :: .ref A_m_functions :: .int m_operatorMany :: .int m_status :: .long m_outcome :: .ref A_m_output :: .int m_outputLength :: .ref A_m_tasks :: .int m_taskMany :: .ref A_m_forms :: .ref A_m_formLength :: .int m_token :: .int 0 :: .int (x1 + 1) :: .int m_depth :: .int m_linkMany :: .int m_isRange :: .int m_primes :: .ref A_m_row :: .ref A_m_statuses :: .ref A_m_outcomes :: .ref A_m_heights :: []))), (A_m_text, .inl (cI, 80, .inl m_text))]) (va_runV (As := [.int (x1 + 1)]) (rest := [.int q1, .ref A_m]) ⟨hx, hb, hml, hown, hts⟩ (ct_Ref_at l D cI cJ cC adK adV A_m A_m_text A_m_kind A_m_amount A_m_newKind A_m_newAmount A_m_variable A_m_sort A_m_left A_m_right A_m_what A_m_result A_m_root A_m_relation A_m_operands A_m_operators A_m_functions A_m_output A_m_tasks A_m_forms A_m_formLength A_m_row A_m_statuses A_m_outcomes A_m_heights H9.size m_length m_tokens m_newTokens m_nodes m_sums m_links m_operandMany m_operatorMany m_status m_outcome m_outputLength m_taskMany m_token 0 (x1 + 1) m_depth m_linkMany m_isRange m_primes m_text (x1 + 1) hq11) (cwV 1 hts gX12_read_X12_at rfl rfl rfl (by decide +kernel) ⟨Nat.le_of_ble_eq_true rfl, Nat.le_of_ble_eq_true rfl⟩) ⟨zblind, va_recv hK hP (ci := 11) (q0 := 0) rfl rfl, zpre hX hS hFc hPc hK hDc⟩ rfl rfl hl.1 rfl (lv_room (Nat.le_of_ble_eq_true rfl)) dX12_read_197 ⟨Nat.zero_le _, Nat.zero_le _⟩) hP hD hS hFc [0, 1] rfl (by decide) rfl rfl (fun H12 locs hP hD hS => ?_)
      obtain ⟨hPc, hDc, hFc⟩ := zcut (wc := []) hP hD hS hA [] rfl rfl (by decide)
      refine zc_i (ws' := [(A_m, .inr (11, (.int m_length :: .ref A_m_text :: .int m_tokens :: .ref A_m_kind :: .ref A_m_amount :: .int m_newTokens :: .ref A_m_newKind :: .ref A_m_newAmount :: .ref A_m_variable :: .int m_nodes :: .ref A_m_sort :: .ref A_m_left :: .ref A_m_right :: .ref A_m_what :: .ref A_m_result :: .int m_sums :: .ref A_m_root :: .int m_links :: .ref A_m_relation :: .ref A_m_operands :: .int m_operandMany :: .ref A_m_operators :: .ref A_m_functions :: .int m_operatorMany :: .int m_status :: .long m_outcome :: .ref A_m_output :: .int m_outputLength :: .ref A_m_tasks :: .int m_taskMany :: .ref A_m_forms :: .ref A_m_formLength :: .int m_token :: .int 0 :: .int (x1 + 1) :: .int m_depth :: .int m_linkMany :: .int m_isRange :: .int m_primes :: .ref A_m_row :: .ref A_m_statuses :: .ref A_m_outcomes :: .ref A_m_heights :: []))), (A_m_text, .inl (cI, 80, .inl m_text))]) (va_runS (As := [.int q1, .int q11]) (rest := [.ref A_m]) ⟨hx, hb, hml, hown, hts⟩ (ct_Ref_signOf l D cI cJ cC adK adV H12.size q1 q11) (va_cwS 2 hts gX12_read_X12_signOf rfl rfl rfl (by decide +kernel) ⟨Nat.le_of_ble_eq_true rfl, Nat.le_of_ble_eq_true rfl⟩) ⟨zblind, zpre hX hS hFc hPc hK hDc⟩ rfl rfl hl.1 rfl (lv_room (Nat.le_of_ble_eq_true rfl)) dX12_read_200 ⟨Nat.zero_le _, Nat.zero_le _⟩) hP hD hS hFc [] rfl (by decide) rfl rfl (fun H14 locs hP hD hS => ?_)
      refine va_put (D := D) (ci := 11) (v := .int (fn_Ref_signOf q1 q11)) (ty := .int) (C := RX12) (T := TX12) (N := 43) hx hb hts hw0 tyX12 tyX12_ok nmX12 hown hK hP hD hS 0 rfl rfl 32 (by decide) hw3 (fun _ h9 => h9) rfl (by decide +kernel) rfl rfl (Nat.le_of_ble_eq_true rfl) dX12_read_203 (fun H15 locs hP hD hS => ?_)
      have hP : va_P D vwCl [(A_m, .inr (11, (.int m_length :: .ref A_m_text :: .int m_tokens :: .ref A_m_kind :: .ref A_m_amount :: .int m_newTokens :: .ref A_m_newKind :: .ref A_m_newAmount :: .ref A_m_variable :: .int m_nodes :: .ref A_m_sort :: .ref A_m_left :: .ref A_m_right :: .ref A_m_what :: .ref A_m_result :: .int m_sums :: .ref A_m_root :: .int m_links :: .ref A_m_relation :: .ref A_m_operands :: .int m_operandMany :: .ref A_m_operators :: .ref A_m_functions :: .int m_operatorMany :: .int m_status :: .long m_outcome :: .ref A_m_output :: .int m_outputLength :: .ref A_m_tasks :: .int m_taskMany :: .ref A_m_forms :: .ref A_m_formLength :: .int (fn_Ref_signOf q1 q11) :: .int 0 :: .int (x1 + 1) :: .int m_depth :: .int m_linkMany :: .int m_isRange :: .int m_primes :: .ref A_m_row :: .ref A_m_statuses :: .ref A_m_outcomes :: .ref A_m_heights :: []))), (A_m_text, .inl (cI, 80, .inl m_text))] H15 := hP
      have hD : va_D A [(A_m, .inr (11, (.int m_length :: .ref A_m_text :: .int m_tokens :: .ref A_m_kind :: .ref A_m_amount :: .int m_newTokens :: .ref A_m_newKind :: .ref A_m_newAmount :: .ref A_m_variable :: .int m_nodes :: .ref A_m_sort :: .ref A_m_left :: .ref A_m_right :: .ref A_m_what :: .ref A_m_result :: .int m_sums :: .ref A_m_root :: .int m_links :: .ref A_m_relation :: .ref A_m_operands :: .int m_operandMany :: .ref A_m_operators :: .ref A_m_functions :: .int m_operatorMany :: .int m_status :: .long m_outcome :: .ref A_m_output :: .int m_outputLength :: .ref A_m_tasks :: .int m_taskMany :: .ref A_m_forms :: .ref A_m_formLength :: .int (fn_Ref_signOf q1 q11) :: .int 0 :: .int (x1 + 1) :: .int m_depth :: .int m_linkMany :: .int m_isRange :: .int m_primes :: .ref A_m_row :: .ref A_m_statuses :: .ref A_m_outcomes :: .ref A_m_heights :: []))), (A_m_text, .inl (cI, 80, .inl m_text))] := hD
      refine lv_aload_n hx hb dX12_read_206 rfl (lv_at hl 1 rfl) ?_
      refine va_get (D := D) (ci := 11) (v := .int (fn_Ref_signOf q1 q11)) (C := RX12) (T := TX12) (N := 43) hx hb hts hw0 hown hK hP 0 rfl rfl 32 (by decide) hw3 (fun _ h9 => h9) rfl dX12_read_207 ?_
      refine lv_bipush (v := 15) hx hb dX12_read_210 (by decide) ?_
      refine lv_icmp_eq (tgt := 242) hx hb dX12_read_212 (by decide) (fun c16 => ?_) (fun c16 => ?_)
      · have hM := z_t c16 hM
        exact B_242_0  (fn_Ref_signOf q1 q11) 0 (x1 + 1) x1 _ _ ls hP hD hS (lv_sub hl [1, 2] rfl) hM
      · have hM := z_f c16 hM
        refine lv_aload_n hx hb dX12_read_215 rfl (lv_at hl 1 rfl) ?_
        refine va_get (D := D) (ci := 11) (v := .int (fn_Ref_signOf q1 q11)) (C := RX12) (T := TX12) (N := 43) hx hb hts hw0 hown hK hP 0 rfl rfl 32 (by decide) hw3 (fun _ h9 => h9) rfl dX12_read_216 ?_
        refine lv_bipush (v := 16) hx hb dX12_read_219 (by decide) ?_
        refine lv_icmp_eq (tgt := 242) hx hb dX12_read_221 (by decide) (fun c20 => ?_) (fun c20 => ?_)
        · have hM := z_t c20 hM
          exact B_242_0  (fn_Ref_signOf q1 q11) 0 (x1 + 1) x1 _ _ ls hP hD hS (lv_sub hl [1, 2] rfl) hM
        · have hM := z_f c20 hM
          refine lv_aload_n hx hb dX12_read_224 rfl (lv_at hl 1 rfl) ?_
          refine va_get (D := D) (ci := 11) (v := .int (fn_Ref_signOf q1 q11)) (C := RX12) (T := TX12) (N := 43) hx hb hts hw0 hown hK hP 0 rfl rfl 32 (by decide) hw3 (fun _ h9 => h9) rfl dX12_read_225 ?_
          refine lv_bipush (v := 17) hx hb dX12_read_228 (by decide) ?_
          refine lv_icmp_eq (tgt := 242) hx hb dX12_read_230 (by decide) (fun c21 => ?_) (fun c21 => ?_)
          · have hM := z_t c21 hM
            exact B_242_0  (fn_Ref_signOf q1 q11) 0 (x1 + 1) x1 _ _ ls hP hD hS (lv_sub hl [1, 2] rfl) hM
          · have hM := z_f c21 hM
            refine lv_aload_n hx hb dX12_read_233 rfl (lv_at hl 1 rfl) ?_
            refine va_get (D := D) (ci := 11) (v := .int (fn_Ref_signOf q1 q11)) (C := RX12) (T := TX12) (N := 43) hx hb hts hw0 hown hK hP 0 rfl rfl 32 (by decide) hw3 (fun _ h9 => h9) rfl dX12_read_234 ?_
            refine lv_bipush (v := 19) hx hb dX12_read_237 (by decide) ?_
            refine lv_icmp_ne (tgt := 246) hx hb dX12_read_239 (by decide) (fun c22 => ?_) (fun c22 => ?_)
            · have hM := z_f c22 hM
              refine lv_iconst (v := 0) hx hb dX12_read_246 (by decide) ?_
              exact B_247_1  (fn_Ref_signOf q1 q11) 0 (x1 + 1) x1 0 _ _ ls hP hD hS (lv_sub hl [1, 2] rfl) hM
            · have hM := z_t c22 hM
              exact B_242_0  (fn_Ref_signOf q1 q11) 0 (x1 + 1) x1 _ _ ls hP hD hS (lv_sub hl [1, 2] rfl) hM
    · have hM := z_f c10 hM
      refine lv_aload_n hx hb dX12_read_130 rfl (lv_at hl 1 rfl) ?_
      refine lv_iload_n hx hb dX12_read_131 rfl (lv_at hl 2 rfl) ?_
      obtain ⟨q23, hq23, hM⟩ := z_b hM
      obtain ⟨hPc, hDc, hFc⟩ := zcut (wc := [(A_m, .inr (11, (.int m_length :: .ref A_m_text :: .int m_tokens :: .ref A_m_kind :: .ref A_m_amount :: .int m_newTokens :: .ref A_m_newKind :: .ref A_m_newAmount :: .ref A_m_variable :: .int m_nodes :: .ref A_m_sort :: .ref A_m_left :: .ref A_m_right :: .ref A_m_what :: .ref A_m_result :: .int m_sums :: .ref A_m_root :: .int m_links :: .ref A_m_relation :: .ref A_m_operands :: .int m_operandMany :: .ref A_m_operators :: .ref A_m_functions :: .int m_operatorMany :: .int m_status :: .long m_outcome :: .ref A_m_output :: .int m_outputLength :: .ref A_m_tasks :: .int m_taskMany :: .ref A_m_forms :: .ref A_m_formLength :: .int m_token :: .int 0 :: .int (x1 + 1) :: .int m_depth :: .int m_linkMany :: .int m_isRange :: .int m_primes :: .ref A_m_row :: .ref A_m_statuses :: .ref A_m_outcomes :: .ref A_m_heights :: []))), (A_m_text, .inl (cI, 80, .inl m_text))]) hP hD hS hA [0, 1] rfl rfl (by decide)
      refine zc_i (ws' := [(A_m, .inr (11, (.int m_length :: .ref A_m_text :: .int m_tokens :: .ref A_m_kind :: .ref A_m_amount :: .int m_newTokens :: .ref A_m_newKind :: .ref A_m_newAmount :: .ref A_m_variable :: .int m_nodes :: .ref A_m_sort :: .ref A_m_left :: .ref A_m_right :: .ref A_m_what :: .ref A_m_result :: .int m_sums :: .ref A_m_root :: .int m_links :: .ref A_m_relation :: .ref A_m_operands :: .int m_operandMany :: .ref A_m_operators :: .ref A_m_functions :: .int m_operatorMany :: .int m_status :: .long m_outcome :: .ref A_m_output :: .int m_outputLength :: .ref A_m_tasks :: .int m_taskMany :: .ref A_m_forms :: .ref A_m_formLength :: .int m_token :: .int 0 :: .int (x1 + 1) :: .int m_depth :: .int m_linkMany :: .int m_isRange :: .int m_primes :: .ref A_m_row :: .ref A_m_statuses :: .ref A_m_outcomes :: .ref A_m_heights :: []))), (A_m_text, .inl (cI, 80, .inl m_text))]) (va_runV (As := [.int x1]) (rest := []) ⟨hx, hb, hml, hown, hts⟩ (ct_Ref_functionAt l D cI cJ cC adK adV A_m A_m_text A_m_kind A_m_amount A_m_newKind A_m_newAmount A_m_variable A_m_sort A_m_left A_m_right A_m_what A_m_result A_m_root A_m_relation A_m_operands A_m_operators A_m_functions A_m_output A_m_tasks A_m_forms A_m_formLength A_m_row A_m_statuses A_m_outcomes A_m_heights H9.size m_length m_tokens m_newTokens m_nodes m_sums m_links m_operandMany m_operatorMany m_status m_outcome m_outputLength m_taskMany m_token 0 (x1 + 1) m_depth m_linkMany m_isRange m_primes m_text x1 hq23) (cwV 1 hts gX12_read_X12_functionAt rfl rfl rfl (by decide +kernel) ⟨Nat.le_of_ble_eq_true rfl, Nat.le_of_ble_eq_true rfl⟩) ⟨zblind, va_recv hK hP (ci := 11) (q0 := 0) rfl rfl, zpre hX hS hFc hPc hK hDc⟩ rfl rfl hl.1 rfl (lv_room (Nat.le_of_ble_eq_true rfl)) dX12_read_132 ⟨Nat.zero_le _, Nat.zero_le _⟩) hP hD hS hFc [0, 1] rfl (by decide) rfl rfl (fun H24 locs hP hD hS => ?_)
      refine lv_istore_n (lv' := [(3, .int q23), (2, .int q1), (0, .ref A_m), (1, .int x1)]) hx hb dX12_read_135 rfl hl (by decide) rfl (fun ls hl => ?_)
      refine lv_aload_n hx hb dX12_read_136 rfl (lv_at hl 2 rfl) ?_
      refine lv_iload_n hx hb dX12_read_137 rfl (lv_at hl 0 rfl) ?_
      refine lv_bipush (v := (-3)) hx hb dX12_read_138 (by decide) ?_
      refine lv_icmp_ne (tgt := 147) hx hb dX12_read_140 (by decide) (fun c25 => ?_) (fun c25 => ?_)
      · have hM := z_f c25 hM
        refine lv_iconst (v := 3) hx hb dX12_read_147 (by decide) ?_
        exact B_148_2  m_token 0 (x1 + 1) x1 q1 q23 3 _ _ ls hP hD hS (lv_sub hl [2, 3, 1, 0] rfl) hM
      · have hM := z_t c25 hM
        refine lv_iconst (v := 2) hx hb dX12_read_143 (by decide) ?_
        refine lv_goto (tgt := 148) hx hb dX12_read_144 (by decide) ?_
        exact B_148_2  m_token 0 (x1 + 1) x1 q1 q23 2 _ _ ls hP hD hS (lv_sub hl [2, 3, 1, 0] rfl) hM
  · have hM := z_f c7 hM
    refine lv_iload_n hx hb dX12_read_32 rfl (lv_at hl 2 rfl) ?_
    refine lv_istore_n (lv' := [(3, .int x1), (2, .int q1), (0, .ref A_m), (1, .int x1)]) hx hb dX12_read_33 rfl hl (by decide) rfl (fun ls hl => ?_)
    exact L_34_4  zFU m_token 0 (x1 + 1) x1 x1 _ _ ls hP hD hS (lv_sub hl [2, 3, 0] rfl) hM
def fn_Ref_isRelation (x0 : Int32) : Option (Int32) := (if ¬ ((fn_Ref_in (x0).toInt64 12 18) = 0 ∨ (fn_Ref_in (x0).toInt64 12 18) = 1) then none else some (fn_Ref_in (x0).toInt64 12 18))
set_option maxHeartbeats 40000000 in
set_option maxRecDepth 100000 in
theorem ct_Ref_isRelation (l : Launch) (D : va_G) (cI cJ cC : ClassId) (adK adV : Nat → Nat) (sz : Nat) (x0 : Int32) {rs : Int32} (hM : fn_Ref_isRelation x0 = some rs) : Met l yX12_isRelation wsX12_isRelation ({ frames := 1, cells := 0, slots := 0, locals := 25 } : Room) (zP D cI cJ cC adK adV [.int x0] sz []) (zQi D cI cJ cC rs [] (va_A [] sz)) 0 0 (va_A [] sz) := by
  refine Met.ofW (cc := cX12_isRelation) (maxL := 1) (ret := (some .boolean)) (by decide) rfl ?_
  intro p e s m args below meth c s₁ B hml hv0
  obtain ⟨hargs, hsz, hP, hK, hD0, hX⟩ := hv0
  have hx := B.exec
  have hb := B.bytes
  have hr := B.returns
  have hts := atoms_spec (ws := wsX12_isRelation) B.pre
  have hown : s.vm.findClass RX12 = some m.cls := findClass_of_methodNamed B.named
  have hlocks := B.notSynchronized
  subst hsz
  have hD := hD0.self (sz := s.heap.size)
  generalize hAe : va_A [] s.heap.size = A at hD hX ⊢
  have hA : ∀ q : Nat, s.heap.size ≤ q → A q := fun q h => by rw [← hAe]; exact Or.inr h
  have hS : va_S A s.heap s.heap [] := va_S.rf
  have hl := lv_entry ([.int x0]) (n := 1) (Nat.le_of_ble_eq_true rfl)
  rw [hargs, lg_entry_eq, ← hargs]
  generalize (lg_sl ([.int x0]) ++ List.replicate (1 - (lg_sl ([.int x0])).length) Slot.unset).toArray = ls at hl ⊢
  have hl : lv_has ls 1 [(0, .int x0)] := hl
  refine lv_iload_n hx hb dX12_isRelation_0 rfl (lv_at hl 0 rfl) ?_
  refine lv_i2l hx hb dX12_isRelation_1 rfl ?_
  refine lv_ldc2 hx hb hown (hts (.constantLong RX12 126 12) (by decide +kernel)) dX12_isRelation_2 ?_
  refine lv_ldc2 hx hb hown (hts (.constantLong RX12 128 18) (by decide +kernel)) dX12_isRelation_5 ?_
  obtain ⟨hPc, hDc, hFc⟩ := zcut (wc := []) hP hD hS hA [] rfl rfl (by decide)
  refine zc_i (ws' := []) (va_runS (As := [.long (x0).toInt64, .long 12, .long 18]) (rest := []) ⟨hx, hb, hml, hown, hts⟩ (ct_Ref_in l D cI cJ cC adK adV s.heap.size (x0).toInt64 12 18) (va_cwS 3 hts gX12_isRelation_X12_in rfl rfl rfl (by decide +kernel) ⟨Nat.le_of_ble_eq_true rfl, Nat.le_of_ble_eq_true rfl⟩) ⟨zblind, zpre hX hS hFc hPc hK hDc⟩ rfl rfl hl.1 rfl (lv_room (Nat.le_of_ble_eq_true rfl)) dX12_isRelation_8 ⟨Nat.zero_le _, Nat.zero_le _⟩) hP hD hS hFc [] rfl (by decide) rfl rfl (fun H2 locs hP hD hS => ?_)
  obtain ⟨g3, hM⟩ := z_g hM
  have hM := Option.some.inj hM
  subst hM
  exact W.zret (v := (fn_Ref_in (x0).toInt64 12 18)) (ty := .boolean) hx hb hr (z_bool g3) (fun t ht hW => ⟨⟨_, (), rfl, rfl, ⟨by rw [ht]; exact hP, va_K.moved hW.alike hK, hD⟩⟩, hS.F ht⟩) hS.2.2 dX12_isRelation_11
def fn_Ref_mayFollow_b158 (m_depth : Int32) (m_linkMany : Int32) (m_isRange : Int32) (m_primes : Int32) (x2 : Int32) (x4 : Int32) : Option (Int32) := (if x4 = 0 then (if x2 = 1 then some 1 else (if x2 = 4 then (if 3 ≤ m_primes then some 0 else some 1) else some 0)) else some 1)
def fn_Ref_mayFollow_b215 (m_depth : Int32) (m_linkMany : Int32) (m_isRange : Int32) (m_primes : Int32) (x2 : Int32) (x4 : Int32) (k0 : Int32) : Option (Int32) := (if x4 = 0 then (if x2 = 1 then some 1 else (if x2 = 6 then (if k0 = 0 then some 0 else some 1) else some 0)) else some 1)
def fn_Ref_mayFollow_b210 (m_depth : Int32) (m_linkMany : Int32) (m_isRange : Int32) (m_primes : Int32) (x2 : Int32) (x4 : Int32) : Option (Int32) := fn_Ref_mayFollow_b215 m_depth m_linkMany m_isRange m_primes x2 x4 1
def fn_Ref_mayFollow_b122 (m_depth : Int32) (m_linkMany : Int32) (m_isRange : Int32) (m_primes : Int32) (x2 : Int32) : Option (Int32) := (if x2 = 19 then (if m_depth = 0 then (if m_isRange = 0 then some 0 else some 1) else some 0) else some 0)
def fn_Ref_mayFollow_b102 (m_depth : Int32) (m_linkMany : Int32) (m_isRange : Int32) (m_primes : Int32) (x2 : Int32) (x5 : Int32) : Option (Int32) := ((fn_Ref_isRelation x2).bind fun q26 => (if q26 = 0 then fn_Ref_mayFollow_b122 m_depth m_linkMany m_isRange m_primes x2 else (if x5 = 0 then fn_Ref_mayFollow_b122 m_depth m_linkMany m_isRange m_primes x2 else (if m_linkMany < 4 then some 1 else fn_Ref_mayFollow_b122 m_depth m_linkMany m_isRange m_primes x2))))
def fn_Ref_mayFollow_b68 (m_depth : Int32) (m_linkMany : Int32) (m_isRange : Int32) (m_primes : Int32) (x2 : Int32) (x4 : Int32) (k0 : Int32) : Option (Int32) := (if x4 = 0 then (if (fn_Ref_in (x2).toInt64 5 9) = 0 then (if x2 = 11 then (if 0 < m_depth then some 1 else fn_Ref_mayFollow_b102 m_depth m_linkMany m_isRange m_primes x2 k0) else fn_Ref_mayFollow_b102 m_depth m_linkMany m_isRange m_primes x2 k0) else some 1) else some 1)
def fn_Ref_mayFollow_b67 (m_depth : Int32) (m_linkMany : Int32) (m_isRange : Int32) (m_primes : Int32) (x2 : Int32) (x4 : Int32) : Option (Int32) := fn_Ref_mayFollow_b68 m_depth m_linkMany m_isRange m_primes x2 x4 0
def fn_Ref_mayFollow_b43 (m_depth : Int32) (m_linkMany : Int32) (m_isRange : Int32) (m_primes : Int32) (x1 : Int32) (x2 : Int32) (x3 : Int32) (k0 : Int32) : Option (Int32) := (if x3 = 0 then (if x1 = 3 then fn_Ref_mayFollow_b158 m_depth m_linkMany m_isRange m_primes x2 k0 else (if x1 = 4 then fn_Ref_mayFollow_b158 m_depth m_linkMany m_isRange m_primes x2 k0 else (if x1 = 0 then fn_Ref_mayFollow_b210 m_depth m_linkMany m_isRange m_primes x2 k0 else (if x1 = 10 then fn_Ref_mayFollow_b210 m_depth m_linkMany m_isRange m_primes x2 k0 else ((fn_Ref_isRelation x1).bind fun q16 => (if q16 = 0 then (if x1 = 19 then fn_Ref_mayFollow_b210 m_depth m_linkMany m_isRange m_primes x2 k0 else fn_Ref_mayFollow_b215 m_depth m_linkMany m_isRange m_primes x2 k0 0) else fn_Ref_mayFollow_b210 m_depth m_linkMany m_isRange m_primes x2 k0)))))) else (if m_depth = 0 then (if m_isRange = 0 then fn_Ref_mayFollow_b68 m_depth m_linkMany m_isRange m_primes x2 k0 1 else fn_Ref_mayFollow_b67 m_depth m_linkMany m_isRange m_primes x2 k0) else fn_Ref_mayFollow_b67 m_depth m_linkMany m_isRange m_primes x2 k0))
def fn_Ref_mayFollow_b38 (m_depth : Int32) (m_linkMany : Int32) (m_isRange : Int32) (m_primes : Int32) (x1 : Int32) (x2 : Int32) (x3 : Int32) : Option (Int32) := fn_Ref_mayFollow_b43 m_depth m_linkMany m_isRange m_primes x1 x2 x3 1
def fn_Ref_mayFollow_b21 (m_depth : Int32) (m_linkMany : Int32) (m_isRange : Int32) (m_primes : Int32) (x1 : Int32) (x2 : Int32) (k0 : Int32) : Option (Int32) := (if x2 = 2 then fn_Ref_mayFollow_b38 m_depth m_linkMany m_isRange m_primes x1 x2 k0 else (if x2 = 3 then fn_Ref_mayFollow_b38 m_depth m_linkMany m_isRange m_primes x1 x2 k0 else (if x2 = 10 then fn_Ref_mayFollow_b38 m_depth m_linkMany m_isRange m_primes x1 x2 k0 else fn_Ref_mayFollow_b43 m_depth m_linkMany m_isRange m_primes x1 x2 k0 0)))
def fn_Ref_mayFollow_b16 (m_depth : Int32) (m_linkMany : Int32) (m_isRange : Int32) (m_primes : Int32) (x1 : Int32) (x2 : Int32) : Option (Int32) := fn_Ref_mayFollow_b21 m_depth m_linkMany m_isRange m_primes x1 x2 1
def fn_Ref_mayFollow (m_depth : Int32) (m_linkMany : Int32) (m_isRange : Int32) (m_primes : Int32) (x1 : Int32) (x2 : Int32) : Option (Int32) := (if x1 = 1 then fn_Ref_mayFollow_b16 m_depth m_linkMany m_isRange m_primes x1 x2 else (if x1 = 2 then fn_Ref_mayFollow_b16 m_depth m_linkMany m_isRange m_primes x1 x2 else (if x1 = 11 then fn_Ref_mayFollow_b16 m_depth m_linkMany m_isRange m_primes x1 x2 else fn_Ref_mayFollow_b21 m_depth m_linkMany m_isRange m_primes x1 x2 0)))
set_option maxHeartbeats 40000000 in
set_option maxRecDepth 100000 in
theorem ct_Ref_mayFollow (l : Launch) (D : va_G) (cI cJ cC : ClassId) (adK adV : Nat → Nat) (A_m A_m_text A_m_kind A_m_amount A_m_newKind A_m_newAmount A_m_variable A_m_sort A_m_left A_m_right A_m_what A_m_result A_m_root A_m_relation A_m_operands A_m_operators A_m_functions A_m_output A_m_tasks A_m_forms A_m_formLength A_m_row A_m_statuses A_m_outcomes A_m_heights : Nat) (sz : Nat) (m_length : Int32) (m_tokens : Int32) (m_newTokens : Int32) (m_nodes : Int32) (m_sums : Int32) (m_links : Int32) (m_operandMany : Int32) (m_operatorMany : Int32) (m_status : Int32) (m_outcome : Int64) (m_outputLength : Int32) (m_taskMany : Int32) (m_token : Int32) (m_tokenAmount : Int32) (m_ahead : Int32) (m_depth : Int32) (m_linkMany : Int32) (m_isRange : Int32) (m_primes : Int32) (x1 : Int32) (x2 : Int32) {rs : Int32} (hM : fn_Ref_mayFollow m_depth m_linkMany m_isRange m_primes x1 x2 = some rs) : Met l yX12_mayFollow wsX12_mayFollow ({ frames := 2, cells := 0, slots := 0, locals := 45 } : Room) (zP D cI cJ cC adK adV [.ref A_m, .int x1, .int x2] sz [(A_m, .inr (11, (.int m_length :: .ref A_m_text :: .int m_tokens :: .ref A_m_kind :: .ref A_m_amount :: .int m_newTokens :: .ref A_m_newKind :: .ref A_m_newAmount :: .ref A_m_variable :: .int m_nodes :: .ref A_m_sort :: .ref A_m_left :: .ref A_m_right :: .ref A_m_what :: .ref A_m_result :: .int m_sums :: .ref A_m_root :: .int m_links :: .ref A_m_relation :: .ref A_m_operands :: .int m_operandMany :: .ref A_m_operators :: .ref A_m_functions :: .int m_operatorMany :: .int m_status :: .long m_outcome :: .ref A_m_output :: .int m_outputLength :: .ref A_m_tasks :: .int m_taskMany :: .ref A_m_forms :: .ref A_m_formLength :: .int m_token :: .int m_tokenAmount :: .int m_ahead :: .int m_depth :: .int m_linkMany :: .int m_isRange :: .int m_primes :: .ref A_m_row :: .ref A_m_statuses :: .ref A_m_outcomes :: .ref A_m_heights :: [])))]) (zQi D cI cJ cC rs [(A_m, .inr (11, (.int m_length :: .ref A_m_text :: .int m_tokens :: .ref A_m_kind :: .ref A_m_amount :: .int m_newTokens :: .ref A_m_newKind :: .ref A_m_newAmount :: .ref A_m_variable :: .int m_nodes :: .ref A_m_sort :: .ref A_m_left :: .ref A_m_right :: .ref A_m_what :: .ref A_m_result :: .int m_sums :: .ref A_m_root :: .int m_links :: .ref A_m_relation :: .ref A_m_operands :: .int m_operandMany :: .ref A_m_operators :: .ref A_m_functions :: .int m_operatorMany :: .int m_status :: .long m_outcome :: .ref A_m_output :: .int m_outputLength :: .ref A_m_tasks :: .int m_taskMany :: .ref A_m_forms :: .ref A_m_formLength :: .int m_token :: .int m_tokenAmount :: .int m_ahead :: .int m_depth :: .int m_linkMany :: .int m_isRange :: .int m_primes :: .ref A_m_row :: .ref A_m_statuses :: .ref A_m_outcomes :: .ref A_m_heights :: [])))] (va_A [(A_m, .inr (11, (.int m_length :: .ref A_m_text :: .int m_tokens :: .ref A_m_kind :: .ref A_m_amount :: .int m_newTokens :: .ref A_m_newKind :: .ref A_m_newAmount :: .ref A_m_variable :: .int m_nodes :: .ref A_m_sort :: .ref A_m_left :: .ref A_m_right :: .ref A_m_what :: .ref A_m_result :: .int m_sums :: .ref A_m_root :: .int m_links :: .ref A_m_relation :: .ref A_m_operands :: .int m_operandMany :: .ref A_m_operators :: .ref A_m_functions :: .int m_operatorMany :: .int m_status :: .long m_outcome :: .ref A_m_output :: .int m_outputLength :: .ref A_m_tasks :: .int m_taskMany :: .ref A_m_forms :: .ref A_m_formLength :: .int m_token :: .int m_tokenAmount :: .int m_ahead :: .int m_depth :: .int m_linkMany :: .int m_isRange :: .int m_primes :: .ref A_m_row :: .ref A_m_statuses :: .ref A_m_outcomes :: .ref A_m_heights :: [])))] sz)) 0 0 (va_A [(A_m, .inr (11, (.int m_length :: .ref A_m_text :: .int m_tokens :: .ref A_m_kind :: .ref A_m_amount :: .int m_newTokens :: .ref A_m_newKind :: .ref A_m_newAmount :: .ref A_m_variable :: .int m_nodes :: .ref A_m_sort :: .ref A_m_left :: .ref A_m_right :: .ref A_m_what :: .ref A_m_result :: .int m_sums :: .ref A_m_root :: .int m_links :: .ref A_m_relation :: .ref A_m_operands :: .int m_operandMany :: .ref A_m_operators :: .ref A_m_functions :: .int m_operatorMany :: .int m_status :: .long m_outcome :: .ref A_m_output :: .int m_outputLength :: .ref A_m_tasks :: .int m_taskMany :: .ref A_m_forms :: .ref A_m_formLength :: .int m_token :: .int m_tokenAmount :: .int m_ahead :: .int m_depth :: .int m_linkMany :: .int m_isRange :: .int m_primes :: .ref A_m_row :: .ref A_m_statuses :: .ref A_m_outcomes :: .ref A_m_heights :: [])))] sz) := by
  refine Met.ofW (cc := cX12_mayFollow) (maxL := 6) (ret := (some .boolean)) (by decide) rfl ?_
  intro p e s m args below meth c s₁ B hml hv0
  obtain ⟨hargs, hsz, hP, hK, hD0, hX⟩ := hv0
  have hx := B.exec
  have hb := B.bytes
  have hr := B.returns
  have hts := atoms_spec (ws := wsX12_mayFollow) B.pre
  have hown : s.vm.findClass RX12 = some m.cls := findClass_of_methodNamed B.named
  have hlocks := B.notSynchronized
  subst hsz
  have hD := hD0.self (sz := s.heap.size)
  generalize hAe : va_A [(A_m, .inr (11, (.int m_length :: .ref A_m_text :: .int m_tokens :: .ref A_m_kind :: .ref A_m_amount :: .int m_newTokens :: .ref A_m_newKind :: .ref A_m_newAmount :: .ref A_m_variable :: .int m_nodes :: .ref A_m_sort :: .ref A_m_left :: .ref A_m_right :: .ref A_m_what :: .ref A_m_result :: .int m_sums :: .ref A_m_root :: .int m_links :: .ref A_m_relation :: .ref A_m_operands :: .int m_operandMany :: .ref A_m_operators :: .ref A_m_functions :: .int m_operatorMany :: .int m_status :: .long m_outcome :: .ref A_m_output :: .int m_outputLength :: .ref A_m_tasks :: .int m_taskMany :: .ref A_m_forms :: .ref A_m_formLength :: .int m_token :: .int m_tokenAmount :: .int m_ahead :: .int m_depth :: .int m_linkMany :: .int m_isRange :: .int m_primes :: .ref A_m_row :: .ref A_m_statuses :: .ref A_m_outcomes :: .ref A_m_heights :: [])))] s.heap.size = A at hD hX ⊢
  have hA : ∀ q : Nat, s.heap.size ≤ q → A q := fun q h => by rw [← hAe]; exact Or.inr h
  have hS : va_S A s.heap s.heap [] := va_S.rf
  have hl := lv_entry ([.ref A_m, .int x1, .int x2]) (n := 6) (Nat.le_of_ble_eq_true rfl)
  rw [hargs, lg_entry_eq, ← hargs]
  generalize (lg_sl ([.ref A_m, .int x1, .int x2]) ++ List.replicate (6 - (lg_sl ([.ref A_m, .int x1, .int x2])).length) Slot.unset).toArray = ls at hl ⊢
  have hl : lv_has ls 6 [(0, .ref A_m), (1, .int x1), (2, .int x2)] := hl
  have hw0 : ∀ w ∈ u_ws RX12 TX12 43, w ∈ wsX12_mayFollow := by decide +kernel
  have hw1 := hts (.fieldLink RX12 148 "NotationParserModel" "primes" "I") (by decide +kernel)
  have hw2 := hts (.fieldLink RX12 130 "NotationParserModel" "depth" "I") (by decide +kernel)
  have hw3 := hts (.fieldLink RX12 133 "NotationParserModel" "isRange" "Z") (by decide +kernel)
  have hw4 := hts (.fieldLink RX12 145 "NotationParserModel" "linkMany" "I") (by decide +kernel)
  have B_158_4 : ∀ (x2 : Int32) (x4 : Int32) (H : Heap) (locs : List Loc) (ls : Array Slot), va_P D vwCl [(A_m, .inr (11, (.int m_length :: .ref A_m_text :: .int m_tokens :: .ref A_m_kind :: .ref A_m_amount :: .int m_newTokens :: .ref A_m_newKind :: .ref A_m_newAmount :: .ref A_m_variable :: .int m_nodes :: .ref A_m_sort :: .ref A_m_left :: .ref A_m_right :: .ref A_m_what :: .ref A_m_result :: .int m_sums :: .ref A_m_root :: .int m_links :: .ref A_m_relation :: .ref A_m_operands :: .int m_operandMany :: .ref A_m_operators :: .ref A_m_functions :: .int m_operatorMany :: .int m_status :: .long m_outcome :: .ref A_m_output :: .int m_outputLength :: .ref A_m_tasks :: .int m_taskMany :: .ref A_m_forms :: .ref A_m_formLength :: .int m_token :: .int m_tokenAmount :: .int m_ahead :: .int m_depth :: .int m_linkMany :: .int m_isRange :: .int m_primes :: .ref A_m_row :: .ref A_m_statuses :: .ref A_m_outcomes :: .ref A_m_heights :: [])))] H → va_D A [(A_m, .inr (11, (.int m_length :: .ref A_m_text :: .int m_tokens :: .ref A_m_kind :: .ref A_m_amount :: .int m_newTokens :: .ref A_m_newKind :: .ref A_m_newAmount :: .ref A_m_variable :: .int m_nodes :: .ref A_m_sort :: .ref A_m_left :: .ref A_m_right :: .ref A_m_what :: .ref A_m_result :: .int m_sums :: .ref A_m_root :: .int m_links :: .ref A_m_relation :: .ref A_m_operands :: .int m_operandMany :: .ref A_m_operators :: .ref A_m_functions :: .int m_operatorMany :: .int m_status :: .long m_outcome :: .ref A_m_output :: .int m_outputLength :: .ref A_m_tasks :: .int m_taskMany :: .ref A_m_forms :: .ref A_m_formLength :: .int m_token :: .int m_tokenAmount :: .int m_ahead :: .int m_depth :: .int m_linkMany :: .int m_isRange :: .int m_primes :: .ref A_m_row :: .ref A_m_statuses :: .ref A_m_outcomes :: .ref A_m_heights :: [])))] → va_S A s.heap H locs → lv_has ls 6 [(0, .ref A_m), (2, .int x2), (4, .int x4)] → fn_Ref_mayFollow_b158 m_depth m_linkMany m_isRange m_primes x2 x4 = some rs → W p l e (headSpec wsX12_mayFollow ({ frames := 2, cells := 0, slots := 0, locals := 45 } : Room)).room s m args below meth c H locs 0 0 (MQ below (zQi D cI cJ cC rs [(A_m, .inr (11, (.int m_length :: .ref A_m_text :: .int m_tokens :: .ref A_m_kind :: .ref A_m_amount :: .int m_newTokens :: .ref A_m_newKind :: .ref A_m_newAmount :: .ref A_m_variable :: .int m_nodes :: .ref A_m_sort :: .ref A_m_left :: .ref A_m_right :: .ref A_m_what :: .ref A_m_result :: .int m_sums :: .ref A_m_root :: .int m_links :: .ref A_m_relation :: .ref A_m_operands :: .int m_operandMany :: .ref A_m_operators :: .ref A_m_functions :: .int m_operatorMany :: .int m_status :: .long m_outcome :: .ref A_m_output :: .int m_outputLength :: .ref A_m_tasks :: .int m_taskMany :: .ref A_m_forms :: .ref A_m_formLength :: .int m_token :: .int m_tokenAmount :: .int m_ahead :: .int m_depth :: .int m_linkMany :: .int m_isRange :: .int m_primes :: .ref A_m_row :: .ref A_m_statuses :: .ref A_m_outcomes :: .ref A_m_heights :: [])))] A) args s 0 0 A) (F0 m 158 ls []) := by
    intro  x2 x4 H locs ls hP hD hS hl hM
    refine lv_iload hx hb dX12_mayFollow_158 (lv_at hl 2 rfl) ?_
    refine lv_if_ne (tgt := 181) hx hb dX12_mayFollow_160 (by decide) (fun c5 => ?_) (fun c5 => ?_)
    · have hM := z_f c5 hM
      refine lv_iconst (v := 1) hx hb dX12_mayFollow_181 (by decide) ?_
      refine lv_goto (tgt := 186) hx hb dX12_mayFollow_182 (by decide) ?_
      have hM := Option.some.inj hM
      subst hM
      exact W.zret (v := 1) (ty := .boolean) hx hb hr rfl (fun t ht hW => ⟨⟨_, (), rfl, rfl, ⟨by rw [ht]; exact hP, va_K.moved hW.alike hK, hD⟩⟩, hS.F ht⟩) hS.2.2 dX12_mayFollow_186
    · have hM := z_t c5 hM
      refine lv_iload_n hx hb dX12_mayFollow_163 rfl (lv_at hl 1 rfl) ?_
      refine lv_iconst (v := 1) hx hb dX12_mayFollow_164 (by decide) ?_
      refine lv_icmp_eq (tgt := 181) hx hb dX12_mayFollow_165 (by decide) (fun c6 => ?_) (fun c6 => ?_)
      · have hM := z_t c6 hM
        refine lv_iconst (v := 1) hx hb dX12_mayFollow_181 (by decide) ?_
        refine lv_goto (tgt := 186) hx hb dX12_mayFollow_182 (by decide) ?_
        have hM := Option.some.inj hM
        subst hM
        exact W.zret (v := 1) (ty := .boolean) hx hb hr rfl (fun t ht hW => ⟨⟨_, (), rfl, rfl, ⟨by rw [ht]; exact hP, va_K.moved hW.alike hK, hD⟩⟩, hS.F ht⟩) hS.2.2 dX12_mayFollow_186
      · have hM := z_f c6 hM
        refine lv_iload_n hx hb dX12_mayFollow_168 rfl (lv_at hl 1 rfl) ?_
        refine lv_iconst (v := 4) hx hb dX12_mayFollow_169 (by decide) ?_
        refine lv_icmp_ne (tgt := 185) hx hb dX12_mayFollow_170 (by decide) (fun c7 => ?_) (fun c7 => ?_)
        · have hM := z_f c7 hM
          refine lv_iconst (v := 0) hx hb dX12_mayFollow_185 (by decide) ?_
          have hM := Option.some.inj hM
          subst hM
          exact W.zret (v := 0) (ty := .boolean) hx hb hr rfl (fun t ht hW => ⟨⟨_, (), rfl, rfl, ⟨by rw [ht]; exact hP, va_K.moved hW.alike hK, hD⟩⟩, hS.F ht⟩) hS.2.2 dX12_mayFollow_186
        · have hM := z_t c7 hM
          refine lv_aload_n hx hb dX12_mayFollow_173 rfl (lv_at hl 0 rfl) ?_
          refine va_get (D := D) (ci := 11) (v := .int m_primes) (C := RX12) (T := TX12) (N := 43) hx hb hts hw0 hown hK hP 0 rfl rfl 38 (by decide) hw1 (fun _ h9 => h9) rfl dX12_mayFollow_174 ?_
          refine lv_iconst (v := 3) hx hb dX12_mayFollow_177 (by decide) ?_
          refine lv_icmp_ge (tgt := 185) hx hb dX12_mayFollow_178 (by decide) (fun c8 => ?_) (fun c8 => ?_)
          · have hM := z_t c8 hM
            refine lv_iconst (v := 0) hx hb dX12_mayFollow_185 (by decide) ?_
            have hM := Option.some.inj hM
            subst hM
            exact W.zret (v := 0) (ty := .boolean) hx hb hr rfl (fun t ht hW => ⟨⟨_, (), rfl, rfl, ⟨by rw [ht]; exact hP, va_K.moved hW.alike hK, hD⟩⟩, hS.F ht⟩) hS.2.2 dX12_mayFollow_186
          · have hM := z_f c8 hM
            refine lv_iconst (v := 1) hx hb dX12_mayFollow_181 (by decide) ?_
            refine lv_goto (tgt := 186) hx hb dX12_mayFollow_182 (by decide) ?_
            have hM := Option.some.inj hM
            subst hM
            exact W.zret (v := 1) (ty := .boolean) hx hb hr rfl (fun t ht hW => ⟨⟨_, (), rfl, rfl, ⟨by rw [ht]; exact hP, va_K.moved hW.alike hK, hD⟩⟩, hS.F ht⟩) hS.2.2 dX12_mayFollow_186
  have B_215_6 : ∀ (x2 : Int32) (x4 : Int32) (k0 : Int32) (H : Heap) (locs : List Loc) (ls : Array Slot), va_P D vwCl [(A_m, .inr (11, (.int m_length :: .ref A_m_text :: .int m_tokens :: .ref A_m_kind :: .ref A_m_amount :: .int m_newTokens :: .ref A_m_newKind :: .ref A_m_newAmount :: .ref A_m_variable :: .int m_nodes :: .ref A_m_sort :: .ref A_m_left :: .ref A_m_right :: .ref A_m_what :: .ref A_m_result :: .int m_sums :: .ref A_m_root :: .int m_links :: .ref A_m_relation :: .ref A_m_operands :: .int m_operandMany :: .ref A_m_operators :: .ref A_m_functions :: .int m_operatorMany :: .int m_status :: .long m_outcome :: .ref A_m_output :: .int m_outputLength :: .ref A_m_tasks :: .int m_taskMany :: .ref A_m_forms :: .ref A_m_formLength :: .int m_token :: .int m_tokenAmount :: .int m_ahead :: .int m_depth :: .int m_linkMany :: .int m_isRange :: .int m_primes :: .ref A_m_row :: .ref A_m_statuses :: .ref A_m_outcomes :: .ref A_m_heights :: [])))] H → va_D A [(A_m, .inr (11, (.int m_length :: .ref A_m_text :: .int m_tokens :: .ref A_m_kind :: .ref A_m_amount :: .int m_newTokens :: .ref A_m_newKind :: .ref A_m_newAmount :: .ref A_m_variable :: .int m_nodes :: .ref A_m_sort :: .ref A_m_left :: .ref A_m_right :: .ref A_m_what :: .ref A_m_result :: .int m_sums :: .ref A_m_root :: .int m_links :: .ref A_m_relation :: .ref A_m_operands :: .int m_operandMany :: .ref A_m_operators :: .ref A_m_functions :: .int m_operatorMany :: .int m_status :: .long m_outcome :: .ref A_m_output :: .int m_outputLength :: .ref A_m_tasks :: .int m_taskMany :: .ref A_m_forms :: .ref A_m_formLength :: .int m_token :: .int m_tokenAmount :: .int m_ahead :: .int m_depth :: .int m_linkMany :: .int m_isRange :: .int m_primes :: .ref A_m_row :: .ref A_m_statuses :: .ref A_m_outcomes :: .ref A_m_heights :: [])))] → va_S A s.heap H locs → lv_has ls 6 [(2, .int x2), (4, .int x4)] → fn_Ref_mayFollow_b215 m_depth m_linkMany m_isRange m_primes x2 x4 k0 = some rs → W p l e (headSpec wsX12_mayFollow ({ frames := 2, cells := 0, slots := 0, locals := 45 } : Room)).room s m args below meth c H locs 0 0 (MQ below (zQi D cI cJ cC rs [(A_m, .inr (11, (.int m_length :: .ref A_m_text :: .int m_tokens :: .ref A_m_kind :: .ref A_m_amount :: .int m_newTokens :: .ref A_m_newKind :: .ref A_m_newAmount :: .ref A_m_variable :: .int m_nodes :: .ref A_m_sort :: .ref A_m_left :: .ref A_m_right :: .ref A_m_what :: .ref A_m_result :: .int m_sums :: .ref A_m_root :: .int m_links :: .ref A_m_relation :: .ref A_m_operands :: .int m_operandMany :: .ref A_m_operators :: .ref A_m_functions :: .int m_operatorMany :: .int m_status :: .long m_outcome :: .ref A_m_output :: .int m_outputLength :: .ref A_m_tasks :: .int m_taskMany :: .ref A_m_forms :: .ref A_m_formLength :: .int m_token :: .int m_tokenAmount :: .int m_ahead :: .int m_depth :: .int m_linkMany :: .int m_isRange :: .int m_primes :: .ref A_m_row :: .ref A_m_statuses :: .ref A_m_outcomes :: .ref A_m_heights :: [])))] A) args s 0 0 A) (F0 m 215 ls [.int k0]) := by
    intro  x2 x4 k0 H locs ls hP hD hS hl hM
    refine lv_istore (lv' := [(5, .int k0), (2, .int x2), (4, .int x4)]) hx hb dX12_mayFollow_215 hl (by decide) rfl (fun ls hl => ?_)
    refine lv_iload hx hb dX12_mayFollow_217 (lv_at hl 2 rfl) ?_
    refine lv_if_ne (tgt := 238) hx hb dX12_mayFollow_219 (by decide) (fun c11 => ?_) (fun c11 => ?_)
    · have hM := z_f c11 hM
      refine lv_iconst (v := 1) hx hb dX12_mayFollow_238 (by decide) ?_
      refine lv_goto (tgt := 243) hx hb dX12_mayFollow_239 (by decide) ?_
      have hM := Option.some.inj hM
      subst hM
      exact W.zret (v := 1) (ty := .boolean) hx hb hr rfl (fun t ht hW => ⟨⟨_, (), rfl, rfl, ⟨by rw [ht]; exact hP, va_K.moved hW.alike hK, hD⟩⟩, hS.F ht⟩) hS.2.2 dX12_mayFollow_243
    · have hM := z_t c11 hM
      refine lv_iload_n hx hb dX12_mayFollow_222 rfl (lv_at hl 1 rfl) ?_
      refine lv_iconst (v := 1) hx hb dX12_mayFollow_223 (by decide) ?_
      refine lv_icmp_eq (tgt := 238) hx hb dX12_mayFollow_224 (by decide) (fun c12 => ?_) (fun c12 => ?_)
      · have hM := z_t c12 hM
        refine lv_iconst (v := 1) hx hb dX12_mayFollow_238 (by decide) ?_
        refine lv_goto (tgt := 243) hx hb dX12_mayFollow_239 (by decide) ?_
        have hM := Option.some.inj hM
        subst hM
        exact W.zret (v := 1) (ty := .boolean) hx hb hr rfl (fun t ht hW => ⟨⟨_, (), rfl, rfl, ⟨by rw [ht]; exact hP, va_K.moved hW.alike hK, hD⟩⟩, hS.F ht⟩) hS.2.2 dX12_mayFollow_243
      · have hM := z_f c12 hM
        refine lv_iload_n hx hb dX12_mayFollow_227 rfl (lv_at hl 1 rfl) ?_
        refine lv_bipush (v := 6) hx hb dX12_mayFollow_228 (by decide) ?_
        refine lv_icmp_ne (tgt := 242) hx hb dX12_mayFollow_230 (by decide) (fun c13 => ?_) (fun c13 => ?_)
        · have hM := z_f c13 hM
          refine lv_iconst (v := 0) hx hb dX12_mayFollow_242 (by decide) ?_
          have hM := Option.some.inj hM
          subst hM
          exact W.zret (v := 0) (ty := .boolean) hx hb hr rfl (fun t ht hW => ⟨⟨_, (), rfl, rfl, ⟨by rw [ht]; exact hP, va_K.moved hW.alike hK, hD⟩⟩, hS.F ht⟩) hS.2.2 dX12_mayFollow_243
        · have hM := z_t c13 hM
          refine lv_iload hx hb dX12_mayFollow_233 (lv_at hl 0 rfl) ?_
          refine lv_if_eq (tgt := 242) hx hb dX12_mayFollow_235 (by decide) (fun c14 => ?_) (fun c14 => ?_)
          · have hM := z_t c14 hM
            refine lv_iconst (v := 0) hx hb dX12_mayFollow_242 (by decide) ?_
            have hM := Option.some.inj hM
            subst hM
            exact W.zret (v := 0) (ty := .boolean) hx hb hr rfl (fun t ht hW => ⟨⟨_, (), rfl, rfl, ⟨by rw [ht]; exact hP, va_K.moved hW.alike hK, hD⟩⟩, hS.F ht⟩) hS.2.2 dX12_mayFollow_243
          · have hM := z_f c14 hM
            refine lv_iconst (v := 1) hx hb dX12_mayFollow_238 (by decide) ?_
            refine lv_goto (tgt := 243) hx hb dX12_mayFollow_239 (by decide) ?_
            have hM := Option.some.inj hM
            subst hM
            exact W.zret (v := 1) (ty := .boolean) hx hb hr rfl (fun t ht hW => ⟨⟨_, (), rfl, rfl, ⟨by rw [ht]; exact hP, va_K.moved hW.alike hK, hD⟩⟩, hS.F ht⟩) hS.2.2 dX12_mayFollow_243
  have B_210_5 : ∀ (x2 : Int32) (x4 : Int32) (H : Heap) (locs : List Loc) (ls : Array Slot), va_P D vwCl [(A_m, .inr (11, (.int m_length :: .ref A_m_text :: .int m_tokens :: .ref A_m_kind :: .ref A_m_amount :: .int m_newTokens :: .ref A_m_newKind :: .ref A_m_newAmount :: .ref A_m_variable :: .int m_nodes :: .ref A_m_sort :: .ref A_m_left :: .ref A_m_right :: .ref A_m_what :: .ref A_m_result :: .int m_sums :: .ref A_m_root :: .int m_links :: .ref A_m_relation :: .ref A_m_operands :: .int m_operandMany :: .ref A_m_operators :: .ref A_m_functions :: .int m_operatorMany :: .int m_status :: .long m_outcome :: .ref A_m_output :: .int m_outputLength :: .ref A_m_tasks :: .int m_taskMany :: .ref A_m_forms :: .ref A_m_formLength :: .int m_token :: .int m_tokenAmount :: .int m_ahead :: .int m_depth :: .int m_linkMany :: .int m_isRange :: .int m_primes :: .ref A_m_row :: .ref A_m_statuses :: .ref A_m_outcomes :: .ref A_m_heights :: [])))] H → va_D A [(A_m, .inr (11, (.int m_length :: .ref A_m_text :: .int m_tokens :: .ref A_m_kind :: .ref A_m_amount :: .int m_newTokens :: .ref A_m_newKind :: .ref A_m_newAmount :: .ref A_m_variable :: .int m_nodes :: .ref A_m_sort :: .ref A_m_left :: .ref A_m_right :: .ref A_m_what :: .ref A_m_result :: .int m_sums :: .ref A_m_root :: .int m_links :: .ref A_m_relation :: .ref A_m_operands :: .int m_operandMany :: .ref A_m_operators :: .ref A_m_functions :: .int m_operatorMany :: .int m_status :: .long m_outcome :: .ref A_m_output :: .int m_outputLength :: .ref A_m_tasks :: .int m_taskMany :: .ref A_m_forms :: .ref A_m_formLength :: .int m_token :: .int m_tokenAmount :: .int m_ahead :: .int m_depth :: .int m_linkMany :: .int m_isRange :: .int m_primes :: .ref A_m_row :: .ref A_m_statuses :: .ref A_m_outcomes :: .ref A_m_heights :: [])))] → va_S A s.heap H locs → lv_has ls 6 [(2, .int x2), (4, .int x4)] → fn_Ref_mayFollow_b210 m_depth m_linkMany m_isRange m_primes x2 x4 = some rs → W p l e (headSpec wsX12_mayFollow ({ frames := 2, cells := 0, slots := 0, locals := 45 } : Room)).room s m args below meth c H locs 0 0 (MQ below (zQi D cI cJ cC rs [(A_m, .inr (11, (.int m_length :: .ref A_m_text :: .int m_tokens :: .ref A_m_kind :: .ref A_m_amount :: .int m_newTokens :: .ref A_m_newKind :: .ref A_m_newAmount :: .ref A_m_variable :: .int m_nodes :: .ref A_m_sort :: .ref A_m_left :: .ref A_m_right :: .ref A_m_what :: .ref A_m_result :: .int m_sums :: .ref A_m_root :: .int m_links :: .ref A_m_relation :: .ref A_m_operands :: .int m_operandMany :: .ref A_m_operators :: .ref A_m_functions :: .int m_operatorMany :: .int m_status :: .long m_outcome :: .ref A_m_output :: .int m_outputLength :: .ref A_m_tasks :: .int m_taskMany :: .ref A_m_forms :: .ref A_m_formLength :: .int m_token :: .int m_tokenAmount :: .int m_ahead :: .int m_depth :: .int m_linkMany :: .int m_isRange :: .int m_primes :: .ref A_m_row :: .ref A_m_statuses :: .ref A_m_outcomes :: .ref A_m_heights :: [])))] A) args s 0 0 A) (F0 m 210 ls []) := by
    intro  x2 x4 H locs ls hP hD hS hl hM
    refine lv_iconst (v := 1) hx hb dX12_mayFollow_210 (by decide) ?_
    refine lv_goto (tgt := 215) hx hb dX12_mayFollow_211 (by decide) ?_
    exact B_215_6  x2 x4 1 _ _ ls hP hD hS (lv_sub hl [0, 1] rfl) hM
  have B_122_10 : ∀ (x2 : Int32) (H : Heap) (locs : List Loc) (ls : Array Slot), va_P D vwCl [(A_m, .inr (11, (.int m_length :: .ref A_m_text :: .int m_tokens :: .ref A_m_kind :: .ref A_m_amount :: .int m_newTokens :: .ref A_m_newKind :: .ref A_m_newAmount :: .ref A_m_variable :: .int m_nodes :: .ref A_m_sort :: .ref A_m_left :: .ref A_m_right :: .ref A_m_what :: .ref A_m_result :: .int m_sums :: .ref A_m_root :: .int m_links :: .ref A_m_relation :: .ref A_m_operands :: .int m_operandMany :: .ref A_m_operators :: .ref A_m_functions :: .int m_operatorMany :: .int m_status :: .long m_outcome :: .ref A_m_output :: .int m_outputLength :: .ref A_m_tasks :: .int m_taskMany :: .ref A_m_forms :: .ref A_m_formLength :: .int m_token :: .int m_tokenAmount :: .int m_ahead :: .int m_depth :: .int m_linkMany :: .int m_isRange :: .int m_primes :: .ref A_m_row :: .ref A_m_statuses :: .ref A_m_outcomes :: .ref A_m_heights :: [])))] H → va_D A [(A_m, .inr (11, (.int m_length :: .ref A_m_text :: .int m_tokens :: .ref A_m_kind :: .ref A_m_amount :: .int m_newTokens :: .ref A_m_newKind :: .ref A_m_newAmount :: .ref A_m_variable :: .int m_nodes :: .ref A_m_sort :: .ref A_m_left :: .ref A_m_right :: .ref A_m_what :: .ref A_m_result :: .int m_sums :: .ref A_m_root :: .int m_links :: .ref A_m_relation :: .ref A_m_operands :: .int m_operandMany :: .ref A_m_operators :: .ref A_m_functions :: .int m_operatorMany :: .int m_status :: .long m_outcome :: .ref A_m_output :: .int m_outputLength :: .ref A_m_tasks :: .int m_taskMany :: .ref A_m_forms :: .ref A_m_formLength :: .int m_token :: .int m_tokenAmount :: .int m_ahead :: .int m_depth :: .int m_linkMany :: .int m_isRange :: .int m_primes :: .ref A_m_row :: .ref A_m_statuses :: .ref A_m_outcomes :: .ref A_m_heights :: [])))] → va_S A s.heap H locs → lv_has ls 6 [(0, .ref A_m), (2, .int x2)] → fn_Ref_mayFollow_b122 m_depth m_linkMany m_isRange m_primes x2 = some rs → W p l e (headSpec wsX12_mayFollow ({ frames := 2, cells := 0, slots := 0, locals := 45 } : Room)).room s m args below meth c H locs 0 0 (MQ below (zQi D cI cJ cC rs [(A_m, .inr (11, (.int m_length :: .ref A_m_text :: .int m_tokens :: .ref A_m_kind :: .ref A_m_amount :: .int m_newTokens :: .ref A_m_newKind :: .ref A_m_newAmount :: .ref A_m_variable :: .int m_nodes :: .ref A_m_sort :: .ref A_m_left :: .ref A_m_right :: .ref A_m_what :: .ref A_m_result :: .int m_sums :: .ref A_m_root :: .int m_links :: .ref A_m_relation :: .ref A_m_operands :: .int m_operandMany :: .ref A_m_operators :: .ref A_m_functions :: .int m_operatorMany :: .int m_status :: .long m_outcome :: .ref A_m_output :: .int m_outputLength :: .ref A_m_tasks :: .int m_taskMany :: .ref A_m_forms :: .ref A_m_formLength :: .int m_token :: .int m_tokenAmount :: .int m_ahead :: .int m_depth :: .int m_linkMany :: .int m_isRange :: .int m_primes :: .ref A_m_row :: .ref A_m_statuses :: .ref A_m_outcomes :: .ref A_m_heights :: [])))] A) args s 0 0 A) (F0 m 122 ls []) := by
    intro  x2 H locs ls hP hD hS hl hM
    refine lv_iload_n hx hb dX12_mayFollow_122 rfl (lv_at hl 1 rfl) ?_
    refine lv_bipush (v := 19) hx hb dX12_mayFollow_123 (by decide) ?_
    refine lv_icmp_ne (tgt := 146) hx hb dX12_mayFollow_125 (by decide) (fun c29 => ?_) (fun c29 => ?_)
    · have hM := z_f c29 hM
      refine lv_iconst (v := 0) hx hb dX12_mayFollow_146 (by decide) ?_
      have hM := Option.some.inj hM
      subst hM
      exact W.zret (v := 0) (ty := .boolean) hx hb hr rfl (fun t ht hW => ⟨⟨_, (), rfl, rfl, ⟨by rw [ht]; exact hP, va_K.moved hW.alike hK, hD⟩⟩, hS.F ht⟩) hS.2.2 dX12_mayFollow_147
    · have hM := z_t c29 hM
      refine lv_aload_n hx hb dX12_mayFollow_128 rfl (lv_at hl 0 rfl) ?_
      refine va_get (D := D) (ci := 11) (v := .int m_depth) (C := RX12) (T := TX12) (N := 43) hx hb hts hw0 hown hK hP 0 rfl rfl 35 (by decide) hw2 (fun _ h9 => h9) rfl dX12_mayFollow_129 ?_
      refine lv_if_ne (tgt := 146) hx hb dX12_mayFollow_132 (by decide) (fun c30 => ?_) (fun c30 => ?_)
      · have hM := z_f c30 hM
        refine lv_iconst (v := 0) hx hb dX12_mayFollow_146 (by decide) ?_
        have hM := Option.some.inj hM
        subst hM
        exact W.zret (v := 0) (ty := .boolean) hx hb hr rfl (fun t ht hW => ⟨⟨_, (), rfl, rfl, ⟨by rw [ht]; exact hP, va_K.moved hW.alike hK, hD⟩⟩, hS.F ht⟩) hS.2.2 dX12_mayFollow_147
      · have hM := z_t c30 hM
        refine lv_aload_n hx hb dX12_mayFollow_135 rfl (lv_at hl 0 rfl) ?_
        refine va_get (D := D) (ci := 11) (v := .int m_isRange) (C := RX12) (T := TX12) (N := 43) hx hb hts hw0 hown hK hP 0 rfl rfl 37 (by decide) hw3 (fun _ h9 => h9) rfl dX12_mayFollow_136 ?_
        refine lv_if_eq (tgt := 146) hx hb dX12_mayFollow_139 (by decide) (fun c31 => ?_) (fun c31 => ?_)
        · have hM := z_t c31 hM
          refine lv_iconst (v := 0) hx hb dX12_mayFollow_146 (by decide) ?_
          have hM := Option.some.inj hM
          subst hM
          exact W.zret (v := 0) (ty := .boolean) hx hb hr rfl (fun t ht hW => ⟨⟨_, (), rfl, rfl, ⟨by rw [ht]; exact hP, va_K.moved hW.alike hK, hD⟩⟩, hS.F ht⟩) hS.2.2 dX12_mayFollow_147
        · have hM := z_f c31 hM
          refine lv_iconst (v := 1) hx hb dX12_mayFollow_142 (by decide) ?_
          refine lv_goto (tgt := 147) hx hb dX12_mayFollow_143 (by decide) ?_
          have hM := Option.some.inj hM
          subst hM
          exact W.zret (v := 1) (ty := .boolean) hx hb hr rfl (fun t ht hW => ⟨⟨_, (), rfl, rfl, ⟨by rw [ht]; exact hP, va_K.moved hW.alike hK, hD⟩⟩, hS.F ht⟩) hS.2.2 dX12_mayFollow_147
  have B_102_9 : ∀ (x2 : Int32) (x5 : Int32) (H : Heap) (locs : List Loc) (ls : Array Slot), va_P D vwCl [(A_m, .inr (11, (.int m_length :: .ref A_m_text :: .int m_tokens :: .ref A_m_kind :: .ref A_m_amount :: .int m_newTokens :: .ref A_m_newKind :: .ref A_m_newAmount :: .ref A_m_variable :: .int m_nodes :: .ref A_m_sort :: .ref A_m_left :: .ref A_m_right :: .ref A_m_what :: .ref A_m_result :: .int m_sums :: .ref A_m_root :: .int m_links :: .ref A_m_relation :: .ref A_m_operands :: .int m_operandMany :: .ref A_m_operators :: .ref A_m_functions :: .int m_operatorMany :: .int m_status :: .long m_outcome :: .ref A_m_output :: .int m_outputLength :: .ref A_m_tasks :: .int m_taskMany :: .ref A_m_forms :: .ref A_m_formLength :: .int m_token :: .int m_tokenAmount :: .int m_ahead :: .int m_depth :: .int m_linkMany :: .int m_isRange :: .int m_primes :: .ref A_m_row :: .ref A_m_statuses :: .ref A_m_outcomes :: .ref A_m_heights :: [])))] H → va_D A [(A_m, .inr (11, (.int m_length :: .ref A_m_text :: .int m_tokens :: .ref A_m_kind :: .ref A_m_amount :: .int m_newTokens :: .ref A_m_newKind :: .ref A_m_newAmount :: .ref A_m_variable :: .int m_nodes :: .ref A_m_sort :: .ref A_m_left :: .ref A_m_right :: .ref A_m_what :: .ref A_m_result :: .int m_sums :: .ref A_m_root :: .int m_links :: .ref A_m_relation :: .ref A_m_operands :: .int m_operandMany :: .ref A_m_operators :: .ref A_m_functions :: .int m_operatorMany :: .int m_status :: .long m_outcome :: .ref A_m_output :: .int m_outputLength :: .ref A_m_tasks :: .int m_taskMany :: .ref A_m_forms :: .ref A_m_formLength :: .int m_token :: .int m_tokenAmount :: .int m_ahead :: .int m_depth :: .int m_linkMany :: .int m_isRange :: .int m_primes :: .ref A_m_row :: .ref A_m_statuses :: .ref A_m_outcomes :: .ref A_m_heights :: [])))] → va_S A s.heap H locs → lv_has ls 6 [(0, .ref A_m), (2, .int x2), (5, .int x5)] → fn_Ref_mayFollow_b102 m_depth m_linkMany m_isRange m_primes x2 x5 = some rs → W p l e (headSpec wsX12_mayFollow ({ frames := 2, cells := 0, slots := 0, locals := 45 } : Room)).room s m args below meth c H locs 0 0 (MQ below (zQi D cI cJ cC rs [(A_m, .inr (11, (.int m_length :: .ref A_m_text :: .int m_tokens :: .ref A_m_kind :: .ref A_m_amount :: .int m_newTokens :: .ref A_m_newKind :: .ref A_m_newAmount :: .ref A_m_variable :: .int m_nodes :: .ref A_m_sort :: .ref A_m_left :: .ref A_m_right :: .ref A_m_what :: .ref A_m_result :: .int m_sums :: .ref A_m_root :: .int m_links :: .ref A_m_relation :: .ref A_m_operands :: .int m_operandMany :: .ref A_m_operators :: .ref A_m_functions :: .int m_operatorMany :: .int m_status :: .long m_outcome :: .ref A_m_output :: .int m_outputLength :: .ref A_m_tasks :: .int m_taskMany :: .ref A_m_forms :: .ref A_m_formLength :: .int m_token :: .int m_tokenAmount :: .int m_ahead :: .int m_depth :: .int m_linkMany :: .int m_isRange :: .int m_primes :: .ref A_m_row :: .ref A_m_statuses :: .ref A_m_outcomes :: .ref A_m_heights :: [])))] A) args s 0 0 A) (F0 m 102 ls []) := by
    intro  x2 x5 H locs ls hP hD hS hl hM
    refine lv_iload_n hx hb dX12_mayFollow_102 rfl (lv_at hl 1 rfl) ?_
    obtain ⟨q26, hq26, hM⟩ := z_b hM
    obtain ⟨hPc, hDc, hFc⟩ := zcut (wc := []) hP hD hS hA [] rfl rfl (by decide)
    refine zc_i (ws' := [(A_m, .inr (11, (.int m_length :: .ref A_m_text :: .int m_tokens :: .ref A_m_kind :: .ref A_m_amount :: .int m_newTokens :: .ref A_m_newKind :: .ref A_m_newAmount :: .ref A_m_variable :: .int m_nodes :: .ref A_m_sort :: .ref A_m_left :: .ref A_m_right :: .ref A_m_what :: .ref A_m_result :: .int m_sums :: .ref A_m_root :: .int m_links :: .ref A_m_relation :: .ref A_m_operands :: .int m_operandMany :: .ref A_m_operators :: .ref A_m_functions :: .int m_operatorMany :: .int m_status :: .long m_outcome :: .ref A_m_output :: .int m_outputLength :: .ref A_m_tasks :: .int m_taskMany :: .ref A_m_forms :: .ref A_m_formLength :: .int m_token :: .int m_tokenAmount :: .int m_ahead :: .int m_depth :: .int m_linkMany :: .int m_isRange :: .int m_primes :: .ref A_m_row :: .ref A_m_statuses :: .ref A_m_outcomes :: .ref A_m_heights :: [])))]) (va_runS (As := [.int x2]) (rest := []) ⟨hx, hb, hml, hown, hts⟩ (ct_Ref_isRelation l D cI cJ cC adK adV H.size x2 hq26) (va_cwS 1 hts gX12_mayFollow_X12_isRelation rfl rfl rfl (by decide +kernel) ⟨Nat.le_of_ble_eq_true rfl, Nat.le_of_ble_eq_true rfl⟩) ⟨zblind, zpre hX hS hFc hPc hK hDc⟩ rfl rfl hl.1 rfl (lv_room (Nat.le_of_ble_eq_true rfl)) dX12_mayFollow_103 ⟨Nat.zero_le _, Nat.zero_le _⟩) hP hD hS hFc [] rfl (by decide) rfl rfl (fun H27 locs hP hD hS => ?_)
    refine lv_if_eq (tgt := 122) hx hb dX12_mayFollow_106 (by decide) (fun c28 => ?_) (fun c28 => ?_)
    · have hM := z_t c28 hM
      exact B_122_10  x2 _ _ ls hP hD hS (lv_sub hl [0, 1] rfl) hM
    · have hM := z_f c28 hM
      refine lv_iload hx hb dX12_mayFollow_109 (lv_at hl 2 rfl) ?_
      refine lv_if_eq (tgt := 122) hx hb dX12_mayFollow_111 (by decide) (fun c32 => ?_) (fun c32 => ?_)
      · have hM := z_t c32 hM
        exact B_122_10  x2 _ _ ls hP hD hS (lv_sub hl [0, 1] rfl) hM
      · have hM := z_f c32 hM
        refine lv_aload_n hx hb dX12_mayFollow_114 rfl (lv_at hl 0 rfl) ?_
        refine va_get (D := D) (ci := 11) (v := .int m_linkMany) (C := RX12) (T := TX12) (N := 43) hx hb hts hw0 hown hK hP 0 rfl rfl 36 (by decide) hw4 (fun _ h9 => h9) rfl dX12_mayFollow_115 ?_
        refine lv_iconst (v := 4) hx hb dX12_mayFollow_118 (by decide) ?_
        refine lv_icmp_lt (tgt := 142) hx hb dX12_mayFollow_119 (by decide) (fun c33 => ?_) (fun c33 => ?_)
        · have hM := z_t c33 hM
          refine lv_iconst (v := 1) hx hb dX12_mayFollow_142 (by decide) ?_
          refine lv_goto (tgt := 147) hx hb dX12_mayFollow_143 (by decide) ?_
          have hM := Option.some.inj hM
          subst hM
          exact W.zret (v := 1) (ty := .boolean) hx hb hr rfl (fun t ht hW => ⟨⟨_, (), rfl, rfl, ⟨by rw [ht]; exact hP, va_K.moved hW.alike hK, hD⟩⟩, hS.F ht⟩) hS.2.2 dX12_mayFollow_147
        · have hM := z_f c33 hM
          exact B_122_10  x2 _ _ ls hP hD hS (lv_sub hl [0, 1] rfl) hM
  have B_68_8 : ∀ (x2 : Int32) (x4 : Int32) (k0 : Int32) (H : Heap) (locs : List Loc) (ls : Array Slot), va_P D vwCl [(A_m, .inr (11, (.int m_length :: .ref A_m_text :: .int m_tokens :: .ref A_m_kind :: .ref A_m_amount :: .int m_newTokens :: .ref A_m_newKind :: .ref A_m_newAmount :: .ref A_m_variable :: .int m_nodes :: .ref A_m_sort :: .ref A_m_left :: .ref A_m_right :: .ref A_m_what :: .ref A_m_result :: .int m_sums :: .ref A_m_root :: .int m_links :: .ref A_m_relation :: .ref A_m_operands :: .int m_operandMany :: .ref A_m_operators :: .ref A_m_functions :: .int m_operatorMany :: .int m_status :: .long m_outcome :: .ref A_m_output :: .int m_outputLength :: .ref A_m_tasks :: .int m_taskMany :: .ref A_m_forms :: .ref A_m_formLength :: .int m_token :: .int m_tokenAmount :: .int m_ahead :: .int m_depth :: .int m_linkMany :: .int m_isRange :: .int m_primes :: .ref A_m_row :: .ref A_m_statuses :: .ref A_m_outcomes :: .ref A_m_heights :: [])))] H → va_D A [(A_m, .inr (11, (.int m_length :: .ref A_m_text :: .int m_tokens :: .ref A_m_kind :: .ref A_m_amount :: .int m_newTokens :: .ref A_m_newKind :: .ref A_m_newAmount :: .ref A_m_variable :: .int m_nodes :: .ref A_m_sort :: .ref A_m_left :: .ref A_m_right :: .ref A_m_what :: .ref A_m_result :: .int m_sums :: .ref A_m_root :: .int m_links :: .ref A_m_relation :: .ref A_m_operands :: .int m_operandMany :: .ref A_m_operators :: .ref A_m_functions :: .int m_operatorMany :: .int m_status :: .long m_outcome :: .ref A_m_output :: .int m_outputLength :: .ref A_m_tasks :: .int m_taskMany :: .ref A_m_forms :: .ref A_m_formLength :: .int m_token :: .int m_tokenAmount :: .int m_ahead :: .int m_depth :: .int m_linkMany :: .int m_isRange :: .int m_primes :: .ref A_m_row :: .ref A_m_statuses :: .ref A_m_outcomes :: .ref A_m_heights :: [])))] → va_S A s.heap H locs → lv_has ls 6 [(0, .ref A_m), (2, .int x2), (4, .int x4)] → fn_Ref_mayFollow_b68 m_depth m_linkMany m_isRange m_primes x2 x4 k0 = some rs → W p l e (headSpec wsX12_mayFollow ({ frames := 2, cells := 0, slots := 0, locals := 45 } : Room)).room s m args below meth c H locs 0 0 (MQ below (zQi D cI cJ cC rs [(A_m, .inr (11, (.int m_length :: .ref A_m_text :: .int m_tokens :: .ref A_m_kind :: .ref A_m_amount :: .int m_newTokens :: .ref A_m_newKind :: .ref A_m_newAmount :: .ref A_m_variable :: .int m_nodes :: .ref A_m_sort :: .ref A_m_left :: .ref A_m_right :: .ref A_m_what :: .ref A_m_result :: .int m_sums :: .ref A_m_root :: .int m_links :: .ref A_m_relation :: .ref A_m_operands :: .int m_operandMany :: .ref A_m_operators :: .ref A_m_functions :: .int m_operatorMany :: .int m_status :: .long m_outcome :: .ref A_m_output :: .int m_outputLength :: .ref A_m_tasks :: .int m_taskMany :: .ref A_m_forms :: .ref A_m_formLength :: .int m_token :: .int m_tokenAmount :: .int m_ahead :: .int m_depth :: .int m_linkMany :: .int m_isRange :: .int m_primes :: .ref A_m_row :: .ref A_m_statuses :: .ref A_m_outcomes :: .ref A_m_heights :: [])))] A) args s 0 0 A) (F0 m 68 ls [.int k0]) := by
    intro  x2 x4 k0 H locs ls hP hD hS hl hM
    refine lv_istore (lv' := [(5, .int k0), (0, .ref A_m), (2, .int x2), (4, .int x4)]) hx hb dX12_mayFollow_68 hl (by decide) rfl (fun ls hl => ?_)
    refine lv_iload hx hb dX12_mayFollow_70 (lv_at hl 3 rfl) ?_
    refine lv_if_ne (tgt := 142) hx hb dX12_mayFollow_72 (by decide) (fun c21 => ?_) (fun c21 => ?_)
    · have hM := z_f c21 hM
      refine lv_iconst (v := 1) hx hb dX12_mayFollow_142 (by decide) ?_
      refine lv_goto (tgt := 147) hx hb dX12_mayFollow_143 (by decide) ?_
      have hM := Option.some.inj hM
      subst hM
      exact W.zret (v := 1) (ty := .boolean) hx hb hr rfl (fun t ht hW => ⟨⟨_, (), rfl, rfl, ⟨by rw [ht]; exact hP, va_K.moved hW.alike hK, hD⟩⟩, hS.F ht⟩) hS.2.2 dX12_mayFollow_147
    · have hM := z_t c21 hM
      refine lv_iload_n hx hb dX12_mayFollow_75 rfl (lv_at hl 2 rfl) ?_
      refine lv_i2l hx hb dX12_mayFollow_76 rfl ?_
      refine lv_ldc2 hx hb hown (hts (.constantLong RX12 137 5) (by decide +kernel)) dX12_mayFollow_77 ?_
      refine lv_ldc2 hx hb hown (hts (.constantLong RX12 139 9) (by decide +kernel)) dX12_mayFollow_80 ?_
      obtain ⟨hPc, hDc, hFc⟩ := zcut (wc := []) hP hD hS hA [] rfl rfl (by decide)
      refine zc_i (ws' := [(A_m, .inr (11, (.int m_length :: .ref A_m_text :: .int m_tokens :: .ref A_m_kind :: .ref A_m_amount :: .int m_newTokens :: .ref A_m_newKind :: .ref A_m_newAmount :: .ref A_m_variable :: .int m_nodes :: .ref A_m_sort :: .ref A_m_left :: .ref A_m_right :: .ref A_m_what :: .ref A_m_result :: .int m_sums :: .ref A_m_root :: .int m_links :: .ref A_m_relation :: .ref A_m_operands :: .int m_operandMany :: .ref A_m_operators :: .ref A_m_functions :: .int m_operatorMany :: .int m_status :: .long m_outcome :: .ref A_m_output :: .int m_outputLength :: .ref A_m_tasks :: .int m_taskMany :: .ref A_m_forms :: .ref A_m_formLength :: .int m_token :: .int m_tokenAmount :: .int m_ahead :: .int m_depth :: .int m_linkMany :: .int m_isRange :: .int m_primes :: .ref A_m_row :: .ref A_m_statuses :: .ref A_m_outcomes :: .ref A_m_heights :: [])))]) (va_runS (As := [.long (x2).toInt64, .long 5, .long 9]) (rest := []) ⟨hx, hb, hml, hown, hts⟩ (ct_Ref_in l D cI cJ cC adK adV H.size (x2).toInt64 5 9) (va_cwS 3 hts gX12_mayFollow_X12_in rfl rfl rfl (by decide +kernel) ⟨Nat.le_of_ble_eq_true rfl, Nat.le_of_ble_eq_true rfl⟩) ⟨zblind, zpre hX hS hFc hPc hK hDc⟩ rfl rfl hl.1 rfl (lv_room (Nat.le_of_ble_eq_true rfl)) dX12_mayFollow_83 ⟨Nat.zero_le _, Nat.zero_le _⟩) hP hD hS hFc [] rfl (by decide) rfl rfl (fun H23 locs hP hD hS => ?_)
      refine lv_if_ne (tgt := 142) hx hb dX12_mayFollow_86 (by decide) (fun c24 => ?_) (fun c24 => ?_)
      · have hM := z_f c24 hM
        refine lv_iconst (v := 1) hx hb dX12_mayFollow_142 (by decide) ?_
        refine lv_goto (tgt := 147) hx hb dX12_mayFollow_143 (by decide) ?_
        have hM := Option.some.inj hM
        subst hM
        exact W.zret (v := 1) (ty := .boolean) hx hb hr rfl (fun t ht hW => ⟨⟨_, (), rfl, rfl, ⟨by rw [ht]; exact hP, va_K.moved hW.alike hK, hD⟩⟩, hS.F ht⟩) hS.2.2 dX12_mayFollow_147
      · have hM := z_t c24 hM
        refine lv_iload_n hx hb dX12_mayFollow_89 rfl (lv_at hl 2 rfl) ?_
        refine lv_bipush (v := 11) hx hb dX12_mayFollow_90 (by decide) ?_
        refine lv_icmp_ne (tgt := 102) hx hb dX12_mayFollow_92 (by decide) (fun c25 => ?_) (fun c25 => ?_)
        · have hM := z_f c25 hM
          exact B_102_9  x2 k0 _ _ ls hP hD hS (lv_sub hl [1, 2, 0] rfl) hM
        · have hM := z_t c25 hM
          refine lv_aload_n hx hb dX12_mayFollow_95 rfl (lv_at hl 1 rfl) ?_
          refine va_get (D := D) (ci := 11) (v := .int m_depth) (C := RX12) (T := TX12) (N := 43) hx hb hts hw0 hown hK hP 0 rfl rfl 35 (by decide) hw2 (fun _ h9 => h9) rfl dX12_mayFollow_96 ?_
          refine lv_if_gt (tgt := 142) hx hb dX12_mayFollow_99 (by decide) (fun c34 => ?_) (fun c34 => ?_)
          · have hM := z_t c34 hM
            refine lv_iconst (v := 1) hx hb dX12_mayFollow_142 (by decide) ?_
            refine lv_goto (tgt := 147) hx hb dX12_mayFollow_143 (by decide) ?_
            have hM := Option.some.inj hM
            subst hM
            exact W.zret (v := 1) (ty := .boolean) hx hb hr rfl (fun t ht hW => ⟨⟨_, (), rfl, rfl, ⟨by rw [ht]; exact hP, va_K.moved hW.alike hK, hD⟩⟩, hS.F ht⟩) hS.2.2 dX12_mayFollow_147
          · have hM := z_f c34 hM
            exact B_102_9  x2 k0 _ _ ls hP hD hS (lv_sub hl [1, 2, 0] rfl) hM
  have B_67_7 : ∀ (x2 : Int32) (x4 : Int32) (H : Heap) (locs : List Loc) (ls : Array Slot), va_P D vwCl [(A_m, .inr (11, (.int m_length :: .ref A_m_text :: .int m_tokens :: .ref A_m_kind :: .ref A_m_amount :: .int m_newTokens :: .ref A_m_newKind :: .ref A_m_newAmount :: .ref A_m_variable :: .int m_nodes :: .ref A_m_sort :: .ref A_m_left :: .ref A_m_right :: .ref A_m_what :: .ref A_m_result :: .int m_sums :: .ref A_m_root :: .int m_links :: .ref A_m_relation :: .ref A_m_operands :: .int m_operandMany :: .ref A_m_operators :: .ref A_m_functions :: .int m_operatorMany :: .int m_status :: .long m_outcome :: .ref A_m_output :: .int m_outputLength :: .ref A_m_tasks :: .int m_taskMany :: .ref A_m_forms :: .ref A_m_formLength :: .int m_token :: .int m_tokenAmount :: .int m_ahead :: .int m_depth :: .int m_linkMany :: .int m_isRange :: .int m_primes :: .ref A_m_row :: .ref A_m_statuses :: .ref A_m_outcomes :: .ref A_m_heights :: [])))] H → va_D A [(A_m, .inr (11, (.int m_length :: .ref A_m_text :: .int m_tokens :: .ref A_m_kind :: .ref A_m_amount :: .int m_newTokens :: .ref A_m_newKind :: .ref A_m_newAmount :: .ref A_m_variable :: .int m_nodes :: .ref A_m_sort :: .ref A_m_left :: .ref A_m_right :: .ref A_m_what :: .ref A_m_result :: .int m_sums :: .ref A_m_root :: .int m_links :: .ref A_m_relation :: .ref A_m_operands :: .int m_operandMany :: .ref A_m_operators :: .ref A_m_functions :: .int m_operatorMany :: .int m_status :: .long m_outcome :: .ref A_m_output :: .int m_outputLength :: .ref A_m_tasks :: .int m_taskMany :: .ref A_m_forms :: .ref A_m_formLength :: .int m_token :: .int m_tokenAmount :: .int m_ahead :: .int m_depth :: .int m_linkMany :: .int m_isRange :: .int m_primes :: .ref A_m_row :: .ref A_m_statuses :: .ref A_m_outcomes :: .ref A_m_heights :: [])))] → va_S A s.heap H locs → lv_has ls 6 [(0, .ref A_m), (2, .int x2), (4, .int x4)] → fn_Ref_mayFollow_b67 m_depth m_linkMany m_isRange m_primes x2 x4 = some rs → W p l e (headSpec wsX12_mayFollow ({ frames := 2, cells := 0, slots := 0, locals := 45 } : Room)).room s m args below meth c H locs 0 0 (MQ below (zQi D cI cJ cC rs [(A_m, .inr (11, (.int m_length :: .ref A_m_text :: .int m_tokens :: .ref A_m_kind :: .ref A_m_amount :: .int m_newTokens :: .ref A_m_newKind :: .ref A_m_newAmount :: .ref A_m_variable :: .int m_nodes :: .ref A_m_sort :: .ref A_m_left :: .ref A_m_right :: .ref A_m_what :: .ref A_m_result :: .int m_sums :: .ref A_m_root :: .int m_links :: .ref A_m_relation :: .ref A_m_operands :: .int m_operandMany :: .ref A_m_operators :: .ref A_m_functions :: .int m_operatorMany :: .int m_status :: .long m_outcome :: .ref A_m_output :: .int m_outputLength :: .ref A_m_tasks :: .int m_taskMany :: .ref A_m_forms :: .ref A_m_formLength :: .int m_token :: .int m_tokenAmount :: .int m_ahead :: .int m_depth :: .int m_linkMany :: .int m_isRange :: .int m_primes :: .ref A_m_row :: .ref A_m_statuses :: .ref A_m_outcomes :: .ref A_m_heights :: [])))] A) args s 0 0 A) (F0 m 67 ls []) := by
    intro  x2 x4 H locs ls hP hD hS hl hM
    refine lv_iconst (v := 0) hx hb dX12_mayFollow_67 (by decide) ?_
    exact B_68_8  x2 x4 0 _ _ ls hP hD hS (lv_sub hl [0, 1, 2] rfl) hM
  have B_43_3 : ∀ (x1 : Int32) (x2 : Int32) (x3 : Int32) (k0 : Int32) (H : Heap) (locs : List Loc) (ls : Array Slot), va_P D vwCl [(A_m, .inr (11, (.int m_length :: .ref A_m_text :: .int m_tokens :: .ref A_m_kind :: .ref A_m_amount :: .int m_newTokens :: .ref A_m_newKind :: .ref A_m_newAmount :: .ref A_m_variable :: .int m_nodes :: .ref A_m_sort :: .ref A_m_left :: .ref A_m_right :: .ref A_m_what :: .ref A_m_result :: .int m_sums :: .ref A_m_root :: .int m_links :: .ref A_m_relation :: .ref A_m_operands :: .int m_operandMany :: .ref A_m_operators :: .ref A_m_functions :: .int m_operatorMany :: .int m_status :: .long m_outcome :: .ref A_m_output :: .int m_outputLength :: .ref A_m_tasks :: .int m_taskMany :: .ref A_m_forms :: .ref A_m_formLength :: .int m_token :: .int m_tokenAmount :: .int m_ahead :: .int m_depth :: .int m_linkMany :: .int m_isRange :: .int m_primes :: .ref A_m_row :: .ref A_m_statuses :: .ref A_m_outcomes :: .ref A_m_heights :: [])))] H → va_D A [(A_m, .inr (11, (.int m_length :: .ref A_m_text :: .int m_tokens :: .ref A_m_kind :: .ref A_m_amount :: .int m_newTokens :: .ref A_m_newKind :: .ref A_m_newAmount :: .ref A_m_variable :: .int m_nodes :: .ref A_m_sort :: .ref A_m_left :: .ref A_m_right :: .ref A_m_what :: .ref A_m_result :: .int m_sums :: .ref A_m_root :: .int m_links :: .ref A_m_relation :: .ref A_m_operands :: .int m_operandMany :: .ref A_m_operators :: .ref A_m_functions :: .int m_operatorMany :: .int m_status :: .long m_outcome :: .ref A_m_output :: .int m_outputLength :: .ref A_m_tasks :: .int m_taskMany :: .ref A_m_forms :: .ref A_m_formLength :: .int m_token :: .int m_tokenAmount :: .int m_ahead :: .int m_depth :: .int m_linkMany :: .int m_isRange :: .int m_primes :: .ref A_m_row :: .ref A_m_statuses :: .ref A_m_outcomes :: .ref A_m_heights :: [])))] → va_S A s.heap H locs → lv_has ls 6 [(0, .ref A_m), (1, .int x1), (2, .int x2), (3, .int x3)] → fn_Ref_mayFollow_b43 m_depth m_linkMany m_isRange m_primes x1 x2 x3 k0 = some rs → W p l e (headSpec wsX12_mayFollow ({ frames := 2, cells := 0, slots := 0, locals := 45 } : Room)).room s m args below meth c H locs 0 0 (MQ below (zQi D cI cJ cC rs [(A_m, .inr (11, (.int m_length :: .ref A_m_text :: .int m_tokens :: .ref A_m_kind :: .ref A_m_amount :: .int m_newTokens :: .ref A_m_newKind :: .ref A_m_newAmount :: .ref A_m_variable :: .int m_nodes :: .ref A_m_sort :: .ref A_m_left :: .ref A_m_right :: .ref A_m_what :: .ref A_m_result :: .int m_sums :: .ref A_m_root :: .int m_links :: .ref A_m_relation :: .ref A_m_operands :: .int m_operandMany :: .ref A_m_operators :: .ref A_m_functions :: .int m_operatorMany :: .int m_status :: .long m_outcome :: .ref A_m_output :: .int m_outputLength :: .ref A_m_tasks :: .int m_taskMany :: .ref A_m_forms :: .ref A_m_formLength :: .int m_token :: .int m_tokenAmount :: .int m_ahead :: .int m_depth :: .int m_linkMany :: .int m_isRange :: .int m_primes :: .ref A_m_row :: .ref A_m_statuses :: .ref A_m_outcomes :: .ref A_m_heights :: [])))] A) args s 0 0 A) (F0 m 43 ls [.int k0]) := by
    intro  x1 x2 x3 k0 H locs ls hP hD hS hl hM
    refine lv_istore (lv' := [(4, .int k0), (0, .ref A_m), (1, .int x1), (2, .int x2), (3, .int x3)]) hx hb dX12_mayFollow_43 hl (by decide) rfl (fun ls hl => ?_)
    refine lv_iload_n hx hb dX12_mayFollow_45 rfl (lv_at hl 4 rfl) ?_
    refine lv_if_eq (tgt := 148) hx hb dX12_mayFollow_46 (by decide) (fun c3 => ?_) (fun c3 => ?_)
    · have hM := z_t c3 hM
      refine lv_iload_n hx hb dX12_mayFollow_148 rfl (lv_at hl 2 rfl) ?_
      refine lv_iconst (v := 3) hx hb dX12_mayFollow_149 (by decide) ?_
      refine lv_icmp_eq (tgt := 158) hx hb dX12_mayFollow_150 (by decide) (fun c4 => ?_) (fun c4 => ?_)
      · have hM := z_t c4 hM
        exact B_158_4  x2 k0 _ _ ls hP hD hS (lv_sub hl [1, 3, 0] rfl) hM
      · have hM := z_f c4 hM
        refine lv_iload_n hx hb dX12_mayFollow_153 rfl (lv_at hl 2 rfl) ?_
        refine lv_iconst (v := 4) hx hb dX12_mayFollow_154 (by decide) ?_
        refine lv_icmp_ne (tgt := 187) hx hb dX12_mayFollow_155 (by decide) (fun c9 => ?_) (fun c9 => ?_)
        · have hM := z_f c9 hM
          refine lv_iload_n hx hb dX12_mayFollow_187 rfl (lv_at hl 2 rfl) ?_
          refine lv_if_eq (tgt := 210) hx hb dX12_mayFollow_188 (by decide) (fun c10 => ?_) (fun c10 => ?_)
          · have hM := z_t c10 hM
            exact B_210_5  x2 k0 _ _ ls hP hD hS (lv_sub hl [3, 0] rfl) hM
          · have hM := z_f c10 hM
            refine lv_iload_n hx hb dX12_mayFollow_191 rfl (lv_at hl 2 rfl) ?_
            refine lv_bipush (v := 10) hx hb dX12_mayFollow_192 (by decide) ?_
            refine lv_icmp_eq (tgt := 210) hx hb dX12_mayFollow_194 (by decide) (fun c15 => ?_) (fun c15 => ?_)
            · have hM := z_t c15 hM
              exact B_210_5  x2 k0 _ _ ls hP hD hS (lv_sub hl [3, 0] rfl) hM
            · have hM := z_f c15 hM
              refine lv_iload_n hx hb dX12_mayFollow_197 rfl (lv_at hl 2 rfl) ?_
              obtain ⟨q16, hq16, hM⟩ := z_b hM
              obtain ⟨hPc, hDc, hFc⟩ := zcut (wc := []) hP hD hS hA [] rfl rfl (by decide)
              refine zc_i (ws' := [(A_m, .inr (11, (.int m_length :: .ref A_m_text :: .int m_tokens :: .ref A_m_kind :: .ref A_m_amount :: .int m_newTokens :: .ref A_m_newKind :: .ref A_m_newAmount :: .ref A_m_variable :: .int m_nodes :: .ref A_m_sort :: .ref A_m_left :: .ref A_m_right :: .ref A_m_what :: .ref A_m_result :: .int m_sums :: .ref A_m_root :: .int m_links :: .ref A_m_relation :: .ref A_m_operands :: .int m_operandMany :: .ref A_m_operators :: .ref A_m_functions :: .int m_operatorMany :: .int m_status :: .long m_outcome :: .ref A_m_output :: .int m_outputLength :: .ref A_m_tasks :: .int m_taskMany :: .ref A_m_forms :: .ref A_m_formLength :: .int m_token :: .int m_tokenAmount :: .int m_ahead :: .int m_depth :: .int m_linkMany :: .int m_isRange :: .int m_primes :: .ref A_m_row :: .ref A_m_statuses :: .ref A_m_outcomes :: .ref A_m_heights :: [])))]) (va_runS (As := [.int x1]) (rest := []) ⟨hx, hb, hml, hown, hts⟩ (ct_Ref_isRelation l D cI cJ cC adK adV H.size x1 hq16) (va_cwS 1 hts gX12_mayFollow_X12_isRelation rfl rfl rfl (by decide +kernel) ⟨Nat.le_of_ble_eq_true rfl, Nat.le_of_ble_eq_true rfl⟩) ⟨zblind, zpre hX hS hFc hPc hK hDc⟩ rfl rfl hl.1 rfl (lv_room (Nat.le_of_ble_eq_true rfl)) dX12_mayFollow_198 ⟨Nat.zero_le _, Nat.zero_le _⟩) hP hD hS hFc [] rfl (by decide) rfl rfl (fun H17 locs hP hD hS => ?_)
              refine lv_if_ne (tgt := 210) hx hb dX12_mayFollow_201 (by decide) (fun c18 => ?_) (fun c18 => ?_)
              · have hM := z_f c18 hM
                exact B_210_5  x2 k0 _ _ ls hP hD hS (lv_sub hl [3, 0] rfl) hM
              · have hM := z_t c18 hM
                refine lv_iload_n hx hb dX12_mayFollow_204 rfl (lv_at hl 2 rfl) ?_
                refine lv_bipush (v := 19) hx hb dX12_mayFollow_205 (by decide) ?_
                refine lv_icmp_ne (tgt := 214) hx hb dX12_mayFollow_207 (by decide) (fun c19 => ?_) (fun c19 => ?_)
                · have hM := z_f c19 hM
                  refine lv_iconst (v := 0) hx hb dX12_mayFollow_214 (by decide) ?_
                  exact B_215_6  x2 k0 0 _ _ ls hP hD hS (lv_sub hl [3, 0] rfl) hM
                · have hM := z_t c19 hM
                  exact B_210_5  x2 k0 _ _ ls hP hD hS (lv_sub hl [3, 0] rfl) hM
        · have hM := z_t c9 hM
          exact B_158_4  x2 k0 _ _ ls hP hD hS (lv_sub hl [1, 3, 0] rfl) hM
    · have hM := z_f c3 hM
      refine lv_aload_n hx hb dX12_mayFollow_49 rfl (lv_at hl 1 rfl) ?_
      refine va_get (D := D) (ci := 11) (v := .int m_depth) (C := RX12) (T := TX12) (N := 43) hx hb hts hw0 hown hK hP 0 rfl rfl 35 (by decide) hw2 (fun _ h9 => h9) rfl dX12_mayFollow_50 ?_
      refine lv_if_ne (tgt := 67) hx hb dX12_mayFollow_53 (by decide) (fun c20 => ?_) (fun c20 => ?_)
      · have hM := z_f c20 hM
        exact B_67_7  x2 k0 _ _ ls hP hD hS (lv_sub hl [1, 3, 0] rfl) hM
      · have hM := z_t c20 hM
        refine lv_aload_n hx hb dX12_mayFollow_56 rfl (lv_at hl 1 rfl) ?_
        refine va_get (D := D) (ci := 11) (v := .int m_isRange) (C := RX12) (T := TX12) (N := 43) hx hb hts hw0 hown hK hP 0 rfl rfl 37 (by decide) hw3 (fun _ h9 => h9) rfl dX12_mayFollow_57 ?_
        refine lv_if_ne (tgt := 67) hx hb dX12_mayFollow_60 (by decide) (fun c35 => ?_) (fun c35 => ?_)
        · have hM := z_f c35 hM
          exact B_67_7  x2 k0 _ _ ls hP hD hS (lv_sub hl [1, 3, 0] rfl) hM
        · have hM := z_t c35 hM
          refine lv_iconst (v := 1) hx hb dX12_mayFollow_63 (by decide) ?_
          refine lv_goto (tgt := 68) hx hb dX12_mayFollow_64 (by decide) ?_
          exact B_68_8  x2 k0 1 _ _ ls hP hD hS (lv_sub hl [1, 3, 0] rfl) hM
  have B_38_2 : ∀ (x1 : Int32) (x2 : Int32) (x3 : Int32) (H : Heap) (locs : List Loc) (ls : Array Slot), va_P D vwCl [(A_m, .inr (11, (.int m_length :: .ref A_m_text :: .int m_tokens :: .ref A_m_kind :: .ref A_m_amount :: .int m_newTokens :: .ref A_m_newKind :: .ref A_m_newAmount :: .ref A_m_variable :: .int m_nodes :: .ref A_m_sort :: .ref A_m_left :: .ref A_m_right :: .ref A_m_what :: .ref A_m_result :: .int m_sums :: .ref A_m_root :: .int m_links :: .ref A_m_relation :: .ref A_m_operands :: .int m_operandMany :: .ref A_m_operators :: .ref A_m_functions :: .int m_operatorMany :: .int m_status :: .long m_outcome :: .ref A_m_output :: .int m_outputLength :: .ref A_m_tasks :: .int m_taskMany :: .ref A_m_forms :: .ref A_m_formLength :: .int m_token :: .int m_tokenAmount :: .int m_ahead :: .int m_depth :: .int m_linkMany :: .int m_isRange :: .int m_primes :: .ref A_m_row :: .ref A_m_statuses :: .ref A_m_outcomes :: .ref A_m_heights :: [])))] H → va_D A [(A_m, .inr (11, (.int m_length :: .ref A_m_text :: .int m_tokens :: .ref A_m_kind :: .ref A_m_amount :: .int m_newTokens :: .ref A_m_newKind :: .ref A_m_newAmount :: .ref A_m_variable :: .int m_nodes :: .ref A_m_sort :: .ref A_m_left :: .ref A_m_right :: .ref A_m_what :: .ref A_m_result :: .int m_sums :: .ref A_m_root :: .int m_links :: .ref A_m_relation :: .ref A_m_operands :: .int m_operandMany :: .ref A_m_operators :: .ref A_m_functions :: .int m_operatorMany :: .int m_status :: .long m_outcome :: .ref A_m_output :: .int m_outputLength :: .ref A_m_tasks :: .int m_taskMany :: .ref A_m_forms :: .ref A_m_formLength :: .int m_token :: .int m_tokenAmount :: .int m_ahead :: .int m_depth :: .int m_linkMany :: .int m_isRange :: .int m_primes :: .ref A_m_row :: .ref A_m_statuses :: .ref A_m_outcomes :: .ref A_m_heights :: [])))] → va_S A s.heap H locs → lv_has ls 6 [(0, .ref A_m), (1, .int x1), (2, .int x2), (3, .int x3)] → fn_Ref_mayFollow_b38 m_depth m_linkMany m_isRange m_primes x1 x2 x3 = some rs → W p l e (headSpec wsX12_mayFollow ({ frames := 2, cells := 0, slots := 0, locals := 45 } : Room)).room s m args below meth c H locs 0 0 (MQ below (zQi D cI cJ cC rs [(A_m, .inr (11, (.int m_length :: .ref A_m_text :: .int m_tokens :: .ref A_m_kind :: .ref A_m_amount :: .int m_newTokens :: .ref A_m_newKind :: .ref A_m_newAmount :: .ref A_m_variable :: .int m_nodes :: .ref A_m_sort :: .ref A_m_left :: .ref A_m_right :: .ref A_m_what :: .ref A_m_result :: .int m_sums :: .ref A_m_root :: .int m_links :: .ref A_m_relation :: .ref A_m_operands :: .int m_operandMany :: .ref A_m_operators :: .ref A_m_functions :: .int m_operatorMany :: .int m_status :: .long m_outcome :: .ref A_m_output :: .int m_outputLength :: .ref A_m_tasks :: .int m_taskMany :: .ref A_m_forms :: .ref A_m_formLength :: .int m_token :: .int m_tokenAmount :: .int m_ahead :: .int m_depth :: .int m_linkMany :: .int m_isRange :: .int m_primes :: .ref A_m_row :: .ref A_m_statuses :: .ref A_m_outcomes :: .ref A_m_heights :: [])))] A) args s 0 0 A) (F0 m 38 ls []) := by
    intro  x1 x2 x3 H locs ls hP hD hS hl hM
    refine lv_iconst (v := 1) hx hb dX12_mayFollow_38 (by decide) ?_
    refine lv_goto (tgt := 43) hx hb dX12_mayFollow_39 (by decide) ?_
    exact B_43_3  x1 x2 x3 1 _ _ ls hP hD hS (lv_sub hl [0, 1, 2, 3] rfl) hM
  have B_21_1 : ∀ (x1 : Int32) (x2 : Int32) (k0 : Int32) (H : Heap) (locs : List Loc) (ls : Array Slot), va_P D vwCl [(A_m, .inr (11, (.int m_length :: .ref A_m_text :: .int m_tokens :: .ref A_m_kind :: .ref A_m_amount :: .int m_newTokens :: .ref A_m_newKind :: .ref A_m_newAmount :: .ref A_m_variable :: .int m_nodes :: .ref A_m_sort :: .ref A_m_left :: .ref A_m_right :: .ref A_m_what :: .ref A_m_result :: .int m_sums :: .ref A_m_root :: .int m_links :: .ref A_m_relation :: .ref A_m_operands :: .int m_operandMany :: .ref A_m_operators :: .ref A_m_functions :: .int m_operatorMany :: .int m_status :: .long m_outcome :: .ref A_m_output :: .int m_outputLength :: .ref A_m_tasks :: .int m_taskMany :: .ref A_m_forms :: .ref A_m_formLength :: .int m_token :: .int m_tokenAmount :: .int m_ahead :: .int m_depth :: .int m_linkMany :: .int m_isRange :: .int m_primes :: .ref A_m_row :: .ref A_m_statuses :: .ref A_m_outcomes :: .ref A_m_heights :: [])))] H → va_D A [(A_m, .inr (11, (.int m_length :: .ref A_m_text :: .int m_tokens :: .ref A_m_kind :: .ref A_m_amount :: .int m_newTokens :: .ref A_m_newKind :: .ref A_m_newAmount :: .ref A_m_variable :: .int m_nodes :: .ref A_m_sort :: .ref A_m_left :: .ref A_m_right :: .ref A_m_what :: .ref A_m_result :: .int m_sums :: .ref A_m_root :: .int m_links :: .ref A_m_relation :: .ref A_m_operands :: .int m_operandMany :: .ref A_m_operators :: .ref A_m_functions :: .int m_operatorMany :: .int m_status :: .long m_outcome :: .ref A_m_output :: .int m_outputLength :: .ref A_m_tasks :: .int m_taskMany :: .ref A_m_forms :: .ref A_m_formLength :: .int m_token :: .int m_tokenAmount :: .int m_ahead :: .int m_depth :: .int m_linkMany :: .int m_isRange :: .int m_primes :: .ref A_m_row :: .ref A_m_statuses :: .ref A_m_outcomes :: .ref A_m_heights :: [])))] → va_S A s.heap H locs → lv_has ls 6 [(0, .ref A_m), (1, .int x1), (2, .int x2)] → fn_Ref_mayFollow_b21 m_depth m_linkMany m_isRange m_primes x1 x2 k0 = some rs → W p l e (headSpec wsX12_mayFollow ({ frames := 2, cells := 0, slots := 0, locals := 45 } : Room)).room s m args below meth c H locs 0 0 (MQ below (zQi D cI cJ cC rs [(A_m, .inr (11, (.int m_length :: .ref A_m_text :: .int m_tokens :: .ref A_m_kind :: .ref A_m_amount :: .int m_newTokens :: .ref A_m_newKind :: .ref A_m_newAmount :: .ref A_m_variable :: .int m_nodes :: .ref A_m_sort :: .ref A_m_left :: .ref A_m_right :: .ref A_m_what :: .ref A_m_result :: .int m_sums :: .ref A_m_root :: .int m_links :: .ref A_m_relation :: .ref A_m_operands :: .int m_operandMany :: .ref A_m_operators :: .ref A_m_functions :: .int m_operatorMany :: .int m_status :: .long m_outcome :: .ref A_m_output :: .int m_outputLength :: .ref A_m_tasks :: .int m_taskMany :: .ref A_m_forms :: .ref A_m_formLength :: .int m_token :: .int m_tokenAmount :: .int m_ahead :: .int m_depth :: .int m_linkMany :: .int m_isRange :: .int m_primes :: .ref A_m_row :: .ref A_m_statuses :: .ref A_m_outcomes :: .ref A_m_heights :: [])))] A) args s 0 0 A) (F0 m 21 ls [.int k0]) := by
    intro  x1 x2 k0 H locs ls hP hD hS hl hM
    refine lv_istore_n (lv' := [(3, .int k0), (0, .ref A_m), (1, .int x1), (2, .int x2)]) hx hb dX12_mayFollow_21 rfl hl (by decide) rfl (fun ls hl => ?_)
    refine lv_iload_n hx hb dX12_mayFollow_22 rfl (lv_at hl 3 rfl) ?_
    refine lv_iconst (v := 2) hx hb dX12_mayFollow_23 (by decide) ?_
    refine lv_icmp_eq (tgt := 38) hx hb dX12_mayFollow_24 (by decide) (fun c2 => ?_) (fun c2 => ?_)
    · have hM := z_t c2 hM
      exact B_38_2  x1 x2 k0 _ _ ls hP hD hS (lv_sub hl [1, 2, 3, 0] rfl) hM
    · have hM := z_f c2 hM
      refine lv_iload_n hx hb dX12_mayFollow_27 rfl (lv_at hl 3 rfl) ?_
      refine lv_iconst (v := 3) hx hb dX12_mayFollow_28 (by decide) ?_
      refine lv_icmp_eq (tgt := 38) hx hb dX12_mayFollow_29 (by decide) (fun c36 => ?_) (fun c36 => ?_)
      · have hM := z_t c36 hM
        exact B_38_2  x1 x2 k0 _ _ ls hP hD hS (lv_sub hl [1, 2, 3, 0] rfl) hM
      · have hM := z_f c36 hM
        refine lv_iload_n hx hb dX12_mayFollow_32 rfl (lv_at hl 3 rfl) ?_
        refine lv_bipush (v := 10) hx hb dX12_mayFollow_33 (by decide) ?_
        refine lv_icmp_ne (tgt := 42) hx hb dX12_mayFollow_35 (by decide) (fun c37 => ?_) (fun c37 => ?_)
        · have hM := z_f c37 hM
          refine lv_iconst (v := 0) hx hb dX12_mayFollow_42 (by decide) ?_
          exact B_43_3  x1 x2 k0 0 _ _ ls hP hD hS (lv_sub hl [1, 2, 3, 0] rfl) hM
        · have hM := z_t c37 hM
          exact B_38_2  x1 x2 k0 _ _ ls hP hD hS (lv_sub hl [1, 2, 3, 0] rfl) hM
  have B_16_0 : ∀ (x1 : Int32) (x2 : Int32) (H : Heap) (locs : List Loc) (ls : Array Slot), va_P D vwCl [(A_m, .inr (11, (.int m_length :: .ref A_m_text :: .int m_tokens :: .ref A_m_kind :: .ref A_m_amount :: .int m_newTokens :: .ref A_m_newKind :: .ref A_m_newAmount :: .ref A_m_variable :: .int m_nodes :: .ref A_m_sort :: .ref A_m_left :: .ref A_m_right :: .ref A_m_what :: .ref A_m_result :: .int m_sums :: .ref A_m_root :: .int m_links :: .ref A_m_relation :: .ref A_m_operands :: .int m_operandMany :: .ref A_m_operators :: .ref A_m_functions :: .int m_operatorMany :: .int m_status :: .long m_outcome :: .ref A_m_output :: .int m_outputLength :: .ref A_m_tasks :: .int m_taskMany :: .ref A_m_forms :: .ref A_m_formLength :: .int m_token :: .int m_tokenAmount :: .int m_ahead :: .int m_depth :: .int m_linkMany :: .int m_isRange :: .int m_primes :: .ref A_m_row :: .ref A_m_statuses :: .ref A_m_outcomes :: .ref A_m_heights :: [])))] H → va_D A [(A_m, .inr (11, (.int m_length :: .ref A_m_text :: .int m_tokens :: .ref A_m_kind :: .ref A_m_amount :: .int m_newTokens :: .ref A_m_newKind :: .ref A_m_newAmount :: .ref A_m_variable :: .int m_nodes :: .ref A_m_sort :: .ref A_m_left :: .ref A_m_right :: .ref A_m_what :: .ref A_m_result :: .int m_sums :: .ref A_m_root :: .int m_links :: .ref A_m_relation :: .ref A_m_operands :: .int m_operandMany :: .ref A_m_operators :: .ref A_m_functions :: .int m_operatorMany :: .int m_status :: .long m_outcome :: .ref A_m_output :: .int m_outputLength :: .ref A_m_tasks :: .int m_taskMany :: .ref A_m_forms :: .ref A_m_formLength :: .int m_token :: .int m_tokenAmount :: .int m_ahead :: .int m_depth :: .int m_linkMany :: .int m_isRange :: .int m_primes :: .ref A_m_row :: .ref A_m_statuses :: .ref A_m_outcomes :: .ref A_m_heights :: [])))] → va_S A s.heap H locs → lv_has ls 6 [(0, .ref A_m), (1, .int x1), (2, .int x2)] → fn_Ref_mayFollow_b16 m_depth m_linkMany m_isRange m_primes x1 x2 = some rs → W p l e (headSpec wsX12_mayFollow ({ frames := 2, cells := 0, slots := 0, locals := 45 } : Room)).room s m args below meth c H locs 0 0 (MQ below (zQi D cI cJ cC rs [(A_m, .inr (11, (.int m_length :: .ref A_m_text :: .int m_tokens :: .ref A_m_kind :: .ref A_m_amount :: .int m_newTokens :: .ref A_m_newKind :: .ref A_m_newAmount :: .ref A_m_variable :: .int m_nodes :: .ref A_m_sort :: .ref A_m_left :: .ref A_m_right :: .ref A_m_what :: .ref A_m_result :: .int m_sums :: .ref A_m_root :: .int m_links :: .ref A_m_relation :: .ref A_m_operands :: .int m_operandMany :: .ref A_m_operators :: .ref A_m_functions :: .int m_operatorMany :: .int m_status :: .long m_outcome :: .ref A_m_output :: .int m_outputLength :: .ref A_m_tasks :: .int m_taskMany :: .ref A_m_forms :: .ref A_m_formLength :: .int m_token :: .int m_tokenAmount :: .int m_ahead :: .int m_depth :: .int m_linkMany :: .int m_isRange :: .int m_primes :: .ref A_m_row :: .ref A_m_statuses :: .ref A_m_outcomes :: .ref A_m_heights :: [])))] A) args s 0 0 A) (F0 m 16 ls []) := by
    intro  x1 x2 H locs ls hP hD hS hl hM
    refine lv_iconst (v := 1) hx hb dX12_mayFollow_16 (by decide) ?_
    refine lv_goto (tgt := 21) hx hb dX12_mayFollow_17 (by decide) ?_
    exact B_21_1  x1 x2 1 _ _ ls hP hD hS (lv_sub hl [0, 1, 2] rfl) hM
  refine lv_iload_n hx hb dX12_mayFollow_0 rfl (lv_at hl 1 rfl) ?_
  refine lv_iconst (v := 1) hx hb dX12_mayFollow_1 (by decide) ?_
  refine lv_icmp_eq (tgt := 16) hx hb dX12_mayFollow_2 (by decide) (fun c1 => ?_) (fun c1 => ?_)
  · have hM := z_t c1 hM
    exact B_16_0  x1 x2 _ _ ls hP hD hS (lv_sub hl [0, 1, 2] rfl) hM
  · have hM := z_f c1 hM
    refine lv_iload_n hx hb dX12_mayFollow_5 rfl (lv_at hl 1 rfl) ?_
    refine lv_iconst (v := 2) hx hb dX12_mayFollow_6 (by decide) ?_
    refine lv_icmp_eq (tgt := 16) hx hb dX12_mayFollow_7 (by decide) (fun c38 => ?_) (fun c38 => ?_)
    · have hM := z_t c38 hM
      exact B_16_0  x1 x2 _ _ ls hP hD hS (lv_sub hl [0, 1, 2] rfl) hM
    · have hM := z_f c38 hM
      refine lv_iload_n hx hb dX12_mayFollow_10 rfl (lv_at hl 1 rfl) ?_
      refine lv_bipush (v := 11) hx hb dX12_mayFollow_11 (by decide) ?_
      refine lv_icmp_ne (tgt := 20) hx hb dX12_mayFollow_13 (by decide) (fun c39 => ?_) (fun c39 => ?_)
      · have hM := z_f c39 hM
        refine lv_iconst (v := 0) hx hb dX12_mayFollow_20 (by decide) ?_
        exact B_21_1  x1 x2 0 _ _ ls hP hD hS (lv_sub hl [0, 1, 2] rfl) hM
      · have hM := z_t c39 hM
        exact B_16_0  x1 x2 _ _ ls hP hD hS (lv_sub hl [0, 1, 2] rfl) hM
def fn_Ref_notes_b95 (m_tokenAmount : Int32) (m_newTokens : Int32) (m_depth : Int32) (m_linkMany : Int32) (m_isRange : Int32) (m_primes : Int32) (m_newKind : Nat → Int32) (m_newAmount : Nat → Int32) (x1 : Int32) (k1 : Int32) : Option (Int32 × Int32 × Int32 × Int32 × Int32 × (Nat → Int32) × (Nat → Int32)) := (if ¬ (k1 = 0 ∨ k1 = 1) then none else (if (m_newTokens < 0 ∨ 81 ≤ m_newTokens.toNatClampNeg) then none else (if (m_newTokens < 0 ∨ 81 ≤ m_newTokens.toNatClampNeg) then none else some ((m_newTokens + 1), m_depth, m_linkMany, k1, m_primes, (upd m_newKind m_newTokens.toNatClampNeg x1), (upd m_newAmount m_newTokens.toNatClampNeg m_tokenAmount)))))
def fn_Ref_notes_b90 (m_tokenAmount : Int32) (m_newTokens : Int32) (m_depth : Int32) (m_linkMany : Int32) (m_isRange : Int32) (m_primes : Int32) (m_newKind : Nat → Int32) (m_newAmount : Nat → Int32) (x1 : Int32) : Option (Int32 × Int32 × Int32 × Int32 × Int32 × (Nat → Int32) × (Nat → Int32)) := fn_Ref_notes_b95 m_tokenAmount m_newTokens m_depth m_linkMany m_isRange m_primes m_newKind m_newAmount x1 1
def fn_Ref_notes_b94 (m_tokenAmount : Int32) (m_newTokens : Int32) (m_depth : Int32) (m_linkMany : Int32) (m_isRange : Int32) (m_primes : Int32) (m_newKind : Nat → Int32) (m_newAmount : Nat → Int32) (x1 : Int32) : Option (Int32 × Int32 × Int32 × Int32 × Int32 × (Nat → Int32) × (Nat → Int32)) := fn_Ref_notes_b95 m_tokenAmount m_newTokens m_depth m_linkMany m_isRange m_primes m_newKind m_newAmount x1 0
def fn_Ref_notes_b66 (m_tokenAmount : Int32) (m_newTokens : Int32) (m_depth : Int32) (m_linkMany : Int32) (m_isRange : Int32) (m_primes : Int32) (m_newKind : Nat → Int32) (m_newAmount : Nat → Int32) (x1 : Int32) (k1 : Int32) (k2 : Int32) : Option (Int32 × Int32 × Int32 × Int32 × Int32 × (Nat → Int32) × (Nat → Int32)) := (if x1 = 18 then fn_Ref_notes_b90 m_tokenAmount m_newTokens m_depth (k1 + k2) m_isRange m_primes m_newKind m_newAmount x1 else (if m_isRange = 0 then fn_Ref_notes_b94 m_tokenAmount m_newTokens m_depth (k1 + k2) m_isRange m_primes m_newKind m_newAmount x1 else (if x1 = 19 then fn_Ref_notes_b94 m_tokenAmount m_newTokens m_depth (k1 + k2) m_isRange m_primes m_newKind m_newAmount x1 else fn_Ref_notes_b90 m_tokenAmount m_newTokens m_depth (k1 + k2) m_isRange m_primes m_newKind m_newAmount x1)))
def fn_Ref_notes_b46 (m_tokenAmount : Int32) (m_newTokens : Int32) (m_depth : Int32) (m_linkMany : Int32) (m_isRange : Int32) (m_primes : Int32) (m_newKind : Nat → Int32) (m_newAmount : Nat → Int32) (x1 : Int32) (k1 : Int32) : Option (Int32 × Int32 × Int32 × Int32 × Int32 × (Nat → Int32) × (Nat → Int32)) := ((fn_Ref_isRelation x1).bind fun q6 => (if q6 = 0 then fn_Ref_notes_b66 m_tokenAmount m_newTokens m_depth m_linkMany m_isRange k1 m_newKind m_newAmount x1 m_linkMany 0 else fn_Ref_notes_b66 m_tokenAmount m_newTokens m_depth m_linkMany m_isRange k1 m_newKind m_newAmount x1 m_linkMany 1))
def fn_Ref_notes_b26 (m_tokenAmount : Int32) (m_newTokens : Int32) (m_depth : Int32) (m_linkMany : Int32) (m_isRange : Int32) (m_primes : Int32) (m_newKind : Nat → Int32) (m_newAmount : Nat → Int32) (x1 : Int32) (k1 : Int32) (k2 : Int32) : Option (Int32 × Int32 × Int32 × Int32 × Int32 × (Nat → Int32) × (Nat → Int32)) := (if x1 = 4 then fn_Ref_notes_b46 m_tokenAmount m_newTokens (k1 + k2) m_linkMany m_isRange m_primes m_newKind m_newAmount x1 (m_primes + 1) else fn_Ref_notes_b46 m_tokenAmount m_newTokens (k1 + k2) m_linkMany m_isRange m_primes m_newKind m_newAmount x1 0)
def fn_Ref_notes (m_newTokens : Int32) (m_tokenAmount : Int32) (m_depth : Int32) (m_linkMany : Int32) (m_isRange : Int32) (m_primes : Int32) (m_newKind : Nat → Int32) (m_newAmount : Nat → Int32) (x1 : Int32) : Option (Int32 × Int32 × Int32 × Int32 × Int32 × (Nat → Int32) × (Nat → Int32)) := (if x1 = 10 then fn_Ref_notes_b26 m_tokenAmount m_newTokens m_depth m_linkMany m_isRange m_primes m_newKind m_newAmount x1 m_depth 1 else (if x1 = 11 then fn_Ref_notes_b26 m_tokenAmount m_newTokens m_depth m_linkMany m_isRange m_primes m_newKind m_newAmount x1 m_depth (-1) else fn_Ref_notes_b26 m_tokenAmount m_newTokens m_depth m_linkMany m_isRange m_primes m_newKind m_newAmount x1 m_depth 0))
set_option maxHeartbeats 40000000 in
set_option maxRecDepth 100000 in
theorem ct_Ref_notes (l : Launch) (D : va_G) (cI cJ cC : ClassId) (adK adV : Nat → Nat) (A_m A_m_text A_m_kind A_m_amount A_m_newKind A_m_newAmount A_m_variable A_m_sort A_m_left A_m_right A_m_what A_m_result A_m_root A_m_relation A_m_operands A_m_operators A_m_functions A_m_output A_m_tasks A_m_forms A_m_formLength A_m_row A_m_statuses A_m_outcomes A_m_heights : Nat) (sz : Nat) (m_length : Int32) (m_tokens : Int32) (m_newTokens : Int32) (m_nodes : Int32) (m_sums : Int32) (m_links : Int32) (m_operandMany : Int32) (m_operatorMany : Int32) (m_status : Int32) (m_outcome : Int64) (m_outputLength : Int32) (m_taskMany : Int32) (m_token : Int32) (m_tokenAmount : Int32) (m_ahead : Int32) (m_depth : Int32) (m_linkMany : Int32) (m_isRange : Int32) (m_primes : Int32) (m_newKind : Nat → Int32) (m_newAmount : Nat → Int32) (x1 : Int32) {rs : Int32 × Int32 × Int32 × Int32 × Int32 × (Nat → Int32) × (Nat → Int32)} (hM : fn_Ref_notes m_newTokens m_tokenAmount m_depth m_linkMany m_isRange m_primes m_newKind m_newAmount x1 = some rs) : Met l yX12_notes wsX12_notes ({ frames := 2, cells := 0, slots := 0, locals := 45 } : Room) (zP D cI cJ cC adK adV [.ref A_m, .int x1] sz [(A_m, .inr (11, (.int m_length :: .ref A_m_text :: .int m_tokens :: .ref A_m_kind :: .ref A_m_amount :: .int m_newTokens :: .ref A_m_newKind :: .ref A_m_newAmount :: .ref A_m_variable :: .int m_nodes :: .ref A_m_sort :: .ref A_m_left :: .ref A_m_right :: .ref A_m_what :: .ref A_m_result :: .int m_sums :: .ref A_m_root :: .int m_links :: .ref A_m_relation :: .ref A_m_operands :: .int m_operandMany :: .ref A_m_operators :: .ref A_m_functions :: .int m_operatorMany :: .int m_status :: .long m_outcome :: .ref A_m_output :: .int m_outputLength :: .ref A_m_tasks :: .int m_taskMany :: .ref A_m_forms :: .ref A_m_formLength :: .int m_token :: .int m_tokenAmount :: .int m_ahead :: .int m_depth :: .int m_linkMany :: .int m_isRange :: .int m_primes :: .ref A_m_row :: .ref A_m_statuses :: .ref A_m_outcomes :: .ref A_m_heights :: []))), (A_m_newKind, .inl (cI, 81, .inl m_newKind)), (A_m_newAmount, .inl (cI, 81, .inl m_newAmount))]) (zQv D cI cJ cC [(A_m, .inr (11, (.int m_length :: .ref A_m_text :: .int m_tokens :: .ref A_m_kind :: .ref A_m_amount :: .int rs.1 :: .ref A_m_newKind :: .ref A_m_newAmount :: .ref A_m_variable :: .int m_nodes :: .ref A_m_sort :: .ref A_m_left :: .ref A_m_right :: .ref A_m_what :: .ref A_m_result :: .int m_sums :: .ref A_m_root :: .int m_links :: .ref A_m_relation :: .ref A_m_operands :: .int m_operandMany :: .ref A_m_operators :: .ref A_m_functions :: .int m_operatorMany :: .int m_status :: .long m_outcome :: .ref A_m_output :: .int m_outputLength :: .ref A_m_tasks :: .int m_taskMany :: .ref A_m_forms :: .ref A_m_formLength :: .int m_token :: .int m_tokenAmount :: .int m_ahead :: .int rs.2.1 :: .int rs.2.2.1 :: .int rs.2.2.2.1 :: .int rs.2.2.2.2.1 :: .ref A_m_row :: .ref A_m_statuses :: .ref A_m_outcomes :: .ref A_m_heights :: []))), (A_m_newKind, .inl (cI, 81, .inl rs.2.2.2.2.2.1)), (A_m_newAmount, .inl (cI, 81, .inl rs.2.2.2.2.2.2))] (va_A [(A_m, .inr (11, (.int m_length :: .ref A_m_text :: .int m_tokens :: .ref A_m_kind :: .ref A_m_amount :: .int m_newTokens :: .ref A_m_newKind :: .ref A_m_newAmount :: .ref A_m_variable :: .int m_nodes :: .ref A_m_sort :: .ref A_m_left :: .ref A_m_right :: .ref A_m_what :: .ref A_m_result :: .int m_sums :: .ref A_m_root :: .int m_links :: .ref A_m_relation :: .ref A_m_operands :: .int m_operandMany :: .ref A_m_operators :: .ref A_m_functions :: .int m_operatorMany :: .int m_status :: .long m_outcome :: .ref A_m_output :: .int m_outputLength :: .ref A_m_tasks :: .int m_taskMany :: .ref A_m_forms :: .ref A_m_formLength :: .int m_token :: .int m_tokenAmount :: .int m_ahead :: .int m_depth :: .int m_linkMany :: .int m_isRange :: .int m_primes :: .ref A_m_row :: .ref A_m_statuses :: .ref A_m_outcomes :: .ref A_m_heights :: []))), (A_m_newKind, .inl (cI, 81, .inl m_newKind)), (A_m_newAmount, .inl (cI, 81, .inl m_newAmount))] sz)) 0 0 (va_A [(A_m, .inr (11, (.int m_length :: .ref A_m_text :: .int m_tokens :: .ref A_m_kind :: .ref A_m_amount :: .int m_newTokens :: .ref A_m_newKind :: .ref A_m_newAmount :: .ref A_m_variable :: .int m_nodes :: .ref A_m_sort :: .ref A_m_left :: .ref A_m_right :: .ref A_m_what :: .ref A_m_result :: .int m_sums :: .ref A_m_root :: .int m_links :: .ref A_m_relation :: .ref A_m_operands :: .int m_operandMany :: .ref A_m_operators :: .ref A_m_functions :: .int m_operatorMany :: .int m_status :: .long m_outcome :: .ref A_m_output :: .int m_outputLength :: .ref A_m_tasks :: .int m_taskMany :: .ref A_m_forms :: .ref A_m_formLength :: .int m_token :: .int m_tokenAmount :: .int m_ahead :: .int m_depth :: .int m_linkMany :: .int m_isRange :: .int m_primes :: .ref A_m_row :: .ref A_m_statuses :: .ref A_m_outcomes :: .ref A_m_heights :: []))), (A_m_newKind, .inl (cI, 81, .inl m_newKind)), (A_m_newAmount, .inl (cI, 81, .inl m_newAmount))] sz) := by
  refine Met.ofW (cc := cX12_notes) (maxL := 2) (ret := none) (by decide) rfl ?_
  intro p e s m args below meth c s₁ B hml hv0
  obtain ⟨hargs, hsz, hP, hK, hD0, hX⟩ := hv0
  have hx := B.exec
  have hb := B.bytes
  have hr := B.returns
  have hts := atoms_spec (ws := wsX12_notes) B.pre
  have hown : s.vm.findClass RX12 = some m.cls := findClass_of_methodNamed B.named
  have hlocks := B.notSynchronized
  subst hsz
  have hD := hD0.self (sz := s.heap.size)
  generalize hAe : va_A [(A_m, .inr (11, (.int m_length :: .ref A_m_text :: .int m_tokens :: .ref A_m_kind :: .ref A_m_amount :: .int m_newTokens :: .ref A_m_newKind :: .ref A_m_newAmount :: .ref A_m_variable :: .int m_nodes :: .ref A_m_sort :: .ref A_m_left :: .ref A_m_right :: .ref A_m_what :: .ref A_m_result :: .int m_sums :: .ref A_m_root :: .int m_links :: .ref A_m_relation :: .ref A_m_operands :: .int m_operandMany :: .ref A_m_operators :: .ref A_m_functions :: .int m_operatorMany :: .int m_status :: .long m_outcome :: .ref A_m_output :: .int m_outputLength :: .ref A_m_tasks :: .int m_taskMany :: .ref A_m_forms :: .ref A_m_formLength :: .int m_token :: .int m_tokenAmount :: .int m_ahead :: .int m_depth :: .int m_linkMany :: .int m_isRange :: .int m_primes :: .ref A_m_row :: .ref A_m_statuses :: .ref A_m_outcomes :: .ref A_m_heights :: []))), (A_m_newKind, .inl (cI, 81, .inl m_newKind)), (A_m_newAmount, .inl (cI, 81, .inl m_newAmount))] s.heap.size = A at hD hX ⊢
  have hA : ∀ q : Nat, s.heap.size ≤ q → A q := fun q h => by rw [← hAe]; exact Or.inr h
  have hS : va_S A s.heap s.heap [] := va_S.rf
  have hl := lv_entry ([.ref A_m, .int x1]) (n := 2) (Nat.le_of_ble_eq_true rfl)
  rw [hargs, lg_entry_eq, ← hargs]
  generalize (lg_sl ([.ref A_m, .int x1]) ++ List.replicate (2 - (lg_sl ([.ref A_m, .int x1])).length) Slot.unset).toArray = ls at hl ⊢
  have hl : lv_has ls 2 [(0, .ref A_m), (1, .int x1)] := hl
  have hw0 : ∀ w ∈ u_ws RX12 TX12 43, w ∈ wsX12_notes := by decide +kernel
  have hw1 := hts (.fieldLink RX12 130 "NotationParserModel" "depth" "I") (by decide +kernel)
  have hw2 := hts (.fieldLink RX12 148 "NotationParserModel" "primes" "I") (by decide +kernel)
  have hw3 := hts (.fieldLink RX12 145 "NotationParserModel" "linkMany" "I") (by decide +kernel)
  have hw4 := hts (.fieldLink RX12 133 "NotationParserModel" "isRange" "Z") (by decide +kernel)
  have hw5 := hts (.fieldLink RX12 19 "NotationParserModel" "newKind" "[I") (by decide +kernel)
  have hw6 := hts (.fieldLink RX12 151 "NotationParserModel" "newTokens" "I") (by decide +kernel)
  have hw7 := hts (.fieldLink RX12 22 "NotationParserModel" "newAmount" "[I") (by decide +kernel)
  have hw8 := hts (.fieldLink RX12 102 "NotationParserModel" "tokenAmount" "I") (by decide +kernel)
  have B_95_4 : ∀ (m_newTokens : Int32) (m_depth : Int32) (m_linkMany : Int32) (m_isRange : Int32) (m_primes : Int32) (m_newKind : Nat → Int32) (m_newAmount : Nat → Int32) (x1 : Int32) (k1 : Int32) (H : Heap) (locs : List Loc) (ls : Array Slot), va_P D vwCl [(A_m, .inr (11, (.int m_length :: .ref A_m_text :: .int m_tokens :: .ref A_m_kind :: .ref A_m_amount :: .int m_newTokens :: .ref A_m_newKind :: .ref A_m_newAmount :: .ref A_m_variable :: .int m_nodes :: .ref A_m_sort :: .ref A_m_left :: .ref A_m_right :: .ref A_m_what :: .ref A_m_result :: .int m_sums :: .ref A_m_root :: .int m_links :: .ref A_m_relation :: .ref A_m_operands :: .int m_operandMany :: .ref A_m_operators :: .ref A_m_functions :: .int m_operatorMany :: .int m_status :: .long m_outcome :: .ref A_m_output :: .int m_outputLength :: .ref A_m_tasks :: .int m_taskMany :: .ref A_m_forms :: .ref A_m_formLength :: .int m_token :: .int m_tokenAmount :: .int m_ahead :: .int m_depth :: .int m_linkMany :: .int m_isRange :: .int m_primes :: .ref A_m_row :: .ref A_m_statuses :: .ref A_m_outcomes :: .ref A_m_heights :: []))), (A_m_newKind, .inl (cI, 81, .inl m_newKind)), (A_m_newAmount, .inl (cI, 81, .inl m_newAmount))] H → va_D A [(A_m, .inr (11, (.int m_length :: .ref A_m_text :: .int m_tokens :: .ref A_m_kind :: .ref A_m_amount :: .int m_newTokens :: .ref A_m_newKind :: .ref A_m_newAmount :: .ref A_m_variable :: .int m_nodes :: .ref A_m_sort :: .ref A_m_left :: .ref A_m_right :: .ref A_m_what :: .ref A_m_result :: .int m_sums :: .ref A_m_root :: .int m_links :: .ref A_m_relation :: .ref A_m_operands :: .int m_operandMany :: .ref A_m_operators :: .ref A_m_functions :: .int m_operatorMany :: .int m_status :: .long m_outcome :: .ref A_m_output :: .int m_outputLength :: .ref A_m_tasks :: .int m_taskMany :: .ref A_m_forms :: .ref A_m_formLength :: .int m_token :: .int m_tokenAmount :: .int m_ahead :: .int m_depth :: .int m_linkMany :: .int m_isRange :: .int m_primes :: .ref A_m_row :: .ref A_m_statuses :: .ref A_m_outcomes :: .ref A_m_heights :: []))), (A_m_newKind, .inl (cI, 81, .inl m_newKind)), (A_m_newAmount, .inl (cI, 81, .inl m_newAmount))] → va_S A s.heap H locs → lv_has ls 2 [(0, .ref A_m), (1, .int x1)] → fn_Ref_notes_b95 m_tokenAmount m_newTokens m_depth m_linkMany m_isRange m_primes m_newKind m_newAmount x1 k1 = some rs → W p l e (headSpec wsX12_notes ({ frames := 2, cells := 0, slots := 0, locals := 45 } : Room)).room s m args below meth c H locs 0 0 (MQ below (zQv D cI cJ cC [(A_m, .inr (11, (.int m_length :: .ref A_m_text :: .int m_tokens :: .ref A_m_kind :: .ref A_m_amount :: .int rs.1 :: .ref A_m_newKind :: .ref A_m_newAmount :: .ref A_m_variable :: .int m_nodes :: .ref A_m_sort :: .ref A_m_left :: .ref A_m_right :: .ref A_m_what :: .ref A_m_result :: .int m_sums :: .ref A_m_root :: .int m_links :: .ref A_m_relation :: .ref A_m_operands :: .int m_operandMany :: .ref A_m_operators :: .ref A_m_functions :: .int m_operatorMany :: .int m_status :: .long m_outcome :: .ref A_m_output :: .int m_outputLength :: .ref A_m_tasks :: .int m_taskMany :: .ref A_m_forms :: .ref A_m_formLength :: .int m_token :: .int m_tokenAmount :: .int m_ahead :: .int rs.2.1 :: .int rs.2.2.1 :: .int rs.2.2.2.1 :: .int rs.2.2.2.2.1 :: .ref A_m_row :: .ref A_m_statuses :: .ref A_m_outcomes :: .ref A_m_heights :: []))), (A_m_newKind, .inl (cI, 81, .inl rs.2.2.2.2.2.1)), (A_m_newAmount, .inl (cI, 81, .inl rs.2.2.2.2.2.2))] A) args s 0 0 A) (F0 m 95 ls [.int k1, .ref A_m]) := by
    intro  m_newTokens m_depth m_linkMany m_isRange m_primes m_newKind m_newAmount x1 k1 H locs ls hP hD hS hl hM
    obtain ⟨g11, hM⟩ := z_g hM
    refine va_put (D := D) (ci := 11) (v := .int k1) (ty := .boolean) (C := RX12) (T := TX12) (N := 43) hx hb hts hw0 tyX12 tyX12_ok nmX12 hown hK hP hD hS 0 rfl rfl 37 (by decide) hw4 (fun _ h9 => h9) rfl (by decide +kernel) (z_bool g11) (z_boolF g11) (Nat.le_of_ble_eq_true rfl) dX12_notes_95 (fun H12 locs hP hD hS => ?_)
    have hP : va_P D vwCl [(A_m, .inr (11, (.int m_length :: .ref A_m_text :: .int m_tokens :: .ref A_m_kind :: .ref A_m_amount :: .int m_newTokens :: .ref A_m_newKind :: .ref A_m_newAmount :: .ref A_m_variable :: .int m_nodes :: .ref A_m_sort :: .ref A_m_left :: .ref A_m_right :: .ref A_m_what :: .ref A_m_result :: .int m_sums :: .ref A_m_root :: .int m_links :: .ref A_m_relation :: .ref A_m_operands :: .int m_operandMany :: .ref A_m_operators :: .ref A_m_functions :: .int m_operatorMany :: .int m_status :: .long m_outcome :: .ref A_m_output :: .int m_outputLength :: .ref A_m_tasks :: .int m_taskMany :: .ref A_m_forms :: .ref A_m_formLength :: .int m_token :: .int m_tokenAmount :: .int m_ahead :: .int m_depth :: .int m_linkMany :: .int k1 :: .int m_primes :: .ref A_m_row :: .ref A_m_statuses :: .ref A_m_outcomes :: .ref A_m_heights :: []))), (A_m_newKind, .inl (cI, 81, .inl m_newKind)), (A_m_newAmount, .inl (cI, 81, .inl m_newAmount))] H12 := hP
    have hD : va_D A [(A_m, .inr (11, (.int m_length :: .ref A_m_text :: .int m_tokens :: .ref A_m_kind :: .ref A_m_amount :: .int m_newTokens :: .ref A_m_newKind :: .ref A_m_newAmount :: .ref A_m_variable :: .int m_nodes :: .ref A_m_sort :: .ref A_m_left :: .ref A_m_right :: .ref A_m_what :: .ref A_m_result :: .int m_sums :: .ref A_m_root :: .int m_links :: .ref A_m_relation :: .ref A_m_operands :: .int m_operandMany :: .ref A_m_operators :: .ref A_m_functions :: .int m_operatorMany :: .int m_status :: .long m_outcome :: .ref A_m_output :: .int m_outputLength :: .ref A_m_tasks :: .int m_taskMany :: .ref A_m_forms :: .ref A_m_formLength :: .int m_token :: .int m_tokenAmount :: .int m_ahead :: .int m_depth :: .int m_linkMany :: .int k1 :: .int m_primes :: .ref A_m_row :: .ref A_m_statuses :: .ref A_m_outcomes :: .ref A_m_heights :: []))), (A_m_newKind, .inl (cI, 81, .inl m_newKind)), (A_m_newAmount, .inl (cI, 81, .inl m_newAmount))] := hD
    refine lv_aload_n hx hb dX12_notes_98 rfl (lv_at hl 0 rfl) ?_
    refine va_get (D := D) (ci := 11) (v := .ref A_m_newKind) (C := RX12) (T := TX12) (N := 43) hx hb hts hw0 hown hK hP 0 rfl rfl 6 (by decide) hw5 (fun _ h9 => h9) rfl dX12_notes_99 ?_
    refine lv_aload_n hx hb dX12_notes_102 rfl (lv_at hl 0 rfl) ?_
    refine va_get (D := D) (ci := 11) (v := .int m_newTokens) (C := RX12) (T := TX12) (N := 43) hx hb hts hw0 hown hK hP 0 rfl rfl 5 (by decide) hw6 (fun _ h9 => h9) rfl dX12_notes_103 ?_
    refine lv_iload_n hx hb dX12_notes_106 rfl (lv_at hl 1 rfl) ?_
    obtain ⟨g13, hM⟩ := z_g hM
    refine va_iast hx hb hK hP hD hS 1 0 rfl rfl g13 dX12_notes_107 (fun H14 locs hP hD hS => ?_)
    have hP : va_P D vwCl [(A_m, .inr (11, (.int m_length :: .ref A_m_text :: .int m_tokens :: .ref A_m_kind :: .ref A_m_amount :: .int m_newTokens :: .ref A_m_newKind :: .ref A_m_newAmount :: .ref A_m_variable :: .int m_nodes :: .ref A_m_sort :: .ref A_m_left :: .ref A_m_right :: .ref A_m_what :: .ref A_m_result :: .int m_sums :: .ref A_m_root :: .int m_links :: .ref A_m_relation :: .ref A_m_operands :: .int m_operandMany :: .ref A_m_operators :: .ref A_m_functions :: .int m_operatorMany :: .int m_status :: .long m_outcome :: .ref A_m_output :: .int m_outputLength :: .ref A_m_tasks :: .int m_taskMany :: .ref A_m_forms :: .ref A_m_formLength :: .int m_token :: .int m_tokenAmount :: .int m_ahead :: .int m_depth :: .int m_linkMany :: .int k1 :: .int m_primes :: .ref A_m_row :: .ref A_m_statuses :: .ref A_m_outcomes :: .ref A_m_heights :: []))), (A_m_newKind, .inl (cI, 81, .inl (upd m_newKind m_newTokens.toNatClampNeg x1))), (A_m_newAmount, .inl (cI, 81, .inl m_newAmount))] H14 := hP
    have hD : va_D A [(A_m, .inr (11, (.int m_length :: .ref A_m_text :: .int m_tokens :: .ref A_m_kind :: .ref A_m_amount :: .int m_newTokens :: .ref A_m_newKind :: .ref A_m_newAmount :: .ref A_m_variable :: .int m_nodes :: .ref A_m_sort :: .ref A_m_left :: .ref A_m_right :: .ref A_m_what :: .ref A_m_result :: .int m_sums :: .ref A_m_root :: .int m_links :: .ref A_m_relation :: .ref A_m_operands :: .int m_operandMany :: .ref A_m_operators :: .ref A_m_functions :: .int m_operatorMany :: .int m_status :: .long m_outcome :: .ref A_m_output :: .int m_outputLength :: .ref A_m_tasks :: .int m_taskMany :: .ref A_m_forms :: .ref A_m_formLength :: .int m_token :: .int m_tokenAmount :: .int m_ahead :: .int m_depth :: .int m_linkMany :: .int k1 :: .int m_primes :: .ref A_m_row :: .ref A_m_statuses :: .ref A_m_outcomes :: .ref A_m_heights :: []))), (A_m_newKind, .inl (cI, 81, .inl (upd m_newKind m_newTokens.toNatClampNeg x1))), (A_m_newAmount, .inl (cI, 81, .inl m_newAmount))] := hD
    refine lv_aload_n hx hb dX12_notes_108 rfl (lv_at hl 0 rfl) ?_
    refine va_get (D := D) (ci := 11) (v := .ref A_m_newAmount) (C := RX12) (T := TX12) (N := 43) hx hb hts hw0 hown hK hP 0 rfl rfl 7 (by decide) hw7 (fun _ h9 => h9) rfl dX12_notes_109 ?_
    refine lv_aload_n hx hb dX12_notes_112 rfl (lv_at hl 0 rfl) ?_
    refine va_get (D := D) (ci := 11) (v := .int m_newTokens) (C := RX12) (T := TX12) (N := 43) hx hb hts hw0 hown hK hP 0 rfl rfl 5 (by decide) hw6 (fun _ h9 => h9) rfl dX12_notes_113 ?_
    refine lv_aload_n hx hb dX12_notes_116 rfl (lv_at hl 0 rfl) ?_
    refine va_get (D := D) (ci := 11) (v := .int m_tokenAmount) (C := RX12) (T := TX12) (N := 43) hx hb hts hw0 hown hK hP 0 rfl rfl 33 (by decide) hw8 (fun _ h9 => h9) rfl dX12_notes_117 ?_
    obtain ⟨g15, hM⟩ := z_g hM
    refine va_iast hx hb hK hP hD hS 2 0 rfl rfl g15 dX12_notes_120 (fun H16 locs hP hD hS => ?_)
    have hP : va_P D vwCl [(A_m, .inr (11, (.int m_length :: .ref A_m_text :: .int m_tokens :: .ref A_m_kind :: .ref A_m_amount :: .int m_newTokens :: .ref A_m_newKind :: .ref A_m_newAmount :: .ref A_m_variable :: .int m_nodes :: .ref A_m_sort :: .ref A_m_left :: .ref A_m_right :: .ref A_m_what :: .ref A_m_result :: .int m_sums :: .ref A_m_root :: .int m_links :: .ref A_m_relation :: .ref A_m_operands :: .int m_operandMany :: .ref A_m_operators :: .ref A_m_functions :: .int m_operatorMany :: .int m_status :: .long m_outcome :: .ref A_m_output :: .int m_outputLength :: .ref A_m_tasks :: .int m_taskMany :: .ref A_m_forms :: .ref A_m_formLength :: .int m_token :: .int m_tokenAmount :: .int m_ahead :: .int m_depth :: .int m_linkMany :: .int k1 :: .int m_primes :: .ref A_m_row :: .ref A_m_statuses :: .ref A_m_outcomes :: .ref A_m_heights :: []))), (A_m_newKind, .inl (cI, 81, .inl (upd m_newKind m_newTokens.toNatClampNeg x1))), (A_m_newAmount, .inl (cI, 81, .inl (upd m_newAmount m_newTokens.toNatClampNeg m_tokenAmount)))] H16 := hP
    have hD : va_D A [(A_m, .inr (11, (.int m_length :: .ref A_m_text :: .int m_tokens :: .ref A_m_kind :: .ref A_m_amount :: .int m_newTokens :: .ref A_m_newKind :: .ref A_m_newAmount :: .ref A_m_variable :: .int m_nodes :: .ref A_m_sort :: .ref A_m_left :: .ref A_m_right :: .ref A_m_what :: .ref A_m_result :: .int m_sums :: .ref A_m_root :: .int m_links :: .ref A_m_relation :: .ref A_m_operands :: .int m_operandMany :: .ref A_m_operators :: .ref A_m_functions :: .int m_operatorMany :: .int m_status :: .long m_outcome :: .ref A_m_output :: .int m_outputLength :: .ref A_m_tasks :: .int m_taskMany :: .ref A_m_forms :: .ref A_m_formLength :: .int m_token :: .int m_tokenAmount :: .int m_ahead :: .int m_depth :: .int m_linkMany :: .int k1 :: .int m_primes :: .ref A_m_row :: .ref A_m_statuses :: .ref A_m_outcomes :: .ref A_m_heights :: []))), (A_m_newKind, .inl (cI, 81, .inl (upd m_newKind m_newTokens.toNatClampNeg x1))), (A_m_newAmount, .inl (cI, 81, .inl (upd m_newAmount m_newTokens.toNatClampNeg m_tokenAmount)))] := hD
    refine lv_aload_n hx hb dX12_notes_121 rfl (lv_at hl 0 rfl) ?_
    refine lv_dup hx hb dX12_notes_122 rfl ?_
    refine va_get (D := D) (ci := 11) (v := .int m_newTokens) (C := RX12) (T := TX12) (N := 43) hx hb hts hw0 hown hK hP 0 rfl rfl 5 (by decide) hw6 (fun _ h9 => h9) rfl dX12_notes_123 ?_
    refine lv_iconst (v := 1) hx hb dX12_notes_126 (by decide) ?_
    refine lv_iadd hx hb dX12_notes_127 ?_
    refine va_put (D := D) (ci := 11) (v := .int (m_newTokens + 1)) (ty := .int) (C := RX12) (T := TX12) (N := 43) hx hb hts hw0 tyX12 tyX12_ok nmX12 hown hK hP hD hS 0 rfl rfl 5 (by decide) hw6 (fun _ h9 => h9) rfl (by decide +kernel) rfl rfl (Nat.le_of_ble_eq_true rfl) dX12_notes_128 (fun H17 locs hP hD hS => ?_)
    have hP : va_P D vwCl [(A_m, .inr (11, (.int m_length :: .ref A_m_text :: .int m_tokens :: .ref A_m_kind :: .ref A_m_amount :: .int (m_newTokens + 1) :: .ref A_m_newKind :: .ref A_m_newAmount :: .ref A_m_variable :: .int m_nodes :: .ref A_m_sort :: .ref A_m_left :: .ref A_m_right :: .ref A_m_what :: .ref A_m_result :: .int m_sums :: .ref A_m_root :: .int m_links :: .ref A_m_relation :: .ref A_m_operands :: .int m_operandMany :: .ref A_m_operators :: .ref A_m_functions :: .int m_operatorMany :: .int m_status :: .long m_outcome :: .ref A_m_output :: .int m_outputLength :: .ref A_m_tasks :: .int m_taskMany :: .ref A_m_forms :: .ref A_m_formLength :: .int m_token :: .int m_tokenAmount :: .int m_ahead :: .int m_depth :: .int m_linkMany :: .int k1 :: .int m_primes :: .ref A_m_row :: .ref A_m_statuses :: .ref A_m_outcomes :: .ref A_m_heights :: []))), (A_m_newKind, .inl (cI, 81, .inl (upd m_newKind m_newTokens.toNatClampNeg x1))), (A_m_newAmount, .inl (cI, 81, .inl (upd m_newAmount m_newTokens.toNatClampNeg m_tokenAmount)))] H17 := hP
    have hD : va_D A [(A_m, .inr (11, (.int m_length :: .ref A_m_text :: .int m_tokens :: .ref A_m_kind :: .ref A_m_amount :: .int (m_newTokens + 1) :: .ref A_m_newKind :: .ref A_m_newAmount :: .ref A_m_variable :: .int m_nodes :: .ref A_m_sort :: .ref A_m_left :: .ref A_m_right :: .ref A_m_what :: .ref A_m_result :: .int m_sums :: .ref A_m_root :: .int m_links :: .ref A_m_relation :: .ref A_m_operands :: .int m_operandMany :: .ref A_m_operators :: .ref A_m_functions :: .int m_operatorMany :: .int m_status :: .long m_outcome :: .ref A_m_output :: .int m_outputLength :: .ref A_m_tasks :: .int m_taskMany :: .ref A_m_forms :: .ref A_m_formLength :: .int m_token :: .int m_tokenAmount :: .int m_ahead :: .int m_depth :: .int m_linkMany :: .int k1 :: .int m_primes :: .ref A_m_row :: .ref A_m_statuses :: .ref A_m_outcomes :: .ref A_m_heights :: []))), (A_m_newKind, .inl (cI, 81, .inl (upd m_newKind m_newTokens.toNatClampNeg x1))), (A_m_newAmount, .inl (cI, 81, .inl (upd m_newAmount m_newTokens.toNatClampNeg m_tokenAmount)))] := hD
    have hM := Option.some.inj hM
    subst hM
    exact W.vret hx hb hr (fun t ht hW => ⟨⟨(), rfl, trivial, ⟨by rw [ht]; exact hP, va_K.moved hW.alike hK, hD⟩⟩, hS.F ht⟩) hS.2.2 dX12_notes_131
  have B_90_3 : ∀ (m_newTokens : Int32) (m_depth : Int32) (m_linkMany : Int32) (m_isRange : Int32) (m_primes : Int32) (m_newKind : Nat → Int32) (m_newAmount : Nat → Int32) (x1 : Int32) (H : Heap) (locs : List Loc) (ls : Array Slot), va_P D vwCl [(A_m, .inr (11, (.int m_length :: .ref A_m_text :: .int m_tokens :: .ref A_m_kind :: .ref A_m_amount :: .int m_newTokens :: .ref A_m_newKind :: .ref A_m_newAmount :: .ref A_m_variable :: .int m_nodes :: .ref A_m_sort :: .ref A_m_left :: .ref A_m_right :: .ref A_m_what :: .ref A_m_result :: .int m_sums :: .ref A_m_root :: .int m_links :: .ref A_m_relation :: .ref A_m_operands :: .int m_operandMany :: .ref A_m_operators :: .ref A_m_functions :: .int m_operatorMany :: .int m_status :: .long m_outcome :: .ref A_m_output :: .int m_outputLength :: .ref A_m_tasks :: .int m_taskMany :: .ref A_m_forms :: .ref A_m_formLength :: .int m_token :: .int m_tokenAmount :: .int m_ahead :: .int m_depth :: .int m_linkMany :: .int m_isRange :: .int m_primes :: .ref A_m_row :: .ref A_m_statuses :: .ref A_m_outcomes :: .ref A_m_heights :: []))), (A_m_newKind, .inl (cI, 81, .inl m_newKind)), (A_m_newAmount, .inl (cI, 81, .inl m_newAmount))] H → va_D A [(A_m, .inr (11, (.int m_length :: .ref A_m_text :: .int m_tokens :: .ref A_m_kind :: .ref A_m_amount :: .int m_newTokens :: .ref A_m_newKind :: .ref A_m_newAmount :: .ref A_m_variable :: .int m_nodes :: .ref A_m_sort :: .ref A_m_left :: .ref A_m_right :: .ref A_m_what :: .ref A_m_result :: .int m_sums :: .ref A_m_root :: .int m_links :: .ref A_m_relation :: .ref A_m_operands :: .int m_operandMany :: .ref A_m_operators :: .ref A_m_functions :: .int m_operatorMany :: .int m_status :: .long m_outcome :: .ref A_m_output :: .int m_outputLength :: .ref A_m_tasks :: .int m_taskMany :: .ref A_m_forms :: .ref A_m_formLength :: .int m_token :: .int m_tokenAmount :: .int m_ahead :: .int m_depth :: .int m_linkMany :: .int m_isRange :: .int m_primes :: .ref A_m_row :: .ref A_m_statuses :: .ref A_m_outcomes :: .ref A_m_heights :: []))), (A_m_newKind, .inl (cI, 81, .inl m_newKind)), (A_m_newAmount, .inl (cI, 81, .inl m_newAmount))] → va_S A s.heap H locs → lv_has ls 2 [(0, .ref A_m), (1, .int x1)] → fn_Ref_notes_b90 m_tokenAmount m_newTokens m_depth m_linkMany m_isRange m_primes m_newKind m_newAmount x1 = some rs → W p l e (headSpec wsX12_notes ({ frames := 2, cells := 0, slots := 0, locals := 45 } : Room)).room s m args below meth c H locs 0 0 (MQ below (zQv D cI cJ cC [(A_m, .inr (11, (.int m_length :: .ref A_m_text :: .int m_tokens :: .ref A_m_kind :: .ref A_m_amount :: .int rs.1 :: .ref A_m_newKind :: .ref A_m_newAmount :: .ref A_m_variable :: .int m_nodes :: .ref A_m_sort :: .ref A_m_left :: .ref A_m_right :: .ref A_m_what :: .ref A_m_result :: .int m_sums :: .ref A_m_root :: .int m_links :: .ref A_m_relation :: .ref A_m_operands :: .int m_operandMany :: .ref A_m_operators :: .ref A_m_functions :: .int m_operatorMany :: .int m_status :: .long m_outcome :: .ref A_m_output :: .int m_outputLength :: .ref A_m_tasks :: .int m_taskMany :: .ref A_m_forms :: .ref A_m_formLength :: .int m_token :: .int m_tokenAmount :: .int m_ahead :: .int rs.2.1 :: .int rs.2.2.1 :: .int rs.2.2.2.1 :: .int rs.2.2.2.2.1 :: .ref A_m_row :: .ref A_m_statuses :: .ref A_m_outcomes :: .ref A_m_heights :: []))), (A_m_newKind, .inl (cI, 81, .inl rs.2.2.2.2.2.1)), (A_m_newAmount, .inl (cI, 81, .inl rs.2.2.2.2.2.2))] A) args s 0 0 A) (F0 m 90 ls [.ref A_m]) := by
    intro  m_newTokens m_depth m_linkMany m_isRange m_primes m_newKind m_newAmount x1 H locs ls hP hD hS hl hM
    refine lv_iconst (v := 1) hx hb dX12_notes_90 (by decide) ?_
    refine lv_goto (tgt := 95) hx hb dX12_notes_91 (by decide) ?_
    exact B_95_4  m_newTokens m_depth m_linkMany m_isRange m_primes m_newKind m_newAmount x1 1 _ _ ls hP hD hS (lv_sub hl [0, 1] rfl) hM
  have B_94_5 : ∀ (m_newTokens : Int32) (m_depth : Int32) (m_linkMany : Int32) (m_isRange : Int32) (m_primes : Int32) (m_newKind : Nat → Int32) (m_newAmount : Nat → Int32) (x1 : Int32) (H : Heap) (locs : List Loc) (ls : Array Slot), va_P D vwCl [(A_m, .inr (11, (.int m_length :: .ref A_m_text :: .int m_tokens :: .ref A_m_kind :: .ref A_m_amount :: .int m_newTokens :: .ref A_m_newKind :: .ref A_m_newAmount :: .ref A_m_variable :: .int m_nodes :: .ref A_m_sort :: .ref A_m_left :: .ref A_m_right :: .ref A_m_what :: .ref A_m_result :: .int m_sums :: .ref A_m_root :: .int m_links :: .ref A_m_relation :: .ref A_m_operands :: .int m_operandMany :: .ref A_m_operators :: .ref A_m_functions :: .int m_operatorMany :: .int m_status :: .long m_outcome :: .ref A_m_output :: .int m_outputLength :: .ref A_m_tasks :: .int m_taskMany :: .ref A_m_forms :: .ref A_m_formLength :: .int m_token :: .int m_tokenAmount :: .int m_ahead :: .int m_depth :: .int m_linkMany :: .int m_isRange :: .int m_primes :: .ref A_m_row :: .ref A_m_statuses :: .ref A_m_outcomes :: .ref A_m_heights :: []))), (A_m_newKind, .inl (cI, 81, .inl m_newKind)), (A_m_newAmount, .inl (cI, 81, .inl m_newAmount))] H → va_D A [(A_m, .inr (11, (.int m_length :: .ref A_m_text :: .int m_tokens :: .ref A_m_kind :: .ref A_m_amount :: .int m_newTokens :: .ref A_m_newKind :: .ref A_m_newAmount :: .ref A_m_variable :: .int m_nodes :: .ref A_m_sort :: .ref A_m_left :: .ref A_m_right :: .ref A_m_what :: .ref A_m_result :: .int m_sums :: .ref A_m_root :: .int m_links :: .ref A_m_relation :: .ref A_m_operands :: .int m_operandMany :: .ref A_m_operators :: .ref A_m_functions :: .int m_operatorMany :: .int m_status :: .long m_outcome :: .ref A_m_output :: .int m_outputLength :: .ref A_m_tasks :: .int m_taskMany :: .ref A_m_forms :: .ref A_m_formLength :: .int m_token :: .int m_tokenAmount :: .int m_ahead :: .int m_depth :: .int m_linkMany :: .int m_isRange :: .int m_primes :: .ref A_m_row :: .ref A_m_statuses :: .ref A_m_outcomes :: .ref A_m_heights :: []))), (A_m_newKind, .inl (cI, 81, .inl m_newKind)), (A_m_newAmount, .inl (cI, 81, .inl m_newAmount))] → va_S A s.heap H locs → lv_has ls 2 [(0, .ref A_m), (1, .int x1)] → fn_Ref_notes_b94 m_tokenAmount m_newTokens m_depth m_linkMany m_isRange m_primes m_newKind m_newAmount x1 = some rs → W p l e (headSpec wsX12_notes ({ frames := 2, cells := 0, slots := 0, locals := 45 } : Room)).room s m args below meth c H locs 0 0 (MQ below (zQv D cI cJ cC [(A_m, .inr (11, (.int m_length :: .ref A_m_text :: .int m_tokens :: .ref A_m_kind :: .ref A_m_amount :: .int rs.1 :: .ref A_m_newKind :: .ref A_m_newAmount :: .ref A_m_variable :: .int m_nodes :: .ref A_m_sort :: .ref A_m_left :: .ref A_m_right :: .ref A_m_what :: .ref A_m_result :: .int m_sums :: .ref A_m_root :: .int m_links :: .ref A_m_relation :: .ref A_m_operands :: .int m_operandMany :: .ref A_m_operators :: .ref A_m_functions :: .int m_operatorMany :: .int m_status :: .long m_outcome :: .ref A_m_output :: .int m_outputLength :: .ref A_m_tasks :: .int m_taskMany :: .ref A_m_forms :: .ref A_m_formLength :: .int m_token :: .int m_tokenAmount :: .int m_ahead :: .int rs.2.1 :: .int rs.2.2.1 :: .int rs.2.2.2.1 :: .int rs.2.2.2.2.1 :: .ref A_m_row :: .ref A_m_statuses :: .ref A_m_outcomes :: .ref A_m_heights :: []))), (A_m_newKind, .inl (cI, 81, .inl rs.2.2.2.2.2.1)), (A_m_newAmount, .inl (cI, 81, .inl rs.2.2.2.2.2.2))] A) args s 0 0 A) (F0 m 94 ls [.ref A_m]) := by
    intro  m_newTokens m_depth m_linkMany m_isRange m_primes m_newKind m_newAmount x1 H locs ls hP hD hS hl hM
    refine lv_iconst (v := 0) hx hb dX12_notes_94 (by decide) ?_
    exact B_95_4  m_newTokens m_depth m_linkMany m_isRange m_primes m_newKind m_newAmount x1 0 _ _ ls hP hD hS (lv_sub hl [0, 1] rfl) hM
  have B_66_2 : ∀ (m_newTokens : Int32) (m_depth : Int32) (m_linkMany : Int32) (m_isRange : Int32) (m_primes : Int32) (m_newKind : Nat → Int32) (m_newAmount : Nat → Int32) (x1 : Int32) (k1 : Int32) (k2 : Int32) (H : Heap) (locs : List Loc) (ls : Array Slot), va_P D vwCl [(A_m, .inr (11, (.int m_length :: .ref A_m_text :: .int m_tokens :: .ref A_m_kind :: .ref A_m_amount :: .int m_newTokens :: .ref A_m_newKind :: .ref A_m_newAmount :: .ref A_m_variable :: .int m_nodes :: .ref A_m_sort :: .ref A_m_left :: .ref A_m_right :: .ref A_m_what :: .ref A_m_result :: .int m_sums :: .ref A_m_root :: .int m_links :: .ref A_m_relation :: .ref A_m_operands :: .int m_operandMany :: .ref A_m_operators :: .ref A_m_functions :: .int m_operatorMany :: .int m_status :: .long m_outcome :: .ref A_m_output :: .int m_outputLength :: .ref A_m_tasks :: .int m_taskMany :: .ref A_m_forms :: .ref A_m_formLength :: .int m_token :: .int m_tokenAmount :: .int m_ahead :: .int m_depth :: .int m_linkMany :: .int m_isRange :: .int m_primes :: .ref A_m_row :: .ref A_m_statuses :: .ref A_m_outcomes :: .ref A_m_heights :: []))), (A_m_newKind, .inl (cI, 81, .inl m_newKind)), (A_m_newAmount, .inl (cI, 81, .inl m_newAmount))] H → va_D A [(A_m, .inr (11, (.int m_length :: .ref A_m_text :: .int m_tokens :: .ref A_m_kind :: .ref A_m_amount :: .int m_newTokens :: .ref A_m_newKind :: .ref A_m_newAmount :: .ref A_m_variable :: .int m_nodes :: .ref A_m_sort :: .ref A_m_left :: .ref A_m_right :: .ref A_m_what :: .ref A_m_result :: .int m_sums :: .ref A_m_root :: .int m_links :: .ref A_m_relation :: .ref A_m_operands :: .int m_operandMany :: .ref A_m_operators :: .ref A_m_functions :: .int m_operatorMany :: .int m_status :: .long m_outcome :: .ref A_m_output :: .int m_outputLength :: .ref A_m_tasks :: .int m_taskMany :: .ref A_m_forms :: .ref A_m_formLength :: .int m_token :: .int m_tokenAmount :: .int m_ahead :: .int m_depth :: .int m_linkMany :: .int m_isRange :: .int m_primes :: .ref A_m_row :: .ref A_m_statuses :: .ref A_m_outcomes :: .ref A_m_heights :: []))), (A_m_newKind, .inl (cI, 81, .inl m_newKind)), (A_m_newAmount, .inl (cI, 81, .inl m_newAmount))] → va_S A s.heap H locs → lv_has ls 2 [(0, .ref A_m), (1, .int x1)] → fn_Ref_notes_b66 m_tokenAmount m_newTokens m_depth m_linkMany m_isRange m_primes m_newKind m_newAmount x1 k1 k2 = some rs → W p l e (headSpec wsX12_notes ({ frames := 2, cells := 0, slots := 0, locals := 45 } : Room)).room s m args below meth c H locs 0 0 (MQ below (zQv D cI cJ cC [(A_m, .inr (11, (.int m_length :: .ref A_m_text :: .int m_tokens :: .ref A_m_kind :: .ref A_m_amount :: .int rs.1 :: .ref A_m_newKind :: .ref A_m_newAmount :: .ref A_m_variable :: .int m_nodes :: .ref A_m_sort :: .ref A_m_left :: .ref A_m_right :: .ref A_m_what :: .ref A_m_result :: .int m_sums :: .ref A_m_root :: .int m_links :: .ref A_m_relation :: .ref A_m_operands :: .int m_operandMany :: .ref A_m_operators :: .ref A_m_functions :: .int m_operatorMany :: .int m_status :: .long m_outcome :: .ref A_m_output :: .int m_outputLength :: .ref A_m_tasks :: .int m_taskMany :: .ref A_m_forms :: .ref A_m_formLength :: .int m_token :: .int m_tokenAmount :: .int m_ahead :: .int rs.2.1 :: .int rs.2.2.1 :: .int rs.2.2.2.1 :: .int rs.2.2.2.2.1 :: .ref A_m_row :: .ref A_m_statuses :: .ref A_m_outcomes :: .ref A_m_heights :: []))), (A_m_newKind, .inl (cI, 81, .inl rs.2.2.2.2.2.1)), (A_m_newAmount, .inl (cI, 81, .inl rs.2.2.2.2.2.2))] A) args s 0 0 A) (F0 m 66 ls [.int k2, .int k1, .ref A_m]) := by
    intro  m_newTokens m_depth m_linkMany m_isRange m_primes m_newKind m_newAmount x1 k1 k2 H locs ls hP hD hS hl hM
    refine lv_iadd hx hb dX12_notes_66 ?_
    refine va_put (D := D) (ci := 11) (v := .int (k1 + k2)) (ty := .int) (C := RX12) (T := TX12) (N := 43) hx hb hts hw0 tyX12 tyX12_ok nmX12 hown hK hP hD hS 0 rfl rfl 36 (by decide) hw3 (fun _ h9 => h9) rfl (by decide +kernel) rfl rfl (Nat.le_of_ble_eq_true rfl) dX12_notes_67 (fun H9 locs hP hD hS => ?_)
    have hP : va_P D vwCl [(A_m, .inr (11, (.int m_length :: .ref A_m_text :: .int m_tokens :: .ref A_m_kind :: .ref A_m_amount :: .int m_newTokens :: .ref A_m_newKind :: .ref A_m_newAmount :: .ref A_m_variable :: .int m_nodes :: .ref A_m_sort :: .ref A_m_left :: .ref A_m_right :: .ref A_m_what :: .ref A_m_result :: .int m_sums :: .ref A_m_root :: .int m_links :: .ref A_m_relation :: .ref A_m_operands :: .int m_operandMany :: .ref A_m_operators :: .ref A_m_functions :: .int m_operatorMany :: .int m_status :: .long m_outcome :: .ref A_m_output :: .int m_outputLength :: .ref A_m_tasks :: .int m_taskMany :: .ref A_m_forms :: .ref A_m_formLength :: .int m_token :: .int m_tokenAmount :: .int m_ahead :: .int m_depth :: .int (k1 + k2) :: .int m_isRange :: .int m_primes :: .ref A_m_row :: .ref A_m_statuses :: .ref A_m_outcomes :: .ref A_m_heights :: []))), (A_m_newKind, .inl (cI, 81, .inl m_newKind)), (A_m_newAmount, .inl (cI, 81, .inl m_newAmount))] H9 := hP
    have hD : va_D A [(A_m, .inr (11, (.int m_length :: .ref A_m_text :: .int m_tokens :: .ref A_m_kind :: .ref A_m_amount :: .int m_newTokens :: .ref A_m_newKind :: .ref A_m_newAmount :: .ref A_m_variable :: .int m_nodes :: .ref A_m_sort :: .ref A_m_left :: .ref A_m_right :: .ref A_m_what :: .ref A_m_result :: .int m_sums :: .ref A_m_root :: .int m_links :: .ref A_m_relation :: .ref A_m_operands :: .int m_operandMany :: .ref A_m_operators :: .ref A_m_functions :: .int m_operatorMany :: .int m_status :: .long m_outcome :: .ref A_m_output :: .int m_outputLength :: .ref A_m_tasks :: .int m_taskMany :: .ref A_m_forms :: .ref A_m_formLength :: .int m_token :: .int m_tokenAmount :: .int m_ahead :: .int m_depth :: .int (k1 + k2) :: .int m_isRange :: .int m_primes :: .ref A_m_row :: .ref A_m_statuses :: .ref A_m_outcomes :: .ref A_m_heights :: []))), (A_m_newKind, .inl (cI, 81, .inl m_newKind)), (A_m_newAmount, .inl (cI, 81, .inl m_newAmount))] := hD
    refine lv_aload_n hx hb dX12_notes_70 rfl (lv_at hl 0 rfl) ?_
    refine lv_iload_n hx hb dX12_notes_71 rfl (lv_at hl 1 rfl) ?_
    refine lv_bipush (v := 18) hx hb dX12_notes_72 (by decide) ?_
    refine lv_icmp_eq (tgt := 90) hx hb dX12_notes_74 (by decide) (fun c10 => ?_) (fun c10 => ?_)
    · have hM := z_t c10 hM
      exact B_90_3  m_newTokens m_depth (k1 + k2) m_isRange m_primes m_newKind m_newAmount x1 _ _ ls hP hD hS (lv_sub hl [0, 1] rfl) hM
    · have hM := z_f c10 hM
      refine lv_aload_n hx hb dX12_notes_77 rfl (lv_at hl 0 rfl) ?_
      refine va_get (D := D) (ci := 11) (v := .int m_isRange) (C := RX12) (T := TX12) (N := 43) hx hb hts hw0 hown hK hP 0 rfl rfl 37 (by decide) hw4 (fun _ h9 => h9) rfl dX12_notes_78 ?_
      refine lv_if_eq (tgt := 94) hx hb dX12_notes_81 (by decide) (fun c18 => ?_) (fun c18 => ?_)
      · have hM := z_t c18 hM
        exact B_94_5  m_newTokens m_depth (k1 + k2) m_isRange m_primes m_newKind m_newAmount x1 _ _ ls hP hD hS (lv_sub hl [0, 1] rfl) hM
      · have hM := z_f c18 hM
        refine lv_iload_n hx hb dX12_notes_84 rfl (lv_at hl 1 rfl) ?_
        refine lv_bipush (v := 19) hx hb dX12_notes_85 (by decide) ?_
        refine lv_icmp_eq (tgt := 94) hx hb dX12_notes_87 (by decide) (fun c19 => ?_) (fun c19 => ?_)
        · have hM := z_t c19 hM
          exact B_94_5  m_newTokens m_depth (k1 + k2) m_isRange m_primes m_newKind m_newAmount x1 _ _ ls hP hD hS (lv_sub hl [0, 1] rfl) hM
        · have hM := z_f c19 hM
          exact B_90_3  m_newTokens m_depth (k1 + k2) m_isRange m_primes m_newKind m_newAmount x1 _ _ ls hP hD hS (lv_sub hl [0, 1] rfl) hM
  have B_46_1 : ∀ (m_newTokens : Int32) (m_depth : Int32) (m_linkMany : Int32) (m_isRange : Int32) (m_primes : Int32) (m_newKind : Nat → Int32) (m_newAmount : Nat → Int32) (x1 : Int32) (k1 : Int32) (H : Heap) (locs : List Loc) (ls : Array Slot), va_P D vwCl [(A_m, .inr (11, (.int m_length :: .ref A_m_text :: .int m_tokens :: .ref A_m_kind :: .ref A_m_amount :: .int m_newTokens :: .ref A_m_newKind :: .ref A_m_newAmount :: .ref A_m_variable :: .int m_nodes :: .ref A_m_sort :: .ref A_m_left :: .ref A_m_right :: .ref A_m_what :: .ref A_m_result :: .int m_sums :: .ref A_m_root :: .int m_links :: .ref A_m_relation :: .ref A_m_operands :: .int m_operandMany :: .ref A_m_operators :: .ref A_m_functions :: .int m_operatorMany :: .int m_status :: .long m_outcome :: .ref A_m_output :: .int m_outputLength :: .ref A_m_tasks :: .int m_taskMany :: .ref A_m_forms :: .ref A_m_formLength :: .int m_token :: .int m_tokenAmount :: .int m_ahead :: .int m_depth :: .int m_linkMany :: .int m_isRange :: .int m_primes :: .ref A_m_row :: .ref A_m_statuses :: .ref A_m_outcomes :: .ref A_m_heights :: []))), (A_m_newKind, .inl (cI, 81, .inl m_newKind)), (A_m_newAmount, .inl (cI, 81, .inl m_newAmount))] H → va_D A [(A_m, .inr (11, (.int m_length :: .ref A_m_text :: .int m_tokens :: .ref A_m_kind :: .ref A_m_amount :: .int m_newTokens :: .ref A_m_newKind :: .ref A_m_newAmount :: .ref A_m_variable :: .int m_nodes :: .ref A_m_sort :: .ref A_m_left :: .ref A_m_right :: .ref A_m_what :: .ref A_m_result :: .int m_sums :: .ref A_m_root :: .int m_links :: .ref A_m_relation :: .ref A_m_operands :: .int m_operandMany :: .ref A_m_operators :: .ref A_m_functions :: .int m_operatorMany :: .int m_status :: .long m_outcome :: .ref A_m_output :: .int m_outputLength :: .ref A_m_tasks :: .int m_taskMany :: .ref A_m_forms :: .ref A_m_formLength :: .int m_token :: .int m_tokenAmount :: .int m_ahead :: .int m_depth :: .int m_linkMany :: .int m_isRange :: .int m_primes :: .ref A_m_row :: .ref A_m_statuses :: .ref A_m_outcomes :: .ref A_m_heights :: []))), (A_m_newKind, .inl (cI, 81, .inl m_newKind)), (A_m_newAmount, .inl (cI, 81, .inl m_newAmount))] → va_S A s.heap H locs → lv_has ls 2 [(0, .ref A_m), (1, .int x1)] → fn_Ref_notes_b46 m_tokenAmount m_newTokens m_depth m_linkMany m_isRange m_primes m_newKind m_newAmount x1 k1 = some rs → W p l e (headSpec wsX12_notes ({ frames := 2, cells := 0, slots := 0, locals := 45 } : Room)).room s m args below meth c H locs 0 0 (MQ below (zQv D cI cJ cC [(A_m, .inr (11, (.int m_length :: .ref A_m_text :: .int m_tokens :: .ref A_m_kind :: .ref A_m_amount :: .int rs.1 :: .ref A_m_newKind :: .ref A_m_newAmount :: .ref A_m_variable :: .int m_nodes :: .ref A_m_sort :: .ref A_m_left :: .ref A_m_right :: .ref A_m_what :: .ref A_m_result :: .int m_sums :: .ref A_m_root :: .int m_links :: .ref A_m_relation :: .ref A_m_operands :: .int m_operandMany :: .ref A_m_operators :: .ref A_m_functions :: .int m_operatorMany :: .int m_status :: .long m_outcome :: .ref A_m_output :: .int m_outputLength :: .ref A_m_tasks :: .int m_taskMany :: .ref A_m_forms :: .ref A_m_formLength :: .int m_token :: .int m_tokenAmount :: .int m_ahead :: .int rs.2.1 :: .int rs.2.2.1 :: .int rs.2.2.2.1 :: .int rs.2.2.2.2.1 :: .ref A_m_row :: .ref A_m_statuses :: .ref A_m_outcomes :: .ref A_m_heights :: []))), (A_m_newKind, .inl (cI, 81, .inl rs.2.2.2.2.2.1)), (A_m_newAmount, .inl (cI, 81, .inl rs.2.2.2.2.2.2))] A) args s 0 0 A) (F0 m 46 ls [.int k1, .ref A_m]) := by
    intro  m_newTokens m_depth m_linkMany m_isRange m_primes m_newKind m_newAmount x1 k1 H locs ls hP hD hS hl hM
    refine va_put (D := D) (ci := 11) (v := .int k1) (ty := .int) (C := RX12) (T := TX12) (N := 43) hx hb hts hw0 tyX12 tyX12_ok nmX12 hown hK hP hD hS 0 rfl rfl 38 (by decide) hw2 (fun _ h9 => h9) rfl (by decide +kernel) rfl rfl (Nat.le_of_ble_eq_true rfl) dX12_notes_46 (fun H5 locs hP hD hS => ?_)
    have hP : va_P D vwCl [(A_m, .inr (11, (.int m_length :: .ref A_m_text :: .int m_tokens :: .ref A_m_kind :: .ref A_m_amount :: .int m_newTokens :: .ref A_m_newKind :: .ref A_m_newAmount :: .ref A_m_variable :: .int m_nodes :: .ref A_m_sort :: .ref A_m_left :: .ref A_m_right :: .ref A_m_what :: .ref A_m_result :: .int m_sums :: .ref A_m_root :: .int m_links :: .ref A_m_relation :: .ref A_m_operands :: .int m_operandMany :: .ref A_m_operators :: .ref A_m_functions :: .int m_operatorMany :: .int m_status :: .long m_outcome :: .ref A_m_output :: .int m_outputLength :: .ref A_m_tasks :: .int m_taskMany :: .ref A_m_forms :: .ref A_m_formLength :: .int m_token :: .int m_tokenAmount :: .int m_ahead :: .int m_depth :: .int m_linkMany :: .int m_isRange :: .int k1 :: .ref A_m_row :: .ref A_m_statuses :: .ref A_m_outcomes :: .ref A_m_heights :: []))), (A_m_newKind, .inl (cI, 81, .inl m_newKind)), (A_m_newAmount, .inl (cI, 81, .inl m_newAmount))] H5 := hP
    have hD : va_D A [(A_m, .inr (11, (.int m_length :: .ref A_m_text :: .int m_tokens :: .ref A_m_kind :: .ref A_m_amount :: .int m_newTokens :: .ref A_m_newKind :: .ref A_m_newAmount :: .ref A_m_variable :: .int m_nodes :: .ref A_m_sort :: .ref A_m_left :: .ref A_m_right :: .ref A_m_what :: .ref A_m_result :: .int m_sums :: .ref A_m_root :: .int m_links :: .ref A_m_relation :: .ref A_m_operands :: .int m_operandMany :: .ref A_m_operators :: .ref A_m_functions :: .int m_operatorMany :: .int m_status :: .long m_outcome :: .ref A_m_output :: .int m_outputLength :: .ref A_m_tasks :: .int m_taskMany :: .ref A_m_forms :: .ref A_m_formLength :: .int m_token :: .int m_tokenAmount :: .int m_ahead :: .int m_depth :: .int m_linkMany :: .int m_isRange :: .int k1 :: .ref A_m_row :: .ref A_m_statuses :: .ref A_m_outcomes :: .ref A_m_heights :: []))), (A_m_newKind, .inl (cI, 81, .inl m_newKind)), (A_m_newAmount, .inl (cI, 81, .inl m_newAmount))] := hD
    refine lv_aload_n hx hb dX12_notes_49 rfl (lv_at hl 0 rfl) ?_
    refine lv_dup hx hb dX12_notes_50 rfl ?_
    refine va_get (D := D) (ci := 11) (v := .int m_linkMany) (C := RX12) (T := TX12) (N := 43) hx hb hts hw0 hown hK hP 0 rfl rfl 36 (by decide) hw3 (fun _ h9 => h9) rfl dX12_notes_51 ?_
    refine lv_iload_n hx hb dX12_notes_54 rfl (lv_at hl 1 rfl) ?_
    obtain ⟨q6, hq6, hM⟩ := z_b hM
    obtain ⟨hPc, hDc, hFc⟩ := zcut (wc := []) hP hD hS hA [] rfl rfl (by decide)
    refine zc_i (ws' := [(A_m, .inr (11, (.int m_length :: .ref A_m_text :: .int m_tokens :: .ref A_m_kind :: .ref A_m_amount :: .int m_newTokens :: .ref A_m_newKind :: .ref A_m_newAmount :: .ref A_m_variable :: .int m_nodes :: .ref A_m_sort :: .ref A_m_left :: .ref A_m_right :: .ref A_m_what :: .ref A_m_result :: .int m_sums :: .ref A_m_root :: .int m_links :: .ref A_m_relation :: .ref A_m_operands :: .int m_operandMany :: .ref A_m_operators :: .ref A_m_functions :: .int m_operatorMany :: .int m_status :: .long m_outcome :: .ref A_m_output :: .int m_outputLength :: .ref A_m_tasks :: .int m_taskMany :: .ref A_m_forms :: .ref A_m_formLength :: .int m_token :: .int m_tokenAmount :: .int m_ahead :: .int m_depth :: .int m_linkMany :: .int m_isRange :: .int k1 :: .ref A_m_row :: .ref A_m_statuses :: .ref A_m_outcomes :: .ref A_m_heights :: []))), (A_m_newKind, .inl (cI, 81, .inl m_newKind)), (A_m_newAmount, .inl (cI, 81, .inl m_newAmount))]) (va_runS (As := [.int x1]) (rest := [.int m_linkMany, .ref A_m]) ⟨hx, hb, hml, hown, hts⟩ (ct_Ref_isRelation l D cI cJ cC adK adV H5.size x1 hq6) (va_cwS 1 hts gX12_notes_X12_isRelation rfl rfl rfl (by decide +kernel) ⟨Nat.le_of_ble_eq_true rfl, Nat.le_of_ble_eq_true rfl⟩) ⟨zblind, zpre hX hS hFc hPc hK hDc⟩ rfl rfl hl.1 rfl (lv_room (Nat.le_of_ble_eq_true rfl)) dX12_notes_55 ⟨Nat.zero_le _, Nat.zero_le _⟩) hP hD hS hFc [] rfl (by decide) rfl rfl (fun H7 locs hP hD hS => ?_)
    refine lv_if_eq (tgt := 65) hx hb dX12_notes_58 (by decide) (fun c8 => ?_) (fun c8 => ?_)
    · have hM := z_t c8 hM
      refine lv_iconst (v := 0) hx hb dX12_notes_65 (by decide) ?_
      exact B_66_2  m_newTokens m_depth m_linkMany m_isRange k1 m_newKind m_newAmount x1 m_linkMany 0 _ _ ls hP hD hS (lv_sub hl [0, 1] rfl) hM
    · have hM := z_f c8 hM
      refine lv_iconst (v := 1) hx hb dX12_notes_61 (by decide) ?_
      refine lv_goto (tgt := 66) hx hb dX12_notes_62 (by decide) ?_
      exact B_66_2  m_newTokens m_depth m_linkMany m_isRange k1 m_newKind m_newAmount x1 m_linkMany 1 _ _ ls hP hD hS (lv_sub hl [0, 1] rfl) hM
  have B_26_0 : ∀ (m_newTokens : Int32) (m_depth : Int32) (m_linkMany : Int32) (m_isRange : Int32) (m_primes : Int32) (m_newKind : Nat → Int32) (m_newAmount : Nat → Int32) (x1 : Int32) (k1 : Int32) (k2 : Int32) (H : Heap) (locs : List Loc) (ls : Array Slot), va_P D vwCl [(A_m, .inr (11, (.int m_length :: .ref A_m_text :: .int m_tokens :: .ref A_m_kind :: .ref A_m_amount :: .int m_newTokens :: .ref A_m_newKind :: .ref A_m_newAmount :: .ref A_m_variable :: .int m_nodes :: .ref A_m_sort :: .ref A_m_left :: .ref A_m_right :: .ref A_m_what :: .ref A_m_result :: .int m_sums :: .ref A_m_root :: .int m_links :: .ref A_m_relation :: .ref A_m_operands :: .int m_operandMany :: .ref A_m_operators :: .ref A_m_functions :: .int m_operatorMany :: .int m_status :: .long m_outcome :: .ref A_m_output :: .int m_outputLength :: .ref A_m_tasks :: .int m_taskMany :: .ref A_m_forms :: .ref A_m_formLength :: .int m_token :: .int m_tokenAmount :: .int m_ahead :: .int m_depth :: .int m_linkMany :: .int m_isRange :: .int m_primes :: .ref A_m_row :: .ref A_m_statuses :: .ref A_m_outcomes :: .ref A_m_heights :: []))), (A_m_newKind, .inl (cI, 81, .inl m_newKind)), (A_m_newAmount, .inl (cI, 81, .inl m_newAmount))] H → va_D A [(A_m, .inr (11, (.int m_length :: .ref A_m_text :: .int m_tokens :: .ref A_m_kind :: .ref A_m_amount :: .int m_newTokens :: .ref A_m_newKind :: .ref A_m_newAmount :: .ref A_m_variable :: .int m_nodes :: .ref A_m_sort :: .ref A_m_left :: .ref A_m_right :: .ref A_m_what :: .ref A_m_result :: .int m_sums :: .ref A_m_root :: .int m_links :: .ref A_m_relation :: .ref A_m_operands :: .int m_operandMany :: .ref A_m_operators :: .ref A_m_functions :: .int m_operatorMany :: .int m_status :: .long m_outcome :: .ref A_m_output :: .int m_outputLength :: .ref A_m_tasks :: .int m_taskMany :: .ref A_m_forms :: .ref A_m_formLength :: .int m_token :: .int m_tokenAmount :: .int m_ahead :: .int m_depth :: .int m_linkMany :: .int m_isRange :: .int m_primes :: .ref A_m_row :: .ref A_m_statuses :: .ref A_m_outcomes :: .ref A_m_heights :: []))), (A_m_newKind, .inl (cI, 81, .inl m_newKind)), (A_m_newAmount, .inl (cI, 81, .inl m_newAmount))] → va_S A s.heap H locs → lv_has ls 2 [(0, .ref A_m), (1, .int x1)] → fn_Ref_notes_b26 m_tokenAmount m_newTokens m_depth m_linkMany m_isRange m_primes m_newKind m_newAmount x1 k1 k2 = some rs → W p l e (headSpec wsX12_notes ({ frames := 2, cells := 0, slots := 0, locals := 45 } : Room)).room s m args below meth c H locs 0 0 (MQ below (zQv D cI cJ cC [(A_m, .inr (11, (.int m_length :: .ref A_m_text :: .int m_tokens :: .ref A_m_kind :: .ref A_m_amount :: .int rs.1 :: .ref A_m_newKind :: .ref A_m_newAmount :: .ref A_m_variable :: .int m_nodes :: .ref A_m_sort :: .ref A_m_left :: .ref A_m_right :: .ref A_m_what :: .ref A_m_result :: .int m_sums :: .ref A_m_root :: .int m_links :: .ref A_m_relation :: .ref A_m_operands :: .int m_operandMany :: .ref A_m_operators :: .ref A_m_functions :: .int m_operatorMany :: .int m_status :: .long m_outcome :: .ref A_m_output :: .int m_outputLength :: .ref A_m_tasks :: .int m_taskMany :: .ref A_m_forms :: .ref A_m_formLength :: .int m_token :: .int m_tokenAmount :: .int m_ahead :: .int rs.2.1 :: .int rs.2.2.1 :: .int rs.2.2.2.1 :: .int rs.2.2.2.2.1 :: .ref A_m_row :: .ref A_m_statuses :: .ref A_m_outcomes :: .ref A_m_heights :: []))), (A_m_newKind, .inl (cI, 81, .inl rs.2.2.2.2.2.1)), (A_m_newAmount, .inl (cI, 81, .inl rs.2.2.2.2.2.2))] A) args s 0 0 A) (F0 m 26 ls [.int k2, .int k1, .ref A_m]) := by
    intro  m_newTokens m_depth m_linkMany m_isRange m_primes m_newKind m_newAmount x1 k1 k2 H locs ls hP hD hS hl hM
    refine lv_iadd hx hb dX12_notes_26 ?_
    refine va_put (D := D) (ci := 11) (v := .int (k1 + k2)) (ty := .int) (C := RX12) (T := TX12) (N := 43) hx hb hts hw0 tyX12 tyX12_ok nmX12 hown hK hP hD hS 0 rfl rfl 35 (by decide) hw1 (fun _ h9 => h9) rfl (by decide +kernel) rfl rfl (Nat.le_of_ble_eq_true rfl) dX12_notes_27 (fun H3 locs hP hD hS => ?_)
    have hP : va_P D vwCl [(A_m, .inr (11, (.int m_length :: .ref A_m_text :: .int m_tokens :: .ref A_m_kind :: .ref A_m_amount :: .int m_newTokens :: .ref A_m_newKind :: .ref A_m_newAmount :: .ref A_m_variable :: .int m_nodes :: .ref A_m_sort :: .ref A_m_left :: .ref A_m_right :: .ref A_m_what :: .ref A_m_result :: .int m_sums :: .ref A_m_root :: .int m_links :: .ref A_m_relation :: .ref A_m_operands :: .int m_operandMany :: .ref A_m_operators :: .ref A_m_functions :: .int m_operatorMany :: .int m_status :: .long m_outcome :: .ref A_m_output :: .int m_outputLength :: .ref A_m_tasks :: .int m_taskMany :: .ref A_m_forms :: .ref A_m_formLength :: .int m_token :: .int m_tokenAmount :: .int m_ahead :: .int (k1 + k2) :: .int m_linkMany :: .int m_isRange :: .int m_primes :: .ref A_m_row :: .ref A_m_statuses :: .ref A_m_outcomes :: .ref A_m_heights :: []))), (A_m_newKind, .inl (cI, 81, .inl m_newKind)), (A_m_newAmount, .inl (cI, 81, .inl m_newAmount))] H3 := hP
    have hD : va_D A [(A_m, .inr (11, (.int m_length :: .ref A_m_text :: .int m_tokens :: .ref A_m_kind :: .ref A_m_amount :: .int m_newTokens :: .ref A_m_newKind :: .ref A_m_newAmount :: .ref A_m_variable :: .int m_nodes :: .ref A_m_sort :: .ref A_m_left :: .ref A_m_right :: .ref A_m_what :: .ref A_m_result :: .int m_sums :: .ref A_m_root :: .int m_links :: .ref A_m_relation :: .ref A_m_operands :: .int m_operandMany :: .ref A_m_operators :: .ref A_m_functions :: .int m_operatorMany :: .int m_status :: .long m_outcome :: .ref A_m_output :: .int m_outputLength :: .ref A_m_tasks :: .int m_taskMany :: .ref A_m_forms :: .ref A_m_formLength :: .int m_token :: .int m_tokenAmount :: .int m_ahead :: .int (k1 + k2) :: .int m_linkMany :: .int m_isRange :: .int m_primes :: .ref A_m_row :: .ref A_m_statuses :: .ref A_m_outcomes :: .ref A_m_heights :: []))), (A_m_newKind, .inl (cI, 81, .inl m_newKind)), (A_m_newAmount, .inl (cI, 81, .inl m_newAmount))] := hD
    refine lv_aload_n hx hb dX12_notes_30 rfl (lv_at hl 0 rfl) ?_
    refine lv_iload_n hx hb dX12_notes_31 rfl (lv_at hl 1 rfl) ?_
    refine lv_iconst (v := 4) hx hb dX12_notes_32 (by decide) ?_
    refine lv_icmp_ne (tgt := 45) hx hb dX12_notes_33 (by decide) (fun c4 => ?_) (fun c4 => ?_)
    · have hM := z_f c4 hM
      refine lv_iconst (v := 0) hx hb dX12_notes_45 (by decide) ?_
      exact B_46_1  m_newTokens (k1 + k2) m_linkMany m_isRange m_primes m_newKind m_newAmount x1 0 _ _ ls hP hD hS (lv_sub hl [0, 1] rfl) hM
    · have hM := z_t c4 hM
      refine lv_aload_n hx hb dX12_notes_36 rfl (lv_at hl 0 rfl) ?_
      refine va_get (D := D) (ci := 11) (v := .int m_primes) (C := RX12) (T := TX12) (N := 43) hx hb hts hw0 hown hK hP 0 rfl rfl 38 (by decide) hw2 (fun _ h9 => h9) rfl dX12_notes_37 ?_
      refine lv_iconst (v := 1) hx hb dX12_notes_40 (by decide) ?_
      refine lv_iadd hx hb dX12_notes_41 ?_
      refine lv_goto (tgt := 46) hx hb dX12_notes_42 (by decide) ?_
      exact B_46_1  m_newTokens (k1 + k2) m_linkMany m_isRange m_primes m_newKind m_newAmount x1 (m_primes + 1) _ _ ls hP hD hS (lv_sub hl [0, 1] rfl) hM
  refine lv_aload_n hx hb dX12_notes_0 rfl (lv_at hl 0 rfl) ?_
  refine lv_dup hx hb dX12_notes_1 rfl ?_
  refine va_get (D := D) (ci := 11) (v := .int m_depth) (C := RX12) (T := TX12) (N := 43) hx hb hts hw0 hown hK hP 0 rfl rfl 35 (by decide) hw1 (fun _ h9 => h9) rfl dX12_notes_2 ?_
  refine lv_iload_n hx hb dX12_notes_5 rfl (lv_at hl 1 rfl) ?_
  refine lv_bipush (v := 10) hx hb dX12_notes_6 (by decide) ?_
  refine lv_icmp_ne (tgt := 15) hx hb dX12_notes_8 (by decide) (fun c1 => ?_) (fun c1 => ?_)
  · have hM := z_f c1 hM
    refine lv_iload_n hx hb dX12_notes_15 rfl (lv_at hl 1 rfl) ?_
    refine lv_bipush (v := 11) hx hb dX12_notes_16 (by decide) ?_
    refine lv_icmp_ne (tgt := 25) hx hb dX12_notes_18 (by decide) (fun c2 => ?_) (fun c2 => ?_)
    · have hM := z_f c2 hM
      refine lv_iconst (v := 0) hx hb dX12_notes_25 (by decide) ?_
      exact B_26_0  m_newTokens m_depth m_linkMany m_isRange m_primes m_newKind m_newAmount x1 m_depth 0 _ _ ls hP hD hS (lv_sub hl [0, 1] rfl) hM
    · have hM := z_t c2 hM
      refine lv_iconst (v := (-1)) hx hb dX12_notes_21 (by decide) ?_
      refine lv_goto (tgt := 26) hx hb dX12_notes_22 (by decide) ?_
      exact B_26_0  m_newTokens m_depth m_linkMany m_isRange m_primes m_newKind m_newAmount x1 m_depth (-1) _ _ ls hP hD hS (lv_sub hl [0, 1] rfl) hM
  · have hM := z_t c1 hM
    refine lv_iconst (v := 1) hx hb dX12_notes_11 (by decide) ?_
    refine lv_goto (tgt := 26) hx hb dX12_notes_12 (by decide) ?_
    exact B_26_0  m_newTokens m_depth m_linkMany m_isRange m_primes m_newKind m_newAmount x1 m_depth 1 _ _ ls hP hD hS (lv_sub hl [0, 1] rfl) hM
def fn_Ref_check_b137 (m_length : Int32) (m_text : Nat → Int32) (m_newTokens : Int32) (m_token : Int32) (m_tokenAmount : Int32) (m_ahead : Int32) (m_depth : Int32) (m_linkMany : Int32) (m_isRange : Int32) (m_primes : Int32) (m_newKind : Nat → Int32) (m_newAmount : Nat → Int32) (k0 : Int32) : Option (Int32 × Int32 × Int32 × Int32 × Int32 × Int32 × Int32 × Int32 × Int32 × (Nat → Int32) × (Nat → Int32)) := (if k0 = 0 then some (m_length, m_newTokens, m_token, m_tokenAmount, m_ahead, m_depth, m_linkMany, m_isRange, m_primes, m_newKind, m_newAmount) else (if m_depth = 0 then (if m_isRange = 0 then some ((-3), m_newTokens, m_token, m_tokenAmount, m_ahead, m_depth, m_linkMany, m_isRange, m_primes, m_newKind, m_newAmount) else some (m_length, m_newTokens, m_token, m_tokenAmount, m_ahead, m_depth, m_linkMany, m_isRange, m_primes, m_newKind, m_newAmount)) else some (m_length, m_newTokens, m_token, m_tokenAmount, m_ahead, m_depth, m_linkMany, m_isRange, m_primes, m_newKind, m_newAmount)))
def fn_Ref_check_b132 (m_length : Int32) (m_text : Nat → Int32) (m_newTokens : Int32) (m_token : Int32) (m_tokenAmount : Int32) (m_ahead : Int32) (m_depth : Int32) (m_linkMany : Int32) (m_isRange : Int32) (m_primes : Int32) (m_newKind : Nat → Int32) (m_newAmount : Nat → Int32) : Option (Int32 × Int32 × Int32 × Int32 × Int32 × Int32 × Int32 × Int32 × Int32 × (Nat → Int32) × (Nat → Int32)) := fn_Ref_check_b137 m_length m_text m_newTokens m_token m_tokenAmount m_ahead m_depth m_linkMany m_isRange m_primes m_newKind m_newAmount 1
def fn_Ref_check_L29 (m_length : Int32) (m_text : Nat → Int32) : Nat → Int32 → Int32 → Int32 → Int32 → Int32 → Int32 → Int32 → Int32 → (Nat → Int32) → (Nat → Int32) → Int32 → Int32 → Option (Int32 × Int32 × Int32 × Int32 × Int32 × Int32 × Int32 × Int32 × Int32 × (Nat → Int32) × (Nat → Int32))
  | 0 => fun _ _ _ _ _ _ _ _ _ _ _ _ => none
  | n + 1 => fun m_newTokens m_token m_tokenAmount m_ahead m_depth m_linkMany m_isRange m_primes m_newKind m_newAmount x1 x2 => ((fn_Ref_at m_length m_text x2).bind fun q6 => (if q6 = 32 then (fn_Ref_check_L29 m_length m_text n) m_newTokens m_token m_tokenAmount m_ahead m_depth m_linkMany m_isRange m_primes m_newKind m_newAmount x1 (x2 + 1) else (if x2 < m_length then ((fn_Ref_read m_length m_token m_tokenAmount m_ahead m_text x2).bind fun q10 => (if q10.1 = 21 then some (x2, m_newTokens, q10.1, q10.2.1, q10.2.2, m_depth, m_linkMany, m_isRange, m_primes, m_newKind, m_newAmount) else ((fn_Ref_mayFollow m_depth m_linkMany m_isRange m_primes x1 q10.1).bind fun q13 => (if q13 = 0 then some (x2, m_newTokens, q10.1, q10.2.1, q10.2.2, m_depth, m_linkMany, m_isRange, m_primes, m_newKind, m_newAmount) else ((fn_Ref_notes m_newTokens q10.2.1 m_depth m_linkMany m_isRange m_primes m_newKind m_newAmount q10.1).bind fun q16 => (fn_Ref_check_L29 m_length m_text n) q16.1 q10.1 q10.2.1 q10.2.2 q16.2.1 q16.2.2.1 q16.2.2.2.1 q16.2.2.2.2.1 q16.2.2.2.2.2.1 q16.2.2.2.2.2.2 q10.1 q10.2.2))))) else (if (m_newTokens < 0 ∨ 81 ≤ m_newTokens.toNatClampNeg) then none else (if x1 = 1 then fn_Ref_check_b132 m_length m_text m_newTokens m_token m_tokenAmount m_ahead m_depth m_linkMany m_isRange m_primes (upd m_newKind m_newTokens.toNatClampNeg 20) m_newAmount else (if x1 = 2 then fn_Ref_check_b132 m_length m_text m_newTokens m_token m_tokenAmount m_ahead m_depth m_linkMany m_isRange m_primes (upd m_newKind m_newTokens.toNatClampNeg 20) m_newAmount else (if x1 = 11 then fn_Ref_check_b132 m_length m_text m_newTokens m_token m_tokenAmount m_ahead m_depth m_linkMany m_isRange m_primes (upd m_newKind m_newTokens.toNatClampNeg 20) m_newAmount else fn_Ref_check_b137 m_length m_text m_newTokens m_token m_tokenAmount m_ahead m_depth m_linkMany m_isRange m_primes (upd m_newKind m_newTokens.toNatClampNeg 20) m_newAmount 0)))))))
def fn_Ref_check (m_length : Int32) (m_newTokens : Int32) (m_token : Int32) (m_tokenAmount : Int32) (m_ahead : Int32) (m_depth : Int32) (m_linkMany : Int32) (m_isRange : Int32) (m_primes : Int32) (m_text : Nat → Int32) (m_newKind : Nat → Int32) (m_newAmount : Nat → Int32) : Option (Int32 × Int32 × Int32 × Int32 × Int32 × Int32 × Int32 × Int32 × Int32 × (Nat → Int32) × (Nat → Int32)) := fn_Ref_check_L29 m_length m_text zFU 0 m_token m_tokenAmount m_ahead 0 0 0 0 m_newKind m_newAmount 0 0
set_option maxHeartbeats 40000000 in
set_option maxRecDepth 100000 in
theorem ct_Ref_check (l : Launch) (D : va_G) (cI cJ cC : ClassId) (adK adV : Nat → Nat) (A_m A_m_text A_m_kind A_m_amount A_m_newKind A_m_newAmount A_m_variable A_m_sort A_m_left A_m_right A_m_what A_m_result A_m_root A_m_relation A_m_operands A_m_operators A_m_functions A_m_output A_m_tasks A_m_forms A_m_formLength A_m_row A_m_statuses A_m_outcomes A_m_heights : Nat) (sz : Nat) (m_length : Int32) (m_tokens : Int32) (m_newTokens : Int32) (m_nodes : Int32) (m_sums : Int32) (m_links : Int32) (m_operandMany : Int32) (m_operatorMany : Int32) (m_status : Int32) (m_outcome : Int64) (m_outputLength : Int32) (m_taskMany : Int32) (m_token : Int32) (m_tokenAmount : Int32) (m_ahead : Int32) (m_depth : Int32) (m_linkMany : Int32) (m_isRange : Int32) (m_primes : Int32) (m_text : Nat → Int32) (m_newKind : Nat → Int32) (m_newAmount : Nat → Int32) {rs : Int32 × Int32 × Int32 × Int32 × Int32 × Int32 × Int32 × Int32 × Int32 × (Nat → Int32) × (Nat → Int32)} (hM : fn_Ref_check m_length m_newTokens m_token m_tokenAmount m_ahead m_depth m_linkMany m_isRange m_primes m_text m_newKind m_newAmount = some rs) : Met l yX12_check wsX12_check ({ frames := 3, cells := 0, slots := 0, locals := 70 } : Room) (zP D cI cJ cC adK adV [.ref A_m] sz [(A_m, .inr (11, (.int m_length :: .ref A_m_text :: .int m_tokens :: .ref A_m_kind :: .ref A_m_amount :: .int m_newTokens :: .ref A_m_newKind :: .ref A_m_newAmount :: .ref A_m_variable :: .int m_nodes :: .ref A_m_sort :: .ref A_m_left :: .ref A_m_right :: .ref A_m_what :: .ref A_m_result :: .int m_sums :: .ref A_m_root :: .int m_links :: .ref A_m_relation :: .ref A_m_operands :: .int m_operandMany :: .ref A_m_operators :: .ref A_m_functions :: .int m_operatorMany :: .int m_status :: .long m_outcome :: .ref A_m_output :: .int m_outputLength :: .ref A_m_tasks :: .int m_taskMany :: .ref A_m_forms :: .ref A_m_formLength :: .int m_token :: .int m_tokenAmount :: .int m_ahead :: .int m_depth :: .int m_linkMany :: .int m_isRange :: .int m_primes :: .ref A_m_row :: .ref A_m_statuses :: .ref A_m_outcomes :: .ref A_m_heights :: []))), (A_m_text, .inl (cI, 80, .inl m_text)), (A_m_newKind, .inl (cI, 81, .inl m_newKind)), (A_m_newAmount, .inl (cI, 81, .inl m_newAmount))]) (zQi D cI cJ cC rs.1 [(A_m, .inr (11, (.int m_length :: .ref A_m_text :: .int m_tokens :: .ref A_m_kind :: .ref A_m_amount :: .int rs.2.1 :: .ref A_m_newKind :: .ref A_m_newAmount :: .ref A_m_variable :: .int m_nodes :: .ref A_m_sort :: .ref A_m_left :: .ref A_m_right :: .ref A_m_what :: .ref A_m_result :: .int m_sums :: .ref A_m_root :: .int m_links :: .ref A_m_relation :: .ref A_m_operands :: .int m_operandMany :: .ref A_m_operators :: .ref A_m_functions :: .int m_operatorMany :: .int m_status :: .long m_outcome :: .ref A_m_output :: .int m_outputLength :: .ref A_m_tasks :: .int m_taskMany :: .ref A_m_forms :: .ref A_m_formLength :: .int rs.2.2.1 :: .int rs.2.2.2.1 :: .int rs.2.2.2.2.1 :: .int rs.2.2.2.2.2.1 :: .int rs.2.2.2.2.2.2.1 :: .int rs.2.2.2.2.2.2.2.1 :: .int rs.2.2.2.2.2.2.2.2.1 :: .ref A_m_row :: .ref A_m_statuses :: .ref A_m_outcomes :: .ref A_m_heights :: []))), (A_m_text, .inl (cI, 80, .inl m_text)), (A_m_newKind, .inl (cI, 81, .inl rs.2.2.2.2.2.2.2.2.2.1)), (A_m_newAmount, .inl (cI, 81, .inl rs.2.2.2.2.2.2.2.2.2.2))] (va_A [(A_m, .inr (11, (.int m_length :: .ref A_m_text :: .int m_tokens :: .ref A_m_kind :: .ref A_m_amount :: .int m_newTokens :: .ref A_m_newKind :: .ref A_m_newAmount :: .ref A_m_variable :: .int m_nodes :: .ref A_m_sort :: .ref A_m_left :: .ref A_m_right :: .ref A_m_what :: .ref A_m_result :: .int m_sums :: .ref A_m_root :: .int m_links :: .ref A_m_relation :: .ref A_m_operands :: .int m_operandMany :: .ref A_m_operators :: .ref A_m_functions :: .int m_operatorMany :: .int m_status :: .long m_outcome :: .ref A_m_output :: .int m_outputLength :: .ref A_m_tasks :: .int m_taskMany :: .ref A_m_forms :: .ref A_m_formLength :: .int m_token :: .int m_tokenAmount :: .int m_ahead :: .int m_depth :: .int m_linkMany :: .int m_isRange :: .int m_primes :: .ref A_m_row :: .ref A_m_statuses :: .ref A_m_outcomes :: .ref A_m_heights :: []))), (A_m_text, .inl (cI, 80, .inl m_text)), (A_m_newKind, .inl (cI, 81, .inl m_newKind)), (A_m_newAmount, .inl (cI, 81, .inl m_newAmount))] sz)) 0 0 (va_A [(A_m, .inr (11, (.int m_length :: .ref A_m_text :: .int m_tokens :: .ref A_m_kind :: .ref A_m_amount :: .int m_newTokens :: .ref A_m_newKind :: .ref A_m_newAmount :: .ref A_m_variable :: .int m_nodes :: .ref A_m_sort :: .ref A_m_left :: .ref A_m_right :: .ref A_m_what :: .ref A_m_result :: .int m_sums :: .ref A_m_root :: .int m_links :: .ref A_m_relation :: .ref A_m_operands :: .int m_operandMany :: .ref A_m_operators :: .ref A_m_functions :: .int m_operatorMany :: .int m_status :: .long m_outcome :: .ref A_m_output :: .int m_outputLength :: .ref A_m_tasks :: .int m_taskMany :: .ref A_m_forms :: .ref A_m_formLength :: .int m_token :: .int m_tokenAmount :: .int m_ahead :: .int m_depth :: .int m_linkMany :: .int m_isRange :: .int m_primes :: .ref A_m_row :: .ref A_m_statuses :: .ref A_m_outcomes :: .ref A_m_heights :: []))), (A_m_text, .inl (cI, 80, .inl m_text)), (A_m_newKind, .inl (cI, 81, .inl m_newKind)), (A_m_newAmount, .inl (cI, 81, .inl m_newAmount))] sz) := by
  refine Met.ofW (cc := cX12_check) (maxL := 4) (ret := (some .int)) (by decide) rfl ?_
  intro p e s m args below meth c s₁ B hml hv0
  obtain ⟨hargs, hsz, hP, hK, hD0, hX⟩ := hv0
  have hx := B.exec
  have hb := B.bytes
  have hr := B.returns
  have hts := atoms_spec (ws := wsX12_check) B.pre
  have hown : s.vm.findClass RX12 = some m.cls := findClass_of_methodNamed B.named
  have hlocks := B.notSynchronized
  subst hsz
  have hD := hD0.self (sz := s.heap.size)
  generalize hAe : va_A [(A_m, .inr (11, (.int m_length :: .ref A_m_text :: .int m_tokens :: .ref A_m_kind :: .ref A_m_amount :: .int m_newTokens :: .ref A_m_newKind :: .ref A_m_newAmount :: .ref A_m_variable :: .int m_nodes :: .ref A_m_sort :: .ref A_m_left :: .ref A_m_right :: .ref A_m_what :: .ref A_m_result :: .int m_sums :: .ref A_m_root :: .int m_links :: .ref A_m_relation :: .ref A_m_operands :: .int m_operandMany :: .ref A_m_operators :: .ref A_m_functions :: .int m_operatorMany :: .int m_status :: .long m_outcome :: .ref A_m_output :: .int m_outputLength :: .ref A_m_tasks :: .int m_taskMany :: .ref A_m_forms :: .ref A_m_formLength :: .int m_token :: .int m_tokenAmount :: .int m_ahead :: .int m_depth :: .int m_linkMany :: .int m_isRange :: .int m_primes :: .ref A_m_row :: .ref A_m_statuses :: .ref A_m_outcomes :: .ref A_m_heights :: []))), (A_m_text, .inl (cI, 80, .inl m_text)), (A_m_newKind, .inl (cI, 81, .inl m_newKind)), (A_m_newAmount, .inl (cI, 81, .inl m_newAmount))] s.heap.size = A at hD hX ⊢
  have hA : ∀ q : Nat, s.heap.size ≤ q → A q := fun q h => by rw [← hAe]; exact Or.inr h
  have hS : va_S A s.heap s.heap [] := va_S.rf
  have hl := lv_entry ([.ref A_m]) (n := 4) (Nat.le_of_ble_eq_true rfl)
  rw [hargs, lg_entry_eq, ← hargs]
  generalize (lg_sl ([.ref A_m]) ++ List.replicate (4 - (lg_sl ([.ref A_m])).length) Slot.unset).toArray = ls at hl ⊢
  have hl : lv_has ls 4 [(0, .ref A_m)] := hl
  have hw0 : ∀ w ∈ u_ws RX12 TX12 43, w ∈ wsX12_check := by decide +kernel
  have hw1 := hts (.fieldLink RX12 151 "NotationParserModel" "newTokens" "I") (by decide +kernel)
  have hw2 := hts (.fieldLink RX12 130 "NotationParserModel" "depth" "I") (by decide +kernel)
  have hw3 := hts (.fieldLink RX12 145 "NotationParserModel" "linkMany" "I") (by decide +kernel)
  have hw4 := hts (.fieldLink RX12 133 "NotationParserModel" "isRange" "Z") (by decide +kernel)
  have hw5 := hts (.fieldLink RX12 148 "NotationParserModel" "primes" "I") (by decide +kernel)
  have hw6 := hts (.fieldLink RX12 95 "NotationParserModel" "length" "I") (by decide +kernel)
  have hw7 := hts (.fieldLink RX12 112 "NotationParserModel" "token" "I") (by decide +kernel)
  have hw8 := hts (.fieldLink RX12 105 "NotationParserModel" "ahead" "I") (by decide +kernel)
  have hw9 := hts (.fieldLink RX12 19 "NotationParserModel" "newKind" "[I") (by decide +kernel)
  have B_137_2 : ∀ (m_newTokens : Int32) (m_token : Int32) (m_tokenAmount : Int32) (m_ahead : Int32) (m_depth : Int32) (m_linkMany : Int32) (m_isRange : Int32) (m_primes : Int32) (m_newKind : Nat → Int32) (m_newAmount : Nat → Int32) (k0 : Int32) (H : Heap) (locs : List Loc) (ls : Array Slot), va_P D vwCl [(A_m, .inr (11, (.int m_length :: .ref A_m_text :: .int m_tokens :: .ref A_m_kind :: .ref A_m_amount :: .int m_newTokens :: .ref A_m_newKind :: .ref A_m_newAmount :: .ref A_m_variable :: .int m_nodes :: .ref A_m_sort :: .ref A_m_left :: .ref A_m_right :: .ref A_m_what :: .ref A_m_result :: .int m_sums :: .ref A_m_root :: .int m_links :: .ref A_m_relation :: .ref A_m_operands :: .int m_operandMany :: .ref A_m_operators :: .ref A_m_functions :: .int m_operatorMany :: .int m_status :: .long m_outcome :: .ref A_m_output :: .int m_outputLength :: .ref A_m_tasks :: .int m_taskMany :: .ref A_m_forms :: .ref A_m_formLength :: .int m_token :: .int m_tokenAmount :: .int m_ahead :: .int m_depth :: .int m_linkMany :: .int m_isRange :: .int m_primes :: .ref A_m_row :: .ref A_m_statuses :: .ref A_m_outcomes :: .ref A_m_heights :: []))), (A_m_text, .inl (cI, 80, .inl m_text)), (A_m_newKind, .inl (cI, 81, .inl m_newKind)), (A_m_newAmount, .inl (cI, 81, .inl m_newAmount))] H → va_D A [(A_m, .inr (11, (.int m_length :: .ref A_m_text :: .int m_tokens :: .ref A_m_kind :: .ref A_m_amount :: .int m_newTokens :: .ref A_m_newKind :: .ref A_m_newAmount :: .ref A_m_variable :: .int m_nodes :: .ref A_m_sort :: .ref A_m_left :: .ref A_m_right :: .ref A_m_what :: .ref A_m_result :: .int m_sums :: .ref A_m_root :: .int m_links :: .ref A_m_relation :: .ref A_m_operands :: .int m_operandMany :: .ref A_m_operators :: .ref A_m_functions :: .int m_operatorMany :: .int m_status :: .long m_outcome :: .ref A_m_output :: .int m_outputLength :: .ref A_m_tasks :: .int m_taskMany :: .ref A_m_forms :: .ref A_m_formLength :: .int m_token :: .int m_tokenAmount :: .int m_ahead :: .int m_depth :: .int m_linkMany :: .int m_isRange :: .int m_primes :: .ref A_m_row :: .ref A_m_statuses :: .ref A_m_outcomes :: .ref A_m_heights :: []))), (A_m_text, .inl (cI, 80, .inl m_text)), (A_m_newKind, .inl (cI, 81, .inl m_newKind)), (A_m_newAmount, .inl (cI, 81, .inl m_newAmount))] → va_S A s.heap H locs → lv_has ls 4 [(0, .ref A_m)] → fn_Ref_check_b137 m_length m_text m_newTokens m_token m_tokenAmount m_ahead m_depth m_linkMany m_isRange m_primes m_newKind m_newAmount k0 = some rs → W p l e (headSpec wsX12_check ({ frames := 3, cells := 0, slots := 0, locals := 70 } : Room)).room s m args below meth c H locs 0 0 (MQ below (zQi D cI cJ cC rs.1 [(A_m, .inr (11, (.int m_length :: .ref A_m_text :: .int m_tokens :: .ref A_m_kind :: .ref A_m_amount :: .int rs.2.1 :: .ref A_m_newKind :: .ref A_m_newAmount :: .ref A_m_variable :: .int m_nodes :: .ref A_m_sort :: .ref A_m_left :: .ref A_m_right :: .ref A_m_what :: .ref A_m_result :: .int m_sums :: .ref A_m_root :: .int m_links :: .ref A_m_relation :: .ref A_m_operands :: .int m_operandMany :: .ref A_m_operators :: .ref A_m_functions :: .int m_operatorMany :: .int m_status :: .long m_outcome :: .ref A_m_output :: .int m_outputLength :: .ref A_m_tasks :: .int m_taskMany :: .ref A_m_forms :: .ref A_m_formLength :: .int rs.2.2.1 :: .int rs.2.2.2.1 :: .int rs.2.2.2.2.1 :: .int rs.2.2.2.2.2.1 :: .int rs.2.2.2.2.2.2.1 :: .int rs.2.2.2.2.2.2.2.1 :: .int rs.2.2.2.2.2.2.2.2.1 :: .ref A_m_row :: .ref A_m_statuses :: .ref A_m_outcomes :: .ref A_m_heights :: []))), (A_m_text, .inl (cI, 80, .inl m_text)), (A_m_newKind, .inl (cI, 81, .inl rs.2.2.2.2.2.2.2.2.2.1)), (A_m_newAmount, .inl (cI, 81, .inl rs.2.2.2.2.2.2.2.2.2.2))] A) args s 0 0 A) (F0 m 137 ls [.int k0]) := by
    intro  m_newTokens m_token m_tokenAmount m_ahead m_depth m_linkMany m_isRange m_primes m_newKind m_newAmount k0 H locs ls hP hD hS hl hM
    refine lv_istore_n (lv' := [(3, .int k0), (0, .ref A_m)]) hx hb dX12_check_137 rfl hl (by decide) rfl (fun ls hl => ?_)
    refine lv_iload_n hx hb dX12_check_138 rfl (lv_at hl 0 rfl) ?_
    refine lv_if_eq (tgt := 161) hx hb dX12_check_139 (by decide) (fun c21 => ?_) (fun c21 => ?_)
    · have hM := z_t c21 hM
      refine lv_aload_n hx hb dX12_check_161 rfl (lv_at hl 1 rfl) ?_
      refine va_get (D := D) (ci := 11) (v := .int m_length) (C := RX12) (T := TX12) (N := 43) hx hb hts hw0 hown hK hP 0 rfl rfl 0 (by decide) hw6 (fun _ h9 => h9) rfl dX12_check_162 ?_
      have hM := Option.some.inj hM
      subst hM
      exact W.iret (v := m_length) hx hb hr (fun t ht hW => ⟨⟨_, (), rfl, rfl, ⟨by rw [ht]; exact hP, va_K.moved hW.alike hK, hD⟩⟩, hS.F ht⟩) hS.2.2 dX12_check_165
    · have hM := z_f c21 hM
      refine lv_aload_n hx hb dX12_check_142 rfl (lv_at hl 1 rfl) ?_
      refine va_get (D := D) (ci := 11) (v := .int m_depth) (C := RX12) (T := TX12) (N := 43) hx hb hts hw0 hown hK hP 0 rfl rfl 35 (by decide) hw2 (fun _ h9 => h9) rfl dX12_check_143 ?_
      refine lv_if_ne (tgt := 161) hx hb dX12_check_146 (by decide) (fun c22 => ?_) (fun c22 => ?_)
      · have hM := z_f c22 hM
        refine lv_aload_n hx hb dX12_check_161 rfl (lv_at hl 1 rfl) ?_
        refine va_get (D := D) (ci := 11) (v := .int m_length) (C := RX12) (T := TX12) (N := 43) hx hb hts hw0 hown hK hP 0 rfl rfl 0 (by decide) hw6 (fun _ h9 => h9) rfl dX12_check_162 ?_
        have hM := Option.some.inj hM
        subst hM
        exact W.iret (v := m_length) hx hb hr (fun t ht hW => ⟨⟨_, (), rfl, rfl, ⟨by rw [ht]; exact hP, va_K.moved hW.alike hK, hD⟩⟩, hS.F ht⟩) hS.2.2 dX12_check_165
      · have hM := z_t c22 hM
        refine lv_aload_n hx hb dX12_check_149 rfl (lv_at hl 1 rfl) ?_
        refine va_get (D := D) (ci := 11) (v := .int m_isRange) (C := RX12) (T := TX12) (N := 43) hx hb hts hw0 hown hK hP 0 rfl rfl 37 (by decide) hw4 (fun _ h9 => h9) rfl dX12_check_150 ?_
        refine lv_if_ne (tgt := 161) hx hb dX12_check_153 (by decide) (fun c23 => ?_) (fun c23 => ?_)
        · have hM := z_f c23 hM
          refine lv_aload_n hx hb dX12_check_161 rfl (lv_at hl 1 rfl) ?_
          refine va_get (D := D) (ci := 11) (v := .int m_length) (C := RX12) (T := TX12) (N := 43) hx hb hts hw0 hown hK hP 0 rfl rfl 0 (by decide) hw6 (fun _ h9 => h9) rfl dX12_check_162 ?_
          have hM := Option.some.inj hM
          subst hM
          exact W.iret (v := m_length) hx hb hr (fun t ht hW => ⟨⟨_, (), rfl, rfl, ⟨by rw [ht]; exact hP, va_K.moved hW.alike hK, hD⟩⟩, hS.F ht⟩) hS.2.2 dX12_check_165
        · have hM := z_t c23 hM
          refine lv_bipush (v := (-3)) hx hb dX12_check_156 (by decide) ?_
          refine lv_goto (tgt := 165) hx hb dX12_check_158 (by decide) ?_
          have hM := Option.some.inj hM
          subst hM
          exact W.iret (v := (-3)) hx hb hr (fun t ht hW => ⟨⟨_, (), rfl, rfl, ⟨by rw [ht]; exact hP, va_K.moved hW.alike hK, hD⟩⟩, hS.F ht⟩) hS.2.2 dX12_check_165
  have B_132_1 : ∀ (m_newTokens : Int32) (m_token : Int32) (m_tokenAmount : Int32) (m_ahead : Int32) (m_depth : Int32) (m_linkMany : Int32) (m_isRange : Int32) (m_primes : Int32) (m_newKind : Nat → Int32) (m_newAmount : Nat → Int32) (H : Heap) (locs : List Loc) (ls : Array Slot), va_P D vwCl [(A_m, .inr (11, (.int m_length :: .ref A_m_text :: .int m_tokens :: .ref A_m_kind :: .ref A_m_amount :: .int m_newTokens :: .ref A_m_newKind :: .ref A_m_newAmount :: .ref A_m_variable :: .int m_nodes :: .ref A_m_sort :: .ref A_m_left :: .ref A_m_right :: .ref A_m_what :: .ref A_m_result :: .int m_sums :: .ref A_m_root :: .int m_links :: .ref A_m_relation :: .ref A_m_operands :: .int m_operandMany :: .ref A_m_operators :: .ref A_m_functions :: .int m_operatorMany :: .int m_status :: .long m_outcome :: .ref A_m_output :: .int m_outputLength :: .ref A_m_tasks :: .int m_taskMany :: .ref A_m_forms :: .ref A_m_formLength :: .int m_token :: .int m_tokenAmount :: .int m_ahead :: .int m_depth :: .int m_linkMany :: .int m_isRange :: .int m_primes :: .ref A_m_row :: .ref A_m_statuses :: .ref A_m_outcomes :: .ref A_m_heights :: []))), (A_m_text, .inl (cI, 80, .inl m_text)), (A_m_newKind, .inl (cI, 81, .inl m_newKind)), (A_m_newAmount, .inl (cI, 81, .inl m_newAmount))] H → va_D A [(A_m, .inr (11, (.int m_length :: .ref A_m_text :: .int m_tokens :: .ref A_m_kind :: .ref A_m_amount :: .int m_newTokens :: .ref A_m_newKind :: .ref A_m_newAmount :: .ref A_m_variable :: .int m_nodes :: .ref A_m_sort :: .ref A_m_left :: .ref A_m_right :: .ref A_m_what :: .ref A_m_result :: .int m_sums :: .ref A_m_root :: .int m_links :: .ref A_m_relation :: .ref A_m_operands :: .int m_operandMany :: .ref A_m_operators :: .ref A_m_functions :: .int m_operatorMany :: .int m_status :: .long m_outcome :: .ref A_m_output :: .int m_outputLength :: .ref A_m_tasks :: .int m_taskMany :: .ref A_m_forms :: .ref A_m_formLength :: .int m_token :: .int m_tokenAmount :: .int m_ahead :: .int m_depth :: .int m_linkMany :: .int m_isRange :: .int m_primes :: .ref A_m_row :: .ref A_m_statuses :: .ref A_m_outcomes :: .ref A_m_heights :: []))), (A_m_text, .inl (cI, 80, .inl m_text)), (A_m_newKind, .inl (cI, 81, .inl m_newKind)), (A_m_newAmount, .inl (cI, 81, .inl m_newAmount))] → va_S A s.heap H locs → lv_has ls 4 [(0, .ref A_m)] → fn_Ref_check_b132 m_length m_text m_newTokens m_token m_tokenAmount m_ahead m_depth m_linkMany m_isRange m_primes m_newKind m_newAmount = some rs → W p l e (headSpec wsX12_check ({ frames := 3, cells := 0, slots := 0, locals := 70 } : Room)).room s m args below meth c H locs 0 0 (MQ below (zQi D cI cJ cC rs.1 [(A_m, .inr (11, (.int m_length :: .ref A_m_text :: .int m_tokens :: .ref A_m_kind :: .ref A_m_amount :: .int rs.2.1 :: .ref A_m_newKind :: .ref A_m_newAmount :: .ref A_m_variable :: .int m_nodes :: .ref A_m_sort :: .ref A_m_left :: .ref A_m_right :: .ref A_m_what :: .ref A_m_result :: .int m_sums :: .ref A_m_root :: .int m_links :: .ref A_m_relation :: .ref A_m_operands :: .int m_operandMany :: .ref A_m_operators :: .ref A_m_functions :: .int m_operatorMany :: .int m_status :: .long m_outcome :: .ref A_m_output :: .int m_outputLength :: .ref A_m_tasks :: .int m_taskMany :: .ref A_m_forms :: .ref A_m_formLength :: .int rs.2.2.1 :: .int rs.2.2.2.1 :: .int rs.2.2.2.2.1 :: .int rs.2.2.2.2.2.1 :: .int rs.2.2.2.2.2.2.1 :: .int rs.2.2.2.2.2.2.2.1 :: .int rs.2.2.2.2.2.2.2.2.1 :: .ref A_m_row :: .ref A_m_statuses :: .ref A_m_outcomes :: .ref A_m_heights :: []))), (A_m_text, .inl (cI, 80, .inl m_text)), (A_m_newKind, .inl (cI, 81, .inl rs.2.2.2.2.2.2.2.2.2.1)), (A_m_newAmount, .inl (cI, 81, .inl rs.2.2.2.2.2.2.2.2.2.2))] A) args s 0 0 A) (F0 m 132 ls []) := by
    intro  m_newTokens m_token m_tokenAmount m_ahead m_depth m_linkMany m_isRange m_primes m_newKind m_newAmount H locs ls hP hD hS hl hM
    refine lv_iconst (v := 1) hx hb dX12_check_132 (by decide) ?_
    refine lv_goto (tgt := 137) hx hb dX12_check_133 (by decide) ?_
    exact B_137_2  m_newTokens m_token m_tokenAmount m_ahead m_depth m_linkMany m_isRange m_primes m_newKind m_newAmount 1 _ _ ls hP hD hS (lv_sub hl [0] rfl) hM
  have L_29_0 : ∀ (n : Nat) (m_newTokens : Int32) (m_token : Int32) (m_tokenAmount : Int32) (m_ahead : Int32) (m_depth : Int32) (m_linkMany : Int32) (m_isRange : Int32) (m_primes : Int32) (m_newKind : Nat → Int32) (m_newAmount : Nat → Int32) (x1 : Int32) (x2 : Int32) (H : Heap) (locs : List Loc) (ls : Array Slot), va_P D vwCl [(A_m, .inr (11, (.int m_length :: .ref A_m_text :: .int m_tokens :: .ref A_m_kind :: .ref A_m_amount :: .int m_newTokens :: .ref A_m_newKind :: .ref A_m_newAmount :: .ref A_m_variable :: .int m_nodes :: .ref A_m_sort :: .ref A_m_left :: .ref A_m_right :: .ref A_m_what :: .ref A_m_result :: .int m_sums :: .ref A_m_root :: .int m_links :: .ref A_m_relation :: .ref A_m_operands :: .int m_operandMany :: .ref A_m_operators :: .ref A_m_functions :: .int m_operatorMany :: .int m_status :: .long m_outcome :: .ref A_m_output :: .int m_outputLength :: .ref A_m_tasks :: .int m_taskMany :: .ref A_m_forms :: .ref A_m_formLength :: .int m_token :: .int m_tokenAmount :: .int m_ahead :: .int m_depth :: .int m_linkMany :: .int m_isRange :: .int m_primes :: .ref A_m_row :: .ref A_m_statuses :: .ref A_m_outcomes :: .ref A_m_heights :: []))), (A_m_text, .inl (cI, 80, .inl m_text)), (A_m_newKind, .inl (cI, 81, .inl m_newKind)), (A_m_newAmount, .inl (cI, 81, .inl m_newAmount))] H → va_D A [(A_m, .inr (11, (.int m_length :: .ref A_m_text :: .int m_tokens :: .ref A_m_kind :: .ref A_m_amount :: .int m_newTokens :: .ref A_m_newKind :: .ref A_m_newAmount :: .ref A_m_variable :: .int m_nodes :: .ref A_m_sort :: .ref A_m_left :: .ref A_m_right :: .ref A_m_what :: .ref A_m_result :: .int m_sums :: .ref A_m_root :: .int m_links :: .ref A_m_relation :: .ref A_m_operands :: .int m_operandMany :: .ref A_m_operators :: .ref A_m_functions :: .int m_operatorMany :: .int m_status :: .long m_outcome :: .ref A_m_output :: .int m_outputLength :: .ref A_m_tasks :: .int m_taskMany :: .ref A_m_forms :: .ref A_m_formLength :: .int m_token :: .int m_tokenAmount :: .int m_ahead :: .int m_depth :: .int m_linkMany :: .int m_isRange :: .int m_primes :: .ref A_m_row :: .ref A_m_statuses :: .ref A_m_outcomes :: .ref A_m_heights :: []))), (A_m_text, .inl (cI, 80, .inl m_text)), (A_m_newKind, .inl (cI, 81, .inl m_newKind)), (A_m_newAmount, .inl (cI, 81, .inl m_newAmount))] → va_S A s.heap H locs → lv_has ls 4 [(0, .ref A_m), (1, .int x1), (2, .int x2)] → fn_Ref_check_L29 m_length m_text n m_newTokens m_token m_tokenAmount m_ahead m_depth m_linkMany m_isRange m_primes m_newKind m_newAmount x1 x2 = some rs → W p l e (headSpec wsX12_check ({ frames := 3, cells := 0, slots := 0, locals := 70 } : Room)).room s m args below meth c H locs 0 0 (MQ below (zQi D cI cJ cC rs.1 [(A_m, .inr (11, (.int m_length :: .ref A_m_text :: .int m_tokens :: .ref A_m_kind :: .ref A_m_amount :: .int rs.2.1 :: .ref A_m_newKind :: .ref A_m_newAmount :: .ref A_m_variable :: .int m_nodes :: .ref A_m_sort :: .ref A_m_left :: .ref A_m_right :: .ref A_m_what :: .ref A_m_result :: .int m_sums :: .ref A_m_root :: .int m_links :: .ref A_m_relation :: .ref A_m_operands :: .int m_operandMany :: .ref A_m_operators :: .ref A_m_functions :: .int m_operatorMany :: .int m_status :: .long m_outcome :: .ref A_m_output :: .int m_outputLength :: .ref A_m_tasks :: .int m_taskMany :: .ref A_m_forms :: .ref A_m_formLength :: .int rs.2.2.1 :: .int rs.2.2.2.1 :: .int rs.2.2.2.2.1 :: .int rs.2.2.2.2.2.1 :: .int rs.2.2.2.2.2.2.1 :: .int rs.2.2.2.2.2.2.2.1 :: .int rs.2.2.2.2.2.2.2.2.1 :: .ref A_m_row :: .ref A_m_statuses :: .ref A_m_outcomes :: .ref A_m_heights :: []))), (A_m_text, .inl (cI, 80, .inl m_text)), (A_m_newKind, .inl (cI, 81, .inl rs.2.2.2.2.2.2.2.2.2.1)), (A_m_newAmount, .inl (cI, 81, .inl rs.2.2.2.2.2.2.2.2.2.2))] A) args s 0 0 A) (F0 m 29 ls []) := by
    intro  n
    induction n with
    | zero => intro m_newTokens m_token m_tokenAmount m_ahead m_depth m_linkMany m_isRange m_primes m_newKind m_newAmount x1 x2 H locs ls _ _ _ _ hM; exact z_n hM
    | succ n ih =>
      intro m_newTokens m_token m_tokenAmount m_ahead m_depth m_linkMany m_isRange m_primes m_newKind m_newAmount x1 x2 H locs ls hP hD hS hl hM
      refine lv_aload_n hx hb dX12_check_29 rfl (lv_at hl 0 rfl) ?_
      refine lv_iload_n hx hb dX12_check_30 rfl (lv_at hl 2 rfl) ?_
      obtain ⟨q6, hq6, hM⟩ := z_b hM
      obtain ⟨hPc, hDc, hFc⟩ := zcut (wc := [(A_m, .inr (11, (.int m_length :: .ref A_m_text :: .int m_tokens :: .ref A_m_kind :: .ref A_m_amount :: .int m_newTokens :: .ref A_m_newKind :: .ref A_m_newAmount :: .ref A_m_variable :: .int m_nodes :: .ref A_m_sort :: .ref A_m_left :: .ref A_m_right :: .ref A_m_what :: .ref A_m_result :: .int m_sums :: .ref A_m_root :: .int m_links :: .ref A_m_relation :: .ref A_m_operands :: .int m_operandMany :: .ref A_m_operators :: .ref A_m_functions :: .int m_operatorMany :: .int m_status :: .long m_outcome :: .ref A_m_output :: .int m_outputLength :: .ref A_m_tasks :: .int m_taskMany :: .ref A_m_forms :: .ref A_m_formLength :: .int m_token :: .int m_tokenAmount :: .int m_ahead :: .int m_depth :: .int m_linkMany :: .int m_isRange :: .int m_primes :: .ref A_m_row :: .ref A_m_statuses :: .ref A_m_outcomes :: .ref A_m_heights :: []))), (A_m_text, .inl (cI, 80, .inl m_text))]) hP hD hS hA [0, 1] rfl rfl (by decide)
      refine zc_i (ws' := [(A_m, .inr (11, (.int m_length :: .ref A_m_text :: .int m_tokens :: .ref A_m_kind :: .ref A_m_amount :: .int m_newTokens :: .ref A_m_newKind :: .ref A_m_newAmount :: .ref A_m_variable :: .int m_nodes :: .ref A_m_sort :: .ref A_m_left :: .ref A_m_right :: .ref A_m_what :: .ref A_m_result :: .int m_sums :: .ref A_m_root :: .int m_links :: .ref A_m_relation :: .ref A_m_operands :: .int m_operandMany :: .ref A_m_operators :: .ref A_m_functions :: .int m_operatorMany :: .int m_status :: .long m_outcome :: .ref A_m_output :: .int m_outputLength :: .ref A_m_tasks :: .int m_taskMany :: .ref A_m_forms :: .ref A_m_formLength :: .int m_token :: .int m_tokenAmount :: .int m_ahead :: .int m_depth :: .int m_linkMany :: .int m_isRange :: .int m_primes :: .ref A_m_row :: .ref A_m_statuses :: .ref A_m_outcomes :: .ref A_m_heights :: []))), (A_m_text, .inl (cI, 80, .inl m_text)), (A_m_newKind, .inl (cI, 81, .inl m_newKind)), (A_m_newAmount, .inl (cI, 81, .inl m_newAmount))]) (va_runV (As := [.int x2]) (rest := []) ⟨hx, hb, hml, hown, hts⟩ (ct_Ref_at l D cI cJ cC adK adV A_m A_m_text A_m_kind A_m_amount A_m_newKind A_m_newAmount A_m_variable A_m_sort A_m_left A_m_right A_m_what A_m_result A_m_root A_m_relation A_m_operands A_m_operators A_m_functions A_m_output A_m_tasks A_m_forms A_m_formLength A_m_row A_m_statuses A_m_outcomes A_m_heights H.size m_length m_tokens m_newTokens m_nodes m_sums m_links m_operandMany m_operatorMany m_status m_outcome m_outputLength m_taskMany m_token m_tokenAmount m_ahead m_depth m_linkMany m_isRange m_primes m_text x2 hq6) (cwV 1 hts gX12_check_X12_at rfl rfl rfl (by decide +kernel) ⟨Nat.le_of_ble_eq_true rfl, Nat.le_of_ble_eq_true rfl⟩) ⟨zblind, va_recv hK hP (ci := 11) (q0 := 0) rfl rfl, zpre hX hS hFc hPc hK hDc⟩ rfl rfl hl.1 rfl (lv_room (Nat.le_of_ble_eq_true rfl)) dX12_check_31 ⟨Nat.zero_le _, Nat.zero_le _⟩) hP hD hS hFc [0, 1] rfl (by decide) rfl rfl (fun H7 locs hP hD hS => ?_)
      refine lv_bipush (v := 32) hx hb dX12_check_34 (by decide) ?_
      refine lv_icmp_ne (tgt := 45) hx hb dX12_check_36 (by decide) (fun c8 => ?_) (fun c8 => ?_)
      · have hM := z_f c8 hM
        refine lv_iload_n hx hb dX12_check_45 rfl (lv_at hl 2 rfl) ?_
        refine lv_aload_n hx hb dX12_check_46 rfl (lv_at hl 0 rfl) ?_
        refine va_get (D := D) (ci := 11) (v := .int m_length) (C := RX12) (T := TX12) (N := 43) hx hb hts hw0 hown hK hP 0 rfl rfl 0 (by decide) hw6 (fun _ h9 => h9) rfl dX12_check_47 ?_
        refine lv_icmp_lt (tgt := 56) hx hb dX12_check_50 (by decide) (fun c9 => ?_) (fun c9 => ?_)
        · have hM := z_t c9 hM
          refine lv_aload_n hx hb dX12_check_56 rfl (lv_at hl 0 rfl) ?_
          refine lv_iload_n hx hb dX12_check_57 rfl (lv_at hl 2 rfl) ?_
          obtain ⟨q10, hq10, hM⟩ := z_b hM
          obtain ⟨hPc, hDc, hFc⟩ := zcut (wc := [(A_m, .inr (11, (.int m_length :: .ref A_m_text :: .int m_tokens :: .ref A_m_kind :: .ref A_m_amount :: .int m_newTokens :: .ref A_m_newKind :: .ref A_m_newAmount :: .ref A_m_variable :: .int m_nodes :: .ref A_m_sort :: .ref A_m_left :: .ref A_m_right :: .ref A_m_what :: .ref A_m_result :: .int m_sums :: .ref A_m_root :: .int m_links :: .ref A_m_relation :: .ref A_m_operands :: .int m_operandMany :: .ref A_m_operators :: .ref A_m_functions :: .int m_operatorMany :: .int m_status :: .long m_outcome :: .ref A_m_output :: .int m_outputLength :: .ref A_m_tasks :: .int m_taskMany :: .ref A_m_forms :: .ref A_m_formLength :: .int m_token :: .int m_tokenAmount :: .int m_ahead :: .int m_depth :: .int m_linkMany :: .int m_isRange :: .int m_primes :: .ref A_m_row :: .ref A_m_statuses :: .ref A_m_outcomes :: .ref A_m_heights :: []))), (A_m_text, .inl (cI, 80, .inl m_text))]) hP hD hS hA [0, 1] rfl rfl (by decide)
          refine zc_v (ws' := [(A_m, .inr (11, (.int m_length :: .ref A_m_text :: .int m_tokens :: .ref A_m_kind :: .ref A_m_amount :: .int m_newTokens :: .ref A_m_newKind :: .ref A_m_newAmount :: .ref A_m_variable :: .int m_nodes :: .ref A_m_sort :: .ref A_m_left :: .ref A_m_right :: .ref A_m_what :: .ref A_m_result :: .int m_sums :: .ref A_m_root :: .int m_links :: .ref A_m_relation :: .ref A_m_operands :: .int m_operandMany :: .ref A_m_operators :: .ref A_m_functions :: .int m_operatorMany :: .int m_status :: .long m_outcome :: .ref A_m_output :: .int m_outputLength :: .ref A_m_tasks :: .int m_taskMany :: .ref A_m_forms :: .ref A_m_formLength :: .int q10.1 :: .int q10.2.1 :: .int q10.2.2 :: .int m_depth :: .int m_linkMany :: .int m_isRange :: .int m_primes :: .ref A_m_row :: .ref A_m_statuses :: .ref A_m_outcomes :: .ref A_m_heights :: []))), (A_m_text, .inl (cI, 80, .inl m_text)), (A_m_newKind, .inl (cI, 81, .inl m_newKind)), (A_m_newAmount, .inl (cI, 81, .inl m_newAmount))]) (va_runV (As := [.int x2]) (rest := []) ⟨hx, hb, hml, hown, hts⟩ (ct_Ref_read l D cI cJ cC adK adV A_m A_m_text A_m_kind A_m_amount A_m_newKind A_m_newAmount A_m_variable A_m_sort A_m_left A_m_right A_m_what A_m_result A_m_root A_m_relation A_m_operands A_m_operators A_m_functions A_m_output A_m_tasks A_m_forms A_m_formLength A_m_row A_m_statuses A_m_outcomes A_m_heights H7.size m_length m_tokens m_newTokens m_nodes m_sums m_links m_operandMany m_operatorMany m_status m_outcome m_outputLength m_taskMany m_token m_tokenAmount m_ahead m_depth m_linkMany m_isRange m_primes m_text x2 hq10) (cwV 1 hts gX12_check_X12_read rfl rfl rfl (by decide +kernel) ⟨Nat.le_of_ble_eq_true rfl, Nat.le_of_ble_eq_true rfl⟩) ⟨zblind, va_recv hK hP (ci := 11) (q0 := 0) rfl rfl, zpre hX hS hFc hPc hK hDc⟩ rfl rfl hl.1 rfl (lv_room (Nat.le_of_ble_eq_true rfl)) dX12_check_58 ⟨Nat.zero_le _, Nat.zero_le _⟩) hP hD hS hFc [0, 1] rfl (by decide) rfl rfl (fun H11 locs hP hD hS => ?_)
          refine lv_aload_n hx hb dX12_check_61 rfl (lv_at hl 0 rfl) ?_
          refine va_get (D := D) (ci := 11) (v := .int q10.1) (C := RX12) (T := TX12) (N := 43) hx hb hts hw0 hown hK hP 0 rfl rfl 32 (by decide) hw7 (fun _ h9 => h9) rfl dX12_check_62 ?_
          refine lv_bipush (v := 21) hx hb dX12_check_65 (by decide) ?_
          refine lv_icmp_eq (tgt := 82) hx hb dX12_check_67 (by decide) (fun c12 => ?_) (fun c12 => ?_)
          · have hM := z_t c12 hM
            refine lv_iload_n hx hb dX12_check_82 rfl (lv_at hl 2 rfl) ?_
            have hM := Option.some.inj hM
            subst hM
            exact W.iret (v := x2) hx hb hr (fun t ht hW => ⟨⟨_, (), rfl, rfl, ⟨by rw [ht]; exact hP, va_K.moved hW.alike hK, hD⟩⟩, hS.F ht⟩) hS.2.2 dX12_check_83
          · have hM := z_f c12 hM
            refine lv_aload_n hx hb dX12_check_70 rfl (lv_at hl 0 rfl) ?_
            refine lv_iload_n hx hb dX12_check_71 rfl (lv_at hl 1 rfl) ?_
            refine lv_aload_n hx hb dX12_check_72 rfl (lv_at hl 0 rfl) ?_
            refine va_get (D := D) (ci := 11) (v := .int q10.1) (C := RX12) (T := TX12) (N := 43) hx hb hts hw0 hown hK hP 0 rfl rfl 32 (by decide) hw7 (fun _ h9 => h9) rfl dX12_check_73 ?_
            obtain ⟨q13, hq13, hM⟩ := z_b hM
            obtain ⟨hPc, hDc, hFc⟩ := zcut (wc := [(A_m, .inr (11, (.int m_length :: .ref A_m_text :: .int m_tokens :: .ref A_m_kind :: .ref A_m_amount :: .int m_newTokens :: .ref A_m_newKind :: .ref A_m_newAmount :: .ref A_m_variable :: .int m_nodes :: .ref A_m_sort :: .ref A_m_left :: .ref A_m_right :: .ref A_m_what :: .ref A_m_result :: .int m_sums :: .ref A_m_root :: .int m_links :: .ref A_m_relation :: .ref A_m_operands :: .int m_operandMany :: .ref A_m_operators :: .ref A_m_functions :: .int m_operatorMany :: .int m_status :: .long m_outcome :: .ref A_m_output :: .int m_outputLength :: .ref A_m_tasks :: .int m_taskMany :: .ref A_m_forms :: .ref A_m_formLength :: .int q10.1 :: .int q10.2.1 :: .int q10.2.2 :: .int m_depth :: .int m_linkMany :: .int m_isRange :: .int m_primes :: .ref A_m_row :: .ref A_m_statuses :: .ref A_m_outcomes :: .ref A_m_heights :: [])))]) hP hD hS hA [0] rfl rfl (by decide)
            refine zc_i (ws' := [(A_m, .inr (11, (.int m_length :: .ref A_m_text :: .int m_tokens :: .ref A_m_kind :: .ref A_m_amount :: .int m_newTokens :: .ref A_m_newKind :: .ref A_m_newAmount :: .ref A_m_variable :: .int m_nodes :: .ref A_m_sort :: .ref A_m_left :: .ref A_m_right :: .ref A_m_what :: .ref A_m_result :: .int m_sums :: .ref A_m_root :: .int m_links :: .ref A_m_relation :: .ref A_m_operands :: .int m_operandMany :: .ref A_m_operators :: .ref A_m_functions :: .int m_operatorMany :: .int m_status :: .long m_outcome :: .ref A_m_output :: .int m_outputLength :: .ref A_m_tasks :: .int m_taskMany :: .ref A_m_forms :: .ref A_m_formLength :: .int q10.1 :: .int q10.2.1 :: .int q10.2.2 :: .int m_depth :: .int m_linkMany :: .int m_isRange :: .int m_primes :: .ref A_m_row :: .ref A_m_statuses :: .ref A_m_outcomes :: .ref A_m_heights :: []))), (A_m_text, .inl (cI, 80, .inl m_text)), (A_m_newKind, .inl (cI, 81, .inl m_newKind)), (A_m_newAmount, .inl (cI, 81, .inl m_newAmount))]) (va_runV (As := [.int x1, .int q10.1]) (rest := []) ⟨hx, hb, hml, hown, hts⟩ (ct_Ref_mayFollow l D cI cJ cC adK adV A_m A_m_text A_m_kind A_m_amount A_m_newKind A_m_newAmount A_m_variable A_m_sort A_m_left A_m_right A_m_what A_m_result A_m_root A_m_relation A_m_operands A_m_operators A_m_functions A_m_output A_m_tasks A_m_forms A_m_formLength A_m_row A_m_statuses A_m_outcomes A_m_heights H11.size m_length m_tokens m_newTokens m_nodes m_sums m_links m_operandMany m_operatorMany m_status m_outcome m_outputLength m_taskMany q10.1 q10.2.1 q10.2.2 m_depth m_linkMany m_isRange m_primes x1 q10.1 hq13) (cwV 2 hts gX12_check_X12_mayFollow rfl rfl rfl (by decide +kernel) ⟨Nat.le_of_ble_eq_true rfl, Nat.le_of_ble_eq_true rfl⟩) ⟨zblind, va_recv hK hP (ci := 11) (q0 := 0) rfl rfl, zpre hX hS hFc hPc hK hDc⟩ rfl rfl hl.1 rfl (lv_room (Nat.le_of_ble_eq_true rfl)) dX12_check_76 ⟨Nat.zero_le _, Nat.zero_le _⟩) hP hD hS hFc [0] rfl (by decide) rfl rfl (fun H14 locs hP hD hS => ?_)
            refine lv_if_ne (tgt := 84) hx hb dX12_check_79 (by decide) (fun c15 => ?_) (fun c15 => ?_)
            · have hM := z_f c15 hM
              refine lv_aload_n hx hb dX12_check_84 rfl (lv_at hl 0 rfl) ?_
              refine lv_aload_n hx hb dX12_check_85 rfl (lv_at hl 0 rfl) ?_
              refine va_get (D := D) (ci := 11) (v := .int q10.1) (C := RX12) (T := TX12) (N := 43) hx hb hts hw0 hown hK hP 0 rfl rfl 32 (by decide) hw7 (fun _ h9 => h9) rfl dX12_check_86 ?_
              obtain ⟨q16, hq16, hM⟩ := z_b hM
              obtain ⟨hPc, hDc, hFc⟩ := zcut (wc := [(A_m, .inr (11, (.int m_length :: .ref A_m_text :: .int m_tokens :: .ref A_m_kind :: .ref A_m_amount :: .int m_newTokens :: .ref A_m_newKind :: .ref A_m_newAmount :: .ref A_m_variable :: .int m_nodes :: .ref A_m_sort :: .ref A_m_left :: .ref A_m_right :: .ref A_m_what :: .ref A_m_result :: .int m_sums :: .ref A_m_root :: .int m_links :: .ref A_m_relation :: .ref A_m_operands :: .int m_operandMany :: .ref A_m_operators :: .ref A_m_functions :: .int m_operatorMany :: .int m_status :: .long m_outcome :: .ref A_m_output :: .int m_outputLength :: .ref A_m_tasks :: .int m_taskMany :: .ref A_m_forms :: .ref A_m_formLength :: .int q10.1 :: .int q10.2.1 :: .int q10.2.2 :: .int m_depth :: .int m_linkMany :: .int m_isRange :: .int m_primes :: .ref A_m_row :: .ref A_m_statuses :: .ref A_m_outcomes :: .ref A_m_heights :: []))), (A_m_newKind, .inl (cI, 81, .inl m_newKind)), (A_m_newAmount, .inl (cI, 81, .inl m_newAmount))]) hP hD hS hA [0, 2, 3] rfl rfl (by decide)
              refine zc_v (ws' := [(A_m, .inr (11, (.int m_length :: .ref A_m_text :: .int m_tokens :: .ref A_m_kind :: .ref A_m_amount :: .int q16.1 :: .ref A_m_newKind :: .ref A_m_newAmount :: .ref A_m_variable :: .int m_nodes :: .ref A_m_sort :: .ref A_m_left :: .ref A_m_right :: .ref A_m_what :: .ref A_m_result :: .int m_sums :: .ref A_m_root :: .int m_links :: .ref A_m_relation :: .ref A_m_operands :: .int m_operandMany :: .ref A_m_operators :: .ref A_m_functions :: .int m_operatorMany :: .int m_status :: .long m_outcome :: .ref A_m_output :: .int m_outputLength :: .ref A_m_tasks :: .int m_taskMany :: .ref A_m_forms :: .ref A_m_formLength :: .int q10.1 :: .int q10.2.1 :: .int q10.2.2 :: .int q16.2.1 :: .int q16.2.2.1 :: .int q16.2.2.2.1 :: .int q16.2.2.2.2.1 :: .ref A_m_row :: .ref A_m_statuses :: .ref A_m_outcomes :: .ref A_m_heights :: []))), (A_m_text, .inl (cI, 80, .inl m_text)), (A_m_newKind, .inl (cI, 81, .inl q16.2.2.2.2.2.1)), (A_m_newAmount, .inl (cI, 81, .inl q16.2.2.2.2.2.2))]) (va_runV (As := [.int q10.1]) (rest := []) ⟨hx, hb, hml, hown, hts⟩ (ct_Ref_notes l D cI cJ cC adK adV A_m A_m_text A_m_kind A_m_amount A_m_newKind A_m_newAmount A_m_variable A_m_sort A_m_left A_m_right A_m_what A_m_result A_m_root A_m_relation A_m_operands A_m_operators A_m_functions A_m_output A_m_tasks A_m_forms A_m_formLength A_m_row A_m_statuses A_m_outcomes A_m_heights H14.size m_length m_tokens m_newTokens m_nodes m_sums m_links m_operandMany m_operatorMany m_status m_outcome m_outputLength m_taskMany q10.1 q10.2.1 q10.2.2 m_depth m_linkMany m_isRange m_primes m_newKind m_newAmount q10.1 hq16) (cwV 1 hts gX12_check_X12_notes rfl rfl rfl (by decide +kernel) ⟨Nat.le_of_ble_eq_true rfl, Nat.le_of_ble_eq_true rfl⟩) ⟨zblind, va_recv hK hP (ci := 11) (q0 := 0) rfl rfl, zpre hX hS hFc hPc hK hDc⟩ rfl rfl hl.1 rfl (lv_room (Nat.le_of_ble_eq_true rfl)) dX12_check_89 ⟨Nat.zero_le _, Nat.zero_le _⟩) hP hD hS hFc [0, 2, 3] rfl (by decide) rfl rfl (fun H17 locs hP hD hS => ?_)
              refine lv_aload_n hx hb dX12_check_92 rfl (lv_at hl 0 rfl) ?_
              refine va_get (D := D) (ci := 11) (v := .int q10.1) (C := RX12) (T := TX12) (N := 43) hx hb hts hw0 hown hK hP 0 rfl rfl 32 (by decide) hw7 (fun _ h9 => h9) rfl dX12_check_93 ?_
              refine lv_istore_n (lv' := [(1, .int q10.1), (0, .ref A_m), (2, .int x2)]) hx hb dX12_check_96 rfl hl (by decide) rfl (fun ls hl => ?_)
              refine lv_aload_n hx hb dX12_check_97 rfl (lv_at hl 1 rfl) ?_
              refine va_get (D := D) (ci := 11) (v := .int q10.2.2) (C := RX12) (T := TX12) (N := 43) hx hb hts hw0 hown hK hP 0 rfl rfl 34 (by decide) hw8 (fun _ h9 => h9) rfl dX12_check_98 ?_
              refine lv_istore_n (lv' := [(2, .int q10.2.2), (1, .int q10.1), (0, .ref A_m)]) hx hb dX12_check_101 rfl hl (by decide) rfl (fun ls hl => ?_)
              refine lv_goto (tgt := 29) hx hb dX12_check_102 (by decide) ?_
              exact ih q16.1 q10.1 q10.2.1 q10.2.2 q16.2.1 q16.2.2.1 q16.2.2.2.1 q16.2.2.2.2.1 q16.2.2.2.2.2.1 q16.2.2.2.2.2.2 q10.1 q10.2.2 _ _ ls hP hD hS (lv_sub hl [2, 1, 0] rfl) hM
            · have hM := z_t c15 hM
              refine lv_iload_n hx hb dX12_check_82 rfl (lv_at hl 2 rfl) ?_
              have hM := Option.some.inj hM
              subst hM
              exact W.iret (v := x2) hx hb hr (fun t ht hW => ⟨⟨_, (), rfl, rfl, ⟨by rw [ht]; exact hP, va_K.moved hW.alike hK, hD⟩⟩, hS.F ht⟩) hS.2.2 dX12_check_83
        · have hM := z_f c9 hM
          refine lv_goto (tgt := 105) hx hb dX12_check_53 (by decide) ?_
          refine lv_aload_n hx hb dX12_check_105 rfl (lv_at hl 0 rfl) ?_
          refine va_get (D := D) (ci := 11) (v := .ref A_m_newKind) (C := RX12) (T := TX12) (N := 43) hx hb hts hw0 hown hK hP 0 rfl rfl 6 (by decide) hw9 (fun _ h9 => h9) rfl dX12_check_106 ?_
          refine lv_aload_n hx hb dX12_check_109 rfl (lv_at hl 0 rfl) ?_
          refine va_get (D := D) (ci := 11) (v := .int m_newTokens) (C := RX12) (T := TX12) (N := 43) hx hb hts hw0 hown hK hP 0 rfl rfl 5 (by decide) hw1 (fun _ h9 => h9) rfl dX12_check_110 ?_
          refine lv_bipush (v := 20) hx hb dX12_check_113 (by decide) ?_
          obtain ⟨g18, hM⟩ := z_g hM
          refine va_iast hx hb hK hP hD hS 2 0 rfl rfl g18 dX12_check_115 (fun H19 locs hP hD hS => ?_)
          have hP : va_P D vwCl [(A_m, .inr (11, (.int m_length :: .ref A_m_text :: .int m_tokens :: .ref A_m_kind :: .ref A_m_amount :: .int m_newTokens :: .ref A_m_newKind :: .ref A_m_newAmount :: .ref A_m_variable :: .int m_nodes :: .ref A_m_sort :: .ref A_m_left :: .ref A_m_right :: .ref A_m_what :: .ref A_m_result :: .int m_sums :: .ref A_m_root :: .int m_links :: .ref A_m_relation :: .ref A_m_operands :: .int m_operandMany :: .ref A_m_operators :: .ref A_m_functions :: .int m_operatorMany :: .int m_status :: .long m_outcome :: .ref A_m_output :: .int m_outputLength :: .ref A_m_tasks :: .int m_taskMany :: .ref A_m_forms :: .ref A_m_formLength :: .int m_token :: .int m_tokenAmount :: .int m_ahead :: .int m_depth :: .int m_linkMany :: .int m_isRange :: .int m_primes :: .ref A_m_row :: .ref A_m_statuses :: .ref A_m_outcomes :: .ref A_m_heights :: []))), (A_m_text, .inl (cI, 80, .inl m_text)), (A_m_newKind, .inl (cI, 81, .inl (upd m_newKind m_newTokens.toNatClampNeg 20))), (A_m_newAmount, .inl (cI, 81, .inl m_newAmount))] H19 := hP
          have hD : va_D A [(A_m, .inr (11, (.int m_length :: .ref A_m_text :: .int m_tokens :: .ref A_m_kind :: .ref A_m_amount :: .int m_newTokens :: .ref A_m_newKind :: .ref A_m_newAmount :: .ref A_m_variable :: .int m_nodes :: .ref A_m_sort :: .ref A_m_left :: .ref A_m_right :: .ref A_m_what :: .ref A_m_result :: .int m_sums :: .ref A_m_root :: .int m_links :: .ref A_m_relation :: .ref A_m_operands :: .int m_operandMany :: .ref A_m_operators :: .ref A_m_functions :: .int m_operatorMany :: .int m_status :: .long m_outcome :: .ref A_m_output :: .int m_outputLength :: .ref A_m_tasks :: .int m_taskMany :: .ref A_m_forms :: .ref A_m_formLength :: .int m_token :: .int m_tokenAmount :: .int m_ahead :: .int m_depth :: .int m_linkMany :: .int m_isRange :: .int m_primes :: .ref A_m_row :: .ref A_m_statuses :: .ref A_m_outcomes :: .ref A_m_heights :: []))), (A_m_text, .inl (cI, 80, .inl m_text)), (A_m_newKind, .inl (cI, 81, .inl (upd m_newKind m_newTokens.toNatClampNeg 20))), (A_m_newAmount, .inl (cI, 81, .inl m_newAmount))] := hD
          refine lv_iload_n hx hb dX12_check_116 rfl (lv_at hl 1 rfl) ?_
          refine lv_iconst (v := 1) hx hb dX12_check_117 (by decide) ?_
          refine lv_icmp_eq (tgt := 132) hx hb dX12_check_118 (by decide) (fun c20 => ?_) (fun c20 => ?_)
          · have hM := z_t c20 hM
            exact B_132_1  m_newTokens m_token m_tokenAmount m_ahead m_depth m_linkMany m_isRange m_primes (upd m_newKind m_newTokens.toNatClampNeg 20) m_newAmount _ _ ls hP hD hS (lv_sub hl [0] rfl) hM
          · have hM := z_f c20 hM
            refine lv_iload_n hx hb dX12_check_121 rfl (lv_at hl 1 rfl) ?_
            refine lv_iconst (v := 2) hx hb dX12_check_122 (by decide) ?_
            refine lv_icmp_eq (tgt := 132) hx hb dX12_check_123 (by decide) (fun c24 => ?_) (fun c24 => ?_)
            · have hM := z_t c24 hM
              exact B_132_1  m_newTokens m_token m_tokenAmount m_ahead m_depth m_linkMany m_isRange m_primes (upd m_newKind m_newTokens.toNatClampNeg 20) m_newAmount _ _ ls hP hD hS (lv_sub hl [0] rfl) hM
            · have hM := z_f c24 hM
              refine lv_iload_n hx hb dX12_check_126 rfl (lv_at hl 1 rfl) ?_
              refine lv_bipush (v := 11) hx hb dX12_check_127 (by decide) ?_
              refine lv_icmp_ne (tgt := 136) hx hb dX12_check_129 (by decide) (fun c25 => ?_) (fun c25 => ?_)
              · have hM := z_f c25 hM
                refine lv_iconst (v := 0) hx hb dX12_check_136 (by decide) ?_
                exact B_137_2  m_newTokens m_token m_tokenAmount m_ahead m_depth m_linkMany m_isRange m_primes (upd m_newKind m_newTokens.toNatClampNeg 20) m_newAmount 0 _ _ ls hP hD hS (lv_sub hl [0] rfl) hM
              · have hM := z_t c25 hM
                exact B_132_1  m_newTokens m_token m_tokenAmount m_ahead m_depth m_linkMany m_isRange m_primes (upd m_newKind m_newTokens.toNatClampNeg 20) m_newAmount _ _ ls hP hD hS (lv_sub hl [0] rfl) hM
      · have hM := z_t c8 hM
        refine lv_iinc (v := (x2 + 1)) (lv' := [(2, .int (x2 + 1)), (0, .ref A_m), (1, .int x1)]) hx hb dX12_check_39 hl (k := 2) rfl rfl (by decide) rfl (fun ls hl => ?_)
        refine lv_goto (tgt := 29) hx hb dX12_check_42 (by decide) ?_
        exact ih m_newTokens m_token m_tokenAmount m_ahead m_depth m_linkMany m_isRange m_primes m_newKind m_newAmount x1 (x2 + 1) _ _ ls hP hD hS (lv_sub hl [1, 2, 0] rfl) hM
  refine lv_aload_n hx hb dX12_check_0 rfl (lv_at hl 0 rfl) ?_
  refine lv_iconst (v := 0) hx hb dX12_check_1 (by decide) ?_
  refine va_put (D := D) (ci := 11) (v := .int 0) (ty := .int) (C := RX12) (T := TX12) (N := 43) hx hb hts hw0 tyX12 tyX12_ok nmX12 hown hK hP hD hS 0 rfl rfl 5 (by decide) hw1 (fun _ h9 => h9) rfl (by decide +kernel) rfl rfl (Nat.le_of_ble_eq_true rfl) dX12_check_2 (fun H1 locs hP hD hS => ?_)
  have hP : va_P D vwCl [(A_m, .inr (11, (.int m_length :: .ref A_m_text :: .int m_tokens :: .ref A_m_kind :: .ref A_m_amount :: .int 0 :: .ref A_m_newKind :: .ref A_m_newAmount :: .ref A_m_variable :: .int m_nodes :: .ref A_m_sort :: .ref A_m_left :: .ref A_m_right :: .ref A_m_what :: .ref A_m_result :: .int m_sums :: .ref A_m_root :: .int m_links :: .ref A_m_relation :: .ref A_m_operands :: .int m_operandMany :: .ref A_m_operators :: .ref A_m_functions :: .int m_operatorMany :: .int m_status :: .long m_outcome :: .ref A_m_output :: .int m_outputLength :: .ref A_m_tasks :: .int m_taskMany :: .ref A_m_forms :: .ref A_m_formLength :: .int m_token :: .int m_tokenAmount :: .int m_ahead :: .int m_depth :: .int m_linkMany :: .int m_isRange :: .int m_primes :: .ref A_m_row :: .ref A_m_statuses :: .ref A_m_outcomes :: .ref A_m_heights :: []))), (A_m_text, .inl (cI, 80, .inl m_text)), (A_m_newKind, .inl (cI, 81, .inl m_newKind)), (A_m_newAmount, .inl (cI, 81, .inl m_newAmount))] H1 := hP
  have hD : va_D A [(A_m, .inr (11, (.int m_length :: .ref A_m_text :: .int m_tokens :: .ref A_m_kind :: .ref A_m_amount :: .int 0 :: .ref A_m_newKind :: .ref A_m_newAmount :: .ref A_m_variable :: .int m_nodes :: .ref A_m_sort :: .ref A_m_left :: .ref A_m_right :: .ref A_m_what :: .ref A_m_result :: .int m_sums :: .ref A_m_root :: .int m_links :: .ref A_m_relation :: .ref A_m_operands :: .int m_operandMany :: .ref A_m_operators :: .ref A_m_functions :: .int m_operatorMany :: .int m_status :: .long m_outcome :: .ref A_m_output :: .int m_outputLength :: .ref A_m_tasks :: .int m_taskMany :: .ref A_m_forms :: .ref A_m_formLength :: .int m_token :: .int m_tokenAmount :: .int m_ahead :: .int m_depth :: .int m_linkMany :: .int m_isRange :: .int m_primes :: .ref A_m_row :: .ref A_m_statuses :: .ref A_m_outcomes :: .ref A_m_heights :: []))), (A_m_text, .inl (cI, 80, .inl m_text)), (A_m_newKind, .inl (cI, 81, .inl m_newKind)), (A_m_newAmount, .inl (cI, 81, .inl m_newAmount))] := hD
  refine lv_aload_n hx hb dX12_check_5 rfl (lv_at hl 0 rfl) ?_
  refine lv_iconst (v := 0) hx hb dX12_check_6 (by decide) ?_
  refine va_put (D := D) (ci := 11) (v := .int 0) (ty := .int) (C := RX12) (T := TX12) (N := 43) hx hb hts hw0 tyX12 tyX12_ok nmX12 hown hK hP hD hS 0 rfl rfl 35 (by decide) hw2 (fun _ h9 => h9) rfl (by decide +kernel) rfl rfl (Nat.le_of_ble_eq_true rfl) dX12_check_7 (fun H2 locs hP hD hS => ?_)
  have hP : va_P D vwCl [(A_m, .inr (11, (.int m_length :: .ref A_m_text :: .int m_tokens :: .ref A_m_kind :: .ref A_m_amount :: .int 0 :: .ref A_m_newKind :: .ref A_m_newAmount :: .ref A_m_variable :: .int m_nodes :: .ref A_m_sort :: .ref A_m_left :: .ref A_m_right :: .ref A_m_what :: .ref A_m_result :: .int m_sums :: .ref A_m_root :: .int m_links :: .ref A_m_relation :: .ref A_m_operands :: .int m_operandMany :: .ref A_m_operators :: .ref A_m_functions :: .int m_operatorMany :: .int m_status :: .long m_outcome :: .ref A_m_output :: .int m_outputLength :: .ref A_m_tasks :: .int m_taskMany :: .ref A_m_forms :: .ref A_m_formLength :: .int m_token :: .int m_tokenAmount :: .int m_ahead :: .int 0 :: .int m_linkMany :: .int m_isRange :: .int m_primes :: .ref A_m_row :: .ref A_m_statuses :: .ref A_m_outcomes :: .ref A_m_heights :: []))), (A_m_text, .inl (cI, 80, .inl m_text)), (A_m_newKind, .inl (cI, 81, .inl m_newKind)), (A_m_newAmount, .inl (cI, 81, .inl m_newAmount))] H2 := hP
  have hD : va_D A [(A_m, .inr (11, (.int m_length :: .ref A_m_text :: .int m_tokens :: .ref A_m_kind :: .ref A_m_amount :: .int 0 :: .ref A_m_newKind :: .ref A_m_newAmount :: .ref A_m_variable :: .int m_nodes :: .ref A_m_sort :: .ref A_m_left :: .ref A_m_right :: .ref A_m_what :: .ref A_m_result :: .int m_sums :: .ref A_m_root :: .int m_links :: .ref A_m_relation :: .ref A_m_operands :: .int m_operandMany :: .ref A_m_operators :: .ref A_m_functions :: .int m_operatorMany :: .int m_status :: .long m_outcome :: .ref A_m_output :: .int m_outputLength :: .ref A_m_tasks :: .int m_taskMany :: .ref A_m_forms :: .ref A_m_formLength :: .int m_token :: .int m_tokenAmount :: .int m_ahead :: .int 0 :: .int m_linkMany :: .int m_isRange :: .int m_primes :: .ref A_m_row :: .ref A_m_statuses :: .ref A_m_outcomes :: .ref A_m_heights :: []))), (A_m_text, .inl (cI, 80, .inl m_text)), (A_m_newKind, .inl (cI, 81, .inl m_newKind)), (A_m_newAmount, .inl (cI, 81, .inl m_newAmount))] := hD
  refine lv_aload_n hx hb dX12_check_10 rfl (lv_at hl 0 rfl) ?_
  refine lv_iconst (v := 0) hx hb dX12_check_11 (by decide) ?_
  refine va_put (D := D) (ci := 11) (v := .int 0) (ty := .int) (C := RX12) (T := TX12) (N := 43) hx hb hts hw0 tyX12 tyX12_ok nmX12 hown hK hP hD hS 0 rfl rfl 36 (by decide) hw3 (fun _ h9 => h9) rfl (by decide +kernel) rfl rfl (Nat.le_of_ble_eq_true rfl) dX12_check_12 (fun H3 locs hP hD hS => ?_)
  have hP : va_P D vwCl [(A_m, .inr (11, (.int m_length :: .ref A_m_text :: .int m_tokens :: .ref A_m_kind :: .ref A_m_amount :: .int 0 :: .ref A_m_newKind :: .ref A_m_newAmount :: .ref A_m_variable :: .int m_nodes :: .ref A_m_sort :: .ref A_m_left :: .ref A_m_right :: .ref A_m_what :: .ref A_m_result :: .int m_sums :: .ref A_m_root :: .int m_links :: .ref A_m_relation :: .ref A_m_operands :: .int m_operandMany :: .ref A_m_operators :: .ref A_m_functions :: .int m_operatorMany :: .int m_status :: .long m_outcome :: .ref A_m_output :: .int m_outputLength :: .ref A_m_tasks :: .int m_taskMany :: .ref A_m_forms :: .ref A_m_formLength :: .int m_token :: .int m_tokenAmount :: .int m_ahead :: .int 0 :: .int 0 :: .int m_isRange :: .int m_primes :: .ref A_m_row :: .ref A_m_statuses :: .ref A_m_outcomes :: .ref A_m_heights :: []))), (A_m_text, .inl (cI, 80, .inl m_text)), (A_m_newKind, .inl (cI, 81, .inl m_newKind)), (A_m_newAmount, .inl (cI, 81, .inl m_newAmount))] H3 := hP
  have hD : va_D A [(A_m, .inr (11, (.int m_length :: .ref A_m_text :: .int m_tokens :: .ref A_m_kind :: .ref A_m_amount :: .int 0 :: .ref A_m_newKind :: .ref A_m_newAmount :: .ref A_m_variable :: .int m_nodes :: .ref A_m_sort :: .ref A_m_left :: .ref A_m_right :: .ref A_m_what :: .ref A_m_result :: .int m_sums :: .ref A_m_root :: .int m_links :: .ref A_m_relation :: .ref A_m_operands :: .int m_operandMany :: .ref A_m_operators :: .ref A_m_functions :: .int m_operatorMany :: .int m_status :: .long m_outcome :: .ref A_m_output :: .int m_outputLength :: .ref A_m_tasks :: .int m_taskMany :: .ref A_m_forms :: .ref A_m_formLength :: .int m_token :: .int m_tokenAmount :: .int m_ahead :: .int 0 :: .int 0 :: .int m_isRange :: .int m_primes :: .ref A_m_row :: .ref A_m_statuses :: .ref A_m_outcomes :: .ref A_m_heights :: []))), (A_m_text, .inl (cI, 80, .inl m_text)), (A_m_newKind, .inl (cI, 81, .inl m_newKind)), (A_m_newAmount, .inl (cI, 81, .inl m_newAmount))] := hD
  refine lv_aload_n hx hb dX12_check_15 rfl (lv_at hl 0 rfl) ?_
  refine lv_iconst (v := 0) hx hb dX12_check_16 (by decide) ?_
  refine va_put (D := D) (ci := 11) (v := .int 0) (ty := .boolean) (C := RX12) (T := TX12) (N := 43) hx hb hts hw0 tyX12 tyX12_ok nmX12 hown hK hP hD hS 0 rfl rfl 37 (by decide) hw4 (fun _ h9 => h9) rfl (by decide +kernel) rfl rfl (Nat.le_of_ble_eq_true rfl) dX12_check_17 (fun H4 locs hP hD hS => ?_)
  have hP : va_P D vwCl [(A_m, .inr (11, (.int m_length :: .ref A_m_text :: .int m_tokens :: .ref A_m_kind :: .ref A_m_amount :: .int 0 :: .ref A_m_newKind :: .ref A_m_newAmount :: .ref A_m_variable :: .int m_nodes :: .ref A_m_sort :: .ref A_m_left :: .ref A_m_right :: .ref A_m_what :: .ref A_m_result :: .int m_sums :: .ref A_m_root :: .int m_links :: .ref A_m_relation :: .ref A_m_operands :: .int m_operandMany :: .ref A_m_operators :: .ref A_m_functions :: .int m_operatorMany :: .int m_status :: .long m_outcome :: .ref A_m_output :: .int m_outputLength :: .ref A_m_tasks :: .int m_taskMany :: .ref A_m_forms :: .ref A_m_formLength :: .int m_token :: .int m_tokenAmount :: .int m_ahead :: .int 0 :: .int 0 :: .int 0 :: .int m_primes :: .ref A_m_row :: .ref A_m_statuses :: .ref A_m_outcomes :: .ref A_m_heights :: []))), (A_m_text, .inl (cI, 80, .inl m_text)), (A_m_newKind, .inl (cI, 81, .inl m_newKind)), (A_m_newAmount, .inl (cI, 81, .inl m_newAmount))] H4 := hP
  have hD : va_D A [(A_m, .inr (11, (.int m_length :: .ref A_m_text :: .int m_tokens :: .ref A_m_kind :: .ref A_m_amount :: .int 0 :: .ref A_m_newKind :: .ref A_m_newAmount :: .ref A_m_variable :: .int m_nodes :: .ref A_m_sort :: .ref A_m_left :: .ref A_m_right :: .ref A_m_what :: .ref A_m_result :: .int m_sums :: .ref A_m_root :: .int m_links :: .ref A_m_relation :: .ref A_m_operands :: .int m_operandMany :: .ref A_m_operators :: .ref A_m_functions :: .int m_operatorMany :: .int m_status :: .long m_outcome :: .ref A_m_output :: .int m_outputLength :: .ref A_m_tasks :: .int m_taskMany :: .ref A_m_forms :: .ref A_m_formLength :: .int m_token :: .int m_tokenAmount :: .int m_ahead :: .int 0 :: .int 0 :: .int 0 :: .int m_primes :: .ref A_m_row :: .ref A_m_statuses :: .ref A_m_outcomes :: .ref A_m_heights :: []))), (A_m_text, .inl (cI, 80, .inl m_text)), (A_m_newKind, .inl (cI, 81, .inl m_newKind)), (A_m_newAmount, .inl (cI, 81, .inl m_newAmount))] := hD
  refine lv_aload_n hx hb dX12_check_20 rfl (lv_at hl 0 rfl) ?_
  refine lv_iconst (v := 0) hx hb dX12_check_21 (by decide) ?_
  refine va_put (D := D) (ci := 11) (v := .int 0) (ty := .int) (C := RX12) (T := TX12) (N := 43) hx hb hts hw0 tyX12 tyX12_ok nmX12 hown hK hP hD hS 0 rfl rfl 38 (by decide) hw5 (fun _ h9 => h9) rfl (by decide +kernel) rfl rfl (Nat.le_of_ble_eq_true rfl) dX12_check_22 (fun H5 locs hP hD hS => ?_)
  have hP : va_P D vwCl [(A_m, .inr (11, (.int m_length :: .ref A_m_text :: .int m_tokens :: .ref A_m_kind :: .ref A_m_amount :: .int 0 :: .ref A_m_newKind :: .ref A_m_newAmount :: .ref A_m_variable :: .int m_nodes :: .ref A_m_sort :: .ref A_m_left :: .ref A_m_right :: .ref A_m_what :: .ref A_m_result :: .int m_sums :: .ref A_m_root :: .int m_links :: .ref A_m_relation :: .ref A_m_operands :: .int m_operandMany :: .ref A_m_operators :: .ref A_m_functions :: .int m_operatorMany :: .int m_status :: .long m_outcome :: .ref A_m_output :: .int m_outputLength :: .ref A_m_tasks :: .int m_taskMany :: .ref A_m_forms :: .ref A_m_formLength :: .int m_token :: .int m_tokenAmount :: .int m_ahead :: .int 0 :: .int 0 :: .int 0 :: .int 0 :: .ref A_m_row :: .ref A_m_statuses :: .ref A_m_outcomes :: .ref A_m_heights :: []))), (A_m_text, .inl (cI, 80, .inl m_text)), (A_m_newKind, .inl (cI, 81, .inl m_newKind)), (A_m_newAmount, .inl (cI, 81, .inl m_newAmount))] H5 := hP
  have hD : va_D A [(A_m, .inr (11, (.int m_length :: .ref A_m_text :: .int m_tokens :: .ref A_m_kind :: .ref A_m_amount :: .int 0 :: .ref A_m_newKind :: .ref A_m_newAmount :: .ref A_m_variable :: .int m_nodes :: .ref A_m_sort :: .ref A_m_left :: .ref A_m_right :: .ref A_m_what :: .ref A_m_result :: .int m_sums :: .ref A_m_root :: .int m_links :: .ref A_m_relation :: .ref A_m_operands :: .int m_operandMany :: .ref A_m_operators :: .ref A_m_functions :: .int m_operatorMany :: .int m_status :: .long m_outcome :: .ref A_m_output :: .int m_outputLength :: .ref A_m_tasks :: .int m_taskMany :: .ref A_m_forms :: .ref A_m_formLength :: .int m_token :: .int m_tokenAmount :: .int m_ahead :: .int 0 :: .int 0 :: .int 0 :: .int 0 :: .ref A_m_row :: .ref A_m_statuses :: .ref A_m_outcomes :: .ref A_m_heights :: []))), (A_m_text, .inl (cI, 80, .inl m_text)), (A_m_newKind, .inl (cI, 81, .inl m_newKind)), (A_m_newAmount, .inl (cI, 81, .inl m_newAmount))] := hD
  refine lv_iconst (v := 0) hx hb dX12_check_25 (by decide) ?_
  refine lv_istore_n (lv' := [(1, .int 0), (0, .ref A_m)]) hx hb dX12_check_26 rfl hl (by decide) rfl (fun ls hl => ?_)
  refine lv_iconst (v := 0) hx hb dX12_check_27 (by decide) ?_
  refine lv_istore_n (lv' := [(2, .int 0), (1, .int 0), (0, .ref A_m)]) hx hb dX12_check_28 rfl hl (by decide) rfl (fun ls hl => ?_)
  exact L_29_0  zFU 0 m_token m_tokenAmount m_ahead 0 0 0 0 m_newKind m_newAmount 0 0 _ _ ls hP hD hS (lv_sub hl [2, 1, 0] rfl) hM
def fn_Ref_syntaxError (m_length : Int32) (m_newTokens : Int32) (m_token : Int32) (m_tokenAmount : Int32) (m_ahead : Int32) (m_depth : Int32) (m_linkMany : Int32) (m_isRange : Int32) (m_primes : Int32) (m_text : Nat → Int32) (m_newKind : Nat → Int32) (m_newAmount : Nat → Int32) : Option (Int32 × Int32 × Int32 × Int32 × Int32 × Int32 × Int32 × Int32 × Int32 × (Nat → Int32) × (Nat → Int32)) := ((fn_Ref_check m_length m_newTokens m_token m_tokenAmount m_ahead m_depth m_linkMany m_isRange m_primes m_text m_newKind m_newAmount).bind fun q1 => some (q1.1, q1.2.1, q1.2.2.1, q1.2.2.2.1, q1.2.2.2.2.1, q1.2.2.2.2.2.1, q1.2.2.2.2.2.2.1, q1.2.2.2.2.2.2.2.1, q1.2.2.2.2.2.2.2.2.1, q1.2.2.2.2.2.2.2.2.2.1, q1.2.2.2.2.2.2.2.2.2.2))
set_option maxHeartbeats 40000000 in
set_option maxRecDepth 100000 in
theorem ct_Ref_syntaxError (l : Launch) (D : va_G) (cI cJ cC : ClassId) (adK adV : Nat → Nat) (A_m A_m_text A_m_kind A_m_amount A_m_newKind A_m_newAmount A_m_variable A_m_sort A_m_left A_m_right A_m_what A_m_result A_m_root A_m_relation A_m_operands A_m_operators A_m_functions A_m_output A_m_tasks A_m_forms A_m_formLength A_m_row A_m_statuses A_m_outcomes A_m_heights : Nat) (sz : Nat) (m_length : Int32) (m_tokens : Int32) (m_newTokens : Int32) (m_nodes : Int32) (m_sums : Int32) (m_links : Int32) (m_operandMany : Int32) (m_operatorMany : Int32) (m_status : Int32) (m_outcome : Int64) (m_outputLength : Int32) (m_taskMany : Int32) (m_token : Int32) (m_tokenAmount : Int32) (m_ahead : Int32) (m_depth : Int32) (m_linkMany : Int32) (m_isRange : Int32) (m_primes : Int32) (m_text : Nat → Int32) (m_newKind : Nat → Int32) (m_newAmount : Nat → Int32) {rs : Int32 × Int32 × Int32 × Int32 × Int32 × Int32 × Int32 × Int32 × Int32 × (Nat → Int32) × (Nat → Int32)} (hM : fn_Ref_syntaxError m_length m_newTokens m_token m_tokenAmount m_ahead m_depth m_linkMany m_isRange m_primes m_text m_newKind m_newAmount = some rs) : Met l yX12_syntaxError wsX12_syntaxError ({ frames := 4, cells := 0, slots := 0, locals := 93 } : Room) (zP D cI cJ cC adK adV [.ref A_m] sz [(A_m, .inr (11, (.int m_length :: .ref A_m_text :: .int m_tokens :: .ref A_m_kind :: .ref A_m_amount :: .int m_newTokens :: .ref A_m_newKind :: .ref A_m_newAmount :: .ref A_m_variable :: .int m_nodes :: .ref A_m_sort :: .ref A_m_left :: .ref A_m_right :: .ref A_m_what :: .ref A_m_result :: .int m_sums :: .ref A_m_root :: .int m_links :: .ref A_m_relation :: .ref A_m_operands :: .int m_operandMany :: .ref A_m_operators :: .ref A_m_functions :: .int m_operatorMany :: .int m_status :: .long m_outcome :: .ref A_m_output :: .int m_outputLength :: .ref A_m_tasks :: .int m_taskMany :: .ref A_m_forms :: .ref A_m_formLength :: .int m_token :: .int m_tokenAmount :: .int m_ahead :: .int m_depth :: .int m_linkMany :: .int m_isRange :: .int m_primes :: .ref A_m_row :: .ref A_m_statuses :: .ref A_m_outcomes :: .ref A_m_heights :: []))), (A_m_text, .inl (cI, 80, .inl m_text)), (A_m_newKind, .inl (cI, 81, .inl m_newKind)), (A_m_newAmount, .inl (cI, 81, .inl m_newAmount))]) (zQi D cI cJ cC rs.1 [(A_m, .inr (11, (.int m_length :: .ref A_m_text :: .int m_tokens :: .ref A_m_kind :: .ref A_m_amount :: .int rs.2.1 :: .ref A_m_newKind :: .ref A_m_newAmount :: .ref A_m_variable :: .int m_nodes :: .ref A_m_sort :: .ref A_m_left :: .ref A_m_right :: .ref A_m_what :: .ref A_m_result :: .int m_sums :: .ref A_m_root :: .int m_links :: .ref A_m_relation :: .ref A_m_operands :: .int m_operandMany :: .ref A_m_operators :: .ref A_m_functions :: .int m_operatorMany :: .int m_status :: .long m_outcome :: .ref A_m_output :: .int m_outputLength :: .ref A_m_tasks :: .int m_taskMany :: .ref A_m_forms :: .ref A_m_formLength :: .int rs.2.2.1 :: .int rs.2.2.2.1 :: .int rs.2.2.2.2.1 :: .int rs.2.2.2.2.2.1 :: .int rs.2.2.2.2.2.2.1 :: .int rs.2.2.2.2.2.2.2.1 :: .int rs.2.2.2.2.2.2.2.2.1 :: .ref A_m_row :: .ref A_m_statuses :: .ref A_m_outcomes :: .ref A_m_heights :: []))), (A_m_text, .inl (cI, 80, .inl m_text)), (A_m_newKind, .inl (cI, 81, .inl rs.2.2.2.2.2.2.2.2.2.1)), (A_m_newAmount, .inl (cI, 81, .inl rs.2.2.2.2.2.2.2.2.2.2))] (va_A [(A_m, .inr (11, (.int m_length :: .ref A_m_text :: .int m_tokens :: .ref A_m_kind :: .ref A_m_amount :: .int m_newTokens :: .ref A_m_newKind :: .ref A_m_newAmount :: .ref A_m_variable :: .int m_nodes :: .ref A_m_sort :: .ref A_m_left :: .ref A_m_right :: .ref A_m_what :: .ref A_m_result :: .int m_sums :: .ref A_m_root :: .int m_links :: .ref A_m_relation :: .ref A_m_operands :: .int m_operandMany :: .ref A_m_operators :: .ref A_m_functions :: .int m_operatorMany :: .int m_status :: .long m_outcome :: .ref A_m_output :: .int m_outputLength :: .ref A_m_tasks :: .int m_taskMany :: .ref A_m_forms :: .ref A_m_formLength :: .int m_token :: .int m_tokenAmount :: .int m_ahead :: .int m_depth :: .int m_linkMany :: .int m_isRange :: .int m_primes :: .ref A_m_row :: .ref A_m_statuses :: .ref A_m_outcomes :: .ref A_m_heights :: []))), (A_m_text, .inl (cI, 80, .inl m_text)), (A_m_newKind, .inl (cI, 81, .inl m_newKind)), (A_m_newAmount, .inl (cI, 81, .inl m_newAmount))] sz)) 0 0 (va_A [(A_m, .inr (11, (.int m_length :: .ref A_m_text :: .int m_tokens :: .ref A_m_kind :: .ref A_m_amount :: .int m_newTokens :: .ref A_m_newKind :: .ref A_m_newAmount :: .ref A_m_variable :: .int m_nodes :: .ref A_m_sort :: .ref A_m_left :: .ref A_m_right :: .ref A_m_what :: .ref A_m_result :: .int m_sums :: .ref A_m_root :: .int m_links :: .ref A_m_relation :: .ref A_m_operands :: .int m_operandMany :: .ref A_m_operators :: .ref A_m_functions :: .int m_operatorMany :: .int m_status :: .long m_outcome :: .ref A_m_output :: .int m_outputLength :: .ref A_m_tasks :: .int m_taskMany :: .ref A_m_forms :: .ref A_m_formLength :: .int m_token :: .int m_tokenAmount :: .int m_ahead :: .int m_depth :: .int m_linkMany :: .int m_isRange :: .int m_primes :: .ref A_m_row :: .ref A_m_statuses :: .ref A_m_outcomes :: .ref A_m_heights :: []))), (A_m_text, .inl (cI, 80, .inl m_text)), (A_m_newKind, .inl (cI, 81, .inl m_newKind)), (A_m_newAmount, .inl (cI, 81, .inl m_newAmount))] sz) := by
  refine Met.ofW (cc := cX12_syntaxError) (maxL := 1) (ret := (some .int)) (by decide) rfl ?_
  intro p e s m args below meth c s₁ B hml hv0
  obtain ⟨hargs, hsz, hP, hK, hD0, hX⟩ := hv0
  have hx := B.exec
  have hb := B.bytes
  have hr := B.returns
  have hts := atoms_spec (ws := wsX12_syntaxError) B.pre
  have hown : s.vm.findClass RX12 = some m.cls := findClass_of_methodNamed B.named
  have hlocks := B.notSynchronized
  subst hsz
  have hD := hD0.self (sz := s.heap.size)
  generalize hAe : va_A [(A_m, .inr (11, (.int m_length :: .ref A_m_text :: .int m_tokens :: .ref A_m_kind :: .ref A_m_amount :: .int m_newTokens :: .ref A_m_newKind :: .ref A_m_newAmount :: .ref A_m_variable :: .int m_nodes :: .ref A_m_sort :: .ref A_m_left :: .ref A_m_right :: .ref A_m_what :: .ref A_m_result :: .int m_sums :: .ref A_m_root :: .int m_links :: .ref A_m_relation :: .ref A_m_operands :: .int m_operandMany :: .ref A_m_operators :: .ref A_m_functions :: .int m_operatorMany :: .int m_status :: .long m_outcome :: .ref A_m_output :: .int m_outputLength :: .ref A_m_tasks :: .int m_taskMany :: .ref A_m_forms :: .ref A_m_formLength :: .int m_token :: .int m_tokenAmount :: .int m_ahead :: .int m_depth :: .int m_linkMany :: .int m_isRange :: .int m_primes :: .ref A_m_row :: .ref A_m_statuses :: .ref A_m_outcomes :: .ref A_m_heights :: []))), (A_m_text, .inl (cI, 80, .inl m_text)), (A_m_newKind, .inl (cI, 81, .inl m_newKind)), (A_m_newAmount, .inl (cI, 81, .inl m_newAmount))] s.heap.size = A at hD hX ⊢
  have hA : ∀ q : Nat, s.heap.size ≤ q → A q := fun q h => by rw [← hAe]; exact Or.inr h
  have hS : va_S A s.heap s.heap [] := va_S.rf
  have hl := lv_entry ([.ref A_m]) (n := 1) (Nat.le_of_ble_eq_true rfl)
  rw [hargs, lg_entry_eq, ← hargs]
  generalize (lg_sl ([.ref A_m]) ++ List.replicate (1 - (lg_sl ([.ref A_m])).length) Slot.unset).toArray = ls at hl ⊢
  have hl : lv_has ls 1 [(0, .ref A_m)] := hl
  refine lv_aload_n hx hb dX12_syntaxError_0 rfl (lv_at hl 0 rfl) ?_
  obtain ⟨q1, hq1, hM⟩ := z_b hM
  obtain ⟨hPc, hDc, hFc⟩ := zcut (wc := [(A_m, .inr (11, (.int m_length :: .ref A_m_text :: .int m_tokens :: .ref A_m_kind :: .ref A_m_amount :: .int m_newTokens :: .ref A_m_newKind :: .ref A_m_newAmount :: .ref A_m_variable :: .int m_nodes :: .ref A_m_sort :: .ref A_m_left :: .ref A_m_right :: .ref A_m_what :: .ref A_m_result :: .int m_sums :: .ref A_m_root :: .int m_links :: .ref A_m_relation :: .ref A_m_operands :: .int m_operandMany :: .ref A_m_operators :: .ref A_m_functions :: .int m_operatorMany :: .int m_status :: .long m_outcome :: .ref A_m_output :: .int m_outputLength :: .ref A_m_tasks :: .int m_taskMany :: .ref A_m_forms :: .ref A_m_formLength :: .int m_token :: .int m_tokenAmount :: .int m_ahead :: .int m_depth :: .int m_linkMany :: .int m_isRange :: .int m_primes :: .ref A_m_row :: .ref A_m_statuses :: .ref A_m_outcomes :: .ref A_m_heights :: []))), (A_m_text, .inl (cI, 80, .inl m_text)), (A_m_newKind, .inl (cI, 81, .inl m_newKind)), (A_m_newAmount, .inl (cI, 81, .inl m_newAmount))]) hP hD hS hA [0, 1, 2, 3] rfl rfl (by decide)
  refine zc_i (ws' := [(A_m, .inr (11, (.int m_length :: .ref A_m_text :: .int m_tokens :: .ref A_m_kind :: .ref A_m_amount :: .int q1.2.1 :: .ref A_m_newKind :: .ref A_m_newAmount :: .ref A_m_variable :: .int m_nodes :: .ref A_m_sort :: .ref A_m_left :: .ref A_m_right :: .ref A_m_what :: .ref A_m_result :: .int m_sums :: .ref A_m_root :: .int m_links :: .ref A_m_relation :: .ref A_m_operands :: .int m_operandMany :: .ref A_m_operators :: .ref A_m_functions :: .int m_operatorMany :: .int m_status :: .long m_outcome :: .ref A_m_output :: .int m_outputLength :: .ref A_m_tasks :: .int m_taskMany :: .ref A_m_forms :: .ref A_m_formLength :: .int q1.2.2.1 :: .int q1.2.2.2.1 :: .int q1.2.2.2.2.1 :: .int q1.2.2.2.2.2.1 :: .int q1.2.2.2.2.2.2.1 :: .int q1.2.2.2.2.2.2.2.1 :: .int q1.2.2.2.2.2.2.2.2.1 :: .ref A_m_row :: .ref A_m_statuses :: .ref A_m_outcomes :: .ref A_m_heights :: []))), (A_m_text, .inl (cI, 80, .inl m_text)), (A_m_newKind, .inl (cI, 81, .inl q1.2.2.2.2.2.2.2.2.2.1)), (A_m_newAmount, .inl (cI, 81, .inl q1.2.2.2.2.2.2.2.2.2.2))]) (va_runV (As := []) (rest := []) ⟨hx, hb, hml, hown, hts⟩ (ct_Ref_check l D cI cJ cC adK adV A_m A_m_text A_m_kind A_m_amount A_m_newKind A_m_newAmount A_m_variable A_m_sort A_m_left A_m_right A_m_what A_m_result A_m_root A_m_relation A_m_operands A_m_operators A_m_functions A_m_output A_m_tasks A_m_forms A_m_formLength A_m_row A_m_statuses A_m_outcomes A_m_heights s.heap.size m_length m_tokens m_newTokens m_nodes m_sums m_links m_operandMany m_operatorMany m_status m_outcome m_outputLength m_taskMany m_token m_tokenAmount m_ahead m_depth m_linkMany m_isRange m_primes m_text m_newKind m_newAmount hq1) (cwV 0 hts gX12_syntaxError_X12_check rfl rfl rfl (by decide +kernel) ⟨Nat.le_of_ble_eq_true rfl, Nat.le_of_ble_eq_true rfl⟩) ⟨zblind, va_recv hK hP (ci := 11) (q0 := 0) rfl rfl, zpre hX hS hFc hPc hK hDc⟩ rfl rfl hl.1 rfl (lv_room (Nat.le_of_ble_eq_true rfl)) dX12_syntaxError_1 ⟨Nat.zero_le _, Nat.zero_le _⟩) hP hD hS hFc [0, 1, 2, 3] rfl (by decide) rfl rfl (fun H2 locs hP hD hS => ?_)
  have hM := Option.some.inj hM
  subst hM
  exact W.iret (v := q1.1) hx hb hr (fun t ht hW => ⟨⟨_, (), rfl, rfl, ⟨by rw [ht]; exact hP, va_K.moved hW.alike hK, hD⟩⟩, hS.F ht⟩) hS.2.2 dX12_syntaxError_4
def fn_Ref_accept_L22 (m_length : Int32) (m_text : Nat → Int32) : Nat → Int32 → Int32 → Int32 → Int32 → Int32 → Int32 → Int32 → Int32 → Int32 → (Nat → Int32) → (Nat → Int32) → (Nat → Int32) → (Nat → Int32) → Int32 → Option (Int32 × Int32 × Int32 × Int32 × Int32 × Int32 × Int32 × Int32 × Int32 × Int32 × (Nat → Int32) × (Nat → Int32) × (Nat → Int32) × (Nat → Int32))
  | 0 => fun _ _ _ _ _ _ _ _ _ _ _ _ _ _ => none
  | n + 1 => fun m_tokens m_newTokens m_token m_tokenAmount m_ahead m_depth m_linkMany m_isRange m_primes m_kind m_amount m_newKind m_newAmount x1 => (if m_tokens < x1 then some (m_linkMany, m_tokens, m_newTokens, m_token, m_tokenAmount, m_ahead, m_depth, m_linkMany, m_isRange, m_primes, m_kind, m_amount, m_newKind, m_newAmount) else (if (x1 < 0 ∨ 81 ≤ x1.toNatClampNeg) then none else (if (x1 < 0 ∨ 81 ≤ x1.toNatClampNeg) then none else (if (x1 < 0 ∨ 81 ≤ x1.toNatClampNeg) then none else (if (x1 < 0 ∨ 81 ≤ x1.toNatClampNeg) then none else (fn_Ref_accept_L22 m_length m_text n) m_tokens m_newTokens m_token m_tokenAmount m_ahead m_depth m_linkMany m_isRange m_primes (upd m_kind x1.toNatClampNeg (m_newKind x1.toNatClampNeg)) (upd m_amount x1.toNatClampNeg (m_newAmount x1.toNatClampNeg)) m_newKind m_newAmount (x1 + 1))))))
def fn_Ref_accept (m_length : Int32) (m_tokens : Int32) (m_newTokens : Int32) (m_token : Int32) (m_tokenAmount : Int32) (m_ahead : Int32) (m_depth : Int32) (m_linkMany : Int32) (m_isRange : Int32) (m_primes : Int32) (m_text : Nat → Int32) (m_kind : Nat → Int32) (m_amount : Nat → Int32) (m_newKind : Nat → Int32) (m_newAmount : Nat → Int32) : Option (Int32 × Int32 × Int32 × Int32 × Int32 × Int32 × Int32 × Int32 × Int32 × Int32 × (Nat → Int32) × (Nat → Int32) × (Nat → Int32) × (Nat → Int32)) := ((fn_Ref_check m_length m_newTokens m_token m_tokenAmount m_ahead m_depth m_linkMany m_isRange m_primes m_text m_newKind m_newAmount).bind fun q1 => (if q1.1 = (-3) then fn_Ref_accept_L22 m_length m_text zFU q1.2.1 q1.2.1 q1.2.2.1 q1.2.2.2.1 q1.2.2.2.2.1 q1.2.2.2.2.2.1 q1.2.2.2.2.2.2.1 q1.2.2.2.2.2.2.2.1 q1.2.2.2.2.2.2.2.2.1 m_kind m_amount q1.2.2.2.2.2.2.2.2.2.1 q1.2.2.2.2.2.2.2.2.2.2 0 else some ((-2), m_tokens, q1.2.1, q1.2.2.1, q1.2.2.2.1, q1.2.2.2.2.1, q1.2.2.2.2.2.1, q1.2.2.2.2.2.2.1, q1.2.2.2.2.2.2.2.1, q1.2.2.2.2.2.2.2.2.1, m_kind, m_amount, q1.2.2.2.2.2.2.2.2.2.1, q1.2.2.2.2.2.2.2.2.2.2)))
set_option maxHeartbeats 40000000 in
set_option maxRecDepth 100000 in
theorem ct_Ref_accept (l : Launch) (D : va_G) (cI cJ cC : ClassId) (adK adV : Nat → Nat) (A_m A_m_text A_m_kind A_m_amount A_m_newKind A_m_newAmount A_m_variable A_m_sort A_m_left A_m_right A_m_what A_m_result A_m_root A_m_relation A_m_operands A_m_operators A_m_functions A_m_output A_m_tasks A_m_forms A_m_formLength A_m_row A_m_statuses A_m_outcomes A_m_heights : Nat) (sz : Nat) (m_length : Int32) (m_tokens : Int32) (m_newTokens : Int32) (m_nodes : Int32) (m_sums : Int32) (m_links : Int32) (m_operandMany : Int32) (m_operatorMany : Int32) (m_status : Int32) (m_outcome : Int64) (m_outputLength : Int32) (m_taskMany : Int32) (m_token : Int32) (m_tokenAmount : Int32) (m_ahead : Int32) (m_depth : Int32) (m_linkMany : Int32) (m_isRange : Int32) (m_primes : Int32) (m_text : Nat → Int32) (m_kind : Nat → Int32) (m_amount : Nat → Int32) (m_newKind : Nat → Int32) (m_newAmount : Nat → Int32) {rs : Int32 × Int32 × Int32 × Int32 × Int32 × Int32 × Int32 × Int32 × Int32 × Int32 × (Nat → Int32) × (Nat → Int32) × (Nat → Int32) × (Nat → Int32)} (hM : fn_Ref_accept m_length m_tokens m_newTokens m_token m_tokenAmount m_ahead m_depth m_linkMany m_isRange m_primes m_text m_kind m_amount m_newKind m_newAmount = some rs) : Met l yX12_accept wsX12_accept ({ frames := 4, cells := 0, slots := 0, locals := 93 } : Room) (zP D cI cJ cC adK adV [.ref A_m] sz [(A_m, .inr (11, (.int m_length :: .ref A_m_text :: .int m_tokens :: .ref A_m_kind :: .ref A_m_amount :: .int m_newTokens :: .ref A_m_newKind :: .ref A_m_newAmount :: .ref A_m_variable :: .int m_nodes :: .ref A_m_sort :: .ref A_m_left :: .ref A_m_right :: .ref A_m_what :: .ref A_m_result :: .int m_sums :: .ref A_m_root :: .int m_links :: .ref A_m_relation :: .ref A_m_operands :: .int m_operandMany :: .ref A_m_operators :: .ref A_m_functions :: .int m_operatorMany :: .int m_status :: .long m_outcome :: .ref A_m_output :: .int m_outputLength :: .ref A_m_tasks :: .int m_taskMany :: .ref A_m_forms :: .ref A_m_formLength :: .int m_token :: .int m_tokenAmount :: .int m_ahead :: .int m_depth :: .int m_linkMany :: .int m_isRange :: .int m_primes :: .ref A_m_row :: .ref A_m_statuses :: .ref A_m_outcomes :: .ref A_m_heights :: []))), (A_m_text, .inl (cI, 80, .inl m_text)), (A_m_kind, .inl (cI, 81, .inl m_kind)), (A_m_amount, .inl (cI, 81, .inl m_amount)), (A_m_newKind, .inl (cI, 81, .inl m_newKind)), (A_m_newAmount, .inl (cI, 81, .inl m_newAmount))]) (zQi D cI cJ cC rs.1 [(A_m, .inr (11, (.int m_length :: .ref A_m_text :: .int rs.2.1 :: .ref A_m_kind :: .ref A_m_amount :: .int rs.2.2.1 :: .ref A_m_newKind :: .ref A_m_newAmount :: .ref A_m_variable :: .int m_nodes :: .ref A_m_sort :: .ref A_m_left :: .ref A_m_right :: .ref A_m_what :: .ref A_m_result :: .int m_sums :: .ref A_m_root :: .int m_links :: .ref A_m_relation :: .ref A_m_operands :: .int m_operandMany :: .ref A_m_operators :: .ref A_m_functions :: .int m_operatorMany :: .int m_status :: .long m_outcome :: .ref A_m_output :: .int m_outputLength :: .ref A_m_tasks :: .int m_taskMany :: .ref A_m_forms :: .ref A_m_formLength :: .int rs.2.2.2.1 :: .int rs.2.2.2.2.1 :: .int rs.2.2.2.2.2.1 :: .int rs.2.2.2.2.2.2.1 :: .int rs.2.2.2.2.2.2.2.1 :: .int rs.2.2.2.2.2.2.2.2.1 :: .int rs.2.2.2.2.2.2.2.2.2.1 :: .ref A_m_row :: .ref A_m_statuses :: .ref A_m_outcomes :: .ref A_m_heights :: []))), (A_m_text, .inl (cI, 80, .inl m_text)), (A_m_kind, .inl (cI, 81, .inl rs.2.2.2.2.2.2.2.2.2.2.1)), (A_m_amount, .inl (cI, 81, .inl rs.2.2.2.2.2.2.2.2.2.2.2.1)), (A_m_newKind, .inl (cI, 81, .inl rs.2.2.2.2.2.2.2.2.2.2.2.2.1)), (A_m_newAmount, .inl (cI, 81, .inl rs.2.2.2.2.2.2.2.2.2.2.2.2.2))] (va_A [(A_m, .inr (11, (.int m_length :: .ref A_m_text :: .int m_tokens :: .ref A_m_kind :: .ref A_m_amount :: .int m_newTokens :: .ref A_m_newKind :: .ref A_m_newAmount :: .ref A_m_variable :: .int m_nodes :: .ref A_m_sort :: .ref A_m_left :: .ref A_m_right :: .ref A_m_what :: .ref A_m_result :: .int m_sums :: .ref A_m_root :: .int m_links :: .ref A_m_relation :: .ref A_m_operands :: .int m_operandMany :: .ref A_m_operators :: .ref A_m_functions :: .int m_operatorMany :: .int m_status :: .long m_outcome :: .ref A_m_output :: .int m_outputLength :: .ref A_m_tasks :: .int m_taskMany :: .ref A_m_forms :: .ref A_m_formLength :: .int m_token :: .int m_tokenAmount :: .int m_ahead :: .int m_depth :: .int m_linkMany :: .int m_isRange :: .int m_primes :: .ref A_m_row :: .ref A_m_statuses :: .ref A_m_outcomes :: .ref A_m_heights :: []))), (A_m_text, .inl (cI, 80, .inl m_text)), (A_m_kind, .inl (cI, 81, .inl m_kind)), (A_m_amount, .inl (cI, 81, .inl m_amount)), (A_m_newKind, .inl (cI, 81, .inl m_newKind)), (A_m_newAmount, .inl (cI, 81, .inl m_newAmount))] sz)) 0 0 (va_A [(A_m, .inr (11, (.int m_length :: .ref A_m_text :: .int m_tokens :: .ref A_m_kind :: .ref A_m_amount :: .int m_newTokens :: .ref A_m_newKind :: .ref A_m_newAmount :: .ref A_m_variable :: .int m_nodes :: .ref A_m_sort :: .ref A_m_left :: .ref A_m_right :: .ref A_m_what :: .ref A_m_result :: .int m_sums :: .ref A_m_root :: .int m_links :: .ref A_m_relation :: .ref A_m_operands :: .int m_operandMany :: .ref A_m_operators :: .ref A_m_functions :: .int m_operatorMany :: .int m_status :: .long m_outcome :: .ref A_m_output :: .int m_outputLength :: .ref A_m_tasks :: .int m_taskMany :: .ref A_m_forms :: .ref A_m_formLength :: .int m_token :: .int m_tokenAmount :: .int m_ahead :: .int m_depth :: .int m_linkMany :: .int m_isRange :: .int m_primes :: .ref A_m_row :: .ref A_m_statuses :: .ref A_m_outcomes :: .ref A_m_heights :: []))), (A_m_text, .inl (cI, 80, .inl m_text)), (A_m_kind, .inl (cI, 81, .inl m_kind)), (A_m_amount, .inl (cI, 81, .inl m_amount)), (A_m_newKind, .inl (cI, 81, .inl m_newKind)), (A_m_newAmount, .inl (cI, 81, .inl m_newAmount))] sz) := by
  refine Met.ofW (cc := cX12_accept) (maxL := 2) (ret := (some .int)) (by decide) rfl ?_
  intro p e s m args below meth c s₁ B hml hv0
  obtain ⟨hargs, hsz, hP, hK, hD0, hX⟩ := hv0
  have hx := B.exec
  have hb := B.bytes
  have hr := B.returns
  have hts := atoms_spec (ws := wsX12_accept) B.pre
  have hown : s.vm.findClass RX12 = some m.cls := findClass_of_methodNamed B.named
  have hlocks := B.notSynchronized
  subst hsz
  have hD := hD0.self (sz := s.heap.size)
  generalize hAe : va_A [(A_m, .inr (11, (.int m_length :: .ref A_m_text :: .int m_tokens :: .ref A_m_kind :: .ref A_m_amount :: .int m_newTokens :: .ref A_m_newKind :: .ref A_m_newAmount :: .ref A_m_variable :: .int m_nodes :: .ref A_m_sort :: .ref A_m_left :: .ref A_m_right :: .ref A_m_what :: .ref A_m_result :: .int m_sums :: .ref A_m_root :: .int m_links :: .ref A_m_relation :: .ref A_m_operands :: .int m_operandMany :: .ref A_m_operators :: .ref A_m_functions :: .int m_operatorMany :: .int m_status :: .long m_outcome :: .ref A_m_output :: .int m_outputLength :: .ref A_m_tasks :: .int m_taskMany :: .ref A_m_forms :: .ref A_m_formLength :: .int m_token :: .int m_tokenAmount :: .int m_ahead :: .int m_depth :: .int m_linkMany :: .int m_isRange :: .int m_primes :: .ref A_m_row :: .ref A_m_statuses :: .ref A_m_outcomes :: .ref A_m_heights :: []))), (A_m_text, .inl (cI, 80, .inl m_text)), (A_m_kind, .inl (cI, 81, .inl m_kind)), (A_m_amount, .inl (cI, 81, .inl m_amount)), (A_m_newKind, .inl (cI, 81, .inl m_newKind)), (A_m_newAmount, .inl (cI, 81, .inl m_newAmount))] s.heap.size = A at hD hX ⊢
  have hA : ∀ q : Nat, s.heap.size ≤ q → A q := fun q h => by rw [← hAe]; exact Or.inr h
  have hS : va_S A s.heap s.heap [] := va_S.rf
  have hl := lv_entry ([.ref A_m]) (n := 2) (Nat.le_of_ble_eq_true rfl)
  rw [hargs, lg_entry_eq, ← hargs]
  generalize (lg_sl ([.ref A_m]) ++ List.replicate (2 - (lg_sl ([.ref A_m])).length) Slot.unset).toArray = ls at hl ⊢
  have hl : lv_has ls 2 [(0, .ref A_m)] := hl
  have hw0 : ∀ w ∈ u_ws RX12 TX12 43, w ∈ wsX12_accept := by decide +kernel
  have hw1 := hts (.fieldLink RX12 151 "NotationParserModel" "newTokens" "I") (by decide +kernel)
  have hw2 := hts (.fieldLink RX12 83 "NotationParserModel" "tokens" "I") (by decide +kernel)
  have hw3 := hts (.fieldLink RX12 145 "NotationParserModel" "linkMany" "I") (by decide +kernel)
  have hw4 := hts (.fieldLink RX12 13 "NotationParserModel" "kind" "[I") (by decide +kernel)
  have hw5 := hts (.fieldLink RX12 19 "NotationParserModel" "newKind" "[I") (by decide +kernel)
  have hw6 := hts (.fieldLink RX12 16 "NotationParserModel" "amount" "[I") (by decide +kernel)
  have hw7 := hts (.fieldLink RX12 22 "NotationParserModel" "newAmount" "[I") (by decide +kernel)
  have L_22_0 : ∀ (n : Nat) (m_tokens : Int32) (m_newTokens : Int32) (m_token : Int32) (m_tokenAmount : Int32) (m_ahead : Int32) (m_depth : Int32) (m_linkMany : Int32) (m_isRange : Int32) (m_primes : Int32) (m_kind : Nat → Int32) (m_amount : Nat → Int32) (m_newKind : Nat → Int32) (m_newAmount : Nat → Int32) (x1 : Int32) (H : Heap) (locs : List Loc) (ls : Array Slot), va_P D vwCl [(A_m, .inr (11, (.int m_length :: .ref A_m_text :: .int m_tokens :: .ref A_m_kind :: .ref A_m_amount :: .int m_newTokens :: .ref A_m_newKind :: .ref A_m_newAmount :: .ref A_m_variable :: .int m_nodes :: .ref A_m_sort :: .ref A_m_left :: .ref A_m_right :: .ref A_m_what :: .ref A_m_result :: .int m_sums :: .ref A_m_root :: .int m_links :: .ref A_m_relation :: .ref A_m_operands :: .int m_operandMany :: .ref A_m_operators :: .ref A_m_functions :: .int m_operatorMany :: .int m_status :: .long m_outcome :: .ref A_m_output :: .int m_outputLength :: .ref A_m_tasks :: .int m_taskMany :: .ref A_m_forms :: .ref A_m_formLength :: .int m_token :: .int m_tokenAmount :: .int m_ahead :: .int m_depth :: .int m_linkMany :: .int m_isRange :: .int m_primes :: .ref A_m_row :: .ref A_m_statuses :: .ref A_m_outcomes :: .ref A_m_heights :: []))), (A_m_text, .inl (cI, 80, .inl m_text)), (A_m_kind, .inl (cI, 81, .inl m_kind)), (A_m_amount, .inl (cI, 81, .inl m_amount)), (A_m_newKind, .inl (cI, 81, .inl m_newKind)), (A_m_newAmount, .inl (cI, 81, .inl m_newAmount))] H → va_D A [(A_m, .inr (11, (.int m_length :: .ref A_m_text :: .int m_tokens :: .ref A_m_kind :: .ref A_m_amount :: .int m_newTokens :: .ref A_m_newKind :: .ref A_m_newAmount :: .ref A_m_variable :: .int m_nodes :: .ref A_m_sort :: .ref A_m_left :: .ref A_m_right :: .ref A_m_what :: .ref A_m_result :: .int m_sums :: .ref A_m_root :: .int m_links :: .ref A_m_relation :: .ref A_m_operands :: .int m_operandMany :: .ref A_m_operators :: .ref A_m_functions :: .int m_operatorMany :: .int m_status :: .long m_outcome :: .ref A_m_output :: .int m_outputLength :: .ref A_m_tasks :: .int m_taskMany :: .ref A_m_forms :: .ref A_m_formLength :: .int m_token :: .int m_tokenAmount :: .int m_ahead :: .int m_depth :: .int m_linkMany :: .int m_isRange :: .int m_primes :: .ref A_m_row :: .ref A_m_statuses :: .ref A_m_outcomes :: .ref A_m_heights :: []))), (A_m_text, .inl (cI, 80, .inl m_text)), (A_m_kind, .inl (cI, 81, .inl m_kind)), (A_m_amount, .inl (cI, 81, .inl m_amount)), (A_m_newKind, .inl (cI, 81, .inl m_newKind)), (A_m_newAmount, .inl (cI, 81, .inl m_newAmount))] → va_S A s.heap H locs → lv_has ls 2 [(0, .ref A_m), (1, .int x1)] → fn_Ref_accept_L22 m_length m_text n m_tokens m_newTokens m_token m_tokenAmount m_ahead m_depth m_linkMany m_isRange m_primes m_kind m_amount m_newKind m_newAmount x1 = some rs → W p l e (headSpec wsX12_accept ({ frames := 4, cells := 0, slots := 0, locals := 93 } : Room)).room s m args below meth c H locs 0 0 (MQ below (zQi D cI cJ cC rs.1 [(A_m, .inr (11, (.int m_length :: .ref A_m_text :: .int rs.2.1 :: .ref A_m_kind :: .ref A_m_amount :: .int rs.2.2.1 :: .ref A_m_newKind :: .ref A_m_newAmount :: .ref A_m_variable :: .int m_nodes :: .ref A_m_sort :: .ref A_m_left :: .ref A_m_right :: .ref A_m_what :: .ref A_m_result :: .int m_sums :: .ref A_m_root :: .int m_links :: .ref A_m_relation :: .ref A_m_operands :: .int m_operandMany :: .ref A_m_operators :: .ref A_m_functions :: .int m_operatorMany :: .int m_status :: .long m_outcome :: .ref A_m_output :: .int m_outputLength :: .ref A_m_tasks :: .int m_taskMany :: .ref A_m_forms :: .ref A_m_formLength :: .int rs.2.2.2.1 :: .int rs.2.2.2.2.1 :: .int rs.2.2.2.2.2.1 :: .int rs.2.2.2.2.2.2.1 :: .int rs.2.2.2.2.2.2.2.1 :: .int rs.2.2.2.2.2.2.2.2.1 :: .int rs.2.2.2.2.2.2.2.2.2.1 :: .ref A_m_row :: .ref A_m_statuses :: .ref A_m_outcomes :: .ref A_m_heights :: []))), (A_m_text, .inl (cI, 80, .inl m_text)), (A_m_kind, .inl (cI, 81, .inl rs.2.2.2.2.2.2.2.2.2.2.1)), (A_m_amount, .inl (cI, 81, .inl rs.2.2.2.2.2.2.2.2.2.2.2.1)), (A_m_newKind, .inl (cI, 81, .inl rs.2.2.2.2.2.2.2.2.2.2.2.2.1)), (A_m_newAmount, .inl (cI, 81, .inl rs.2.2.2.2.2.2.2.2.2.2.2.2.2))] A) args s 0 0 A) (F0 m 22 ls []) := by
    intro  n
    induction n with
    | zero => intro m_tokens m_newTokens m_token m_tokenAmount m_ahead m_depth m_linkMany m_isRange m_primes m_kind m_amount m_newKind m_newAmount x1 H locs ls _ _ _ _ hM; exact z_n hM
    | succ n ih =>
      intro m_tokens m_newTokens m_token m_tokenAmount m_ahead m_depth m_linkMany m_isRange m_primes m_kind m_amount m_newKind m_newAmount x1 H locs ls hP hD hS hl hM
      refine lv_iload_n hx hb dX12_accept_22 rfl (lv_at hl 1 rfl) ?_
      refine lv_aload_n hx hb dX12_accept_23 rfl (lv_at hl 0 rfl) ?_
      refine va_get (D := D) (ci := 11) (v := .int m_tokens) (C := RX12) (T := TX12) (N := 43) hx hb hts hw0 hown hK hP 0 rfl rfl 2 (by decide) hw2 (fun _ h9 => h9) rfl dX12_accept_24 ?_
      refine lv_icmp_gt (tgt := 60) hx hb dX12_accept_27 (by decide) (fun c5 => ?_) (fun c5 => ?_)
      · have hM := z_t c5 hM
        refine lv_aload_n hx hb dX12_accept_60 rfl (lv_at hl 0 rfl) ?_
        refine va_get (D := D) (ci := 11) (v := .int m_linkMany) (C := RX12) (T := TX12) (N := 43) hx hb hts hw0 hown hK hP 0 rfl rfl 36 (by decide) hw3 (fun _ h9 => h9) rfl dX12_accept_61 ?_
        have hM := Option.some.inj hM
        subst hM
        exact W.iret (v := m_linkMany) hx hb hr (fun t ht hW => ⟨⟨_, (), rfl, rfl, ⟨by rw [ht]; exact hP, va_K.moved hW.alike hK, hD⟩⟩, hS.F ht⟩) hS.2.2 dX12_accept_64
      · have hM := z_f c5 hM
        refine lv_aload_n hx hb dX12_accept_30 rfl (lv_at hl 0 rfl) ?_
        refine va_get (D := D) (ci := 11) (v := .ref A_m_kind) (C := RX12) (T := TX12) (N := 43) hx hb hts hw0 hown hK hP 0 rfl rfl 3 (by decide) hw4 (fun _ h9 => h9) rfl dX12_accept_31 ?_
        refine lv_iload_n hx hb dX12_accept_34 rfl (lv_at hl 1 rfl) ?_
        refine lv_aload_n hx hb dX12_accept_35 rfl (lv_at hl 0 rfl) ?_
        refine va_get (D := D) (ci := 11) (v := .ref A_m_newKind) (C := RX12) (T := TX12) (N := 43) hx hb hts hw0 hown hK hP 0 rfl rfl 6 (by decide) hw5 (fun _ h9 => h9) rfl dX12_accept_36 ?_
        refine lv_iload_n hx hb dX12_accept_39 rfl (lv_at hl 1 rfl) ?_
        obtain ⟨g6, hM⟩ := z_g hM
        refine va_iald hx hb hK hP 4 0 rfl rfl g6 dX12_accept_40 ?_
        obtain ⟨g7, hM⟩ := z_g hM
        refine va_iast hx hb hK hP hD hS 2 0 rfl rfl g7 dX12_accept_41 (fun H8 locs hP hD hS => ?_)
        have hP : va_P D vwCl [(A_m, .inr (11, (.int m_length :: .ref A_m_text :: .int m_tokens :: .ref A_m_kind :: .ref A_m_amount :: .int m_newTokens :: .ref A_m_newKind :: .ref A_m_newAmount :: .ref A_m_variable :: .int m_nodes :: .ref A_m_sort :: .ref A_m_left :: .ref A_m_right :: .ref A_m_what :: .ref A_m_result :: .int m_sums :: .ref A_m_root :: .int m_links :: .ref A_m_relation :: .ref A_m_operands :: .int m_operandMany :: .ref A_m_operators :: .ref A_m_functions :: .int m_operatorMany :: .int m_status :: .long m_outcome :: .ref A_m_output :: .int m_outputLength :: .ref A_m_tasks :: .int m_taskMany :: .ref A_m_forms :: .ref A_m_formLength :: .int m_token :: .int m_tokenAmount :: .int m_ahead :: .int m_depth :: .int m_linkMany :: .int m_isRange :: .int m_primes :: .ref A_m_row :: .ref A_m_statuses :: .ref A_m_outcomes :: .ref A_m_heights :: []))), (A_m_text, .inl (cI, 80, .inl m_text)), (A_m_kind, .inl (cI, 81, .inl (upd m_kind x1.toNatClampNeg (m_newKind x1.toNatClampNeg)))), (A_m_amount, .inl (cI, 81, .inl m_amount)), (A_m_newKind, .inl (cI, 81, .inl m_newKind)), (A_m_newAmount, .inl (cI, 81, .inl m_newAmount))] H8 := hP
        have hD : va_D A [(A_m, .inr (11, (.int m_length :: .ref A_m_text :: .int m_tokens :: .ref A_m_kind :: .ref A_m_amount :: .int m_newTokens :: .ref A_m_newKind :: .ref A_m_newAmount :: .ref A_m_variable :: .int m_nodes :: .ref A_m_sort :: .ref A_m_left :: .ref A_m_right :: .ref A_m_what :: .ref A_m_result :: .int m_sums :: .ref A_m_root :: .int m_links :: .ref A_m_relation :: .ref A_m_operands :: .int m_operandMany :: .ref A_m_operators :: .ref A_m_functions :: .int m_operatorMany :: .int m_status :: .long m_outcome :: .ref A_m_output :: .int m_outputLength :: .ref A_m_tasks :: .int m_taskMany :: .ref A_m_forms :: .ref A_m_formLength :: .int m_token :: .int m_tokenAmount :: .int m_ahead :: .int m_depth :: .int m_linkMany :: .int m_isRange :: .int m_primes :: .ref A_m_row :: .ref A_m_statuses :: .ref A_m_outcomes :: .ref A_m_heights :: []))), (A_m_text, .inl (cI, 80, .inl m_text)), (A_m_kind, .inl (cI, 81, .inl (upd m_kind x1.toNatClampNeg (m_newKind x1.toNatClampNeg)))), (A_m_amount, .inl (cI, 81, .inl m_amount)), (A_m_newKind, .inl (cI, 81, .inl m_newKind)), (A_m_newAmount, .inl (cI, 81, .inl m_newAmount))] := hD
        refine lv_aload_n hx hb dX12_accept_42 rfl (lv_at hl 0 rfl) ?_
        refine va_get (D := D) (ci := 11) (v := .ref A_m_amount) (C := RX12) (T := TX12) (N := 43) hx hb hts hw0 hown hK hP 0 rfl rfl 4 (by decide) hw6 (fun _ h9 => h9) rfl dX12_accept_43 ?_
        refine lv_iload_n hx hb dX12_accept_46 rfl (lv_at hl 1 rfl) ?_
        refine lv_aload_n hx hb dX12_accept_47 rfl (lv_at hl 0 rfl) ?_
        refine va_get (D := D) (ci := 11) (v := .ref A_m_newAmount) (C := RX12) (T := TX12) (N := 43) hx hb hts hw0 hown hK hP 0 rfl rfl 7 (by decide) hw7 (fun _ h9 => h9) rfl dX12_accept_48 ?_
        refine lv_iload_n hx hb dX12_accept_51 rfl (lv_at hl 1 rfl) ?_
        obtain ⟨g9, hM⟩ := z_g hM
        refine va_iald hx hb hK hP 5 0 rfl rfl g9 dX12_accept_52 ?_
        obtain ⟨g10, hM⟩ := z_g hM
        refine va_iast hx hb hK hP hD hS 3 0 rfl rfl g10 dX12_accept_53 (fun H11 locs hP hD hS => ?_)
        have hP : va_P D vwCl [(A_m, .inr (11, (.int m_length :: .ref A_m_text :: .int m_tokens :: .ref A_m_kind :: .ref A_m_amount :: .int m_newTokens :: .ref A_m_newKind :: .ref A_m_newAmount :: .ref A_m_variable :: .int m_nodes :: .ref A_m_sort :: .ref A_m_left :: .ref A_m_right :: .ref A_m_what :: .ref A_m_result :: .int m_sums :: .ref A_m_root :: .int m_links :: .ref A_m_relation :: .ref A_m_operands :: .int m_operandMany :: .ref A_m_operators :: .ref A_m_functions :: .int m_operatorMany :: .int m_status :: .long m_outcome :: .ref A_m_output :: .int m_outputLength :: .ref A_m_tasks :: .int m_taskMany :: .ref A_m_forms :: .ref A_m_formLength :: .int m_token :: .int m_tokenAmount :: .int m_ahead :: .int m_depth :: .int m_linkMany :: .int m_isRange :: .int m_primes :: .ref A_m_row :: .ref A_m_statuses :: .ref A_m_outcomes :: .ref A_m_heights :: []))), (A_m_text, .inl (cI, 80, .inl m_text)), (A_m_kind, .inl (cI, 81, .inl (upd m_kind x1.toNatClampNeg (m_newKind x1.toNatClampNeg)))), (A_m_amount, .inl (cI, 81, .inl (upd m_amount x1.toNatClampNeg (m_newAmount x1.toNatClampNeg)))), (A_m_newKind, .inl (cI, 81, .inl m_newKind)), (A_m_newAmount, .inl (cI, 81, .inl m_newAmount))] H11 := hP
        have hD : va_D A [(A_m, .inr (11, (.int m_length :: .ref A_m_text :: .int m_tokens :: .ref A_m_kind :: .ref A_m_amount :: .int m_newTokens :: .ref A_m_newKind :: .ref A_m_newAmount :: .ref A_m_variable :: .int m_nodes :: .ref A_m_sort :: .ref A_m_left :: .ref A_m_right :: .ref A_m_what :: .ref A_m_result :: .int m_sums :: .ref A_m_root :: .int m_links :: .ref A_m_relation :: .ref A_m_operands :: .int m_operandMany :: .ref A_m_operators :: .ref A_m_functions :: .int m_operatorMany :: .int m_status :: .long m_outcome :: .ref A_m_output :: .int m_outputLength :: .ref A_m_tasks :: .int m_taskMany :: .ref A_m_forms :: .ref A_m_formLength :: .int m_token :: .int m_tokenAmount :: .int m_ahead :: .int m_depth :: .int m_linkMany :: .int m_isRange :: .int m_primes :: .ref A_m_row :: .ref A_m_statuses :: .ref A_m_outcomes :: .ref A_m_heights :: []))), (A_m_text, .inl (cI, 80, .inl m_text)), (A_m_kind, .inl (cI, 81, .inl (upd m_kind x1.toNatClampNeg (m_newKind x1.toNatClampNeg)))), (A_m_amount, .inl (cI, 81, .inl (upd m_amount x1.toNatClampNeg (m_newAmount x1.toNatClampNeg)))), (A_m_newKind, .inl (cI, 81, .inl m_newKind)), (A_m_newAmount, .inl (cI, 81, .inl m_newAmount))] := hD
        refine lv_iinc (v := (x1 + 1)) (lv' := [(1, .int (x1 + 1)), (0, .ref A_m)]) hx hb dX12_accept_54 hl (k := 1) rfl rfl (by decide) rfl (fun ls hl => ?_)
        refine lv_goto (tgt := 22) hx hb dX12_accept_57 (by decide) ?_
        exact ih m_tokens m_newTokens m_token m_tokenAmount m_ahead m_depth m_linkMany m_isRange m_primes (upd m_kind x1.toNatClampNeg (m_newKind x1.toNatClampNeg)) (upd m_amount x1.toNatClampNeg (m_newAmount x1.toNatClampNeg)) m_newKind m_newAmount (x1 + 1) _ _ ls hP hD hS (lv_sub hl [1, 0] rfl) hM
  refine lv_aload_n hx hb dX12_accept_0 rfl (lv_at hl 0 rfl) ?_
  obtain ⟨q1, hq1, hM⟩ := z_b hM
  obtain ⟨hPc, hDc, hFc⟩ := zcut (wc := [(A_m, .inr (11, (.int m_length :: .ref A_m_text :: .int m_tokens :: .ref A_m_kind :: .ref A_m_amount :: .int m_newTokens :: .ref A_m_newKind :: .ref A_m_newAmount :: .ref A_m_variable :: .int m_nodes :: .ref A_m_sort :: .ref A_m_left :: .ref A_m_right :: .ref A_m_what :: .ref A_m_result :: .int m_sums :: .ref A_m_root :: .int m_links :: .ref A_m_relation :: .ref A_m_operands :: .int m_operandMany :: .ref A_m_operators :: .ref A_m_functions :: .int m_operatorMany :: .int m_status :: .long m_outcome :: .ref A_m_output :: .int m_outputLength :: .ref A_m_tasks :: .int m_taskMany :: .ref A_m_forms :: .ref A_m_formLength :: .int m_token :: .int m_tokenAmount :: .int m_ahead :: .int m_depth :: .int m_linkMany :: .int m_isRange :: .int m_primes :: .ref A_m_row :: .ref A_m_statuses :: .ref A_m_outcomes :: .ref A_m_heights :: []))), (A_m_text, .inl (cI, 80, .inl m_text)), (A_m_newKind, .inl (cI, 81, .inl m_newKind)), (A_m_newAmount, .inl (cI, 81, .inl m_newAmount))]) hP hD hS hA [0, 1, 4, 5] rfl rfl (by decide)
  refine zc_i (ws' := [(A_m, .inr (11, (.int m_length :: .ref A_m_text :: .int m_tokens :: .ref A_m_kind :: .ref A_m_amount :: .int q1.2.1 :: .ref A_m_newKind :: .ref A_m_newAmount :: .ref A_m_variable :: .int m_nodes :: .ref A_m_sort :: .ref A_m_left :: .ref A_m_right :: .ref A_m_what :: .ref A_m_result :: .int m_sums :: .ref A_m_root :: .int m_links :: .ref A_m_relation :: .ref A_m_operands :: .int m_operandMany :: .ref A_m_operators :: .ref A_m_functions :: .int m_operatorMany :: .int m_status :: .long m_outcome :: .ref A_m_output :: .int m_outputLength :: .ref A_m_tasks :: .int m_taskMany :: .ref A_m_forms :: .ref A_m_formLength :: .int q1.2.2.1 :: .int q1.2.2.2.1 :: .int q1.2.2.2.2.1 :: .int q1.2.2.2.2.2.1 :: .int q1.2.2.2.2.2.2.1 :: .int q1.2.2.2.2.2.2.2.1 :: .int q1.2.2.2.2.2.2.2.2.1 :: .ref A_m_row :: .ref A_m_statuses :: .ref A_m_outcomes :: .ref A_m_heights :: []))), (A_m_text, .inl (cI, 80, .inl m_text)), (A_m_kind, .inl (cI, 81, .inl m_kind)), (A_m_amount, .inl (cI, 81, .inl m_amount)), (A_m_newKind, .inl (cI, 81, .inl q1.2.2.2.2.2.2.2.2.2.1)), (A_m_newAmount, .inl (cI, 81, .inl q1.2.2.2.2.2.2.2.2.2.2))]) (va_runV (As := []) (rest := []) ⟨hx, hb, hml, hown, hts⟩ (ct_Ref_check l D cI cJ cC adK adV A_m A_m_text A_m_kind A_m_amount A_m_newKind A_m_newAmount A_m_variable A_m_sort A_m_left A_m_right A_m_what A_m_result A_m_root A_m_relation A_m_operands A_m_operators A_m_functions A_m_output A_m_tasks A_m_forms A_m_formLength A_m_row A_m_statuses A_m_outcomes A_m_heights s.heap.size m_length m_tokens m_newTokens m_nodes m_sums m_links m_operandMany m_operatorMany m_status m_outcome m_outputLength m_taskMany m_token m_tokenAmount m_ahead m_depth m_linkMany m_isRange m_primes m_text m_newKind m_newAmount hq1) (cwV 0 hts gX12_accept_X12_check rfl rfl rfl (by decide +kernel) ⟨Nat.le_of_ble_eq_true rfl, Nat.le_of_ble_eq_true rfl⟩) ⟨zblind, va_recv hK hP (ci := 11) (q0 := 0) rfl rfl, zpre hX hS hFc hPc hK hDc⟩ rfl rfl hl.1 rfl (lv_room (Nat.le_of_ble_eq_true rfl)) dX12_accept_1 ⟨Nat.zero_le _, Nat.zero_le _⟩) hP hD hS hFc [0, 1, 4, 5] rfl (by decide) rfl rfl (fun H2 locs hP hD hS => ?_)
  refine lv_bipush (v := (-3)) hx hb dX12_accept_4 (by decide) ?_
  refine lv_icmp_eq (tgt := 12) hx hb dX12_accept_6 (by decide) (fun c3 => ?_) (fun c3 => ?_)
  · have hM := z_t c3 hM
    refine lv_aload_n hx hb dX12_accept_12 rfl (lv_at hl 0 rfl) ?_
    refine lv_aload_n hx hb dX12_accept_13 rfl (lv_at hl 0 rfl) ?_
    refine va_get (D := D) (ci := 11) (v := .int q1.2.1) (C := RX12) (T := TX12) (N := 43) hx hb hts hw0 hown hK hP 0 rfl rfl 5 (by decide) hw1 (fun _ h9 => h9) rfl dX12_accept_14 ?_
    refine va_put (D := D) (ci := 11) (v := .int q1.2.1) (ty := .int) (C := RX12) (T := TX12) (N := 43) hx hb hts hw0 tyX12 tyX12_ok nmX12 hown hK hP hD hS 0 rfl rfl 2 (by decide) hw2 (fun _ h9 => h9) rfl (by decide +kernel) rfl rfl (Nat.le_of_ble_eq_true rfl) dX12_accept_17 (fun H4 locs hP hD hS => ?_)
    have hP : va_P D vwCl [(A_m, .inr (11, (.int m_length :: .ref A_m_text :: .int q1.2.1 :: .ref A_m_kind :: .ref A_m_amount :: .int q1.2.1 :: .ref A_m_newKind :: .ref A_m_newAmount :: .ref A_m_variable :: .int m_nodes :: .ref A_m_sort :: .ref A_m_left :: .ref A_m_right :: .ref A_m_what :: .ref A_m_result :: .int m_sums :: .ref A_m_root :: .int m_links :: .ref A_m_relation :: .ref A_m_operands :: .int m_operandMany :: .ref A_m_operators :: .ref A_m_functions :: .int m_operatorMany :: .int m_status :: .long m_outcome :: .ref A_m_output :: .int m_outputLength :: .ref A_m_tasks :: .int m_taskMany :: .ref A_m_forms :: .ref A_m_formLength :: .int q1.2.2.1 :: .int q1.2.2.2.1 :: .int q1.2.2.2.2.1 :: .int q1.2.2.2.2.2.1 :: .int q1.2.2.2.2.2.2.1 :: .int q1.2.2.2.2.2.2.2.1 :: .int q1.2.2.2.2.2.2.2.2.1 :: .ref A_m_row :: .ref A_m_statuses :: .ref A_m_outcomes :: .ref A_m_heights :: []))), (A_m_text, .inl (cI, 80, .inl m_text)), (A_m_kind, .inl (cI, 81, .inl m_kind)), (A_m_amount, .inl (cI, 81, .inl m_amount)), (A_m_newKind, .inl (cI, 81, .inl q1.2.2.2.2.2.2.2.2.2.1)), (A_m_newAmount, .inl (cI, 81, .inl q1.2.2.2.2.2.2.2.2.2.2))] H4 := hP
    have hD : va_D A [(A_m, .inr (11, (.int m_length :: .ref A_m_text :: .int q1.2.1 :: .ref A_m_kind :: .ref A_m_amount :: .int q1.2.1 :: .ref A_m_newKind :: .ref A_m_newAmount :: .ref A_m_variable :: .int m_nodes :: .ref A_m_sort :: .ref A_m_left :: .ref A_m_right :: .ref A_m_what :: .ref A_m_result :: .int m_sums :: .ref A_m_root :: .int m_links :: .ref A_m_relation :: .ref A_m_operands :: .int m_operandMany :: .ref A_m_operators :: .ref A_m_functions :: .int m_operatorMany :: .int m_status :: .long m_outcome :: .ref A_m_output :: .int m_outputLength :: .ref A_m_tasks :: .int m_taskMany :: .ref A_m_forms :: .ref A_m_formLength :: .int q1.2.2.1 :: .int q1.2.2.2.1 :: .int q1.2.2.2.2.1 :: .int q1.2.2.2.2.2.1 :: .int q1.2.2.2.2.2.2.1 :: .int q1.2.2.2.2.2.2.2.1 :: .int q1.2.2.2.2.2.2.2.2.1 :: .ref A_m_row :: .ref A_m_statuses :: .ref A_m_outcomes :: .ref A_m_heights :: []))), (A_m_text, .inl (cI, 80, .inl m_text)), (A_m_kind, .inl (cI, 81, .inl m_kind)), (A_m_amount, .inl (cI, 81, .inl m_amount)), (A_m_newKind, .inl (cI, 81, .inl q1.2.2.2.2.2.2.2.2.2.1)), (A_m_newAmount, .inl (cI, 81, .inl q1.2.2.2.2.2.2.2.2.2.2))] := hD
    refine lv_iconst (v := 0) hx hb dX12_accept_20 (by decide) ?_
    refine lv_istore_n (lv' := [(1, .int 0), (0, .ref A_m)]) hx hb dX12_accept_21 rfl hl (by decide) rfl (fun ls hl => ?_)
    exact L_22_0  zFU q1.2.1 q1.2.1 q1.2.2.1 q1.2.2.2.1 q1.2.2.2.2.1 q1.2.2.2.2.2.1 q1.2.2.2.2.2.2.1 q1.2.2.2.2.2.2.2.1 q1.2.2.2.2.2.2.2.2.1 m_kind m_amount q1.2.2.2.2.2.2.2.2.2.1 q1.2.2.2.2.2.2.2.2.2.2 0 _ _ ls hP hD hS (lv_sub hl [1, 0] rfl) hM
  · have hM := z_f c3 hM
    refine lv_bipush (v := (-2)) hx hb dX12_accept_9 (by decide) ?_
    have hM := Option.some.inj hM
    subst hM
    exact W.iret (v := (-2)) hx hb hr (fun t ht hW => ⟨⟨_, (), rfl, rfl, ⟨by rw [ht]; exact hP, va_K.moved hW.alike hK, hD⟩⟩, hS.F ht⟩) hS.2.2 dX12_accept_11
def fn_Ref_setVariable (m_variable : Nat → Int32) (x1 : Int32) (x2 : Int32) : Option (Int32 × (Nat → Int32)) := (if (fn_Ref_in (x1).toInt64 0 25) = 0 then some ((-1), m_variable) else (if (fn_Ref_in (x2).toInt64 (-1000) 1000) = 0 then some ((-1), m_variable) else (if (x1 < 0 ∨ 26 ≤ x1.toNatClampNeg) then none else (if (x1 < 0 ∨ 26 ≤ x1.toNatClampNeg) then none else (if (m_variable x1.toNatClampNeg) = x2 then some (0, (upd m_variable x1.toNatClampNeg x2)) else some (1, (upd m_variable x1.toNatClampNeg x2)))))))
set_option maxHeartbeats 40000000 in
set_option maxRecDepth 100000 in
theorem ct_Ref_setVariable (l : Launch) (D : va_G) (cI cJ cC : ClassId) (adK adV : Nat → Nat) (A_m A_m_text A_m_kind A_m_amount A_m_newKind A_m_newAmount A_m_variable A_m_sort A_m_left A_m_right A_m_what A_m_result A_m_root A_m_relation A_m_operands A_m_operators A_m_functions A_m_output A_m_tasks A_m_forms A_m_formLength A_m_row A_m_statuses A_m_outcomes A_m_heights : Nat) (sz : Nat) (m_length : Int32) (m_tokens : Int32) (m_newTokens : Int32) (m_nodes : Int32) (m_sums : Int32) (m_links : Int32) (m_operandMany : Int32) (m_operatorMany : Int32) (m_status : Int32) (m_outcome : Int64) (m_outputLength : Int32) (m_taskMany : Int32) (m_token : Int32) (m_tokenAmount : Int32) (m_ahead : Int32) (m_depth : Int32) (m_linkMany : Int32) (m_isRange : Int32) (m_primes : Int32) (m_variable : Nat → Int32) (x1 : Int32) (x2 : Int32) {rs : Int32 × (Nat → Int32)} (hM : fn_Ref_setVariable m_variable x1 x2 = some rs) : Met l yX12_setVariable wsX12_setVariable ({ frames := 1, cells := 0, slots := 0, locals := 25 } : Room) (zP D cI cJ cC adK adV [.ref A_m, .int x1, .int x2] sz [(A_m, .inr (11, (.int m_length :: .ref A_m_text :: .int m_tokens :: .ref A_m_kind :: .ref A_m_amount :: .int m_newTokens :: .ref A_m_newKind :: .ref A_m_newAmount :: .ref A_m_variable :: .int m_nodes :: .ref A_m_sort :: .ref A_m_left :: .ref A_m_right :: .ref A_m_what :: .ref A_m_result :: .int m_sums :: .ref A_m_root :: .int m_links :: .ref A_m_relation :: .ref A_m_operands :: .int m_operandMany :: .ref A_m_operators :: .ref A_m_functions :: .int m_operatorMany :: .int m_status :: .long m_outcome :: .ref A_m_output :: .int m_outputLength :: .ref A_m_tasks :: .int m_taskMany :: .ref A_m_forms :: .ref A_m_formLength :: .int m_token :: .int m_tokenAmount :: .int m_ahead :: .int m_depth :: .int m_linkMany :: .int m_isRange :: .int m_primes :: .ref A_m_row :: .ref A_m_statuses :: .ref A_m_outcomes :: .ref A_m_heights :: []))), (A_m_variable, .inl (cI, 26, .inl m_variable))]) (zQi D cI cJ cC rs.1 [(A_m, .inr (11, (.int m_length :: .ref A_m_text :: .int m_tokens :: .ref A_m_kind :: .ref A_m_amount :: .int m_newTokens :: .ref A_m_newKind :: .ref A_m_newAmount :: .ref A_m_variable :: .int m_nodes :: .ref A_m_sort :: .ref A_m_left :: .ref A_m_right :: .ref A_m_what :: .ref A_m_result :: .int m_sums :: .ref A_m_root :: .int m_links :: .ref A_m_relation :: .ref A_m_operands :: .int m_operandMany :: .ref A_m_operators :: .ref A_m_functions :: .int m_operatorMany :: .int m_status :: .long m_outcome :: .ref A_m_output :: .int m_outputLength :: .ref A_m_tasks :: .int m_taskMany :: .ref A_m_forms :: .ref A_m_formLength :: .int m_token :: .int m_tokenAmount :: .int m_ahead :: .int m_depth :: .int m_linkMany :: .int m_isRange :: .int m_primes :: .ref A_m_row :: .ref A_m_statuses :: .ref A_m_outcomes :: .ref A_m_heights :: []))), (A_m_variable, .inl (cI, 26, .inl rs.2))] (va_A [(A_m, .inr (11, (.int m_length :: .ref A_m_text :: .int m_tokens :: .ref A_m_kind :: .ref A_m_amount :: .int m_newTokens :: .ref A_m_newKind :: .ref A_m_newAmount :: .ref A_m_variable :: .int m_nodes :: .ref A_m_sort :: .ref A_m_left :: .ref A_m_right :: .ref A_m_what :: .ref A_m_result :: .int m_sums :: .ref A_m_root :: .int m_links :: .ref A_m_relation :: .ref A_m_operands :: .int m_operandMany :: .ref A_m_operators :: .ref A_m_functions :: .int m_operatorMany :: .int m_status :: .long m_outcome :: .ref A_m_output :: .int m_outputLength :: .ref A_m_tasks :: .int m_taskMany :: .ref A_m_forms :: .ref A_m_formLength :: .int m_token :: .int m_tokenAmount :: .int m_ahead :: .int m_depth :: .int m_linkMany :: .int m_isRange :: .int m_primes :: .ref A_m_row :: .ref A_m_statuses :: .ref A_m_outcomes :: .ref A_m_heights :: []))), (A_m_variable, .inl (cI, 26, .inl m_variable))] sz)) 0 0 (va_A [(A_m, .inr (11, (.int m_length :: .ref A_m_text :: .int m_tokens :: .ref A_m_kind :: .ref A_m_amount :: .int m_newTokens :: .ref A_m_newKind :: .ref A_m_newAmount :: .ref A_m_variable :: .int m_nodes :: .ref A_m_sort :: .ref A_m_left :: .ref A_m_right :: .ref A_m_what :: .ref A_m_result :: .int m_sums :: .ref A_m_root :: .int m_links :: .ref A_m_relation :: .ref A_m_operands :: .int m_operandMany :: .ref A_m_operators :: .ref A_m_functions :: .int m_operatorMany :: .int m_status :: .long m_outcome :: .ref A_m_output :: .int m_outputLength :: .ref A_m_tasks :: .int m_taskMany :: .ref A_m_forms :: .ref A_m_formLength :: .int m_token :: .int m_tokenAmount :: .int m_ahead :: .int m_depth :: .int m_linkMany :: .int m_isRange :: .int m_primes :: .ref A_m_row :: .ref A_m_statuses :: .ref A_m_outcomes :: .ref A_m_heights :: []))), (A_m_variable, .inl (cI, 26, .inl m_variable))] sz) := by
  refine Met.ofW (cc := cX12_setVariable) (maxL := 4) (ret := (some .int)) (by decide) rfl ?_
  intro p e s m args below meth c s₁ B hml hv0
  obtain ⟨hargs, hsz, hP, hK, hD0, hX⟩ := hv0
  have hx := B.exec
  have hb := B.bytes
  have hr := B.returns
  have hts := atoms_spec (ws := wsX12_setVariable) B.pre
  have hown : s.vm.findClass RX12 = some m.cls := findClass_of_methodNamed B.named
  have hlocks := B.notSynchronized
  subst hsz
  have hD := hD0.self (sz := s.heap.size)
  generalize hAe : va_A [(A_m, .inr (11, (.int m_length :: .ref A_m_text :: .int m_tokens :: .ref A_m_kind :: .ref A_m_amount :: .int m_newTokens :: .ref A_m_newKind :: .ref A_m_newAmount :: .ref A_m_variable :: .int m_nodes :: .ref A_m_sort :: .ref A_m_left :: .ref A_m_right :: .ref A_m_what :: .ref A_m_result :: .int m_sums :: .ref A_m_root :: .int m_links :: .ref A_m_relation :: .ref A_m_operands :: .int m_operandMany :: .ref A_m_operators :: .ref A_m_functions :: .int m_operatorMany :: .int m_status :: .long m_outcome :: .ref A_m_output :: .int m_outputLength :: .ref A_m_tasks :: .int m_taskMany :: .ref A_m_forms :: .ref A_m_formLength :: .int m_token :: .int m_tokenAmount :: .int m_ahead :: .int m_depth :: .int m_linkMany :: .int m_isRange :: .int m_primes :: .ref A_m_row :: .ref A_m_statuses :: .ref A_m_outcomes :: .ref A_m_heights :: []))), (A_m_variable, .inl (cI, 26, .inl m_variable))] s.heap.size = A at hD hX ⊢
  have hA : ∀ q : Nat, s.heap.size ≤ q → A q := fun q h => by rw [← hAe]; exact Or.inr h
  have hS : va_S A s.heap s.heap [] := va_S.rf
  have hl := lv_entry ([.ref A_m, .int x1, .int x2]) (n := 4) (Nat.le_of_ble_eq_true rfl)
  rw [hargs, lg_entry_eq, ← hargs]
  generalize (lg_sl ([.ref A_m, .int x1, .int x2]) ++ List.replicate (4 - (lg_sl ([.ref A_m, .int x1, .int x2])).length) Slot.unset).toArray = ls at hl ⊢
  have hl : lv_has ls 4 [(0, .ref A_m), (1, .int x1), (2, .int x2)] := hl
  have hw0 : ∀ w ∈ u_ws RX12 TX12 43, w ∈ wsX12_setVariable := by decide +kernel
  have hw1 := hts (.fieldLink RX12 25 "NotationParserModel" "variable" "[I") (by decide +kernel)
  refine lv_iload_n hx hb dX12_setVariable_0 rfl (lv_at hl 1 rfl) ?_
  refine lv_i2l hx hb dX12_setVariable_1 rfl ?_
  refine lv_lconst (v := 0) hx hb dX12_setVariable_2 (by decide) ?_
  refine lv_ldc2 hx hb hown (hts (.constantLong RX12 169 25) (by decide +kernel)) dX12_setVariable_3 ?_
  obtain ⟨hPc, hDc, hFc⟩ := zcut (wc := []) hP hD hS hA [] rfl rfl (by decide)
  refine zc_i (ws' := [(A_m, .inr (11, (.int m_length :: .ref A_m_text :: .int m_tokens :: .ref A_m_kind :: .ref A_m_amount :: .int m_newTokens :: .ref A_m_newKind :: .ref A_m_newAmount :: .ref A_m_variable :: .int m_nodes :: .ref A_m_sort :: .ref A_m_left :: .ref A_m_right :: .ref A_m_what :: .ref A_m_result :: .int m_sums :: .ref A_m_root :: .int m_links :: .ref A_m_relation :: .ref A_m_operands :: .int m_operandMany :: .ref A_m_operators :: .ref A_m_functions :: .int m_operatorMany :: .int m_status :: .long m_outcome :: .ref A_m_output :: .int m_outputLength :: .ref A_m_tasks :: .int m_taskMany :: .ref A_m_forms :: .ref A_m_formLength :: .int m_token :: .int m_tokenAmount :: .int m_ahead :: .int m_depth :: .int m_linkMany :: .int m_isRange :: .int m_primes :: .ref A_m_row :: .ref A_m_statuses :: .ref A_m_outcomes :: .ref A_m_heights :: []))), (A_m_variable, .inl (cI, 26, .inl m_variable))]) (va_runS (As := [.long (x1).toInt64, .long 0, .long 25]) (rest := []) ⟨hx, hb, hml, hown, hts⟩ (ct_Ref_in l D cI cJ cC adK adV s.heap.size (x1).toInt64 0 25) (va_cwS 3 hts gX12_setVariable_X12_in rfl rfl rfl (by decide +kernel) ⟨Nat.le_of_ble_eq_true rfl, Nat.le_of_ble_eq_true rfl⟩) ⟨zblind, zpre hX hS hFc hPc hK hDc⟩ rfl rfl hl.1 rfl (lv_room (Nat.le_of_ble_eq_true rfl)) dX12_setVariable_6 ⟨Nat.zero_le _, Nat.zero_le _⟩) hP hD hS hFc [] rfl (by decide) rfl rfl (fun H2 locs hP hD hS => ?_)
  refine lv_if_eq (tgt := 26) hx hb dX12_setVariable_9 (by decide) (fun c3 => ?_) (fun c3 => ?_)
  · have hM := z_t c3 hM
    refine lv_iconst (v := (-1)) hx hb dX12_setVariable_26 (by decide) ?_
    have hM := Option.some.inj hM
    subst hM
    exact W.iret (v := (-1)) hx hb hr (fun t ht hW => ⟨⟨_, (), rfl, rfl, ⟨by rw [ht]; exact hP, va_K.moved hW.alike hK, hD⟩⟩, hS.F ht⟩) hS.2.2 dX12_setVariable_27
  · have hM := z_f c3 hM
    refine lv_iload_n hx hb dX12_setVariable_12 rfl (lv_at hl 2 rfl) ?_
    refine lv_i2l hx hb dX12_setVariable_13 rfl ?_
    refine lv_ldc2 hx hb hown (hts (.constantLong RX12 171 (-1000)) (by decide +kernel)) dX12_setVariable_14 ?_
    refine lv_ldc2 hx hb hown (hts (.constantLong RX12 173 1000) (by decide +kernel)) dX12_setVariable_17 ?_
    obtain ⟨hPc, hDc, hFc⟩ := zcut (wc := []) hP hD hS hA [] rfl rfl (by decide)
    refine zc_i (ws' := [(A_m, .inr (11, (.int m_length :: .ref A_m_text :: .int m_tokens :: .ref A_m_kind :: .ref A_m_amount :: .int m_newTokens :: .ref A_m_newKind :: .ref A_m_newAmount :: .ref A_m_variable :: .int m_nodes :: .ref A_m_sort :: .ref A_m_left :: .ref A_m_right :: .ref A_m_what :: .ref A_m_result :: .int m_sums :: .ref A_m_root :: .int m_links :: .ref A_m_relation :: .ref A_m_operands :: .int m_operandMany :: .ref A_m_operators :: .ref A_m_functions :: .int m_operatorMany :: .int m_status :: .long m_outcome :: .ref A_m_output :: .int m_outputLength :: .ref A_m_tasks :: .int m_taskMany :: .ref A_m_forms :: .ref A_m_formLength :: .int m_token :: .int m_tokenAmount :: .int m_ahead :: .int m_depth :: .int m_linkMany :: .int m_isRange :: .int m_primes :: .ref A_m_row :: .ref A_m_statuses :: .ref A_m_outcomes :: .ref A_m_heights :: []))), (A_m_variable, .inl (cI, 26, .inl m_variable))]) (va_runS (As := [.long (x2).toInt64, .long (-1000), .long 1000]) (rest := []) ⟨hx, hb, hml, hown, hts⟩ (ct_Ref_in l D cI cJ cC adK adV H2.size (x2).toInt64 (-1000) 1000) (va_cwS 3 hts gX12_setVariable_X12_in rfl rfl rfl (by decide +kernel) ⟨Nat.le_of_ble_eq_true rfl, Nat.le_of_ble_eq_true rfl⟩) ⟨zblind, zpre hX hS hFc hPc hK hDc⟩ rfl rfl hl.1 rfl (lv_room (Nat.le_of_ble_eq_true rfl)) dX12_setVariable_20 ⟨Nat.zero_le _, Nat.zero_le _⟩) hP hD hS hFc [] rfl (by decide) rfl rfl (fun H5 locs hP hD hS => ?_)
    refine lv_if_ne (tgt := 28) hx hb dX12_setVariable_23 (by decide) (fun c6 => ?_) (fun c6 => ?_)
    · have hM := z_f c6 hM
      refine lv_aload_n hx hb dX12_setVariable_28 rfl (lv_at hl 0 rfl) ?_
      refine va_get (D := D) (ci := 11) (v := .ref A_m_variable) (C := RX12) (T := TX12) (N := 43) hx hb hts hw0 hown hK hP 0 rfl rfl 8 (by decide) hw1 (fun _ h9 => h9) rfl dX12_setVariable_29 ?_
      refine lv_iload_n hx hb dX12_setVariable_32 rfl (lv_at hl 1 rfl) ?_
      obtain ⟨g7, hM⟩ := z_g hM
      refine va_iald hx hb hK hP 1 0 rfl rfl g7 dX12_setVariable_33 ?_
      refine lv_istore_n (lv' := [(3, .int (m_variable x1.toNatClampNeg)), (0, .ref A_m), (1, .int x1), (2, .int x2)]) hx hb dX12_setVariable_34 rfl hl (by decide) rfl (fun ls hl => ?_)
      refine lv_aload_n hx hb dX12_setVariable_35 rfl (lv_at hl 1 rfl) ?_
      refine va_get (D := D) (ci := 11) (v := .ref A_m_variable) (C := RX12) (T := TX12) (N := 43) hx hb hts hw0 hown hK hP 0 rfl rfl 8 (by decide) hw1 (fun _ h9 => h9) rfl dX12_setVariable_36 ?_
      refine lv_iload_n hx hb dX12_setVariable_39 rfl (lv_at hl 2 rfl) ?_
      refine lv_iload_n hx hb dX12_setVariable_40 rfl (lv_at hl 3 rfl) ?_
      obtain ⟨g8, hM⟩ := z_g hM
      refine va_iast hx hb hK hP hD hS 1 0 rfl rfl g8 dX12_setVariable_41 (fun H9 locs hP hD hS => ?_)
      have hP : va_P D vwCl [(A_m, .inr (11, (.int m_length :: .ref A_m_text :: .int m_tokens :: .ref A_m_kind :: .ref A_m_amount :: .int m_newTokens :: .ref A_m_newKind :: .ref A_m_newAmount :: .ref A_m_variable :: .int m_nodes :: .ref A_m_sort :: .ref A_m_left :: .ref A_m_right :: .ref A_m_what :: .ref A_m_result :: .int m_sums :: .ref A_m_root :: .int m_links :: .ref A_m_relation :: .ref A_m_operands :: .int m_operandMany :: .ref A_m_operators :: .ref A_m_functions :: .int m_operatorMany :: .int m_status :: .long m_outcome :: .ref A_m_output :: .int m_outputLength :: .ref A_m_tasks :: .int m_taskMany :: .ref A_m_forms :: .ref A_m_formLength :: .int m_token :: .int m_tokenAmount :: .int m_ahead :: .int m_depth :: .int m_linkMany :: .int m_isRange :: .int m_primes :: .ref A_m_row :: .ref A_m_statuses :: .ref A_m_outcomes :: .ref A_m_heights :: []))), (A_m_variable, .inl (cI, 26, .inl (upd m_variable x1.toNatClampNeg x2)))] H9 := hP
      have hD : va_D A [(A_m, .inr (11, (.int m_length :: .ref A_m_text :: .int m_tokens :: .ref A_m_kind :: .ref A_m_amount :: .int m_newTokens :: .ref A_m_newKind :: .ref A_m_newAmount :: .ref A_m_variable :: .int m_nodes :: .ref A_m_sort :: .ref A_m_left :: .ref A_m_right :: .ref A_m_what :: .ref A_m_result :: .int m_sums :: .ref A_m_root :: .int m_links :: .ref A_m_relation :: .ref A_m_operands :: .int m_operandMany :: .ref A_m_operators :: .ref A_m_functions :: .int m_operatorMany :: .int m_status :: .long m_outcome :: .ref A_m_output :: .int m_outputLength :: .ref A_m_tasks :: .int m_taskMany :: .ref A_m_forms :: .ref A_m_formLength :: .int m_token :: .int m_tokenAmount :: .int m_ahead :: .int m_depth :: .int m_linkMany :: .int m_isRange :: .int m_primes :: .ref A_m_row :: .ref A_m_statuses :: .ref A_m_outcomes :: .ref A_m_heights :: []))), (A_m_variable, .inl (cI, 26, .inl (upd m_variable x1.toNatClampNeg x2)))] := hD
      refine lv_iload_n hx hb dX12_setVariable_42 rfl (lv_at hl 0 rfl) ?_
      refine lv_iload_n hx hb dX12_setVariable_43 rfl (lv_at hl 3 rfl) ?_
      refine lv_icmp_ne (tgt := 51) hx hb dX12_setVariable_44 (by decide) (fun c10 => ?_) (fun c10 => ?_)
      · have hM := z_f c10 hM
        refine lv_iconst (v := 1) hx hb dX12_setVariable_51 (by decide) ?_
        have hM := Option.some.inj hM
        subst hM
        exact W.iret (v := 1) hx hb hr (fun t ht hW => ⟨⟨_, (), rfl, rfl, ⟨by rw [ht]; exact hP, va_K.moved hW.alike hK, hD⟩⟩, hS.F ht⟩) hS.2.2 dX12_setVariable_52
      · have hM := z_t c10 hM
        refine lv_iconst (v := 0) hx hb dX12_setVariable_47 (by decide) ?_
        refine lv_goto (tgt := 52) hx hb dX12_setVariable_48 (by decide) ?_
        have hM := Option.some.inj hM
        subst hM
        exact W.iret (v := 0) hx hb hr (fun t ht hW => ⟨⟨_, (), rfl, rfl, ⟨by rw [ht]; exact hP, va_K.moved hW.alike hK, hD⟩⟩, hS.F ht⟩) hS.2.2 dX12_setVariable_52
    · have hM := z_t c6 hM
      refine lv_iconst (v := (-1)) hx hb dX12_setVariable_26 (by decide) ?_
      have hM := Option.some.inj hM
      subst hM
      exact W.iret (v := (-1)) hx hb hr (fun t ht hW => ⟨⟨_, (), rfl, rfl, ⟨by rw [ht]; exact hP, va_K.moved hW.alike hK, hD⟩⟩, hS.F ht⟩) hS.2.2 dX12_setVariable_27
def fn_Ref_occurrences_b52 (m_tokens : Int32) (m_kind : Nat → Int32) (m_amount : Nat → Int32) (k_18_0 : Int32 → Int32 → Int32 → Option (Int32)) (x1 : Int32) (x3 : Int32) (k0 : Int32) (k1 : Int32) : Option (Int32) := k_18_0 x1 (k0 + k1) (x3 + 1)
def fn_Ref_occurrences_b51 (m_tokens : Int32) (m_kind : Nat → Int32) (m_amount : Nat → Int32) (k_18_0 : Int32 → Int32 → Int32 → Option (Int32)) (x1 : Int32) (x3 : Int32) (k0 : Int32) : Option (Int32) := fn_Ref_occurrences_b52 m_tokens m_kind m_amount k_18_0 x1 x3 k0 0
def fn_Ref_occurrences_L18 (m_tokens : Int32) (m_kind : Nat → Int32) (m_amount : Nat → Int32) : Nat → Int32 → Int32 → Int32 → Option (Int32)
  | 0 => fun _ _ _ => none
  | n + 1 => fun x1 x2 x3 => (if m_tokens ≤ x3 then some x2 else (if (x3 < 0 ∨ 81 ≤ x3.toNatClampNeg) then none else (if (m_kind x3.toNatClampNeg) = 2 then (if (x3 < 0 ∨ 81 ≤ x3.toNatClampNeg) then none else (if (m_amount x3.toNatClampNeg) = x1 then fn_Ref_occurrences_b52 m_tokens m_kind m_amount (fn_Ref_occurrences_L18 m_tokens m_kind m_amount n) x1 x3 x2 1 else fn_Ref_occurrences_b51 m_tokens m_kind m_amount (fn_Ref_occurrences_L18 m_tokens m_kind m_amount n) x1 x3 x2)) else fn_Ref_occurrences_b51 m_tokens m_kind m_amount (fn_Ref_occurrences_L18 m_tokens m_kind m_amount n) x1 x3 x2)))
def fn_Ref_occurrences (m_tokens : Int32) (m_kind : Nat → Int32) (m_amount : Nat → Int32) (x1 : Int32) : Option (Int32) := (if (fn_Ref_in (x1).toInt64 0 25) = 0 then some (-1) else fn_Ref_occurrences_L18 m_tokens m_kind m_amount zFU x1 0 0)
set_option maxHeartbeats 40000000 in
set_option maxRecDepth 100000 in
theorem ct_Ref_occurrences (l : Launch) (D : va_G) (cI cJ cC : ClassId) (adK adV : Nat → Nat) (A_m A_m_text A_m_kind A_m_amount A_m_newKind A_m_newAmount A_m_variable A_m_sort A_m_left A_m_right A_m_what A_m_result A_m_root A_m_relation A_m_operands A_m_operators A_m_functions A_m_output A_m_tasks A_m_forms A_m_formLength A_m_row A_m_statuses A_m_outcomes A_m_heights : Nat) (sz : Nat) (m_length : Int32) (m_tokens : Int32) (m_newTokens : Int32) (m_nodes : Int32) (m_sums : Int32) (m_links : Int32) (m_operandMany : Int32) (m_operatorMany : Int32) (m_status : Int32) (m_outcome : Int64) (m_outputLength : Int32) (m_taskMany : Int32) (m_token : Int32) (m_tokenAmount : Int32) (m_ahead : Int32) (m_depth : Int32) (m_linkMany : Int32) (m_isRange : Int32) (m_primes : Int32) (m_kind : Nat → Int32) (m_amount : Nat → Int32) (x1 : Int32) {rs : Int32} (hM : fn_Ref_occurrences m_tokens m_kind m_amount x1 = some rs) : Met l yX12_occurrences wsX12_occurrences ({ frames := 1, cells := 0, slots := 0, locals := 25 } : Room) (zP D cI cJ cC adK adV [.ref A_m, .int x1] sz [(A_m, .inr (11, (.int m_length :: .ref A_m_text :: .int m_tokens :: .ref A_m_kind :: .ref A_m_amount :: .int m_newTokens :: .ref A_m_newKind :: .ref A_m_newAmount :: .ref A_m_variable :: .int m_nodes :: .ref A_m_sort :: .ref A_m_left :: .ref A_m_right :: .ref A_m_what :: .ref A_m_result :: .int m_sums :: .ref A_m_root :: .int m_links :: .ref A_m_relation :: .ref A_m_operands :: .int m_operandMany :: .ref A_m_operators :: .ref A_m_functions :: .int m_operatorMany :: .int m_status :: .long m_outcome :: .ref A_m_output :: .int m_outputLength :: .ref A_m_tasks :: .int m_taskMany :: .ref A_m_forms :: .ref A_m_formLength :: .int m_token :: .int m_tokenAmount :: .int m_ahead :: .int m_depth :: .int m_linkMany :: .int m_isRange :: .int m_primes :: .ref A_m_row :: .ref A_m_statuses :: .ref A_m_outcomes :: .ref A_m_heights :: []))), (A_m_kind, .inl (cI, 81, .inl m_kind)), (A_m_amount, .inl (cI, 81, .inl m_amount))]) (zQi D cI cJ cC rs [(A_m, .inr (11, (.int m_length :: .ref A_m_text :: .int m_tokens :: .ref A_m_kind :: .ref A_m_amount :: .int m_newTokens :: .ref A_m_newKind :: .ref A_m_newAmount :: .ref A_m_variable :: .int m_nodes :: .ref A_m_sort :: .ref A_m_left :: .ref A_m_right :: .ref A_m_what :: .ref A_m_result :: .int m_sums :: .ref A_m_root :: .int m_links :: .ref A_m_relation :: .ref A_m_operands :: .int m_operandMany :: .ref A_m_operators :: .ref A_m_functions :: .int m_operatorMany :: .int m_status :: .long m_outcome :: .ref A_m_output :: .int m_outputLength :: .ref A_m_tasks :: .int m_taskMany :: .ref A_m_forms :: .ref A_m_formLength :: .int m_token :: .int m_tokenAmount :: .int m_ahead :: .int m_depth :: .int m_linkMany :: .int m_isRange :: .int m_primes :: .ref A_m_row :: .ref A_m_statuses :: .ref A_m_outcomes :: .ref A_m_heights :: []))), (A_m_kind, .inl (cI, 81, .inl m_kind)), (A_m_amount, .inl (cI, 81, .inl m_amount))] (va_A [(A_m, .inr (11, (.int m_length :: .ref A_m_text :: .int m_tokens :: .ref A_m_kind :: .ref A_m_amount :: .int m_newTokens :: .ref A_m_newKind :: .ref A_m_newAmount :: .ref A_m_variable :: .int m_nodes :: .ref A_m_sort :: .ref A_m_left :: .ref A_m_right :: .ref A_m_what :: .ref A_m_result :: .int m_sums :: .ref A_m_root :: .int m_links :: .ref A_m_relation :: .ref A_m_operands :: .int m_operandMany :: .ref A_m_operators :: .ref A_m_functions :: .int m_operatorMany :: .int m_status :: .long m_outcome :: .ref A_m_output :: .int m_outputLength :: .ref A_m_tasks :: .int m_taskMany :: .ref A_m_forms :: .ref A_m_formLength :: .int m_token :: .int m_tokenAmount :: .int m_ahead :: .int m_depth :: .int m_linkMany :: .int m_isRange :: .int m_primes :: .ref A_m_row :: .ref A_m_statuses :: .ref A_m_outcomes :: .ref A_m_heights :: []))), (A_m_kind, .inl (cI, 81, .inl m_kind)), (A_m_amount, .inl (cI, 81, .inl m_amount))] sz)) 0 0 (va_A [(A_m, .inr (11, (.int m_length :: .ref A_m_text :: .int m_tokens :: .ref A_m_kind :: .ref A_m_amount :: .int m_newTokens :: .ref A_m_newKind :: .ref A_m_newAmount :: .ref A_m_variable :: .int m_nodes :: .ref A_m_sort :: .ref A_m_left :: .ref A_m_right :: .ref A_m_what :: .ref A_m_result :: .int m_sums :: .ref A_m_root :: .int m_links :: .ref A_m_relation :: .ref A_m_operands :: .int m_operandMany :: .ref A_m_operators :: .ref A_m_functions :: .int m_operatorMany :: .int m_status :: .long m_outcome :: .ref A_m_output :: .int m_outputLength :: .ref A_m_tasks :: .int m_taskMany :: .ref A_m_forms :: .ref A_m_formLength :: .int m_token :: .int m_tokenAmount :: .int m_ahead :: .int m_depth :: .int m_linkMany :: .int m_isRange :: .int m_primes :: .ref A_m_row :: .ref A_m_statuses :: .ref A_m_outcomes :: .ref A_m_heights :: []))), (A_m_kind, .inl (cI, 81, .inl m_kind)), (A_m_amount, .inl (cI, 81, .inl m_amount))] sz) := by
  refine Met.ofW (cc := cX12_occurrences) (maxL := 4) (ret := (some .int)) (by decide) rfl ?_
  intro p e s m args below meth c s₁ B hml hv0
  obtain ⟨hargs, hsz, hP, hK, hD0, hX⟩ := hv0
  have hx := B.exec
  have hb := B.bytes
  have hr := B.returns
  have hts := atoms_spec (ws := wsX12_occurrences) B.pre
  have hown : s.vm.findClass RX12 = some m.cls := findClass_of_methodNamed B.named
  have hlocks := B.notSynchronized
  subst hsz
  have hD := hD0.self (sz := s.heap.size)
  generalize hAe : va_A [(A_m, .inr (11, (.int m_length :: .ref A_m_text :: .int m_tokens :: .ref A_m_kind :: .ref A_m_amount :: .int m_newTokens :: .ref A_m_newKind :: .ref A_m_newAmount :: .ref A_m_variable :: .int m_nodes :: .ref A_m_sort :: .ref A_m_left :: .ref A_m_right :: .ref A_m_what :: .ref A_m_result :: .int m_sums :: .ref A_m_root :: .int m_links :: .ref A_m_relation :: .ref A_m_operands :: .int m_operandMany :: .ref A_m_operators :: .ref A_m_functions :: .int m_operatorMany :: .int m_status :: .long m_outcome :: .ref A_m_output :: .int m_outputLength :: .ref A_m_tasks :: .int m_taskMany :: .ref A_m_forms :: .ref A_m_formLength :: .int m_token :: .int m_tokenAmount :: .int m_ahead :: .int m_depth :: .int m_linkMany :: .int m_isRange :: .int m_primes :: .ref A_m_row :: .ref A_m_statuses :: .ref A_m_outcomes :: .ref A_m_heights :: []))), (A_m_kind, .inl (cI, 81, .inl m_kind)), (A_m_amount, .inl (cI, 81, .inl m_amount))] s.heap.size = A at hD hX ⊢
  have hA : ∀ q : Nat, s.heap.size ≤ q → A q := fun q h => by rw [← hAe]; exact Or.inr h
  have hS : va_S A s.heap s.heap [] := va_S.rf
  have hl := lv_entry ([.ref A_m, .int x1]) (n := 4) (Nat.le_of_ble_eq_true rfl)
  rw [hargs, lg_entry_eq, ← hargs]
  generalize (lg_sl ([.ref A_m, .int x1]) ++ List.replicate (4 - (lg_sl ([.ref A_m, .int x1])).length) Slot.unset).toArray = ls at hl ⊢
  have hl : lv_has ls 4 [(0, .ref A_m), (1, .int x1)] := hl
  have hw0 : ∀ w ∈ u_ws RX12 TX12 43, w ∈ wsX12_occurrences := by decide +kernel
  have hw1 := hts (.fieldLink RX12 83 "NotationParserModel" "tokens" "I") (by decide +kernel)
  have hw2 := hts (.fieldLink RX12 13 "NotationParserModel" "kind" "[I") (by decide +kernel)
  have hw3 := hts (.fieldLink RX12 16 "NotationParserModel" "amount" "[I") (by decide +kernel)
  have B_52_2 : ∀ (k_18_0 : Int32 → Int32 → Int32 → Option (Int32)) (hk_18_0 : ∀ (x1 : Int32) (x2 : Int32) (x3 : Int32) (H : Heap) (locs : List Loc) (ls : Array Slot), va_P D vwCl [(A_m, .inr (11, (.int m_length :: .ref A_m_text :: .int m_tokens :: .ref A_m_kind :: .ref A_m_amount :: .int m_newTokens :: .ref A_m_newKind :: .ref A_m_newAmount :: .ref A_m_variable :: .int m_nodes :: .ref A_m_sort :: .ref A_m_left :: .ref A_m_right :: .ref A_m_what :: .ref A_m_result :: .int m_sums :: .ref A_m_root :: .int m_links :: .ref A_m_relation :: .ref A_m_operands :: .int m_operandMany :: .ref A_m_operators :: .ref A_m_functions :: .int m_operatorMany :: .int m_status :: .long m_outcome :: .ref A_m_output :: .int m_outputLength :: .ref A_m_tasks :: .int m_taskMany :: .ref A_m_forms :: .ref A_m_formLength :: .int m_token :: .int m_tokenAmount :: .int m_ahead :: .int m_depth :: .int m_linkMany :: .int m_isRange :: .int m_primes :: .ref A_m_row :: .ref A_m_statuses :: .ref A_m_outcomes :: .ref A_m_heights :: []))), (A_m_kind, .inl (cI, 81, .inl m_kind)), (A_m_amount, .inl (cI, 81, .inl m_amount))] H → va_D A [(A_m, .inr (11, (.int m_length :: .ref A_m_text :: .int m_tokens :: .ref A_m_kind :: .ref A_m_amount :: .int m_newTokens :: .ref A_m_newKind :: .ref A_m_newAmount :: .ref A_m_variable :: .int m_nodes :: .ref A_m_sort :: .ref A_m_left :: .ref A_m_right :: .ref A_m_what :: .ref A_m_result :: .int m_sums :: .ref A_m_root :: .int m_links :: .ref A_m_relation :: .ref A_m_operands :: .int m_operandMany :: .ref A_m_operators :: .ref A_m_functions :: .int m_operatorMany :: .int m_status :: .long m_outcome :: .ref A_m_output :: .int m_outputLength :: .ref A_m_tasks :: .int m_taskMany :: .ref A_m_forms :: .ref A_m_formLength :: .int m_token :: .int m_tokenAmount :: .int m_ahead :: .int m_depth :: .int m_linkMany :: .int m_isRange :: .int m_primes :: .ref A_m_row :: .ref A_m_statuses :: .ref A_m_outcomes :: .ref A_m_heights :: []))), (A_m_kind, .inl (cI, 81, .inl m_kind)), (A_m_amount, .inl (cI, 81, .inl m_amount))] → va_S A s.heap H locs → lv_has ls 4 [(0, .ref A_m), (1, .int x1), (2, .int x2), (3, .int x3)] → k_18_0 x1 x2 x3 = some rs → W p l e (headSpec wsX12_occurrences ({ frames := 1, cells := 0, slots := 0, locals := 25 } : Room)).room s m args below meth c H locs 0 0 (MQ below (zQi D cI cJ cC rs [(A_m, .inr (11, (.int m_length :: .ref A_m_text :: .int m_tokens :: .ref A_m_kind :: .ref A_m_amount :: .int m_newTokens :: .ref A_m_newKind :: .ref A_m_newAmount :: .ref A_m_variable :: .int m_nodes :: .ref A_m_sort :: .ref A_m_left :: .ref A_m_right :: .ref A_m_what :: .ref A_m_result :: .int m_sums :: .ref A_m_root :: .int m_links :: .ref A_m_relation :: .ref A_m_operands :: .int m_operandMany :: .ref A_m_operators :: .ref A_m_functions :: .int m_operatorMany :: .int m_status :: .long m_outcome :: .ref A_m_output :: .int m_outputLength :: .ref A_m_tasks :: .int m_taskMany :: .ref A_m_forms :: .ref A_m_formLength :: .int m_token :: .int m_tokenAmount :: .int m_ahead :: .int m_depth :: .int m_linkMany :: .int m_isRange :: .int m_primes :: .ref A_m_row :: .ref A_m_statuses :: .ref A_m_outcomes :: .ref A_m_heights :: []))), (A_m_kind, .inl (cI, 81, .inl m_kind)), (A_m_amount, .inl (cI, 81, .inl m_amount))] A) args s 0 0 A) (F0 m 18 ls [])) (x1 : Int32) (x3 : Int32) (k0 : Int32) (k1 : Int32) (H : Heap) (locs : List Loc) (ls : Array Slot), va_P D vwCl [(A_m, .inr (11, (.int m_length :: .ref A_m_text :: .int m_tokens :: .ref A_m_kind :: .ref A_m_amount :: .int m_newTokens :: .ref A_m_newKind :: .ref A_m_newAmount :: .ref A_m_variable :: .int m_nodes :: .ref A_m_sort :: .ref A_m_left :: .ref A_m_right :: .ref A_m_what :: .ref A_m_result :: .int m_sums :: .ref A_m_root :: .int m_links :: .ref A_m_relation :: .ref A_m_operands :: .int m_operandMany :: .ref A_m_operators :: .ref A_m_functions :: .int m_operatorMany :: .int m_status :: .long m_outcome :: .ref A_m_output :: .int m_outputLength :: .ref A_m_tasks :: .int m_taskMany :: .ref A_m_forms :: .ref A_m_formLength :: .int m_token :: .int m_tokenAmount :: .int m_ahead :: .int m_depth :: .int m_linkMany :: .int m_isRange :: .int m_primes :: .ref A_m_row :: .ref A_m_statuses :: .ref A_m_outcomes :: .ref A_m_heights :: []))), (A_m_kind, .inl (cI, 81, .inl m_kind)), (A_m_amount, .inl (cI, 81, .inl m_amount))] H → va_D A [(A_m, .inr (11, (.int m_length :: .ref A_m_text :: .int m_tokens :: .ref A_m_kind :: .ref A_m_amount :: .int m_newTokens :: .ref A_m_newKind :: .ref A_m_newAmount :: .ref A_m_variable :: .int m_nodes :: .ref A_m_sort :: .ref A_m_left :: .ref A_m_right :: .ref A_m_what :: .ref A_m_result :: .int m_sums :: .ref A_m_root :: .int m_links :: .ref A_m_relation :: .ref A_m_operands :: .int m_operandMany :: .ref A_m_operators :: .ref A_m_functions :: .int m_operatorMany :: .int m_status :: .long m_outcome :: .ref A_m_output :: .int m_outputLength :: .ref A_m_tasks :: .int m_taskMany :: .ref A_m_forms :: .ref A_m_formLength :: .int m_token :: .int m_tokenAmount :: .int m_ahead :: .int m_depth :: .int m_linkMany :: .int m_isRange :: .int m_primes :: .ref A_m_row :: .ref A_m_statuses :: .ref A_m_outcomes :: .ref A_m_heights :: []))), (A_m_kind, .inl (cI, 81, .inl m_kind)), (A_m_amount, .inl (cI, 81, .inl m_amount))] → va_S A s.heap H locs → lv_has ls 4 [(0, .ref A_m), (1, .int x1), (3, .int x3)] → fn_Ref_occurrences_b52 m_tokens m_kind m_amount k_18_0 x1 x3 k0 k1 = some rs → W p l e (headSpec wsX12_occurrences ({ frames := 1, cells := 0, slots := 0, locals := 25 } : Room)).room s m args below meth c H locs 0 0 (MQ below (zQi D cI cJ cC rs [(A_m, .inr (11, (.int m_length :: .ref A_m_text :: .int m_tokens :: .ref A_m_kind :: .ref A_m_amount :: .int m_newTokens :: .ref A_m_newKind :: .ref A_m_newAmount :: .ref A_m_variable :: .int m_nodes :: .ref A_m_sort :: .ref A_m_left :: .ref A_m_right :: .ref A_m_what :: .ref A_m_result :: .int m_sums :: .ref A_m_root :: .int m_links :: .ref A_m_relation :: .ref A_m_operands :: .int m_operandMany :: .ref A_m_operators :: .ref A_m_functions :: .int m_operatorMany :: .int m_status :: .long m_outcome :: .ref A_m_output :: .int m_outputLength :: .ref A_m_tasks :: .int m_taskMany :: .ref A_m_forms :: .ref A_m_formLength :: .int m_token :: .int m_tokenAmount :: .int m_ahead :: .int m_depth :: .int m_linkMany :: .int m_isRange :: .int m_primes :: .ref A_m_row :: .ref A_m_statuses :: .ref A_m_outcomes :: .ref A_m_heights :: []))), (A_m_kind, .inl (cI, 81, .inl m_kind)), (A_m_amount, .inl (cI, 81, .inl m_amount))] A) args s 0 0 A) (F0 m 52 ls [.int k1, .int k0]) := by
    intro k_18_0 hk_18_0 x1 x3 k0 k1 H locs ls hP hD hS hl hM
    refine lv_iadd hx hb dX12_occurrences_52 ?_
    refine lv_istore_n (lv' := [(2, .int (k0 + k1)), (0, .ref A_m), (1, .int x1), (3, .int x3)]) hx hb dX12_occurrences_53 rfl hl (by decide) rfl (fun ls hl => ?_)
    refine lv_iinc (v := (x3 + 1)) (lv' := [(3, .int (x3 + 1)), (2, .int (k0 + k1)), (0, .ref A_m), (1, .int x1)]) hx hb dX12_occurrences_54 hl (k := 3) rfl rfl (by decide) rfl (fun ls hl => ?_)
    refine lv_goto (tgt := 18) hx hb dX12_occurrences_57 (by decide) ?_
    exact hk_18_0 x1 (k0 + k1) (x3 + 1) _ _ ls hP hD hS (lv_sub hl [2, 3, 1, 0] rfl) hM
  have B_51_1 : ∀ (k_18_0 : Int32 → Int32 → Int32 → Option (Int32)) (hk_18_0 : ∀ (x1 : Int32) (x2 : Int32) (x3 : Int32) (H : Heap) (locs : List Loc) (ls : Array Slot), va_P D vwCl [(A_m, .inr (11, (.int m_length :: .ref A_m_text :: .int m_tokens :: .ref A_m_kind :: .ref A_m_amount :: .int m_newTokens :: .ref A_m_newKind :: .ref A_m_newAmount :: .ref A_m_variable :: .int m_nodes :: .ref A_m_sort :: .ref A_m_left :: .ref A_m_right :: .ref A_m_what :: .ref A_m_result :: .int m_sums :: .ref A_m_root :: .int m_links :: .ref A_m_relation :: .ref A_m_operands :: .int m_operandMany :: .ref A_m_operators :: .ref A_m_functions :: .int m_operatorMany :: .int m_status :: .long m_outcome :: .ref A_m_output :: .int m_outputLength :: .ref A_m_tasks :: .int m_taskMany :: .ref A_m_forms :: .ref A_m_formLength :: .int m_token :: .int m_tokenAmount :: .int m_ahead :: .int m_depth :: .int m_linkMany :: .int m_isRange :: .int m_primes :: .ref A_m_row :: .ref A_m_statuses :: .ref A_m_outcomes :: .ref A_m_heights :: []))), (A_m_kind, .inl (cI, 81, .inl m_kind)), (A_m_amount, .inl (cI, 81, .inl m_amount))] H → va_D A [(A_m, .inr (11, (.int m_length :: .ref A_m_text :: .int m_tokens :: .ref A_m_kind :: .ref A_m_amount :: .int m_newTokens :: .ref A_m_newKind :: .ref A_m_newAmount :: .ref A_m_variable :: .int m_nodes :: .ref A_m_sort :: .ref A_m_left :: .ref A_m_right :: .ref A_m_what :: .ref A_m_result :: .int m_sums :: .ref A_m_root :: .int m_links :: .ref A_m_relation :: .ref A_m_operands :: .int m_operandMany :: .ref A_m_operators :: .ref A_m_functions :: .int m_operatorMany :: .int m_status :: .long m_outcome :: .ref A_m_output :: .int m_outputLength :: .ref A_m_tasks :: .int m_taskMany :: .ref A_m_forms :: .ref A_m_formLength :: .int m_token :: .int m_tokenAmount :: .int m_ahead :: .int m_depth :: .int m_linkMany :: .int m_isRange :: .int m_primes :: .ref A_m_row :: .ref A_m_statuses :: .ref A_m_outcomes :: .ref A_m_heights :: []))), (A_m_kind, .inl (cI, 81, .inl m_kind)), (A_m_amount, .inl (cI, 81, .inl m_amount))] → va_S A s.heap H locs → lv_has ls 4 [(0, .ref A_m), (1, .int x1), (2, .int x2), (3, .int x3)] → k_18_0 x1 x2 x3 = some rs → W p l e (headSpec wsX12_occurrences ({ frames := 1, cells := 0, slots := 0, locals := 25 } : Room)).room s m args below meth c H locs 0 0 (MQ below (zQi D cI cJ cC rs [(A_m, .inr (11, (.int m_length :: .ref A_m_text :: .int m_tokens :: .ref A_m_kind :: .ref A_m_amount :: .int m_newTokens :: .ref A_m_newKind :: .ref A_m_newAmount :: .ref A_m_variable :: .int m_nodes :: .ref A_m_sort :: .ref A_m_left :: .ref A_m_right :: .ref A_m_what :: .ref A_m_result :: .int m_sums :: .ref A_m_root :: .int m_links :: .ref A_m_relation :: .ref A_m_operands :: .int m_operandMany :: .ref A_m_operators :: .ref A_m_functions :: .int m_operatorMany :: .int m_status :: .long m_outcome :: .ref A_m_output :: .int m_outputLength :: .ref A_m_tasks :: .int m_taskMany :: .ref A_m_forms :: .ref A_m_formLength :: .int m_token :: .int m_tokenAmount :: .int m_ahead :: .int m_depth :: .int m_linkMany :: .int m_isRange :: .int m_primes :: .ref A_m_row :: .ref A_m_statuses :: .ref A_m_outcomes :: .ref A_m_heights :: []))), (A_m_kind, .inl (cI, 81, .inl m_kind)), (A_m_amount, .inl (cI, 81, .inl m_amount))] A) args s 0 0 A) (F0 m 18 ls [])) (x1 : Int32) (x3 : Int32) (k0 : Int32) (H : Heap) (locs : List Loc) (ls : Array Slot), va_P D vwCl [(A_m, .inr (11, (.int m_length :: .ref A_m_text :: .int m_tokens :: .ref A_m_kind :: .ref A_m_amount :: .int m_newTokens :: .ref A_m_newKind :: .ref A_m_newAmount :: .ref A_m_variable :: .int m_nodes :: .ref A_m_sort :: .ref A_m_left :: .ref A_m_right :: .ref A_m_what :: .ref A_m_result :: .int m_sums :: .ref A_m_root :: .int m_links :: .ref A_m_relation :: .ref A_m_operands :: .int m_operandMany :: .ref A_m_operators :: .ref A_m_functions :: .int m_operatorMany :: .int m_status :: .long m_outcome :: .ref A_m_output :: .int m_outputLength :: .ref A_m_tasks :: .int m_taskMany :: .ref A_m_forms :: .ref A_m_formLength :: .int m_token :: .int m_tokenAmount :: .int m_ahead :: .int m_depth :: .int m_linkMany :: .int m_isRange :: .int m_primes :: .ref A_m_row :: .ref A_m_statuses :: .ref A_m_outcomes :: .ref A_m_heights :: []))), (A_m_kind, .inl (cI, 81, .inl m_kind)), (A_m_amount, .inl (cI, 81, .inl m_amount))] H → va_D A [(A_m, .inr (11, (.int m_length :: .ref A_m_text :: .int m_tokens :: .ref A_m_kind :: .ref A_m_amount :: .int m_newTokens :: .ref A_m_newKind :: .ref A_m_newAmount :: .ref A_m_variable :: .int m_nodes :: .ref A_m_sort :: .ref A_m_left :: .ref A_m_right :: .ref A_m_what :: .ref A_m_result :: .int m_sums :: .ref A_m_root :: .int m_links :: .ref A_m_relation :: .ref A_m_operands :: .int m_operandMany :: .ref A_m_operators :: .ref A_m_functions :: .int m_operatorMany :: .int m_status :: .long m_outcome :: .ref A_m_output :: .int m_outputLength :: .ref A_m_tasks :: .int m_taskMany :: .ref A_m_forms :: .ref A_m_formLength :: .int m_token :: .int m_tokenAmount :: .int m_ahead :: .int m_depth :: .int m_linkMany :: .int m_isRange :: .int m_primes :: .ref A_m_row :: .ref A_m_statuses :: .ref A_m_outcomes :: .ref A_m_heights :: []))), (A_m_kind, .inl (cI, 81, .inl m_kind)), (A_m_amount, .inl (cI, 81, .inl m_amount))] → va_S A s.heap H locs → lv_has ls 4 [(0, .ref A_m), (1, .int x1), (3, .int x3)] → fn_Ref_occurrences_b51 m_tokens m_kind m_amount k_18_0 x1 x3 k0 = some rs → W p l e (headSpec wsX12_occurrences ({ frames := 1, cells := 0, slots := 0, locals := 25 } : Room)).room s m args below meth c H locs 0 0 (MQ below (zQi D cI cJ cC rs [(A_m, .inr (11, (.int m_length :: .ref A_m_text :: .int m_tokens :: .ref A_m_kind :: .ref A_m_amount :: .int m_newTokens :: .ref A_m_newKind :: .ref A_m_newAmount :: .ref A_m_variable :: .int m_nodes :: .ref A_m_sort :: .ref A_m_left :: .ref A_m_right :: .ref A_m_what :: .ref A_m_result :: .int m_sums :: .ref A_m_root :: .int m_links :: .ref A_m_relation :: .ref A_m_operands :: .int m_operandMany :: .ref A_m_operators :: .ref A_m_functions :: .int m_operatorMany :: .int m_status :: .long m_outcome :: .ref A_m_output :: .int m_outputLength :: .ref A_m_tasks :: .int m_taskMany :: .ref A_m_forms :: .ref A_m_formLength :: .int m_token :: .int m_tokenAmount :: .int m_ahead :: .int m_depth :: .int m_linkMany :: .int m_isRange :: .int m_primes :: .ref A_m_row :: .ref A_m_statuses :: .ref A_m_outcomes :: .ref A_m_heights :: []))), (A_m_kind, .inl (cI, 81, .inl m_kind)), (A_m_amount, .inl (cI, 81, .inl m_amount))] A) args s 0 0 A) (F0 m 51 ls [.int k0]) := by
    intro k_18_0 hk_18_0 x1 x3 k0 H locs ls hP hD hS hl hM
    refine lv_iconst (v := 0) hx hb dX12_occurrences_51 (by decide) ?_
    exact B_52_2 k_18_0 hk_18_0 x1 x3 k0 0 _ _ ls hP hD hS (lv_sub hl [0, 1, 2] rfl) hM
  have L_18_0 : ∀ (n : Nat) (x1 : Int32) (x2 : Int32) (x3 : Int32) (H : Heap) (locs : List Loc) (ls : Array Slot), va_P D vwCl [(A_m, .inr (11, (.int m_length :: .ref A_m_text :: .int m_tokens :: .ref A_m_kind :: .ref A_m_amount :: .int m_newTokens :: .ref A_m_newKind :: .ref A_m_newAmount :: .ref A_m_variable :: .int m_nodes :: .ref A_m_sort :: .ref A_m_left :: .ref A_m_right :: .ref A_m_what :: .ref A_m_result :: .int m_sums :: .ref A_m_root :: .int m_links :: .ref A_m_relation :: .ref A_m_operands :: .int m_operandMany :: .ref A_m_operators :: .ref A_m_functions :: .int m_operatorMany :: .int m_status :: .long m_outcome :: .ref A_m_output :: .int m_outputLength :: .ref A_m_tasks :: .int m_taskMany :: .ref A_m_forms :: .ref A_m_formLength :: .int m_token :: .int m_tokenAmount :: .int m_ahead :: .int m_depth :: .int m_linkMany :: .int m_isRange :: .int m_primes :: .ref A_m_row :: .ref A_m_statuses :: .ref A_m_outcomes :: .ref A_m_heights :: []))), (A_m_kind, .inl (cI, 81, .inl m_kind)), (A_m_amount, .inl (cI, 81, .inl m_amount))] H → va_D A [(A_m, .inr (11, (.int m_length :: .ref A_m_text :: .int m_tokens :: .ref A_m_kind :: .ref A_m_amount :: .int m_newTokens :: .ref A_m_newKind :: .ref A_m_newAmount :: .ref A_m_variable :: .int m_nodes :: .ref A_m_sort :: .ref A_m_left :: .ref A_m_right :: .ref A_m_what :: .ref A_m_result :: .int m_sums :: .ref A_m_root :: .int m_links :: .ref A_m_relation :: .ref A_m_operands :: .int m_operandMany :: .ref A_m_operators :: .ref A_m_functions :: .int m_operatorMany :: .int m_status :: .long m_outcome :: .ref A_m_output :: .int m_outputLength :: .ref A_m_tasks :: .int m_taskMany :: .ref A_m_forms :: .ref A_m_formLength :: .int m_token :: .int m_tokenAmount :: .int m_ahead :: .int m_depth :: .int m_linkMany :: .int m_isRange :: .int m_primes :: .ref A_m_row :: .ref A_m_statuses :: .ref A_m_outcomes :: .ref A_m_heights :: []))), (A_m_kind, .inl (cI, 81, .inl m_kind)), (A_m_amount, .inl (cI, 81, .inl m_amount))] → va_S A s.heap H locs → lv_has ls 4 [(0, .ref A_m), (1, .int x1), (2, .int x2), (3, .int x3)] → fn_Ref_occurrences_L18 m_tokens m_kind m_amount n x1 x2 x3 = some rs → W p l e (headSpec wsX12_occurrences ({ frames := 1, cells := 0, slots := 0, locals := 25 } : Room)).room s m args below meth c H locs 0 0 (MQ below (zQi D cI cJ cC rs [(A_m, .inr (11, (.int m_length :: .ref A_m_text :: .int m_tokens :: .ref A_m_kind :: .ref A_m_amount :: .int m_newTokens :: .ref A_m_newKind :: .ref A_m_newAmount :: .ref A_m_variable :: .int m_nodes :: .ref A_m_sort :: .ref A_m_left :: .ref A_m_right :: .ref A_m_what :: .ref A_m_result :: .int m_sums :: .ref A_m_root :: .int m_links :: .ref A_m_relation :: .ref A_m_operands :: .int m_operandMany :: .ref A_m_operators :: .ref A_m_functions :: .int m_operatorMany :: .int m_status :: .long m_outcome :: .ref A_m_output :: .int m_outputLength :: .ref A_m_tasks :: .int m_taskMany :: .ref A_m_forms :: .ref A_m_formLength :: .int m_token :: .int m_tokenAmount :: .int m_ahead :: .int m_depth :: .int m_linkMany :: .int m_isRange :: .int m_primes :: .ref A_m_row :: .ref A_m_statuses :: .ref A_m_outcomes :: .ref A_m_heights :: []))), (A_m_kind, .inl (cI, 81, .inl m_kind)), (A_m_amount, .inl (cI, 81, .inl m_amount))] A) args s 0 0 A) (F0 m 18 ls []) := by
    intro  n
    induction n with
    | zero => intro x1 x2 x3 H locs ls _ _ _ _ hM; exact z_n hM
    | succ n ih =>
      intro x1 x2 x3 H locs ls hP hD hS hl hM
      refine lv_iload_n hx hb dX12_occurrences_18 rfl (lv_at hl 3 rfl) ?_
      refine lv_aload_n hx hb dX12_occurrences_19 rfl (lv_at hl 0 rfl) ?_
      refine va_get (D := D) (ci := 11) (v := .int m_tokens) (C := RX12) (T := TX12) (N := 43) hx hb hts hw0 hown hK hP 0 rfl rfl 2 (by decide) hw1 (fun _ h9 => h9) rfl dX12_occurrences_20 ?_
      refine lv_icmp_ge (tgt := 60) hx hb dX12_occurrences_23 (by decide) (fun c4 => ?_) (fun c4 => ?_)
      · have hM := z_t c4 hM
        refine lv_iload_n hx hb dX12_occurrences_60 rfl (lv_at hl 2 rfl) ?_
        have hM := Option.some.inj hM
        subst hM
        exact W.iret (v := x2) hx hb hr (fun t ht hW => ⟨⟨_, (), rfl, rfl, ⟨by rw [ht]; exact hP, va_K.moved hW.alike hK, hD⟩⟩, hS.F ht⟩) hS.2.2 dX12_occurrences_61
      · have hM := z_f c4 hM
        refine lv_iload_n hx hb dX12_occurrences_26 rfl (lv_at hl 2 rfl) ?_
        refine lv_aload_n hx hb dX12_occurrences_27 rfl (lv_at hl 0 rfl) ?_
        refine va_get (D := D) (ci := 11) (v := .ref A_m_kind) (C := RX12) (T := TX12) (N := 43) hx hb hts hw0 hown hK hP 0 rfl rfl 3 (by decide) hw2 (fun _ h9 => h9) rfl dX12_occurrences_28 ?_
        refine lv_iload_n hx hb dX12_occurrences_31 rfl (lv_at hl 3 rfl) ?_
        obtain ⟨g5, hM⟩ := z_g hM
        refine va_iald hx hb hK hP 1 0 rfl rfl g5 dX12_occurrences_32 ?_
        refine lv_iconst (v := 2) hx hb dX12_occurrences_33 (by decide) ?_
        refine lv_icmp_ne (tgt := 51) hx hb dX12_occurrences_34 (by decide) (fun c6 => ?_) (fun c6 => ?_)
        · have hM := z_f c6 hM
          exact B_51_1 (fn_Ref_occurrences_L18 m_tokens m_kind m_amount n) ih x1 x3 x2 _ _ ls hP hD hS (lv_sub hl [0, 1, 3] rfl) hM
        · have hM := z_t c6 hM
          refine lv_aload_n hx hb dX12_occurrences_37 rfl (lv_at hl 0 rfl) ?_
          refine va_get (D := D) (ci := 11) (v := .ref A_m_amount) (C := RX12) (T := TX12) (N := 43) hx hb hts hw0 hown hK hP 0 rfl rfl 4 (by decide) hw3 (fun _ h9 => h9) rfl dX12_occurrences_38 ?_
          refine lv_iload_n hx hb dX12_occurrences_41 rfl (lv_at hl 3 rfl) ?_
          obtain ⟨g7, hM⟩ := z_g hM
          refine va_iald hx hb hK hP 2 0 rfl rfl g7 dX12_occurrences_42 ?_
          refine lv_iload_n hx hb dX12_occurrences_43 rfl (lv_at hl 1 rfl) ?_
          refine lv_icmp_ne (tgt := 51) hx hb dX12_occurrences_44 (by decide) (fun c8 => ?_) (fun c8 => ?_)
          · have hM := z_f c8 hM
            exact B_51_1 (fn_Ref_occurrences_L18 m_tokens m_kind m_amount n) ih x1 x3 x2 _ _ ls hP hD hS (lv_sub hl [0, 1, 3] rfl) hM
          · have hM := z_t c8 hM
            refine lv_iconst (v := 1) hx hb dX12_occurrences_47 (by decide) ?_
            refine lv_goto (tgt := 52) hx hb dX12_occurrences_48 (by decide) ?_
            exact B_52_2 (fn_Ref_occurrences_L18 m_tokens m_kind m_amount n) ih x1 x3 x2 1 _ _ ls hP hD hS (lv_sub hl [0, 1, 3] rfl) hM
  refine lv_iload_n hx hb dX12_occurrences_0 rfl (lv_at hl 1 rfl) ?_
  refine lv_i2l hx hb dX12_occurrences_1 rfl ?_
  refine lv_lconst (v := 0) hx hb dX12_occurrences_2 (by decide) ?_
  refine lv_ldc2 hx hb hown (hts (.constantLong RX12 169 25) (by decide +kernel)) dX12_occurrences_3 ?_
  obtain ⟨hPc, hDc, hFc⟩ := zcut (wc := []) hP hD hS hA [] rfl rfl (by decide)
  refine zc_i (ws' := [(A_m, .inr (11, (.int m_length :: .ref A_m_text :: .int m_tokens :: .ref A_m_kind :: .ref A_m_amount :: .int m_newTokens :: .ref A_m_newKind :: .ref A_m_newAmount :: .ref A_m_variable :: .int m_nodes :: .ref A_m_sort :: .ref A_m_left :: .ref A_m_right :: .ref A_m_what :: .ref A_m_result :: .int m_sums :: .ref A_m_root :: .int m_links :: .ref A_m_relation :: .ref A_m_operands :: .int m_operandMany :: .ref A_m_operators :: .ref A_m_functions :: .int m_operatorMany :: .int m_status :: .long m_outcome :: .ref A_m_output :: .int m_outputLength :: .ref A_m_tasks :: .int m_taskMany :: .ref A_m_forms :: .ref A_m_formLength :: .int m_token :: .int m_tokenAmount :: .int m_ahead :: .int m_depth :: .int m_linkMany :: .int m_isRange :: .int m_primes :: .ref A_m_row :: .ref A_m_statuses :: .ref A_m_outcomes :: .ref A_m_heights :: []))), (A_m_kind, .inl (cI, 81, .inl m_kind)), (A_m_amount, .inl (cI, 81, .inl m_amount))]) (va_runS (As := [.long (x1).toInt64, .long 0, .long 25]) (rest := []) ⟨hx, hb, hml, hown, hts⟩ (ct_Ref_in l D cI cJ cC adK adV s.heap.size (x1).toInt64 0 25) (va_cwS 3 hts gX12_occurrences_X12_in rfl rfl rfl (by decide +kernel) ⟨Nat.le_of_ble_eq_true rfl, Nat.le_of_ble_eq_true rfl⟩) ⟨zblind, zpre hX hS hFc hPc hK hDc⟩ rfl rfl hl.1 rfl (lv_room (Nat.le_of_ble_eq_true rfl)) dX12_occurrences_6 ⟨Nat.zero_le _, Nat.zero_le _⟩) hP hD hS hFc [] rfl (by decide) rfl rfl (fun H2 locs hP hD hS => ?_)
  refine lv_if_ne (tgt := 14) hx hb dX12_occurrences_9 (by decide) (fun c3 => ?_) (fun c3 => ?_)
  · have hM := z_f c3 hM
    refine lv_iconst (v := 0) hx hb dX12_occurrences_14 (by decide) ?_
    refine lv_istore_n (lv' := [(2, .int 0), (0, .ref A_m), (1, .int x1)]) hx hb dX12_occurrences_15 rfl hl (by decide) rfl (fun ls hl => ?_)
    refine lv_iconst (v := 0) hx hb dX12_occurrences_16 (by decide) ?_
    refine lv_istore_n (lv' := [(3, .int 0), (2, .int 0), (0, .ref A_m), (1, .int x1)]) hx hb dX12_occurrences_17 rfl hl (by decide) rfl (fun ls hl => ?_)
    exact L_18_0  zFU x1 0 0 _ _ ls hP hD hS (lv_sub hl [2, 3, 1, 0] rfl) hM
  · have hM := z_t c3 hM
    refine lv_iconst (v := (-1)) hx hb dX12_occurrences_12 (by decide) ?_
    have hM := Option.some.inj hM
    subst hM
    exact W.iret (v := (-1)) hx hb hr (fun t ht hW => ⟨⟨_, (), rfl, rfl, ⟨by rw [ht]; exact hP, va_K.moved hW.alike hK, hD⟩⟩, hS.F ht⟩) hS.2.2 dX12_occurrences_13
