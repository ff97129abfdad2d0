set_option maxRecDepth 20000 in
theorem ggX8_read_X1_size : GoodIn wsX8_read wsX1_size := goodIn_r _ [6, 7, 94, 95] rfl (by decide +kernel)
set_option maxRecDepth 20000 in
theorem gX8_read_X1_size : GoodIn wsX8_read (wsV RX8 25 RX1 yX1_size wsX1_size) := goodIn_app (goodIn_of _ (by decide +kernel)) ggX8_read_X1_size
set_option maxRecDepth 20000 in
theorem ggX8_read_X1_at : GoodIn wsX8_read wsX1_at := goodIn_r _ [11, 7, 12, 94, 95] rfl (by decide +kernel)
set_option maxRecDepth 20000 in
theorem gX8_read_X1_at : GoodIn wsX8_read (wsV RX8 31 RX1 yX1_at wsX1_at) := goodIn_app (goodIn_of _ (by decide +kernel)) ggX8_read_X1_at
set_option maxRecDepth 20000 in
theorem ggX8_read_X8_readToken : GoodIn wsX8_read wsX8_readToken := goodIn_r _ [17, 8, 9, 10, 5, 11, 7, 12, 18, 19, 20, 16, 21, 2, 3, 4, 6, 22, 23, 24, 25, 1, 26, 27, 28, 29, 30, 31, 32, 33, 34, 35, 36, 37, 38, 39, 40, 41, 42, 43, 44, 45, 46, 47, 48, 49, 50, 51, 52, 53, 54, 55, 56, 57, 58, 59, 60, 61, 62, 63, 64, 65, 66, 67, 68, 69, 70, 71, 72, 73, 74, 75, 76, 77, 78, 79, 80, 81, 82, 83, 84, 85, 86, 87, 88, 89, 94, 95, 90, 91, 92, 93] rfl (by decide +kernel)
set_option maxRecDepth 20000 in
theorem gX8_read_X8_readToken : GoodIn wsX8_read (wsV RX8 35 RX8 yX8_readToken wsX8_readToken) := goodIn_app (goodIn_of _ (by decide +kernel)) ggX8_read_X8_readToken
theorem dX8_read_0 : decode cX8_read 0 = .ok (.aload_n 0, 1) := by decide +kernel
theorem dX8_read_1 : decode cX8_read 1 = .ok (.iconst 0, 1) := by decide +kernel
theorem dX8_read_2 : decode cX8_read 2 = .ok (.putfield 21, 3) := by decide +kernel
theorem dX8_read_5 : decode cX8_read 5 = .ok (.iconst 0, 1) := by decide +kernel
theorem dX8_read_6 : decode cX8_read 6 = .ok (.istore_n 2, 1) := by decide +kernel
theorem dX8_read_7 : decode cX8_read 7 = .ok (.iconst 0, 1) := by decide +kernel
theorem dX8_read_8 : decode cX8_read 8 = .ok (.istore_n 3, 1) := by decide +kernel
theorem dX8_read_9 : decode cX8_read 9 = .ok (.iload_n 3, 1) := by decide +kernel
theorem dX8_read_10 : decode cX8_read 10 = .ok (.aload_n 1, 1) := by decide +kernel
theorem dX8_read_11 : decode cX8_read 11 = .ok (.invokevirtual 25, 3) := by decide +kernel
theorem dX8_read_14 : decode cX8_read 14 = .ok (.if_icmp .ge 33, 3) := by decide +kernel
theorem dX8_read_17 : decode cX8_read 17 = .ok (.iload_n 3, 1) := by decide +kernel
theorem dX8_read_18 : decode cX8_read 18 = .ok (.iload_n 2, 1) := by decide +kernel
theorem dX8_read_19 : decode cX8_read 19 = .ok (.if_icmp .lt 22, 3) := by decide +kernel
theorem dX8_read_22 : decode cX8_read 22 = .ok (.aload_n 1, 1) := by decide +kernel
theorem dX8_read_23 : decode cX8_read 23 = .ok (.iload_n 3, 1) := by decide +kernel
theorem dX8_read_24 : decode cX8_read 24 = .ok (.invokevirtual 31, 3) := by decide +kernel
theorem dX8_read_27 : decode cX8_read 27 = .ok (.bipush 32, 2) := by decide +kernel
theorem dX8_read_29 : decode cX8_read 29 = .ok (.if_icmp .eq 12, 3) := by decide +kernel
theorem dX8_read_32 : decode cX8_read 32 = .ok (.iload_n 3, 1) := by decide +kernel
theorem dX8_read_33 : decode cX8_read 33 = .ok (.aload_n 0, 1) := by decide +kernel
theorem dX8_read_34 : decode cX8_read 34 = .ok (.aload_n 1, 1) := by decide +kernel
theorem dX8_read_35 : decode cX8_read 35 = .ok (.iload_n 3, 1) := by decide +kernel
theorem dX8_read_36 : decode cX8_read 36 = .ok (.invokevirtual 35, 3) := by decide +kernel
theorem dX8_read_39 : decode cX8_read 39 = .ok (.iadd, 1) := by decide +kernel
theorem dX8_read_40 : decode cX8_read 40 = .ok (.istore_n 2, 1) := by decide +kernel
theorem dX8_read_41 : decode cX8_read 41 = .ok (.iinc 3 1, 3) := by decide +kernel
theorem dX8_read_44 : decode cX8_read 44 = .ok (.goto (-35), 3) := by decide +kernel
theorem dX8_read_47 : decode cX8_read 47 = .ok (.return_, 1) := by decide +kernel
theorem dX8_size_0 : decode cX8_size 0 = .ok (.aload_n 0, 1) := by decide +kernel
theorem dX8_size_1 : decode cX8_size 1 = .ok (.getfield 21, 3) := by decide +kernel
theorem dX8_size_4 : decode cX8_size 4 = .ok (.ireturn, 1) := by decide +kernel
theorem dX8_kindOf_0 : decode cX8_kindOf 0 = .ok (.iload_n 1, 1) := by decide +kernel
theorem dX8_kindOf_1 : decode cX8_kindOf 1 = .ok (.ifCond .lt 20, 3) := by decide +kernel
theorem dX8_kindOf_4 : decode cX8_kindOf 4 = .ok (.iload_n 1, 1) := by decide +kernel
theorem dX8_kindOf_5 : decode cX8_kindOf 5 = .ok (.aload_n 0, 1) := by decide +kernel
theorem dX8_kindOf_6 : decode cX8_kindOf 6 = .ok (.getfield 21, 3) := by decide +kernel
theorem dX8_kindOf_9 : decode cX8_kindOf 9 = .ok (.if_icmp .ge 12, 3) := by decide +kernel
theorem dX8_kindOf_12 : decode cX8_kindOf 12 = .ok (.aload_n 0, 1) := by decide +kernel
theorem dX8_kindOf_13 : decode cX8_kindOf 13 = .ok (.getfield 9, 3) := by decide +kernel
theorem dX8_kindOf_16 : decode cX8_kindOf 16 = .ok (.iload_n 1, 1) := by decide +kernel
theorem dX8_kindOf_17 : decode cX8_kindOf 17 = .ok (.iaload, 1) := by decide +kernel
theorem dX8_kindOf_18 : decode cX8_kindOf 18 = .ok (.goto 4, 3) := by decide +kernel
theorem dX8_kindOf_21 : decode cX8_kindOf 21 = .ok (.iconst 0, 1) := by decide +kernel
theorem dX8_kindOf_22 : decode cX8_kindOf 22 = .ok (.ireturn, 1) := by decide +kernel
theorem dX8_startOf_0 : decode cX8_startOf 0 = .ok (.iload_n 1, 1) := by decide +kernel
theorem dX8_startOf_1 : decode cX8_startOf 1 = .ok (.ifCond .lt 20, 3) := by decide +kernel
theorem dX8_startOf_4 : decode cX8_startOf 4 = .ok (.iload_n 1, 1) := by decide +kernel
theorem dX8_startOf_5 : decode cX8_startOf 5 = .ok (.aload_n 0, 1) := by decide +kernel
theorem dX8_startOf_6 : decode cX8_startOf 6 = .ok (.getfield 21, 3) := by decide +kernel
theorem dX8_startOf_9 : decode cX8_startOf 9 = .ok (.if_icmp .ge 12, 3) := by decide +kernel
theorem dX8_startOf_12 : decode cX8_startOf 12 = .ok (.aload_n 0, 1) := by decide +kernel
theorem dX8_startOf_13 : decode cX8_startOf 13 = .ok (.getfield 15, 3) := by decide +kernel
theorem dX8_startOf_16 : decode cX8_startOf 16 = .ok (.iload_n 1, 1) := by decide +kernel
theorem dX8_startOf_17 : decode cX8_startOf 17 = .ok (.iaload, 1) := by decide +kernel
theorem dX8_startOf_18 : decode cX8_startOf 18 = .ok (.goto 4, 3) := by decide +kernel
theorem dX8_startOf_21 : decode cX8_startOf 21 = .ok (.iconst (-1), 1) := by decide +kernel
theorem dX8_startOf_22 : decode cX8_startOf 22 = .ok (.ireturn, 1) := by decide +kernel
theorem dX8_detailOf_0 : decode cX8_detailOf 0 = .ok (.iload_n 1, 1) := by decide +kernel
theorem dX8_detailOf_1 : decode cX8_detailOf 1 = .ok (.ifCond .lt 20, 3) := by decide +kernel
theorem dX8_detailOf_4 : decode cX8_detailOf 4 = .ok (.iload_n 1, 1) := by decide +kernel
theorem dX8_detailOf_5 : decode cX8_detailOf 5 = .ok (.aload_n 0, 1) := by decide +kernel
theorem dX8_detailOf_6 : decode cX8_detailOf 6 = .ok (.getfield 21, 3) := by decide +kernel
theorem dX8_detailOf_9 : decode cX8_detailOf 9 = .ok (.if_icmp .ge 12, 3) := by decide +kernel
theorem dX8_detailOf_12 : decode cX8_detailOf 12 = .ok (.aload_n 0, 1) := by decide +kernel
theorem dX8_detailOf_13 : decode cX8_detailOf 13 = .ok (.getfield 18, 3) := by decide +kernel
theorem dX8_detailOf_16 : decode cX8_detailOf 16 = .ok (.iload_n 1, 1) := by decide +kernel
theorem dX8_detailOf_17 : decode cX8_detailOf 17 = .ok (.iaload, 1) := by decide +kernel
theorem dX8_detailOf_18 : decode cX8_detailOf 18 = .ok (.goto 4, 3) := by decide +kernel
theorem dX8_detailOf_21 : decode cX8_detailOf 21 = .ok (.iconst 0, 1) := by decide +kernel
theorem dX8_detailOf_22 : decode cX8_detailOf 22 = .ok (.ireturn, 1) := by decide +kernel
set_option maxRecDepth 20000 in
theorem ggX8_readToken_X1_at : GoodIn wsX8_readToken wsX1_at := goodIn_r _ [5, 6, 7, 86, 87] rfl (by decide +kernel)
set_option maxRecDepth 20000 in
theorem gX8_readToken_X1_at : GoodIn wsX8_readToken (wsV RX8 31 RX1 yX1_at wsX1_at) := goodIn_app (goodIn_of _ (by decide +kernel)) ggX8_readToken_X1_at
set_option maxRecDepth 20000 in
theorem ggX8_readToken_X8_readNumber : GoodIn wsX8_readToken wsX8_readNumber := goodIn_r _ [12, 13, 14, 15, 4, 16, 6, 1, 2, 3, 5, 7, 17, 18, 19, 11, 20, 21, 22, 23, 24, 86, 87, 88, 89, 90, 91] rfl (by decide +kernel)
set_option maxRecDepth 20000 in
theorem gX8_readToken_X8_readNumber : GoodIn wsX8_readToken (wsV RX8 39 RX8 yX8_readNumber wsX8_readNumber) := goodIn_app (goodIn_of _ (by decide +kernel)) ggX8_readToken_X8_readNumber
set_option maxRecDepth 20000 in
theorem ggX8_readToken_X8_functionAt : GoodIn wsX8_readToken wsX8_functionAt := goodIn_r _ [27, 28, 29, 30, 31, 32, 33, 34, 35, 36, 37, 38, 39, 40, 41, 42, 1, 2, 3, 4, 5, 6, 7, 43, 44, 45, 46, 47, 48, 49, 50, 51, 52, 53, 54, 55, 56, 57, 58, 59, 60, 61, 62, 63, 64, 65, 66, 67, 68, 69, 70, 71, 72, 73, 74, 75, 76, 77, 78, 79, 86, 87] rfl (by decide +kernel)
set_option maxRecDepth 20000 in
theorem gX8_readToken_X8_functionAt : GoodIn wsX8_readToken (va_wsS RX8 42 yX8_functionAt wsX8_functionAt) := goodIn_app (goodIn_of _ (by decide +kernel)) ggX8_readToken_X8_functionAt
set_option maxRecDepth 20000 in
theorem ggX8_readToken_X8_add : GoodIn wsX8_readToken wsX8_add := goodIn_r _ [20, 21, 22, 23, 24, 88, 89, 90, 91] rfl (by decide +kernel)
set_option maxRecDepth 20000 in
theorem gX8_readToken_X8_add : GoodIn wsX8_readToken (wsV RX8 45 RX8 yX8_add wsX8_add) := goodIn_app (goodIn_of _ (by decide +kernel)) ggX8_readToken_X8_add
set_option maxRecDepth 20000 in
theorem ggX8_readToken_X11_symbolOf : GoodIn wsX8_readToken wsX11_symbolOf := goodIn_r _ [30] rfl (by decide +kernel)
set_option maxRecDepth 20000 in
theorem gX8_readToken_X11_symbolOf_n49 : GoodIn wsX8_readToken (wsX11_symbolOf) := ggX8_readToken_X11_symbolOf
set_option maxRecDepth 20000 in
theorem ggX8_readToken_J0_length_8abf5 : GoodIn wsX8_readToken wsJ0_length_8abf5 := goodIn_r _ [35, 36, 37, 38, 39, 34, 40, 41, 42] rfl (by decide +kernel)
set_option maxRecDepth 20000 in
theorem gX8_readToken_J0_length_8abf5 : GoodIn wsX8_readToken (wsV RX8 53 RJ0 yJ0_length_8abf5 wsJ0_length_8abf5) := goodIn_app (goodIn_of _ (by decide +kernel)) ggX8_readToken_J0_length_8abf5
set_option maxRecDepth 20000 in
theorem ggX8_readToken_X8_kindOfPair : GoodIn wsX8_readToken wsX8_kindOfPair := goodIn_r _ [82] rfl (by decide +kernel)
set_option maxRecDepth 20000 in
theorem gX8_readToken_X8_kindOfPair : GoodIn wsX8_readToken (va_wsS RX8 58 yX8_kindOfPair wsX8_kindOfPair) := goodIn_app (goodIn_of _ (by decide +kernel)) ggX8_readToken_X8_kindOfPair
set_option maxRecDepth 20000 in
theorem ggX8_readToken_X8_kindOfSign : GoodIn wsX8_readToken wsX8_kindOfSign := goodIn_r _ [85] rfl (by decide +kernel)
set_option maxRecDepth 20000 in
theorem gX8_readToken_X8_kindOfSign : GoodIn wsX8_readToken (va_wsS RX8 62 yX8_kindOfSign wsX8_kindOfSign) := goodIn_app (goodIn_of _ (by decide +kernel)) ggX8_readToken_X8_kindOfSign
theorem dX8_readToken_0 : decode cX8_readToken 0 = .ok (.aload_n 1, 1) := by decide +kernel
theorem dX8_readToken_1 : decode cX8_readToken 1 = .ok (.iload_n 2, 1) := by decide +kernel
theorem dX8_readToken_2 : decode cX8_readToken 2 = .ok (.invokevirtual 31, 3) := by decide +kernel
theorem dX8_readToken_5 : decode cX8_readToken 5 = .ok (.istore_n 3, 1) := by decide +kernel
theorem dX8_readToken_6 : decode cX8_readToken 6 = .ok (.iload_n 3, 1) := by decide +kernel
theorem dX8_readToken_7 : decode cX8_readToken 7 = .ok (.bipush 48, 2) := by decide +kernel
theorem dX8_readToken_9 : decode cX8_readToken 9 = .ok (.if_icmp .lt 16, 3) := by decide +kernel
theorem dX8_readToken_12 : decode cX8_readToken 12 = .ok (.iload_n 3, 1) := by decide +kernel
theorem dX8_readToken_13 : decode cX8_readToken 13 = .ok (.bipush 57, 2) := by decide +kernel
theorem dX8_readToken_15 : decode cX8_readToken 15 = .ok (.if_icmp .gt 10, 3) := by decide +kernel
theorem dX8_readToken_18 : decode cX8_readToken 18 = .ok (.aload_n 0, 1) := by decide +kernel
theorem dX8_readToken_19 : decode cX8_readToken 19 = .ok (.aload_n 1, 1) := by decide +kernel
theorem dX8_readToken_20 : decode cX8_readToken 20 = .ok (.iload_n 2, 1) := by decide +kernel
theorem dX8_readToken_21 : decode cX8_readToken 21 = .ok (.invokevirtual 39, 3) := by decide +kernel
theorem dX8_readToken_24 : decode cX8_readToken 24 = .ok (.ireturn, 1) := by decide +kernel
theorem dX8_readToken_25 : decode cX8_readToken 25 = .ok (.iload_n 3, 1) := by decide +kernel
theorem dX8_readToken_26 : decode cX8_readToken 26 = .ok (.bipush 97, 2) := by decide +kernel
theorem dX8_readToken_28 : decode cX8_readToken 28 = .ok (.if_icmp .lt 50, 3) := by decide +kernel
theorem dX8_readToken_31 : decode cX8_readToken 31 = .ok (.iload_n 3, 1) := by decide +kernel
theorem dX8_readToken_32 : decode cX8_readToken 32 = .ok (.bipush 122, 2) := by decide +kernel
theorem dX8_readToken_34 : decode cX8_readToken 34 = .ok (.if_icmp .gt 44, 3) := by decide +kernel
theorem dX8_readToken_37 : decode cX8_readToken 37 = .ok (.aload_n 1, 1) := by decide +kernel
theorem dX8_readToken_38 : decode cX8_readToken 38 = .ok (.iload_n 2, 1) := by decide +kernel
theorem dX8_readToken_39 : decode cX8_readToken 39 = .ok (.invokestatic 42, 3) := by decide +kernel
theorem dX8_readToken_42 : decode cX8_readToken 42 = .ok (.istore 4, 2) := by decide +kernel
theorem dX8_readToken_44 : decode cX8_readToken 44 = .ok (.iload 4, 2) := by decide +kernel
theorem dX8_readToken_46 : decode cX8_readToken 46 = .ok (.ifCond .ne 15, 3) := by decide +kernel
theorem dX8_readToken_49 : decode cX8_readToken 49 = .ok (.aload_n 0, 1) := by decide +kernel
theorem dX8_readToken_50 : decode cX8_readToken 50 = .ok (.iconst 2, 1) := by decide +kernel
theorem dX8_readToken_51 : decode cX8_readToken 51 = .ok (.iload_n 2, 1) := by decide +kernel
theorem dX8_readToken_52 : decode cX8_readToken 52 = .ok (.iload_n 3, 1) := by decide +kernel
theorem dX8_readToken_53 : decode cX8_readToken 53 = .ok (.bipush 97, 2) := by decide +kernel
theorem dX8_readToken_55 : decode cX8_readToken 55 = .ok (.isub, 1) := by decide +kernel
theorem dX8_readToken_56 : decode cX8_readToken 56 = .ok (.iconst 1, 1) := by decide +kernel
theorem dX8_readToken_57 : decode cX8_readToken 57 = .ok (.invokevirtual 45, 3) := by decide +kernel
theorem dX8_readToken_60 : decode cX8_readToken 60 = .ok (.ireturn, 1) := by decide +kernel
theorem dX8_readToken_61 : decode cX8_readToken 61 = .ok (.aload_n 0, 1) := by decide +kernel
theorem dX8_readToken_62 : decode cX8_readToken 62 = .ok (.iload 4, 2) := by decide +kernel
theorem dX8_readToken_64 : decode cX8_readToken 64 = .ok (.iload_n 2, 1) := by decide +kernel
theorem dX8_readToken_65 : decode cX8_readToken 65 = .ok (.iconst 0, 1) := by decide +kernel
theorem dX8_readToken_66 : decode cX8_readToken 66 = .ok (.iload 4, 2) := by decide +kernel
theorem dX8_readToken_68 : decode cX8_readToken 68 = .ok (.invokestatic 49, 3) := by decide +kernel
theorem dX8_readToken_71 : decode cX8_readToken 71 = .ok (.invokevirtual 53, 3) := by decide +kernel
theorem dX8_readToken_74 : decode cX8_readToken 74 = .ok (.invokevirtual 45, 3) := by decide +kernel
theorem dX8_readToken_77 : decode cX8_readToken 77 = .ok (.ireturn, 1) := by decide +kernel
theorem dX8_readToken_78 : decode cX8_readToken 78 = .ok (.iload_n 3, 1) := by decide +kernel
theorem dX8_readToken_79 : decode cX8_readToken 79 = .ok (.aload_n 1, 1) := by decide +kernel
theorem dX8_readToken_80 : decode cX8_readToken 80 = .ok (.iload_n 2, 1) := by decide +kernel
theorem dX8_readToken_81 : decode cX8_readToken 81 = .ok (.iconst 1, 1) := by decide +kernel
theorem dX8_readToken_82 : decode cX8_readToken 82 = .ok (.iadd, 1) := by decide +kernel
theorem dX8_readToken_83 : decode cX8_readToken 83 = .ok (.invokevirtual 31, 3) := by decide +kernel
theorem dX8_readToken_86 : decode cX8_readToken 86 = .ok (.invokestatic 58, 3) := by decide +kernel
theorem dX8_readToken_89 : decode cX8_readToken 89 = .ok (.istore 4, 2) := by decide +kernel
theorem dX8_readToken_91 : decode cX8_readToken 91 = .ok (.iload 4, 2) := by decide +kernel
theorem dX8_readToken_93 : decode cX8_readToken 93 = .ok (.ifCond .eq 13, 3) := by decide +kernel
theorem dX8_readToken_96 : decode cX8_readToken 96 = .ok (.aload_n 0, 1) := by decide +kernel
theorem dX8_readToken_97 : decode cX8_readToken 97 = .ok (.iload 4, 2) := by decide +kernel
theorem dX8_readToken_99 : decode cX8_readToken 99 = .ok (.iload_n 2, 1) := by decide +kernel
theorem dX8_readToken_100 : decode cX8_readToken 100 = .ok (.iconst 0, 1) := by decide +kernel
theorem dX8_readToken_101 : decode cX8_readToken 101 = .ok (.iconst 2, 1) := by decide +kernel
theorem dX8_readToken_102 : decode cX8_readToken 102 = .ok (.invokevirtual 45, 3) := by decide +kernel
theorem dX8_readToken_105 : decode cX8_readToken 105 = .ok (.ireturn, 1) := by decide +kernel
theorem dX8_readToken_106 : decode cX8_readToken 106 = .ok (.aload_n 0, 1) := by decide +kernel
theorem dX8_readToken_107 : decode cX8_readToken 107 = .ok (.iload_n 3, 1) := by decide +kernel
theorem dX8_readToken_108 : decode cX8_readToken 108 = .ok (.invokestatic 62, 3) := by decide +kernel
theorem dX8_readToken_111 : decode cX8_readToken 111 = .ok (.iload_n 2, 1) := by decide +kernel
theorem dX8_readToken_112 : decode cX8_readToken 112 = .ok (.iconst 0, 1) := by decide +kernel
theorem dX8_readToken_113 : decode cX8_readToken 113 = .ok (.iconst 1, 1) := by decide +kernel
theorem dX8_readToken_114 : decode cX8_readToken 114 = .ok (.invokevirtual 45, 3) := by decide +kernel
theorem dX8_readToken_117 : decode cX8_readToken 117 = .ok (.ireturn, 1) := by decide +kernel
set_option maxRecDepth 20000 in
theorem ggX8_readNumber_X1_size : GoodIn wsX8_readNumber wsX1_size := goodIn_r _ [5, 6, 21, 22] rfl (by decide +kernel)
set_option maxRecDepth 20000 in
theorem gX8_readNumber_X1_size : GoodIn wsX8_readNumber (wsV RX8 25 RX1 yX1_size wsX1_size) := goodIn_app (goodIn_of _ (by decide +kernel)) ggX8_readNumber_X1_size
set_option maxRecDepth 20000 in
theorem ggX8_readNumber_X1_at : GoodIn wsX8_readNumber wsX1_at := goodIn_r _ [10, 6, 11, 21, 22] rfl (by decide +kernel)
set_option maxRecDepth 20000 in
theorem gX8_readNumber_X1_at : GoodIn wsX8_readNumber (wsV RX8 31 RX1 yX1_at wsX1_at) := goodIn_app (goodIn_of _ (by decide +kernel)) ggX8_readNumber_X1_at
set_option maxRecDepth 20000 in
theorem ggX8_readNumber_X8_add : GoodIn wsX8_readNumber wsX8_add := goodIn_r _ [16, 17, 18, 19, 20, 23, 24, 25, 26] rfl (by decide +kernel)
set_option maxRecDepth 20000 in
theorem gX8_readNumber_X8_add : GoodIn wsX8_readNumber (wsV RX8 45 RX8 yX8_add wsX8_add) := goodIn_app (goodIn_of _ (by decide +kernel)) ggX8_readNumber_X8_add
theorem dX8_readNumber_0 : decode cX8_readNumber 0 = .ok (.iconst 0, 1) := by decide +kernel
theorem dX8_readNumber_1 : decode cX8_readNumber 1 = .ok (.istore_n 3, 1) := by decide +kernel
theorem dX8_readNumber_2 : decode cX8_readNumber 2 = .ok (.iconst 0, 1) := by decide +kernel
theorem dX8_readNumber_3 : decode cX8_readNumber 3 = .ok (.istore 4, 2) := by decide +kernel
theorem dX8_readNumber_5 : decode cX8_readNumber 5 = .ok (.iload_n 2, 1) := by decide +kernel
theorem dX8_readNumber_6 : decode cX8_readNumber 6 = .ok (.istore 5, 2) := by decide +kernel
theorem dX8_readNumber_8 : decode cX8_readNumber 8 = .ok (.iload 5, 2) := by decide +kernel
theorem dX8_readNumber_10 : decode cX8_readNumber 10 = .ok (.aload_n 1, 1) := by decide +kernel
theorem dX8_readNumber_11 : decode cX8_readNumber 11 = .ok (.invokevirtual 25, 3) := by decide +kernel
theorem dX8_readNumber_14 : decode cX8_readNumber 14 = .ok (.if_icmp .ge 56, 3) := by decide +kernel
theorem dX8_readNumber_17 : decode cX8_readNumber 17 = .ok (.aload_n 1, 1) := by decide +kernel
theorem dX8_readNumber_18 : decode cX8_readNumber 18 = .ok (.iload 5, 2) := by decide +kernel
theorem dX8_readNumber_20 : decode cX8_readNumber 20 = .ok (.invokevirtual 31, 3) := by decide +kernel
theorem dX8_readNumber_23 : decode cX8_readNumber 23 = .ok (.bipush 48, 2) := by decide +kernel
theorem dX8_readNumber_25 : decode cX8_readNumber 25 = .ok (.if_icmp .lt 45, 3) := by decide +kernel
theorem dX8_readNumber_28 : decode cX8_readNumber 28 = .ok (.aload_n 1, 1) := by decide +kernel
theorem dX8_readNumber_29 : decode cX8_readNumber 29 = .ok (.iload 5, 2) := by decide +kernel
theorem dX8_readNumber_31 : decode cX8_readNumber 31 = .ok (.invokevirtual 31, 3) := by decide +kernel
theorem dX8_readNumber_34 : decode cX8_readNumber 34 = .ok (.bipush 57, 2) := by decide +kernel
theorem dX8_readNumber_36 : decode cX8_readNumber 36 = .ok (.if_icmp .gt 34, 3) := by decide +kernel
theorem dX8_readNumber_39 : decode cX8_readNumber 39 = .ok (.iinc 4 1, 3) := by decide +kernel
theorem dX8_readNumber_42 : decode cX8_readNumber 42 = .ok (.iload 4, 2) := by decide +kernel
theorem dX8_readNumber_44 : decode cX8_readNumber 44 = .ok (.bipush 6, 2) := by decide +kernel
theorem dX8_readNumber_46 : decode cX8_readNumber 46 = .ok (.if_icmp .gt 18, 3) := by decide +kernel
theorem dX8_readNumber_49 : decode cX8_readNumber 49 = .ok (.bipush 10, 2) := by decide +kernel
theorem dX8_readNumber_51 : decode cX8_readNumber 51 = .ok (.iload_n 3, 1) := by decide +kernel
theorem dX8_readNumber_52 : decode cX8_readNumber 52 = .ok (.imul, 1) := by decide +kernel
theorem dX8_readNumber_53 : decode cX8_readNumber 53 = .ok (.aload_n 1, 1) := by decide +kernel
theorem dX8_readNumber_54 : decode cX8_readNumber 54 = .ok (.iload 5, 2) := by decide +kernel
theorem dX8_readNumber_56 : decode cX8_readNumber 56 = .ok (.invokevirtual 31, 3) := by decide +kernel
theorem dX8_readNumber_59 : decode cX8_readNumber 59 = .ok (.iadd, 1) := by decide +kernel
theorem dX8_readNumber_60 : decode cX8_readNumber 60 = .ok (.bipush 48, 2) := by decide +kernel
theorem dX8_readNumber_62 : decode cX8_readNumber 62 = .ok (.isub, 1) := by decide +kernel
theorem dX8_readNumber_63 : decode cX8_readNumber 63 = .ok (.istore_n 3, 1) := by decide +kernel
theorem dX8_readNumber_64 : decode cX8_readNumber 64 = .ok (.iinc 5 1, 3) := by decide +kernel
theorem dX8_readNumber_67 : decode cX8_readNumber 67 = .ok (.goto (-59), 3) := by decide +kernel
theorem dX8_readNumber_70 : decode cX8_readNumber 70 = .ok (.aload_n 0, 1) := by decide +kernel
theorem dX8_readNumber_71 : decode cX8_readNumber 71 = .ok (.iload 4, 2) := by decide +kernel
theorem dX8_readNumber_73 : decode cX8_readNumber 73 = .ok (.bipush 6, 2) := by decide +kernel
theorem dX8_readNumber_75 : decode cX8_readNumber 75 = .ok (.if_icmp .gt 7, 3) := by decide +kernel
theorem dX8_readNumber_78 : decode cX8_readNumber 78 = .ok (.iconst 1, 1) := by decide +kernel
theorem dX8_readNumber_79 : decode cX8_readNumber 79 = .ok (.goto 4, 3) := by decide +kernel
theorem dX8_readNumber_82 : decode cX8_readNumber 82 = .ok (.iconst 0, 1) := by decide +kernel
theorem dX8_readNumber_83 : decode cX8_readNumber 83 = .ok (.iload_n 2, 1) := by decide +kernel
theorem dX8_readNumber_84 : decode cX8_readNumber 84 = .ok (.iload_n 3, 1) := by decide +kernel
theorem dX8_readNumber_85 : decode cX8_readNumber 85 = .ok (.iload 4, 2) := by decide +kernel
theorem dX8_readNumber_87 : decode cX8_readNumber 87 = .ok (.invokevirtual 45, 3) := by decide +kernel
theorem dX8_readNumber_90 : decode cX8_readNumber 90 = .ok (.ireturn, 1) := by decide +kernel
theorem dX8_add_0 : decode cX8_add 0 = .ok (.aload_n 0, 1) := by decide +kernel
theorem dX8_add_1 : decode cX8_add 1 = .ok (.getfield 21, 3) := by decide +kernel
theorem dX8_add_4 : decode cX8_add 4 = .ok (.bipush 80, 2) := by decide +kernel
theorem dX8_add_6 : decode cX8_add 6 = .ok (.if_icmp .ge 43, 3) := by decide +kernel
theorem dX8_add_9 : decode cX8_add 9 = .ok (.aload_n 0, 1) := by decide +kernel
theorem dX8_add_10 : decode cX8_add 10 = .ok (.getfield 9, 3) := by decide +kernel
theorem dX8_add_13 : decode cX8_add 13 = .ok (.aload_n 0, 1) := by decide +kernel
theorem dX8_add_14 : decode cX8_add 14 = .ok (.getfield 21, 3) := by decide +kernel
theorem dX8_add_17 : decode cX8_add 17 = .ok (.iload_n 1, 1) := by decide +kernel
theorem dX8_add_18 : decode cX8_add 18 = .ok (.iastore, 1) := by decide +kernel
theorem dX8_add_19 : decode cX8_add 19 = .ok (.aload_n 0, 1) := by decide +kernel
theorem dX8_add_20 : decode cX8_add 20 = .ok (.getfield 15, 3) := by decide +kernel
theorem dX8_add_23 : decode cX8_add 23 = .ok (.aload_n 0, 1) := by decide +kernel
theorem dX8_add_24 : decode cX8_add 24 = .ok (.getfield 21, 3) := by decide +kernel
theorem dX8_add_27 : decode cX8_add 27 = .ok (.iload_n 2, 1) := by decide +kernel
theorem dX8_add_28 : decode cX8_add 28 = .ok (.iastore, 1) := by decide +kernel
theorem dX8_add_29 : decode cX8_add 29 = .ok (.aload_n 0, 1) := by decide +kernel
theorem dX8_add_30 : decode cX8_add 30 = .ok (.getfield 18, 3) := by decide +kernel
theorem dX8_add_33 : decode cX8_add 33 = .ok (.aload_n 0, 1) := by decide +kernel
theorem dX8_add_34 : decode cX8_add 34 = .ok (.getfield 21, 3) := by decide +kernel
theorem dX8_add_37 : decode cX8_add 37 = .ok (.iload_n 3, 1) := by decide +kernel
theorem dX8_add_38 : decode cX8_add 38 = .ok (.iastore, 1) := by decide +kernel
theorem dX8_add_39 : decode cX8_add 39 = .ok (.aload_n 0, 1) := by decide +kernel
theorem dX8_add_40 : decode cX8_add 40 = .ok (.dup, 1) := by decide +kernel
theorem dX8_add_41 : decode cX8_add 41 = .ok (.getfield 21, 3) := by decide +kernel
theorem dX8_add_44 : decode cX8_add 44 = .ok (.iconst 1, 1) := by decide +kernel
theorem dX8_add_45 : decode cX8_add 45 = .ok (.iadd, 1) := by decide +kernel
theorem dX8_add_46 : decode cX8_add 46 = .ok (.putfield 21, 3) := by decide +kernel
theorem dX8_add_49 : decode cX8_add 49 = .ok (.iload 4, 2) := by decide +kernel
theorem dX8_add_51 : decode cX8_add 51 = .ok (.ireturn, 1) := by decide +kernel
set_option maxRecDepth 20000 in
theorem ggX8_functionAt_X11_symbolOf : GoodIn wsX8_functionAt wsX11_symbolOf := goodIn_r _ [3] rfl (by decide +kernel)
set_option maxRecDepth 20000 in
theorem gX8_functionAt_X11_symbolOf_n49 : GoodIn wsX8_functionAt (wsX11_symbolOf) := ggX8_functionAt_X11_symbolOf
set_option maxRecDepth 20000 in
theorem ggX8_functionAt_J0_length_8abf5 : GoodIn wsX8_functionAt wsJ0_length_8abf5 := goodIn_r _ [8, 9, 10, 11, 12, 7, 13, 14, 15] rfl (by decide +kernel)
set_option maxRecDepth 20000 in
theorem gX8_functionAt_J0_length_8abf5 : GoodIn wsX8_functionAt (wsV RX8 53 RJ0 yJ0_length_8abf5 wsJ0_length_8abf5) := goodIn_app (goodIn_of _ (by decide +kernel)) ggX8_functionAt_J0_length_8abf5
set_option maxRecDepth 20000 in
theorem ggX8_functionAt_X1_at : GoodIn wsX8_functionAt wsX1_at := goodIn_r _ [20, 21, 22, 60, 61] rfl (by decide +kernel)
set_option maxRecDepth 20000 in
theorem gX8_functionAt_X1_at : GoodIn wsX8_functionAt (wsV RX8 31 RX1 yX1_at wsX1_at) := goodIn_app (goodIn_of _ (by decide +kernel)) ggX8_functionAt_X1_at
set_option maxRecDepth 20000 in
theorem ggX8_functionAt_J0_charAt_5068e : GoodIn wsX8_functionAt wsJ0_charAt_5068e := goodIn_r _ [26, 9, 27, 28, 29, 7, 30, 14, 15, 31, 32, 33, 34, 35, 36, 37, 38, 39, 40, 41, 42, 43, 44, 45, 46, 47, 48, 49, 50, 51, 52, 53, 54, 55, 56, 57, 58, 59] rfl (by decide +kernel)
set_option maxRecDepth 20000 in
theorem gX8_functionAt_J0_charAt_5068e : GoodIn wsX8_functionAt (wsV RX8 65 RJ0 yJ0_charAt_5068e wsJ0_charAt_5068e) := goodIn_app (goodIn_of _ (by decide +kernel)) ggX8_functionAt_J0_charAt_5068e
theorem dX8_functionAt_0 : decode cX8_functionAt 0 = .ok (.iconst 3, 1) := by decide +kernel
theorem dX8_functionAt_1 : decode cX8_functionAt 1 = .ok (.istore_n 2, 1) := by decide +kernel
theorem dX8_functionAt_2 : decode cX8_functionAt 2 = .ok (.iload_n 2, 1) := by decide +kernel
theorem dX8_functionAt_3 : decode cX8_functionAt 3 = .ok (.bipush 6, 2) := by decide +kernel
theorem dX8_functionAt_5 : decode cX8_functionAt 5 = .ok (.if_icmp .gt 71, 3) := by decide +kernel
theorem dX8_functionAt_8 : decode cX8_functionAt 8 = .ok (.iload_n 2, 1) := by decide +kernel
theorem dX8_functionAt_9 : decode cX8_functionAt 9 = .ok (.invokestatic 49, 3) := by decide +kernel
theorem dX8_functionAt_12 : decode cX8_functionAt 12 = .ok (.astore_n 3, 1) := by decide +kernel
theorem dX8_functionAt_13 : decode cX8_functionAt 13 = .ok (.iconst 1, 1) := by decide +kernel
theorem dX8_functionAt_14 : decode cX8_functionAt 14 = .ok (.istore 4, 2) := by decide +kernel
theorem dX8_functionAt_16 : decode cX8_functionAt 16 = .ok (.iconst 0, 1) := by decide +kernel
theorem dX8_functionAt_17 : decode cX8_functionAt 17 = .ok (.istore 5, 2) := by decide +kernel
theorem dX8_functionAt_19 : decode cX8_functionAt 19 = .ok (.iload 5, 2) := by decide +kernel
theorem dX8_functionAt_21 : decode cX8_functionAt 21 = .ok (.aload_n 3, 1) := by decide +kernel
theorem dX8_functionAt_22 : decode cX8_functionAt 22 = .ok (.invokevirtual 53, 3) := by decide +kernel
theorem dX8_functionAt_25 : decode cX8_functionAt 25 = .ok (.if_icmp .ge 38, 3) := by decide +kernel
theorem dX8_functionAt_28 : decode cX8_functionAt 28 = .ok (.iload 4, 2) := by decide +kernel
theorem dX8_functionAt_30 : decode cX8_functionAt 30 = .ok (.ifCond .eq 24, 3) := by decide +kernel
theorem dX8_functionAt_33 : decode cX8_functionAt 33 = .ok (.aload_n 0, 1) := by decide +kernel
theorem dX8_functionAt_34 : decode cX8_functionAt 34 = .ok (.iload_n 1, 1) := by decide +kernel
theorem dX8_functionAt_35 : decode cX8_functionAt 35 = .ok (.iload 5, 2) := by decide +kernel
theorem dX8_functionAt_37 : decode cX8_functionAt 37 = .ok (.iadd, 1) := by decide +kernel
theorem dX8_functionAt_38 : decode cX8_functionAt 38 = .ok (.invokevirtual 31, 3) := by decide +kernel
theorem dX8_functionAt_41 : decode cX8_functionAt 41 = .ok (.aload_n 3, 1) := by decide +kernel
theorem dX8_functionAt_42 : decode cX8_functionAt 42 = .ok (.iload 5, 2) := by decide +kernel
theorem dX8_functionAt_44 : decode cX8_functionAt 44 = .ok (.invokevirtual 65, 3) := by decide +kernel
theorem dX8_functionAt_47 : decode cX8_functionAt 47 = .ok (.if_icmp .ne 7, 3) := by decide +kernel
theorem dX8_functionAt_50 : decode cX8_functionAt 50 = .ok (.iconst 1, 1) := by decide +kernel
theorem dX8_functionAt_51 : decode cX8_functionAt 51 = .ok (.goto 4, 3) := by decide +kernel
theorem dX8_functionAt_54 : decode cX8_functionAt 54 = .ok (.iconst 0, 1) := by decide +kernel
theorem dX8_functionAt_55 : decode cX8_functionAt 55 = .ok (.istore 4, 2) := by decide +kernel
theorem dX8_functionAt_57 : decode cX8_functionAt 57 = .ok (.iinc 5 1, 3) := by decide +kernel
theorem dX8_functionAt_60 : decode cX8_functionAt 60 = .ok (.goto (-41), 3) := by decide +kernel
theorem dX8_functionAt_63 : decode cX8_functionAt 63 = .ok (.iload 4, 2) := by decide +kernel
theorem dX8_functionAt_65 : decode cX8_functionAt 65 = .ok (.ifCond .eq 5, 3) := by decide +kernel
theorem dX8_functionAt_68 : decode cX8_functionAt 68 = .ok (.iload_n 2, 1) := by decide +kernel
theorem dX8_functionAt_69 : decode cX8_functionAt 69 = .ok (.ireturn, 1) := by decide +kernel
theorem dX8_functionAt_70 : decode cX8_functionAt 70 = .ok (.iinc 2 1, 3) := by decide +kernel
theorem dX8_functionAt_73 : decode cX8_functionAt 73 = .ok (.goto (-71), 3) := by decide +kernel
theorem dX8_functionAt_76 : decode cX8_functionAt 76 = .ok (.iconst 0, 1) := by decide +kernel
theorem dX8_functionAt_77 : decode cX8_functionAt 77 = .ok (.ireturn, 1) := by decide +kernel
theorem dX8_kindOfPair_0 : decode cX8_kindOfPair 0 = .ok (.iload_n 0, 1) := by decide +kernel
theorem dX8_kindOfPair_1 : decode cX8_kindOfPair 1 = .ok (.bipush 46, 2) := by decide +kernel
theorem dX8_kindOfPair_3 : decode cX8_kindOfPair 3 = .ok (.if_icmp .ne 12, 3) := by decide +kernel
theorem dX8_kindOfPair_6 : decode cX8_kindOfPair 6 = .ok (.iload_n 1, 1) := by decide +kernel
theorem dX8_kindOfPair_7 : decode cX8_kindOfPair 7 = .ok (.bipush 46, 2) := by decide +kernel
theorem dX8_kindOfPair_9 : decode cX8_kindOfPair 9 = .ok (.if_icmp .ne 6, 3) := by decide +kernel
theorem dX8_kindOfPair_12 : decode cX8_kindOfPair 12 = .ok (.bipush 21, 2) := by decide +kernel
theorem dX8_kindOfPair_14 : decode cX8_kindOfPair 14 = .ok (.ireturn, 1) := by decide +kernel
theorem dX8_kindOfPair_15 : decode cX8_kindOfPair 15 = .ok (.iload_n 1, 1) := by decide +kernel
theorem dX8_kindOfPair_16 : decode cX8_kindOfPair 16 = .ok (.bipush 61, 2) := by decide +kernel
theorem dX8_kindOfPair_18 : decode cX8_kindOfPair 18 = .ok (.if_icmp .eq 5, 3) := by decide +kernel
theorem dX8_kindOfPair_21 : decode cX8_kindOfPair 21 = .ok (.iconst 0, 1) := by decide +kernel
theorem dX8_kindOfPair_22 : decode cX8_kindOfPair 22 = .ok (.ireturn, 1) := by decide +kernel
theorem dX8_kindOfPair_23 : decode cX8_kindOfPair 23 = .ok (.iload_n 0, 1) := by decide +kernel
theorem dX8_kindOfPair_24 : decode cX8_kindOfPair 24 = .ok (.lookupswitch 45 #[(33, 42), (60, 36), (62, 39)], 36) := by decide +kernel
theorem dX8_kindOfPair_60 : decode cX8_kindOfPair 60 = .ok (.bipush 17, 2) := by decide +kernel
theorem dX8_kindOfPair_62 : decode cX8_kindOfPair 62 = .ok (.ireturn, 1) := by decide +kernel
theorem dX8_kindOfPair_63 : decode cX8_kindOfPair 63 = .ok (.bipush 18, 2) := by decide +kernel
theorem dX8_kindOfPair_65 : decode cX8_kindOfPair 65 = .ok (.ireturn, 1) := by decide +kernel
theorem dX8_kindOfPair_66 : decode cX8_kindOfPair 66 = .ok (.bipush 19, 2) := by decide +kernel
theorem dX8_kindOfPair_68 : decode cX8_kindOfPair 68 = .ok (.ireturn, 1) := by decide +kernel
theorem dX8_kindOfPair_69 : decode cX8_kindOfPair 69 = .ok (.iconst 0, 1) := by decide +kernel
theorem dX8_kindOfPair_70 : decode cX8_kindOfPair 70 = .ok (.ireturn, 1) := by decide +kernel
theorem dX8_kindOfSign_0 : decode cX8_kindOfSign 0 = .ok (.iload_n 0, 1) := by decide +kernel
theorem dX8_kindOfSign_1 : decode cX8_kindOfSign 1 = .ok (.lookupswitch 143 #[(39, 107), (40, 125), (41, 128), (42, 116), (43, 110), (45, 113), (47, 119), (58, 140), (60, 134), (61, 131), (62, 137), (94, 122)], 107) := by decide +kernel
theorem dX8_kindOfSign_108 : decode cX8_kindOfSign 108 = .ok (.bipush 24, 2) := by decide +kernel
theorem dX8_kindOfSign_110 : decode cX8_kindOfSign 110 = .ok (.ireturn, 1) := by decide +kernel
theorem dX8_kindOfSign_111 : decode cX8_kindOfSign 111 = .ok (.bipush 7, 2) := by decide +kernel
theorem dX8_kindOfSign_113 : decode cX8_kindOfSign 113 = .ok (.ireturn, 1) := by decide +kernel
theorem dX8_kindOfSign_114 : decode cX8_kindOfSign 114 = .ok (.bipush 8, 2) := by decide +kernel
theorem dX8_kindOfSign_116 : decode cX8_kindOfSign 116 = .ok (.ireturn, 1) := by decide +kernel
theorem dX8_kindOfSign_117 : decode cX8_kindOfSign 117 = .ok (.bipush 9, 2) := by decide +kernel
theorem dX8_kindOfSign_119 : decode cX8_kindOfSign 119 = .ok (.ireturn, 1) := by decide +kernel
theorem dX8_kindOfSign_120 : decode cX8_kindOfSign 120 = .ok (.bipush 10, 2) := by decide +kernel
theorem dX8_kindOfSign_122 : decode cX8_kindOfSign 122 = .ok (.ireturn, 1) := by decide +kernel
theorem dX8_kindOfSign_123 : decode cX8_kindOfSign 123 = .ok (.bipush 11, 2) := by decide +kernel
theorem dX8_kindOfSign_125 : decode cX8_kindOfSign 125 = .ok (.ireturn, 1) := by decide +kernel
theorem dX8_kindOfSign_126 : decode cX8_kindOfSign 126 = .ok (.bipush 22, 2) := by decide +kernel
theorem dX8_kindOfSign_128 : decode cX8_kindOfSign 128 = .ok (.ireturn, 1) := by decide +kernel
theorem dX8_kindOfSign_129 : decode cX8_kindOfSign 129 = .ok (.bipush 23, 2) := by decide +kernel
theorem dX8_kindOfSign_131 : decode cX8_kindOfSign 131 = .ok (.ireturn, 1) := by decide +kernel
theorem dX8_kindOfSign_132 : decode cX8_kindOfSign 132 = .ok (.bipush 14, 2) := by decide +kernel
theorem dX8_kindOfSign_134 : decode cX8_kindOfSign 134 = .ok (.ireturn, 1) := by decide +kernel
theorem dX8_kindOfSign_135 : decode cX8_kindOfSign 135 = .ok (.bipush 15, 2) := by decide +kernel
theorem dX8_kindOfSign_137 : decode cX8_kindOfSign 137 = .ok (.ireturn, 1) := by decide +kernel
theorem dX8_kindOfSign_138 : decode cX8_kindOfSign 138 = .ok (.bipush 16, 2) := by decide +kernel
theorem dX8_kindOfSign_140 : decode cX8_kindOfSign 140 = .ok (.ireturn, 1) := by decide +kernel
theorem dX8_kindOfSign_141 : decode cX8_kindOfSign 141 = .ok (.bipush 20, 2) := by decide +kernel
theorem dX8_kindOfSign_143 : decode cX8_kindOfSign 143 = .ok (.ireturn, 1) := by decide +kernel
theorem dX8_kindOfSign_144 : decode cX8_kindOfSign 144 = .ok (.iconst 0, 1) := by decide +kernel
theorem dX8_kindOfSign_145 : decode cX8_kindOfSign 145 = .ok (.ireturn, 1) := by decide +kernel
def fn_Tokens_size (q_count : Int32) : Int32 := q_count
set_option maxHeartbeats 40000000 in
set_option maxRecDepth 100000 in
theorem ct_Tokens_size (l : Launch) (D : va_G) (cI cJ cC : ClassId) (adK adV : Nat → Nat) (A_q A_q_kinds A_q_starts A_q_details : Nat) (sz : Nat) (q_count : Int32) : Met l yX8_size wsX8_size ({ frames := 0, cells := 0, slots := 0, locals := 0 } : Room) (zP D cI cJ cC adK adV [.ref A_q] sz [(A_q, .inr (8, [.ref A_q_kinds, .ref A_q_starts, .ref A_q_details, .int q_count]))]) (zQi D cI cJ cC (fn_Tokens_size q_count) [(A_q, .inr (8, [.ref A_q_kinds, .ref A_q_starts, .ref A_q_details, .int q_count]))] (va_A [(A_q, .inr (8, [.ref A_q_kinds, .ref A_q_starts, .ref A_q_details, .int q_count]))] sz)) 0 0 (va_A [(A_q, .inr (8, [.ref A_q_kinds, .ref A_q_starts, .ref A_q_details, .int q_count]))] sz) := by
  obtain ⟨rs, hM⟩ : ∃ rs, fn_Tokens_size q_count = rs := ⟨_, rfl⟩
  rw [hM]
  refine Met.ofW (cc := cX8_size) (maxL := 1) (ret := (some .int)) (by decide) rfl ?_
  intro p e s m args below meth c s₁ B hml hv0
  obtain ⟨hargs, hsz, hP, hK, hD0, hX⟩ := hv0
  have hx := B.exec
  have hb := B.bytes
  have hr := B.returns
  have hts := atoms_spec (ws := wsX8_size) B.pre
  have hown : s.vm.findClass RX8 = some m.cls := findClass_of_methodNamed B.named
  have hlocks := B.notSynchronized
  subst hsz
  have hD := hD0.self (sz := s.heap.size)
  generalize hAe : va_A [(A_q, .inr (8, [.ref A_q_kinds, .ref A_q_starts, .ref A_q_details, .int q_count]))] s.heap.size = A at hD hX ⊢
  have hA : ∀ q : Nat, s.heap.size ≤ q → A q := fun q h => by rw [← hAe]; exact Or.inr h
  have hS : va_S A s.heap s.heap [] := va_S.rf
  have hl := lv_entry ([.ref A_q]) (n := 1) (Nat.le_of_ble_eq_true rfl)
  rw [hargs, lg_entry_eq, ← hargs]
  generalize (lg_sl ([.ref A_q]) ++ List.replicate (1 - (lg_sl ([.ref A_q])).length) Slot.unset).toArray = ls at hl ⊢
  have hl : lv_has ls 1 [(0, .ref A_q)] := hl
  have hw0 : ∀ w ∈ u_ws RX8 TX8 4, w ∈ wsX8_size := by decide +kernel
  have hw1 := hts (.fieldLink RX8 21 "NotationParser$Tokens" "count" "I") (by decide +kernel)
  refine lv_aload_n hx hb dX8_size_0 rfl (lv_at hl 0 rfl) ?_
  refine va_get (D := D) (ci := 8) (v := .int q_count) (C := RX8) (T := TX8) (N := 4) hx hb hts hw0 hown hK hP 0 rfl rfl 3 (by decide) hw1 (fun _ h9 => h9) rfl dX8_size_1 ?_
  have hM := hM
  subst hM
  exact W.iret (v := q_count) hx hb hr (fun t ht hW => ⟨⟨_, (), rfl, rfl, ⟨by rw [ht]; exact hP, va_K.moved hW.alike hK, hD⟩⟩, hS.F ht⟩) hS.2.2 dX8_size_4
def fn_Tokens_kindOf (q_count : Int32) (q_kinds : Nat → Int32) (x1 : Int32) : Option (Int32) := (if x1 < 0 then some 0 else (if q_count ≤ x1 then some 0 else (if (x1 < 0 ∨ 80 ≤ x1.toNatClampNeg) then none else some (q_kinds x1.toNatClampNeg))))
set_option maxHeartbeats 40000000 in
set_option maxRecDepth 100000 in
theorem ct_Tokens_kindOf (l : Launch) (D : va_G) (cI cJ cC : ClassId) (adK adV : Nat → Nat) (A_q A_q_kinds A_q_starts A_q_details : Nat) (sz : Nat) (q_count : Int32) (q_kinds : Nat → Int32) (x1 : Int32) {rs : Int32} (hM : fn_Tokens_kindOf q_count q_kinds x1 = some rs) : Met l yX8_kindOf wsX8_kindOf ({ frames := 0, cells := 0, slots := 0, locals := 0 } : Room) (zP D cI cJ cC adK adV [.ref A_q, .int x1] sz [(A_q, .inr (8, [.ref A_q_kinds, .ref A_q_starts, .ref A_q_details, .int q_count])), (A_q_kinds, .inl (cI, 80, .inl q_kinds))]) (zQi D cI cJ cC rs [(A_q, .inr (8, [.ref A_q_kinds, .ref A_q_starts, .ref A_q_details, .int q_count])), (A_q_kinds, .inl (cI, 80, .inl q_kinds))] (va_A [(A_q, .inr (8, [.ref A_q_kinds, .ref A_q_starts, .ref A_q_details, .int q_count])), (A_q_kinds, .inl (cI, 80, .inl q_kinds))] sz)) 0 0 (va_A [(A_q, .inr (8, [.ref A_q_kinds, .ref A_q_starts, .ref A_q_details, .int q_count])), (A_q_kinds, .inl (cI, 80, .inl q_kinds))] sz) := by
  refine Met.ofW (cc := cX8_kindOf) (maxL := 2) (ret := (some .int)) (by decide) rfl ?_
  intro p e s m args below meth c s₁ B hml hv0
  obtain ⟨hargs, hsz, hP, hK, hD0, hX⟩ := hv0
  have hx := B.exec
  have hb := B.bytes
  have hr := B.returns
  have hts := atoms_spec (ws := wsX8_kindOf) B.pre
  have hown : s.vm.findClass RX8 = some m.cls := findClass_of_methodNamed B.named
  have hlocks := B.notSynchronized
  subst hsz
  have hD := hD0.self (sz := s.heap.size)
  generalize hAe : va_A [(A_q, .inr (8, [.ref A_q_kinds, .ref A_q_starts, .ref A_q_details, .int q_count])), (A_q_kinds, .inl (cI, 80, .inl q_kinds))] s.heap.size = A at hD hX ⊢
  have hA : ∀ q : Nat, s.heap.size ≤ q → A q := fun q h => by rw [← hAe]; exact Or.inr h
  have hS : va_S A s.heap s.heap [] := va_S.rf
  have hl := lv_entry ([.ref A_q, .int x1]) (n := 2) (Nat.le_of_ble_eq_true rfl)
  rw [hargs, lg_entry_eq, ← hargs]
  generalize (lg_sl ([.ref A_q, .int x1]) ++ List.replicate (2 - (lg_sl ([.ref A_q, .int x1])).length) Slot.unset).toArray = ls at hl ⊢
  have hl : lv_has ls 2 [(0, .ref A_q), (1, .int x1)] := hl
  have hw0 : ∀ w ∈ u_ws RX8 TX8 4, w ∈ wsX8_kindOf := by decide +kernel
  have hw1 := hts (.fieldLink RX8 21 "NotationParser$Tokens" "count" "I") (by decide +kernel)
  have hw2 := hts (.fieldLink RX8 9 "NotationParser$Tokens" "kinds" "[I") (by decide +kernel)
  refine lv_iload_n hx hb dX8_kindOf_0 rfl (lv_at hl 1 rfl) ?_
  refine lv_if_lt (tgt := 21) hx hb dX8_kindOf_1 (by decide) (fun c1 => ?_) (fun c1 => ?_)
  · have hM := z_t c1 hM
    refine lv_iconst (v := 0) hx hb dX8_kindOf_21 (by decide) ?_
    have hM := Option.some.inj hM
    subst hM
    exact W.iret (v := 0) hx hb hr (fun t ht hW => ⟨⟨_, (), rfl, rfl, ⟨by rw [ht]; exact hP, va_K.moved hW.alike hK, hD⟩⟩, hS.F ht⟩) hS.2.2 dX8_kindOf_22
  · have hM := z_f c1 hM
    refine lv_iload_n hx hb dX8_kindOf_4 rfl (lv_at hl 1 rfl) ?_
    refine lv_aload_n hx hb dX8_kindOf_5 rfl (lv_at hl 0 rfl) ?_
    refine va_get (D := D) (ci := 8) (v := .int q_count) (C := RX8) (T := TX8) (N := 4) hx hb hts hw0 hown hK hP 0 rfl rfl 3 (by decide) hw1 (fun _ h9 => h9) rfl dX8_kindOf_6 ?_
    refine lv_icmp_ge (tgt := 21) hx hb dX8_kindOf_9 (by decide) (fun c2 => ?_) (fun c2 => ?_)
    · have hM := z_t c2 hM
      refine lv_iconst (v := 0) hx hb dX8_kindOf_21 (by decide) ?_
      have hM := Option.some.inj hM
      subst hM
      exact W.iret (v := 0) hx hb hr (fun t ht hW => ⟨⟨_, (), rfl, rfl, ⟨by rw [ht]; exact hP, va_K.moved hW.alike hK, hD⟩⟩, hS.F ht⟩) hS.2.2 dX8_kindOf_22
    · have hM := z_f c2 hM
      refine lv_aload_n hx hb dX8_kindOf_12 rfl (lv_at hl 0 rfl) ?_
      refine va_get (D := D) (ci := 8) (v := .ref A_q_kinds) (C := RX8) (T := TX8) (N := 4) hx hb hts hw0 hown hK hP 0 rfl rfl 0 (by decide) hw2 (fun _ h9 => h9) rfl dX8_kindOf_13 ?_
      refine lv_iload_n hx hb dX8_kindOf_16 rfl (lv_at hl 1 rfl) ?_
      obtain ⟨g3, hM⟩ := z_g hM
      refine va_iald hx hb hK hP 1 0 rfl rfl g3 dX8_kindOf_17 ?_
      refine lv_goto (tgt := 22) hx hb dX8_kindOf_18 (by decide) ?_
      have hM := Option.some.inj hM
      subst hM
      exact W.iret (v := (q_kinds x1.toNatClampNeg)) hx hb hr (fun t ht hW => ⟨⟨_, (), rfl, rfl, ⟨by rw [ht]; exact hP, va_K.moved hW.alike hK, hD⟩⟩, hS.F ht⟩) hS.2.2 dX8_kindOf_22
def fn_Tokens_startOf (q_count : Int32) (q_starts : Nat → Int32) (x1 : Int32) : Option (Int32) := (if x1 < 0 then some (-1) else (if q_count ≤ x1 then some (-1) else (if (x1 < 0 ∨ 80 ≤ x1.toNatClampNeg) then none else some (q_starts x1.toNatClampNeg))))
set_option maxHeartbeats 40000000 in
set_option maxRecDepth 100000 in
theorem ct_Tokens_startOf (l : Launch) (D : va_G) (cI cJ cC : ClassId) (adK adV : Nat → Nat) (A_q A_q_kinds A_q_starts A_q_details : Nat) (sz : Nat) (q_count : Int32) (q_starts : Nat → Int32) (x1 : Int32) {rs : Int32} (hM : fn_Tokens_startOf q_count q_starts x1 = some rs) : Met l yX8_startOf wsX8_startOf ({ frames := 0, cells := 0, slots := 0, locals := 0 } : Room) (zP D cI cJ cC adK adV [.ref A_q, .int x1] sz [(A_q, .inr (8, [.ref A_q_kinds, .ref A_q_starts, .ref A_q_details, .int q_count])), (A_q_starts, .inl (cI, 80, .inl q_starts))]) (zQi D cI cJ cC rs [(A_q, .inr (8, [.ref A_q_kinds, .ref A_q_starts, .ref A_q_details, .int q_count])), (A_q_starts, .inl (cI, 80, .inl q_starts))] (va_A [(A_q, .inr (8, [.ref A_q_kinds, .ref A_q_starts, .ref A_q_details, .int q_count])), (A_q_starts, .inl (cI, 80, .inl q_starts))] sz)) 0 0 (va_A [(A_q, .inr (8, [.ref A_q_kinds, .ref A_q_starts, .ref A_q_details, .int q_count])), (A_q_starts, .inl (cI, 80, .inl q_starts))] sz) := by
  refine Met.ofW (cc := cX8_startOf) (maxL := 2) (ret := (some .int)) (by decide) rfl ?_
  intro p e s m args below meth c s₁ B hml hv0
  obtain ⟨hargs, hsz, hP, hK, hD0, hX⟩ := hv0
  have hx := B.exec
  have hb := B.bytes
  have hr := B.returns
  have hts := atoms_spec (ws := wsX8_startOf) B.pre
  have hown : s.vm.findClass RX8 = some m.cls := findClass_of_methodNamed B.named
  have hlocks := B.notSynchronized
  subst hsz
  have hD := hD0.self (sz := s.heap.size)
  generalize hAe : va_A [(A_q, .inr (8, [.ref A_q_kinds, .ref A_q_starts, .ref A_q_details, .int q_count])), (A_q_starts, .inl (cI, 80, .inl q_starts))] s.heap.size = A at hD hX ⊢
  have hA : ∀ q : Nat, s.heap.size ≤ q → A q := fun q h => by rw [← hAe]; exact Or.inr h
  have hS : va_S A s.heap s.heap [] := va_S.rf
  have hl := lv_entry ([.ref A_q, .int x1]) (n := 2) (Nat.le_of_ble_eq_true rfl)
  rw [hargs, lg_entry_eq, ← hargs]
  generalize (lg_sl ([.ref A_q, .int x1]) ++ List.replicate (2 - (lg_sl ([.ref A_q, .int x1])).length) Slot.unset).toArray = ls at hl ⊢
  have hl : lv_has ls 2 [(0, .ref A_q), (1, .int x1)] := hl
  have hw0 : ∀ w ∈ u_ws RX8 TX8 4, w ∈ wsX8_startOf := by decide +kernel
  have hw1 := hts (.fieldLink RX8 21 "NotationParser$Tokens" "count" "I") (by decide +kernel)
  have hw2 := hts (.fieldLink RX8 15 "NotationParser$Tokens" "starts" "[I") (by decide +kernel)
  refine lv_iload_n hx hb dX8_startOf_0 rfl (lv_at hl 1 rfl) ?_
  refine lv_if_lt (tgt := 21) hx hb dX8_startOf_1 (by decide) (fun c1 => ?_) (fun c1 => ?_)
  · have hM := z_t c1 hM
    refine lv_iconst (v := (-1)) hx hb dX8_startOf_21 (by decide) ?_
    have hM := Option.some.inj hM
    subst hM
    exact W.iret (v := (-1)) hx hb hr (fun t ht hW => ⟨⟨_, (), rfl, rfl, ⟨by rw [ht]; exact hP, va_K.moved hW.alike hK, hD⟩⟩, hS.F ht⟩) hS.2.2 dX8_startOf_22
  · have hM := z_f c1 hM
    refine lv_iload_n hx hb dX8_startOf_4 rfl (lv_at hl 1 rfl) ?_
    refine lv_aload_n hx hb dX8_startOf_5 rfl (lv_at hl 0 rfl) ?_
    refine va_get (D := D) (ci := 8) (v := .int q_count) (C := RX8) (T := TX8) (N := 4) hx hb hts hw0 hown hK hP 0 rfl rfl 3 (by decide) hw1 (fun _ h9 => h9) rfl dX8_startOf_6 ?_
    refine lv_icmp_ge (tgt := 21) hx hb dX8_startOf_9 (by decide) (fun c2 => ?_) (fun c2 => ?_)
    · have hM := z_t c2 hM
      refine lv_iconst (v := (-1)) hx hb dX8_startOf_21 (by decide) ?_
      have hM := Option.some.inj hM
      subst hM
      exact W.iret (v := (-1)) hx hb hr (fun t ht hW => ⟨⟨_, (), rfl, rfl, ⟨by rw [ht]; exact hP, va_K.moved hW.alike hK, hD⟩⟩, hS.F ht⟩) hS.2.2 dX8_startOf_22
    · have hM := z_f c2 hM
      refine lv_aload_n hx hb dX8_startOf_12 rfl (lv_at hl 0 rfl) ?_
      refine va_get (D := D) (ci := 8) (v := .ref A_q_starts) (C := RX8) (T := TX8) (N := 4) hx hb hts hw0 hown hK hP 0 rfl rfl 1 (by decide) hw2 (fun _ h9 => h9) rfl dX8_startOf_13 ?_
      refine lv_iload_n hx hb dX8_startOf_16 rfl (lv_at hl 1 rfl) ?_
      obtain ⟨g3, hM⟩ := z_g hM
      refine va_iald hx hb hK hP 1 0 rfl rfl g3 dX8_startOf_17 ?_
      refine lv_goto (tgt := 22) hx hb dX8_startOf_18 (by decide) ?_
      have hM := Option.some.inj hM
      subst hM
      exact W.iret (v := (q_starts x1.toNatClampNeg)) hx hb hr (fun t ht hW => ⟨⟨_, (), rfl, rfl, ⟨by rw [ht]; exact hP, va_K.moved hW.alike hK, hD⟩⟩, hS.F ht⟩) hS.2.2 dX8_startOf_22
def fn_Tokens_detailOf (q_count : Int32) (q_details : Nat → Int32) (x1 : Int32) : Option (Int32) := (if x1 < 0 then some 0 else (if q_count ≤ x1 then some 0 else (if (x1 < 0 ∨ 80 ≤ x1.toNatClampNeg) then none else some (q_details x1.toNatClampNeg))))
set_option maxHeartbeats 40000000 in
set_option maxRecDepth 100000 in
theorem ct_Tokens_detailOf (l : Launch) (D : va_G) (cI cJ cC : ClassId) (adK adV : Nat → Nat) (A_q A_q_kinds A_q_starts A_q_details : Nat) (sz : Nat) (q_count : Int32) (q_details : Nat → Int32) (x1 : Int32) {rs : Int32} (hM : fn_Tokens_detailOf q_count q_details x1 = some rs) : Met l yX8_detailOf wsX8_detailOf ({ frames := 0, cells := 0, slots := 0, locals := 0 } : Room) (zP D cI cJ cC adK adV [.ref A_q, .int x1] sz [(A_q, .inr (8, [.ref A_q_kinds, .ref A_q_starts, .ref A_q_details, .int q_count])), (A_q_details, .inl (cI, 80, .inl q_details))]) (zQi D cI cJ cC rs [(A_q, .inr (8, [.ref A_q_kinds, .ref A_q_starts, .ref A_q_details, .int q_count])), (A_q_details, .inl (cI, 80, .inl q_details))] (va_A [(A_q, .inr (8, [.ref A_q_kinds, .ref A_q_starts, .ref A_q_details, .int q_count])), (A_q_details, .inl (cI, 80, .inl q_details))] sz)) 0 0 (va_A [(A_q, .inr (8, [.ref A_q_kinds, .ref A_q_starts, .ref A_q_details, .int q_count])), (A_q_details, .inl (cI, 80, .inl q_details))] sz) := by
  refine Met.ofW (cc := cX8_detailOf) (maxL := 2) (ret := (some .int)) (by decide) rfl ?_
  intro p e s m args below meth c s₁ B hml hv0
  obtain ⟨hargs, hsz, hP, hK, hD0, hX⟩ := hv0
  have hx := B.exec
  have hb := B.bytes
  have hr := B.returns
  have hts := atoms_spec (ws := wsX8_detailOf) B.pre
  have hown : s.vm.findClass RX8 = some m.cls := findClass_of_methodNamed B.named
  have hlocks := B.notSynchronized
  subst hsz
  have hD := hD0.self (sz := s.heap.size)
  generalize hAe : va_A [(A_q, .inr (8, [.ref A_q_kinds, .ref A_q_starts, .ref A_q_details, .int q_count])), (A_q_details, .inl (cI, 80, .inl q_details))] s.heap.size = A at hD hX ⊢
  have hA : ∀ q : Nat, s.heap.size ≤ q → A q := fun q h => by rw [← hAe]; exact Or.inr h
  have hS : va_S A s.heap s.heap [] := va_S.rf
  have hl := lv_entry ([.ref A_q, .int x1]) (n := 2) (Nat.le_of_ble_eq_true rfl)
  rw [hargs, lg_entry_eq, ← hargs]
  generalize (lg_sl ([.ref A_q, .int x1]) ++ List.replicate (2 - (lg_sl ([.ref A_q, .int x1])).length) Slot.unset).toArray = ls at hl ⊢
  have hl : lv_has ls 2 [(0, .ref A_q), (1, .int x1)] := hl
  have hw0 : ∀ w ∈ u_ws RX8 TX8 4, w ∈ wsX8_detailOf := by decide +kernel
  have hw1 := hts (.fieldLink RX8 21 "NotationParser$Tokens" "count" "I") (by decide +kernel)
  have hw2 := hts (.fieldLink RX8 18 "NotationParser$Tokens" "details" "[I") (by decide +kernel)
  refine lv_iload_n hx hb dX8_detailOf_0 rfl (lv_at hl 1 rfl) ?_
  refine lv_if_lt (tgt := 21) hx hb dX8_detailOf_1 (by decide) (fun c1 => ?_) (fun c1 => ?_)
  · have hM := z_t c1 hM
    refine lv_iconst (v := 0) hx hb dX8_detailOf_21 (by decide) ?_
    have hM := Option.some.inj hM
    subst hM
    exact W.iret (v := 0) hx hb hr (fun t ht hW => ⟨⟨_, (), rfl, rfl, ⟨by rw [ht]; exact hP, va_K.moved hW.alike hK, hD⟩⟩, hS.F ht⟩) hS.2.2 dX8_detailOf_22
  · have hM := z_f c1 hM
    refine lv_iload_n hx hb dX8_detailOf_4 rfl (lv_at hl 1 rfl) ?_
    refine lv_aload_n hx hb dX8_detailOf_5 rfl (lv_at hl 0 rfl) ?_
    refine va_get (D := D) (ci := 8) (v := .int q_count) (C := RX8) (T := TX8) (N := 4) hx hb hts hw0 hown hK hP 0 rfl rfl 3 (by decide) hw1 (fun _ h9 => h9) rfl dX8_detailOf_6 ?_
    refine lv_icmp_ge (tgt := 21) hx hb dX8_detailOf_9 (by decide) (fun c2 => ?_) (fun c2 => ?_)
    · have hM := z_t c2 hM
      refine lv_iconst (v := 0) hx hb dX8_detailOf_21 (by decide) ?_
      have hM := Option.some.inj hM
      subst hM
      exact W.iret (v := 0) hx hb hr (fun t ht hW => ⟨⟨_, (), rfl, rfl, ⟨by rw [ht]; exact hP, va_K.moved hW.alike hK, hD⟩⟩, hS.F ht⟩) hS.2.2 dX8_detailOf_22
    · have hM := z_f c2 hM
      refine lv_aload_n hx hb dX8_detailOf_12 rfl (lv_at hl 0 rfl) ?_
      refine va_get (D := D) (ci := 8) (v := .ref A_q_details) (C := RX8) (T := TX8) (N := 4) hx hb hts hw0 hown hK hP 0 rfl rfl 2 (by decide) hw2 (fun _ h9 => h9) rfl dX8_detailOf_13 ?_
      refine lv_iload_n hx hb dX8_detailOf_16 rfl (lv_at hl 1 rfl) ?_
      obtain ⟨g3, hM⟩ := z_g hM
      refine va_iald hx hb hK hP 1 0 rfl rfl g3 dX8_detailOf_17 ?_
      refine lv_goto (tgt := 22) hx hb dX8_detailOf_18 (by decide) ?_
      have hM := Option.some.inj hM
      subst hM
      exact W.iret (v := (q_details x1.toNatClampNeg)) hx hb hr (fun t ht hW => ⟨⟨_, (), rfl, rfl, ⟨by rw [ht]; exact hP, va_K.moved hW.alike hK, hD⟩⟩, hS.F ht⟩) hS.2.2 dX8_detailOf_22
def fn_Tokens_add (q_count : Int32) (q_kinds : Nat → Int32) (q_starts : Nat → Int32) (q_details : Nat → Int32) (x1 : Int32) (x2 : Int32) (x3 : Int32) (x4 : Int32) : Option (Int32 × Int32 × (Nat → Int32) × (Nat → Int32) × (Nat → Int32)) := (if 80 ≤ q_count then some (x4, q_count, q_kinds, q_starts, q_details) else (if (q_count < 0 ∨ 80 ≤ q_count.toNatClampNeg) then none else (if (q_count < 0 ∨ 80 ≤ q_count.toNatClampNeg) then none else (if (q_count < 0 ∨ 80 ≤ q_count.toNatClampNeg) then none else some (x4, (q_count + 1), (upd q_kinds q_count.toNatClampNeg x1), (upd q_starts q_count.toNatClampNeg x2), (upd q_details q_count.toNatClampNeg x3))))))
set_option maxHeartbeats 40000000 in
set_option maxRecDepth 100000 in
theorem ct_Tokens_add (l : Launch) (D : va_G) (cI cJ cC : ClassId) (adK adV : Nat → Nat) (A_q A_q_kinds A_q_starts A_q_details : Nat) (sz : Nat) (q_count : Int32) (q_kinds : Nat → Int32) (q_starts : Nat → Int32) (q_details : Nat → Int32) (x1 : Int32) (x2 : Int32) (x3 : Int32) (x4 : Int32) {rs : Int32 × Int32 × (Nat → Int32) × (Nat → Int32) × (Nat → Int32)} (hM : fn_Tokens_add q_count q_kinds q_starts q_details x1 x2 x3 x4 = some rs) : Met l yX8_add wsX8_add ({ frames := 0, cells := 0, slots := 0, locals := 0 } : Room) (zP D cI cJ cC adK adV [.ref A_q, .int x1, .int x2, .int x3, .int x4] sz [(A_q, .inr (8, [.ref A_q_kinds, .ref A_q_starts, .ref A_q_details, .int q_count])), (A_q_kinds, .inl (cI, 80, .inl q_kinds)), (A_q_starts, .inl (cI, 80, .inl q_starts)), (A_q_details, .inl (cI, 80, .inl q_details))]) (zQi D cI cJ cC rs.1 [(A_q, .inr (8, [.ref A_q_kinds, .ref A_q_starts, .ref A_q_details, .int rs.2.1])), (A_q_kinds, .inl (cI, 80, .inl rs.2.2.1)), (A_q_starts, .inl (cI, 80, .inl rs.2.2.2.1)), (A_q_details, .inl (cI, 80, .inl rs.2.2.2.2))] (va_A [(A_q, .inr (8, [.ref A_q_kinds, .ref A_q_starts, .ref A_q_details, .int q_count])), (A_q_kinds, .inl (cI, 80, .inl q_kinds)), (A_q_starts, .inl (cI, 80, .inl q_starts)), (A_q_details, .inl (cI, 80, .inl q_details))] sz)) 0 0 (va_A [(A_q, .inr (8, [.ref A_q_kinds, .ref A_q_starts, .ref A_q_details, .int q_count])), (A_q_kinds, .inl (cI, 80, .inl q_kinds)), (A_q_starts, .inl (cI, 80, .inl q_starts)), (A_q_details, .inl (cI, 80, .inl q_details))] sz) := by
  refine Met.ofW (cc := cX8_add) (maxL := 5) (ret := (some .int)) (by decide) rfl ?_
  intro p e s m args below meth c s₁ B hml hv0
  obtain ⟨hargs, hsz, hP, hK, hD0, hX⟩ := hv0
  have hx := B.exec
  have hb := B.bytes
  have hr := B.returns
  have hts := atoms_spec (ws := wsX8_add) B.pre
  have hown : s.vm.findClass RX8 = some m.cls := findClass_of_methodNamed B.named
  have hlocks := B.notSynchronized
  subst hsz
  have hD := hD0.self (sz := s.heap.size)
  generalize hAe : va_A [(A_q, .inr (8, [.ref A_q_kinds, .ref A_q_starts, .ref A_q_details, .int q_count])), (A_q_kinds, .inl (cI, 80, .inl q_kinds)), (A_q_starts, .inl (cI, 80, .inl q_starts)), (A_q_details, .inl (cI, 80, .inl q_details))] s.heap.size = A at hD hX ⊢
  have hA : ∀ q : Nat, s.heap.size ≤ q → A q := fun q h => by rw [← hAe]; exact Or.inr h
  have hS : va_S A s.heap s.heap [] := va_S.rf
  have hl := lv_entry ([.ref A_q, .int x1, .int x2, .int x3, .int x4]) (n := 5) (Nat.le_of_ble_eq_true rfl)
  rw [hargs, lg_entry_eq, ← hargs]
  generalize (lg_sl ([.ref A_q, .int x1, .int x2, .int x3, .int x4]) ++ List.replicate (5 - (lg_sl ([.ref A_q, .int x1, .int x2, .int x3, .int x4])).length) Slot.unset).toArray = ls at hl ⊢
  have hl : lv_has ls 5 [(0, .ref A_q), (1, .int x1), (2, .int x2), (3, .int x3), (4, .int x4)] := hl
  have hw0 : ∀ w ∈ u_ws RX8 TX8 4, w ∈ wsX8_add := by decide +kernel
  have hw1 := hts (.fieldLink RX8 21 "NotationParser$Tokens" "count" "I") (by decide +kernel)
  have hw2 := hts (.fieldLink RX8 9 "NotationParser$Tokens" "kinds" "[I") (by decide +kernel)
  have hw3 := hts (.fieldLink RX8 15 "NotationParser$Tokens" "starts" "[I") (by decide +kernel)
  have hw4 := hts (.fieldLink RX8 18 "NotationParser$Tokens" "details" "[I") (by decide +kernel)
  refine lv_aload_n hx hb dX8_add_0 rfl (lv_at hl 0 rfl) ?_
  refine va_get (D := D) (ci := 8) (v := .int q_count) (C := RX8) (T := TX8) (N := 4) hx hb hts hw0 hown hK hP 0 rfl rfl 3 (by decide) hw1 (fun _ h9 => h9) rfl dX8_add_1 ?_
  refine lv_bipush (v := 80) hx hb dX8_add_4 (by decide) ?_
  refine lv_icmp_ge (tgt := 49) hx hb dX8_add_6 (by decide) (fun c1 => ?_) (fun c1 => ?_)
  · have hM := z_t c1 hM
    refine lv_iload hx hb dX8_add_49 (lv_at hl 4 rfl) ?_
    have hM := Option.some.inj hM
    subst hM
    exact W.iret (v := x4) hx hb hr (fun t ht hW => ⟨⟨_, (), rfl, rfl, ⟨by rw [ht]; exact hP, va_K.moved hW.alike hK, hD⟩⟩, hS.F ht⟩) hS.2.2 dX8_add_51
  · have hM := z_f c1 hM
    refine lv_aload_n hx hb dX8_add_9 rfl (lv_at hl 0 rfl) ?_
    refine va_get (D := D) (ci := 8) (v := .ref A_q_kinds) (C := RX8) (T := TX8) (N := 4) hx hb hts hw0 hown hK hP 0 rfl rfl 0 (by decide) hw2 (fun _ h9 => h9) rfl dX8_add_10 ?_
    refine lv_aload_n hx hb dX8_add_13 rfl (lv_at hl 0 rfl) ?_
    refine va_get (D := D) (ci := 8) (v := .int q_count) (C := RX8) (T := TX8) (N := 4) hx hb hts hw0 hown hK hP 0 rfl rfl 3 (by decide) hw1 (fun _ h9 => h9) rfl dX8_add_14 ?_
    refine lv_iload_n hx hb dX8_add_17 rfl (lv_at hl 1 rfl) ?_
    obtain ⟨g2, hM⟩ := z_g hM
    refine va_iast hx hb hK hP hD hS 1 0 rfl rfl g2 dX8_add_18 (fun H3 locs hP hD hS => ?_)
    have hP : va_P D vwCl [(A_q, .inr (8, [.ref A_q_kinds, .ref A_q_starts, .ref A_q_details, .int q_count])), (A_q_kinds, .inl (cI, 80, .inl (upd q_kinds q_count.toNatClampNeg x1))), (A_q_starts, .inl (cI, 80, .inl q_starts)), (A_q_details, .inl (cI, 80, .inl q_details))] H3 := hP
    have hD : va_D A [(A_q, .inr (8, [.ref A_q_kinds, .ref A_q_starts, .ref A_q_details, .int q_count])), (A_q_kinds, .inl (cI, 80, .inl (upd q_kinds q_count.toNatClampNeg x1))), (A_q_starts, .inl (cI, 80, .inl q_starts)), (A_q_details, .inl (cI, 80, .inl q_details))] := hD
    refine lv_aload_n hx hb dX8_add_19 rfl (lv_at hl 0 rfl) ?_
    refine va_get (D := D) (ci := 8) (v := .ref A_q_starts) (C := RX8) (T := TX8) (N := 4) hx hb hts hw0 hown hK hP 0 rfl rfl 1 (by decide) hw3 (fun _ h9 => h9) rfl dX8_add_20 ?_
    refine lv_aload_n hx hb dX8_add_23 rfl (lv_at hl 0 rfl) ?_
    refine va_get (D := D) (ci := 8) (v := .int q_count) (C := RX8) (T := TX8) (N := 4) hx hb hts hw0 hown hK hP 0 rfl rfl 3 (by decide) hw1 (fun _ h9 => h9) rfl dX8_add_24 ?_
    refine lv_iload_n hx hb dX8_add_27 rfl (lv_at hl 2 rfl) ?_
    obtain ⟨g4, hM⟩ := z_g hM
    refine va_iast hx hb hK hP hD hS 2 0 rfl rfl g4 dX8_add_28 (fun H5 locs hP hD hS => ?_)
    have hP : va_P D vwCl [(A_q, .inr (8, [.ref A_q_kinds, .ref A_q_starts, .ref A_q_details, .int q_count])), (A_q_kinds, .inl (cI, 80, .inl (upd q_kinds q_count.toNatClampNeg x1))), (A_q_starts, .inl (cI, 80, .inl (upd q_starts q_count.toNatClampNeg x2))), (A_q_details, .inl (cI, 80, .inl q_details))] H5 := hP
    have hD : va_D A [(A_q, .inr (8, [.ref A_q_kinds, .ref A_q_starts, .ref A_q_details, .int q_count])), (A_q_kinds, .inl (cI, 80, .inl (upd q_kinds q_count.toNatClampNeg x1))), (A_q_starts, .inl (cI, 80, .inl (upd q_starts q_count.toNatClampNeg x2))), (A_q_details, .inl (cI, 80, .inl q_details))] := hD
    refine lv_aload_n hx hb dX8_add_29 rfl (lv_at hl 0 rfl) ?_
    refine va_get (D := D) (ci := 8) (v := .ref A_q_details) (C := RX8) (T := TX8) (N := 4) hx hb hts hw0 hown hK hP 0 rfl rfl 2 (by decide) hw4 (fun _ h9 => h9) rfl dX8_add_30 ?_
    refine lv_aload_n hx hb dX8_add_33 rfl (lv_at hl 0 rfl) ?_
    refine va_get (D := D) (ci := 8) (v := .int q_count) (C := RX8) (T := TX8) (N := 4) hx hb hts hw0 hown hK hP 0 rfl rfl 3 (by decide) hw1 (fun _ h9 => h9) rfl dX8_add_34 ?_
    refine lv_iload_n hx hb dX8_add_37 rfl (lv_at hl 3 rfl) ?_
    obtain ⟨g6, hM⟩ := z_g hM
    refine va_iast hx hb hK hP hD hS 3 0 rfl rfl g6 dX8_add_38 (fun H7 locs hP hD hS => ?_)
    have hP : va_P D vwCl [(A_q, .inr (8, [.ref A_q_kinds, .ref A_q_starts, .ref A_q_details, .int q_count])), (A_q_kinds, .inl (cI, 80, .inl (upd q_kinds q_count.toNatClampNeg x1))), (A_q_starts, .inl (cI, 80, .inl (upd q_starts q_count.toNatClampNeg x2))), (A_q_details, .inl (cI, 80, .inl (upd q_details q_count.toNatClampNeg x3)))] H7 := hP
    have hD : va_D A [(A_q, .inr (8, [.ref A_q_kinds, .ref A_q_starts, .ref A_q_details, .int q_count])), (A_q_kinds, .inl (cI, 80, .inl (upd q_kinds q_count.toNatClampNeg x1))), (A_q_starts, .inl (cI, 80, .inl (upd q_starts q_count.toNatClampNeg x2))), (A_q_details, .inl (cI, 80, .inl (upd q_details q_count.toNatClampNeg x3)))] := hD
    refine lv_aload_n hx hb dX8_add_39 rfl (lv_at hl 0 rfl) ?_
    refine lv_dup hx hb dX8_add_40 rfl ?_
    refine va_get (D := D) (ci := 8) (v := .int q_count) (C := RX8) (T := TX8) (N := 4) hx hb hts hw0 hown hK hP 0 rfl rfl 3 (by decide) hw1 (fun _ h9 => h9) rfl dX8_add_41 ?_
    refine lv_iconst (v := 1) hx hb dX8_add_44 (by decide) ?_
    refine lv_iadd hx hb dX8_add_45 ?_
    refine va_put (D := D) (ci := 8) (v := .int (q_count + 1)) (ty := .int) (C := RX8) (T := TX8) (N := 4) hx hb hts hw0 tyX8 tyX8_ok nmX8 hown hK hP hD hS 0 rfl rfl 3 (by decide) hw1 (fun _ h9 => h9) rfl (by decide +kernel) rfl rfl (Nat.le_of_ble_eq_true rfl) dX8_add_46 (fun H8 locs hP hD hS => ?_)
    have hP : va_P D vwCl [(A_q, .inr (8, [.ref A_q_kinds, .ref A_q_starts, .ref A_q_details, .int (q_count + 1)])), (A_q_kinds, .inl (cI, 80, .inl (upd q_kinds q_count.toNatClampNeg x1))), (A_q_starts, .inl (cI, 80, .inl (upd q_starts q_count.toNatClampNeg x2))), (A_q_details, .inl (cI, 80, .inl (upd q_details q_count.toNatClampNeg x3)))] H8 := hP
    have hD : va_D A [(A_q, .inr (8, [.ref A_q_kinds, .ref A_q_starts, .ref A_q_details, .int (q_count + 1)])), (A_q_kinds, .inl (cI, 80, .inl (upd q_kinds q_count.toNatClampNeg x1))), (A_q_starts, .inl (cI, 80, .inl (upd q_starts q_count.toNatClampNeg x2))), (A_q_details, .inl (cI, 80, .inl (upd q_details q_count.toNatClampNeg x3)))] := hD
    refine lv_iload hx hb dX8_add_49 (lv_at hl 4 rfl) ?_
    have hM := Option.some.inj hM
    subst hM
    exact W.iret (v := x4) hx hb hr (fun t ht hW => ⟨⟨_, (), rfl, rfl, ⟨by rw [ht]; exact hP, va_K.moved hW.alike hK, hD⟩⟩, hS.F ht⟩) hS.2.2 dX8_add_51
def fn_Tokens_readNumber_b83 (w_N : Nat) (w_count : Int32) (w_characters : Nat → Int32) (q_count : Int32) (q_kinds : Nat → Int32) (q_starts : Nat → Int32) (q_details : Nat → Int32) (x2 : Int32) (x3 : Int32) (x4 : Int32) (k1 : Int32) : Option (Int32 × Int32 × (Nat → Int32) × (Nat → Int32) × (Nat → Int32)) := ((fn_Tokens_add q_count q_kinds q_starts q_details k1 x2 x3 x4).bind fun q5 => some (q5.1, q5.2.1, q5.2.2.1, q5.2.2.2.1, q5.2.2.2.2))
def fn_Tokens_readNumber_b70 (w_N : Nat) (w_count : Int32) (w_characters : Nat → Int32) (q_count : Int32) (q_kinds : Nat → Int32) (q_starts : Nat → Int32) (q_details : Nat → Int32) (x2 : Int32) (x3 : Int32) (x4 : Int32) : Option (Int32 × Int32 × (Nat → Int32) × (Nat → Int32) × (Nat → Int32)) := (if 6 < x4 then fn_Tokens_readNumber_b83 w_N w_count w_characters q_count q_kinds q_starts q_details x2 x3 x4 0 else fn_Tokens_readNumber_b83 w_N w_count w_characters q_count q_kinds q_starts q_details x2 x3 x4 1)
def fn_Tokens_readNumber_b64 (w_N : Nat) (w_count : Int32) (w_characters : Nat → Int32) (k_8_0 : Int32 → (Nat → Int32) → (Nat → Int32) → (Nat → Int32) → Int32 → Int32 → Int32 → Int32 → Option (Int32 × Int32 × (Nat → Int32) × (Nat → Int32) × (Nat → Int32))) (q_count : Int32) (q_kinds : Nat → Int32) (q_starts : Nat → Int32) (q_details : Nat → Int32) (x2 : Int32) (x3 : Int32) (x4 : Int32) (x5 : Int32) : Option (Int32 × Int32 × (Nat → Int32) × (Nat → Int32) × (Nat → Int32)) := k_8_0 q_count q_kinds q_starts q_details x2 x3 x4 (x5 + 1)
def fn_Tokens_readNumber_L8 (w_N : Nat) (w_count : Int32) (w_characters : Nat → Int32) : Nat → Int32 → (Nat → Int32) → (Nat → Int32) → (Nat → Int32) → Int32 → Int32 → Int32 → Int32 → Option (Int32 × Int32 × (Nat → Int32) × (Nat → Int32) × (Nat → Int32))
  | 0 => fun _ _ _ _ _ _ _ _ => none
  | n + 1 => fun q_count q_kinds q_starts q_details x2 x3 x4 x5 => (if (fn_CharRow_size w_count) ≤ x5 then fn_Tokens_readNumber_b70 w_N w_count w_characters q_count q_kinds q_starts q_details x2 x3 x4 else ((fn_CharRow_at w_N w_count w_characters x5).bind fun q7 => (if q7 < 48 then fn_Tokens_readNumber_b70 w_N w_count w_characters q_count q_kinds q_starts q_details x2 x3 x4 else ((fn_CharRow_at w_N w_count w_characters x5).bind fun q10 => (if 57 < q10 then fn_Tokens_readNumber_b70 w_N w_count w_characters q_count q_kinds q_starts q_details x2 x3 x4 else (if 6 < (x4 + 1) then fn_Tokens_readNumber_b64 w_N w_count w_characters (fn_Tokens_readNumber_L8 w_N w_count w_characters n) q_count q_kinds q_starts q_details x2 x3 (x4 + 1) x5 else ((fn_CharRow_at w_N w_count w_characters x5).bind fun q14 => fn_Tokens_readNumber_b64 w_N w_count w_characters (fn_Tokens_readNumber_L8 w_N w_count w_characters n) q_count q_kinds q_starts q_details x2 (((10 * x3) + q14) - 48) (x4 + 1) x5)))))))
def fn_Tokens_readNumber (w_N : Nat) (q_count : Int32) (q_kinds : Nat → Int32) (q_starts : Nat → Int32) (q_details : Nat → Int32) (w_count : Int32) (w_characters : Nat → Int32) (x2 : Int32) : Option (Int32 × Int32 × (Nat → Int32) × (Nat → Int32) × (Nat → Int32)) := fn_Tokens_readNumber_L8 w_N w_count w_characters zFU q_count q_kinds q_starts q_details x2 0 0 x2
set_option maxHeartbeats 40000000 in
set_option maxRecDepth 100000 in
theorem ct_Tokens_readNumber (l : Launch) (D : va_G) (cI cJ cC : ClassId) (adK adV : Nat → Nat) (A_q A_q_kinds A_q_starts A_q_details A_w A_w_characters : Nat) (sz : Nat) (w_N : Nat) (q_count : Int32) (q_kinds : Nat → Int32) (q_starts : Nat → Int32) (q_details : Nat → Int32) (w_count : Int32) (w_characters : Nat → Int32) (x2 : Int32) {rs : Int32 × Int32 × (Nat → Int32) × (Nat → Int32) × (Nat → Int32)} (hM : fn_Tokens_readNumber w_N q_count q_kinds q_starts q_details w_count w_characters x2 = some rs) : Met l yX8_readNumber wsX8_readNumber ({ frames := 1, cells := 0, slots := 0, locals := 24 } : Room) (zP D cI cJ cC adK adV [.ref A_q, .ref A_w, .int x2] sz [(A_q, .inr (8, [.ref A_q_kinds, .ref A_q_starts, .ref A_q_details, .int q_count])), (A_q_kinds, .inl (cI, 80, .inl q_kinds)), (A_q_starts, .inl (cI, 80, .inl q_starts)), (A_q_details, .inl (cI, 80, .inl q_details)), (A_w, .inr (1, [.ref A_w_characters, .int w_count])), (A_w_characters, .inl (cC, w_N, .inl w_characters))]) (zQi D cI cJ cC rs.1 [(A_q, .inr (8, [.ref A_q_kinds, .ref A_q_starts, .ref A_q_details, .int rs.2.1])), (A_q_kinds, .inl (cI, 80, .inl rs.2.2.1)), (A_q_starts, .inl (cI, 80, .inl rs.2.2.2.1)), (A_q_details, .inl (cI, 80, .inl rs.2.2.2.2)), (A_w, .inr (1, [.ref A_w_characters, .int w_count])), (A_w_characters, .inl (cC, w_N, .inl w_characters))] (va_A [(A_q, .inr (8, [.ref A_q_kinds, .ref A_q_starts, .ref A_q_details, .int q_count])), (A_q_kinds, .inl (cI, 80, .inl q_kinds)), (A_q_starts, .inl (cI, 80, .inl q_starts)), (A_q_details, .inl (cI, 80, .inl q_details)), (A_w, .inr (1, [.ref A_w_characters, .int w_count])), (A_w_characters, .inl (cC, w_N, .inl w_characters))] sz)) 0 0 (va_A [(A_q, .inr (8, [.ref A_q_kinds, .ref A_q_starts, .ref A_q_details, .int q_count])), (A_q_kinds, .inl (cI, 80, .inl q_kinds)), (A_q_starts, .inl (cI, 80, .inl q_starts)), (A_q_details, .inl (cI, 80, .inl q_details)), (A_w, .inr (1, [.ref A_w_characters, .int w_count])), (A_w_characters, .inl (cC, w_N, .inl w_characters))] sz) := by
  refine Met.ofW (cc := cX8_readNumber) (maxL := 6) (ret := (some .int)) (by decide) rfl ?_
  intro p e s m args below meth c s₁ B hml hv0
  obtain ⟨hargs, hsz, hP, hK, hD0, hX⟩ := hv0
  have hx := B.exec
  have hb := B.bytes
  have hr := B.returns
  have hts := atoms_spec (ws := wsX8_readNumber) B.pre
  have hown : s.vm.findClass RX8 = some m.cls := findClass_of_methodNamed B.named
  have hlocks := B.notSynchronized
  subst hsz
  have hD := hD0.self (sz := s.heap.size)
  generalize hAe : va_A [(A_q, .inr (8, [.ref A_q_kinds, .ref A_q_starts, .ref A_q_details, .int q_count])), (A_q_kinds, .inl (cI, 80, .inl q_kinds)), (A_q_starts, .inl (cI, 80, .inl q_starts)), (A_q_details, .inl (cI, 80, .inl q_details)), (A_w, .inr (1, [.ref A_w_characters, .int w_count])), (A_w_characters, .inl (cC, w_N, .inl w_characters))] s.heap.size = A at hD hX ⊢
  have hA : ∀ q : Nat, s.heap.size ≤ q → A q := fun q h => by rw [← hAe]; exact Or.inr h
  have hS : va_S A s.heap s.heap [] := va_S.rf
  have hl := lv_entry ([.ref A_q, .ref A_w, .int x2]) (n := 6) (Nat.le_of_ble_eq_true rfl)
  rw [hargs, lg_entry_eq, ← hargs]
  generalize (lg_sl ([.ref A_q, .ref A_w, .int x2]) ++ List.replicate (6 - (lg_sl ([.ref A_q, .ref A_w, .int x2])).length) Slot.unset).toArray = ls at hl ⊢
  have hl : lv_has ls 6 [(0, .ref A_q), (1, .ref A_w), (2, .int x2)] := hl
  have B_83_2 : ∀ (q_count : Int32) (q_kinds : Nat → Int32) (q_starts : Nat → Int32) (q_details : Nat → Int32) (x2 : Int32) (x3 : Int32) (x4 : Int32) (k1 : Int32) (H : Heap) (locs : List Loc) (ls : Array Slot), va_P D vwCl [(A_q, .inr (8, [.ref A_q_kinds, .ref A_q_starts, .ref A_q_details, .int q_count])), (A_q_kinds, .inl (cI, 80, .inl q_kinds)), (A_q_starts, .inl (cI, 80, .inl q_starts)), (A_q_details, .inl (cI, 80, .inl q_details)), (A_w, .inr (1, [.ref A_w_characters, .int w_count])), (A_w_characters, .inl (cC, w_N, .inl w_characters))] H → va_D A [(A_q, .inr (8, [.ref A_q_kinds, .ref A_q_starts, .ref A_q_details, .int q_count])), (A_q_kinds, .inl (cI, 80, .inl q_kinds)), (A_q_starts, .inl (cI, 80, .inl q_starts)), (A_q_details, .inl (cI, 80, .inl q_details)), (A_w, .inr (1, [.ref A_w_characters, .int w_count])), (A_w_characters, .inl (cC, w_N, .inl w_characters))] → va_S A s.heap H locs → lv_has ls 6 [(2, .int x2), (3, .int x3), (4, .int x4)] → fn_Tokens_readNumber_b83 w_N w_count w_characters q_count q_kinds q_starts q_details x2 x3 x4 k1 = some rs → W p l e (headSpec wsX8_readNumber ({ frames := 1, cells := 0, slots := 0, locals := 24 } : Room)).room s m args below meth c H locs 0 0 (MQ below (zQi D cI cJ cC rs.1 [(A_q, .inr (8, [.ref A_q_kinds, .ref A_q_starts, .ref A_q_details, .int rs.2.1])), (A_q_kinds, .inl (cI, 80, .inl rs.2.2.1)), (A_q_starts, .inl (cI, 80, .inl rs.2.2.2.1)), (A_q_details, .inl (cI, 80, .inl rs.2.2.2.2)), (A_w, .inr (1, [.ref A_w_characters, .int w_count])), (A_w_characters, .inl (cC, w_N, .inl w_characters))] A) args s 0 0 A) (F0 m 83 ls [.int k1, .ref A_q]) := by
    intro  q_count q_kinds q_starts q_details x2 x3 x4 k1 H locs ls hP hD hS hl hM
    refine lv_iload_n hx hb dX8_readNumber_83 rfl (lv_at hl 0 rfl) ?_
    refine lv_iload_n hx hb dX8_readNumber_84 rfl (lv_at hl 1 rfl) ?_
    refine lv_iload hx hb dX8_readNumber_85 (lv_at hl 2 rfl) ?_
    obtain ⟨q5, hq5, hM⟩ := z_b hM
    obtain ⟨hPc, hDc, hFc⟩ := zcut (wc := [(A_q, .inr (8, [.ref A_q_kinds, .ref A_q_starts, .ref A_q_details, .int q_count])), (A_q_kinds, .inl (cI, 80, .inl q_kinds)), (A_q_starts, .inl (cI, 80, .inl q_starts)), (A_q_details, .inl (cI, 80, .inl q_details))]) hP hD hS hA [0, 1, 2, 3] rfl rfl (by decide)
    have hrun : va_Run p l e (headSpec wsX8_readNumber ({ frames := 1, cells := 0, slots := 0, locals := 24 } : Room)).room s m args below meth c H locs 0 0 _ _ (F0 m 87 ls _) _ (zQi D cI cJ cC q5.1 [(A_q, .inr (8, [.ref A_q_kinds, .ref A_q_starts, .ref A_q_details, .int q5.2.1])), (A_q_kinds, .inl (cI, 80, .inl q5.2.2.1)), (A_q_starts, .inl (cI, 80, .inl q5.2.2.2.1)), (A_q_details, .inl (cI, 80, .inl q5.2.2.2.2))] (va_A [(A_q, .inr (8, [.ref A_q_kinds, .ref A_q_starts, .ref A_q_details, .int q_count])), (A_q_kinds, .inl (cI, 80, .inl q_kinds)), (A_q_starts, .inl (cI, 80, .inl q_starts)), (A_q_details, .inl (cI, 80, .inl q_details))] H.size) _) (va_A [(A_q, .inr (8, [.ref A_q_kinds, .ref A_q_starts, .ref A_q_details, .int q_count])), (A_q_kinds, .inl (cI, 80, .inl q_kinds)), (A_q_starts, .inl (cI, 80, .inl q_starts)), (A_q_details, .inl (cI, 80, .inl q_details))] H.size) := va_runV (As := [.int k1, .int x2, .int x3, .int x4]) (rest := []) ⟨hx, hb, hml, hown, hts⟩ (ct_Tokens_add l D cI cJ cC adK adV A_q A_q_kinds A_q_starts A_q_details H.size q_count q_kinds q_starts q_details k1 x2 x3 x4 hq5) (cwV 4 hts gX8_readNumber_X8_add rfl rfl rfl (by decide +kernel) ⟨Nat.le_of_ble_eq_true rfl, Nat.le_of_ble_eq_true rfl⟩) ⟨zblind, va_recv hK hP (ci := 8) (q0 := 0) rfl rfl, zpre hX hS hFc hPc hK hDc⟩ rfl rfl hl.1 rfl (lv_room (Nat.le_of_ble_eq_true rfl)) dX8_readNumber_87 ⟨Nat.zero_le _, Nat.zero_le _⟩
    refine zc_i (ws' := [(A_q, .inr (8, [.ref A_q_kinds, .ref A_q_starts, .ref A_q_details, .int q5.2.1])), (A_q_kinds, .inl (cI, 80, .inl q5.2.2.1)), (A_q_starts, .inl (cI, 80, .inl q5.2.2.2.1)), (A_q_details, .inl (cI, 80, .inl q5.2.2.2.2)), (A_w, .inr (1, [.ref A_w_characters, .int w_count])), (A_w_characters, .inl (cC, w_N, .inl w_characters))]) hrun hP hD hS hFc [0, 1, 2, 3] rfl (by decide) rfl rfl (fun H6 locs hP hD hS => ?_)
    have hM := Option.some.inj hM
    subst hM
    exact W.iret (v := q5.1) hx hb hr (fun t ht hW => ⟨⟨_, (), rfl, rfl, ⟨by rw [ht]; exact hP, va_K.moved hW.alike hK, hD⟩⟩, hS.F ht⟩) hS.2.2 dX8_readNumber_90
  have B_70_1 : ∀ (q_count : Int32) (q_kinds : Nat → Int32) (q_starts : Nat → Int32) (q_details : Nat → Int32) (x2 : Int32) (x3 : Int32) (x4 : Int32) (H : Heap) (locs : List Loc) (ls : Array Slot), va_P D vwCl [(A_q, .inr (8, [.ref A_q_kinds, .ref A_q_starts, .ref A_q_details, .int q_count])), (A_q_kinds, .inl (cI, 80, .inl q_kinds)), (A_q_starts, .inl (cI, 80, .inl q_starts)), (A_q_details, .inl (cI, 80, .inl q_details)), (A_w, .inr (1, [.ref A_w_characters, .int w_count])), (A_w_characters, .inl (cC, w_N, .inl w_characters))] H → va_D A [(A_q, .inr (8, [.ref A_q_kinds, .ref A_q_starts, .ref A_q_details, .int q_count])), (A_q_kinds, .inl (cI, 80, .inl q_kinds)), (A_q_starts, .inl (cI, 80, .inl q_starts)), (A_q_details, .inl (cI, 80, .inl q_details)), (A_w, .inr (1, [.ref A_w_characters, .int w_count])), (A_w_characters, .inl (cC, w_N, .inl w_characters))] → va_S A s.heap H locs → lv_has ls 6 [(0, .ref A_q), (2, .int x2), (3, .int x3), (4, .int x4)] → fn_Tokens_readNumber_b70 w_N w_count w_characters q_count q_kinds q_starts q_details x2 x3 x4 = some rs → W p l e (headSpec wsX8_readNumber ({ frames := 1, cells := 0, slots := 0, locals := 24 } : Room)).room s m args below meth c H locs 0 0 (MQ below (zQi D cI cJ cC rs.1 [(A_q, .inr (8, [.ref A_q_kinds, .ref A_q_starts, .ref A_q_details, .int rs.2.1])), (A_q_kinds, .inl (cI, 80, .inl rs.2.2.1)), (A_q_starts, .inl (cI, 80, .inl rs.2.2.2.1)), (A_q_details, .inl (cI, 80, .inl rs.2.2.2.2)), (A_w, .inr (1, [.ref A_w_characters, .int w_count])), (A_w_characters, .inl (cC, w_N, .inl w_characters))] A) args s 0 0 A) (F0 m 70 ls []) := by
    intro  q_count q_kinds q_starts q_details x2 x3 x4 H locs ls hP hD hS hl hM
    refine lv_aload_n hx hb dX8_readNumber_70 rfl (lv_at hl 0 rfl) ?_
    refine lv_iload hx hb dX8_readNumber_71 (lv_at hl 3 rfl) ?_
    refine lv_bipush (v := 6) hx hb dX8_readNumber_73 (by decide) ?_
    refine lv_icmp_gt (tgt := 82) hx hb dX8_readNumber_75 (by decide) (fun c4 => ?_) (fun c4 => ?_)
    · have hM := z_t c4 hM
      refine lv_iconst (v := 0) hx hb dX8_readNumber_82 (by decide) ?_
      exact B_83_2  q_count q_kinds q_starts q_details x2 x3 x4 0 _ _ ls hP hD hS (lv_sub hl [1, 2, 3] rfl) hM
    · have hM := z_f c4 hM
      refine lv_iconst (v := 1) hx hb dX8_readNumber_78 (by decide) ?_
      refine lv_goto (tgt := 83) hx hb dX8_readNumber_79 (by decide) ?_
      exact B_83_2  q_count q_kinds q_starts q_details x2 x3 x4 1 _ _ ls hP hD hS (lv_sub hl [1, 2, 3] rfl) hM
  have B_64_3 : ∀ (k_8_0 : Int32 → (Nat → Int32) → (Nat → Int32) → (Nat → Int32) → Int32 → Int32 → Int32 → Int32 → Option (Int32 × Int32 × (Nat → Int32) × (Nat → Int32) × (Nat → Int32))) (hk_8_0 : ∀ (q_count : Int32) (q_kinds : Nat → Int32) (q_starts : Nat → Int32) (q_details : Nat → Int32) (x2 : Int32) (x3 : Int32) (x4 : Int32) (x5 : Int32) (H : Heap) (locs : List Loc) (ls : Array Slot), va_P D vwCl [(A_q, .inr (8, [.ref A_q_kinds, .ref A_q_starts, .ref A_q_details, .int q_count])), (A_q_kinds, .inl (cI, 80, .inl q_kinds)), (A_q_starts, .inl (cI, 80, .inl q_starts)), (A_q_details, .inl (cI, 80, .inl q_details)), (A_w, .inr (1, [.ref A_w_characters, .int w_count])), (A_w_characters, .inl (cC, w_N, .inl w_characters))] H → va_D A [(A_q, .inr (8, [.ref A_q_kinds, .ref A_q_starts, .ref A_q_details, .int q_count])), (A_q_kinds, .inl (cI, 80, .inl q_kinds)), (A_q_starts, .inl (cI, 80, .inl q_starts)), (A_q_details, .inl (cI, 80, .inl q_details)), (A_w, .inr (1, [.ref A_w_characters, .int w_count])), (A_w_characters, .inl (cC, w_N, .inl w_characters))] → va_S A s.heap H locs → lv_has ls 6 [(0, .ref A_q), (1, .ref A_w), (2, .int x2), (3, .int x3), (4, .int x4), (5, .int x5)] → k_8_0 q_count q_kinds q_starts q_details x2 x3 x4 x5 = some rs → W p l e (headSpec wsX8_readNumber ({ frames := 1, cells := 0, slots := 0, locals := 24 } : Room)).room s m args below meth c H locs 0 0 (MQ below (zQi D cI cJ cC rs.1 [(A_q, .inr (8, [.ref A_q_kinds, .ref A_q_starts, .ref A_q_details, .int rs.2.1])), (A_q_kinds, .inl (cI, 80, .inl rs.2.2.1)), (A_q_starts, .inl (cI, 80, .inl rs.2.2.2.1)), (A_q_details, .inl (cI, 80, .inl rs.2.2.2.2)), (A_w, .inr (1, [.ref A_w_characters, .int w_count])), (A_w_characters, .inl (cC, w_N, .inl w_characters))] A) args s 0 0 A) (F0 m 8 ls [])) (q_count : Int32) (q_kinds : Nat → Int32) (q_starts : Nat → Int32) (q_details : Nat → Int32) (x2 : Int32) (x3 : Int32) (x4 : Int32) (x5 : Int32) (H : Heap) (locs : List Loc) (ls : Array Slot), va_P D vwCl [(A_q, .inr (8, [.ref A_q_kinds, .ref A_q_starts, .ref A_q_details, .int q_count])), (A_q_kinds, .inl (cI, 80, .inl q_kinds)), (A_q_starts, .inl (cI, 80, .inl q_starts)), (A_q_details, .inl (cI, 80, .inl q_details)), (A_w, .inr (1, [.ref A_w_characters, .int w_count])), (A_w_characters, .inl (cC, w_N, .inl w_characters))] H → va_D A [(A_q, .inr (8, [.ref A_q_kinds, .ref A_q_starts, .ref A_q_details, .int q_count])), (A_q_kinds, .inl (cI, 80, .inl q_kinds)), (A_q_starts, .inl (cI, 80, .inl q_starts)), (A_q_details, .inl (cI, 80, .inl q_details)), (A_w, .inr (1, [.ref A_w_characters, .int w_count])), (A_w_characters, .inl (cC, w_N, .inl w_characters))] → va_S A s.heap H locs → lv_has ls 6 [(0, .ref A_q), (1, .ref A_w), (2, .int x2), (3, .int x3), (4, .int x4), (5, .int x5)] → fn_Tokens_readNumber_b64 w_N w_count w_characters k_8_0 q_count q_kinds q_starts q_details x2 x3 x4 x5 = some rs → W p l e (headSpec wsX8_readNumber ({ frames := 1, cells := 0, slots := 0, locals := 24 } : Room)).room s m args below meth c H locs 0 0 (MQ below (zQi D cI cJ cC rs.1 [(A_q, .inr (8, [.ref A_q_kinds, .ref A_q_starts, .ref A_q_details, .int rs.2.1])), (A_q_kinds, .inl (cI, 80, .inl rs.2.2.1)), (A_q_starts, .inl (cI, 80, .inl rs.2.2.2.1)), (A_q_details, .inl (cI, 80, .inl rs.2.2.2.2)), (A_w, .inr (1, [.ref A_w_characters, .int w_count])), (A_w_characters, .inl (cC, w_N, .inl w_characters))] A) args s 0 0 A) (F0 m 64 ls []) := by
    intro k_8_0 hk_8_0 q_count q_kinds q_starts q_details x2 x3 x4 x5 H locs ls hP hD hS hl hM
    refine lv_iinc (v := (x5 + 1)) (lv' := [(5, .int (x5 + 1)), (0, .ref A_q), (1, .ref A_w), (2, .int x2), (3, .int x3), (4, .int x4)]) hx hb dX8_readNumber_64 hl (k := 5) rfl rfl (by decide) rfl (fun ls hl => ?_)
    refine lv_goto (tgt := 8) hx hb dX8_readNumber_67 (by decide) ?_
    exact hk_8_0 q_count q_kinds q_starts q_details x2 x3 x4 (x5 + 1) _ _ ls hP hD hS (lv_sub hl [1, 2, 3, 4, 5, 0] rfl) hM
  have L_8_0 : ∀ (n : Nat) (q_count : Int32) (q_kinds : Nat → Int32) (q_starts : Nat → Int32) (q_details : Nat → Int32) (x2 : Int32) (x3 : Int32) (x4 : Int32) (x5 : Int32) (H : Heap) (locs : List Loc) (ls : Array Slot), va_P D vwCl [(A_q, .inr (8, [.ref A_q_kinds, .ref A_q_starts, .ref A_q_details, .int q_count])), (A_q_kinds, .inl (cI, 80, .inl q_kinds)), (A_q_starts, .inl (cI, 80, .inl q_starts)), (A_q_details, .inl (cI, 80, .inl q_details)), (A_w, .inr (1, [.ref A_w_characters, .int w_count])), (A_w_characters, .inl (cC, w_N, .inl w_characters))] H → va_D A [(A_q, .inr (8, [.ref A_q_kinds, .ref A_q_starts, .ref A_q_details, .int q_count])), (A_q_kinds, .inl (cI, 80, .inl q_kinds)), (A_q_starts, .inl (cI, 80, .inl q_starts)), (A_q_details, .inl (cI, 80, .inl q_details)), (A_w, .inr (1, [.ref A_w_characters, .int w_count])), (A_w_characters, .inl (cC, w_N, .inl w_characters))] → va_S A s.heap H locs → lv_has ls 6 [(0, .ref A_q), (1, .ref A_w), (2, .int x2), (3, .int x3), (4, .int x4), (5, .int x5)] → fn_Tokens_readNumber_L8 w_N w_count w_characters n q_count q_kinds q_starts q_details x2 x3 x4 x5 = some rs → W p l e (headSpec wsX8_readNumber ({ frames := 1, cells := 0, slots := 0, locals := 24 } : Room)).room s m args below meth c H locs 0 0 (MQ below (zQi D cI cJ cC rs.1 [(A_q, .inr (8, [.ref A_q_kinds, .ref A_q_starts, .ref A_q_details, .int rs.2.1])), (A_q_kinds, .inl (cI, 80, .inl rs.2.2.1)), (A_q_starts, .inl (cI, 80, .inl rs.2.2.2.1)), (A_q_details, .inl (cI, 80, .inl rs.2.2.2.2)), (A_w, .inr (1, [.ref A_w_characters, .int w_count])), (A_w_characters, .inl (cC, w_N, .inl w_characters))] A) args s 0 0 A) (F0 m 8 ls []) := by
    intro  n
    induction n with
    | zero => intro q_count q_kinds q_starts q_details x2 x3 x4 x5 H locs ls _ _ _ _ hM; exact z_n hM
    | succ n ih =>
      intro q_count q_kinds q_starts q_details x2 x3 x4 x5 H locs ls hP hD hS hl hM
      refine lv_iload hx hb dX8_readNumber_8 (lv_at hl 5 rfl) ?_
      refine lv_aload_n hx hb dX8_readNumber_10 rfl (lv_at hl 1 rfl) ?_
      obtain ⟨hPc, hDc, hFc⟩ := zcut (wc := [(A_w, .inr (1, [.ref A_w_characters, .int w_count]))]) hP hD hS hA [4] rfl rfl (by decide)
      have hrun : va_Run p l e (headSpec wsX8_readNumber ({ frames := 1, cells := 0, slots := 0, locals := 24 } : Room)).room s m args below meth c H locs 0 0 _ _ (F0 m 11 ls _) _ (zQi D cI cJ cC (fn_CharRow_size w_count) [(A_w, .inr (1, [.ref A_w_characters, .int w_count]))] (va_A [(A_w, .inr (1, [.ref A_w_characters, .int w_count]))] H.size) _) (va_A [(A_w, .inr (1, [.ref A_w_characters, .int w_count]))] H.size) := va_runV (As := []) (rest := [.int x5]) ⟨hx, hb, hml, hown, hts⟩ (ct_CharRow_size l D cI cJ cC adK adV A_w A_w_characters H.size w_count) (cwV 0 hts gX8_readNumber_X1_size rfl rfl rfl (by decide +kernel) ⟨Nat.le_of_ble_eq_true rfl, Nat.le_of_ble_eq_true rfl⟩) ⟨zblind, va_recv hK hP (ci := 1) (q0 := 4) rfl rfl, zpre hX hS hFc hPc hK hDc⟩ rfl rfl hl.1 rfl (lv_room (Nat.le_of_ble_eq_true rfl)) dX8_readNumber_11 ⟨Nat.zero_le _, Nat.zero_le _⟩
      refine zc_i (ws' := [(A_q, .inr (8, [.ref A_q_kinds, .ref A_q_starts, .ref A_q_details, .int q_count])), (A_q_kinds, .inl (cI, 80, .inl q_kinds)), (A_q_starts, .inl (cI, 80, .inl q_starts)), (A_q_details, .inl (cI, 80, .inl q_details)), (A_w, .inr (1, [.ref A_w_characters, .int w_count])), (A_w_characters, .inl (cC, w_N, .inl w_characters))]) hrun hP hD hS hFc [4] rfl (by decide) rfl rfl (fun H2 locs hP hD hS => ?_)
      refine lv_icmp_ge (tgt := 70) hx hb dX8_readNumber_14 (by decide) (fun c3 => ?_) (fun c3 => ?_)
      · have hM := z_t c3 hM
        exact B_70_1  q_count q_kinds q_starts q_details x2 x3 x4 _ _ ls hP hD hS (lv_sub hl [0, 2, 3, 4] rfl) hM
      · have hM := z_f c3 hM
        refine lv_aload_n hx hb dX8_readNumber_17 rfl (lv_at hl 1 rfl) ?_
        refine lv_iload hx hb dX8_readNumber_18 (lv_at hl 5 rfl) ?_
        obtain ⟨q7, hq7, hM⟩ := z_b hM
        obtain ⟨hPc, hDc, hFc⟩ := zcut (wc := [(A_w, .inr (1, [.ref A_w_characters, .int w_count])), (A_w_characters, .inl (cC, w_N, .inl w_characters))]) hP hD hS hA [4, 5] rfl rfl (by decide)
        have hrun : va_Run p l e (headSpec wsX8_readNumber ({ frames := 1, cells := 0, slots := 0, locals := 24 } : Room)).room s m args below meth c H2 locs 0 0 _ _ (F0 m 20 ls _) _ (zQi D cI cJ cC q7 [(A_w, .inr (1, [.ref A_w_characters, .int w_count])), (A_w_characters, .inl (cC, w_N, .inl w_characters))] (va_A [(A_w, .inr (1, [.ref A_w_characters, .int w_count])), (A_w_characters, .inl (cC, w_N, .inl w_characters))] H2.size) _) (va_A [(A_w, .inr (1, [.ref A_w_characters, .int w_count])), (A_w_characters, .inl (cC, w_N, .inl w_characters))] H2.size) := va_runV (As := [.int x5]) (rest := []) ⟨hx, hb, hml, hown, hts⟩ (ct_CharRow_at l D cI cJ cC adK adV A_w A_w_characters H2.size w_N w_count w_characters x5 hq7) (cwV 1 hts gX8_readNumber_X1_at rfl rfl rfl (by decide +kernel) ⟨Nat.le_of_ble_eq_true rfl, Nat.le_of_ble_eq_true rfl⟩) ⟨zblind, va_recv hK hP (ci := 1) (q0 := 4) rfl rfl, zpre hX hS hFc hPc hK hDc⟩ rfl rfl hl.1 rfl (lv_room (Nat.le_of_ble_eq_true rfl)) dX8_readNumber_20 ⟨Nat.zero_le _, Nat.zero_le _⟩
        refine zc_i (ws' := [(A_q, .inr (8, [.ref A_q_kinds, .ref A_q_starts, .ref A_q_details, .int q_count])), (A_q_kinds, .inl (cI, 80, .inl q_kinds)), (A_q_starts, .inl (cI, 80, .inl q_starts)), (A_q_details, .inl (cI, 80, .inl q_details)), (A_w, .inr (1, [.ref A_w_characters, .int w_count])), (A_w_characters, .inl (cC, w_N, .inl w_characters))]) hrun hP hD hS hFc [4, 5] rfl (by decide) rfl rfl (fun H8 locs hP hD hS => ?_)
        refine lv_bipush (v := 48) hx hb dX8_readNumber_23 (by decide) ?_
        refine lv_icmp_lt (tgt := 70) hx hb dX8_readNumber_25 (by decide) (fun c9 => ?_) (fun c9 => ?_)
        · have hM := z_t c9 hM
          exact B_70_1  q_count q_kinds q_starts q_details x2 x3 x4 _ _ ls hP hD hS (lv_sub hl [0, 2, 3, 4] rfl) hM
        · have hM := z_f c9 hM
          refine lv_aload_n hx hb dX8_readNumber_28 rfl (lv_at hl 1 rfl) ?_
          refine lv_iload hx hb dX8_readNumber_29 (lv_at hl 5 rfl) ?_
          obtain ⟨q10, hq10, hM⟩ := z_b hM
          obtain ⟨hPc, hDc, hFc⟩ := zcut (wc := [(A_w, .inr (1, [.ref A_w_characters, .int w_count])), (A_w_characters, .inl (cC, w_N, .inl w_characters))]) hP hD hS hA [4, 5] rfl rfl (by decide)
          have hrun : va_Run p l e (headSpec wsX8_readNumber ({ frames := 1, cells := 0, slots := 0, locals := 24 } : Room)).room s m args below meth c H8 locs 0 0 _ _ (F0 m 31 ls _) _ (zQi D cI cJ cC q10 [(A_w, .inr (1, [.ref A_w_characters, .int w_count])), (A_w_characters, .inl (cC, w_N, .inl w_characters))] (va_A [(A_w, .inr (1, [.ref A_w_characters, .int w_count])), (A_w_characters, .inl (cC, w_N, .inl w_characters))] H8.size) _) (va_A [(A_w, .inr (1, [.ref A_w_characters, .int w_count])), (A_w_characters, .inl (cC, w_N, .inl w_characters))] H8.size) := va_runV (As := [.int x5]) (rest := []) ⟨hx, hb, hml, hown, hts⟩ (ct_CharRow_at l D cI cJ cC adK adV A_w A_w_characters H8.size w_N w_count w_characters x5 hq10) (cwV 1 hts gX8_readNumber_X1_at rfl rfl rfl (by decide +kernel) ⟨Nat.le_of_ble_eq_true rfl, Nat.le_of_ble_eq_true rfl⟩) ⟨zblind, va_recv hK hP (ci := 1) (q0 := 4) rfl rfl, zpre hX hS hFc hPc hK hDc⟩ rfl rfl hl.1 rfl (lv_room (Nat.le_of_ble_eq_true rfl)) dX8_readNumber_31 ⟨Nat.zero_le _, Nat.zero_le _⟩
          refine zc_i (ws' := [(A_q, .inr (8, [.ref A_q_kinds, .ref A_q_starts, .ref A_q_details, .int q_count])), (A_q_kinds, .inl (cI, 80, .inl q_kinds)), (A_q_starts, .inl (cI, 80, .inl q_starts)), (A_q_details, .inl (cI, 80, .inl q_details)), (A_w, .inr (1, [.ref A_w_characters, .int w_count])), (A_w_characters, .inl (cC, w_N, .inl w_characters))]) hrun hP hD hS hFc [4, 5] rfl (by decide) rfl rfl (fun H11 locs hP hD hS => ?_)
          refine lv_bipush (v := 57) hx hb dX8_readNumber_34 (by decide) ?_
          refine lv_icmp_gt (tgt := 70) hx hb dX8_readNumber_36 (by decide) (fun c12 => ?_) (fun c12 => ?_)
          · have hM := z_t c12 hM
            exact B_70_1  q_count q_kinds q_starts q_details x2 x3 x4 _ _ ls hP hD hS (lv_sub hl [0, 2, 3, 4] rfl) hM
          · have hM := z_f c12 hM
            refine lv_iinc (v := (x4 + 1)) (lv' := [(4, .int (x4 + 1)), (0, .ref A_q), (1, .ref A_w), (2, .int x2), (3, .int x3), (5, .int x5)]) hx hb dX8_readNumber_39 hl (k := 4) rfl rfl (by decide) rfl (fun ls hl => ?_)
            refine lv_iload hx hb dX8_readNumber_42 (lv_at hl 0 rfl) ?_
            refine lv_bipush (v := 6) hx hb dX8_readNumber_44 (by decide) ?_
            refine lv_icmp_gt (tgt := 64) hx hb dX8_readNumber_46 (by decide) (fun c13 => ?_) (fun c13 => ?_)
            · have hM := z_t c13 hM
              exact B_64_3 (fn_Tokens_readNumber_L8 w_N w_count w_characters n) ih q_count q_kinds q_starts q_details x2 x3 (x4 + 1) x5 _ _ ls hP hD hS (lv_sub hl [1, 2, 3, 4, 0, 5] rfl) hM
            · have hM := z_f c13 hM
              refine lv_bipush (v := 10) hx hb dX8_readNumber_49 (by decide) ?_
              refine lv_iload_n hx hb dX8_readNumber_51 rfl (lv_at hl 4 rfl) ?_
              refine lv_imul hx hb dX8_readNumber_52 ?_
              refine lv_aload_n hx hb dX8_readNumber_53 rfl (lv_at hl 2 rfl) ?_
              refine lv_iload hx hb dX8_readNumber_54 (lv_at hl 5 rfl) ?_
              obtain ⟨q14, hq14, hM⟩ := z_b hM
              obtain ⟨hPc, hDc, hFc⟩ := zcut (wc := [(A_w, .inr (1, [.ref A_w_characters, .int w_count])), (A_w_characters, .inl (cC, w_N, .inl w_characters))]) hP hD hS hA [4, 5] rfl rfl (by decide)
              have hrun : va_Run p l e (headSpec wsX8_readNumber ({ frames := 1, cells := 0, slots := 0, locals := 24 } : Room)).room s m args below meth c H11 locs 0 0 _ _ (F0 m 56 ls _) _ (zQi D cI cJ cC q14 [(A_w, .inr (1, [.ref A_w_characters, .int w_count])), (A_w_characters, .inl (cC, w_N, .inl w_characters))] (va_A [(A_w, .inr (1, [.ref A_w_characters, .int w_count])), (A_w_characters, .inl (cC, w_N, .inl w_characters))] H11.size) _) (va_A [(A_w, .inr (1, [.ref A_w_characters, .int w_count])), (A_w_characters, .inl (cC, w_N, .inl w_characters))] H11.size) := va_runV (As := [.int x5]) (rest := [.int (10 * x3)]) ⟨hx, hb, hml, hown, hts⟩ (ct_CharRow_at l D cI cJ cC adK adV A_w A_w_characters H11.size w_N w_count w_characters x5 hq14) (cwV 1 hts gX8_readNumber_X1_at rfl rfl rfl (by decide +kernel) ⟨Nat.le_of_ble_eq_true rfl, Nat.le_of_ble_eq_true rfl⟩) ⟨zblind, va_recv hK hP (ci := 1) (q0 := 4) rfl rfl, zpre hX hS hFc hPc hK hDc⟩ rfl rfl hl.1 rfl (lv_room (Nat.le_of_ble_eq_true rfl)) dX8_readNumber_56 ⟨Nat.zero_le _, Nat.zero_le _⟩
              refine zc_i (ws' := [(A_q, .inr (8, [.ref A_q_kinds, .ref A_q_starts, .ref A_q_details, .int q_count])), (A_q_kinds, .inl (cI, 80, .inl q_kinds)), (A_q_starts, .inl (cI, 80, .inl q_starts)), (A_q_details, .inl (cI, 80, .inl q_details)), (A_w, .inr (1, [.ref A_w_characters, .int w_count])), (A_w_characters, .inl (cC, w_N, .inl w_characters))]) hrun hP hD hS hFc [4, 5] rfl (by decide) rfl rfl (fun H15 locs hP hD hS => ?_)
              refine lv_iadd hx hb dX8_readNumber_59 ?_
              refine lv_bipush (v := 48) hx hb dX8_readNumber_60 (by decide) ?_
              refine lv_isub hx hb dX8_readNumber_62 ?_
              refine lv_istore_n (lv' := [(3, .int (((10 * x3) + q14) - 48)), (4, .int (x4 + 1)), (0, .ref A_q), (1, .ref A_w), (2, .int x2), (5, .int x5)]) hx hb dX8_readNumber_63 rfl hl (by decide) rfl (fun ls hl => ?_)
              exact B_64_3 (fn_Tokens_readNumber_L8 w_N w_count w_characters n) ih q_count q_kinds q_starts q_details x2 (((10 * x3) + q14) - 48) (x4 + 1) x5 _ _ ls hP hD hS (lv_sub hl [2, 3, 4, 0, 1, 5] rfl) hM
  refine lv_iconst (v := 0) hx hb dX8_readNumber_0 (by decide) ?_
  refine lv_istore_n (lv' := [(3, .int 0), (0, .ref A_q), (1, .ref A_w), (2, .int x2)]) hx hb dX8_readNumber_1 rfl hl (by decide) rfl (fun ls hl => ?_)
  refine lv_iconst (v := 0) hx hb dX8_readNumber_2 (by decide) ?_
  refine lv_istore (lv' := [(4, .int 0), (3, .int 0), (0, .ref A_q), (1, .ref A_w), (2, .int x2)]) hx hb dX8_readNumber_3 hl (by decide) rfl (fun ls hl => ?_)
  refine lv_iload_n hx hb dX8_readNumber_5 rfl (lv_at hl 4 rfl) ?_
  refine lv_istore (lv' := [(5, .int x2), (4, .int 0), (3, .int 0), (0, .ref A_q), (1, .ref A_w), (2, .int x2)]) hx hb dX8_readNumber_6 hl (by decide) rfl (fun ls hl => ?_)
  exact L_8_0  zFU q_count q_kinds q_starts q_details x2 0 0 x2 _ _ ls hP hD hS (lv_sub hl [3, 4, 5, 2, 1, 0] rfl) hM
def fn_Tokens_functionAt_b55 (w_N : Nat) (w_count : Int32) (w_characters : Nat → Int32) (k_2_0 : Int32 → Int32 → Option (Int32)) (k_19_1 : Int32 → Int32 → Nat → Int32 → Int32 → Option (Int32)) (x1 : Int32) (x2 : Int32) (x3 : Nat) (x5 : Int32) (k0 : Int32) : Option (Int32) := k_19_1 x1 x2 x3 k0 (x5 + 1)
def fn_Tokens_functionAt_b54 (w_N : Nat) (w_count : Int32) (w_characters : Nat → Int32) (k_2_0 : Int32 → Int32 → Option (Int32)) (k_19_1 : Int32 → Int32 → Nat → Int32 → Int32 → Option (Int32)) (x1 : Int32) (x2 : Int32) (x3 : Nat) (x5 : Int32) : Option (Int32) := fn_Tokens_functionAt_b55 w_N w_count w_characters k_2_0 k_19_1 x1 x2 x3 x5 0
def fn_Tokens_functionAt_L19 (w_N : Nat) (w_count : Int32) (w_characters : Nat → Int32) (k_2_0 : Int32 → Int32 → Option (Int32)) : Nat → Int32 → Int32 → Nat → Int32 → Int32 → Option (Int32)
  | 0 => fun _ _ _ _ _ => none
  | n + 1 => fun x1 x2 x3 x4 x5 => (if zNs ≤ x3 then none else (if (nI (zlen x3)) ≤ x5 then (if x4 = 0 then k_2_0 x1 (x2 + 1) else some x2) else (if x4 = 0 then fn_Tokens_functionAt_b54 w_N w_count w_characters k_2_0 (fn_Tokens_functionAt_L19 w_N w_count w_characters k_2_0 n) x1 x2 x3 x5 else ((fn_CharRow_at w_N w_count w_characters (x1 + x5)).bind fun q9 => (if zNs ≤ x3 ∨ (x5 < 0 ∨ zlen x3 ≤ x5.toNatClampNeg) then none else (if q9 = (zch x3 x5.toNatClampNeg) then fn_Tokens_functionAt_b55 w_N w_count w_characters k_2_0 (fn_Tokens_functionAt_L19 w_N w_count w_characters k_2_0 n) x1 x2 x3 x5 1 else fn_Tokens_functionAt_b54 w_N w_count w_characters k_2_0 (fn_Tokens_functionAt_L19 w_N w_count w_characters k_2_0 n) x1 x2 x3 x5))))))
def fn_Tokens_functionAt_L2 (w_N : Nat) (w_count : Int32) (w_characters : Nat → Int32) : Nat → Int32 → Int32 → Option (Int32)
  | 0 => fun _ _ => none
  | n + 1 => fun x1 x2 => (if 6 < x2 then some 0 else fn_Tokens_functionAt_L19 w_N w_count w_characters (fn_Tokens_functionAt_L2 w_N w_count w_characters n) zFU x1 x2 (fn_Parser_symbolOf x2) 1 0)
def fn_Tokens_functionAt (w_N : Nat) (w_count : Int32) (w_characters : Nat → Int32) (x1 : Int32) : Option (Int32) := fn_Tokens_functionAt_L2 w_N w_count w_characters zFU x1 3
set_option maxHeartbeats 40000000 in
set_option maxRecDepth 100000 in
theorem ct_Tokens_functionAt (l : Launch) (D : va_G) (cI cJ cC : ClassId) (adK adV : Nat → Nat) (A_w A_w_characters : Nat) (sz : Nat) (w_N : Nat) (w_count : Int32) (w_characters : Nat → Int32) (x1 : Int32) {rs : Int32} (hM : fn_Tokens_functionAt w_N w_count w_characters x1 = some rs) : Met l yX8_functionAt wsX8_functionAt ({ frames := 4, cells := 0, slots := 0, locals := 85 } : Room) (zP D cI cJ cC adK adV [.ref A_w, .int x1] sz [(A_w, .inr (1, [.ref A_w_characters, .int w_count])), (A_w_characters, .inl (cC, w_N, .inl w_characters))]) (zQi D cI cJ cC rs [(A_w, .inr (1, [.ref A_w_characters, .int w_count])), (A_w_characters, .inl (cC, w_N, .inl w_characters))] (va_A [(A_w, .inr (1, [.ref A_w_characters, .int w_count])), (A_w_characters, .inl (cC, w_N, .inl w_characters))] sz)) 0 0 (va_A [(A_w, .inr (1, [.ref A_w_characters, .int w_count])), (A_w_characters, .inl (cC, w_N, .inl w_characters))] sz) := by
  refine Met.ofW (cc := cX8_functionAt) (maxL := 6) (ret := (some .int)) (by decide) rfl ?_
  intro p e s m args below meth c s₁ B hml hv0
  obtain ⟨hargs, hsz, hP, hK, hD0, hX⟩ := hv0
  have hx := B.exec
  have hb := B.bytes
  have hr := B.returns
  have hts := atoms_spec (ws := wsX8_functionAt) B.pre
  have hown : s.vm.findClass RX8 = some m.cls := findClass_of_methodNamed B.named
  have hlocks := B.notSynchronized
  subst hsz
  have hD := hD0.self (sz := s.heap.size)
  generalize hAe : va_A [(A_w, .inr (1, [.ref A_w_characters, .int w_count])), (A_w_characters, .inl (cC, w_N, .inl w_characters))] s.heap.size = A at hD hX ⊢
  have hA : ∀ q : Nat, s.heap.size ≤ q → A q := fun q h => by rw [← hAe]; exact Or.inr h
  have hS : va_S A s.heap s.heap [] := va_S.rf
  have hl := lv_entry ([.ref A_w, .int x1]) (n := 6) (Nat.le_of_ble_eq_true rfl)
  rw [hargs, lg_entry_eq, ← hargs]
  generalize (lg_sl ([.ref A_w, .int x1]) ++ List.replicate (6 - (lg_sl ([.ref A_w, .int x1])).length) Slot.unset).toArray = ls at hl ⊢
  have hl : lv_has ls 6 [(0, .ref A_w), (1, .int x1)] := hl
  have hw0 := hts (.initialized RX11) (by decide +kernel)
  have hw1 := hts (.static yX11_symbolOf) (by decide +kernel)
  have B_55_3 : ∀ (k_2_0 : Int32 → Int32 → Option (Int32)) (hk_2_0 : ∀ (x1 : Int32) (x2 : Int32) (H : Heap) (locs : List Loc) (ls : Array Slot), va_P D vwCl [(A_w, .inr (1, [.ref A_w_characters, .int w_count])), (A_w_characters, .inl (cC, w_N, .inl w_characters))] H → va_D A [(A_w, .inr (1, [.ref A_w_characters, .int w_count])), (A_w_characters, .inl (cC, w_N, .inl w_characters))] → va_S A s.heap H locs → lv_has ls 6 [(0, .ref A_w), (1, .int x1), (2, .int x2)] → k_2_0 x1 x2 = some rs → W p l e (headSpec wsX8_functionAt ({ frames := 4, cells := 0, slots := 0, locals := 85 } : Room)).room s m args below meth c H locs 0 0 (MQ below (zQi D cI cJ cC rs [(A_w, .inr (1, [.ref A_w_characters, .int w_count])), (A_w_characters, .inl (cC, w_N, .inl w_characters))] A) args s 0 0 A) (F0 m 2 ls [])) (k_19_1 : Int32 → Int32 → Nat → Int32 → Int32 → Option (Int32)) (hk_19_1 : ∀ (x1 : Int32) (x2 : Int32) (x3 : Nat) (x4 : Int32) (x5 : Int32) (H : Heap) (locs : List Loc) (ls : Array Slot), va_P D vwCl [(A_w, .inr (1, [.ref A_w_characters, .int w_count])), (A_w_characters, .inl (cC, w_N, .inl w_characters))] H → va_D A [(A_w, .inr (1, [.ref A_w_characters, .int w_count])), (A_w_characters, .inl (cC, w_N, .inl w_characters))] → va_S A s.heap H locs → lv_has ls 6 [(0, .ref A_w), (1, .int x1), (2, .int x2), (3, .ref (adK x3)), (4, .int x4), (5, .int x5)] → k_19_1 x1 x2 x3 x4 x5 = some rs → W p l e (headSpec wsX8_functionAt ({ frames := 4, cells := 0, slots := 0, locals := 85 } : Room)).room s m args below meth c H locs 0 0 (MQ below (zQi D cI cJ cC rs [(A_w, .inr (1, [.ref A_w_characters, .int w_count])), (A_w_characters, .inl (cC, w_N, .inl w_characters))] A) args s 0 0 A) (F0 m 19 ls [])) (x1 : Int32) (x2 : Int32) (x3 : Nat) (x5 : Int32) (k0 : Int32) (H : Heap) (locs : List Loc) (ls : Array Slot), va_P D vwCl [(A_w, .inr (1, [.ref A_w_characters, .int w_count])), (A_w_characters, .inl (cC, w_N, .inl w_characters))] H → va_D A [(A_w, .inr (1, [.ref A_w_characters, .int w_count])), (A_w_characters, .inl (cC, w_N, .inl w_characters))] → va_S A s.heap H locs → lv_has ls 6 [(0, .ref A_w), (1, .int x1), (2, .int x2), (3, .ref (adK x3)), (5, .int x5)] → fn_Tokens_functionAt_b55 w_N w_count w_characters k_2_0 k_19_1 x1 x2 x3 x5 k0 = some rs → W p l e (headSpec wsX8_functionAt ({ frames := 4, cells := 0, slots := 0, locals := 85 } : Room)).room s m args below meth c H locs 0 0 (MQ below (zQi D cI cJ cC rs [(A_w, .inr (1, [.ref A_w_characters, .int w_count])), (A_w_characters, .inl (cC, w_N, .inl w_characters))] A) args s 0 0 A) (F0 m 55 ls [.int k0]) := by
    intro k_2_0 hk_2_0 k_19_1 hk_19_1 x1 x2 x3 x5 k0 H locs ls hP hD hS hl hM
    refine lv_istore (lv' := [(4, .int k0), (0, .ref A_w), (1, .int x1), (2, .int x2), (3, .ref (adK x3)), (5, .int x5)]) hx hb dX8_functionAt_55 hl (by decide) rfl (fun ls hl => ?_)
    refine lv_iinc (v := (x5 + 1)) (lv' := [(5, .int (x5 + 1)), (4, .int k0), (0, .ref A_w), (1, .int x1), (2, .int x2), (3, .ref (adK x3))]) hx hb dX8_functionAt_57 hl (k := 5) rfl rfl (by decide) rfl (fun ls hl => ?_)
    refine lv_goto (tgt := 19) hx hb dX8_functionAt_60 (by decide) ?_
    exact hk_19_1 x1 x2 x3 k0 (x5 + 1) _ _ ls hP hD hS (lv_sub hl [2, 3, 4, 5, 1, 0] rfl) hM
  have B_54_2 : ∀ (k_2_0 : Int32 → Int32 → Option (Int32)) (hk_2_0 : ∀ (x1 : Int32) (x2 : Int32) (H : Heap) (locs : List Loc) (ls : Array Slot), va_P D vwCl [(A_w, .inr (1, [.ref A_w_characters, .int w_count])), (A_w_characters, .inl (cC, w_N, .inl w_characters))] H → va_D A [(A_w, .inr (1, [.ref A_w_characters, .int w_count])), (A_w_characters, .inl (cC, w_N, .inl w_characters))] → va_S A s.heap H locs → lv_has ls 6 [(0, .ref A_w), (1, .int x1), (2, .int x2)] → k_2_0 x1 x2 = some rs → W p l e (headSpec wsX8_functionAt ({ frames := 4, cells := 0, slots := 0, locals := 85 } : Room)).room s m args below meth c H locs 0 0 (MQ below (zQi D cI cJ cC rs [(A_w, .inr (1, [.ref A_w_characters, .int w_count])), (A_w_characters, .inl (cC, w_N, .inl w_characters))] A) args s 0 0 A) (F0 m 2 ls [])) (k_19_1 : Int32 → Int32 → Nat → Int32 → Int32 → Option (Int32)) (hk_19_1 : ∀ (x1 : Int32) (x2 : Int32) (x3 : Nat) (x4 : Int32) (x5 : Int32) (H : Heap) (locs : List Loc) (ls : Array Slot), va_P D vwCl [(A_w, .inr (1, [.ref A_w_characters, .int w_count])), (A_w_characters, .inl (cC, w_N, .inl w_characters))] H → va_D A [(A_w, .inr (1, [.ref A_w_characters, .int w_count])), (A_w_characters, .inl (cC, w_N, .inl w_characters))] → va_S A s.heap H locs → lv_has ls 6 [(0, .ref A_w), (1, .int x1), (2, .int x2), (3, .ref (adK x3)), (4, .int x4), (5, .int x5)] → k_19_1 x1 x2 x3 x4 x5 = some rs → W p l e (headSpec wsX8_functionAt ({ frames := 4, cells := 0, slots := 0, locals := 85 } : Room)).room s m args below meth c H locs 0 0 (MQ below (zQi D cI cJ cC rs [(A_w, .inr (1, [.ref A_w_characters, .int w_count])), (A_w_characters, .inl (cC, w_N, .inl w_characters))] A) args s 0 0 A) (F0 m 19 ls [])) (x1 : Int32) (x2 : Int32) (x3 : Nat) (x5 : Int32) (H : Heap) (locs : List Loc) (ls : Array Slot), va_P D vwCl [(A_w, .inr (1, [.ref A_w_characters, .int w_count])), (A_w_characters, .inl (cC, w_N, .inl w_characters))] H → va_D A [(A_w, .inr (1, [.ref A_w_characters, .int w_count])), (A_w_characters, .inl (cC, w_N, .inl w_characters))] → va_S A s.heap H locs → lv_has ls 6 [(0, .ref A_w), (1, .int x1), (2, .int x2), (3, .ref (adK x3)), (5, .int x5)] → fn_Tokens_functionAt_b54 w_N w_count w_characters k_2_0 k_19_1 x1 x2 x3 x5 = some rs → W p l e (headSpec wsX8_functionAt ({ frames := 4, cells := 0, slots := 0, locals := 85 } : Room)).room s m args below meth c H locs 0 0 (MQ below (zQi D cI cJ cC rs [(A_w, .inr (1, [.ref A_w_characters, .int w_count])), (A_w_characters, .inl (cC, w_N, .inl w_characters))] A) args s 0 0 A) (F0 m 54 ls []) := by
    intro k_2_0 hk_2_0 k_19_1 hk_19_1 x1 x2 x3 x5 H locs ls hP hD hS hl hM
    refine lv_iconst (v := 0) hx hb dX8_functionAt_54 (by decide) ?_
    exact B_55_3 k_2_0 hk_2_0 k_19_1 hk_19_1 x1 x2 x3 x5 0 _ _ ls hP hD hS (lv_sub hl [0, 1, 2, 3, 4] rfl) hM
  have L_19_1 : ∀ (k_2_0 : Int32 → Int32 → Option (Int32)) (hk_2_0 : ∀ (x1 : Int32) (x2 : Int32) (H : Heap) (locs : List Loc) (ls : Array Slot), va_P D vwCl [(A_w, .inr (1, [.ref A_w_characters, .int w_count])), (A_w_characters, .inl (cC, w_N, .inl w_characters))] H → va_D A [(A_w, .inr (1, [.ref A_w_characters, .int w_count])), (A_w_characters, .inl (cC, w_N, .inl w_characters))] → va_S A s.heap H locs → lv_has ls 6 [(0, .ref A_w), (1, .int x1), (2, .int x2)] → k_2_0 x1 x2 = some rs → W p l e (headSpec wsX8_functionAt ({ frames := 4, cells := 0, slots := 0, locals := 85 } : Room)).room s m args below meth c H locs 0 0 (MQ below (zQi D cI cJ cC rs [(A_w, .inr (1, [.ref A_w_characters, .int w_count])), (A_w_characters, .inl (cC, w_N, .inl w_characters))] A) args s 0 0 A) (F0 m 2 ls [])) (n : Nat) (x1 : Int32) (x2 : Int32) (x3 : Nat) (x4 : Int32) (x5 : Int32) (H : Heap) (locs : List Loc) (ls : Array Slot), va_P D vwCl [(A_w, .inr (1, [.ref A_w_characters, .int w_count])), (A_w_characters, .inl (cC, w_N, .inl w_characters))] H → va_D A [(A_w, .inr (1, [.ref A_w_characters, .int w_count])), (A_w_characters, .inl (cC, w_N, .inl w_characters))] → va_S A s.heap H locs → lv_has ls 6 [(0, .ref A_w), (1, .int x1), (2, .int x2), (3, .ref (adK x3)), (4, .int x4), (5, .int x5)] → fn_Tokens_functionAt_L19 w_N w_count w_characters k_2_0 n x1 x2 x3 x4 x5 = some rs → W p l e (headSpec wsX8_functionAt ({ frames := 4, cells := 0, slots := 0, locals := 85 } : Room)).room s m args below meth c H locs 0 0 (MQ below (zQi D cI cJ cC rs [(A_w, .inr (1, [.ref A_w_characters, .int w_count])), (A_w_characters, .inl (cC, w_N, .inl w_characters))] A) args s 0 0 A) (F0 m 19 ls []) := by
    intro k_2_0 hk_2_0 n
    induction n with
    | zero => intro x1 x2 x3 x4 x5 H locs ls _ _ _ _ hM; exact z_n hM
    | succ n ih =>
      intro x1 x2 x3 x4 x5 H locs ls hP hD hS hl hM
      refine lv_iload hx hb dX8_functionAt_19 (lv_at hl 5 rfl) ?_
      refine lv_aload_n hx hb dX8_functionAt_21 rfl (lv_at hl 3 rfl) ?_
      obtain ⟨g4, hM⟩ := z_g hM
      obtain ⟨hPc, hDc, hFc⟩ := zcut (wc := []) hP hD hS hA [] rfl rfl (by decide)
      refine zc_i (ws' := [(A_w, .inr (1, [.ref A_w_characters, .int w_count])), (A_w_characters, .inl (cC, w_N, .inl w_characters))]) (va_runV (As := []) (rest := [.int x5]) ⟨hx, hb, hml, hown, hts⟩ (ct_slen l D cI cJ cC adK adV H.size x3 (Nat.lt_of_not_le g4)) (cwV 0 hts gX8_functionAt_J0_length_8abf5 rfl rfl rfl (by decide +kernel) ⟨Nat.le_of_ble_eq_true rfl, Nat.le_of_ble_eq_true rfl⟩) ⟨zblind, zrecvS hX hS (Nat.lt_of_not_le g4), zpre hX hS hFc hPc hK hDc⟩ rfl rfl hl.1 rfl (lv_room (Nat.le_of_ble_eq_true rfl)) dX8_functionAt_22 ⟨Nat.zero_le _, Nat.zero_le _⟩) hP hD hS hFc [] rfl (by decide) rfl rfl (fun H5 locs hP hD hS => ?_)
      refine lv_icmp_ge (tgt := 63) hx hb dX8_functionAt_25 (by decide) (fun c6 => ?_) (fun c6 => ?_)
      · have hM := z_t c6 hM
        refine lv_iload hx hb dX8_functionAt_63 (lv_at hl 4 rfl) ?_
        refine lv_if_eq (tgt := 70) hx hb dX8_functionAt_65 (by decide) (fun c7 => ?_) (fun c7 => ?_)
        · have hM := z_t c7 hM
          refine lv_iinc (v := (x2 + 1)) (lv' := [(2, .int (x2 + 1)), (0, .ref A_w), (1, .int x1), (3, .ref (adK x3)), (4, .int x4), (5, .int x5)]) hx hb dX8_functionAt_70 hl (k := 2) rfl rfl (by decide) rfl (fun ls hl => ?_)
          refine lv_goto (tgt := 2) hx hb dX8_functionAt_73 (by decide) ?_
          exact hk_2_0 x1 (x2 + 1) _ _ ls hP hD hS (lv_sub hl [1, 2, 0] rfl) hM
        · have hM := z_f c7 hM
          refine lv_iload_n hx hb dX8_functionAt_68 rfl (lv_at hl 2 rfl) ?_
          have hM := Option.some.inj hM
          subst hM
          exact W.iret (v := x2) hx hb hr (fun t ht hW => ⟨⟨_, (), rfl, rfl, ⟨by rw [ht]; exact hP, va_K.moved hW.alike hK, hD⟩⟩, hS.F ht⟩) hS.2.2 dX8_functionAt_69
      · have hM := z_f c6 hM
        refine lv_iload hx hb dX8_functionAt_28 (lv_at hl 4 rfl) ?_
        refine lv_if_eq (tgt := 54) hx hb dX8_functionAt_30 (by decide) (fun c8 => ?_) (fun c8 => ?_)
        · have hM := z_t c8 hM
          exact B_54_2 k_2_0 hk_2_0 (fn_Tokens_functionAt_L19 w_N w_count w_characters k_2_0 n) ih x1 x2 x3 x5 _ _ ls hP hD hS (lv_sub hl [0, 1, 2, 3, 5] rfl) hM
        · have hM := z_f c8 hM
          refine lv_aload_n hx hb dX8_functionAt_33 rfl (lv_at hl 0 rfl) ?_
          refine lv_iload_n hx hb dX8_functionAt_34 rfl (lv_at hl 1 rfl) ?_
          refine lv_iload hx hb dX8_functionAt_35 (lv_at hl 5 rfl) ?_
          refine lv_iadd hx hb dX8_functionAt_37 ?_
          obtain ⟨q9, hq9, hM⟩ := z_b hM
          obtain ⟨hPc, hDc, hFc⟩ := zcut (wc := [(A_w, .inr (1, [.ref A_w_characters, .int w_count])), (A_w_characters, .inl (cC, w_N, .inl w_characters))]) hP hD hS hA [0, 1] rfl rfl (by decide)
          have hrun : va_Run p l e (headSpec wsX8_functionAt ({ frames := 4, cells := 0, slots := 0, locals := 85 } : Room)).room s m args below meth c H5 locs 0 0 _ _ (F0 m 38 ls _) _ (zQi D cI cJ cC q9 [(A_w, .inr (1, [.ref A_w_characters, .int w_count])), (A_w_characters, .inl (cC, w_N, .inl w_characters))] (va_A [(A_w, .inr (1, [.ref A_w_characters, .int w_count])), (A_w_characters, .inl (cC, w_N, .inl w_characters))] H5.size) _) (va_A [(A_w, .inr (1, [.ref A_w_characters, .int w_count])), (A_w_characters, .inl (cC, w_N, .inl w_characters))] H5.size) := va_runV (As := [.int (x1 + x5)]) (rest := []) ⟨hx, hb, hml, hown, hts⟩ (ct_CharRow_at l D cI cJ cC adK adV A_w A_w_characters H5.size w_N w_count w_characters (x1 + x5) hq9) (cwV 1 hts gX8_functionAt_X1_at rfl rfl rfl (by decide +kernel) ⟨Nat.le_of_ble_eq_true rfl, Nat.le_of_ble_eq_true rfl⟩) ⟨zblind, va_recv hK hP (ci := 1) (q0 := 0) rfl rfl, zpre hX hS hFc hPc hK hDc⟩ rfl rfl hl.1 rfl (lv_room (Nat.le_of_ble_eq_true rfl)) dX8_functionAt_38 ⟨Nat.zero_le _, Nat.zero_le _⟩
          refine zc_i (ws' := [(A_w, .inr (1, [.ref A_w_characters, .int w_count])), (A_w_characters, .inl (cC, w_N, .inl w_characters))]) hrun hP hD hS hFc [0, 1] rfl (by decide) rfl rfl (fun H10 locs hP hD hS => ?_)
          refine lv_aload_n hx hb dX8_functionAt_41 rfl (lv_at hl 3 rfl) ?_
          refine lv_iload hx hb dX8_functionAt_42 (lv_at hl 5 rfl) ?_
          obtain ⟨g11, hM⟩ := z_g hM
          obtain ⟨hPc, hDc, hFc⟩ := zcut (wc := []) hP hD hS hA [] rfl rfl (by decide)
          refine zc_i (ws' := [(A_w, .inr (1, [.ref A_w_characters, .int w_count])), (A_w_characters, .inl (cC, w_N, .inl w_characters))]) (va_runV (As := [.int x5]) (rest := [.int q9]) ⟨hx, hb, hml, hown, hts⟩ (ct_scharAt l D cI cJ cC adK adV H10.size x3 x5 g11) (cwV 1 hts gX8_functionAt_J0_charAt_5068e rfl rfl rfl (by decide +kernel) ⟨Nat.le_of_ble_eq_true rfl, Nat.le_of_ble_eq_true rfl⟩) ⟨zblind, zrecvS hX hS (Nat.lt_of_not_le (fun h => g11 (Or.inl h))), zpre hX hS hFc hPc hK hDc⟩ rfl rfl hl.1 rfl (lv_room (Nat.le_of_ble_eq_true rfl)) dX8_functionAt_44 ⟨Nat.zero_le _, Nat.zero_le _⟩) hP hD hS hFc [] rfl (by decide) rfl rfl (fun H12 locs hP hD hS => ?_)
          refine lv_icmp_ne (tgt := 54) hx hb dX8_functionAt_47 (by decide) (fun c13 => ?_) (fun c13 => ?_)
          · have hM := z_f c13 hM
            exact B_54_2 k_2_0 hk_2_0 (fn_Tokens_functionAt_L19 w_N w_count w_characters k_2_0 n) ih x1 x2 x3 x5 _ _ ls hP hD hS (lv_sub hl [0, 1, 2, 3, 5] rfl) hM
          · have hM := z_t c13 hM
            refine lv_iconst (v := 1) hx hb dX8_functionAt_50 (by decide) ?_
            refine lv_goto (tgt := 55) hx hb dX8_functionAt_51 (by decide) ?_
            exact B_55_3 k_2_0 hk_2_0 (fn_Tokens_functionAt_L19 w_N w_count w_characters k_2_0 n) ih x1 x2 x3 x5 1 _ _ ls hP hD hS (lv_sub hl [0, 1, 2, 3, 5] rfl) hM
  have L_2_0 : ∀ (n : Nat) (x1 : Int32) (x2 : Int32) (H : Heap) (locs : List Loc) (ls : Array Slot), va_P D vwCl [(A_w, .inr (1, [.ref A_w_characters, .int w_count])), (A_w_characters, .inl (cC, w_N, .inl w_characters))] H → va_D A [(A_w, .inr (1, [.ref A_w_characters, .int w_count])), (A_w_characters, .inl (cC, w_N, .inl w_characters))] → va_S A s.heap H locs → lv_has ls 6 [(0, .ref A_w), (1, .int x1), (2, .int x2)] → fn_Tokens_functionAt_L2 w_N w_count w_characters n x1 x2 = some rs → W p l e (headSpec wsX8_functionAt ({ frames := 4, cells := 0, slots := 0, locals := 85 } : Room)).room s m args below meth c H locs 0 0 (MQ below (zQi D cI cJ cC rs [(A_w, .inr (1, [.ref A_w_characters, .int w_count])), (A_w_characters, .inl (cC, w_N, .inl w_characters))] A) args s 0 0 A) (F0 m 2 ls []) := by
    intro  n
    induction n with
    | zero => intro x1 x2 H locs ls _ _ _ _ hM; exact z_n hM
    | succ n ih =>
      intro x1 x2 H locs ls hP hD hS hl hM
      refine lv_iload_n hx hb dX8_functionAt_2 rfl (lv_at hl 2 rfl) ?_
      refine lv_bipush (v := 6) hx hb dX8_functionAt_3 (by decide) ?_
      refine lv_icmp_gt (tgt := 76) hx hb dX8_functionAt_5 (by decide) (fun c1 => ?_) (fun c1 => ?_)
      · have hM := z_t c1 hM
        refine lv_iconst (v := 0) hx hb dX8_functionAt_76 (by decide) ?_
        have hM := Option.some.inj hM
        subst hM
        exact W.iret (v := 0) hx hb hr (fun t ht hW => ⟨⟨_, (), rfl, rfl, ⟨by rw [ht]; exact hP, va_K.moved hW.alike hK, hD⟩⟩, hS.F ht⟩) hS.2.2 dX8_functionAt_77
      · have hM := z_f c1 hM
        refine lv_iload_n hx hb dX8_functionAt_8 rfl (lv_at hl 2 rfl) ?_
        obtain ⟨hPc, hDc, hFc⟩ := zcut (wc := []) hP hD hS hA [] rfl rfl (by decide)
        have hrun : va_Run p l e (headSpec wsX8_functionAt ({ frames := 4, cells := 0, slots := 0, locals := 85 } : Room)).room s m args below meth c H locs 0 0 _ _ (F0 m 9 ls _) _ (zQr D cI cJ cC _ [] (va_A [] H.size) _) (va_A [] H.size) := va_runSN (As := [.int x2]) (rest := []) ⟨hx, hb, hml, hown, hts⟩ (ct_Parser_symbolOf l D cI cJ cC adK adV H.size x2) ⟨va_cnB 1 hts gX8_functionAt_X11_symbolOf_n49 rfl rfl rfl (hX.1 (RX8, 49, yX11_symbolOf, RX11) (by decide +kernel)) hw0 (by decide +kernel) ⟨Nat.le_of_ble_eq_true rfl, Nat.le_of_ble_eq_true rfl⟩, hw1, trivial⟩ ⟨zblind, zpre hX hS hFc hPc hK hDc⟩ rfl rfl hl.1 rfl (lv_room (Nat.le_of_ble_eq_true rfl)) dX8_functionAt_9 ⟨Nat.zero_le _, Nat.zero_le _⟩
        refine zc_r (ws' := [(A_w, .inr (1, [.ref A_w_characters, .int w_count])), (A_w_characters, .inl (cC, w_N, .inl w_characters))]) hrun hP hD hS hFc [] rfl (by decide) rfl rfl (fun H3 locs hP hD hS => ?_)
        refine lv_astore_n (lv' := [(3, .ref (adK (fn_Parser_symbolOf x2))), (0, .ref A_w), (1, .int x1), (2, .int x2)]) hx hb dX8_functionAt_12 rfl hl (by decide) rfl (fun ls hl => ?_)
        refine lv_iconst (v := 1) hx hb dX8_functionAt_13 (by decide) ?_
        refine lv_istore (lv' := [(4, .int 1), (3, .ref (adK (fn_Parser_symbolOf x2))), (0, .ref A_w), (1, .int x1), (2, .int x2)]) hx hb dX8_functionAt_14 hl (by decide) rfl (fun ls hl => ?_)
        refine lv_iconst (v := 0) hx hb dX8_functionAt_16 (by decide) ?_
        refine lv_istore (lv' := [(5, .int 0), (4, .int 1), (3, .ref (adK (fn_Parser_symbolOf x2))), (0, .ref A_w), (1, .int x1), (2, .int x2)]) hx hb dX8_functionAt_17 hl (by decide) rfl (fun ls hl => ?_)
        exact L_19_1 (fn_Tokens_functionAt_L2 w_N w_count w_characters n) ih zFU x1 x2 (fn_Parser_symbolOf x2) 1 0 _ _ ls hP hD hS (lv_sub hl [3, 4, 5, 2, 1, 0] rfl) hM
  refine lv_iconst (v := 3) hx hb dX8_functionAt_0 (by decide) ?_
  refine lv_istore_n (lv' := [(2, .int 3), (0, .ref A_w), (1, .int x1)]) hx hb dX8_functionAt_1 rfl hl (by decide) rfl (fun ls hl => ?_)
  exact L_2_0  zFU x1 3 _ _ ls hP hD hS (lv_sub hl [1, 2, 0] rfl) hM
def fn_Tokens_kindOfPair_b15 (x0 : Int32) (x1 : Int32) : Int32 := (if x1 = 61 then (if x0 = 33 then 19 else (if x0 = 60 then 17 else (if x0 = 62 then 18 else 0))) else 0)
def fn_Tokens_kindOfPair (x0 : Int32) (x1 : Int32) : Int32 := (if x0 = 46 then (if x1 = 46 then 21 else fn_Tokens_kindOfPair_b15 x0 x1) else fn_Tokens_kindOfPair_b15 x0 x1)
set_option maxHeartbeats 40000000 in
set_option maxRecDepth 100000 in
theorem ct_Tokens_kindOfPair (l : Launch) (D : va_G) (cI cJ cC : ClassId) (adK adV : Nat → Nat) (sz : Nat) (x0 : Int32) (x1 : Int32) : Met l yX8_kindOfPair wsX8_kindOfPair ({ frames := 0, cells := 0, slots := 0, locals := 0 } : Room) (zP D cI cJ cC adK adV [.int x0, .int x1] sz []) (zQi D cI cJ cC (fn_Tokens_kindOfPair x0 x1) [] (va_A [] sz)) 0 0 (va_A [] sz) := by
  obtain ⟨rs, hM⟩ : ∃ rs, fn_Tokens_kindOfPair x0 x1 = rs := ⟨_, rfl⟩
  rw [hM]
  refine Met.ofW (cc := cX8_kindOfPair) (maxL := 2) (ret := (some .int)) (by decide) rfl ?_
  intro p e s m args below meth c s₁ B hml hv0
  obtain ⟨hargs, hsz, hP, hK, hD0, hX⟩ := hv0
  have hx := B.exec
  have hb := B.bytes
  have hr := B.returns
  have hts := atoms_spec (ws := wsX8_kindOfPair) B.pre
  have hown : s.vm.findClass RX8 = some m.cls := findClass_of_methodNamed B.named
  have hlocks := B.notSynchronized
  subst hsz
  have hD := hD0.self (sz := s.heap.size)
  generalize hAe : va_A [] s.heap.size = A at hD hX ⊢
  have hA : ∀ q : Nat, s.heap.size ≤ q → A q := fun q h => by rw [← hAe]; exact Or.inr h
  have hS : va_S A s.heap s.heap [] := va_S.rf
  have hl := lv_entry ([.int x0, .int x1]) (n := 2) (Nat.le_of_ble_eq_true rfl)
  rw [hargs, lg_entry_eq, ← hargs]
  generalize (lg_sl ([.int x0, .int x1]) ++ List.replicate (2 - (lg_sl ([.int x0, .int x1])).length) Slot.unset).toArray = ls at hl ⊢
  have hl : lv_has ls 2 [(0, .int x0), (1, .int x1)] := hl
  have B_15_0 : ∀ (x0 : Int32) (x1 : Int32) (H : Heap) (locs : List Loc) (ls : Array Slot), va_P D vwCl [] H → va_D A [] → va_S A s.heap H locs → lv_has ls 2 [(0, .int x0), (1, .int x1)] → fn_Tokens_kindOfPair_b15  x0 x1 = rs → W p l e (headSpec wsX8_kindOfPair ({ frames := 0, cells := 0, slots := 0, locals := 0 } : Room)).room s m args below meth c H locs 0 0 (MQ below (zQi D cI cJ cC rs [] A) args s 0 0 A) (F0 m 15 ls []) := by
    intro  x0 x1 H locs ls hP hD hS hl hM
    refine lv_iload_n hx hb dX8_kindOfPair_15 rfl (lv_at hl 1 rfl) ?_
    refine lv_bipush (v := 61) hx hb dX8_kindOfPair_16 (by decide) ?_
    refine lv_icmp_eq (tgt := 23) hx hb dX8_kindOfPair_18 (by decide) (fun c2 => ?_) (fun c2 => ?_)
    · have hM := z_t c2 hM
      refine lv_iload_n hx hb dX8_kindOfPair_23 rfl (lv_at hl 0 rfl) ?_
      by_cases c3 : x0 = 33
      · have hM := z_t c3 hM
        refine lv_lookup (tgt := 66) (off := 42) hx hb dX8_kindOfPair_24 (by decide +kernel) (by rw [c3]; decide +kernel) (by decide) ?_
        refine lv_bipush (v := 19) hx hb dX8_kindOfPair_66 (by decide) ?_
        have hM := hM
        subst hM
        exact W.iret (v := 19) hx hb hr (fun t ht hW => ⟨⟨_, (), rfl, rfl, ⟨by rw [ht]; exact hP, va_K.moved hW.alike hK, hD⟩⟩, hS.F ht⟩) hS.2.2 dX8_kindOfPair_68
      · have hM := z_f c3 hM
        by_cases c4 : x0 = 60
        · have hM := z_t c4 hM
          refine lv_lookup (tgt := 60) (off := 36) hx hb dX8_kindOfPair_24 (by decide +kernel) (by rw [c4]; decide +kernel) (by decide) ?_
          refine lv_bipush (v := 17) hx hb dX8_kindOfPair_60 (by decide) ?_
          have hM := hM
          subst hM
          exact W.iret (v := 17) hx hb hr (fun t ht hW => ⟨⟨_, (), rfl, rfl, ⟨by rw [ht]; exact hP, va_K.moved hW.alike hK, hD⟩⟩, hS.F ht⟩) hS.2.2 dX8_kindOfPair_62
        · have hM := z_f c4 hM
          by_cases c5 : x0 = 62
          · have hM := z_t c5 hM
            refine lv_lookup (tgt := 63) (off := 39) hx hb dX8_kindOfPair_24 (by decide +kernel) (by rw [c5]; decide +kernel) (by decide) ?_
            refine lv_bipush (v := 18) hx hb dX8_kindOfPair_63 (by decide) ?_
            have hM := hM
            subst hM
            exact W.iret (v := 18) hx hb hr (fun t ht hW => ⟨⟨_, (), rfl, rfl, ⟨by rw [ht]; exact hP, va_K.moved hW.alike hK, hD⟩⟩, hS.F ht⟩) hS.2.2 dX8_kindOfPair_65
          · have hM := z_f c5 hM
            refine lv_lookup (tgt := 69) (off := 45) hx hb dX8_kindOfPair_24 (by decide +kernel) ((lv_osw c3 rfl).trans ((lv_osw c4 rfl).trans ((lv_osw c5 rfl).trans rfl))) (by decide) ?_
            refine lv_iconst (v := 0) hx hb dX8_kindOfPair_69 (by decide) ?_
            have hM := hM
            subst hM
            exact W.iret (v := 0) hx hb hr (fun t ht hW => ⟨⟨_, (), rfl, rfl, ⟨by rw [ht]; exact hP, va_K.moved hW.alike hK, hD⟩⟩, hS.F ht⟩) hS.2.2 dX8_kindOfPair_70
    · have hM := z_f c2 hM
      refine lv_iconst (v := 0) hx hb dX8_kindOfPair_21 (by decide) ?_
      have hM := hM
      subst hM
      exact W.iret (v := 0) hx hb hr (fun t ht hW => ⟨⟨_, (), rfl, rfl, ⟨by rw [ht]; exact hP, va_K.moved hW.alike hK, hD⟩⟩, hS.F ht⟩) hS.2.2 dX8_kindOfPair_22
  refine lv_iload_n hx hb dX8_kindOfPair_0 rfl (lv_at hl 0 rfl) ?_
  refine lv_bipush (v := 46) hx hb dX8_kindOfPair_1 (by decide) ?_
  refine lv_icmp_ne (tgt := 15) hx hb dX8_kindOfPair_3 (by decide) (fun c1 => ?_) (fun c1 => ?_)
  · have hM := z_f c1 hM
    exact B_15_0  x0 x1 _ _ ls hP hD hS (lv_sub hl [0, 1] rfl) hM
  · have hM := z_t c1 hM
    refine lv_iload_n hx hb dX8_kindOfPair_6 rfl (lv_at hl 1 rfl) ?_
    refine lv_bipush (v := 46) hx hb dX8_kindOfPair_7 (by decide) ?_
    refine lv_icmp_ne (tgt := 15) hx hb dX8_kindOfPair_9 (by decide) (fun c6 => ?_) (fun c6 => ?_)
    · have hM := z_f c6 hM
      exact B_15_0  x0 x1 _ _ ls hP hD hS (lv_sub hl [0, 1] rfl) hM
    · have hM := z_t c6 hM
      refine lv_bipush (v := 21) hx hb dX8_kindOfPair_12 (by decide) ?_
      have hM := hM
      subst hM
      exact W.iret (v := 21) hx hb hr (fun t ht hW => ⟨⟨_, (), rfl, rfl, ⟨by rw [ht]; exact hP, va_K.moved hW.alike hK, hD⟩⟩, hS.F ht⟩) hS.2.2 dX8_kindOfPair_14
def fn_Tokens_kindOfSign (x0 : Int32) : Int32 := (if x0 = 39 then 24 else (if x0 = 40 then 22 else (if x0 = 41 then 23 else (if x0 = 42 then 9 else (if x0 = 43 then 7 else (if x0 = 45 then 8 else (if x0 = 47 then 10 else (if x0 = 58 then 20 else (if x0 = 60 then 15 else (if x0 = 61 then 14 else (if x0 = 62 then 16 else (if x0 = 94 then 11 else 0))))))))))))
set_option maxHeartbeats 40000000 in
set_option maxRecDepth 100000 in
theorem ct_Tokens_kindOfSign (l : Launch) (D : va_G) (cI cJ cC : ClassId) (adK adV : Nat → Nat) (sz : Nat) (x0 : Int32) : Met l yX8_kindOfSign wsX8_kindOfSign ({ frames := 0, cells := 0, slots := 0, locals := 0 } : Room) (zP D cI cJ cC adK adV [.int x0] sz []) (zQi D cI cJ cC (fn_Tokens_kindOfSign x0) [] (va_A [] sz)) 0 0 (va_A [] sz) := by
  obtain ⟨rs, hM⟩ : ∃ rs, fn_Tokens_kindOfSign x0 = rs := ⟨_, rfl⟩
  rw [hM]
  refine Met.ofW (cc := cX8_kindOfSign) (maxL := 1) (ret := (some .int)) (by decide) rfl ?_
  intro p e s m args below meth c s₁ B hml hv0
  obtain ⟨hargs, hsz, hP, hK, hD0, hX⟩ := hv0
  have hx := B.exec
  have hb := B.bytes
  have hr := B.returns
  have hts := atoms_spec (ws := wsX8_kindOfSign) B.pre
  have hown : s.vm.findClass RX8 = some m.cls := findClass_of_methodNamed B.named
  have hlocks := B.notSynchronized
  subst hsz
  have hD := hD0.self (sz := s.heap.size)
  generalize hAe : va_A [] s.heap.size = A at hD hX ⊢
  have hA : ∀ q : Nat, s.heap.size ≤ q → A q := fun q h => by rw [← hAe]; exact Or.inr h
  have hS : va_S A s.heap s.heap [] := va_S.rf
  have hl := lv_entry ([.int x0]) (n := 1) (Nat.le_of_ble_eq_true rfl)
  rw [hargs, lg_entry_eq, ← hargs]
  generalize (lg_sl ([.int x0]) ++ List.replicate (1 - (lg_sl ([.int x0])).length) Slot.unset).toArray = ls at hl ⊢
  have hl : lv_has ls 1 [(0, .int x0)] := hl
  refine lv_iload_n hx hb dX8_kindOfSign_0 rfl (lv_at hl 0 rfl) ?_
  by_cases c1 : x0 = 39
  · have hM := z_t c1 hM
    refine lv_lookup (tgt := 108) (off := 107) hx hb dX8_kindOfSign_1 (by decide +kernel) (by rw [c1]; decide +kernel) (by decide) ?_
    refine lv_bipush (v := 24) hx hb dX8_kindOfSign_108 (by decide) ?_
    have hM := hM
    subst hM
    exact W.iret (v := 24) hx hb hr (fun t ht hW => ⟨⟨_, (), rfl, rfl, ⟨by rw [ht]; exact hP, va_K.moved hW.alike hK, hD⟩⟩, hS.F ht⟩) hS.2.2 dX8_kindOfSign_110
  · have hM := z_f c1 hM
    by_cases c2 : x0 = 40
    · have hM := z_t c2 hM
      refine lv_lookup (tgt := 126) (off := 125) hx hb dX8_kindOfSign_1 (by decide +kernel) (by rw [c2]; decide +kernel) (by decide) ?_
      refine lv_bipush (v := 22) hx hb dX8_kindOfSign_126 (by decide) ?_
      have hM := hM
      subst hM
      exact W.iret (v := 22) hx hb hr (fun t ht hW => ⟨⟨_, (), rfl, rfl, ⟨by rw [ht]; exact hP, va_K.moved hW.alike hK, hD⟩⟩, hS.F ht⟩) hS.2.2 dX8_kindOfSign_128
    · have hM := z_f c2 hM
      by_cases c3 : x0 = 41
      · have hM := z_t c3 hM
        refine lv_lookup (tgt := 129) (off := 128) hx hb dX8_kindOfSign_1 (by decide +kernel) (by rw [c3]; decide +kernel) (by decide) ?_
        refine lv_bipush (v := 23) hx hb dX8_kindOfSign_129 (by decide) ?_
        have hM := hM
        subst hM
        exact W.iret (v := 23) hx hb hr (fun t ht hW => ⟨⟨_, (), rfl, rfl, ⟨by rw [ht]; exact hP, va_K.moved hW.alike hK, hD⟩⟩, hS.F ht⟩) hS.2.2 dX8_kindOfSign_131
      · have hM := z_f c3 hM
        by_cases c4 : x0 = 42
        · have hM := z_t c4 hM
          refine lv_lookup (tgt := 117) (off := 116) hx hb dX8_kindOfSign_1 (by decide +kernel) (by rw [c4]; decide +kernel) (by decide) ?_
          refine lv_bipush (v := 9) hx hb dX8_kindOfSign_117 (by decide) ?_
          have hM := hM
          subst hM
          exact W.iret (v := 9) hx hb hr (fun t ht hW => ⟨⟨_, (), rfl, rfl, ⟨by rw [ht]; exact hP, va_K.moved hW.alike hK, hD⟩⟩, hS.F ht⟩) hS.2.2 dX8_kindOfSign_119
        · have hM := z_f c4 hM
          by_cases c5 : x0 = 43
          · have hM := z_t c5 hM
            refine lv_lookup (tgt := 111) (off := 110) hx hb dX8_kindOfSign_1 (by decide +kernel) (by rw [c5]; decide +kernel) (by decide) ?_
            refine lv_bipush (v := 7) hx hb dX8_kindOfSign_111 (by decide) ?_
            have hM := hM
            subst hM
            exact W.iret (v := 7) hx hb hr (fun t ht hW => ⟨⟨_, (), rfl, rfl, ⟨by rw [ht]; exact hP, va_K.moved hW.alike hK, hD⟩⟩, hS.F ht⟩) hS.2.2 dX8_kindOfSign_113
          · have hM := z_f c5 hM
            by_cases c6 : x0 = 45
            · have hM := z_t c6 hM
              refine lv_lookup (tgt := 114) (off := 113) hx hb dX8_kindOfSign_1 (by decide +kernel) (by rw [c6]; decide +kernel) (by decide) ?_
              refine lv_bipush (v := 8) hx hb dX8_kindOfSign_114 (by decide) ?_
              have hM := hM
              subst hM
              exact W.iret (v := 8) hx hb hr (fun t ht hW => ⟨⟨_, (), rfl, rfl, ⟨by rw [ht]; exact hP, va_K.moved hW.alike hK, hD⟩⟩, hS.F ht⟩) hS.2.2 dX8_kindOfSign_116
            · have hM := z_f c6 hM
              by_cases c7 : x0 = 47
              · have hM := z_t c7 hM
                refine lv_lookup (tgt := 120) (off := 119) hx hb dX8_kindOfSign_1 (by decide +kernel) (by rw [c7]; decide +kernel) (by decide) ?_
                refine lv_bipush (v := 10) hx hb dX8_kindOfSign_120 (by decide) ?_
                have hM := hM
                subst hM
                exact W.iret (v := 10) hx hb hr (fun t ht hW => ⟨⟨_, (), rfl, rfl, ⟨by rw [ht]; exact hP, va_K.moved hW.alike hK, hD⟩⟩, hS.F ht⟩) hS.2.2 dX8_kindOfSign_122
              · have hM := z_f c7 hM
                by_cases c8 : x0 = 58
                · have hM := z_t c8 hM
                  refine lv_lookup (tgt := 141) (off := 140) hx hb dX8_kindOfSign_1 (by decide +kernel) (by rw [c8]; decide +kernel) (by decide) ?_
                  refine lv_bipush (v := 20) hx hb dX8_kindOfSign_141 (by decide) ?_
                  have hM := hM
                  subst hM
                  exact W.iret (v := 20) hx hb hr (fun t ht hW => ⟨⟨_, (), rfl, rfl, ⟨by rw [ht]; exact hP, va_K.moved hW.alike hK, hD⟩⟩, hS.F ht⟩) hS.2.2 dX8_kindOfSign_143
                · have hM := z_f c8 hM
                  by_cases c9 : x0 = 60
                  · have hM := z_t c9 hM
                    refine lv_lookup (tgt := 135) (off := 134) hx hb dX8_kindOfSign_1 (by decide +kernel) (by rw [c9]; decide +kernel) (by decide) ?_
                    refine lv_bipush (v := 15) hx hb dX8_kindOfSign_135 (by decide) ?_
                    have hM := hM
                    subst hM
                    exact W.iret (v := 15) hx hb hr (fun t ht hW => ⟨⟨_, (), rfl, rfl, ⟨by rw [ht]; exact hP, va_K.moved hW.alike hK, hD⟩⟩, hS.F ht⟩) hS.2.2 dX8_kindOfSign_137
                  · have hM := z_f c9 hM
                    by_cases c10 : x0 = 61
                    · have hM := z_t c10 hM
                      refine lv_lookup (tgt := 132) (off := 131) hx hb dX8_kindOfSign_1 (by decide +kernel) (by rw [c10]; decide +kernel) (by decide) ?_
                      refine lv_bipush (v := 14) hx hb dX8_kindOfSign_132 (by decide) ?_
                      have hM := hM
                      subst hM
                      exact W.iret (v := 14) hx hb hr (fun t ht hW => ⟨⟨_, (), rfl, rfl, ⟨by rw [ht]; exact hP, va_K.moved hW.alike hK, hD⟩⟩, hS.F ht⟩) hS.2.2 dX8_kindOfSign_134
                    · have hM := z_f c10 hM
                      by_cases c11 : x0 = 62
                      · have hM := z_t c11 hM
                        refine lv_lookup (tgt := 138) (off := 137) hx hb dX8_kindOfSign_1 (by decide +kernel) (by rw [c11]; decide +kernel) (by decide) ?_
                        refine lv_bipush (v := 16) hx hb dX8_kindOfSign_138 (by decide) ?_
                        have hM := hM
                        subst hM
                        exact W.iret (v := 16) hx hb hr (fun t ht hW => ⟨⟨_, (), rfl, rfl, ⟨by rw [ht]; exact hP, va_K.moved hW.alike hK, hD⟩⟩, hS.F ht⟩) hS.2.2 dX8_kindOfSign_140
                      · have hM := z_f c11 hM
                        by_cases c12 : x0 = 94
                        · have hM := z_t c12 hM
                          refine lv_lookup (tgt := 123) (off := 122) hx hb dX8_kindOfSign_1 (by decide +kernel) (by rw [c12]; decide +kernel) (by decide) ?_
                          refine lv_bipush (v := 11) hx hb dX8_kindOfSign_123 (by decide) ?_
                          have hM := hM
                          subst hM
                          exact W.iret (v := 11) hx hb hr (fun t ht hW => ⟨⟨_, (), rfl, rfl, ⟨by rw [ht]; exact hP, va_K.moved hW.alike hK, hD⟩⟩, hS.F ht⟩) hS.2.2 dX8_kindOfSign_125
                        · have hM := z_f c12 hM
                          refine lv_lookup (tgt := 144) (off := 143) hx hb dX8_kindOfSign_1 (by decide +kernel) ((lv_osw c1 rfl).trans ((lv_osw c2 rfl).trans ((lv_osw c3 rfl).trans ((lv_osw c4 rfl).trans ((lv_osw c5 rfl).trans ((lv_osw c6 rfl).trans ((lv_osw c7 rfl).trans ((lv_osw c8 rfl).trans ((lv_osw c9 rfl).trans ((lv_osw c10 rfl).trans ((lv_osw c11 rfl).trans ((lv_osw c12 rfl).trans rfl)))))))))))) (by decide) ?_
                          refine lv_iconst (v := 0) hx hb dX8_kindOfSign_144 (by decide) ?_
                          have hM := hM
                          subst hM
                          exact W.iret (v := 0) hx hb hr (fun t ht hW => ⟨⟨_, (), rfl, rfl, ⟨by rw [ht]; exact hP, va_K.moved hW.alike hK, hD⟩⟩, hS.F ht⟩) hS.2.2 dX8_kindOfSign_145
def fn_Tokens_readToken_b78 (w_N : Nat) (w_count : Int32) (w_characters : Nat → Int32) (q_count : Int32) (q_kinds : Nat → Int32) (q_starts : Nat → Int32) (q_details : Nat → Int32) (x2 : Int32) (x3 : Int32) : Option (Int32 × Int32 × (Nat → Int32) × (Nat → Int32) × (Nat → Int32)) := ((fn_CharRow_at w_N w_count w_characters (x2 + 1)).bind fun q5 => (if (fn_Tokens_kindOfPair x3 q5) = 0 then ((fn_Tokens_add q_count q_kinds q_starts q_details (fn_Tokens_kindOfSign x3) x2 0 1).bind fun q12 => some (q12.1, q12.2.1, q12.2.2.1, q12.2.2.2.1, q12.2.2.2.2)) else ((fn_Tokens_add q_count q_kinds q_starts q_details (fn_Tokens_kindOfPair x3 q5) x2 0 2).bind fun q14 => some (q14.1, q14.2.1, q14.2.2.1, q14.2.2.2.1, q14.2.2.2.2))))
def fn_Tokens_readToken_b25 (w_N : Nat) (w_count : Int32) (w_characters : Nat → Int32) (q_count : Int32) (q_kinds : Nat → Int32) (q_starts : Nat → Int32) (q_details : Nat → Int32) (x2 : Int32) (x3 : Int32) : Option (Int32 × Int32 × (Nat → Int32) × (Nat → Int32) × (Nat → Int32)) := (if x3 < 97 then fn_Tokens_readToken_b78 w_N w_count w_characters q_count q_kinds q_starts q_details x2 x3 else (if 122 < x3 then fn_Tokens_readToken_b78 w_N w_count w_characters q_count q_kinds q_starts q_details x2 x3 else ((fn_Tokens_functionAt w_N w_count w_characters x2).bind fun q17 => (if q17 = 0 then ((fn_Tokens_add q_count q_kinds q_starts q_details 2 x2 (x3 - 97) 1).bind fun q26 => some (q26.1, q26.2.1, q26.2.2.1, q26.2.2.2.1, q26.2.2.2.2)) else (if zNs ≤ (fn_Parser_symbolOf q17) then none else ((fn_Tokens_add q_count q_kinds q_starts q_details q17 x2 0 (nI (zlen (fn_Parser_symbolOf q17)))).bind fun q24 => some (q24.1, q24.2.1, q24.2.2.1, q24.2.2.2.1, q24.2.2.2.2)))))))
def fn_Tokens_readToken (w_N : Nat) (q_count : Int32) (q_kinds : Nat → Int32) (q_starts : Nat → Int32) (q_details : Nat → Int32) (w_count : Int32) (w_characters : Nat → Int32) (x2 : Int32) : Option (Int32 × Int32 × (Nat → Int32) × (Nat → Int32) × (Nat → Int32)) := ((fn_CharRow_at w_N w_count w_characters x2).bind fun q1 => (if q1 < 48 then fn_Tokens_readToken_b25 w_N w_count w_characters q_count q_kinds q_starts q_details x2 q1 else (if 57 < q1 then fn_Tokens_readToken_b25 w_N w_count w_characters q_count q_kinds q_starts q_details x2 q1 else ((fn_Tokens_readNumber w_N q_count q_kinds q_starts q_details w_count w_characters x2).bind fun q29 => some (q29.1, q29.2.1, q29.2.2.1, q29.2.2.2.1, q29.2.2.2.2)))))
set_option maxHeartbeats 40000000 in
set_option maxRecDepth 100000 in
theorem ct_Tokens_readToken (l : Launch) (D : va_G) (cI cJ cC : ClassId) (adK adV : Nat → Nat) (A_q A_q_kinds A_q_starts A_q_details A_w A_w_characters : Nat) (sz : Nat) (w_N : Nat) (q_count : Int32) (q_kinds : Nat → Int32) (q_starts : Nat → Int32) (q_details : Nat → Int32) (w_count : Int32) (w_characters : Nat → Int32) (x2 : Int32) {rs : Int32 × Int32 × (Nat → Int32) × (Nat → Int32) × (Nat → Int32)} (hM : fn_Tokens_readToken w_N q_count q_kinds q_starts q_details w_count w_characters x2 = some rs) : Met l yX8_readToken wsX8_readToken ({ frames := 5, cells := 0, slots := 0, locals := 110 } : Room) (zP D cI cJ cC adK adV [.ref A_q, .ref A_w, .int x2] sz [(A_q, .inr (8, [.ref A_q_kinds, .ref A_q_starts, .ref A_q_details, .int q_count])), (A_q_kinds, .inl (cI, 80, .inl q_kinds)), (A_q_starts, .inl (cI, 80, .inl q_starts)), (A_q_details, .inl (cI, 80, .inl q_details)), (A_w, .inr (1, [.ref A_w_characters, .int w_count])), (A_w_characters, .inl (cC, w_N, .inl w_characters))]) (zQi D cI cJ cC rs.1 [(A_q, .inr (8, [.ref A_q_kinds, .ref A_q_starts, .ref A_q_details, .int rs.2.1])), (A_q_kinds, .inl (cI, 80, .inl rs.2.2.1)), (A_q_starts, .inl (cI, 80, .inl rs.2.2.2.1)), (A_q_details, .inl (cI, 80, .inl rs.2.2.2.2)), (A_w, .inr (1, [.ref A_w_characters, .int w_count])), (A_w_characters, .inl (cC, w_N, .inl w_characters))] (va_A [(A_q, .inr (8, [.ref A_q_kinds, .ref A_q_starts, .ref A_q_details, .int q_count])), (A_q_kinds, .inl (cI, 80, .inl q_kinds)), (A_q_starts, .inl (cI, 80, .inl q_starts)), (A_q_details, .inl (cI, 80, .inl q_details)), (A_w, .inr (1, [.ref A_w_characters, .int w_count])), (A_w_characters, .inl (cC, w_N, .inl w_characters))] sz)) 0 0 (va_A [(A_q, .inr (8, [.ref A_q_kinds, .ref A_q_starts, .ref A_q_details, .int q_count])), (A_q_kinds, .inl (cI, 80, .inl q_kinds)), (A_q_starts, .inl (cI, 80, .inl q_starts)), (A_q_details, .inl (cI, 80, .inl q_details)), (A_w, .inr (1, [.ref A_w_characters, .int w_count])), (A_w_characters, .inl (cC, w_N, .inl w_characters))] sz) := by
  refine Met.ofW (cc := cX8_readToken) (maxL := 5) (ret := (some .int)) (by decide) rfl ?_
  intro p e s m args below meth c s₁ B hml hv0
  obtain ⟨hargs, hsz, hP, hK, hD0, hX⟩ := hv0
  have hx := B.exec
  have hb := B.bytes
  have hr := B.returns
  have hts := atoms_spec (ws := wsX8_readToken) B.pre
  have hown : s.vm.findClass RX8 = some m.cls := findClass_of_methodNamed B.named
  have hlocks := B.notSynchronized
  subst hsz
  have hD := hD0.self (sz := s.heap.size)
  generalize hAe : va_A [(A_q, .inr (8, [.ref A_q_kinds, .ref A_q_starts, .ref A_q_details, .int q_count])), (A_q_kinds, .inl (cI, 80, .inl q_kinds)), (A_q_starts, .inl (cI, 80, .inl q_starts)), (A_q_details, .inl (cI, 80, .inl q_details)), (A_w, .inr (1, [.ref A_w_characters, .int w_count])), (A_w_characters, .inl (cC, w_N, .inl w_characters))] s.heap.size = A at hD hX ⊢
  have hA : ∀ q : Nat, s.heap.size ≤ q → A q := fun q h => by rw [← hAe]; exact Or.inr h
  have hS : va_S A s.heap s.heap [] := va_S.rf
  have hl := lv_entry ([.ref A_q, .ref A_w, .int x2]) (n := 5) (Nat.le_of_ble_eq_true rfl)
  rw [hargs, lg_entry_eq, ← hargs]
  generalize (lg_sl ([.ref A_q, .ref A_w, .int x2]) ++ List.replicate (5 - (lg_sl ([.ref A_q, .ref A_w, .int x2])).length) Slot.unset).toArray = ls at hl ⊢
  have hl : lv_has ls 5 [(0, .ref A_q), (1, .ref A_w), (2, .int x2)] := hl
  have hw0 := hts (.initialized RX11) (by decide +kernel)
  have hw1 := hts (.static yX11_symbolOf) (by decide +kernel)
  have B_78_1 : ∀ (q_count : Int32) (q_kinds : Nat → Int32) (q_starts : Nat → Int32) (q_details : Nat → Int32) (x2 : Int32) (x3 : Int32) (H : Heap) (locs : List Loc) (ls : Array Slot), va_P D vwCl [(A_q, .inr (8, [.ref A_q_kinds, .ref A_q_starts, .ref A_q_details, .int q_count])), (A_q_kinds, .inl (cI, 80, .inl q_kinds)), (A_q_starts, .inl (cI, 80, .inl q_starts)), (A_q_details, .inl (cI, 80, .inl q_details)), (A_w, .inr (1, [.ref A_w_characters, .int w_count])), (A_w_characters, .inl (cC, w_N, .inl w_characters))] H → va_D A [(A_q, .inr (8, [.ref A_q_kinds, .ref A_q_starts, .ref A_q_details, .int q_count])), (A_q_kinds, .inl (cI, 80, .inl q_kinds)), (A_q_starts, .inl (cI, 80, .inl q_starts)), (A_q_details, .inl (cI, 80, .inl q_details)), (A_w, .inr (1, [.ref A_w_characters, .int w_count])), (A_w_characters, .inl (cC, w_N, .inl w_characters))] → va_S A s.heap H locs → lv_has ls 5 [(0, .ref A_q), (1, .ref A_w), (2, .int x2), (3, .int x3)] → fn_Tokens_readToken_b78 w_N w_count w_characters q_count q_kinds q_starts q_details x2 x3 = some rs → W p l e (headSpec wsX8_readToken ({ frames := 5, cells := 0, slots := 0, locals := 110 } : Room)).room s m args below meth c H locs 0 0 (MQ below (zQi D cI cJ cC rs.1 [(A_q, .inr (8, [.ref A_q_kinds, .ref A_q_starts, .ref A_q_details, .int rs.2.1])), (A_q_kinds, .inl (cI, 80, .inl rs.2.2.1)), (A_q_starts, .inl (cI, 80, .inl rs.2.2.2.1)), (A_q_details, .inl (cI, 80, .inl rs.2.2.2.2)), (A_w, .inr (1, [.ref A_w_characters, .int w_count])), (A_w_characters, .inl (cC, w_N, .inl w_characters))] A) args s 0 0 A) (F0 m 78 ls []) := by
    intro  q_count q_kinds q_starts q_details x2 x3 H locs ls hP hD hS hl hM
    refine lv_iload_n hx hb dX8_readToken_78 rfl (lv_at hl 3 rfl) ?_
    refine lv_aload_n hx hb dX8_readToken_79 rfl (lv_at hl 1 rfl) ?_
    refine lv_iload_n hx hb dX8_readToken_80 rfl (lv_at hl 2 rfl) ?_
    refine lv_iconst (v := 1) hx hb dX8_readToken_81 (by decide) ?_
    refine lv_iadd hx hb dX8_readToken_82 ?_
    obtain ⟨q5, hq5, hM⟩ := z_b hM
    obtain ⟨hPc, hDc, hFc⟩ := zcut (wc := [(A_w, .inr (1, [.ref A_w_characters, .int w_count])), (A_w_characters, .inl (cC, w_N, .inl w_characters))]) hP hD hS hA [4, 5] rfl rfl (by decide)
    have hrun : va_Run p l e (headSpec wsX8_readToken ({ frames := 5, cells := 0, slots := 0, locals := 110 } : Room)).room s m args below meth c H locs 0 0 _ _ (F0 m 83 ls _) _ (zQi D cI cJ cC q5 [(A_w, .inr (1, [.ref A_w_characters, .int w_count])), (A_w_characters, .inl (cC, w_N, .inl w_characters))] (va_A [(A_w, .inr (1, [.ref A_w_characters, .int w_count])), (A_w_characters, .inl (cC, w_N, .inl w_characters))] H.size) _) (va_A [(A_w, .inr (1, [.ref A_w_characters, .int w_count])), (A_w_characters, .inl (cC, w_N, .inl w_characters))] H.size) := va_runV (As := [.int (x2 + 1)]) (rest := [.int x3]) ⟨hx, hb, hml, hown, hts⟩ (ct_CharRow_at l D cI cJ cC adK adV A_w A_w_characters H.size w_N w_count w_characters (x2 + 1) hq5) (cwV 1 hts gX8_readToken_X1_at rfl rfl rfl (by decide +kernel) ⟨Nat.le_of_ble_eq_true rfl, Nat.le_of_ble_eq_true rfl⟩) ⟨zblind, va_recv hK hP (ci := 1) (q0 := 4) rfl rfl, zpre hX hS hFc hPc hK hDc⟩ rfl rfl hl.1 rfl (lv_room (Nat.le_of_ble_eq_true rfl)) dX8_readToken_83 ⟨Nat.zero_le _, Nat.zero_le _⟩
    refine zc_i (ws' := [(A_q, .inr (8, [.ref A_q_kinds, .ref A_q_starts, .ref A_q_details, .int q_count])), (A_q_kinds, .inl (cI, 80, .inl q_kinds)), (A_q_starts, .inl (cI, 80, .inl q_starts)), (A_q_details, .inl (cI, 80, .inl q_details)), (A_w, .inr (1, [.ref A_w_characters, .int w_count])), (A_w_characters, .inl (cC, w_N, .inl w_characters))]) hrun hP hD hS hFc [4, 5] rfl (by decide) rfl rfl (fun H6 locs hP hD hS => ?_)
    obtain ⟨hPc, hDc, hFc⟩ := zcut (wc := []) hP hD hS hA [] rfl rfl (by decide)
    have hrun : va_Run p l e (headSpec wsX8_readToken ({ frames := 5, cells := 0, slots := 0, locals := 110 } : Room)).room s m args below meth c H6 locs 0 0 _ _ (F0 m 86 ls _) _ (zQi D cI cJ cC (fn_Tokens_kindOfPair x3 q5) [] (va_A [] H6.size) _) (va_A [] H6.size) := va_runS (As := [.int x3, .int q5]) (rest := []) ⟨hx, hb, hml, hown, hts⟩ (ct_Tokens_kindOfPair l D cI cJ cC adK adV H6.size x3 q5) (va_cwS 2 hts gX8_readToken_X8_kindOfPair rfl rfl rfl (by decide +kernel) ⟨Nat.le_of_ble_eq_true rfl, Nat.le_of_ble_eq_true rfl⟩) ⟨zblind, zpre hX hS hFc hPc hK hDc⟩ rfl rfl hl.1 rfl (lv_room (Nat.le_of_ble_eq_true rfl)) dX8_readToken_86 ⟨Nat.zero_le _, Nat.zero_le _⟩
    refine zc_i (ws' := [(A_q, .inr (8, [.ref A_q_kinds, .ref A_q_starts, .ref A_q_details, .int q_count])), (A_q_kinds, .inl (cI, 80, .inl q_kinds)), (A_q_starts, .inl (cI, 80, .inl q_starts)), (A_q_details, .inl (cI, 80, .inl q_details)), (A_w, .inr (1, [.ref A_w_characters, .int w_count])), (A_w_characters, .inl (cC, w_N, .inl w_characters))]) hrun hP hD hS hFc [] rfl (by decide) rfl rfl (fun H8 locs hP hD hS => ?_)
    refine lv_istore (lv' := [(4, .int (fn_Tokens_kindOfPair x3 q5)), (0, .ref A_q), (1, .ref A_w), (2, .int x2), (3, .int x3)]) hx hb dX8_readToken_89 hl (by decide) rfl (fun ls hl => ?_)
    refine lv_iload hx hb dX8_readToken_91 (lv_at hl 0 rfl) ?_
    refine lv_if_eq (tgt := 106) hx hb dX8_readToken_93 (by decide) (fun c9 => ?_) (fun c9 => ?_)
    · have hM := z_t c9 hM
      refine lv_aload_n hx hb dX8_readToken_106 rfl (lv_at hl 1 rfl) ?_
      refine lv_iload_n hx hb dX8_readToken_107 rfl (lv_at hl 4 rfl) ?_
      obtain ⟨hPc, hDc, hFc⟩ := zcut (wc := []) hP hD hS hA [] rfl rfl (by decide)
      have hrun : va_Run p l e (headSpec wsX8_readToken ({ frames := 5, cells := 0, slots := 0, locals := 110 } : Room)).room s m args below meth c H8 locs 0 0 _ _ (F0 m 108 ls _) _ (zQi D cI cJ cC (fn_Tokens_kindOfSign x3) [] (va_A [] H8.size) _) (va_A [] H8.size) := va_runS (As := [.int x3]) (rest := [.ref A_q]) ⟨hx, hb, hml, hown, hts⟩ (ct_Tokens_kindOfSign l D cI cJ cC adK adV H8.size x3) (va_cwS 1 hts gX8_readToken_X8_kindOfSign rfl rfl rfl (by decide +kernel) ⟨Nat.le_of_ble_eq_true rfl, Nat.le_of_ble_eq_true rfl⟩) ⟨zblind, zpre hX hS hFc hPc hK hDc⟩ rfl rfl hl.1 rfl (lv_room (Nat.le_of_ble_eq_true rfl)) dX8_readToken_108 ⟨Nat.zero_le _, Nat.zero_le _⟩
      refine zc_i (ws' := [(A_q, .inr (8, [.ref A_q_kinds, .ref A_q_starts, .ref A_q_details, .int q_count])), (A_q_kinds, .inl (cI, 80, .inl q_kinds)), (A_q_starts, .inl (cI, 80, .inl q_starts)), (A_q_details, .inl (cI, 80, .inl q_details)), (A_w, .inr (1, [.ref A_w_characters, .int w_count])), (A_w_characters, .inl (cC, w_N, .inl w_characters))]) hrun hP hD hS hFc [] rfl (by decide) rfl rfl (fun H11 locs hP hD hS => ?_)
      refine lv_iload_n hx hb dX8_readToken_111 rfl (lv_at hl 3 rfl) ?_
      refine lv_iconst (v := 0) hx hb dX8_readToken_112 (by decide) ?_
      refine lv_iconst (v := 1) hx hb dX8_readToken_113 (by decide) ?_
      obtain ⟨q12, hq12, hM⟩ := z_b hM
      obtain ⟨hPc, hDc, hFc⟩ := zcut (wc := [(A_q, .inr (8, [.ref A_q_kinds, .ref A_q_starts, .ref A_q_details, .int q_count])), (A_q_kinds, .inl (cI, 80, .inl q_kinds)), (A_q_starts, .inl (cI, 80, .inl q_starts)), (A_q_details, .inl (cI, 80, .inl q_details))]) hP hD hS hA [0, 1, 2, 3] rfl rfl (by decide)
      have hrun : va_Run p l e (headSpec wsX8_readToken ({ frames := 5, cells := 0, slots := 0, locals := 110 } : Room)).room s m args below meth c H11 locs 0 0 _ _ (F0 m 114 ls _) _ (zQi D cI cJ cC q12.1 [(A_q, .inr (8, [.ref A_q_kinds, .ref A_q_starts, .ref A_q_details, .int q12.2.1])), (A_q_kinds, .inl (cI, 80, .inl q12.2.2.1)), (A_q_starts, .inl (cI, 80, .inl q12.2.2.2.1)), (A_q_details, .inl (cI, 80, .inl q12.2.2.2.2))] (va_A [(A_q, .inr (8, [.ref A_q_kinds, .ref A_q_starts, .ref A_q_details, .int q_count])), (A_q_kinds, .inl (cI, 80, .inl q_kinds)), (A_q_starts, .inl (cI, 80, .inl q_starts)), (A_q_details, .inl (cI, 80, .inl q_details))] H11.size) _) (va_A [(A_q, .inr (8, [.ref A_q_kinds, .ref A_q_starts, .ref A_q_details, .int q_count])), (A_q_kinds, .inl (cI, 80, .inl q_kinds)), (A_q_starts, .inl (cI, 80, .inl q_starts)), (A_q_details, .inl (cI, 80, .inl q_details))] H11.size) := va_runV (As := [.int (fn_Tokens_kindOfSign x3), .int x2, .int 0, .int 1]) (rest := []) ⟨hx, hb, hml, hown, hts⟩ (ct_Tokens_add l D cI cJ cC adK adV A_q A_q_kinds A_q_starts A_q_details H11.size q_count q_kinds q_starts q_details (fn_Tokens_kindOfSign x3) x2 0 1 hq12) (cwV 4 hts gX8_readToken_X8_add rfl rfl rfl (by decide +kernel) ⟨Nat.le_of_ble_eq_true rfl, Nat.le_of_ble_eq_true rfl⟩) ⟨zblind, va_recv hK hP (ci := 8) (q0 := 0) rfl rfl, zpre hX hS hFc hPc hK hDc⟩ rfl rfl hl.1 rfl (lv_room (Nat.le_of_ble_eq_true rfl)) dX8_readToken_114 ⟨Nat.zero_le _, Nat.zero_le _⟩
      refine zc_i (ws' := [(A_q, .inr (8, [.ref A_q_kinds, .ref A_q_starts, .ref A_q_details, .int q12.2.1])), (A_q_kinds, .inl (cI, 80, .inl q12.2.2.1)), (A_q_starts, .inl (cI, 80, .inl q12.2.2.2.1)), (A_q_details, .inl (cI, 80, .inl q12.2.2.2.2)), (A_w, .inr (1, [.ref A_w_characters, .int w_count])), (A_w_characters, .inl (cC, w_N, .inl w_characters))]) hrun hP hD hS hFc [0, 1, 2, 3] rfl (by decide) rfl rfl (fun H13 locs hP hD hS => ?_)
      have hM := Option.some.inj hM
      subst hM
      exact W.iret (v := q12.1) hx hb hr (fun t ht hW => ⟨⟨_, (), rfl, rfl, ⟨by rw [ht]; exact hP, va_K.moved hW.alike hK, hD⟩⟩, hS.F ht⟩) hS.2.2 dX8_readToken_117
    · have hM := z_f c9 hM
      refine lv_aload_n hx hb dX8_readToken_96 rfl (lv_at hl 1 rfl) ?_
      refine lv_iload hx hb dX8_readToken_97 (lv_at hl 0 rfl) ?_
      refine lv_iload_n hx hb dX8_readToken_99 rfl (lv_at hl 3 rfl) ?_
      refine lv_iconst (v := 0) hx hb dX8_readToken_100 (by decide) ?_
      refine lv_iconst (v := 2) hx hb dX8_readToken_101 (by decide) ?_
      obtain ⟨q14, hq14, hM⟩ := z_b hM
      obtain ⟨hPc, hDc, hFc⟩ := zcut (wc := [(A_q, .inr (8, [.ref A_q_kinds, .ref A_q_starts, .ref A_q_details, .int q_count])), (A_q_kinds, .inl (cI, 80, .inl q_kinds)), (A_q_starts, .inl (cI, 80, .inl q_starts)), (A_q_details, .inl (cI, 80, .inl q_details))]) hP hD hS hA [0, 1, 2, 3] rfl rfl (by decide)
      have hrun : va_Run p l e (headSpec wsX8_readToken ({ frames := 5, cells := 0, slots := 0, locals := 110 } : Room)).room s m args below meth c H8 locs 0 0 _ _ (F0 m 102 ls _) _ (zQi D cI cJ cC q14.1 [(A_q, .inr (8, [.ref A_q_kinds, .ref A_q_starts, .ref A_q_details, .int q14.2.1])), (A_q_kinds, .inl (cI, 80, .inl q14.2.2.1)), (A_q_starts, .inl (cI, 80, .inl q14.2.2.2.1)), (A_q_details, .inl (cI, 80, .inl q14.2.2.2.2))] (va_A [(A_q, .inr (8, [.ref A_q_kinds, .ref A_q_starts, .ref A_q_details, .int q_count])), (A_q_kinds, .inl (cI, 80, .inl q_kinds)), (A_q_starts, .inl (cI, 80, .inl q_starts)), (A_q_details, .inl (cI, 80, .inl q_details))] H8.size) _) (va_A [(A_q, .inr (8, [.ref A_q_kinds, .ref A_q_starts, .ref A_q_details, .int q_count])), (A_q_kinds, .inl (cI, 80, .inl q_kinds)), (A_q_starts, .inl (cI, 80, .inl q_starts)), (A_q_details, .inl (cI, 80, .inl q_details))] H8.size) := va_runV (As := [.int (fn_Tokens_kindOfPair x3 q5), .int x2, .int 0, .int 2]) (rest := []) ⟨hx, hb, hml, hown, hts⟩ (ct_Tokens_add l D cI cJ cC adK adV A_q A_q_kinds A_q_starts A_q_details H8.size q_count q_kinds q_starts q_details (fn_Tokens_kindOfPair x3 q5) x2 0 2 hq14) (cwV 4 hts gX8_readToken_X8_add rfl rfl rfl (by decide +kernel) ⟨Nat.le_of_ble_eq_true rfl, Nat.le_of_ble_eq_true rfl⟩) ⟨zblind, va_recv hK hP (ci := 8) (q0 := 0) rfl rfl, zpre hX hS hFc hPc hK hDc⟩ rfl rfl hl.1 rfl (lv_room (Nat.le_of_ble_eq_true rfl)) dX8_readToken_102 ⟨Nat.zero_le _, Nat.zero_le _⟩
      refine zc_i (ws' := [(A_q, .inr (8, [.ref A_q_kinds, .ref A_q_starts, .ref A_q_details, .int q14.2.1])), (A_q_kinds, .inl (cI, 80, .inl q14.2.2.1)), (A_q_starts, .inl (cI, 80, .inl q14.2.2.2.1)), (A_q_details, .inl (cI, 80, .inl q14.2.2.2.2)), (A_w, .inr (1, [.ref A_w_characters, .int w_count])), (A_w_characters, .inl (cC, w_N, .inl w_characters))]) hrun hP hD hS hFc [0, 1, 2, 3] rfl (by decide) rfl rfl (fun H15 locs hP hD hS => ?_)
      have hM := Option.some.inj hM
      subst hM
      exact W.iret (v := q14.1) hx hb hr (fun t ht hW => ⟨⟨_, (), rfl, rfl, ⟨by rw [ht]; exact hP, va_K.moved hW.alike hK, hD⟩⟩, hS.F ht⟩) hS.2.2 dX8_readToken_105
  have B_25_0 : ∀ (q_count : Int32) (q_kinds : Nat → Int32) (q_starts : Nat → Int32) (q_details : Nat → Int32) (x2 : Int32) (x3 : Int32) (H : Heap) (locs : List Loc) (ls : Array Slot), va_P D vwCl [(A_q, .inr (8, [.ref A_q_kinds, .ref A_q_starts, .ref A_q_details, .int q_count])), (A_q_kinds, .inl (cI, 80, .inl q_kinds)), (A_q_starts, .inl (cI, 80, .inl q_starts)), (A_q_details, .inl (cI, 80, .inl q_details)), (A_w, .inr (1, [.ref A_w_characters, .int w_count])), (A_w_characters, .inl (cC, w_N, .inl w_characters))] H → va_D A [(A_q, .inr (8, [.ref A_q_kinds, .ref A_q_starts, .ref A_q_details, .int q_count])), (A_q_kinds, .inl (cI, 80, .inl q_kinds)), (A_q_starts, .inl (cI, 80, .inl q_starts)), (A_q_details, .inl (cI, 80, .inl q_details)), (A_w, .inr (1, [.ref A_w_characters, .int w_count])), (A_w_characters, .inl (cC, w_N, .inl w_characters))] → va_S A s.heap H locs → lv_has ls 5 [(0, .ref A_q), (1, .ref A_w), (2, .int x2), (3, .int x3)] → fn_Tokens_readToken_b25 w_N w_count w_characters q_count q_kinds q_starts q_details x2 x3 = some rs → W p l e (headSpec wsX8_readToken ({ frames := 5, cells := 0, slots := 0, locals := 110 } : Room)).room s m args below meth c H locs 0 0 (MQ below (zQi D cI cJ cC rs.1 [(A_q, .inr (8, [.ref A_q_kinds, .ref A_q_starts, .ref A_q_details, .int rs.2.1])), (A_q_kinds, .inl (cI, 80, .inl rs.2.2.1)), (A_q_starts, .inl (cI, 80, .inl rs.2.2.2.1)), (A_q_details, .inl (cI, 80, .inl rs.2.2.2.2)), (A_w, .inr (1, [.ref A_w_characters, .int w_count])), (A_w_characters, .inl (cC, w_N, .inl w_characters))] A) args s 0 0 A) (F0 m 25 ls []) := by
    intro  q_count q_kinds q_starts q_details x2 x3 H locs ls hP hD hS hl hM
    refine lv_iload_n hx hb dX8_readToken_25 rfl (lv_at hl 3 rfl) ?_
    refine lv_bipush (v := 97) hx hb dX8_readToken_26 (by decide) ?_
    refine lv_icmp_lt (tgt := 78) hx hb dX8_readToken_28 (by decide) (fun c4 => ?_) (fun c4 => ?_)
    · have hM := z_t c4 hM
      exact B_78_1  q_count q_kinds q_starts q_details x2 x3 _ _ ls hP hD hS (lv_sub hl [0, 1, 2, 3] rfl) hM
    · have hM := z_f c4 hM
      refine lv_iload_n hx hb dX8_readToken_31 rfl (lv_at hl 3 rfl) ?_
      refine lv_bipush (v := 122) hx hb dX8_readToken_32 (by decide) ?_
      refine lv_icmp_gt (tgt := 78) hx hb dX8_readToken_34 (by decide) (fun c16 => ?_) (fun c16 => ?_)
      · have hM := z_t c16 hM
        exact B_78_1  q_count q_kinds q_starts q_details x2 x3 _ _ ls hP hD hS (lv_sub hl [0, 1, 2, 3] rfl) hM
      · have hM := z_f c16 hM
        refine lv_aload_n hx hb dX8_readToken_37 rfl (lv_at hl 1 rfl) ?_
        refine lv_iload_n hx hb dX8_readToken_38 rfl (lv_at hl 2 rfl) ?_
        obtain ⟨q17, hq17, hM⟩ := z_b hM
        obtain ⟨hPc, hDc, hFc⟩ := zcut (wc := [(A_w, .inr (1, [.ref A_w_characters, .int w_count])), (A_w_characters, .inl (cC, w_N, .inl w_characters))]) hP hD hS hA [4, 5] rfl rfl (by decide)
        have hrun : va_Run p l e (headSpec wsX8_readToken ({ frames := 5, cells := 0, slots := 0, locals := 110 } : Room)).room s m args below meth c H locs 0 0 _ _ (F0 m 39 ls _) _ (zQi D cI cJ cC q17 [(A_w, .inr (1, [.ref A_w_characters, .int w_count])), (A_w_characters, .inl (cC, w_N, .inl w_characters))] (va_A [(A_w, .inr (1, [.ref A_w_characters, .int w_count])), (A_w_characters, .inl (cC, w_N, .inl w_characters))] H.size) _) (va_A [(A_w, .inr (1, [.ref A_w_characters, .int w_count])), (A_w_characters, .inl (cC, w_N, .inl w_characters))] H.size) := va_runS (As := [.ref A_w, .int x2]) (rest := []) ⟨hx, hb, hml, hown, hts⟩ (ct_Tokens_functionAt l D cI cJ cC adK adV A_w A_w_characters H.size w_N w_count w_characters x2 hq17) (va_cwS 2 hts gX8_readToken_X8_functionAt rfl rfl rfl (by decide +kernel) ⟨Nat.le_of_ble_eq_true rfl, Nat.le_of_ble_eq_true rfl⟩) ⟨zblind, zpre hX hS hFc hPc hK hDc⟩ rfl rfl hl.1 rfl (lv_room (Nat.le_of_ble_eq_true rfl)) dX8_readToken_39 ⟨Nat.zero_le _, Nat.zero_le _⟩
        refine zc_i (ws' := [(A_q, .inr (8, [.ref A_q_kinds, .ref A_q_starts, .ref A_q_details, .int q_count])), (A_q_kinds, .inl (cI, 80, .inl q_kinds)), (A_q_starts, .inl (cI, 80, .inl q_starts)), (A_q_details, .inl (cI, 80, .inl q_details)), (A_w, .inr (1, [.ref A_w_characters, .int w_count])), (A_w_characters, .inl (cC, w_N, .inl w_characters))]) hrun hP hD hS hFc [4, 5] rfl (by decide) rfl rfl (fun H18 locs hP hD hS => ?_)
        refine lv_istore (lv' := [(4, .int q17), (0, .ref A_q), (1, .ref A_w), (2, .int x2), (3, .int x3)]) hx hb dX8_readToken_42 hl (by decide) rfl (fun ls hl => ?_)
        refine lv_iload hx hb dX8_readToken_44 (lv_at hl 0 rfl) ?_
        refine lv_if_ne (tgt := 61) hx hb dX8_readToken_46 (by decide) (fun c19 => ?_) (fun c19 => ?_)
        · have hM := z_f c19 hM
          refine lv_aload_n hx hb dX8_readToken_61 rfl (lv_at hl 1 rfl) ?_
          refine lv_iload hx hb dX8_readToken_62 (lv_at hl 0 rfl) ?_
          refine lv_iload_n hx hb dX8_readToken_64 rfl (lv_at hl 3 rfl) ?_
          refine lv_iconst (v := 0) hx hb dX8_readToken_65 (by decide) ?_
          refine lv_iload hx hb dX8_readToken_66 (lv_at hl 0 rfl) ?_
          obtain ⟨hPc, hDc, hFc⟩ := zcut (wc := []) hP hD hS hA [] rfl rfl (by decide)
          have hrun : va_Run p l e (headSpec wsX8_readToken ({ frames := 5, cells := 0, slots := 0, locals := 110 } : Room)).room s m args below meth c H18 locs 0 0 _ _ (F0 m 68 ls _) _ (zQr D cI cJ cC _ [] (va_A [] H18.size) _) (va_A [] H18.size) := va_runSN (As := [.int q17]) (rest := [.int 0, .int x2, .int q17, .ref A_q]) ⟨hx, hb, hml, hown, hts⟩ (ct_Parser_symbolOf l D cI cJ cC adK adV H18.size q17) ⟨va_cnB 1 hts gX8_readToken_X11_symbolOf_n49 rfl rfl rfl (hX.1 (RX8, 49, yX11_symbolOf, RX11) (by decide +kernel)) hw0 (by decide +kernel) ⟨Nat.le_of_ble_eq_true rfl, Nat.le_of_ble_eq_true rfl⟩, hw1, trivial⟩ ⟨zblind, zpre hX hS hFc hPc hK hDc⟩ rfl rfl hl.1 rfl (lv_room (Nat.le_of_ble_eq_true rfl)) dX8_readToken_68 ⟨Nat.zero_le _, Nat.zero_le _⟩
          refine zc_r (ws' := [(A_q, .inr (8, [.ref A_q_kinds, .ref A_q_starts, .ref A_q_details, .int q_count])), (A_q_kinds, .inl (cI, 80, .inl q_kinds)), (A_q_starts, .inl (cI, 80, .inl q_starts)), (A_q_details, .inl (cI, 80, .inl q_details)), (A_w, .inr (1, [.ref A_w_characters, .int w_count])), (A_w_characters, .inl (cC, w_N, .inl w_characters))]) hrun hP hD hS hFc [] rfl (by decide) rfl rfl (fun H21 locs hP hD hS => ?_)
          obtain ⟨g22, hM⟩ := z_g hM
          obtain ⟨hPc, hDc, hFc⟩ := zcut (wc := []) hP hD hS hA [] rfl rfl (by decide)
          refine zc_i (ws' := [(A_q, .inr (8, [.ref A_q_kinds, .ref A_q_starts, .ref A_q_details, .int q_count])), (A_q_kinds, .inl (cI, 80, .inl q_kinds)), (A_q_starts, .inl (cI, 80, .inl q_starts)), (A_q_details, .inl (cI, 80, .inl q_details)), (A_w, .inr (1, [.ref A_w_characters, .int w_count])), (A_w_characters, .inl (cC, w_N, .inl w_characters))]) (va_runV (As := []) (rest := [.int 0, .int x2, .int q17, .ref A_q]) ⟨hx, hb, hml, hown, hts⟩ (ct_slen l D cI cJ cC adK adV H21.size (fn_Parser_symbolOf q17) (Nat.lt_of_not_le g22)) (cwV 0 hts gX8_readToken_J0_length_8abf5 rfl rfl rfl (by decide +kernel) ⟨Nat.le_of_ble_eq_true rfl, Nat.le_of_ble_eq_true rfl⟩) ⟨zblind, zrecvS hX hS (Nat.lt_of_not_le g22), zpre hX hS hFc hPc hK hDc⟩ rfl rfl hl.1 rfl (lv_room (Nat.le_of_ble_eq_true rfl)) dX8_readToken_71 ⟨Nat.zero_le _, Nat.zero_le _⟩) hP hD hS hFc [] rfl (by decide) rfl rfl (fun H23 locs hP hD hS => ?_)
          obtain ⟨q24, hq24, hM⟩ := z_b hM
          obtain ⟨hPc, hDc, hFc⟩ := zcut (wc := [(A_q, .inr (8, [.ref A_q_kinds, .ref A_q_starts, .ref A_q_details, .int q_count])), (A_q_kinds, .inl (cI, 80, .inl q_kinds)), (A_q_starts, .inl (cI, 80, .inl q_starts)), (A_q_details, .inl (cI, 80, .inl q_details))]) hP hD hS hA [0, 1, 2, 3] rfl rfl (by decide)
          have hrun : va_Run p l e (headSpec wsX8_readToken ({ frames := 5, cells := 0, slots := 0, locals := 110 } : Room)).room s m args below meth c H23 locs 0 0 _ _ (F0 m 74 ls _) _ (zQi D cI cJ cC q24.1 [(A_q, .inr (8, [.ref A_q_kinds, .ref A_q_starts, .ref A_q_details, .int q24.2.1])), (A_q_kinds, .inl (cI, 80, .inl q24.2.2.1)), (A_q_starts, .inl (cI, 80, .inl q24.2.2.2.1)), (A_q_details, .inl (cI, 80, .inl q24.2.2.2.2))] (va_A [(A_q, .inr (8, [.ref A_q_kinds, .ref A_q_starts, .ref A_q_details, .int q_count])), (A_q_kinds, .inl (cI, 80, .inl q_kinds)), (A_q_starts, .inl (cI, 80, .inl q_starts)), (A_q_details, .inl (cI, 80, .inl q_details))] H23.size) _) (va_A [(A_q, .inr (8, [.ref A_q_kinds, .ref A_q_starts, .ref A_q_details, .int q_count])), (A_q_kinds, .inl (cI, 80, .inl q_kinds)), (A_q_starts, .inl (cI, 80, .inl q_starts)), (A_q_details, .inl (cI, 80, .inl q_details))] H23.size) := va_runV (As := [.int q17, .int x2, .int 0, .int (nI (zlen (fn_Parser_symbolOf q17)))]) (rest := []) ⟨hx, hb, hml, hown, hts⟩ (ct_Tokens_add l D cI cJ cC adK adV A_q A_q_kinds A_q_starts A_q_details H23.size q_count q_kinds q_starts q_details q17 x2 0 (nI (zlen (fn_Parser_symbolOf q17))) hq24) (cwV 4 hts gX8_readToken_X8_add rfl rfl rfl (by decide +kernel) ⟨Nat.le_of_ble_eq_true rfl, Nat.le_of_ble_eq_true rfl⟩) ⟨zblind, va_recv hK hP (ci := 8) (q0 := 0) rfl rfl, zpre hX hS hFc hPc hK hDc⟩ rfl rfl hl.1 rfl (lv_room (Nat.le_of_ble_eq_true rfl)) dX8_readToken_74 ⟨Nat.zero_le _, Nat.zero_le _⟩
          refine zc_i (ws' := [(A_q, .inr (8, [.ref A_q_kinds, .ref A_q_starts, .ref A_q_details, .int q24.2.1])), (A_q_kinds, .inl (cI, 80, .inl q24.2.2.1)), (A_q_starts, .inl (cI, 80, .inl q24.2.2.2.1)), (A_q_details, .inl (cI, 80, .inl q24.2.2.2.2)), (A_w, .inr (1, [.ref A_w_characters, .int w_count])), (A_w_characters, .inl (cC, w_N, .inl w_characters))]) hrun hP hD hS hFc [0, 1, 2, 3] rfl (by decide) rfl rfl (fun H25 locs hP hD hS => ?_)
          have hM := Option.some.inj hM
          subst hM
          exact W.iret (v := q24.1) hx hb hr (fun t ht hW => ⟨⟨_, (), rfl, rfl, ⟨by rw [ht]; exact hP, va_K.moved hW.alike hK, hD⟩⟩, hS.F ht⟩) hS.2.2 dX8_readToken_77
        · have hM := z_t c19 hM
          refine lv_aload_n hx hb dX8_readToken_49 rfl (lv_at hl 1 rfl) ?_
          refine lv_iconst (v := 2) hx hb dX8_readToken_50 (by decide) ?_
          refine lv_iload_n hx hb dX8_readToken_51 rfl (lv_at hl 3 rfl) ?_
          refine lv_iload_n hx hb dX8_readToken_52 rfl (lv_at hl 4 rfl) ?_
          refine lv_bipush (v := 97) hx hb dX8_readToken_53 (by decide) ?_
          refine lv_isub hx hb dX8_readToken_55 ?_
          refine lv_iconst (v := 1) hx hb dX8_readToken_56 (by decide) ?_
          obtain ⟨q26, hq26, hM⟩ := z_b hM
          obtain ⟨hPc, hDc, hFc⟩ := zcut (wc := [(A_q, .inr (8, [.ref A_q_kinds, .ref A_q_starts, .ref A_q_details, .int q_count])), (A_q_kinds, .inl (cI, 80, .inl q_kinds)), (A_q_starts, .inl (cI, 80, .inl q_starts)), (A_q_details, .inl (cI, 80, .inl q_details))]) hP hD hS hA [0, 1, 2, 3] rfl rfl (by decide)
          have hrun : va_Run p l e (headSpec wsX8_readToken ({ frames := 5, cells := 0, slots := 0, locals := 110 } : Room)).room s m args below meth c H18 locs 0 0 _ _ (F0 m 57 ls _) _ (zQi D cI cJ cC q26.1 [(A_q, .inr (8, [.ref A_q_kinds, .ref A_q_starts, .ref A_q_details, .int q26.2.1])), (A_q_kinds, .inl (cI, 80, .inl q26.2.2.1)), (A_q_starts, .inl (cI, 80, .inl q26.2.2.2.1)), (A_q_details, .inl (cI, 80, .inl q26.2.2.2.2))] (va_A [(A_q, .inr (8, [.ref A_q_kinds, .ref A_q_starts, .ref A_q_details, .int q_count])), (A_q_kinds, .inl (cI, 80, .inl q_kinds)), (A_q_starts, .inl (cI, 80, .inl q_starts)), (A_q_details, .inl (cI, 80, .inl q_details))] H18.size) _) (va_A [(A_q, .inr (8, [.ref A_q_kinds, .ref A_q_starts, .ref A_q_details, .int q_count])), (A_q_kinds, .inl (cI, 80, .inl q_kinds)), (A_q_starts, .inl (cI, 80, .inl q_starts)), (A_q_details, .inl (cI, 80, .inl q_details))] H18.size) := va_runV (As := [.int 2, .int x2, .int (x3 - 97), .int 1]) (rest := []) ⟨hx, hb, hml, hown, hts⟩ (ct_Tokens_add l D cI cJ cC adK adV A_q A_q_kinds A_q_starts A_q_details H18.size q_count q_kinds q_starts q_details 2 x2 (x3 - 97) 1 hq26) (cwV 4 hts gX8_readToken_X8_add rfl rfl rfl (by decide +kernel) ⟨Nat.le_of_ble_eq_true rfl, Nat.le_of_ble_eq_true rfl⟩) ⟨zblind, va_recv hK hP (ci := 8) (q0 := 0) rfl rfl, zpre hX hS hFc hPc hK hDc⟩ rfl rfl hl.1 rfl (lv_room (Nat.le_of_ble_eq_true rfl)) dX8_readToken_57 ⟨Nat.zero_le _, Nat.zero_le _⟩
          refine zc_i (ws' := [(A_q, .inr (8, [.ref A_q_kinds, .ref A_q_starts, .ref A_q_details, .int q26.2.1])), (A_q_kinds, .inl (cI, 80, .inl q26.2.2.1)), (A_q_starts, .inl (cI, 80, .inl q26.2.2.2.1)), (A_q_details, .inl (cI, 80, .inl q26.2.2.2.2)), (A_w, .inr (1, [.ref A_w_characters, .int w_count])), (A_w_characters, .inl (cC, w_N, .inl w_characters))]) hrun hP hD hS hFc [0, 1, 2, 3] rfl (by decide) rfl rfl (fun H27 locs hP hD hS => ?_)
          have hM := Option.some.inj hM
          subst hM
          exact W.iret (v := q26.1) hx hb hr (fun t ht hW => ⟨⟨_, (), rfl, rfl, ⟨by rw [ht]; exact hP, va_K.moved hW.alike hK, hD⟩⟩, hS.F ht⟩) hS.2.2 dX8_readToken_60
  refine lv_aload_n hx hb dX8_readToken_0 rfl (lv_at hl 1 rfl) ?_
  refine lv_iload_n hx hb dX8_readToken_1 rfl (lv_at hl 2 rfl) ?_
  obtain ⟨q1, hq1, hM⟩ := z_b hM
  obtain ⟨hPc, hDc, hFc⟩ := zcut (wc := [(A_w, .inr (1, [.ref A_w_characters, .int w_count])), (A_w_characters, .inl (cC, w_N, .inl w_characters))]) hP hD hS hA [4, 5] rfl rfl (by decide)
  have hrun : va_Run p l e (headSpec wsX8_readToken ({ frames := 5, cells := 0, slots := 0, locals := 110 } : Room)).room s m args below meth c s.heap [] 0 0 _ _ (F0 m 2 ls _) _ (zQi D cI cJ cC q1 [(A_w, .inr (1, [.ref A_w_characters, .int w_count])), (A_w_characters, .inl (cC, w_N, .inl w_characters))] (va_A [(A_w, .inr (1, [.ref A_w_characters, .int w_count])), (A_w_characters, .inl (cC, w_N, .inl w_characters))] s.heap.size) _) (va_A [(A_w, .inr (1, [.ref A_w_characters, .int w_count])), (A_w_characters, .inl (cC, w_N, .inl w_characters))] s.heap.size) := va_runV (As := [.int x2]) (rest := []) ⟨hx, hb, hml, hown, hts⟩ (ct_CharRow_at l D cI cJ cC adK adV A_w A_w_characters s.heap.size w_N w_count w_characters x2 hq1) (cwV 1 hts gX8_readToken_X1_at rfl rfl rfl (by decide +kernel) ⟨Nat.le_of_ble_eq_true rfl, Nat.le_of_ble_eq_true rfl⟩) ⟨zblind, va_recv hK hP (ci := 1) (q0 := 4) rfl rfl, zpre hX hS hFc hPc hK hDc⟩ rfl rfl hl.1 rfl (lv_room (Nat.le_of_ble_eq_true rfl)) dX8_readToken_2 ⟨Nat.zero_le _, Nat.zero_le _⟩
  refine zc_i (ws' := [(A_q, .inr (8, [.ref A_q_kinds, .ref A_q_starts, .ref A_q_details, .int q_count])), (A_q_kinds, .inl (cI, 80, .inl q_kinds)), (A_q_starts, .inl (cI, 80, .inl q_starts)), (A_q_details, .inl (cI, 80, .inl q_details)), (A_w, .inr (1, [.ref A_w_characters, .int w_count])), (A_w_characters, .inl (cC, w_N, .inl w_characters))]) hrun hP hD hS hFc [4, 5] rfl (by decide) rfl rfl (fun H2 locs hP hD hS => ?_)
  refine lv_istore_n (lv' := [(3, .int q1), (0, .ref A_q), (1, .ref A_w), (2, .int x2)]) hx hb dX8_readToken_5 rfl hl (by decide) rfl (fun ls hl => ?_)
  refine lv_iload_n hx hb dX8_readToken_6 rfl (lv_at hl 0 rfl) ?_
  refine lv_bipush (v := 48) hx hb dX8_readToken_7 (by decide) ?_
  refine lv_icmp_lt (tgt := 25) hx hb dX8_readToken_9 (by decide) (fun c3 => ?_) (fun c3 => ?_)
  · have hM := z_t c3 hM
    exact B_25_0  q_count q_kinds q_starts q_details x2 q1 _ _ ls hP hD hS (lv_sub hl [1, 2, 3, 0] rfl) hM
  · have hM := z_f c3 hM
    refine lv_iload_n hx hb dX8_readToken_12 rfl (lv_at hl 0 rfl) ?_
    refine lv_bipush (v := 57) hx hb dX8_readToken_13 (by decide) ?_
    refine lv_icmp_gt (tgt := 25) hx hb dX8_readToken_15 (by decide) (fun c28 => ?_) (fun c28 => ?_)
    · have hM := z_t c28 hM
      exact B_25_0  q_count q_kinds q_starts q_details x2 q1 _ _ ls hP hD hS (lv_sub hl [1, 2, 3, 0] rfl) hM
    · have hM := z_f c28 hM
      refine lv_aload_n hx hb dX8_readToken_18 rfl (lv_at hl 1 rfl) ?_
      refine lv_aload_n hx hb dX8_readToken_19 rfl (lv_at hl 2 rfl) ?_
      refine lv_iload_n hx hb dX8_readToken_20 rfl (lv_at hl 3 rfl) ?_
      obtain ⟨q29, hq29, hM⟩ := z_b hM
      obtain ⟨hPc, hDc, hFc⟩ := zcut (wc := [(A_q, .inr (8, [.ref A_q_kinds, .ref A_q_starts, .ref A_q_details, .int q_count])), (A_q_kinds, .inl (cI, 80, .inl q_kinds)), (A_q_starts, .inl (cI, 80, .inl q_starts)), (A_q_details, .inl (cI, 80, .inl q_details)), (A_w, .inr (1, [.ref A_w_characters, .int w_count])), (A_w_characters, .inl (cC, w_N, .inl w_characters))]) hP hD hS hA [0, 1, 2, 3, 4, 5] rfl rfl (by decide)
      have hrun : va_Run p l e (headSpec wsX8_readToken ({ frames := 5, cells := 0, slots := 0, locals := 110 } : Room)).room s m args below meth c H2 locs 0 0 _ _ (F0 m 21 ls _) _ (zQi D cI cJ cC q29.1 [(A_q, .inr (8, [.ref A_q_kinds, .ref A_q_starts, .ref A_q_details, .int q29.2.1])), (A_q_kinds, .inl (cI, 80, .inl q29.2.2.1)), (A_q_starts, .inl (cI, 80, .inl q29.2.2.2.1)), (A_q_details, .inl (cI, 80, .inl q29.2.2.2.2)), (A_w, .inr (1, [.ref A_w_characters, .int w_count])), (A_w_characters, .inl (cC, w_N, .inl w_characters))] (va_A [(A_q, .inr (8, [.ref A_q_kinds, .ref A_q_starts, .ref A_q_details, .int q_count])), (A_q_kinds, .inl (cI, 80, .inl q_kinds)), (A_q_starts, .inl (cI, 80, .inl q_starts)), (A_q_details, .inl (cI, 80, .inl q_details)), (A_w, .inr (1, [.ref A_w_characters, .int w_count])), (A_w_characters, .inl (cC, w_N, .inl w_characters))] H2.size) _) (va_A [(A_q, .inr (8, [.ref A_q_kinds, .ref A_q_starts, .ref A_q_details, .int q_count])), (A_q_kinds, .inl (cI, 80, .inl q_kinds)), (A_q_starts, .inl (cI, 80, .inl q_starts)), (A_q_details, .inl (cI, 80, .inl q_details)), (A_w, .inr (1, [.ref A_w_characters, .int w_count])), (A_w_characters, .inl (cC, w_N, .inl w_characters))] H2.size) := va_runV (As := [.ref A_w, .int x2]) (rest := []) ⟨hx, hb, hml, hown, hts⟩ (ct_Tokens_readNumber l D cI cJ cC adK adV A_q A_q_kinds A_q_starts A_q_details A_w A_w_characters H2.size w_N q_count q_kinds q_starts q_details w_count w_characters x2 hq29) (cwV 2 hts gX8_readToken_X8_readNumber rfl rfl rfl (by decide +kernel) ⟨Nat.le_of_ble_eq_true rfl, Nat.le_of_ble_eq_true rfl⟩) ⟨zblind, va_recv hK hP (ci := 8) (q0 := 0) rfl rfl, zpre hX hS hFc hPc hK hDc⟩ rfl rfl hl.1 rfl (lv_room (Nat.le_of_ble_eq_true rfl)) dX8_readToken_21 ⟨Nat.zero_le _, Nat.zero_le _⟩
      refine zc_i (ws' := [(A_q, .inr (8, [.ref A_q_kinds, .ref A_q_starts, .ref A_q_details, .int q29.2.1])), (A_q_kinds, .inl (cI, 80, .inl q29.2.2.1)), (A_q_starts, .inl (cI, 80, .inl q29.2.2.2.1)), (A_q_details, .inl (cI, 80, .inl q29.2.2.2.2)), (A_w, .inr (1, [.ref A_w_characters, .int w_count])), (A_w_characters, .inl (cC, w_N, .inl w_characters))]) hrun hP hD hS hFc [0, 1, 2, 3, 4, 5] rfl (by decide) rfl rfl (fun H30 locs hP hD hS => ?_)
      have hM := Option.some.inj hM
      subst hM
      exact W.iret (v := q29.1) hx hb hr (fun t ht hW => ⟨⟨_, (), rfl, rfl, ⟨by rw [ht]; exact hP, va_K.moved hW.alike hK, hD⟩⟩, hS.F ht⟩) hS.2.2 dX8_readToken_24
def fn_Tokens_read_b41 (w_N : Nat) (w_count : Int32) (w_characters : Nat → Int32) (k_9_0 : Int32 → (Nat → Int32) → (Nat → Int32) → (Nat → Int32) → Int32 → Int32 → Option (Int32 × (Nat → Int32) × (Nat → Int32) × (Nat → Int32))) (q_count : Int32) (q_kinds : Nat → Int32) (q_starts : Nat → Int32) (q_details : Nat → Int32) (x2 : Int32) (x3 : Int32) : Option (Int32 × (Nat → Int32) × (Nat → Int32) × (Nat → Int32)) := k_9_0 q_count q_kinds q_starts q_details x2 (x3 + 1)
def fn_Tokens_read_L9 (w_N : Nat) (w_count : Int32) (w_characters : Nat → Int32) : Nat → Int32 → (Nat → Int32) → (Nat → Int32) → (Nat → Int32) → Int32 → Int32 → Option (Int32 × (Nat → Int32) × (Nat → Int32) × (Nat → Int32))
  | 0 => fun _ _ _ _ _ _ => none
  | n + 1 => fun q_count q_kinds q_starts q_details x2 x3 => (if (fn_CharRow_size w_count) ≤ x3 then some (q_count, q_kinds, q_starts, q_details) else (if x3 < x2 then fn_Tokens_read_b41 w_N w_count w_characters (fn_Tokens_read_L9 w_N w_count w_characters n) q_count q_kinds q_starts q_details x2 x3 else ((fn_CharRow_at w_N w_count w_characters x3).bind fun q6 => (if q6 = 32 then fn_Tokens_read_b41 w_N w_count w_characters (fn_Tokens_read_L9 w_N w_count w_characters n) q_count q_kinds q_starts q_details x2 x3 else ((fn_Tokens_readToken w_N q_count q_kinds q_starts q_details w_count w_characters x3).bind fun q9 => fn_Tokens_read_b41 w_N w_count w_characters (fn_Tokens_read_L9 w_N w_count w_characters n) q9.2.1 q9.2.2.1 q9.2.2.2.1 q9.2.2.2.2 (x3 + q9.1) x3)))))
def fn_Tokens_read (w_N : Nat) (q_count : Int32) (q_kinds : Nat → Int32) (q_starts : Nat → Int32) (q_details : Nat → Int32) (w_count : Int32) (w_characters : Nat → Int32) : Option (Int32 × (Nat → Int32) × (Nat → Int32) × (Nat → Int32)) := fn_Tokens_read_L9 w_N w_count w_characters zFU 0 q_kinds q_starts q_details 0 0
set_option maxHeartbeats 40000000 in
set_option maxRecDepth 100000 in
theorem ct_Tokens_read (l : Launch) (D : va_G) (cI cJ cC : ClassId) (adK adV : Nat → Nat) (A_q A_q_kinds A_q_starts A_q_details A_w A_w_characters : Nat) (sz : Nat) (w_N : Nat) (q_count : Int32) (q_kinds : Nat → Int32) (q_starts : Nat → Int32) (q_details : Nat → Int32) (w_count : Int32) (w_characters : Nat → Int32) {rs : Int32 × (Nat → Int32) × (Nat → Int32) × (Nat → Int32)} (hM : fn_Tokens_read w_N q_count q_kinds q_starts q_details w_count w_characters = some rs) : Met l yX8_read wsX8_read ({ frames := 6, cells := 0, slots := 0, locals := 134 } : Room) (zP D cI cJ cC adK adV [.ref A_q, .ref A_w] sz [(A_q, .inr (8, [.ref A_q_kinds, .ref A_q_starts, .ref A_q_details, .int q_count])), (A_q_kinds, .inl (cI, 80, .inl q_kinds)), (A_q_starts, .inl (cI, 80, .inl q_starts)), (A_q_details, .inl (cI, 80, .inl q_details)), (A_w, .inr (1, [.ref A_w_characters, .int w_count])), (A_w_characters, .inl (cC, w_N, .inl w_characters))]) (zQv D cI cJ cC [(A_q, .inr (8, [.ref A_q_kinds, .ref A_q_starts, .ref A_q_details, .int rs.1])), (A_q_kinds, .inl (cI, 80, .inl rs.2.1)), (A_q_starts, .inl (cI, 80, .inl rs.2.2.1)), (A_q_details, .inl (cI, 80, .inl rs.2.2.2)), (A_w, .inr (1, [.ref A_w_characters, .int w_count])), (A_w_characters, .inl (cC, w_N, .inl w_characters))] (va_A [(A_q, .inr (8, [.ref A_q_kinds, .ref A_q_starts, .ref A_q_details, .int q_count])), (A_q_kinds, .inl (cI, 80, .inl q_kinds)), (A_q_starts, .inl (cI, 80, .inl q_starts)), (A_q_details, .inl (cI, 80, .inl q_details)), (A_w, .inr (1, [.ref A_w_characters, .int w_count])), (A_w_characters, .inl (cC, w_N, .inl w_characters))] sz)) 0 0 (va_A [(A_q, .inr (8, [.ref A_q_kinds, .ref A_q_starts, .ref A_q_details, .int q_count])), (A_q_kinds, .inl (cI, 80, .inl q_kinds)), (A_q_starts, .inl (cI, 80, .inl q_starts)), (A_q_details, .inl (cI, 80, .inl q_details)), (A_w, .inr (1, [.ref A_w_characters, .int w_count])), (A_w_characters, .inl (cC, w_N, .inl w_characters))] sz) := by
  refine Met.ofW (cc := cX8_read) (maxL := 4) (ret := none) (by decide) rfl ?_
  intro p e s m args below meth c s₁ B hml hv0
  obtain ⟨hargs, hsz, hP, hK, hD0, hX⟩ := hv0
  have hx := B.exec
  have hb := B.bytes
  have hr := B.returns
  have hts := atoms_spec (ws := wsX8_read) B.pre
  have hown : s.vm.findClass RX8 = some m.cls := findClass_of_methodNamed B.named
  have hlocks := B.notSynchronized
  subst hsz
  have hD := hD0.self (sz := s.heap.size)
  generalize hAe : va_A [(A_q, .inr (8, [.ref A_q_kinds, .ref A_q_starts, .ref A_q_details, .int q_count])), (A_q_kinds, .inl (cI, 80, .inl q_kinds)), (A_q_starts, .inl (cI, 80, .inl q_starts)), (A_q_details, .inl (cI, 80, .inl q_details)), (A_w, .inr (1, [.ref A_w_characters, .int w_count])), (A_w_characters, .inl (cC, w_N, .inl w_characters))] s.heap.size = A at hD hX ⊢
  have hA : ∀ q : Nat, s.heap.size ≤ q → A q := fun q h => by rw [← hAe]; exact Or.inr h
  have hS : va_S A s.heap s.heap [] := va_S.rf
  have hl := lv_entry ([.ref A_q, .ref A_w]) (n := 4) (Nat.le_of_ble_eq_true rfl)
  rw [hargs, lg_entry_eq, ← hargs]
  generalize (lg_sl ([.ref A_q, .ref A_w]) ++ List.replicate (4 - (lg_sl ([.ref A_q, .ref A_w])).length) Slot.unset).toArray = ls at hl ⊢
  have hl : lv_has ls 4 [(0, .ref A_q), (1, .ref A_w)] := hl
  have hw0 : ∀ w ∈ u_ws RX8 TX8 4, w ∈ wsX8_read := by decide +kernel
  have hw1 := hts (.fieldLink RX8 21 "NotationParser$Tokens" "count" "I") (by decide +kernel)
  have B_41_1 : ∀ (k_9_0 : Int32 → (Nat → Int32) → (Nat → Int32) → (Nat → Int32) → Int32 → Int32 → Option (Int32 × (Nat → Int32) × (Nat → Int32) × (Nat → Int32))) (hk_9_0 : ∀ (q_count : Int32) (q_kinds : Nat → Int32) (q_starts : Nat → Int32) (q_details : Nat → Int32) (x2 : Int32) (x3 : Int32) (H : Heap) (locs : List Loc) (ls : Array Slot), va_P D vwCl [(A_q, .inr (8, [.ref A_q_kinds, .ref A_q_starts, .ref A_q_details, .int q_count])), (A_q_kinds, .inl (cI, 80, .inl q_kinds)), (A_q_starts, .inl (cI, 80, .inl q_starts)), (A_q_details, .inl (cI, 80, .inl q_details)), (A_w, .inr (1, [.ref A_w_characters, .int w_count])), (A_w_characters, .inl (cC, w_N, .inl w_characters))] H → va_D A [(A_q, .inr (8, [.ref A_q_kinds, .ref A_q_starts, .ref A_q_details, .int q_count])), (A_q_kinds, .inl (cI, 80, .inl q_kinds)), (A_q_starts, .inl (cI, 80, .inl q_starts)), (A_q_details, .inl (cI, 80, .inl q_details)), (A_w, .inr (1, [.ref A_w_characters, .int w_count])), (A_w_characters, .inl (cC, w_N, .inl w_characters))] → va_S A s.heap H locs → lv_has ls 4 [(0, .ref A_q), (1, .ref A_w), (2, .int x2), (3, .int x3)] → k_9_0 q_count q_kinds q_starts q_details x2 x3 = some rs → W p l e (headSpec wsX8_read ({ frames := 6, cells := 0, slots := 0, locals := 134 } : Room)).room s m args below meth c H locs 0 0 (MQ below (zQv D cI cJ cC [(A_q, .inr (8, [.ref A_q_kinds, .ref A_q_starts, .ref A_q_details, .int rs.1])), (A_q_kinds, .inl (cI, 80, .inl rs.2.1)), (A_q_starts, .inl (cI, 80, .inl rs.2.2.1)), (A_q_details, .inl (cI, 80, .inl rs.2.2.2)), (A_w, .inr (1, [.ref A_w_characters, .int w_count])), (A_w_characters, .inl (cC, w_N, .inl w_characters))] A) args s 0 0 A) (F0 m 9 ls [])) (q_count : Int32) (q_kinds : Nat → Int32) (q_starts : Nat → Int32) (q_details : Nat → Int32) (x2 : Int32) (x3 : Int32) (H : Heap) (locs : List Loc) (ls : Array Slot), va_P D vwCl [(A_q, .inr (8, [.ref A_q_kinds, .ref A_q_starts, .ref A_q_details, .int q_count])), (A_q_kinds, .inl (cI, 80, .inl q_kinds)), (A_q_starts, .inl (cI, 80, .inl q_starts)), (A_q_details, .inl (cI, 80, .inl q_details)), (A_w, .inr (1, [.ref A_w_characters, .int w_count])), (A_w_characters, .inl (cC, w_N, .inl w_characters))] H → va_D A [(A_q, .inr (8, [.ref A_q_kinds, .ref A_q_starts, .ref A_q_details, .int q_count])), (A_q_kinds, .inl (cI, 80, .inl q_kinds)), (A_q_starts, .inl (cI, 80, .inl q_starts)), (A_q_details, .inl (cI, 80, .inl q_details)), (A_w, .inr (1, [.ref A_w_characters, .int w_count])), (A_w_characters, .inl (cC, w_N, .inl w_characters))] → va_S A s.heap H locs → lv_has ls 4 [(0, .ref A_q), (1, .ref A_w), (2, .int x2), (3, .int x3)] → fn_Tokens_read_b41 w_N w_count w_characters k_9_0 q_count q_kinds q_starts q_details x2 x3 = some rs → W p l e (headSpec wsX8_read ({ frames := 6, cells := 0, slots := 0, locals := 134 } : Room)).room s m args below meth c H locs 0 0 (MQ below (zQv D cI cJ cC [(A_q, .inr (8, [.ref A_q_kinds, .ref A_q_starts, .ref A_q_details, .int rs.1])), (A_q_kinds, .inl (cI, 80, .inl rs.2.1)), (A_q_starts, .inl (cI, 80, .inl rs.2.2.1)), (A_q_details, .inl (cI, 80, .inl rs.2.2.2)), (A_w, .inr (1, [.ref A_w_characters, .int w_count])), (A_w_characters, .inl (cC, w_N, .inl w_characters))] A) args s 0 0 A) (F0 m 41 ls []) := by
    intro k_9_0 hk_9_0 q_count q_kinds q_starts q_details x2 x3 H locs ls hP hD hS hl hM
    refine lv_iinc (v := (x3 + 1)) (lv' := [(3, .int (x3 + 1)), (0, .ref A_q), (1, .ref A_w), (2, .int x2)]) hx hb dX8_read_41 hl (k := 3) rfl rfl (by decide) rfl (fun ls hl => ?_)
    refine lv_goto (tgt := 9) hx hb dX8_read_44 (by decide) ?_
    exact hk_9_0 q_count q_kinds q_starts q_details x2 (x3 + 1) _ _ ls hP hD hS (lv_sub hl [1, 2, 3, 0] rfl) hM
  have L_9_0 : ∀ (n : Nat) (q_count : Int32) (q_kinds : Nat → Int32) (q_starts : Nat → Int32) (q_details : Nat → Int32) (x2 : Int32) (x3 : Int32) (H : Heap) (locs : List Loc) (ls : Array Slot), va_P D vwCl [(A_q, .inr (8, [.ref A_q_kinds, .ref A_q_starts, .ref A_q_details, .int q_count])), (A_q_kinds, .inl (cI, 80, .inl q_kinds)), (A_q_starts, .inl (cI, 80, .inl q_starts)), (A_q_details, .inl (cI, 80, .inl q_details)), (A_w, .inr (1, [.ref A_w_characters, .int w_count])), (A_w_characters, .inl (cC, w_N, .inl w_characters))] H → va_D A [(A_q, .inr (8, [.ref A_q_kinds, .ref A_q_starts, .ref A_q_details, .int q_count])), (A_q_kinds, .inl (cI, 80, .inl q_kinds)), (A_q_starts, .inl (cI, 80, .inl q_starts)), (A_q_details, .inl (cI, 80, .inl q_details)), (A_w, .inr (1, [.ref A_w_characters, .int w_count])), (A_w_characters, .inl (cC, w_N, .inl w_characters))] → va_S A s.heap H locs → lv_has ls 4 [(0, .ref A_q), (1, .ref A_w), (2, .int x2), (3, .int x3)] → fn_Tokens_read_L9 w_N w_count w_characters n q_count q_kinds q_starts q_details x2 x3 = some rs → W p l e (headSpec wsX8_read ({ frames := 6, cells := 0, slots := 0, locals := 134 } : Room)).room s m args below meth c H locs 0 0 (MQ below (zQv D cI cJ cC [(A_q, .inr (8, [.ref A_q_kinds, .ref A_q_starts, .ref A_q_details, .int rs.1])), (A_q_kinds, .inl (cI, 80, .inl rs.2.1)), (A_q_starts, .inl (cI, 80, .inl rs.2.2.1)), (A_q_details, .inl (cI, 80, .inl rs.2.2.2)), (A_w, .inr (1, [.ref A_w_characters, .int w_count])), (A_w_characters, .inl (cC, w_N, .inl w_characters))] A) args s 0 0 A) (F0 m 9 ls []) := by
    intro  n
    induction n with
    | zero => intro q_count q_kinds q_starts q_details x2 x3 H locs ls _ _ _ _ hM; exact z_n hM
    | succ n ih =>
      intro q_count q_kinds q_starts q_details x2 x3 H locs ls hP hD hS hl hM
      refine lv_iload_n hx hb dX8_read_9 rfl (lv_at hl 3 rfl) ?_
      refine lv_aload_n hx hb dX8_read_10 rfl (lv_at hl 1 rfl) ?_
      obtain ⟨hPc, hDc, hFc⟩ := zcut (wc := [(A_w, .inr (1, [.ref A_w_characters, .int w_count]))]) hP hD hS hA [4] rfl rfl (by decide)
      have hrun : va_Run p l e (headSpec wsX8_read ({ frames := 6, cells := 0, slots := 0, locals := 134 } : Room)).room s m args below meth c H locs 0 0 _ _ (F0 m 11 ls _) _ (zQi D cI cJ cC (fn_CharRow_size w_count) [(A_w, .inr (1, [.ref A_w_characters, .int w_count]))] (va_A [(A_w, .inr (1, [.ref A_w_characters, .int w_count]))] H.size) _) (va_A [(A_w, .inr (1, [.ref A_w_characters, .int w_count]))] H.size) := va_runV (As := []) (rest := [.int x3]) ⟨hx, hb, hml, hown, hts⟩ (ct_CharRow_size l D cI cJ cC adK adV A_w A_w_characters H.size w_count) (cwV 0 hts gX8_read_X1_size rfl rfl rfl (by decide +kernel) ⟨Nat.le_of_ble_eq_true rfl, Nat.le_of_ble_eq_true rfl⟩) ⟨zblind, va_recv hK hP (ci := 1) (q0 := 4) rfl rfl, zpre hX hS hFc hPc hK hDc⟩ rfl rfl hl.1 rfl (lv_room (Nat.le_of_ble_eq_true rfl)) dX8_read_11 ⟨Nat.zero_le _, Nat.zero_le _⟩
      refine zc_i (ws' := [(A_q, .inr (8, [.ref A_q_kinds, .ref A_q_starts, .ref A_q_details, .int q_count])), (A_q_kinds, .inl (cI, 80, .inl q_kinds)), (A_q_starts, .inl (cI, 80, .inl q_starts)), (A_q_details, .inl (cI, 80, .inl q_details)), (A_w, .inr (1, [.ref A_w_characters, .int w_count])), (A_w_characters, .inl (cC, w_N, .inl w_characters))]) hrun hP hD hS hFc [4] rfl (by decide) rfl rfl (fun H3 locs hP hD hS => ?_)
      refine lv_icmp_ge (tgt := 47) hx hb dX8_read_14 (by decide) (fun c4 => ?_) (fun c4 => ?_)
      · have hM := z_t c4 hM
        have hM := Option.some.inj hM
        subst hM
        exact W.vret hx hb hr (fun t ht hW => ⟨⟨(), rfl, trivial, ⟨by rw [ht]; exact hP, va_K.moved hW.alike hK, hD⟩⟩, hS.F ht⟩) hS.2.2 dX8_read_47
      · have hM := z_f c4 hM
        refine lv_iload_n hx hb dX8_read_17 rfl (lv_at hl 3 rfl) ?_
        refine lv_iload_n hx hb dX8_read_18 rfl (lv_at hl 2 rfl) ?_
        refine lv_icmp_lt (tgt := 41) hx hb dX8_read_19 (by decide) (fun c5 => ?_) (fun c5 => ?_)
        · have hM := z_t c5 hM
          exact B_41_1 (fn_Tokens_read_L9 w_N w_count w_characters n) ih q_count q_kinds q_starts q_details x2 x3 _ _ ls hP hD hS (lv_sub hl [0, 1, 2, 3] rfl) hM
        · have hM := z_f c5 hM
          refine lv_aload_n hx hb dX8_read_22 rfl (lv_at hl 1 rfl) ?_
          refine lv_iload_n hx hb dX8_read_23 rfl (lv_at hl 3 rfl) ?_
          obtain ⟨q6, hq6, hM⟩ := z_b hM
          obtain ⟨hPc, hDc, hFc⟩ := zcut (wc := [(A_w, .inr (1, [.ref A_w_characters, .int w_count])), (A_w_characters, .inl (cC, w_N, .inl w_characters))]) hP hD hS hA [4, 5] rfl rfl (by decide)
          have hrun : va_Run p l e (headSpec wsX8_read ({ frames := 6, cells := 0, slots := 0, locals := 134 } : Room)).room s m args below meth c H3 locs 0 0 _ _ (F0 m 24 ls _) _ (zQi D cI cJ cC q6 [(A_w, .inr (1, [.ref A_w_characters, .int w_count])), (A_w_characters, .inl (cC, w_N, .inl w_characters))] (va_A [(A_w, .inr (1, [.ref A_w_characters, .int w_count])), (A_w_characters, .inl (cC, w_N, .inl w_characters))] H3.size) _) (va_A [(A_w, .inr (1, [.ref A_w_characters, .int w_count])), (A_w_characters, .inl (cC, w_N, .inl w_characters))] H3.size) := va_runV (As := [.int x3]) (rest := []) ⟨hx, hb, hml, hown, hts⟩ (ct_CharRow_at l D cI cJ cC adK adV A_w A_w_characters H3.size w_N w_count w_characters x3 hq6) (cwV 1 hts gX8_read_X1_at rfl rfl rfl (by decide +kernel) ⟨Nat.le_of_ble_eq_true rfl, Nat.le_of_ble_eq_true rfl⟩) ⟨zblind, va_recv hK hP (ci := 1) (q0 := 4) rfl rfl, zpre hX hS hFc hPc hK hDc⟩ rfl rfl hl.1 rfl (lv_room (Nat.le_of_ble_eq_true rfl)) dX8_read_24 ⟨Nat.zero_le _, Nat.zero_le _⟩
          refine zc_i (ws' := [(A_q, .inr (8, [.ref A_q_kinds, .ref A_q_starts, .ref A_q_details, .int q_count])), (A_q_kinds, .inl (cI, 80, .inl q_kinds)), (A_q_starts, .inl (cI, 80, .inl q_starts)), (A_q_details, .inl (cI, 80, .inl q_details)), (A_w, .inr (1, [.ref A_w_characters, .int w_count])), (A_w_characters, .inl (cC, w_N, .inl w_characters))]) hrun hP hD hS hFc [4, 5] rfl (by decide) rfl rfl (fun H7 locs hP hD hS => ?_)
          refine lv_bipush (v := 32) hx hb dX8_read_27 (by decide) ?_
          refine lv_icmp_eq (tgt := 41) hx hb dX8_read_29 (by decide) (fun c8 => ?_) (fun c8 => ?_)
          · have hM := z_t c8 hM
            exact B_41_1 (fn_Tokens_read_L9 w_N w_count w_characters n) ih q_count q_kinds q_starts q_details x2 x3 _ _ ls hP hD hS (lv_sub hl [0, 1, 2, 3] rfl) hM
          · have hM := z_f c8 hM
            refine lv_iload_n hx hb dX8_read_32 rfl (lv_at hl 3 rfl) ?_
            refine lv_aload_n hx hb dX8_read_33 rfl (lv_at hl 0 rfl) ?_
            refine lv_aload_n hx hb dX8_read_34 rfl (lv_at hl 1 rfl) ?_
            refine lv_iload_n hx hb dX8_read_35 rfl (lv_at hl 3 rfl) ?_
            obtain ⟨q9, hq9, hM⟩ := z_b hM
            obtain ⟨hPc, hDc, hFc⟩ := zcut (wc := [(A_q, .inr (8, [.ref A_q_kinds, .ref A_q_starts, .ref A_q_details, .int q_count])), (A_q_kinds, .inl (cI, 80, .inl q_kinds)), (A_q_starts, .inl (cI, 80, .inl q_starts)), (A_q_details, .inl (cI, 80, .inl q_details)), (A_w, .inr (1, [.ref A_w_characters, .int w_count])), (A_w_characters, .inl (cC, w_N, .inl w_characters))]) hP hD hS hA [0, 1, 2, 3, 4, 5] rfl rfl (by decide)
            have hrun : va_Run p l e (headSpec wsX8_read ({ frames := 6, cells := 0, slots := 0, locals := 134 } : Room)).room s m args below meth c H7 locs 0 0 _ _ (F0 m 36 ls _) _ (zQi D cI cJ cC q9.1 [(A_q, .inr (8, [.ref A_q_kinds, .ref A_q_starts, .ref A_q_details, .int q9.2.1])), (A_q_kinds, .inl (cI, 80, .inl q9.2.2.1)), (A_q_starts, .inl (cI, 80, .inl q9.2.2.2.1)), (A_q_details, .inl (cI, 80, .inl q9.2.2.2.2)), (A_w, .inr (1, [.ref A_w_characters, .int w_count])), (A_w_characters, .inl (cC, w_N, .inl w_characters))] (va_A [(A_q, .inr (8, [.ref A_q_kinds, .ref A_q_starts, .ref A_q_details, .int q_count])), (A_q_kinds, .inl (cI, 80, .inl q_kinds)), (A_q_starts, .inl (cI, 80, .inl q_starts)), (A_q_details, .inl (cI, 80, .inl q_details)), (A_w, .inr (1, [.ref A_w_characters, .int w_count])), (A_w_characters, .inl (cC, w_N, .inl w_characters))] H7.size) _) (va_A [(A_q, .inr (8, [.ref A_q_kinds, .ref A_q_starts, .ref A_q_details, .int q_count])), (A_q_kinds, .inl (cI, 80, .inl q_kinds)), (A_q_starts, .inl (cI, 80, .inl q_starts)), (A_q_details, .inl (cI, 80, .inl q_details)), (A_w, .inr (1, [.ref A_w_characters, .int w_count])), (A_w_characters, .inl (cC, w_N, .inl w_characters))] H7.size) := va_runV (As := [.ref A_w, .int x3]) (rest := [.int x3]) ⟨hx, hb, hml, hown, hts⟩ (ct_Tokens_readToken l D cI cJ cC adK adV A_q A_q_kinds A_q_starts A_q_details A_w A_w_characters H7.size w_N q_count q_kinds q_starts q_details w_count w_characters x3 hq9) (cwV 2 hts gX8_read_X8_readToken rfl rfl rfl (by decide +kernel) ⟨Nat.le_of_ble_eq_true rfl, Nat.le_of_ble_eq_true rfl⟩) ⟨zblind, va_recv hK hP (ci := 8) (q0 := 0) rfl rfl, zpre hX hS hFc hPc hK hDc⟩ rfl rfl hl.1 rfl (lv_room (Nat.le_of_ble_eq_true rfl)) dX8_read_36 ⟨Nat.zero_le _, Nat.zero_le _⟩
            refine zc_i (ws' := [(A_q, .inr (8, [.ref A_q_kinds, .ref A_q_starts, .ref A_q_details, .int q9.2.1])), (A_q_kinds, .inl (cI, 80, .inl q9.2.2.1)), (A_q_starts, .inl (cI, 80, .inl q9.2.2.2.1)), (A_q_details, .inl (cI, 80, .inl q9.2.2.2.2)), (A_w, .inr (1, [.ref A_w_characters, .int w_count])), (A_w_characters, .inl (cC, w_N, .inl w_characters))]) hrun hP hD hS hFc [0, 1, 2, 3, 4, 5] rfl (by decide) rfl rfl (fun H10 locs hP hD hS => ?_)
            refine lv_iadd hx hb dX8_read_39 ?_
            refine lv_istore_n (lv' := [(2, .int (x3 + q9.1)), (0, .ref A_q), (1, .ref A_w), (3, .int x3)]) hx hb dX8_read_40 rfl hl (by decide) rfl (fun ls hl => ?_)
            exact B_41_1 (fn_Tokens_read_L9 w_N w_count w_characters n) ih q9.2.1 q9.2.2.1 q9.2.2.2.1 q9.2.2.2.2 (x3 + q9.1) x3 _ _ ls hP hD hS (lv_sub hl [1, 2, 0, 3] rfl) hM
  refine lv_aload_n hx hb dX8_read_0 rfl (lv_at hl 0 rfl) ?_
  refine lv_iconst (v := 0) hx hb dX8_read_1 (by decide) ?_
  refine va_put (D := D) (ci := 8) (v := .int 0) (ty := .int) (C := RX8) (T := TX8) (N := 4) hx hb hts hw0 tyX8 tyX8_ok nmX8 hown hK hP hD hS 0 rfl rfl 3 (by decide) hw1 (fun _ h9 => h9) rfl (by decide +kernel) rfl rfl (Nat.le_of_ble_eq_true rfl) dX8_read_2 (fun H1 locs hP hD hS => ?_)
  have hP : va_P D vwCl [(A_q, .inr (8, [.ref A_q_kinds, .ref A_q_starts, .ref A_q_details, .int 0])), (A_q_kinds, .inl (cI, 80, .inl q_kinds)), (A_q_starts, .inl (cI, 80, .inl q_starts)), (A_q_details, .inl (cI, 80, .inl q_details)), (A_w, .inr (1, [.ref A_w_characters, .int w_count])), (A_w_characters, .inl (cC, w_N, .inl w_characters))] H1 := hP
  have hD : va_D A [(A_q, .inr (8, [.ref A_q_kinds, .ref A_q_starts, .ref A_q_details, .int 0])), (A_q_kinds, .inl (cI, 80, .inl q_kinds)), (A_q_starts, .inl (cI, 80, .inl q_starts)), (A_q_details, .inl (cI, 80, .inl q_details)), (A_w, .inr (1, [.ref A_w_characters, .int w_count])), (A_w_characters, .inl (cC, w_N, .inl w_characters))] := hD
  refine lv_iconst (v := 0) hx hb dX8_read_5 (by decide) ?_
  refine lv_istore_n (lv' := [(2, .int 0), (0, .ref A_q), (1, .ref A_w)]) hx hb dX8_read_6 rfl hl (by decide) rfl (fun ls hl => ?_)
  refine lv_iconst (v := 0) hx hb dX8_read_7 (by decide) ?_
  refine lv_istore_n (lv' := [(3, .int 0), (2, .int 0), (0, .ref A_q), (1, .ref A_w)]) hx hb dX8_read_8 rfl hl (by decide) rfl (fun ls hl => ?_)
  exact L_9_0  zFU 0 q_kinds q_starts q_details 0 0 _ _ ls hP hD hS (lv_sub hl [2, 3, 1, 0] rfl) hM
