set_option maxRecDepth 20000 in
theorem ggX2_evaluate_X9_size : GoodIn wsX2_evaluate wsX9_size := goodIn_r _ [11, 12, 87, 88, 89, 90, 91, 92, 93, 94, 95] rfl (by decide +kernel)
set_option maxRecDepth 20000 in
theorem gX2_evaluate_X9_size : GoodIn wsX2_evaluate (wsV RX2 22 RX9 yX9_size wsX9_size) := goodIn_app (goodIn_of _ (by decide +kernel)) ggX2_evaluate_X9_size
set_option maxRecDepth 20000 in
theorem ggX2_evaluate_X2_valueOfNode : GoodIn wsX2_evaluate wsX2_valueOfNode := goodIn_r _ [17, 18, 19, 20, 10, 21, 22, 23, 24, 25, 26, 12, 27, 28, 29, 30, 31, 32, 33, 34, 35, 36, 37, 38, 39, 16, 40, 2, 41, 42, 43, 44, 45, 46, 47, 48, 49, 1, 50, 51, 52, 53, 54, 55, 56, 57, 58, 59, 60, 61, 62, 63, 64, 65, 66, 67, 68, 69, 70, 5, 71, 72, 73, 74, 75, 3, 4, 6, 76, 77, 78, 79, 80, 81, 82, 83, 87, 88, 89, 90, 91, 92, 93, 94, 95, 84, 85, 86] rfl (by decide +kernel)
set_option maxRecDepth 20000 in
theorem gX2_evaluate_X2_valueOfNode : GoodIn wsX2_evaluate (wsV RX2 34 RX2 yX2_valueOfNode wsX2_valueOfNode) := goodIn_app (goodIn_of _ (by decide +kernel)) ggX2_evaluate_X2_valueOfNode
theorem dX2_evaluate_0 : decode cX2_evaluate 0 = .ok (.aload_n 0, 1) := by decide +kernel
theorem dX2_evaluate_1 : decode cX2_evaluate 1 = .ok (.iconst 0, 1) := by decide +kernel
theorem dX2_evaluate_2 : decode cX2_evaluate 2 = .ok (.putfield 18, 3) := by decide +kernel
theorem dX2_evaluate_5 : decode cX2_evaluate 5 = .ok (.aload_n 1, 1) := by decide +kernel
theorem dX2_evaluate_6 : decode cX2_evaluate 6 = .ok (.invokevirtual 22, 3) := by decide +kernel
theorem dX2_evaluate_9 : decode cX2_evaluate 9 = .ok (.aload_n 0, 1) := by decide +kernel
theorem dX2_evaluate_10 : decode cX2_evaluate 10 = .ok (.getfield 9, 3) := by decide +kernel
theorem dX2_evaluate_13 : decode cX2_evaluate 13 = .ok (.arraylength, 1) := by decide +kernel
theorem dX2_evaluate_14 : decode cX2_evaluate 14 = .ok (.invokestatic 28, 3) := by decide +kernel
theorem dX2_evaluate_17 : decode cX2_evaluate 17 = .ok (.istore_n 3, 1) := by decide +kernel
theorem dX2_evaluate_18 : decode cX2_evaluate 18 = .ok (.iconst 0, 1) := by decide +kernel
theorem dX2_evaluate_19 : decode cX2_evaluate 19 = .ok (.istore 4, 2) := by decide +kernel
theorem dX2_evaluate_21 : decode cX2_evaluate 21 = .ok (.iload 4, 2) := by decide +kernel
theorem dX2_evaluate_23 : decode cX2_evaluate 23 = .ok (.iload_n 3, 1) := by decide +kernel
theorem dX2_evaluate_24 : decode cX2_evaluate 24 = .ok (.if_icmp .ge 31, 3) := by decide +kernel
theorem dX2_evaluate_27 : decode cX2_evaluate 27 = .ok (.aload_n 0, 1) := by decide +kernel
theorem dX2_evaluate_28 : decode cX2_evaluate 28 = .ok (.getfield 18, 3) := by decide +kernel
theorem dX2_evaluate_31 : decode cX2_evaluate 31 = .ok (.ifCond .ne 24, 3) := by decide +kernel
theorem dX2_evaluate_34 : decode cX2_evaluate 34 = .ok (.aload_n 0, 1) := by decide +kernel
theorem dX2_evaluate_35 : decode cX2_evaluate 35 = .ok (.getfield 9, 3) := by decide +kernel
theorem dX2_evaluate_38 : decode cX2_evaluate 38 = .ok (.iload 4, 2) := by decide +kernel
theorem dX2_evaluate_40 : decode cX2_evaluate 40 = .ok (.aload_n 0, 1) := by decide +kernel
theorem dX2_evaluate_41 : decode cX2_evaluate 41 = .ok (.aload_n 1, 1) := by decide +kernel
theorem dX2_evaluate_42 : decode cX2_evaluate 42 = .ok (.iload 4, 2) := by decide +kernel
theorem dX2_evaluate_44 : decode cX2_evaluate 44 = .ok (.aload_n 2, 1) := by decide +kernel
theorem dX2_evaluate_45 : decode cX2_evaluate 45 = .ok (.invokevirtual 34, 3) := by decide +kernel
theorem dX2_evaluate_48 : decode cX2_evaluate 48 = .ok (.lastore, 1) := by decide +kernel
theorem dX2_evaluate_49 : decode cX2_evaluate 49 = .ok (.iinc 4 1, 3) := by decide +kernel
theorem dX2_evaluate_52 : decode cX2_evaluate 52 = .ok (.goto (-31), 3) := by decide +kernel
theorem dX2_evaluate_55 : decode cX2_evaluate 55 = .ok (.aload_n 0, 1) := by decide +kernel
theorem dX2_evaluate_56 : decode cX2_evaluate 56 = .ok (.getfield 18, 3) := by decide +kernel
theorem dX2_evaluate_59 : decode cX2_evaluate 59 = .ok (.ireturn, 1) := by decide +kernel
set_option maxRecDepth 20000 in
theorem ggX2_outcomeOf_X9_linkCount : GoodIn wsX2_outcomeOf wsX9_linkCount := goodIn_r _ [5, 6, 7, 8, 9, 4, 10, 11, 12, 13, 14, 35, 36, 37, 38, 39, 40, 41, 42, 43] rfl (by decide +kernel)
set_option maxRecDepth 20000 in
theorem gX2_outcomeOf_X9_linkCount : GoodIn wsX2_outcomeOf (wsV RX2 38 RX9 yX9_linkCount wsX9_linkCount) := goodIn_app (goodIn_of _ (by decide +kernel)) ggX2_outcomeOf_X9_linkCount
set_option maxRecDepth 20000 in
theorem ggX2_outcomeOf_X9_rootOf : GoodIn wsX2_outcomeOf wsX9_rootOf := goodIn_r _ [18, 6, 19, 35, 36, 37, 38, 39, 40, 41, 42, 43] rfl (by decide +kernel)
set_option maxRecDepth 20000 in
theorem gX2_outcomeOf_X9_rootOf : GoodIn wsX2_outcomeOf (wsV RX2 41 RX9 yX9_rootOf wsX9_rootOf) := goodIn_app (goodIn_of _ (by decide +kernel)) ggX2_outcomeOf_X9_rootOf
set_option maxRecDepth 20000 in
theorem ggX2_outcomeOf_X2_valueAt : GoodIn wsX2_outcomeOf wsX2_valueAt := goodIn_r _ [24, 25, 44, 45, 46] rfl (by decide +kernel)
set_option maxRecDepth 20000 in
theorem gX2_outcomeOf_X2_valueAt : GoodIn wsX2_outcomeOf (wsV RX2 45 RX2 yX2_valueAt wsX2_valueAt) := goodIn_app (goodIn_of _ (by decide +kernel)) ggX2_outcomeOf_X2_valueAt
set_option maxRecDepth 20000 in
theorem ggX2_outcomeOf_X9_sumCount : GoodIn wsX2_outcomeOf wsX9_sumCount := goodIn_r _ [29, 6, 35, 36, 37, 38, 39, 40, 41, 42, 43] rfl (by decide +kernel)
set_option maxRecDepth 20000 in
theorem gX2_outcomeOf_X9_sumCount : GoodIn wsX2_outcomeOf (wsV RX2 49 RX9 yX9_sumCount wsX9_sumCount) := goodIn_app (goodIn_of _ (by decide +kernel)) ggX2_outcomeOf_X9_sumCount
set_option maxRecDepth 20000 in
theorem ggX2_outcomeOf_X9_jointOf : GoodIn wsX2_outcomeOf wsX9_jointOf := goodIn_r _ [10, 6, 11, 35, 36, 37, 38, 39, 40, 41, 42, 43] rfl (by decide +kernel)
set_option maxRecDepth 20000 in
theorem gX2_outcomeOf_X9_jointOf : GoodIn wsX2_outcomeOf (wsV RX2 52 RX9 yX9_jointOf wsX9_jointOf) := goodIn_app (goodIn_of _ (by decide +kernel)) ggX2_outcomeOf_X9_jointOf
set_option maxRecDepth 20000 in
theorem ggX2_outcomeOf_X11_startsLink : GoodIn wsX2_outcomeOf wsX11_startsLink := goodIn_r _ [14] rfl (by decide +kernel)
set_option maxRecDepth 20000 in
theorem gX2_outcomeOf_X11_startsLink_n55 : GoodIn wsX2_outcomeOf (wsX11_startsLink) := ggX2_outcomeOf_X11_startsLink
set_option maxRecDepth 20000 in
theorem ggX2_outcomeOf_X2_holds : GoodIn wsX2_outcomeOf wsX2_holds := goodIn_r _ [34, 15, 16, 17, 4, 18, 6, 19, 20, 21, 22, 23, 24, 25, 30, 8, 9, 10, 11, 35, 36, 37, 38, 39, 40, 41, 42, 43, 44, 45, 46] rfl (by decide +kernel)
set_option maxRecDepth 20000 in
theorem gX2_outcomeOf_X2_holds : GoodIn wsX2_outcomeOf (wsV RX2 59 RX2 yX2_holds wsX2_holds) := goodIn_app (goodIn_of _ (by decide +kernel)) ggX2_outcomeOf_X2_holds
theorem dX2_outcomeOf_0 : decode cX2_outcomeOf 0 = .ok (.aload_n 1, 1) := by decide +kernel
theorem dX2_outcomeOf_1 : decode cX2_outcomeOf 1 = .ok (.invokevirtual 38, 3) := by decide +kernel
theorem dX2_outcomeOf_4 : decode cX2_outcomeOf 4 = .ok (.ifCond .ne 13, 3) := by decide +kernel
theorem dX2_outcomeOf_7 : decode cX2_outcomeOf 7 = .ok (.aload_n 0, 1) := by decide +kernel
theorem dX2_outcomeOf_8 : decode cX2_outcomeOf 8 = .ok (.aload_n 1, 1) := by decide +kernel
theorem dX2_outcomeOf_9 : decode cX2_outcomeOf 9 = .ok (.iconst 0, 1) := by decide +kernel
theorem dX2_outcomeOf_10 : decode cX2_outcomeOf 10 = .ok (.invokevirtual 41, 3) := by decide +kernel
theorem dX2_outcomeOf_13 : decode cX2_outcomeOf 13 = .ok (.invokevirtual 45, 3) := by decide +kernel
theorem dX2_outcomeOf_16 : decode cX2_outcomeOf 16 = .ok (.lreturn, 1) := by decide +kernel
theorem dX2_outcomeOf_17 : decode cX2_outcomeOf 17 = .ok (.iconst 1, 1) := by decide +kernel
theorem dX2_outcomeOf_18 : decode cX2_outcomeOf 18 = .ok (.istore_n 2, 1) := by decide +kernel
theorem dX2_outcomeOf_19 : decode cX2_outcomeOf 19 = .ok (.iconst 1, 1) := by decide +kernel
theorem dX2_outcomeOf_20 : decode cX2_outcomeOf 20 = .ok (.istore_n 3, 1) := by decide +kernel
theorem dX2_outcomeOf_21 : decode cX2_outcomeOf 21 = .ok (.iload_n 3, 1) := by decide +kernel
theorem dX2_outcomeOf_22 : decode cX2_outcomeOf 22 = .ok (.aload_n 1, 1) := by decide +kernel
theorem dX2_outcomeOf_23 : decode cX2_outcomeOf 23 = .ok (.invokevirtual 49, 3) := by decide +kernel
theorem dX2_outcomeOf_26 : decode cX2_outcomeOf 26 = .ok (.if_icmp .ge 39, 3) := by decide +kernel
theorem dX2_outcomeOf_29 : decode cX2_outcomeOf 29 = .ok (.iload_n 2, 1) := by decide +kernel
theorem dX2_outcomeOf_30 : decode cX2_outcomeOf 30 = .ok (.ifCond .eq 27, 3) := by decide +kernel
theorem dX2_outcomeOf_33 : decode cX2_outcomeOf 33 = .ok (.aload_n 1, 1) := by decide +kernel
theorem dX2_outcomeOf_34 : decode cX2_outcomeOf 34 = .ok (.iload_n 3, 1) := by decide +kernel
theorem dX2_outcomeOf_35 : decode cX2_outcomeOf 35 = .ok (.invokevirtual 52, 3) := by decide +kernel
theorem dX2_outcomeOf_38 : decode cX2_outcomeOf 38 = .ok (.invokestatic 55, 3) := by decide +kernel
theorem dX2_outcomeOf_41 : decode cX2_outcomeOf 41 = .ok (.ifCond .eq 12, 3) := by decide +kernel
theorem dX2_outcomeOf_44 : decode cX2_outcomeOf 44 = .ok (.aload_n 0, 1) := by decide +kernel
theorem dX2_outcomeOf_45 : decode cX2_outcomeOf 45 = .ok (.aload_n 1, 1) := by decide +kernel
theorem dX2_outcomeOf_46 : decode cX2_outcomeOf 46 = .ok (.iload_n 3, 1) := by decide +kernel
theorem dX2_outcomeOf_47 : decode cX2_outcomeOf 47 = .ok (.invokevirtual 59, 3) := by decide +kernel
theorem dX2_outcomeOf_50 : decode cX2_outcomeOf 50 = .ok (.ifCond .eq 7, 3) := by decide +kernel
theorem dX2_outcomeOf_53 : decode cX2_outcomeOf 53 = .ok (.iconst 1, 1) := by decide +kernel
theorem dX2_outcomeOf_54 : decode cX2_outcomeOf 54 = .ok (.goto 4, 3) := by decide +kernel
theorem dX2_outcomeOf_57 : decode cX2_outcomeOf 57 = .ok (.iconst 0, 1) := by decide +kernel
theorem dX2_outcomeOf_58 : decode cX2_outcomeOf 58 = .ok (.istore_n 2, 1) := by decide +kernel
theorem dX2_outcomeOf_59 : decode cX2_outcomeOf 59 = .ok (.iinc 3 1, 3) := by decide +kernel
theorem dX2_outcomeOf_62 : decode cX2_outcomeOf 62 = .ok (.goto (-41), 3) := by decide +kernel
theorem dX2_outcomeOf_65 : decode cX2_outcomeOf 65 = .ok (.iload_n 2, 1) := by decide +kernel
theorem dX2_outcomeOf_66 : decode cX2_outcomeOf 66 = .ok (.ifCond .eq 7, 3) := by decide +kernel
theorem dX2_outcomeOf_69 : decode cX2_outcomeOf 69 = .ok (.lconst 1, 1) := by decide +kernel
theorem dX2_outcomeOf_70 : decode cX2_outcomeOf 70 = .ok (.goto 4, 3) := by decide +kernel
theorem dX2_outcomeOf_73 : decode cX2_outcomeOf 73 = .ok (.lconst 0, 1) := by decide +kernel
theorem dX2_outcomeOf_74 : decode cX2_outcomeOf 74 = .ok (.lreturn, 1) := by decide +kernel
set_option maxRecDepth 20000 in
theorem ggX2_holds_X9_rootOf : GoodIn wsX2_holds wsX9_rootOf := goodIn_r _ [5, 6, 7, 19, 20, 21, 22, 23, 24, 25, 26, 27] rfl (by decide +kernel)
set_option maxRecDepth 20000 in
theorem gX2_holds_X9_rootOf : GoodIn wsX2_holds (wsV RX2 41 RX9 yX9_rootOf wsX9_rootOf) := goodIn_app (goodIn_of _ (by decide +kernel)) ggX2_holds_X9_rootOf
set_option maxRecDepth 20000 in
theorem ggX2_holds_X2_valueAt : GoodIn wsX2_holds wsX2_valueAt := goodIn_r _ [12, 13, 28, 29, 30] rfl (by decide +kernel)
set_option maxRecDepth 20000 in
theorem gX2_holds_X2_valueAt : GoodIn wsX2_holds (wsV RX2 45 RX2 yX2_valueAt wsX2_valueAt) := goodIn_app (goodIn_of _ (by decide +kernel)) ggX2_holds_X2_valueAt
set_option maxRecDepth 20000 in
theorem ggX2_holds_X9_jointOf : GoodIn wsX2_holds wsX9_jointOf := goodIn_r _ [17, 6, 18, 19, 20, 21, 22, 23, 24, 25, 26, 27] rfl (by decide +kernel)
set_option maxRecDepth 20000 in
theorem gX2_holds_X9_jointOf : GoodIn wsX2_holds (wsV RX2 52 RX9 yX9_jointOf wsX9_jointOf) := goodIn_app (goodIn_of _ (by decide +kernel)) ggX2_holds_X9_jointOf
theorem dX2_holds_0 : decode cX2_holds 0 = .ok (.aload_n 0, 1) := by decide +kernel
theorem dX2_holds_1 : decode cX2_holds 1 = .ok (.aload_n 1, 1) := by decide +kernel
theorem dX2_holds_2 : decode cX2_holds 2 = .ok (.iload_n 2, 1) := by decide +kernel
theorem dX2_holds_3 : decode cX2_holds 3 = .ok (.iconst 1, 1) := by decide +kernel
theorem dX2_holds_4 : decode cX2_holds 4 = .ok (.isub, 1) := by decide +kernel
theorem dX2_holds_5 : decode cX2_holds 5 = .ok (.invokevirtual 41, 3) := by decide +kernel
theorem dX2_holds_8 : decode cX2_holds 8 = .ok (.invokevirtual 45, 3) := by decide +kernel
theorem dX2_holds_11 : decode cX2_holds 11 = .ok (.lstore_n 3, 1) := by decide +kernel
theorem dX2_holds_12 : decode cX2_holds 12 = .ok (.aload_n 0, 1) := by decide +kernel
theorem dX2_holds_13 : decode cX2_holds 13 = .ok (.aload_n 1, 1) := by decide +kernel
theorem dX2_holds_14 : decode cX2_holds 14 = .ok (.iload_n 2, 1) := by decide +kernel
theorem dX2_holds_15 : decode cX2_holds 15 = .ok (.invokevirtual 41, 3) := by decide +kernel
theorem dX2_holds_18 : decode cX2_holds 18 = .ok (.invokevirtual 45, 3) := by decide +kernel
theorem dX2_holds_21 : decode cX2_holds 21 = .ok (.lstore 5, 2) := by decide +kernel
theorem dX2_holds_23 : decode cX2_holds 23 = .ok (.aload_n 1, 1) := by decide +kernel
theorem dX2_holds_24 : decode cX2_holds 24 = .ok (.iload_n 2, 1) := by decide +kernel
theorem dX2_holds_25 : decode cX2_holds 25 = .ok (.invokevirtual 52, 3) := by decide +kernel
theorem dX2_holds_28 : decode cX2_holds 28 = .ok (.tableswitch 118 14 19 #[40, 53, 66, 79, 92, 105], 40) := by decide +kernel
theorem dX2_holds_68 : decode cX2_holds 68 = .ok (.lload_n 3, 1) := by decide +kernel
theorem dX2_holds_69 : decode cX2_holds 69 = .ok (.lload 5, 2) := by decide +kernel
theorem dX2_holds_71 : decode cX2_holds 71 = .ok (.lcmp, 1) := by decide +kernel
theorem dX2_holds_72 : decode cX2_holds 72 = .ok (.ifCond .ne 7, 3) := by decide +kernel
theorem dX2_holds_75 : decode cX2_holds 75 = .ok (.iconst 1, 1) := by decide +kernel
theorem dX2_holds_76 : decode cX2_holds 76 = .ok (.goto 4, 3) := by decide +kernel
theorem dX2_holds_79 : decode cX2_holds 79 = .ok (.iconst 0, 1) := by decide +kernel
theorem dX2_holds_80 : decode cX2_holds 80 = .ok (.ireturn, 1) := by decide +kernel
theorem dX2_holds_81 : decode cX2_holds 81 = .ok (.lload_n 3, 1) := by decide +kernel
theorem dX2_holds_82 : decode cX2_holds 82 = .ok (.lload 5, 2) := by decide +kernel
theorem dX2_holds_84 : decode cX2_holds 84 = .ok (.lcmp, 1) := by decide +kernel
theorem dX2_holds_85 : decode cX2_holds 85 = .ok (.ifCond .ge 7, 3) := by decide +kernel
theorem dX2_holds_88 : decode cX2_holds 88 = .ok (.iconst 1, 1) := by decide +kernel
theorem dX2_holds_89 : decode cX2_holds 89 = .ok (.goto 4, 3) := by decide +kernel
theorem dX2_holds_92 : decode cX2_holds 92 = .ok (.iconst 0, 1) := by decide +kernel
theorem dX2_holds_93 : decode cX2_holds 93 = .ok (.ireturn, 1) := by decide +kernel
theorem dX2_holds_94 : decode cX2_holds 94 = .ok (.lload_n 3, 1) := by decide +kernel
theorem dX2_holds_95 : decode cX2_holds 95 = .ok (.lload 5, 2) := by decide +kernel
theorem dX2_holds_97 : decode cX2_holds 97 = .ok (.lcmp, 1) := by decide +kernel
theorem dX2_holds_98 : decode cX2_holds 98 = .ok (.ifCond .le 7, 3) := by decide +kernel
theorem dX2_holds_101 : decode cX2_holds 101 = .ok (.iconst 1, 1) := by decide +kernel
theorem dX2_holds_102 : decode cX2_holds 102 = .ok (.goto 4, 3) := by decide +kernel
theorem dX2_holds_105 : decode cX2_holds 105 = .ok (.iconst 0, 1) := by decide +kernel
theorem dX2_holds_106 : decode cX2_holds 106 = .ok (.ireturn, 1) := by decide +kernel
theorem dX2_holds_107 : decode cX2_holds 107 = .ok (.lload_n 3, 1) := by decide +kernel
theorem dX2_holds_108 : decode cX2_holds 108 = .ok (.lload 5, 2) := by decide +kernel
theorem dX2_holds_110 : decode cX2_holds 110 = .ok (.lcmp, 1) := by decide +kernel
theorem dX2_holds_111 : decode cX2_holds 111 = .ok (.ifCond .gt 7, 3) := by decide +kernel
theorem dX2_holds_114 : decode cX2_holds 114 = .ok (.iconst 1, 1) := by decide +kernel
theorem dX2_holds_115 : decode cX2_holds 115 = .ok (.goto 4, 3) := by decide +kernel
theorem dX2_holds_118 : decode cX2_holds 118 = .ok (.iconst 0, 1) := by decide +kernel
theorem dX2_holds_119 : decode cX2_holds 119 = .ok (.ireturn, 1) := by decide +kernel
theorem dX2_holds_120 : decode cX2_holds 120 = .ok (.lload_n 3, 1) := by decide +kernel
theorem dX2_holds_121 : decode cX2_holds 121 = .ok (.lload 5, 2) := by decide +kernel
theorem dX2_holds_123 : decode cX2_holds 123 = .ok (.lcmp, 1) := by decide +kernel
theorem dX2_holds_124 : decode cX2_holds 124 = .ok (.ifCond .lt 7, 3) := by decide +kernel
theorem dX2_holds_127 : decode cX2_holds 127 = .ok (.iconst 1, 1) := by decide +kernel
theorem dX2_holds_128 : decode cX2_holds 128 = .ok (.goto 4, 3) := by decide +kernel
theorem dX2_holds_131 : decode cX2_holds 131 = .ok (.iconst 0, 1) := by decide +kernel
theorem dX2_holds_132 : decode cX2_holds 132 = .ok (.ireturn, 1) := by decide +kernel
theorem dX2_holds_133 : decode cX2_holds 133 = .ok (.lload_n 3, 1) := by decide +kernel
theorem dX2_holds_134 : decode cX2_holds 134 = .ok (.lload 5, 2) := by decide +kernel
theorem dX2_holds_136 : decode cX2_holds 136 = .ok (.lcmp, 1) := by decide +kernel
theorem dX2_holds_137 : decode cX2_holds 137 = .ok (.ifCond .eq 7, 3) := by decide +kernel
theorem dX2_holds_140 : decode cX2_holds 140 = .ok (.iconst 1, 1) := by decide +kernel
theorem dX2_holds_141 : decode cX2_holds 141 = .ok (.goto 4, 3) := by decide +kernel
theorem dX2_holds_144 : decode cX2_holds 144 = .ok (.iconst 0, 1) := by decide +kernel
theorem dX2_holds_145 : decode cX2_holds 145 = .ok (.ireturn, 1) := by decide +kernel
theorem dX2_holds_146 : decode cX2_holds 146 = .ok (.lload 5, 2) := by decide +kernel
theorem dX2_holds_148 : decode cX2_holds 148 = .ok (.lload_n 3, 1) := by decide +kernel
theorem dX2_holds_149 : decode cX2_holds 149 = .ok (.lcmp, 1) := by decide +kernel
theorem dX2_holds_150 : decode cX2_holds 150 = .ok (.ifCond .gt 23, 3) := by decide +kernel
theorem dX2_holds_153 : decode cX2_holds 153 = .ok (.lload_n 3, 1) := by decide +kernel
theorem dX2_holds_154 : decode cX2_holds 154 = .ok (.aload_n 0, 1) := by decide +kernel
theorem dX2_holds_155 : decode cX2_holds 155 = .ok (.aload_n 1, 1) := by decide +kernel
theorem dX2_holds_156 : decode cX2_holds 156 = .ok (.iload_n 2, 1) := by decide +kernel
theorem dX2_holds_157 : decode cX2_holds 157 = .ok (.iconst 1, 1) := by decide +kernel
theorem dX2_holds_158 : decode cX2_holds 158 = .ok (.iadd, 1) := by decide +kernel
theorem dX2_holds_159 : decode cX2_holds 159 = .ok (.invokevirtual 41, 3) := by decide +kernel
theorem dX2_holds_162 : decode cX2_holds 162 = .ok (.invokevirtual 45, 3) := by decide +kernel
theorem dX2_holds_165 : decode cX2_holds 165 = .ok (.lcmp, 1) := by decide +kernel
theorem dX2_holds_166 : decode cX2_holds 166 = .ok (.ifCond .gt 7, 3) := by decide +kernel
theorem dX2_holds_169 : decode cX2_holds 169 = .ok (.iconst 1, 1) := by decide +kernel
theorem dX2_holds_170 : decode cX2_holds 170 = .ok (.goto 4, 3) := by decide +kernel
theorem dX2_holds_173 : decode cX2_holds 173 = .ok (.iconst 0, 1) := by decide +kernel
theorem dX2_holds_174 : decode cX2_holds 174 = .ok (.ireturn, 1) := by decide +kernel
theorem dX2_valueAt_0 : decode cX2_valueAt 0 = .ok (.iload_n 1, 1) := by decide +kernel
theorem dX2_valueAt_1 : decode cX2_valueAt 1 = .ok (.ifCond .lt 21, 3) := by decide +kernel
theorem dX2_valueAt_4 : decode cX2_valueAt 4 = .ok (.iload_n 1, 1) := by decide +kernel
theorem dX2_valueAt_5 : decode cX2_valueAt 5 = .ok (.aload_n 0, 1) := by decide +kernel
theorem dX2_valueAt_6 : decode cX2_valueAt 6 = .ok (.getfield 9, 3) := by decide +kernel
theorem dX2_valueAt_9 : decode cX2_valueAt 9 = .ok (.arraylength, 1) := by decide +kernel
theorem dX2_valueAt_10 : decode cX2_valueAt 10 = .ok (.if_icmp .ge 12, 3) := by decide +kernel
theorem dX2_valueAt_13 : decode cX2_valueAt 13 = .ok (.aload_n 0, 1) := by decide +kernel
theorem dX2_valueAt_14 : decode cX2_valueAt 14 = .ok (.getfield 9, 3) := by decide +kernel
theorem dX2_valueAt_17 : decode cX2_valueAt 17 = .ok (.iload_n 1, 1) := by decide +kernel
theorem dX2_valueAt_18 : decode cX2_valueAt 18 = .ok (.laload, 1) := by decide +kernel
theorem dX2_valueAt_19 : decode cX2_valueAt 19 = .ok (.goto 4, 3) := by decide +kernel
theorem dX2_valueAt_22 : decode cX2_valueAt 22 = .ok (.lconst 0, 1) := by decide +kernel
theorem dX2_valueAt_23 : decode cX2_valueAt 23 = .ok (.lreturn, 1) := by decide +kernel
set_option maxRecDepth 20000 in
theorem ggX2_valueOfNode_X9_kindOf : GoodIn wsX2_valueOfNode wsX9_kindOf := goodIn_r _ [5, 6, 7, 8, 9, 4, 10, 11, 76, 77, 78, 79, 80, 81, 82, 83, 84] rfl (by decide +kernel)
set_option maxRecDepth 20000 in
theorem gX2_valueOfNode_X9_kindOf : GoodIn wsX2_valueOfNode (wsV RX2 63 RX9 yX9_kindOf wsX9_kindOf) := goodIn_app (goodIn_of _ (by decide +kernel)) ggX2_valueOfNode_X9_kindOf
set_option maxRecDepth 20000 in
theorem ggX2_valueOfNode_X9_detailOf : GoodIn wsX2_valueOfNode wsX9_detailOf := goodIn_r _ [15, 16, 7, 8, 9, 4, 10, 11, 76, 77, 78, 79, 80, 81, 82, 83, 84] rfl (by decide +kernel)
set_option maxRecDepth 20000 in
theorem gX2_valueOfNode_X9_detailOf : GoodIn wsX2_valueOfNode (wsV RX2 66 RX9 yX9_detailOf wsX9_detailOf) := goodIn_app (goodIn_of _ (by decide +kernel)) ggX2_valueOfNode_X9_detailOf
set_option maxRecDepth 20000 in
theorem ggX2_valueOfNode_X9_leftOf : GoodIn wsX2_valueOfNode wsX9_leftOf := goodIn_r _ [20, 21, 7, 8, 9, 4, 10, 11, 76, 77, 78, 79, 80, 81, 82, 83, 84] rfl (by decide +kernel)
set_option maxRecDepth 20000 in
theorem gX2_valueOfNode_X9_leftOf : GoodIn wsX2_valueOfNode (wsV RX2 69 RX9 yX9_leftOf wsX9_leftOf) := goodIn_app (goodIn_of _ (by decide +kernel)) ggX2_valueOfNode_X9_leftOf
set_option maxRecDepth 20000 in
theorem ggX2_valueOfNode_X2_valueAt : GoodIn wsX2_valueOfNode wsX2_valueAt := goodIn_r _ [26, 27, 85, 86, 87] rfl (by decide +kernel)
set_option maxRecDepth 20000 in
theorem gX2_valueOfNode_X2_valueAt : GoodIn wsX2_valueOfNode (wsV RX2 45 RX2 yX2_valueAt wsX2_valueAt) := goodIn_app (goodIn_of _ (by decide +kernel)) ggX2_valueOfNode_X2_valueAt
set_option maxRecDepth 20000 in
theorem ggX2_valueOfNode_X9_rightOf : GoodIn wsX2_valueOfNode wsX9_rightOf := goodIn_r _ [31, 32, 7, 8, 9, 4, 10, 11, 76, 77, 78, 79, 80, 81, 82, 83, 84] rfl (by decide +kernel)
set_option maxRecDepth 20000 in
theorem gX2_valueOfNode_X9_rightOf : GoodIn wsX2_valueOfNode (wsV RX2 72 RX9 yX9_rightOf wsX9_rightOf) := goodIn_app (goodIn_of _ (by decide +kernel)) ggX2_valueOfNode_X9_rightOf
set_option maxRecDepth 20000 in
theorem ggX2_valueOfNode_X2_add : GoodIn wsX2_valueOfNode wsX2_add := goodIn_r _ [36, 37, 85, 86, 87] rfl (by decide +kernel)
set_option maxRecDepth 20000 in
theorem gX2_valueOfNode_X2_add : GoodIn wsX2_valueOfNode (wsV RX2 75 RX2 yX2_add wsX2_add) := goodIn_app (goodIn_of _ (by decide +kernel)) ggX2_valueOfNode_X2_add
set_option maxRecDepth 20000 in
theorem ggX2_valueOfNode_X2_subtract : GoodIn wsX2_valueOfNode wsX2_subtract := goodIn_r _ [41, 37, 85, 86, 87] rfl (by decide +kernel)
set_option maxRecDepth 20000 in
theorem gX2_valueOfNode_X2_subtract : GoodIn wsX2_valueOfNode (wsV RX2 79 RX2 yX2_subtract wsX2_subtract) := goodIn_app (goodIn_of _ (by decide +kernel)) ggX2_valueOfNode_X2_subtract
set_option maxRecDepth 20000 in
theorem ggX2_valueOfNode_X2_multiply : GoodIn wsX2_valueOfNode wsX2_multiply := goodIn_r _ [45, 46, 47, 37, 85, 86, 87] rfl (by decide +kernel)
set_option maxRecDepth 20000 in
theorem gX2_valueOfNode_X2_multiply : GoodIn wsX2_valueOfNode (wsV RX2 82 RX2 yX2_multiply wsX2_multiply) := goodIn_app (goodIn_of _ (by decide +kernel)) ggX2_valueOfNode_X2_multiply
set_option maxRecDepth 20000 in
theorem ggX2_valueOfNode_X2_divide : GoodIn wsX2_valueOfNode wsX2_divide := goodIn_r _ [51, 37, 47, 46, 85, 86, 87] rfl (by decide +kernel)
set_option maxRecDepth 20000 in
theorem gX2_valueOfNode_X2_divide : GoodIn wsX2_valueOfNode (wsV RX2 85 RX2 yX2_divide wsX2_divide) := goodIn_app (goodIn_of _ (by decide +kernel)) ggX2_valueOfNode_X2_divide
set_option maxRecDepth 20000 in
theorem ggX2_valueOfNode_X2_raise : GoodIn wsX2_valueOfNode wsX2_raise := goodIn_r _ [55, 37, 46, 56, 57, 58, 59, 60, 42, 43, 44, 25, 45, 47, 85, 86, 87] rfl (by decide +kernel)
set_option maxRecDepth 20000 in
theorem gX2_valueOfNode_X2_raise : GoodIn wsX2_valueOfNode (wsV RX2 88 RX2 yX2_raise wsX2_raise) := goodIn_app (goodIn_of _ (by decide +kernel)) ggX2_valueOfNode_X2_raise
set_option maxRecDepth 20000 in
theorem ggX2_valueOfNode_X2_applyPrimed : GoodIn wsX2_valueOfNode wsX2_applyPrimed := goodIn_r _ [64, 65, 66, 59, 67, 68, 69, 70, 71, 33, 34, 35, 25, 36, 37, 72, 73, 74, 75, 46, 38, 39, 40, 41, 42, 43, 44, 45, 47, 85, 86, 87] rfl (by decide +kernel)
set_option maxRecDepth 20000 in
theorem gX2_valueOfNode_X2_applyPrimed : GoodIn wsX2_valueOfNode (wsV RX2 91 RX2 yX2_applyPrimed wsX2_applyPrimed) := goodIn_app (goodIn_of _ (by decide +kernel)) ggX2_valueOfNode_X2_applyPrimed
theorem dX2_valueOfNode_0 : decode cX2_valueOfNode 0 = .ok (.aload_n 1, 1) := by decide +kernel
theorem dX2_valueOfNode_1 : decode cX2_valueOfNode 1 = .ok (.iload_n 2, 1) := by decide +kernel
theorem dX2_valueOfNode_2 : decode cX2_valueOfNode 2 = .ok (.invokevirtual 63, 3) := by decide +kernel
theorem dX2_valueOfNode_5 : decode cX2_valueOfNode 5 = .ok (.istore 4, 2) := by decide +kernel
theorem dX2_valueOfNode_7 : decode cX2_valueOfNode 7 = .ok (.aload_n 1, 1) := by decide +kernel
theorem dX2_valueOfNode_8 : decode cX2_valueOfNode 8 = .ok (.iload_n 2, 1) := by decide +kernel
theorem dX2_valueOfNode_9 : decode cX2_valueOfNode 9 = .ok (.invokevirtual 66, 3) := by decide +kernel
theorem dX2_valueOfNode_12 : decode cX2_valueOfNode 12 = .ok (.istore 5, 2) := by decide +kernel
theorem dX2_valueOfNode_14 : decode cX2_valueOfNode 14 = .ok (.aload_n 0, 1) := by decide +kernel
theorem dX2_valueOfNode_15 : decode cX2_valueOfNode 15 = .ok (.aload_n 1, 1) := by decide +kernel
theorem dX2_valueOfNode_16 : decode cX2_valueOfNode 16 = .ok (.iload_n 2, 1) := by decide +kernel
theorem dX2_valueOfNode_17 : decode cX2_valueOfNode 17 = .ok (.invokevirtual 69, 3) := by decide +kernel
theorem dX2_valueOfNode_20 : decode cX2_valueOfNode 20 = .ok (.invokevirtual 45, 3) := by decide +kernel
theorem dX2_valueOfNode_23 : decode cX2_valueOfNode 23 = .ok (.lstore 6, 2) := by decide +kernel
theorem dX2_valueOfNode_25 : decode cX2_valueOfNode 25 = .ok (.aload_n 0, 1) := by decide +kernel
theorem dX2_valueOfNode_26 : decode cX2_valueOfNode 26 = .ok (.aload_n 1, 1) := by decide +kernel
theorem dX2_valueOfNode_27 : decode cX2_valueOfNode 27 = .ok (.iload_n 2, 1) := by decide +kernel
theorem dX2_valueOfNode_28 : decode cX2_valueOfNode 28 = .ok (.invokevirtual 72, 3) := by decide +kernel
theorem dX2_valueOfNode_31 : decode cX2_valueOfNode 31 = .ok (.invokevirtual 45, 3) := by decide +kernel
theorem dX2_valueOfNode_34 : decode cX2_valueOfNode 34 = .ok (.lstore 8, 2) := by decide +kernel
theorem dX2_valueOfNode_36 : decode cX2_valueOfNode 36 = .ok (.iload 4, 2) := by decide +kernel
theorem dX2_valueOfNode_38 : decode cX2_valueOfNode 38 = .ok (.tableswitch 145 1 13 #[66, 70, 145, 145, 145, 145, 92, 101, 110, 119, 128, 110, 137], 66) := by decide +kernel
theorem dX2_valueOfNode_104 : decode cX2_valueOfNode 104 = .ok (.iload 5, 2) := by decide +kernel
theorem dX2_valueOfNode_106 : decode cX2_valueOfNode 106 = .ok (.i2l, 1) := by decide +kernel
theorem dX2_valueOfNode_107 : decode cX2_valueOfNode 107 = .ok (.lreturn, 1) := by decide +kernel
theorem dX2_valueOfNode_108 : decode cX2_valueOfNode 108 = .ok (.iload 5, 2) := by decide +kernel
theorem dX2_valueOfNode_110 : decode cX2_valueOfNode 110 = .ok (.ifCond .lt 18, 3) := by decide +kernel
theorem dX2_valueOfNode_113 : decode cX2_valueOfNode 113 = .ok (.iload 5, 2) := by decide +kernel
theorem dX2_valueOfNode_115 : decode cX2_valueOfNode 115 = .ok (.aload_n 3, 1) := by decide +kernel
theorem dX2_valueOfNode_116 : decode cX2_valueOfNode 116 = .ok (.arraylength, 1) := by decide +kernel
theorem dX2_valueOfNode_117 : decode cX2_valueOfNode 117 = .ok (.if_icmp .ge 11, 3) := by decide +kernel
theorem dX2_valueOfNode_120 : decode cX2_valueOfNode 120 = .ok (.aload_n 3, 1) := by decide +kernel
theorem dX2_valueOfNode_121 : decode cX2_valueOfNode 121 = .ok (.iload 5, 2) := by decide +kernel
theorem dX2_valueOfNode_123 : decode cX2_valueOfNode 123 = .ok (.iaload, 1) := by decide +kernel
theorem dX2_valueOfNode_124 : decode cX2_valueOfNode 124 = .ok (.i2l, 1) := by decide +kernel
theorem dX2_valueOfNode_125 : decode cX2_valueOfNode 125 = .ok (.goto 4, 3) := by decide +kernel
theorem dX2_valueOfNode_128 : decode cX2_valueOfNode 128 = .ok (.lconst 0, 1) := by decide +kernel
theorem dX2_valueOfNode_129 : decode cX2_valueOfNode 129 = .ok (.lreturn, 1) := by decide +kernel
theorem dX2_valueOfNode_130 : decode cX2_valueOfNode 130 = .ok (.aload_n 0, 1) := by decide +kernel
theorem dX2_valueOfNode_131 : decode cX2_valueOfNode 131 = .ok (.lload 6, 2) := by decide +kernel
theorem dX2_valueOfNode_133 : decode cX2_valueOfNode 133 = .ok (.lload 8, 2) := by decide +kernel
theorem dX2_valueOfNode_135 : decode cX2_valueOfNode 135 = .ok (.invokevirtual 75, 3) := by decide +kernel
theorem dX2_valueOfNode_138 : decode cX2_valueOfNode 138 = .ok (.lreturn, 1) := by decide +kernel
theorem dX2_valueOfNode_139 : decode cX2_valueOfNode 139 = .ok (.aload_n 0, 1) := by decide +kernel
theorem dX2_valueOfNode_140 : decode cX2_valueOfNode 140 = .ok (.lload 6, 2) := by decide +kernel
theorem dX2_valueOfNode_142 : decode cX2_valueOfNode 142 = .ok (.lload 8, 2) := by decide +kernel
theorem dX2_valueOfNode_144 : decode cX2_valueOfNode 144 = .ok (.invokevirtual 79, 3) := by decide +kernel
theorem dX2_valueOfNode_147 : decode cX2_valueOfNode 147 = .ok (.lreturn, 1) := by decide +kernel
theorem dX2_valueOfNode_148 : decode cX2_valueOfNode 148 = .ok (.aload_n 0, 1) := by decide +kernel
theorem dX2_valueOfNode_149 : decode cX2_valueOfNode 149 = .ok (.lload 6, 2) := by decide +kernel
theorem dX2_valueOfNode_151 : decode cX2_valueOfNode 151 = .ok (.lload 8, 2) := by decide +kernel
theorem dX2_valueOfNode_153 : decode cX2_valueOfNode 153 = .ok (.invokevirtual 82, 3) := by decide +kernel
theorem dX2_valueOfNode_156 : decode cX2_valueOfNode 156 = .ok (.lreturn, 1) := by decide +kernel
theorem dX2_valueOfNode_157 : decode cX2_valueOfNode 157 = .ok (.aload_n 0, 1) := by decide +kernel
theorem dX2_valueOfNode_158 : decode cX2_valueOfNode 158 = .ok (.lload 6, 2) := by decide +kernel
theorem dX2_valueOfNode_160 : decode cX2_valueOfNode 160 = .ok (.lload 8, 2) := by decide +kernel
theorem dX2_valueOfNode_162 : decode cX2_valueOfNode 162 = .ok (.invokevirtual 85, 3) := by decide +kernel
theorem dX2_valueOfNode_165 : decode cX2_valueOfNode 165 = .ok (.lreturn, 1) := by decide +kernel
theorem dX2_valueOfNode_166 : decode cX2_valueOfNode 166 = .ok (.aload_n 0, 1) := by decide +kernel
theorem dX2_valueOfNode_167 : decode cX2_valueOfNode 167 = .ok (.lload 6, 2) := by decide +kernel
theorem dX2_valueOfNode_169 : decode cX2_valueOfNode 169 = .ok (.lload 8, 2) := by decide +kernel
theorem dX2_valueOfNode_171 : decode cX2_valueOfNode 171 = .ok (.invokevirtual 88, 3) := by decide +kernel
theorem dX2_valueOfNode_174 : decode cX2_valueOfNode 174 = .ok (.lreturn, 1) := by decide +kernel
theorem dX2_valueOfNode_175 : decode cX2_valueOfNode 175 = .ok (.aload_n 0, 1) := by decide +kernel
theorem dX2_valueOfNode_176 : decode cX2_valueOfNode 176 = .ok (.lconst 0, 1) := by decide +kernel
theorem dX2_valueOfNode_177 : decode cX2_valueOfNode 177 = .ok (.lload 6, 2) := by decide +kernel
theorem dX2_valueOfNode_179 : decode cX2_valueOfNode 179 = .ok (.invokevirtual 79, 3) := by decide +kernel
theorem dX2_valueOfNode_182 : decode cX2_valueOfNode 182 = .ok (.lreturn, 1) := by decide +kernel
theorem dX2_valueOfNode_183 : decode cX2_valueOfNode 183 = .ok (.aload_n 0, 1) := by decide +kernel
theorem dX2_valueOfNode_184 : decode cX2_valueOfNode 184 = .ok (.iload 4, 2) := by decide +kernel
theorem dX2_valueOfNode_186 : decode cX2_valueOfNode 186 = .ok (.iload 5, 2) := by decide +kernel
theorem dX2_valueOfNode_188 : decode cX2_valueOfNode 188 = .ok (.lload 6, 2) := by decide +kernel
theorem dX2_valueOfNode_190 : decode cX2_valueOfNode 190 = .ok (.invokevirtual 91, 3) := by decide +kernel
theorem dX2_valueOfNode_193 : decode cX2_valueOfNode 193 = .ok (.lreturn, 1) := by decide +kernel
theorem dX2_add_0 : decode cX2_add 0 = .ok (.lload_n 1, 1) := by decide +kernel
theorem dX2_add_1 : decode cX2_add 1 = .ok (.lload_n 3, 1) := by decide +kernel
theorem dX2_add_2 : decode cX2_add 2 = .ok (.ladd, 1) := by decide +kernel
theorem dX2_add_3 : decode cX2_add 3 = .ok (.lstore 5, 2) := by decide +kernel
theorem dX2_add_5 : decode cX2_add 5 = .ok (.lload_n 1, 1) := by decide +kernel
theorem dX2_add_6 : decode cX2_add 6 = .ok (.lload 5, 2) := by decide +kernel
theorem dX2_add_8 : decode cX2_add 8 = .ok (.lxor, 1) := by decide +kernel
theorem dX2_add_9 : decode cX2_add 9 = .ok (.lload_n 3, 1) := by decide +kernel
theorem dX2_add_10 : decode cX2_add 10 = .ok (.lload 5, 2) := by decide +kernel
theorem dX2_add_12 : decode cX2_add 12 = .ok (.lxor, 1) := by decide +kernel
theorem dX2_add_13 : decode cX2_add 13 = .ok (.land, 1) := by decide +kernel
theorem dX2_add_14 : decode cX2_add 14 = .ok (.lconst 0, 1) := by decide +kernel
theorem dX2_add_15 : decode cX2_add 15 = .ok (.lcmp, 1) := by decide +kernel
theorem dX2_add_16 : decode cX2_add 16 = .ok (.ifCond .ge 8, 3) := by decide +kernel
theorem dX2_add_19 : decode cX2_add 19 = .ok (.aload_n 0, 1) := by decide +kernel
theorem dX2_add_20 : decode cX2_add 20 = .ok (.iconst 1, 1) := by decide +kernel
theorem dX2_add_21 : decode cX2_add 21 = .ok (.putfield 18, 3) := by decide +kernel
theorem dX2_add_24 : decode cX2_add 24 = .ok (.lload 5, 2) := by decide +kernel
theorem dX2_add_26 : decode cX2_add 26 = .ok (.lreturn, 1) := by decide +kernel
theorem dX2_subtract_0 : decode cX2_subtract 0 = .ok (.lload_n 1, 1) := by decide +kernel
theorem dX2_subtract_1 : decode cX2_subtract 1 = .ok (.lload_n 3, 1) := by decide +kernel
theorem dX2_subtract_2 : decode cX2_subtract 2 = .ok (.lsub, 1) := by decide +kernel
theorem dX2_subtract_3 : decode cX2_subtract 3 = .ok (.lstore 5, 2) := by decide +kernel
theorem dX2_subtract_5 : decode cX2_subtract 5 = .ok (.lload_n 1, 1) := by decide +kernel
theorem dX2_subtract_6 : decode cX2_subtract 6 = .ok (.lload_n 3, 1) := by decide +kernel
theorem dX2_subtract_7 : decode cX2_subtract 7 = .ok (.lxor, 1) := by decide +kernel
theorem dX2_subtract_8 : decode cX2_subtract 8 = .ok (.lload_n 1, 1) := by decide +kernel
theorem dX2_subtract_9 : decode cX2_subtract 9 = .ok (.lload 5, 2) := by decide +kernel
theorem dX2_subtract_11 : decode cX2_subtract 11 = .ok (.lxor, 1) := by decide +kernel
theorem dX2_subtract_12 : decode cX2_subtract 12 = .ok (.land, 1) := by decide +kernel
theorem dX2_subtract_13 : decode cX2_subtract 13 = .ok (.lconst 0, 1) := by decide +kernel
theorem dX2_subtract_14 : decode cX2_subtract 14 = .ok (.lcmp, 1) := by decide +kernel
theorem dX2_subtract_15 : decode cX2_subtract 15 = .ok (.ifCond .ge 8, 3) := by decide +kernel
theorem dX2_subtract_18 : decode cX2_subtract 18 = .ok (.aload_n 0, 1) := by decide +kernel
theorem dX2_subtract_19 : decode cX2_subtract 19 = .ok (.iconst 1, 1) := by decide +kernel
theorem dX2_subtract_20 : decode cX2_subtract 20 = .ok (.putfield 18, 3) := by decide +kernel
theorem dX2_subtract_23 : decode cX2_subtract 23 = .ok (.lload 5, 2) := by decide +kernel
theorem dX2_subtract_25 : decode cX2_subtract 25 = .ok (.lreturn, 1) := by decide +kernel
theorem dX2_multiply_0 : decode cX2_multiply 0 = .ok (.lload_n 1, 1) := by decide +kernel
theorem dX2_multiply_1 : decode cX2_multiply 1 = .ok (.lload_n 3, 1) := by decide +kernel
theorem dX2_multiply_2 : decode cX2_multiply 2 = .ok (.lmul, 1) := by decide +kernel
theorem dX2_multiply_3 : decode cX2_multiply 3 = .ok (.lstore 5, 2) := by decide +kernel
theorem dX2_multiply_5 : decode cX2_multiply 5 = .ok (.lload_n 1, 1) := by decide +kernel
theorem dX2_multiply_6 : decode cX2_multiply 6 = .ok (.lconst 0, 1) := by decide +kernel
theorem dX2_multiply_7 : decode cX2_multiply 7 = .ok (.lcmp, 1) := by decide +kernel
theorem dX2_multiply_8 : decode cX2_multiply 8 = .ok (.ifCond .eq 31, 3) := by decide +kernel
theorem dX2_multiply_11 : decode cX2_multiply 11 = .ok (.lload_n 1, 1) := by decide +kernel
theorem dX2_multiply_12 : decode cX2_multiply 12 = .ok (.ldc2_w 95, 3) := by decide +kernel
theorem dX2_multiply_15 : decode cX2_multiply 15 = .ok (.lcmp, 1) := by decide +kernel
theorem dX2_multiply_16 : decode cX2_multiply 16 = .ok (.ifCond .ne 14, 3) := by decide +kernel
theorem dX2_multiply_19 : decode cX2_multiply 19 = .ok (.lload_n 3, 1) := by decide +kernel
theorem dX2_multiply_20 : decode cX2_multiply 20 = .ok (.ldc2_w 97, 3) := by decide +kernel
theorem dX2_multiply_23 : decode cX2_multiply 23 = .ok (.lcmp, 1) := by decide +kernel
theorem dX2_multiply_24 : decode cX2_multiply 24 = .ok (.ifCond .eq 19, 3) := by decide +kernel
theorem dX2_multiply_27 : decode cX2_multiply 27 = .ok (.goto 12, 3) := by decide +kernel
theorem dX2_multiply_30 : decode cX2_multiply 30 = .ok (.lload 5, 2) := by decide +kernel
theorem dX2_multiply_32 : decode cX2_multiply 32 = .ok (.lload_n 1, 1) := by decide +kernel
theorem dX2_multiply_33 : decode cX2_multiply 33 = .ok (.ldiv, 1) := by decide +kernel
theorem dX2_multiply_34 : decode cX2_multiply 34 = .ok (.lload_n 3, 1) := by decide +kernel
theorem dX2_multiply_35 : decode cX2_multiply 35 = .ok (.lcmp, 1) := by decide +kernel
theorem dX2_multiply_36 : decode cX2_multiply 36 = .ok (.ifCond .ne 7, 3) := by decide +kernel
theorem dX2_multiply_39 : decode cX2_multiply 39 = .ok (.iconst 1, 1) := by decide +kernel
theorem dX2_multiply_40 : decode cX2_multiply 40 = .ok (.goto 4, 3) := by decide +kernel
theorem dX2_multiply_43 : decode cX2_multiply 43 = .ok (.iconst 0, 1) := by decide +kernel
theorem dX2_multiply_44 : decode cX2_multiply 44 = .ok (.istore 7, 2) := by decide +kernel
theorem dX2_multiply_46 : decode cX2_multiply 46 = .ok (.iload 7, 2) := by decide +kernel
theorem dX2_multiply_48 : decode cX2_multiply 48 = .ok (.ifCond .ne 8, 3) := by decide +kernel
theorem dX2_multiply_51 : decode cX2_multiply 51 = .ok (.aload_n 0, 1) := by decide +kernel
theorem dX2_multiply_52 : decode cX2_multiply 52 = .ok (.iconst 1, 1) := by decide +kernel
theorem dX2_multiply_53 : decode cX2_multiply 53 = .ok (.putfield 18, 3) := by decide +kernel
theorem dX2_multiply_56 : decode cX2_multiply 56 = .ok (.lload 5, 2) := by decide +kernel
theorem dX2_multiply_58 : decode cX2_multiply 58 = .ok (.lreturn, 1) := by decide +kernel
theorem dX2_divide_0 : decode cX2_divide 0 = .ok (.lload_n 3, 1) := by decide +kernel
theorem dX2_divide_1 : decode cX2_divide 1 = .ok (.lconst 0, 1) := by decide +kernel
theorem dX2_divide_2 : decode cX2_divide 2 = .ok (.lcmp, 1) := by decide +kernel
theorem dX2_divide_3 : decode cX2_divide 3 = .ok (.ifCond .ne 10, 3) := by decide +kernel
theorem dX2_divide_6 : decode cX2_divide 6 = .ok (.aload_n 0, 1) := by decide +kernel
theorem dX2_divide_7 : decode cX2_divide 7 = .ok (.iconst 2, 1) := by decide +kernel
theorem dX2_divide_8 : decode cX2_divide 8 = .ok (.putfield 18, 3) := by decide +kernel
theorem dX2_divide_11 : decode cX2_divide 11 = .ok (.lconst 0, 1) := by decide +kernel
theorem dX2_divide_12 : decode cX2_divide 12 = .ok (.lreturn, 1) := by decide +kernel
theorem dX2_divide_13 : decode cX2_divide 13 = .ok (.lload_n 1, 1) := by decide +kernel
theorem dX2_divide_14 : decode cX2_divide 14 = .ok (.ldc2_w 97, 3) := by decide +kernel
theorem dX2_divide_17 : decode cX2_divide 17 = .ok (.lcmp, 1) := by decide +kernel
theorem dX2_divide_18 : decode cX2_divide 18 = .ok (.ifCond .ne 18, 3) := by decide +kernel
theorem dX2_divide_21 : decode cX2_divide 21 = .ok (.lload_n 3, 1) := by decide +kernel
theorem dX2_divide_22 : decode cX2_divide 22 = .ok (.ldc2_w 95, 3) := by decide +kernel
theorem dX2_divide_25 : decode cX2_divide 25 = .ok (.lcmp, 1) := by decide +kernel
theorem dX2_divide_26 : decode cX2_divide 26 = .ok (.ifCond .ne 10, 3) := by decide +kernel
theorem dX2_divide_29 : decode cX2_divide 29 = .ok (.aload_n 0, 1) := by decide +kernel
theorem dX2_divide_30 : decode cX2_divide 30 = .ok (.iconst 1, 1) := by decide +kernel
theorem dX2_divide_31 : decode cX2_divide 31 = .ok (.putfield 18, 3) := by decide +kernel
theorem dX2_divide_34 : decode cX2_divide 34 = .ok (.lconst 0, 1) := by decide +kernel
theorem dX2_divide_35 : decode cX2_divide 35 = .ok (.lreturn, 1) := by decide +kernel
theorem dX2_divide_36 : decode cX2_divide 36 = .ok (.lload_n 1, 1) := by decide +kernel
theorem dX2_divide_37 : decode cX2_divide 37 = .ok (.lload_n 3, 1) := by decide +kernel
theorem dX2_divide_38 : decode cX2_divide 38 = .ok (.ldiv, 1) := by decide +kernel
theorem dX2_divide_39 : decode cX2_divide 39 = .ok (.lreturn, 1) := by decide +kernel
set_option maxRecDepth 20000 in
theorem ggX2_raise_X2_multiply : GoodIn wsX2_raise wsX2_multiply := goodIn_r _ [12, 2, 13, 1, 14, 15, 16] rfl (by decide +kernel)
set_option maxRecDepth 20000 in
theorem gX2_raise_X2_multiply : GoodIn wsX2_raise (wsV RX2 82 RX2 yX2_multiply wsX2_multiply) := goodIn_app (goodIn_of _ (by decide +kernel)) ggX2_raise_X2_multiply
theorem dX2_raise_0 : decode cX2_raise 0 = .ok (.lload_n 3, 1) := by decide +kernel
theorem dX2_raise_1 : decode cX2_raise 1 = .ok (.lconst 0, 1) := by decide +kernel
theorem dX2_raise_2 : decode cX2_raise 2 = .ok (.lcmp, 1) := by decide +kernel
theorem dX2_raise_3 : decode cX2_raise 3 = .ok (.ifCond .ge 10, 3) := by decide +kernel
theorem dX2_raise_6 : decode cX2_raise 6 = .ok (.aload_n 0, 1) := by decide +kernel
theorem dX2_raise_7 : decode cX2_raise 7 = .ok (.iconst 3, 1) := by decide +kernel
theorem dX2_raise_8 : decode cX2_raise 8 = .ok (.putfield 18, 3) := by decide +kernel
theorem dX2_raise_11 : decode cX2_raise 11 = .ok (.lconst 0, 1) := by decide +kernel
theorem dX2_raise_12 : decode cX2_raise 12 = .ok (.lreturn, 1) := by decide +kernel
theorem dX2_raise_13 : decode cX2_raise 13 = .ok (.lload_n 3, 1) := by decide +kernel
theorem dX2_raise_14 : decode cX2_raise 14 = .ok (.lconst 0, 1) := by decide +kernel
theorem dX2_raise_15 : decode cX2_raise 15 = .ok (.lcmp, 1) := by decide +kernel
theorem dX2_raise_16 : decode cX2_raise 16 = .ok (.ifCond .eq 9, 3) := by decide +kernel
theorem dX2_raise_19 : decode cX2_raise 19 = .ok (.lload_n 1, 1) := by decide +kernel
theorem dX2_raise_20 : decode cX2_raise 20 = .ok (.lconst 1, 1) := by decide +kernel
theorem dX2_raise_21 : decode cX2_raise 21 = .ok (.lcmp, 1) := by decide +kernel
theorem dX2_raise_22 : decode cX2_raise 22 = .ok (.ifCond .ne 5, 3) := by decide +kernel
theorem dX2_raise_25 : decode cX2_raise 25 = .ok (.lconst 1, 1) := by decide +kernel
theorem dX2_raise_26 : decode cX2_raise 26 = .ok (.lreturn, 1) := by decide +kernel
theorem dX2_raise_27 : decode cX2_raise 27 = .ok (.lload_n 1, 1) := by decide +kernel
theorem dX2_raise_28 : decode cX2_raise 28 = .ok (.lconst 0, 1) := by decide +kernel
theorem dX2_raise_29 : decode cX2_raise 29 = .ok (.lcmp, 1) := by decide +kernel
theorem dX2_raise_30 : decode cX2_raise 30 = .ok (.ifCond .ne 5, 3) := by decide +kernel
theorem dX2_raise_33 : decode cX2_raise 33 = .ok (.lconst 0, 1) := by decide +kernel
theorem dX2_raise_34 : decode cX2_raise 34 = .ok (.lreturn, 1) := by decide +kernel
theorem dX2_raise_35 : decode cX2_raise 35 = .ok (.lload_n 1, 1) := by decide +kernel
theorem dX2_raise_36 : decode cX2_raise 36 = .ok (.ldc2_w 95, 3) := by decide +kernel
theorem dX2_raise_39 : decode cX2_raise 39 = .ok (.lcmp, 1) := by decide +kernel
theorem dX2_raise_40 : decode cX2_raise 40 = .ok (.ifCond .ne 19, 3) := by decide +kernel
theorem dX2_raise_43 : decode cX2_raise 43 = .ok (.lload_n 3, 1) := by decide +kernel
theorem dX2_raise_44 : decode cX2_raise 44 = .ok (.lconst 1, 1) := by decide +kernel
theorem dX2_raise_45 : decode cX2_raise 45 = .ok (.land, 1) := by decide +kernel
theorem dX2_raise_46 : decode cX2_raise 46 = .ok (.lconst 0, 1) := by decide +kernel
theorem dX2_raise_47 : decode cX2_raise 47 = .ok (.lcmp, 1) := by decide +kernel
theorem dX2_raise_48 : decode cX2_raise 48 = .ok (.ifCond .ne 7, 3) := by decide +kernel
theorem dX2_raise_51 : decode cX2_raise 51 = .ok (.lconst 1, 1) := by decide +kernel
theorem dX2_raise_52 : decode cX2_raise 52 = .ok (.goto 6, 3) := by decide +kernel
theorem dX2_raise_55 : decode cX2_raise 55 = .ok (.ldc2_w 95, 3) := by decide +kernel
theorem dX2_raise_58 : decode cX2_raise 58 = .ok (.lreturn, 1) := by decide +kernel
theorem dX2_raise_59 : decode cX2_raise 59 = .ok (.lconst 1, 1) := by decide +kernel
theorem dX2_raise_60 : decode cX2_raise 60 = .ok (.lstore 5, 2) := by decide +kernel
theorem dX2_raise_62 : decode cX2_raise 62 = .ok (.lload_n 3, 1) := by decide +kernel
theorem dX2_raise_63 : decode cX2_raise 63 = .ok (.ldc2_w 99, 3) := by decide +kernel
theorem dX2_raise_66 : decode cX2_raise 66 = .ok (.invokestatic 101, 3) := by decide +kernel
theorem dX2_raise_69 : decode cX2_raise 69 = .ok (.lstore 7, 2) := by decide +kernel
theorem dX2_raise_71 : decode cX2_raise 71 = .ok (.lconst 0, 1) := by decide +kernel
theorem dX2_raise_72 : decode cX2_raise 72 = .ok (.lstore 9, 2) := by decide +kernel
theorem dX2_raise_74 : decode cX2_raise 74 = .ok (.lload 9, 2) := by decide +kernel
theorem dX2_raise_76 : decode cX2_raise 76 = .ok (.lload 7, 2) := by decide +kernel
theorem dX2_raise_78 : decode cX2_raise 78 = .ok (.lcmp, 1) := by decide +kernel
theorem dX2_raise_79 : decode cX2_raise 79 = .ok (.ifCond .ge 28, 3) := by decide +kernel
theorem dX2_raise_82 : decode cX2_raise 82 = .ok (.aload_n 0, 1) := by decide +kernel
theorem dX2_raise_83 : decode cX2_raise 83 = .ok (.getfield 18, 3) := by decide +kernel
theorem dX2_raise_86 : decode cX2_raise 86 = .ok (.ifCond .ne 21, 3) := by decide +kernel
theorem dX2_raise_89 : decode cX2_raise 89 = .ok (.aload_n 0, 1) := by decide +kernel
theorem dX2_raise_90 : decode cX2_raise 90 = .ok (.lload 5, 2) := by decide +kernel
theorem dX2_raise_92 : decode cX2_raise 92 = .ok (.lload_n 1, 1) := by decide +kernel
theorem dX2_raise_93 : decode cX2_raise 93 = .ok (.invokevirtual 82, 3) := by decide +kernel
theorem dX2_raise_96 : decode cX2_raise 96 = .ok (.lstore 5, 2) := by decide +kernel
theorem dX2_raise_98 : decode cX2_raise 98 = .ok (.lload 9, 2) := by decide +kernel
theorem dX2_raise_100 : decode cX2_raise 100 = .ok (.lconst 1, 1) := by decide +kernel
theorem dX2_raise_101 : decode cX2_raise 101 = .ok (.ladd, 1) := by decide +kernel
theorem dX2_raise_102 : decode cX2_raise 102 = .ok (.lstore 9, 2) := by decide +kernel
theorem dX2_raise_104 : decode cX2_raise 104 = .ok (.goto (-30), 3) := by decide +kernel
theorem dX2_raise_107 : decode cX2_raise 107 = .ok (.lload 5, 2) := by decide +kernel
theorem dX2_raise_109 : decode cX2_raise 109 = .ok (.lreturn, 1) := by decide +kernel
set_option maxRecDepth 20000 in
theorem ggX2_applyPrimed_X2_add : GoodIn wsX2_applyPrimed wsX2_add := goodIn_r _ [13, 14, 29, 30, 31] rfl (by decide +kernel)
set_option maxRecDepth 20000 in
theorem gX2_applyPrimed_X2_add : GoodIn wsX2_applyPrimed (wsV RX2 75 RX2 yX2_add wsX2_add) := goodIn_app (goodIn_of _ (by decide +kernel)) ggX2_applyPrimed_X2_add
set_option maxRecDepth 20000 in
theorem ggX2_applyPrimed_X2_apply : GoodIn wsX2_applyPrimed wsX2_apply := goodIn_r _ [18, 19, 20, 21, 22, 12, 23, 14, 24, 25, 26, 27, 28, 9, 10, 11, 13, 29, 30, 31] rfl (by decide +kernel)
set_option maxRecDepth 20000 in
theorem gX2_applyPrimed_X2_apply : GoodIn wsX2_applyPrimed (wsV RX2 106 RX2 yX2_apply wsX2_apply) := goodIn_app (goodIn_of _ (by decide +kernel)) ggX2_applyPrimed_X2_apply
set_option maxRecDepth 20000 in
theorem ggX2_applyPrimed_X2_subtract : GoodIn wsX2_applyPrimed wsX2_subtract := goodIn_r _ [23, 14, 29, 30, 31] rfl (by decide +kernel)
set_option maxRecDepth 20000 in
theorem gX2_applyPrimed_X2_subtract : GoodIn wsX2_applyPrimed (wsV RX2 79 RX2 yX2_subtract wsX2_subtract) := goodIn_app (goodIn_of _ (by decide +kernel)) ggX2_applyPrimed_X2_subtract
theorem dX2_applyPrimed_0 : decode cX2_applyPrimed 0 = .ok (.iconst 0, 1) := by decide +kernel
theorem dX2_applyPrimed_1 : decode cX2_applyPrimed 1 = .ok (.iload_n 2, 1) := by decide +kernel
theorem dX2_applyPrimed_2 : decode cX2_applyPrimed 2 = .ok (.iconst 3, 1) := by decide +kernel
theorem dX2_applyPrimed_3 : decode cX2_applyPrimed 3 = .ok (.invokestatic 28, 3) := by decide +kernel
theorem dX2_applyPrimed_6 : decode cX2_applyPrimed 6 = .ok (.invokestatic 103, 3) := by decide +kernel
theorem dX2_applyPrimed_9 : decode cX2_applyPrimed 9 = .ok (.istore 5, 2) := by decide +kernel
theorem dX2_applyPrimed_11 : decode cX2_applyPrimed 11 = .ok (.iload 5, 2) := by decide +kernel
theorem dX2_applyPrimed_13 : decode cX2_applyPrimed 13 = .ok (.istore 6, 2) := by decide +kernel
theorem dX2_applyPrimed_15 : decode cX2_applyPrimed 15 = .ok (.iload 6, 2) := by decide +kernel
theorem dX2_applyPrimed_17 : decode cX2_applyPrimed 17 = .ok (.ifCond .lt 29, 3) := by decide +kernel
theorem dX2_applyPrimed_20 : decode cX2_applyPrimed 20 = .ok (.aload_n 0, 1) := by decide +kernel
theorem dX2_applyPrimed_21 : decode cX2_applyPrimed 21 = .ok (.getfield 15, 3) := by decide +kernel
theorem dX2_applyPrimed_24 : decode cX2_applyPrimed 24 = .ok (.iload 6, 2) := by decide +kernel
theorem dX2_applyPrimed_26 : decode cX2_applyPrimed 26 = .ok (.aload_n 0, 1) := by decide +kernel
theorem dX2_applyPrimed_27 : decode cX2_applyPrimed 27 = .ok (.iload_n 1, 1) := by decide +kernel
theorem dX2_applyPrimed_28 : decode cX2_applyPrimed 28 = .ok (.aload_n 0, 1) := by decide +kernel
theorem dX2_applyPrimed_29 : decode cX2_applyPrimed 29 = .ok (.lload_n 3, 1) := by decide +kernel
theorem dX2_applyPrimed_30 : decode cX2_applyPrimed 30 = .ok (.iload 6, 2) := by decide +kernel
theorem dX2_applyPrimed_32 : decode cX2_applyPrimed 32 = .ok (.i2l, 1) := by decide +kernel
theorem dX2_applyPrimed_33 : decode cX2_applyPrimed 33 = .ok (.invokevirtual 75, 3) := by decide +kernel
theorem dX2_applyPrimed_36 : decode cX2_applyPrimed 36 = .ok (.invokevirtual 106, 3) := by decide +kernel
theorem dX2_applyPrimed_39 : decode cX2_applyPrimed 39 = .ok (.lastore, 1) := by decide +kernel
theorem dX2_applyPrimed_40 : decode cX2_applyPrimed 40 = .ok (.iinc 6 (-1), 3) := by decide +kernel
theorem dX2_applyPrimed_43 : decode cX2_applyPrimed 43 = .ok (.goto (-28), 3) := by decide +kernel
theorem dX2_applyPrimed_46 : decode cX2_applyPrimed 46 = .ok (.iconst 1, 1) := by decide +kernel
theorem dX2_applyPrimed_47 : decode cX2_applyPrimed 47 = .ok (.istore 6, 2) := by decide +kernel
theorem dX2_applyPrimed_49 : decode cX2_applyPrimed 49 = .ok (.iload 6, 2) := by decide +kernel
theorem dX2_applyPrimed_51 : decode cX2_applyPrimed 51 = .ok (.iload 5, 2) := by decide +kernel
theorem dX2_applyPrimed_53 : decode cX2_applyPrimed 53 = .ok (.if_icmp .gt 55, 3) := by decide +kernel
theorem dX2_applyPrimed_56 : decode cX2_applyPrimed 56 = .ok (.iconst 0, 1) := by decide +kernel
theorem dX2_applyPrimed_57 : decode cX2_applyPrimed 57 = .ok (.istore 7, 2) := by decide +kernel
theorem dX2_applyPrimed_59 : decode cX2_applyPrimed 59 = .ok (.iload 7, 2) := by decide +kernel
theorem dX2_applyPrimed_61 : decode cX2_applyPrimed 61 = .ok (.iload 6, 2) := by decide +kernel
theorem dX2_applyPrimed_63 : decode cX2_applyPrimed 63 = .ok (.iadd, 1) := by decide +kernel
theorem dX2_applyPrimed_64 : decode cX2_applyPrimed 64 = .ok (.iload 5, 2) := by decide +kernel
theorem dX2_applyPrimed_66 : decode cX2_applyPrimed 66 = .ok (.if_icmp .gt 36, 3) := by decide +kernel
theorem dX2_applyPrimed_69 : decode cX2_applyPrimed 69 = .ok (.aload_n 0, 1) := by decide +kernel
theorem dX2_applyPrimed_70 : decode cX2_applyPrimed 70 = .ok (.getfield 15, 3) := by decide +kernel
theorem dX2_applyPrimed_73 : decode cX2_applyPrimed 73 = .ok (.iload 7, 2) := by decide +kernel
theorem dX2_applyPrimed_75 : decode cX2_applyPrimed 75 = .ok (.aload_n 0, 1) := by decide +kernel
theorem dX2_applyPrimed_76 : decode cX2_applyPrimed 76 = .ok (.aload_n 0, 1) := by decide +kernel
theorem dX2_applyPrimed_77 : decode cX2_applyPrimed 77 = .ok (.getfield 15, 3) := by decide +kernel
theorem dX2_applyPrimed_80 : decode cX2_applyPrimed 80 = .ok (.iload 7, 2) := by decide +kernel
theorem dX2_applyPrimed_82 : decode cX2_applyPrimed 82 = .ok (.iconst 1, 1) := by decide +kernel
theorem dX2_applyPrimed_83 : decode cX2_applyPrimed 83 = .ok (.iadd, 1) := by decide +kernel
theorem dX2_applyPrimed_84 : decode cX2_applyPrimed 84 = .ok (.laload, 1) := by decide +kernel
theorem dX2_applyPrimed_85 : decode cX2_applyPrimed 85 = .ok (.aload_n 0, 1) := by decide +kernel
theorem dX2_applyPrimed_86 : decode cX2_applyPrimed 86 = .ok (.getfield 15, 3) := by decide +kernel
theorem dX2_applyPrimed_89 : decode cX2_applyPrimed 89 = .ok (.iload 7, 2) := by decide +kernel
theorem dX2_applyPrimed_91 : decode cX2_applyPrimed 91 = .ok (.laload, 1) := by decide +kernel
theorem dX2_applyPrimed_92 : decode cX2_applyPrimed 92 = .ok (.invokevirtual 79, 3) := by decide +kernel
theorem dX2_applyPrimed_95 : decode cX2_applyPrimed 95 = .ok (.lastore, 1) := by decide +kernel
theorem dX2_applyPrimed_96 : decode cX2_applyPrimed 96 = .ok (.iinc 7 1, 3) := by decide +kernel
theorem dX2_applyPrimed_99 : decode cX2_applyPrimed 99 = .ok (.goto (-40), 3) := by decide +kernel
theorem dX2_applyPrimed_102 : decode cX2_applyPrimed 102 = .ok (.iinc 6 1, 3) := by decide +kernel
theorem dX2_applyPrimed_105 : decode cX2_applyPrimed 105 = .ok (.goto (-56), 3) := by decide +kernel
theorem dX2_applyPrimed_108 : decode cX2_applyPrimed 108 = .ok (.aload_n 0, 1) := by decide +kernel
theorem dX2_applyPrimed_109 : decode cX2_applyPrimed 109 = .ok (.getfield 15, 3) := by decide +kernel
theorem dX2_applyPrimed_112 : decode cX2_applyPrimed 112 = .ok (.iconst 0, 1) := by decide +kernel
theorem dX2_applyPrimed_113 : decode cX2_applyPrimed 113 = .ok (.laload, 1) := by decide +kernel
theorem dX2_applyPrimed_114 : decode cX2_applyPrimed 114 = .ok (.lreturn, 1) := by decide +kernel
set_option maxRecDepth 20000 in
theorem ggX2_apply_X2_subtract : GoodIn wsX2_apply wsX2_subtract := goodIn_r _ [6, 7, 17, 18, 19] rfl (by decide +kernel)
set_option maxRecDepth 20000 in
theorem gX2_apply_X2_subtract : GoodIn wsX2_apply (wsV RX2 79 RX2 yX2_subtract wsX2_subtract) := goodIn_app (goodIn_of _ (by decide +kernel)) ggX2_apply_X2_subtract
set_option maxRecDepth 20000 in
theorem ggX2_apply_X2_multiply : GoodIn wsX2_apply wsX2_multiply := goodIn_r _ [11, 1, 12, 7, 17, 18, 19] rfl (by decide +kernel)
set_option maxRecDepth 20000 in
theorem gX2_apply_X2_multiply : GoodIn wsX2_apply (wsV RX2 82 RX2 yX2_multiply wsX2_multiply) := goodIn_app (goodIn_of _ (by decide +kernel)) ggX2_apply_X2_multiply
set_option maxRecDepth 20000 in
theorem ggX2_apply_X2_add : GoodIn wsX2_apply wsX2_add := goodIn_r _ [16, 7, 17, 18, 19] rfl (by decide +kernel)
set_option maxRecDepth 20000 in
theorem gX2_apply_X2_add : GoodIn wsX2_apply (wsV RX2 75 RX2 yX2_add wsX2_add) := goodIn_app (goodIn_of _ (by decide +kernel)) ggX2_apply_X2_add
theorem dX2_apply_0 : decode cX2_apply 0 = .ok (.iload_n 1, 1) := by decide +kernel
theorem dX2_apply_1 : decode cX2_apply 1 = .ok (.tableswitch 75 3 5 #[27, 44, 68], 27) := by decide +kernel
theorem dX2_apply_28 : decode cX2_apply 28 = .ok (.lload_n 2, 1) := by decide +kernel
theorem dX2_apply_29 : decode cX2_apply 29 = .ok (.lconst 0, 1) := by decide +kernel
theorem dX2_apply_30 : decode cX2_apply 30 = .ok (.lcmp, 1) := by decide +kernel
theorem dX2_apply_31 : decode cX2_apply 31 = .ok (.ifCond .ge 12, 3) := by decide +kernel
theorem dX2_apply_34 : decode cX2_apply 34 = .ok (.aload_n 0, 1) := by decide +kernel
theorem dX2_apply_35 : decode cX2_apply 35 = .ok (.lconst 0, 1) := by decide +kernel
theorem dX2_apply_36 : decode cX2_apply 36 = .ok (.lload_n 2, 1) := by decide +kernel
theorem dX2_apply_37 : decode cX2_apply 37 = .ok (.invokevirtual 79, 3) := by decide +kernel
theorem dX2_apply_40 : decode cX2_apply 40 = .ok (.goto 4, 3) := by decide +kernel
theorem dX2_apply_43 : decode cX2_apply 43 = .ok (.lload_n 2, 1) := by decide +kernel
theorem dX2_apply_44 : decode cX2_apply 44 = .ok (.lreturn, 1) := by decide +kernel
theorem dX2_apply_45 : decode cX2_apply 45 = .ok (.lload_n 2, 1) := by decide +kernel
theorem dX2_apply_46 : decode cX2_apply 46 = .ok (.lconst 0, 1) := by decide +kernel
theorem dX2_apply_47 : decode cX2_apply 47 = .ok (.lcmp, 1) := by decide +kernel
theorem dX2_apply_48 : decode cX2_apply 48 = .ok (.ifCond .ge 9, 3) := by decide +kernel
theorem dX2_apply_51 : decode cX2_apply 51 = .ok (.ldc2_w 95, 3) := by decide +kernel
theorem dX2_apply_54 : decode cX2_apply 54 = .ok (.goto 14, 3) := by decide +kernel
theorem dX2_apply_57 : decode cX2_apply 57 = .ok (.lload_n 2, 1) := by decide +kernel
theorem dX2_apply_58 : decode cX2_apply 58 = .ok (.lconst 0, 1) := by decide +kernel
theorem dX2_apply_59 : decode cX2_apply 59 = .ok (.lcmp, 1) := by decide +kernel
theorem dX2_apply_60 : decode cX2_apply 60 = .ok (.ifCond .le 7, 3) := by decide +kernel
theorem dX2_apply_63 : decode cX2_apply 63 = .ok (.lconst 1, 1) := by decide +kernel
theorem dX2_apply_64 : decode cX2_apply 64 = .ok (.goto 4, 3) := by decide +kernel
theorem dX2_apply_67 : decode cX2_apply 67 = .ok (.lconst 0, 1) := by decide +kernel
theorem dX2_apply_68 : decode cX2_apply 68 = .ok (.lreturn, 1) := by decide +kernel
theorem dX2_apply_69 : decode cX2_apply 69 = .ok (.aload_n 0, 1) := by decide +kernel
theorem dX2_apply_70 : decode cX2_apply 70 = .ok (.lload_n 2, 1) := by decide +kernel
theorem dX2_apply_71 : decode cX2_apply 71 = .ok (.lload_n 2, 1) := by decide +kernel
theorem dX2_apply_72 : decode cX2_apply 72 = .ok (.invokevirtual 82, 3) := by decide +kernel
theorem dX2_apply_75 : decode cX2_apply 75 = .ok (.lreturn, 1) := by decide +kernel
theorem dX2_apply_76 : decode cX2_apply 76 = .ok (.aload_n 0, 1) := by decide +kernel
theorem dX2_apply_77 : decode cX2_apply 77 = .ok (.lload_n 2, 1) := by decide +kernel
theorem dX2_apply_78 : decode cX2_apply 78 = .ok (.lload_n 2, 1) := by decide +kernel
theorem dX2_apply_79 : decode cX2_apply 79 = .ok (.invokevirtual 75, 3) := by decide +kernel
theorem dX2_apply_82 : decode cX2_apply 82 = .ok (.lreturn, 1) := by decide +kernel
def fn_Eval_add (e_status : Int32) (x1 : Int64) (x3 : Int64) : Int64 × Int32 := (if 0 ≤ (lg_cmp ((x1 ^^^ (x1 + x3)) &&& (x3 ^^^ (x1 + x3))) 0) then ((x1 + x3), e_status) else ((x1 + x3), 1))
set_option maxHeartbeats 40000000 in
set_option maxRecDepth 100000 in
theorem ct_Eval_add (l : Launch) (D : va_G) (cI cJ cC : ClassId) (adK adV : Nat → Nat) (A_e A_e_values A_e_differences : Nat) (sz : Nat) (e_status : Int32) (x1 : Int64) (x3 : Int64) : Met l yX2_add wsX2_add ({ frames := 0, cells := 0, slots := 0, locals := 0 } : Room) (zP D cI cJ cC adK adV [.ref A_e, .long x1, .long x3] sz [(A_e, .inr (2, [.ref A_e_values, .ref A_e_differences, .int e_status]))]) (zQl D cI cJ cC (fn_Eval_add e_status x1 x3).1 [(A_e, .inr (2, [.ref A_e_values, .ref A_e_differences, .int (fn_Eval_add e_status x1 x3).2]))] (va_A [(A_e, .inr (2, [.ref A_e_values, .ref A_e_differences, .int e_status]))] sz)) 0 0 (va_A [(A_e, .inr (2, [.ref A_e_values, .ref A_e_differences, .int e_status]))] sz) := by
  obtain ⟨rs, hM⟩ : ∃ rs, fn_Eval_add e_status x1 x3 = rs := ⟨_, rfl⟩
  rw [hM]
  refine Met.ofW (cc := cX2_add) (maxL := 7) (ret := (some .long)) (by decide) rfl ?_
  intro p e s m args below meth c s₁ B hml hv0
  obtain ⟨hargs, hsz, hP, hK, hD0, hX⟩ := hv0
  have hx := B.exec
  have hb := B.bytes
  have hr := B.returns
  have hts := atoms_spec (ws := wsX2_add) B.pre
  have hown : s.vm.findClass RX2 = some m.cls := findClass_of_methodNamed B.named
  have hlocks := B.notSynchronized
  subst hsz
  have hD := hD0.self (sz := s.heap.size)
  generalize hAe : va_A [(A_e, .inr (2, [.ref A_e_values, .ref A_e_differences, .int e_status]))] s.heap.size = A at hD hX ⊢
  have hA : ∀ q : Nat, s.heap.size ≤ q → A q := fun q h => by rw [← hAe]; exact Or.inr h
  have hS : va_S A s.heap s.heap [] := va_S.rf
  have hl := lv_entry ([.ref A_e, .long x1, .long x3]) (n := 7) (Nat.le_of_ble_eq_true rfl)
  rw [hargs, lg_entry_eq, ← hargs]
  generalize (lg_sl ([.ref A_e, .long x1, .long x3]) ++ List.replicate (7 - (lg_sl ([.ref A_e, .long x1, .long x3])).length) Slot.unset).toArray = ls at hl ⊢
  have hl : lv_has ls 7 [(0, .ref A_e), (1, .long x1), (3, .long x3)] := hl
  have hw0 : ∀ w ∈ u_ws RX2 TX2 3, w ∈ wsX2_add := by decide +kernel
  have hw1 := hts (.fieldLink RX2 18 "NotationParser$Evaluator" "status" "I") (by decide +kernel)
  refine lv_lload_n hx hb dX2_add_0 rfl (lv_at hl 1 rfl) ?_
  refine lv_lload_n hx hb dX2_add_1 rfl (lv_at hl 2 rfl) ?_
  refine lv_ladd hx hb dX2_add_2 ?_
  refine lv_lstore (lv' := [(5, .long (x1 + x3)), (0, .ref A_e), (1, .long x1), (3, .long x3)]) hx hb dX2_add_3 hl (by decide) rfl (fun ls hl => ?_)
  refine lv_lload_n hx hb dX2_add_5 rfl (lv_at hl 2 rfl) ?_
  refine lv_lload hx hb dX2_add_6 (lv_at hl 0 rfl) ?_
  refine lv_lxor hx hb dX2_add_8 ?_
  refine lv_lload_n hx hb dX2_add_9 rfl (lv_at hl 3 rfl) ?_
  refine lv_lload hx hb dX2_add_10 (lv_at hl 0 rfl) ?_
  refine lv_lxor hx hb dX2_add_12 ?_
  refine lv_land hx hb dX2_add_13 ?_
  refine lv_lconst (v := 0) hx hb dX2_add_14 (by decide) ?_
  refine W.lcmp hx hb dX2_add_15 ?_
  refine lv_if_ge (tgt := 24) hx hb dX2_add_16 (by decide) (fun c1 => ?_) (fun c1 => ?_)
  · have hM := z_t c1 hM
    refine lv_lload hx hb dX2_add_24 (lv_at hl 0 rfl) ?_
    have hM := hM
    subst hM
    exact W.lret (v := (x1 + x3)) hx hb hr (fun t ht hW => ⟨⟨_, (), rfl, rfl, ⟨by rw [ht]; exact hP, va_K.moved hW.alike hK, hD⟩⟩, hS.F ht⟩) hS.2.2 dX2_add_26
  · have hM := z_f c1 hM
    refine lv_aload_n hx hb dX2_add_19 rfl (lv_at hl 1 rfl) ?_
    refine lv_iconst (v := 1) hx hb dX2_add_20 (by decide) ?_
    refine va_put (D := D) (ci := 2) (v := .int 1) (ty := .int) (C := RX2) (T := TX2) (N := 3) hx hb hts hw0 tyX2 tyX2_ok nmX2 hown hK hP hD hS 0 rfl rfl 2 (by decide) hw1 (fun _ h9 => h9) rfl (by decide +kernel) rfl rfl (Nat.le_of_ble_eq_true rfl) dX2_add_21 (fun H2 locs hP hD hS => ?_)
    have hP : va_P D vwCl [(A_e, .inr (2, [.ref A_e_values, .ref A_e_differences, .int 1]))] H2 := hP
    have hD : va_D A [(A_e, .inr (2, [.ref A_e_values, .ref A_e_differences, .int 1]))] := hD
    refine lv_lload hx hb dX2_add_24 (lv_at hl 0 rfl) ?_
    have hM := hM
    subst hM
    exact W.lret (v := (x1 + x3)) hx hb hr (fun t ht hW => ⟨⟨_, (), rfl, rfl, ⟨by rw [ht]; exact hP, va_K.moved hW.alike hK, hD⟩⟩, hS.F ht⟩) hS.2.2 dX2_add_26
def fn_Eval_subtract (e_status : Int32) (x1 : Int64) (x3 : Int64) : Int64 × Int32 := (if 0 ≤ (lg_cmp ((x1 ^^^ x3) &&& (x1 ^^^ (x1 - x3))) 0) then ((x1 - x3), e_status) else ((x1 - x3), 1))
set_option maxHeartbeats 40000000 in
set_option maxRecDepth 100000 in
theorem ct_Eval_subtract (l : Launch) (D : va_G) (cI cJ cC : ClassId) (adK adV : Nat → Nat) (A_e A_e_values A_e_differences : Nat) (sz : Nat) (e_status : Int32) (x1 : Int64) (x3 : Int64) : Met l yX2_subtract wsX2_subtract ({ frames := 0, cells := 0, slots := 0, locals := 0 } : Room) (zP D cI cJ cC adK adV [.ref A_e, .long x1, .long x3] sz [(A_e, .inr (2, [.ref A_e_values, .ref A_e_differences, .int e_status]))]) (zQl D cI cJ cC (fn_Eval_subtract e_status x1 x3).1 [(A_e, .inr (2, [.ref A_e_values, .ref A_e_differences, .int (fn_Eval_subtract e_status x1 x3).2]))] (va_A [(A_e, .inr (2, [.ref A_e_values, .ref A_e_differences, .int e_status]))] sz)) 0 0 (va_A [(A_e, .inr (2, [.ref A_e_values, .ref A_e_differences, .int e_status]))] sz) := by
  obtain ⟨rs, hM⟩ : ∃ rs, fn_Eval_subtract e_status x1 x3 = rs := ⟨_, rfl⟩
  rw [hM]
  refine Met.ofW (cc := cX2_subtract) (maxL := 7) (ret := (some .long)) (by decide) rfl ?_
  intro p e s m args below meth c s₁ B hml hv0
  obtain ⟨hargs, hsz, hP, hK, hD0, hX⟩ := hv0
  have hx := B.exec
  have hb := B.bytes
  have hr := B.returns
  have hts := atoms_spec (ws := wsX2_subtract) B.pre
  have hown : s.vm.findClass RX2 = some m.cls := findClass_of_methodNamed B.named
  have hlocks := B.notSynchronized
  subst hsz
  have hD := hD0.self (sz := s.heap.size)
  generalize hAe : va_A [(A_e, .inr (2, [.ref A_e_values, .ref A_e_differences, .int e_status]))] s.heap.size = A at hD hX ⊢
  have hA : ∀ q : Nat, s.heap.size ≤ q → A q := fun q h => by rw [← hAe]; exact Or.inr h
  have hS : va_S A s.heap s.heap [] := va_S.rf
  have hl := lv_entry ([.ref A_e, .long x1, .long x3]) (n := 7) (Nat.le_of_ble_eq_true rfl)
  rw [hargs, lg_entry_eq, ← hargs]
  generalize (lg_sl ([.ref A_e, .long x1, .long x3]) ++ List.replicate (7 - (lg_sl ([.ref A_e, .long x1, .long x3])).length) Slot.unset).toArray = ls at hl ⊢
  have hl : lv_has ls 7 [(0, .ref A_e), (1, .long x1), (3, .long x3)] := hl
  have hw0 : ∀ w ∈ u_ws RX2 TX2 3, w ∈ wsX2_subtract := by decide +kernel
  have hw1 := hts (.fieldLink RX2 18 "NotationParser$Evaluator" "status" "I") (by decide +kernel)
  refine lv_lload_n hx hb dX2_subtract_0 rfl (lv_at hl 1 rfl) ?_
  refine lv_lload_n hx hb dX2_subtract_1 rfl (lv_at hl 2 rfl) ?_
  refine lv_lsub hx hb dX2_subtract_2 ?_
  refine lv_lstore (lv' := [(5, .long (x1 - x3)), (0, .ref A_e), (1, .long x1), (3, .long x3)]) hx hb dX2_subtract_3 hl (by decide) rfl (fun ls hl => ?_)
  refine lv_lload_n hx hb dX2_subtract_5 rfl (lv_at hl 2 rfl) ?_
  refine lv_lload_n hx hb dX2_subtract_6 rfl (lv_at hl 3 rfl) ?_
  refine lv_lxor hx hb dX2_subtract_7 ?_
  refine lv_lload_n hx hb dX2_subtract_8 rfl (lv_at hl 2 rfl) ?_
  refine lv_lload hx hb dX2_subtract_9 (lv_at hl 0 rfl) ?_
  refine lv_lxor hx hb dX2_subtract_11 ?_
  refine lv_land hx hb dX2_subtract_12 ?_
  refine lv_lconst (v := 0) hx hb dX2_subtract_13 (by decide) ?_
  refine W.lcmp hx hb dX2_subtract_14 ?_
  refine lv_if_ge (tgt := 23) hx hb dX2_subtract_15 (by decide) (fun c1 => ?_) (fun c1 => ?_)
  · have hM := z_t c1 hM
    refine lv_lload hx hb dX2_subtract_23 (lv_at hl 0 rfl) ?_
    have hM := hM
    subst hM
    exact W.lret (v := (x1 - x3)) hx hb hr (fun t ht hW => ⟨⟨_, (), rfl, rfl, ⟨by rw [ht]; exact hP, va_K.moved hW.alike hK, hD⟩⟩, hS.F ht⟩) hS.2.2 dX2_subtract_25
  · have hM := z_f c1 hM
    refine lv_aload_n hx hb dX2_subtract_18 rfl (lv_at hl 1 rfl) ?_
    refine lv_iconst (v := 1) hx hb dX2_subtract_19 (by decide) ?_
    refine va_put (D := D) (ci := 2) (v := .int 1) (ty := .int) (C := RX2) (T := TX2) (N := 3) hx hb hts hw0 tyX2 tyX2_ok nmX2 hown hK hP hD hS 0 rfl rfl 2 (by decide) hw1 (fun _ h9 => h9) rfl (by decide +kernel) rfl rfl (Nat.le_of_ble_eq_true rfl) dX2_subtract_20 (fun H2 locs hP hD hS => ?_)
    have hP : va_P D vwCl [(A_e, .inr (2, [.ref A_e_values, .ref A_e_differences, .int 1]))] H2 := hP
    have hD : va_D A [(A_e, .inr (2, [.ref A_e_values, .ref A_e_differences, .int 1]))] := hD
    refine lv_lload hx hb dX2_subtract_23 (lv_at hl 0 rfl) ?_
    have hM := hM
    subst hM
    exact W.lret (v := (x1 - x3)) hx hb hr (fun t ht hW => ⟨⟨_, (), rfl, rfl, ⟨by rw [ht]; exact hP, va_K.moved hW.alike hK, hD⟩⟩, hS.F ht⟩) hS.2.2 dX2_subtract_25
def fn_Eval_multiply_b44 (e_status : Int32) (x5 : Int64) (k0 : Int32) : Option (Int64 × Int32) := (if k0 = 0 then some (x5, 1) else some (x5, e_status))
def fn_Eval_multiply_b39 (e_status : Int32) (x5 : Int64) : Option (Int64 × Int32) := fn_Eval_multiply_b44 e_status x5 1
def fn_Eval_multiply_b43 (e_status : Int32) (x5 : Int64) : Option (Int64 × Int32) := fn_Eval_multiply_b44 e_status x5 0
def fn_Eval_multiply (e_status : Int32) (x1 : Int64) (x3 : Int64) : Option (Int64 × Int32) := (if (lg_cmp x1 0) = 0 then fn_Eval_multiply_b39 e_status (x1 * x3) else (if (lg_cmp x1 (-1)) = 0 then (if (lg_cmp x3 (-9223372036854775808)) = 0 then fn_Eval_multiply_b43 e_status (x1 * x3) else fn_Eval_multiply_b39 e_status (x1 * x3)) else (if x1 = 0 then none else (if (lg_cmp ((x1 * x3) / x1) x3) = 0 then fn_Eval_multiply_b39 e_status (x1 * x3) else fn_Eval_multiply_b43 e_status (x1 * x3)))))
set_option maxHeartbeats 40000000 in
set_option maxRecDepth 100000 in
theorem ct_Eval_multiply (l : Launch) (D : va_G) (cI cJ cC : ClassId) (adK adV : Nat → Nat) (A_e A_e_values A_e_differences : Nat) (sz : Nat) (e_status : Int32) (x1 : Int64) (x3 : Int64) {rs : Int64 × Int32} (hM : fn_Eval_multiply e_status x1 x3 = some rs) : Met l yX2_multiply wsX2_multiply ({ frames := 0, cells := 0, slots := 0, locals := 0 } : Room) (zP D cI cJ cC adK adV [.ref A_e, .long x1, .long x3] sz [(A_e, .inr (2, [.ref A_e_values, .ref A_e_differences, .int e_status]))]) (zQl D cI cJ cC rs.1 [(A_e, .inr (2, [.ref A_e_values, .ref A_e_differences, .int rs.2]))] (va_A [(A_e, .inr (2, [.ref A_e_values, .ref A_e_differences, .int e_status]))] sz)) 0 0 (va_A [(A_e, .inr (2, [.ref A_e_values, .ref A_e_differences, .int e_status]))] sz) := by
  refine Met.ofW (cc := cX2_multiply) (maxL := 8) (ret := (some .long)) (by decide) rfl ?_
  intro p e s m args below meth c s₁ B hml hv0
  obtain ⟨hargs, hsz, hP, hK, hD0, hX⟩ := hv0
  have hx := B.exec
  have hb := B.bytes
  have hr := B.returns
  have hts := atoms_spec (ws := wsX2_multiply) B.pre
  have hown : s.vm.findClass RX2 = some m.cls := findClass_of_methodNamed B.named
  have hlocks := B.notSynchronized
  subst hsz
  have hD := hD0.self (sz := s.heap.size)
  generalize hAe : va_A [(A_e, .inr (2, [.ref A_e_values, .ref A_e_differences, .int e_status]))] s.heap.size = A at hD hX ⊢
  have hA : ∀ q : Nat, s.heap.size ≤ q → A q := fun q h => by rw [← hAe]; exact Or.inr h
  have hS : va_S A s.heap s.heap [] := va_S.rf
  have hl := lv_entry ([.ref A_e, .long x1, .long x3]) (n := 8) (Nat.le_of_ble_eq_true rfl)
  rw [hargs, lg_entry_eq, ← hargs]
  generalize (lg_sl ([.ref A_e, .long x1, .long x3]) ++ List.replicate (8 - (lg_sl ([.ref A_e, .long x1, .long x3])).length) Slot.unset).toArray = ls at hl ⊢
  have hl : lv_has ls 8 [(0, .ref A_e), (1, .long x1), (3, .long x3)] := hl
  have hw0 : ∀ w ∈ u_ws RX2 TX2 3, w ∈ wsX2_multiply := by decide +kernel
  have hw1 := hts (.fieldLink RX2 18 "NotationParser$Evaluator" "status" "I") (by decide +kernel)
  have B_44_1 : ∀ (e_status : Int32) (x5 : Int64) (k0 : Int32) (H : Heap) (locs : List Loc) (ls : Array Slot), va_P D vwCl [(A_e, .inr (2, [.ref A_e_values, .ref A_e_differences, .int e_status]))] H → va_D A [(A_e, .inr (2, [.ref A_e_values, .ref A_e_differences, .int e_status]))] → va_S A s.heap H locs → lv_has ls 8 [(0, .ref A_e), (5, .long x5)] → fn_Eval_multiply_b44  e_status x5 k0 = some rs → W p l e (headSpec wsX2_multiply ({ frames := 0, cells := 0, slots := 0, locals := 0 } : Room)).room s m args below meth c H locs 0 0 (MQ below (zQl D cI cJ cC rs.1 [(A_e, .inr (2, [.ref A_e_values, .ref A_e_differences, .int rs.2]))] A) args s 0 0 A) (F0 m 44 ls [.int k0]) := by
    intro  e_status x5 k0 H locs ls hP hD hS hl hM
    refine lv_istore (lv' := [(7, .int k0), (0, .ref A_e), (5, .long x5)]) hx hb dX2_multiply_44 hl (by decide) rfl (fun ls hl => ?_)
    refine lv_iload hx hb dX2_multiply_46 (lv_at hl 0 rfl) ?_
    refine lv_if_ne (tgt := 56) hx hb dX2_multiply_48 (by decide) (fun c2 => ?_) (fun c2 => ?_)
    · have hM := z_f c2 hM
      refine lv_lload hx hb dX2_multiply_56 (lv_at hl 2 rfl) ?_
      have hM := Option.some.inj hM
      subst hM
      exact W.lret (v := x5) hx hb hr (fun t ht hW => ⟨⟨_, (), rfl, rfl, ⟨by rw [ht]; exact hP, va_K.moved hW.alike hK, hD⟩⟩, hS.F ht⟩) hS.2.2 dX2_multiply_58
    · have hM := z_t c2 hM
      refine lv_aload_n hx hb dX2_multiply_51 rfl (lv_at hl 1 rfl) ?_
      refine lv_iconst (v := 1) hx hb dX2_multiply_52 (by decide) ?_
      refine va_put (D := D) (ci := 2) (v := .int 1) (ty := .int) (C := RX2) (T := TX2) (N := 3) hx hb hts hw0 tyX2 tyX2_ok nmX2 hown hK hP hD hS 0 rfl rfl 2 (by decide) hw1 (fun _ h9 => h9) rfl (by decide +kernel) rfl rfl (Nat.le_of_ble_eq_true rfl) dX2_multiply_53 (fun H3 locs hP hD hS => ?_)
      have hP : va_P D vwCl [(A_e, .inr (2, [.ref A_e_values, .ref A_e_differences, .int 1]))] H3 := hP
      have hD : va_D A [(A_e, .inr (2, [.ref A_e_values, .ref A_e_differences, .int 1]))] := hD
      refine lv_lload hx hb dX2_multiply_56 (lv_at hl 2 rfl) ?_
      have hM := Option.some.inj hM
      subst hM
      exact W.lret (v := x5) hx hb hr (fun t ht hW => ⟨⟨_, (), rfl, rfl, ⟨by rw [ht]; exact hP, va_K.moved hW.alike hK, hD⟩⟩, hS.F ht⟩) hS.2.2 dX2_multiply_58
  have B_39_0 : ∀ (e_status : Int32) (x5 : Int64) (H : Heap) (locs : List Loc) (ls : Array Slot), va_P D vwCl [(A_e, .inr (2, [.ref A_e_values, .ref A_e_differences, .int e_status]))] H → va_D A [(A_e, .inr (2, [.ref A_e_values, .ref A_e_differences, .int e_status]))] → va_S A s.heap H locs → lv_has ls 8 [(0, .ref A_e), (5, .long x5)] → fn_Eval_multiply_b39  e_status x5 = some rs → W p l e (headSpec wsX2_multiply ({ frames := 0, cells := 0, slots := 0, locals := 0 } : Room)).room s m args below meth c H locs 0 0 (MQ below (zQl D cI cJ cC rs.1 [(A_e, .inr (2, [.ref A_e_values, .ref A_e_differences, .int rs.2]))] A) args s 0 0 A) (F0 m 39 ls []) := by
    intro  e_status x5 H locs ls hP hD hS hl hM
    refine lv_iconst (v := 1) hx hb dX2_multiply_39 (by decide) ?_
    refine lv_goto (tgt := 44) hx hb dX2_multiply_40 (by decide) ?_
    exact B_44_1  e_status x5 1 _ _ ls hP hD hS (lv_sub hl [0, 1] rfl) hM
  have B_43_2 : ∀ (e_status : Int32) (x5 : Int64) (H : Heap) (locs : List Loc) (ls : Array Slot), va_P D vwCl [(A_e, .inr (2, [.ref A_e_values, .ref A_e_differences, .int e_status]))] H → va_D A [(A_e, .inr (2, [.ref A_e_values, .ref A_e_differences, .int e_status]))] → va_S A s.heap H locs → lv_has ls 8 [(0, .ref A_e), (5, .long x5)] → fn_Eval_multiply_b43  e_status x5 = some rs → W p l e (headSpec wsX2_multiply ({ frames := 0, cells := 0, slots := 0, locals := 0 } : Room)).room s m args below meth c H locs 0 0 (MQ below (zQl D cI cJ cC rs.1 [(A_e, .inr (2, [.ref A_e_values, .ref A_e_differences, .int rs.2]))] A) args s 0 0 A) (F0 m 43 ls []) := by
    intro  e_status x5 H locs ls hP hD hS hl hM
    refine lv_iconst (v := 0) hx hb dX2_multiply_43 (by decide) ?_
    exact B_44_1  e_status x5 0 _ _ ls hP hD hS (lv_sub hl [0, 1] rfl) hM
  refine lv_lload_n hx hb dX2_multiply_0 rfl (lv_at hl 1 rfl) ?_
  refine lv_lload_n hx hb dX2_multiply_1 rfl (lv_at hl 2 rfl) ?_
  refine lv_lmul hx hb dX2_multiply_2 ?_
  refine lv_lstore (lv' := [(5, .long (x1 * x3)), (0, .ref A_e), (1, .long x1), (3, .long x3)]) hx hb dX2_multiply_3 hl (by decide) rfl (fun ls hl => ?_)
  refine lv_lload_n hx hb dX2_multiply_5 rfl (lv_at hl 2 rfl) ?_
  refine lv_lconst (v := 0) hx hb dX2_multiply_6 (by decide) ?_
  refine W.lcmp hx hb dX2_multiply_7 ?_
  refine lv_if_eq (tgt := 39) hx hb dX2_multiply_8 (by decide) (fun c1 => ?_) (fun c1 => ?_)
  · have hM := z_t c1 hM
    exact B_39_0  e_status (x1 * x3) _ _ ls hP hD hS (lv_sub hl [1, 0] rfl) hM
  · have hM := z_f c1 hM
    refine lv_lload_n hx hb dX2_multiply_11 rfl (lv_at hl 2 rfl) ?_
    refine lv_ldc2 hx hb hown (hts (.constantLong RX2 95 (-1)) (by decide +kernel)) dX2_multiply_12 ?_
    refine W.lcmp hx hb dX2_multiply_15 ?_
    refine lv_if_ne (tgt := 30) hx hb dX2_multiply_16 (by decide) (fun c4 => ?_) (fun c4 => ?_)
    · have hM := z_f c4 hM
      refine lv_lload hx hb dX2_multiply_30 (lv_at hl 0 rfl) ?_
      refine lv_lload_n hx hb dX2_multiply_32 rfl (lv_at hl 2 rfl) ?_
      obtain ⟨g5, hM⟩ := z_g hM
      refine lv_ldiv hx hb dX2_multiply_33 g5 ?_
      refine lv_lload_n hx hb dX2_multiply_34 rfl (lv_at hl 3 rfl) ?_
      refine W.lcmp hx hb dX2_multiply_35 ?_
      refine lv_if_ne (tgt := 43) hx hb dX2_multiply_36 (by decide) (fun c6 => ?_) (fun c6 => ?_)
      · have hM := z_f c6 hM
        exact B_43_2  e_status (x1 * x3) _ _ ls hP hD hS (lv_sub hl [1, 0] rfl) hM
      · have hM := z_t c6 hM
        exact B_39_0  e_status (x1 * x3) _ _ ls hP hD hS (lv_sub hl [1, 0] rfl) hM
    · have hM := z_t c4 hM
      refine lv_lload_n hx hb dX2_multiply_19 rfl (lv_at hl 3 rfl) ?_
      refine lv_ldc2 hx hb hown (hts (.constantLong RX2 97 (-9223372036854775808)) (by decide +kernel)) dX2_multiply_20 ?_
      refine W.lcmp hx hb dX2_multiply_23 ?_
      refine lv_if_eq (tgt := 43) hx hb dX2_multiply_24 (by decide) (fun c7 => ?_) (fun c7 => ?_)
      · have hM := z_t c7 hM
        exact B_43_2  e_status (x1 * x3) _ _ ls hP hD hS (lv_sub hl [1, 0] rfl) hM
      · have hM := z_f c7 hM
        refine lv_goto (tgt := 39) hx hb dX2_multiply_27 (by decide) ?_
        exact B_39_0  e_status (x1 * x3) _ _ ls hP hD hS (lv_sub hl [1, 0] rfl) hM
def fn_Eval_divide (e_status : Int32) (x1 : Int64) (x3 : Int64) : Option (Int64 × Int32) := (if (lg_cmp x3 0) = 0 then some (0, 2) else (if (lg_cmp x1 (-9223372036854775808)) = 0 then (if (lg_cmp x3 (-1)) = 0 then some (0, 1) else (if x3 = 0 then none else some ((x1 / x3), e_status))) else (if x3 = 0 then none else some ((x1 / x3), e_status))))
set_option maxHeartbeats 40000000 in
set_option maxRecDepth 100000 in
theorem ct_Eval_divide (l : Launch) (D : va_G) (cI cJ cC : ClassId) (adK adV : Nat → Nat) (A_e A_e_values A_e_differences : Nat) (sz : Nat) (e_status : Int32) (x1 : Int64) (x3 : Int64) {rs : Int64 × Int32} (hM : fn_Eval_divide e_status x1 x3 = some rs) : Met l yX2_divide wsX2_divide ({ frames := 0, cells := 0, slots := 0, locals := 0 } : Room) (zP D cI cJ cC adK adV [.ref A_e, .long x1, .long x3] sz [(A_e, .inr (2, [.ref A_e_values, .ref A_e_differences, .int e_status]))]) (zQl D cI cJ cC rs.1 [(A_e, .inr (2, [.ref A_e_values, .ref A_e_differences, .int rs.2]))] (va_A [(A_e, .inr (2, [.ref A_e_values, .ref A_e_differences, .int e_status]))] sz)) 0 0 (va_A [(A_e, .inr (2, [.ref A_e_values, .ref A_e_differences, .int e_status]))] sz) := by
  refine Met.ofW (cc := cX2_divide) (maxL := 5) (ret := (some .long)) (by decide) rfl ?_
  intro p e s m args below meth c s₁ B hml hv0
  obtain ⟨hargs, hsz, hP, hK, hD0, hX⟩ := hv0
  have hx := B.exec
  have hb := B.bytes
  have hr := B.returns
  have hts := atoms_spec (ws := wsX2_divide) B.pre
  have hown : s.vm.findClass RX2 = some m.cls := findClass_of_methodNamed B.named
  have hlocks := B.notSynchronized
  subst hsz
  have hD := hD0.self (sz := s.heap.size)
  generalize hAe : va_A [(A_e, .inr (2, [.ref A_e_values, .ref A_e_differences, .int e_status]))] s.heap.size = A at hD hX ⊢
  have hA : ∀ q : Nat, s.heap.size ≤ q → A q := fun q h => by rw [← hAe]; exact Or.inr h
  have hS : va_S A s.heap s.heap [] := va_S.rf
  have hl := lv_entry ([.ref A_e, .long x1, .long x3]) (n := 5) (Nat.le_of_ble_eq_true rfl)
  rw [hargs, lg_entry_eq, ← hargs]
  generalize (lg_sl ([.ref A_e, .long x1, .long x3]) ++ List.replicate (5 - (lg_sl ([.ref A_e, .long x1, .long x3])).length) Slot.unset).toArray = ls at hl ⊢
  have hl : lv_has ls 5 [(0, .ref A_e), (1, .long x1), (3, .long x3)] := hl
  have hw0 : ∀ w ∈ u_ws RX2 TX2 3, w ∈ wsX2_divide := by decide +kernel
  have hw1 := hts (.fieldLink RX2 18 "NotationParser$Evaluator" "status" "I") (by decide +kernel)
  refine lv_lload_n hx hb dX2_divide_0 rfl (lv_at hl 2 rfl) ?_
  refine lv_lconst (v := 0) hx hb dX2_divide_1 (by decide) ?_
  refine W.lcmp hx hb dX2_divide_2 ?_
  refine lv_if_ne (tgt := 13) hx hb dX2_divide_3 (by decide) (fun c1 => ?_) (fun c1 => ?_)
  · have hM := z_f c1 hM
    refine lv_lload_n hx hb dX2_divide_13 rfl (lv_at hl 1 rfl) ?_
    refine lv_ldc2 hx hb hown (hts (.constantLong RX2 97 (-9223372036854775808)) (by decide +kernel)) dX2_divide_14 ?_
    refine W.lcmp hx hb dX2_divide_17 ?_
    refine lv_if_ne (tgt := 36) hx hb dX2_divide_18 (by decide) (fun c2 => ?_) (fun c2 => ?_)
    · have hM := z_f c2 hM
      refine lv_lload_n hx hb dX2_divide_36 rfl (lv_at hl 1 rfl) ?_
      refine lv_lload_n hx hb dX2_divide_37 rfl (lv_at hl 2 rfl) ?_
      obtain ⟨g3, hM⟩ := z_g hM
      refine lv_ldiv hx hb dX2_divide_38 g3 ?_
      have hM := Option.some.inj hM
      subst hM
      exact W.lret (v := (x1 / x3)) hx hb hr (fun t ht hW => ⟨⟨_, (), rfl, rfl, ⟨by rw [ht]; exact hP, va_K.moved hW.alike hK, hD⟩⟩, hS.F ht⟩) hS.2.2 dX2_divide_39
    · have hM := z_t c2 hM
      refine lv_lload_n hx hb dX2_divide_21 rfl (lv_at hl 2 rfl) ?_
      refine lv_ldc2 hx hb hown (hts (.constantLong RX2 95 (-1)) (by decide +kernel)) dX2_divide_22 ?_
      refine W.lcmp hx hb dX2_divide_25 ?_
      refine lv_if_ne (tgt := 36) hx hb dX2_divide_26 (by decide) (fun c4 => ?_) (fun c4 => ?_)
      · have hM := z_f c4 hM
        refine lv_lload_n hx hb dX2_divide_36 rfl (lv_at hl 1 rfl) ?_
        refine lv_lload_n hx hb dX2_divide_37 rfl (lv_at hl 2 rfl) ?_
        obtain ⟨g5, hM⟩ := z_g hM
        refine lv_ldiv hx hb dX2_divide_38 g5 ?_
        have hM := Option.some.inj hM
        subst hM
        exact W.lret (v := (x1 / x3)) hx hb hr (fun t ht hW => ⟨⟨_, (), rfl, rfl, ⟨by rw [ht]; exact hP, va_K.moved hW.alike hK, hD⟩⟩, hS.F ht⟩) hS.2.2 dX2_divide_39
      · have hM := z_t c4 hM
        refine lv_aload_n hx hb dX2_divide_29 rfl (lv_at hl 0 rfl) ?_
        refine lv_iconst (v := 1) hx hb dX2_divide_30 (by decide) ?_
        refine va_put (D := D) (ci := 2) (v := .int 1) (ty := .int) (C := RX2) (T := TX2) (N := 3) hx hb hts hw0 tyX2 tyX2_ok nmX2 hown hK hP hD hS 0 rfl rfl 2 (by decide) hw1 (fun _ h9 => h9) rfl (by decide +kernel) rfl rfl (Nat.le_of_ble_eq_true rfl) dX2_divide_31 (fun H6 locs hP hD hS => ?_)
        have hP : va_P D vwCl [(A_e, .inr (2, [.ref A_e_values, .ref A_e_differences, .int 1]))] H6 := hP
        have hD : va_D A [(A_e, .inr (2, [.ref A_e_values, .ref A_e_differences, .int 1]))] := hD
        refine lv_lconst (v := 0) hx hb dX2_divide_34 (by decide) ?_
        have hM := Option.some.inj hM
        subst hM
        exact W.lret (v := 0) hx hb hr (fun t ht hW => ⟨⟨_, (), rfl, rfl, ⟨by rw [ht]; exact hP, va_K.moved hW.alike hK, hD⟩⟩, hS.F ht⟩) hS.2.2 dX2_divide_35
  · have hM := z_t c1 hM
    refine lv_aload_n hx hb dX2_divide_6 rfl (lv_at hl 0 rfl) ?_
    refine lv_iconst (v := 2) hx hb dX2_divide_7 (by decide) ?_
    refine va_put (D := D) (ci := 2) (v := .int 2) (ty := .int) (C := RX2) (T := TX2) (N := 3) hx hb hts hw0 tyX2 tyX2_ok nmX2 hown hK hP hD hS 0 rfl rfl 2 (by decide) hw1 (fun _ h9 => h9) rfl (by decide +kernel) rfl rfl (Nat.le_of_ble_eq_true rfl) dX2_divide_8 (fun H7 locs hP hD hS => ?_)
    have hP : va_P D vwCl [(A_e, .inr (2, [.ref A_e_values, .ref A_e_differences, .int 2]))] H7 := hP
    have hD : va_D A [(A_e, .inr (2, [.ref A_e_values, .ref A_e_differences, .int 2]))] := hD
    refine lv_lconst (v := 0) hx hb dX2_divide_11 (by decide) ?_
    have hM := Option.some.inj hM
    subst hM
    exact W.lret (v := 0) hx hb hr (fun t ht hW => ⟨⟨_, (), rfl, rfl, ⟨by rw [ht]; exact hP, va_K.moved hW.alike hK, hD⟩⟩, hS.F ht⟩) hS.2.2 dX2_divide_12
def fn_Eval_raise_L74 : Nat → Int32 → Int64 → Int64 → Int64 → Int64 → Option (Int64 × Int32)
  | 0 => fun _ _ _ _ _ => none
  | n + 1 => fun e_status x1 x5 x7 x9 => (if 0 ≤ (lg_cmp x9 x7) then some (x5, e_status) else (if e_status = 0 then ((fn_Eval_multiply e_status x5 x1).bind fun q8 => (fn_Eval_raise_L74  n) q8.2 x1 q8.1 x7 (x9 + 1)) else some (x5, e_status)))
def fn_Eval_raise (e_status : Int32) (x1 : Int64) (x3 : Int64) : Option (Int64 × Int32) := (if 0 ≤ (lg_cmp x3 0) then (if (lg_cmp x3 0) = 0 then some (1, e_status) else (if (lg_cmp x1 1) = 0 then some (1, e_status) else (if (lg_cmp x1 0) = 0 then some (0, e_status) else (if (lg_cmp x1 (-1)) = 0 then (if (lg_cmp (x3 &&& 1) 0) = 0 then some (1, e_status) else some ((-1), e_status)) else fn_Eval_raise_L74 zFU e_status x1 1 (if 64 < x3 then 64 else x3) 0)))) else some (0, 3))
set_option maxHeartbeats 40000000 in
set_option maxRecDepth 100000 in
theorem ct_Eval_raise (l : Launch) (D : va_G) (cI cJ cC : ClassId) (adK adV : Nat → Nat) (A_e A_e_values A_e_differences : Nat) (sz : Nat) (e_status : Int32) (x1 : Int64) (x3 : Int64) {rs : Int64 × Int32} (hM : fn_Eval_raise e_status x1 x3 = some rs) : Met l yX2_raise wsX2_raise ({ frames := 1, cells := 0, slots := 0, locals := 27 } : Room) (zP D cI cJ cC adK adV [.ref A_e, .long x1, .long x3] sz [(A_e, .inr (2, [.ref A_e_values, .ref A_e_differences, .int e_status]))]) (zQl D cI cJ cC rs.1 [(A_e, .inr (2, [.ref A_e_values, .ref A_e_differences, .int rs.2]))] (va_A [(A_e, .inr (2, [.ref A_e_values, .ref A_e_differences, .int e_status]))] sz)) 0 0 (va_A [(A_e, .inr (2, [.ref A_e_values, .ref A_e_differences, .int e_status]))] sz) := by
  refine Met.ofW (cc := cX2_raise) (maxL := 11) (ret := (some .long)) (by decide) rfl ?_
  intro p e s m args below meth c s₁ B hml hv0
  obtain ⟨hargs, hsz, hP, hK, hD0, hX⟩ := hv0
  have hx := B.exec
  have hb := B.bytes
  have hr := B.returns
  have hts := atoms_spec (ws := wsX2_raise) B.pre
  have hown : s.vm.findClass RX2 = some m.cls := findClass_of_methodNamed B.named
  have hlocks := B.notSynchronized
  subst hsz
  have hD := hD0.self (sz := s.heap.size)
  generalize hAe : va_A [(A_e, .inr (2, [.ref A_e_values, .ref A_e_differences, .int e_status]))] s.heap.size = A at hD hX ⊢
  have hA : ∀ q : Nat, s.heap.size ≤ q → A q := fun q h => by rw [← hAe]; exact Or.inr h
  have hS : va_S A s.heap s.heap [] := va_S.rf
  have hl := lv_entry ([.ref A_e, .long x1, .long x3]) (n := 11) (Nat.le_of_ble_eq_true rfl)
  rw [hargs, lg_entry_eq, ← hargs]
  generalize (lg_sl ([.ref A_e, .long x1, .long x3]) ++ List.replicate (11 - (lg_sl ([.ref A_e, .long x1, .long x3])).length) Slot.unset).toArray = ls at hl ⊢
  have hl : lv_has ls 11 [(0, .ref A_e), (1, .long x1), (3, .long x3)] := hl
  have hw0 := hts (.methodLink RX2 101 Lib.MathLoose.min_long.x) (by decide +kernel)
  have hw1 := hts (.static Lib.MathLoose.min_long.x) (by decide +kernel)
  have hw2 := hts (.initialized "java/lang/Math") (by decide +kernel)
  have hw3 := hts (.code Lib.MathLoose.min_long.x Lib.MathLoose.min_long.code 4 (some .long)) (by decide +kernel)
  have hw4 : ∀ w ∈ u_ws RX2 TX2 3, w ∈ wsX2_raise := by decide +kernel
  have hw5 := hts (.fieldLink RX2 18 "NotationParser$Evaluator" "status" "I") (by decide +kernel)
  have L_74_0 : ∀ (n : Nat) (e_status : Int32) (x1 : Int64) (x5 : Int64) (x7 : Int64) (x9 : Int64) (H : Heap) (locs : List Loc) (ls : Array Slot), va_P D vwCl [(A_e, .inr (2, [.ref A_e_values, .ref A_e_differences, .int e_status]))] H → va_D A [(A_e, .inr (2, [.ref A_e_values, .ref A_e_differences, .int e_status]))] → va_S A s.heap H locs → lv_has ls 11 [(0, .ref A_e), (1, .long x1), (5, .long x5), (7, .long x7), (9, .long x9)] → fn_Eval_raise_L74  n e_status x1 x5 x7 x9 = some rs → W p l e (headSpec wsX2_raise ({ frames := 1, cells := 0, slots := 0, locals := 27 } : Room)).room s m args below meth c H locs 0 0 (MQ below (zQl D cI cJ cC rs.1 [(A_e, .inr (2, [.ref A_e_values, .ref A_e_differences, .int rs.2]))] A) args s 0 0 A) (F0 m 74 ls []) := by
    intro  n
    induction n with
    | zero => intro e_status x1 x5 x7 x9 H locs ls _ _ _ _ hM; exact z_n hM
    | succ n ih =>
      intro e_status x1 x5 x7 x9 H locs ls hP hD hS hl hM
      refine lv_lload hx hb dX2_raise_74 (lv_at hl 4 rfl) ?_
      refine lv_lload hx hb dX2_raise_76 (lv_at hl 3 rfl) ?_
      refine W.lcmp hx hb dX2_raise_78 ?_
      refine lv_if_ge (tgt := 107) hx hb dX2_raise_79 (by decide) (fun c6 => ?_) (fun c6 => ?_)
      · have hM := z_t c6 hM
        refine lv_lload hx hb dX2_raise_107 (lv_at hl 2 rfl) ?_
        have hM := Option.some.inj hM
        subst hM
        exact W.lret (v := x5) hx hb hr (fun t ht hW => ⟨⟨_, (), rfl, rfl, ⟨by rw [ht]; exact hP, va_K.moved hW.alike hK, hD⟩⟩, hS.F ht⟩) hS.2.2 dX2_raise_109
      · have hM := z_f c6 hM
        refine lv_aload_n hx hb dX2_raise_82 rfl (lv_at hl 0 rfl) ?_
        refine va_get (D := D) (ci := 2) (v := .int e_status) (C := RX2) (T := TX2) (N := 3) hx hb hts hw4 hown hK hP 0 rfl rfl 2 (by decide) hw5 (fun _ h9 => h9) rfl dX2_raise_83 ?_
        refine lv_if_ne (tgt := 107) hx hb dX2_raise_86 (by decide) (fun c7 => ?_) (fun c7 => ?_)
        · have hM := z_f c7 hM
          refine lv_lload hx hb dX2_raise_107 (lv_at hl 2 rfl) ?_
          have hM := Option.some.inj hM
          subst hM
          exact W.lret (v := x5) hx hb hr (fun t ht hW => ⟨⟨_, (), rfl, rfl, ⟨by rw [ht]; exact hP, va_K.moved hW.alike hK, hD⟩⟩, hS.F ht⟩) hS.2.2 dX2_raise_109
        · have hM := z_t c7 hM
          refine lv_aload_n hx hb dX2_raise_89 rfl (lv_at hl 0 rfl) ?_
          refine lv_lload hx hb dX2_raise_90 (lv_at hl 2 rfl) ?_
          refine lv_lload_n hx hb dX2_raise_92 rfl (lv_at hl 1 rfl) ?_
          obtain ⟨q8, hq8, hM⟩ := z_b hM
          obtain ⟨hPc, hDc, hFc⟩ := zcut (wc := [(A_e, .inr (2, [.ref A_e_values, .ref A_e_differences, .int e_status]))]) hP hD hS hA [0] rfl rfl (by decide)
          have hrun : va_Run p l e (headSpec wsX2_raise ({ frames := 1, cells := 0, slots := 0, locals := 27 } : Room)).room s m args below meth c H locs 0 0 _ _ (F0 m 93 ls _) _ (zQl D cI cJ cC q8.1 [(A_e, .inr (2, [.ref A_e_values, .ref A_e_differences, .int q8.2]))] (va_A [(A_e, .inr (2, [.ref A_e_values, .ref A_e_differences, .int e_status]))] H.size) _) (va_A [(A_e, .inr (2, [.ref A_e_values, .ref A_e_differences, .int e_status]))] H.size) := va_runV (As := [.long x5, .long x1]) (rest := []) ⟨hx, hb, hml, hown, hts⟩ (ct_Eval_multiply l D cI cJ cC adK adV A_e A_e_values A_e_differences H.size e_status x5 x1 hq8) (cwV 2 hts gX2_raise_X2_multiply rfl rfl rfl (by decide +kernel) ⟨Nat.le_of_ble_eq_true rfl, Nat.le_of_ble_eq_true rfl⟩) ⟨zblind, va_recv hK hP (ci := 2) (q0 := 0) rfl rfl, zpre hX hS hFc hPc hK hDc⟩ rfl rfl hl.1 rfl (lv_room (Nat.le_of_ble_eq_true rfl)) dX2_raise_93 ⟨Nat.zero_le _, Nat.zero_le _⟩
          refine zc_l (ws' := [(A_e, .inr (2, [.ref A_e_values, .ref A_e_differences, .int q8.2]))]) hrun hP hD hS hFc [0] rfl (by decide) rfl rfl (fun H9 locs hP hD hS => ?_)
          refine lv_lstore (lv' := [(5, .long q8.1), (0, .ref A_e), (1, .long x1), (7, .long x7), (9, .long x9)]) hx hb dX2_raise_96 hl (by decide) rfl (fun ls hl => ?_)
          refine lv_lload hx hb dX2_raise_98 (lv_at hl 4 rfl) ?_
          refine lv_lconst (v := 1) hx hb dX2_raise_100 (by decide) ?_
          refine lv_ladd hx hb dX2_raise_101 ?_
          refine lv_lstore (lv' := [(9, .long (x9 + 1)), (5, .long q8.1), (0, .ref A_e), (1, .long x1), (7, .long x7)]) hx hb dX2_raise_102 hl (by decide) rfl (fun ls hl => ?_)
          refine lv_goto (tgt := 74) hx hb dX2_raise_104 (by decide) ?_
          exact ih q8.2 x1 q8.1 x7 (x9 + 1) _ _ ls hP hD hS (lv_sub hl [2, 3, 1, 4, 0] rfl) hM
  refine lv_lload_n hx hb dX2_raise_0 rfl (lv_at hl 2 rfl) ?_
  refine lv_lconst (v := 0) hx hb dX2_raise_1 (by decide) ?_
  refine W.lcmp hx hb dX2_raise_2 ?_
  refine lv_if_ge (tgt := 13) hx hb dX2_raise_3 (by decide) (fun c1 => ?_) (fun c1 => ?_)
  · have hM := z_t c1 hM
    refine lv_lload_n hx hb dX2_raise_13 rfl (lv_at hl 2 rfl) ?_
    refine lv_lconst (v := 0) hx hb dX2_raise_14 (by decide) ?_
    refine W.lcmp hx hb dX2_raise_15 ?_
    refine lv_if_eq (tgt := 25) hx hb dX2_raise_16 (by decide) (fun c2 => ?_) (fun c2 => ?_)
    · have hM := z_t c2 hM
      refine lv_lconst (v := 1) hx hb dX2_raise_25 (by decide) ?_
      have hM := Option.some.inj hM
      subst hM
      exact W.lret (v := 1) hx hb hr (fun t ht hW => ⟨⟨_, (), rfl, rfl, ⟨by rw [ht]; exact hP, va_K.moved hW.alike hK, hD⟩⟩, hS.F ht⟩) hS.2.2 dX2_raise_26
    · have hM := z_f c2 hM
      refine lv_lload_n hx hb dX2_raise_19 rfl (lv_at hl 1 rfl) ?_
      refine lv_lconst (v := 1) hx hb dX2_raise_20 (by decide) ?_
      refine W.lcmp hx hb dX2_raise_21 ?_
      refine lv_if_ne (tgt := 27) hx hb dX2_raise_22 (by decide) (fun c3 => ?_) (fun c3 => ?_)
      · have hM := z_f c3 hM
        refine lv_lload_n hx hb dX2_raise_27 rfl (lv_at hl 1 rfl) ?_
        refine lv_lconst (v := 0) hx hb dX2_raise_28 (by decide) ?_
        refine W.lcmp hx hb dX2_raise_29 ?_
        refine lv_if_ne (tgt := 35) hx hb dX2_raise_30 (by decide) (fun c4 => ?_) (fun c4 => ?_)
        · have hM := z_f c4 hM
          refine lv_lload_n hx hb dX2_raise_35 rfl (lv_at hl 1 rfl) ?_
          refine lv_ldc2 hx hb hown (hts (.constantLong RX2 95 (-1)) (by decide +kernel)) dX2_raise_36 ?_
          refine W.lcmp hx hb dX2_raise_39 ?_
          refine lv_if_ne (tgt := 59) hx hb dX2_raise_40 (by decide) (fun c5 => ?_) (fun c5 => ?_)
          · have hM := z_f c5 hM
            refine lv_lconst (v := 1) hx hb dX2_raise_59 (by decide) ?_
            refine lv_lstore (lv' := [(5, .long 1), (0, .ref A_e), (1, .long x1), (3, .long x3)]) hx hb dX2_raise_60 hl (by decide) rfl (fun ls hl => ?_)
            refine lv_lload_n hx hb dX2_raise_62 rfl (lv_at hl 3 rfl) ?_
            refine lv_ldc2 hx hb hown (hts (.constantLong RX2 99 64) (by decide +kernel)) dX2_raise_63 ?_
            refine va_mmin_long hx hb (hml.trans hl.1.symm) hown hw0 hw1 hw2 hw3 (Nat.le_of_ble_eq_true rfl) (Nat.le_of_ble_eq_true rfl) (Nat.zero_le _) (Nat.zero_le _) dX2_raise_66 ?_
            refine lv_lstore (lv' := [(7, .long (if 64 < x3 then 64 else x3)), (5, .long 1), (0, .ref A_e), (1, .long x1), (3, .long x3)]) hx hb dX2_raise_69 hl (by decide) rfl (fun ls hl => ?_)
            refine lv_lconst (v := 0) hx hb dX2_raise_71 (by decide) ?_
            refine lv_lstore (lv' := [(9, .long 0), (7, .long (if 64 < x3 then 64 else x3)), (5, .long 1), (0, .ref A_e), (1, .long x1), (3, .long x3)]) hx hb dX2_raise_72 hl (by decide) rfl (fun ls hl => ?_)
            exact L_74_0  zFU e_status x1 1 (if 64 < x3 then 64 else x3) 0 _ _ ls hP hD hS (lv_sub hl [3, 4, 2, 1, 0] rfl) hM
          · have hM := z_t c5 hM
            refine lv_lload_n hx hb dX2_raise_43 rfl (lv_at hl 2 rfl) ?_
            refine lv_lconst (v := 1) hx hb dX2_raise_44 (by decide) ?_
            refine lv_land hx hb dX2_raise_45 ?_
            refine lv_lconst (v := 0) hx hb dX2_raise_46 (by decide) ?_
            refine W.lcmp hx hb dX2_raise_47 ?_
            refine lv_if_ne (tgt := 55) hx hb dX2_raise_48 (by decide) (fun c10 => ?_) (fun c10 => ?_)
            · have hM := z_f c10 hM
              refine lv_ldc2 hx hb hown (hts (.constantLong RX2 95 (-1)) (by decide +kernel)) dX2_raise_55 ?_
              have hM := Option.some.inj hM
              subst hM
              exact W.lret (v := (-1)) hx hb hr (fun t ht hW => ⟨⟨_, (), rfl, rfl, ⟨by rw [ht]; exact hP, va_K.moved hW.alike hK, hD⟩⟩, hS.F ht⟩) hS.2.2 dX2_raise_58
            · have hM := z_t c10 hM
              refine lv_lconst (v := 1) hx hb dX2_raise_51 (by decide) ?_
              refine lv_goto (tgt := 58) hx hb dX2_raise_52 (by decide) ?_
              have hM := Option.some.inj hM
              subst hM
              exact W.lret (v := 1) hx hb hr (fun t ht hW => ⟨⟨_, (), rfl, rfl, ⟨by rw [ht]; exact hP, va_K.moved hW.alike hK, hD⟩⟩, hS.F ht⟩) hS.2.2 dX2_raise_58
        · have hM := z_t c4 hM
          refine lv_lconst (v := 0) hx hb dX2_raise_33 (by decide) ?_
          have hM := Option.some.inj hM
          subst hM
          exact W.lret (v := 0) hx hb hr (fun t ht hW => ⟨⟨_, (), rfl, rfl, ⟨by rw [ht]; exact hP, va_K.moved hW.alike hK, hD⟩⟩, hS.F ht⟩) hS.2.2 dX2_raise_34
      · have hM := z_t c3 hM
        refine lv_lconst (v := 1) hx hb dX2_raise_25 (by decide) ?_
        have hM := Option.some.inj hM
        subst hM
        exact W.lret (v := 1) hx hb hr (fun t ht hW => ⟨⟨_, (), rfl, rfl, ⟨by rw [ht]; exact hP, va_K.moved hW.alike hK, hD⟩⟩, hS.F ht⟩) hS.2.2 dX2_raise_26
  · have hM := z_f c1 hM
    refine lv_aload_n hx hb dX2_raise_6 rfl (lv_at hl 0 rfl) ?_
    refine lv_iconst (v := 3) hx hb dX2_raise_7 (by decide) ?_
    refine va_put (D := D) (ci := 2) (v := .int 3) (ty := .int) (C := RX2) (T := TX2) (N := 3) hx hb hts hw4 tyX2 tyX2_ok nmX2 hown hK hP hD hS 0 rfl rfl 2 (by decide) hw5 (fun _ h9 => h9) rfl (by decide +kernel) rfl rfl (Nat.le_of_ble_eq_true rfl) dX2_raise_8 (fun H11 locs hP hD hS => ?_)
    have hP : va_P D vwCl [(A_e, .inr (2, [.ref A_e_values, .ref A_e_differences, .int 3]))] H11 := hP
    have hD : va_D A [(A_e, .inr (2, [.ref A_e_values, .ref A_e_differences, .int 3]))] := hD
    refine lv_lconst (v := 0) hx hb dX2_raise_11 (by decide) ?_
    have hM := Option.some.inj hM
    subst hM
    exact W.lret (v := 0) hx hb hr (fun t ht hW => ⟨⟨_, (), rfl, rfl, ⟨by rw [ht]; exact hP, va_K.moved hW.alike hK, hD⟩⟩, hS.F ht⟩) hS.2.2 dX2_raise_12
def fn_Eval_apply (e_status : Int32) (x1 : Int32) (x2 : Int64) : Option (Int64 × Int32) := (if x1 = 3 then (if 0 ≤ (lg_cmp x2 0) then some (x2, e_status) else some ((fn_Eval_subtract e_status 0 x2).1, (fn_Eval_subtract e_status 0 x2).2)) else (if x1 = 4 then (if 0 ≤ (lg_cmp x2 0) then (if (lg_cmp x2 0) ≤ 0 then some (0, e_status) else some (1, e_status)) else some ((-1), e_status)) else (if x1 = 5 then ((fn_Eval_multiply e_status x2 x2).bind fun q9 => some (q9.1, q9.2)) else some ((fn_Eval_add e_status x2 x2).1, (fn_Eval_add e_status x2 x2).2))))
set_option maxHeartbeats 40000000 in
set_option maxRecDepth 100000 in
theorem ct_Eval_apply (l : Launch) (D : va_G) (cI cJ cC : ClassId) (adK adV : Nat → Nat) (A_e A_e_values A_e_differences : Nat) (sz : Nat) (e_status : Int32) (x1 : Int32) (x2 : Int64) {rs : Int64 × Int32} (hM : fn_Eval_apply e_status x1 x2 = some rs) : Met l yX2_apply wsX2_apply ({ frames := 1, cells := 0, slots := 0, locals := 27 } : Room) (zP D cI cJ cC adK adV [.ref A_e, .int x1, .long x2] sz [(A_e, .inr (2, [.ref A_e_values, .ref A_e_differences, .int e_status]))]) (zQl D cI cJ cC rs.1 [(A_e, .inr (2, [.ref A_e_values, .ref A_e_differences, .int rs.2]))] (va_A [(A_e, .inr (2, [.ref A_e_values, .ref A_e_differences, .int e_status]))] sz)) 0 0 (va_A [(A_e, .inr (2, [.ref A_e_values, .ref A_e_differences, .int e_status]))] sz) := by
  refine Met.ofW (cc := cX2_apply) (maxL := 4) (ret := (some .long)) (by decide) rfl ?_
  intro p e s m args below meth c s₁ B hml hv0
  obtain ⟨hargs, hsz, hP, hK, hD0, hX⟩ := hv0
  have hx := B.exec
  have hb := B.bytes
  have hr := B.returns
  have hts := atoms_spec (ws := wsX2_apply) B.pre
  have hown : s.vm.findClass RX2 = some m.cls := findClass_of_methodNamed B.named
  have hlocks := B.notSynchronized
  subst hsz
  have hD := hD0.self (sz := s.heap.size)
  generalize hAe : va_A [(A_e, .inr (2, [.ref A_e_values, .ref A_e_differences, .int e_status]))] s.heap.size = A at hD hX ⊢
  have hA : ∀ q : Nat, s.heap.size ≤ q → A q := fun q h => by rw [← hAe]; exact Or.inr h
  have hS : va_S A s.heap s.heap [] := va_S.rf
  have hl := lv_entry ([.ref A_e, .int x1, .long x2]) (n := 4) (Nat.le_of_ble_eq_true rfl)
  rw [hargs, lg_entry_eq, ← hargs]
  generalize (lg_sl ([.ref A_e, .int x1, .long x2]) ++ List.replicate (4 - (lg_sl ([.ref A_e, .int x1, .long x2])).length) Slot.unset).toArray = ls at hl ⊢
  have hl : lv_has ls 4 [(0, .ref A_e), (1, .int x1), (2, .long x2)] := hl
  refine lv_iload_n hx hb dX2_apply_0 rfl (lv_at hl 1 rfl) ?_
  by_cases c1 : x1 = 3
  · have hM := z_t c1 hM
    refine lv_tableIn (tgt := 28) (off := 27) hx hb dX2_apply_1 (by rw [c1]; decide) (by rw [c1]; decide) (by rw [c1]; decide +kernel) (by decide) ?_
    refine lv_lload_n hx hb dX2_apply_28 rfl (lv_at hl 2 rfl) ?_
    refine lv_lconst (v := 0) hx hb dX2_apply_29 (by decide) ?_
    refine W.lcmp hx hb dX2_apply_30 ?_
    refine lv_if_ge (tgt := 43) hx hb dX2_apply_31 (by decide) (fun c2 => ?_) (fun c2 => ?_)
    · have hM := z_t c2 hM
      refine lv_lload_n hx hb dX2_apply_43 rfl (lv_at hl 2 rfl) ?_
      have hM := Option.some.inj hM
      subst hM
      exact W.lret (v := x2) hx hb hr (fun t ht hW => ⟨⟨_, (), rfl, rfl, ⟨by rw [ht]; exact hP, va_K.moved hW.alike hK, hD⟩⟩, hS.F ht⟩) hS.2.2 dX2_apply_44
    · have hM := z_f c2 hM
      refine lv_aload_n hx hb dX2_apply_34 rfl (lv_at hl 0 rfl) ?_
      refine lv_lconst (v := 0) hx hb dX2_apply_35 (by decide) ?_
      refine lv_lload_n hx hb dX2_apply_36 rfl (lv_at hl 2 rfl) ?_
      obtain ⟨hPc, hDc, hFc⟩ := zcut (wc := [(A_e, .inr (2, [.ref A_e_values, .ref A_e_differences, .int e_status]))]) hP hD hS hA [0] rfl rfl (by decide)
      have hrun : va_Run p l e (headSpec wsX2_apply ({ frames := 1, cells := 0, slots := 0, locals := 27 } : Room)).room s m args below meth c s.heap [] 0 0 _ _ (F0 m 37 ls _) _ (zQl D cI cJ cC (fn_Eval_subtract e_status 0 x2).1 [(A_e, .inr (2, [.ref A_e_values, .ref A_e_differences, .int (fn_Eval_subtract e_status 0 x2).2]))] (va_A [(A_e, .inr (2, [.ref A_e_values, .ref A_e_differences, .int e_status]))] s.heap.size) _) (va_A [(A_e, .inr (2, [.ref A_e_values, .ref A_e_differences, .int e_status]))] s.heap.size) := va_runV (As := [.long 0, .long x2]) (rest := []) ⟨hx, hb, hml, hown, hts⟩ (ct_Eval_subtract l D cI cJ cC adK adV A_e A_e_values A_e_differences s.heap.size e_status 0 x2) (cwV 2 hts gX2_apply_X2_subtract rfl rfl rfl (by decide +kernel) ⟨Nat.le_of_ble_eq_true rfl, Nat.le_of_ble_eq_true rfl⟩) ⟨zblind, va_recv hK hP (ci := 2) (q0 := 0) rfl rfl, zpre hX hS hFc hPc hK hDc⟩ rfl rfl hl.1 rfl (lv_room (Nat.le_of_ble_eq_true rfl)) dX2_apply_37 ⟨Nat.zero_le _, Nat.zero_le _⟩
      refine zc_l (ws' := [(A_e, .inr (2, [.ref A_e_values, .ref A_e_differences, .int (fn_Eval_subtract e_status 0 x2).2]))]) hrun hP hD hS hFc [0] rfl (by decide) rfl rfl (fun H4 locs hP hD hS => ?_)
      refine lv_goto (tgt := 44) hx hb dX2_apply_40 (by decide) ?_
      have hM := Option.some.inj hM
      subst hM
      exact W.lret (v := (fn_Eval_subtract e_status 0 x2).1) hx hb hr (fun t ht hW => ⟨⟨_, (), rfl, rfl, ⟨by rw [ht]; exact hP, va_K.moved hW.alike hK, hD⟩⟩, hS.F ht⟩) hS.2.2 dX2_apply_44
  · have hM := z_f c1 hM
    by_cases c5 : x1 = 4
    · have hM := z_t c5 hM
      refine lv_tableIn (tgt := 45) (off := 44) hx hb dX2_apply_1 (by rw [c5]; decide) (by rw [c5]; decide) (by rw [c5]; decide +kernel) (by decide) ?_
      refine lv_lload_n hx hb dX2_apply_45 rfl (lv_at hl 2 rfl) ?_
      refine lv_lconst (v := 0) hx hb dX2_apply_46 (by decide) ?_
      refine W.lcmp hx hb dX2_apply_47 ?_
      refine lv_if_ge (tgt := 57) hx hb dX2_apply_48 (by decide) (fun c6 => ?_) (fun c6 => ?_)
      · have hM := z_t c6 hM
        refine lv_lload_n hx hb dX2_apply_57 rfl (lv_at hl 2 rfl) ?_
        refine lv_lconst (v := 0) hx hb dX2_apply_58 (by decide) ?_
        refine W.lcmp hx hb dX2_apply_59 ?_
        refine lv_if_le (tgt := 67) hx hb dX2_apply_60 (by decide) (fun c7 => ?_) (fun c7 => ?_)
        · have hM := z_t c7 hM
          refine lv_lconst (v := 0) hx hb dX2_apply_67 (by decide) ?_
          have hM := Option.some.inj hM
          subst hM
          exact W.lret (v := 0) hx hb hr (fun t ht hW => ⟨⟨_, (), rfl, rfl, ⟨by rw [ht]; exact hP, va_K.moved hW.alike hK, hD⟩⟩, hS.F ht⟩) hS.2.2 dX2_apply_68
        · have hM := z_f c7 hM
          refine lv_lconst (v := 1) hx hb dX2_apply_63 (by decide) ?_
          refine lv_goto (tgt := 68) hx hb dX2_apply_64 (by decide) ?_
          have hM := Option.some.inj hM
          subst hM
          exact W.lret (v := 1) hx hb hr (fun t ht hW => ⟨⟨_, (), rfl, rfl, ⟨by rw [ht]; exact hP, va_K.moved hW.alike hK, hD⟩⟩, hS.F ht⟩) hS.2.2 dX2_apply_68
      · have hM := z_f c6 hM
        refine lv_ldc2 hx hb hown (hts (.constantLong RX2 95 (-1)) (by decide +kernel)) dX2_apply_51 ?_
        refine lv_goto (tgt := 68) hx hb dX2_apply_54 (by decide) ?_
        have hM := Option.some.inj hM
        subst hM
        exact W.lret (v := (-1)) hx hb hr (fun t ht hW => ⟨⟨_, (), rfl, rfl, ⟨by rw [ht]; exact hP, va_K.moved hW.alike hK, hD⟩⟩, hS.F ht⟩) hS.2.2 dX2_apply_68
    · have hM := z_f c5 hM
      by_cases c8 : x1 = 5
      · have hM := z_t c8 hM
        refine lv_tableIn (tgt := 69) (off := 68) hx hb dX2_apply_1 (by rw [c8]; decide) (by rw [c8]; decide) (by rw [c8]; decide +kernel) (by decide) ?_
        refine lv_aload_n hx hb dX2_apply_69 rfl (lv_at hl 0 rfl) ?_
        refine lv_lload_n hx hb dX2_apply_70 rfl (lv_at hl 2 rfl) ?_
        refine lv_lload_n hx hb dX2_apply_71 rfl (lv_at hl 2 rfl) ?_
        obtain ⟨q9, hq9, hM⟩ := z_b hM
        obtain ⟨hPc, hDc, hFc⟩ := zcut (wc := [(A_e, .inr (2, [.ref A_e_values, .ref A_e_differences, .int e_status]))]) hP hD hS hA [0] rfl rfl (by decide)
        have hrun : va_Run p l e (headSpec wsX2_apply ({ frames := 1, cells := 0, slots := 0, locals := 27 } : Room)).room s m args below meth c s.heap [] 0 0 _ _ (F0 m 72 ls _) _ (zQl D cI cJ cC q9.1 [(A_e, .inr (2, [.ref A_e_values, .ref A_e_differences, .int q9.2]))] (va_A [(A_e, .inr (2, [.ref A_e_values, .ref A_e_differences, .int e_status]))] s.heap.size) _) (va_A [(A_e, .inr (2, [.ref A_e_values, .ref A_e_differences, .int e_status]))] s.heap.size) := va_runV (As := [.long x2, .long x2]) (rest := []) ⟨hx, hb, hml, hown, hts⟩ (ct_Eval_multiply l D cI cJ cC adK adV A_e A_e_values A_e_differences s.heap.size e_status x2 x2 hq9) (cwV 2 hts gX2_apply_X2_multiply rfl rfl rfl (by decide +kernel) ⟨Nat.le_of_ble_eq_true rfl, Nat.le_of_ble_eq_true rfl⟩) ⟨zblind, va_recv hK hP (ci := 2) (q0 := 0) rfl rfl, zpre hX hS hFc hPc hK hDc⟩ rfl rfl hl.1 rfl (lv_room (Nat.le_of_ble_eq_true rfl)) dX2_apply_72 ⟨Nat.zero_le _, Nat.zero_le _⟩
        refine zc_l (ws' := [(A_e, .inr (2, [.ref A_e_values, .ref A_e_differences, .int q9.2]))]) hrun hP hD hS hFc [0] rfl (by decide) rfl rfl (fun H10 locs hP hD hS => ?_)
        have hM := Option.some.inj hM
        subst hM
        exact W.lret (v := q9.1) hx hb hr (fun t ht hW => ⟨⟨_, (), rfl, rfl, ⟨by rw [ht]; exact hP, va_K.moved hW.alike hK, hD⟩⟩, hS.F ht⟩) hS.2.2 dX2_apply_75
      · have hM := z_f c8 hM
        refine lv_tableOut (tgt := 76) hx hb dX2_apply_1 (z_out (lo := 3) 3 (fun k hk => ?_)) (by decide) ?_
        · match k, hk with
          | 0, _ => exact c1
          | 1, _ => exact c5
          | 2, _ => exact c8
          | k + 3, hk => omega
        · refine lv_aload_n hx hb dX2_apply_76 rfl (lv_at hl 0 rfl) ?_
          refine lv_lload_n hx hb dX2_apply_77 rfl (lv_at hl 2 rfl) ?_
          refine lv_lload_n hx hb dX2_apply_78 rfl (lv_at hl 2 rfl) ?_
          obtain ⟨hPc, hDc, hFc⟩ := zcut (wc := [(A_e, .inr (2, [.ref A_e_values, .ref A_e_differences, .int e_status]))]) hP hD hS hA [0] rfl rfl (by decide)
          have hrun : va_Run p l e (headSpec wsX2_apply ({ frames := 1, cells := 0, slots := 0, locals := 27 } : Room)).room s m args below meth c s.heap [] 0 0 _ _ (F0 m 79 ls _) _ (zQl D cI cJ cC (fn_Eval_add e_status x2 x2).1 [(A_e, .inr (2, [.ref A_e_values, .ref A_e_differences, .int (fn_Eval_add e_status x2 x2).2]))] (va_A [(A_e, .inr (2, [.ref A_e_values, .ref A_e_differences, .int e_status]))] s.heap.size) _) (va_A [(A_e, .inr (2, [.ref A_e_values, .ref A_e_differences, .int e_status]))] s.heap.size) := va_runV (As := [.long x2, .long x2]) (rest := []) ⟨hx, hb, hml, hown, hts⟩ (ct_Eval_add l D cI cJ cC adK adV A_e A_e_values A_e_differences s.heap.size e_status x2 x2) (cwV 2 hts gX2_apply_X2_add rfl rfl rfl (by decide +kernel) ⟨Nat.le_of_ble_eq_true rfl, Nat.le_of_ble_eq_true rfl⟩) ⟨zblind, va_recv hK hP (ci := 2) (q0 := 0) rfl rfl, zpre hX hS hFc hPc hK hDc⟩ rfl rfl hl.1 rfl (lv_room (Nat.le_of_ble_eq_true rfl)) dX2_apply_79 ⟨Nat.zero_le _, Nat.zero_le _⟩
          refine zc_l (ws' := [(A_e, .inr (2, [.ref A_e_values, .ref A_e_differences, .int (fn_Eval_add e_status x2 x2).2]))]) hrun hP hD hS hFc [0] rfl (by decide) rfl rfl (fun H12 locs hP hD hS => ?_)
          have hM := Option.some.inj hM
          subst hM
          exact W.lret (v := (fn_Eval_add e_status x2 x2).1) hx hb hr (fun t ht hW => ⟨⟨_, (), rfl, rfl, ⟨by rw [ht]; exact hP, va_K.moved hW.alike hK, hD⟩⟩, hS.F ht⟩) hS.2.2 dX2_apply_82
def fn_Eval_applyPrimed_L59 (k_49_1 : Int32 → (Nat → Int64) → Int32 → Int32 → Option (Int64 × Int32 × (Nat → Int64))) : Nat → Int32 → (Nat → Int64) → Int32 → Int32 → Int32 → Option (Int64 × Int32 × (Nat → Int64))
  | 0 => fun _ _ _ _ _ => none
  | n + 1 => fun e_status e_differences x5 x6 x7 => (if x5 < (x7 + x6) then k_49_1 e_status e_differences x5 (x6 + 1) else (if ((x7 + 1) < 0 ∨ 4 ≤ (x7 + 1).toNatClampNeg) then none else (if (x7 < 0 ∨ 4 ≤ x7.toNatClampNeg) then none else (if (x7 < 0 ∨ 4 ≤ x7.toNatClampNeg) then none else (fn_Eval_applyPrimed_L59 k_49_1 n) (fn_Eval_subtract e_status (e_differences (x7 + 1).toNatClampNeg) (e_differences x7.toNatClampNeg)).2 (vp_updL e_differences x7.toNatClampNeg (fn_Eval_subtract e_status (e_differences (x7 + 1).toNatClampNeg) (e_differences x7.toNatClampNeg)).1) x5 x6 (x7 + 1)))))
def fn_Eval_applyPrimed_L49 : Nat → Int32 → (Nat → Int64) → Int32 → Int32 → Option (Int64 × Int32 × (Nat → Int64))
  | 0 => fun _ _ _ _ => none
  | n + 1 => fun e_status e_differences x5 x6 => (if x5 < x6 then (if ((0 : Int32) < 0 ∨ 4 ≤ (0 : Int32).toNatClampNeg) then none else some ((e_differences (0 : Int32).toNatClampNeg), e_status, e_differences)) else fn_Eval_applyPrimed_L59 (fn_Eval_applyPrimed_L49  n) zFU e_status e_differences x5 x6 0)
def fn_Eval_applyPrimed_L15 : Nat → Int32 → (Nat → Int64) → Int32 → Int64 → Int32 → Int32 → Option (Int64 × Int32 × (Nat → Int64))
  | 0 => fun _ _ _ _ _ _ => none
  | n + 1 => fun e_status e_differences x1 x3 x5 x6 => (if x6 < 0 then fn_Eval_applyPrimed_L49 zFU e_status e_differences x5 1 else ((fn_Eval_apply (fn_Eval_add e_status x3 (x6).toInt64).2 x1 (fn_Eval_add e_status x3 (x6).toInt64).1).bind fun q13 => (if (x6 < 0 ∨ 4 ≤ x6.toNatClampNeg) then none else (fn_Eval_applyPrimed_L15  n) q13.2 (vp_updL e_differences x6.toNatClampNeg q13.1) x1 x3 x5 (x6 + (-1)))))
def fn_Eval_applyPrimed (e_status : Int32) (e_differences : Nat → Int64) (x1 : Int32) (x2 : Int32) (x3 : Int64) : Option (Int64 × Int32 × (Nat → Int64)) := fn_Eval_applyPrimed_L15 zFU e_status e_differences x1 x3 (if 0 < (if 3 < x2 then 3 else x2) then (if 3 < x2 then 3 else x2) else 0) (if 0 < (if 3 < x2 then 3 else x2) then (if 3 < x2 then 3 else x2) else 0)
set_option maxHeartbeats 40000000 in
set_option maxRecDepth 100000 in
theorem ct_Eval_applyPrimed (l : Launch) (D : va_G) (cI cJ cC : ClassId) (adK adV : Nat → Nat) (A_e A_e_values A_e_differences : Nat) (sz : Nat) (e_status : Int32) (e_differences : Nat → Int64) (x1 : Int32) (x2 : Int32) (x3 : Int64) {rs : Int64 × Int32 × (Nat → Int64)} (hM : fn_Eval_applyPrimed e_status e_differences x1 x2 x3 = some rs) : Met l yX2_applyPrimed wsX2_applyPrimed ({ frames := 2, cells := 0, slots := 0, locals := 50 } : Room) (zP D cI cJ cC adK adV [.ref A_e, .int x1, .int x2, .long x3] sz [(A_e, .inr (2, [.ref A_e_values, .ref A_e_differences, .int e_status])), (A_e_differences, .inl (cJ, 4, .inr (.inl e_differences)))]) (zQl D cI cJ cC rs.1 [(A_e, .inr (2, [.ref A_e_values, .ref A_e_differences, .int rs.2.1])), (A_e_differences, .inl (cJ, 4, .inr (.inl rs.2.2)))] (va_A [(A_e, .inr (2, [.ref A_e_values, .ref A_e_differences, .int e_status])), (A_e_differences, .inl (cJ, 4, .inr (.inl e_differences)))] sz)) 0 0 (va_A [(A_e, .inr (2, [.ref A_e_values, .ref A_e_differences, .int e_status])), (A_e_differences, .inl (cJ, 4, .inr (.inl e_differences)))] sz) := by
  refine Met.ofW (cc := cX2_applyPrimed) (maxL := 8) (ret := (some .long)) (by decide) rfl ?_
  intro p e s m args below meth c s₁ B hml hv0
  obtain ⟨hargs, hsz, hP, hK, hD0, hX⟩ := hv0
  have hx := B.exec
  have hb := B.bytes
  have hr := B.returns
  have hts := atoms_spec (ws := wsX2_applyPrimed) B.pre
  have hown : s.vm.findClass RX2 = some m.cls := findClass_of_methodNamed B.named
  have hlocks := B.notSynchronized
  subst hsz
  have hD := hD0.self (sz := s.heap.size)
  generalize hAe : va_A [(A_e, .inr (2, [.ref A_e_values, .ref A_e_differences, .int e_status])), (A_e_differences, .inl (cJ, 4, .inr (.inl e_differences)))] s.heap.size = A at hD hX ⊢
  have hA : ∀ q : Nat, s.heap.size ≤ q → A q := fun q h => by rw [← hAe]; exact Or.inr h
  have hS : va_S A s.heap s.heap [] := va_S.rf
  have hl := lv_entry ([.ref A_e, .int x1, .int x2, .long x3]) (n := 8) (Nat.le_of_ble_eq_true rfl)
  rw [hargs, lg_entry_eq, ← hargs]
  generalize (lg_sl ([.ref A_e, .int x1, .int x2, .long x3]) ++ List.replicate (8 - (lg_sl ([.ref A_e, .int x1, .int x2, .long x3])).length) Slot.unset).toArray = ls at hl ⊢
  have hl : lv_has ls 8 [(0, .ref A_e), (1, .int x1), (2, .int x2), (3, .long x3)] := hl
  have hw0 := hts (.methodLink RX2 28 Lib.Math.min.name) (by decide +kernel)
  have hw1 := hts (.static Lib.Math.min.name) (by decide +kernel)
  have hw2 := hts (.initialized "java/lang/Math") (by decide +kernel)
  have hw3 := hts (.code Lib.Math.min.name Lib.Math.min.code 2 (some .int)) (by decide +kernel)
  have hw4 := hts (.methodLink RX2 103 Lib.Math.max.name) (by decide +kernel)
  have hw5 := hts (.static Lib.Math.max.name) (by decide +kernel)
  have hw6 := hts (.code Lib.Math.max.name Lib.Math.max.code 2 (some .int)) (by decide +kernel)
  have hw7 : ∀ w ∈ u_ws RX2 TX2 3, w ∈ wsX2_applyPrimed := by decide +kernel
  have hw8 := hts (.fieldLink RX2 15 "NotationParser$Evaluator" "differences" "[J") (by decide +kernel)
  have L_59_2 : ∀ (k_49_1 : Int32 → (Nat → Int64) → Int32 → Int32 → Option (Int64 × Int32 × (Nat → Int64))) (hk_49_1 : ∀ (e_status : Int32) (e_differences : Nat → Int64) (x5 : Int32) (x6 : Int32) (H : Heap) (locs : List Loc) (ls : Array Slot), va_P D vwCl [(A_e, .inr (2, [.ref A_e_values, .ref A_e_differences, .int e_status])), (A_e_differences, .inl (cJ, 4, .inr (.inl e_differences)))] H → va_D A [(A_e, .inr (2, [.ref A_e_values, .ref A_e_differences, .int e_status])), (A_e_differences, .inl (cJ, 4, .inr (.inl e_differences)))] → va_S A s.heap H locs → lv_has ls 8 [(0, .ref A_e), (5, .int x5), (6, .int x6)] → k_49_1 e_status e_differences x5 x6 = some rs → W p l e (headSpec wsX2_applyPrimed ({ frames := 2, cells := 0, slots := 0, locals := 50 } : Room)).room s m args below meth c H locs 0 0 (MQ below (zQl D cI cJ cC rs.1 [(A_e, .inr (2, [.ref A_e_values, .ref A_e_differences, .int rs.2.1])), (A_e_differences, .inl (cJ, 4, .inr (.inl rs.2.2)))] A) args s 0 0 A) (F0 m 49 ls [])) (n : Nat) (e_status : Int32) (e_differences : Nat → Int64) (x5 : Int32) (x6 : Int32) (x7 : Int32) (H : Heap) (locs : List Loc) (ls : Array Slot), va_P D vwCl [(A_e, .inr (2, [.ref A_e_values, .ref A_e_differences, .int e_status])), (A_e_differences, .inl (cJ, 4, .inr (.inl e_differences)))] H → va_D A [(A_e, .inr (2, [.ref A_e_values, .ref A_e_differences, .int e_status])), (A_e_differences, .inl (cJ, 4, .inr (.inl e_differences)))] → va_S A s.heap H locs → lv_has ls 8 [(0, .ref A_e), (5, .int x5), (6, .int x6), (7, .int x7)] → fn_Eval_applyPrimed_L59 k_49_1 n e_status e_differences x5 x6 x7 = some rs → W p l e (headSpec wsX2_applyPrimed ({ frames := 2, cells := 0, slots := 0, locals := 50 } : Room)).room s m args below meth c H locs 0 0 (MQ below (zQl D cI cJ cC rs.1 [(A_e, .inr (2, [.ref A_e_values, .ref A_e_differences, .int rs.2.1])), (A_e_differences, .inl (cJ, 4, .inr (.inl rs.2.2)))] A) args s 0 0 A) (F0 m 59 ls []) := by
    intro k_49_1 hk_49_1 n
    induction n with
    | zero => intro e_status e_differences x5 x6 x7 H locs ls _ _ _ _ hM; exact z_n hM
    | succ n ih =>
      intro e_status e_differences x5 x6 x7 H locs ls hP hD hS hl hM
      refine lv_iload hx hb dX2_applyPrimed_59 (lv_at hl 3 rfl) ?_
      refine lv_iload hx hb dX2_applyPrimed_61 (lv_at hl 2 rfl) ?_
      refine lv_iadd hx hb dX2_applyPrimed_63 ?_
      refine lv_iload hx hb dX2_applyPrimed_64 (lv_at hl 1 rfl) ?_
      refine lv_icmp_gt (tgt := 102) hx hb dX2_applyPrimed_66 (by decide) (fun c4 => ?_) (fun c4 => ?_)
      · have hM := z_t c4 hM
        refine lv_iinc (v := (x6 + 1)) (lv' := [(6, .int (x6 + 1)), (0, .ref A_e), (5, .int x5), (7, .int x7)]) hx hb dX2_applyPrimed_102 hl (k := 2) rfl rfl (by decide) rfl (fun ls hl => ?_)
        refine lv_goto (tgt := 49) hx hb dX2_applyPrimed_105 (by decide) ?_
        exact hk_49_1 e_status e_differences x5 (x6 + 1) _ _ ls hP hD hS (lv_sub hl [1, 2, 0] rfl) hM
      · have hM := z_f c4 hM
        refine lv_aload_n hx hb dX2_applyPrimed_69 rfl (lv_at hl 0 rfl) ?_
        refine va_get (D := D) (ci := 2) (v := .ref A_e_differences) (C := RX2) (T := TX2) (N := 3) hx hb hts hw7 hown hK hP 0 rfl rfl 1 (by decide) hw8 (fun _ h9 => h9) rfl dX2_applyPrimed_70 ?_
        refine lv_iload hx hb dX2_applyPrimed_73 (lv_at hl 3 rfl) ?_
        refine lv_aload_n hx hb dX2_applyPrimed_75 rfl (lv_at hl 0 rfl) ?_
        refine lv_aload_n hx hb dX2_applyPrimed_76 rfl (lv_at hl 0 rfl) ?_
        refine va_get (D := D) (ci := 2) (v := .ref A_e_differences) (C := RX2) (T := TX2) (N := 3) hx hb hts hw7 hown hK hP 0 rfl rfl 1 (by decide) hw8 (fun _ h9 => h9) rfl dX2_applyPrimed_77 ?_
        refine lv_iload hx hb dX2_applyPrimed_80 (lv_at hl 3 rfl) ?_
        refine lv_iconst (v := 1) hx hb dX2_applyPrimed_82 (by decide) ?_
        refine lv_iadd hx hb dX2_applyPrimed_83 ?_
        obtain ⟨g5, hM⟩ := z_g hM
        refine va_lald hx hb hK hP 1 1 rfl rfl g5 dX2_applyPrimed_84 ?_
        refine lv_aload_n hx hb dX2_applyPrimed_85 rfl (lv_at hl 0 rfl) ?_
        refine va_get (D := D) (ci := 2) (v := .ref A_e_differences) (C := RX2) (T := TX2) (N := 3) hx hb hts hw7 hown hK hP 0 rfl rfl 1 (by decide) hw8 (fun _ h9 => h9) rfl dX2_applyPrimed_86 ?_
        refine lv_iload hx hb dX2_applyPrimed_89 (lv_at hl 3 rfl) ?_
        obtain ⟨g6, hM⟩ := z_g hM
        refine va_lald hx hb hK hP 1 1 rfl rfl g6 dX2_applyPrimed_91 ?_
        obtain ⟨hPc, hDc, hFc⟩ := zcut (wc := [(A_e, .inr (2, [.ref A_e_values, .ref A_e_differences, .int e_status]))]) hP hD hS hA [0] rfl rfl (by decide)
        have hrun : va_Run p l e (headSpec wsX2_applyPrimed ({ frames := 2, cells := 0, slots := 0, locals := 50 } : Room)).room s m args below meth c H locs 0 0 _ _ (F0 m 92 ls _) _ (zQl D cI cJ cC (fn_Eval_subtract e_status (e_differences (x7 + 1).toNatClampNeg) (e_differences x7.toNatClampNeg)).1 [(A_e, .inr (2, [.ref A_e_values, .ref A_e_differences, .int (fn_Eval_subtract e_status (e_differences (x7 + 1).toNatClampNeg) (e_differences x7.toNatClampNeg)).2]))] (va_A [(A_e, .inr (2, [.ref A_e_values, .ref A_e_differences, .int e_status]))] H.size) _) (va_A [(A_e, .inr (2, [.ref A_e_values, .ref A_e_differences, .int e_status]))] H.size) := va_runV (As := [.long (e_differences (x7 + 1).toNatClampNeg), .long (e_differences x7.toNatClampNeg)]) (rest := [.int x7, .ref A_e_differences]) ⟨hx, hb, hml, hown, hts⟩ (ct_Eval_subtract l D cI cJ cC adK adV A_e A_e_values A_e_differences H.size e_status (e_differences (x7 + 1).toNatClampNeg) (e_differences x7.toNatClampNeg)) (cwV 2 hts gX2_applyPrimed_X2_subtract rfl rfl rfl (by decide +kernel) ⟨Nat.le_of_ble_eq_true rfl, Nat.le_of_ble_eq_true rfl⟩) ⟨zblind, va_recv hK hP (ci := 2) (q0 := 0) rfl rfl, zpre hX hS hFc hPc hK hDc⟩ rfl rfl hl.1 rfl (lv_room (Nat.le_of_ble_eq_true rfl)) dX2_applyPrimed_92 ⟨Nat.zero_le _, Nat.zero_le _⟩
        refine zc_l (ws' := [(A_e, .inr (2, [.ref A_e_values, .ref A_e_differences, .int (fn_Eval_subtract e_status (e_differences (x7 + 1).toNatClampNeg) (e_differences x7.toNatClampNeg)).2])), (A_e_differences, .inl (cJ, 4, .inr (.inl e_differences)))]) hrun hP hD hS hFc [0] rfl (by decide) rfl rfl (fun H8 locs hP hD hS => ?_)
        obtain ⟨g9, hM⟩ := z_g hM
        refine va_last hx hb hK hP hD hS 1 1 rfl rfl g9 dX2_applyPrimed_95 (fun H10 locs hP hD hS => ?_)
        have hP : va_P D vwCl [(A_e, .inr (2, [.ref A_e_values, .ref A_e_differences, .int (fn_Eval_subtract e_status (e_differences (x7 + 1).toNatClampNeg) (e_differences x7.toNatClampNeg)).2])), (A_e_differences, .inl (cJ, 4, .inr (.inl (vp_updL e_differences x7.toNatClampNeg (fn_Eval_subtract e_status (e_differences (x7 + 1).toNatClampNeg) (e_differences x7.toNatClampNeg)).1))))] H10 := hP
        have hD : va_D A [(A_e, .inr (2, [.ref A_e_values, .ref A_e_differences, .int (fn_Eval_subtract e_status (e_differences (x7 + 1).toNatClampNeg) (e_differences x7.toNatClampNeg)).2])), (A_e_differences, .inl (cJ, 4, .inr (.inl (vp_updL e_differences x7.toNatClampNeg (fn_Eval_subtract e_status (e_differences (x7 + 1).toNatClampNeg) (e_differences x7.toNatClampNeg)).1))))] := hD
        refine lv_iinc (v := (x7 + 1)) (lv' := [(7, .int (x7 + 1)), (0, .ref A_e), (5, .int x5), (6, .int x6)]) hx hb dX2_applyPrimed_96 hl (k := 3) rfl rfl (by decide) rfl (fun ls hl => ?_)
        refine lv_goto (tgt := 59) hx hb dX2_applyPrimed_99 (by decide) ?_
        exact ih (fn_Eval_subtract e_status (e_differences (x7 + 1).toNatClampNeg) (e_differences x7.toNatClampNeg)).2 (vp_updL e_differences x7.toNatClampNeg (fn_Eval_subtract e_status (e_differences (x7 + 1).toNatClampNeg) (e_differences x7.toNatClampNeg)).1) x5 x6 (x7 + 1) _ _ ls hP hD hS (lv_sub hl [1, 2, 3, 0] rfl) hM
  have L_49_1 : ∀ (n : Nat) (e_status : Int32) (e_differences : Nat → Int64) (x5 : Int32) (x6 : Int32) (H : Heap) (locs : List Loc) (ls : Array Slot), va_P D vwCl [(A_e, .inr (2, [.ref A_e_values, .ref A_e_differences, .int e_status])), (A_e_differences, .inl (cJ, 4, .inr (.inl e_differences)))] H → va_D A [(A_e, .inr (2, [.ref A_e_values, .ref A_e_differences, .int e_status])), (A_e_differences, .inl (cJ, 4, .inr (.inl e_differences)))] → va_S A s.heap H locs → lv_has ls 8 [(0, .ref A_e), (5, .int x5), (6, .int x6)] → fn_Eval_applyPrimed_L49  n e_status e_differences x5 x6 = some rs → W p l e (headSpec wsX2_applyPrimed ({ frames := 2, cells := 0, slots := 0, locals := 50 } : Room)).room s m args below meth c H locs 0 0 (MQ below (zQl D cI cJ cC rs.1 [(A_e, .inr (2, [.ref A_e_values, .ref A_e_differences, .int rs.2.1])), (A_e_differences, .inl (cJ, 4, .inr (.inl rs.2.2)))] A) args s 0 0 A) (F0 m 49 ls []) := by
    intro  n
    induction n with
    | zero => intro e_status e_differences x5 x6 H locs ls _ _ _ _ hM; exact z_n hM
    | succ n ih =>
      intro e_status e_differences x5 x6 H locs ls hP hD hS hl hM
      refine lv_iload hx hb dX2_applyPrimed_49 (lv_at hl 2 rfl) ?_
      refine lv_iload hx hb dX2_applyPrimed_51 (lv_at hl 1 rfl) ?_
      refine lv_icmp_gt (tgt := 108) hx hb dX2_applyPrimed_53 (by decide) (fun c2 => ?_) (fun c2 => ?_)
      · have hM := z_t c2 hM
        refine lv_aload_n hx hb dX2_applyPrimed_108 rfl (lv_at hl 0 rfl) ?_
        refine va_get (D := D) (ci := 2) (v := .ref A_e_differences) (C := RX2) (T := TX2) (N := 3) hx hb hts hw7 hown hK hP 0 rfl rfl 1 (by decide) hw8 (fun _ h9 => h9) rfl dX2_applyPrimed_109 ?_
        refine lv_iconst (v := 0) hx hb dX2_applyPrimed_112 (by decide) ?_
        obtain ⟨g3, hM⟩ := z_g hM
        refine va_lald hx hb hK hP 1 1 rfl rfl g3 dX2_applyPrimed_113 ?_
        have hM := Option.some.inj hM
        subst hM
        exact W.lret (v := (e_differences (0 : Int32).toNatClampNeg)) hx hb hr (fun t ht hW => ⟨⟨_, (), rfl, rfl, ⟨by rw [ht]; exact hP, va_K.moved hW.alike hK, hD⟩⟩, hS.F ht⟩) hS.2.2 dX2_applyPrimed_114
      · have hM := z_f c2 hM
        refine lv_iconst (v := 0) hx hb dX2_applyPrimed_56 (by decide) ?_
        refine lv_istore (lv' := [(7, .int 0), (0, .ref A_e), (5, .int x5), (6, .int x6)]) hx hb dX2_applyPrimed_57 hl (by decide) rfl (fun ls hl => ?_)
        exact L_59_2 (fn_Eval_applyPrimed_L49  n) ih zFU e_status e_differences x5 x6 0 _ _ ls hP hD hS (lv_sub hl [1, 2, 3, 0] rfl) hM
  have L_15_0 : ∀ (n : Nat) (e_status : Int32) (e_differences : Nat → Int64) (x1 : Int32) (x3 : Int64) (x5 : Int32) (x6 : Int32) (H : Heap) (locs : List Loc) (ls : Array Slot), va_P D vwCl [(A_e, .inr (2, [.ref A_e_values, .ref A_e_differences, .int e_status])), (A_e_differences, .inl (cJ, 4, .inr (.inl e_differences)))] H → va_D A [(A_e, .inr (2, [.ref A_e_values, .ref A_e_differences, .int e_status])), (A_e_differences, .inl (cJ, 4, .inr (.inl e_differences)))] → va_S A s.heap H locs → lv_has ls 8 [(0, .ref A_e), (1, .int x1), (3, .long x3), (5, .int x5), (6, .int x6)] → fn_Eval_applyPrimed_L15  n e_status e_differences x1 x3 x5 x6 = some rs → W p l e (headSpec wsX2_applyPrimed ({ frames := 2, cells := 0, slots := 0, locals := 50 } : Room)).room s m args below meth c H locs 0 0 (MQ below (zQl D cI cJ cC rs.1 [(A_e, .inr (2, [.ref A_e_values, .ref A_e_differences, .int rs.2.1])), (A_e_differences, .inl (cJ, 4, .inr (.inl rs.2.2)))] A) args s 0 0 A) (F0 m 15 ls []) := by
    intro  n
    induction n with
    | zero => intro e_status e_differences x1 x3 x5 x6 H locs ls _ _ _ _ hM; exact z_n hM
    | succ n ih =>
      intro e_status e_differences x1 x3 x5 x6 H locs ls hP hD hS hl hM
      refine lv_iload hx hb dX2_applyPrimed_15 (lv_at hl 4 rfl) ?_
      refine lv_if_lt (tgt := 46) hx hb dX2_applyPrimed_17 (by decide) (fun c1 => ?_) (fun c1 => ?_)
      · have hM := z_t c1 hM
        refine lv_iconst (v := 1) hx hb dX2_applyPrimed_46 (by decide) ?_
        refine lv_istore (lv' := [(6, .int 1), (0, .ref A_e), (1, .int x1), (3, .long x3), (5, .int x5)]) hx hb dX2_applyPrimed_47 hl (by decide) rfl (fun ls hl => ?_)
        exact L_49_1  zFU e_status e_differences x5 1 _ _ ls hP hD hS (lv_sub hl [1, 4, 0] rfl) hM
      · have hM := z_f c1 hM
        refine lv_aload_n hx hb dX2_applyPrimed_20 rfl (lv_at hl 0 rfl) ?_
        refine va_get (D := D) (ci := 2) (v := .ref A_e_differences) (C := RX2) (T := TX2) (N := 3) hx hb hts hw7 hown hK hP 0 rfl rfl 1 (by decide) hw8 (fun _ h9 => h9) rfl dX2_applyPrimed_21 ?_
        refine lv_iload hx hb dX2_applyPrimed_24 (lv_at hl 4 rfl) ?_
        refine lv_aload_n hx hb dX2_applyPrimed_26 rfl (lv_at hl 0 rfl) ?_
        refine lv_iload_n hx hb dX2_applyPrimed_27 rfl (lv_at hl 1 rfl) ?_
        refine lv_aload_n hx hb dX2_applyPrimed_28 rfl (lv_at hl 0 rfl) ?_
        refine lv_lload_n hx hb dX2_applyPrimed_29 rfl (lv_at hl 2 rfl) ?_
        refine lv_iload hx hb dX2_applyPrimed_30 (lv_at hl 4 rfl) ?_
        refine lv_i2l hx hb dX2_applyPrimed_32 rfl ?_
        obtain ⟨hPc, hDc, hFc⟩ := zcut (wc := [(A_e, .inr (2, [.ref A_e_values, .ref A_e_differences, .int e_status]))]) hP hD hS hA [0] rfl rfl (by decide)
        have hrun : va_Run p l e (headSpec wsX2_applyPrimed ({ frames := 2, cells := 0, slots := 0, locals := 50 } : Room)).room s m args below meth c H locs 0 0 _ _ (F0 m 33 ls _) _ (zQl D cI cJ cC (fn_Eval_add e_status x3 (x6).toInt64).1 [(A_e, .inr (2, [.ref A_e_values, .ref A_e_differences, .int (fn_Eval_add e_status x3 (x6).toInt64).2]))] (va_A [(A_e, .inr (2, [.ref A_e_values, .ref A_e_differences, .int e_status]))] H.size) _) (va_A [(A_e, .inr (2, [.ref A_e_values, .ref A_e_differences, .int e_status]))] H.size) := va_runV (As := [.long x3, .long (x6).toInt64]) (rest := [.int x1, .ref A_e, .int x6, .ref A_e_differences]) ⟨hx, hb, hml, hown, hts⟩ (ct_Eval_add l D cI cJ cC adK adV A_e A_e_values A_e_differences H.size e_status x3 (x6).toInt64) (cwV 2 hts gX2_applyPrimed_X2_add rfl rfl rfl (by decide +kernel) ⟨Nat.le_of_ble_eq_true rfl, Nat.le_of_ble_eq_true rfl⟩) ⟨zblind, va_recv hK hP (ci := 2) (q0 := 0) rfl rfl, zpre hX hS hFc hPc hK hDc⟩ rfl rfl hl.1 rfl (lv_room (Nat.le_of_ble_eq_true rfl)) dX2_applyPrimed_33 ⟨Nat.zero_le _, Nat.zero_le _⟩
        refine zc_l (ws' := [(A_e, .inr (2, [.ref A_e_values, .ref A_e_differences, .int (fn_Eval_add e_status x3 (x6).toInt64).2])), (A_e_differences, .inl (cJ, 4, .inr (.inl e_differences)))]) hrun hP hD hS hFc [0] rfl (by decide) rfl rfl (fun H12 locs hP hD hS => ?_)
        obtain ⟨q13, hq13, hM⟩ := z_b hM
        obtain ⟨hPc, hDc, hFc⟩ := zcut (wc := [(A_e, .inr (2, [.ref A_e_values, .ref A_e_differences, .int (fn_Eval_add e_status x3 (x6).toInt64).2]))]) hP hD hS hA [0] rfl rfl (by decide)
        have hrun : va_Run p l e (headSpec wsX2_applyPrimed ({ frames := 2, cells := 0, slots := 0, locals := 50 } : Room)).room s m args below meth c H12 locs 0 0 _ _ (F0 m 36 ls _) _ (zQl D cI cJ cC q13.1 [(A_e, .inr (2, [.ref A_e_values, .ref A_e_differences, .int q13.2]))] (va_A [(A_e, .inr (2, [.ref A_e_values, .ref A_e_differences, .int (fn_Eval_add e_status x3 (x6).toInt64).2]))] H12.size) _) (va_A [(A_e, .inr (2, [.ref A_e_values, .ref A_e_differences, .int (fn_Eval_add e_status x3 (x6).toInt64).2]))] H12.size) := va_runV (As := [.int x1, .long (fn_Eval_add e_status x3 (x6).toInt64).1]) (rest := [.int x6, .ref A_e_differences]) ⟨hx, hb, hml, hown, hts⟩ (ct_Eval_apply l D cI cJ cC adK adV A_e A_e_values A_e_differences H12.size (fn_Eval_add e_status x3 (x6).toInt64).2 x1 (fn_Eval_add e_status x3 (x6).toInt64).1 hq13) (cwV 2 hts gX2_applyPrimed_X2_apply rfl rfl rfl (by decide +kernel) ⟨Nat.le_of_ble_eq_true rfl, Nat.le_of_ble_eq_true rfl⟩) ⟨zblind, va_recv hK hP (ci := 2) (q0 := 0) rfl rfl, zpre hX hS hFc hPc hK hDc⟩ rfl rfl hl.1 rfl (lv_room (Nat.le_of_ble_eq_true rfl)) dX2_applyPrimed_36 ⟨Nat.zero_le _, Nat.zero_le _⟩
        refine zc_l (ws' := [(A_e, .inr (2, [.ref A_e_values, .ref A_e_differences, .int q13.2])), (A_e_differences, .inl (cJ, 4, .inr (.inl e_differences)))]) hrun hP hD hS hFc [0] rfl (by decide) rfl rfl (fun H14 locs hP hD hS => ?_)
        obtain ⟨g15, hM⟩ := z_g hM
        refine va_last hx hb hK hP hD hS 1 1 rfl rfl g15 dX2_applyPrimed_39 (fun H16 locs hP hD hS => ?_)
        have hP : va_P D vwCl [(A_e, .inr (2, [.ref A_e_values, .ref A_e_differences, .int q13.2])), (A_e_differences, .inl (cJ, 4, .inr (.inl (vp_updL e_differences x6.toNatClampNeg q13.1))))] H16 := hP
        have hD : va_D A [(A_e, .inr (2, [.ref A_e_values, .ref A_e_differences, .int q13.2])), (A_e_differences, .inl (cJ, 4, .inr (.inl (vp_updL e_differences x6.toNatClampNeg q13.1))))] := hD
        refine lv_iinc (v := (x6 + (-1))) (lv' := [(6, .int (x6 + (-1))), (0, .ref A_e), (1, .int x1), (3, .long x3), (5, .int x5)]) hx hb dX2_applyPrimed_40 hl (k := 4) rfl rfl (by decide) rfl (fun ls hl => ?_)
        refine lv_goto (tgt := 15) hx hb dX2_applyPrimed_43 (by decide) ?_
        exact ih q13.2 (vp_updL e_differences x6.toNatClampNeg q13.1) x1 x3 x5 (x6 + (-1)) _ _ ls hP hD hS (lv_sub hl [1, 2, 3, 4, 0] rfl) hM
  refine lv_iconst (v := 0) hx hb dX2_applyPrimed_0 (by decide) ?_
  refine lv_iload_n hx hb dX2_applyPrimed_1 rfl (lv_at hl 2 rfl) ?_
  refine lv_iconst (v := 3) hx hb dX2_applyPrimed_2 (by decide) ?_
  refine va_mmin hx hb (hml.trans hl.1.symm) hown hw0 hw1 hw2 hw3 (Nat.le_of_ble_eq_true rfl) (Nat.le_of_ble_eq_true rfl) (Nat.zero_le _) (Nat.zero_le _) dX2_applyPrimed_3 ?_
  refine va_mmax hx hb (hml.trans hl.1.symm) hown hw4 hw5 hw2 hw6 (Nat.le_of_ble_eq_true rfl) (Nat.le_of_ble_eq_true rfl) (Nat.zero_le _) (Nat.zero_le _) dX2_applyPrimed_6 ?_
  refine lv_istore (lv' := [(5, .int (if 0 < (if 3 < x2 then 3 else x2) then (if 3 < x2 then 3 else x2) else 0)), (0, .ref A_e), (1, .int x1), (2, .int x2), (3, .long x3)]) hx hb dX2_applyPrimed_9 hl (by decide) rfl (fun ls hl => ?_)
  refine lv_iload hx hb dX2_applyPrimed_11 (lv_at hl 0 rfl) ?_
  refine lv_istore (lv' := [(6, .int (if 0 < (if 3 < x2 then 3 else x2) then (if 3 < x2 then 3 else x2) else 0)), (5, .int (if 0 < (if 3 < x2 then 3 else x2) then (if 3 < x2 then 3 else x2) else 0)), (0, .ref A_e), (1, .int x1), (2, .int x2), (3, .long x3)]) hx hb dX2_applyPrimed_13 hl (by decide) rfl (fun ls hl => ?_)
  exact L_15_0  zFU e_status e_differences x1 x3 (if 0 < (if 3 < x2 then 3 else x2) then (if 3 < x2 then 3 else x2) else 0) (if 0 < (if 3 < x2 then 3 else x2) then (if 3 < x2 then 3 else x2) else 0) _ _ ls hP hD hS (lv_sub hl [2, 3, 5, 1, 0] rfl) hM
def fn_Eval_valueAt (e_values : Nat → Int64) (x1 : Int32) : Option (Int64) := (if x1 < 0 then some 0 else (if 160 ≤ x1 then some 0 else (if (x1 < 0 ∨ 160 ≤ x1.toNatClampNeg) then none else some (e_values x1.toNatClampNeg))))
set_option maxHeartbeats 40000000 in
set_option maxRecDepth 100000 in
theorem ct_Eval_valueAt (l : Launch) (D : va_G) (cI cJ cC : ClassId) (adK adV : Nat → Nat) (A_e A_e_values A_e_differences : Nat) (sz : Nat) (e_status : Int32) (e_values : Nat → Int64) (x1 : Int32) {rs : Int64} (hM : fn_Eval_valueAt e_values x1 = some rs) : Met l yX2_valueAt wsX2_valueAt ({ frames := 0, cells := 0, slots := 0, locals := 0 } : Room) (zP D cI cJ cC adK adV [.ref A_e, .int x1] sz [(A_e, .inr (2, [.ref A_e_values, .ref A_e_differences, .int e_status])), (A_e_values, .inl (cJ, 160, .inr (.inl e_values)))]) (zQl D cI cJ cC rs [(A_e, .inr (2, [.ref A_e_values, .ref A_e_differences, .int e_status])), (A_e_values, .inl (cJ, 160, .inr (.inl e_values)))] (va_A [(A_e, .inr (2, [.ref A_e_values, .ref A_e_differences, .int e_status])), (A_e_values, .inl (cJ, 160, .inr (.inl e_values)))] sz)) 0 0 (va_A [(A_e, .inr (2, [.ref A_e_values, .ref A_e_differences, .int e_status])), (A_e_values, .inl (cJ, 160, .inr (.inl e_values)))] sz) := by
  refine Met.ofW (cc := cX2_valueAt) (maxL := 2) (ret := (some .long)) (by decide) rfl ?_
  intro p e s m args below meth c s₁ B hml hv0
  obtain ⟨hargs, hsz, hP, hK, hD0, hX⟩ := hv0
  have hx := B.exec
  have hb := B.bytes
  have hr := B.returns
  have hts := atoms_spec (ws := wsX2_valueAt) B.pre
  have hown : s.vm.findClass RX2 = some m.cls := findClass_of_methodNamed B.named
  have hlocks := B.notSynchronized
  subst hsz
  have hD := hD0.self (sz := s.heap.size)
  generalize hAe : va_A [(A_e, .inr (2, [.ref A_e_values, .ref A_e_differences, .int e_status])), (A_e_values, .inl (cJ, 160, .inr (.inl e_values)))] s.heap.size = A at hD hX ⊢
  have hA : ∀ q : Nat, s.heap.size ≤ q → A q := fun q h => by rw [← hAe]; exact Or.inr h
  have hS : va_S A s.heap s.heap [] := va_S.rf
  have hl := lv_entry ([.ref A_e, .int x1]) (n := 2) (Nat.le_of_ble_eq_true rfl)
  rw [hargs, lg_entry_eq, ← hargs]
  generalize (lg_sl ([.ref A_e, .int x1]) ++ List.replicate (2 - (lg_sl ([.ref A_e, .int x1])).length) Slot.unset).toArray = ls at hl ⊢
  have hl : lv_has ls 2 [(0, .ref A_e), (1, .int x1)] := hl
  have hw0 : ∀ w ∈ u_ws RX2 TX2 3, w ∈ wsX2_valueAt := by decide +kernel
  have hw1 := hts (.fieldLink RX2 9 "NotationParser$Evaluator" "values" "[J") (by decide +kernel)
  refine lv_iload_n hx hb dX2_valueAt_0 rfl (lv_at hl 1 rfl) ?_
  refine lv_if_lt (tgt := 22) hx hb dX2_valueAt_1 (by decide) (fun c1 => ?_) (fun c1 => ?_)
  · have hM := z_t c1 hM
    refine lv_lconst (v := 0) hx hb dX2_valueAt_22 (by decide) ?_
    have hM := Option.some.inj hM
    subst hM
    exact W.lret (v := 0) hx hb hr (fun t ht hW => ⟨⟨_, (), rfl, rfl, ⟨by rw [ht]; exact hP, va_K.moved hW.alike hK, hD⟩⟩, hS.F ht⟩) hS.2.2 dX2_valueAt_23
  · have hM := z_f c1 hM
    refine lv_iload_n hx hb dX2_valueAt_4 rfl (lv_at hl 1 rfl) ?_
    refine lv_aload_n hx hb dX2_valueAt_5 rfl (lv_at hl 0 rfl) ?_
    refine va_get (D := D) (ci := 2) (v := .ref A_e_values) (C := RX2) (T := TX2) (N := 3) hx hb hts hw0 hown hK hP 0 rfl rfl 0 (by decide) hw1 (fun _ h9 => h9) rfl dX2_valueAt_6 ?_
    refine va_alen hx hb hK hP 1 1 (v := 160) rfl rfl rfl dX2_valueAt_9 ?_
    refine lv_icmp_ge (tgt := 22) hx hb dX2_valueAt_10 (by decide) (fun c2 => ?_) (fun c2 => ?_)
    · have hM := z_t c2 hM
      refine lv_lconst (v := 0) hx hb dX2_valueAt_22 (by decide) ?_
      have hM := Option.some.inj hM
      subst hM
      exact W.lret (v := 0) hx hb hr (fun t ht hW => ⟨⟨_, (), rfl, rfl, ⟨by rw [ht]; exact hP, va_K.moved hW.alike hK, hD⟩⟩, hS.F ht⟩) hS.2.2 dX2_valueAt_23
    · have hM := z_f c2 hM
      refine lv_aload_n hx hb dX2_valueAt_13 rfl (lv_at hl 0 rfl) ?_
      refine va_get (D := D) (ci := 2) (v := .ref A_e_values) (C := RX2) (T := TX2) (N := 3) hx hb hts hw0 hown hK hP 0 rfl rfl 0 (by decide) hw1 (fun _ h9 => h9) rfl dX2_valueAt_14 ?_
      refine lv_iload_n hx hb dX2_valueAt_17 rfl (lv_at hl 1 rfl) ?_
      obtain ⟨g3, hM⟩ := z_g hM
      refine va_lald hx hb hK hP 1 1 rfl rfl g3 dX2_valueAt_18 ?_
      refine lv_goto (tgt := 23) hx hb dX2_valueAt_19 (by decide) ?_
      have hM := Option.some.inj hM
      subst hM
      exact W.lret (v := (e_values x1.toNatClampNeg)) hx hb hr (fun t ht hW => ⟨⟨_, (), rfl, rfl, ⟨by rw [ht]; exact hP, va_K.moved hW.alike hK, hD⟩⟩, hS.F ht⟩) hS.2.2 dX2_valueAt_23
def fn_Eval_valueOfNode_b183 (e_values : Nat → Int64) (t_count : Int32) (t_kinds : Nat → Int32) (t_details : Nat → Int32) (t_lefts : Nat → Int32) (t_rights : Nat → Int32) (g : Nat → Int32) (e_status : Int32) (e_differences : Nat → Int64) (x4 : Int32) (x5 : Int32) (x6 : Int64) : Option (Int64 × Int32 × (Nat → Int64)) := ((fn_Eval_applyPrimed e_status e_differences x4 x5 x6).bind fun q19 => some (q19.1, q19.2.1, q19.2.2))
def fn_Eval_valueOfNode_b148 (e_values : Nat → Int64) (t_count : Int32) (t_kinds : Nat → Int32) (t_details : Nat → Int32) (t_lefts : Nat → Int32) (t_rights : Nat → Int32) (g : Nat → Int32) (e_status : Int32) (e_differences : Nat → Int64) (x6 : Int64) (x8 : Int64) : Option (Int64 × Int32 × (Nat → Int64)) := ((fn_Eval_multiply e_status x6 x8).bind fun q31 => some (q31.1, q31.2, e_differences))
def fn_Eval_valueOfNode (e_status : Int32) (e_values : Nat → Int64) (e_differences : Nat → Int64) (t_count : Int32) (t_kinds : Nat → Int32) (t_details : Nat → Int32) (t_lefts : Nat → Int32) (t_rights : Nat → Int32) (g : Nat → Int32) (x2 : Int32) : Option (Int64 × Int32 × (Nat → Int64)) := ((fn_Tree_kindOf t_count t_kinds x2).bind fun q1 => ((fn_Tree_detailOf t_count t_details x2).bind fun q3 => ((fn_Tree_leftOf t_count t_lefts x2).bind fun q5 => ((fn_Eval_valueAt e_values q5).bind fun q7 => ((fn_Tree_rightOf t_count t_rights x2).bind fun q9 => ((fn_Eval_valueAt e_values q9).bind fun q11 => (if q1 = 1 then some ((q3).toInt64, e_status, e_differences) else (if q1 = 2 then (if q3 < 0 then some (0, e_status, e_differences) else (if 26 ≤ q3 then some (0, e_status, e_differences) else (if (q3 < 0 ∨ 26 ≤ q3.toNatClampNeg) then none else some ((g q3.toNatClampNeg).toInt64, e_status, e_differences)))) else (if q1 = 3 then fn_Eval_valueOfNode_b183 e_values t_count t_kinds t_details t_lefts t_rights g e_status e_differences q1 q3 q7 else (if q1 = 4 then fn_Eval_valueOfNode_b183 e_values t_count t_kinds t_details t_lefts t_rights g e_status e_differences q1 q3 q7 else (if q1 = 5 then fn_Eval_valueOfNode_b183 e_values t_count t_kinds t_details t_lefts t_rights g e_status e_differences q1 q3 q7 else (if q1 = 6 then fn_Eval_valueOfNode_b183 e_values t_count t_kinds t_details t_lefts t_rights g e_status e_differences q1 q3 q7 else (if q1 = 7 then some ((fn_Eval_add e_status q7 q11).1, (fn_Eval_add e_status q7 q11).2, e_differences) else (if q1 = 8 then some ((fn_Eval_subtract e_status q7 q11).1, (fn_Eval_subtract e_status q7 q11).2, e_differences) else (if q1 = 9 then fn_Eval_valueOfNode_b148 e_values t_count t_kinds t_details t_lefts t_rights g e_status e_differences q7 q11 else (if q1 = 10 then ((fn_Eval_divide e_status q7 q11).bind fun q34 => some (q34.1, q34.2, e_differences)) else (if q1 = 11 then ((fn_Eval_raise e_status q7 q11).bind fun q37 => some (q37.1, q37.2, e_differences)) else (if q1 = 12 then fn_Eval_valueOfNode_b148 e_values t_count t_kinds t_details t_lefts t_rights g e_status e_differences q7 q11 else (if q1 = 13 then some ((fn_Eval_subtract e_status 0 q7).1, (fn_Eval_subtract e_status 0 q7).2, e_differences) else fn_Eval_valueOfNode_b183 e_values t_count t_kinds t_details t_lefts t_rights g e_status e_differences q1 q3 q7)))))))))))))))))))
set_option maxHeartbeats 40000000 in
set_option maxRecDepth 100000 in
theorem ct_Eval_valueOfNode (l : Launch) (D : va_G) (cI cJ cC : ClassId) (adK adV : Nat → Nat) (A_e A_e_values A_e_differences A_t A_t_kinds A_t_details A_t_lefts A_t_rights A_t_heights A_t_roots A_t_joints A_g : Nat) (sz : Nat) (e_status : Int32) (e_values : Nat → Int64) (e_differences : Nat → Int64) (t_count : Int32) (t_sums : Int32) (t_kinds : Nat → Int32) (t_details : Nat → Int32) (t_lefts : Nat → Int32) (t_rights : Nat → Int32) (g : Nat → Int32) (x2 : Int32) {rs : Int64 × Int32 × (Nat → Int64)} (hM : fn_Eval_valueOfNode e_status e_values e_differences t_count t_kinds t_details t_lefts t_rights g x2 = some rs) : Met l yX2_valueOfNode wsX2_valueOfNode ({ frames := 3, cells := 0, slots := 0, locals := 77 } : Room) (zP D cI cJ cC adK adV [.ref A_e, .ref A_t, .int x2, .ref A_g] sz [(A_e, .inr (2, [.ref A_e_values, .ref A_e_differences, .int e_status])), (A_e_values, .inl (cJ, 160, .inr (.inl e_values))), (A_e_differences, .inl (cJ, 4, .inr (.inl e_differences))), (A_t, .inr (9, [.ref A_t_kinds, .ref A_t_details, .ref A_t_lefts, .ref A_t_rights, .ref A_t_heights, .int t_count, .ref A_t_roots, .ref A_t_joints, .int t_sums])), (A_t_kinds, .inl (cI, 160, .inl t_kinds)), (A_t_details, .inl (cI, 160, .inl t_details)), (A_t_lefts, .inl (cI, 160, .inl t_lefts)), (A_t_rights, .inl (cI, 160, .inl t_rights)), (A_g, .inl (cI, 26, .inl g))]) (zQl D cI cJ cC rs.1 [(A_e, .inr (2, [.ref A_e_values, .ref A_e_differences, .int rs.2.1])), (A_e_values, .inl (cJ, 160, .inr (.inl e_values))), (A_e_differences, .inl (cJ, 4, .inr (.inl rs.2.2))), (A_t, .inr (9, [.ref A_t_kinds, .ref A_t_details, .ref A_t_lefts, .ref A_t_rights, .ref A_t_heights, .int t_count, .ref A_t_roots, .ref A_t_joints, .int t_sums])), (A_t_kinds, .inl (cI, 160, .inl t_kinds)), (A_t_details, .inl (cI, 160, .inl t_details)), (A_t_lefts, .inl (cI, 160, .inl t_lefts)), (A_t_rights, .inl (cI, 160, .inl t_rights)), (A_g, .inl (cI, 26, .inl g))] (va_A [(A_e, .inr (2, [.ref A_e_values, .ref A_e_differences, .int e_status])), (A_e_values, .inl (cJ, 160, .inr (.inl e_values))), (A_e_differences, .inl (cJ, 4, .inr (.inl e_differences))), (A_t, .inr (9, [.ref A_t_kinds, .ref A_t_details, .ref A_t_lefts, .ref A_t_rights, .ref A_t_heights, .int t_count, .ref A_t_roots, .ref A_t_joints, .int t_sums])), (A_t_kinds, .inl (cI, 160, .inl t_kinds)), (A_t_details, .inl (cI, 160, .inl t_details)), (A_t_lefts, .inl (cI, 160, .inl t_lefts)), (A_t_rights, .inl (cI, 160, .inl t_rights)), (A_g, .inl (cI, 26, .inl g))] sz)) 0 0 (va_A [(A_e, .inr (2, [.ref A_e_values, .ref A_e_differences, .int e_status])), (A_e_values, .inl (cJ, 160, .inr (.inl e_values))), (A_e_differences, .inl (cJ, 4, .inr (.inl e_differences))), (A_t, .inr (9, [.ref A_t_kinds, .ref A_t_details, .ref A_t_lefts, .ref A_t_rights, .ref A_t_heights, .int t_count, .ref A_t_roots, .ref A_t_joints, .int t_sums])), (A_t_kinds, .inl (cI, 160, .inl t_kinds)), (A_t_details, .inl (cI, 160, .inl t_details)), (A_t_lefts, .inl (cI, 160, .inl t_lefts)), (A_t_rights, .inl (cI, 160, .inl t_rights)), (A_g, .inl (cI, 26, .inl g))] sz) := by
  refine Met.ofW (cc := cX2_valueOfNode) (maxL := 10) (ret := (some .long)) (by decide) rfl ?_
  intro p e s m args below meth c s₁ B hml hv0
  obtain ⟨hargs, hsz, hP, hK, hD0, hX⟩ := hv0
  have hx := B.exec
  have hb := B.bytes
  have hr := B.returns
  have hts := atoms_spec (ws := wsX2_valueOfNode) B.pre
  have hown : s.vm.findClass RX2 = some m.cls := findClass_of_methodNamed B.named
  have hlocks := B.notSynchronized
  subst hsz
  have hD := hD0.self (sz := s.heap.size)
  generalize hAe : va_A [(A_e, .inr (2, [.ref A_e_values, .ref A_e_differences, .int e_status])), (A_e_values, .inl (cJ, 160, .inr (.inl e_values))), (A_e_differences, .inl (cJ, 4, .inr (.inl e_differences))), (A_t, .inr (9, [.ref A_t_kinds, .ref A_t_details, .ref A_t_lefts, .ref A_t_rights, .ref A_t_heights, .int t_count, .ref A_t_roots, .ref A_t_joints, .int t_sums])), (A_t_kinds, .inl (cI, 160, .inl t_kinds)), (A_t_details, .inl (cI, 160, .inl t_details)), (A_t_lefts, .inl (cI, 160, .inl t_lefts)), (A_t_rights, .inl (cI, 160, .inl t_rights)), (A_g, .inl (cI, 26, .inl g))] s.heap.size = A at hD hX ⊢
  have hA : ∀ q : Nat, s.heap.size ≤ q → A q := fun q h => by rw [← hAe]; exact Or.inr h
  have hS : va_S A s.heap s.heap [] := va_S.rf
  have hl := lv_entry ([.ref A_e, .ref A_t, .int x2, .ref A_g]) (n := 10) (Nat.le_of_ble_eq_true rfl)
  rw [hargs, lg_entry_eq, ← hargs]
  generalize (lg_sl ([.ref A_e, .ref A_t, .int x2, .ref A_g]) ++ List.replicate (10 - (lg_sl ([.ref A_e, .ref A_t, .int x2, .ref A_g])).length) Slot.unset).toArray = ls at hl ⊢
  have hl : lv_has ls 10 [(0, .ref A_e), (1, .ref A_t), (2, .int x2), (3, .ref A_g)] := hl
  have B_183_0 : ∀ (e_status : Int32) (e_differences : Nat → Int64) (x4 : Int32) (x5 : Int32) (x6 : Int64) (H : Heap) (locs : List Loc) (ls : Array Slot), va_P D vwCl [(A_e, .inr (2, [.ref A_e_values, .ref A_e_differences, .int e_status])), (A_e_values, .inl (cJ, 160, .inr (.inl e_values))), (A_e_differences, .inl (cJ, 4, .inr (.inl e_differences))), (A_t, .inr (9, [.ref A_t_kinds, .ref A_t_details, .ref A_t_lefts, .ref A_t_rights, .ref A_t_heights, .int t_count, .ref A_t_roots, .ref A_t_joints, .int t_sums])), (A_t_kinds, .inl (cI, 160, .inl t_kinds)), (A_t_details, .inl (cI, 160, .inl t_details)), (A_t_lefts, .inl (cI, 160, .inl t_lefts)), (A_t_rights, .inl (cI, 160, .inl t_rights)), (A_g, .inl (cI, 26, .inl g))] H → va_D A [(A_e, .inr (2, [.ref A_e_values, .ref A_e_differences, .int e_status])), (A_e_values, .inl (cJ, 160, .inr (.inl e_values))), (A_e_differences, .inl (cJ, 4, .inr (.inl e_differences))), (A_t, .inr (9, [.ref A_t_kinds, .ref A_t_details, .ref A_t_lefts, .ref A_t_rights, .ref A_t_heights, .int t_count, .ref A_t_roots, .ref A_t_joints, .int t_sums])), (A_t_kinds, .inl (cI, 160, .inl t_kinds)), (A_t_details, .inl (cI, 160, .inl t_details)), (A_t_lefts, .inl (cI, 160, .inl t_lefts)), (A_t_rights, .inl (cI, 160, .inl t_rights)), (A_g, .inl (cI, 26, .inl g))] → va_S A s.heap H locs → lv_has ls 10 [(0, .ref A_e), (4, .int x4), (5, .int x5), (6, .long x6)] → fn_Eval_valueOfNode_b183 e_values t_count t_kinds t_details t_lefts t_rights g e_status e_differences x4 x5 x6 = some rs → W p l e (headSpec wsX2_valueOfNode ({ frames := 3, cells := 0, slots := 0, locals := 77 } : Room)).room s m args below meth c H locs 0 0 (MQ below (zQl D cI cJ cC rs.1 [(A_e, .inr (2, [.ref A_e_values, .ref A_e_differences, .int rs.2.1])), (A_e_values, .inl (cJ, 160, .inr (.inl e_values))), (A_e_differences, .inl (cJ, 4, .inr (.inl rs.2.2))), (A_t, .inr (9, [.ref A_t_kinds, .ref A_t_details, .ref A_t_lefts, .ref A_t_rights, .ref A_t_heights, .int t_count, .ref A_t_roots, .ref A_t_joints, .int t_sums])), (A_t_kinds, .inl (cI, 160, .inl t_kinds)), (A_t_details, .inl (cI, 160, .inl t_details)), (A_t_lefts, .inl (cI, 160, .inl t_lefts)), (A_t_rights, .inl (cI, 160, .inl t_rights)), (A_g, .inl (cI, 26, .inl g))] A) args s 0 0 A) (F0 m 183 ls []) := by
    intro  e_status e_differences x4 x5 x6 H locs ls hP hD hS hl hM
    refine lv_aload_n hx hb dX2_valueOfNode_183 rfl (lv_at hl 0 rfl) ?_
    refine lv_iload hx hb dX2_valueOfNode_184 (lv_at hl 1 rfl) ?_
    refine lv_iload hx hb dX2_valueOfNode_186 (lv_at hl 2 rfl) ?_
    refine lv_lload hx hb dX2_valueOfNode_188 (lv_at hl 3 rfl) ?_
    obtain ⟨q19, hq19, hM⟩ := z_b hM
    obtain ⟨hPc, hDc, hFc⟩ := zcut (wc := [(A_e, .inr (2, [.ref A_e_values, .ref A_e_differences, .int e_status])), (A_e_differences, .inl (cJ, 4, .inr (.inl e_differences)))]) hP hD hS hA [0, 2] rfl rfl (by decide)
    have hrun : va_Run p l e (headSpec wsX2_valueOfNode ({ frames := 3, cells := 0, slots := 0, locals := 77 } : Room)).room s m args below meth c H locs 0 0 _ _ (F0 m 190 ls _) _ (zQl D cI cJ cC q19.1 [(A_e, .inr (2, [.ref A_e_values, .ref A_e_differences, .int q19.2.1])), (A_e_differences, .inl (cJ, 4, .inr (.inl q19.2.2)))] (va_A [(A_e, .inr (2, [.ref A_e_values, .ref A_e_differences, .int e_status])), (A_e_differences, .inl (cJ, 4, .inr (.inl e_differences)))] H.size) _) (va_A [(A_e, .inr (2, [.ref A_e_values, .ref A_e_differences, .int e_status])), (A_e_differences, .inl (cJ, 4, .inr (.inl e_differences)))] H.size) := va_runV (As := [.int x4, .int x5, .long x6]) (rest := []) ⟨hx, hb, hml, hown, hts⟩ (ct_Eval_applyPrimed l D cI cJ cC adK adV A_e A_e_values A_e_differences H.size e_status e_differences x4 x5 x6 hq19) (cwV 3 hts gX2_valueOfNode_X2_applyPrimed rfl rfl rfl (by decide +kernel) ⟨Nat.le_of_ble_eq_true rfl, Nat.le_of_ble_eq_true rfl⟩) ⟨zblind, va_recv hK hP (ci := 2) (q0 := 0) rfl rfl, zpre hX hS hFc hPc hK hDc⟩ rfl rfl hl.1 rfl (lv_room (Nat.le_of_ble_eq_true rfl)) dX2_valueOfNode_190 ⟨Nat.zero_le _, Nat.zero_le _⟩
    refine zc_l (ws' := [(A_e, .inr (2, [.ref A_e_values, .ref A_e_differences, .int q19.2.1])), (A_e_values, .inl (cJ, 160, .inr (.inl e_values))), (A_e_differences, .inl (cJ, 4, .inr (.inl q19.2.2))), (A_t, .inr (9, [.ref A_t_kinds, .ref A_t_details, .ref A_t_lefts, .ref A_t_rights, .ref A_t_heights, .int t_count, .ref A_t_roots, .ref A_t_joints, .int t_sums])), (A_t_kinds, .inl (cI, 160, .inl t_kinds)), (A_t_details, .inl (cI, 160, .inl t_details)), (A_t_lefts, .inl (cI, 160, .inl t_lefts)), (A_t_rights, .inl (cI, 160, .inl t_rights)), (A_g, .inl (cI, 26, .inl g))]) hrun hP hD hS hFc [0, 2] rfl (by decide) rfl rfl (fun H20 locs hP hD hS => ?_)
    have hM := Option.some.inj hM
    subst hM
    exact W.lret (v := q19.1) hx hb hr (fun t ht hW => ⟨⟨_, (), rfl, rfl, ⟨by rw [ht]; exact hP, va_K.moved hW.alike hK, hD⟩⟩, hS.F ht⟩) hS.2.2 dX2_valueOfNode_193
  have B_148_1 : ∀ (e_status : Int32) (e_differences : Nat → Int64) (x6 : Int64) (x8 : Int64) (H : Heap) (locs : List Loc) (ls : Array Slot), va_P D vwCl [(A_e, .inr (2, [.ref A_e_values, .ref A_e_differences, .int e_status])), (A_e_values, .inl (cJ, 160, .inr (.inl e_values))), (A_e_differences, .inl (cJ, 4, .inr (.inl e_differences))), (A_t, .inr (9, [.ref A_t_kinds, .ref A_t_details, .ref A_t_lefts, .ref A_t_rights, .ref A_t_heights, .int t_count, .ref A_t_roots, .ref A_t_joints, .int t_sums])), (A_t_kinds, .inl (cI, 160, .inl t_kinds)), (A_t_details, .inl (cI, 160, .inl t_details)), (A_t_lefts, .inl (cI, 160, .inl t_lefts)), (A_t_rights, .inl (cI, 160, .inl t_rights)), (A_g, .inl (cI, 26, .inl g))] H → va_D A [(A_e, .inr (2, [.ref A_e_values, .ref A_e_differences, .int e_status])), (A_e_values, .inl (cJ, 160, .inr (.inl e_values))), (A_e_differences, .inl (cJ, 4, .inr (.inl e_differences))), (A_t, .inr (9, [.ref A_t_kinds, .ref A_t_details, .ref A_t_lefts, .ref A_t_rights, .ref A_t_heights, .int t_count, .ref A_t_roots, .ref A_t_joints, .int t_sums])), (A_t_kinds, .inl (cI, 160, .inl t_kinds)), (A_t_details, .inl (cI, 160, .inl t_details)), (A_t_lefts, .inl (cI, 160, .inl t_lefts)), (A_t_rights, .inl (cI, 160, .inl t_rights)), (A_g, .inl (cI, 26, .inl g))] → va_S A s.heap H locs → lv_has ls 10 [(0, .ref A_e), (6, .long x6), (8, .long x8)] → fn_Eval_valueOfNode_b148 e_values t_count t_kinds t_details t_lefts t_rights g e_status e_differences x6 x8 = some rs → W p l e (headSpec wsX2_valueOfNode ({ frames := 3, cells := 0, slots := 0, locals := 77 } : Room)).room s m args below meth c H locs 0 0 (MQ below (zQl D cI cJ cC rs.1 [(A_e, .inr (2, [.ref A_e_values, .ref A_e_differences, .int rs.2.1])), (A_e_values, .inl (cJ, 160, .inr (.inl e_values))), (A_e_differences, .inl (cJ, 4, .inr (.inl rs.2.2))), (A_t, .inr (9, [.ref A_t_kinds, .ref A_t_details, .ref A_t_lefts, .ref A_t_rights, .ref A_t_heights, .int t_count, .ref A_t_roots, .ref A_t_joints, .int t_sums])), (A_t_kinds, .inl (cI, 160, .inl t_kinds)), (A_t_details, .inl (cI, 160, .inl t_details)), (A_t_lefts, .inl (cI, 160, .inl t_lefts)), (A_t_rights, .inl (cI, 160, .inl t_rights)), (A_g, .inl (cI, 26, .inl g))] A) args s 0 0 A) (F0 m 148 ls []) := by
    intro  e_status e_differences x6 x8 H locs ls hP hD hS hl hM
    refine lv_aload_n hx hb dX2_valueOfNode_148 rfl (lv_at hl 0 rfl) ?_
    refine lv_lload hx hb dX2_valueOfNode_149 (lv_at hl 1 rfl) ?_
    refine lv_lload hx hb dX2_valueOfNode_151 (lv_at hl 2 rfl) ?_
    obtain ⟨q31, hq31, hM⟩ := z_b hM
    obtain ⟨hPc, hDc, hFc⟩ := zcut (wc := [(A_e, .inr (2, [.ref A_e_values, .ref A_e_differences, .int e_status]))]) hP hD hS hA [0] rfl rfl (by decide)
    have hrun : va_Run p l e (headSpec wsX2_valueOfNode ({ frames := 3, cells := 0, slots := 0, locals := 77 } : Room)).room s m args below meth c H locs 0 0 _ _ (F0 m 153 ls _) _ (zQl D cI cJ cC q31.1 [(A_e, .inr (2, [.ref A_e_values, .ref A_e_differences, .int q31.2]))] (va_A [(A_e, .inr (2, [.ref A_e_values, .ref A_e_differences, .int e_status]))] H.size) _) (va_A [(A_e, .inr (2, [.ref A_e_values, .ref A_e_differences, .int e_status]))] H.size) := va_runV (As := [.long x6, .long x8]) (rest := []) ⟨hx, hb, hml, hown, hts⟩ (ct_Eval_multiply l D cI cJ cC adK adV A_e A_e_values A_e_differences H.size e_status x6 x8 hq31) (cwV 2 hts gX2_valueOfNode_X2_multiply rfl rfl rfl (by decide +kernel) ⟨Nat.le_of_ble_eq_true rfl, Nat.le_of_ble_eq_true rfl⟩) ⟨zblind, va_recv hK hP (ci := 2) (q0 := 0) rfl rfl, zpre hX hS hFc hPc hK hDc⟩ rfl rfl hl.1 rfl (lv_room (Nat.le_of_ble_eq_true rfl)) dX2_valueOfNode_153 ⟨Nat.zero_le _, Nat.zero_le _⟩
    refine zc_l (ws' := [(A_e, .inr (2, [.ref A_e_values, .ref A_e_differences, .int q31.2])), (A_e_values, .inl (cJ, 160, .inr (.inl e_values))), (A_e_differences, .inl (cJ, 4, .inr (.inl e_differences))), (A_t, .inr (9, [.ref A_t_kinds, .ref A_t_details, .ref A_t_lefts, .ref A_t_rights, .ref A_t_heights, .int t_count, .ref A_t_roots, .ref A_t_joints, .int t_sums])), (A_t_kinds, .inl (cI, 160, .inl t_kinds)), (A_t_details, .inl (cI, 160, .inl t_details)), (A_t_lefts, .inl (cI, 160, .inl t_lefts)), (A_t_rights, .inl (cI, 160, .inl t_rights)), (A_g, .inl (cI, 26, .inl g))]) hrun hP hD hS hFc [0] rfl (by decide) rfl rfl (fun H32 locs hP hD hS => ?_)
    have hM := Option.some.inj hM
    subst hM
    exact W.lret (v := q31.1) hx hb hr (fun t ht hW => ⟨⟨_, (), rfl, rfl, ⟨by rw [ht]; exact hP, va_K.moved hW.alike hK, hD⟩⟩, hS.F ht⟩) hS.2.2 dX2_valueOfNode_156
  refine lv_aload_n hx hb dX2_valueOfNode_0 rfl (lv_at hl 1 rfl) ?_
  refine lv_iload_n hx hb dX2_valueOfNode_1 rfl (lv_at hl 2 rfl) ?_
  obtain ⟨q1, hq1, hM⟩ := z_b hM
  obtain ⟨hPc, hDc, hFc⟩ := zcut (wc := [(A_t, .inr (9, [.ref A_t_kinds, .ref A_t_details, .ref A_t_lefts, .ref A_t_rights, .ref A_t_heights, .int t_count, .ref A_t_roots, .ref A_t_joints, .int t_sums])), (A_t_kinds, .inl (cI, 160, .inl t_kinds))]) hP hD hS hA [3, 4] rfl rfl (by decide)
  have hrun : va_Run p l e (headSpec wsX2_valueOfNode ({ frames := 3, cells := 0, slots := 0, locals := 77 } : Room)).room s m args below meth c s.heap [] 0 0 _ _ (F0 m 2 ls _) _ (zQi D cI cJ cC q1 [(A_t, .inr (9, [.ref A_t_kinds, .ref A_t_details, .ref A_t_lefts, .ref A_t_rights, .ref A_t_heights, .int t_count, .ref A_t_roots, .ref A_t_joints, .int t_sums])), (A_t_kinds, .inl (cI, 160, .inl t_kinds))] (va_A [(A_t, .inr (9, [.ref A_t_kinds, .ref A_t_details, .ref A_t_lefts, .ref A_t_rights, .ref A_t_heights, .int t_count, .ref A_t_roots, .ref A_t_joints, .int t_sums])), (A_t_kinds, .inl (cI, 160, .inl t_kinds))] s.heap.size) _) (va_A [(A_t, .inr (9, [.ref A_t_kinds, .ref A_t_details, .ref A_t_lefts, .ref A_t_rights, .ref A_t_heights, .int t_count, .ref A_t_roots, .ref A_t_joints, .int t_sums])), (A_t_kinds, .inl (cI, 160, .inl t_kinds))] s.heap.size) := va_runV (As := [.int x2]) (rest := []) ⟨hx, hb, hml, hown, hts⟩ (ct_Tree_kindOf l D cI cJ cC adK adV A_t A_t_kinds A_t_details A_t_lefts A_t_rights A_t_heights A_t_roots A_t_joints s.heap.size t_count t_sums t_kinds x2 hq1) (cwV 1 hts gX2_valueOfNode_X9_kindOf rfl rfl rfl (by decide +kernel) ⟨Nat.le_of_ble_eq_true rfl, Nat.le_of_ble_eq_true rfl⟩) ⟨zblind, va_recv hK hP (ci := 9) (q0 := 3) rfl rfl, zpre hX hS hFc hPc hK hDc⟩ rfl rfl hl.1 rfl (lv_room (Nat.le_of_ble_eq_true rfl)) dX2_valueOfNode_2 ⟨Nat.zero_le _, Nat.zero_le _⟩
  refine zc_i (ws' := [(A_e, .inr (2, [.ref A_e_values, .ref A_e_differences, .int e_status])), (A_e_values, .inl (cJ, 160, .inr (.inl e_values))), (A_e_differences, .inl (cJ, 4, .inr (.inl e_differences))), (A_t, .inr (9, [.ref A_t_kinds, .ref A_t_details, .ref A_t_lefts, .ref A_t_rights, .ref A_t_heights, .int t_count, .ref A_t_roots, .ref A_t_joints, .int t_sums])), (A_t_kinds, .inl (cI, 160, .inl t_kinds)), (A_t_details, .inl (cI, 160, .inl t_details)), (A_t_lefts, .inl (cI, 160, .inl t_lefts)), (A_t_rights, .inl (cI, 160, .inl t_rights)), (A_g, .inl (cI, 26, .inl g))]) hrun hP hD hS hFc [3, 4] rfl (by decide) rfl rfl (fun H2 locs hP hD hS => ?_)
  refine lv_istore (lv' := [(4, .int q1), (0, .ref A_e), (1, .ref A_t), (2, .int x2), (3, .ref A_g)]) hx hb dX2_valueOfNode_5 hl (by decide) rfl (fun ls hl => ?_)
  refine lv_aload_n hx hb dX2_valueOfNode_7 rfl (lv_at hl 2 rfl) ?_
  refine lv_iload_n hx hb dX2_valueOfNode_8 rfl (lv_at hl 3 rfl) ?_
  obtain ⟨q3, hq3, hM⟩ := z_b hM
  obtain ⟨hPc, hDc, hFc⟩ := zcut (wc := [(A_t, .inr (9, [.ref A_t_kinds, .ref A_t_details, .ref A_t_lefts, .ref A_t_rights, .ref A_t_heights, .int t_count, .ref A_t_roots, .ref A_t_joints, .int t_sums])), (A_t_details, .inl (cI, 160, .inl t_details))]) hP hD hS hA [3, 5] rfl rfl (by decide)
  have hrun : va_Run p l e (headSpec wsX2_valueOfNode ({ frames := 3, cells := 0, slots := 0, locals := 77 } : Room)).room s m args below meth c H2 locs 0 0 _ _ (F0 m 9 ls _) _ (zQi D cI cJ cC q3 [(A_t, .inr (9, [.ref A_t_kinds, .ref A_t_details, .ref A_t_lefts, .ref A_t_rights, .ref A_t_heights, .int t_count, .ref A_t_roots, .ref A_t_joints, .int t_sums])), (A_t_details, .inl (cI, 160, .inl t_details))] (va_A [(A_t, .inr (9, [.ref A_t_kinds, .ref A_t_details, .ref A_t_lefts, .ref A_t_rights, .ref A_t_heights, .int t_count, .ref A_t_roots, .ref A_t_joints, .int t_sums])), (A_t_details, .inl (cI, 160, .inl t_details))] H2.size) _) (va_A [(A_t, .inr (9, [.ref A_t_kinds, .ref A_t_details, .ref A_t_lefts, .ref A_t_rights, .ref A_t_heights, .int t_count, .ref A_t_roots, .ref A_t_joints, .int t_sums])), (A_t_details, .inl (cI, 160, .inl t_details))] H2.size) := va_runV (As := [.int x2]) (rest := []) ⟨hx, hb, hml, hown, hts⟩ (ct_Tree_detailOf l D cI cJ cC adK adV A_t A_t_kinds A_t_details A_t_lefts A_t_rights A_t_heights A_t_roots A_t_joints H2.size t_count t_sums t_details x2 hq3) (cwV 1 hts gX2_valueOfNode_X9_detailOf rfl rfl rfl (by decide +kernel) ⟨Nat.le_of_ble_eq_true rfl, Nat.le_of_ble_eq_true rfl⟩) ⟨zblind, va_recv hK hP (ci := 9) (q0 := 3) rfl rfl, zpre hX hS hFc hPc hK hDc⟩ rfl rfl hl.1 rfl (lv_room (Nat.le_of_ble_eq_true rfl)) dX2_valueOfNode_9 ⟨Nat.zero_le _, Nat.zero_le _⟩
  refine zc_i (ws' := [(A_e, .inr (2, [.ref A_e_values, .ref A_e_differences, .int e_status])), (A_e_values, .inl (cJ, 160, .inr (.inl e_values))), (A_e_differences, .inl (cJ, 4, .inr (.inl e_differences))), (A_t, .inr (9, [.ref A_t_kinds, .ref A_t_details, .ref A_t_lefts, .ref A_t_rights, .ref A_t_heights, .int t_count, .ref A_t_roots, .ref A_t_joints, .int t_sums])), (A_t_kinds, .inl (cI, 160, .inl t_kinds)), (A_t_details, .inl (cI, 160, .inl t_details)), (A_t_lefts, .inl (cI, 160, .inl t_lefts)), (A_t_rights, .inl (cI, 160, .inl t_rights)), (A_g, .inl (cI, 26, .inl g))]) hrun hP hD hS hFc [3, 5] rfl (by decide) rfl rfl (fun H4 locs hP hD hS => ?_)
  refine lv_istore (lv' := [(5, .int q3), (4, .int q1), (0, .ref A_e), (1, .ref A_t), (2, .int x2), (3, .ref A_g)]) hx hb dX2_valueOfNode_12 hl (by decide) rfl (fun ls hl => ?_)
  refine lv_aload_n hx hb dX2_valueOfNode_14 rfl (lv_at hl 2 rfl) ?_
  refine lv_aload_n hx hb dX2_valueOfNode_15 rfl (lv_at hl 3 rfl) ?_
  refine lv_iload_n hx hb dX2_valueOfNode_16 rfl (lv_at hl 4 rfl) ?_
  obtain ⟨q5, hq5, hM⟩ := z_b hM
  obtain ⟨hPc, hDc, hFc⟩ := zcut (wc := [(A_t, .inr (9, [.ref A_t_kinds, .ref A_t_details, .ref A_t_lefts, .ref A_t_rights, .ref A_t_heights, .int t_count, .ref A_t_roots, .ref A_t_joints, .int t_sums])), (A_t_lefts, .inl (cI, 160, .inl t_lefts))]) hP hD hS hA [3, 6] rfl rfl (by decide)
  have hrun : va_Run p l e (headSpec wsX2_valueOfNode ({ frames := 3, cells := 0, slots := 0, locals := 77 } : Room)).room s m args below meth c H4 locs 0 0 _ _ (F0 m 17 ls _) _ (zQi D cI cJ cC q5 [(A_t, .inr (9, [.ref A_t_kinds, .ref A_t_details, .ref A_t_lefts, .ref A_t_rights, .ref A_t_heights, .int t_count, .ref A_t_roots, .ref A_t_joints, .int t_sums])), (A_t_lefts, .inl (cI, 160, .inl t_lefts))] (va_A [(A_t, .inr (9, [.ref A_t_kinds, .ref A_t_details, .ref A_t_lefts, .ref A_t_rights, .ref A_t_heights, .int t_count, .ref A_t_roots, .ref A_t_joints, .int t_sums])), (A_t_lefts, .inl (cI, 160, .inl t_lefts))] H4.size) _) (va_A [(A_t, .inr (9, [.ref A_t_kinds, .ref A_t_details, .ref A_t_lefts, .ref A_t_rights, .ref A_t_heights, .int t_count, .ref A_t_roots, .ref A_t_joints, .int t_sums])), (A_t_lefts, .inl (cI, 160, .inl t_lefts))] H4.size) := va_runV (As := [.int x2]) (rest := [.ref A_e]) ⟨hx, hb, hml, hown, hts⟩ (ct_Tree_leftOf l D cI cJ cC adK adV A_t A_t_kinds A_t_details A_t_lefts A_t_rights A_t_heights A_t_roots A_t_joints H4.size t_count t_sums t_lefts x2 hq5) (cwV 1 hts gX2_valueOfNode_X9_leftOf rfl rfl rfl (by decide +kernel) ⟨Nat.le_of_ble_eq_true rfl, Nat.le_of_ble_eq_true rfl⟩) ⟨zblind, va_recv hK hP (ci := 9) (q0 := 3) rfl rfl, zpre hX hS hFc hPc hK hDc⟩ rfl rfl hl.1 rfl (lv_room (Nat.le_of_ble_eq_true rfl)) dX2_valueOfNode_17 ⟨Nat.zero_le _, Nat.zero_le _⟩
  refine zc_i (ws' := [(A_e, .inr (2, [.ref A_e_values, .ref A_e_differences, .int e_status])), (A_e_values, .inl (cJ, 160, .inr (.inl e_values))), (A_e_differences, .inl (cJ, 4, .inr (.inl e_differences))), (A_t, .inr (9, [.ref A_t_kinds, .ref A_t_details, .ref A_t_lefts, .ref A_t_rights, .ref A_t_heights, .int t_count, .ref A_t_roots, .ref A_t_joints, .int t_sums])), (A_t_kinds, .inl (cI, 160, .inl t_kinds)), (A_t_details, .inl (cI, 160, .inl t_details)), (A_t_lefts, .inl (cI, 160, .inl t_lefts)), (A_t_rights, .inl (cI, 160, .inl t_rights)), (A_g, .inl (cI, 26, .inl g))]) hrun hP hD hS hFc [3, 6] rfl (by decide) rfl rfl (fun H6 locs hP hD hS => ?_)
  obtain ⟨q7, hq7, hM⟩ := z_b hM
  obtain ⟨hPc, hDc, hFc⟩ := zcut (wc := [(A_e, .inr (2, [.ref A_e_values, .ref A_e_differences, .int e_status])), (A_e_values, .inl (cJ, 160, .inr (.inl e_values)))]) hP hD hS hA [0, 1] rfl rfl (by decide)
  have hrun : va_Run p l e (headSpec wsX2_valueOfNode ({ frames := 3, cells := 0, slots := 0, locals := 77 } : Room)).room s m args below meth c H6 locs 0 0 _ _ (F0 m 20 ls _) _ (zQl D cI cJ cC q7 [(A_e, .inr (2, [.ref A_e_values, .ref A_e_differences, .int e_status])), (A_e_values, .inl (cJ, 160, .inr (.inl e_values)))] (va_A [(A_e, .inr (2, [.ref A_e_values, .ref A_e_differences, .int e_status])), (A_e_values, .inl (cJ, 160, .inr (.inl e_values)))] H6.size) _) (va_A [(A_e, .inr (2, [.ref A_e_values, .ref A_e_differences, .int e_status])), (A_e_values, .inl (cJ, 160, .inr (.inl e_values)))] H6.size) := va_runV (As := [.int q5]) (rest := []) ⟨hx, hb, hml, hown, hts⟩ (ct_Eval_valueAt l D cI cJ cC adK adV A_e A_e_values A_e_differences H6.size e_status e_values q5 hq7) (cwV 1 hts gX2_valueOfNode_X2_valueAt rfl rfl rfl (by decide +kernel) ⟨Nat.le_of_ble_eq_true rfl, Nat.le_of_ble_eq_true rfl⟩) ⟨zblind, va_recv hK hP (ci := 2) (q0 := 0) rfl rfl, zpre hX hS hFc hPc hK hDc⟩ rfl rfl hl.1 rfl (lv_room (Nat.le_of_ble_eq_true rfl)) dX2_valueOfNode_20 ⟨Nat.zero_le _, Nat.zero_le _⟩
  refine zc_l (ws' := [(A_e, .inr (2, [.ref A_e_values, .ref A_e_differences, .int e_status])), (A_e_values, .inl (cJ, 160, .inr (.inl e_values))), (A_e_differences, .inl (cJ, 4, .inr (.inl e_differences))), (A_t, .inr (9, [.ref A_t_kinds, .ref A_t_details, .ref A_t_lefts, .ref A_t_rights, .ref A_t_heights, .int t_count, .ref A_t_roots, .ref A_t_joints, .int t_sums])), (A_t_kinds, .inl (cI, 160, .inl t_kinds)), (A_t_details, .inl (cI, 160, .inl t_details)), (A_t_lefts, .inl (cI, 160, .inl t_lefts)), (A_t_rights, .inl (cI, 160, .inl t_rights)), (A_g, .inl (cI, 26, .inl g))]) hrun hP hD hS hFc [0, 1] rfl (by decide) rfl rfl (fun H8 locs hP hD hS => ?_)
  refine lv_lstore (lv' := [(6, .long q7), (5, .int q3), (4, .int q1), (0, .ref A_e), (1, .ref A_t), (2, .int x2), (3, .ref A_g)]) hx hb dX2_valueOfNode_23 hl (by decide) rfl (fun ls hl => ?_)
  refine lv_aload_n hx hb dX2_valueOfNode_25 rfl (lv_at hl 3 rfl) ?_
  refine lv_aload_n hx hb dX2_valueOfNode_26 rfl (lv_at hl 4 rfl) ?_
  refine lv_iload_n hx hb dX2_valueOfNode_27 rfl (lv_at hl 5 rfl) ?_
  obtain ⟨q9, hq9, hM⟩ := z_b hM
  obtain ⟨hPc, hDc, hFc⟩ := zcut (wc := [(A_t, .inr (9, [.ref A_t_kinds, .ref A_t_details, .ref A_t_lefts, .ref A_t_rights, .ref A_t_heights, .int t_count, .ref A_t_roots, .ref A_t_joints, .int t_sums])), (A_t_rights, .inl (cI, 160, .inl t_rights))]) hP hD hS hA [3, 7] rfl rfl (by decide)
  have hrun : va_Run p l e (headSpec wsX2_valueOfNode ({ frames := 3, cells := 0, slots := 0, locals := 77 } : Room)).room s m args below meth c H8 locs 0 0 _ _ (F0 m 28 ls _) _ (zQi D cI cJ cC q9 [(A_t, .inr (9, [.ref A_t_kinds, .ref A_t_details, .ref A_t_lefts, .ref A_t_rights, .ref A_t_heights, .int t_count, .ref A_t_roots, .ref A_t_joints, .int t_sums])), (A_t_rights, .inl (cI, 160, .inl t_rights))] (va_A [(A_t, .inr (9, [.ref A_t_kinds, .ref A_t_details, .ref A_t_lefts, .ref A_t_rights, .ref A_t_heights, .int t_count, .ref A_t_roots, .ref A_t_joints, .int t_sums])), (A_t_rights, .inl (cI, 160, .inl t_rights))] H8.size) _) (va_A [(A_t, .inr (9, [.ref A_t_kinds, .ref A_t_details, .ref A_t_lefts, .ref A_t_rights, .ref A_t_heights, .int t_count, .ref A_t_roots, .ref A_t_joints, .int t_sums])), (A_t_rights, .inl (cI, 160, .inl t_rights))] H8.size) := va_runV (As := [.int x2]) (rest := [.ref A_e]) ⟨hx, hb, hml, hown, hts⟩ (ct_Tree_rightOf l D cI cJ cC adK adV A_t A_t_kinds A_t_details A_t_lefts A_t_rights A_t_heights A_t_roots A_t_joints H8.size t_count t_sums t_rights x2 hq9) (cwV 1 hts gX2_valueOfNode_X9_rightOf rfl rfl rfl (by decide +kernel) ⟨Nat.le_of_ble_eq_true rfl, Nat.le_of_ble_eq_true rfl⟩) ⟨zblind, va_recv hK hP (ci := 9) (q0 := 3) rfl rfl, zpre hX hS hFc hPc hK hDc⟩ rfl rfl hl.1 rfl (lv_room (Nat.le_of_ble_eq_true rfl)) dX2_valueOfNode_28 ⟨Nat.zero_le _, Nat.zero_le _⟩
  refine zc_i (ws' := [(A_e, .inr (2, [.ref A_e_values, .ref A_e_differences, .int e_status])), (A_e_values, .inl (cJ, 160, .inr (.inl e_values))), (A_e_differences, .inl (cJ, 4, .inr (.inl e_differences))), (A_t, .inr (9, [.ref A_t_kinds, .ref A_t_details, .ref A_t_lefts, .ref A_t_rights, .ref A_t_heights, .int t_count, .ref A_t_roots, .ref A_t_joints, .int t_sums])), (A_t_kinds, .inl (cI, 160, .inl t_kinds)), (A_t_details, .inl (cI, 160, .inl t_details)), (A_t_lefts, .inl (cI, 160, .inl t_lefts)), (A_t_rights, .inl (cI, 160, .inl t_rights)), (A_g, .inl (cI, 26, .inl g))]) hrun hP hD hS hFc [3, 7] rfl (by decide) rfl rfl (fun H10 locs hP hD hS => ?_)
  obtain ⟨q11, hq11, hM⟩ := z_b hM
  obtain ⟨hPc, hDc, hFc⟩ := zcut (wc := [(A_e, .inr (2, [.ref A_e_values, .ref A_e_differences, .int e_status])), (A_e_values, .inl (cJ, 160, .inr (.inl e_values)))]) hP hD hS hA [0, 1] rfl rfl (by decide)
  have hrun : va_Run p l e (headSpec wsX2_valueOfNode ({ frames := 3, cells := 0, slots := 0, locals := 77 } : Room)).room s m args below meth c H10 locs 0 0 _ _ (F0 m 31 ls _) _ (zQl D cI cJ cC q11 [(A_e, .inr (2, [.ref A_e_values, .ref A_e_differences, .int e_status])), (A_e_values, .inl (cJ, 160, .inr (.inl e_values)))] (va_A [(A_e, .inr (2, [.ref A_e_values, .ref A_e_differences, .int e_status])), (A_e_values, .inl (cJ, 160, .inr (.inl e_values)))] H10.size) _) (va_A [(A_e, .inr (2, [.ref A_e_values, .ref A_e_differences, .int e_status])), (A_e_values, .inl (cJ, 160, .inr (.inl e_values)))] H10.size) := va_runV (As := [.int q9]) (rest := []) ⟨hx, hb, hml, hown, hts⟩ (ct_Eval_valueAt l D cI cJ cC adK adV A_e A_e_values A_e_differences H10.size e_status e_values q9 hq11) (cwV 1 hts gX2_valueOfNode_X2_valueAt rfl rfl rfl (by decide +kernel) ⟨Nat.le_of_ble_eq_true rfl, Nat.le_of_ble_eq_true rfl⟩) ⟨zblind, va_recv hK hP (ci := 2) (q0 := 0) rfl rfl, zpre hX hS hFc hPc hK hDc⟩ rfl rfl hl.1 rfl (lv_room (Nat.le_of_ble_eq_true rfl)) dX2_valueOfNode_31 ⟨Nat.zero_le _, Nat.zero_le _⟩
  refine zc_l (ws' := [(A_e, .inr (2, [.ref A_e_values, .ref A_e_differences, .int e_status])), (A_e_values, .inl (cJ, 160, .inr (.inl e_values))), (A_e_differences, .inl (cJ, 4, .inr (.inl e_differences))), (A_t, .inr (9, [.ref A_t_kinds, .ref A_t_details, .ref A_t_lefts, .ref A_t_rights, .ref A_t_heights, .int t_count, .ref A_t_roots, .ref A_t_joints, .int t_sums])), (A_t_kinds, .inl (cI, 160, .inl t_kinds)), (A_t_details, .inl (cI, 160, .inl t_details)), (A_t_lefts, .inl (cI, 160, .inl t_lefts)), (A_t_rights, .inl (cI, 160, .inl t_rights)), (A_g, .inl (cI, 26, .inl g))]) hrun hP hD hS hFc [0, 1] rfl (by decide) rfl rfl (fun H12 locs hP hD hS => ?_)
  refine lv_lstore (lv' := [(8, .long q11), (6, .long q7), (5, .int q3), (4, .int q1), (0, .ref A_e), (1, .ref A_t), (2, .int x2), (3, .ref A_g)]) hx hb dX2_valueOfNode_34 hl (by decide) rfl (fun ls hl => ?_)
  refine lv_iload hx hb dX2_valueOfNode_36 (lv_at hl 3 rfl) ?_
  by_cases c13 : q1 = 1
  · have hM := z_t c13 hM
    refine lv_tableIn (tgt := 104) (off := 66) hx hb dX2_valueOfNode_38 (by rw [c13]; decide) (by rw [c13]; decide) (by rw [c13]; decide +kernel) (by decide) ?_
    refine lv_iload hx hb dX2_valueOfNode_104 (lv_at hl 2 rfl) ?_
    refine lv_i2l hx hb dX2_valueOfNode_106 rfl ?_
    have hM := Option.some.inj hM
    subst hM
    exact W.lret (v := (q3).toInt64) hx hb hr (fun t ht hW => ⟨⟨_, (), rfl, rfl, ⟨by rw [ht]; exact hP, va_K.moved hW.alike hK, hD⟩⟩, hS.F ht⟩) hS.2.2 dX2_valueOfNode_107
  · have hM := z_f c13 hM
    by_cases c14 : q1 = 2
    · have hM := z_t c14 hM
      refine lv_tableIn (tgt := 108) (off := 70) hx hb dX2_valueOfNode_38 (by rw [c14]; decide) (by rw [c14]; decide) (by rw [c14]; decide +kernel) (by decide) ?_
      refine lv_iload hx hb dX2_valueOfNode_108 (lv_at hl 2 rfl) ?_
      refine lv_if_lt (tgt := 128) hx hb dX2_valueOfNode_110 (by decide) (fun c15 => ?_) (fun c15 => ?_)
      · have hM := z_t c15 hM
        refine lv_lconst (v := 0) hx hb dX2_valueOfNode_128 (by decide) ?_
        have hM := Option.some.inj hM
        subst hM
        exact W.lret (v := 0) hx hb hr (fun t ht hW => ⟨⟨_, (), rfl, rfl, ⟨by rw [ht]; exact hP, va_K.moved hW.alike hK, hD⟩⟩, hS.F ht⟩) hS.2.2 dX2_valueOfNode_129
      · have hM := z_f c15 hM
        refine lv_iload hx hb dX2_valueOfNode_113 (lv_at hl 2 rfl) ?_
        refine lv_aload_n hx hb dX2_valueOfNode_115 rfl (lv_at hl 7 rfl) ?_
        refine va_alen hx hb hK hP 8 0 (v := 26) rfl rfl rfl dX2_valueOfNode_116 ?_
        refine lv_icmp_ge (tgt := 128) hx hb dX2_valueOfNode_117 (by decide) (fun c16 => ?_) (fun c16 => ?_)
        · have hM := z_t c16 hM
          refine lv_lconst (v := 0) hx hb dX2_valueOfNode_128 (by decide) ?_
          have hM := Option.some.inj hM
          subst hM
          exact W.lret (v := 0) hx hb hr (fun t ht hW => ⟨⟨_, (), rfl, rfl, ⟨by rw [ht]; exact hP, va_K.moved hW.alike hK, hD⟩⟩, hS.F ht⟩) hS.2.2 dX2_valueOfNode_129
        · have hM := z_f c16 hM
          refine lv_aload_n hx hb dX2_valueOfNode_120 rfl (lv_at hl 7 rfl) ?_
          refine lv_iload hx hb dX2_valueOfNode_121 (lv_at hl 2 rfl) ?_
          obtain ⟨g17, hM⟩ := z_g hM
          refine va_iald hx hb hK hP 8 0 rfl rfl g17 dX2_valueOfNode_123 ?_
          refine lv_i2l hx hb dX2_valueOfNode_124 rfl ?_
          refine lv_goto (tgt := 129) hx hb dX2_valueOfNode_125 (by decide) ?_
          have hM := Option.some.inj hM
          subst hM
          exact W.lret (v := (g q3.toNatClampNeg).toInt64) hx hb hr (fun t ht hW => ⟨⟨_, (), rfl, rfl, ⟨by rw [ht]; exact hP, va_K.moved hW.alike hK, hD⟩⟩, hS.F ht⟩) hS.2.2 dX2_valueOfNode_129
    · have hM := z_f c14 hM
      by_cases c18 : q1 = 3
      · have hM := z_t c18 hM
        refine lv_tableIn (tgt := 183) (off := 145) hx hb dX2_valueOfNode_38 (by rw [c18]; decide) (by rw [c18]; decide) (by rw [c18]; decide +kernel) (by decide) ?_
        exact B_183_0  e_status e_differences q1 q3 q7 _ _ ls hP hD hS (lv_sub hl [4, 3, 2, 1] rfl) hM
      · have hM := z_f c18 hM
        by_cases c21 : q1 = 4
        · have hM := z_t c21 hM
          refine lv_tableIn (tgt := 183) (off := 145) hx hb dX2_valueOfNode_38 (by rw [c21]; decide) (by rw [c21]; decide) (by rw [c21]; decide +kernel) (by decide) ?_
          exact B_183_0  e_status e_differences q1 q3 q7 _ _ ls hP hD hS (lv_sub hl [4, 3, 2, 1] rfl) hM
        · have hM := z_f c21 hM
          by_cases c22 : q1 = 5
          · have hM := z_t c22 hM
            refine lv_tableIn (tgt := 183) (off := 145) hx hb dX2_valueOfNode_38 (by rw [c22]; decide) (by rw [c22]; decide) (by rw [c22]; decide +kernel) (by decide) ?_
            exact B_183_0  e_status e_differences q1 q3 q7 _ _ ls hP hD hS (lv_sub hl [4, 3, 2, 1] rfl) hM
          · have hM := z_f c22 hM
            by_cases c23 : q1 = 6
            · have hM := z_t c23 hM
              refine lv_tableIn (tgt := 183) (off := 145) hx hb dX2_valueOfNode_38 (by rw [c23]; decide) (by rw [c23]; decide) (by rw [c23]; decide +kernel) (by decide) ?_
              exact B_183_0  e_status e_differences q1 q3 q7 _ _ ls hP hD hS (lv_sub hl [4, 3, 2, 1] rfl) hM
            · have hM := z_f c23 hM
              by_cases c24 : q1 = 7
              · have hM := z_t c24 hM
                refine lv_tableIn (tgt := 130) (off := 92) hx hb dX2_valueOfNode_38 (by rw [c24]; decide) (by rw [c24]; decide) (by rw [c24]; decide +kernel) (by decide) ?_
                refine lv_aload_n hx hb dX2_valueOfNode_130 rfl (lv_at hl 4 rfl) ?_
                refine lv_lload hx hb dX2_valueOfNode_131 (lv_at hl 1 rfl) ?_
                refine lv_lload hx hb dX2_valueOfNode_133 (lv_at hl 0 rfl) ?_
                obtain ⟨hPc, hDc, hFc⟩ := zcut (wc := [(A_e, .inr (2, [.ref A_e_values, .ref A_e_differences, .int e_status]))]) hP hD hS hA [0] rfl rfl (by decide)
                have hrun : va_Run p l e (headSpec wsX2_valueOfNode ({ frames := 3, cells := 0, slots := 0, locals := 77 } : Room)).room s m args below meth c H12 locs 0 0 _ _ (F0 m 135 ls _) _ (zQl D cI cJ cC (fn_Eval_add e_status q7 q11).1 [(A_e, .inr (2, [.ref A_e_values, .ref A_e_differences, .int (fn_Eval_add e_status q7 q11).2]))] (va_A [(A_e, .inr (2, [.ref A_e_values, .ref A_e_differences, .int e_status]))] H12.size) _) (va_A [(A_e, .inr (2, [.ref A_e_values, .ref A_e_differences, .int e_status]))] H12.size) := va_runV (As := [.long q7, .long q11]) (rest := []) ⟨hx, hb, hml, hown, hts⟩ (ct_Eval_add l D cI cJ cC adK adV A_e A_e_values A_e_differences H12.size e_status q7 q11) (cwV 2 hts gX2_valueOfNode_X2_add rfl rfl rfl (by decide +kernel) ⟨Nat.le_of_ble_eq_true rfl, Nat.le_of_ble_eq_true rfl⟩) ⟨zblind, va_recv hK hP (ci := 2) (q0 := 0) rfl rfl, zpre hX hS hFc hPc hK hDc⟩ rfl rfl hl.1 rfl (lv_room (Nat.le_of_ble_eq_true rfl)) dX2_valueOfNode_135 ⟨Nat.zero_le _, Nat.zero_le _⟩
                refine zc_l (ws' := [(A_e, .inr (2, [.ref A_e_values, .ref A_e_differences, .int (fn_Eval_add e_status q7 q11).2])), (A_e_values, .inl (cJ, 160, .inr (.inl e_values))), (A_e_differences, .inl (cJ, 4, .inr (.inl e_differences))), (A_t, .inr (9, [.ref A_t_kinds, .ref A_t_details, .ref A_t_lefts, .ref A_t_rights, .ref A_t_heights, .int t_count, .ref A_t_roots, .ref A_t_joints, .int t_sums])), (A_t_kinds, .inl (cI, 160, .inl t_kinds)), (A_t_details, .inl (cI, 160, .inl t_details)), (A_t_lefts, .inl (cI, 160, .inl t_lefts)), (A_t_rights, .inl (cI, 160, .inl t_rights)), (A_g, .inl (cI, 26, .inl g))]) hrun hP hD hS hFc [0] rfl (by decide) rfl rfl (fun H26 locs hP hD hS => ?_)
                have hM := Option.some.inj hM
                subst hM
                exact W.lret (v := (fn_Eval_add e_status q7 q11).1) hx hb hr (fun t ht hW => ⟨⟨_, (), rfl, rfl, ⟨by rw [ht]; exact hP, va_K.moved hW.alike hK, hD⟩⟩, hS.F ht⟩) hS.2.2 dX2_valueOfNode_138
              · have hM := z_f c24 hM
                by_cases c27 : q1 = 8
                · have hM := z_t c27 hM
                  refine lv_tableIn (tgt := 139) (off := 101) hx hb dX2_valueOfNode_38 (by rw [c27]; decide) (by rw [c27]; decide) (by rw [c27]; decide +kernel) (by decide) ?_
                  refine lv_aload_n hx hb dX2_valueOfNode_139 rfl (lv_at hl 4 rfl) ?_
                  refine lv_lload hx hb dX2_valueOfNode_140 (lv_at hl 1 rfl) ?_
                  refine lv_lload hx hb dX2_valueOfNode_142 (lv_at hl 0 rfl) ?_
                  obtain ⟨hPc, hDc, hFc⟩ := zcut (wc := [(A_e, .inr (2, [.ref A_e_values, .ref A_e_differences, .int e_status]))]) hP hD hS hA [0] rfl rfl (by decide)
                  have hrun : va_Run p l e (headSpec wsX2_valueOfNode ({ frames := 3, cells := 0, slots := 0, locals := 77 } : Room)).room s m args below meth c H12 locs 0 0 _ _ (F0 m 144 ls _) _ (zQl D cI cJ cC (fn_Eval_subtract e_status q7 q11).1 [(A_e, .inr (2, [.ref A_e_values, .ref A_e_differences, .int (fn_Eval_subtract e_status q7 q11).2]))] (va_A [(A_e, .inr (2, [.ref A_e_values, .ref A_e_differences, .int e_status]))] H12.size) _) (va_A [(A_e, .inr (2, [.ref A_e_values, .ref A_e_differences, .int e_status]))] H12.size) := va_runV (As := [.long q7, .long q11]) (rest := []) ⟨hx, hb, hml, hown, hts⟩ (ct_Eval_subtract l D cI cJ cC adK adV A_e A_e_values A_e_differences H12.size e_status q7 q11) (cwV 2 hts gX2_valueOfNode_X2_subtract rfl rfl rfl (by decide +kernel) ⟨Nat.le_of_ble_eq_true rfl, Nat.le_of_ble_eq_true rfl⟩) ⟨zblind, va_recv hK hP (ci := 2) (q0 := 0) rfl rfl, zpre hX hS hFc hPc hK hDc⟩ rfl rfl hl.1 rfl (lv_room (Nat.le_of_ble_eq_true rfl)) dX2_valueOfNode_144 ⟨Nat.zero_le _, Nat.zero_le _⟩
                  refine zc_l (ws' := [(A_e, .inr (2, [.ref A_e_values, .ref A_e_differences, .int (fn_Eval_subtract e_status q7 q11).2])), (A_e_values, .inl (cJ, 160, .inr (.inl e_values))), (A_e_differences, .inl (cJ, 4, .inr (.inl e_differences))), (A_t, .inr (9, [.ref A_t_kinds, .ref A_t_details, .ref A_t_lefts, .ref A_t_rights, .ref A_t_heights, .int t_count, .ref A_t_roots, .ref A_t_joints, .int t_sums])), (A_t_kinds, .inl (cI, 160, .inl t_kinds)), (A_t_details, .inl (cI, 160, .inl t_details)), (A_t_lefts, .inl (cI, 160, .inl t_lefts)), (A_t_rights, .inl (cI, 160, .inl t_rights)), (A_g, .inl (cI, 26, .inl g))]) hrun hP hD hS hFc [0] rfl (by decide) rfl rfl (fun H29 locs hP hD hS => ?_)
                  have hM := Option.some.inj hM
                  subst hM
                  exact W.lret (v := (fn_Eval_subtract e_status q7 q11).1) hx hb hr (fun t ht hW => ⟨⟨_, (), rfl, rfl, ⟨by rw [ht]; exact hP, va_K.moved hW.alike hK, hD⟩⟩, hS.F ht⟩) hS.2.2 dX2_valueOfNode_147
                · have hM := z_f c27 hM
                  by_cases c30 : q1 = 9
                  · have hM := z_t c30 hM
                    refine lv_tableIn (tgt := 148) (off := 110) hx hb dX2_valueOfNode_38 (by rw [c30]; decide) (by rw [c30]; decide) (by rw [c30]; decide +kernel) (by decide) ?_
                    exact B_148_1  e_status e_differences q7 q11 _ _ ls hP hD hS (lv_sub hl [4, 1, 0] rfl) hM
                  · have hM := z_f c30 hM
                    by_cases c33 : q1 = 10
                    · have hM := z_t c33 hM
                      refine lv_tableIn (tgt := 157) (off := 119) hx hb dX2_valueOfNode_38 (by rw [c33]; decide) (by rw [c33]; decide) (by rw [c33]; decide +kernel) (by decide) ?_
                      refine lv_aload_n hx hb dX2_valueOfNode_157 rfl (lv_at hl 4 rfl) ?_
                      refine lv_lload hx hb dX2_valueOfNode_158 (lv_at hl 1 rfl) ?_
                      refine lv_lload hx hb dX2_valueOfNode_160 (lv_at hl 0 rfl) ?_
                      obtain ⟨q34, hq34, hM⟩ := z_b hM
                      obtain ⟨hPc, hDc, hFc⟩ := zcut (wc := [(A_e, .inr (2, [.ref A_e_values, .ref A_e_differences, .int e_status]))]) hP hD hS hA [0] rfl rfl (by decide)
                      have hrun : va_Run p l e (headSpec wsX2_valueOfNode ({ frames := 3, cells := 0, slots := 0, locals := 77 } : Room)).room s m args below meth c H12 locs 0 0 _ _ (F0 m 162 ls _) _ (zQl D cI cJ cC q34.1 [(A_e, .inr (2, [.ref A_e_values, .ref A_e_differences, .int q34.2]))] (va_A [(A_e, .inr (2, [.ref A_e_values, .ref A_e_differences, .int e_status]))] H12.size) _) (va_A [(A_e, .inr (2, [.ref A_e_values, .ref A_e_differences, .int e_status]))] H12.size) := va_runV (As := [.long q7, .long q11]) (rest := []) ⟨hx, hb, hml, hown, hts⟩ (ct_Eval_divide l D cI cJ cC adK adV A_e A_e_values A_e_differences H12.size e_status q7 q11 hq34) (cwV 2 hts gX2_valueOfNode_X2_divide rfl rfl rfl (by decide +kernel) ⟨Nat.le_of_ble_eq_true rfl, Nat.le_of_ble_eq_true rfl⟩) ⟨zblind, va_recv hK hP (ci := 2) (q0 := 0) rfl rfl, zpre hX hS hFc hPc hK hDc⟩ rfl rfl hl.1 rfl (lv_room (Nat.le_of_ble_eq_true rfl)) dX2_valueOfNode_162 ⟨Nat.zero_le _, Nat.zero_le _⟩
                      refine zc_l (ws' := [(A_e, .inr (2, [.ref A_e_values, .ref A_e_differences, .int q34.2])), (A_e_values, .inl (cJ, 160, .inr (.inl e_values))), (A_e_differences, .inl (cJ, 4, .inr (.inl e_differences))), (A_t, .inr (9, [.ref A_t_kinds, .ref A_t_details, .ref A_t_lefts, .ref A_t_rights, .ref A_t_heights, .int t_count, .ref A_t_roots, .ref A_t_joints, .int t_sums])), (A_t_kinds, .inl (cI, 160, .inl t_kinds)), (A_t_details, .inl (cI, 160, .inl t_details)), (A_t_lefts, .inl (cI, 160, .inl t_lefts)), (A_t_rights, .inl (cI, 160, .inl t_rights)), (A_g, .inl (cI, 26, .inl g))]) hrun hP hD hS hFc [0] rfl (by decide) rfl rfl (fun H35 locs hP hD hS => ?_)
                      have hM := Option.some.inj hM
                      subst hM
                      exact W.lret (v := q34.1) hx hb hr (fun t ht hW => ⟨⟨_, (), rfl, rfl, ⟨by rw [ht]; exact hP, va_K.moved hW.alike hK, hD⟩⟩, hS.F ht⟩) hS.2.2 dX2_valueOfNode_165
                    · have hM := z_f c33 hM
                      by_cases c36 : q1 = 11
                      · have hM := z_t c36 hM
                        refine lv_tableIn (tgt := 166) (off := 128) hx hb dX2_valueOfNode_38 (by rw [c36]; decide) (by rw [c36]; decide) (by rw [c36]; decide +kernel) (by decide) ?_
                        refine lv_aload_n hx hb dX2_valueOfNode_166 rfl (lv_at hl 4 rfl) ?_
                        refine lv_lload hx hb dX2_valueOfNode_167 (lv_at hl 1 rfl) ?_
                        refine lv_lload hx hb dX2_valueOfNode_169 (lv_at hl 0 rfl) ?_
                        obtain ⟨q37, hq37, hM⟩ := z_b hM
                        obtain ⟨hPc, hDc, hFc⟩ := zcut (wc := [(A_e, .inr (2, [.ref A_e_values, .ref A_e_differences, .int e_status]))]) hP hD hS hA [0] rfl rfl (by decide)
                        have hrun : va_Run p l e (headSpec wsX2_valueOfNode ({ frames := 3, cells := 0, slots := 0, locals := 77 } : Room)).room s m args below meth c H12 locs 0 0 _ _ (F0 m 171 ls _) _ (zQl D cI cJ cC q37.1 [(A_e, .inr (2, [.ref A_e_values, .ref A_e_differences, .int q37.2]))] (va_A [(A_e, .inr (2, [.ref A_e_values, .ref A_e_differences, .int e_status]))] H12.size) _) (va_A [(A_e, .inr (2, [.ref A_e_values, .ref A_e_differences, .int e_status]))] H12.size) := va_runV (As := [.long q7, .long q11]) (rest := []) ⟨hx, hb, hml, hown, hts⟩ (ct_Eval_raise l D cI cJ cC adK adV A_e A_e_values A_e_differences H12.size e_status q7 q11 hq37) (cwV 2 hts gX2_valueOfNode_X2_raise rfl rfl rfl (by decide +kernel) ⟨Nat.le_of_ble_eq_true rfl, Nat.le_of_ble_eq_true rfl⟩) ⟨zblind, va_recv hK hP (ci := 2) (q0 := 0) rfl rfl, zpre hX hS hFc hPc hK hDc⟩ rfl rfl hl.1 rfl (lv_room (Nat.le_of_ble_eq_true rfl)) dX2_valueOfNode_171 ⟨Nat.zero_le _, Nat.zero_le _⟩
                        refine zc_l (ws' := [(A_e, .inr (2, [.ref A_e_values, .ref A_e_differences, .int q37.2])), (A_e_values, .inl (cJ, 160, .inr (.inl e_values))), (A_e_differences, .inl (cJ, 4, .inr (.inl e_differences))), (A_t, .inr (9, [.ref A_t_kinds, .ref A_t_details, .ref A_t_lefts, .ref A_t_rights, .ref A_t_heights, .int t_count, .ref A_t_roots, .ref A_t_joints, .int t_sums])), (A_t_kinds, .inl (cI, 160, .inl t_kinds)), (A_t_details, .inl (cI, 160, .inl t_details)), (A_t_lefts, .inl (cI, 160, .inl t_lefts)), (A_t_rights, .inl (cI, 160, .inl t_rights)), (A_g, .inl (cI, 26, .inl g))]) hrun hP hD hS hFc [0] rfl (by decide) rfl rfl (fun H38 locs hP hD hS => ?_)
                        have hM := Option.some.inj hM
                        subst hM
                        exact W.lret (v := q37.1) hx hb hr (fun t ht hW => ⟨⟨_, (), rfl, rfl, ⟨by rw [ht]; exact hP, va_K.moved hW.alike hK, hD⟩⟩, hS.F ht⟩) hS.2.2 dX2_valueOfNode_174
                      · have hM := z_f c36 hM
                        by_cases c39 : q1 = 12
                        · have hM := z_t c39 hM
                          refine lv_tableIn (tgt := 148) (off := 110) hx hb dX2_valueOfNode_38 (by rw [c39]; decide) (by rw [c39]; decide) (by rw [c39]; decide +kernel) (by decide) ?_
                          exact B_148_1  e_status e_differences q7 q11 _ _ ls hP hD hS (lv_sub hl [4, 1, 0] rfl) hM
                        · have hM := z_f c39 hM
                          by_cases c40 : q1 = 13
                          · have hM := z_t c40 hM
                            refine lv_tableIn (tgt := 175) (off := 137) hx hb dX2_valueOfNode_38 (by rw [c40]; decide) (by rw [c40]; decide) (by rw [c40]; decide +kernel) (by decide) ?_
                            refine lv_aload_n hx hb dX2_valueOfNode_175 rfl (lv_at hl 4 rfl) ?_
                            refine lv_lconst (v := 0) hx hb dX2_valueOfNode_176 (by decide) ?_
                            refine lv_lload hx hb dX2_valueOfNode_177 (lv_at hl 1 rfl) ?_
                            obtain ⟨hPc, hDc, hFc⟩ := zcut (wc := [(A_e, .inr (2, [.ref A_e_values, .ref A_e_differences, .int e_status]))]) hP hD hS hA [0] rfl rfl (by decide)
                            have hrun : va_Run p l e (headSpec wsX2_valueOfNode ({ frames := 3, cells := 0, slots := 0, locals := 77 } : Room)).room s m args below meth c H12 locs 0 0 _ _ (F0 m 179 ls _) _ (zQl D cI cJ cC (fn_Eval_subtract e_status 0 q7).1 [(A_e, .inr (2, [.ref A_e_values, .ref A_e_differences, .int (fn_Eval_subtract e_status 0 q7).2]))] (va_A [(A_e, .inr (2, [.ref A_e_values, .ref A_e_differences, .int e_status]))] H12.size) _) (va_A [(A_e, .inr (2, [.ref A_e_values, .ref A_e_differences, .int e_status]))] H12.size) := va_runV (As := [.long 0, .long q7]) (rest := []) ⟨hx, hb, hml, hown, hts⟩ (ct_Eval_subtract l D cI cJ cC adK adV A_e A_e_values A_e_differences H12.size e_status 0 q7) (cwV 2 hts gX2_valueOfNode_X2_subtract rfl rfl rfl (by decide +kernel) ⟨Nat.le_of_ble_eq_true rfl, Nat.le_of_ble_eq_true rfl⟩) ⟨zblind, va_recv hK hP (ci := 2) (q0 := 0) rfl rfl, zpre hX hS hFc hPc hK hDc⟩ rfl rfl hl.1 rfl (lv_room (Nat.le_of_ble_eq_true rfl)) dX2_valueOfNode_179 ⟨Nat.zero_le _, Nat.zero_le _⟩
                            refine zc_l (ws' := [(A_e, .inr (2, [.ref A_e_values, .ref A_e_differences, .int (fn_Eval_subtract e_status 0 q7).2])), (A_e_values, .inl (cJ, 160, .inr (.inl e_values))), (A_e_differences, .inl (cJ, 4, .inr (.inl e_differences))), (A_t, .inr (9, [.ref A_t_kinds, .ref A_t_details, .ref A_t_lefts, .ref A_t_rights, .ref A_t_heights, .int t_count, .ref A_t_roots, .ref A_t_joints, .int t_sums])), (A_t_kinds, .inl (cI, 160, .inl t_kinds)), (A_t_details, .inl (cI, 160, .inl t_details)), (A_t_lefts, .inl (cI, 160, .inl t_lefts)), (A_t_rights, .inl (cI, 160, .inl t_rights)), (A_g, .inl (cI, 26, .inl g))]) hrun hP hD hS hFc [0] rfl (by decide) rfl rfl (fun H42 locs hP hD hS => ?_)
                            have hM := Option.some.inj hM
                            subst hM
                            exact W.lret (v := (fn_Eval_subtract e_status 0 q7).1) hx hb hr (fun t ht hW => ⟨⟨_, (), rfl, rfl, ⟨by rw [ht]; exact hP, va_K.moved hW.alike hK, hD⟩⟩, hS.F ht⟩) hS.2.2 dX2_valueOfNode_182
                          · have hM := z_f c40 hM
                            refine lv_tableOut (tgt := 183) hx hb dX2_valueOfNode_38 (z_out (lo := 1) 13 (fun k hk => ?_)) (by decide) ?_
                            · match k, hk with
                              | 0, _ => exact c13
                              | 1, _ => exact c14
                              | 2, _ => exact c18
                              | 3, _ => exact c21
                              | 4, _ => exact c22
                              | 5, _ => exact c23
                              | 6, _ => exact c24
                              | 7, _ => exact c27
                              | 8, _ => exact c30
                              | 9, _ => exact c33
                              | 10, _ => exact c36
                              | 11, _ => exact c39
                              | 12, _ => exact c40
                              | k + 13, hk => omega
                            · exact B_183_0  e_status e_differences q1 q3 q7 _ _ ls hP hD hS (lv_sub hl [4, 3, 2, 1] rfl) hM
def fn_Eval_evaluate_L21 (t_count : Int32) (t_kinds : Nat → Int32) (t_details : Nat → Int32) (t_lefts : Nat → Int32) (t_rights : Nat → Int32) (g : Nat → Int32) : Nat → Int32 → (Nat → Int64) → (Nat → Int64) → Int32 → Int32 → Option (Int32 × Int32 × (Nat → Int64) × (Nat → Int64))
  | 0 => fun _ _ _ _ _ => none
  | n + 1 => fun e_status e_values e_differences x3 x4 => (if x3 ≤ x4 then some (e_status, e_status, e_values, e_differences) else (if e_status = 0 then ((fn_Eval_valueOfNode e_status e_values e_differences t_count t_kinds t_details t_lefts t_rights g x4).bind fun q6 => (if (x4 < 0 ∨ 160 ≤ x4.toNatClampNeg) then none else (fn_Eval_evaluate_L21 t_count t_kinds t_details t_lefts t_rights g n) q6.2.1 (vp_updL e_values x4.toNatClampNeg q6.1) q6.2.2 x3 (x4 + 1))) else some (e_status, e_status, e_values, e_differences)))
def fn_Eval_evaluate (e_status : Int32) (e_values : Nat → Int64) (e_differences : Nat → Int64) (t_count : Int32) (t_kinds : Nat → Int32) (t_details : Nat → Int32) (t_lefts : Nat → Int32) (t_rights : Nat → Int32) (g : Nat → Int32) : Option (Int32 × Int32 × (Nat → Int64) × (Nat → Int64)) := fn_Eval_evaluate_L21 t_count t_kinds t_details t_lefts t_rights g zFU 0 e_values e_differences (if 160 < (fn_Tree_size t_count) then 160 else (fn_Tree_size t_count)) 0
set_option maxHeartbeats 40000000 in
set_option maxRecDepth 100000 in
theorem ct_Eval_evaluate (l : Launch) (D : va_G) (cI cJ cC : ClassId) (adK adV : Nat → Nat) (A_e A_e_values A_e_differences A_t A_t_kinds A_t_details A_t_lefts A_t_rights A_t_heights A_t_roots A_t_joints A_g : Nat) (sz : Nat) (e_status : Int32) (e_values : Nat → Int64) (e_differences : Nat → Int64) (t_count : Int32) (t_sums : Int32) (t_kinds : Nat → Int32) (t_details : Nat → Int32) (t_lefts : Nat → Int32) (t_rights : Nat → Int32) (g : Nat → Int32) {rs : Int32 × Int32 × (Nat → Int64) × (Nat → Int64)} (hM : fn_Eval_evaluate e_status e_values e_differences t_count t_kinds t_details t_lefts t_rights g = some rs) : Met l yX2_evaluate wsX2_evaluate ({ frames := 4, cells := 0, slots := 0, locals := 106 } : Room) (zP D cI cJ cC adK adV [.ref A_e, .ref A_t, .ref A_g] sz [(A_e, .inr (2, [.ref A_e_values, .ref A_e_differences, .int e_status])), (A_e_values, .inl (cJ, 160, .inr (.inl e_values))), (A_e_differences, .inl (cJ, 4, .inr (.inl e_differences))), (A_t, .inr (9, [.ref A_t_kinds, .ref A_t_details, .ref A_t_lefts, .ref A_t_rights, .ref A_t_heights, .int t_count, .ref A_t_roots, .ref A_t_joints, .int t_sums])), (A_t_kinds, .inl (cI, 160, .inl t_kinds)), (A_t_details, .inl (cI, 160, .inl t_details)), (A_t_lefts, .inl (cI, 160, .inl t_lefts)), (A_t_rights, .inl (cI, 160, .inl t_rights)), (A_g, .inl (cI, 26, .inl g))]) (zQi D cI cJ cC rs.1 [(A_e, .inr (2, [.ref A_e_values, .ref A_e_differences, .int rs.2.1])), (A_e_values, .inl (cJ, 160, .inr (.inl rs.2.2.1))), (A_e_differences, .inl (cJ, 4, .inr (.inl rs.2.2.2))), (A_t, .inr (9, [.ref A_t_kinds, .ref A_t_details, .ref A_t_lefts, .ref A_t_rights, .ref A_t_heights, .int t_count, .ref A_t_roots, .ref A_t_joints, .int t_sums])), (A_t_kinds, .inl (cI, 160, .inl t_kinds)), (A_t_details, .inl (cI, 160, .inl t_details)), (A_t_lefts, .inl (cI, 160, .inl t_lefts)), (A_t_rights, .inl (cI, 160, .inl t_rights)), (A_g, .inl (cI, 26, .inl g))] (va_A [(A_e, .inr (2, [.ref A_e_values, .ref A_e_differences, .int e_status])), (A_e_values, .inl (cJ, 160, .inr (.inl e_values))), (A_e_differences, .inl (cJ, 4, .inr (.inl e_differences))), (A_t, .inr (9, [.ref A_t_kinds, .ref A_t_details, .ref A_t_lefts, .ref A_t_rights, .ref A_t_heights, .int t_count, .ref A_t_roots, .ref A_t_joints, .int t_sums])), (A_t_kinds, .inl (cI, 160, .inl t_kinds)), (A_t_details, .inl (cI, 160, .inl t_details)), (A_t_lefts, .inl (cI, 160, .inl t_lefts)), (A_t_rights, .inl (cI, 160, .inl t_rights)), (A_g, .inl (cI, 26, .inl g))] sz)) 0 0 (va_A [(A_e, .inr (2, [.ref A_e_values, .ref A_e_differences, .int e_status])), (A_e_values, .inl (cJ, 160, .inr (.inl e_values))), (A_e_differences, .inl (cJ, 4, .inr (.inl e_differences))), (A_t, .inr (9, [.ref A_t_kinds, .ref A_t_details, .ref A_t_lefts, .ref A_t_rights, .ref A_t_heights, .int t_count, .ref A_t_roots, .ref A_t_joints, .int t_sums])), (A_t_kinds, .inl (cI, 160, .inl t_kinds)), (A_t_details, .inl (cI, 160, .inl t_details)), (A_t_lefts, .inl (cI, 160, .inl t_lefts)), (A_t_rights, .inl (cI, 160, .inl t_rights)), (A_g, .inl (cI, 26, .inl g))] sz) := by
  refine Met.ofW (cc := cX2_evaluate) (maxL := 5) (ret := (some .int)) (by decide) rfl ?_
  intro p e s m args below meth c s₁ B hml hv0
  obtain ⟨hargs, hsz, hP, hK, hD0, hX⟩ := hv0
  have hx := B.exec
  have hb := B.bytes
  have hr := B.returns
  have hts := atoms_spec (ws := wsX2_evaluate) B.pre
  have hown : s.vm.findClass RX2 = some m.cls := findClass_of_methodNamed B.named
  have hlocks := B.notSynchronized
  subst hsz
  have hD := hD0.self (sz := s.heap.size)
  generalize hAe : va_A [(A_e, .inr (2, [.ref A_e_values, .ref A_e_differences, .int e_status])), (A_e_values, .inl (cJ, 160, .inr (.inl e_values))), (A_e_differences, .inl (cJ, 4, .inr (.inl e_differences))), (A_t, .inr (9, [.ref A_t_kinds, .ref A_t_details, .ref A_t_lefts, .ref A_t_rights, .ref A_t_heights, .int t_count, .ref A_t_roots, .ref A_t_joints, .int t_sums])), (A_t_kinds, .inl (cI, 160, .inl t_kinds)), (A_t_details, .inl (cI, 160, .inl t_details)), (A_t_lefts, .inl (cI, 160, .inl t_lefts)), (A_t_rights, .inl (cI, 160, .inl t_rights)), (A_g, .inl (cI, 26, .inl g))] s.heap.size = A at hD hX ⊢
  have hA : ∀ q : Nat, s.heap.size ≤ q → A q := fun q h => by rw [← hAe]; exact Or.inr h
  have hS : va_S A s.heap s.heap [] := va_S.rf
  have hl := lv_entry ([.ref A_e, .ref A_t, .ref A_g]) (n := 5) (Nat.le_of_ble_eq_true rfl)
  rw [hargs, lg_entry_eq, ← hargs]
  generalize (lg_sl ([.ref A_e, .ref A_t, .ref A_g]) ++ List.replicate (5 - (lg_sl ([.ref A_e, .ref A_t, .ref A_g])).length) Slot.unset).toArray = ls at hl ⊢
  have hl : lv_has ls 5 [(0, .ref A_e), (1, .ref A_t), (2, .ref A_g)] := hl
  have hw0 : ∀ w ∈ u_ws RX2 TX2 3, w ∈ wsX2_evaluate := by decide +kernel
  have hw1 := hts (.fieldLink RX2 18 "NotationParser$Evaluator" "status" "I") (by decide +kernel)
  have hw2 := hts (.fieldLink RX2 9 "NotationParser$Evaluator" "values" "[J") (by decide +kernel)
  have hw3 := hts (.methodLink RX2 28 Lib.Math.min.name) (by decide +kernel)
  have hw4 := hts (.static Lib.Math.min.name) (by decide +kernel)
  have hw5 := hts (.initialized "java/lang/Math") (by decide +kernel)
  have hw6 := hts (.code Lib.Math.min.name Lib.Math.min.code 2 (some .int)) (by decide +kernel)
  have L_21_0 : ∀ (n : Nat) (e_status : Int32) (e_values : Nat → Int64) (e_differences : Nat → Int64) (x3 : Int32) (x4 : Int32) (H : Heap) (locs : List Loc) (ls : Array Slot), va_P D vwCl [(A_e, .inr (2, [.ref A_e_values, .ref A_e_differences, .int e_status])), (A_e_values, .inl (cJ, 160, .inr (.inl e_values))), (A_e_differences, .inl (cJ, 4, .inr (.inl e_differences))), (A_t, .inr (9, [.ref A_t_kinds, .ref A_t_details, .ref A_t_lefts, .ref A_t_rights, .ref A_t_heights, .int t_count, .ref A_t_roots, .ref A_t_joints, .int t_sums])), (A_t_kinds, .inl (cI, 160, .inl t_kinds)), (A_t_details, .inl (cI, 160, .inl t_details)), (A_t_lefts, .inl (cI, 160, .inl t_lefts)), (A_t_rights, .inl (cI, 160, .inl t_rights)), (A_g, .inl (cI, 26, .inl g))] H → va_D A [(A_e, .inr (2, [.ref A_e_values, .ref A_e_differences, .int e_status])), (A_e_values, .inl (cJ, 160, .inr (.inl e_values))), (A_e_differences, .inl (cJ, 4, .inr (.inl e_differences))), (A_t, .inr (9, [.ref A_t_kinds, .ref A_t_details, .ref A_t_lefts, .ref A_t_rights, .ref A_t_heights, .int t_count, .ref A_t_roots, .ref A_t_joints, .int t_sums])), (A_t_kinds, .inl (cI, 160, .inl t_kinds)), (A_t_details, .inl (cI, 160, .inl t_details)), (A_t_lefts, .inl (cI, 160, .inl t_lefts)), (A_t_rights, .inl (cI, 160, .inl t_rights)), (A_g, .inl (cI, 26, .inl g))] → va_S A s.heap H locs → lv_has ls 5 [(0, .ref A_e), (1, .ref A_t), (2, .ref A_g), (3, .int x3), (4, .int x4)] → fn_Eval_evaluate_L21 t_count t_kinds t_details t_lefts t_rights g n e_status e_values e_differences x3 x4 = some rs → W p l e (headSpec wsX2_evaluate ({ frames := 4, cells := 0, slots := 0, locals := 106 } : Room)).room s m args below meth c H locs 0 0 (MQ below (zQi D cI cJ cC rs.1 [(A_e, .inr (2, [.ref A_e_values, .ref A_e_differences, .int rs.2.1])), (A_e_values, .inl (cJ, 160, .inr (.inl rs.2.2.1))), (A_e_differences, .inl (cJ, 4, .inr (.inl rs.2.2.2))), (A_t, .inr (9, [.ref A_t_kinds, .ref A_t_details, .ref A_t_lefts, .ref A_t_rights, .ref A_t_heights, .int t_count, .ref A_t_roots, .ref A_t_joints, .int t_sums])), (A_t_kinds, .inl (cI, 160, .inl t_kinds)), (A_t_details, .inl (cI, 160, .inl t_details)), (A_t_lefts, .inl (cI, 160, .inl t_lefts)), (A_t_rights, .inl (cI, 160, .inl t_rights)), (A_g, .inl (cI, 26, .inl g))] A) args s 0 0 A) (F0 m 21 ls []) := by
    intro  n
    induction n with
    | zero => intro e_status e_values e_differences x3 x4 H locs ls _ _ _ _ hM; exact z_n hM
    | succ n ih =>
      intro e_status e_values e_differences x3 x4 H locs ls hP hD hS hl hM
      refine lv_iload hx hb dX2_evaluate_21 (lv_at hl 4 rfl) ?_
      refine lv_iload_n hx hb dX2_evaluate_23 rfl (lv_at hl 3 rfl) ?_
      refine lv_icmp_ge (tgt := 55) hx hb dX2_evaluate_24 (by decide) (fun c4 => ?_) (fun c4 => ?_)
      · have hM := z_t c4 hM
        refine lv_aload_n hx hb dX2_evaluate_55 rfl (lv_at hl 0 rfl) ?_
        refine va_get (D := D) (ci := 2) (v := .int e_status) (C := RX2) (T := TX2) (N := 3) hx hb hts hw0 hown hK hP 0 rfl rfl 2 (by decide) hw1 (fun _ h9 => h9) rfl dX2_evaluate_56 ?_
        have hM := Option.some.inj hM
        subst hM
        exact W.iret (v := e_status) hx hb hr (fun t ht hW => ⟨⟨_, (), rfl, rfl, ⟨by rw [ht]; exact hP, va_K.moved hW.alike hK, hD⟩⟩, hS.F ht⟩) hS.2.2 dX2_evaluate_59
      · have hM := z_f c4 hM
        refine lv_aload_n hx hb dX2_evaluate_27 rfl (lv_at hl 0 rfl) ?_
        refine va_get (D := D) (ci := 2) (v := .int e_status) (C := RX2) (T := TX2) (N := 3) hx hb hts hw0 hown hK hP 0 rfl rfl 2 (by decide) hw1 (fun _ h9 => h9) rfl dX2_evaluate_28 ?_
        refine lv_if_ne (tgt := 55) hx hb dX2_evaluate_31 (by decide) (fun c5 => ?_) (fun c5 => ?_)
        · have hM := z_f c5 hM
          refine lv_aload_n hx hb dX2_evaluate_55 rfl (lv_at hl 0 rfl) ?_
          refine va_get (D := D) (ci := 2) (v := .int e_status) (C := RX2) (T := TX2) (N := 3) hx hb hts hw0 hown hK hP 0 rfl rfl 2 (by decide) hw1 (fun _ h9 => h9) rfl dX2_evaluate_56 ?_
          have hM := Option.some.inj hM
          subst hM
          exact W.iret (v := e_status) hx hb hr (fun t ht hW => ⟨⟨_, (), rfl, rfl, ⟨by rw [ht]; exact hP, va_K.moved hW.alike hK, hD⟩⟩, hS.F ht⟩) hS.2.2 dX2_evaluate_59
        · have hM := z_t c5 hM
          refine lv_aload_n hx hb dX2_evaluate_34 rfl (lv_at hl 0 rfl) ?_
          refine va_get (D := D) (ci := 2) (v := .ref A_e_values) (C := RX2) (T := TX2) (N := 3) hx hb hts hw0 hown hK hP 0 rfl rfl 0 (by decide) hw2 (fun _ h9 => h9) rfl dX2_evaluate_35 ?_
          refine lv_iload hx hb dX2_evaluate_38 (lv_at hl 4 rfl) ?_
          refine lv_aload_n hx hb dX2_evaluate_40 rfl (lv_at hl 0 rfl) ?_
          refine lv_aload_n hx hb dX2_evaluate_41 rfl (lv_at hl 1 rfl) ?_
          refine lv_iload hx hb dX2_evaluate_42 (lv_at hl 4 rfl) ?_
          refine lv_aload_n hx hb dX2_evaluate_44 rfl (lv_at hl 2 rfl) ?_
          obtain ⟨q6, hq6, hM⟩ := z_b hM
          obtain ⟨hPc, hDc, hFc⟩ := zcut (wc := [(A_e, .inr (2, [.ref A_e_values, .ref A_e_differences, .int e_status])), (A_e_values, .inl (cJ, 160, .inr (.inl e_values))), (A_e_differences, .inl (cJ, 4, .inr (.inl e_differences))), (A_t, .inr (9, [.ref A_t_kinds, .ref A_t_details, .ref A_t_lefts, .ref A_t_rights, .ref A_t_heights, .int t_count, .ref A_t_roots, .ref A_t_joints, .int t_sums])), (A_t_kinds, .inl (cI, 160, .inl t_kinds)), (A_t_details, .inl (cI, 160, .inl t_details)), (A_t_lefts, .inl (cI, 160, .inl t_lefts)), (A_t_rights, .inl (cI, 160, .inl t_rights)), (A_g, .inl (cI, 26, .inl g))]) hP hD hS hA [0, 1, 2, 3, 4, 5, 6, 7, 8] rfl rfl (by decide)
          have hrun : va_Run p l e (headSpec wsX2_evaluate ({ frames := 4, cells := 0, slots := 0, locals := 106 } : Room)).room s m args below meth c H locs 0 0 _ _ (F0 m 45 ls _) _ (zQl D cI cJ cC q6.1 [(A_e, .inr (2, [.ref A_e_values, .ref A_e_differences, .int q6.2.1])), (A_e_values, .inl (cJ, 160, .inr (.inl e_values))), (A_e_differences, .inl (cJ, 4, .inr (.inl q6.2.2))), (A_t, .inr (9, [.ref A_t_kinds, .ref A_t_details, .ref A_t_lefts, .ref A_t_rights, .ref A_t_heights, .int t_count, .ref A_t_roots, .ref A_t_joints, .int t_sums])), (A_t_kinds, .inl (cI, 160, .inl t_kinds)), (A_t_details, .inl (cI, 160, .inl t_details)), (A_t_lefts, .inl (cI, 160, .inl t_lefts)), (A_t_rights, .inl (cI, 160, .inl t_rights)), (A_g, .inl (cI, 26, .inl g))] (va_A [(A_e, .inr (2, [.ref A_e_values, .ref A_e_differences, .int e_status])), (A_e_values, .inl (cJ, 160, .inr (.inl e_values))), (A_e_differences, .inl (cJ, 4, .inr (.inl e_differences))), (A_t, .inr (9, [.ref A_t_kinds, .ref A_t_details, .ref A_t_lefts, .ref A_t_rights, .ref A_t_heights, .int t_count, .ref A_t_roots, .ref A_t_joints, .int t_sums])), (A_t_kinds, .inl (cI, 160, .inl t_kinds)), (A_t_details, .inl (cI, 160, .inl t_details)), (A_t_lefts, .inl (cI, 160, .inl t_lefts)), (A_t_rights, .inl (cI, 160, .inl t_rights)), (A_g, .inl (cI, 26, .inl g))] H.size) _) (va_A [(A_e, .inr (2, [.ref A_e_values, .ref A_e_differences, .int e_status])), (A_e_values, .inl (cJ, 160, .inr (.inl e_values))), (A_e_differences, .inl (cJ, 4, .inr (.inl e_differences))), (A_t, .inr (9, [.ref A_t_kinds, .ref A_t_details, .ref A_t_lefts, .ref A_t_rights, .ref A_t_heights, .int t_count, .ref A_t_roots, .ref A_t_joints, .int t_sums])), (A_t_kinds, .inl (cI, 160, .inl t_kinds)), (A_t_details, .inl (cI, 160, .inl t_details)), (A_t_lefts, .inl (cI, 160, .inl t_lefts)), (A_t_rights, .inl (cI, 160, .inl t_rights)), (A_g, .inl (cI, 26, .inl g))] H.size) := va_runV (As := [.ref A_t, .int x4, .ref A_g]) (rest := [.int x4, .ref A_e_values]) ⟨hx, hb, hml, hown, hts⟩ (ct_Eval_valueOfNode l D cI cJ cC adK adV A_e A_e_values A_e_differences A_t A_t_kinds A_t_details A_t_lefts A_t_rights A_t_heights A_t_roots A_t_joints A_g H.size e_status e_values e_differences t_count t_sums t_kinds t_details t_lefts t_rights g x4 hq6) (cwV 3 hts gX2_evaluate_X2_valueOfNode rfl rfl rfl (by decide +kernel) ⟨Nat.le_of_ble_eq_true rfl, Nat.le_of_ble_eq_true rfl⟩) ⟨zblind, va_recv hK hP (ci := 2) (q0 := 0) rfl rfl, zpre hX hS hFc hPc hK hDc⟩ rfl rfl hl.1 rfl (lv_room (Nat.le_of_ble_eq_true rfl)) dX2_evaluate_45 ⟨Nat.zero_le _, Nat.zero_le _⟩
          refine zc_l (ws' := [(A_e, .inr (2, [.ref A_e_values, .ref A_e_differences, .int q6.2.1])), (A_e_values, .inl (cJ, 160, .inr (.inl e_values))), (A_e_differences, .inl (cJ, 4, .inr (.inl q6.2.2))), (A_t, .inr (9, [.ref A_t_kinds, .ref A_t_details, .ref A_t_lefts, .ref A_t_rights, .ref A_t_heights, .int t_count, .ref A_t_roots, .ref A_t_joints, .int t_sums])), (A_t_kinds, .inl (cI, 160, .inl t_kinds)), (A_t_details, .inl (cI, 160, .inl t_details)), (A_t_lefts, .inl (cI, 160, .inl t_lefts)), (A_t_rights, .inl (cI, 160, .inl t_rights)), (A_g, .inl (cI, 26, .inl g))]) hrun hP hD hS hFc [0, 1, 2, 3, 4, 5, 6, 7, 8] rfl (by decide) rfl (zrep_of [true, true, true, true, true, true, true, true, true] rfl (by decide) (by decide) rfl rfl rfl rfl) (fun H7 locs hP hD hS => ?_)
          obtain ⟨g8, hM⟩ := z_g hM
          refine va_last hx hb hK hP hD hS 1 1 rfl rfl g8 dX2_evaluate_48 (fun H9 locs hP hD hS => ?_)
          have hP : va_P D vwCl [(A_e, .inr (2, [.ref A_e_values, .ref A_e_differences, .int q6.2.1])), (A_e_values, .inl (cJ, 160, .inr (.inl (vp_updL e_values x4.toNatClampNeg q6.1)))), (A_e_differences, .inl (cJ, 4, .inr (.inl q6.2.2))), (A_t, .inr (9, [.ref A_t_kinds, .ref A_t_details, .ref A_t_lefts, .ref A_t_rights, .ref A_t_heights, .int t_count, .ref A_t_roots, .ref A_t_joints, .int t_sums])), (A_t_kinds, .inl (cI, 160, .inl t_kinds)), (A_t_details, .inl (cI, 160, .inl t_details)), (A_t_lefts, .inl (cI, 160, .inl t_lefts)), (A_t_rights, .inl (cI, 160, .inl t_rights)), (A_g, .inl (cI, 26, .inl g))] H9 := hP
          have hD : va_D A [(A_e, .inr (2, [.ref A_e_values, .ref A_e_differences, .int q6.2.1])), (A_e_values, .inl (cJ, 160, .inr (.inl (vp_updL e_values x4.toNatClampNeg q6.1)))), (A_e_differences, .inl (cJ, 4, .inr (.inl q6.2.2))), (A_t, .inr (9, [.ref A_t_kinds, .ref A_t_details, .ref A_t_lefts, .ref A_t_rights, .ref A_t_heights, .int t_count, .ref A_t_roots, .ref A_t_joints, .int t_sums])), (A_t_kinds, .inl (cI, 160, .inl t_kinds)), (A_t_details, .inl (cI, 160, .inl t_details)), (A_t_lefts, .inl (cI, 160, .inl t_lefts)), (A_t_rights, .inl (cI, 160, .inl t_rights)), (A_g, .inl (cI, 26, .inl g))] := hD
          refine lv_iinc (v := (x4 + 1)) (lv' := [(4, .int (x4 + 1)), (0, .ref A_e), (1, .ref A_t), (2, .ref A_g), (3, .int x3)]) hx hb dX2_evaluate_49 hl (k := 4) rfl rfl (by decide) rfl (fun ls hl => ?_)
          refine lv_goto (tgt := 21) hx hb dX2_evaluate_52 (by decide) ?_
          exact ih q6.2.1 (vp_updL e_values x4.toNatClampNeg q6.1) q6.2.2 x3 (x4 + 1) _ _ ls hP hD hS (lv_sub hl [1, 2, 3, 4, 0] rfl) hM
  refine lv_aload_n hx hb dX2_evaluate_0 rfl (lv_at hl 0 rfl) ?_
  refine lv_iconst (v := 0) hx hb dX2_evaluate_1 (by decide) ?_
  refine va_put (D := D) (ci := 2) (v := .int 0) (ty := .int) (C := RX2) (T := TX2) (N := 3) hx hb hts hw0 tyX2 tyX2_ok nmX2 hown hK hP hD hS 0 rfl rfl 2 (by decide) hw1 (fun _ h9 => h9) rfl (by decide +kernel) rfl rfl (Nat.le_of_ble_eq_true rfl) dX2_evaluate_2 (fun H1 locs hP hD hS => ?_)
  have hP : va_P D vwCl [(A_e, .inr (2, [.ref A_e_values, .ref A_e_differences, .int 0])), (A_e_values, .inl (cJ, 160, .inr (.inl e_values))), (A_e_differences, .inl (cJ, 4, .inr (.inl e_differences))), (A_t, .inr (9, [.ref A_t_kinds, .ref A_t_details, .ref A_t_lefts, .ref A_t_rights, .ref A_t_heights, .int t_count, .ref A_t_roots, .ref A_t_joints, .int t_sums])), (A_t_kinds, .inl (cI, 160, .inl t_kinds)), (A_t_details, .inl (cI, 160, .inl t_details)), (A_t_lefts, .inl (cI, 160, .inl t_lefts)), (A_t_rights, .inl (cI, 160, .inl t_rights)), (A_g, .inl (cI, 26, .inl g))] H1 := hP
  have hD : va_D A [(A_e, .inr (2, [.ref A_e_values, .ref A_e_differences, .int 0])), (A_e_values, .inl (cJ, 160, .inr (.inl e_values))), (A_e_differences, .inl (cJ, 4, .inr (.inl e_differences))), (A_t, .inr (9, [.ref A_t_kinds, .ref A_t_details, .ref A_t_lefts, .ref A_t_rights, .ref A_t_heights, .int t_count, .ref A_t_roots, .ref A_t_joints, .int t_sums])), (A_t_kinds, .inl (cI, 160, .inl t_kinds)), (A_t_details, .inl (cI, 160, .inl t_details)), (A_t_lefts, .inl (cI, 160, .inl t_lefts)), (A_t_rights, .inl (cI, 160, .inl t_rights)), (A_g, .inl (cI, 26, .inl g))] := hD
  refine lv_aload_n hx hb dX2_evaluate_5 rfl (lv_at hl 1 rfl) ?_
  obtain ⟨hPc, hDc, hFc⟩ := zcut (wc := [(A_t, .inr (9, [.ref A_t_kinds, .ref A_t_details, .ref A_t_lefts, .ref A_t_rights, .ref A_t_heights, .int t_count, .ref A_t_roots, .ref A_t_joints, .int t_sums]))]) hP hD hS hA [3] rfl rfl (by decide)
  have hrun : va_Run p l e (headSpec wsX2_evaluate ({ frames := 4, cells := 0, slots := 0, locals := 106 } : Room)).room s m args below meth c H1 locs 0 0 _ _ (F0 m 6 ls _) _ (zQi D cI cJ cC (fn_Tree_size t_count) [(A_t, .inr (9, [.ref A_t_kinds, .ref A_t_details, .ref A_t_lefts, .ref A_t_rights, .ref A_t_heights, .int t_count, .ref A_t_roots, .ref A_t_joints, .int t_sums]))] (va_A [(A_t, .inr (9, [.ref A_t_kinds, .ref A_t_details, .ref A_t_lefts, .ref A_t_rights, .ref A_t_heights, .int t_count, .ref A_t_roots, .ref A_t_joints, .int t_sums]))] H1.size) _) (va_A [(A_t, .inr (9, [.ref A_t_kinds, .ref A_t_details, .ref A_t_lefts, .ref A_t_rights, .ref A_t_heights, .int t_count, .ref A_t_roots, .ref A_t_joints, .int t_sums]))] H1.size) := va_runV (As := []) (rest := []) ⟨hx, hb, hml, hown, hts⟩ (ct_Tree_size l D cI cJ cC adK adV A_t A_t_kinds A_t_details A_t_lefts A_t_rights A_t_heights A_t_roots A_t_joints H1.size t_count t_sums) (cwV 0 hts gX2_evaluate_X9_size rfl rfl rfl (by decide +kernel) ⟨Nat.le_of_ble_eq_true rfl, Nat.le_of_ble_eq_true rfl⟩) ⟨zblind, va_recv hK hP (ci := 9) (q0 := 3) rfl rfl, zpre hX hS hFc hPc hK hDc⟩ rfl rfl hl.1 rfl (lv_room (Nat.le_of_ble_eq_true rfl)) dX2_evaluate_6 ⟨Nat.zero_le _, Nat.zero_le _⟩
  refine zc_i (ws' := [(A_e, .inr (2, [.ref A_e_values, .ref A_e_differences, .int 0])), (A_e_values, .inl (cJ, 160, .inr (.inl e_values))), (A_e_differences, .inl (cJ, 4, .inr (.inl e_differences))), (A_t, .inr (9, [.ref A_t_kinds, .ref A_t_details, .ref A_t_lefts, .ref A_t_rights, .ref A_t_heights, .int t_count, .ref A_t_roots, .ref A_t_joints, .int t_sums])), (A_t_kinds, .inl (cI, 160, .inl t_kinds)), (A_t_details, .inl (cI, 160, .inl t_details)), (A_t_lefts, .inl (cI, 160, .inl t_lefts)), (A_t_rights, .inl (cI, 160, .inl t_rights)), (A_g, .inl (cI, 26, .inl g))]) hrun hP hD hS hFc [3] rfl (by decide) rfl rfl (fun H3 locs hP hD hS => ?_)
  refine lv_aload_n hx hb dX2_evaluate_9 rfl (lv_at hl 0 rfl) ?_
  refine va_get (D := D) (ci := 2) (v := .ref A_e_values) (C := RX2) (T := TX2) (N := 3) hx hb hts hw0 hown hK hP 0 rfl rfl 0 (by decide) hw2 (fun _ h9 => h9) rfl dX2_evaluate_10 ?_
  refine va_alen hx hb hK hP 1 1 (v := 160) rfl rfl rfl dX2_evaluate_13 ?_
  refine va_mmin hx hb (hml.trans hl.1.symm) hown hw3 hw4 hw5 hw6 (Nat.le_of_ble_eq_true rfl) (Nat.le_of_ble_eq_true rfl) (Nat.zero_le _) (Nat.zero_le _) dX2_evaluate_14 ?_
  refine lv_istore_n (lv' := [(3, .int (if 160 < (fn_Tree_size t_count) then 160 else (fn_Tree_size t_count))), (0, .ref A_e), (1, .ref A_t), (2, .ref A_g)]) hx hb dX2_evaluate_17 rfl hl (by decide) rfl (fun ls hl => ?_)
  refine lv_iconst (v := 0) hx hb dX2_evaluate_18 (by decide) ?_
  refine lv_istore (lv' := [(4, .int 0), (3, .int (if 160 < (fn_Tree_size t_count) then 160 else (fn_Tree_size t_count))), (0, .ref A_e), (1, .ref A_t), (2, .ref A_g)]) hx hb dX2_evaluate_19 hl (by decide) rfl (fun ls hl => ?_)
  exact L_21_0  zFU 0 e_values e_differences (if 160 < (fn_Tree_size t_count) then 160 else (fn_Tree_size t_count)) 0 _ _ ls hP hD hS (lv_sub hl [2, 3, 4, 1, 0] rfl) hM
def fn_Eval_holds (e_values : Nat → Int64) (t_sums : Int32) (t_roots : Nat → Int32) (t_joints : Nat → Int32) (x2 : Int32) : Option (Int32) := ((fn_Tree_rootOf t_sums t_roots (x2 - 1)).bind fun q1 => ((fn_Eval_valueAt e_values q1).bind fun q3 => ((fn_Tree_rootOf t_sums t_roots x2).bind fun q5 => ((fn_Eval_valueAt e_values q5).bind fun q7 => ((fn_Tree_jointOf t_sums t_joints x2).bind fun q9 => (if q9 = 14 then (if (lg_cmp q3 q7) = 0 then some 1 else some 0) else (if q9 = 15 then (if 0 ≤ (lg_cmp q3 q7) then some 0 else some 1) else (if q9 = 16 then (if (lg_cmp q3 q7) ≤ 0 then some 0 else some 1) else (if q9 = 17 then (if 0 < (lg_cmp q3 q7) then some 0 else some 1) else (if q9 = 18 then (if (lg_cmp q3 q7) < 0 then some 0 else some 1) else (if q9 = 19 then (if (lg_cmp q3 q7) = 0 then some 0 else some 1) else (if 0 < (lg_cmp q7 q3) then some 0 else ((fn_Tree_rootOf t_sums t_roots (x2 + 1)).bind fun q24 => ((fn_Eval_valueAt e_values q24).bind fun q26 => (if 0 < (lg_cmp q3 q26) then some 0 else some 1)))))))))))))))
set_option maxHeartbeats 40000000 in
set_option maxRecDepth 100000 in
theorem ct_Eval_holds (l : Launch) (D : va_G) (cI cJ cC : ClassId) (adK adV : Nat → Nat) (A_e A_e_values A_e_differences A_t A_t_kinds A_t_details A_t_lefts A_t_rights A_t_heights A_t_roots A_t_joints : Nat) (sz : Nat) (e_status : Int32) (e_values : Nat → Int64) (t_count : Int32) (t_sums : Int32) (t_roots : Nat → Int32) (t_joints : Nat → Int32) (x2 : Int32) {rs : Int32} (hM : fn_Eval_holds e_values t_sums t_roots t_joints x2 = some rs) : Met l yX2_holds wsX2_holds ({ frames := 1, cells := 0, slots := 0, locals := 21 } : Room) (zP D cI cJ cC adK adV [.ref A_e, .ref A_t, .int x2] sz [(A_e, .inr (2, [.ref A_e_values, .ref A_e_differences, .int e_status])), (A_e_values, .inl (cJ, 160, .inr (.inl e_values))), (A_t, .inr (9, [.ref A_t_kinds, .ref A_t_details, .ref A_t_lefts, .ref A_t_rights, .ref A_t_heights, .int t_count, .ref A_t_roots, .ref A_t_joints, .int t_sums])), (A_t_roots, .inl (cI, 9, .inl t_roots)), (A_t_joints, .inl (cI, 9, .inl t_joints))]) (zQi D cI cJ cC rs [(A_e, .inr (2, [.ref A_e_values, .ref A_e_differences, .int e_status])), (A_e_values, .inl (cJ, 160, .inr (.inl e_values))), (A_t, .inr (9, [.ref A_t_kinds, .ref A_t_details, .ref A_t_lefts, .ref A_t_rights, .ref A_t_heights, .int t_count, .ref A_t_roots, .ref A_t_joints, .int t_sums])), (A_t_roots, .inl (cI, 9, .inl t_roots)), (A_t_joints, .inl (cI, 9, .inl t_joints))] (va_A [(A_e, .inr (2, [.ref A_e_values, .ref A_e_differences, .int e_status])), (A_e_values, .inl (cJ, 160, .inr (.inl e_values))), (A_t, .inr (9, [.ref A_t_kinds, .ref A_t_details, .ref A_t_lefts, .ref A_t_rights, .ref A_t_heights, .int t_count, .ref A_t_roots, .ref A_t_joints, .int t_sums])), (A_t_roots, .inl (cI, 9, .inl t_roots)), (A_t_joints, .inl (cI, 9, .inl t_joints))] sz)) 0 0 (va_A [(A_e, .inr (2, [.ref A_e_values, .ref A_e_differences, .int e_status])), (A_e_values, .inl (cJ, 160, .inr (.inl e_values))), (A_t, .inr (9, [.ref A_t_kinds, .ref A_t_details, .ref A_t_lefts, .ref A_t_rights, .ref A_t_heights, .int t_count, .ref A_t_roots, .ref A_t_joints, .int t_sums])), (A_t_roots, .inl (cI, 9, .inl t_roots)), (A_t_joints, .inl (cI, 9, .inl t_joints))] sz) := by
  refine Met.ofW (cc := cX2_holds) (maxL := 7) (ret := (some .boolean)) (by decide) rfl ?_
  intro p e s m args below meth c s₁ B hml hv0
  obtain ⟨hargs, hsz, hP, hK, hD0, hX⟩ := hv0
  have hx := B.exec
  have hb := B.bytes
  have hr := B.returns
  have hts := atoms_spec (ws := wsX2_holds) B.pre
  have hown : s.vm.findClass RX2 = some m.cls := findClass_of_methodNamed B.named
  have hlocks := B.notSynchronized
  subst hsz
  have hD := hD0.self (sz := s.heap.size)
  generalize hAe : va_A [(A_e, .inr (2, [.ref A_e_values, .ref A_e_differences, .int e_status])), (A_e_values, .inl (cJ, 160, .inr (.inl e_values))), (A_t, .inr (9, [.ref A_t_kinds, .ref A_t_details, .ref A_t_lefts, .ref A_t_rights, .ref A_t_heights, .int t_count, .ref A_t_roots, .ref A_t_joints, .int t_sums])), (A_t_roots, .inl (cI, 9, .inl t_roots)), (A_t_joints, .inl (cI, 9, .inl t_joints))] s.heap.size = A at hD hX ⊢
  have hA : ∀ q : Nat, s.heap.size ≤ q → A q := fun q h => by rw [← hAe]; exact Or.inr h
  have hS : va_S A s.heap s.heap [] := va_S.rf
  have hl := lv_entry ([.ref A_e, .ref A_t, .int x2]) (n := 7) (Nat.le_of_ble_eq_true rfl)
  rw [hargs, lg_entry_eq, ← hargs]
  generalize (lg_sl ([.ref A_e, .ref A_t, .int x2]) ++ List.replicate (7 - (lg_sl ([.ref A_e, .ref A_t, .int x2])).length) Slot.unset).toArray = ls at hl ⊢
  have hl : lv_has ls 7 [(0, .ref A_e), (1, .ref A_t), (2, .int x2)] := hl
  refine lv_aload_n hx hb dX2_holds_0 rfl (lv_at hl 0 rfl) ?_
  refine lv_aload_n hx hb dX2_holds_1 rfl (lv_at hl 1 rfl) ?_
  refine lv_iload_n hx hb dX2_holds_2 rfl (lv_at hl 2 rfl) ?_
  refine lv_iconst (v := 1) hx hb dX2_holds_3 (by decide) ?_
  refine lv_isub hx hb dX2_holds_4 ?_
  obtain ⟨q1, hq1, hM⟩ := z_b hM
  obtain ⟨hPc, hDc, hFc⟩ := zcut (wc := [(A_t, .inr (9, [.ref A_t_kinds, .ref A_t_details, .ref A_t_lefts, .ref A_t_rights, .ref A_t_heights, .int t_count, .ref A_t_roots, .ref A_t_joints, .int t_sums])), (A_t_roots, .inl (cI, 9, .inl t_roots))]) hP hD hS hA [2, 3] rfl rfl (by decide)
  have hrun : va_Run p l e (headSpec wsX2_holds ({ frames := 1, cells := 0, slots := 0, locals := 21 } : Room)).room s m args below meth c s.heap [] 0 0 _ _ (F0 m 5 ls _) _ (zQi D cI cJ cC q1 [(A_t, .inr (9, [.ref A_t_kinds, .ref A_t_details, .ref A_t_lefts, .ref A_t_rights, .ref A_t_heights, .int t_count, .ref A_t_roots, .ref A_t_joints, .int t_sums])), (A_t_roots, .inl (cI, 9, .inl t_roots))] (va_A [(A_t, .inr (9, [.ref A_t_kinds, .ref A_t_details, .ref A_t_lefts, .ref A_t_rights, .ref A_t_heights, .int t_count, .ref A_t_roots, .ref A_t_joints, .int t_sums])), (A_t_roots, .inl (cI, 9, .inl t_roots))] s.heap.size) _) (va_A [(A_t, .inr (9, [.ref A_t_kinds, .ref A_t_details, .ref A_t_lefts, .ref A_t_rights, .ref A_t_heights, .int t_count, .ref A_t_roots, .ref A_t_joints, .int t_sums])), (A_t_roots, .inl (cI, 9, .inl t_roots))] s.heap.size) := va_runV (As := [.int (x2 - 1)]) (rest := [.ref A_e]) ⟨hx, hb, hml, hown, hts⟩ (ct_Tree_rootOf l D cI cJ cC adK adV A_t A_t_kinds A_t_details A_t_lefts A_t_rights A_t_heights A_t_roots A_t_joints s.heap.size t_count t_sums t_roots (x2 - 1) hq1) (cwV 1 hts gX2_holds_X9_rootOf rfl rfl rfl (by decide +kernel) ⟨Nat.le_of_ble_eq_true rfl, Nat.le_of_ble_eq_true rfl⟩) ⟨zblind, va_recv hK hP (ci := 9) (q0 := 2) rfl rfl, zpre hX hS hFc hPc hK hDc⟩ rfl rfl hl.1 rfl (lv_room (Nat.le_of_ble_eq_true rfl)) dX2_holds_5 ⟨Nat.zero_le _, Nat.zero_le _⟩
  refine zc_i (ws' := [(A_e, .inr (2, [.ref A_e_values, .ref A_e_differences, .int e_status])), (A_e_values, .inl (cJ, 160, .inr (.inl e_values))), (A_t, .inr (9, [.ref A_t_kinds, .ref A_t_details, .ref A_t_lefts, .ref A_t_rights, .ref A_t_heights, .int t_count, .ref A_t_roots, .ref A_t_joints, .int t_sums])), (A_t_roots, .inl (cI, 9, .inl t_roots)), (A_t_joints, .inl (cI, 9, .inl t_joints))]) hrun hP hD hS hFc [2, 3] rfl (by decide) rfl rfl (fun H2 locs hP hD hS => ?_)
  obtain ⟨q3, hq3, hM⟩ := z_b hM
  obtain ⟨hPc, hDc, hFc⟩ := zcut (wc := [(A_e, .inr (2, [.ref A_e_values, .ref A_e_differences, .int e_status])), (A_e_values, .inl (cJ, 160, .inr (.inl e_values)))]) hP hD hS hA [0, 1] rfl rfl (by decide)
  have hrun : va_Run p l e (headSpec wsX2_holds ({ frames := 1, cells := 0, slots := 0, locals := 21 } : Room)).room s m args below meth c H2 locs 0 0 _ _ (F0 m 8 ls _) _ (zQl D cI cJ cC q3 [(A_e, .inr (2, [.ref A_e_values, .ref A_e_differences, .int e_status])), (A_e_values, .inl (cJ, 160, .inr (.inl e_values)))] (va_A [(A_e, .inr (2, [.ref A_e_values, .ref A_e_differences, .int e_status])), (A_e_values, .inl (cJ, 160, .inr (.inl e_values)))] H2.size) _) (va_A [(A_e, .inr (2, [.ref A_e_values, .ref A_e_differences, .int e_status])), (A_e_values, .inl (cJ, 160, .inr (.inl e_values)))] H2.size) := va_runV (As := [.int q1]) (rest := []) ⟨hx, hb, hml, hown, hts⟩ (ct_Eval_valueAt l D cI cJ cC adK adV A_e A_e_values A_e_differences H2.size e_status e_values q1 hq3) (cwV 1 hts gX2_holds_X2_valueAt rfl rfl rfl (by decide +kernel) ⟨Nat.le_of_ble_eq_true rfl, Nat.le_of_ble_eq_true rfl⟩) ⟨zblind, va_recv hK hP (ci := 2) (q0 := 0) rfl rfl, zpre hX hS hFc hPc hK hDc⟩ rfl rfl hl.1 rfl (lv_room (Nat.le_of_ble_eq_true rfl)) dX2_holds_8 ⟨Nat.zero_le _, Nat.zero_le _⟩
  refine zc_l (ws' := [(A_e, .inr (2, [.ref A_e_values, .ref A_e_differences, .int e_status])), (A_e_values, .inl (cJ, 160, .inr (.inl e_values))), (A_t, .inr (9, [.ref A_t_kinds, .ref A_t_details, .ref A_t_lefts, .ref A_t_rights, .ref A_t_heights, .int t_count, .ref A_t_roots, .ref A_t_joints, .int t_sums])), (A_t_roots, .inl (cI, 9, .inl t_roots)), (A_t_joints, .inl (cI, 9, .inl t_joints))]) hrun hP hD hS hFc [0, 1] rfl (by decide) rfl rfl (fun H4 locs hP hD hS => ?_)
  refine lv_lstore_n (lv' := [(3, .long q3), (0, .ref A_e), (1, .ref A_t), (2, .int x2)]) hx hb dX2_holds_11 rfl hl (by decide) rfl (fun ls hl => ?_)
  refine lv_aload_n hx hb dX2_holds_12 rfl (lv_at hl 1 rfl) ?_
  refine lv_aload_n hx hb dX2_holds_13 rfl (lv_at hl 2 rfl) ?_
  refine lv_iload_n hx hb dX2_holds_14 rfl (lv_at hl 3 rfl) ?_
  obtain ⟨q5, hq5, hM⟩ := z_b hM
  obtain ⟨hPc, hDc, hFc⟩ := zcut (wc := [(A_t, .inr (9, [.ref A_t_kinds, .ref A_t_details, .ref A_t_lefts, .ref A_t_rights, .ref A_t_heights, .int t_count, .ref A_t_roots, .ref A_t_joints, .int t_sums])), (A_t_roots, .inl (cI, 9, .inl t_roots))]) hP hD hS hA [2, 3] rfl rfl (by decide)
  have hrun : va_Run p l e (headSpec wsX2_holds ({ frames := 1, cells := 0, slots := 0, locals := 21 } : Room)).room s m args below meth c H4 locs 0 0 _ _ (F0 m 15 ls _) _ (zQi D cI cJ cC q5 [(A_t, .inr (9, [.ref A_t_kinds, .ref A_t_details, .ref A_t_lefts, .ref A_t_rights, .ref A_t_heights, .int t_count, .ref A_t_roots, .ref A_t_joints, .int t_sums])), (A_t_roots, .inl (cI, 9, .inl t_roots))] (va_A [(A_t, .inr (9, [.ref A_t_kinds, .ref A_t_details, .ref A_t_lefts, .ref A_t_rights, .ref A_t_heights, .int t_count, .ref A_t_roots, .ref A_t_joints, .int t_sums])), (A_t_roots, .inl (cI, 9, .inl t_roots))] H4.size) _) (va_A [(A_t, .inr (9, [.ref A_t_kinds, .ref A_t_details, .ref A_t_lefts, .ref A_t_rights, .ref A_t_heights, .int t_count, .ref A_t_roots, .ref A_t_joints, .int t_sums])), (A_t_roots, .inl (cI, 9, .inl t_roots))] H4.size) := va_runV (As := [.int x2]) (rest := [.ref A_e]) ⟨hx, hb, hml, hown, hts⟩ (ct_Tree_rootOf l D cI cJ cC adK adV A_t A_t_kinds A_t_details A_t_lefts A_t_rights A_t_heights A_t_roots A_t_joints H4.size t_count t_sums t_roots x2 hq5) (cwV 1 hts gX2_holds_X9_rootOf rfl rfl rfl (by decide +kernel) ⟨Nat.le_of_ble_eq_true rfl, Nat.le_of_ble_eq_true rfl⟩) ⟨zblind, va_recv hK hP (ci := 9) (q0 := 2) rfl rfl, zpre hX hS hFc hPc hK hDc⟩ rfl rfl hl.1 rfl (lv_room (Nat.le_of_ble_eq_true rfl)) dX2_holds_15 ⟨Nat.zero_le _, Nat.zero_le _⟩
  refine zc_i (ws' := [(A_e, .inr (2, [.ref A_e_values, .ref A_e_differences, .int e_status])), (A_e_values, .inl (cJ, 160, .inr (.inl e_values))), (A_t, .inr (9, [.ref A_t_kinds, .ref A_t_details, .ref A_t_lefts, .ref A_t_rights, .ref A_t_heights, .int t_count, .ref A_t_roots, .ref A_t_joints, .int t_sums])), (A_t_roots, .inl (cI, 9, .inl t_roots)), (A_t_joints, .inl (cI, 9, .inl t_joints))]) hrun hP hD hS hFc [2, 3] rfl (by decide) rfl rfl (fun H6 locs hP hD hS => ?_)
  obtain ⟨q7, hq7, hM⟩ := z_b hM
  obtain ⟨hPc, hDc, hFc⟩ := zcut (wc := [(A_e, .inr (2, [.ref A_e_values, .ref A_e_differences, .int e_status])), (A_e_values, .inl (cJ, 160, .inr (.inl e_values)))]) hP hD hS hA [0, 1] rfl rfl (by decide)
  have hrun : va_Run p l e (headSpec wsX2_holds ({ frames := 1, cells := 0, slots := 0, locals := 21 } : Room)).room s m args below meth c H6 locs 0 0 _ _ (F0 m 18 ls _) _ (zQl D cI cJ cC q7 [(A_e, .inr (2, [.ref A_e_values, .ref A_e_differences, .int e_status])), (A_e_values, .inl (cJ, 160, .inr (.inl e_values)))] (va_A [(A_e, .inr (2, [.ref A_e_values, .ref A_e_differences, .int e_status])), (A_e_values, .inl (cJ, 160, .inr (.inl e_values)))] H6.size) _) (va_A [(A_e, .inr (2, [.ref A_e_values, .ref A_e_differences, .int e_status])), (A_e_values, .inl (cJ, 160, .inr (.inl e_values)))] H6.size) := va_runV (As := [.int q5]) (rest := []) ⟨hx, hb, hml, hown, hts⟩ (ct_Eval_valueAt l D cI cJ cC adK adV A_e A_e_values A_e_differences H6.size e_status e_values q5 hq7) (cwV 1 hts gX2_holds_X2_valueAt rfl rfl rfl (by decide +kernel) ⟨Nat.le_of_ble_eq_true rfl, Nat.le_of_ble_eq_true rfl⟩) ⟨zblind, va_recv hK hP (ci := 2) (q0 := 0) rfl rfl, zpre hX hS hFc hPc hK hDc⟩ rfl rfl hl.1 rfl (lv_room (Nat.le_of_ble_eq_true rfl)) dX2_holds_18 ⟨Nat.zero_le _, Nat.zero_le _⟩
  refine zc_l (ws' := [(A_e, .inr (2, [.ref A_e_values, .ref A_e_differences, .int e_status])), (A_e_values, .inl (cJ, 160, .inr (.inl e_values))), (A_t, .inr (9, [.ref A_t_kinds, .ref A_t_details, .ref A_t_lefts, .ref A_t_rights, .ref A_t_heights, .int t_count, .ref A_t_roots, .ref A_t_joints, .int t_sums])), (A_t_roots, .inl (cI, 9, .inl t_roots)), (A_t_joints, .inl (cI, 9, .inl t_joints))]) hrun hP hD hS hFc [0, 1] rfl (by decide) rfl rfl (fun H8 locs hP hD hS => ?_)
  refine lv_lstore (lv' := [(5, .long q7), (3, .long q3), (0, .ref A_e), (1, .ref A_t), (2, .int x2)]) hx hb dX2_holds_21 hl (by decide) rfl (fun ls hl => ?_)
  refine lv_aload_n hx hb dX2_holds_23 rfl (lv_at hl 3 rfl) ?_
  refine lv_iload_n hx hb dX2_holds_24 rfl (lv_at hl 4 rfl) ?_
  obtain ⟨q9, hq9, hM⟩ := z_b hM
  obtain ⟨hPc, hDc, hFc⟩ := zcut (wc := [(A_t, .inr (9, [.ref A_t_kinds, .ref A_t_details, .ref A_t_lefts, .ref A_t_rights, .ref A_t_heights, .int t_count, .ref A_t_roots, .ref A_t_joints, .int t_sums])), (A_t_joints, .inl (cI, 9, .inl t_joints))]) hP hD hS hA [2, 4] rfl rfl (by decide)
  have hrun : va_Run p l e (headSpec wsX2_holds ({ frames := 1, cells := 0, slots := 0, locals := 21 } : Room)).room s m args below meth c H8 locs 0 0 _ _ (F0 m 25 ls _) _ (zQi D cI cJ cC q9 [(A_t, .inr (9, [.ref A_t_kinds, .ref A_t_details, .ref A_t_lefts, .ref A_t_rights, .ref A_t_heights, .int t_count, .ref A_t_roots, .ref A_t_joints, .int t_sums])), (A_t_joints, .inl (cI, 9, .inl t_joints))] (va_A [(A_t, .inr (9, [.ref A_t_kinds, .ref A_t_details, .ref A_t_lefts, .ref A_t_rights, .ref A_t_heights, .int t_count, .ref A_t_roots, .ref A_t_joints, .int t_sums])), (A_t_joints, .inl (cI, 9, .inl t_joints))] H8.size) _) (va_A [(A_t, .inr (9, [.ref A_t_kinds, .ref A_t_details, .ref A_t_lefts, .ref A_t_rights, .ref A_t_heights, .int t_count, .ref A_t_roots, .ref A_t_joints, .int t_sums])), (A_t_joints, .inl (cI, 9, .inl t_joints))] H8.size) := va_runV (As := [.int x2]) (rest := []) ⟨hx, hb, hml, hown, hts⟩ (ct_Tree_jointOf l D cI cJ cC adK adV A_t A_t_kinds A_t_details A_t_lefts A_t_rights A_t_heights A_t_roots A_t_joints H8.size t_count t_sums t_joints x2 hq9) (cwV 1 hts gX2_holds_X9_jointOf rfl rfl rfl (by decide +kernel) ⟨Nat.le_of_ble_eq_true rfl, Nat.le_of_ble_eq_true rfl⟩) ⟨zblind, va_recv hK hP (ci := 9) (q0 := 2) rfl rfl, zpre hX hS hFc hPc hK hDc⟩ rfl rfl hl.1 rfl (lv_room (Nat.le_of_ble_eq_true rfl)) dX2_holds_25 ⟨Nat.zero_le _, Nat.zero_le _⟩
  refine zc_i (ws' := [(A_e, .inr (2, [.ref A_e_values, .ref A_e_differences, .int e_status])), (A_e_values, .inl (cJ, 160, .inr (.inl e_values))), (A_t, .inr (9, [.ref A_t_kinds, .ref A_t_details, .ref A_t_lefts, .ref A_t_rights, .ref A_t_heights, .int t_count, .ref A_t_roots, .ref A_t_joints, .int t_sums])), (A_t_roots, .inl (cI, 9, .inl t_roots)), (A_t_joints, .inl (cI, 9, .inl t_joints))]) hrun hP hD hS hFc [2, 4] rfl (by decide) rfl rfl (fun H10 locs hP hD hS => ?_)
  by_cases c11 : q9 = 14
  · have hM := z_t c11 hM
    refine lv_tableIn (tgt := 68) (off := 40) hx hb dX2_holds_28 (by rw [c11]; decide) (by rw [c11]; decide) (by rw [c11]; decide +kernel) (by decide) ?_
    refine lv_lload_n hx hb dX2_holds_68 rfl (lv_at hl 1 rfl) ?_
    refine lv_lload hx hb dX2_holds_69 (lv_at hl 0 rfl) ?_
    refine W.lcmp hx hb dX2_holds_71 ?_
    refine lv_if_ne (tgt := 79) hx hb dX2_holds_72 (by decide) (fun c12 => ?_) (fun c12 => ?_)
    · have hM := z_f c12 hM
      refine lv_iconst (v := 0) hx hb dX2_holds_79 (by decide) ?_
      have hM := Option.some.inj hM
      subst hM
      exact W.zret (v := 0) (ty := .boolean) hx hb hr rfl (fun t ht hW => ⟨⟨_, (), rfl, rfl, ⟨by rw [ht]; exact hP, va_K.moved hW.alike hK, hD⟩⟩, hS.F ht⟩) hS.2.2 dX2_holds_80
    · have hM := z_t c12 hM
      refine lv_iconst (v := 1) hx hb dX2_holds_75 (by decide) ?_
      refine lv_goto (tgt := 80) hx hb dX2_holds_76 (by decide) ?_
      have hM := Option.some.inj hM
      subst hM
      exact W.zret (v := 1) (ty := .boolean) hx hb hr rfl (fun t ht hW => ⟨⟨_, (), rfl, rfl, ⟨by rw [ht]; exact hP, va_K.moved hW.alike hK, hD⟩⟩, hS.F ht⟩) hS.2.2 dX2_holds_80
  · have hM := z_f c11 hM
    by_cases c13 : q9 = 15
    · have hM := z_t c13 hM
      refine lv_tableIn (tgt := 81) (off := 53) hx hb dX2_holds_28 (by rw [c13]; decide) (by rw [c13]; decide) (by rw [c13]; decide +kernel) (by decide) ?_
      refine lv_lload_n hx hb dX2_holds_81 rfl (lv_at hl 1 rfl) ?_
      refine lv_lload hx hb dX2_holds_82 (lv_at hl 0 rfl) ?_
      refine W.lcmp hx hb dX2_holds_84 ?_
      refine lv_if_ge (tgt := 92) hx hb dX2_holds_85 (by decide) (fun c14 => ?_) (fun c14 => ?_)
      · have hM := z_t c14 hM
        refine lv_iconst (v := 0) hx hb dX2_holds_92 (by decide) ?_
        have hM := Option.some.inj hM
        subst hM
        exact W.zret (v := 0) (ty := .boolean) hx hb hr rfl (fun t ht hW => ⟨⟨_, (), rfl, rfl, ⟨by rw [ht]; exact hP, va_K.moved hW.alike hK, hD⟩⟩, hS.F ht⟩) hS.2.2 dX2_holds_93
      · have hM := z_f c14 hM
        refine lv_iconst (v := 1) hx hb dX2_holds_88 (by decide) ?_
        refine lv_goto (tgt := 93) hx hb dX2_holds_89 (by decide) ?_
        have hM := Option.some.inj hM
        subst hM
        exact W.zret (v := 1) (ty := .boolean) hx hb hr rfl (fun t ht hW => ⟨⟨_, (), rfl, rfl, ⟨by rw [ht]; exact hP, va_K.moved hW.alike hK, hD⟩⟩, hS.F ht⟩) hS.2.2 dX2_holds_93
    · have hM := z_f c13 hM
      by_cases c15 : q9 = 16
      · have hM := z_t c15 hM
        refine lv_tableIn (tgt := 94) (off := 66) hx hb dX2_holds_28 (by rw [c15]; decide) (by rw [c15]; decide) (by rw [c15]; decide +kernel) (by decide) ?_
        refine lv_lload_n hx hb dX2_holds_94 rfl (lv_at hl 1 rfl) ?_
        refine lv_lload hx hb dX2_holds_95 (lv_at hl 0 rfl) ?_
        refine W.lcmp hx hb dX2_holds_97 ?_
        refine lv_if_le (tgt := 105) hx hb dX2_holds_98 (by decide) (fun c16 => ?_) (fun c16 => ?_)
        · have hM := z_t c16 hM
          refine lv_iconst (v := 0) hx hb dX2_holds_105 (by decide) ?_
          have hM := Option.some.inj hM
          subst hM
          exact W.zret (v := 0) (ty := .boolean) hx hb hr rfl (fun t ht hW => ⟨⟨_, (), rfl, rfl, ⟨by rw [ht]; exact hP, va_K.moved hW.alike hK, hD⟩⟩, hS.F ht⟩) hS.2.2 dX2_holds_106
        · have hM := z_f c16 hM
          refine lv_iconst (v := 1) hx hb dX2_holds_101 (by decide) ?_
          refine lv_goto (tgt := 106) hx hb dX2_holds_102 (by decide) ?_
          have hM := Option.some.inj hM
          subst hM
          exact W.zret (v := 1) (ty := .boolean) hx hb hr rfl (fun t ht hW => ⟨⟨_, (), rfl, rfl, ⟨by rw [ht]; exact hP, va_K.moved hW.alike hK, hD⟩⟩, hS.F ht⟩) hS.2.2 dX2_holds_106
      · have hM := z_f c15 hM
        by_cases c17 : q9 = 17
        · have hM := z_t c17 hM
          refine lv_tableIn (tgt := 107) (off := 79) hx hb dX2_holds_28 (by rw [c17]; decide) (by rw [c17]; decide) (by rw [c17]; decide +kernel) (by decide) ?_
          refine lv_lload_n hx hb dX2_holds_107 rfl (lv_at hl 1 rfl) ?_
          refine lv_lload hx hb dX2_holds_108 (lv_at hl 0 rfl) ?_
          refine W.lcmp hx hb dX2_holds_110 ?_
          refine lv_if_gt (tgt := 118) hx hb dX2_holds_111 (by decide) (fun c18 => ?_) (fun c18 => ?_)
          · have hM := z_t c18 hM
            refine lv_iconst (v := 0) hx hb dX2_holds_118 (by decide) ?_
            have hM := Option.some.inj hM
            subst hM
            exact W.zret (v := 0) (ty := .boolean) hx hb hr rfl (fun t ht hW => ⟨⟨_, (), rfl, rfl, ⟨by rw [ht]; exact hP, va_K.moved hW.alike hK, hD⟩⟩, hS.F ht⟩) hS.2.2 dX2_holds_119
          · have hM := z_f c18 hM
            refine lv_iconst (v := 1) hx hb dX2_holds_114 (by decide) ?_
            refine lv_goto (tgt := 119) hx hb dX2_holds_115 (by decide) ?_
            have hM := Option.some.inj hM
            subst hM
            exact W.zret (v := 1) (ty := .boolean) hx hb hr rfl (fun t ht hW => ⟨⟨_, (), rfl, rfl, ⟨by rw [ht]; exact hP, va_K.moved hW.alike hK, hD⟩⟩, hS.F ht⟩) hS.2.2 dX2_holds_119
        · have hM := z_f c17 hM
          by_cases c19 : q9 = 18
          · have hM := z_t c19 hM
            refine lv_tableIn (tgt := 120) (off := 92) hx hb dX2_holds_28 (by rw [c19]; decide) (by rw [c19]; decide) (by rw [c19]; decide +kernel) (by decide) ?_
            refine lv_lload_n hx hb dX2_holds_120 rfl (lv_at hl 1 rfl) ?_
            refine lv_lload hx hb dX2_holds_121 (lv_at hl 0 rfl) ?_
            refine W.lcmp hx hb dX2_holds_123 ?_
            refine lv_if_lt (tgt := 131) hx hb dX2_holds_124 (by decide) (fun c20 => ?_) (fun c20 => ?_)
            · have hM := z_t c20 hM
              refine lv_iconst (v := 0) hx hb dX2_holds_131 (by decide) ?_
              have hM := Option.some.inj hM
              subst hM
              exact W.zret (v := 0) (ty := .boolean) hx hb hr rfl (fun t ht hW => ⟨⟨_, (), rfl, rfl, ⟨by rw [ht]; exact hP, va_K.moved hW.alike hK, hD⟩⟩, hS.F ht⟩) hS.2.2 dX2_holds_132
            · have hM := z_f c20 hM
              refine lv_iconst (v := 1) hx hb dX2_holds_127 (by decide) ?_
              refine lv_goto (tgt := 132) hx hb dX2_holds_128 (by decide) ?_
              have hM := Option.some.inj hM
              subst hM
              exact W.zret (v := 1) (ty := .boolean) hx hb hr rfl (fun t ht hW => ⟨⟨_, (), rfl, rfl, ⟨by rw [ht]; exact hP, va_K.moved hW.alike hK, hD⟩⟩, hS.F ht⟩) hS.2.2 dX2_holds_132
          · have hM := z_f c19 hM
            by_cases c21 : q9 = 19
            · have hM := z_t c21 hM
              refine lv_tableIn (tgt := 133) (off := 105) hx hb dX2_holds_28 (by rw [c21]; decide) (by rw [c21]; decide) (by rw [c21]; decide +kernel) (by decide) ?_
              refine lv_lload_n hx hb dX2_holds_133 rfl (lv_at hl 1 rfl) ?_
              refine lv_lload hx hb dX2_holds_134 (lv_at hl 0 rfl) ?_
              refine W.lcmp hx hb dX2_holds_136 ?_
              refine lv_if_eq (tgt := 144) hx hb dX2_holds_137 (by decide) (fun c22 => ?_) (fun c22 => ?_)
              · have hM := z_t c22 hM
                refine lv_iconst (v := 0) hx hb dX2_holds_144 (by decide) ?_
                have hM := Option.some.inj hM
                subst hM
                exact W.zret (v := 0) (ty := .boolean) hx hb hr rfl (fun t ht hW => ⟨⟨_, (), rfl, rfl, ⟨by rw [ht]; exact hP, va_K.moved hW.alike hK, hD⟩⟩, hS.F ht⟩) hS.2.2 dX2_holds_145
              · have hM := z_f c22 hM
                refine lv_iconst (v := 1) hx hb dX2_holds_140 (by decide) ?_
                refine lv_goto (tgt := 145) hx hb dX2_holds_141 (by decide) ?_
                have hM := Option.some.inj hM
                subst hM
                exact W.zret (v := 1) (ty := .boolean) hx hb hr rfl (fun t ht hW => ⟨⟨_, (), rfl, rfl, ⟨by rw [ht]; exact hP, va_K.moved hW.alike hK, hD⟩⟩, hS.F ht⟩) hS.2.2 dX2_holds_145
            · have hM := z_f c21 hM
              refine lv_tableOut (tgt := 146) hx hb dX2_holds_28 (z_out (lo := 14) 6 (fun k hk => ?_)) (by decide) ?_
              · match k, hk with
                | 0, _ => exact c11
                | 1, _ => exact c13
                | 2, _ => exact c15
                | 3, _ => exact c17
                | 4, _ => exact c19
                | 5, _ => exact c21
                | k + 6, hk => omega
              · refine lv_lload hx hb dX2_holds_146 (lv_at hl 0 rfl) ?_
                refine lv_lload_n hx hb dX2_holds_148 rfl (lv_at hl 1 rfl) ?_
                refine W.lcmp hx hb dX2_holds_149 ?_
                refine lv_if_gt (tgt := 173) hx hb dX2_holds_150 (by decide) (fun c23 => ?_) (fun c23 => ?_)
                · have hM := z_t c23 hM
                  refine lv_iconst (v := 0) hx hb dX2_holds_173 (by decide) ?_
                  have hM := Option.some.inj hM
                  subst hM
                  exact W.zret (v := 0) (ty := .boolean) hx hb hr rfl (fun t ht hW => ⟨⟨_, (), rfl, rfl, ⟨by rw [ht]; exact hP, va_K.moved hW.alike hK, hD⟩⟩, hS.F ht⟩) hS.2.2 dX2_holds_174
                · have hM := z_f c23 hM
                  refine lv_lload_n hx hb dX2_holds_153 rfl (lv_at hl 1 rfl) ?_
                  refine lv_aload_n hx hb dX2_holds_154 rfl (lv_at hl 2 rfl) ?_
                  refine lv_aload_n hx hb dX2_holds_155 rfl (lv_at hl 3 rfl) ?_
                  refine lv_iload_n hx hb dX2_holds_156 rfl (lv_at hl 4 rfl) ?_
                  refine lv_iconst (v := 1) hx hb dX2_holds_157 (by decide) ?_
                  refine lv_iadd hx hb dX2_holds_158 ?_
                  obtain ⟨q24, hq24, hM⟩ := z_b hM
                  obtain ⟨hPc, hDc, hFc⟩ := zcut (wc := [(A_t, .inr (9, [.ref A_t_kinds, .ref A_t_details, .ref A_t_lefts, .ref A_t_rights, .ref A_t_heights, .int t_count, .ref A_t_roots, .ref A_t_joints, .int t_sums])), (A_t_roots, .inl (cI, 9, .inl t_roots))]) hP hD hS hA [2, 3] rfl rfl (by decide)
                  have hrun : va_Run p l e (headSpec wsX2_holds ({ frames := 1, cells := 0, slots := 0, locals := 21 } : Room)).room s m args below meth c H10 locs 0 0 _ _ (F0 m 159 ls _) _ (zQi D cI cJ cC q24 [(A_t, .inr (9, [.ref A_t_kinds, .ref A_t_details, .ref A_t_lefts, .ref A_t_rights, .ref A_t_heights, .int t_count, .ref A_t_roots, .ref A_t_joints, .int t_sums])), (A_t_roots, .inl (cI, 9, .inl t_roots))] (va_A [(A_t, .inr (9, [.ref A_t_kinds, .ref A_t_details, .ref A_t_lefts, .ref A_t_rights, .ref A_t_heights, .int t_count, .ref A_t_roots, .ref A_t_joints, .int t_sums])), (A_t_roots, .inl (cI, 9, .inl t_roots))] H10.size) _) (va_A [(A_t, .inr (9, [.ref A_t_kinds, .ref A_t_details, .ref A_t_lefts, .ref A_t_rights, .ref A_t_heights, .int t_count, .ref A_t_roots, .ref A_t_joints, .int t_sums])), (A_t_roots, .inl (cI, 9, .inl t_roots))] H10.size) := va_runV (As := [.int (x2 + 1)]) (rest := [.ref A_e, .long q3]) ⟨hx, hb, hml, hown, hts⟩ (ct_Tree_rootOf l D cI cJ cC adK adV A_t A_t_kinds A_t_details A_t_lefts A_t_rights A_t_heights A_t_roots A_t_joints H10.size t_count t_sums t_roots (x2 + 1) hq24) (cwV 1 hts gX2_holds_X9_rootOf rfl rfl rfl (by decide +kernel) ⟨Nat.le_of_ble_eq_true rfl, Nat.le_of_ble_eq_true rfl⟩) ⟨zblind, va_recv hK hP (ci := 9) (q0 := 2) rfl rfl, zpre hX hS hFc hPc hK hDc⟩ rfl rfl hl.1 rfl (lv_room (Nat.le_of_ble_eq_true rfl)) dX2_holds_159 ⟨Nat.zero_le _, Nat.zero_le _⟩
                  refine zc_i (ws' := [(A_e, .inr (2, [.ref A_e_values, .ref A_e_differences, .int e_status])), (A_e_values, .inl (cJ, 160, .inr (.inl e_values))), (A_t, .inr (9, [.ref A_t_kinds, .ref A_t_details, .ref A_t_lefts, .ref A_t_rights, .ref A_t_heights, .int t_count, .ref A_t_roots, .ref A_t_joints, .int t_sums])), (A_t_roots, .inl (cI, 9, .inl t_roots)), (A_t_joints, .inl (cI, 9, .inl t_joints))]) hrun hP hD hS hFc [2, 3] rfl (by decide) rfl rfl (fun H25 locs hP hD hS => ?_)
                  obtain ⟨q26, hq26, hM⟩ := z_b hM
                  obtain ⟨hPc, hDc, hFc⟩ := zcut (wc := [(A_e, .inr (2, [.ref A_e_values, .ref A_e_differences, .int e_status])), (A_e_values, .inl (cJ, 160, .inr (.inl e_values)))]) hP hD hS hA [0, 1] rfl rfl (by decide)
                  have hrun : va_Run p l e (headSpec wsX2_holds ({ frames := 1, cells := 0, slots := 0, locals := 21 } : Room)).room s m args below meth c H25 locs 0 0 _ _ (F0 m 162 ls _) _ (zQl D cI cJ cC q26 [(A_e, .inr (2, [.ref A_e_values, .ref A_e_differences, .int e_status])), (A_e_values, .inl (cJ, 160, .inr (.inl e_values)))] (va_A [(A_e, .inr (2, [.ref A_e_values, .ref A_e_differences, .int e_status])), (A_e_values, .inl (cJ, 160, .inr (.inl e_values)))] H25.size) _) (va_A [(A_e, .inr (2, [.ref A_e_values, .ref A_e_differences, .int e_status])), (A_e_values, .inl (cJ, 160, .inr (.inl e_values)))] H25.size) := va_runV (As := [.int q24]) (rest := [.long q3]) ⟨hx, hb, hml, hown, hts⟩ (ct_Eval_valueAt l D cI cJ cC adK adV A_e A_e_values A_e_differences H25.size e_status e_values q24 hq26) (cwV 1 hts gX2_holds_X2_valueAt rfl rfl rfl (by decide +kernel) ⟨Nat.le_of_ble_eq_true rfl, Nat.le_of_ble_eq_true rfl⟩) ⟨zblind, va_recv hK hP (ci := 2) (q0 := 0) rfl rfl, zpre hX hS hFc hPc hK hDc⟩ rfl rfl hl.1 rfl (lv_room (Nat.le_of_ble_eq_true rfl)) dX2_holds_162 ⟨Nat.zero_le _, Nat.zero_le _⟩
                  refine zc_l (ws' := [(A_e, .inr (2, [.ref A_e_values, .ref A_e_differences, .int e_status])), (A_e_values, .inl (cJ, 160, .inr (.inl e_values))), (A_t, .inr (9, [.ref A_t_kinds, .ref A_t_details, .ref A_t_lefts, .ref A_t_rights, .ref A_t_heights, .int t_count, .ref A_t_roots, .ref A_t_joints, .int t_sums])), (A_t_roots, .inl (cI, 9, .inl t_roots)), (A_t_joints, .inl (cI, 9, .inl t_joints))]) hrun hP hD hS hFc [0, 1] rfl (by decide) rfl rfl (fun H27 locs hP hD hS => ?_)
                  refine W.lcmp hx hb dX2_holds_165 ?_
                  refine lv_if_gt (tgt := 173) hx hb dX2_holds_166 (by decide) (fun c28 => ?_) (fun c28 => ?_)
                  · have hM := z_t c28 hM
                    refine lv_iconst (v := 0) hx hb dX2_holds_173 (by decide) ?_
                    have hM := Option.some.inj hM
                    subst hM
                    exact W.zret (v := 0) (ty := .boolean) hx hb hr rfl (fun t ht hW => ⟨⟨_, (), rfl, rfl, ⟨by rw [ht]; exact hP, va_K.moved hW.alike hK, hD⟩⟩, hS.F ht⟩) hS.2.2 dX2_holds_174
                  · have hM := z_f c28 hM
                    refine lv_iconst (v := 1) hx hb dX2_holds_169 (by decide) ?_
                    refine lv_goto (tgt := 174) hx hb dX2_holds_170 (by decide) ?_
                    have hM := Option.some.inj hM
                    subst hM
                    exact W.zret (v := 1) (ty := .boolean) hx hb hr rfl (fun t ht hW => ⟨⟨_, (), rfl, rfl, ⟨by rw [ht]; exact hP, va_K.moved hW.alike hK, hD⟩⟩, hS.F ht⟩) hS.2.2 dX2_holds_174
def fn_Eval_outcomeOf_b58 (e_values : Nat → Int64) (t_sums : Int32) (t_roots : Nat → Int32) (t_joints : Nat → Int32) (k_21_0 : Int32 → Int32 → Option (Int64)) (x3 : Int32) (k0 : Int32) : Option (Int64) := k_21_0 k0 (x3 + 1)
def fn_Eval_outcomeOf_b57 (e_values : Nat → Int64) (t_sums : Int32) (t_roots : Nat → Int32) (t_joints : Nat → Int32) (k_21_0 : Int32 → Int32 → Option (Int64)) (x3 : Int32) : Option (Int64) := fn_Eval_outcomeOf_b58 e_values t_sums t_roots t_joints k_21_0 x3 0
def fn_Eval_outcomeOf_b53 (e_values : Nat → Int64) (t_sums : Int32) (t_roots : Nat → Int32) (t_joints : Nat → Int32) (k_21_0 : Int32 → Int32 → Option (Int64)) (x3 : Int32) : Option (Int64) := fn_Eval_outcomeOf_b58 e_values t_sums t_roots t_joints k_21_0 x3 1
def fn_Eval_outcomeOf_L21 (e_values : Nat → Int64) (t_sums : Int32) (t_roots : Nat → Int32) (t_joints : Nat → Int32) : Nat → Int32 → Int32 → Option (Int64)
  | 0 => fun _ _ => none
  | n + 1 => fun x2 x3 => (if (fn_Tree_sumCount t_sums) ≤ x3 then (if x2 = 0 then some 0 else some 1) else (if x2 = 0 then fn_Eval_outcomeOf_b57 e_values t_sums t_roots t_joints (fn_Eval_outcomeOf_L21 e_values t_sums t_roots t_joints n) x3 else ((fn_Tree_jointOf t_sums t_joints x3).bind fun q9 => (if (fn_Parser_startsLink q9) = 0 then fn_Eval_outcomeOf_b53 e_values t_sums t_roots t_joints (fn_Eval_outcomeOf_L21 e_values t_sums t_roots t_joints n) x3 else ((fn_Eval_holds e_values t_sums t_roots t_joints x3).bind fun q14 => (if q14 = 0 then fn_Eval_outcomeOf_b57 e_values t_sums t_roots t_joints (fn_Eval_outcomeOf_L21 e_values t_sums t_roots t_joints n) x3 else fn_Eval_outcomeOf_b53 e_values t_sums t_roots t_joints (fn_Eval_outcomeOf_L21 e_values t_sums t_roots t_joints n) x3))))))
def fn_Eval_outcomeOf (e_values : Nat → Int64) (t_sums : Int32) (t_roots : Nat → Int32) (t_joints : Nat → Int32) : Option (Int64) := ((fn_Tree_linkCount t_sums t_joints).bind fun q1 => (if q1 = 0 then ((fn_Tree_rootOf t_sums t_roots 0).bind fun q17 => ((fn_Eval_valueAt e_values q17).bind fun q19 => some q19)) else fn_Eval_outcomeOf_L21 e_values t_sums t_roots t_joints zFU 1 1))
set_option maxHeartbeats 40000000 in
set_option maxRecDepth 100000 in
theorem ct_Eval_outcomeOf (l : Launch) (D : va_G) (cI cJ cC : ClassId) (adK adV : Nat → Nat) (A_e A_e_values A_e_differences A_t A_t_kinds A_t_details A_t_lefts A_t_rights A_t_heights A_t_roots A_t_joints : Nat) (sz : Nat) (e_status : Int32) (e_values : Nat → Int64) (t_count : Int32) (t_sums : Int32) (t_roots : Nat → Int32) (t_joints : Nat → Int32) {rs : Int64} (hM : fn_Eval_outcomeOf e_values t_sums t_roots t_joints = some rs) : Met l yX2_outcomeOf wsX2_outcomeOf ({ frames := 2, cells := 0, slots := 0, locals := 47 } : Room) (zP D cI cJ cC adK adV [.ref A_e, .ref A_t] sz [(A_e, .inr (2, [.ref A_e_values, .ref A_e_differences, .int e_status])), (A_e_values, .inl (cJ, 160, .inr (.inl e_values))), (A_t, .inr (9, [.ref A_t_kinds, .ref A_t_details, .ref A_t_lefts, .ref A_t_rights, .ref A_t_heights, .int t_count, .ref A_t_roots, .ref A_t_joints, .int t_sums])), (A_t_roots, .inl (cI, 9, .inl t_roots)), (A_t_joints, .inl (cI, 9, .inl t_joints))]) (zQl D cI cJ cC rs [(A_e, .inr (2, [.ref A_e_values, .ref A_e_differences, .int e_status])), (A_e_values, .inl (cJ, 160, .inr (.inl e_values))), (A_t, .inr (9, [.ref A_t_kinds, .ref A_t_details, .ref A_t_lefts, .ref A_t_rights, .ref A_t_heights, .int t_count, .ref A_t_roots, .ref A_t_joints, .int t_sums])), (A_t_roots, .inl (cI, 9, .inl t_roots)), (A_t_joints, .inl (cI, 9, .inl t_joints))] (va_A [(A_e, .inr (2, [.ref A_e_values, .ref A_e_differences, .int e_status])), (A_e_values, .inl (cJ, 160, .inr (.inl e_values))), (A_t, .inr (9, [.ref A_t_kinds, .ref A_t_details, .ref A_t_lefts, .ref A_t_rights, .ref A_t_heights, .int t_count, .ref A_t_roots, .ref A_t_joints, .int t_sums])), (A_t_roots, .inl (cI, 9, .inl t_roots)), (A_t_joints, .inl (cI, 9, .inl t_joints))] sz)) 0 0 (va_A [(A_e, .inr (2, [.ref A_e_values, .ref A_e_differences, .int e_status])), (A_e_values, .inl (cJ, 160, .inr (.inl e_values))), (A_t, .inr (9, [.ref A_t_kinds, .ref A_t_details, .ref A_t_lefts, .ref A_t_rights, .ref A_t_heights, .int t_count, .ref A_t_roots, .ref A_t_joints, .int t_sums])), (A_t_roots, .inl (cI, 9, .inl t_roots)), (A_t_joints, .inl (cI, 9, .inl t_joints))] sz) := by
  refine Met.ofW (cc := cX2_outcomeOf) (maxL := 4) (ret := (some .long)) (by decide) rfl ?_
  intro p e s m args below meth c s₁ B hml hv0
  obtain ⟨hargs, hsz, hP, hK, hD0, hX⟩ := hv0
  have hx := B.exec
  have hb := B.bytes
  have hr := B.returns
  have hts := atoms_spec (ws := wsX2_outcomeOf) B.pre
  have hown : s.vm.findClass RX2 = some m.cls := findClass_of_methodNamed B.named
  have hlocks := B.notSynchronized
  subst hsz
  have hD := hD0.self (sz := s.heap.size)
  generalize hAe : va_A [(A_e, .inr (2, [.ref A_e_values, .ref A_e_differences, .int e_status])), (A_e_values, .inl (cJ, 160, .inr (.inl e_values))), (A_t, .inr (9, [.ref A_t_kinds, .ref A_t_details, .ref A_t_lefts, .ref A_t_rights, .ref A_t_heights, .int t_count, .ref A_t_roots, .ref A_t_joints, .int t_sums])), (A_t_roots, .inl (cI, 9, .inl t_roots)), (A_t_joints, .inl (cI, 9, .inl t_joints))] s.heap.size = A at hD hX ⊢
  have hA : ∀ q : Nat, s.heap.size ≤ q → A q := fun q h => by rw [← hAe]; exact Or.inr h
  have hS : va_S A s.heap s.heap [] := va_S.rf
  have hl := lv_entry ([.ref A_e, .ref A_t]) (n := 4) (Nat.le_of_ble_eq_true rfl)
  rw [hargs, lg_entry_eq, ← hargs]
  generalize (lg_sl ([.ref A_e, .ref A_t]) ++ List.replicate (4 - (lg_sl ([.ref A_e, .ref A_t])).length) Slot.unset).toArray = ls at hl ⊢
  have hl : lv_has ls 4 [(0, .ref A_e), (1, .ref A_t)] := hl
  have hw0 := hts (.initialized RX11) (by decide +kernel)
  have hw1 := hts (.static yX11_startsLink) (by decide +kernel)
  have B_58_2 : ∀ (k_21_0 : Int32 → Int32 → Option (Int64)) (hk_21_0 : ∀ (x2 : Int32) (x3 : Int32) (H : Heap) (locs : List Loc) (ls : Array Slot), va_P D vwCl [(A_e, .inr (2, [.ref A_e_values, .ref A_e_differences, .int e_status])), (A_e_values, .inl (cJ, 160, .inr (.inl e_values))), (A_t, .inr (9, [.ref A_t_kinds, .ref A_t_details, .ref A_t_lefts, .ref A_t_rights, .ref A_t_heights, .int t_count, .ref A_t_roots, .ref A_t_joints, .int t_sums])), (A_t_roots, .inl (cI, 9, .inl t_roots)), (A_t_joints, .inl (cI, 9, .inl t_joints))] H → va_D A [(A_e, .inr (2, [.ref A_e_values, .ref A_e_differences, .int e_status])), (A_e_values, .inl (cJ, 160, .inr (.inl e_values))), (A_t, .inr (9, [.ref A_t_kinds, .ref A_t_details, .ref A_t_lefts, .ref A_t_rights, .ref A_t_heights, .int t_count, .ref A_t_roots, .ref A_t_joints, .int t_sums])), (A_t_roots, .inl (cI, 9, .inl t_roots)), (A_t_joints, .inl (cI, 9, .inl t_joints))] → va_S A s.heap H locs → lv_has ls 4 [(0, .ref A_e), (1, .ref A_t), (2, .int x2), (3, .int x3)] → k_21_0 x2 x3 = some rs → W p l e (headSpec wsX2_outcomeOf ({ frames := 2, cells := 0, slots := 0, locals := 47 } : Room)).room s m args below meth c H locs 0 0 (MQ below (zQl D cI cJ cC rs [(A_e, .inr (2, [.ref A_e_values, .ref A_e_differences, .int e_status])), (A_e_values, .inl (cJ, 160, .inr (.inl e_values))), (A_t, .inr (9, [.ref A_t_kinds, .ref A_t_details, .ref A_t_lefts, .ref A_t_rights, .ref A_t_heights, .int t_count, .ref A_t_roots, .ref A_t_joints, .int t_sums])), (A_t_roots, .inl (cI, 9, .inl t_roots)), (A_t_joints, .inl (cI, 9, .inl t_joints))] A) args s 0 0 A) (F0 m 21 ls [])) (x3 : Int32) (k0 : Int32) (H : Heap) (locs : List Loc) (ls : Array Slot), va_P D vwCl [(A_e, .inr (2, [.ref A_e_values, .ref A_e_differences, .int e_status])), (A_e_values, .inl (cJ, 160, .inr (.inl e_values))), (A_t, .inr (9, [.ref A_t_kinds, .ref A_t_details, .ref A_t_lefts, .ref A_t_rights, .ref A_t_heights, .int t_count, .ref A_t_roots, .ref A_t_joints, .int t_sums])), (A_t_roots, .inl (cI, 9, .inl t_roots)), (A_t_joints, .inl (cI, 9, .inl t_joints))] H → va_D A [(A_e, .inr (2, [.ref A_e_values, .ref A_e_differences, .int e_status])), (A_e_values, .inl (cJ, 160, .inr (.inl e_values))), (A_t, .inr (9, [.ref A_t_kinds, .ref A_t_details, .ref A_t_lefts, .ref A_t_rights, .ref A_t_heights, .int t_count, .ref A_t_roots, .ref A_t_joints, .int t_sums])), (A_t_roots, .inl (cI, 9, .inl t_roots)), (A_t_joints, .inl (cI, 9, .inl t_joints))] → va_S A s.heap H locs → lv_has ls 4 [(0, .ref A_e), (1, .ref A_t), (3, .int x3)] → fn_Eval_outcomeOf_b58 e_values t_sums t_roots t_joints k_21_0 x3 k0 = some rs → W p l e (headSpec wsX2_outcomeOf ({ frames := 2, cells := 0, slots := 0, locals := 47 } : Room)).room s m args below meth c H locs 0 0 (MQ below (zQl D cI cJ cC rs [(A_e, .inr (2, [.ref A_e_values, .ref A_e_differences, .int e_status])), (A_e_values, .inl (cJ, 160, .inr (.inl e_values))), (A_t, .inr (9, [.ref A_t_kinds, .ref A_t_details, .ref A_t_lefts, .ref A_t_rights, .ref A_t_heights, .int t_count, .ref A_t_roots, .ref A_t_joints, .int t_sums])), (A_t_roots, .inl (cI, 9, .inl t_roots)), (A_t_joints, .inl (cI, 9, .inl t_joints))] A) args s 0 0 A) (F0 m 58 ls [.int k0]) := by
    intro k_21_0 hk_21_0 x3 k0 H locs ls hP hD hS hl hM
    refine lv_istore_n (lv' := [(2, .int k0), (0, .ref A_e), (1, .ref A_t), (3, .int x3)]) hx hb dX2_outcomeOf_58 rfl hl (by decide) rfl (fun ls hl => ?_)
    refine lv_iinc (v := (x3 + 1)) (lv' := [(3, .int (x3 + 1)), (2, .int k0), (0, .ref A_e), (1, .ref A_t)]) hx hb dX2_outcomeOf_59 hl (k := 3) rfl rfl (by decide) rfl (fun ls hl => ?_)
    refine lv_goto (tgt := 21) hx hb dX2_outcomeOf_62 (by decide) ?_
    exact hk_21_0 k0 (x3 + 1) _ _ ls hP hD hS (lv_sub hl [2, 3, 1, 0] rfl) hM
  have B_57_1 : ∀ (k_21_0 : Int32 → Int32 → Option (Int64)) (hk_21_0 : ∀ (x2 : Int32) (x3 : Int32) (H : Heap) (locs : List Loc) (ls : Array Slot), va_P D vwCl [(A_e, .inr (2, [.ref A_e_values, .ref A_e_differences, .int e_status])), (A_e_values, .inl (cJ, 160, .inr (.inl e_values))), (A_t, .inr (9, [.ref A_t_kinds, .ref A_t_details, .ref A_t_lefts, .ref A_t_rights, .ref A_t_heights, .int t_count, .ref A_t_roots, .ref A_t_joints, .int t_sums])), (A_t_roots, .inl (cI, 9, .inl t_roots)), (A_t_joints, .inl (cI, 9, .inl t_joints))] H → va_D A [(A_e, .inr (2, [.ref A_e_values, .ref A_e_differences, .int e_status])), (A_e_values, .inl (cJ, 160, .inr (.inl e_values))), (A_t, .inr (9, [.ref A_t_kinds, .ref A_t_details, .ref A_t_lefts, .ref A_t_rights, .ref A_t_heights, .int t_count, .ref A_t_roots, .ref A_t_joints, .int t_sums])), (A_t_roots, .inl (cI, 9, .inl t_roots)), (A_t_joints, .inl (cI, 9, .inl t_joints))] → va_S A s.heap H locs → lv_has ls 4 [(0, .ref A_e), (1, .ref A_t), (2, .int x2), (3, .int x3)] → k_21_0 x2 x3 = some rs → W p l e (headSpec wsX2_outcomeOf ({ frames := 2, cells := 0, slots := 0, locals := 47 } : Room)).room s m args below meth c H locs 0 0 (MQ below (zQl D cI cJ cC rs [(A_e, .inr (2, [.ref A_e_values, .ref A_e_differences, .int e_status])), (A_e_values, .inl (cJ, 160, .inr (.inl e_values))), (A_t, .inr (9, [.ref A_t_kinds, .ref A_t_details, .ref A_t_lefts, .ref A_t_rights, .ref A_t_heights, .int t_count, .ref A_t_roots, .ref A_t_joints, .int t_sums])), (A_t_roots, .inl (cI, 9, .inl t_roots)), (A_t_joints, .inl (cI, 9, .inl t_joints))] A) args s 0 0 A) (F0 m 21 ls [])) (x3 : Int32) (H : Heap) (locs : List Loc) (ls : Array Slot), va_P D vwCl [(A_e, .inr (2, [.ref A_e_values, .ref A_e_differences, .int e_status])), (A_e_values, .inl (cJ, 160, .inr (.inl e_values))), (A_t, .inr (9, [.ref A_t_kinds, .ref A_t_details, .ref A_t_lefts, .ref A_t_rights, .ref A_t_heights, .int t_count, .ref A_t_roots, .ref A_t_joints, .int t_sums])), (A_t_roots, .inl (cI, 9, .inl t_roots)), (A_t_joints, .inl (cI, 9, .inl t_joints))] H → va_D A [(A_e, .inr (2, [.ref A_e_values, .ref A_e_differences, .int e_status])), (A_e_values, .inl (cJ, 160, .inr (.inl e_values))), (A_t, .inr (9, [.ref A_t_kinds, .ref A_t_details, .ref A_t_lefts, .ref A_t_rights, .ref A_t_heights, .int t_count, .ref A_t_roots, .ref A_t_joints, .int t_sums])), (A_t_roots, .inl (cI, 9, .inl t_roots)), (A_t_joints, .inl (cI, 9, .inl t_joints))] → va_S A s.heap H locs → lv_has ls 4 [(0, .ref A_e), (1, .ref A_t), (3, .int x3)] → fn_Eval_outcomeOf_b57 e_values t_sums t_roots t_joints k_21_0 x3 = some rs → W p l e (headSpec wsX2_outcomeOf ({ frames := 2, cells := 0, slots := 0, locals := 47 } : Room)).room s m args below meth c H locs 0 0 (MQ below (zQl D cI cJ cC rs [(A_e, .inr (2, [.ref A_e_values, .ref A_e_differences, .int e_status])), (A_e_values, .inl (cJ, 160, .inr (.inl e_values))), (A_t, .inr (9, [.ref A_t_kinds, .ref A_t_details, .ref A_t_lefts, .ref A_t_rights, .ref A_t_heights, .int t_count, .ref A_t_roots, .ref A_t_joints, .int t_sums])), (A_t_roots, .inl (cI, 9, .inl t_roots)), (A_t_joints, .inl (cI, 9, .inl t_joints))] A) args s 0 0 A) (F0 m 57 ls []) := by
    intro k_21_0 hk_21_0 x3 H locs ls hP hD hS hl hM
    refine lv_iconst (v := 0) hx hb dX2_outcomeOf_57 (by decide) ?_
    exact B_58_2 k_21_0 hk_21_0 x3 0 _ _ ls hP hD hS (lv_sub hl [0, 1, 2] rfl) hM
  have B_53_3 : ∀ (k_21_0 : Int32 → Int32 → Option (Int64)) (hk_21_0 : ∀ (x2 : Int32) (x3 : Int32) (H : Heap) (locs : List Loc) (ls : Array Slot), va_P D vwCl [(A_e, .inr (2, [.ref A_e_values, .ref A_e_differences, .int e_status])), (A_e_values, .inl (cJ, 160, .inr (.inl e_values))), (A_t, .inr (9, [.ref A_t_kinds, .ref A_t_details, .ref A_t_lefts, .ref A_t_rights, .ref A_t_heights, .int t_count, .ref A_t_roots, .ref A_t_joints, .int t_sums])), (A_t_roots, .inl (cI, 9, .inl t_roots)), (A_t_joints, .inl (cI, 9, .inl t_joints))] H → va_D A [(A_e, .inr (2, [.ref A_e_values, .ref A_e_differences, .int e_status])), (A_e_values, .inl (cJ, 160, .inr (.inl e_values))), (A_t, .inr (9, [.ref A_t_kinds, .ref A_t_details, .ref A_t_lefts, .ref A_t_rights, .ref A_t_heights, .int t_count, .ref A_t_roots, .ref A_t_joints, .int t_sums])), (A_t_roots, .inl (cI, 9, .inl t_roots)), (A_t_joints, .inl (cI, 9, .inl t_joints))] → va_S A s.heap H locs → lv_has ls 4 [(0, .ref A_e), (1, .ref A_t), (2, .int x2), (3, .int x3)] → k_21_0 x2 x3 = some rs → W p l e (headSpec wsX2_outcomeOf ({ frames := 2, cells := 0, slots := 0, locals := 47 } : Room)).room s m args below meth c H locs 0 0 (MQ below (zQl D cI cJ cC rs [(A_e, .inr (2, [.ref A_e_values, .ref A_e_differences, .int e_status])), (A_e_values, .inl (cJ, 160, .inr (.inl e_values))), (A_t, .inr (9, [.ref A_t_kinds, .ref A_t_details, .ref A_t_lefts, .ref A_t_rights, .ref A_t_heights, .int t_count, .ref A_t_roots, .ref A_t_joints, .int t_sums])), (A_t_roots, .inl (cI, 9, .inl t_roots)), (A_t_joints, .inl (cI, 9, .inl t_joints))] A) args s 0 0 A) (F0 m 21 ls [])) (x3 : Int32) (H : Heap) (locs : List Loc) (ls : Array Slot), va_P D vwCl [(A_e, .inr (2, [.ref A_e_values, .ref A_e_differences, .int e_status])), (A_e_values, .inl (cJ, 160, .inr (.inl e_values))), (A_t, .inr (9, [.ref A_t_kinds, .ref A_t_details, .ref A_t_lefts, .ref A_t_rights, .ref A_t_heights, .int t_count, .ref A_t_roots, .ref A_t_joints, .int t_sums])), (A_t_roots, .inl (cI, 9, .inl t_roots)), (A_t_joints, .inl (cI, 9, .inl t_joints))] H → va_D A [(A_e, .inr (2, [.ref A_e_values, .ref A_e_differences, .int e_status])), (A_e_values, .inl (cJ, 160, .inr (.inl e_values))), (A_t, .inr (9, [.ref A_t_kinds, .ref A_t_details, .ref A_t_lefts, .ref A_t_rights, .ref A_t_heights, .int t_count, .ref A_t_roots, .ref A_t_joints, .int t_sums])), (A_t_roots, .inl (cI, 9, .inl t_roots)), (A_t_joints, .inl (cI, 9, .inl t_joints))] → va_S A s.heap H locs → lv_has ls 4 [(0, .ref A_e), (1, .ref A_t), (3, .int x3)] → fn_Eval_outcomeOf_b53 e_values t_sums t_roots t_joints k_21_0 x3 = some rs → W p l e (headSpec wsX2_outcomeOf ({ frames := 2, cells := 0, slots := 0, locals := 47 } : Room)).room s m args below meth c H locs 0 0 (MQ below (zQl D cI cJ cC rs [(A_e, .inr (2, [.ref A_e_values, .ref A_e_differences, .int e_status])), (A_e_values, .inl (cJ, 160, .inr (.inl e_values))), (A_t, .inr (9, [.ref A_t_kinds, .ref A_t_details, .ref A_t_lefts, .ref A_t_rights, .ref A_t_heights, .int t_count, .ref A_t_roots, .ref A_t_joints, .int t_sums])), (A_t_roots, .inl (cI, 9, .inl t_roots)), (A_t_joints, .inl (cI, 9, .inl t_joints))] A) args s 0 0 A) (F0 m 53 ls []) := by
    intro k_21_0 hk_21_0 x3 H locs ls hP hD hS hl hM
    refine lv_iconst (v := 1) hx hb dX2_outcomeOf_53 (by decide) ?_
    refine lv_goto (tgt := 58) hx hb dX2_outcomeOf_54 (by decide) ?_
    exact B_58_2 k_21_0 hk_21_0 x3 1 _ _ ls hP hD hS (lv_sub hl [0, 1, 2] rfl) hM
  have L_21_0 : ∀ (n : Nat) (x2 : Int32) (x3 : Int32) (H : Heap) (locs : List Loc) (ls : Array Slot), va_P D vwCl [(A_e, .inr (2, [.ref A_e_values, .ref A_e_differences, .int e_status])), (A_e_values, .inl (cJ, 160, .inr (.inl e_values))), (A_t, .inr (9, [.ref A_t_kinds, .ref A_t_details, .ref A_t_lefts, .ref A_t_rights, .ref A_t_heights, .int t_count, .ref A_t_roots, .ref A_t_joints, .int t_sums])), (A_t_roots, .inl (cI, 9, .inl t_roots)), (A_t_joints, .inl (cI, 9, .inl t_joints))] H → va_D A [(A_e, .inr (2, [.ref A_e_values, .ref A_e_differences, .int e_status])), (A_e_values, .inl (cJ, 160, .inr (.inl e_values))), (A_t, .inr (9, [.ref A_t_kinds, .ref A_t_details, .ref A_t_lefts, .ref A_t_rights, .ref A_t_heights, .int t_count, .ref A_t_roots, .ref A_t_joints, .int t_sums])), (A_t_roots, .inl (cI, 9, .inl t_roots)), (A_t_joints, .inl (cI, 9, .inl t_joints))] → va_S A s.heap H locs → lv_has ls 4 [(0, .ref A_e), (1, .ref A_t), (2, .int x2), (3, .int x3)] → fn_Eval_outcomeOf_L21 e_values t_sums t_roots t_joints n x2 x3 = some rs → W p l e (headSpec wsX2_outcomeOf ({ frames := 2, cells := 0, slots := 0, locals := 47 } : Room)).room s m args below meth c H locs 0 0 (MQ below (zQl D cI cJ cC rs [(A_e, .inr (2, [.ref A_e_values, .ref A_e_differences, .int e_status])), (A_e_values, .inl (cJ, 160, .inr (.inl e_values))), (A_t, .inr (9, [.ref A_t_kinds, .ref A_t_details, .ref A_t_lefts, .ref A_t_rights, .ref A_t_heights, .int t_count, .ref A_t_roots, .ref A_t_joints, .int t_sums])), (A_t_roots, .inl (cI, 9, .inl t_roots)), (A_t_joints, .inl (cI, 9, .inl t_joints))] A) args s 0 0 A) (F0 m 21 ls []) := by
    intro  n
    induction n with
    | zero => intro x2 x3 H locs ls _ _ _ _ hM; exact z_n hM
    | succ n ih =>
      intro x2 x3 H locs ls hP hD hS hl hM
      refine lv_iload_n hx hb dX2_outcomeOf_21 rfl (lv_at hl 3 rfl) ?_
      refine lv_aload_n hx hb dX2_outcomeOf_22 rfl (lv_at hl 1 rfl) ?_
      obtain ⟨hPc, hDc, hFc⟩ := zcut (wc := [(A_t, .inr (9, [.ref A_t_kinds, .ref A_t_details, .ref A_t_lefts, .ref A_t_rights, .ref A_t_heights, .int t_count, .ref A_t_roots, .ref A_t_joints, .int t_sums]))]) hP hD hS hA [2] rfl rfl (by decide)
      have hrun : va_Run p l e (headSpec wsX2_outcomeOf ({ frames := 2, cells := 0, slots := 0, locals := 47 } : Room)).room s m args below meth c H locs 0 0 _ _ (F0 m 23 ls _) _ (zQi D cI cJ cC (fn_Tree_sumCount t_sums) [(A_t, .inr (9, [.ref A_t_kinds, .ref A_t_details, .ref A_t_lefts, .ref A_t_rights, .ref A_t_heights, .int t_count, .ref A_t_roots, .ref A_t_joints, .int t_sums]))] (va_A [(A_t, .inr (9, [.ref A_t_kinds, .ref A_t_details, .ref A_t_lefts, .ref A_t_rights, .ref A_t_heights, .int t_count, .ref A_t_roots, .ref A_t_joints, .int t_sums]))] H.size) _) (va_A [(A_t, .inr (9, [.ref A_t_kinds, .ref A_t_details, .ref A_t_lefts, .ref A_t_rights, .ref A_t_heights, .int t_count, .ref A_t_roots, .ref A_t_joints, .int t_sums]))] H.size) := va_runV (As := []) (rest := [.int x3]) ⟨hx, hb, hml, hown, hts⟩ (ct_Tree_sumCount l D cI cJ cC adK adV A_t A_t_kinds A_t_details A_t_lefts A_t_rights A_t_heights A_t_roots A_t_joints H.size t_count t_sums) (cwV 0 hts gX2_outcomeOf_X9_sumCount rfl rfl rfl (by decide +kernel) ⟨Nat.le_of_ble_eq_true rfl, Nat.le_of_ble_eq_true rfl⟩) ⟨zblind, va_recv hK hP (ci := 9) (q0 := 2) rfl rfl, zpre hX hS hFc hPc hK hDc⟩ rfl rfl hl.1 rfl (lv_room (Nat.le_of_ble_eq_true rfl)) dX2_outcomeOf_23 ⟨Nat.zero_le _, Nat.zero_le _⟩
      refine zc_i (ws' := [(A_e, .inr (2, [.ref A_e_values, .ref A_e_differences, .int e_status])), (A_e_values, .inl (cJ, 160, .inr (.inl e_values))), (A_t, .inr (9, [.ref A_t_kinds, .ref A_t_details, .ref A_t_lefts, .ref A_t_rights, .ref A_t_heights, .int t_count, .ref A_t_roots, .ref A_t_joints, .int t_sums])), (A_t_roots, .inl (cI, 9, .inl t_roots)), (A_t_joints, .inl (cI, 9, .inl t_joints))]) hrun hP hD hS hFc [2] rfl (by decide) rfl rfl (fun H5 locs hP hD hS => ?_)
      refine lv_icmp_ge (tgt := 65) hx hb dX2_outcomeOf_26 (by decide) (fun c6 => ?_) (fun c6 => ?_)
      · have hM := z_t c6 hM
        refine lv_iload_n hx hb dX2_outcomeOf_65 rfl (lv_at hl 2 rfl) ?_
        refine lv_if_eq (tgt := 73) hx hb dX2_outcomeOf_66 (by decide) (fun c7 => ?_) (fun c7 => ?_)
        · have hM := z_t c7 hM
          refine lv_lconst (v := 0) hx hb dX2_outcomeOf_73 (by decide) ?_
          have hM := Option.some.inj hM
          subst hM
          exact W.lret (v := 0) hx hb hr (fun t ht hW => ⟨⟨_, (), rfl, rfl, ⟨by rw [ht]; exact hP, va_K.moved hW.alike hK, hD⟩⟩, hS.F ht⟩) hS.2.2 dX2_outcomeOf_74
        · have hM := z_f c7 hM
          refine lv_lconst (v := 1) hx hb dX2_outcomeOf_69 (by decide) ?_
          refine lv_goto (tgt := 74) hx hb dX2_outcomeOf_70 (by decide) ?_
          have hM := Option.some.inj hM
          subst hM
          exact W.lret (v := 1) hx hb hr (fun t ht hW => ⟨⟨_, (), rfl, rfl, ⟨by rw [ht]; exact hP, va_K.moved hW.alike hK, hD⟩⟩, hS.F ht⟩) hS.2.2 dX2_outcomeOf_74
      · have hM := z_f c6 hM
        refine lv_iload_n hx hb dX2_outcomeOf_29 rfl (lv_at hl 2 rfl) ?_
        refine lv_if_eq (tgt := 57) hx hb dX2_outcomeOf_30 (by decide) (fun c8 => ?_) (fun c8 => ?_)
        · have hM := z_t c8 hM
          exact B_57_1 (fn_Eval_outcomeOf_L21 e_values t_sums t_roots t_joints n) ih x3 _ _ ls hP hD hS (lv_sub hl [0, 1, 3] rfl) hM
        · have hM := z_f c8 hM
          refine lv_aload_n hx hb dX2_outcomeOf_33 rfl (lv_at hl 1 rfl) ?_
          refine lv_iload_n hx hb dX2_outcomeOf_34 rfl (lv_at hl 3 rfl) ?_
          obtain ⟨q9, hq9, hM⟩ := z_b hM
          obtain ⟨hPc, hDc, hFc⟩ := zcut (wc := [(A_t, .inr (9, [.ref A_t_kinds, .ref A_t_details, .ref A_t_lefts, .ref A_t_rights, .ref A_t_heights, .int t_count, .ref A_t_roots, .ref A_t_joints, .int t_sums])), (A_t_joints, .inl (cI, 9, .inl t_joints))]) hP hD hS hA [2, 4] rfl rfl (by decide)
          have hrun : va_Run p l e (headSpec wsX2_outcomeOf ({ frames := 2, cells := 0, slots := 0, locals := 47 } : Room)).room s m args below meth c H5 locs 0 0 _ _ (F0 m 35 ls _) _ (zQi D cI cJ cC q9 [(A_t, .inr (9, [.ref A_t_kinds, .ref A_t_details, .ref A_t_lefts, .ref A_t_rights, .ref A_t_heights, .int t_count, .ref A_t_roots, .ref A_t_joints, .int t_sums])), (A_t_joints, .inl (cI, 9, .inl t_joints))] (va_A [(A_t, .inr (9, [.ref A_t_kinds, .ref A_t_details, .ref A_t_lefts, .ref A_t_rights, .ref A_t_heights, .int t_count, .ref A_t_roots, .ref A_t_joints, .int t_sums])), (A_t_joints, .inl (cI, 9, .inl t_joints))] H5.size) _) (va_A [(A_t, .inr (9, [.ref A_t_kinds, .ref A_t_details, .ref A_t_lefts, .ref A_t_rights, .ref A_t_heights, .int t_count, .ref A_t_roots, .ref A_t_joints, .int t_sums])), (A_t_joints, .inl (cI, 9, .inl t_joints))] H5.size) := va_runV (As := [.int x3]) (rest := []) ⟨hx, hb, hml, hown, hts⟩ (ct_Tree_jointOf l D cI cJ cC adK adV A_t A_t_kinds A_t_details A_t_lefts A_t_rights A_t_heights A_t_roots A_t_joints H5.size t_count t_sums t_joints x3 hq9) (cwV 1 hts gX2_outcomeOf_X9_jointOf rfl rfl rfl (by decide +kernel) ⟨Nat.le_of_ble_eq_true rfl, Nat.le_of_ble_eq_true rfl⟩) ⟨zblind, va_recv hK hP (ci := 9) (q0 := 2) rfl rfl, zpre hX hS hFc hPc hK hDc⟩ rfl rfl hl.1 rfl (lv_room (Nat.le_of_ble_eq_true rfl)) dX2_outcomeOf_35 ⟨Nat.zero_le _, Nat.zero_le _⟩
          refine zc_i (ws' := [(A_e, .inr (2, [.ref A_e_values, .ref A_e_differences, .int e_status])), (A_e_values, .inl (cJ, 160, .inr (.inl e_values))), (A_t, .inr (9, [.ref A_t_kinds, .ref A_t_details, .ref A_t_lefts, .ref A_t_rights, .ref A_t_heights, .int t_count, .ref A_t_roots, .ref A_t_joints, .int t_sums])), (A_t_roots, .inl (cI, 9, .inl t_roots)), (A_t_joints, .inl (cI, 9, .inl t_joints))]) hrun hP hD hS hFc [2, 4] rfl (by decide) rfl rfl (fun H10 locs hP hD hS => ?_)
          obtain ⟨hPc, hDc, hFc⟩ := zcut (wc := []) hP hD hS hA [] rfl rfl (by decide)
          have hrun : va_Run p l e (headSpec wsX2_outcomeOf ({ frames := 2, cells := 0, slots := 0, locals := 47 } : Room)).room s m args below meth c H10 locs 0 0 _ _ (F0 m 38 ls _) _ (zQi D cI cJ cC (fn_Parser_startsLink q9) [] (va_A [] H10.size) _) (va_A [] H10.size) := va_runSN (As := [.int q9]) (rest := []) ⟨hx, hb, hml, hown, hts⟩ (ct_Parser_startsLink l D cI cJ cC adK adV H10.size q9) ⟨va_cnB 1 hts gX2_outcomeOf_X11_startsLink_n55 rfl rfl rfl (hX.1 (RX2, 55, yX11_startsLink, RX11) (by decide +kernel)) hw0 (by decide +kernel) ⟨Nat.le_of_ble_eq_true rfl, Nat.le_of_ble_eq_true rfl⟩, hw1, trivial⟩ ⟨zblind, zpre hX hS hFc hPc hK hDc⟩ rfl rfl hl.1 rfl (lv_room (Nat.le_of_ble_eq_true rfl)) dX2_outcomeOf_38 ⟨Nat.zero_le _, Nat.zero_le _⟩
          refine zc_i (ws' := [(A_e, .inr (2, [.ref A_e_values, .ref A_e_differences, .int e_status])), (A_e_values, .inl (cJ, 160, .inr (.inl e_values))), (A_t, .inr (9, [.ref A_t_kinds, .ref A_t_details, .ref A_t_lefts, .ref A_t_rights, .ref A_t_heights, .int t_count, .ref A_t_roots, .ref A_t_joints, .int t_sums])), (A_t_roots, .inl (cI, 9, .inl t_roots)), (A_t_joints, .inl (cI, 9, .inl t_joints))]) hrun hP hD hS hFc [] rfl (by decide) rfl rfl (fun H12 locs hP hD hS => ?_)
          refine lv_if_eq (tgt := 53) hx hb dX2_outcomeOf_41 (by decide) (fun c13 => ?_) (fun c13 => ?_)
          · have hM := z_t c13 hM
            exact B_53_3 (fn_Eval_outcomeOf_L21 e_values t_sums t_roots t_joints n) ih x3 _ _ ls hP hD hS (lv_sub hl [0, 1, 3] rfl) hM
          · have hM := z_f c13 hM
            refine lv_aload_n hx hb dX2_outcomeOf_44 rfl (lv_at hl 0 rfl) ?_
            refine lv_aload_n hx hb dX2_outcomeOf_45 rfl (lv_at hl 1 rfl) ?_
            refine lv_iload_n hx hb dX2_outcomeOf_46 rfl (lv_at hl 3 rfl) ?_
            obtain ⟨q14, hq14, hM⟩ := z_b hM
            obtain ⟨hPc, hDc, hFc⟩ := zcut (wc := [(A_e, .inr (2, [.ref A_e_values, .ref A_e_differences, .int e_status])), (A_e_values, .inl (cJ, 160, .inr (.inl e_values))), (A_t, .inr (9, [.ref A_t_kinds, .ref A_t_details, .ref A_t_lefts, .ref A_t_rights, .ref A_t_heights, .int t_count, .ref A_t_roots, .ref A_t_joints, .int t_sums])), (A_t_roots, .inl (cI, 9, .inl t_roots)), (A_t_joints, .inl (cI, 9, .inl t_joints))]) hP hD hS hA [0, 1, 2, 3, 4] rfl rfl (by decide)
            have hrun : va_Run p l e (headSpec wsX2_outcomeOf ({ frames := 2, cells := 0, slots := 0, locals := 47 } : Room)).room s m args below meth c H12 locs 0 0 _ _ (F0 m 47 ls _) _ (zQi D cI cJ cC q14 [(A_e, .inr (2, [.ref A_e_values, .ref A_e_differences, .int e_status])), (A_e_values, .inl (cJ, 160, .inr (.inl e_values))), (A_t, .inr (9, [.ref A_t_kinds, .ref A_t_details, .ref A_t_lefts, .ref A_t_rights, .ref A_t_heights, .int t_count, .ref A_t_roots, .ref A_t_joints, .int t_sums])), (A_t_roots, .inl (cI, 9, .inl t_roots)), (A_t_joints, .inl (cI, 9, .inl t_joints))] (va_A [(A_e, .inr (2, [.ref A_e_values, .ref A_e_differences, .int e_status])), (A_e_values, .inl (cJ, 160, .inr (.inl e_values))), (A_t, .inr (9, [.ref A_t_kinds, .ref A_t_details, .ref A_t_lefts, .ref A_t_rights, .ref A_t_heights, .int t_count, .ref A_t_roots, .ref A_t_joints, .int t_sums])), (A_t_roots, .inl (cI, 9, .inl t_roots)), (A_t_joints, .inl (cI, 9, .inl t_joints))] H12.size) _) (va_A [(A_e, .inr (2, [.ref A_e_values, .ref A_e_differences, .int e_status])), (A_e_values, .inl (cJ, 160, .inr (.inl e_values))), (A_t, .inr (9, [.ref A_t_kinds, .ref A_t_details, .ref A_t_lefts, .ref A_t_rights, .ref A_t_heights, .int t_count, .ref A_t_roots, .ref A_t_joints, .int t_sums])), (A_t_roots, .inl (cI, 9, .inl t_roots)), (A_t_joints, .inl (cI, 9, .inl t_joints))] H12.size) := va_runV (As := [.ref A_t, .int x3]) (rest := []) ⟨hx, hb, hml, hown, hts⟩ (ct_Eval_holds l D cI cJ cC adK adV A_e A_e_values A_e_differences A_t A_t_kinds A_t_details A_t_lefts A_t_rights A_t_heights A_t_roots A_t_joints H12.size e_status e_values t_count t_sums t_roots t_joints x3 hq14) (cwV 2 hts gX2_outcomeOf_X2_holds rfl rfl rfl (by decide +kernel) ⟨Nat.le_of_ble_eq_true rfl, Nat.le_of_ble_eq_true rfl⟩) ⟨zblind, va_recv hK hP (ci := 2) (q0 := 0) rfl rfl, zpre hX hS hFc hPc hK hDc⟩ rfl rfl hl.1 rfl (lv_room (Nat.le_of_ble_eq_true rfl)) dX2_outcomeOf_47 ⟨Nat.zero_le _, Nat.zero_le _⟩
            refine zc_i (ws' := [(A_e, .inr (2, [.ref A_e_values, .ref A_e_differences, .int e_status])), (A_e_values, .inl (cJ, 160, .inr (.inl e_values))), (A_t, .inr (9, [.ref A_t_kinds, .ref A_t_details, .ref A_t_lefts, .ref A_t_rights, .ref A_t_heights, .int t_count, .ref A_t_roots, .ref A_t_joints, .int t_sums])), (A_t_roots, .inl (cI, 9, .inl t_roots)), (A_t_joints, .inl (cI, 9, .inl t_joints))]) hrun hP hD hS hFc [0, 1, 2, 3, 4] rfl (by decide) rfl rfl (fun H15 locs hP hD hS => ?_)
            refine lv_if_eq (tgt := 57) hx hb dX2_outcomeOf_50 (by decide) (fun c16 => ?_) (fun c16 => ?_)
            · have hM := z_t c16 hM
              exact B_57_1 (fn_Eval_outcomeOf_L21 e_values t_sums t_roots t_joints n) ih x3 _ _ ls hP hD hS (lv_sub hl [0, 1, 3] rfl) hM
            · have hM := z_f c16 hM
              exact B_53_3 (fn_Eval_outcomeOf_L21 e_values t_sums t_roots t_joints n) ih x3 _ _ ls hP hD hS (lv_sub hl [0, 1, 3] rfl) hM
  refine lv_aload_n hx hb dX2_outcomeOf_0 rfl (lv_at hl 1 rfl) ?_
  obtain ⟨q1, hq1, hM⟩ := z_b hM
  obtain ⟨hPc, hDc, hFc⟩ := zcut (wc := [(A_t, .inr (9, [.ref A_t_kinds, .ref A_t_details, .ref A_t_lefts, .ref A_t_rights, .ref A_t_heights, .int t_count, .ref A_t_roots, .ref A_t_joints, .int t_sums])), (A_t_joints, .inl (cI, 9, .inl t_joints))]) hP hD hS hA [2, 4] rfl rfl (by decide)
  have hrun : va_Run p l e (headSpec wsX2_outcomeOf ({ frames := 2, cells := 0, slots := 0, locals := 47 } : Room)).room s m args below meth c s.heap [] 0 0 _ _ (F0 m 1 ls _) _ (zQi D cI cJ cC q1 [(A_t, .inr (9, [.ref A_t_kinds, .ref A_t_details, .ref A_t_lefts, .ref A_t_rights, .ref A_t_heights, .int t_count, .ref A_t_roots, .ref A_t_joints, .int t_sums])), (A_t_joints, .inl (cI, 9, .inl t_joints))] (va_A [(A_t, .inr (9, [.ref A_t_kinds, .ref A_t_details, .ref A_t_lefts, .ref A_t_rights, .ref A_t_heights, .int t_count, .ref A_t_roots, .ref A_t_joints, .int t_sums])), (A_t_joints, .inl (cI, 9, .inl t_joints))] s.heap.size) _) (va_A [(A_t, .inr (9, [.ref A_t_kinds, .ref A_t_details, .ref A_t_lefts, .ref A_t_rights, .ref A_t_heights, .int t_count, .ref A_t_roots, .ref A_t_joints, .int t_sums])), (A_t_joints, .inl (cI, 9, .inl t_joints))] s.heap.size) := va_runV (As := []) (rest := []) ⟨hx, hb, hml, hown, hts⟩ (ct_Tree_linkCount l D cI cJ cC adK adV A_t A_t_kinds A_t_details A_t_lefts A_t_rights A_t_heights A_t_roots A_t_joints s.heap.size t_count t_sums t_joints hq1) (cwV 0 hts gX2_outcomeOf_X9_linkCount rfl rfl rfl (by decide +kernel) ⟨Nat.le_of_ble_eq_true rfl, Nat.le_of_ble_eq_true rfl⟩) ⟨zblind, va_recv hK hP (ci := 9) (q0 := 2) rfl rfl, zpre hX hS hFc hPc hK hDc⟩ rfl rfl hl.1 rfl (lv_room (Nat.le_of_ble_eq_true rfl)) dX2_outcomeOf_1 ⟨Nat.zero_le _, Nat.zero_le _⟩
  refine zc_i (ws' := [(A_e, .inr (2, [.ref A_e_values, .ref A_e_differences, .int e_status])), (A_e_values, .inl (cJ, 160, .inr (.inl e_values))), (A_t, .inr (9, [.ref A_t_kinds, .ref A_t_details, .ref A_t_lefts, .ref A_t_rights, .ref A_t_heights, .int t_count, .ref A_t_roots, .ref A_t_joints, .int t_sums])), (A_t_roots, .inl (cI, 9, .inl t_roots)), (A_t_joints, .inl (cI, 9, .inl t_joints))]) hrun hP hD hS hFc [2, 4] rfl (by decide) rfl rfl (fun H2 locs hP hD hS => ?_)
  refine lv_if_ne (tgt := 17) hx hb dX2_outcomeOf_4 (by decide) (fun c3 => ?_) (fun c3 => ?_)
  · have hM := z_f c3 hM
    refine lv_iconst (v := 1) hx hb dX2_outcomeOf_17 (by decide) ?_
    refine lv_istore_n (lv' := [(2, .int 1), (0, .ref A_e), (1, .ref A_t)]) hx hb dX2_outcomeOf_18 rfl hl (by decide) rfl (fun ls hl => ?_)
    refine lv_iconst (v := 1) hx hb dX2_outcomeOf_19 (by decide) ?_
    refine lv_istore_n (lv' := [(3, .int 1), (2, .int 1), (0, .ref A_e), (1, .ref A_t)]) hx hb dX2_outcomeOf_20 rfl hl (by decide) rfl (fun ls hl => ?_)
    exact L_21_0  zFU 1 1 _ _ ls hP hD hS (lv_sub hl [2, 3, 1, 0] rfl) hM
  · have hM := z_t c3 hM
    refine lv_aload_n hx hb dX2_outcomeOf_7 rfl (lv_at hl 0 rfl) ?_
    refine lv_aload_n hx hb dX2_outcomeOf_8 rfl (lv_at hl 1 rfl) ?_
    refine lv_iconst (v := 0) hx hb dX2_outcomeOf_9 (by decide) ?_
    obtain ⟨q17, hq17, hM⟩ := z_b hM
    obtain ⟨hPc, hDc, hFc⟩ := zcut (wc := [(A_t, .inr (9, [.ref A_t_kinds, .ref A_t_details, .ref A_t_lefts, .ref A_t_rights, .ref A_t_heights, .int t_count, .ref A_t_roots, .ref A_t_joints, .int t_sums])), (A_t_roots, .inl (cI, 9, .inl t_roots))]) hP hD hS hA [2, 3] rfl rfl (by decide)
    have hrun : va_Run p l e (headSpec wsX2_outcomeOf ({ frames := 2, cells := 0, slots := 0, locals := 47 } : Room)).room s m args below meth c H2 locs 0 0 _ _ (F0 m 10 ls _) _ (zQi D cI cJ cC q17 [(A_t, .inr (9, [.ref A_t_kinds, .ref A_t_details, .ref A_t_lefts, .ref A_t_rights, .ref A_t_heights, .int t_count, .ref A_t_roots, .ref A_t_joints, .int t_sums])), (A_t_roots, .inl (cI, 9, .inl t_roots))] (va_A [(A_t, .inr (9, [.ref A_t_kinds, .ref A_t_details, .ref A_t_lefts, .ref A_t_rights, .ref A_t_heights, .int t_count, .ref A_t_roots, .ref A_t_joints, .int t_sums])), (A_t_roots, .inl (cI, 9, .inl t_roots))] H2.size) _) (va_A [(A_t, .inr (9, [.ref A_t_kinds, .ref A_t_details, .ref A_t_lefts, .ref A_t_rights, .ref A_t_heights, .int t_count, .ref A_t_roots, .ref A_t_joints, .int t_sums])), (A_t_roots, .inl (cI, 9, .inl t_roots))] H2.size) := va_runV (As := [.int 0]) (rest := [.ref A_e]) ⟨hx, hb, hml, hown, hts⟩ (ct_Tree_rootOf l D cI cJ cC adK adV A_t A_t_kinds A_t_details A_t_lefts A_t_rights A_t_heights A_t_roots A_t_joints H2.size t_count t_sums t_roots 0 hq17) (cwV 1 hts gX2_outcomeOf_X9_rootOf rfl rfl rfl (by decide +kernel) ⟨Nat.le_of_ble_eq_true rfl, Nat.le_of_ble_eq_true rfl⟩) ⟨zblind, va_recv hK hP (ci := 9) (q0 := 2) rfl rfl, zpre hX hS hFc hPc hK hDc⟩ rfl rfl hl.1 rfl (lv_room (Nat.le_of_ble_eq_true rfl)) dX2_outcomeOf_10 ⟨Nat.zero_le _, Nat.zero_le _⟩
    refine zc_i (ws' := [(A_e, .inr (2, [.ref A_e_values, .ref A_e_differences, .int e_status])), (A_e_values, .inl (cJ, 160, .inr (.inl e_values))), (A_t, .inr (9, [.ref A_t_kinds, .ref A_t_details, .ref A_t_lefts, .ref A_t_rights, .ref A_t_heights, .int t_count, .ref A_t_roots, .ref A_t_joints, .int t_sums])), (A_t_roots, .inl (cI, 9, .inl t_roots)), (A_t_joints, .inl (cI, 9, .inl t_joints))]) hrun hP hD hS hFc [2, 3] rfl (by decide) rfl rfl (fun H18 locs hP hD hS => ?_)
    obtain ⟨q19, hq19, hM⟩ := z_b hM
    obtain ⟨hPc, hDc, hFc⟩ := zcut (wc := [(A_e, .inr (2, [.ref A_e_values, .ref A_e_differences, .int e_status])), (A_e_values, .inl (cJ, 160, .inr (.inl e_values)))]) hP hD hS hA [0, 1] rfl rfl (by decide)
    have hrun : va_Run p l e (headSpec wsX2_outcomeOf ({ frames := 2, cells := 0, slots := 0, locals := 47 } : Room)).room s m args below meth c H18 locs 0 0 _ _ (F0 m 13 ls _) _ (zQl D cI cJ cC q19 [(A_e, .inr (2, [.ref A_e_values, .ref A_e_differences, .int e_status])), (A_e_values, .inl (cJ, 160, .inr (.inl e_values)))] (va_A [(A_e, .inr (2, [.ref A_e_values, .ref A_e_differences, .int e_status])), (A_e_values, .inl (cJ, 160, .inr (.inl e_values)))] H18.size) _) (va_A [(A_e, .inr (2, [.ref A_e_values, .ref A_e_differences, .int e_status])), (A_e_values, .inl (cJ, 160, .inr (.inl e_values)))] H18.size) := va_runV (As := [.int q17]) (rest := []) ⟨hx, hb, hml, hown, hts⟩ (ct_Eval_valueAt l D cI cJ cC adK adV A_e A_e_values A_e_differences H18.size e_status e_values q17 hq19) (cwV 1 hts gX2_outcomeOf_X2_valueAt rfl rfl rfl (by decide +kernel) ⟨Nat.le_of_ble_eq_true rfl, Nat.le_of_ble_eq_true rfl⟩) ⟨zblind, va_recv hK hP (ci := 2) (q0 := 0) rfl rfl, zpre hX hS hFc hPc hK hDc⟩ rfl rfl hl.1 rfl (lv_room (Nat.le_of_ble_eq_true rfl)) dX2_outcomeOf_13 ⟨Nat.zero_le _, Nat.zero_le _⟩
    refine zc_l (ws' := [(A_e, .inr (2, [.ref A_e_values, .ref A_e_differences, .int e_status])), (A_e_values, .inl (cJ, 160, .inr (.inl e_values))), (A_t, .inr (9, [.ref A_t_kinds, .ref A_t_details, .ref A_t_lefts, .ref A_t_rights, .ref A_t_heights, .int t_count, .ref A_t_roots, .ref A_t_joints, .int t_sums])), (A_t_roots, .inl (cI, 9, .inl t_roots)), (A_t_joints, .inl (cI, 9, .inl t_joints))]) hrun hP hD hS hFc [0, 1] rfl (by decide) rfl rfl (fun H20 locs hP hD hS => ?_)
    have hM := Option.some.inj hM
    subst hM
    exact W.lret (v := q19) hx hb hr (fun t ht hW => ⟨⟨_, (), rfl, rfl, ⟨by rw [ht]; exact hP, va_K.moved hW.alike hK, hD⟩⟩, hS.F ht⟩) hS.2.2 dX2_outcomeOf_16
