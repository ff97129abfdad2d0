theorem dX9_clear_0 : decode cX9_clear 0 = .ok (.aload_n 0, 1) := by decide +kernel
theorem dX9_clear_1 : decode cX9_clear 1 = .ok (.iconst 0, 1) := by decide +kernel
theorem dX9_clear_2 : decode cX9_clear 2 = .ok (.putfield 33, 3) := by decide +kernel
theorem dX9_clear_5 : decode cX9_clear 5 = .ok (.aload_n 0, 1) := by decide +kernel
theorem dX9_clear_6 : decode cX9_clear 6 = .ok (.iconst 0, 1) := by decide +kernel
theorem dX9_clear_7 : decode cX9_clear 7 = .ok (.putfield 37, 3) := by decide +kernel
theorem dX9_clear_10 : decode cX9_clear 10 = .ok (.return_, 1) := by decide +kernel
theorem dX9_addNode_0 : decode cX9_addNode 0 = .ok (.aload_n 0, 1) := by decide +kernel
theorem dX9_addNode_1 : decode cX9_addNode 1 = .ok (.getfield 33, 3) := by decide +kernel
theorem dX9_addNode_4 : decode cX9_addNode 4 = .ok (.sipush 160, 3) := by decide +kernel
theorem dX9_addNode_7 : decode cX9_addNode 7 = .ok (.if_icmp .lt 5, 3) := by decide +kernel
theorem dX9_addNode_10 : decode cX9_addNode 10 = .ok (.iconst (-1), 1) := by decide +kernel
theorem dX9_addNode_11 : decode cX9_addNode 11 = .ok (.ireturn, 1) := by decide +kernel
theorem dX9_addNode_12 : decode cX9_addNode 12 = .ok (.aload_n 0, 1) := by decide +kernel
theorem dX9_addNode_13 : decode cX9_addNode 13 = .ok (.getfield 9, 3) := by decide +kernel
theorem dX9_addNode_16 : decode cX9_addNode 16 = .ok (.aload_n 0, 1) := by decide +kernel
theorem dX9_addNode_17 : decode cX9_addNode 17 = .ok (.getfield 33, 3) := by decide +kernel
theorem dX9_addNode_20 : decode cX9_addNode 20 = .ok (.iload_n 1, 1) := by decide +kernel
theorem dX9_addNode_21 : decode cX9_addNode 21 = .ok (.iastore, 1) := by decide +kernel
theorem dX9_addNode_22 : decode cX9_addNode 22 = .ok (.aload_n 0, 1) := by decide +kernel
theorem dX9_addNode_23 : decode cX9_addNode 23 = .ok (.getfield 15, 3) := by decide +kernel
theorem dX9_addNode_26 : decode cX9_addNode 26 = .ok (.aload_n 0, 1) := by decide +kernel
theorem dX9_addNode_27 : decode cX9_addNode 27 = .ok (.getfield 33, 3) := by decide +kernel
theorem dX9_addNode_30 : decode cX9_addNode 30 = .ok (.iload_n 2, 1) := by decide +kernel
theorem dX9_addNode_31 : decode cX9_addNode 31 = .ok (.iastore, 1) := by decide +kernel
theorem dX9_addNode_32 : decode cX9_addNode 32 = .ok (.aload_n 0, 1) := by decide +kernel
theorem dX9_addNode_33 : decode cX9_addNode 33 = .ok (.getfield 18, 3) := by decide +kernel
theorem dX9_addNode_36 : decode cX9_addNode 36 = .ok (.aload_n 0, 1) := by decide +kernel
theorem dX9_addNode_37 : decode cX9_addNode 37 = .ok (.getfield 33, 3) := by decide +kernel
theorem dX9_addNode_40 : decode cX9_addNode 40 = .ok (.iload_n 3, 1) := by decide +kernel
theorem dX9_addNode_41 : decode cX9_addNode 41 = .ok (.iastore, 1) := by decide +kernel
theorem dX9_addNode_42 : decode cX9_addNode 42 = .ok (.aload_n 0, 1) := by decide +kernel
theorem dX9_addNode_43 : decode cX9_addNode 43 = .ok (.getfield 21, 3) := by decide +kernel
theorem dX9_addNode_46 : decode cX9_addNode 46 = .ok (.aload_n 0, 1) := by decide +kernel
theorem dX9_addNode_47 : decode cX9_addNode 47 = .ok (.getfield 33, 3) := by decide +kernel
theorem dX9_addNode_50 : decode cX9_addNode 50 = .ok (.iload 4, 2) := by decide +kernel
theorem dX9_addNode_52 : decode cX9_addNode 52 = .ok (.iastore, 1) := by decide +kernel
theorem dX9_addNode_53 : decode cX9_addNode 53 = .ok (.aload_n 0, 1) := by decide +kernel
theorem dX9_addNode_54 : decode cX9_addNode 54 = .ok (.dup, 1) := by decide +kernel
theorem dX9_addNode_55 : decode cX9_addNode 55 = .ok (.getfield 33, 3) := by decide +kernel
theorem dX9_addNode_58 : decode cX9_addNode 58 = .ok (.iconst 1, 1) := by decide +kernel
theorem dX9_addNode_59 : decode cX9_addNode 59 = .ok (.iadd, 1) := by decide +kernel
theorem dX9_addNode_60 : decode cX9_addNode 60 = .ok (.putfield 33, 3) := by decide +kernel
theorem dX9_addNode_63 : decode cX9_addNode 63 = .ok (.aload_n 0, 1) := by decide +kernel
theorem dX9_addNode_64 : decode cX9_addNode 64 = .ok (.getfield 33, 3) := by decide +kernel
theorem dX9_addNode_67 : decode cX9_addNode 67 = .ok (.iconst 1, 1) := by decide +kernel
theorem dX9_addNode_68 : decode cX9_addNode 68 = .ok (.isub, 1) := by decide +kernel
theorem dX9_addNode_69 : decode cX9_addNode 69 = .ok (.ireturn, 1) := by decide +kernel
theorem dX9_addSum_0 : decode cX9_addSum 0 = .ok (.aload_n 0, 1) := by decide +kernel
theorem dX9_addSum_1 : decode cX9_addSum 1 = .ok (.getfield 37, 3) := by decide +kernel
theorem dX9_addSum_4 : decode cX9_addSum 4 = .ok (.bipush 9, 2) := by decide +kernel
theorem dX9_addSum_6 : decode cX9_addSum 6 = .ok (.if_icmp .ge 33, 3) := by decide +kernel
theorem dX9_addSum_9 : decode cX9_addSum 9 = .ok (.aload_n 0, 1) := by decide +kernel
theorem dX9_addSum_10 : decode cX9_addSum 10 = .ok (.getfield 30, 3) := by decide +kernel
theorem dX9_addSum_13 : decode cX9_addSum 13 = .ok (.aload_n 0, 1) := by decide +kernel
theorem dX9_addSum_14 : decode cX9_addSum 14 = .ok (.getfield 37, 3) := by decide +kernel
theorem dX9_addSum_17 : decode cX9_addSum 17 = .ok (.iload_n 1, 1) := by decide +kernel
theorem dX9_addSum_18 : decode cX9_addSum 18 = .ok (.iastore, 1) := by decide +kernel
theorem dX9_addSum_19 : decode cX9_addSum 19 = .ok (.aload_n 0, 1) := by decide +kernel
theorem dX9_addSum_20 : decode cX9_addSum 20 = .ok (.getfield 27, 3) := by decide +kernel
theorem dX9_addSum_23 : decode cX9_addSum 23 = .ok (.aload_n 0, 1) := by decide +kernel
theorem dX9_addSum_24 : decode cX9_addSum 24 = .ok (.getfield 37, 3) := by decide +kernel
theorem dX9_addSum_27 : decode cX9_addSum 27 = .ok (.iload_n 2, 1) := by decide +kernel
theorem dX9_addSum_28 : decode cX9_addSum 28 = .ok (.iastore, 1) := by decide +kernel
theorem dX9_addSum_29 : decode cX9_addSum 29 = .ok (.aload_n 0, 1) := by decide +kernel
theorem dX9_addSum_30 : decode cX9_addSum 30 = .ok (.dup, 1) := by decide +kernel
theorem dX9_addSum_31 : decode cX9_addSum 31 = .ok (.getfield 37, 3) := by decide +kernel
theorem dX9_addSum_34 : decode cX9_addSum 34 = .ok (.iconst 1, 1) := by decide +kernel
theorem dX9_addSum_35 : decode cX9_addSum 35 = .ok (.iadd, 1) := by decide +kernel
theorem dX9_addSum_36 : decode cX9_addSum 36 = .ok (.putfield 37, 3) := by decide +kernel
theorem dX9_addSum_39 : decode cX9_addSum 39 = .ok (.return_, 1) := by decide +kernel
theorem dX9_size_0 : decode cX9_size 0 = .ok (.aload_n 0, 1) := by decide +kernel
theorem dX9_size_1 : decode cX9_size 1 = .ok (.getfield 33, 3) := by decide +kernel
theorem dX9_size_4 : decode cX9_size 4 = .ok (.ireturn, 1) := by decide +kernel
set_option maxRecDepth 20000 in
theorem ggX9_kindOf_X9_hasNode : GoodIn wsX9_kindOf wsX9_hasNode := goodIn_r _ [6, 7, 8, 9, 10, 11, 12, 13, 14, 15, 16] rfl (by decide +kernel)
set_option maxRecDepth 20000 in
theorem gX9_kindOf_X9_hasNode : GoodIn wsX9_kindOf (wsV RX9 40 RX9 yX9_hasNode wsX9_hasNode) := goodIn_app (goodIn_of _ (by decide +kernel)) ggX9_kindOf_X9_hasNode
theorem dX9_kindOf_0 : decode cX9_kindOf 0 = .ok (.aload_n 0, 1) := by decide +kernel
theorem dX9_kindOf_1 : decode cX9_kindOf 1 = .ok (.iload_n 1, 1) := by decide +kernel
theorem dX9_kindOf_2 : decode cX9_kindOf 2 = .ok (.invokevirtual 40, 3) := by decide +kernel
theorem dX9_kindOf_5 : decode cX9_kindOf 5 = .ok (.ifCond .eq 12, 3) := by decide +kernel
theorem dX9_kindOf_8 : decode cX9_kindOf 8 = .ok (.aload_n 0, 1) := by decide +kernel
theorem dX9_kindOf_9 : decode cX9_kindOf 9 = .ok (.getfield 9, 3) := by decide +kernel
theorem dX9_kindOf_12 : decode cX9_kindOf 12 = .ok (.iload_n 1, 1) := by decide +kernel
theorem dX9_kindOf_13 : decode cX9_kindOf 13 = .ok (.iaload, 1) := by decide +kernel
theorem dX9_kindOf_14 : decode cX9_kindOf 14 = .ok (.goto 4, 3) := by decide +kernel
theorem dX9_kindOf_17 : decode cX9_kindOf 17 = .ok (.iconst 0, 1) := by decide +kernel
theorem dX9_kindOf_18 : decode cX9_kindOf 18 = .ok (.ireturn, 1) := by decide +kernel
set_option maxRecDepth 20000 in
theorem ggX9_detailOf_X9_hasNode : GoodIn wsX9_detailOf wsX9_hasNode := goodIn_r _ [6, 7, 8, 9, 10, 11, 12, 13, 14, 15, 16] rfl (by decide +kernel)
set_option maxRecDepth 20000 in
theorem gX9_detailOf_X9_hasNode : GoodIn wsX9_detailOf (wsV RX9 40 RX9 yX9_hasNode wsX9_hasNode) := goodIn_app (goodIn_of _ (by decide +kernel)) ggX9_detailOf_X9_hasNode
theorem dX9_detailOf_0 : decode cX9_detailOf 0 = .ok (.aload_n 0, 1) := by decide +kernel
theorem dX9_detailOf_1 : decode cX9_detailOf 1 = .ok (.iload_n 1, 1) := by decide +kernel
theorem dX9_detailOf_2 : decode cX9_detailOf 2 = .ok (.invokevirtual 40, 3) := by decide +kernel
theorem dX9_detailOf_5 : decode cX9_detailOf 5 = .ok (.ifCond .eq 12, 3) := by decide +kernel
theorem dX9_detailOf_8 : decode cX9_detailOf 8 = .ok (.aload_n 0, 1) := by decide +kernel
theorem dX9_detailOf_9 : decode cX9_detailOf 9 = .ok (.getfield 15, 3) := by decide +kernel
theorem dX9_detailOf_12 : decode cX9_detailOf 12 = .ok (.iload_n 1, 1) := by decide +kernel
theorem dX9_detailOf_13 : decode cX9_detailOf 13 = .ok (.iaload, 1) := by decide +kernel
theorem dX9_detailOf_14 : decode cX9_detailOf 14 = .ok (.goto 4, 3) := by decide +kernel
theorem dX9_detailOf_17 : decode cX9_detailOf 17 = .ok (.iconst 0, 1) := by decide +kernel
theorem dX9_detailOf_18 : decode cX9_detailOf 18 = .ok (.ireturn, 1) := by decide +kernel
set_option maxRecDepth 20000 in
theorem ggX9_leftOf_X9_hasNode : GoodIn wsX9_leftOf wsX9_hasNode := goodIn_r _ [6, 7, 8, 9, 10, 11, 12, 13, 14, 15, 16] rfl (by decide +kernel)
set_option maxRecDepth 20000 in
theorem gX9_leftOf_X9_hasNode : GoodIn wsX9_leftOf (wsV RX9 40 RX9 yX9_hasNode wsX9_hasNode) := goodIn_app (goodIn_of _ (by decide +kernel)) ggX9_leftOf_X9_hasNode
theorem dX9_leftOf_0 : decode cX9_leftOf 0 = .ok (.aload_n 0, 1) := by decide +kernel
theorem dX9_leftOf_1 : decode cX9_leftOf 1 = .ok (.iload_n 1, 1) := by decide +kernel
theorem dX9_leftOf_2 : decode cX9_leftOf 2 = .ok (.invokevirtual 40, 3) := by decide +kernel
theorem dX9_leftOf_5 : decode cX9_leftOf 5 = .ok (.ifCond .eq 12, 3) := by decide +kernel
theorem dX9_leftOf_8 : decode cX9_leftOf 8 = .ok (.aload_n 0, 1) := by decide +kernel
theorem dX9_leftOf_9 : decode cX9_leftOf 9 = .ok (.getfield 18, 3) := by decide +kernel
theorem dX9_leftOf_12 : decode cX9_leftOf 12 = .ok (.iload_n 1, 1) := by decide +kernel
theorem dX9_leftOf_13 : decode cX9_leftOf 13 = .ok (.iaload, 1) := by decide +kernel
theorem dX9_leftOf_14 : decode cX9_leftOf 14 = .ok (.goto 4, 3) := by decide +kernel
theorem dX9_leftOf_17 : decode cX9_leftOf 17 = .ok (.iconst (-1), 1) := by decide +kernel
theorem dX9_leftOf_18 : decode cX9_leftOf 18 = .ok (.ireturn, 1) := by decide +kernel
set_option maxRecDepth 20000 in
theorem ggX9_rightOf_X9_hasNode : GoodIn wsX9_rightOf wsX9_hasNode := goodIn_r _ [6, 7, 8, 9, 10, 11, 12, 13, 14, 15, 16] rfl (by decide +kernel)
set_option maxRecDepth 20000 in
theorem gX9_rightOf_X9_hasNode : GoodIn wsX9_rightOf (wsV RX9 40 RX9 yX9_hasNode wsX9_hasNode) := goodIn_app (goodIn_of _ (by decide +kernel)) ggX9_rightOf_X9_hasNode
theorem dX9_rightOf_0 : decode cX9_rightOf 0 = .ok (.aload_n 0, 1) := by decide +kernel
theorem dX9_rightOf_1 : decode cX9_rightOf 1 = .ok (.iload_n 1, 1) := by decide +kernel
theorem dX9_rightOf_2 : decode cX9_rightOf 2 = .ok (.invokevirtual 40, 3) := by decide +kernel
theorem dX9_rightOf_5 : decode cX9_rightOf 5 = .ok (.ifCond .eq 12, 3) := by decide +kernel
theorem dX9_rightOf_8 : decode cX9_rightOf 8 = .ok (.aload_n 0, 1) := by decide +kernel
theorem dX9_rightOf_9 : decode cX9_rightOf 9 = .ok (.getfield 21, 3) := by decide +kernel
theorem dX9_rightOf_12 : decode cX9_rightOf 12 = .ok (.iload_n 1, 1) := by decide +kernel
theorem dX9_rightOf_13 : decode cX9_rightOf 13 = .ok (.iaload, 1) := by decide +kernel
theorem dX9_rightOf_14 : decode cX9_rightOf 14 = .ok (.goto 4, 3) := by decide +kernel
theorem dX9_rightOf_17 : decode cX9_rightOf 17 = .ok (.iconst (-1), 1) := by decide +kernel
theorem dX9_rightOf_18 : decode cX9_rightOf 18 = .ok (.ireturn, 1) := by decide +kernel
theorem dX9_sumCount_0 : decode cX9_sumCount 0 = .ok (.aload_n 0, 1) := by decide +kernel
theorem dX9_sumCount_1 : decode cX9_sumCount 1 = .ok (.getfield 37, 3) := by decide +kernel
theorem dX9_sumCount_4 : decode cX9_sumCount 4 = .ok (.ireturn, 1) := by decide +kernel
theorem dX9_rootOf_0 : decode cX9_rootOf 0 = .ok (.iload_n 1, 1) := by decide +kernel
theorem dX9_rootOf_1 : decode cX9_rootOf 1 = .ok (.ifCond .lt 20, 3) := by decide +kernel
theorem dX9_rootOf_4 : decode cX9_rootOf 4 = .ok (.iload_n 1, 1) := by decide +kernel
theorem dX9_rootOf_5 : decode cX9_rootOf 5 = .ok (.aload_n 0, 1) := by decide +kernel
theorem dX9_rootOf_6 : decode cX9_rootOf 6 = .ok (.getfield 37, 3) := by decide +kernel
theorem dX9_rootOf_9 : decode cX9_rootOf 9 = .ok (.if_icmp .ge 12, 3) := by decide +kernel
theorem dX9_rootOf_12 : decode cX9_rootOf 12 = .ok (.aload_n 0, 1) := by decide +kernel
theorem dX9_rootOf_13 : decode cX9_rootOf 13 = .ok (.getfield 27, 3) := by decide +kernel
theorem dX9_rootOf_16 : decode cX9_rootOf 16 = .ok (.iload_n 1, 1) := by decide +kernel
theorem dX9_rootOf_17 : decode cX9_rootOf 17 = .ok (.iaload, 1) := by decide +kernel
theorem dX9_rootOf_18 : decode cX9_rootOf 18 = .ok (.goto 4, 3) := by decide +kernel
theorem dX9_rootOf_21 : decode cX9_rootOf 21 = .ok (.iconst (-1), 1) := by decide +kernel
theorem dX9_rootOf_22 : decode cX9_rootOf 22 = .ok (.ireturn, 1) := by decide +kernel
theorem dX9_jointOf_0 : decode cX9_jointOf 0 = .ok (.iload_n 1, 1) := by decide +kernel
theorem dX9_jointOf_1 : decode cX9_jointOf 1 = .ok (.ifCond .lt 20, 3) := by decide +kernel
theorem dX9_jointOf_4 : decode cX9_jointOf 4 = .ok (.iload_n 1, 1) := by decide +kernel
theorem dX9_jointOf_5 : decode cX9_jointOf 5 = .ok (.aload_n 0, 1) := by decide +kernel
theorem dX9_jointOf_6 : decode cX9_jointOf 6 = .ok (.getfield 37, 3) := by decide +kernel
theorem dX9_jointOf_9 : decode cX9_jointOf 9 = .ok (.if_icmp .ge 12, 3) := by decide +kernel
theorem dX9_jointOf_12 : decode cX9_jointOf 12 = .ok (.aload_n 0, 1) := by decide +kernel
theorem dX9_jointOf_13 : decode cX9_jointOf 13 = .ok (.getfield 30, 3) := by decide +kernel
theorem dX9_jointOf_16 : decode cX9_jointOf 16 = .ok (.iload_n 1, 1) := by decide +kernel
theorem dX9_jointOf_17 : decode cX9_jointOf 17 = .ok (.iaload, 1) := by decide +kernel
theorem dX9_jointOf_18 : decode cX9_jointOf 18 = .ok (.goto 4, 3) := by decide +kernel
theorem dX9_jointOf_21 : decode cX9_jointOf 21 = .ok (.iconst 0, 1) := by decide +kernel
theorem dX9_jointOf_22 : decode cX9_jointOf 22 = .ok (.ireturn, 1) := by decide +kernel
set_option maxRecDepth 20000 in
theorem ggX9_linkCount_X9_jointOf : GoodIn wsX9_linkCount wsX9_jointOf := goodIn_r _ [6, 1, 7, 11, 12, 13, 14, 15, 16, 17, 18, 19] rfl (by decide +kernel)
set_option maxRecDepth 20000 in
theorem gX9_linkCount_X9_jointOf : GoodIn wsX9_linkCount (wsV RX9 44 RX9 yX9_jointOf wsX9_jointOf) := goodIn_app (goodIn_of _ (by decide +kernel)) ggX9_linkCount_X9_jointOf
set_option maxRecDepth 20000 in
theorem ggX9_linkCount_X11_startsLink : GoodIn wsX9_linkCount wsX11_startsLink := goodIn_r _ [10] rfl (by decide +kernel)
set_option maxRecDepth 20000 in
theorem gX9_linkCount_X11_startsLink_n48 : GoodIn wsX9_linkCount (wsX11_startsLink) := ggX9_linkCount_X11_startsLink
theorem dX9_linkCount_0 : decode cX9_linkCount 0 = .ok (.iconst 0, 1) := by decide +kernel
theorem dX9_linkCount_1 : decode cX9_linkCount 1 = .ok (.istore_n 1, 1) := by decide +kernel
theorem dX9_linkCount_2 : decode cX9_linkCount 2 = .ok (.iconst 0, 1) := by decide +kernel
theorem dX9_linkCount_3 : decode cX9_linkCount 3 = .ok (.istore_n 2, 1) := by decide +kernel
theorem dX9_linkCount_4 : decode cX9_linkCount 4 = .ok (.iload_n 2, 1) := by decide +kernel
theorem dX9_linkCount_5 : decode cX9_linkCount 5 = .ok (.aload_n 0, 1) := by decide +kernel
theorem dX9_linkCount_6 : decode cX9_linkCount 6 = .ok (.getfield 37, 3) := by decide +kernel
theorem dX9_linkCount_9 : decode cX9_linkCount 9 = .ok (.if_icmp .ge 28, 3) := by decide +kernel
theorem dX9_linkCount_12 : decode cX9_linkCount 12 = .ok (.iload_n 1, 1) := by decide +kernel
theorem dX9_linkCount_13 : decode cX9_linkCount 13 = .ok (.aload_n 0, 1) := by decide +kernel
theorem dX9_linkCount_14 : decode cX9_linkCount 14 = .ok (.iload_n 2, 1) := by decide +kernel
theorem dX9_linkCount_15 : decode cX9_linkCount 15 = .ok (.invokevirtual 44, 3) := by decide +kernel
theorem dX9_linkCount_18 : decode cX9_linkCount 18 = .ok (.invokestatic 48, 3) := by decide +kernel
theorem dX9_linkCount_21 : decode cX9_linkCount 21 = .ok (.ifCond .eq 7, 3) := by decide +kernel
theorem dX9_linkCount_24 : decode cX9_linkCount 24 = .ok (.iconst 1, 1) := by decide +kernel
theorem dX9_linkCount_25 : decode cX9_linkCount 25 = .ok (.goto 4, 3) := by decide +kernel
theorem dX9_linkCount_28 : decode cX9_linkCount 28 = .ok (.iconst 0, 1) := by decide +kernel
theorem dX9_linkCount_29 : decode cX9_linkCount 29 = .ok (.iadd, 1) := by decide +kernel
theorem dX9_linkCount_30 : decode cX9_linkCount 30 = .ok (.istore_n 1, 1) := by decide +kernel
theorem dX9_linkCount_31 : decode cX9_linkCount 31 = .ok (.iinc 2 1, 3) := by decide +kernel
theorem dX9_linkCount_34 : decode cX9_linkCount 34 = .ok (.goto (-30), 3) := by decide +kernel
theorem dX9_linkCount_37 : decode cX9_linkCount 37 = .ok (.iload_n 1, 1) := by decide +kernel
theorem dX9_linkCount_38 : decode cX9_linkCount 38 = .ok (.ireturn, 1) := by decide +kernel
set_option maxRecDepth 20000 in
theorem ggX9_countVariable_X9_kindOf : GoodIn wsX9_countVariable wsX9_kindOf := goodIn_r _ [6, 7, 8, 9, 10, 5, 11, 1, 17, 18, 19, 20, 21, 22, 23, 24, 25] rfl (by decide +kernel)
set_option maxRecDepth 20000 in
theorem gX9_countVariable_X9_kindOf : GoodIn wsX9_countVariable (wsV RX9 51 RX9 yX9_kindOf wsX9_kindOf) := goodIn_app (goodIn_of _ (by decide +kernel)) ggX9_countVariable_X9_kindOf
set_option maxRecDepth 20000 in
theorem ggX9_countVariable_X9_detailOf : GoodIn wsX9_countVariable wsX9_detailOf := goodIn_r _ [15, 16, 8, 9, 10, 5, 11, 1, 17, 18, 19, 20, 21, 22, 23, 24, 25] rfl (by decide +kernel)
set_option maxRecDepth 20000 in
theorem gX9_countVariable_X9_detailOf : GoodIn wsX9_countVariable (wsV RX9 54 RX9 yX9_detailOf wsX9_detailOf) := goodIn_app (goodIn_of _ (by decide +kernel)) ggX9_countVariable_X9_detailOf
theorem dX9_countVariable_0 : decode cX9_countVariable 0 = .ok (.iconst 0, 1) := by decide +kernel
theorem dX9_countVariable_1 : decode cX9_countVariable 1 = .ok (.istore_n 2, 1) := by decide +kernel
theorem dX9_countVariable_2 : decode cX9_countVariable 2 = .ok (.iconst 0, 1) := by decide +kernel
theorem dX9_countVariable_3 : decode cX9_countVariable 3 = .ok (.istore_n 3, 1) := by decide +kernel
theorem dX9_countVariable_4 : decode cX9_countVariable 4 = .ok (.iload_n 3, 1) := by decide +kernel
theorem dX9_countVariable_5 : decode cX9_countVariable 5 = .ok (.aload_n 0, 1) := by decide +kernel
theorem dX9_countVariable_6 : decode cX9_countVariable 6 = .ok (.getfield 33, 3) := by decide +kernel
theorem dX9_countVariable_9 : decode cX9_countVariable 9 = .ok (.if_icmp .ge 35, 3) := by decide +kernel
theorem dX9_countVariable_12 : decode cX9_countVariable 12 = .ok (.iload_n 2, 1) := by decide +kernel
theorem dX9_countVariable_13 : decode cX9_countVariable 13 = .ok (.aload_n 0, 1) := by decide +kernel
theorem dX9_countVariable_14 : decode cX9_countVariable 14 = .ok (.iload_n 3, 1) := by decide +kernel
theorem dX9_countVariable_15 : decode cX9_countVariable 15 = .ok (.invokevirtual 51, 3) := by decide +kernel
theorem dX9_countVariable_18 : decode cX9_countVariable 18 = .ok (.iconst 2, 1) := by decide +kernel
theorem dX9_countVariable_19 : decode cX9_countVariable 19 = .ok (.if_icmp .ne 16, 3) := by decide +kernel
theorem dX9_countVariable_22 : decode cX9_countVariable 22 = .ok (.aload_n 0, 1) := by decide +kernel
theorem dX9_countVariable_23 : decode cX9_countVariable 23 = .ok (.iload_n 3, 1) := by decide +kernel
theorem dX9_countVariable_24 : decode cX9_countVariable 24 = .ok (.invokevirtual 54, 3) := by decide +kernel
theorem dX9_countVariable_27 : decode cX9_countVariable 27 = .ok (.iload_n 1, 1) := by decide +kernel
theorem dX9_countVariable_28 : decode cX9_countVariable 28 = .ok (.if_icmp .ne 7, 3) := by decide +kernel
theorem dX9_countVariable_31 : decode cX9_countVariable 31 = .ok (.iconst 1, 1) := by decide +kernel
theorem dX9_countVariable_32 : decode cX9_countVariable 32 = .ok (.goto 4, 3) := by decide +kernel
theorem dX9_countVariable_35 : decode cX9_countVariable 35 = .ok (.iconst 0, 1) := by decide +kernel
theorem dX9_countVariable_36 : decode cX9_countVariable 36 = .ok (.iadd, 1) := by decide +kernel
theorem dX9_countVariable_37 : decode cX9_countVariable 37 = .ok (.istore_n 2, 1) := by decide +kernel
theorem dX9_countVariable_38 : decode cX9_countVariable 38 = .ok (.iinc 3 1, 3) := by decide +kernel
theorem dX9_countVariable_41 : decode cX9_countVariable 41 = .ok (.goto (-37), 3) := by decide +kernel
theorem dX9_countVariable_44 : decode cX9_countVariable 44 = .ok (.iload_n 2, 1) := by decide +kernel
theorem dX9_countVariable_45 : decode cX9_countVariable 45 = .ok (.ireturn, 1) := by decide +kernel
set_option maxRecDepth 20000 in
theorem ggX9_greatestHeight_X9_heightOf : GoodIn wsX9_greatestHeight wsX9_heightOf := goodIn_r _ [13, 2, 14, 15, 16, 12, 17, 1, 18, 19, 20, 21, 22, 23, 24, 25, 26] rfl (by decide +kernel)
set_option maxRecDepth 20000 in
theorem gX9_greatestHeight_X9_heightOf : GoodIn wsX9_greatestHeight (wsV RX9 57 RX9 yX9_heightOf wsX9_heightOf) := goodIn_app (goodIn_of _ (by decide +kernel)) ggX9_greatestHeight_X9_heightOf
theorem dX9_greatestHeight_0 : decode cX9_greatestHeight 0 = .ok (.iconst 0, 1) := by decide +kernel
theorem dX9_greatestHeight_1 : decode cX9_greatestHeight 1 = .ok (.istore_n 1, 1) := by decide +kernel
theorem dX9_greatestHeight_2 : decode cX9_greatestHeight 2 = .ok (.iconst 0, 1) := by decide +kernel
theorem dX9_greatestHeight_3 : decode cX9_greatestHeight 3 = .ok (.istore_n 2, 1) := by decide +kernel
theorem dX9_greatestHeight_4 : decode cX9_greatestHeight 4 = .ok (.iload_n 2, 1) := by decide +kernel
theorem dX9_greatestHeight_5 : decode cX9_greatestHeight 5 = .ok (.aload_n 0, 1) := by decide +kernel
theorem dX9_greatestHeight_6 : decode cX9_greatestHeight 6 = .ok (.getfield 33, 3) := by decide +kernel
theorem dX9_greatestHeight_9 : decode cX9_greatestHeight 9 = .ok (.if_icmp .ge 51, 3) := by decide +kernel
theorem dX9_greatestHeight_12 : decode cX9_greatestHeight 12 = .ok (.aload_n 0, 1) := by decide +kernel
theorem dX9_greatestHeight_13 : decode cX9_greatestHeight 13 = .ok (.getfield 24, 3) := by decide +kernel
theorem dX9_greatestHeight_16 : decode cX9_greatestHeight 16 = .ok (.iload_n 2, 1) := by decide +kernel
theorem dX9_greatestHeight_17 : decode cX9_greatestHeight 17 = .ok (.iconst 1, 1) := by decide +kernel
theorem dX9_greatestHeight_18 : decode cX9_greatestHeight 18 = .ok (.aload_n 0, 1) := by decide +kernel
theorem dX9_greatestHeight_19 : decode cX9_greatestHeight 19 = .ok (.aload_n 0, 1) := by decide +kernel
theorem dX9_greatestHeight_20 : decode cX9_greatestHeight 20 = .ok (.getfield 18, 3) := by decide +kernel
theorem dX9_greatestHeight_23 : decode cX9_greatestHeight 23 = .ok (.iload_n 2, 1) := by decide +kernel
theorem dX9_greatestHeight_24 : decode cX9_greatestHeight 24 = .ok (.iaload, 1) := by decide +kernel
theorem dX9_greatestHeight_25 : decode cX9_greatestHeight 25 = .ok (.invokevirtual 57, 3) := by decide +kernel
theorem dX9_greatestHeight_28 : decode cX9_greatestHeight 28 = .ok (.aload_n 0, 1) := by decide +kernel
theorem dX9_greatestHeight_29 : decode cX9_greatestHeight 29 = .ok (.aload_n 0, 1) := by decide +kernel
theorem dX9_greatestHeight_30 : decode cX9_greatestHeight 30 = .ok (.getfield 21, 3) := by decide +kernel
theorem dX9_greatestHeight_33 : decode cX9_greatestHeight 33 = .ok (.iload_n 2, 1) := by decide +kernel
theorem dX9_greatestHeight_34 : decode cX9_greatestHeight 34 = .ok (.iaload, 1) := by decide +kernel
theorem dX9_greatestHeight_35 : decode cX9_greatestHeight 35 = .ok (.invokevirtual 57, 3) := by decide +kernel
theorem dX9_greatestHeight_38 : decode cX9_greatestHeight 38 = .ok (.invokestatic 60, 3) := by decide +kernel
theorem dX9_greatestHeight_41 : decode cX9_greatestHeight 41 = .ok (.iadd, 1) := by decide +kernel
theorem dX9_greatestHeight_42 : decode cX9_greatestHeight 42 = .ok (.iastore, 1) := by decide +kernel
theorem dX9_greatestHeight_43 : decode cX9_greatestHeight 43 = .ok (.iload_n 1, 1) := by decide +kernel
theorem dX9_greatestHeight_44 : decode cX9_greatestHeight 44 = .ok (.aload_n 0, 1) := by decide +kernel
theorem dX9_greatestHeight_45 : decode cX9_greatestHeight 45 = .ok (.getfield 24, 3) := by decide +kernel
theorem dX9_greatestHeight_48 : decode cX9_greatestHeight 48 = .ok (.iload_n 2, 1) := by decide +kernel
theorem dX9_greatestHeight_49 : decode cX9_greatestHeight 49 = .ok (.iaload, 1) := by decide +kernel
theorem dX9_greatestHeight_50 : decode cX9_greatestHeight 50 = .ok (.invokestatic 60, 3) := by decide +kernel
theorem dX9_greatestHeight_53 : decode cX9_greatestHeight 53 = .ok (.istore_n 1, 1) := by decide +kernel
theorem dX9_greatestHeight_54 : decode cX9_greatestHeight 54 = .ok (.iinc 2 1, 3) := by decide +kernel
theorem dX9_greatestHeight_57 : decode cX9_greatestHeight 57 = .ok (.goto (-53), 3) := by decide +kernel
theorem dX9_greatestHeight_60 : decode cX9_greatestHeight 60 = .ok (.iload_n 1, 1) := by decide +kernel
theorem dX9_greatestHeight_61 : decode cX9_greatestHeight 61 = .ok (.ireturn, 1) := by decide +kernel
set_option maxRecDepth 20000 in
theorem ggX9_heightOf_X9_hasNode : GoodIn wsX9_heightOf wsX9_hasNode := goodIn_r _ [6, 7, 8, 9, 10, 11, 12, 13, 14, 15, 16] rfl (by decide +kernel)
set_option maxRecDepth 20000 in
theorem gX9_heightOf_X9_hasNode : GoodIn wsX9_heightOf (wsV RX9 40 RX9 yX9_hasNode wsX9_hasNode) := goodIn_app (goodIn_of _ (by decide +kernel)) ggX9_heightOf_X9_hasNode
theorem dX9_heightOf_0 : decode cX9_heightOf 0 = .ok (.aload_n 0, 1) := by decide +kernel
theorem dX9_heightOf_1 : decode cX9_heightOf 1 = .ok (.iload_n 1, 1) := by decide +kernel
theorem dX9_heightOf_2 : decode cX9_heightOf 2 = .ok (.invokevirtual 40, 3) := by decide +kernel
theorem dX9_heightOf_5 : decode cX9_heightOf 5 = .ok (.ifCond .eq 12, 3) := by decide +kernel
theorem dX9_heightOf_8 : decode cX9_heightOf 8 = .ok (.aload_n 0, 1) := by decide +kernel
theorem dX9_heightOf_9 : decode cX9_heightOf 9 = .ok (.getfield 24, 3) := by decide +kernel
theorem dX9_heightOf_12 : decode cX9_heightOf 12 = .ok (.iload_n 1, 1) := by decide +kernel
theorem dX9_heightOf_13 : decode cX9_heightOf 13 = .ok (.iaload, 1) := by decide +kernel
theorem dX9_heightOf_14 : decode cX9_heightOf 14 = .ok (.goto 4, 3) := by decide +kernel
theorem dX9_heightOf_17 : decode cX9_heightOf 17 = .ok (.iconst 0, 1) := by decide +kernel
theorem dX9_heightOf_18 : decode cX9_heightOf 18 = .ok (.ireturn, 1) := by decide +kernel
theorem dX9_hasNode_0 : decode cX9_hasNode 0 = .ok (.iload_n 1, 1) := by decide +kernel
theorem dX9_hasNode_1 : decode cX9_hasNode 1 = .ok (.ifCond .lt 15, 3) := by decide +kernel
theorem dX9_hasNode_4 : decode cX9_hasNode 4 = .ok (.iload_n 1, 1) := by decide +kernel
theorem dX9_hasNode_5 : decode cX9_hasNode 5 = .ok (.aload_n 0, 1) := by decide +kernel
theorem dX9_hasNode_6 : decode cX9_hasNode 6 = .ok (.getfield 33, 3) := by decide +kernel
theorem dX9_hasNode_9 : decode cX9_hasNode 9 = .ok (.if_icmp .ge 7, 3) := by decide +kernel
theorem dX9_hasNode_12 : decode cX9_hasNode 12 = .ok (.iconst 1, 1) := by decide +kernel
theorem dX9_hasNode_13 : decode cX9_hasNode 13 = .ok (.goto 4, 3) := by decide +kernel
theorem dX9_hasNode_16 : decode cX9_hasNode 16 = .ok (.iconst 0, 1) := by decide +kernel
theorem dX9_hasNode_17 : decode cX9_hasNode 17 = .ok (.ireturn, 1) := by decide +kernel
def fn_Tree_hasNode (t_count : Int32) (x1 : Int32) : Int32 := (if x1 < 0 then 0 else (if t_count ≤ x1 then 0 else 1))
set_option maxHeartbeats 40000000 in
set_option maxRecDepth 100000 in
theorem ct_Tree_hasNode (l : Launch) (D : va_G) (cI cJ cC : ClassId) (adK adV : Nat → Nat) (A_t A_t_kinds A_t_details A_t_lefts A_t_rights A_t_heights A_t_roots A_t_joints : Nat) (sz : Nat) (t_count : Int32) (t_sums : Int32) (x1 : Int32) : Met l yX9_hasNode wsX9_hasNode ({ frames := 0, cells := 0, slots := 0, locals := 0 } : Room) (zP D cI cJ cC adK adV [.ref A_t, .int x1] sz [(A_t, .inr (9, [.ref A_t_kinds, .ref A_t_details, .ref A_t_lefts, .ref A_t_rights, .ref A_t_heights, .int t_count, .ref A_t_roots, .ref A_t_joints, .int t_sums]))]) (zQi D cI cJ cC (fn_Tree_hasNode t_count x1) [(A_t, .inr (9, [.ref A_t_kinds, .ref A_t_details, .ref A_t_lefts, .ref A_t_rights, .ref A_t_heights, .int t_count, .ref A_t_roots, .ref A_t_joints, .int t_sums]))] (va_A [(A_t, .inr (9, [.ref A_t_kinds, .ref A_t_details, .ref A_t_lefts, .ref A_t_rights, .ref A_t_heights, .int t_count, .ref A_t_roots, .ref A_t_joints, .int t_sums]))] sz)) 0 0 (va_A [(A_t, .inr (9, [.ref A_t_kinds, .ref A_t_details, .ref A_t_lefts, .ref A_t_rights, .ref A_t_heights, .int t_count, .ref A_t_roots, .ref A_t_joints, .int t_sums]))] sz) := by
  obtain ⟨rs, hM⟩ : ∃ rs, fn_Tree_hasNode t_count x1 = rs := ⟨_, rfl⟩
  rw [hM]
  refine Met.ofW (cc := cX9_hasNode) (maxL := 2) (ret := (some .boolean)) (by decide) rfl ?_
  intro p e s m args below meth c s₁ B hml hv0
  obtain ⟨hargs, hsz, hP, hK, hD0, hX⟩ := hv0
  have hx := B.exec
  have hb := B.bytes
  have hr := B.returns
  have hts := atoms_spec (ws := wsX9_hasNode) B.pre
  have hown : s.vm.findClass RX9 = some m.cls := findClass_of_methodNamed B.named
  have hlocks := B.notSynchronized
  subst hsz
  have hD := hD0.self (sz := s.heap.size)
  generalize hAe : va_A [(A_t, .inr (9, [.ref A_t_kinds, .ref A_t_details, .ref A_t_lefts, .ref A_t_rights, .ref A_t_heights, .int t_count, .ref A_t_roots, .ref A_t_joints, .int t_sums]))] s.heap.size = A at hD hX ⊢
  have hA : ∀ q : Nat, s.heap.size ≤ q → A q := fun q h => by rw [← hAe]; exact Or.inr h
  have hS : va_S A s.heap s.heap [] := va_S.rf
  have hl := lv_entry ([.ref A_t, .int x1]) (n := 2) (Nat.le_of_ble_eq_true rfl)
  rw [hargs, lg_entry_eq, ← hargs]
  generalize (lg_sl ([.ref A_t, .int x1]) ++ List.replicate (2 - (lg_sl ([.ref A_t, .int x1])).length) Slot.unset).toArray = ls at hl ⊢
  have hl : lv_has ls 2 [(0, .ref A_t), (1, .int x1)] := hl
  have hw0 : ∀ w ∈ u_ws RX9 TX9 9, w ∈ wsX9_hasNode := by decide +kernel
  have hw1 := hts (.fieldLink RX9 33 "NotationParser$Tree" "count" "I") (by decide +kernel)
  refine lv_iload_n hx hb dX9_hasNode_0 rfl (lv_at hl 1 rfl) ?_
  refine lv_if_lt (tgt := 16) hx hb dX9_hasNode_1 (by decide) (fun c1 => ?_) (fun c1 => ?_)
  · have hM := z_t c1 hM
    refine lv_iconst (v := 0) hx hb dX9_hasNode_16 (by decide) ?_
    have hM := hM
    subst hM
    exact W.zret (v := 0) (ty := .boolean) hx hb hr rfl (fun t ht hW => ⟨⟨_, (), rfl, rfl, ⟨by rw [ht]; exact hP, va_K.moved hW.alike hK, hD⟩⟩, hS.F ht⟩) hS.2.2 dX9_hasNode_17
  · have hM := z_f c1 hM
    refine lv_iload_n hx hb dX9_hasNode_4 rfl (lv_at hl 1 rfl) ?_
    refine lv_aload_n hx hb dX9_hasNode_5 rfl (lv_at hl 0 rfl) ?_
    refine va_get (D := D) (ci := 9) (v := .int t_count) (C := RX9) (T := TX9) (N := 9) hx hb hts hw0 hown hK hP 0 rfl rfl 5 (by decide) hw1 (fun _ h9 => h9) rfl dX9_hasNode_6 ?_
    refine lv_icmp_ge (tgt := 16) hx hb dX9_hasNode_9 (by decide) (fun c2 => ?_) (fun c2 => ?_)
    · have hM := z_t c2 hM
      refine lv_iconst (v := 0) hx hb dX9_hasNode_16 (by decide) ?_
      have hM := hM
      subst hM
      exact W.zret (v := 0) (ty := .boolean) hx hb hr rfl (fun t ht hW => ⟨⟨_, (), rfl, rfl, ⟨by rw [ht]; exact hP, va_K.moved hW.alike hK, hD⟩⟩, hS.F ht⟩) hS.2.2 dX9_hasNode_17
    · have hM := z_f c2 hM
      refine lv_iconst (v := 1) hx hb dX9_hasNode_12 (by decide) ?_
      refine lv_goto (tgt := 17) hx hb dX9_hasNode_13 (by decide) ?_
      have hM := hM
      subst hM
      exact W.zret (v := 1) (ty := .boolean) hx hb hr rfl (fun t ht hW => ⟨⟨_, (), rfl, rfl, ⟨by rw [ht]; exact hP, va_K.moved hW.alike hK, hD⟩⟩, hS.F ht⟩) hS.2.2 dX9_hasNode_17
def fn_Tree_clear (t_count : Int32) (t_sums : Int32) : Int32 × Int32 := (0, 0)
set_option maxHeartbeats 40000000 in
set_option maxRecDepth 100000 in
theorem ct_Tree_clear (l : Launch) (D : va_G) (cI cJ cC : ClassId) (adK adV : Nat → Nat) (A_t A_t_kinds A_t_details A_t_lefts A_t_rights A_t_heights A_t_roots A_t_joints : Nat) (sz : Nat) (t_count : Int32) (t_sums : Int32) : Met l yX9_clear wsX9_clear ({ frames := 0, cells := 0, slots := 0, locals := 0 } : Room) (zP D cI cJ cC adK adV [.ref A_t] sz [(A_t, .inr (9, [.ref A_t_kinds, .ref A_t_details, .ref A_t_lefts, .ref A_t_rights, .ref A_t_heights, .int t_count, .ref A_t_roots, .ref A_t_joints, .int t_sums]))]) (zQv D cI cJ cC [(A_t, .inr (9, [.ref A_t_kinds, .ref A_t_details, .ref A_t_lefts, .ref A_t_rights, .ref A_t_heights, .int (fn_Tree_clear t_count t_sums).1, .ref A_t_roots, .ref A_t_joints, .int (fn_Tree_clear t_count t_sums).2]))] (va_A [(A_t, .inr (9, [.ref A_t_kinds, .ref A_t_details, .ref A_t_lefts, .ref A_t_rights, .ref A_t_heights, .int t_count, .ref A_t_roots, .ref A_t_joints, .int t_sums]))] sz)) 0 0 (va_A [(A_t, .inr (9, [.ref A_t_kinds, .ref A_t_details, .ref A_t_lefts, .ref A_t_rights, .ref A_t_heights, .int t_count, .ref A_t_roots, .ref A_t_joints, .int t_sums]))] sz) := by
  obtain ⟨rs, hM⟩ : ∃ rs, fn_Tree_clear t_count t_sums = rs := ⟨_, rfl⟩
  rw [hM]
  refine Met.ofW (cc := cX9_clear) (maxL := 1) (ret := none) (by decide) rfl ?_
  intro p e s m args below meth c s₁ B hml hv0
  obtain ⟨hargs, hsz, hP, hK, hD0, hX⟩ := hv0
  have hx := B.exec
  have hb := B.bytes
  have hr := B.returns
  have hts := atoms_spec (ws := wsX9_clear) B.pre
  have hown : s.vm.findClass RX9 = some m.cls := findClass_of_methodNamed B.named
  have hlocks := B.notSynchronized
  subst hsz
  have hD := hD0.self (sz := s.heap.size)
  generalize hAe : va_A [(A_t, .inr (9, [.ref A_t_kinds, .ref A_t_details, .ref A_t_lefts, .ref A_t_rights, .ref A_t_heights, .int t_count, .ref A_t_roots, .ref A_t_joints, .int t_sums]))] s.heap.size = A at hD hX ⊢
  have hA : ∀ q : Nat, s.heap.size ≤ q → A q := fun q h => by rw [← hAe]; exact Or.inr h
  have hS : va_S A s.heap s.heap [] := va_S.rf
  have hl := lv_entry ([.ref A_t]) (n := 1) (Nat.le_of_ble_eq_true rfl)
  rw [hargs, lg_entry_eq, ← hargs]
  generalize (lg_sl ([.ref A_t]) ++ List.replicate (1 - (lg_sl ([.ref A_t])).length) Slot.unset).toArray = ls at hl ⊢
  have hl : lv_has ls 1 [(0, .ref A_t)] := hl
  have hw0 : ∀ w ∈ u_ws RX9 TX9 9, w ∈ wsX9_clear := by decide +kernel
  have hw1 := hts (.fieldLink RX9 33 "NotationParser$Tree" "count" "I") (by decide +kernel)
  have hw2 := hts (.fieldLink RX9 37 "NotationParser$Tree" "sums" "I") (by decide +kernel)
  refine lv_aload_n hx hb dX9_clear_0 rfl (lv_at hl 0 rfl) ?_
  refine lv_iconst (v := 0) hx hb dX9_clear_1 (by decide) ?_
  refine va_put (D := D) (ci := 9) (v := .int 0) (ty := .int) (C := RX9) (T := TX9) (N := 9) hx hb hts hw0 tyX9 tyX9_ok nmX9 hown hK hP hD hS 0 rfl rfl 5 (by decide) hw1 (fun _ h9 => h9) rfl (by decide +kernel) rfl rfl (Nat.le_of_ble_eq_true rfl) dX9_clear_2 (fun H1 locs hP hD hS => ?_)
  have hP : va_P D vwCl [(A_t, .inr (9, [.ref A_t_kinds, .ref A_t_details, .ref A_t_lefts, .ref A_t_rights, .ref A_t_heights, .int 0, .ref A_t_roots, .ref A_t_joints, .int t_sums]))] H1 := hP
  have hD : va_D A [(A_t, .inr (9, [.ref A_t_kinds, .ref A_t_details, .ref A_t_lefts, .ref A_t_rights, .ref A_t_heights, .int 0, .ref A_t_roots, .ref A_t_joints, .int t_sums]))] := hD
  refine lv_aload_n hx hb dX9_clear_5 rfl (lv_at hl 0 rfl) ?_
  refine lv_iconst (v := 0) hx hb dX9_clear_6 (by decide) ?_
  refine va_put (D := D) (ci := 9) (v := .int 0) (ty := .int) (C := RX9) (T := TX9) (N := 9) hx hb hts hw0 tyX9 tyX9_ok nmX9 hown hK hP hD hS 0 rfl rfl 8 (by decide) hw2 (fun _ h9 => h9) rfl (by decide +kernel) rfl rfl (Nat.le_of_ble_eq_true rfl) dX9_clear_7 (fun H2 locs hP hD hS => ?_)
  have hP : va_P D vwCl [(A_t, .inr (9, [.ref A_t_kinds, .ref A_t_details, .ref A_t_lefts, .ref A_t_rights, .ref A_t_heights, .int 0, .ref A_t_roots, .ref A_t_joints, .int 0]))] H2 := hP
  have hD : va_D A [(A_t, .inr (9, [.ref A_t_kinds, .ref A_t_details, .ref A_t_lefts, .ref A_t_rights, .ref A_t_heights, .int 0, .ref A_t_roots, .ref A_t_joints, .int 0]))] := hD
  have hM := hM
  subst hM
  exact W.vret hx hb hr (fun t ht hW => ⟨⟨(), rfl, trivial, ⟨by rw [ht]; exact hP, va_K.moved hW.alike hK, hD⟩⟩, hS.F ht⟩) hS.2.2 dX9_clear_10
def fn_Tree_addNode (t_count : Int32) (t_kinds : Nat → Int32) (t_details : Nat → Int32) (t_lefts : Nat → Int32) (t_rights : Nat → Int32) (x1 : Int32) (x2 : Int32) (x3 : Int32) (x4 : Int32) : Option (Int32 × Int32 × (Nat → Int32) × (Nat → Int32) × (Nat → Int32) × (Nat → Int32)) := (if t_count < 160 then (if (t_count < 0 ∨ 160 ≤ t_count.toNatClampNeg) then none else (if (t_count < 0 ∨ 160 ≤ t_count.toNatClampNeg) then none else (if (t_count < 0 ∨ 160 ≤ t_count.toNatClampNeg) then none else (if (t_count < 0 ∨ 160 ≤ t_count.toNatClampNeg) then none else some (((t_count + 1) - 1), (t_count + 1), (upd t_kinds t_count.toNatClampNeg x1), (upd t_details t_count.toNatClampNeg x2), (upd t_lefts t_count.toNatClampNeg x3), (upd t_rights t_count.toNatClampNeg x4)))))) else some ((-1), t_count, t_kinds, t_details, t_lefts, t_rights))
set_option maxHeartbeats 40000000 in
set_option maxRecDepth 100000 in
theorem ct_Tree_addNode (l : Launch) (D : va_G) (cI cJ cC : ClassId) (adK adV : Nat → Nat) (A_t A_t_kinds A_t_details A_t_lefts A_t_rights A_t_heights A_t_roots A_t_joints : Nat) (sz : Nat) (t_count : Int32) (t_sums : Int32) (t_kinds : Nat → Int32) (t_details : Nat → Int32) (t_lefts : Nat → Int32) (t_rights : Nat → Int32) (x1 : Int32) (x2 : Int32) (x3 : Int32) (x4 : Int32) {rs : Int32 × Int32 × (Nat → Int32) × (Nat → Int32) × (Nat → Int32) × (Nat → Int32)} (hM : fn_Tree_addNode t_count t_kinds t_details t_lefts t_rights x1 x2 x3 x4 = some rs) : Met l yX9_addNode wsX9_addNode ({ frames := 0, cells := 0, slots := 0, locals := 0 } : Room) (zP D cI cJ cC adK adV [.ref A_t, .int x1, .int x2, .int x3, .int x4] sz [(A_t, .inr (9, [.ref A_t_kinds, .ref A_t_details, .ref A_t_lefts, .ref A_t_rights, .ref A_t_heights, .int t_count, .ref A_t_roots, .ref A_t_joints, .int t_sums])), (A_t_kinds, .inl (cI, 160, .inl t_kinds)), (A_t_details, .inl (cI, 160, .inl t_details)), (A_t_lefts, .inl (cI, 160, .inl t_lefts)), (A_t_rights, .inl (cI, 160, .inl t_rights))]) (zQi D cI cJ cC rs.1 [(A_t, .inr (9, [.ref A_t_kinds, .ref A_t_details, .ref A_t_lefts, .ref A_t_rights, .ref A_t_heights, .int rs.2.1, .ref A_t_roots, .ref A_t_joints, .int t_sums])), (A_t_kinds, .inl (cI, 160, .inl rs.2.2.1)), (A_t_details, .inl (cI, 160, .inl rs.2.2.2.1)), (A_t_lefts, .inl (cI, 160, .inl rs.2.2.2.2.1)), (A_t_rights, .inl (cI, 160, .inl rs.2.2.2.2.2))] (va_A [(A_t, .inr (9, [.ref A_t_kinds, .ref A_t_details, .ref A_t_lefts, .ref A_t_rights, .ref A_t_heights, .int t_count, .ref A_t_roots, .ref A_t_joints, .int t_sums])), (A_t_kinds, .inl (cI, 160, .inl t_kinds)), (A_t_details, .inl (cI, 160, .inl t_details)), (A_t_lefts, .inl (cI, 160, .inl t_lefts)), (A_t_rights, .inl (cI, 160, .inl t_rights))] sz)) 0 0 (va_A [(A_t, .inr (9, [.ref A_t_kinds, .ref A_t_details, .ref A_t_lefts, .ref A_t_rights, .ref A_t_heights, .int t_count, .ref A_t_roots, .ref A_t_joints, .int t_sums])), (A_t_kinds, .inl (cI, 160, .inl t_kinds)), (A_t_details, .inl (cI, 160, .inl t_details)), (A_t_lefts, .inl (cI, 160, .inl t_lefts)), (A_t_rights, .inl (cI, 160, .inl t_rights))] sz) := by
  refine Met.ofW (cc := cX9_addNode) (maxL := 5) (ret := (some .int)) (by decide) rfl ?_
  intro p e s m args below meth c s₁ B hml hv0
  obtain ⟨hargs, hsz, hP, hK, hD0, hX⟩ := hv0
  have hx := B.exec
  have hb := B.bytes
  have hr := B.returns
  have hts := atoms_spec (ws := wsX9_addNode) B.pre
  have hown : s.vm.findClass RX9 = some m.cls := findClass_of_methodNamed B.named
  have hlocks := B.notSynchronized
  subst hsz
  have hD := hD0.self (sz := s.heap.size)
  generalize hAe : va_A [(A_t, .inr (9, [.ref A_t_kinds, .ref A_t_details, .ref A_t_lefts, .ref A_t_rights, .ref A_t_heights, .int t_count, .ref A_t_roots, .ref A_t_joints, .int t_sums])), (A_t_kinds, .inl (cI, 160, .inl t_kinds)), (A_t_details, .inl (cI, 160, .inl t_details)), (A_t_lefts, .inl (cI, 160, .inl t_lefts)), (A_t_rights, .inl (cI, 160, .inl t_rights))] s.heap.size = A at hD hX ⊢
  have hA : ∀ q : Nat, s.heap.size ≤ q → A q := fun q h => by rw [← hAe]; exact Or.inr h
  have hS : va_S A s.heap s.heap [] := va_S.rf
  have hl := lv_entry ([.ref A_t, .int x1, .int x2, .int x3, .int x4]) (n := 5) (Nat.le_of_ble_eq_true rfl)
  rw [hargs, lg_entry_eq, ← hargs]
  generalize (lg_sl ([.ref A_t, .int x1, .int x2, .int x3, .int x4]) ++ List.replicate (5 - (lg_sl ([.ref A_t, .int x1, .int x2, .int x3, .int x4])).length) Slot.unset).toArray = ls at hl ⊢
  have hl : lv_has ls 5 [(0, .ref A_t), (1, .int x1), (2, .int x2), (3, .int x3), (4, .int x4)] := hl
  have hw0 : ∀ w ∈ u_ws RX9 TX9 9, w ∈ wsX9_addNode := by decide +kernel
  have hw1 := hts (.fieldLink RX9 33 "NotationParser$Tree" "count" "I") (by decide +kernel)
  have hw2 := hts (.fieldLink RX9 9 "NotationParser$Tree" "kinds" "[I") (by decide +kernel)
  have hw3 := hts (.fieldLink RX9 15 "NotationParser$Tree" "details" "[I") (by decide +kernel)
  have hw4 := hts (.fieldLink RX9 18 "NotationParser$Tree" "lefts" "[I") (by decide +kernel)
  have hw5 := hts (.fieldLink RX9 21 "NotationParser$Tree" "rights" "[I") (by decide +kernel)
  refine lv_aload_n hx hb dX9_addNode_0 rfl (lv_at hl 0 rfl) ?_
  refine va_get (D := D) (ci := 9) (v := .int t_count) (C := RX9) (T := TX9) (N := 9) hx hb hts hw0 hown hK hP 0 rfl rfl 5 (by decide) hw1 (fun _ h9 => h9) rfl dX9_addNode_1 ?_
  refine lv_sipush (v := 160) hx hb dX9_addNode_4 (by decide) ?_
  refine lv_icmp_lt (tgt := 12) hx hb dX9_addNode_7 (by decide) (fun c1 => ?_) (fun c1 => ?_)
  · have hM := z_t c1 hM
    refine lv_aload_n hx hb dX9_addNode_12 rfl (lv_at hl 0 rfl) ?_
    refine va_get (D := D) (ci := 9) (v := .ref A_t_kinds) (C := RX9) (T := TX9) (N := 9) hx hb hts hw0 hown hK hP 0 rfl rfl 0 (by decide) hw2 (fun _ h9 => h9) rfl dX9_addNode_13 ?_
    refine lv_aload_n hx hb dX9_addNode_16 rfl (lv_at hl 0 rfl) ?_
    refine va_get (D := D) (ci := 9) (v := .int t_count) (C := RX9) (T := TX9) (N := 9) hx hb hts hw0 hown hK hP 0 rfl rfl 5 (by decide) hw1 (fun _ h9 => h9) rfl dX9_addNode_17 ?_
    refine lv_iload_n hx hb dX9_addNode_20 rfl (lv_at hl 1 rfl) ?_
    obtain ⟨g2, hM⟩ := z_g hM
    refine va_iast hx hb hK hP hD hS 1 0 rfl rfl g2 dX9_addNode_21 (fun H3 locs hP hD hS => ?_)
    have hP : va_P D vwCl [(A_t, .inr (9, [.ref A_t_kinds, .ref A_t_details, .ref A_t_lefts, .ref A_t_rights, .ref A_t_heights, .int t_count, .ref A_t_roots, .ref A_t_joints, .int t_sums])), (A_t_kinds, .inl (cI, 160, .inl (upd t_kinds t_count.toNatClampNeg x1))), (A_t_details, .inl (cI, 160, .inl t_details)), (A_t_lefts, .inl (cI, 160, .inl t_lefts)), (A_t_rights, .inl (cI, 160, .inl t_rights))] H3 := hP
    have hD : va_D A [(A_t, .inr (9, [.ref A_t_kinds, .ref A_t_details, .ref A_t_lefts, .ref A_t_rights, .ref A_t_heights, .int t_count, .ref A_t_roots, .ref A_t_joints, .int t_sums])), (A_t_kinds, .inl (cI, 160, .inl (upd t_kinds t_count.toNatClampNeg x1))), (A_t_details, .inl (cI, 160, .inl t_details)), (A_t_lefts, .inl (cI, 160, .inl t_lefts)), (A_t_rights, .inl (cI, 160, .inl t_rights))] := hD
    refine lv_aload_n hx hb dX9_addNode_22 rfl (lv_at hl 0 rfl) ?_
    refine va_get (D := D) (ci := 9) (v := .ref A_t_details) (C := RX9) (T := TX9) (N := 9) hx hb hts hw0 hown hK hP 0 rfl rfl 1 (by decide) hw3 (fun _ h9 => h9) rfl dX9_addNode_23 ?_
    refine lv_aload_n hx hb dX9_addNode_26 rfl (lv_at hl 0 rfl) ?_
    refine va_get (D := D) (ci := 9) (v := .int t_count) (C := RX9) (T := TX9) (N := 9) hx hb hts hw0 hown hK hP 0 rfl rfl 5 (by decide) hw1 (fun _ h9 => h9) rfl dX9_addNode_27 ?_
    refine lv_iload_n hx hb dX9_addNode_30 rfl (lv_at hl 2 rfl) ?_
    obtain ⟨g4, hM⟩ := z_g hM
    refine va_iast hx hb hK hP hD hS 2 0 rfl rfl g4 dX9_addNode_31 (fun H5 locs hP hD hS => ?_)
    have hP : va_P D vwCl [(A_t, .inr (9, [.ref A_t_kinds, .ref A_t_details, .ref A_t_lefts, .ref A_t_rights, .ref A_t_heights, .int t_count, .ref A_t_roots, .ref A_t_joints, .int t_sums])), (A_t_kinds, .inl (cI, 160, .inl (upd t_kinds t_count.toNatClampNeg x1))), (A_t_details, .inl (cI, 160, .inl (upd t_details t_count.toNatClampNeg x2))), (A_t_lefts, .inl (cI, 160, .inl t_lefts)), (A_t_rights, .inl (cI, 160, .inl t_rights))] H5 := hP
    have hD : va_D A [(A_t, .inr (9, [.ref A_t_kinds, .ref A_t_details, .ref A_t_lefts, .ref A_t_rights, .ref A_t_heights, .int t_count, .ref A_t_roots, .ref A_t_joints, .int t_sums])), (A_t_kinds, .inl (cI, 160, .inl (upd t_kinds t_count.toNatClampNeg x1))), (A_t_details, .inl (cI, 160, .inl (upd t_details t_count.toNatClampNeg x2))), (A_t_lefts, .inl (cI, 160, .inl t_lefts)), (A_t_rights, .inl (cI, 160, .inl t_rights))] := hD
    refine lv_aload_n hx hb dX9_addNode_32 rfl (lv_at hl 0 rfl) ?_
    refine va_get (D := D) (ci := 9) (v := .ref A_t_lefts) (C := RX9) (T := TX9) (N := 9) hx hb hts hw0 hown hK hP 0 rfl rfl 2 (by decide) hw4 (fun _ h9 => h9) rfl dX9_addNode_33 ?_
    refine lv_aload_n hx hb dX9_addNode_36 rfl (lv_at hl 0 rfl) ?_
    refine va_get (D := D) (ci := 9) (v := .int t_count) (C := RX9) (T := TX9) (N := 9) hx hb hts hw0 hown hK hP 0 rfl rfl 5 (by decide) hw1 (fun _ h9 => h9) rfl dX9_addNode_37 ?_
    refine lv_iload_n hx hb dX9_addNode_40 rfl (lv_at hl 3 rfl) ?_
    obtain ⟨g6, hM⟩ := z_g hM
    refine va_iast hx hb hK hP hD hS 3 0 rfl rfl g6 dX9_addNode_41 (fun H7 locs hP hD hS => ?_)
    have hP : va_P D vwCl [(A_t, .inr (9, [.ref A_t_kinds, .ref A_t_details, .ref A_t_lefts, .ref A_t_rights, .ref A_t_heights, .int t_count, .ref A_t_roots, .ref A_t_joints, .int t_sums])), (A_t_kinds, .inl (cI, 160, .inl (upd t_kinds t_count.toNatClampNeg x1))), (A_t_details, .inl (cI, 160, .inl (upd t_details t_count.toNatClampNeg x2))), (A_t_lefts, .inl (cI, 160, .inl (upd t_lefts t_count.toNatClampNeg x3))), (A_t_rights, .inl (cI, 160, .inl t_rights))] H7 := hP
    have hD : va_D A [(A_t, .inr (9, [.ref A_t_kinds, .ref A_t_details, .ref A_t_lefts, .ref A_t_rights, .ref A_t_heights, .int t_count, .ref A_t_roots, .ref A_t_joints, .int t_sums])), (A_t_kinds, .inl (cI, 160, .inl (upd t_kinds t_count.toNatClampNeg x1))), (A_t_details, .inl (cI, 160, .inl (upd t_details t_count.toNatClampNeg x2))), (A_t_lefts, .inl (cI, 160, .inl (upd t_lefts t_count.toNatClampNeg x3))), (A_t_rights, .inl (cI, 160, .inl t_rights))] := hD
    refine lv_aload_n hx hb dX9_addNode_42 rfl (lv_at hl 0 rfl) ?_
    refine va_get (D := D) (ci := 9) (v := .ref A_t_rights) (C := RX9) (T := TX9) (N := 9) hx hb hts hw0 hown hK hP 0 rfl rfl 3 (by decide) hw5 (fun _ h9 => h9) rfl dX9_addNode_43 ?_
    refine lv_aload_n hx hb dX9_addNode_46 rfl (lv_at hl 0 rfl) ?_
    refine va_get (D := D) (ci := 9) (v := .int t_count) (C := RX9) (T := TX9) (N := 9) hx hb hts hw0 hown hK hP 0 rfl rfl 5 (by decide) hw1 (fun _ h9 => h9) rfl dX9_addNode_47 ?_
    refine lv_iload hx hb dX9_addNode_50 (lv_at hl 4 rfl) ?_
    obtain ⟨g8, hM⟩ := z_g hM
    refine va_iast hx hb hK hP hD hS 4 0 rfl rfl g8 dX9_addNode_52 (fun H9 locs hP hD hS => ?_)
    have hP : va_P D vwCl [(A_t, .inr (9, [.ref A_t_kinds, .ref A_t_details, .ref A_t_lefts, .ref A_t_rights, .ref A_t_heights, .int t_count, .ref A_t_roots, .ref A_t_joints, .int t_sums])), (A_t_kinds, .inl (cI, 160, .inl (upd t_kinds t_count.toNatClampNeg x1))), (A_t_details, .inl (cI, 160, .inl (upd t_details t_count.toNatClampNeg x2))), (A_t_lefts, .inl (cI, 160, .inl (upd t_lefts t_count.toNatClampNeg x3))), (A_t_rights, .inl (cI, 160, .inl (upd t_rights t_count.toNatClampNeg x4)))] H9 := hP
    have hD : va_D A [(A_t, .inr (9, [.ref A_t_kinds, .ref A_t_details, .ref A_t_lefts, .ref A_t_rights, .ref A_t_heights, .int t_count, .ref A_t_roots, .ref A_t_joints, .int t_sums])), (A_t_kinds, .inl (cI, 160, .inl (upd t_kinds t_count.toNatClampNeg x1))), (A_t_details, .inl (cI, 160, .inl (upd t_details t_count.toNatClampNeg x2))), (A_t_lefts, .inl (cI, 160, .inl (upd t_lefts t_count.toNatClampNeg x3))), (A_t_rights, .inl (cI, 160, .inl (upd t_rights t_count.toNatClampNeg x4)))] := hD
    refine lv_aload_n hx hb dX9_addNode_53 rfl (lv_at hl 0 rfl) ?_
    refine lv_dup hx hb dX9_addNode_54 rfl ?_
    refine va_get (D := D) (ci := 9) (v := .int t_count) (C := RX9) (T := TX9) (N := 9) hx hb hts hw0 hown hK hP 0 rfl rfl 5 (by decide) hw1 (fun _ h9 => h9) rfl dX9_addNode_55 ?_
    refine lv_iconst (v := 1) hx hb dX9_addNode_58 (by decide) ?_
    refine lv_iadd hx hb dX9_addNode_59 ?_
    refine va_put (D := D) (ci := 9) (v := .int (t_count + 1)) (ty := .int) (C := RX9) (T := TX9) (N := 9) hx hb hts hw0 tyX9 tyX9_ok nmX9 hown hK hP hD hS 0 rfl rfl 5 (by decide) hw1 (fun _ h9 => h9) rfl (by decide +kernel) rfl rfl (Nat.le_of_ble_eq_true rfl) dX9_addNode_60 (fun H10 locs hP hD hS => ?_)
    have hP : va_P D vwCl [(A_t, .inr (9, [.ref A_t_kinds, .ref A_t_details, .ref A_t_lefts, .ref A_t_rights, .ref A_t_heights, .int (t_count + 1), .ref A_t_roots, .ref A_t_joints, .int t_sums])), (A_t_kinds, .inl (cI, 160, .inl (upd t_kinds t_count.toNatClampNeg x1))), (A_t_details, .inl (cI, 160, .inl (upd t_details t_count.toNatClampNeg x2))), (A_t_lefts, .inl (cI, 160, .inl (upd t_lefts t_count.toNatClampNeg x3))), (A_t_rights, .inl (cI, 160, .inl (upd t_rights t_count.toNatClampNeg x4)))] H10 := hP
    have hD : va_D A [(A_t, .inr (9, [.ref A_t_kinds, .ref A_t_details, .ref A_t_lefts, .ref A_t_rights, .ref A_t_heights, .int (t_count + 1), .ref A_t_roots, .ref A_t_joints, .int t_sums])), (A_t_kinds, .inl (cI, 160, .inl (upd t_kinds t_count.toNatClampNeg x1))), (A_t_details, .inl (cI, 160, .inl (upd t_details t_count.toNatClampNeg x2))), (A_t_lefts, .inl (cI, 160, .inl (upd t_lefts t_count.toNatClampNeg x3))), (A_t_rights, .inl (cI, 160, .inl (upd t_rights t_count.toNatClampNeg x4)))] := hD
    refine lv_aload_n hx hb dX9_addNode_63 rfl (lv_at hl 0 rfl) ?_
    refine va_get (D := D) (ci := 9) (v := .int (t_count + 1)) (C := RX9) (T := TX9) (N := 9) hx hb hts hw0 hown hK hP 0 rfl rfl 5 (by decide) hw1 (fun _ h9 => h9) rfl dX9_addNode_64 ?_
    refine lv_iconst (v := 1) hx hb dX9_addNode_67 (by decide) ?_
    refine lv_isub hx hb dX9_addNode_68 ?_
    have hM := Option.some.inj hM
    subst hM
    exact W.iret (v := ((t_count + 1) - 1)) hx hb hr (fun t ht hW => ⟨⟨_, (), rfl, rfl, ⟨by rw [ht]; exact hP, va_K.moved hW.alike hK, hD⟩⟩, hS.F ht⟩) hS.2.2 dX9_addNode_69
  · have hM := z_f c1 hM
    refine lv_iconst (v := (-1)) hx hb dX9_addNode_10 (by decide) ?_
    have hM := Option.some.inj hM
    subst hM
    exact W.iret (v := (-1)) hx hb hr (fun t ht hW => ⟨⟨_, (), rfl, rfl, ⟨by rw [ht]; exact hP, va_K.moved hW.alike hK, hD⟩⟩, hS.F ht⟩) hS.2.2 dX9_addNode_11
def fn_Tree_addSum (t_sums : Int32) (t_roots : Nat → Int32) (t_joints : Nat → Int32) (x1 : Int32) (x2 : Int32) : Option (Int32 × (Nat → Int32) × (Nat → Int32)) := (if 9 ≤ t_sums then some (t_sums, t_roots, t_joints) else (if (t_sums < 0 ∨ 9 ≤ t_sums.toNatClampNeg) then none else (if (t_sums < 0 ∨ 9 ≤ t_sums.toNatClampNeg) then none else some ((t_sums + 1), (upd t_roots t_sums.toNatClampNeg x2), (upd t_joints t_sums.toNatClampNeg x1)))))
set_option maxHeartbeats 40000000 in
set_option maxRecDepth 100000 in
theorem ct_Tree_addSum (l : Launch) (D : va_G) (cI cJ cC : ClassId) (adK adV : Nat → Nat) (A_t A_t_kinds A_t_details A_t_lefts A_t_rights A_t_heights A_t_roots A_t_joints : Nat) (sz : Nat) (t_count : Int32) (t_sums : Int32) (t_roots : Nat → Int32) (t_joints : Nat → Int32) (x1 : Int32) (x2 : Int32) {rs : Int32 × (Nat → Int32) × (Nat → Int32)} (hM : fn_Tree_addSum t_sums t_roots t_joints x1 x2 = some rs) : Met l yX9_addSum wsX9_addSum ({ frames := 0, cells := 0, slots := 0, locals := 0 } : Room) (zP D cI cJ cC adK adV [.ref A_t, .int x1, .int x2] sz [(A_t, .inr (9, [.ref A_t_kinds, .ref A_t_details, .ref A_t_lefts, .ref A_t_rights, .ref A_t_heights, .int t_count, .ref A_t_roots, .ref A_t_joints, .int t_sums])), (A_t_roots, .inl (cI, 9, .inl t_roots)), (A_t_joints, .inl (cI, 9, .inl t_joints))]) (zQv D cI cJ cC [(A_t, .inr (9, [.ref A_t_kinds, .ref A_t_details, .ref A_t_lefts, .ref A_t_rights, .ref A_t_heights, .int t_count, .ref A_t_roots, .ref A_t_joints, .int rs.1])), (A_t_roots, .inl (cI, 9, .inl rs.2.1)), (A_t_joints, .inl (cI, 9, .inl rs.2.2))] (va_A [(A_t, .inr (9, [.ref A_t_kinds, .ref A_t_details, .ref A_t_lefts, .ref A_t_rights, .ref A_t_heights, .int t_count, .ref A_t_roots, .ref A_t_joints, .int t_sums])), (A_t_roots, .inl (cI, 9, .inl t_roots)), (A_t_joints, .inl (cI, 9, .inl t_joints))] sz)) 0 0 (va_A [(A_t, .inr (9, [.ref A_t_kinds, .ref A_t_details, .ref A_t_lefts, .ref A_t_rights, .ref A_t_heights, .int t_count, .ref A_t_roots, .ref A_t_joints, .int t_sums])), (A_t_roots, .inl (cI, 9, .inl t_roots)), (A_t_joints, .inl (cI, 9, .inl t_joints))] sz) := by
  refine Met.ofW (cc := cX9_addSum) (maxL := 3) (ret := none) (by decide) rfl ?_
  intro p e s m args below meth c s₁ B hml hv0
  obtain ⟨hargs, hsz, hP, hK, hD0, hX⟩ := hv0
  have hx := B.exec
  have hb := B.bytes
  have hr := B.returns
  have hts := atoms_spec (ws := wsX9_addSum) B.pre
  have hown : s.vm.findClass RX9 = some m.cls := findClass_of_methodNamed B.named
  have hlocks := B.notSynchronized
  subst hsz
  have hD := hD0.self (sz := s.heap.size)
  generalize hAe : va_A [(A_t, .inr (9, [.ref A_t_kinds, .ref A_t_details, .ref A_t_lefts, .ref A_t_rights, .ref A_t_heights, .int t_count, .ref A_t_roots, .ref A_t_joints, .int t_sums])), (A_t_roots, .inl (cI, 9, .inl t_roots)), (A_t_joints, .inl (cI, 9, .inl t_joints))] s.heap.size = A at hD hX ⊢
  have hA : ∀ q : Nat, s.heap.size ≤ q → A q := fun q h => by rw [← hAe]; exact Or.inr h
  have hS : va_S A s.heap s.heap [] := va_S.rf
  have hl := lv_entry ([.ref A_t, .int x1, .int x2]) (n := 3) (Nat.le_of_ble_eq_true rfl)
  rw [hargs, lg_entry_eq, ← hargs]
  generalize (lg_sl ([.ref A_t, .int x1, .int x2]) ++ List.replicate (3 - (lg_sl ([.ref A_t, .int x1, .int x2])).length) Slot.unset).toArray = ls at hl ⊢
  have hl : lv_has ls 3 [(0, .ref A_t), (1, .int x1), (2, .int x2)] := hl
  have hw0 : ∀ w ∈ u_ws RX9 TX9 9, w ∈ wsX9_addSum := by decide +kernel
  have hw1 := hts (.fieldLink RX9 37 "NotationParser$Tree" "sums" "I") (by decide +kernel)
  have hw2 := hts (.fieldLink RX9 30 "NotationParser$Tree" "joints" "[I") (by decide +kernel)
  have hw3 := hts (.fieldLink RX9 27 "NotationParser$Tree" "roots" "[I") (by decide +kernel)
  refine lv_aload_n hx hb dX9_addSum_0 rfl (lv_at hl 0 rfl) ?_
  refine va_get (D := D) (ci := 9) (v := .int t_sums) (C := RX9) (T := TX9) (N := 9) hx hb hts hw0 hown hK hP 0 rfl rfl 8 (by decide) hw1 (fun _ h9 => h9) rfl dX9_addSum_1 ?_
  refine lv_bipush (v := 9) hx hb dX9_addSum_4 (by decide) ?_
  refine lv_icmp_ge (tgt := 39) hx hb dX9_addSum_6 (by decide) (fun c1 => ?_) (fun c1 => ?_)
  · have hM := z_t c1 hM
    have hM := Option.some.inj hM
    subst hM
    exact W.vret hx hb hr (fun t ht hW => ⟨⟨(), rfl, trivial, ⟨by rw [ht]; exact hP, va_K.moved hW.alike hK, hD⟩⟩, hS.F ht⟩) hS.2.2 dX9_addSum_39
  · have hM := z_f c1 hM
    refine lv_aload_n hx hb dX9_addSum_9 rfl (lv_at hl 0 rfl) ?_
    refine va_get (D := D) (ci := 9) (v := .ref A_t_joints) (C := RX9) (T := TX9) (N := 9) hx hb hts hw0 hown hK hP 0 rfl rfl 7 (by decide) hw2 (fun _ h9 => h9) rfl dX9_addSum_10 ?_
    refine lv_aload_n hx hb dX9_addSum_13 rfl (lv_at hl 0 rfl) ?_
    refine va_get (D := D) (ci := 9) (v := .int t_sums) (C := RX9) (T := TX9) (N := 9) hx hb hts hw0 hown hK hP 0 rfl rfl 8 (by decide) hw1 (fun _ h9 => h9) rfl dX9_addSum_14 ?_
    refine lv_iload_n hx hb dX9_addSum_17 rfl (lv_at hl 1 rfl) ?_
    obtain ⟨g2, hM⟩ := z_g hM
    refine va_iast hx hb hK hP hD hS 2 0 rfl rfl g2 dX9_addSum_18 (fun H3 locs hP hD hS => ?_)
    have hP : va_P D vwCl [(A_t, .inr (9, [.ref A_t_kinds, .ref A_t_details, .ref A_t_lefts, .ref A_t_rights, .ref A_t_heights, .int t_count, .ref A_t_roots, .ref A_t_joints, .int t_sums])), (A_t_roots, .inl (cI, 9, .inl t_roots)), (A_t_joints, .inl (cI, 9, .inl (upd t_joints t_sums.toNatClampNeg x1)))] H3 := hP
    have hD : va_D A [(A_t, .inr (9, [.ref A_t_kinds, .ref A_t_details, .ref A_t_lefts, .ref A_t_rights, .ref A_t_heights, .int t_count, .ref A_t_roots, .ref A_t_joints, .int t_sums])), (A_t_roots, .inl (cI, 9, .inl t_roots)), (A_t_joints, .inl (cI, 9, .inl (upd t_joints t_sums.toNatClampNeg x1)))] := hD
    refine lv_aload_n hx hb dX9_addSum_19 rfl (lv_at hl 0 rfl) ?_
    refine va_get (D := D) (ci := 9) (v := .ref A_t_roots) (C := RX9) (T := TX9) (N := 9) hx hb hts hw0 hown hK hP 0 rfl rfl 6 (by decide) hw3 (fun _ h9 => h9) rfl dX9_addSum_20 ?_
    refine lv_aload_n hx hb dX9_addSum_23 rfl (lv_at hl 0 rfl) ?_
    refine va_get (D := D) (ci := 9) (v := .int t_sums) (C := RX9) (T := TX9) (N := 9) hx hb hts hw0 hown hK hP 0 rfl rfl 8 (by decide) hw1 (fun _ h9 => h9) rfl dX9_addSum_24 ?_
    refine lv_iload_n hx hb dX9_addSum_27 rfl (lv_at hl 2 rfl) ?_
    obtain ⟨g4, hM⟩ := z_g hM
    refine va_iast hx hb hK hP hD hS 1 0 rfl rfl g4 dX9_addSum_28 (fun H5 locs hP hD hS => ?_)
    have hP : va_P D vwCl [(A_t, .inr (9, [.ref A_t_kinds, .ref A_t_details, .ref A_t_lefts, .ref A_t_rights, .ref A_t_heights, .int t_count, .ref A_t_roots, .ref A_t_joints, .int t_sums])), (A_t_roots, .inl (cI, 9, .inl (upd t_roots t_sums.toNatClampNeg x2))), (A_t_joints, .inl (cI, 9, .inl (upd t_joints t_sums.toNatClampNeg x1)))] H5 := hP
    have hD : va_D A [(A_t, .inr (9, [.ref A_t_kinds, .ref A_t_details, .ref A_t_lefts, .ref A_t_rights, .ref A_t_heights, .int t_count, .ref A_t_roots, .ref A_t_joints, .int t_sums])), (A_t_roots, .inl (cI, 9, .inl (upd t_roots t_sums.toNatClampNeg x2))), (A_t_joints, .inl (cI, 9, .inl (upd t_joints t_sums.toNatClampNeg x1)))] := hD
    refine lv_aload_n hx hb dX9_addSum_29 rfl (lv_at hl 0 rfl) ?_
    refine lv_dup hx hb dX9_addSum_30 rfl ?_
    refine va_get (D := D) (ci := 9) (v := .int t_sums) (C := RX9) (T := TX9) (N := 9) hx hb hts hw0 hown hK hP 0 rfl rfl 8 (by decide) hw1 (fun _ h9 => h9) rfl dX9_addSum_31 ?_
    refine lv_iconst (v := 1) hx hb dX9_addSum_34 (by decide) ?_
    refine lv_iadd hx hb dX9_addSum_35 ?_
    refine va_put (D := D) (ci := 9) (v := .int (t_sums + 1)) (ty := .int) (C := RX9) (T := TX9) (N := 9) hx hb hts hw0 tyX9 tyX9_ok nmX9 hown hK hP hD hS 0 rfl rfl 8 (by decide) hw1 (fun _ h9 => h9) rfl (by decide +kernel) rfl rfl (Nat.le_of_ble_eq_true rfl) dX9_addSum_36 (fun H6 locs hP hD hS => ?_)
    have hP : va_P D vwCl [(A_t, .inr (9, [.ref A_t_kinds, .ref A_t_details, .ref A_t_lefts, .ref A_t_rights, .ref A_t_heights, .int t_count, .ref A_t_roots, .ref A_t_joints, .int (t_sums + 1)])), (A_t_roots, .inl (cI, 9, .inl (upd t_roots t_sums.toNatClampNeg x2))), (A_t_joints, .inl (cI, 9, .inl (upd t_joints t_sums.toNatClampNeg x1)))] H6 := hP
    have hD : va_D A [(A_t, .inr (9, [.ref A_t_kinds, .ref A_t_details, .ref A_t_lefts, .ref A_t_rights, .ref A_t_heights, .int t_count, .ref A_t_roots, .ref A_t_joints, .int (t_sums + 1)])), (A_t_roots, .inl (cI, 9, .inl (upd t_roots t_sums.toNatClampNeg x2))), (A_t_joints, .inl (cI, 9, .inl (upd t_joints t_sums.toNatClampNeg x1)))] := hD
    have hM := Option.some.inj hM
    subst hM
    exact W.vret hx hb hr (fun t ht hW => ⟨⟨(), rfl, trivial, ⟨by rw [ht]; exact hP, va_K.moved hW.alike hK, hD⟩⟩, hS.F ht⟩) hS.2.2 dX9_addSum_39
def fn_Tree_size (t_count : Int32) : Int32 := t_count
set_option maxHeartbeats 40000000 in
set_option maxRecDepth 100000 in
theorem ct_Tree_size (l : Launch) (D : va_G) (cI cJ cC : ClassId) (adK adV : Nat → Nat) (A_t A_t_kinds A_t_details A_t_lefts A_t_rights A_t_heights A_t_roots A_t_joints : Nat) (sz : Nat) (t_count : Int32) (t_sums : Int32) : Met l yX9_size wsX9_size ({ frames := 0, cells := 0, slots := 0, locals := 0 } : Room) (zP D cI cJ cC adK adV [.ref A_t] sz [(A_t, .inr (9, [.ref A_t_kinds, .ref A_t_details, .ref A_t_lefts, .ref A_t_rights, .ref A_t_heights, .int t_count, .ref A_t_roots, .ref A_t_joints, .int t_sums]))]) (zQi D cI cJ cC (fn_Tree_size t_count) [(A_t, .inr (9, [.ref A_t_kinds, .ref A_t_details, .ref A_t_lefts, .ref A_t_rights, .ref A_t_heights, .int t_count, .ref A_t_roots, .ref A_t_joints, .int t_sums]))] (va_A [(A_t, .inr (9, [.ref A_t_kinds, .ref A_t_details, .ref A_t_lefts, .ref A_t_rights, .ref A_t_heights, .int t_count, .ref A_t_roots, .ref A_t_joints, .int t_sums]))] sz)) 0 0 (va_A [(A_t, .inr (9, [.ref A_t_kinds, .ref A_t_details, .ref A_t_lefts, .ref A_t_rights, .ref A_t_heights, .int t_count, .ref A_t_roots, .ref A_t_joints, .int t_sums]))] sz) := by
  obtain ⟨rs, hM⟩ : ∃ rs, fn_Tree_size t_count = rs := ⟨_, rfl⟩
  rw [hM]
  refine Met.ofW (cc := cX9_size) (maxL := 1) (ret := (some .int)) (by decide) rfl ?_
  intro p e s m args below meth c s₁ B hml hv0
  obtain ⟨hargs, hsz, hP, hK, hD0, hX⟩ := hv0
  have hx := B.exec
  have hb := B.bytes
  have hr := B.returns
  have hts := atoms_spec (ws := wsX9_size) B.pre
  have hown : s.vm.findClass RX9 = some m.cls := findClass_of_methodNamed B.named
  have hlocks := B.notSynchronized
  subst hsz
  have hD := hD0.self (sz := s.heap.size)
  generalize hAe : va_A [(A_t, .inr (9, [.ref A_t_kinds, .ref A_t_details, .ref A_t_lefts, .ref A_t_rights, .ref A_t_heights, .int t_count, .ref A_t_roots, .ref A_t_joints, .int t_sums]))] s.heap.size = A at hD hX ⊢
  have hA : ∀ q : Nat, s.heap.size ≤ q → A q := fun q h => by rw [← hAe]; exact Or.inr h
  have hS : va_S A s.heap s.heap [] := va_S.rf
  have hl := lv_entry ([.ref A_t]) (n := 1) (Nat.le_of_ble_eq_true rfl)
  rw [hargs, lg_entry_eq, ← hargs]
  generalize (lg_sl ([.ref A_t]) ++ List.replicate (1 - (lg_sl ([.ref A_t])).length) Slot.unset).toArray = ls at hl ⊢
  have hl : lv_has ls 1 [(0, .ref A_t)] := hl
  have hw0 : ∀ w ∈ u_ws RX9 TX9 9, w ∈ wsX9_size := by decide +kernel
  have hw1 := hts (.fieldLink RX9 33 "NotationParser$Tree" "count" "I") (by decide +kernel)
  refine lv_aload_n hx hb dX9_size_0 rfl (lv_at hl 0 rfl) ?_
  refine va_get (D := D) (ci := 9) (v := .int t_count) (C := RX9) (T := TX9) (N := 9) hx hb hts hw0 hown hK hP 0 rfl rfl 5 (by decide) hw1 (fun _ h9 => h9) rfl dX9_size_1 ?_
  have hM := hM
  subst hM
  exact W.iret (v := t_count) hx hb hr (fun t ht hW => ⟨⟨_, (), rfl, rfl, ⟨by rw [ht]; exact hP, va_K.moved hW.alike hK, hD⟩⟩, hS.F ht⟩) hS.2.2 dX9_size_4
def fn_Tree_kindOf (t_count : Int32) (t_kinds : Nat → Int32) (x1 : Int32) : Option (Int32) := (if (fn_Tree_hasNode t_count x1) = 0 then some 0 else (if (x1 < 0 ∨ 160 ≤ x1.toNatClampNeg) then none else some (t_kinds x1.toNatClampNeg)))
set_option maxHeartbeats 40000000 in
set_option maxRecDepth 100000 in
theorem ct_Tree_kindOf (l : Launch) (D : va_G) (cI cJ cC : ClassId) (adK adV : Nat → Nat) (A_t A_t_kinds A_t_details A_t_lefts A_t_rights A_t_heights A_t_roots A_t_joints : Nat) (sz : Nat) (t_count : Int32) (t_sums : Int32) (t_kinds : Nat → Int32) (x1 : Int32) {rs : Int32} (hM : fn_Tree_kindOf t_count t_kinds x1 = some rs) : Met l yX9_kindOf wsX9_kindOf ({ frames := 1, cells := 0, slots := 0, locals := 21 } : Room) (zP D cI cJ cC adK adV [.ref A_t, .int x1] sz [(A_t, .inr (9, [.ref A_t_kinds, .ref A_t_details, .ref A_t_lefts, .ref A_t_rights, .ref A_t_heights, .int t_count, .ref A_t_roots, .ref A_t_joints, .int t_sums])), (A_t_kinds, .inl (cI, 160, .inl t_kinds))]) (zQi D cI cJ cC rs [(A_t, .inr (9, [.ref A_t_kinds, .ref A_t_details, .ref A_t_lefts, .ref A_t_rights, .ref A_t_heights, .int t_count, .ref A_t_roots, .ref A_t_joints, .int t_sums])), (A_t_kinds, .inl (cI, 160, .inl t_kinds))] (va_A [(A_t, .inr (9, [.ref A_t_kinds, .ref A_t_details, .ref A_t_lefts, .ref A_t_rights, .ref A_t_heights, .int t_count, .ref A_t_roots, .ref A_t_joints, .int t_sums])), (A_t_kinds, .inl (cI, 160, .inl t_kinds))] sz)) 0 0 (va_A [(A_t, .inr (9, [.ref A_t_kinds, .ref A_t_details, .ref A_t_lefts, .ref A_t_rights, .ref A_t_heights, .int t_count, .ref A_t_roots, .ref A_t_joints, .int t_sums])), (A_t_kinds, .inl (cI, 160, .inl t_kinds))] sz) := by
  refine Met.ofW (cc := cX9_kindOf) (maxL := 2) (ret := (some .int)) (by decide) rfl ?_
  intro p e s m args below meth c s₁ B hml hv0
  obtain ⟨hargs, hsz, hP, hK, hD0, hX⟩ := hv0
  have hx := B.exec
  have hb := B.bytes
  have hr := B.returns
  have hts := atoms_spec (ws := wsX9_kindOf) B.pre
  have hown : s.vm.findClass RX9 = some m.cls := findClass_of_methodNamed B.named
  have hlocks := B.notSynchronized
  subst hsz
  have hD := hD0.self (sz := s.heap.size)
  generalize hAe : va_A [(A_t, .inr (9, [.ref A_t_kinds, .ref A_t_details, .ref A_t_lefts, .ref A_t_rights, .ref A_t_heights, .int t_count, .ref A_t_roots, .ref A_t_joints, .int t_sums])), (A_t_kinds, .inl (cI, 160, .inl t_kinds))] s.heap.size = A at hD hX ⊢
  have hA : ∀ q : Nat, s.heap.size ≤ q → A q := fun q h => by rw [← hAe]; exact Or.inr h
  have hS : va_S A s.heap s.heap [] := va_S.rf
  have hl := lv_entry ([.ref A_t, .int x1]) (n := 2) (Nat.le_of_ble_eq_true rfl)
  rw [hargs, lg_entry_eq, ← hargs]
  generalize (lg_sl ([.ref A_t, .int x1]) ++ List.replicate (2 - (lg_sl ([.ref A_t, .int x1])).length) Slot.unset).toArray = ls at hl ⊢
  have hl : lv_has ls 2 [(0, .ref A_t), (1, .int x1)] := hl
  have hw0 : ∀ w ∈ u_ws RX9 TX9 9, w ∈ wsX9_kindOf := by decide +kernel
  have hw1 := hts (.fieldLink RX9 9 "NotationParser$Tree" "kinds" "[I") (by decide +kernel)
  refine lv_aload_n hx hb dX9_kindOf_0 rfl (lv_at hl 0 rfl) ?_
  refine lv_iload_n hx hb dX9_kindOf_1 rfl (lv_at hl 1 rfl) ?_
  obtain ⟨hPc, hDc, hFc⟩ := zcut (wc := [(A_t, .inr (9, [.ref A_t_kinds, .ref A_t_details, .ref A_t_lefts, .ref A_t_rights, .ref A_t_heights, .int t_count, .ref A_t_roots, .ref A_t_joints, .int t_sums]))]) hP hD hS hA [0] rfl rfl (by decide)
  have hrun : va_Run p l e (headSpec wsX9_kindOf ({ frames := 1, cells := 0, slots := 0, locals := 21 } : Room)).room s m args below meth c s.heap [] 0 0 _ _ (F0 m 2 ls _) _ (zQi D cI cJ cC (fn_Tree_hasNode t_count x1) [(A_t, .inr (9, [.ref A_t_kinds, .ref A_t_details, .ref A_t_lefts, .ref A_t_rights, .ref A_t_heights, .int t_count, .ref A_t_roots, .ref A_t_joints, .int t_sums]))] (va_A [(A_t, .inr (9, [.ref A_t_kinds, .ref A_t_details, .ref A_t_lefts, .ref A_t_rights, .ref A_t_heights, .int t_count, .ref A_t_roots, .ref A_t_joints, .int t_sums]))] s.heap.size) _) (va_A [(A_t, .inr (9, [.ref A_t_kinds, .ref A_t_details, .ref A_t_lefts, .ref A_t_rights, .ref A_t_heights, .int t_count, .ref A_t_roots, .ref A_t_joints, .int t_sums]))] s.heap.size) := va_runV (As := [.int x1]) (rest := []) ⟨hx, hb, hml, hown, hts⟩ (ct_Tree_hasNode l D cI cJ cC adK adV A_t A_t_kinds A_t_details A_t_lefts A_t_rights A_t_heights A_t_roots A_t_joints s.heap.size t_count t_sums x1) (cwV 1 hts gX9_kindOf_X9_hasNode rfl rfl rfl (by decide +kernel) ⟨Nat.le_of_ble_eq_true rfl, Nat.le_of_ble_eq_true rfl⟩) ⟨zblind, va_recv hK hP (ci := 9) (q0 := 0) rfl rfl, zpre hX hS hFc hPc hK hDc⟩ rfl rfl hl.1 rfl (lv_room (Nat.le_of_ble_eq_true rfl)) dX9_kindOf_2 ⟨Nat.zero_le _, Nat.zero_le _⟩
  refine zc_i (ws' := [(A_t, .inr (9, [.ref A_t_kinds, .ref A_t_details, .ref A_t_lefts, .ref A_t_rights, .ref A_t_heights, .int t_count, .ref A_t_roots, .ref A_t_joints, .int t_sums])), (A_t_kinds, .inl (cI, 160, .inl t_kinds))]) hrun hP hD hS hFc [0] rfl (by decide) rfl rfl (fun H2 locs hP hD hS => ?_)
  refine lv_if_eq (tgt := 17) hx hb dX9_kindOf_5 (by decide) (fun c3 => ?_) (fun c3 => ?_)
  · have hM := z_t c3 hM
    refine lv_iconst (v := 0) hx hb dX9_kindOf_17 (by decide) ?_
    have hM := Option.some.inj hM
    subst hM
    exact W.iret (v := 0) hx hb hr (fun t ht hW => ⟨⟨_, (), rfl, rfl, ⟨by rw [ht]; exact hP, va_K.moved hW.alike hK, hD⟩⟩, hS.F ht⟩) hS.2.2 dX9_kindOf_18
  · have hM := z_f c3 hM
    refine lv_aload_n hx hb dX9_kindOf_8 rfl (lv_at hl 0 rfl) ?_
    refine va_get (D := D) (ci := 9) (v := .ref A_t_kinds) (C := RX9) (T := TX9) (N := 9) hx hb hts hw0 hown hK hP 0 rfl rfl 0 (by decide) hw1 (fun _ h9 => h9) rfl dX9_kindOf_9 ?_
    refine lv_iload_n hx hb dX9_kindOf_12 rfl (lv_at hl 1 rfl) ?_
    obtain ⟨g4, hM⟩ := z_g hM
    refine va_iald hx hb hK hP 1 0 rfl rfl g4 dX9_kindOf_13 ?_
    refine lv_goto (tgt := 18) hx hb dX9_kindOf_14 (by decide) ?_
    have hM := Option.some.inj hM
    subst hM
    exact W.iret (v := (t_kinds x1.toNatClampNeg)) hx hb hr (fun t ht hW => ⟨⟨_, (), rfl, rfl, ⟨by rw [ht]; exact hP, va_K.moved hW.alike hK, hD⟩⟩, hS.F ht⟩) hS.2.2 dX9_kindOf_18
def fn_Tree_detailOf (t_count : Int32) (t_details : Nat → Int32) (x1 : Int32) : Option (Int32) := (if (fn_Tree_hasNode t_count x1) = 0 then some 0 else (if (x1 < 0 ∨ 160 ≤ x1.toNatClampNeg) then none else some (t_details x1.toNatClampNeg)))
set_option maxHeartbeats 40000000 in
set_option maxRecDepth 100000 in
theorem ct_Tree_detailOf (l : Launch) (D : va_G) (cI cJ cC : ClassId) (adK adV : Nat → Nat) (A_t A_t_kinds A_t_details A_t_lefts A_t_rights A_t_heights A_t_roots A_t_joints : Nat) (sz : Nat) (t_count : Int32) (t_sums : Int32) (t_details : Nat → Int32) (x1 : Int32) {rs : Int32} (hM : fn_Tree_detailOf t_count t_details x1 = some rs) : Met l yX9_detailOf wsX9_detailOf ({ frames := 1, cells := 0, slots := 0, locals := 21 } : Room) (zP D cI cJ cC adK adV [.ref A_t, .int x1] sz [(A_t, .inr (9, [.ref A_t_kinds, .ref A_t_details, .ref A_t_lefts, .ref A_t_rights, .ref A_t_heights, .int t_count, .ref A_t_roots, .ref A_t_joints, .int t_sums])), (A_t_details, .inl (cI, 160, .inl t_details))]) (zQi D cI cJ cC rs [(A_t, .inr (9, [.ref A_t_kinds, .ref A_t_details, .ref A_t_lefts, .ref A_t_rights, .ref A_t_heights, .int t_count, .ref A_t_roots, .ref A_t_joints, .int t_sums])), (A_t_details, .inl (cI, 160, .inl t_details))] (va_A [(A_t, .inr (9, [.ref A_t_kinds, .ref A_t_details, .ref A_t_lefts, .ref A_t_rights, .ref A_t_heights, .int t_count, .ref A_t_roots, .ref A_t_joints, .int t_sums])), (A_t_details, .inl (cI, 160, .inl t_details))] sz)) 0 0 (va_A [(A_t, .inr (9, [.ref A_t_kinds, .ref A_t_details, .ref A_t_lefts, .ref A_t_rights, .ref A_t_heights, .int t_count, .ref A_t_roots, .ref A_t_joints, .int t_sums])), (A_t_details, .inl (cI, 160, .inl t_details))] sz) := by
  refine Met.ofW (cc := cX9_detailOf) (maxL := 2) (ret := (some .int)) (by decide) rfl ?_
  intro p e s m args below meth c s₁ B hml hv0
  obtain ⟨hargs, hsz, hP, hK, hD0, hX⟩ := hv0
  have hx := B.exec
  have hb := B.bytes
  have hr := B.returns
  have hts := atoms_spec (ws := wsX9_detailOf) B.pre
  have hown : s.vm.findClass RX9 = some m.cls := findClass_of_methodNamed B.named
  have hlocks := B.notSynchronized
  subst hsz
  have hD := hD0.self (sz := s.heap.size)
  generalize hAe : va_A [(A_t, .inr (9, [.ref A_t_kinds, .ref A_t_details, .ref A_t_lefts, .ref A_t_rights, .ref A_t_heights, .int t_count, .ref A_t_roots, .ref A_t_joints, .int t_sums])), (A_t_details, .inl (cI, 160, .inl t_details))] s.heap.size = A at hD hX ⊢
  have hA : ∀ q : Nat, s.heap.size ≤ q → A q := fun q h => by rw [← hAe]; exact Or.inr h
  have hS : va_S A s.heap s.heap [] := va_S.rf
  have hl := lv_entry ([.ref A_t, .int x1]) (n := 2) (Nat.le_of_ble_eq_true rfl)
  rw [hargs, lg_entry_eq, ← hargs]
  generalize (lg_sl ([.ref A_t, .int x1]) ++ List.replicate (2 - (lg_sl ([.ref A_t, .int x1])).length) Slot.unset).toArray = ls at hl ⊢
  have hl : lv_has ls 2 [(0, .ref A_t), (1, .int x1)] := hl
  have hw0 : ∀ w ∈ u_ws RX9 TX9 9, w ∈ wsX9_detailOf := by decide +kernel
  have hw1 := hts (.fieldLink RX9 15 "NotationParser$Tree" "details" "[I") (by decide +kernel)
  refine lv_aload_n hx hb dX9_detailOf_0 rfl (lv_at hl 0 rfl) ?_
  refine lv_iload_n hx hb dX9_detailOf_1 rfl (lv_at hl 1 rfl) ?_
  obtain ⟨hPc, hDc, hFc⟩ := zcut (wc := [(A_t, .inr (9, [.ref A_t_kinds, .ref A_t_details, .ref A_t_lefts, .ref A_t_rights, .ref A_t_heights, .int t_count, .ref A_t_roots, .ref A_t_joints, .int t_sums]))]) hP hD hS hA [0] rfl rfl (by decide)
  have hrun : va_Run p l e (headSpec wsX9_detailOf ({ frames := 1, cells := 0, slots := 0, locals := 21 } : Room)).room s m args below meth c s.heap [] 0 0 _ _ (F0 m 2 ls _) _ (zQi D cI cJ cC (fn_Tree_hasNode t_count x1) [(A_t, .inr (9, [.ref A_t_kinds, .ref A_t_details, .ref A_t_lefts, .ref A_t_rights, .ref A_t_heights, .int t_count, .ref A_t_roots, .ref A_t_joints, .int t_sums]))] (va_A [(A_t, .inr (9, [.ref A_t_kinds, .ref A_t_details, .ref A_t_lefts, .ref A_t_rights, .ref A_t_heights, .int t_count, .ref A_t_roots, .ref A_t_joints, .int t_sums]))] s.heap.size) _) (va_A [(A_t, .inr (9, [.ref A_t_kinds, .ref A_t_details, .ref A_t_lefts, .ref A_t_rights, .ref A_t_heights, .int t_count, .ref A_t_roots, .ref A_t_joints, .int t_sums]))] s.heap.size) := va_runV (As := [.int x1]) (rest := []) ⟨hx, hb, hml, hown, hts⟩ (ct_Tree_hasNode l D cI cJ cC adK adV A_t A_t_kinds A_t_details A_t_lefts A_t_rights A_t_heights A_t_roots A_t_joints s.heap.size t_count t_sums x1) (cwV 1 hts gX9_detailOf_X9_hasNode rfl rfl rfl (by decide +kernel) ⟨Nat.le_of_ble_eq_true rfl, Nat.le_of_ble_eq_true rfl⟩) ⟨zblind, va_recv hK hP (ci := 9) (q0 := 0) rfl rfl, zpre hX hS hFc hPc hK hDc⟩ rfl rfl hl.1 rfl (lv_room (Nat.le_of_ble_eq_true rfl)) dX9_detailOf_2 ⟨Nat.zero_le _, Nat.zero_le _⟩
  refine zc_i (ws' := [(A_t, .inr (9, [.ref A_t_kinds, .ref A_t_details, .ref A_t_lefts, .ref A_t_rights, .ref A_t_heights, .int t_count, .ref A_t_roots, .ref A_t_joints, .int t_sums])), (A_t_details, .inl (cI, 160, .inl t_details))]) hrun hP hD hS hFc [0] rfl (by decide) rfl rfl (fun H2 locs hP hD hS => ?_)
  refine lv_if_eq (tgt := 17) hx hb dX9_detailOf_5 (by decide) (fun c3 => ?_) (fun c3 => ?_)
  · have hM := z_t c3 hM
    refine lv_iconst (v := 0) hx hb dX9_detailOf_17 (by decide) ?_
    have hM := Option.some.inj hM
    subst hM
    exact W.iret (v := 0) hx hb hr (fun t ht hW => ⟨⟨_, (), rfl, rfl, ⟨by rw [ht]; exact hP, va_K.moved hW.alike hK, hD⟩⟩, hS.F ht⟩) hS.2.2 dX9_detailOf_18
  · have hM := z_f c3 hM
    refine lv_aload_n hx hb dX9_detailOf_8 rfl (lv_at hl 0 rfl) ?_
    refine va_get (D := D) (ci := 9) (v := .ref A_t_details) (C := RX9) (T := TX9) (N := 9) hx hb hts hw0 hown hK hP 0 rfl rfl 1 (by decide) hw1 (fun _ h9 => h9) rfl dX9_detailOf_9 ?_
    refine lv_iload_n hx hb dX9_detailOf_12 rfl (lv_at hl 1 rfl) ?_
    obtain ⟨g4, hM⟩ := z_g hM
    refine va_iald hx hb hK hP 1 0 rfl rfl g4 dX9_detailOf_13 ?_
    refine lv_goto (tgt := 18) hx hb dX9_detailOf_14 (by decide) ?_
    have hM := Option.some.inj hM
    subst hM
    exact W.iret (v := (t_details x1.toNatClampNeg)) hx hb hr (fun t ht hW => ⟨⟨_, (), rfl, rfl, ⟨by rw [ht]; exact hP, va_K.moved hW.alike hK, hD⟩⟩, hS.F ht⟩) hS.2.2 dX9_detailOf_18
def fn_Tree_leftOf (t_count : Int32) (t_lefts : Nat → Int32) (x1 : Int32) : Option (Int32) := (if (fn_Tree_hasNode t_count x1) = 0 then some (-1) else (if (x1 < 0 ∨ 160 ≤ x1.toNatClampNeg) then none else some (t_lefts x1.toNatClampNeg)))
set_option maxHeartbeats 40000000 in
set_option maxRecDepth 100000 in
theorem ct_Tree_leftOf (l : Launch) (D : va_G) (cI cJ cC : ClassId) (adK adV : Nat → Nat) (A_t A_t_kinds A_t_details A_t_lefts A_t_rights A_t_heights A_t_roots A_t_joints : Nat) (sz : Nat) (t_count : Int32) (t_sums : Int32) (t_lefts : Nat → Int32) (x1 : Int32) {rs : Int32} (hM : fn_Tree_leftOf t_count t_lefts x1 = some rs) : Met l yX9_leftOf wsX9_leftOf ({ frames := 1, cells := 0, slots := 0, locals := 21 } : Room) (zP D cI cJ cC adK adV [.ref A_t, .int x1] sz [(A_t, .inr (9, [.ref A_t_kinds, .ref A_t_details, .ref A_t_lefts, .ref A_t_rights, .ref A_t_heights, .int t_count, .ref A_t_roots, .ref A_t_joints, .int t_sums])), (A_t_lefts, .inl (cI, 160, .inl t_lefts))]) (zQi D cI cJ cC rs [(A_t, .inr (9, [.ref A_t_kinds, .ref A_t_details, .ref A_t_lefts, .ref A_t_rights, .ref A_t_heights, .int t_count, .ref A_t_roots, .ref A_t_joints, .int t_sums])), (A_t_lefts, .inl (cI, 160, .inl t_lefts))] (va_A [(A_t, .inr (9, [.ref A_t_kinds, .ref A_t_details, .ref A_t_lefts, .ref A_t_rights, .ref A_t_heights, .int t_count, .ref A_t_roots, .ref A_t_joints, .int t_sums])), (A_t_lefts, .inl (cI, 160, .inl t_lefts))] sz)) 0 0 (va_A [(A_t, .inr (9, [.ref A_t_kinds, .ref A_t_details, .ref A_t_lefts, .ref A_t_rights, .ref A_t_heights, .int t_count, .ref A_t_roots, .ref A_t_joints, .int t_sums])), (A_t_lefts, .inl (cI, 160, .inl t_lefts))] sz) := by
  refine Met.ofW (cc := cX9_leftOf) (maxL := 2) (ret := (some .int)) (by decide) rfl ?_
  intro p e s m args below meth c s₁ B hml hv0
  obtain ⟨hargs, hsz, hP, hK, hD0, hX⟩ := hv0
  have hx := B.exec
  have hb := B.bytes
  have hr := B.returns
  have hts := atoms_spec (ws := wsX9_leftOf) B.pre
  have hown : s.vm.findClass RX9 = some m.cls := findClass_of_methodNamed B.named
  have hlocks := B.notSynchronized
  subst hsz
  have hD := hD0.self (sz := s.heap.size)
  generalize hAe : va_A [(A_t, .inr (9, [.ref A_t_kinds, .ref A_t_details, .ref A_t_lefts, .ref A_t_rights, .ref A_t_heights, .int t_count, .ref A_t_roots, .ref A_t_joints, .int t_sums])), (A_t_lefts, .inl (cI, 160, .inl t_lefts))] s.heap.size = A at hD hX ⊢
  have hA : ∀ q : Nat, s.heap.size ≤ q → A q := fun q h => by rw [← hAe]; exact Or.inr h
  have hS : va_S A s.heap s.heap [] := va_S.rf
  have hl := lv_entry ([.ref A_t, .int x1]) (n := 2) (Nat.le_of_ble_eq_true rfl)
  rw [hargs, lg_entry_eq, ← hargs]
  generalize (lg_sl ([.ref A_t, .int x1]) ++ List.replicate (2 - (lg_sl ([.ref A_t, .int x1])).length) Slot.unset).toArray = ls at hl ⊢
  have hl : lv_has ls 2 [(0, .ref A_t), (1, .int x1)] := hl
  have hw0 : ∀ w ∈ u_ws RX9 TX9 9, w ∈ wsX9_leftOf := by decide +kernel
  have hw1 := hts (.fieldLink RX9 18 "NotationParser$Tree" "lefts" "[I") (by decide +kernel)
  refine lv_aload_n hx hb dX9_leftOf_0 rfl (lv_at hl 0 rfl) ?_
  refine lv_iload_n hx hb dX9_leftOf_1 rfl (lv_at hl 1 rfl) ?_
  obtain ⟨hPc, hDc, hFc⟩ := zcut (wc := [(A_t, .inr (9, [.ref A_t_kinds, .ref A_t_details, .ref A_t_lefts, .ref A_t_rights, .ref A_t_heights, .int t_count, .ref A_t_roots, .ref A_t_joints, .int t_sums]))]) hP hD hS hA [0] rfl rfl (by decide)
  have hrun : va_Run p l e (headSpec wsX9_leftOf ({ frames := 1, cells := 0, slots := 0, locals := 21 } : Room)).room s m args below meth c s.heap [] 0 0 _ _ (F0 m 2 ls _) _ (zQi D cI cJ cC (fn_Tree_hasNode t_count x1) [(A_t, .inr (9, [.ref A_t_kinds, .ref A_t_details, .ref A_t_lefts, .ref A_t_rights, .ref A_t_heights, .int t_count, .ref A_t_roots, .ref A_t_joints, .int t_sums]))] (va_A [(A_t, .inr (9, [.ref A_t_kinds, .ref A_t_details, .ref A_t_lefts, .ref A_t_rights, .ref A_t_heights, .int t_count, .ref A_t_roots, .ref A_t_joints, .int t_sums]))] s.heap.size) _) (va_A [(A_t, .inr (9, [.ref A_t_kinds, .ref A_t_details, .ref A_t_lefts, .ref A_t_rights, .ref A_t_heights, .int t_count, .ref A_t_roots, .ref A_t_joints, .int t_sums]))] s.heap.size) := va_runV (As := [.int x1]) (rest := []) ⟨hx, hb, hml, hown, hts⟩ (ct_Tree_hasNode l D cI cJ cC adK adV A_t A_t_kinds A_t_details A_t_lefts A_t_rights A_t_heights A_t_roots A_t_joints s.heap.size t_count t_sums x1) (cwV 1 hts gX9_leftOf_X9_hasNode rfl rfl rfl (by decide +kernel) ⟨Nat.le_of_ble_eq_true rfl, Nat.le_of_ble_eq_true rfl⟩) ⟨zblind, va_recv hK hP (ci := 9) (q0 := 0) rfl rfl, zpre hX hS hFc hPc hK hDc⟩ rfl rfl hl.1 rfl (lv_room (Nat.le_of_ble_eq_true rfl)) dX9_leftOf_2 ⟨Nat.zero_le _, Nat.zero_le _⟩
  refine zc_i (ws' := [(A_t, .inr (9, [.ref A_t_kinds, .ref A_t_details, .ref A_t_lefts, .ref A_t_rights, .ref A_t_heights, .int t_count, .ref A_t_roots, .ref A_t_joints, .int t_sums])), (A_t_lefts, .inl (cI, 160, .inl t_lefts))]) hrun hP hD hS hFc [0] rfl (by decide) rfl rfl (fun H2 locs hP hD hS => ?_)
  refine lv_if_eq (tgt := 17) hx hb dX9_leftOf_5 (by decide) (fun c3 => ?_) (fun c3 => ?_)
  · have hM := z_t c3 hM
    refine lv_iconst (v := (-1)) hx hb dX9_leftOf_17 (by decide) ?_
    have hM := Option.some.inj hM
    subst hM
    exact W.iret (v := (-1)) hx hb hr (fun t ht hW => ⟨⟨_, (), rfl, rfl, ⟨by rw [ht]; exact hP, va_K.moved hW.alike hK, hD⟩⟩, hS.F ht⟩) hS.2.2 dX9_leftOf_18
  · have hM := z_f c3 hM
    refine lv_aload_n hx hb dX9_leftOf_8 rfl (lv_at hl 0 rfl) ?_
    refine va_get (D := D) (ci := 9) (v := .ref A_t_lefts) (C := RX9) (T := TX9) (N := 9) hx hb hts hw0 hown hK hP 0 rfl rfl 2 (by decide) hw1 (fun _ h9 => h9) rfl dX9_leftOf_9 ?_
    refine lv_iload_n hx hb dX9_leftOf_12 rfl (lv_at hl 1 rfl) ?_
    obtain ⟨g4, hM⟩ := z_g hM
    refine va_iald hx hb hK hP 1 0 rfl rfl g4 dX9_leftOf_13 ?_
    refine lv_goto (tgt := 18) hx hb dX9_leftOf_14 (by decide) ?_
    have hM := Option.some.inj hM
    subst hM
    exact W.iret (v := (t_lefts x1.toNatClampNeg)) hx hb hr (fun t ht hW => ⟨⟨_, (), rfl, rfl, ⟨by rw [ht]; exact hP, va_K.moved hW.alike hK, hD⟩⟩, hS.F ht⟩) hS.2.2 dX9_leftOf_18
def fn_Tree_rightOf (t_count : Int32) (t_rights : Nat → Int32) (x1 : Int32) : Option (Int32) := (if (fn_Tree_hasNode t_count x1) = 0 then some (-1) else (if (x1 < 0 ∨ 160 ≤ x1.toNatClampNeg) then none else some (t_rights x1.toNatClampNeg)))
set_option maxHeartbeats 40000000 in
set_option maxRecDepth 100000 in
theorem ct_Tree_rightOf (l : Launch) (D : va_G) (cI cJ cC : ClassId) (adK adV : Nat → Nat) (A_t A_t_kinds A_t_details A_t_lefts A_t_rights A_t_heights A_t_roots A_t_joints : Nat) (sz : Nat) (t_count : Int32) (t_sums : Int32) (t_rights : Nat → Int32) (x1 : Int32) {rs : Int32} (hM : fn_Tree_rightOf t_count t_rights x1 = some rs) : Met l yX9_rightOf wsX9_rightOf ({ frames := 1, cells := 0, slots := 0, locals := 21 } : Room) (zP D cI cJ cC adK adV [.ref A_t, .int x1] sz [(A_t, .inr (9, [.ref A_t_kinds, .ref A_t_details, .ref A_t_lefts, .ref A_t_rights, .ref A_t_heights, .int t_count, .ref A_t_roots, .ref A_t_joints, .int t_sums])), (A_t_rights, .inl (cI, 160, .inl t_rights))]) (zQi D cI cJ cC rs [(A_t, .inr (9, [.ref A_t_kinds, .ref A_t_details, .ref A_t_lefts, .ref A_t_rights, .ref A_t_heights, .int t_count, .ref A_t_roots, .ref A_t_joints, .int t_sums])), (A_t_rights, .inl (cI, 160, .inl t_rights))] (va_A [(A_t, .inr (9, [.ref A_t_kinds, .ref A_t_details, .ref A_t_lefts, .ref A_t_rights, .ref A_t_heights, .int t_count, .ref A_t_roots, .ref A_t_joints, .int t_sums])), (A_t_rights, .inl (cI, 160, .inl t_rights))] sz)) 0 0 (va_A [(A_t, .inr (9, [.ref A_t_kinds, .ref A_t_details, .ref A_t_lefts, .ref A_t_rights, .ref A_t_heights, .int t_count, .ref A_t_roots, .ref A_t_joints, .int t_sums])), (A_t_rights, .inl (cI, 160, .inl t_rights))] sz) := by
  refine Met.ofW (cc := cX9_rightOf) (maxL := 2) (ret := (some .int)) (by decide) rfl ?_
  intro p e s m args below meth c s₁ B hml hv0
  obtain ⟨hargs, hsz, hP, hK, hD0, hX⟩ := hv0
  have hx := B.exec
  have hb := B.bytes
  have hr := B.returns
  have hts := atoms_spec (ws := wsX9_rightOf) B.pre
  have hown : s.vm.findClass RX9 = some m.cls := findClass_of_methodNamed B.named
  have hlocks := B.notSynchronized
  subst hsz
  have hD := hD0.self (sz := s.heap.size)
  generalize hAe : va_A [(A_t, .inr (9, [.ref A_t_kinds, .ref A_t_details, .ref A_t_lefts, .ref A_t_rights, .ref A_t_heights, .int t_count, .ref A_t_roots, .ref A_t_joints, .int t_sums])), (A_t_rights, .inl (cI, 160, .inl t_rights))] s.heap.size = A at hD hX ⊢
  have hA : ∀ q : Nat, s.heap.size ≤ q → A q := fun q h => by rw [← hAe]; exact Or.inr h
  have hS : va_S A s.heap s.heap [] := va_S.rf
  have hl := lv_entry ([.ref A_t, .int x1]) (n := 2) (Nat.le_of_ble_eq_true rfl)
  rw [hargs, lg_entry_eq, ← hargs]
  generalize (lg_sl ([.ref A_t, .int x1]) ++ List.replicate (2 - (lg_sl ([.ref A_t, .int x1])).length) Slot.unset).toArray = ls at hl ⊢
  have hl : lv_has ls 2 [(0, .ref A_t), (1, .int x1)] := hl
  have hw0 : ∀ w ∈ u_ws RX9 TX9 9, w ∈ wsX9_rightOf := by decide +kernel
  have hw1 := hts (.fieldLink RX9 21 "NotationParser$Tree" "rights" "[I") (by decide +kernel)
  refine lv_aload_n hx hb dX9_rightOf_0 rfl (lv_at hl 0 rfl) ?_
  refine lv_iload_n hx hb dX9_rightOf_1 rfl (lv_at hl 1 rfl) ?_
  obtain ⟨hPc, hDc, hFc⟩ := zcut (wc := [(A_t, .inr (9, [.ref A_t_kinds, .ref A_t_details, .ref A_t_lefts, .ref A_t_rights, .ref A_t_heights, .int t_count, .ref A_t_roots, .ref A_t_joints, .int t_sums]))]) hP hD hS hA [0] rfl rfl (by decide)
  have hrun : va_Run p l e (headSpec wsX9_rightOf ({ frames := 1, cells := 0, slots := 0, locals := 21 } : Room)).room s m args below meth c s.heap [] 0 0 _ _ (F0 m 2 ls _) _ (zQi D cI cJ cC (fn_Tree_hasNode t_count x1) [(A_t, .inr (9, [.ref A_t_kinds, .ref A_t_details, .ref A_t_lefts, .ref A_t_rights, .ref A_t_heights, .int t_count, .ref A_t_roots, .ref A_t_joints, .int t_sums]))] (va_A [(A_t, .inr (9, [.ref A_t_kinds, .ref A_t_details, .ref A_t_lefts, .ref A_t_rights, .ref A_t_heights, .int t_count, .ref A_t_roots, .ref A_t_joints, .int t_sums]))] s.heap.size) _) (va_A [(A_t, .inr (9, [.ref A_t_kinds, .ref A_t_details, .ref A_t_lefts, .ref A_t_rights, .ref A_t_heights, .int t_count, .ref A_t_roots, .ref A_t_joints, .int t_sums]))] s.heap.size) := va_runV (As := [.int x1]) (rest := []) ⟨hx, hb, hml, hown, hts⟩ (ct_Tree_hasNode l D cI cJ cC adK adV A_t A_t_kinds A_t_details A_t_lefts A_t_rights A_t_heights A_t_roots A_t_joints s.heap.size t_count t_sums x1) (cwV 1 hts gX9_rightOf_X9_hasNode rfl rfl rfl (by decide +kernel) ⟨Nat.le_of_ble_eq_true rfl, Nat.le_of_ble_eq_true rfl⟩) ⟨zblind, va_recv hK hP (ci := 9) (q0 := 0) rfl rfl, zpre hX hS hFc hPc hK hDc⟩ rfl rfl hl.1 rfl (lv_room (Nat.le_of_ble_eq_true rfl)) dX9_rightOf_2 ⟨Nat.zero_le _, Nat.zero_le _⟩
  refine zc_i (ws' := [(A_t, .inr (9, [.ref A_t_kinds, .ref A_t_details, .ref A_t_lefts, .ref A_t_rights, .ref A_t_heights, .int t_count, .ref A_t_roots, .ref A_t_joints, .int t_sums])), (A_t_rights, .inl (cI, 160, .inl t_rights))]) hrun hP hD hS hFc [0] rfl (by decide) rfl rfl (fun H2 locs hP hD hS => ?_)
  refine lv_if_eq (tgt := 17) hx hb dX9_rightOf_5 (by decide) (fun c3 => ?_) (fun c3 => ?_)
  · have hM := z_t c3 hM
    refine lv_iconst (v := (-1)) hx hb dX9_rightOf_17 (by decide) ?_
    have hM := Option.some.inj hM
    subst hM
    exact W.iret (v := (-1)) hx hb hr (fun t ht hW => ⟨⟨_, (), rfl, rfl, ⟨by rw [ht]; exact hP, va_K.moved hW.alike hK, hD⟩⟩, hS.F ht⟩) hS.2.2 dX9_rightOf_18
  · have hM := z_f c3 hM
    refine lv_aload_n hx hb dX9_rightOf_8 rfl (lv_at hl 0 rfl) ?_
    refine va_get (D := D) (ci := 9) (v := .ref A_t_rights) (C := RX9) (T := TX9) (N := 9) hx hb hts hw0 hown hK hP 0 rfl rfl 3 (by decide) hw1 (fun _ h9 => h9) rfl dX9_rightOf_9 ?_
    refine lv_iload_n hx hb dX9_rightOf_12 rfl (lv_at hl 1 rfl) ?_
    obtain ⟨g4, hM⟩ := z_g hM
    refine va_iald hx hb hK hP 1 0 rfl rfl g4 dX9_rightOf_13 ?_
    refine lv_goto (tgt := 18) hx hb dX9_rightOf_14 (by decide) ?_
    have hM := Option.some.inj hM
    subst hM
    exact W.iret (v := (t_rights x1.toNatClampNeg)) hx hb hr (fun t ht hW => ⟨⟨_, (), rfl, rfl, ⟨by rw [ht]; exact hP, va_K.moved hW.alike hK, hD⟩⟩, hS.F ht⟩) hS.2.2 dX9_rightOf_18
def fn_Tree_sumCount (t_sums : Int32) : Int32 := t_sums
set_option maxHeartbeats 40000000 in
set_option maxRecDepth 100000 in
theorem ct_Tree_sumCount (l : Launch) (D : va_G) (cI cJ cC : ClassId) (adK adV : Nat → Nat) (A_t A_t_kinds A_t_details A_t_lefts A_t_rights A_t_heights A_t_roots A_t_joints : Nat) (sz : Nat) (t_count : Int32) (t_sums : Int32) : Met l yX9_sumCount wsX9_sumCount ({ frames := 0, cells := 0, slots := 0, locals := 0 } : Room) (zP D cI cJ cC adK adV [.ref A_t] sz [(A_t, .inr (9, [.ref A_t_kinds, .ref A_t_details, .ref A_t_lefts, .ref A_t_rights, .ref A_t_heights, .int t_count, .ref A_t_roots, .ref A_t_joints, .int t_sums]))]) (zQi D cI cJ cC (fn_Tree_sumCount t_sums) [(A_t, .inr (9, [.ref A_t_kinds, .ref A_t_details, .ref A_t_lefts, .ref A_t_rights, .ref A_t_heights, .int t_count, .ref A_t_roots, .ref A_t_joints, .int t_sums]))] (va_A [(A_t, .inr (9, [.ref A_t_kinds, .ref A_t_details, .ref A_t_lefts, .ref A_t_rights, .ref A_t_heights, .int t_count, .ref A_t_roots, .ref A_t_joints, .int t_sums]))] sz)) 0 0 (va_A [(A_t, .inr (9, [.ref A_t_kinds, .ref A_t_details, .ref A_t_lefts, .ref A_t_rights, .ref A_t_heights, .int t_count, .ref A_t_roots, .ref A_t_joints, .int t_sums]))] sz) := by
  obtain ⟨rs, hM⟩ : ∃ rs, fn_Tree_sumCount t_sums = rs := ⟨_, rfl⟩
  rw [hM]
  refine Met.ofW (cc := cX9_sumCount) (maxL := 1) (ret := (some .int)) (by decide) rfl ?_
  intro p e s m args below meth c s₁ B hml hv0
  obtain ⟨hargs, hsz, hP, hK, hD0, hX⟩ := hv0
  have hx := B.exec
  have hb := B.bytes
  have hr := B.returns
  have hts := atoms_spec (ws := wsX9_sumCount) B.pre
  have hown : s.vm.findClass RX9 = some m.cls := findClass_of_methodNamed B.named
  have hlocks := B.notSynchronized
  subst hsz
  have hD := hD0.self (sz := s.heap.size)
  generalize hAe : va_A [(A_t, .inr (9, [.ref A_t_kinds, .ref A_t_details, .ref A_t_lefts, .ref A_t_rights, .ref A_t_heights, .int t_count, .ref A_t_roots, .ref A_t_joints, .int t_sums]))] s.heap.size = A at hD hX ⊢
  have hA : ∀ q : Nat, s.heap.size ≤ q → A q := fun q h => by rw [← hAe]; exact Or.inr h
  have hS : va_S A s.heap s.heap [] := va_S.rf
  have hl := lv_entry ([.ref A_t]) (n := 1) (Nat.le_of_ble_eq_true rfl)
  rw [hargs, lg_entry_eq, ← hargs]
  generalize (lg_sl ([.ref A_t]) ++ List.replicate (1 - (lg_sl ([.ref A_t])).length) Slot.unset).toArray = ls at hl ⊢
  have hl : lv_has ls 1 [(0, .ref A_t)] := hl
  have hw0 : ∀ w ∈ u_ws RX9 TX9 9, w ∈ wsX9_sumCount := by decide +kernel
  have hw1 := hts (.fieldLink RX9 37 "NotationParser$Tree" "sums" "I") (by decide +kernel)
  refine lv_aload_n hx hb dX9_sumCount_0 rfl (lv_at hl 0 rfl) ?_
  refine va_get (D := D) (ci := 9) (v := .int t_sums) (C := RX9) (T := TX9) (N := 9) hx hb hts hw0 hown hK hP 0 rfl rfl 8 (by decide) hw1 (fun _ h9 => h9) rfl dX9_sumCount_1 ?_
  have hM := hM
  subst hM
  exact W.iret (v := t_sums) hx hb hr (fun t ht hW => ⟨⟨_, (), rfl, rfl, ⟨by rw [ht]; exact hP, va_K.moved hW.alike hK, hD⟩⟩, hS.F ht⟩) hS.2.2 dX9_sumCount_4
def fn_Tree_rootOf (t_sums : Int32) (t_roots : Nat → Int32) (x1 : Int32) : Option (Int32) := (if x1 < 0 then some (-1) else (if t_sums ≤ x1 then some (-1) else (if (x1 < 0 ∨ 9 ≤ x1.toNatClampNeg) then none else some (t_roots x1.toNatClampNeg))))
set_option maxHeartbeats 40000000 in
set_option maxRecDepth 100000 in
theorem ct_Tree_rootOf (l : Launch) (D : va_G) (cI cJ cC : ClassId) (adK adV : Nat → Nat) (A_t A_t_kinds A_t_details A_t_lefts A_t_rights A_t_heights A_t_roots A_t_joints : Nat) (sz : Nat) (t_count : Int32) (t_sums : Int32) (t_roots : Nat → Int32) (x1 : Int32) {rs : Int32} (hM : fn_Tree_rootOf t_sums t_roots x1 = some rs) : Met l yX9_rootOf wsX9_rootOf ({ frames := 0, cells := 0, slots := 0, locals := 0 } : Room) (zP D cI cJ cC adK adV [.ref A_t, .int x1] sz [(A_t, .inr (9, [.ref A_t_kinds, .ref A_t_details, .ref A_t_lefts, .ref A_t_rights, .ref A_t_heights, .int t_count, .ref A_t_roots, .ref A_t_joints, .int t_sums])), (A_t_roots, .inl (cI, 9, .inl t_roots))]) (zQi D cI cJ cC rs [(A_t, .inr (9, [.ref A_t_kinds, .ref A_t_details, .ref A_t_lefts, .ref A_t_rights, .ref A_t_heights, .int t_count, .ref A_t_roots, .ref A_t_joints, .int t_sums])), (A_t_roots, .inl (cI, 9, .inl t_roots))] (va_A [(A_t, .inr (9, [.ref A_t_kinds, .ref A_t_details, .ref A_t_lefts, .ref A_t_rights, .ref A_t_heights, .int t_count, .ref A_t_roots, .ref A_t_joints, .int t_sums])), (A_t_roots, .inl (cI, 9, .inl t_roots))] sz)) 0 0 (va_A [(A_t, .inr (9, [.ref A_t_kinds, .ref A_t_details, .ref A_t_lefts, .ref A_t_rights, .ref A_t_heights, .int t_count, .ref A_t_roots, .ref A_t_joints, .int t_sums])), (A_t_roots, .inl (cI, 9, .inl t_roots))] sz) := by
  refine Met.ofW (cc := cX9_rootOf) (maxL := 2) (ret := (some .int)) (by decide) rfl ?_
  intro p e s m args below meth c s₁ B hml hv0
  obtain ⟨hargs, hsz, hP, hK, hD0, hX⟩ := hv0
  have hx := B.exec
  have hb := B.bytes
  have hr := B.returns
  have hts := atoms_spec (ws := wsX9_rootOf) B.pre
  have hown : s.vm.findClass RX9 = some m.cls := findClass_of_methodNamed B.named
  have hlocks := B.notSynchronized
  subst hsz
  have hD := hD0.self (sz := s.heap.size)
  generalize hAe : va_A [(A_t, .inr (9, [.ref A_t_kinds, .ref A_t_details, .ref A_t_lefts, .ref A_t_rights, .ref A_t_heights, .int t_count, .ref A_t_roots, .ref A_t_joints, .int t_sums])), (A_t_roots, .inl (cI, 9, .inl t_roots))] s.heap.size = A at hD hX ⊢
  have hA : ∀ q : Nat, s.heap.size ≤ q → A q := fun q h => by rw [← hAe]; exact Or.inr h
  have hS : va_S A s.heap s.heap [] := va_S.rf
  have hl := lv_entry ([.ref A_t, .int x1]) (n := 2) (Nat.le_of_ble_eq_true rfl)
  rw [hargs, lg_entry_eq, ← hargs]
  generalize (lg_sl ([.ref A_t, .int x1]) ++ List.replicate (2 - (lg_sl ([.ref A_t, .int x1])).length) Slot.unset).toArray = ls at hl ⊢
  have hl : lv_has ls 2 [(0, .ref A_t), (1, .int x1)] := hl
  have hw0 : ∀ w ∈ u_ws RX9 TX9 9, w ∈ wsX9_rootOf := by decide +kernel
  have hw1 := hts (.fieldLink RX9 37 "NotationParser$Tree" "sums" "I") (by decide +kernel)
  have hw2 := hts (.fieldLink RX9 27 "NotationParser$Tree" "roots" "[I") (by decide +kernel)
  refine lv_iload_n hx hb dX9_rootOf_0 rfl (lv_at hl 1 rfl) ?_
  refine lv_if_lt (tgt := 21) hx hb dX9_rootOf_1 (by decide) (fun c1 => ?_) (fun c1 => ?_)
  · have hM := z_t c1 hM
    refine lv_iconst (v := (-1)) hx hb dX9_rootOf_21 (by decide) ?_
    have hM := Option.some.inj hM
    subst hM
    exact W.iret (v := (-1)) hx hb hr (fun t ht hW => ⟨⟨_, (), rfl, rfl, ⟨by rw [ht]; exact hP, va_K.moved hW.alike hK, hD⟩⟩, hS.F ht⟩) hS.2.2 dX9_rootOf_22
  · have hM := z_f c1 hM
    refine lv_iload_n hx hb dX9_rootOf_4 rfl (lv_at hl 1 rfl) ?_
    refine lv_aload_n hx hb dX9_rootOf_5 rfl (lv_at hl 0 rfl) ?_
    refine va_get (D := D) (ci := 9) (v := .int t_sums) (C := RX9) (T := TX9) (N := 9) hx hb hts hw0 hown hK hP 0 rfl rfl 8 (by decide) hw1 (fun _ h9 => h9) rfl dX9_rootOf_6 ?_
    refine lv_icmp_ge (tgt := 21) hx hb dX9_rootOf_9 (by decide) (fun c2 => ?_) (fun c2 => ?_)
    · have hM := z_t c2 hM
      refine lv_iconst (v := (-1)) hx hb dX9_rootOf_21 (by decide) ?_
      have hM := Option.some.inj hM
      subst hM
      exact W.iret (v := (-1)) hx hb hr (fun t ht hW => ⟨⟨_, (), rfl, rfl, ⟨by rw [ht]; exact hP, va_K.moved hW.alike hK, hD⟩⟩, hS.F ht⟩) hS.2.2 dX9_rootOf_22
    · have hM := z_f c2 hM
      refine lv_aload_n hx hb dX9_rootOf_12 rfl (lv_at hl 0 rfl) ?_
      refine va_get (D := D) (ci := 9) (v := .ref A_t_roots) (C := RX9) (T := TX9) (N := 9) hx hb hts hw0 hown hK hP 0 rfl rfl 6 (by decide) hw2 (fun _ h9 => h9) rfl dX9_rootOf_13 ?_
      refine lv_iload_n hx hb dX9_rootOf_16 rfl (lv_at hl 1 rfl) ?_
      obtain ⟨g3, hM⟩ := z_g hM
      refine va_iald hx hb hK hP 1 0 rfl rfl g3 dX9_rootOf_17 ?_
      refine lv_goto (tgt := 22) hx hb dX9_rootOf_18 (by decide) ?_
      have hM := Option.some.inj hM
      subst hM
      exact W.iret (v := (t_roots x1.toNatClampNeg)) hx hb hr (fun t ht hW => ⟨⟨_, (), rfl, rfl, ⟨by rw [ht]; exact hP, va_K.moved hW.alike hK, hD⟩⟩, hS.F ht⟩) hS.2.2 dX9_rootOf_22
def fn_Tree_jointOf (t_sums : Int32) (t_joints : Nat → Int32) (x1 : Int32) : Option (Int32) := (if x1 < 0 then some 0 else (if t_sums ≤ x1 then some 0 else (if (x1 < 0 ∨ 9 ≤ x1.toNatClampNeg) then none else some (t_joints x1.toNatClampNeg))))
set_option maxHeartbeats 40000000 in
set_option maxRecDepth 100000 in
theorem ct_Tree_jointOf (l : Launch) (D : va_G) (cI cJ cC : ClassId) (adK adV : Nat → Nat) (A_t A_t_kinds A_t_details A_t_lefts A_t_rights A_t_heights A_t_roots A_t_joints : Nat) (sz : Nat) (t_count : Int32) (t_sums : Int32) (t_joints : Nat → Int32) (x1 : Int32) {rs : Int32} (hM : fn_Tree_jointOf t_sums t_joints x1 = some rs) : Met l yX9_jointOf wsX9_jointOf ({ frames := 0, cells := 0, slots := 0, locals := 0 } : Room) (zP D cI cJ cC adK adV [.ref A_t, .int x1] sz [(A_t, .inr (9, [.ref A_t_kinds, .ref A_t_details, .ref A_t_lefts, .ref A_t_rights, .ref A_t_heights, .int t_count, .ref A_t_roots, .ref A_t_joints, .int t_sums])), (A_t_joints, .inl (cI, 9, .inl t_joints))]) (zQi D cI cJ cC rs [(A_t, .inr (9, [.ref A_t_kinds, .ref A_t_details, .ref A_t_lefts, .ref A_t_rights, .ref A_t_heights, .int t_count, .ref A_t_roots, .ref A_t_joints, .int t_sums])), (A_t_joints, .inl (cI, 9, .inl t_joints))] (va_A [(A_t, .inr (9, [.ref A_t_kinds, .ref A_t_details, .ref A_t_lefts, .ref A_t_rights, .ref A_t_heights, .int t_count, .ref A_t_roots, .ref A_t_joints, .int t_sums])), (A_t_joints, .inl (cI, 9, .inl t_joints))] sz)) 0 0 (va_A [(A_t, .inr (9, [.ref A_t_kinds, .ref A_t_details, .ref A_t_lefts, .ref A_t_rights, .ref A_t_heights, .int t_count, .ref A_t_roots, .ref A_t_joints, .int t_sums])), (A_t_joints, .inl (cI, 9, .inl t_joints))] sz) := by
  refine Met.ofW (cc := cX9_jointOf) (maxL := 2) (ret := (some .int)) (by decide) rfl ?_
  intro p e s m args below meth c s₁ B hml hv0
  obtain ⟨hargs, hsz, hP, hK, hD0, hX⟩ := hv0
  have hx := B.exec
  have hb := B.bytes
  have hr := B.returns
  have hts := atoms_spec (ws := wsX9_jointOf) B.pre
  have hown : s.vm.findClass RX9 = some m.cls := findClass_of_methodNamed B.named
  have hlocks := B.notSynchronized
  subst hsz
  have hD := hD0.self (sz := s.heap.size)
  generalize hAe : va_A [(A_t, .inr (9, [.ref A_t_kinds, .ref A_t_details, .ref A_t_lefts, .ref A_t_rights, .ref A_t_heights, .int t_count, .ref A_t_roots, .ref A_t_joints, .int t_sums])), (A_t_joints, .inl (cI, 9, .inl t_joints))] s.heap.size = A at hD hX ⊢
  have hA : ∀ q : Nat, s.heap.size ≤ q → A q := fun q h => by rw [← hAe]; exact Or.inr h
  have hS : va_S A s.heap s.heap [] := va_S.rf
  have hl := lv_entry ([.ref A_t, .int x1]) (n := 2) (Nat.le_of_ble_eq_true rfl)
  rw [hargs, lg_entry_eq, ← hargs]
  generalize (lg_sl ([.ref A_t, .int x1]) ++ List.replicate (2 - (lg_sl ([.ref A_t, .int x1])).length) Slot.unset).toArray = ls at hl ⊢
  have hl : lv_has ls 2 [(0, .ref A_t), (1, .int x1)] := hl
  have hw0 : ∀ w ∈ u_ws RX9 TX9 9, w ∈ wsX9_jointOf := by decide +kernel
  have hw1 := hts (.fieldLink RX9 37 "NotationParser$Tree" "sums" "I") (by decide +kernel)
  have hw2 := hts (.fieldLink RX9 30 "NotationParser$Tree" "joints" "[I") (by decide +kernel)
  refine lv_iload_n hx hb dX9_jointOf_0 rfl (lv_at hl 1 rfl) ?_
  refine lv_if_lt (tgt := 21) hx hb dX9_jointOf_1 (by decide) (fun c1 => ?_) (fun c1 => ?_)
  · have hM := z_t c1 hM
    refine lv_iconst (v := 0) hx hb dX9_jointOf_21 (by decide) ?_
    have hM := Option.some.inj hM
    subst hM
    exact W.iret (v := 0) hx hb hr (fun t ht hW => ⟨⟨_, (), rfl, rfl, ⟨by rw [ht]; exact hP, va_K.moved hW.alike hK, hD⟩⟩, hS.F ht⟩) hS.2.2 dX9_jointOf_22
  · have hM := z_f c1 hM
    refine lv_iload_n hx hb dX9_jointOf_4 rfl (lv_at hl 1 rfl) ?_
    refine lv_aload_n hx hb dX9_jointOf_5 rfl (lv_at hl 0 rfl) ?_
    refine va_get (D := D) (ci := 9) (v := .int t_sums) (C := RX9) (T := TX9) (N := 9) hx hb hts hw0 hown hK hP 0 rfl rfl 8 (by decide) hw1 (fun _ h9 => h9) rfl dX9_jointOf_6 ?_
    refine lv_icmp_ge (tgt := 21) hx hb dX9_jointOf_9 (by decide) (fun c2 => ?_) (fun c2 => ?_)
    · have hM := z_t c2 hM
      refine lv_iconst (v := 0) hx hb dX9_jointOf_21 (by decide) ?_
      have hM := Option.some.inj hM
      subst hM
      exact W.iret (v := 0) hx hb hr (fun t ht hW => ⟨⟨_, (), rfl, rfl, ⟨by rw [ht]; exact hP, va_K.moved hW.alike hK, hD⟩⟩, hS.F ht⟩) hS.2.2 dX9_jointOf_22
    · have hM := z_f c2 hM
      refine lv_aload_n hx hb dX9_jointOf_12 rfl (lv_at hl 0 rfl) ?_
      refine va_get (D := D) (ci := 9) (v := .ref A_t_joints) (C := RX9) (T := TX9) (N := 9) hx hb hts hw0 hown hK hP 0 rfl rfl 7 (by decide) hw2 (fun _ h9 => h9) rfl dX9_jointOf_13 ?_
      refine lv_iload_n hx hb dX9_jointOf_16 rfl (lv_at hl 1 rfl) ?_
      obtain ⟨g3, hM⟩ := z_g hM
      refine va_iald hx hb hK hP 1 0 rfl rfl g3 dX9_jointOf_17 ?_
      refine lv_goto (tgt := 22) hx hb dX9_jointOf_18 (by decide) ?_
      have hM := Option.some.inj hM
      subst hM
      exact W.iret (v := (t_joints x1.toNatClampNeg)) hx hb hr (fun t ht hW => ⟨⟨_, (), rfl, rfl, ⟨by rw [ht]; exact hP, va_K.moved hW.alike hK, hD⟩⟩, hS.F ht⟩) hS.2.2 dX9_jointOf_22
def fn_Tree_linkCount_b29 (t_sums : Int32) (t_joints : Nat → Int32) (k_4_0 : Int32 → Int32 → Option (Int32)) (x2 : Int32) (k0 : Int32) (k1 : Int32) : Option (Int32) := k_4_0 (k0 + k1) (x2 + 1)
def fn_Tree_linkCount_L4 (t_sums : Int32) (t_joints : Nat → Int32) : Nat → Int32 → Int32 → Option (Int32)
  | 0 => fun _ _ => none
  | n + 1 => fun x1 x2 => (if t_sums ≤ x2 then some x1 else ((fn_Tree_jointOf t_sums t_joints x2).bind fun q2 => (if (fn_Parser_startsLink q2) = 0 then fn_Tree_linkCount_b29 t_sums t_joints (fn_Tree_linkCount_L4 t_sums t_joints n) x2 x1 0 else fn_Tree_linkCount_b29 t_sums t_joints (fn_Tree_linkCount_L4 t_sums t_joints n) x2 x1 1)))
def fn_Tree_linkCount (t_sums : Int32) (t_joints : Nat → Int32) : Option (Int32) := fn_Tree_linkCount_L4 t_sums t_joints zFU 0 0
set_option maxHeartbeats 40000000 in
set_option maxRecDepth 100000 in
theorem ct_Tree_linkCount (l : Launch) (D : va_G) (cI cJ cC : ClassId) (adK adV : Nat → Nat) (A_t A_t_kinds A_t_details A_t_lefts A_t_rights A_t_heights A_t_roots A_t_joints : Nat) (sz : Nat) (t_count : Int32) (t_sums : Int32) (t_joints : Nat → Int32) {rs : Int32} (hM : fn_Tree_linkCount t_sums t_joints = some rs) : Met l yX9_linkCount wsX9_linkCount ({ frames := 1, cells := 0, slots := 0, locals := 21 } : Room) (zP D cI cJ cC adK adV [.ref A_t] sz [(A_t, .inr (9, [.ref A_t_kinds, .ref A_t_details, .ref A_t_lefts, .ref A_t_rights, .ref A_t_heights, .int t_count, .ref A_t_roots, .ref A_t_joints, .int t_sums])), (A_t_joints, .inl (cI, 9, .inl t_joints))]) (zQi D cI cJ cC rs [(A_t, .inr (9, [.ref A_t_kinds, .ref A_t_details, .ref A_t_lefts, .ref A_t_rights, .ref A_t_heights, .int t_count, .ref A_t_roots, .ref A_t_joints, .int t_sums])), (A_t_joints, .inl (cI, 9, .inl t_joints))] (va_A [(A_t, .inr (9, [.ref A_t_kinds, .ref A_t_details, .ref A_t_lefts, .ref A_t_rights, .ref A_t_heights, .int t_count, .ref A_t_roots, .ref A_t_joints, .int t_sums])), (A_t_joints, .inl (cI, 9, .inl t_joints))] sz)) 0 0 (va_A [(A_t, .inr (9, [.ref A_t_kinds, .ref A_t_details, .ref A_t_lefts, .ref A_t_rights, .ref A_t_heights, .int t_count, .ref A_t_roots, .ref A_t_joints, .int t_sums])), (A_t_joints, .inl (cI, 9, .inl t_joints))] sz) := by
  refine Met.ofW (cc := cX9_linkCount) (maxL := 3) (ret := (some .int)) (by decide) rfl ?_
  intro p e s m args below meth c s₁ B hml hv0
  obtain ⟨hargs, hsz, hP, hK, hD0, hX⟩ := hv0
  have hx := B.exec
  have hb := B.bytes
  have hr := B.returns
  have hts := atoms_spec (ws := wsX9_linkCount) B.pre
  have hown : s.vm.findClass RX9 = some m.cls := findClass_of_methodNamed B.named
  have hlocks := B.notSynchronized
  subst hsz
  have hD := hD0.self (sz := s.heap.size)
  generalize hAe : va_A [(A_t, .inr (9, [.ref A_t_kinds, .ref A_t_details, .ref A_t_lefts, .ref A_t_rights, .ref A_t_heights, .int t_count, .ref A_t_roots, .ref A_t_joints, .int t_sums])), (A_t_joints, .inl (cI, 9, .inl t_joints))] s.heap.size = A at hD hX ⊢
  have hA : ∀ q : Nat, s.heap.size ≤ q → A q := fun q h => by rw [← hAe]; exact Or.inr h
  have hS : va_S A s.heap s.heap [] := va_S.rf
  have hl := lv_entry ([.ref A_t]) (n := 3) (Nat.le_of_ble_eq_true rfl)
  rw [hargs, lg_entry_eq, ← hargs]
  generalize (lg_sl ([.ref A_t]) ++ List.replicate (3 - (lg_sl ([.ref A_t])).length) Slot.unset).toArray = ls at hl ⊢
  have hl : lv_has ls 3 [(0, .ref A_t)] := hl
  have hw0 : ∀ w ∈ u_ws RX9 TX9 9, w ∈ wsX9_linkCount := by decide +kernel
  have hw1 := hts (.fieldLink RX9 37 "NotationParser$Tree" "sums" "I") (by decide +kernel)
  have hw2 := hts (.initialized RX11) (by decide +kernel)
  have hw3 := hts (.static yX11_startsLink) (by decide +kernel)
  have B_29_1 : ∀ (k_4_0 : Int32 → Int32 → Option (Int32)) (hk_4_0 : ∀ (x1 : Int32) (x2 : Int32) (H : Heap) (locs : List Loc) (ls : Array Slot), va_P D vwCl [(A_t, .inr (9, [.ref A_t_kinds, .ref A_t_details, .ref A_t_lefts, .ref A_t_rights, .ref A_t_heights, .int t_count, .ref A_t_roots, .ref A_t_joints, .int t_sums])), (A_t_joints, .inl (cI, 9, .inl t_joints))] H → va_D A [(A_t, .inr (9, [.ref A_t_kinds, .ref A_t_details, .ref A_t_lefts, .ref A_t_rights, .ref A_t_heights, .int t_count, .ref A_t_roots, .ref A_t_joints, .int t_sums])), (A_t_joints, .inl (cI, 9, .inl t_joints))] → va_S A s.heap H locs → lv_has ls 3 [(0, .ref A_t), (1, .int x1), (2, .int x2)] → k_4_0 x1 x2 = some rs → W p l e (headSpec wsX9_linkCount ({ frames := 1, cells := 0, slots := 0, locals := 21 } : Room)).room s m args below meth c H locs 0 0 (MQ below (zQi D cI cJ cC rs [(A_t, .inr (9, [.ref A_t_kinds, .ref A_t_details, .ref A_t_lefts, .ref A_t_rights, .ref A_t_heights, .int t_count, .ref A_t_roots, .ref A_t_joints, .int t_sums])), (A_t_joints, .inl (cI, 9, .inl t_joints))] A) args s 0 0 A) (F0 m 4 ls [])) (x2 : Int32) (k0 : Int32) (k1 : Int32) (H : Heap) (locs : List Loc) (ls : Array Slot), va_P D vwCl [(A_t, .inr (9, [.ref A_t_kinds, .ref A_t_details, .ref A_t_lefts, .ref A_t_rights, .ref A_t_heights, .int t_count, .ref A_t_roots, .ref A_t_joints, .int t_sums])), (A_t_joints, .inl (cI, 9, .inl t_joints))] H → va_D A [(A_t, .inr (9, [.ref A_t_kinds, .ref A_t_details, .ref A_t_lefts, .ref A_t_rights, .ref A_t_heights, .int t_count, .ref A_t_roots, .ref A_t_joints, .int t_sums])), (A_t_joints, .inl (cI, 9, .inl t_joints))] → va_S A s.heap H locs → lv_has ls 3 [(0, .ref A_t), (2, .int x2)] → fn_Tree_linkCount_b29 t_sums t_joints k_4_0 x2 k0 k1 = some rs → W p l e (headSpec wsX9_linkCount ({ frames := 1, cells := 0, slots := 0, locals := 21 } : Room)).room s m args below meth c H locs 0 0 (MQ below (zQi D cI cJ cC rs [(A_t, .inr (9, [.ref A_t_kinds, .ref A_t_details, .ref A_t_lefts, .ref A_t_rights, .ref A_t_heights, .int t_count, .ref A_t_roots, .ref A_t_joints, .int t_sums])), (A_t_joints, .inl (cI, 9, .inl t_joints))] A) args s 0 0 A) (F0 m 29 ls [.int k1, .int k0]) := by
    intro k_4_0 hk_4_0 x2 k0 k1 H locs ls hP hD hS hl hM
    refine lv_iadd hx hb dX9_linkCount_29 ?_
    refine lv_istore_n (lv' := [(1, .int (k0 + k1)), (0, .ref A_t), (2, .int x2)]) hx hb dX9_linkCount_30 rfl hl (by decide) rfl (fun ls hl => ?_)
    refine lv_iinc (v := (x2 + 1)) (lv' := [(2, .int (x2 + 1)), (1, .int (k0 + k1)), (0, .ref A_t)]) hx hb dX9_linkCount_31 hl (k := 2) rfl rfl (by decide) rfl (fun ls hl => ?_)
    refine lv_goto (tgt := 4) hx hb dX9_linkCount_34 (by decide) ?_
    exact hk_4_0 (k0 + k1) (x2 + 1) _ _ ls hP hD hS (lv_sub hl [2, 1, 0] rfl) hM
  have L_4_0 : ∀ (n : Nat) (x1 : Int32) (x2 : Int32) (H : Heap) (locs : List Loc) (ls : Array Slot), va_P D vwCl [(A_t, .inr (9, [.ref A_t_kinds, .ref A_t_details, .ref A_t_lefts, .ref A_t_rights, .ref A_t_heights, .int t_count, .ref A_t_roots, .ref A_t_joints, .int t_sums])), (A_t_joints, .inl (cI, 9, .inl t_joints))] H → va_D A [(A_t, .inr (9, [.ref A_t_kinds, .ref A_t_details, .ref A_t_lefts, .ref A_t_rights, .ref A_t_heights, .int t_count, .ref A_t_roots, .ref A_t_joints, .int t_sums])), (A_t_joints, .inl (cI, 9, .inl t_joints))] → va_S A s.heap H locs → lv_has ls 3 [(0, .ref A_t), (1, .int x1), (2, .int x2)] → fn_Tree_linkCount_L4 t_sums t_joints n x1 x2 = some rs → W p l e (headSpec wsX9_linkCount ({ frames := 1, cells := 0, slots := 0, locals := 21 } : Room)).room s m args below meth c H locs 0 0 (MQ below (zQi D cI cJ cC rs [(A_t, .inr (9, [.ref A_t_kinds, .ref A_t_details, .ref A_t_lefts, .ref A_t_rights, .ref A_t_heights, .int t_count, .ref A_t_roots, .ref A_t_joints, .int t_sums])), (A_t_joints, .inl (cI, 9, .inl t_joints))] A) args s 0 0 A) (F0 m 4 ls []) := by
    intro  n
    induction n with
    | zero => intro x1 x2 H locs ls _ _ _ _ hM; exact z_n hM
    | succ n ih =>
      intro x1 x2 H locs ls hP hD hS hl hM
      refine lv_iload_n hx hb dX9_linkCount_4 rfl (lv_at hl 2 rfl) ?_
      refine lv_aload_n hx hb dX9_linkCount_5 rfl (lv_at hl 0 rfl) ?_
      refine va_get (D := D) (ci := 9) (v := .int t_sums) (C := RX9) (T := TX9) (N := 9) hx hb hts hw0 hown hK hP 0 rfl rfl 8 (by decide) hw1 (fun _ h9 => h9) rfl dX9_linkCount_6 ?_
      refine lv_icmp_ge (tgt := 37) hx hb dX9_linkCount_9 (by decide) (fun c1 => ?_) (fun c1 => ?_)
      · have hM := z_t c1 hM
        refine lv_iload_n hx hb dX9_linkCount_37 rfl (lv_at hl 1 rfl) ?_
        have hM := Option.some.inj hM
        subst hM
        exact W.iret (v := x1) hx hb hr (fun t ht hW => ⟨⟨_, (), rfl, rfl, ⟨by rw [ht]; exact hP, va_K.moved hW.alike hK, hD⟩⟩, hS.F ht⟩) hS.2.2 dX9_linkCount_38
      · have hM := z_f c1 hM
        refine lv_iload_n hx hb dX9_linkCount_12 rfl (lv_at hl 1 rfl) ?_
        refine lv_aload_n hx hb dX9_linkCount_13 rfl (lv_at hl 0 rfl) ?_
        refine lv_iload_n hx hb dX9_linkCount_14 rfl (lv_at hl 2 rfl) ?_
        obtain ⟨q2, hq2, hM⟩ := z_b hM
        obtain ⟨hPc, hDc, hFc⟩ := zcut (wc := [(A_t, .inr (9, [.ref A_t_kinds, .ref A_t_details, .ref A_t_lefts, .ref A_t_rights, .ref A_t_heights, .int t_count, .ref A_t_roots, .ref A_t_joints, .int t_sums])), (A_t_joints, .inl (cI, 9, .inl t_joints))]) hP hD hS hA [0, 1] rfl rfl (by decide)
        have hrun : va_Run p l e (headSpec wsX9_linkCount ({ frames := 1, cells := 0, slots := 0, locals := 21 } : Room)).room s m args below meth c H locs 0 0 _ _ (F0 m 15 ls _) _ (zQi D cI cJ cC q2 [(A_t, .inr (9, [.ref A_t_kinds, .ref A_t_details, .ref A_t_lefts, .ref A_t_rights, .ref A_t_heights, .int t_count, .ref A_t_roots, .ref A_t_joints, .int t_sums])), (A_t_joints, .inl (cI, 9, .inl t_joints))] (va_A [(A_t, .inr (9, [.ref A_t_kinds, .ref A_t_details, .ref A_t_lefts, .ref A_t_rights, .ref A_t_heights, .int t_count, .ref A_t_roots, .ref A_t_joints, .int t_sums])), (A_t_joints, .inl (cI, 9, .inl t_joints))] H.size) _) (va_A [(A_t, .inr (9, [.ref A_t_kinds, .ref A_t_details, .ref A_t_lefts, .ref A_t_rights, .ref A_t_heights, .int t_count, .ref A_t_roots, .ref A_t_joints, .int t_sums])), (A_t_joints, .inl (cI, 9, .inl t_joints))] H.size) := va_runV (As := [.int x2]) (rest := [.int x1]) ⟨hx, hb, hml, hown, hts⟩ (ct_Tree_jointOf l D cI cJ cC adK adV A_t A_t_kinds A_t_details A_t_lefts A_t_rights A_t_heights A_t_roots A_t_joints H.size t_count t_sums t_joints x2 hq2) (cwV 1 hts gX9_linkCount_X9_jointOf rfl rfl rfl (by decide +kernel) ⟨Nat.le_of_ble_eq_true rfl, Nat.le_of_ble_eq_true rfl⟩) ⟨zblind, va_recv hK hP (ci := 9) (q0 := 0) rfl rfl, zpre hX hS hFc hPc hK hDc⟩ rfl rfl hl.1 rfl (lv_room (Nat.le_of_ble_eq_true rfl)) dX9_linkCount_15 ⟨Nat.zero_le _, Nat.zero_le _⟩
        refine zc_i (ws' := [(A_t, .inr (9, [.ref A_t_kinds, .ref A_t_details, .ref A_t_lefts, .ref A_t_rights, .ref A_t_heights, .int t_count, .ref A_t_roots, .ref A_t_joints, .int t_sums])), (A_t_joints, .inl (cI, 9, .inl t_joints))]) hrun hP hD hS hFc [0, 1] rfl (by decide) rfl rfl (fun H3 locs hP hD hS => ?_)
        obtain ⟨hPc, hDc, hFc⟩ := zcut (wc := []) hP hD hS hA [] rfl rfl (by decide)
        have hrun : va_Run p l e (headSpec wsX9_linkCount ({ frames := 1, cells := 0, slots := 0, locals := 21 } : Room)).room s m args below meth c H3 locs 0 0 _ _ (F0 m 18 ls _) _ (zQi D cI cJ cC (fn_Parser_startsLink q2) [] (va_A [] H3.size) _) (va_A [] H3.size) := va_runSN (As := [.int q2]) (rest := [.int x1]) ⟨hx, hb, hml, hown, hts⟩ (ct_Parser_startsLink l D cI cJ cC adK adV H3.size q2) ⟨va_cnB 1 hts gX9_linkCount_X11_startsLink_n48 rfl rfl rfl (hX.1 (RX9, 48, yX11_startsLink, RX11) (by decide +kernel)) hw2 (by decide +kernel) ⟨Nat.le_of_ble_eq_true rfl, Nat.le_of_ble_eq_true rfl⟩, hw3, trivial⟩ ⟨zblind, zpre hX hS hFc hPc hK hDc⟩ rfl rfl hl.1 rfl (lv_room (Nat.le_of_ble_eq_true rfl)) dX9_linkCount_18 ⟨Nat.zero_le _, Nat.zero_le _⟩
        refine zc_i (ws' := [(A_t, .inr (9, [.ref A_t_kinds, .ref A_t_details, .ref A_t_lefts, .ref A_t_rights, .ref A_t_heights, .int t_count, .ref A_t_roots, .ref A_t_joints, .int t_sums])), (A_t_joints, .inl (cI, 9, .inl t_joints))]) hrun hP hD hS hFc [] rfl (by decide) rfl rfl (fun H5 locs hP hD hS => ?_)
        refine lv_if_eq (tgt := 28) hx hb dX9_linkCount_21 (by decide) (fun c6 => ?_) (fun c6 => ?_)
        · have hM := z_t c6 hM
          refine lv_iconst (v := 0) hx hb dX9_linkCount_28 (by decide) ?_
          exact B_29_1 (fn_Tree_linkCount_L4 t_sums t_joints n) ih x2 x1 0 _ _ ls hP hD hS (lv_sub hl [0, 2] rfl) hM
        · have hM := z_f c6 hM
          refine lv_iconst (v := 1) hx hb dX9_linkCount_24 (by decide) ?_
          refine lv_goto (tgt := 29) hx hb dX9_linkCount_25 (by decide) ?_
          exact B_29_1 (fn_Tree_linkCount_L4 t_sums t_joints n) ih x2 x1 1 _ _ ls hP hD hS (lv_sub hl [0, 2] rfl) hM
  refine lv_iconst (v := 0) hx hb dX9_linkCount_0 (by decide) ?_
  refine lv_istore_n (lv' := [(1, .int 0), (0, .ref A_t)]) hx hb dX9_linkCount_1 rfl hl (by decide) rfl (fun ls hl => ?_)
  refine lv_iconst (v := 0) hx hb dX9_linkCount_2 (by decide) ?_
  refine lv_istore_n (lv' := [(2, .int 0), (1, .int 0), (0, .ref A_t)]) hx hb dX9_linkCount_3 rfl hl (by decide) rfl (fun ls hl => ?_)
  exact L_4_0  zFU 0 0 _ _ ls hP hD hS (lv_sub hl [2, 1, 0] rfl) hM
def fn_Tree_countVariable_b36 (t_count : Int32) (t_kinds : Nat → Int32) (t_details : Nat → Int32) (k_4_0 : Int32 → Int32 → Int32 → Option (Int32)) (x1 : Int32) (x3 : Int32) (k0 : Int32) (k1 : Int32) : Option (Int32) := k_4_0 x1 (k0 + k1) (x3 + 1)
def fn_Tree_countVariable_b35 (t_count : Int32) (t_kinds : Nat → Int32) (t_details : Nat → Int32) (k_4_0 : Int32 → Int32 → Int32 → Option (Int32)) (x1 : Int32) (x3 : Int32) (k0 : Int32) : Option (Int32) := fn_Tree_countVariable_b36 t_count t_kinds t_details k_4_0 x1 x3 k0 0
def fn_Tree_countVariable_L4 (t_count : Int32) (t_kinds : Nat → Int32) (t_details : Nat → Int32) : Nat → Int32 → Int32 → Int32 → Option (Int32)
  | 0 => fun _ _ _ => none
  | n + 1 => fun x1 x2 x3 => (if t_count ≤ x3 then some x2 else ((fn_Tree_kindOf t_count t_kinds x3).bind fun q2 => (if q2 = 2 then ((fn_Tree_detailOf t_count t_details x3).bind fun q5 => (if q5 = x1 then fn_Tree_countVariable_b36 t_count t_kinds t_details (fn_Tree_countVariable_L4 t_count t_kinds t_details n) x1 x3 x2 1 else fn_Tree_countVariable_b35 t_count t_kinds t_details (fn_Tree_countVariable_L4 t_count t_kinds t_details n) x1 x3 x2)) else fn_Tree_countVariable_b35 t_count t_kinds t_details (fn_Tree_countVariable_L4 t_count t_kinds t_details n) x1 x3 x2)))
def fn_Tree_countVariable (t_count : Int32) (t_kinds : Nat → Int32) (t_details : Nat → Int32) (x1 : Int32) : Option (Int32) := fn_Tree_countVariable_L4 t_count t_kinds t_details zFU x1 0 0
set_option maxHeartbeats 40000000 in
set_option maxRecDepth 100000 in
theorem ct_Tree_countVariable (l : Launch) (D : va_G) (cI cJ cC : ClassId) (adK adV : Nat → Nat) (A_t A_t_kinds A_t_details A_t_lefts A_t_rights A_t_heights A_t_roots A_t_joints : Nat) (sz : Nat) (t_count : Int32) (t_sums : Int32) (t_kinds : Nat → Int32) (t_details : Nat → Int32) (x1 : Int32) {rs : Int32} (hM : fn_Tree_countVariable t_count t_kinds t_details x1 = some rs) : Met l yX9_countVariable wsX9_countVariable ({ frames := 2, cells := 0, slots := 0, locals := 42 } : Room) (zP D cI cJ cC adK adV [.ref A_t, .int x1] sz [(A_t, .inr (9, [.ref A_t_kinds, .ref A_t_details, .ref A_t_lefts, .ref A_t_rights, .ref A_t_heights, .int t_count, .ref A_t_roots, .ref A_t_joints, .int t_sums])), (A_t_kinds, .inl (cI, 160, .inl t_kinds)), (A_t_details, .inl (cI, 160, .inl t_details))]) (zQi D cI cJ cC rs [(A_t, .inr (9, [.ref A_t_kinds, .ref A_t_details, .ref A_t_lefts, .ref A_t_rights, .ref A_t_heights, .int t_count, .ref A_t_roots, .ref A_t_joints, .int t_sums])), (A_t_kinds, .inl (cI, 160, .inl t_kinds)), (A_t_details, .inl (cI, 160, .inl t_details))] (va_A [(A_t, .inr (9, [.ref A_t_kinds, .ref A_t_details, .ref A_t_lefts, .ref A_t_rights, .ref A_t_heights, .int t_count, .ref A_t_roots, .ref A_t_joints, .int t_sums])), (A_t_kinds, .inl (cI, 160, .inl t_kinds)), (A_t_details, .inl (cI, 160, .inl t_details))] sz)) 0 0 (va_A [(A_t, .inr (9, [.ref A_t_kinds, .ref A_t_details, .ref A_t_lefts, .ref A_t_rights, .ref A_t_heights, .int t_count, .ref A_t_roots, .ref A_t_joints, .int t_sums])), (A_t_kinds, .inl (cI, 160, .inl t_kinds)), (A_t_details, .inl (cI, 160, .inl t_details))] sz) := by
  refine Met.ofW (cc := cX9_countVariable) (maxL := 4) (ret := (some .int)) (by decide) rfl ?_
  intro p e s m args below meth c s₁ B hml hv0
  obtain ⟨hargs, hsz, hP, hK, hD0, hX⟩ := hv0
  have hx := B.exec
  have hb := B.bytes
  have hr := B.returns
  have hts := atoms_spec (ws := wsX9_countVariable) B.pre
  have hown : s.vm.findClass RX9 = some m.cls := findClass_of_methodNamed B.named
  have hlocks := B.notSynchronized
  subst hsz
  have hD := hD0.self (sz := s.heap.size)
  generalize hAe : va_A [(A_t, .inr (9, [.ref A_t_kinds, .ref A_t_details, .ref A_t_lefts, .ref A_t_rights, .ref A_t_heights, .int t_count, .ref A_t_roots, .ref A_t_joints, .int t_sums])), (A_t_kinds, .inl (cI, 160, .inl t_kinds)), (A_t_details, .inl (cI, 160, .inl t_details))] s.heap.size = A at hD hX ⊢
  have hA : ∀ q : Nat, s.heap.size ≤ q → A q := fun q h => by rw [← hAe]; exact Or.inr h
  have hS : va_S A s.heap s.heap [] := va_S.rf
  have hl := lv_entry ([.ref A_t, .int x1]) (n := 4) (Nat.le_of_ble_eq_true rfl)
  rw [hargs, lg_entry_eq, ← hargs]
  generalize (lg_sl ([.ref A_t, .int x1]) ++ List.replicate (4 - (lg_sl ([.ref A_t, .int x1])).length) Slot.unset).toArray = ls at hl ⊢
  have hl : lv_has ls 4 [(0, .ref A_t), (1, .int x1)] := hl
  have hw0 : ∀ w ∈ u_ws RX9 TX9 9, w ∈ wsX9_countVariable := by decide +kernel
  have hw1 := hts (.fieldLink RX9 33 "NotationParser$Tree" "count" "I") (by decide +kernel)
  have B_36_2 : ∀ (k_4_0 : Int32 → Int32 → Int32 → Option (Int32)) (hk_4_0 : ∀ (x1 : Int32) (x2 : Int32) (x3 : Int32) (H : Heap) (locs : List Loc) (ls : Array Slot), va_P D vwCl [(A_t, .inr (9, [.ref A_t_kinds, .ref A_t_details, .ref A_t_lefts, .ref A_t_rights, .ref A_t_heights, .int t_count, .ref A_t_roots, .ref A_t_joints, .int t_sums])), (A_t_kinds, .inl (cI, 160, .inl t_kinds)), (A_t_details, .inl (cI, 160, .inl t_details))] H → va_D A [(A_t, .inr (9, [.ref A_t_kinds, .ref A_t_details, .ref A_t_lefts, .ref A_t_rights, .ref A_t_heights, .int t_count, .ref A_t_roots, .ref A_t_joints, .int t_sums])), (A_t_kinds, .inl (cI, 160, .inl t_kinds)), (A_t_details, .inl (cI, 160, .inl t_details))] → va_S A s.heap H locs → lv_has ls 4 [(0, .ref A_t), (1, .int x1), (2, .int x2), (3, .int x3)] → k_4_0 x1 x2 x3 = some rs → W p l e (headSpec wsX9_countVariable ({ frames := 2, cells := 0, slots := 0, locals := 42 } : Room)).room s m args below meth c H locs 0 0 (MQ below (zQi D cI cJ cC rs [(A_t, .inr (9, [.ref A_t_kinds, .ref A_t_details, .ref A_t_lefts, .ref A_t_rights, .ref A_t_heights, .int t_count, .ref A_t_roots, .ref A_t_joints, .int t_sums])), (A_t_kinds, .inl (cI, 160, .inl t_kinds)), (A_t_details, .inl (cI, 160, .inl t_details))] A) args s 0 0 A) (F0 m 4 ls [])) (x1 : Int32) (x3 : Int32) (k0 : Int32) (k1 : Int32) (H : Heap) (locs : List Loc) (ls : Array Slot), va_P D vwCl [(A_t, .inr (9, [.ref A_t_kinds, .ref A_t_details, .ref A_t_lefts, .ref A_t_rights, .ref A_t_heights, .int t_count, .ref A_t_roots, .ref A_t_joints, .int t_sums])), (A_t_kinds, .inl (cI, 160, .inl t_kinds)), (A_t_details, .inl (cI, 160, .inl t_details))] H → va_D A [(A_t, .inr (9, [.ref A_t_kinds, .ref A_t_details, .ref A_t_lefts, .ref A_t_rights, .ref A_t_heights, .int t_count, .ref A_t_roots, .ref A_t_joints, .int t_sums])), (A_t_kinds, .inl (cI, 160, .inl t_kinds)), (A_t_details, .inl (cI, 160, .inl t_details))] → va_S A s.heap H locs → lv_has ls 4 [(0, .ref A_t), (1, .int x1), (3, .int x3)] → fn_Tree_countVariable_b36 t_count t_kinds t_details k_4_0 x1 x3 k0 k1 = some rs → W p l e (headSpec wsX9_countVariable ({ frames := 2, cells := 0, slots := 0, locals := 42 } : Room)).room s m args below meth c H locs 0 0 (MQ below (zQi D cI cJ cC rs [(A_t, .inr (9, [.ref A_t_kinds, .ref A_t_details, .ref A_t_lefts, .ref A_t_rights, .ref A_t_heights, .int t_count, .ref A_t_roots, .ref A_t_joints, .int t_sums])), (A_t_kinds, .inl (cI, 160, .inl t_kinds)), (A_t_details, .inl (cI, 160, .inl t_details))] A) args s 0 0 A) (F0 m 36 ls [.int k1, .int k0]) := by
    intro k_4_0 hk_4_0 x1 x3 k0 k1 H locs ls hP hD hS hl hM
    refine lv_iadd hx hb dX9_countVariable_36 ?_
    refine lv_istore_n (lv' := [(2, .int (k0 + k1)), (0, .ref A_t), (1, .int x1), (3, .int x3)]) hx hb dX9_countVariable_37 rfl hl (by decide) rfl (fun ls hl => ?_)
    refine lv_iinc (v := (x3 + 1)) (lv' := [(3, .int (x3 + 1)), (2, .int (k0 + k1)), (0, .ref A_t), (1, .int x1)]) hx hb dX9_countVariable_38 hl (k := 3) rfl rfl (by decide) rfl (fun ls hl => ?_)
    refine lv_goto (tgt := 4) hx hb dX9_countVariable_41 (by decide) ?_
    exact hk_4_0 x1 (k0 + k1) (x3 + 1) _ _ ls hP hD hS (lv_sub hl [2, 3, 1, 0] rfl) hM
  have B_35_1 : ∀ (k_4_0 : Int32 → Int32 → Int32 → Option (Int32)) (hk_4_0 : ∀ (x1 : Int32) (x2 : Int32) (x3 : Int32) (H : Heap) (locs : List Loc) (ls : Array Slot), va_P D vwCl [(A_t, .inr (9, [.ref A_t_kinds, .ref A_t_details, .ref A_t_lefts, .ref A_t_rights, .ref A_t_heights, .int t_count, .ref A_t_roots, .ref A_t_joints, .int t_sums])), (A_t_kinds, .inl (cI, 160, .inl t_kinds)), (A_t_details, .inl (cI, 160, .inl t_details))] H → va_D A [(A_t, .inr (9, [.ref A_t_kinds, .ref A_t_details, .ref A_t_lefts, .ref A_t_rights, .ref A_t_heights, .int t_count, .ref A_t_roots, .ref A_t_joints, .int t_sums])), (A_t_kinds, .inl (cI, 160, .inl t_kinds)), (A_t_details, .inl (cI, 160, .inl t_details))] → va_S A s.heap H locs → lv_has ls 4 [(0, .ref A_t), (1, .int x1), (2, .int x2), (3, .int x3)] → k_4_0 x1 x2 x3 = some rs → W p l e (headSpec wsX9_countVariable ({ frames := 2, cells := 0, slots := 0, locals := 42 } : Room)).room s m args below meth c H locs 0 0 (MQ below (zQi D cI cJ cC rs [(A_t, .inr (9, [.ref A_t_kinds, .ref A_t_details, .ref A_t_lefts, .ref A_t_rights, .ref A_t_heights, .int t_count, .ref A_t_roots, .ref A_t_joints, .int t_sums])), (A_t_kinds, .inl (cI, 160, .inl t_kinds)), (A_t_details, .inl (cI, 160, .inl t_details))] A) args s 0 0 A) (F0 m 4 ls [])) (x1 : Int32) (x3 : Int32) (k0 : Int32) (H : Heap) (locs : List Loc) (ls : Array Slot), va_P D vwCl [(A_t, .inr (9, [.ref A_t_kinds, .ref A_t_details, .ref A_t_lefts, .ref A_t_rights, .ref A_t_heights, .int t_count, .ref A_t_roots, .ref A_t_joints, .int t_sums])), (A_t_kinds, .inl (cI, 160, .inl t_kinds)), (A_t_details, .inl (cI, 160, .inl t_details))] H → va_D A [(A_t, .inr (9, [.ref A_t_kinds, .ref A_t_details, .ref A_t_lefts, .ref A_t_rights, .ref A_t_heights, .int t_count, .ref A_t_roots, .ref A_t_joints, .int t_sums])), (A_t_kinds, .inl (cI, 160, .inl t_kinds)), (A_t_details, .inl (cI, 160, .inl t_details))] → va_S A s.heap H locs → lv_has ls 4 [(0, .ref A_t), (1, .int x1), (3, .int x3)] → fn_Tree_countVariable_b35 t_count t_kinds t_details k_4_0 x1 x3 k0 = some rs → W p l e (headSpec wsX9_countVariable ({ frames := 2, cells := 0, slots := 0, locals := 42 } : Room)).room s m args below meth c H locs 0 0 (MQ below (zQi D cI cJ cC rs [(A_t, .inr (9, [.ref A_t_kinds, .ref A_t_details, .ref A_t_lefts, .ref A_t_rights, .ref A_t_heights, .int t_count, .ref A_t_roots, .ref A_t_joints, .int t_sums])), (A_t_kinds, .inl (cI, 160, .inl t_kinds)), (A_t_details, .inl (cI, 160, .inl t_details))] A) args s 0 0 A) (F0 m 35 ls [.int k0]) := by
    intro k_4_0 hk_4_0 x1 x3 k0 H locs ls hP hD hS hl hM
    refine lv_iconst (v := 0) hx hb dX9_countVariable_35 (by decide) ?_
    exact B_36_2 k_4_0 hk_4_0 x1 x3 k0 0 _ _ ls hP hD hS (lv_sub hl [0, 1, 2] rfl) hM
  have L_4_0 : ∀ (n : Nat) (x1 : Int32) (x2 : Int32) (x3 : Int32) (H : Heap) (locs : List Loc) (ls : Array Slot), va_P D vwCl [(A_t, .inr (9, [.ref A_t_kinds, .ref A_t_details, .ref A_t_lefts, .ref A_t_rights, .ref A_t_heights, .int t_count, .ref A_t_roots, .ref A_t_joints, .int t_sums])), (A_t_kinds, .inl (cI, 160, .inl t_kinds)), (A_t_details, .inl (cI, 160, .inl t_details))] H → va_D A [(A_t, .inr (9, [.ref A_t_kinds, .ref A_t_details, .ref A_t_lefts, .ref A_t_rights, .ref A_t_heights, .int t_count, .ref A_t_roots, .ref A_t_joints, .int t_sums])), (A_t_kinds, .inl (cI, 160, .inl t_kinds)), (A_t_details, .inl (cI, 160, .inl t_details))] → va_S A s.heap H locs → lv_has ls 4 [(0, .ref A_t), (1, .int x1), (2, .int x2), (3, .int x3)] → fn_Tree_countVariable_L4 t_count t_kinds t_details n x1 x2 x3 = some rs → W p l e (headSpec wsX9_countVariable ({ frames := 2, cells := 0, slots := 0, locals := 42 } : Room)).room s m args below meth c H locs 0 0 (MQ below (zQi D cI cJ cC rs [(A_t, .inr (9, [.ref A_t_kinds, .ref A_t_details, .ref A_t_lefts, .ref A_t_rights, .ref A_t_heights, .int t_count, .ref A_t_roots, .ref A_t_joints, .int t_sums])), (A_t_kinds, .inl (cI, 160, .inl t_kinds)), (A_t_details, .inl (cI, 160, .inl t_details))] A) args s 0 0 A) (F0 m 4 ls []) := by
    intro  n
    induction n with
    | zero => intro x1 x2 x3 H locs ls _ _ _ _ hM; exact z_n hM
    | succ n ih =>
      intro x1 x2 x3 H locs ls hP hD hS hl hM
      refine lv_iload_n hx hb dX9_countVariable_4 rfl (lv_at hl 3 rfl) ?_
      refine lv_aload_n hx hb dX9_countVariable_5 rfl (lv_at hl 0 rfl) ?_
      refine va_get (D := D) (ci := 9) (v := .int t_count) (C := RX9) (T := TX9) (N := 9) hx hb hts hw0 hown hK hP 0 rfl rfl 5 (by decide) hw1 (fun _ h9 => h9) rfl dX9_countVariable_6 ?_
      refine lv_icmp_ge (tgt := 44) hx hb dX9_countVariable_9 (by decide) (fun c1 => ?_) (fun c1 => ?_)
      · have hM := z_t c1 hM
        refine lv_iload_n hx hb dX9_countVariable_44 rfl (lv_at hl 2 rfl) ?_
        have hM := Option.some.inj hM
        subst hM
        exact W.iret (v := x2) hx hb hr (fun t ht hW => ⟨⟨_, (), rfl, rfl, ⟨by rw [ht]; exact hP, va_K.moved hW.alike hK, hD⟩⟩, hS.F ht⟩) hS.2.2 dX9_countVariable_45
      · have hM := z_f c1 hM
        refine lv_iload_n hx hb dX9_countVariable_12 rfl (lv_at hl 2 rfl) ?_
        refine lv_aload_n hx hb dX9_countVariable_13 rfl (lv_at hl 0 rfl) ?_
        refine lv_iload_n hx hb dX9_countVariable_14 rfl (lv_at hl 3 rfl) ?_
        obtain ⟨q2, hq2, hM⟩ := z_b hM
        obtain ⟨hPc, hDc, hFc⟩ := zcut (wc := [(A_t, .inr (9, [.ref A_t_kinds, .ref A_t_details, .ref A_t_lefts, .ref A_t_rights, .ref A_t_heights, .int t_count, .ref A_t_roots, .ref A_t_joints, .int t_sums])), (A_t_kinds, .inl (cI, 160, .inl t_kinds))]) hP hD hS hA [0, 1] rfl rfl (by decide)
        have hrun : va_Run p l e (headSpec wsX9_countVariable ({ frames := 2, cells := 0, slots := 0, locals := 42 } : Room)).room s m args below meth c H locs 0 0 _ _ (F0 m 15 ls _) _ (zQi D cI cJ cC q2 [(A_t, .inr (9, [.ref A_t_kinds, .ref A_t_details, .ref A_t_lefts, .ref A_t_rights, .ref A_t_heights, .int t_count, .ref A_t_roots, .ref A_t_joints, .int t_sums])), (A_t_kinds, .inl (cI, 160, .inl t_kinds))] (va_A [(A_t, .inr (9, [.ref A_t_kinds, .ref A_t_details, .ref A_t_lefts, .ref A_t_rights, .ref A_t_heights, .int t_count, .ref A_t_roots, .ref A_t_joints, .int t_sums])), (A_t_kinds, .inl (cI, 160, .inl t_kinds))] H.size) _) (va_A [(A_t, .inr (9, [.ref A_t_kinds, .ref A_t_details, .ref A_t_lefts, .ref A_t_rights, .ref A_t_heights, .int t_count, .ref A_t_roots, .ref A_t_joints, .int t_sums])), (A_t_kinds, .inl (cI, 160, .inl t_kinds))] H.size) := va_runV (As := [.int x3]) (rest := [.int x2]) ⟨hx, hb, hml, hown, hts⟩ (ct_Tree_kindOf l D cI cJ cC adK adV A_t A_t_kinds A_t_details A_t_lefts A_t_rights A_t_heights A_t_roots A_t_joints H.size t_count t_sums t_kinds x3 hq2) (cwV 1 hts gX9_countVariable_X9_kindOf rfl rfl rfl (by decide +kernel) ⟨Nat.le_of_ble_eq_true rfl, Nat.le_of_ble_eq_true rfl⟩) ⟨zblind, va_recv hK hP (ci := 9) (q0 := 0) rfl rfl, zpre hX hS hFc hPc hK hDc⟩ rfl rfl hl.1 rfl (lv_room (Nat.le_of_ble_eq_true rfl)) dX9_countVariable_15 ⟨Nat.zero_le _, Nat.zero_le _⟩
        refine zc_i (ws' := [(A_t, .inr (9, [.ref A_t_kinds, .ref A_t_details, .ref A_t_lefts, .ref A_t_rights, .ref A_t_heights, .int t_count, .ref A_t_roots, .ref A_t_joints, .int t_sums])), (A_t_kinds, .inl (cI, 160, .inl t_kinds)), (A_t_details, .inl (cI, 160, .inl t_details))]) hrun hP hD hS hFc [0, 1] rfl (by decide) rfl rfl (fun H3 locs hP hD hS => ?_)
        refine lv_iconst (v := 2) hx hb dX9_countVariable_18 (by decide) ?_
        refine lv_icmp_ne (tgt := 35) hx hb dX9_countVariable_19 (by decide) (fun c4 => ?_) (fun c4 => ?_)
        · have hM := z_f c4 hM
          exact B_35_1 (fn_Tree_countVariable_L4 t_count t_kinds t_details n) ih x1 x3 x2 _ _ ls hP hD hS (lv_sub hl [0, 1, 3] rfl) hM
        · have hM := z_t c4 hM
          refine lv_aload_n hx hb dX9_countVariable_22 rfl (lv_at hl 0 rfl) ?_
          refine lv_iload_n hx hb dX9_countVariable_23 rfl (lv_at hl 3 rfl) ?_
          obtain ⟨q5, hq5, hM⟩ := z_b hM
          obtain ⟨hPc, hDc, hFc⟩ := zcut (wc := [(A_t, .inr (9, [.ref A_t_kinds, .ref A_t_details, .ref A_t_lefts, .ref A_t_rights, .ref A_t_heights, .int t_count, .ref A_t_roots, .ref A_t_joints, .int t_sums])), (A_t_details, .inl (cI, 160, .inl t_details))]) hP hD hS hA [0, 2] rfl rfl (by decide)
          have hrun : va_Run p l e (headSpec wsX9_countVariable ({ frames := 2, cells := 0, slots := 0, locals := 42 } : Room)).room s m args below meth c H3 locs 0 0 _ _ (F0 m 24 ls _) _ (zQi D cI cJ cC q5 [(A_t, .inr (9, [.ref A_t_kinds, .ref A_t_details, .ref A_t_lefts, .ref A_t_rights, .ref A_t_heights, .int t_count, .ref A_t_roots, .ref A_t_joints, .int t_sums])), (A_t_details, .inl (cI, 160, .inl t_details))] (va_A [(A_t, .inr (9, [.ref A_t_kinds, .ref A_t_details, .ref A_t_lefts, .ref A_t_rights, .ref A_t_heights, .int t_count, .ref A_t_roots, .ref A_t_joints, .int t_sums])), (A_t_details, .inl (cI, 160, .inl t_details))] H3.size) _) (va_A [(A_t, .inr (9, [.ref A_t_kinds, .ref A_t_details, .ref A_t_lefts, .ref A_t_rights, .ref A_t_heights, .int t_count, .ref A_t_roots, .ref A_t_joints, .int t_sums])), (A_t_details, .inl (cI, 160, .inl t_details))] H3.size) := va_runV (As := [.int x3]) (rest := [.int x2]) ⟨hx, hb, hml, hown, hts⟩ (ct_Tree_detailOf l D cI cJ cC adK adV A_t A_t_kinds A_t_details A_t_lefts A_t_rights A_t_heights A_t_roots A_t_joints H3.size t_count t_sums t_details x3 hq5) (cwV 1 hts gX9_countVariable_X9_detailOf rfl rfl rfl (by decide +kernel) ⟨Nat.le_of_ble_eq_true rfl, Nat.le_of_ble_eq_true rfl⟩) ⟨zblind, va_recv hK hP (ci := 9) (q0 := 0) rfl rfl, zpre hX hS hFc hPc hK hDc⟩ rfl rfl hl.1 rfl (lv_room (Nat.le_of_ble_eq_true rfl)) dX9_countVariable_24 ⟨Nat.zero_le _, Nat.zero_le _⟩
          refine zc_i (ws' := [(A_t, .inr (9, [.ref A_t_kinds, .ref A_t_details, .ref A_t_lefts, .ref A_t_rights, .ref A_t_heights, .int t_count, .ref A_t_roots, .ref A_t_joints, .int t_sums])), (A_t_kinds, .inl (cI, 160, .inl t_kinds)), (A_t_details, .inl (cI, 160, .inl t_details))]) hrun hP hD hS hFc [0, 2] rfl (by decide) rfl rfl (fun H6 locs hP hD hS => ?_)
          refine lv_iload_n hx hb dX9_countVariable_27 rfl (lv_at hl 1 rfl) ?_
          refine lv_icmp_ne (tgt := 35) hx hb dX9_countVariable_28 (by decide) (fun c7 => ?_) (fun c7 => ?_)
          · have hM := z_f c7 hM
            exact B_35_1 (fn_Tree_countVariable_L4 t_count t_kinds t_details n) ih x1 x3 x2 _ _ ls hP hD hS (lv_sub hl [0, 1, 3] rfl) hM
          · have hM := z_t c7 hM
            refine lv_iconst (v := 1) hx hb dX9_countVariable_31 (by decide) ?_
            refine lv_goto (tgt := 36) hx hb dX9_countVariable_32 (by decide) ?_
            exact B_36_2 (fn_Tree_countVariable_L4 t_count t_kinds t_details n) ih x1 x3 x2 1 _ _ ls hP hD hS (lv_sub hl [0, 1, 3] rfl) hM
  refine lv_iconst (v := 0) hx hb dX9_countVariable_0 (by decide) ?_
  refine lv_istore_n (lv' := [(2, .int 0), (0, .ref A_t), (1, .int x1)]) hx hb dX9_countVariable_1 rfl hl (by decide) rfl (fun ls hl => ?_)
  refine lv_iconst (v := 0) hx hb dX9_countVariable_2 (by decide) ?_
  refine lv_istore_n (lv' := [(3, .int 0), (2, .int 0), (0, .ref A_t), (1, .int x1)]) hx hb dX9_countVariable_3 rfl hl (by decide) rfl (fun ls hl => ?_)
  exact L_4_0  zFU x1 0 0 _ _ ls hP hD hS (lv_sub hl [2, 3, 1, 0] rfl) hM
def fn_Tree_heightOf (t_count : Int32) (t_heights : Nat → Int32) (x1 : Int32) : Option (Int32) := (if (fn_Tree_hasNode t_count x1) = 0 then some 0 else (if (x1 < 0 ∨ 160 ≤ x1.toNatClampNeg) then none else some (t_heights x1.toNatClampNeg)))
set_option maxHeartbeats 40000000 in
set_option maxRecDepth 100000 in
theorem ct_Tree_heightOf (l : Launch) (D : va_G) (cI cJ cC : ClassId) (adK adV : Nat → Nat) (A_t A_t_kinds A_t_details A_t_lefts A_t_rights A_t_heights A_t_roots A_t_joints : Nat) (sz : Nat) (t_count : Int32) (t_sums : Int32) (t_heights : Nat → Int32) (x1 : Int32) {rs : Int32} (hM : fn_Tree_heightOf t_count t_heights x1 = some rs) : Met l yX9_heightOf wsX9_heightOf ({ frames := 1, cells := 0, slots := 0, locals := 21 } : Room) (zP D cI cJ cC adK adV [.ref A_t, .int x1] sz [(A_t, .inr (9, [.ref A_t_kinds, .ref A_t_details, .ref A_t_lefts, .ref A_t_rights, .ref A_t_heights, .int t_count, .ref A_t_roots, .ref A_t_joints, .int t_sums])), (A_t_heights, .inl (cI, 160, .inl t_heights))]) (zQi D cI cJ cC rs [(A_t, .inr (9, [.ref A_t_kinds, .ref A_t_details, .ref A_t_lefts, .ref A_t_rights, .ref A_t_heights, .int t_count, .ref A_t_roots, .ref A_t_joints, .int t_sums])), (A_t_heights, .inl (cI, 160, .inl t_heights))] (va_A [(A_t, .inr (9, [.ref A_t_kinds, .ref A_t_details, .ref A_t_lefts, .ref A_t_rights, .ref A_t_heights, .int t_count, .ref A_t_roots, .ref A_t_joints, .int t_sums])), (A_t_heights, .inl (cI, 160, .inl t_heights))] sz)) 0 0 (va_A [(A_t, .inr (9, [.ref A_t_kinds, .ref A_t_details, .ref A_t_lefts, .ref A_t_rights, .ref A_t_heights, .int t_count, .ref A_t_roots, .ref A_t_joints, .int t_sums])), (A_t_heights, .inl (cI, 160, .inl t_heights))] sz) := by
  refine Met.ofW (cc := cX9_heightOf) (maxL := 2) (ret := (some .int)) (by decide) rfl ?_
  intro p e s m args below meth c s₁ B hml hv0
  obtain ⟨hargs, hsz, hP, hK, hD0, hX⟩ := hv0
  have hx := B.exec
  have hb := B.bytes
  have hr := B.returns
  have hts := atoms_spec (ws := wsX9_heightOf) B.pre
  have hown : s.vm.findClass RX9 = some m.cls := findClass_of_methodNamed B.named
  have hlocks := B.notSynchronized
  subst hsz
  have hD := hD0.self (sz := s.heap.size)
  generalize hAe : va_A [(A_t, .inr (9, [.ref A_t_kinds, .ref A_t_details, .ref A_t_lefts, .ref A_t_rights, .ref A_t_heights, .int t_count, .ref A_t_roots, .ref A_t_joints, .int t_sums])), (A_t_heights, .inl (cI, 160, .inl t_heights))] s.heap.size = A at hD hX ⊢
  have hA : ∀ q : Nat, s.heap.size ≤ q → A q := fun q h => by rw [← hAe]; exact Or.inr h
  have hS : va_S A s.heap s.heap [] := va_S.rf
  have hl := lv_entry ([.ref A_t, .int x1]) (n := 2) (Nat.le_of_ble_eq_true rfl)
  rw [hargs, lg_entry_eq, ← hargs]
  generalize (lg_sl ([.ref A_t, .int x1]) ++ List.replicate (2 - (lg_sl ([.ref A_t, .int x1])).length) Slot.unset).toArray = ls at hl ⊢
  have hl : lv_has ls 2 [(0, .ref A_t), (1, .int x1)] := hl
  have hw0 : ∀ w ∈ u_ws RX9 TX9 9, w ∈ wsX9_heightOf := by decide +kernel
  have hw1 := hts (.fieldLink RX9 24 "NotationParser$Tree" "heights" "[I") (by decide +kernel)
  refine lv_aload_n hx hb dX9_heightOf_0 rfl (lv_at hl 0 rfl) ?_
  refine lv_iload_n hx hb dX9_heightOf_1 rfl (lv_at hl 1 rfl) ?_
  obtain ⟨hPc, hDc, hFc⟩ := zcut (wc := [(A_t, .inr (9, [.ref A_t_kinds, .ref A_t_details, .ref A_t_lefts, .ref A_t_rights, .ref A_t_heights, .int t_count, .ref A_t_roots, .ref A_t_joints, .int t_sums]))]) hP hD hS hA [0] rfl rfl (by decide)
  have hrun : va_Run p l e (headSpec wsX9_heightOf ({ frames := 1, cells := 0, slots := 0, locals := 21 } : Room)).room s m args below meth c s.heap [] 0 0 _ _ (F0 m 2 ls _) _ (zQi D cI cJ cC (fn_Tree_hasNode t_count x1) [(A_t, .inr (9, [.ref A_t_kinds, .ref A_t_details, .ref A_t_lefts, .ref A_t_rights, .ref A_t_heights, .int t_count, .ref A_t_roots, .ref A_t_joints, .int t_sums]))] (va_A [(A_t, .inr (9, [.ref A_t_kinds, .ref A_t_details, .ref A_t_lefts, .ref A_t_rights, .ref A_t_heights, .int t_count, .ref A_t_roots, .ref A_t_joints, .int t_sums]))] s.heap.size) _) (va_A [(A_t, .inr (9, [.ref A_t_kinds, .ref A_t_details, .ref A_t_lefts, .ref A_t_rights, .ref A_t_heights, .int t_count, .ref A_t_roots, .ref A_t_joints, .int t_sums]))] s.heap.size) := va_runV (As := [.int x1]) (rest := []) ⟨hx, hb, hml, hown, hts⟩ (ct_Tree_hasNode l D cI cJ cC adK adV A_t A_t_kinds A_t_details A_t_lefts A_t_rights A_t_heights A_t_roots A_t_joints s.heap.size t_count t_sums x1) (cwV 1 hts gX9_heightOf_X9_hasNode rfl rfl rfl (by decide +kernel) ⟨Nat.le_of_ble_eq_true rfl, Nat.le_of_ble_eq_true rfl⟩) ⟨zblind, va_recv hK hP (ci := 9) (q0 := 0) rfl rfl, zpre hX hS hFc hPc hK hDc⟩ rfl rfl hl.1 rfl (lv_room (Nat.le_of_ble_eq_true rfl)) dX9_heightOf_2 ⟨Nat.zero_le _, Nat.zero_le _⟩
  refine zc_i (ws' := [(A_t, .inr (9, [.ref A_t_kinds, .ref A_t_details, .ref A_t_lefts, .ref A_t_rights, .ref A_t_heights, .int t_count, .ref A_t_roots, .ref A_t_joints, .int t_sums])), (A_t_heights, .inl (cI, 160, .inl t_heights))]) hrun hP hD hS hFc [0] rfl (by decide) rfl rfl (fun H2 locs hP hD hS => ?_)
  refine lv_if_eq (tgt := 17) hx hb dX9_heightOf_5 (by decide) (fun c3 => ?_) (fun c3 => ?_)
  · have hM := z_t c3 hM
    refine lv_iconst (v := 0) hx hb dX9_heightOf_17 (by decide) ?_
    have hM := Option.some.inj hM
    subst hM
    exact W.iret (v := 0) hx hb hr (fun t ht hW => ⟨⟨_, (), rfl, rfl, ⟨by rw [ht]; exact hP, va_K.moved hW.alike hK, hD⟩⟩, hS.F ht⟩) hS.2.2 dX9_heightOf_18
  · have hM := z_f c3 hM
    refine lv_aload_n hx hb dX9_heightOf_8 rfl (lv_at hl 0 rfl) ?_
    refine va_get (D := D) (ci := 9) (v := .ref A_t_heights) (C := RX9) (T := TX9) (N := 9) hx hb hts hw0 hown hK hP 0 rfl rfl 4 (by decide) hw1 (fun _ h9 => h9) rfl dX9_heightOf_9 ?_
    refine lv_iload_n hx hb dX9_heightOf_12 rfl (lv_at hl 1 rfl) ?_
    obtain ⟨g4, hM⟩ := z_g hM
    refine va_iald hx hb hK hP 1 0 rfl rfl g4 dX9_heightOf_13 ?_
    refine lv_goto (tgt := 18) hx hb dX9_heightOf_14 (by decide) ?_
    have hM := Option.some.inj hM
    subst hM
    exact W.iret (v := (t_heights x1.toNatClampNeg)) hx hb hr (fun t ht hW => ⟨⟨_, (), rfl, rfl, ⟨by rw [ht]; exact hP, va_K.moved hW.alike hK, hD⟩⟩, hS.F ht⟩) hS.2.2 dX9_heightOf_18
def fn_Tree_greatestHeight_L4 (t_count : Int32) (t_lefts : Nat → Int32) (t_rights : Nat → Int32) : Nat → (Nat → Int32) → Int32 → Int32 → Option (Int32 × (Nat → Int32))
  | 0 => fun _ _ _ => none
  | n + 1 => fun t_heights x1 x2 => (if t_count ≤ x2 then some (x1, t_heights) else (if (x2 < 0 ∨ 160 ≤ x2.toNatClampNeg) then none else ((fn_Tree_heightOf t_count t_heights (t_lefts x2.toNatClampNeg)).bind fun q3 => (if (x2 < 0 ∨ 160 ≤ x2.toNatClampNeg) then none else ((fn_Tree_heightOf t_count t_heights (t_rights x2.toNatClampNeg)).bind fun q6 => (if (x2 < 0 ∨ 160 ≤ x2.toNatClampNeg) then none else (if (x2 < 0 ∨ 160 ≤ x2.toNatClampNeg) then none else (fn_Tree_greatestHeight_L4 t_count t_lefts t_rights n) (upd t_heights x2.toNatClampNeg (1 + (if q3 < q6 then q6 else q3))) (if x1 < ((upd t_heights x2.toNatClampNeg (1 + (if q3 < q6 then q6 else q3))) x2.toNatClampNeg) then ((upd t_heights x2.toNatClampNeg (1 + (if q3 < q6 then q6 else q3))) x2.toNatClampNeg) else x1) (x2 + 1))))))))
def fn_Tree_greatestHeight (t_count : Int32) (t_lefts : Nat → Int32) (t_rights : Nat → Int32) (t_heights : Nat → Int32) : Option (Int32 × (Nat → Int32)) := fn_Tree_greatestHeight_L4 t_count t_lefts t_rights zFU t_heights 0 0
set_option maxHeartbeats 40000000 in
set_option maxRecDepth 100000 in
theorem ct_Tree_greatestHeight (l : Launch) (D : va_G) (cI cJ cC : ClassId) (adK adV : Nat → Nat) (A_t A_t_kinds A_t_details A_t_lefts A_t_rights A_t_heights A_t_roots A_t_joints : Nat) (sz : Nat) (t_count : Int32) (t_sums : Int32) (t_lefts : Nat → Int32) (t_rights : Nat → Int32) (t_heights : Nat → Int32) {rs : Int32 × (Nat → Int32)} (hM : fn_Tree_greatestHeight t_count t_lefts t_rights t_heights = some rs) : Met l yX9_greatestHeight wsX9_greatestHeight ({ frames := 2, cells := 0, slots := 0, locals := 42 } : Room) (zP D cI cJ cC adK adV [.ref A_t] sz [(A_t, .inr (9, [.ref A_t_kinds, .ref A_t_details, .ref A_t_lefts, .ref A_t_rights, .ref A_t_heights, .int t_count, .ref A_t_roots, .ref A_t_joints, .int t_sums])), (A_t_lefts, .inl (cI, 160, .inl t_lefts)), (A_t_rights, .inl (cI, 160, .inl t_rights)), (A_t_heights, .inl (cI, 160, .inl t_heights))]) (zQi D cI cJ cC rs.1 [(A_t, .inr (9, [.ref A_t_kinds, .ref A_t_details, .ref A_t_lefts, .ref A_t_rights, .ref A_t_heights, .int t_count, .ref A_t_roots, .ref A_t_joints, .int t_sums])), (A_t_lefts, .inl (cI, 160, .inl t_lefts)), (A_t_rights, .inl (cI, 160, .inl t_rights)), (A_t_heights, .inl (cI, 160, .inl rs.2))] (va_A [(A_t, .inr (9, [.ref A_t_kinds, .ref A_t_details, .ref A_t_lefts, .ref A_t_rights, .ref A_t_heights, .int t_count, .ref A_t_roots, .ref A_t_joints, .int t_sums])), (A_t_lefts, .inl (cI, 160, .inl t_lefts)), (A_t_rights, .inl (cI, 160, .inl t_rights)), (A_t_heights, .inl (cI, 160, .inl t_heights))] sz)) 0 0 (va_A [(A_t, .inr (9, [.ref A_t_kinds, .ref A_t_details, .ref A_t_lefts, .ref A_t_rights, .ref A_t_heights, .int t_count, .ref A_t_roots, .ref A_t_joints, .int t_sums])), (A_t_lefts, .inl (cI, 160, .inl t_lefts)), (A_t_rights, .inl (cI, 160, .inl t_rights)), (A_t_heights, .inl (cI, 160, .inl t_heights))] sz) := by
  refine Met.ofW (cc := cX9_greatestHeight) (maxL := 3) (ret := (some .int)) (by decide) rfl ?_
  intro p e s m args below meth c s₁ B hml hv0
  obtain ⟨hargs, hsz, hP, hK, hD0, hX⟩ := hv0
  have hx := B.exec
  have hb := B.bytes
  have hr := B.returns
  have hts := atoms_spec (ws := wsX9_greatestHeight) B.pre
  have hown : s.vm.findClass RX9 = some m.cls := findClass_of_methodNamed B.named
  have hlocks := B.notSynchronized
  subst hsz
  have hD := hD0.self (sz := s.heap.size)
  generalize hAe : va_A [(A_t, .inr (9, [.ref A_t_kinds, .ref A_t_details, .ref A_t_lefts, .ref A_t_rights, .ref A_t_heights, .int t_count, .ref A_t_roots, .ref A_t_joints, .int t_sums])), (A_t_lefts, .inl (cI, 160, .inl t_lefts)), (A_t_rights, .inl (cI, 160, .inl t_rights)), (A_t_heights, .inl (cI, 160, .inl t_heights))] s.heap.size = A at hD hX ⊢
  have hA : ∀ q : Nat, s.heap.size ≤ q → A q := fun q h => by rw [← hAe]; exact Or.inr h
  have hS : va_S A s.heap s.heap [] := va_S.rf
  have hl := lv_entry ([.ref A_t]) (n := 3) (Nat.le_of_ble_eq_true rfl)
  rw [hargs, lg_entry_eq, ← hargs]
  generalize (lg_sl ([.ref A_t]) ++ List.replicate (3 - (lg_sl ([.ref A_t])).length) Slot.unset).toArray = ls at hl ⊢
  have hl : lv_has ls 3 [(0, .ref A_t)] := hl
  have hw0 : ∀ w ∈ u_ws RX9 TX9 9, w ∈ wsX9_greatestHeight := by decide +kernel
  have hw1 := hts (.fieldLink RX9 33 "NotationParser$Tree" "count" "I") (by decide +kernel)
  have hw2 := hts (.fieldLink RX9 24 "NotationParser$Tree" "heights" "[I") (by decide +kernel)
  have hw3 := hts (.fieldLink RX9 18 "NotationParser$Tree" "lefts" "[I") (by decide +kernel)
  have hw4 := hts (.fieldLink RX9 21 "NotationParser$Tree" "rights" "[I") (by decide +kernel)
  have hw5 := hts (.methodLink RX9 60 Lib.Math.max.name) (by decide +kernel)
  have hw6 := hts (.static Lib.Math.max.name) (by decide +kernel)
  have hw7 := hts (.initialized "java/lang/Math") (by decide +kernel)
  have hw8 := hts (.code Lib.Math.max.name Lib.Math.max.code 2 (some .int)) (by decide +kernel)
  have L_4_0 : ∀ (n : Nat) (t_heights : Nat → Int32) (x1 : Int32) (x2 : Int32) (H : Heap) (locs : List Loc) (ls : Array Slot), va_P D vwCl [(A_t, .inr (9, [.ref A_t_kinds, .ref A_t_details, .ref A_t_lefts, .ref A_t_rights, .ref A_t_heights, .int t_count, .ref A_t_roots, .ref A_t_joints, .int t_sums])), (A_t_lefts, .inl (cI, 160, .inl t_lefts)), (A_t_rights, .inl (cI, 160, .inl t_rights)), (A_t_heights, .inl (cI, 160, .inl t_heights))] H → va_D A [(A_t, .inr (9, [.ref A_t_kinds, .ref A_t_details, .ref A_t_lefts, .ref A_t_rights, .ref A_t_heights, .int t_count, .ref A_t_roots, .ref A_t_joints, .int t_sums])), (A_t_lefts, .inl (cI, 160, .inl t_lefts)), (A_t_rights, .inl (cI, 160, .inl t_rights)), (A_t_heights, .inl (cI, 160, .inl t_heights))] → va_S A s.heap H locs → lv_has ls 3 [(0, .ref A_t), (1, .int x1), (2, .int x2)] → fn_Tree_greatestHeight_L4 t_count t_lefts t_rights n t_heights x1 x2 = some rs → W p l e (headSpec wsX9_greatestHeight ({ frames := 2, cells := 0, slots := 0, locals := 42 } : Room)).room s m args below meth c H locs 0 0 (MQ below (zQi D cI cJ cC rs.1 [(A_t, .inr (9, [.ref A_t_kinds, .ref A_t_details, .ref A_t_lefts, .ref A_t_rights, .ref A_t_heights, .int t_count, .ref A_t_roots, .ref A_t_joints, .int t_sums])), (A_t_lefts, .inl (cI, 160, .inl t_lefts)), (A_t_rights, .inl (cI, 160, .inl t_rights)), (A_t_heights, .inl (cI, 160, .inl rs.2))] A) args s 0 0 A) (F0 m 4 ls []) := by
    intro  n
    induction n with
    | zero => intro t_heights x1 x2 H locs ls _ _ _ _ hM; exact z_n hM
    | succ n ih =>
      intro t_heights x1 x2 H locs ls hP hD hS hl hM
      refine lv_iload_n hx hb dX9_greatestHeight_4 rfl (lv_at hl 2 rfl) ?_
      refine lv_aload_n hx hb dX9_greatestHeight_5 rfl (lv_at hl 0 rfl) ?_
      refine va_get (D := D) (ci := 9) (v := .int t_count) (C := RX9) (T := TX9) (N := 9) hx hb hts hw0 hown hK hP 0 rfl rfl 5 (by decide) hw1 (fun _ h9 => h9) rfl dX9_greatestHeight_6 ?_
      refine lv_icmp_ge (tgt := 60) hx hb dX9_greatestHeight_9 (by decide) (fun c1 => ?_) (fun c1 => ?_)
      · have hM := z_t c1 hM
        refine lv_iload_n hx hb dX9_greatestHeight_60 rfl (lv_at hl 1 rfl) ?_
        have hM := Option.some.inj hM
        subst hM
        exact W.iret (v := x1) hx hb hr (fun t ht hW => ⟨⟨_, (), rfl, rfl, ⟨by rw [ht]; exact hP, va_K.moved hW.alike hK, hD⟩⟩, hS.F ht⟩) hS.2.2 dX9_greatestHeight_61
      · have hM := z_f c1 hM
        refine lv_aload_n hx hb dX9_greatestHeight_12 rfl (lv_at hl 0 rfl) ?_
        refine va_get (D := D) (ci := 9) (v := .ref A_t_heights) (C := RX9) (T := TX9) (N := 9) hx hb hts hw0 hown hK hP 0 rfl rfl 4 (by decide) hw2 (fun _ h9 => h9) rfl dX9_greatestHeight_13 ?_
        refine lv_iload_n hx hb dX9_greatestHeight_16 rfl (lv_at hl 2 rfl) ?_
        refine lv_iconst (v := 1) hx hb dX9_greatestHeight_17 (by decide) ?_
        refine lv_aload_n hx hb dX9_greatestHeight_18 rfl (lv_at hl 0 rfl) ?_
        refine lv_aload_n hx hb dX9_greatestHeight_19 rfl (lv_at hl 0 rfl) ?_
        refine va_get (D := D) (ci := 9) (v := .ref A_t_lefts) (C := RX9) (T := TX9) (N := 9) hx hb hts hw0 hown hK hP 0 rfl rfl 2 (by decide) hw3 (fun _ h9 => h9) rfl dX9_greatestHeight_20 ?_
        refine lv_iload_n hx hb dX9_greatestHeight_23 rfl (lv_at hl 2 rfl) ?_
        obtain ⟨g2, hM⟩ := z_g hM
        refine va_iald hx hb hK hP 1 0 rfl rfl g2 dX9_greatestHeight_24 ?_
        obtain ⟨q3, hq3, hM⟩ := z_b hM
        obtain ⟨hPc, hDc, hFc⟩ := zcut (wc := [(A_t, .inr (9, [.ref A_t_kinds, .ref A_t_details, .ref A_t_lefts, .ref A_t_rights, .ref A_t_heights, .int t_count, .ref A_t_roots, .ref A_t_joints, .int t_sums])), (A_t_heights, .inl (cI, 160, .inl t_heights))]) hP hD hS hA [0, 3] rfl rfl (by decide)
        have hrun : va_Run p l e (headSpec wsX9_greatestHeight ({ frames := 2, cells := 0, slots := 0, locals := 42 } : Room)).room s m args below meth c H locs 0 0 _ _ (F0 m 25 ls _) _ (zQi D cI cJ cC q3 [(A_t, .inr (9, [.ref A_t_kinds, .ref A_t_details, .ref A_t_lefts, .ref A_t_rights, .ref A_t_heights, .int t_count, .ref A_t_roots, .ref A_t_joints, .int t_sums])), (A_t_heights, .inl (cI, 160, .inl t_heights))] (va_A [(A_t, .inr (9, [.ref A_t_kinds, .ref A_t_details, .ref A_t_lefts, .ref A_t_rights, .ref A_t_heights, .int t_count, .ref A_t_roots, .ref A_t_joints, .int t_sums])), (A_t_heights, .inl (cI, 160, .inl t_heights))] H.size) _) (va_A [(A_t, .inr (9, [.ref A_t_kinds, .ref A_t_details, .ref A_t_lefts, .ref A_t_rights, .ref A_t_heights, .int t_count, .ref A_t_roots, .ref A_t_joints, .int t_sums])), (A_t_heights, .inl (cI, 160, .inl t_heights))] H.size) := va_runV (As := [.int (t_lefts x2.toNatClampNeg)]) (rest := [.int 1, .int x2, .ref A_t_heights]) ⟨hx, hb, hml, hown, hts⟩ (ct_Tree_heightOf l D cI cJ cC adK adV A_t A_t_kinds A_t_details A_t_lefts A_t_rights A_t_heights A_t_roots A_t_joints H.size t_count t_sums t_heights (t_lefts x2.toNatClampNeg) hq3) (cwV 1 hts gX9_greatestHeight_X9_heightOf rfl rfl rfl (by decide +kernel) ⟨Nat.le_of_ble_eq_true rfl, Nat.le_of_ble_eq_true rfl⟩) ⟨zblind, va_recv hK hP (ci := 9) (q0 := 0) rfl rfl, zpre hX hS hFc hPc hK hDc⟩ rfl rfl hl.1 rfl (lv_room (Nat.le_of_ble_eq_true rfl)) dX9_greatestHeight_25 ⟨Nat.zero_le _, Nat.zero_le _⟩
        refine zc_i (ws' := [(A_t, .inr (9, [.ref A_t_kinds, .ref A_t_details, .ref A_t_lefts, .ref A_t_rights, .ref A_t_heights, .int t_count, .ref A_t_roots, .ref A_t_joints, .int t_sums])), (A_t_lefts, .inl (cI, 160, .inl t_lefts)), (A_t_rights, .inl (cI, 160, .inl t_rights)), (A_t_heights, .inl (cI, 160, .inl t_heights))]) hrun hP hD hS hFc [0, 3] rfl (by decide) rfl rfl (fun H4 locs hP hD hS => ?_)
        refine lv_aload_n hx hb dX9_greatestHeight_28 rfl (lv_at hl 0 rfl) ?_
        refine lv_aload_n hx hb dX9_greatestHeight_29 rfl (lv_at hl 0 rfl) ?_
        refine va_get (D := D) (ci := 9) (v := .ref A_t_rights) (C := RX9) (T := TX9) (N := 9) hx hb hts hw0 hown hK hP 0 rfl rfl 3 (by decide) hw4 (fun _ h9 => h9) rfl dX9_greatestHeight_30 ?_
        refine lv_iload_n hx hb dX9_greatestHeight_33 rfl (lv_at hl 2 rfl) ?_
        obtain ⟨g5, hM⟩ := z_g hM
        refine va_iald hx hb hK hP 2 0 rfl rfl g5 dX9_greatestHeight_34 ?_
        obtain ⟨q6, hq6, hM⟩ := z_b hM
        obtain ⟨hPc, hDc, hFc⟩ := zcut (wc := [(A_t, .inr (9, [.ref A_t_kinds, .ref A_t_details, .ref A_t_lefts, .ref A_t_rights, .ref A_t_heights, .int t_count, .ref A_t_roots, .ref A_t_joints, .int t_sums])), (A_t_heights, .inl (cI, 160, .inl t_heights))]) hP hD hS hA [0, 3] rfl rfl (by decide)
        have hrun : va_Run p l e (headSpec wsX9_greatestHeight ({ frames := 2, cells := 0, slots := 0, locals := 42 } : Room)).room s m args below meth c H4 locs 0 0 _ _ (F0 m 35 ls _) _ (zQi D cI cJ cC q6 [(A_t, .inr (9, [.ref A_t_kinds, .ref A_t_details, .ref A_t_lefts, .ref A_t_rights, .ref A_t_heights, .int t_count, .ref A_t_roots, .ref A_t_joints, .int t_sums])), (A_t_heights, .inl (cI, 160, .inl t_heights))] (va_A [(A_t, .inr (9, [.ref A_t_kinds, .ref A_t_details, .ref A_t_lefts, .ref A_t_rights, .ref A_t_heights, .int t_count, .ref A_t_roots, .ref A_t_joints, .int t_sums])), (A_t_heights, .inl (cI, 160, .inl t_heights))] H4.size) _) (va_A [(A_t, .inr (9, [.ref A_t_kinds, .ref A_t_details, .ref A_t_lefts, .ref A_t_rights, .ref A_t_heights, .int t_count, .ref A_t_roots, .ref A_t_joints, .int t_sums])), (A_t_heights, .inl (cI, 160, .inl t_heights))] H4.size) := va_runV (As := [.int (t_rights x2.toNatClampNeg)]) (rest := [.int q3, .int 1, .int x2, .ref A_t_heights]) ⟨hx, hb, hml, hown, hts⟩ (ct_Tree_heightOf l D cI cJ cC adK adV A_t A_t_kinds A_t_details A_t_lefts A_t_rights A_t_heights A_t_roots A_t_joints H4.size t_count t_sums t_heights (t_rights x2.toNatClampNeg) hq6) (cwV 1 hts gX9_greatestHeight_X9_heightOf rfl rfl rfl (by decide +kernel) ⟨Nat.le_of_ble_eq_true rfl, Nat.le_of_ble_eq_true rfl⟩) ⟨zblind, va_recv hK hP (ci := 9) (q0 := 0) rfl rfl, zpre hX hS hFc hPc hK hDc⟩ rfl rfl hl.1 rfl (lv_room (Nat.le_of_ble_eq_true rfl)) dX9_greatestHeight_35 ⟨Nat.zero_le _, Nat.zero_le _⟩
        refine zc_i (ws' := [(A_t, .inr (9, [.ref A_t_kinds, .ref A_t_details, .ref A_t_lefts, .ref A_t_rights, .ref A_t_heights, .int t_count, .ref A_t_roots, .ref A_t_joints, .int t_sums])), (A_t_lefts, .inl (cI, 160, .inl t_lefts)), (A_t_rights, .inl (cI, 160, .inl t_rights)), (A_t_heights, .inl (cI, 160, .inl t_heights))]) hrun hP hD hS hFc [0, 3] rfl (by decide) rfl rfl (fun H7 locs hP hD hS => ?_)
        refine va_mmax hx hb (hml.trans hl.1.symm) hown hw5 hw6 hw7 hw8 (Nat.le_of_ble_eq_true rfl) (Nat.le_of_ble_eq_true rfl) (Nat.zero_le _) (Nat.zero_le _) dX9_greatestHeight_38 ?_
        refine lv_iadd hx hb dX9_greatestHeight_41 ?_
        obtain ⟨g8, hM⟩ := z_g hM
        refine va_iast hx hb hK hP hD hS 3 0 rfl rfl g8 dX9_greatestHeight_42 (fun H9 locs hP hD hS => ?_)
        have hP : va_P D vwCl [(A_t, .inr (9, [.ref A_t_kinds, .ref A_t_details, .ref A_t_lefts, .ref A_t_rights, .ref A_t_heights, .int t_count, .ref A_t_roots, .ref A_t_joints, .int t_sums])), (A_t_lefts, .inl (cI, 160, .inl t_lefts)), (A_t_rights, .inl (cI, 160, .inl t_rights)), (A_t_heights, .inl (cI, 160, .inl (upd t_heights x2.toNatClampNeg (1 + (if q3 < q6 then q6 else q3)))))] H9 := hP
        have hD : va_D A [(A_t, .inr (9, [.ref A_t_kinds, .ref A_t_details, .ref A_t_lefts, .ref A_t_rights, .ref A_t_heights, .int t_count, .ref A_t_roots, .ref A_t_joints, .int t_sums])), (A_t_lefts, .inl (cI, 160, .inl t_lefts)), (A_t_rights, .inl (cI, 160, .inl t_rights)), (A_t_heights, .inl (cI, 160, .inl (upd t_heights x2.toNatClampNeg (1 + (if q3 < q6 then q6 else q3)))))] := hD
        refine lv_iload_n hx hb dX9_greatestHeight_43 rfl (lv_at hl 1 rfl) ?_
        refine lv_aload_n hx hb dX9_greatestHeight_44 rfl (lv_at hl 0 rfl) ?_
        refine va_get (D := D) (ci := 9) (v := .ref A_t_heights) (C := RX9) (T := TX9) (N := 9) hx hb hts hw0 hown hK hP 0 rfl rfl 4 (by decide) hw2 (fun _ h9 => h9) rfl dX9_greatestHeight_45 ?_
        refine lv_iload_n hx hb dX9_greatestHeight_48 rfl (lv_at hl 2 rfl) ?_
        obtain ⟨g10, hM⟩ := z_g hM
        refine va_iald hx hb hK hP 3 0 rfl rfl g10 dX9_greatestHeight_49 ?_
        refine va_mmax hx hb (hml.trans hl.1.symm) hown hw5 hw6 hw7 hw8 (Nat.le_of_ble_eq_true rfl) (Nat.le_of_ble_eq_true rfl) (Nat.zero_le _) (Nat.zero_le _) dX9_greatestHeight_50 ?_
        refine lv_istore_n (lv' := [(1, .int (if x1 < ((upd t_heights x2.toNatClampNeg (1 + (if q3 < q6 then q6 else q3))) x2.toNatClampNeg) then ((upd t_heights x2.toNatClampNeg (1 + (if q3 < q6 then q6 else q3))) x2.toNatClampNeg) else x1)), (0, .ref A_t), (2, .int x2)]) hx hb dX9_greatestHeight_53 rfl hl (by decide) rfl (fun ls hl => ?_)
        refine lv_iinc (v := (x2 + 1)) (lv' := [(2, .int (x2 + 1)), (1, .int (if x1 < ((upd t_heights x2.toNatClampNeg (1 + (if q3 < q6 then q6 else q3))) x2.toNatClampNeg) then ((upd t_heights x2.toNatClampNeg (1 + (if q3 < q6 then q6 else q3))) x2.toNatClampNeg) else x1)), (0, .ref A_t)]) hx hb dX9_greatestHeight_54 hl (k := 2) rfl rfl (by decide) rfl (fun ls hl => ?_)
        refine lv_goto (tgt := 4) hx hb dX9_greatestHeight_57 (by decide) ?_
        exact ih (upd t_heights x2.toNatClampNeg (1 + (if q3 < q6 then q6 else q3))) (if x1 < ((upd t_heights x2.toNatClampNeg (1 + (if q3 < q6 then q6 else q3))) x2.toNatClampNeg) then ((upd t_heights x2.toNatClampNeg (1 + (if q3 < q6 then q6 else q3))) x2.toNatClampNeg) else x1) (x2 + 1) _ _ ls hP hD hS (lv_sub hl [2, 1, 0] rfl) hM
  refine lv_iconst (v := 0) hx hb dX9_greatestHeight_0 (by decide) ?_
  refine lv_istore_n (lv' := [(1, .int 0), (0, .ref A_t)]) hx hb dX9_greatestHeight_1 rfl hl (by decide) rfl (fun ls hl => ?_)
  refine lv_iconst (v := 0) hx hb dX9_greatestHeight_2 (by decide) ?_
  refine lv_istore_n (lv' := [(2, .int 0), (1, .int 0), (0, .ref A_t)]) hx hb dX9_greatestHeight_3 rfl hl (by decide) rfl (fun ls hl => ?_)
  exact L_4_0  zFU t_heights 0 0 _ _ ls hP hD hS (lv_sub hl [2, 1, 0] rfl) hM
