set_option maxRecDepth 20000 in
theorem ggX7_firstFault_X8_size : GoodIn wsX7_firstFault wsX8_size := goodIn_r _ [9, 10, 44, 45, 46, 47] rfl (by decide +kernel)
set_option maxRecDepth 20000 in
theorem gX7_firstFault_X8_size : GoodIn wsX7_firstFault (wsV RX7 25 RX8 yX8_size wsX8_size) := goodIn_app (goodIn_of _ (by decide +kernel)) ggX7_firstFault_X8_size
set_option maxRecDepth 20000 in
theorem ggX7_firstFault_X8_kindOf : GoodIn wsX7_firstFault wsX8_kindOf := goodIn_r _ [14, 10, 15, 44, 45, 46, 47] rfl (by decide +kernel)
set_option maxRecDepth 20000 in
theorem gX7_firstFault_X8_kindOf : GoodIn wsX7_firstFault (wsV RX7 31 RX8 yX8_kindOf wsX8_kindOf) := goodIn_app (goodIn_of _ (by decide +kernel)) ggX7_firstFault_X8_kindOf
set_option maxRecDepth 20000 in
theorem ggX7_firstFault_X7_takes : GoodIn wsX7_firstFault wsX7_takes := goodIn_r _ [20, 1, 21, 22, 23, 24, 25, 26, 19, 27, 2, 28, 29, 30, 31, 32, 33, 34, 4, 3, 35, 36, 37, 38, 39, 40, 41, 42, 43] rfl (by decide +kernel)
set_option maxRecDepth 20000 in
theorem gX7_firstFault_X7_takes : GoodIn wsX7_firstFault (wsV RX7 35 RX7 yX7_takes wsX7_takes) := goodIn_app (goodIn_of _ (by decide +kernel)) ggX7_firstFault_X7_takes
theorem dX7_firstFault_0 : decode cX7_firstFault 0 = .ok (.aload_n 0, 1) := by decide +kernel
theorem dX7_firstFault_1 : decode cX7_firstFault 1 = .ok (.iconst 0, 1) := by decide +kernel
theorem dX7_firstFault_2 : decode cX7_firstFault 2 = .ok (.putfield 11, 3) := by decide +kernel
theorem dX7_firstFault_5 : decode cX7_firstFault 5 = .ok (.aload_n 0, 1) := by decide +kernel
theorem dX7_firstFault_6 : decode cX7_firstFault 6 = .ok (.iconst 0, 1) := by decide +kernel
theorem dX7_firstFault_7 : decode cX7_firstFault 7 = .ok (.putfield 15, 3) := by decide +kernel
theorem dX7_firstFault_10 : decode cX7_firstFault 10 = .ok (.aload_n 0, 1) := by decide +kernel
theorem dX7_firstFault_11 : decode cX7_firstFault 11 = .ok (.iconst 0, 1) := by decide +kernel
theorem dX7_firstFault_12 : decode cX7_firstFault 12 = .ok (.putfield 18, 3) := by decide +kernel
theorem dX7_firstFault_15 : decode cX7_firstFault 15 = .ok (.aload_n 0, 1) := by decide +kernel
theorem dX7_firstFault_16 : decode cX7_firstFault 16 = .ok (.iconst 0, 1) := by decide +kernel
theorem dX7_firstFault_17 : decode cX7_firstFault 17 = .ok (.putfield 21, 3) := by decide +kernel
theorem dX7_firstFault_20 : decode cX7_firstFault 20 = .ok (.iconst 0, 1) := by decide +kernel
theorem dX7_firstFault_21 : decode cX7_firstFault 21 = .ok (.istore_n 2, 1) := by decide +kernel
theorem dX7_firstFault_22 : decode cX7_firstFault 22 = .ok (.iload_n 2, 1) := by decide +kernel
theorem dX7_firstFault_23 : decode cX7_firstFault 23 = .ok (.aload_n 1, 1) := by decide +kernel
theorem dX7_firstFault_24 : decode cX7_firstFault 24 = .ok (.invokevirtual 25, 3) := by decide +kernel
theorem dX7_firstFault_27 : decode cX7_firstFault 27 = .ok (.if_icmp .ge 23, 3) := by decide +kernel
theorem dX7_firstFault_30 : decode cX7_firstFault 30 = .ok (.aload_n 0, 1) := by decide +kernel
theorem dX7_firstFault_31 : decode cX7_firstFault 31 = .ok (.aload_n 1, 1) := by decide +kernel
theorem dX7_firstFault_32 : decode cX7_firstFault 32 = .ok (.iload_n 2, 1) := by decide +kernel
theorem dX7_firstFault_33 : decode cX7_firstFault 33 = .ok (.invokevirtual 31, 3) := by decide +kernel
theorem dX7_firstFault_36 : decode cX7_firstFault 36 = .ok (.invokevirtual 35, 3) := by decide +kernel
theorem dX7_firstFault_39 : decode cX7_firstFault 39 = .ok (.ifCond .ne 5, 3) := by decide +kernel
theorem dX7_firstFault_42 : decode cX7_firstFault 42 = .ok (.iload_n 2, 1) := by decide +kernel
theorem dX7_firstFault_43 : decode cX7_firstFault 43 = .ok (.ireturn, 1) := by decide +kernel
theorem dX7_firstFault_44 : decode cX7_firstFault 44 = .ok (.iinc 2 1, 3) := by decide +kernel
theorem dX7_firstFault_47 : decode cX7_firstFault 47 = .ok (.goto (-25), 3) := by decide +kernel
theorem dX7_firstFault_50 : decode cX7_firstFault 50 = .ok (.aload_n 0, 1) := by decide +kernel
theorem dX7_firstFault_51 : decode cX7_firstFault 51 = .ok (.getfield 11, 3) := by decide +kernel
theorem dX7_firstFault_54 : decode cX7_firstFault 54 = .ok (.iconst 3, 1) := by decide +kernel
theorem dX7_firstFault_55 : decode cX7_firstFault 55 = .ok (.if_icmp .ne 21, 3) := by decide +kernel
theorem dX7_firstFault_58 : decode cX7_firstFault 58 = .ok (.aload_n 0, 1) := by decide +kernel
theorem dX7_firstFault_59 : decode cX7_firstFault 59 = .ok (.getfield 15, 3) := by decide +kernel
theorem dX7_firstFault_62 : decode cX7_firstFault 62 = .ok (.ifCond .ne 14, 3) := by decide +kernel
theorem dX7_firstFault_65 : decode cX7_firstFault 65 = .ok (.aload_n 0, 1) := by decide +kernel
theorem dX7_firstFault_66 : decode cX7_firstFault 66 = .ok (.getfield 21, 3) := by decide +kernel
theorem dX7_firstFault_69 : decode cX7_firstFault 69 = .ok (.ifCond .ne 7, 3) := by decide +kernel
theorem dX7_firstFault_72 : decode cX7_firstFault 72 = .ok (.iconst (-1), 1) := by decide +kernel
theorem dX7_firstFault_73 : decode cX7_firstFault 73 = .ok (.goto 7, 3) := by decide +kernel
theorem dX7_firstFault_76 : decode cX7_firstFault 76 = .ok (.aload_n 1, 1) := by decide +kernel
theorem dX7_firstFault_77 : decode cX7_firstFault 77 = .ok (.invokevirtual 25, 3) := by decide +kernel
theorem dX7_firstFault_80 : decode cX7_firstFault 80 = .ok (.ireturn, 1) := by decide +kernel
set_option maxRecDepth 20000 in
theorem ggX7_takes_X11_startsPower : GoodIn wsX7_takes wsX11_startsPower := goodIn_r _ [4] rfl (by decide +kernel)
set_option maxRecDepth 20000 in
theorem gX7_takes_X11_startsPower_n39 : GoodIn wsX7_takes (wsX11_startsPower) := ggX7_takes_X11_startsPower
set_option maxRecDepth 20000 in
theorem ggX7_takes_X7_takesPower : GoodIn wsX7_takes wsX7_takesPower := goodIn_r _ [9, 1, 10, 11, 12, 3, 13, 24, 25, 26, 27, 28] rfl (by decide +kernel)
set_option maxRecDepth 20000 in
theorem gX7_takes_X7_takesPower : GoodIn wsX7_takes (wsV RX7 42 RX7 yX7_takesPower wsX7_takesPower) := goodIn_app (goodIn_of _ (by decide +kernel)) ggX7_takes_X7_takesPower
set_option maxRecDepth 20000 in
theorem ggX7_takes_X7_takesWhatFollows : GoodIn wsX7_takes wsX7_takesWhatFollows := goodIn_r _ [17, 1, 10, 18, 19, 20, 3, 21, 22, 23, 24, 25, 26, 27, 28] rfl (by decide +kernel)
set_option maxRecDepth 20000 in
theorem gX7_takes_X7_takesWhatFollows : GoodIn wsX7_takes (wsV RX7 45 RX7 yX7_takesWhatFollows wsX7_takesWhatFollows) := goodIn_app (goodIn_of _ (by decide +kernel)) ggX7_takes_X7_takesWhatFollows
theorem dX7_takes_0 : decode cX7_takes 0 = .ok (.aload_n 0, 1) := by decide +kernel
theorem dX7_takes_1 : decode cX7_takes 1 = .ok (.getfield 11, 3) := by decide +kernel
theorem dX7_takes_4 : decode cX7_takes 4 = .ok (.iconst 3, 1) := by decide +kernel
theorem dX7_takes_5 : decode cX7_takes 5 = .ok (.if_icmp .ne 15, 3) := by decide +kernel
theorem dX7_takes_8 : decode cX7_takes 8 = .ok (.iload_n 1, 1) := by decide +kernel
theorem dX7_takes_9 : decode cX7_takes 9 = .ok (.invokestatic 39, 3) := by decide +kernel
theorem dX7_takes_12 : decode cX7_takes 12 = .ok (.ifCond .eq 14, 3) := by decide +kernel
theorem dX7_takes_15 : decode cX7_takes 15 = .ok (.iload_n 1, 1) := by decide +kernel
theorem dX7_takes_16 : decode cX7_takes 16 = .ok (.iconst 1, 1) := by decide +kernel
theorem dX7_takes_17 : decode cX7_takes 17 = .ok (.if_icmp .eq 9, 3) := by decide +kernel
theorem dX7_takes_20 : decode cX7_takes 20 = .ok (.aload_n 0, 1) := by decide +kernel
theorem dX7_takes_21 : decode cX7_takes 21 = .ok (.iload_n 1, 1) := by decide +kernel
theorem dX7_takes_22 : decode cX7_takes 22 = .ok (.invokevirtual 42, 3) := by decide +kernel
theorem dX7_takes_25 : decode cX7_takes 25 = .ok (.ireturn, 1) := by decide +kernel
theorem dX7_takes_26 : decode cX7_takes 26 = .ok (.aload_n 0, 1) := by decide +kernel
theorem dX7_takes_27 : decode cX7_takes 27 = .ok (.iload_n 1, 1) := by decide +kernel
theorem dX7_takes_28 : decode cX7_takes 28 = .ok (.invokevirtual 45, 3) := by decide +kernel
theorem dX7_takes_31 : decode cX7_takes 31 = .ok (.ireturn, 1) := by decide +kernel
set_option maxRecDepth 20000 in
theorem ggX7_takesPower_X11_isFunction : GoodIn wsX7_takesPower wsX11_isFunction := goodIn_r _ [6] rfl (by decide +kernel)
set_option maxRecDepth 20000 in
theorem gX7_takesPower_X11_isFunction_n48 : GoodIn wsX7_takesPower (wsX11_isFunction) := ggX7_takesPower_X11_isFunction
theorem dX7_takesPower_0 : decode cX7_takesPower 0 = .ok (.iload_n 1, 1) := by decide +kernel
theorem dX7_takesPower_1 : decode cX7_takesPower 1 = .ok (.iconst 1, 1) := by decide +kernel
theorem dX7_takesPower_2 : decode cX7_takesPower 2 = .ok (.if_icmp .eq 8, 3) := by decide +kernel
theorem dX7_takesPower_5 : decode cX7_takesPower 5 = .ok (.iload_n 1, 1) := by decide +kernel
theorem dX7_takesPower_6 : decode cX7_takesPower 6 = .ok (.iconst 2, 1) := by decide +kernel
theorem dX7_takesPower_7 : decode cX7_takesPower 7 = .ok (.if_icmp .ne 10, 3) := by decide +kernel
theorem dX7_takesPower_10 : decode cX7_takesPower 10 = .ok (.aload_n 0, 1) := by decide +kernel
theorem dX7_takesPower_11 : decode cX7_takesPower 11 = .ok (.iconst 3, 1) := by decide +kernel
theorem dX7_takesPower_12 : decode cX7_takesPower 12 = .ok (.putfield 11, 3) := by decide +kernel
theorem dX7_takesPower_15 : decode cX7_takesPower 15 = .ok (.iconst 1, 1) := by decide +kernel
theorem dX7_takesPower_16 : decode cX7_takesPower 16 = .ok (.ireturn, 1) := by decide +kernel
theorem dX7_takesPower_17 : decode cX7_takesPower 17 = .ok (.iload_n 1, 1) := by decide +kernel
theorem dX7_takesPower_18 : decode cX7_takesPower 18 = .ok (.bipush 22, 2) := by decide +kernel
theorem dX7_takesPower_20 : decode cX7_takesPower 20 = .ok (.if_icmp .ne 20, 3) := by decide +kernel
theorem dX7_takesPower_23 : decode cX7_takesPower 23 = .ok (.aload_n 0, 1) := by decide +kernel
theorem dX7_takesPower_24 : decode cX7_takesPower 24 = .ok (.dup, 1) := by decide +kernel
theorem dX7_takesPower_25 : decode cX7_takesPower 25 = .ok (.getfield 15, 3) := by decide +kernel
theorem dX7_takesPower_28 : decode cX7_takesPower 28 = .ok (.iconst 1, 1) := by decide +kernel
theorem dX7_takesPower_29 : decode cX7_takesPower 29 = .ok (.iadd, 1) := by decide +kernel
theorem dX7_takesPower_30 : decode cX7_takesPower 30 = .ok (.putfield 15, 3) := by decide +kernel
theorem dX7_takesPower_33 : decode cX7_takesPower 33 = .ok (.aload_n 0, 1) := by decide +kernel
theorem dX7_takesPower_34 : decode cX7_takesPower 34 = .ok (.iconst 0, 1) := by decide +kernel
theorem dX7_takesPower_35 : decode cX7_takesPower 35 = .ok (.putfield 11, 3) := by decide +kernel
theorem dX7_takesPower_38 : decode cX7_takesPower 38 = .ok (.iconst 1, 1) := by decide +kernel
theorem dX7_takesPower_39 : decode cX7_takesPower 39 = .ok (.ireturn, 1) := by decide +kernel
theorem dX7_takesPower_40 : decode cX7_takesPower 40 = .ok (.iload_n 1, 1) := by decide +kernel
theorem dX7_takesPower_41 : decode cX7_takesPower 41 = .ok (.invokestatic 48, 3) := by decide +kernel
theorem dX7_takesPower_44 : decode cX7_takesPower 44 = .ok (.ifCond .eq 15, 3) := by decide +kernel
theorem dX7_takesPower_47 : decode cX7_takesPower 47 = .ok (.aload_n 0, 1) := by decide +kernel
theorem dX7_takesPower_48 : decode cX7_takesPower 48 = .ok (.iconst 0, 1) := by decide +kernel
theorem dX7_takesPower_49 : decode cX7_takesPower 49 = .ok (.putfield 51, 3) := by decide +kernel
theorem dX7_takesPower_52 : decode cX7_takesPower 52 = .ok (.aload_n 0, 1) := by decide +kernel
theorem dX7_takesPower_53 : decode cX7_takesPower 53 = .ok (.iconst 2, 1) := by decide +kernel
theorem dX7_takesPower_54 : decode cX7_takesPower 54 = .ok (.putfield 11, 3) := by decide +kernel
theorem dX7_takesPower_57 : decode cX7_takesPower 57 = .ok (.iconst 1, 1) := by decide +kernel
theorem dX7_takesPower_58 : decode cX7_takesPower 58 = .ok (.ireturn, 1) := by decide +kernel
theorem dX7_takesPower_59 : decode cX7_takesPower 59 = .ok (.iload_n 1, 1) := by decide +kernel
theorem dX7_takesPower_60 : decode cX7_takesPower 60 = .ok (.bipush 24, 2) := by decide +kernel
theorem dX7_takesPower_62 : decode cX7_takesPower 62 = .ok (.if_icmp .ne 31, 3) := by decide +kernel
theorem dX7_takesPower_65 : decode cX7_takesPower 65 = .ok (.aload_n 0, 1) := by decide +kernel
theorem dX7_takesPower_66 : decode cX7_takesPower 66 = .ok (.getfield 11, 3) := by decide +kernel
theorem dX7_takesPower_69 : decode cX7_takesPower 69 = .ok (.iconst 2, 1) := by decide +kernel
theorem dX7_takesPower_70 : decode cX7_takesPower 70 = .ok (.if_icmp .ne 23, 3) := by decide +kernel
theorem dX7_takesPower_73 : decode cX7_takesPower 73 = .ok (.aload_n 0, 1) := by decide +kernel
theorem dX7_takesPower_74 : decode cX7_takesPower 74 = .ok (.getfield 51, 3) := by decide +kernel
theorem dX7_takesPower_77 : decode cX7_takesPower 77 = .ok (.iconst 3, 1) := by decide +kernel
theorem dX7_takesPower_78 : decode cX7_takesPower 78 = .ok (.if_icmp .ge 15, 3) := by decide +kernel
theorem dX7_takesPower_81 : decode cX7_takesPower 81 = .ok (.aload_n 0, 1) := by decide +kernel
theorem dX7_takesPower_82 : decode cX7_takesPower 82 = .ok (.dup, 1) := by decide +kernel
theorem dX7_takesPower_83 : decode cX7_takesPower 83 = .ok (.getfield 51, 3) := by decide +kernel
theorem dX7_takesPower_86 : decode cX7_takesPower 86 = .ok (.iconst 1, 1) := by decide +kernel
theorem dX7_takesPower_87 : decode cX7_takesPower 87 = .ok (.iadd, 1) := by decide +kernel
theorem dX7_takesPower_88 : decode cX7_takesPower 88 = .ok (.putfield 51, 3) := by decide +kernel
theorem dX7_takesPower_91 : decode cX7_takesPower 91 = .ok (.iconst 1, 1) := by decide +kernel
theorem dX7_takesPower_92 : decode cX7_takesPower 92 = .ok (.ireturn, 1) := by decide +kernel
theorem dX7_takesPower_93 : decode cX7_takesPower 93 = .ok (.iload_n 1, 1) := by decide +kernel
theorem dX7_takesPower_94 : decode cX7_takesPower 94 = .ok (.bipush 8, 2) := by decide +kernel
theorem dX7_takesPower_96 : decode cX7_takesPower 96 = .ok (.if_icmp .ne 17, 3) := by decide +kernel
theorem dX7_takesPower_99 : decode cX7_takesPower 99 = .ok (.aload_n 0, 1) := by decide +kernel
theorem dX7_takesPower_100 : decode cX7_takesPower 100 = .ok (.getfield 11, 3) := by decide +kernel
theorem dX7_takesPower_103 : decode cX7_takesPower 103 = .ok (.ifCond .ne 10, 3) := by decide +kernel
theorem dX7_takesPower_106 : decode cX7_takesPower 106 = .ok (.aload_n 0, 1) := by decide +kernel
theorem dX7_takesPower_107 : decode cX7_takesPower 107 = .ok (.iconst 1, 1) := by decide +kernel
theorem dX7_takesPower_108 : decode cX7_takesPower 108 = .ok (.putfield 11, 3) := by decide +kernel
theorem dX7_takesPower_111 : decode cX7_takesPower 111 = .ok (.iconst 1, 1) := by decide +kernel
theorem dX7_takesPower_112 : decode cX7_takesPower 112 = .ok (.ireturn, 1) := by decide +kernel
theorem dX7_takesPower_113 : decode cX7_takesPower 113 = .ok (.iconst 0, 1) := by decide +kernel
theorem dX7_takesPower_114 : decode cX7_takesPower 114 = .ok (.ireturn, 1) := by decide +kernel
set_option maxRecDepth 20000 in
theorem ggX7_takesWhatFollows_X11_isOperator : GoodIn wsX7_takesWhatFollows wsX11_isOperator := goodIn_r _ [7] rfl (by decide +kernel)
set_option maxRecDepth 20000 in
theorem gX7_takesWhatFollows_X11_isOperator_n54 : GoodIn wsX7_takesWhatFollows (wsX11_isOperator) := ggX7_takesWhatFollows_X11_isOperator
set_option maxRecDepth 20000 in
theorem ggX7_takesWhatFollows_X11_startsLink : GoodIn wsX7_takesWhatFollows wsX11_startsLink := goodIn_r _ [9] rfl (by decide +kernel)
set_option maxRecDepth 20000 in
theorem gX7_takesWhatFollows_X11_startsLink_n57 : GoodIn wsX7_takesWhatFollows (wsX11_startsLink) := ggX7_takesWhatFollows_X11_startsLink
theorem dX7_takesWhatFollows_0 : decode cX7_takesWhatFollows 0 = .ok (.iload_n 1, 1) := by decide +kernel
theorem dX7_takesWhatFollows_1 : decode cX7_takesWhatFollows 1 = .ok (.invokestatic 54, 3) := by decide +kernel
theorem dX7_takesWhatFollows_4 : decode cX7_takesWhatFollows 4 = .ok (.ifCond .eq 10, 3) := by decide +kernel
theorem dX7_takesWhatFollows_7 : decode cX7_takesWhatFollows 7 = .ok (.aload_n 0, 1) := by decide +kernel
theorem dX7_takesWhatFollows_8 : decode cX7_takesWhatFollows 8 = .ok (.iconst 1, 1) := by decide +kernel
theorem dX7_takesWhatFollows_9 : decode cX7_takesWhatFollows 9 = .ok (.putfield 11, 3) := by decide +kernel
theorem dX7_takesWhatFollows_12 : decode cX7_takesWhatFollows 12 = .ok (.iconst 1, 1) := by decide +kernel
theorem dX7_takesWhatFollows_13 : decode cX7_takesWhatFollows 13 = .ok (.ireturn, 1) := by decide +kernel
theorem dX7_takesWhatFollows_14 : decode cX7_takesWhatFollows 14 = .ok (.aload_n 0, 1) := by decide +kernel
theorem dX7_takesWhatFollows_15 : decode cX7_takesWhatFollows 15 = .ok (.getfield 15, 3) := by decide +kernel
theorem dX7_takesWhatFollows_18 : decode cX7_takesWhatFollows 18 = .ok (.ifCond .le 25, 3) := by decide +kernel
theorem dX7_takesWhatFollows_21 : decode cX7_takesWhatFollows 21 = .ok (.aload_n 0, 1) := by decide +kernel
theorem dX7_takesWhatFollows_22 : decode cX7_takesWhatFollows 22 = .ok (.dup, 1) := by decide +kernel
theorem dX7_takesWhatFollows_23 : decode cX7_takesWhatFollows 23 = .ok (.getfield 15, 3) := by decide +kernel
theorem dX7_takesWhatFollows_26 : decode cX7_takesWhatFollows 26 = .ok (.iconst 1, 1) := by decide +kernel
theorem dX7_takesWhatFollows_27 : decode cX7_takesWhatFollows 27 = .ok (.isub, 1) := by decide +kernel
theorem dX7_takesWhatFollows_28 : decode cX7_takesWhatFollows 28 = .ok (.putfield 15, 3) := by decide +kernel
theorem dX7_takesWhatFollows_31 : decode cX7_takesWhatFollows 31 = .ok (.iload_n 1, 1) := by decide +kernel
theorem dX7_takesWhatFollows_32 : decode cX7_takesWhatFollows 32 = .ok (.bipush 23, 2) := by decide +kernel
theorem dX7_takesWhatFollows_34 : decode cX7_takesWhatFollows 34 = .ok (.if_icmp .ne 7, 3) := by decide +kernel
theorem dX7_takesWhatFollows_37 : decode cX7_takesWhatFollows 37 = .ok (.iconst 1, 1) := by decide +kernel
theorem dX7_takesWhatFollows_38 : decode cX7_takesWhatFollows 38 = .ok (.goto 4, 3) := by decide +kernel
theorem dX7_takesWhatFollows_41 : decode cX7_takesWhatFollows 41 = .ok (.iconst 0, 1) := by decide +kernel
theorem dX7_takesWhatFollows_42 : decode cX7_takesWhatFollows 42 = .ok (.ireturn, 1) := by decide +kernel
theorem dX7_takesWhatFollows_43 : decode cX7_takesWhatFollows 43 = .ok (.aload_n 0, 1) := by decide +kernel
theorem dX7_takesWhatFollows_44 : decode cX7_takesWhatFollows 44 = .ok (.iconst 0, 1) := by decide +kernel
theorem dX7_takesWhatFollows_45 : decode cX7_takesWhatFollows 45 = .ok (.putfield 11, 3) := by decide +kernel
theorem dX7_takesWhatFollows_48 : decode cX7_takesWhatFollows 48 = .ok (.aload_n 0, 1) := by decide +kernel
theorem dX7_takesWhatFollows_49 : decode cX7_takesWhatFollows 49 = .ok (.getfield 21, 3) := by decide +kernel
theorem dX7_takesWhatFollows_52 : decode cX7_takesWhatFollows 52 = .ok (.ifCond .eq 20, 3) := by decide +kernel
theorem dX7_takesWhatFollows_55 : decode cX7_takesWhatFollows 55 = .ok (.aload_n 0, 1) := by decide +kernel
theorem dX7_takesWhatFollows_56 : decode cX7_takesWhatFollows 56 = .ok (.iconst 0, 1) := by decide +kernel
theorem dX7_takesWhatFollows_57 : decode cX7_takesWhatFollows 57 = .ok (.putfield 21, 3) := by decide +kernel
theorem dX7_takesWhatFollows_60 : decode cX7_takesWhatFollows 60 = .ok (.iload_n 1, 1) := by decide +kernel
theorem dX7_takesWhatFollows_61 : decode cX7_takesWhatFollows 61 = .ok (.bipush 21, 2) := by decide +kernel
theorem dX7_takesWhatFollows_63 : decode cX7_takesWhatFollows 63 = .ok (.if_icmp .ne 7, 3) := by decide +kernel
theorem dX7_takesWhatFollows_66 : decode cX7_takesWhatFollows 66 = .ok (.iconst 1, 1) := by decide +kernel
theorem dX7_takesWhatFollows_67 : decode cX7_takesWhatFollows 67 = .ok (.goto 4, 3) := by decide +kernel
theorem dX7_takesWhatFollows_70 : decode cX7_takesWhatFollows 70 = .ok (.iconst 0, 1) := by decide +kernel
theorem dX7_takesWhatFollows_71 : decode cX7_takesWhatFollows 71 = .ok (.ireturn, 1) := by decide +kernel
theorem dX7_takesWhatFollows_72 : decode cX7_takesWhatFollows 72 = .ok (.aload_n 0, 1) := by decide +kernel
theorem dX7_takesWhatFollows_73 : decode cX7_takesWhatFollows 73 = .ok (.dup, 1) := by decide +kernel
theorem dX7_takesWhatFollows_74 : decode cX7_takesWhatFollows 74 = .ok (.getfield 18, 3) := by decide +kernel
theorem dX7_takesWhatFollows_77 : decode cX7_takesWhatFollows 77 = .ok (.iconst 1, 1) := by decide +kernel
theorem dX7_takesWhatFollows_78 : decode cX7_takesWhatFollows 78 = .ok (.iadd, 1) := by decide +kernel
theorem dX7_takesWhatFollows_79 : decode cX7_takesWhatFollows 79 = .ok (.putfield 18, 3) := by decide +kernel
theorem dX7_takesWhatFollows_82 : decode cX7_takesWhatFollows 82 = .ok (.aload_n 0, 1) := by decide +kernel
theorem dX7_takesWhatFollows_83 : decode cX7_takesWhatFollows 83 = .ok (.iload_n 1, 1) := by decide +kernel
theorem dX7_takesWhatFollows_84 : decode cX7_takesWhatFollows 84 = .ok (.bipush 20, 2) := by decide +kernel
theorem dX7_takesWhatFollows_86 : decode cX7_takesWhatFollows 86 = .ok (.if_icmp .ne 7, 3) := by decide +kernel
theorem dX7_takesWhatFollows_89 : decode cX7_takesWhatFollows 89 = .ok (.iconst 1, 1) := by decide +kernel
theorem dX7_takesWhatFollows_90 : decode cX7_takesWhatFollows 90 = .ok (.goto 4, 3) := by decide +kernel
theorem dX7_takesWhatFollows_93 : decode cX7_takesWhatFollows 93 = .ok (.iconst 0, 1) := by decide +kernel
theorem dX7_takesWhatFollows_94 : decode cX7_takesWhatFollows 94 = .ok (.putfield 21, 3) := by decide +kernel
theorem dX7_takesWhatFollows_97 : decode cX7_takesWhatFollows 97 = .ok (.iload_n 1, 1) := by decide +kernel
theorem dX7_takesWhatFollows_98 : decode cX7_takesWhatFollows 98 = .ok (.invokestatic 57, 3) := by decide +kernel
theorem dX7_takesWhatFollows_101 : decode cX7_takesWhatFollows 101 = .ok (.ifCond .eq 15, 3) := by decide +kernel
theorem dX7_takesWhatFollows_104 : decode cX7_takesWhatFollows 104 = .ok (.aload_n 0, 1) := by decide +kernel
theorem dX7_takesWhatFollows_105 : decode cX7_takesWhatFollows 105 = .ok (.getfield 18, 3) := by decide +kernel
theorem dX7_takesWhatFollows_108 : decode cX7_takesWhatFollows 108 = .ok (.iconst 4, 1) := by decide +kernel
theorem dX7_takesWhatFollows_109 : decode cX7_takesWhatFollows 109 = .ok (.if_icmp .gt 7, 3) := by decide +kernel
theorem dX7_takesWhatFollows_112 : decode cX7_takesWhatFollows 112 = .ok (.iconst 1, 1) := by decide +kernel
theorem dX7_takesWhatFollows_113 : decode cX7_takesWhatFollows 113 = .ok (.goto 4, 3) := by decide +kernel
theorem dX7_takesWhatFollows_116 : decode cX7_takesWhatFollows 116 = .ok (.iconst 0, 1) := by decide +kernel
theorem dX7_takesWhatFollows_117 : decode cX7_takesWhatFollows 117 = .ok (.ireturn, 1) := by decide +kernel
def fn_Syntax_takesPower_b93 (y_state : Int32) (y_depth : Int32) (y_primes : Int32) (x1 : Int32) : Int32 × Int32 × Int32 × Int32 := (if x1 = 8 then (if y_state = 0 then (1, 1, y_depth, y_primes) else (0, y_state, y_depth, y_primes)) else (0, y_state, y_depth, y_primes))
def fn_Syntax_takesPower (y_state : Int32) (y_depth : Int32) (y_primes : Int32) (x1 : Int32) : Int32 × Int32 × Int32 × Int32 := (if x1 = 1 then (1, 3, y_depth, y_primes) else (if x1 = 2 then (1, 3, y_depth, y_primes) else (if x1 = 22 then (1, 0, (y_depth + 1), y_primes) else (if (fn_Parser_isFunction x1) = 0 then (if x1 = 24 then (if y_state = 2 then (if 3 ≤ y_primes then fn_Syntax_takesPower_b93 y_state y_depth y_primes x1 else (1, y_state, y_depth, (y_primes + 1))) else fn_Syntax_takesPower_b93 y_state y_depth y_primes x1) else fn_Syntax_takesPower_b93 y_state y_depth y_primes x1) else (1, 2, y_depth, 0)))))
set_option maxHeartbeats 40000000 in
set_option maxRecDepth 100000 in
theorem ct_Syntax_takesPower (l : Launch) (D : va_G) (cI cJ cC : ClassId) (adK adV : Nat → Nat) (A_y : Nat) (sz : Nat) (y_state : Int32) (y_depth : Int32) (y_links : Int32) (y_primes : Int32) (y_dotsDue : Int32) (x1 : Int32) : Met l yX7_takesPower wsX7_takesPower ({ frames := 1, cells := 0, slots := 0, locals := 20 } : Room) (zP D cI cJ cC adK adV [.ref A_y, .int x1] sz [(A_y, .inr (7, [.int y_state, .int y_depth, .int y_links, .int y_primes, .int y_dotsDue]))]) (zQi D cI cJ cC (fn_Syntax_takesPower y_state y_depth y_primes x1).1 [(A_y, .inr (7, [.int (fn_Syntax_takesPower y_state y_depth y_primes x1).2.1, .int (fn_Syntax_takesPower y_state y_depth y_primes x1).2.2.1, .int y_links, .int (fn_Syntax_takesPower y_state y_depth y_primes x1).2.2.2, .int y_dotsDue]))] (va_A [(A_y, .inr (7, [.int y_state, .int y_depth, .int y_links, .int y_primes, .int y_dotsDue]))] sz)) 0 0 (va_A [(A_y, .inr (7, [.int y_state, .int y_depth, .int y_links, .int y_primes, .int y_dotsDue]))] sz) := by
  obtain ⟨rs, hM⟩ : ∃ rs, fn_Syntax_takesPower y_state y_depth y_primes x1 = rs := ⟨_, rfl⟩
  rw [hM]
  refine Met.ofW (cc := cX7_takesPower) (maxL := 2) (ret := (some .boolean)) (by decide) rfl ?_
  intro p e s m args below meth c s₁ B hml hv0
  obtain ⟨hargs, hsz, hP, hK, hD0, hX⟩ := hv0
  have hx := B.exec
  have hb := B.bytes
  have hr := B.returns
  have hts := atoms_spec (ws := wsX7_takesPower) B.pre
  have hown : s.vm.findClass RX7 = some m.cls := findClass_of_methodNamed B.named
  have hlocks := B.notSynchronized
  subst hsz
  have hD := hD0.self (sz := s.heap.size)
  generalize hAe : va_A [(A_y, .inr (7, [.int y_state, .int y_depth, .int y_links, .int y_primes, .int y_dotsDue]))] s.heap.size = A at hD hX ⊢
  have hA : ∀ q : Nat, s.heap.size ≤ q → A q := fun q h => by rw [← hAe]; exact Or.inr h
  have hS : va_S A s.heap s.heap [] := va_S.rf
  have hl := lv_entry ([.ref A_y, .int x1]) (n := 2) (Nat.le_of_ble_eq_true rfl)
  rw [hargs, lg_entry_eq, ← hargs]
  generalize (lg_sl ([.ref A_y, .int x1]) ++ List.replicate (2 - (lg_sl ([.ref A_y, .int x1])).length) Slot.unset).toArray = ls at hl ⊢
  have hl : lv_has ls 2 [(0, .ref A_y), (1, .int x1)] := hl
  have hw0 : ∀ w ∈ u_ws RX7 TX7 5, w ∈ wsX7_takesPower := by decide +kernel
  have hw1 := hts (.fieldLink RX7 11 "NotationParser$Syntax" "state" "I") (by decide +kernel)
  have hw2 := hts (.initialized RX11) (by decide +kernel)
  have hw3 := hts (.static yX11_isFunction) (by decide +kernel)
  have hw4 := hts (.fieldLink RX7 51 "NotationParser$Syntax" "primes" "I") (by decide +kernel)
  have hw5 := hts (.fieldLink RX7 15 "NotationParser$Syntax" "depth" "I") (by decide +kernel)
  have B_93_0 : ∀ (y_state : Int32) (y_depth : Int32) (y_primes : Int32) (x1 : Int32) (H : Heap) (locs : List Loc) (ls : Array Slot), va_P D vwCl [(A_y, .inr (7, [.int y_state, .int y_depth, .int y_links, .int y_primes, .int y_dotsDue]))] H → va_D A [(A_y, .inr (7, [.int y_state, .int y_depth, .int y_links, .int y_primes, .int y_dotsDue]))] → va_S A s.heap H locs → lv_has ls 2 [(0, .ref A_y), (1, .int x1)] → fn_Syntax_takesPower_b93  y_state y_depth y_primes x1 = rs → W p l e (headSpec wsX7_takesPower ({ frames := 1, cells := 0, slots := 0, locals := 20 } : Room)).room s m args below meth c H locs 0 0 (MQ below (zQi D cI cJ cC rs.1 [(A_y, .inr (7, [.int rs.2.1, .int rs.2.2.1, .int y_links, .int rs.2.2.2, .int y_dotsDue]))] A) args s 0 0 A) (F0 m 93 ls []) := by
    intro  y_state y_depth y_primes x1 H locs ls hP hD hS hl hM
    refine lv_iload_n hx hb dX7_takesPower_93 rfl (lv_at hl 1 rfl) ?_
    refine lv_bipush (v := 8) hx hb dX7_takesPower_94 (by decide) ?_
    refine lv_icmp_ne (tgt := 113) hx hb dX7_takesPower_96 (by decide) (fun c9 => ?_) (fun c9 => ?_)
    · have hM := z_f c9 hM
      refine lv_iconst (v := 0) hx hb dX7_takesPower_113 (by decide) ?_
      have hM := hM
      subst hM
      exact W.zret (v := 0) (ty := .boolean) hx hb hr rfl (fun t ht hW => ⟨⟨_, (), rfl, rfl, ⟨by rw [ht]; exact hP, va_K.moved hW.alike hK, hD⟩⟩, hS.F ht⟩) hS.2.2 dX7_takesPower_114
    · have hM := z_t c9 hM
      refine lv_aload_n hx hb dX7_takesPower_99 rfl (lv_at hl 0 rfl) ?_
      refine va_get (D := D) (ci := 7) (v := .int y_state) (C := RX7) (T := TX7) (N := 5) hx hb hts hw0 hown hK hP 0 rfl rfl 0 (by decide) hw1 (fun _ h9 => h9) rfl dX7_takesPower_100 ?_
      refine lv_if_ne (tgt := 113) hx hb dX7_takesPower_103 (by decide) (fun c10 => ?_) (fun c10 => ?_)
      · have hM := z_f c10 hM
        refine lv_iconst (v := 0) hx hb dX7_takesPower_113 (by decide) ?_
        have hM := hM
        subst hM
        exact W.zret (v := 0) (ty := .boolean) hx hb hr rfl (fun t ht hW => ⟨⟨_, (), rfl, rfl, ⟨by rw [ht]; exact hP, va_K.moved hW.alike hK, hD⟩⟩, hS.F ht⟩) hS.2.2 dX7_takesPower_114
      · have hM := z_t c10 hM
        refine lv_aload_n hx hb dX7_takesPower_106 rfl (lv_at hl 0 rfl) ?_
        refine lv_iconst (v := 1) hx hb dX7_takesPower_107 (by decide) ?_
        refine va_put (D := D) (ci := 7) (v := .int 1) (ty := .int) (C := RX7) (T := TX7) (N := 5) hx hb hts hw0 tyX7 tyX7_ok nmX7 hown hK hP hD hS 0 rfl rfl 0 (by decide) hw1 (fun _ h9 => h9) rfl (by decide +kernel) rfl rfl (Nat.le_of_ble_eq_true rfl) dX7_takesPower_108 (fun H11 locs hP hD hS => ?_)
        have hP : va_P D vwCl [(A_y, .inr (7, [.int 1, .int y_depth, .int y_links, .int y_primes, .int y_dotsDue]))] H11 := hP
        have hD : va_D A [(A_y, .inr (7, [.int 1, .int y_depth, .int y_links, .int y_primes, .int y_dotsDue]))] := hD
        refine lv_iconst (v := 1) hx hb dX7_takesPower_111 (by decide) ?_
        have hM := hM
        subst hM
        exact W.zret (v := 1) (ty := .boolean) hx hb hr rfl (fun t ht hW => ⟨⟨_, (), rfl, rfl, ⟨by rw [ht]; exact hP, va_K.moved hW.alike hK, hD⟩⟩, hS.F ht⟩) hS.2.2 dX7_takesPower_112
  refine lv_iload_n hx hb dX7_takesPower_0 rfl (lv_at hl 1 rfl) ?_
  refine lv_iconst (v := 1) hx hb dX7_takesPower_1 (by decide) ?_
  refine lv_icmp_eq (tgt := 10) hx hb dX7_takesPower_2 (by decide) (fun c1 => ?_) (fun c1 => ?_)
  · have hM := z_t c1 hM
    refine lv_aload_n hx hb dX7_takesPower_10 rfl (lv_at hl 0 rfl) ?_
    refine lv_iconst (v := 3) hx hb dX7_takesPower_11 (by decide) ?_
    refine va_put (D := D) (ci := 7) (v := .int 3) (ty := .int) (C := RX7) (T := TX7) (N := 5) hx hb hts hw0 tyX7 tyX7_ok nmX7 hown hK hP hD hS 0 rfl rfl 0 (by decide) hw1 (fun _ h9 => h9) rfl (by decide +kernel) rfl rfl (Nat.le_of_ble_eq_true rfl) dX7_takesPower_12 (fun H2 locs hP hD hS => ?_)
    have hP : va_P D vwCl [(A_y, .inr (7, [.int 3, .int y_depth, .int y_links, .int y_primes, .int y_dotsDue]))] H2 := hP
    have hD : va_D A [(A_y, .inr (7, [.int 3, .int y_depth, .int y_links, .int y_primes, .int y_dotsDue]))] := hD
    refine lv_iconst (v := 1) hx hb dX7_takesPower_15 (by decide) ?_
    have hM := hM
    subst hM
    exact W.zret (v := 1) (ty := .boolean) hx hb hr rfl (fun t ht hW => ⟨⟨_, (), rfl, rfl, ⟨by rw [ht]; exact hP, va_K.moved hW.alike hK, hD⟩⟩, hS.F ht⟩) hS.2.2 dX7_takesPower_16
  · have hM := z_f c1 hM
    refine lv_iload_n hx hb dX7_takesPower_5 rfl (lv_at hl 1 rfl) ?_
    refine lv_iconst (v := 2) hx hb dX7_takesPower_6 (by decide) ?_
    refine lv_icmp_ne (tgt := 17) hx hb dX7_takesPower_7 (by decide) (fun c3 => ?_) (fun c3 => ?_)
    · have hM := z_f c3 hM
      refine lv_iload_n hx hb dX7_takesPower_17 rfl (lv_at hl 1 rfl) ?_
      refine lv_bipush (v := 22) hx hb dX7_takesPower_18 (by decide) ?_
      refine lv_icmp_ne (tgt := 40) hx hb dX7_takesPower_20 (by decide) (fun c4 => ?_) (fun c4 => ?_)
      · have hM := z_f c4 hM
        refine lv_iload_n hx hb dX7_takesPower_40 rfl (lv_at hl 1 rfl) ?_
        obtain ⟨hPc, hDc, hFc⟩ := zcut (wc := []) hP hD hS hA [] rfl rfl (by decide)
        have hrun : va_Run p l e (headSpec wsX7_takesPower ({ frames := 1, cells := 0, slots := 0, locals := 20 } : Room)).room s m args below meth c s.heap [] 0 0 _ _ (F0 m 41 ls _) _ (zQi D cI cJ cC (fn_Parser_isFunction x1) [] (va_A [] s.heap.size) _) (va_A [] s.heap.size) := va_runSN (As := [.int x1]) (rest := []) ⟨hx, hb, hml, hown, hts⟩ (ct_Parser_isFunction l D cI cJ cC adK adV s.heap.size x1) ⟨va_cnB 1 hts gX7_takesPower_X11_isFunction_n48 rfl rfl rfl (hX.1 (RX7, 48, yX11_isFunction, RX11) (by decide +kernel)) hw2 (by decide +kernel) ⟨Nat.le_of_ble_eq_true rfl, Nat.le_of_ble_eq_true rfl⟩, hw3, trivial⟩ ⟨zblind, zpre hX hS hFc hPc hK hDc⟩ rfl rfl hl.1 rfl (lv_room (Nat.le_of_ble_eq_true rfl)) dX7_takesPower_41 ⟨Nat.zero_le _, Nat.zero_le _⟩
        refine zc_i (ws' := [(A_y, .inr (7, [.int y_state, .int y_depth, .int y_links, .int y_primes, .int y_dotsDue]))]) hrun hP hD hS hFc [] rfl (by decide) rfl rfl (fun H6 locs hP hD hS => ?_)
        refine lv_if_eq (tgt := 59) hx hb dX7_takesPower_44 (by decide) (fun c7 => ?_) (fun c7 => ?_)
        · have hM := z_t c7 hM
          refine lv_iload_n hx hb dX7_takesPower_59 rfl (lv_at hl 1 rfl) ?_
          refine lv_bipush (v := 24) hx hb dX7_takesPower_60 (by decide) ?_
          refine lv_icmp_ne (tgt := 93) hx hb dX7_takesPower_62 (by decide) (fun c8 => ?_) (fun c8 => ?_)
          · have hM := z_f c8 hM
            exact B_93_0  y_state y_depth y_primes x1 _ _ ls hP hD hS (lv_sub hl [0, 1] rfl) hM
          · have hM := z_t c8 hM
            refine lv_aload_n hx hb dX7_takesPower_65 rfl (lv_at hl 0 rfl) ?_
            refine va_get (D := D) (ci := 7) (v := .int y_state) (C := RX7) (T := TX7) (N := 5) hx hb hts hw0 hown hK hP 0 rfl rfl 0 (by decide) hw1 (fun _ h9 => h9) rfl dX7_takesPower_66 ?_
            refine lv_iconst (v := 2) hx hb dX7_takesPower_69 (by decide) ?_
            refine lv_icmp_ne (tgt := 93) hx hb dX7_takesPower_70 (by decide) (fun c12 => ?_) (fun c12 => ?_)
            · have hM := z_f c12 hM
              exact B_93_0  y_state y_depth y_primes x1 _ _ ls hP hD hS (lv_sub hl [0, 1] rfl) hM
            · have hM := z_t c12 hM
              refine lv_aload_n hx hb dX7_takesPower_73 rfl (lv_at hl 0 rfl) ?_
              refine va_get (D := D) (ci := 7) (v := .int y_primes) (C := RX7) (T := TX7) (N := 5) hx hb hts hw0 hown hK hP 0 rfl rfl 3 (by decide) hw4 (fun _ h9 => h9) rfl dX7_takesPower_74 ?_
              refine lv_iconst (v := 3) hx hb dX7_takesPower_77 (by decide) ?_
              refine lv_icmp_ge (tgt := 93) hx hb dX7_takesPower_78 (by decide) (fun c13 => ?_) (fun c13 => ?_)
              · have hM := z_t c13 hM
                exact B_93_0  y_state y_depth y_primes x1 _ _ ls hP hD hS (lv_sub hl [0, 1] rfl) hM
              · have hM := z_f c13 hM
                refine lv_aload_n hx hb dX7_takesPower_81 rfl (lv_at hl 0 rfl) ?_
                refine lv_dup hx hb dX7_takesPower_82 rfl ?_
                refine va_get (D := D) (ci := 7) (v := .int y_primes) (C := RX7) (T := TX7) (N := 5) hx hb hts hw0 hown hK hP 0 rfl rfl 3 (by decide) hw4 (fun _ h9 => h9) rfl dX7_takesPower_83 ?_
                refine lv_iconst (v := 1) hx hb dX7_takesPower_86 (by decide) ?_
                refine lv_iadd hx hb dX7_takesPower_87 ?_
                refine va_put (D := D) (ci := 7) (v := .int (y_primes + 1)) (ty := .int) (C := RX7) (T := TX7) (N := 5) hx hb hts hw0 tyX7 tyX7_ok nmX7 hown hK hP hD hS 0 rfl rfl 3 (by decide) hw4 (fun _ h9 => h9) rfl (by decide +kernel) rfl rfl (Nat.le_of_ble_eq_true rfl) dX7_takesPower_88 (fun H14 locs hP hD hS => ?_)
                have hP : va_P D vwCl [(A_y, .inr (7, [.int y_state, .int y_depth, .int y_links, .int (y_primes + 1), .int y_dotsDue]))] H14 := hP
                have hD : va_D A [(A_y, .inr (7, [.int y_state, .int y_depth, .int y_links, .int (y_primes + 1), .int y_dotsDue]))] := hD
                refine lv_iconst (v := 1) hx hb dX7_takesPower_91 (by decide) ?_
                have hM := hM
                subst hM
                exact W.zret (v := 1) (ty := .boolean) hx hb hr rfl (fun t ht hW => ⟨⟨_, (), rfl, rfl, ⟨by rw [ht]; exact hP, va_K.moved hW.alike hK, hD⟩⟩, hS.F ht⟩) hS.2.2 dX7_takesPower_92
        · have hM := z_f c7 hM
          refine lv_aload_n hx hb dX7_takesPower_47 rfl (lv_at hl 0 rfl) ?_
          refine lv_iconst (v := 0) hx hb dX7_takesPower_48 (by decide) ?_
          refine va_put (D := D) (ci := 7) (v := .int 0) (ty := .int) (C := RX7) (T := TX7) (N := 5) hx hb hts hw0 tyX7 tyX7_ok nmX7 hown hK hP hD hS 0 rfl rfl 3 (by decide) hw4 (fun _ h9 => h9) rfl (by decide +kernel) rfl rfl (Nat.le_of_ble_eq_true rfl) dX7_takesPower_49 (fun H15 locs hP hD hS => ?_)
          have hP : va_P D vwCl [(A_y, .inr (7, [.int y_state, .int y_depth, .int y_links, .int 0, .int y_dotsDue]))] H15 := hP
          have hD : va_D A [(A_y, .inr (7, [.int y_state, .int y_depth, .int y_links, .int 0, .int y_dotsDue]))] := hD
          refine lv_aload_n hx hb dX7_takesPower_52 rfl (lv_at hl 0 rfl) ?_
          refine lv_iconst (v := 2) hx hb dX7_takesPower_53 (by decide) ?_
          refine va_put (D := D) (ci := 7) (v := .int 2) (ty := .int) (C := RX7) (T := TX7) (N := 5) hx hb hts hw0 tyX7 tyX7_ok nmX7 hown hK hP hD hS 0 rfl rfl 0 (by decide) hw1 (fun _ h9 => h9) rfl (by decide +kernel) rfl rfl (Nat.le_of_ble_eq_true rfl) dX7_takesPower_54 (fun H16 locs hP hD hS => ?_)
          have hP : va_P D vwCl [(A_y, .inr (7, [.int 2, .int y_depth, .int y_links, .int 0, .int y_dotsDue]))] H16 := hP
          have hD : va_D A [(A_y, .inr (7, [.int 2, .int y_depth, .int y_links, .int 0, .int y_dotsDue]))] := hD
          refine lv_iconst (v := 1) hx hb dX7_takesPower_57 (by decide) ?_
          have hM := hM
          subst hM
          exact W.zret (v := 1) (ty := .boolean) hx hb hr rfl (fun t ht hW => ⟨⟨_, (), rfl, rfl, ⟨by rw [ht]; exact hP, va_K.moved hW.alike hK, hD⟩⟩, hS.F ht⟩) hS.2.2 dX7_takesPower_58
      · have hM := z_t c4 hM
        refine lv_aload_n hx hb dX7_takesPower_23 rfl (lv_at hl 0 rfl) ?_
        refine lv_dup hx hb dX7_takesPower_24 rfl ?_
        refine va_get (D := D) (ci := 7) (v := .int y_depth) (C := RX7) (T := TX7) (N := 5) hx hb hts hw0 hown hK hP 0 rfl rfl 1 (by decide) hw5 (fun _ h9 => h9) rfl dX7_takesPower_25 ?_
        refine lv_iconst (v := 1) hx hb dX7_takesPower_28 (by decide) ?_
        refine lv_iadd hx hb dX7_takesPower_29 ?_
        refine va_put (D := D) (ci := 7) (v := .int (y_depth + 1)) (ty := .int) (C := RX7) (T := TX7) (N := 5) hx hb hts hw0 tyX7 tyX7_ok nmX7 hown hK hP hD hS 0 rfl rfl 1 (by decide) hw5 (fun _ h9 => h9) rfl (by decide +kernel) rfl rfl (Nat.le_of_ble_eq_true rfl) dX7_takesPower_30 (fun H17 locs hP hD hS => ?_)
        have hP : va_P D vwCl [(A_y, .inr (7, [.int y_state, .int (y_depth + 1), .int y_links, .int y_primes, .int y_dotsDue]))] H17 := hP
        have hD : va_D A [(A_y, .inr (7, [.int y_state, .int (y_depth + 1), .int y_links, .int y_primes, .int y_dotsDue]))] := hD
        refine lv_aload_n hx hb dX7_takesPower_33 rfl (lv_at hl 0 rfl) ?_
        refine lv_iconst (v := 0) hx hb dX7_takesPower_34 (by decide) ?_
        refine va_put (D := D) (ci := 7) (v := .int 0) (ty := .int) (C := RX7) (T := TX7) (N := 5) hx hb hts hw0 tyX7 tyX7_ok nmX7 hown hK hP hD hS 0 rfl rfl 0 (by decide) hw1 (fun _ h9 => h9) rfl (by decide +kernel) rfl rfl (Nat.le_of_ble_eq_true rfl) dX7_takesPower_35 (fun H18 locs hP hD hS => ?_)
        have hP : va_P D vwCl [(A_y, .inr (7, [.int 0, .int (y_depth + 1), .int y_links, .int y_primes, .int y_dotsDue]))] H18 := hP
        have hD : va_D A [(A_y, .inr (7, [.int 0, .int (y_depth + 1), .int y_links, .int y_primes, .int y_dotsDue]))] := hD
        refine lv_iconst (v := 1) hx hb dX7_takesPower_38 (by decide) ?_
        have hM := hM
        subst hM
        exact W.zret (v := 1) (ty := .boolean) hx hb hr rfl (fun t ht hW => ⟨⟨_, (), rfl, rfl, ⟨by rw [ht]; exact hP, va_K.moved hW.alike hK, hD⟩⟩, hS.F ht⟩) hS.2.2 dX7_takesPower_39
    · have hM := z_t c3 hM
      refine lv_aload_n hx hb dX7_takesPower_10 rfl (lv_at hl 0 rfl) ?_
      refine lv_iconst (v := 3) hx hb dX7_takesPower_11 (by decide) ?_
      refine va_put (D := D) (ci := 7) (v := .int 3) (ty := .int) (C := RX7) (T := TX7) (N := 5) hx hb hts hw0 tyX7 tyX7_ok nmX7 hown hK hP hD hS 0 rfl rfl 0 (by decide) hw1 (fun _ h9 => h9) rfl (by decide +kernel) rfl rfl (Nat.le_of_ble_eq_true rfl) dX7_takesPower_12 (fun H19 locs hP hD hS => ?_)
      have hP : va_P D vwCl [(A_y, .inr (7, [.int 3, .int y_depth, .int y_links, .int y_primes, .int y_dotsDue]))] H19 := hP
      have hD : va_D A [(A_y, .inr (7, [.int 3, .int y_depth, .int y_links, .int y_primes, .int y_dotsDue]))] := hD
      refine lv_iconst (v := 1) hx hb dX7_takesPower_15 (by decide) ?_
      have hM := hM
      subst hM
      exact W.zret (v := 1) (ty := .boolean) hx hb hr rfl (fun t ht hW => ⟨⟨_, (), rfl, rfl, ⟨by rw [ht]; exact hP, va_K.moved hW.alike hK, hD⟩⟩, hS.F ht⟩) hS.2.2 dX7_takesPower_16
def fn_Syntax_takesWhatFollows_b94 (y_state : Int32) (y_depth : Int32) (y_links : Int32) (y_dotsDue : Int32) (x1 : Int32) (k1 : Int32) : Option (Int32 × Int32 × Int32 × Int32 × Int32) := (if ¬ (k1 = 0 ∨ k1 = 1) then none else (if (fn_Parser_startsLink x1) = 0 then some (0, y_state, y_depth, y_links, k1) else (if 4 < y_links then some (0, y_state, y_depth, y_links, k1) else some (1, y_state, y_depth, y_links, k1))))
def fn_Syntax_takesWhatFollows (y_state : Int32) (y_depth : Int32) (y_links : Int32) (y_dotsDue : Int32) (x1 : Int32) : Option (Int32 × Int32 × Int32 × Int32 × Int32) := (if (fn_Parser_isOperator x1) = 0 then (if y_depth ≤ 0 then (if y_dotsDue = 0 then (if x1 = 20 then fn_Syntax_takesWhatFollows_b94 0 y_depth (y_links + 1) y_dotsDue x1 1 else fn_Syntax_takesWhatFollows_b94 0 y_depth (y_links + 1) y_dotsDue x1 0) else (if x1 = 21 then some (1, 0, y_depth, y_links, 0) else some (0, 0, y_depth, y_links, 0))) else (if x1 = 23 then some (1, y_state, (y_depth - 1), y_links, y_dotsDue) else some (0, y_state, (y_depth - 1), y_links, y_dotsDue))) else some (1, 1, y_depth, y_links, y_dotsDue))
set_option maxHeartbeats 40000000 in
set_option maxRecDepth 100000 in
theorem ct_Syntax_takesWhatFollows (l : Launch) (D : va_G) (cI cJ cC : ClassId) (adK adV : Nat → Nat) (A_y : Nat) (sz : Nat) (y_state : Int32) (y_depth : Int32) (y_links : Int32) (y_primes : Int32) (y_dotsDue : Int32) (x1 : Int32) {rs : Int32 × Int32 × Int32 × Int32 × Int32} (hM : fn_Syntax_takesWhatFollows y_state y_depth y_links y_dotsDue x1 = some rs) : Met l yX7_takesWhatFollows wsX7_takesWhatFollows ({ frames := 1, cells := 0, slots := 0, locals := 20 } : Room) (zP D cI cJ cC adK adV [.ref A_y, .int x1] sz [(A_y, .inr (7, [.int y_state, .int y_depth, .int y_links, .int y_primes, .int y_dotsDue]))]) (zQi D cI cJ cC rs.1 [(A_y, .inr (7, [.int rs.2.1, .int rs.2.2.1, .int rs.2.2.2.1, .int y_primes, .int rs.2.2.2.2]))] (va_A [(A_y, .inr (7, [.int y_state, .int y_depth, .int y_links, .int y_primes, .int y_dotsDue]))] sz)) 0 0 (va_A [(A_y, .inr (7, [.int y_state, .int y_depth, .int y_links, .int y_primes, .int y_dotsDue]))] sz) := by
  refine Met.ofW (cc := cX7_takesWhatFollows) (maxL := 2) (ret := (some .boolean)) (by decide) rfl ?_
  intro p e s m args below meth c s₁ B hml hv0
  obtain ⟨hargs, hsz, hP, hK, hD0, hX⟩ := hv0
  have hx := B.exec
  have hb := B.bytes
  have hr := B.returns
  have hts := atoms_spec (ws := wsX7_takesWhatFollows) B.pre
  have hown : s.vm.findClass RX7 = some m.cls := findClass_of_methodNamed B.named
  have hlocks := B.notSynchronized
  subst hsz
  have hD := hD0.self (sz := s.heap.size)
  generalize hAe : va_A [(A_y, .inr (7, [.int y_state, .int y_depth, .int y_links, .int y_primes, .int y_dotsDue]))] s.heap.size = A at hD hX ⊢
  have hA : ∀ q : Nat, s.heap.size ≤ q → A q := fun q h => by rw [← hAe]; exact Or.inr h
  have hS : va_S A s.heap s.heap [] := va_S.rf
  have hl := lv_entry ([.ref A_y, .int x1]) (n := 2) (Nat.le_of_ble_eq_true rfl)
  rw [hargs, lg_entry_eq, ← hargs]
  generalize (lg_sl ([.ref A_y, .int x1]) ++ List.replicate (2 - (lg_sl ([.ref A_y, .int x1])).length) Slot.unset).toArray = ls at hl ⊢
  have hl : lv_has ls 2 [(0, .ref A_y), (1, .int x1)] := hl
  have hw0 := hts (.initialized RX11) (by decide +kernel)
  have hw1 := hts (.static yX11_isOperator) (by decide +kernel)
  have hw2 : ∀ w ∈ u_ws RX7 TX7 5, w ∈ wsX7_takesWhatFollows := by decide +kernel
  have hw3 := hts (.fieldLink RX7 15 "NotationParser$Syntax" "depth" "I") (by decide +kernel)
  have hw4 := hts (.fieldLink RX7 11 "NotationParser$Syntax" "state" "I") (by decide +kernel)
  have hw5 := hts (.fieldLink RX7 21 "NotationParser$Syntax" "dotsDue" "Z") (by decide +kernel)
  have hw6 := hts (.fieldLink RX7 18 "NotationParser$Syntax" "links" "I") (by decide +kernel)
  have hw7 := hts (.static yX11_startsLink) (by decide +kernel)
  have B_94_0 : ∀ (y_state : Int32) (y_depth : Int32) (y_links : Int32) (y_dotsDue : Int32) (x1 : Int32) (k1 : Int32) (H : Heap) (locs : List Loc) (ls : Array Slot), va_P D vwCl [(A_y, .inr (7, [.int y_state, .int y_depth, .int y_links, .int y_primes, .int y_dotsDue]))] H → va_D A [(A_y, .inr (7, [.int y_state, .int y_depth, .int y_links, .int y_primes, .int y_dotsDue]))] → va_S A s.heap H locs → lv_has ls 2 [(0, .ref A_y), (1, .int x1)] → fn_Syntax_takesWhatFollows_b94  y_state y_depth y_links y_dotsDue x1 k1 = some rs → W p l e (headSpec wsX7_takesWhatFollows ({ frames := 1, cells := 0, slots := 0, locals := 20 } : Room)).room s m args below meth c H locs 0 0 (MQ below (zQi D cI cJ cC rs.1 [(A_y, .inr (7, [.int rs.2.1, .int rs.2.2.1, .int rs.2.2.2.1, .int y_primes, .int rs.2.2.2.2]))] A) args s 0 0 A) (F0 m 94 ls [.int k1, .ref A_y]) := by
    intro  y_state y_depth y_links y_dotsDue x1 k1 H locs ls hP hD hS hl hM
    obtain ⟨g9, hM⟩ := z_g hM
    refine va_put (D := D) (ci := 7) (v := .int k1) (ty := .boolean) (C := RX7) (T := TX7) (N := 5) hx hb hts hw2 tyX7 tyX7_ok nmX7 hown hK hP hD hS 0 rfl rfl 4 (by decide) hw5 (fun _ h9 => h9) rfl (by decide +kernel) (z_bool g9) (z_boolF g9) (Nat.le_of_ble_eq_true rfl) dX7_takesWhatFollows_94 (fun H10 locs hP hD hS => ?_)
    have hP : va_P D vwCl [(A_y, .inr (7, [.int y_state, .int y_depth, .int y_links, .int y_primes, .int k1]))] H10 := hP
    have hD : va_D A [(A_y, .inr (7, [.int y_state, .int y_depth, .int y_links, .int y_primes, .int k1]))] := hD
    refine lv_iload_n hx hb dX7_takesWhatFollows_97 rfl (lv_at hl 1 rfl) ?_
    obtain ⟨hPc, hDc, hFc⟩ := zcut (wc := []) hP hD hS hA [] rfl rfl (by decide)
    have hrun : va_Run p l e (headSpec wsX7_takesWhatFollows ({ frames := 1, cells := 0, slots := 0, locals := 20 } : Room)).room s m args below meth c H10 locs 0 0 _ _ (F0 m 98 ls _) _ (zQi D cI cJ cC (fn_Parser_startsLink x1) [] (va_A [] H10.size) _) (va_A [] H10.size) := va_runSN (As := [.int x1]) (rest := []) ⟨hx, hb, hml, hown, hts⟩ (ct_Parser_startsLink l D cI cJ cC adK adV H10.size x1) ⟨va_cnB 1 hts gX7_takesWhatFollows_X11_startsLink_n57 rfl rfl rfl (hX.1 (RX7, 57, yX11_startsLink, RX11) (by decide +kernel)) hw0 (by decide +kernel) ⟨Nat.le_of_ble_eq_true rfl, Nat.le_of_ble_eq_true rfl⟩, hw7, trivial⟩ ⟨zblind, zpre hX hS hFc hPc hK hDc⟩ rfl rfl hl.1 rfl (lv_room (Nat.le_of_ble_eq_true rfl)) dX7_takesWhatFollows_98 ⟨Nat.zero_le _, Nat.zero_le _⟩
    refine zc_i (ws' := [(A_y, .inr (7, [.int y_state, .int y_depth, .int y_links, .int y_primes, .int k1]))]) hrun hP hD hS hFc [] rfl (by decide) rfl rfl (fun H12 locs hP hD hS => ?_)
    refine lv_if_eq (tgt := 116) hx hb dX7_takesWhatFollows_101 (by decide) (fun c13 => ?_) (fun c13 => ?_)
    · have hM := z_t c13 hM
      refine lv_iconst (v := 0) hx hb dX7_takesWhatFollows_116 (by decide) ?_
      have hM := Option.some.inj hM
      subst hM
      exact W.zret (v := 0) (ty := .boolean) hx hb hr rfl (fun t ht hW => ⟨⟨_, (), rfl, rfl, ⟨by rw [ht]; exact hP, va_K.moved hW.alike hK, hD⟩⟩, hS.F ht⟩) hS.2.2 dX7_takesWhatFollows_117
    · have hM := z_f c13 hM
      refine lv_aload_n hx hb dX7_takesWhatFollows_104 rfl (lv_at hl 0 rfl) ?_
      refine va_get (D := D) (ci := 7) (v := .int y_links) (C := RX7) (T := TX7) (N := 5) hx hb hts hw2 hown hK hP 0 rfl rfl 2 (by decide) hw6 (fun _ h9 => h9) rfl dX7_takesWhatFollows_105 ?_
      refine lv_iconst (v := 4) hx hb dX7_takesWhatFollows_108 (by decide) ?_
      refine lv_icmp_gt (tgt := 116) hx hb dX7_takesWhatFollows_109 (by decide) (fun c14 => ?_) (fun c14 => ?_)
      · have hM := z_t c14 hM
        refine lv_iconst (v := 0) hx hb dX7_takesWhatFollows_116 (by decide) ?_
        have hM := Option.some.inj hM
        subst hM
        exact W.zret (v := 0) (ty := .boolean) hx hb hr rfl (fun t ht hW => ⟨⟨_, (), rfl, rfl, ⟨by rw [ht]; exact hP, va_K.moved hW.alike hK, hD⟩⟩, hS.F ht⟩) hS.2.2 dX7_takesWhatFollows_117
      · have hM := z_f c14 hM
        refine lv_iconst (v := 1) hx hb dX7_takesWhatFollows_112 (by decide) ?_
        refine lv_goto (tgt := 117) hx hb dX7_takesWhatFollows_113 (by decide) ?_
        have hM := Option.some.inj hM
        subst hM
        exact W.zret (v := 1) (ty := .boolean) hx hb hr rfl (fun t ht hW => ⟨⟨_, (), rfl, rfl, ⟨by rw [ht]; exact hP, va_K.moved hW.alike hK, hD⟩⟩, hS.F ht⟩) hS.2.2 dX7_takesWhatFollows_117
  refine lv_iload_n hx hb dX7_takesWhatFollows_0 rfl (lv_at hl 1 rfl) ?_
  obtain ⟨hPc, hDc, hFc⟩ := zcut (wc := []) hP hD hS hA [] rfl rfl (by decide)
  have hrun : va_Run p l e (headSpec wsX7_takesWhatFollows ({ frames := 1, cells := 0, slots := 0, locals := 20 } : Room)).room s m args below meth c s.heap [] 0 0 _ _ (F0 m 1 ls _) _ (zQi D cI cJ cC (fn_Parser_isOperator x1) [] (va_A [] s.heap.size) _) (va_A [] s.heap.size) := va_runSN (As := [.int x1]) (rest := []) ⟨hx, hb, hml, hown, hts⟩ (ct_Parser_isOperator l D cI cJ cC adK adV s.heap.size x1) ⟨va_cnB 1 hts gX7_takesWhatFollows_X11_isOperator_n54 rfl rfl rfl (hX.1 (RX7, 54, yX11_isOperator, RX11) (by decide +kernel)) hw0 (by decide +kernel) ⟨Nat.le_of_ble_eq_true rfl, Nat.le_of_ble_eq_true rfl⟩, hw1, trivial⟩ ⟨zblind, zpre hX hS hFc hPc hK hDc⟩ rfl rfl hl.1 rfl (lv_room (Nat.le_of_ble_eq_true rfl)) dX7_takesWhatFollows_1 ⟨Nat.zero_le _, Nat.zero_le _⟩
  refine zc_i (ws' := [(A_y, .inr (7, [.int y_state, .int y_depth, .int y_links, .int y_primes, .int y_dotsDue]))]) hrun hP hD hS hFc [] rfl (by decide) rfl rfl (fun H2 locs hP hD hS => ?_)
  refine lv_if_eq (tgt := 14) hx hb dX7_takesWhatFollows_4 (by decide) (fun c3 => ?_) (fun c3 => ?_)
  · have hM := z_t c3 hM
    refine lv_aload_n hx hb dX7_takesWhatFollows_14 rfl (lv_at hl 0 rfl) ?_
    refine va_get (D := D) (ci := 7) (v := .int y_depth) (C := RX7) (T := TX7) (N := 5) hx hb hts hw2 hown hK hP 0 rfl rfl 1 (by decide) hw3 (fun _ h9 => h9) rfl dX7_takesWhatFollows_15 ?_
    refine lv_if_le (tgt := 43) hx hb dX7_takesWhatFollows_18 (by decide) (fun c4 => ?_) (fun c4 => ?_)
    · have hM := z_t c4 hM
      refine lv_aload_n hx hb dX7_takesWhatFollows_43 rfl (lv_at hl 0 rfl) ?_
      refine lv_iconst (v := 0) hx hb dX7_takesWhatFollows_44 (by decide) ?_
      refine va_put (D := D) (ci := 7) (v := .int 0) (ty := .int) (C := RX7) (T := TX7) (N := 5) hx hb hts hw2 tyX7 tyX7_ok nmX7 hown hK hP hD hS 0 rfl rfl 0 (by decide) hw4 (fun _ h9 => h9) rfl (by decide +kernel) rfl rfl (Nat.le_of_ble_eq_true rfl) dX7_takesWhatFollows_45 (fun H5 locs hP hD hS => ?_)
      have hP : va_P D vwCl [(A_y, .inr (7, [.int 0, .int y_depth, .int y_links, .int y_primes, .int y_dotsDue]))] H5 := hP
      have hD : va_D A [(A_y, .inr (7, [.int 0, .int y_depth, .int y_links, .int y_primes, .int y_dotsDue]))] := hD
      refine lv_aload_n hx hb dX7_takesWhatFollows_48 rfl (lv_at hl 0 rfl) ?_
      refine va_get (D := D) (ci := 7) (v := .int y_dotsDue) (C := RX7) (T := TX7) (N := 5) hx hb hts hw2 hown hK hP 0 rfl rfl 4 (by decide) hw5 (fun _ h9 => h9) rfl dX7_takesWhatFollows_49 ?_
      refine lv_if_eq (tgt := 72) hx hb dX7_takesWhatFollows_52 (by decide) (fun c6 => ?_) (fun c6 => ?_)
      · have hM := z_t c6 hM
        refine lv_aload_n hx hb dX7_takesWhatFollows_72 rfl (lv_at hl 0 rfl) ?_
        refine lv_dup hx hb dX7_takesWhatFollows_73 rfl ?_
        refine va_get (D := D) (ci := 7) (v := .int y_links) (C := RX7) (T := TX7) (N := 5) hx hb hts hw2 hown hK hP 0 rfl rfl 2 (by decide) hw6 (fun _ h9 => h9) rfl dX7_takesWhatFollows_74 ?_
        refine lv_iconst (v := 1) hx hb dX7_takesWhatFollows_77 (by decide) ?_
        refine lv_iadd hx hb dX7_takesWhatFollows_78 ?_
        refine va_put (D := D) (ci := 7) (v := .int (y_links + 1)) (ty := .int) (C := RX7) (T := TX7) (N := 5) hx hb hts hw2 tyX7 tyX7_ok nmX7 hown hK hP hD hS 0 rfl rfl 2 (by decide) hw6 (fun _ h9 => h9) rfl (by decide +kernel) rfl rfl (Nat.le_of_ble_eq_true rfl) dX7_takesWhatFollows_79 (fun H7 locs hP hD hS => ?_)
        have hP : va_P D vwCl [(A_y, .inr (7, [.int 0, .int y_depth, .int (y_links + 1), .int y_primes, .int y_dotsDue]))] H7 := hP
        have hD : va_D A [(A_y, .inr (7, [.int 0, .int y_depth, .int (y_links + 1), .int y_primes, .int y_dotsDue]))] := hD
        refine lv_aload_n hx hb dX7_takesWhatFollows_82 rfl (lv_at hl 0 rfl) ?_
        refine lv_iload_n hx hb dX7_takesWhatFollows_83 rfl (lv_at hl 1 rfl) ?_
        refine lv_bipush (v := 20) hx hb dX7_takesWhatFollows_84 (by decide) ?_
        refine lv_icmp_ne (tgt := 93) hx hb dX7_takesWhatFollows_86 (by decide) (fun c8 => ?_) (fun c8 => ?_)
        · have hM := z_f c8 hM
          refine lv_iconst (v := 0) hx hb dX7_takesWhatFollows_93 (by decide) ?_
          exact B_94_0  0 y_depth (y_links + 1) y_dotsDue x1 0 _ _ ls hP hD hS (lv_sub hl [0, 1] rfl) hM
        · have hM := z_t c8 hM
          refine lv_iconst (v := 1) hx hb dX7_takesWhatFollows_89 (by decide) ?_
          refine lv_goto (tgt := 94) hx hb dX7_takesWhatFollows_90 (by decide) ?_
          exact B_94_0  0 y_depth (y_links + 1) y_dotsDue x1 1 _ _ ls hP hD hS (lv_sub hl [0, 1] rfl) hM
      · have hM := z_f c6 hM
        refine lv_aload_n hx hb dX7_takesWhatFollows_55 rfl (lv_at hl 0 rfl) ?_
        refine lv_iconst (v := 0) hx hb dX7_takesWhatFollows_56 (by decide) ?_
        refine va_put (D := D) (ci := 7) (v := .int 0) (ty := .boolean) (C := RX7) (T := TX7) (N := 5) hx hb hts hw2 tyX7 tyX7_ok nmX7 hown hK hP hD hS 0 rfl rfl 4 (by decide) hw5 (fun _ h9 => h9) rfl (by decide +kernel) rfl rfl (Nat.le_of_ble_eq_true rfl) dX7_takesWhatFollows_57 (fun H15 locs hP hD hS => ?_)
        have hP : va_P D vwCl [(A_y, .inr (7, [.int 0, .int y_depth, .int y_links, .int y_primes, .int 0]))] H15 := hP
        have hD : va_D A [(A_y, .inr (7, [.int 0, .int y_depth, .int y_links, .int y_primes, .int 0]))] := hD
        refine lv_iload_n hx hb dX7_takesWhatFollows_60 rfl (lv_at hl 1 rfl) ?_
        refine lv_bipush (v := 21) hx hb dX7_takesWhatFollows_61 (by decide) ?_
        refine lv_icmp_ne (tgt := 70) hx hb dX7_takesWhatFollows_63 (by decide) (fun c16 => ?_) (fun c16 => ?_)
        · have hM := z_f c16 hM
          refine lv_iconst (v := 0) hx hb dX7_takesWhatFollows_70 (by decide) ?_
          have hM := Option.some.inj hM
          subst hM
          exact W.zret (v := 0) (ty := .boolean) hx hb hr rfl (fun t ht hW => ⟨⟨_, (), rfl, rfl, ⟨by rw [ht]; exact hP, va_K.moved hW.alike hK, hD⟩⟩, hS.F ht⟩) hS.2.2 dX7_takesWhatFollows_71
        · have hM := z_t c16 hM
          refine lv_iconst (v := 1) hx hb dX7_takesWhatFollows_66 (by decide) ?_
          refine lv_goto (tgt := 71) hx hb dX7_takesWhatFollows_67 (by decide) ?_
          have hM := Option.some.inj hM
          subst hM
          exact W.zret (v := 1) (ty := .boolean) hx hb hr rfl (fun t ht hW => ⟨⟨_, (), rfl, rfl, ⟨by rw [ht]; exact hP, va_K.moved hW.alike hK, hD⟩⟩, hS.F ht⟩) hS.2.2 dX7_takesWhatFollows_71
    · have hM := z_f c4 hM
      refine lv_aload_n hx hb dX7_takesWhatFollows_21 rfl (lv_at hl 0 rfl) ?_
      refine lv_dup hx hb dX7_takesWhatFollows_22 rfl ?_
      refine va_get (D := D) (ci := 7) (v := .int y_depth) (C := RX7) (T := TX7) (N := 5) hx hb hts hw2 hown hK hP 0 rfl rfl 1 (by decide) hw3 (fun _ h9 => h9) rfl dX7_takesWhatFollows_23 ?_
      refine lv_iconst (v := 1) hx hb dX7_takesWhatFollows_26 (by decide) ?_
      refine lv_isub hx hb dX7_takesWhatFollows_27 ?_
      refine va_put (D := D) (ci := 7) (v := .int (y_depth - 1)) (ty := .int) (C := RX7) (T := TX7) (N := 5) hx hb hts hw2 tyX7 tyX7_ok nmX7 hown hK hP hD hS 0 rfl rfl 1 (by decide) hw3 (fun _ h9 => h9) rfl (by decide +kernel) rfl rfl (Nat.le_of_ble_eq_true rfl) dX7_takesWhatFollows_28 (fun H17 locs hP hD hS => ?_)
      have hP : va_P D vwCl [(A_y, .inr (7, [.int y_state, .int (y_depth - 1), .int y_links, .int y_primes, .int y_dotsDue]))] H17 := hP
      have hD : va_D A [(A_y, .inr (7, [.int y_state, .int (y_depth - 1), .int y_links, .int y_primes, .int y_dotsDue]))] := hD
      refine lv_iload_n hx hb dX7_takesWhatFollows_31 rfl (lv_at hl 1 rfl) ?_
      refine lv_bipush (v := 23) hx hb dX7_takesWhatFollows_32 (by decide) ?_
      refine lv_icmp_ne (tgt := 41) hx hb dX7_takesWhatFollows_34 (by decide) (fun c18 => ?_) (fun c18 => ?_)
      · have hM := z_f c18 hM
        refine lv_iconst (v := 0) hx hb dX7_takesWhatFollows_41 (by decide) ?_
        have hM := Option.some.inj hM
        subst hM
        exact W.zret (v := 0) (ty := .boolean) hx hb hr rfl (fun t ht hW => ⟨⟨_, (), rfl, rfl, ⟨by rw [ht]; exact hP, va_K.moved hW.alike hK, hD⟩⟩, hS.F ht⟩) hS.2.2 dX7_takesWhatFollows_42
      · have hM := z_t c18 hM
        refine lv_iconst (v := 1) hx hb dX7_takesWhatFollows_37 (by decide) ?_
        refine lv_goto (tgt := 42) hx hb dX7_takesWhatFollows_38 (by decide) ?_
        have hM := Option.some.inj hM
        subst hM
        exact W.zret (v := 1) (ty := .boolean) hx hb hr rfl (fun t ht hW => ⟨⟨_, (), rfl, rfl, ⟨by rw [ht]; exact hP, va_K.moved hW.alike hK, hD⟩⟩, hS.F ht⟩) hS.2.2 dX7_takesWhatFollows_42
  · have hM := z_f c3 hM
    refine lv_aload_n hx hb dX7_takesWhatFollows_7 rfl (lv_at hl 0 rfl) ?_
    refine lv_iconst (v := 1) hx hb dX7_takesWhatFollows_8 (by decide) ?_
    refine va_put (D := D) (ci := 7) (v := .int 1) (ty := .int) (C := RX7) (T := TX7) (N := 5) hx hb hts hw2 tyX7 tyX7_ok nmX7 hown hK hP hD hS 0 rfl rfl 0 (by decide) hw4 (fun _ h9 => h9) rfl (by decide +kernel) rfl rfl (Nat.le_of_ble_eq_true rfl) dX7_takesWhatFollows_9 (fun H19 locs hP hD hS => ?_)
    have hP : va_P D vwCl [(A_y, .inr (7, [.int 1, .int y_depth, .int y_links, .int y_primes, .int y_dotsDue]))] H19 := hP
    have hD : va_D A [(A_y, .inr (7, [.int 1, .int y_depth, .int y_links, .int y_primes, .int y_dotsDue]))] := hD
    refine lv_iconst (v := 1) hx hb dX7_takesWhatFollows_12 (by decide) ?_
    have hM := Option.some.inj hM
    subst hM
    exact W.zret (v := 1) (ty := .boolean) hx hb hr rfl (fun t ht hW => ⟨⟨_, (), rfl, rfl, ⟨by rw [ht]; exact hP, va_K.moved hW.alike hK, hD⟩⟩, hS.F ht⟩) hS.2.2 dX7_takesWhatFollows_13
def fn_Syntax_takes_b20 (y_state : Int32) (y_depth : Int32) (y_links : Int32) (y_primes : Int32) (y_dotsDue : Int32) (x1 : Int32) : Option (Int32 × Int32 × Int32 × Int32 × Int32 × Int32) := (if ¬ ((fn_Syntax_takesPower y_state y_depth y_primes x1).1 = 0 ∨ (fn_Syntax_takesPower y_state y_depth y_primes x1).1 = 1) then none else some ((fn_Syntax_takesPower y_state y_depth y_primes x1).1, (fn_Syntax_takesPower y_state y_depth y_primes x1).2.1, (fn_Syntax_takesPower y_state y_depth y_primes x1).2.2.1, y_links, (fn_Syntax_takesPower y_state y_depth y_primes x1).2.2.2, y_dotsDue))
def fn_Syntax_takes_b26 (y_state : Int32) (y_depth : Int32) (y_links : Int32) (y_primes : Int32) (y_dotsDue : Int32) (x1 : Int32) : Option (Int32 × Int32 × Int32 × Int32 × Int32 × Int32) := ((fn_Syntax_takesWhatFollows y_state y_depth y_links y_dotsDue x1).bind fun q8 => (if ¬ (q8.1 = 0 ∨ q8.1 = 1) then none else some (q8.1, q8.2.1, q8.2.2.1, q8.2.2.2.1, y_primes, q8.2.2.2.2)))
def fn_Syntax_takes (y_state : Int32) (y_depth : Int32) (y_links : Int32) (y_primes : Int32) (y_dotsDue : Int32) (x1 : Int32) : Option (Int32 × Int32 × Int32 × Int32 × Int32 × Int32) := (if y_state = 3 then (if (fn_Parser_startsPower x1) = 0 then fn_Syntax_takes_b26 y_state y_depth y_links y_primes y_dotsDue x1 else (if x1 = 1 then fn_Syntax_takes_b26 y_state y_depth y_links y_primes y_dotsDue x1 else fn_Syntax_takes_b20 y_state y_depth y_links y_primes y_dotsDue x1)) else fn_Syntax_takes_b20 y_state y_depth y_links y_primes y_dotsDue x1)
set_option maxHeartbeats 40000000 in
set_option maxRecDepth 100000 in
theorem ct_Syntax_takes (l : Launch) (D : va_G) (cI cJ cC : ClassId) (adK adV : Nat → Nat) (A_y : Nat) (sz : Nat) (y_state : Int32) (y_depth : Int32) (y_links : Int32) (y_primes : Int32) (y_dotsDue : Int32) (x1 : Int32) {rs : Int32 × Int32 × Int32 × Int32 × Int32 × Int32} (hM : fn_Syntax_takes y_state y_depth y_links y_primes y_dotsDue x1 = some rs) : Met l yX7_takes wsX7_takes ({ frames := 2, cells := 0, slots := 0, locals := 41 } : Room) (zP D cI cJ cC adK adV [.ref A_y, .int x1] sz [(A_y, .inr (7, [.int y_state, .int y_depth, .int y_links, .int y_primes, .int y_dotsDue]))]) (zQi D cI cJ cC rs.1 [(A_y, .inr (7, [.int rs.2.1, .int rs.2.2.1, .int rs.2.2.2.1, .int rs.2.2.2.2.1, .int rs.2.2.2.2.2]))] (va_A [(A_y, .inr (7, [.int y_state, .int y_depth, .int y_links, .int y_primes, .int y_dotsDue]))] sz)) 0 0 (va_A [(A_y, .inr (7, [.int y_state, .int y_depth, .int y_links, .int y_primes, .int y_dotsDue]))] sz) := by
  refine Met.ofW (cc := cX7_takes) (maxL := 2) (ret := (some .boolean)) (by decide) rfl ?_
  intro p e s m args below meth c s₁ B hml hv0
  obtain ⟨hargs, hsz, hP, hK, hD0, hX⟩ := hv0
  have hx := B.exec
  have hb := B.bytes
  have hr := B.returns
  have hts := atoms_spec (ws := wsX7_takes) B.pre
  have hown : s.vm.findClass RX7 = some m.cls := findClass_of_methodNamed B.named
  have hlocks := B.notSynchronized
  subst hsz
  have hD := hD0.self (sz := s.heap.size)
  generalize hAe : va_A [(A_y, .inr (7, [.int y_state, .int y_depth, .int y_links, .int y_primes, .int y_dotsDue]))] s.heap.size = A at hD hX ⊢
  have hA : ∀ q : Nat, s.heap.size ≤ q → A q := fun q h => by rw [← hAe]; exact Or.inr h
  have hS : va_S A s.heap s.heap [] := va_S.rf
  have hl := lv_entry ([.ref A_y, .int x1]) (n := 2) (Nat.le_of_ble_eq_true rfl)
  rw [hargs, lg_entry_eq, ← hargs]
  generalize (lg_sl ([.ref A_y, .int x1]) ++ List.replicate (2 - (lg_sl ([.ref A_y, .int x1])).length) Slot.unset).toArray = ls at hl ⊢
  have hl : lv_has ls 2 [(0, .ref A_y), (1, .int x1)] := hl
  have hw0 : ∀ w ∈ u_ws RX7 TX7 5, w ∈ wsX7_takes := by decide +kernel
  have hw1 := hts (.fieldLink RX7 11 "NotationParser$Syntax" "state" "I") (by decide +kernel)
  have hw2 := hts (.initialized RX11) (by decide +kernel)
  have hw3 := hts (.static yX11_startsPower) (by decide +kernel)
  have B_20_0 : ∀ (y_state : Int32) (y_depth : Int32) (y_links : Int32) (y_primes : Int32) (y_dotsDue : Int32) (x1 : Int32) (H : Heap) (locs : List Loc) (ls : Array Slot), va_P D vwCl [(A_y, .inr (7, [.int y_state, .int y_depth, .int y_links, .int y_primes, .int y_dotsDue]))] H → va_D A [(A_y, .inr (7, [.int y_state, .int y_depth, .int y_links, .int y_primes, .int y_dotsDue]))] → va_S A s.heap H locs → lv_has ls 2 [(0, .ref A_y), (1, .int x1)] → fn_Syntax_takes_b20  y_state y_depth y_links y_primes y_dotsDue x1 = some rs → W p l e (headSpec wsX7_takes ({ frames := 2, cells := 0, slots := 0, locals := 41 } : Room)).room s m args below meth c H locs 0 0 (MQ below (zQi D cI cJ cC rs.1 [(A_y, .inr (7, [.int rs.2.1, .int rs.2.2.1, .int rs.2.2.2.1, .int rs.2.2.2.2.1, .int rs.2.2.2.2.2]))] A) args s 0 0 A) (F0 m 20 ls []) := by
    intro  y_state y_depth y_links y_primes y_dotsDue x1 H locs ls hP hD hS hl hM
    refine lv_aload_n hx hb dX7_takes_20 rfl (lv_at hl 0 rfl) ?_
    refine lv_iload_n hx hb dX7_takes_21 rfl (lv_at hl 1 rfl) ?_
    obtain ⟨hPc, hDc, hFc⟩ := zcut (wc := [(A_y, .inr (7, [.int y_state, .int y_depth, .int y_links, .int y_primes, .int y_dotsDue]))]) hP hD hS hA [0] rfl rfl (by decide)
    have hrun : va_Run p l e (headSpec wsX7_takes ({ frames := 2, cells := 0, slots := 0, locals := 41 } : Room)).room s m args below meth c H locs 0 0 _ _ (F0 m 22 ls _) _ (zQi D cI cJ cC (fn_Syntax_takesPower y_state y_depth y_primes x1).1 [(A_y, .inr (7, [.int (fn_Syntax_takesPower y_state y_depth y_primes x1).2.1, .int (fn_Syntax_takesPower y_state y_depth y_primes x1).2.2.1, .int y_links, .int (fn_Syntax_takesPower y_state y_depth y_primes x1).2.2.2, .int y_dotsDue]))] (va_A [(A_y, .inr (7, [.int y_state, .int y_depth, .int y_links, .int y_primes, .int y_dotsDue]))] H.size) _) (va_A [(A_y, .inr (7, [.int y_state, .int y_depth, .int y_links, .int y_primes, .int y_dotsDue]))] H.size) := va_runV (As := [.int x1]) (rest := []) ⟨hx, hb, hml, hown, hts⟩ (ct_Syntax_takesPower l D cI cJ cC adK adV A_y H.size y_state y_depth y_links y_primes y_dotsDue x1) (cwV 1 hts gX7_takes_X7_takesPower rfl rfl rfl (by decide +kernel) ⟨Nat.le_of_ble_eq_true rfl, Nat.le_of_ble_eq_true rfl⟩) ⟨zblind, va_recv hK hP (ci := 7) (q0 := 0) rfl rfl, zpre hX hS hFc hPc hK hDc⟩ rfl rfl hl.1 rfl (lv_room (Nat.le_of_ble_eq_true rfl)) dX7_takes_22 ⟨Nat.zero_le _, Nat.zero_le _⟩
    refine zc_i (ws' := [(A_y, .inr (7, [.int (fn_Syntax_takesPower y_state y_depth y_primes x1).2.1, .int (fn_Syntax_takesPower y_state y_depth y_primes x1).2.2.1, .int y_links, .int (fn_Syntax_takesPower y_state y_depth y_primes x1).2.2.2, .int y_dotsDue]))]) hrun hP hD hS hFc [0] rfl (by decide) rfl rfl (fun H3 locs hP hD hS => ?_)
    obtain ⟨g4, hM⟩ := z_g hM
    have hM := Option.some.inj hM
    subst hM
    exact W.zret (v := (fn_Syntax_takesPower y_state y_depth y_primes x1).1) (ty := .boolean) hx hb hr (z_bool g4) (fun t ht hW => ⟨⟨_, (), rfl, rfl, ⟨by rw [ht]; exact hP, va_K.moved hW.alike hK, hD⟩⟩, hS.F ht⟩) hS.2.2 dX7_takes_25
  have B_26_1 : ∀ (y_state : Int32) (y_depth : Int32) (y_links : Int32) (y_primes : Int32) (y_dotsDue : Int32) (x1 : Int32) (H : Heap) (locs : List Loc) (ls : Array Slot), va_P D vwCl [(A_y, .inr (7, [.int y_state, .int y_depth, .int y_links, .int y_primes, .int y_dotsDue]))] H → va_D A [(A_y, .inr (7, [.int y_state, .int y_depth, .int y_links, .int y_primes, .int y_dotsDue]))] → va_S A s.heap H locs → lv_has ls 2 [(0, .ref A_y), (1, .int x1)] → fn_Syntax_takes_b26  y_state y_depth y_links y_primes y_dotsDue x1 = some rs → W p l e (headSpec wsX7_takes ({ frames := 2, cells := 0, slots := 0, locals := 41 } : Room)).room s m args below meth c H locs 0 0 (MQ below (zQi D cI cJ cC rs.1 [(A_y, .inr (7, [.int rs.2.1, .int rs.2.2.1, .int rs.2.2.2.1, .int rs.2.2.2.2.1, .int rs.2.2.2.2.2]))] A) args s 0 0 A) (F0 m 26 ls []) := by
    intro  y_state y_depth y_links y_primes y_dotsDue x1 H locs ls hP hD hS hl hM
    refine lv_aload_n hx hb dX7_takes_26 rfl (lv_at hl 0 rfl) ?_
    refine lv_iload_n hx hb dX7_takes_27 rfl (lv_at hl 1 rfl) ?_
    obtain ⟨q8, hq8, hM⟩ := z_b hM
    obtain ⟨hPc, hDc, hFc⟩ := zcut (wc := [(A_y, .inr (7, [.int y_state, .int y_depth, .int y_links, .int y_primes, .int y_dotsDue]))]) hP hD hS hA [0] rfl rfl (by decide)
    have hrun : va_Run p l e (headSpec wsX7_takes ({ frames := 2, cells := 0, slots := 0, locals := 41 } : Room)).room s m args below meth c H locs 0 0 _ _ (F0 m 28 ls _) _ (zQi D cI cJ cC q8.1 [(A_y, .inr (7, [.int q8.2.1, .int q8.2.2.1, .int q8.2.2.2.1, .int y_primes, .int q8.2.2.2.2]))] (va_A [(A_y, .inr (7, [.int y_state, .int y_depth, .int y_links, .int y_primes, .int y_dotsDue]))] H.size) _) (va_A [(A_y, .inr (7, [.int y_state, .int y_depth, .int y_links, .int y_primes, .int y_dotsDue]))] H.size) := va_runV (As := [.int x1]) (rest := []) ⟨hx, hb, hml, hown, hts⟩ (ct_Syntax_takesWhatFollows l D cI cJ cC adK adV A_y H.size y_state y_depth y_links y_primes y_dotsDue x1 hq8) (cwV 1 hts gX7_takes_X7_takesWhatFollows rfl rfl rfl (by decide +kernel) ⟨Nat.le_of_ble_eq_true rfl, Nat.le_of_ble_eq_true rfl⟩) ⟨zblind, va_recv hK hP (ci := 7) (q0 := 0) rfl rfl, zpre hX hS hFc hPc hK hDc⟩ rfl rfl hl.1 rfl (lv_room (Nat.le_of_ble_eq_true rfl)) dX7_takes_28 ⟨Nat.zero_le _, Nat.zero_le _⟩
    refine zc_i (ws' := [(A_y, .inr (7, [.int q8.2.1, .int q8.2.2.1, .int q8.2.2.2.1, .int y_primes, .int q8.2.2.2.2]))]) hrun hP hD hS hFc [0] rfl (by decide) rfl rfl (fun H9 locs hP hD hS => ?_)
    obtain ⟨g10, hM⟩ := z_g hM
    have hM := Option.some.inj hM
    subst hM
    exact W.zret (v := q8.1) (ty := .boolean) hx hb hr (z_bool g10) (fun t ht hW => ⟨⟨_, (), rfl, rfl, ⟨by rw [ht]; exact hP, va_K.moved hW.alike hK, hD⟩⟩, hS.F ht⟩) hS.2.2 dX7_takes_31
  refine lv_aload_n hx hb dX7_takes_0 rfl (lv_at hl 0 rfl) ?_
  refine va_get (D := D) (ci := 7) (v := .int y_state) (C := RX7) (T := TX7) (N := 5) hx hb hts hw0 hown hK hP 0 rfl rfl 0 (by decide) hw1 (fun _ h9 => h9) rfl dX7_takes_1 ?_
  refine lv_iconst (v := 3) hx hb dX7_takes_4 (by decide) ?_
  refine lv_icmp_ne (tgt := 20) hx hb dX7_takes_5 (by decide) (fun c1 => ?_) (fun c1 => ?_)
  · have hM := z_f c1 hM
    exact B_20_0  y_state y_depth y_links y_primes y_dotsDue x1 _ _ ls hP hD hS (lv_sub hl [0, 1] rfl) hM
  · have hM := z_t c1 hM
    refine lv_iload_n hx hb dX7_takes_8 rfl (lv_at hl 1 rfl) ?_
    obtain ⟨hPc, hDc, hFc⟩ := zcut (wc := []) hP hD hS hA [] rfl rfl (by decide)
    have hrun : va_Run p l e (headSpec wsX7_takes ({ frames := 2, cells := 0, slots := 0, locals := 41 } : Room)).room s m args below meth c s.heap [] 0 0 _ _ (F0 m 9 ls _) _ (zQi D cI cJ cC (fn_Parser_startsPower x1) [] (va_A [] s.heap.size) _) (va_A [] s.heap.size) := va_runSN (As := [.int x1]) (rest := []) ⟨hx, hb, hml, hown, hts⟩ (ct_Parser_startsPower l D cI cJ cC adK adV s.heap.size x1) ⟨va_cnB 1 hts gX7_takes_X11_startsPower_n39 rfl rfl rfl (hX.1 (RX7, 39, yX11_startsPower, RX11) (by decide +kernel)) hw2 (by decide +kernel) ⟨Nat.le_of_ble_eq_true rfl, Nat.le_of_ble_eq_true rfl⟩, hw3, trivial⟩ ⟨zblind, zpre hX hS hFc hPc hK hDc⟩ rfl rfl hl.1 rfl (lv_room (Nat.le_of_ble_eq_true rfl)) dX7_takes_9 ⟨Nat.zero_le _, Nat.zero_le _⟩
    refine zc_i (ws' := [(A_y, .inr (7, [.int y_state, .int y_depth, .int y_links, .int y_primes, .int y_dotsDue]))]) hrun hP hD hS hFc [] rfl (by decide) rfl rfl (fun H6 locs hP hD hS => ?_)
    refine lv_if_eq (tgt := 26) hx hb dX7_takes_12 (by decide) (fun c7 => ?_) (fun c7 => ?_)
    · have hM := z_t c7 hM
      exact B_26_1  y_state y_depth y_links y_primes y_dotsDue x1 _ _ ls hP hD hS (lv_sub hl [0, 1] rfl) hM
    · have hM := z_f c7 hM
      refine lv_iload_n hx hb dX7_takes_15 rfl (lv_at hl 1 rfl) ?_
      refine lv_iconst (v := 1) hx hb dX7_takes_16 (by decide) ?_
      refine lv_icmp_eq (tgt := 26) hx hb dX7_takes_17 (by decide) (fun c11 => ?_) (fun c11 => ?_)
      · have hM := z_t c11 hM
        exact B_26_1  y_state y_depth y_links y_primes y_dotsDue x1 _ _ ls hP hD hS (lv_sub hl [0, 1] rfl) hM
      · have hM := z_f c11 hM
        exact B_20_0  y_state y_depth y_links y_primes y_dotsDue x1 _ _ ls hP hD hS (lv_sub hl [0, 1] rfl) hM
def fn_Syntax_firstFault_b76 (q_count : Int32) (q_kinds : Nat → Int32) (y_state : Int32) (y_depth : Int32) (y_links : Int32) (y_primes : Int32) (y_dotsDue : Int32) : Option (Int32 × Int32 × Int32 × Int32 × Int32 × Int32) := some ((fn_Tokens_size q_count), y_state, y_depth, y_links, y_primes, y_dotsDue)
def fn_Syntax_firstFault_L22 (q_count : Int32) (q_kinds : Nat → Int32) : Nat → Int32 → Int32 → Int32 → Int32 → Int32 → Int32 → Option (Int32 × Int32 × Int32 × Int32 × Int32 × Int32)
  | 0 => fun _ _ _ _ _ _ => none
  | n + 1 => fun y_state y_depth y_links y_primes y_dotsDue x2 => (if (fn_Tokens_size q_count) ≤ x2 then (if y_state = 3 then (if y_depth = 0 then (if y_dotsDue = 0 then some ((-1), y_state, y_depth, y_links, y_primes, y_dotsDue) else fn_Syntax_firstFault_b76 q_count q_kinds y_state y_depth y_links y_primes y_dotsDue) else fn_Syntax_firstFault_b76 q_count q_kinds y_state y_depth y_links y_primes y_dotsDue) else fn_Syntax_firstFault_b76 q_count q_kinds y_state y_depth y_links y_primes y_dotsDue) else ((fn_Tokens_kindOf q_count q_kinds x2).bind fun q13 => ((fn_Syntax_takes y_state y_depth y_links y_primes y_dotsDue q13).bind fun q15 => (if q15.1 = 0 then some (x2, q15.2.1, q15.2.2.1, q15.2.2.2.1, q15.2.2.2.2.1, q15.2.2.2.2.2) else (fn_Syntax_firstFault_L22 q_count q_kinds n) q15.2.1 q15.2.2.1 q15.2.2.2.1 q15.2.2.2.2.1 q15.2.2.2.2.2 (x2 + 1)))))
def fn_Syntax_firstFault (y_state : Int32) (y_depth : Int32) (y_links : Int32) (y_primes : Int32) (y_dotsDue : Int32) (q_count : Int32) (q_kinds : Nat → Int32) : Option (Int32 × Int32 × Int32 × Int32 × Int32 × Int32) := fn_Syntax_firstFault_L22 q_count q_kinds zFU 0 0 0 y_primes 0 0
set_option maxHeartbeats 40000000 in
set_option maxRecDepth 100000 in
theorem ct_Syntax_firstFault (l : Launch) (D : va_G) (cI cJ cC : ClassId) (adK adV : Nat → Nat) (A_y A_q A_q_kinds A_q_starts A_q_details : Nat) (sz : Nat) (y_state : Int32) (y_depth : Int32) (y_links : Int32) (y_primes : Int32) (y_dotsDue : Int32) (q_count : Int32) (q_kinds : Nat → Int32) {rs : Int32 × Int32 × Int32 × Int32 × Int32 × Int32} (hM : fn_Syntax_firstFault y_state y_depth y_links y_primes y_dotsDue q_count q_kinds = some rs) : Met l yX7_firstFault wsX7_firstFault ({ frames := 3, cells := 0, slots := 0, locals := 62 } : Room) (zP D cI cJ cC adK adV [.ref A_y, .ref A_q] sz [(A_y, .inr (7, [.int y_state, .int y_depth, .int y_links, .int y_primes, .int y_dotsDue])), (A_q, .inr (8, [.ref A_q_kinds, .ref A_q_starts, .ref A_q_details, .int q_count])), (A_q_kinds, .inl (cI, 80, .inl q_kinds))]) (zQi D cI cJ cC rs.1 [(A_y, .inr (7, [.int rs.2.1, .int rs.2.2.1, .int rs.2.2.2.1, .int rs.2.2.2.2.1, .int rs.2.2.2.2.2])), (A_q, .inr (8, [.ref A_q_kinds, .ref A_q_starts, .ref A_q_details, .int q_count])), (A_q_kinds, .inl (cI, 80, .inl q_kinds))] (va_A [(A_y, .inr (7, [.int y_state, .int y_depth, .int y_links, .int y_primes, .int y_dotsDue])), (A_q, .inr (8, [.ref A_q_kinds, .ref A_q_starts, .ref A_q_details, .int q_count])), (A_q_kinds, .inl (cI, 80, .inl q_kinds))] sz)) 0 0 (va_A [(A_y, .inr (7, [.int y_state, .int y_depth, .int y_links, .int y_primes, .int y_dotsDue])), (A_q, .inr (8, [.ref A_q_kinds, .ref A_q_starts, .ref A_q_details, .int q_count])), (A_q_kinds, .inl (cI, 80, .inl q_kinds))] sz) := by
  refine Met.ofW (cc := cX7_firstFault) (maxL := 3) (ret := (some .int)) (by decide) rfl ?_
  intro p e s m args below meth c s₁ B hml hv0
  obtain ⟨hargs, hsz, hP, hK, hD0, hX⟩ := hv0
  have hx := B.exec
  have hb := B.bytes
  have hr := B.returns
  have hts := atoms_spec (ws := wsX7_firstFault) B.pre
  have hown : s.vm.findClass RX7 = some m.cls := findClass_of_methodNamed B.named
  have hlocks := B.notSynchronized
  subst hsz
  have hD := hD0.self (sz := s.heap.size)
  generalize hAe : va_A [(A_y, .inr (7, [.int y_state, .int y_depth, .int y_links, .int y_primes, .int y_dotsDue])), (A_q, .inr (8, [.ref A_q_kinds, .ref A_q_starts, .ref A_q_details, .int q_count])), (A_q_kinds, .inl (cI, 80, .inl q_kinds))] s.heap.size = A at hD hX ⊢
  have hA : ∀ q : Nat, s.heap.size ≤ q → A q := fun q h => by rw [← hAe]; exact Or.inr h
  have hS : va_S A s.heap s.heap [] := va_S.rf
  have hl := lv_entry ([.ref A_y, .ref A_q]) (n := 3) (Nat.le_of_ble_eq_true rfl)
  rw [hargs, lg_entry_eq, ← hargs]
  generalize (lg_sl ([.ref A_y, .ref A_q]) ++ List.replicate (3 - (lg_sl ([.ref A_y, .ref A_q])).length) Slot.unset).toArray = ls at hl ⊢
  have hl : lv_has ls 3 [(0, .ref A_y), (1, .ref A_q)] := hl
  have hw0 : ∀ w ∈ u_ws RX7 TX7 5, w ∈ wsX7_firstFault := by decide +kernel
  have hw1 := hts (.fieldLink RX7 11 "NotationParser$Syntax" "state" "I") (by decide +kernel)
  have hw2 := hts (.fieldLink RX7 15 "NotationParser$Syntax" "depth" "I") (by decide +kernel)
  have hw3 := hts (.fieldLink RX7 18 "NotationParser$Syntax" "links" "I") (by decide +kernel)
  have hw4 := hts (.fieldLink RX7 21 "NotationParser$Syntax" "dotsDue" "Z") (by decide +kernel)
  have B_76_1 : ∀ (y_state : Int32) (y_depth : Int32) (y_links : Int32) (y_primes : Int32) (y_dotsDue : Int32) (H : Heap) (locs : List Loc) (ls : Array Slot), va_P D vwCl [(A_y, .inr (7, [.int y_state, .int y_depth, .int y_links, .int y_primes, .int y_dotsDue])), (A_q, .inr (8, [.ref A_q_kinds, .ref A_q_starts, .ref A_q_details, .int q_count])), (A_q_kinds, .inl (cI, 80, .inl q_kinds))] H → va_D A [(A_y, .inr (7, [.int y_state, .int y_depth, .int y_links, .int y_primes, .int y_dotsDue])), (A_q, .inr (8, [.ref A_q_kinds, .ref A_q_starts, .ref A_q_details, .int q_count])), (A_q_kinds, .inl (cI, 80, .inl q_kinds))] → va_S A s.heap H locs → lv_has ls 3 [(1, .ref A_q)] → fn_Syntax_firstFault_b76 q_count q_kinds y_state y_depth y_links y_primes y_dotsDue = some rs → W p l e (headSpec wsX7_firstFault ({ frames := 3, cells := 0, slots := 0, locals := 62 } : Room)).room s m args below meth c H locs 0 0 (MQ below (zQi D cI cJ cC rs.1 [(A_y, .inr (7, [.int rs.2.1, .int rs.2.2.1, .int rs.2.2.2.1, .int rs.2.2.2.2.1, .int rs.2.2.2.2.2])), (A_q, .inr (8, [.ref A_q_kinds, .ref A_q_starts, .ref A_q_details, .int q_count])), (A_q_kinds, .inl (cI, 80, .inl q_kinds))] A) args s 0 0 A) (F0 m 76 ls []) := by
    intro  y_state y_depth y_links y_primes y_dotsDue H locs ls hP hD hS hl hM
    refine lv_aload_n hx hb dX7_firstFault_76 rfl (lv_at hl 0 rfl) ?_
    obtain ⟨hPc, hDc, hFc⟩ := zcut (wc := [(A_q, .inr (8, [.ref A_q_kinds, .ref A_q_starts, .ref A_q_details, .int q_count]))]) hP hD hS hA [1] rfl rfl (by decide)
    have hrun : va_Run p l e (headSpec wsX7_firstFault ({ frames := 3, cells := 0, slots := 0, locals := 62 } : Room)).room s m args below meth c H locs 0 0 _ _ (F0 m 77 ls _) _ (zQi D cI cJ cC (fn_Tokens_size q_count) [(A_q, .inr (8, [.ref A_q_kinds, .ref A_q_starts, .ref A_q_details, .int q_count]))] (va_A [(A_q, .inr (8, [.ref A_q_kinds, .ref A_q_starts, .ref A_q_details, .int q_count]))] H.size) _) (va_A [(A_q, .inr (8, [.ref A_q_kinds, .ref A_q_starts, .ref A_q_details, .int q_count]))] H.size) := va_runV (As := []) (rest := []) ⟨hx, hb, hml, hown, hts⟩ (ct_Tokens_size l D cI cJ cC adK adV A_q A_q_kinds A_q_starts A_q_details H.size q_count) (cwV 0 hts gX7_firstFault_X8_size rfl rfl rfl (by decide +kernel) ⟨Nat.le_of_ble_eq_true rfl, Nat.le_of_ble_eq_true rfl⟩) ⟨zblind, va_recv hK hP (ci := 8) (q0 := 1) rfl rfl, zpre hX hS hFc hPc hK hDc⟩ rfl rfl hl.1 rfl (lv_room (Nat.le_of_ble_eq_true rfl)) dX7_firstFault_77 ⟨Nat.zero_le _, Nat.zero_le _⟩
    refine zc_i (ws' := [(A_y, .inr (7, [.int y_state, .int y_depth, .int y_links, .int y_primes, .int y_dotsDue])), (A_q, .inr (8, [.ref A_q_kinds, .ref A_q_starts, .ref A_q_details, .int q_count])), (A_q_kinds, .inl (cI, 80, .inl q_kinds))]) hrun hP hD hS hFc [1] rfl (by decide) rfl rfl (fun H10 locs hP hD hS => ?_)
    have hM := Option.some.inj hM
    subst hM
    exact W.iret (v := (fn_Tokens_size q_count)) hx hb hr (fun t ht hW => ⟨⟨_, (), rfl, rfl, ⟨by rw [ht]; exact hP, va_K.moved hW.alike hK, hD⟩⟩, hS.F ht⟩) hS.2.2 dX7_firstFault_80
  have L_22_0 : ∀ (n : Nat) (y_state : Int32) (y_depth : Int32) (y_links : Int32) (y_primes : Int32) (y_dotsDue : Int32) (x2 : Int32) (H : Heap) (locs : List Loc) (ls : Array Slot), va_P D vwCl [(A_y, .inr (7, [.int y_state, .int y_depth, .int y_links, .int y_primes, .int y_dotsDue])), (A_q, .inr (8, [.ref A_q_kinds, .ref A_q_starts, .ref A_q_details, .int q_count])), (A_q_kinds, .inl (cI, 80, .inl q_kinds))] H → va_D A [(A_y, .inr (7, [.int y_state, .int y_depth, .int y_links, .int y_primes, .int y_dotsDue])), (A_q, .inr (8, [.ref A_q_kinds, .ref A_q_starts, .ref A_q_details, .int q_count])), (A_q_kinds, .inl (cI, 80, .inl q_kinds))] → va_S A s.heap H locs → lv_has ls 3 [(0, .ref A_y), (1, .ref A_q), (2, .int x2)] → fn_Syntax_firstFault_L22 q_count q_kinds n y_state y_depth y_links y_primes y_dotsDue x2 = some rs → W p l e (headSpec wsX7_firstFault ({ frames := 3, cells := 0, slots := 0, locals := 62 } : Room)).room s m args below meth c H locs 0 0 (MQ below (zQi D cI cJ cC rs.1 [(A_y, .inr (7, [.int rs.2.1, .int rs.2.2.1, .int rs.2.2.2.1, .int rs.2.2.2.2.1, .int rs.2.2.2.2.2])), (A_q, .inr (8, [.ref A_q_kinds, .ref A_q_starts, .ref A_q_details, .int q_count])), (A_q_kinds, .inl (cI, 80, .inl q_kinds))] A) args s 0 0 A) (F0 m 22 ls []) := by
    intro  n
    induction n with
    | zero => intro y_state y_depth y_links y_primes y_dotsDue x2 H locs ls _ _ _ _ hM; exact z_n hM
    | succ n ih =>
      intro y_state y_depth y_links y_primes y_dotsDue x2 H locs ls hP hD hS hl hM
      refine lv_iload_n hx hb dX7_firstFault_22 rfl (lv_at hl 2 rfl) ?_
      refine lv_aload_n hx hb dX7_firstFault_23 rfl (lv_at hl 1 rfl) ?_
      obtain ⟨hPc, hDc, hFc⟩ := zcut (wc := [(A_q, .inr (8, [.ref A_q_kinds, .ref A_q_starts, .ref A_q_details, .int q_count]))]) hP hD hS hA [1] rfl rfl (by decide)
      have hrun : va_Run p l e (headSpec wsX7_firstFault ({ frames := 3, cells := 0, slots := 0, locals := 62 } : Room)).room s m args below meth c H locs 0 0 _ _ (F0 m 24 ls _) _ (zQi D cI cJ cC (fn_Tokens_size q_count) [(A_q, .inr (8, [.ref A_q_kinds, .ref A_q_starts, .ref A_q_details, .int q_count]))] (va_A [(A_q, .inr (8, [.ref A_q_kinds, .ref A_q_starts, .ref A_q_details, .int q_count]))] H.size) _) (va_A [(A_q, .inr (8, [.ref A_q_kinds, .ref A_q_starts, .ref A_q_details, .int q_count]))] H.size) := va_runV (As := []) (rest := [.int x2]) ⟨hx, hb, hml, hown, hts⟩ (ct_Tokens_size l D cI cJ cC adK adV A_q A_q_kinds A_q_starts A_q_details H.size q_count) (cwV 0 hts gX7_firstFault_X8_size rfl rfl rfl (by decide +kernel) ⟨Nat.le_of_ble_eq_true rfl, Nat.le_of_ble_eq_true rfl⟩) ⟨zblind, va_recv hK hP (ci := 8) (q0 := 1) rfl rfl, zpre hX hS hFc hPc hK hDc⟩ rfl rfl hl.1 rfl (lv_room (Nat.le_of_ble_eq_true rfl)) dX7_firstFault_24 ⟨Nat.zero_le _, Nat.zero_le _⟩
      refine zc_i (ws' := [(A_y, .inr (7, [.int y_state, .int y_depth, .int y_links, .int y_primes, .int y_dotsDue])), (A_q, .inr (8, [.ref A_q_kinds, .ref A_q_starts, .ref A_q_details, .int q_count])), (A_q_kinds, .inl (cI, 80, .inl q_kinds))]) hrun hP hD hS hFc [1] rfl (by decide) rfl rfl (fun H6 locs hP hD hS => ?_)
      refine lv_icmp_ge (tgt := 50) hx hb dX7_firstFault_27 (by decide) (fun c7 => ?_) (fun c7 => ?_)
      · have hM := z_t c7 hM
        refine lv_aload_n hx hb dX7_firstFault_50 rfl (lv_at hl 0 rfl) ?_
        refine va_get (D := D) (ci := 7) (v := .int y_state) (C := RX7) (T := TX7) (N := 5) hx hb hts hw0 hown hK hP 0 rfl rfl 0 (by decide) hw1 (fun _ h9 => h9) rfl dX7_firstFault_51 ?_
        refine lv_iconst (v := 3) hx hb dX7_firstFault_54 (by decide) ?_
        refine lv_icmp_ne (tgt := 76) hx hb dX7_firstFault_55 (by decide) (fun c8 => ?_) (fun c8 => ?_)
        · have hM := z_f c8 hM
          exact B_76_1  y_state y_depth y_links y_primes y_dotsDue _ _ ls hP hD hS (lv_sub hl [1] rfl) hM
        · have hM := z_t c8 hM
          refine lv_aload_n hx hb dX7_firstFault_58 rfl (lv_at hl 0 rfl) ?_
          refine va_get (D := D) (ci := 7) (v := .int y_depth) (C := RX7) (T := TX7) (N := 5) hx hb hts hw0 hown hK hP 0 rfl rfl 1 (by decide) hw2 (fun _ h9 => h9) rfl dX7_firstFault_59 ?_
          refine lv_if_ne (tgt := 76) hx hb dX7_firstFault_62 (by decide) (fun c11 => ?_) (fun c11 => ?_)
          · have hM := z_f c11 hM
            exact B_76_1  y_state y_depth y_links y_primes y_dotsDue _ _ ls hP hD hS (lv_sub hl [1] rfl) hM
          · have hM := z_t c11 hM
            refine lv_aload_n hx hb dX7_firstFault_65 rfl (lv_at hl 0 rfl) ?_
            refine va_get (D := D) (ci := 7) (v := .int y_dotsDue) (C := RX7) (T := TX7) (N := 5) hx hb hts hw0 hown hK hP 0 rfl rfl 4 (by decide) hw4 (fun _ h9 => h9) rfl dX7_firstFault_66 ?_
            refine lv_if_ne (tgt := 76) hx hb dX7_firstFault_69 (by decide) (fun c12 => ?_) (fun c12 => ?_)
            · have hM := z_f c12 hM
              exact B_76_1  y_state y_depth y_links y_primes y_dotsDue _ _ ls hP hD hS (lv_sub hl [1] rfl) hM
            · have hM := z_t c12 hM
              refine lv_iconst (v := (-1)) hx hb dX7_firstFault_72 (by decide) ?_
              refine lv_goto (tgt := 80) hx hb dX7_firstFault_73 (by decide) ?_
              have hM := Option.some.inj hM
              subst hM
              exact W.iret (v := (-1)) hx hb hr (fun t ht hW => ⟨⟨_, (), rfl, rfl, ⟨by rw [ht]; exact hP, va_K.moved hW.alike hK, hD⟩⟩, hS.F ht⟩) hS.2.2 dX7_firstFault_80
      · have hM := z_f c7 hM
        refine lv_aload_n hx hb dX7_firstFault_30 rfl (lv_at hl 0 rfl) ?_
        refine lv_aload_n hx hb dX7_firstFault_31 rfl (lv_at hl 1 rfl) ?_
        refine lv_iload_n hx hb dX7_firstFault_32 rfl (lv_at hl 2 rfl) ?_
        obtain ⟨q13, hq13, hM⟩ := z_b hM
        obtain ⟨hPc, hDc, hFc⟩ := zcut (wc := [(A_q, .inr (8, [.ref A_q_kinds, .ref A_q_starts, .ref A_q_details, .int q_count])), (A_q_kinds, .inl (cI, 80, .inl q_kinds))]) hP hD hS hA [1, 2] rfl rfl (by decide)
        have hrun : va_Run p l e (headSpec wsX7_firstFault ({ frames := 3, cells := 0, slots := 0, locals := 62 } : Room)).room s m args below meth c H6 locs 0 0 _ _ (F0 m 33 ls _) _ (zQi D cI cJ cC q13 [(A_q, .inr (8, [.ref A_q_kinds, .ref A_q_starts, .ref A_q_details, .int q_count])), (A_q_kinds, .inl (cI, 80, .inl q_kinds))] (va_A [(A_q, .inr (8, [.ref A_q_kinds, .ref A_q_starts, .ref A_q_details, .int q_count])), (A_q_kinds, .inl (cI, 80, .inl q_kinds))] H6.size) _) (va_A [(A_q, .inr (8, [.ref A_q_kinds, .ref A_q_starts, .ref A_q_details, .int q_count])), (A_q_kinds, .inl (cI, 80, .inl q_kinds))] H6.size) := va_runV (As := [.int x2]) (rest := [.ref A_y]) ⟨hx, hb, hml, hown, hts⟩ (ct_Tokens_kindOf l D cI cJ cC adK adV A_q A_q_kinds A_q_starts A_q_details H6.size q_count q_kinds x2 hq13) (cwV 1 hts gX7_firstFault_X8_kindOf rfl rfl rfl (by decide +kernel) ⟨Nat.le_of_ble_eq_true rfl, Nat.le_of_ble_eq_true rfl⟩) ⟨zblind, va_recv hK hP (ci := 8) (q0 := 1) rfl rfl, zpre hX hS hFc hPc hK hDc⟩ rfl rfl hl.1 rfl (lv_room (Nat.le_of_ble_eq_true rfl)) dX7_firstFault_33 ⟨Nat.zero_le _, Nat.zero_le _⟩
        refine zc_i (ws' := [(A_y, .inr (7, [.int y_state, .int y_depth, .int y_links, .int y_primes, .int y_dotsDue])), (A_q, .inr (8, [.ref A_q_kinds, .ref A_q_starts, .ref A_q_details, .int q_count])), (A_q_kinds, .inl (cI, 80, .inl q_kinds))]) hrun hP hD hS hFc [1, 2] rfl (by decide) rfl rfl (fun H14 locs hP hD hS => ?_)
        obtain ⟨q15, hq15, hM⟩ := z_b hM
        obtain ⟨hPc, hDc, hFc⟩ := zcut (wc := [(A_y, .inr (7, [.int y_state, .int y_depth, .int y_links, .int y_primes, .int y_dotsDue]))]) hP hD hS hA [0] rfl rfl (by decide)
        have hrun : va_Run p l e (headSpec wsX7_firstFault ({ frames := 3, cells := 0, slots := 0, locals := 62 } : Room)).room s m args below meth c H14 locs 0 0 _ _ (F0 m 36 ls _) _ (zQi D cI cJ cC q15.1 [(A_y, .inr (7, [.int q15.2.1, .int q15.2.2.1, .int q15.2.2.2.1, .int q15.2.2.2.2.1, .int q15.2.2.2.2.2]))] (va_A [(A_y, .inr (7, [.int y_state, .int y_depth, .int y_links, .int y_primes, .int y_dotsDue]))] H14.size) _) (va_A [(A_y, .inr (7, [.int y_state, .int y_depth, .int y_links, .int y_primes, .int y_dotsDue]))] H14.size) := va_runV (As := [.int q13]) (rest := []) ⟨hx, hb, hml, hown, hts⟩ (ct_Syntax_takes l D cI cJ cC adK adV A_y H14.size y_state y_depth y_links y_primes y_dotsDue q13 hq15) (cwV 1 hts gX7_firstFault_X7_takes rfl rfl rfl (by decide +kernel) ⟨Nat.le_of_ble_eq_true rfl, Nat.le_of_ble_eq_true rfl⟩) ⟨zblind, va_recv hK hP (ci := 7) (q0 := 0) rfl rfl, zpre hX hS hFc hPc hK hDc⟩ rfl rfl hl.1 rfl (lv_room (Nat.le_of_ble_eq_true rfl)) dX7_firstFault_36 ⟨Nat.zero_le _, Nat.zero_le _⟩
        refine zc_i (ws' := [(A_y, .inr (7, [.int q15.2.1, .int q15.2.2.1, .int q15.2.2.2.1, .int q15.2.2.2.2.1, .int q15.2.2.2.2.2])), (A_q, .inr (8, [.ref A_q_kinds, .ref A_q_starts, .ref A_q_details, .int q_count])), (A_q_kinds, .inl (cI, 80, .inl q_kinds))]) hrun hP hD hS hFc [0] rfl (by decide) rfl rfl (fun H16 locs hP hD hS => ?_)
        refine lv_if_ne (tgt := 44) hx hb dX7_firstFault_39 (by decide) (fun c17 => ?_) (fun c17 => ?_)
        · have hM := z_f c17 hM
          refine lv_iinc (v := (x2 + 1)) (lv' := [(2, .int (x2 + 1)), (0, .ref A_y), (1, .ref A_q)]) hx hb dX7_firstFault_44 hl (k := 2) rfl rfl (by decide) rfl (fun ls hl => ?_)
          refine lv_goto (tgt := 22) hx hb dX7_firstFault_47 (by decide) ?_
          exact ih q15.2.1 q15.2.2.1 q15.2.2.2.1 q15.2.2.2.2.1 q15.2.2.2.2.2 (x2 + 1) _ _ ls hP hD hS (lv_sub hl [1, 2, 0] rfl) hM
        · have hM := z_t c17 hM
          refine lv_iload_n hx hb dX7_firstFault_42 rfl (lv_at hl 2 rfl) ?_
          have hM := Option.some.inj hM
          subst hM
          exact W.iret (v := x2) hx hb hr (fun t ht hW => ⟨⟨_, (), rfl, rfl, ⟨by rw [ht]; exact hP, va_K.moved hW.alike hK, hD⟩⟩, hS.F ht⟩) hS.2.2 dX7_firstFault_43
  refine lv_aload_n hx hb dX7_firstFault_0 rfl (lv_at hl 0 rfl) ?_
  refine lv_iconst (v := 0) hx hb dX7_firstFault_1 (by decide) ?_
  refine va_put (D := D) (ci := 7) (v := .int 0) (ty := .int) (C := RX7) (T := TX7) (N := 5) hx hb hts hw0 tyX7 tyX7_ok nmX7 hown hK hP hD hS 0 rfl rfl 0 (by decide) hw1 (fun _ h9 => h9) rfl (by decide +kernel) rfl rfl (Nat.le_of_ble_eq_true rfl) dX7_firstFault_2 (fun H1 locs hP hD hS => ?_)
  have hP : va_P D vwCl [(A_y, .inr (7, [.int 0, .int y_depth, .int y_links, .int y_primes, .int y_dotsDue])), (A_q, .inr (8, [.ref A_q_kinds, .ref A_q_starts, .ref A_q_details, .int q_count])), (A_q_kinds, .inl (cI, 80, .inl q_kinds))] H1 := hP
  have hD : va_D A [(A_y, .inr (7, [.int 0, .int y_depth, .int y_links, .int y_primes, .int y_dotsDue])), (A_q, .inr (8, [.ref A_q_kinds, .ref A_q_starts, .ref A_q_details, .int q_count])), (A_q_kinds, .inl (cI, 80, .inl q_kinds))] := hD
  refine lv_aload_n hx hb dX7_firstFault_5 rfl (lv_at hl 0 rfl) ?_
  refine lv_iconst (v := 0) hx hb dX7_firstFault_6 (by decide) ?_
  refine va_put (D := D) (ci := 7) (v := .int 0) (ty := .int) (C := RX7) (T := TX7) (N := 5) hx hb hts hw0 tyX7 tyX7_ok nmX7 hown hK hP hD hS 0 rfl rfl 1 (by decide) hw2 (fun _ h9 => h9) rfl (by decide +kernel) rfl rfl (Nat.le_of_ble_eq_true rfl) dX7_firstFault_7 (fun H2 locs hP hD hS => ?_)
  have hP : va_P D vwCl [(A_y, .inr (7, [.int 0, .int 0, .int y_links, .int y_primes, .int y_dotsDue])), (A_q, .inr (8, [.ref A_q_kinds, .ref A_q_starts, .ref A_q_details, .int q_count])), (A_q_kinds, .inl (cI, 80, .inl q_kinds))] H2 := hP
  have hD : va_D A [(A_y, .inr (7, [.int 0, .int 0, .int y_links, .int y_primes, .int y_dotsDue])), (A_q, .inr (8, [.ref A_q_kinds, .ref A_q_starts, .ref A_q_details, .int q_count])), (A_q_kinds, .inl (cI, 80, .inl q_kinds))] := hD
  refine lv_aload_n hx hb dX7_firstFault_10 rfl (lv_at hl 0 rfl) ?_
  refine lv_iconst (v := 0) hx hb dX7_firstFault_11 (by decide) ?_
  refine va_put (D := D) (ci := 7) (v := .int 0) (ty := .int) (C := RX7) (T := TX7) (N := 5) hx hb hts hw0 tyX7 tyX7_ok nmX7 hown hK hP hD hS 0 rfl rfl 2 (by decide) hw3 (fun _ h9 => h9) rfl (by decide +kernel) rfl rfl (Nat.le_of_ble_eq_true rfl) dX7_firstFault_12 (fun H3 locs hP hD hS => ?_)
  have hP : va_P D vwCl [(A_y, .inr (7, [.int 0, .int 0, .int 0, .int y_primes, .int y_dotsDue])), (A_q, .inr (8, [.ref A_q_kinds, .ref A_q_starts, .ref A_q_details, .int q_count])), (A_q_kinds, .inl (cI, 80, .inl q_kinds))] H3 := hP
  have hD : va_D A [(A_y, .inr (7, [.int 0, .int 0, .int 0, .int y_primes, .int y_dotsDue])), (A_q, .inr (8, [.ref A_q_kinds, .ref A_q_starts, .ref A_q_details, .int q_count])), (A_q_kinds, .inl (cI, 80, .inl q_kinds))] := hD
  refine lv_aload_n hx hb dX7_firstFault_15 rfl (lv_at hl 0 rfl) ?_
  refine lv_iconst (v := 0) hx hb dX7_firstFault_16 (by decide) ?_
  refine va_put (D := D) (ci := 7) (v := .int 0) (ty := .boolean) (C := RX7) (T := TX7) (N := 5) hx hb hts hw0 tyX7 tyX7_ok nmX7 hown hK hP hD hS 0 rfl rfl 4 (by decide) hw4 (fun _ h9 => h9) rfl (by decide +kernel) rfl rfl (Nat.le_of_ble_eq_true rfl) dX7_firstFault_17 (fun H4 locs hP hD hS => ?_)
  have hP : va_P D vwCl [(A_y, .inr (7, [.int 0, .int 0, .int 0, .int y_primes, .int 0])), (A_q, .inr (8, [.ref A_q_kinds, .ref A_q_starts, .ref A_q_details, .int q_count])), (A_q_kinds, .inl (cI, 80, .inl q_kinds))] H4 := hP
  have hD : va_D A [(A_y, .inr (7, [.int 0, .int 0, .int 0, .int y_primes, .int 0])), (A_q, .inr (8, [.ref A_q_kinds, .ref A_q_starts, .ref A_q_details, .int q_count])), (A_q_kinds, .inl (cI, 80, .inl q_kinds))] := hD
  refine lv_iconst (v := 0) hx hb dX7_firstFault_20 (by decide) ?_
  refine lv_istore_n (lv' := [(2, .int 0), (0, .ref A_y), (1, .ref A_q)]) hx hb dX7_firstFault_21 rfl hl (by decide) rfl (fun ls hl => ?_)
  exact L_22_0  zFU 0 0 0 y_primes 0 0 _ _ ls hP hD hS (lv_sub hl [1, 2, 0] rfl) hM
