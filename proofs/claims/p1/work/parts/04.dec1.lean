set_option maxRecDepth 20000 in
theorem ggX0_init_X1_init : GoodIn wsX0_init wsX1_init := goodIn_r _ [15, 16, 2, 3, 17, 18, 19, 20, 21, 22, 23, 24, 25, 8, 26, 27, 28, 29, 30, 31, 32, 33, 34, 35, 36, 37, 38, 39, 40, 41, 42, 43, 44, 45, 51, 52, 53] rfl (by decide +kernel)
set_option maxRecDepth 20000 in
theorem gX0_init_X1_init : GoodIn wsX0_init (wsX1_init) := ggX0_init_X1_init
theorem dX0_init_0 : decode cX0_init 0 = .ok (.aload_n 0, 1) := by decide +kernel
theorem dX0_init_1 : decode cX0_init 1 = .ok (.invokespecial 3, 3) := by decide +kernel
theorem dX0_init_4 : decode cX0_init 4 = .ok (.aload_n 0, 1) := by decide +kernel
theorem dX0_init_5 : decode cX0_init 5 = .ok (.new 9, 3) := by decide +kernel
theorem dX0_init_8 : decode cX0_init 8 = .ok (.dup, 1) := by decide +kernel
theorem dX0_init_9 : decode cX0_init 9 = .ok (.sipush 800, 3) := by decide +kernel
theorem dX0_init_12 : decode cX0_init 12 = .ok (.invokespecial 11, 3) := by decide +kernel
theorem dX0_init_15 : decode cX0_init 15 = .ok (.putfield 14, 3) := by decide +kernel
theorem dX0_init_18 : decode cX0_init 18 = .ok (.aload_n 0, 1) := by decide +kernel
theorem dX0_init_19 : decode cX0_init 19 = .ok (.sipush 2400, 3) := by decide +kernel
theorem dX0_init_22 : decode cX0_init 22 = .ok (.newarray .int, 2) := by decide +kernel
theorem dX0_init_24 : decode cX0_init 24 = .ok (.putfield 20, 3) := by decide +kernel
theorem dX0_init_27 : decode cX0_init 27 = .ok (.aload_n 0, 1) := by decide +kernel
theorem dX0_init_28 : decode cX0_init 28 = .ok (.sipush 800, 3) := by decide +kernel
theorem dX0_init_31 : decode cX0_init 31 = .ok (.newarray .int, 2) := by decide +kernel
theorem dX0_init_33 : decode cX0_init 33 = .ok (.putfield 24, 3) := by decide +kernel
theorem dX0_init_36 : decode cX0_init 36 = .ok (.aload_n 0, 1) := by decide +kernel
theorem dX0_init_37 : decode cX0_init 37 = .ok (.iconst (-1), 1) := by decide +kernel
theorem dX0_init_38 : decode cX0_init 38 = .ok (.putfield 27, 3) := by decide +kernel
theorem dX0_init_41 : decode cX0_init 41 = .ok (.aload_n 0, 1) := by decide +kernel
theorem dX0_init_42 : decode cX0_init 42 = .ok (.aload_n 1, 1) := by decide +kernel
theorem dX0_init_43 : decode cX0_init 43 = .ok (.putfield 31, 3) := by decide +kernel
theorem dX0_init_46 : decode cX0_init 46 = .ok (.return_, 1) := by decide +kernel
set_option maxRecDepth 20000 in
theorem ggX0_renew_X1_clear : GoodIn wsX0_renew wsX1_clear := goodIn_r _ [10, 11, 12, 13, 14, 15, 16, 17, 18, 19, 20, 21, 22, 23, 105, 106, 107, 108, 109, 110, 111, 112] rfl (by decide +kernel)
set_option maxRecDepth 20000 in
theorem gX0_renew_X1_clear : GoodIn wsX0_renew (wsV RX0 38 RX1 yX1_clear wsX1_clear) := goodIn_app (goodIn_of _ (by decide +kernel)) ggX0_renew_X1_clear
set_option maxRecDepth 20000 in
theorem ggX0_renew_X0_empty : GoodIn wsX0_renew wsX0_empty := goodIn_r _ [28, 2, 29, 30, 31, 32, 33, 34, 35, 36, 37, 38, 39, 40, 27, 41, 42, 95, 96, 97, 98, 99, 100, 101, 102, 103, 104] rfl (by decide +kernel)
set_option maxRecDepth 20000 in
theorem gX0_renew_X0_empty : GoodIn wsX0_renew (wsV RX0 41 RX0 yX0_empty wsX0_empty) := goodIn_app (goodIn_of _ (by decide +kernel)) ggX0_renew_X0_empty
set_option maxRecDepth 20000 in
theorem ggX0_renew_X1_reach : GoodIn wsX0_renew wsX1_reach := goodIn_r _ [46, 11, 12, 47, 48, 49, 50, 51, 52, 16, 53, 19, 54, 18, 55, 56, 57, 58, 59, 60, 61, 62, 63, 105, 106, 107, 108, 109, 110, 111, 112] rfl (by decide +kernel)
set_option maxRecDepth 20000 in
theorem gX0_renew_X1_reach : GoodIn wsX0_renew (wsV RX0 45 RX1 yX1_reach wsX1_reach) := goodIn_app (goodIn_of _ (by decide +kernel)) ggX0_renew_X1_reach
set_option maxRecDepth 20000 in
theorem ggX0_renew_X2_keyAt : GoodIn wsX0_renew wsX2_keyAt := goodIn_r _ [67, 18, 54, 110, 111, 112] rfl (by decide +kernel)
set_option maxRecDepth 20000 in
theorem gX0_renew_X2_keyAt : GoodIn wsX0_renew (wsV RX0 62 RX2 yX2_keyAt wsX2_keyAt) := goodIn_app (goodIn_of _ (by decide +kernel)) ggX0_renew_X2_keyAt
set_option maxRecDepth 20000 in
theorem ggX0_renew_X0_endOf : GoodIn wsX0_renew wsX0_endOf := goodIn_r _ [71, 2, 72, 73, 27, 74, 42, 29, 30, 31, 32, 33, 34, 35, 75, 76, 77, 78, 79, 80, 81, 82, 83, 36, 37, 38, 39, 40, 41, 95, 96, 97, 98, 99, 100, 101, 102, 103, 104] rfl (by decide +kernel)
set_option maxRecDepth 20000 in
theorem gX0_renew_X0_endOf : GoodIn wsX0_renew (wsV RX0 66 RX0 yX0_endOf wsX0_endOf) := goodIn_app (goodIn_of _ (by decide +kernel)) ggX0_renew_X0_endOf
set_option maxRecDepth 20000 in
theorem ggX0_renew_X0_longer : GoodIn wsX0_renew wsX0_longer := goodIn_r _ [87, 2, 88, 89, 90, 27, 91, 29, 30, 31, 32, 33, 34, 35, 92, 93, 94, 36, 37, 38, 39, 40, 41, 42, 72, 73, 74, 95, 96, 97, 98, 99, 100, 101, 102, 103, 104] rfl (by decide +kernel)
set_option maxRecDepth 20000 in
theorem gX0_renew_X0_longer : GoodIn wsX0_renew (wsV RX0 70 RX0 yX0_longer wsX0_longer) := goodIn_app (goodIn_of _ (by decide +kernel)) ggX0_renew_X0_longer
theorem dX0_renew_0 : decode cX0_renew 0 = .ok (.aload_n 0, 1) := by decide +kernel
theorem dX0_renew_1 : decode cX0_renew 1 = .ok (.getfield 27, 3) := by decide +kernel
theorem dX0_renew_4 : decode cX0_renew 4 = .ok (.aload_n 0, 1) := by decide +kernel
theorem dX0_renew_5 : decode cX0_renew 5 = .ok (.getfield 31, 3) := by decide +kernel
theorem dX0_renew_8 : decode cX0_renew 8 = .ok (.getfield 35, 3) := by decide +kernel
theorem dX0_renew_11 : decode cX0_renew 11 = .ok (.if_icmp .ne 4, 3) := by decide +kernel
theorem dX0_renew_14 : decode cX0_renew 14 = .ok (.return_, 1) := by decide +kernel
theorem dX0_renew_15 : decode cX0_renew 15 = .ok (.aload_n 0, 1) := by decide +kernel
theorem dX0_renew_16 : decode cX0_renew 16 = .ok (.aload_n 0, 1) := by decide +kernel
theorem dX0_renew_17 : decode cX0_renew 17 = .ok (.getfield 31, 3) := by decide +kernel
theorem dX0_renew_20 : decode cX0_renew 20 = .ok (.getfield 35, 3) := by decide +kernel
theorem dX0_renew_23 : decode cX0_renew 23 = .ok (.putfield 27, 3) := by decide +kernel
theorem dX0_renew_26 : decode cX0_renew 26 = .ok (.aload_n 0, 1) := by decide +kernel
theorem dX0_renew_27 : decode cX0_renew 27 = .ok (.getfield 14, 3) := by decide +kernel
theorem dX0_renew_30 : decode cX0_renew 30 = .ok (.invokevirtual 38, 3) := by decide +kernel
theorem dX0_renew_33 : decode cX0_renew 33 = .ok (.aload_n 0, 1) := by decide +kernel
theorem dX0_renew_34 : decode cX0_renew 34 = .ok (.getfield 14, 3) := by decide +kernel
theorem dX0_renew_37 : decode cX0_renew 37 = .ok (.aload_n 0, 1) := by decide +kernel
theorem dX0_renew_38 : decode cX0_renew 38 = .ok (.invokevirtual 41, 3) := by decide +kernel
theorem dX0_renew_41 : decode cX0_renew 41 = .ok (.iconst (-1), 1) := by decide +kernel
theorem dX0_renew_42 : decode cX0_renew 42 = .ok (.iconst (-1), 1) := by decide +kernel
theorem dX0_renew_43 : decode cX0_renew 43 = .ok (.invokevirtual 45, 3) := by decide +kernel
theorem dX0_renew_46 : decode cX0_renew 46 = .ok (.pop, 1) := by decide +kernel
theorem dX0_renew_47 : decode cX0_renew 47 = .ok (.iconst 0, 1) := by decide +kernel
theorem dX0_renew_48 : decode cX0_renew 48 = .ok (.istore_n 1, 1) := by decide +kernel
theorem dX0_renew_49 : decode cX0_renew 49 = .ok (.iload_n 1, 1) := by decide +kernel
theorem dX0_renew_50 : decode cX0_renew 50 = .ok (.sipush 800, 3) := by decide +kernel
theorem dX0_renew_53 : decode cX0_renew 53 = .ok (.if_icmp .ge 99, 3) := by decide +kernel
theorem dX0_renew_56 : decode cX0_renew 56 = .ok (.iload_n 1, 1) := by decide +kernel
theorem dX0_renew_57 : decode cX0_renew 57 = .ok (.aload_n 0, 1) := by decide +kernel
theorem dX0_renew_58 : decode cX0_renew 58 = .ok (.getfield 14, 3) := by decide +kernel
theorem dX0_renew_61 : decode cX0_renew 61 = .ok (.getfield 49, 3) := by decide +kernel
theorem dX0_renew_64 : decode cX0_renew 64 = .ok (.getfield 53, 3) := by decide +kernel
theorem dX0_renew_67 : decode cX0_renew 67 = .ok (.if_icmp .ge 85, 3) := by decide +kernel
theorem dX0_renew_70 : decode cX0_renew 70 = .ok (.aload_n 0, 1) := by decide +kernel
theorem dX0_renew_71 : decode cX0_renew 71 = .ok (.getfield 14, 3) := by decide +kernel
theorem dX0_renew_74 : decode cX0_renew 74 = .ok (.getfield 58, 3) := by decide +kernel
theorem dX0_renew_77 : decode cX0_renew 77 = .ok (.ifCond .ne 75, 3) := by decide +kernel
theorem dX0_renew_80 : decode cX0_renew 80 = .ok (.aload_n 0, 1) := by decide +kernel
theorem dX0_renew_81 : decode cX0_renew 81 = .ok (.getfield 14, 3) := by decide +kernel
theorem dX0_renew_84 : decode cX0_renew 84 = .ok (.getfield 49, 3) := by decide +kernel
theorem dX0_renew_87 : decode cX0_renew 87 = .ok (.iload_n 1, 1) := by decide +kernel
theorem dX0_renew_88 : decode cX0_renew 88 = .ok (.invokevirtual 62, 3) := by decide +kernel
theorem dX0_renew_91 : decode cX0_renew 91 = .ok (.lstore_n 2, 1) := by decide +kernel
theorem dX0_renew_92 : decode cX0_renew 92 = .ok (.aload_n 0, 1) := by decide +kernel
theorem dX0_renew_93 : decode cX0_renew 93 = .ok (.getfield 24, 3) := by decide +kernel
theorem dX0_renew_96 : decode cX0_renew 96 = .ok (.iload_n 1, 1) := by decide +kernel
theorem dX0_renew_97 : decode cX0_renew 97 = .ok (.aload_n 0, 1) := by decide +kernel
theorem dX0_renew_98 : decode cX0_renew 98 = .ok (.lload_n 2, 1) := by decide +kernel
theorem dX0_renew_99 : decode cX0_renew 99 = .ok (.invokevirtual 66, 3) := by decide +kernel
theorem dX0_renew_102 : decode cX0_renew 102 = .ok (.iastore, 1) := by decide +kernel
theorem dX0_renew_103 : decode cX0_renew 103 = .ok (.iconst 0, 1) := by decide +kernel
theorem dX0_renew_104 : decode cX0_renew 104 = .ok (.istore 4, 2) := by decide +kernel
theorem dX0_renew_106 : decode cX0_renew 106 = .ok (.iload 4, 2) := by decide +kernel
theorem dX0_renew_108 : decode cX0_renew 108 = .ok (.iconst 3, 1) := by decide +kernel
theorem dX0_renew_109 : decode cX0_renew 109 = .ok (.if_icmp .ge 37, 3) := by decide +kernel
theorem dX0_renew_112 : decode cX0_renew 112 = .ok (.aload_n 0, 1) := by decide +kernel
theorem dX0_renew_113 : decode cX0_renew 113 = .ok (.getfield 20, 3) := by decide +kernel
theorem dX0_renew_116 : decode cX0_renew 116 = .ok (.iload_n 1, 1) := by decide +kernel
theorem dX0_renew_117 : decode cX0_renew 117 = .ok (.iconst 3, 1) := by decide +kernel
theorem dX0_renew_118 : decode cX0_renew 118 = .ok (.imul, 1) := by decide +kernel
theorem dX0_renew_119 : decode cX0_renew 119 = .ok (.iload 4, 2) := by decide +kernel
theorem dX0_renew_121 : decode cX0_renew 121 = .ok (.iadd, 1) := by decide +kernel
theorem dX0_renew_122 : decode cX0_renew 122 = .ok (.aload_n 0, 1) := by decide +kernel
theorem dX0_renew_123 : decode cX0_renew 123 = .ok (.getfield 14, 3) := by decide +kernel
theorem dX0_renew_126 : decode cX0_renew 126 = .ok (.aload_n 0, 1) := by decide +kernel
theorem dX0_renew_127 : decode cX0_renew 127 = .ok (.lload_n 2, 1) := by decide +kernel
theorem dX0_renew_128 : decode cX0_renew 128 = .ok (.iload 4, 2) := by decide +kernel
theorem dX0_renew_130 : decode cX0_renew 130 = .ok (.invokevirtual 70, 3) := by decide +kernel
theorem dX0_renew_133 : decode cX0_renew 133 = .ok (.iload_n 1, 1) := by decide +kernel
theorem dX0_renew_134 : decode cX0_renew 134 = .ok (.iload 4, 2) := by decide +kernel
theorem dX0_renew_136 : decode cX0_renew 136 = .ok (.invokevirtual 45, 3) := by decide +kernel
theorem dX0_renew_139 : decode cX0_renew 139 = .ok (.iastore, 1) := by decide +kernel
theorem dX0_renew_140 : decode cX0_renew 140 = .ok (.iinc 4 1, 3) := by decide +kernel
theorem dX0_renew_143 : decode cX0_renew 143 = .ok (.goto (-37), 3) := by decide +kernel
theorem dX0_renew_146 : decode cX0_renew 146 = .ok (.iinc 1 1, 3) := by decide +kernel
theorem dX0_renew_149 : decode cX0_renew 149 = .ok (.goto (-100), 3) := by decide +kernel
theorem dX0_renew_152 : decode cX0_renew 152 = .ok (.return_, 1) := by decide +kernel
theorem dX0_takes_0 : decode cX0_takes 0 = .ok (.iload_n 1, 1) := by decide +kernel
theorem dX0_takes_1 : decode cX0_takes 1 = .ok (.ifCond .lt 24, 3) := by decide +kernel
theorem dX0_takes_4 : decode cX0_takes 4 = .ok (.iload_n 1, 1) := by decide +kernel
theorem dX0_takes_5 : decode cX0_takes 5 = .ok (.sipush 800, 3) := by decide +kernel
theorem dX0_takes_8 : decode cX0_takes 8 = .ok (.if_icmp .ge 17, 3) := by decide +kernel
theorem dX0_takes_11 : decode cX0_takes 11 = .ok (.aload_n 0, 1) := by decide +kernel
theorem dX0_takes_12 : decode cX0_takes 12 = .ok (.getfield 24, 3) := by decide +kernel
theorem dX0_takes_15 : decode cX0_takes 15 = .ok (.iload_n 1, 1) := by decide +kernel
theorem dX0_takes_16 : decode cX0_takes 16 = .ok (.iaload, 1) := by decide +kernel
theorem dX0_takes_17 : decode cX0_takes 17 = .ok (.iconst 1, 1) := by decide +kernel
theorem dX0_takes_18 : decode cX0_takes 18 = .ok (.if_icmp .ne 7, 3) := by decide +kernel
theorem dX0_takes_21 : decode cX0_takes 21 = .ok (.iconst 1, 1) := by decide +kernel
theorem dX0_takes_22 : decode cX0_takes 22 = .ok (.goto 4, 3) := by decide +kernel
theorem dX0_takes_25 : decode cX0_takes 25 = .ok (.iconst 0, 1) := by decide +kernel
theorem dX0_takes_26 : decode cX0_takes 26 = .ok (.ireturn, 1) := by decide +kernel
theorem dX0_next_0 : decode cX0_next 0 = .ok (.iload_n 1, 1) := by decide +kernel
theorem dX0_next_1 : decode cX0_next 1 = .ok (.ifCond .lt 23, 3) := by decide +kernel
theorem dX0_next_4 : decode cX0_next 4 = .ok (.iload_n 1, 1) := by decide +kernel
theorem dX0_next_5 : decode cX0_next 5 = .ok (.sipush 800, 3) := by decide +kernel
theorem dX0_next_8 : decode cX0_next 8 = .ok (.if_icmp .ge 16, 3) := by decide +kernel
theorem dX0_next_11 : decode cX0_next 11 = .ok (.iload_n 2, 1) := by decide +kernel
theorem dX0_next_12 : decode cX0_next 12 = .ok (.ifCond .lt 12, 3) := by decide +kernel
theorem dX0_next_15 : decode cX0_next 15 = .ok (.iload_n 2, 1) := by decide +kernel
theorem dX0_next_16 : decode cX0_next 16 = .ok (.iconst 3, 1) := by decide +kernel
theorem dX0_next_17 : decode cX0_next 17 = .ok (.if_icmp .ge 7, 3) := by decide +kernel
theorem dX0_next_20 : decode cX0_next 20 = .ok (.iconst 1, 1) := by decide +kernel
theorem dX0_next_21 : decode cX0_next 21 = .ok (.goto 4, 3) := by decide +kernel
theorem dX0_next_24 : decode cX0_next 24 = .ok (.iconst 0, 1) := by decide +kernel
theorem dX0_next_25 : decode cX0_next 25 = .ok (.istore_n 3, 1) := by decide +kernel
theorem dX0_next_26 : decode cX0_next 26 = .ok (.iload_n 3, 1) := by decide +kernel
theorem dX0_next_27 : decode cX0_next 27 = .ok (.ifCond .eq 20, 3) := by decide +kernel
theorem dX0_next_30 : decode cX0_next 30 = .ok (.iconst 0, 1) := by decide +kernel
theorem dX0_next_31 : decode cX0_next 31 = .ok (.aload_n 0, 1) := by decide +kernel
theorem dX0_next_32 : decode cX0_next 32 = .ok (.getfield 20, 3) := by decide +kernel
theorem dX0_next_35 : decode cX0_next 35 = .ok (.iload_n 1, 1) := by decide +kernel
theorem dX0_next_36 : decode cX0_next 36 = .ok (.iconst 3, 1) := by decide +kernel
theorem dX0_next_37 : decode cX0_next 37 = .ok (.imul, 1) := by decide +kernel
theorem dX0_next_38 : decode cX0_next 38 = .ok (.iload_n 2, 1) := by decide +kernel
theorem dX0_next_39 : decode cX0_next 39 = .ok (.iadd, 1) := by decide +kernel
theorem dX0_next_40 : decode cX0_next 40 = .ok (.iaload, 1) := by decide +kernel
theorem dX0_next_41 : decode cX0_next 41 = .ok (.invokestatic 74, 3) := by decide +kernel
theorem dX0_next_44 : decode cX0_next 44 = .ok (.goto 4, 3) := by decide +kernel
theorem dX0_next_47 : decode cX0_next 47 = .ok (.iconst 0, 1) := by decide +kernel
theorem dX0_next_48 : decode cX0_next 48 = .ok (.ireturn, 1) := by decide +kernel
theorem dX0_firstEnding_0 : decode cX0_firstEnding 0 = .ok (.iconst 0, 1) := by decide +kernel
theorem dX0_firstEnding_1 : decode cX0_firstEnding 1 = .ok (.istore_n 2, 1) := by decide +kernel
theorem dX0_firstEnding_2 : decode cX0_firstEnding 2 = .ok (.iload_n 2, 1) := by decide +kernel
theorem dX0_firstEnding_3 : decode cX0_firstEnding 3 = .ok (.sipush 800, 3) := by decide +kernel
theorem dX0_firstEnding_6 : decode cX0_firstEnding 6 = .ok (.if_icmp .ge 35, 3) := by decide +kernel
theorem dX0_firstEnding_9 : decode cX0_firstEnding 9 = .ok (.iload_n 2, 1) := by decide +kernel
theorem dX0_firstEnding_10 : decode cX0_firstEnding 10 = .ok (.aload_n 0, 1) := by decide +kernel
theorem dX0_firstEnding_11 : decode cX0_firstEnding 11 = .ok (.getfield 14, 3) := by decide +kernel
theorem dX0_firstEnding_14 : decode cX0_firstEnding 14 = .ok (.getfield 49, 3) := by decide +kernel
theorem dX0_firstEnding_17 : decode cX0_firstEnding 17 = .ok (.getfield 53, 3) := by decide +kernel
theorem dX0_firstEnding_20 : decode cX0_firstEnding 20 = .ok (.if_icmp .ge 21, 3) := by decide +kernel
theorem dX0_firstEnding_23 : decode cX0_firstEnding 23 = .ok (.aload_n 0, 1) := by decide +kernel
theorem dX0_firstEnding_24 : decode cX0_firstEnding 24 = .ok (.getfield 24, 3) := by decide +kernel
theorem dX0_firstEnding_27 : decode cX0_firstEnding 27 = .ok (.iload_n 2, 1) := by decide +kernel
theorem dX0_firstEnding_28 : decode cX0_firstEnding 28 = .ok (.iaload, 1) := by decide +kernel
theorem dX0_firstEnding_29 : decode cX0_firstEnding 29 = .ok (.iload_n 1, 1) := by decide +kernel
theorem dX0_firstEnding_30 : decode cX0_firstEnding 30 = .ok (.if_icmp .ne 5, 3) := by decide +kernel
theorem dX0_firstEnding_33 : decode cX0_firstEnding 33 = .ok (.iload_n 2, 1) := by decide +kernel
theorem dX0_firstEnding_34 : decode cX0_firstEnding 34 = .ok (.ireturn, 1) := by decide +kernel
theorem dX0_firstEnding_35 : decode cX0_firstEnding 35 = .ok (.iinc 2 1, 3) := by decide +kernel
theorem dX0_firstEnding_38 : decode cX0_firstEnding 38 = .ok (.goto (-36), 3) := by decide +kernel
theorem dX0_firstEnding_41 : decode cX0_firstEnding 41 = .ok (.iconst (-1), 1) := by decide +kernel
theorem dX0_firstEnding_42 : decode cX0_firstEnding 42 = .ok (.ireturn, 1) := by decide +kernel
theorem dX0_first_0 : decode cX0_first 0 = .ok (.lload_n 0, 1) := by decide +kernel
theorem dX0_first_1 : decode cX0_first 1 = .ok (.ldc2_w 80, 3) := by decide +kernel
theorem dX0_first_4 : decode cX0_first 4 = .ok (.land, 1) := by decide +kernel
theorem dX0_first_5 : decode cX0_first 5 = .ok (.l2i, 1) := by decide +kernel
theorem dX0_first_6 : decode cX0_first 6 = .ok (.ireturn, 1) := by decide +kernel
theorem dX0_back_0 : decode cX0_back 0 = .ok (.lload_n 0, 1) := by decide +kernel
theorem dX0_back_1 : decode cX0_back 1 = .ok (.iconst 3, 1) := by decide +kernel
theorem dX0_back_2 : decode cX0_back 2 = .ok (.iload_n 2, 1) := by decide +kernel
theorem dX0_back_3 : decode cX0_back 3 = .ok (.iconst 1, 1) := by decide +kernel
theorem dX0_back_4 : decode cX0_back 4 = .ok (.iadd, 1) := by decide +kernel
theorem dX0_back_5 : decode cX0_back 5 = .ok (.imul, 1) := by decide +kernel
theorem dX0_back_6 : decode cX0_back 6 = .ok (.lshr, 1) := by decide +kernel
theorem dX0_back_7 : decode cX0_back 7 = .ok (.ldc2_w 80, 3) := by decide +kernel
theorem dX0_back_10 : decode cX0_back 10 = .ok (.land, 1) := by decide +kernel
theorem dX0_back_11 : decode cX0_back 11 = .ok (.l2i, 1) := by decide +kernel
theorem dX0_back_12 : decode cX0_back 12 = .ok (.ireturn, 1) := by decide +kernel
set_option maxRecDepth 20000 in
theorem ggX0_empty_X6_moveOf : GoodIn wsX0_empty wsX6_moveOf := goodIn_r _ [6, 7, 8, 22, 23, 24, 25, 26] rfl (by decide +kernel)
set_option maxRecDepth 20000 in
theorem gX0_empty_X6_moveOf : GoodIn wsX0_empty (wsV RX0 85 RX6 yX6_moveOf wsX6_moveOf) := goodIn_app (goodIn_of _ (by decide +kernel)) ggX0_empty_X6_moveOf
set_option maxRecDepth 20000 in
theorem ggX0_empty_X6_target : GoodIn wsX0_empty wsX6_target := goodIn_r _ [11] rfl (by decide +kernel)
set_option maxRecDepth 20000 in
theorem gX0_empty_X6_target : GoodIn wsX0_empty (va_wsS RX0 88 yX6_target wsX6_target) := goodIn_app (goodIn_of _ (by decide +kernel)) ggX0_empty_X6_target
set_option maxRecDepth 20000 in
theorem ggX0_empty_X0_back : GoodIn wsX0_empty wsX0_back := goodIn_r _ [15, 16] rfl (by decide +kernel)
set_option maxRecDepth 20000 in
theorem gX0_empty_X0_back : GoodIn wsX0_empty (va_wsS RX0 92 yX0_back wsX0_back) := goodIn_app (goodIn_of _ (by decide +kernel)) ggX0_empty_X0_back
theorem dX0_empty_0 : decode cX0_empty 0 = .ok (.lconst 0, 1) := by decide +kernel
theorem dX0_empty_1 : decode cX0_empty 1 = .ok (.lstore_n 1, 1) := by decide +kernel
theorem dX0_empty_2 : decode cX0_empty 2 = .ok (.iconst 0, 1) := by decide +kernel
theorem dX0_empty_3 : decode cX0_empty 3 = .ok (.istore_n 3, 1) := by decide +kernel
theorem dX0_empty_4 : decode cX0_empty 4 = .ok (.iload_n 3, 1) := by decide +kernel
theorem dX0_empty_5 : decode cX0_empty 5 = .ok (.aload_n 0, 1) := by decide +kernel
theorem dX0_empty_6 : decode cX0_empty 6 = .ok (.getfield 31, 3) := by decide +kernel
theorem dX0_empty_9 : decode cX0_empty 9 = .ok (.getfield 82, 3) := by decide +kernel
theorem dX0_empty_12 : decode cX0_empty 12 = .ok (.if_icmp .ge 45, 3) := by decide +kernel
theorem dX0_empty_15 : decode cX0_empty 15 = .ok (.aload_n 0, 1) := by decide +kernel
theorem dX0_empty_16 : decode cX0_empty 16 = .ok (.getfield 31, 3) := by decide +kernel
theorem dX0_empty_19 : decode cX0_empty 19 = .ok (.iload_n 3, 1) := by decide +kernel
theorem dX0_empty_20 : decode cX0_empty 20 = .ok (.iconst 3, 1) := by decide +kernel
theorem dX0_empty_21 : decode cX0_empty 21 = .ok (.invokevirtual 85, 3) := by decide +kernel
theorem dX0_empty_24 : decode cX0_empty 24 = .ok (.istore 4, 2) := by decide +kernel
theorem dX0_empty_26 : decode cX0_empty 26 = .ok (.lload_n 1, 1) := by decide +kernel
theorem dX0_empty_27 : decode cX0_empty 27 = .ok (.iload 4, 2) := by decide +kernel
theorem dX0_empty_29 : decode cX0_empty 29 = .ok (.iconst (-1), 1) := by decide +kernel
theorem dX0_empty_30 : decode cX0_empty 30 = .ok (.if_icmp .ne 7, 3) := by decide +kernel
theorem dX0_empty_33 : decode cX0_empty 33 = .ok (.iconst 5, 1) := by decide +kernel
theorem dX0_empty_34 : decode cX0_empty 34 = .ok (.goto 8, 3) := by decide +kernel
theorem dX0_empty_37 : decode cX0_empty 37 = .ok (.iload 4, 2) := by decide +kernel
theorem dX0_empty_39 : decode cX0_empty 39 = .ok (.invokestatic 88, 3) := by decide +kernel
theorem dX0_empty_42 : decode cX0_empty 42 = .ok (.i2l, 1) := by decide +kernel
theorem dX0_empty_43 : decode cX0_empty 43 = .ok (.iconst 3, 1) := by decide +kernel
theorem dX0_empty_44 : decode cX0_empty 44 = .ok (.iload_n 3, 1) := by decide +kernel
theorem dX0_empty_45 : decode cX0_empty 45 = .ok (.iconst 1, 1) := by decide +kernel
theorem dX0_empty_46 : decode cX0_empty 46 = .ok (.iadd, 1) := by decide +kernel
theorem dX0_empty_47 : decode cX0_empty 47 = .ok (.imul, 1) := by decide +kernel
theorem dX0_empty_48 : decode cX0_empty 48 = .ok (.lshl, 1) := by decide +kernel
theorem dX0_empty_49 : decode cX0_empty 49 = .ok (.lor, 1) := by decide +kernel
theorem dX0_empty_50 : decode cX0_empty 50 = .ok (.lstore_n 1, 1) := by decide +kernel
theorem dX0_empty_51 : decode cX0_empty 51 = .ok (.iinc 3 1, 3) := by decide +kernel
theorem dX0_empty_54 : decode cX0_empty 54 = .ok (.goto (-50), 3) := by decide +kernel
theorem dX0_empty_57 : decode cX0_empty 57 = .ok (.lload_n 1, 1) := by decide +kernel
theorem dX0_empty_58 : decode cX0_empty 58 = .ok (.lload_n 1, 1) := by decide +kernel
theorem dX0_empty_59 : decode cX0_empty 59 = .ok (.iconst 0, 1) := by decide +kernel
theorem dX0_empty_60 : decode cX0_empty 60 = .ok (.invokestatic 92, 3) := by decide +kernel
theorem dX0_empty_63 : decode cX0_empty 63 = .ok (.i2l, 1) := by decide +kernel
theorem dX0_empty_64 : decode cX0_empty 64 = .ok (.lor, 1) := by decide +kernel
theorem dX0_empty_65 : decode cX0_empty 65 = .ok (.lreturn, 1) := by decide +kernel
set_option maxRecDepth 20000 in
theorem ggX0_longer_X0_leaving : GoodIn wsX0_longer wsX0_leaving := goodIn_r _ [6, 1, 7, 8, 9, 10, 11, 12, 13, 14, 15, 16, 17, 18, 19, 20, 21, 5, 22, 23, 27, 28, 29, 30, 31, 32, 33, 34, 35, 36] rfl (by decide +kernel)
set_option maxRecDepth 20000 in
theorem gX0_longer_X0_leaving : GoodIn wsX0_longer (wsV RX0 96 RX0 yX0_leaving wsX0_leaving) := goodIn_app (goodIn_of _ (by decide +kernel)) ggX0_longer_X0_leaving
set_option maxRecDepth 20000 in
theorem ggX0_longer_X0_first : GoodIn wsX0_longer wsX0_first := goodIn_r _ [26, 23] rfl (by decide +kernel)
set_option maxRecDepth 20000 in
theorem gX0_longer_X0_first : GoodIn wsX0_longer (va_wsS RX0 99 yX0_first wsX0_first) := goodIn_app (goodIn_of _ (by decide +kernel)) ggX0_longer_X0_first
set_option maxRecDepth 20000 in
theorem ggX0_longer_X0_back : GoodIn wsX0_longer wsX0_back := goodIn_r _ [22, 23] rfl (by decide +kernel)
set_option maxRecDepth 20000 in
theorem gX0_longer_X0_back : GoodIn wsX0_longer (va_wsS RX0 92 yX0_back wsX0_back) := goodIn_app (goodIn_of _ (by decide +kernel)) ggX0_longer_X0_back
theorem dX0_longer_0 : decode cX0_longer 0 = .ok (.lconst 0, 1) := by decide +kernel
theorem dX0_longer_1 : decode cX0_longer 1 = .ok (.lstore 4, 2) := by decide +kernel
theorem dX0_longer_3 : decode cX0_longer 3 = .ok (.iconst 0, 1) := by decide +kernel
theorem dX0_longer_4 : decode cX0_longer 4 = .ok (.istore 6, 2) := by decide +kernel
theorem dX0_longer_6 : decode cX0_longer 6 = .ok (.iload 6, 2) := by decide +kernel
theorem dX0_longer_8 : decode cX0_longer 8 = .ok (.aload_n 0, 1) := by decide +kernel
theorem dX0_longer_9 : decode cX0_longer 9 = .ok (.getfield 31, 3) := by decide +kernel
theorem dX0_longer_12 : decode cX0_longer 12 = .ok (.getfield 82, 3) := by decide +kernel
theorem dX0_longer_15 : decode cX0_longer 15 = .ok (.if_icmp .ge 30, 3) := by decide +kernel
theorem dX0_longer_18 : decode cX0_longer 18 = .ok (.lload 4, 2) := by decide +kernel
theorem dX0_longer_20 : decode cX0_longer 20 = .ok (.aload_n 0, 1) := by decide +kernel
theorem dX0_longer_21 : decode cX0_longer 21 = .ok (.lload_n 1, 1) := by decide +kernel
theorem dX0_longer_22 : decode cX0_longer 22 = .ok (.iload_n 3, 1) := by decide +kernel
theorem dX0_longer_23 : decode cX0_longer 23 = .ok (.iload 6, 2) := by decide +kernel
theorem dX0_longer_25 : decode cX0_longer 25 = .ok (.invokevirtual 96, 3) := by decide +kernel
theorem dX0_longer_28 : decode cX0_longer 28 = .ok (.i2l, 1) := by decide +kernel
theorem dX0_longer_29 : decode cX0_longer 29 = .ok (.iconst 3, 1) := by decide +kernel
theorem dX0_longer_30 : decode cX0_longer 30 = .ok (.iload 6, 2) := by decide +kernel
theorem dX0_longer_32 : decode cX0_longer 32 = .ok (.iconst 1, 1) := by decide +kernel
theorem dX0_longer_33 : decode cX0_longer 33 = .ok (.iadd, 1) := by decide +kernel
theorem dX0_longer_34 : decode cX0_longer 34 = .ok (.imul, 1) := by decide +kernel
theorem dX0_longer_35 : decode cX0_longer 35 = .ok (.lshl, 1) := by decide +kernel
theorem dX0_longer_36 : decode cX0_longer 36 = .ok (.lor, 1) := by decide +kernel
theorem dX0_longer_37 : decode cX0_longer 37 = .ok (.lstore 4, 2) := by decide +kernel
theorem dX0_longer_39 : decode cX0_longer 39 = .ok (.iinc 6 1, 3) := by decide +kernel
theorem dX0_longer_42 : decode cX0_longer 42 = .ok (.goto (-36), 3) := by decide +kernel
theorem dX0_longer_45 : decode cX0_longer 45 = .ok (.lload_n 1, 1) := by decide +kernel
theorem dX0_longer_46 : decode cX0_longer 46 = .ok (.invokestatic 99, 3) := by decide +kernel
theorem dX0_longer_49 : decode cX0_longer 49 = .ok (.istore 6, 2) := by decide +kernel
theorem dX0_longer_51 : decode cX0_longer 51 = .ok (.lload 4, 2) := by decide +kernel
theorem dX0_longer_53 : decode cX0_longer 53 = .ok (.iload 6, 2) := by decide +kernel
theorem dX0_longer_55 : decode cX0_longer 55 = .ok (.iconst 5, 1) := by decide +kernel
theorem dX0_longer_56 : decode cX0_longer 56 = .ok (.if_icmp .ge 13, 3) := by decide +kernel
theorem dX0_longer_59 : decode cX0_longer 59 = .ok (.lload 4, 2) := by decide +kernel
theorem dX0_longer_61 : decode cX0_longer 61 = .ok (.iload 6, 2) := by decide +kernel
theorem dX0_longer_63 : decode cX0_longer 63 = .ok (.invokestatic 92, 3) := by decide +kernel
theorem dX0_longer_66 : decode cX0_longer 66 = .ok (.goto 5, 3) := by decide +kernel
theorem dX0_longer_69 : decode cX0_longer 69 = .ok (.iload 6, 2) := by decide +kernel
theorem dX0_longer_71 : decode cX0_longer 71 = .ok (.i2l, 1) := by decide +kernel
theorem dX0_longer_72 : decode cX0_longer 72 = .ok (.lor, 1) := by decide +kernel
theorem dX0_longer_73 : decode cX0_longer 73 = .ok (.lreturn, 1) := by decide +kernel
set_option maxRecDepth 20000 in
theorem ggX0_leaving_X6_moveOf : GoodIn wsX0_leaving wsX6_moveOf := goodIn_r _ [6, 7, 8, 25, 26, 27, 28, 29] rfl (by decide +kernel)
set_option maxRecDepth 20000 in
theorem gX0_leaving_X6_moveOf : GoodIn wsX0_leaving (wsV RX0 85 RX6 yX6_moveOf wsX6_moveOf) := goodIn_app (goodIn_of _ (by decide +kernel)) ggX0_leaving_X6_moveOf
set_option maxRecDepth 20000 in
theorem ggX0_leaving_X6_goesRight : GoodIn wsX0_leaving wsX6_goesRight := goodIn_r _ [11] rfl (by decide +kernel)
set_option maxRecDepth 20000 in
theorem gX0_leaving_X6_goesRight : GoodIn wsX0_leaving (va_wsS RX0 102 yX6_goesRight wsX6_goesRight) := goodIn_app (goodIn_of _ (by decide +kernel)) ggX0_leaving_X6_goesRight
set_option maxRecDepth 20000 in
theorem ggX0_leaving_X6_target : GoodIn wsX0_leaving wsX6_target := goodIn_r _ [14] rfl (by decide +kernel)
set_option maxRecDepth 20000 in
theorem gX0_leaving_X6_target : GoodIn wsX0_leaving (va_wsS RX0 88 yX6_target wsX6_target) := goodIn_app (goodIn_of _ (by decide +kernel)) ggX0_leaving_X6_target
set_option maxRecDepth 20000 in
theorem ggX0_leaving_X0_back : GoodIn wsX0_leaving wsX0_back := goodIn_r _ [18, 19] rfl (by decide +kernel)
set_option maxRecDepth 20000 in
theorem gX0_leaving_X0_back : GoodIn wsX0_leaving (va_wsS RX0 92 yX0_back wsX0_back) := goodIn_app (goodIn_of _ (by decide +kernel)) ggX0_leaving_X0_back
theorem dX0_leaving_0 : decode cX0_leaving 0 = .ok (.iload 4, 2) := by decide +kernel
theorem dX0_leaving_2 : decode cX0_leaving 2 = .ok (.istore 5, 2) := by decide +kernel
theorem dX0_leaving_4 : decode cX0_leaving 4 = .ok (.iconst 0, 1) := by decide +kernel
theorem dX0_leaving_5 : decode cX0_leaving 5 = .ok (.istore 6, 2) := by decide +kernel
theorem dX0_leaving_7 : decode cX0_leaving 7 = .ok (.iload 6, 2) := by decide +kernel
theorem dX0_leaving_9 : decode cX0_leaving 9 = .ok (.iconst 5, 1) := by decide +kernel
theorem dX0_leaving_10 : decode cX0_leaving 10 = .ok (.if_icmp .gt 63, 3) := by decide +kernel
theorem dX0_leaving_13 : decode cX0_leaving 13 = .ok (.aload_n 0, 1) := by decide +kernel
theorem dX0_leaving_14 : decode cX0_leaving 14 = .ok (.getfield 31, 3) := by decide +kernel
theorem dX0_leaving_17 : decode cX0_leaving 17 = .ok (.iload 5, 2) := by decide +kernel
theorem dX0_leaving_19 : decode cX0_leaving 19 = .ok (.iload_n 3, 1) := by decide +kernel
theorem dX0_leaving_20 : decode cX0_leaving 20 = .ok (.invokevirtual 85, 3) := by decide +kernel
theorem dX0_leaving_23 : decode cX0_leaving 23 = .ok (.istore 7, 2) := by decide +kernel
theorem dX0_leaving_25 : decode cX0_leaving 25 = .ok (.iload 7, 2) := by decide +kernel
theorem dX0_leaving_27 : decode cX0_leaving 27 = .ok (.iconst (-1), 1) := by decide +kernel
theorem dX0_leaving_28 : decode cX0_leaving 28 = .ok (.if_icmp .ne 5, 3) := by decide +kernel
theorem dX0_leaving_31 : decode cX0_leaving 31 = .ok (.iconst 5, 1) := by decide +kernel
theorem dX0_leaving_32 : decode cX0_leaving 32 = .ok (.ireturn, 1) := by decide +kernel
theorem dX0_leaving_33 : decode cX0_leaving 33 = .ok (.iload 7, 2) := by decide +kernel
theorem dX0_leaving_35 : decode cX0_leaving 35 = .ok (.invokestatic 102, 3) := by decide +kernel
theorem dX0_leaving_38 : decode cX0_leaving 38 = .ok (.ifCond .eq 9, 3) := by decide +kernel
theorem dX0_leaving_41 : decode cX0_leaving 41 = .ok (.iload 7, 2) := by decide +kernel
theorem dX0_leaving_43 : decode cX0_leaving 43 = .ok (.invokestatic 88, 3) := by decide +kernel
theorem dX0_leaving_46 : decode cX0_leaving 46 = .ok (.ireturn, 1) := by decide +kernel
theorem dX0_leaving_47 : decode cX0_leaving 47 = .ok (.lload_n 1, 1) := by decide +kernel
theorem dX0_leaving_48 : decode cX0_leaving 48 = .ok (.iload 7, 2) := by decide +kernel
theorem dX0_leaving_50 : decode cX0_leaving 50 = .ok (.invokestatic 88, 3) := by decide +kernel
theorem dX0_leaving_53 : decode cX0_leaving 53 = .ok (.invokestatic 92, 3) := by decide +kernel
theorem dX0_leaving_56 : decode cX0_leaving 56 = .ok (.istore 5, 2) := by decide +kernel
theorem dX0_leaving_58 : decode cX0_leaving 58 = .ok (.iload 5, 2) := by decide +kernel
theorem dX0_leaving_60 : decode cX0_leaving 60 = .ok (.iconst 5, 1) := by decide +kernel
theorem dX0_leaving_61 : decode cX0_leaving 61 = .ok (.if_icmp .lt 6, 3) := by decide +kernel
theorem dX0_leaving_64 : decode cX0_leaving 64 = .ok (.iload 5, 2) := by decide +kernel
theorem dX0_leaving_66 : decode cX0_leaving 66 = .ok (.ireturn, 1) := by decide +kernel
theorem dX0_leaving_67 : decode cX0_leaving 67 = .ok (.iinc 6 1, 3) := by decide +kernel
theorem dX0_leaving_70 : decode cX0_leaving 70 = .ok (.goto (-63), 3) := by decide +kernel
theorem dX0_leaving_73 : decode cX0_leaving 73 = .ok (.bipush 6, 2) := by decide +kernel
theorem dX0_leaving_75 : decode cX0_leaving 75 = .ok (.ireturn, 1) := by decide +kernel
set_option maxRecDepth 20000 in
theorem ggX0_endOf_X0_first : GoodIn wsX0_endOf wsX0_first := goodIn_r _ [5, 6] rfl (by decide +kernel)
set_option maxRecDepth 20000 in
theorem gX0_endOf_X0_first : GoodIn wsX0_endOf (va_wsS RX0 99 yX0_first wsX0_first) := goodIn_app (goodIn_of _ (by decide +kernel)) ggX0_endOf_X0_first
set_option maxRecDepth 20000 in
theorem ggX0_endOf_X6_moveOf : GoodIn wsX0_endOf wsX6_moveOf := goodIn_r _ [11, 12, 13, 34, 35, 36, 37, 38] rfl (by decide +kernel)
set_option maxRecDepth 20000 in
theorem gX0_endOf_X6_moveOf : GoodIn wsX0_endOf (wsV RX0 85 RX6 yX6_moveOf wsX6_moveOf) := goodIn_app (goodIn_of _ (by decide +kernel)) ggX0_endOf_X6_moveOf
set_option maxRecDepth 20000 in
theorem ggX0_endOf_X6_takesIn : GoodIn wsX0_endOf wsX6_takesIn := goodIn_r _ [17, 18, 19, 20, 21, 10, 22, 12, 34, 35, 36, 37, 38] rfl (by decide +kernel)
set_option maxRecDepth 20000 in
theorem gX0_endOf_X6_takesIn : GoodIn wsX0_endOf (wsV RX0 106 RX6 yX6_takesIn wsX6_takesIn) := goodIn_app (goodIn_of _ (by decide +kernel)) ggX0_endOf_X6_takesIn
set_option maxRecDepth 20000 in
theorem ggX0_endOf_X6_target : GoodIn wsX0_endOf wsX6_target := goodIn_r _ [25] rfl (by decide +kernel)
set_option maxRecDepth 20000 in
theorem gX0_endOf_X6_target : GoodIn wsX0_endOf (va_wsS RX0 88 yX6_target wsX6_target) := goodIn_app (goodIn_of _ (by decide +kernel)) ggX0_endOf_X6_target
set_option maxRecDepth 20000 in
theorem ggX0_endOf_X0_back : GoodIn wsX0_endOf wsX0_back := goodIn_r _ [28, 6] rfl (by decide +kernel)
set_option maxRecDepth 20000 in
theorem gX0_endOf_X0_back : GoodIn wsX0_endOf (va_wsS RX0 92 yX0_back wsX0_back) := goodIn_app (goodIn_of _ (by decide +kernel)) ggX0_endOf_X0_back
theorem dX0_endOf_0 : decode cX0_endOf 0 = .ok (.lload_n 1, 1) := by decide +kernel
theorem dX0_endOf_1 : decode cX0_endOf 1 = .ok (.invokestatic 99, 3) := by decide +kernel
theorem dX0_endOf_4 : decode cX0_endOf 4 = .ok (.istore_n 3, 1) := by decide +kernel
theorem dX0_endOf_5 : decode cX0_endOf 5 = .ok (.iconst 0, 1) := by decide +kernel
theorem dX0_endOf_6 : decode cX0_endOf 6 = .ok (.istore 4, 2) := by decide +kernel
theorem dX0_endOf_8 : decode cX0_endOf 8 = .ok (.iload 4, 2) := by decide +kernel
theorem dX0_endOf_10 : decode cX0_endOf 10 = .ok (.iconst 5, 1) := by decide +kernel
theorem dX0_endOf_11 : decode cX0_endOf 11 = .ok (.if_icmp .gt 58, 3) := by decide +kernel
theorem dX0_endOf_14 : decode cX0_endOf 14 = .ok (.iload_n 3, 1) := by decide +kernel
theorem dX0_endOf_15 : decode cX0_endOf 15 = .ok (.iconst 5, 1) := by decide +kernel
theorem dX0_endOf_16 : decode cX0_endOf 16 = .ok (.if_icmp .ge 53, 3) := by decide +kernel
theorem dX0_endOf_19 : decode cX0_endOf 19 = .ok (.aload_n 0, 1) := by decide +kernel
theorem dX0_endOf_20 : decode cX0_endOf 20 = .ok (.getfield 31, 3) := by decide +kernel
theorem dX0_endOf_23 : decode cX0_endOf 23 = .ok (.iload_n 3, 1) := by decide +kernel
theorem dX0_endOf_24 : decode cX0_endOf 24 = .ok (.iconst 4, 1) := by decide +kernel
theorem dX0_endOf_25 : decode cX0_endOf 25 = .ok (.invokevirtual 85, 3) := by decide +kernel
theorem dX0_endOf_28 : decode cX0_endOf 28 = .ok (.istore 5, 2) := by decide +kernel
theorem dX0_endOf_30 : decode cX0_endOf 30 = .ok (.iload 5, 2) := by decide +kernel
theorem dX0_endOf_32 : decode cX0_endOf 32 = .ok (.iconst (-1), 1) := by decide +kernel
theorem dX0_endOf_33 : decode cX0_endOf 33 = .ok (.if_icmp .ne 20, 3) := by decide +kernel
theorem dX0_endOf_36 : decode cX0_endOf 36 = .ok (.aload_n 0, 1) := by decide +kernel
theorem dX0_endOf_37 : decode cX0_endOf 37 = .ok (.getfield 31, 3) := by decide +kernel
theorem dX0_endOf_40 : decode cX0_endOf 40 = .ok (.iload_n 3, 1) := by decide +kernel
theorem dX0_endOf_41 : decode cX0_endOf 41 = .ok (.invokevirtual 106, 3) := by decide +kernel
theorem dX0_endOf_44 : decode cX0_endOf 44 = .ok (.ifCond .eq 7, 3) := by decide +kernel
theorem dX0_endOf_47 : decode cX0_endOf 47 = .ok (.iconst 1, 1) := by decide +kernel
theorem dX0_endOf_48 : decode cX0_endOf 48 = .ok (.goto 4, 3) := by decide +kernel
theorem dX0_endOf_51 : decode cX0_endOf 51 = .ok (.iconst 0, 1) := by decide +kernel
theorem dX0_endOf_52 : decode cX0_endOf 52 = .ok (.ireturn, 1) := by decide +kernel
theorem dX0_endOf_53 : decode cX0_endOf 53 = .ok (.lload_n 1, 1) := by decide +kernel
theorem dX0_endOf_54 : decode cX0_endOf 54 = .ok (.iload 5, 2) := by decide +kernel
theorem dX0_endOf_56 : decode cX0_endOf 56 = .ok (.invokestatic 88, 3) := by decide +kernel
theorem dX0_endOf_59 : decode cX0_endOf 59 = .ok (.invokestatic 92, 3) := by decide +kernel
theorem dX0_endOf_62 : decode cX0_endOf 62 = .ok (.istore_n 3, 1) := by decide +kernel
theorem dX0_endOf_63 : decode cX0_endOf 63 = .ok (.iinc 4 1, 3) := by decide +kernel
theorem dX0_endOf_66 : decode cX0_endOf 66 = .ok (.goto (-58), 3) := by decide +kernel
theorem dX0_endOf_69 : decode cX0_endOf 69 = .ok (.iload_n 3, 1) := by decide +kernel
theorem dX0_endOf_70 : decode cX0_endOf 70 = .ok (.iconst 5, 1) := by decide +kernel
theorem dX0_endOf_71 : decode cX0_endOf 71 = .ok (.if_icmp .ne 7, 3) := by decide +kernel
theorem dX0_endOf_74 : decode cX0_endOf 74 = .ok (.iconst 0, 1) := by decide +kernel
theorem dX0_endOf_75 : decode cX0_endOf 75 = .ok (.goto 4, 3) := by decide +kernel
theorem dX0_endOf_78 : decode cX0_endOf 78 = .ok (.iconst 2, 1) := by decide +kernel
theorem dX0_endOf_79 : decode cX0_endOf 79 = .ok (.ireturn, 1) := by decide +kernel
set_option maxRecDepth 20000 in
theorem ggX1_init_X2_init : GoodIn wsX1_init wsX2_init := goodIn_r _ [19, 20, 2, 3, 21, 22, 23, 7, 24, 25, 6, 8, 26, 27, 13, 28, 34, 35, 36] rfl (by decide +kernel)
set_option maxRecDepth 20000 in
theorem gX1_init_X2_init : GoodIn wsX1_init (wsX2_init) := ggX1_init_X2_init
theorem dX1_init_0 : decode cX1_init 0 = .ok (.aload_n 0, 1) := by decide +kernel
theorem dX1_init_1 : decode cX1_init 1 = .ok (.invokespecial 3, 3) := by decide +kernel
theorem dX1_init_4 : decode cX1_init 4 = .ok (.aload_n 0, 1) := by decide +kernel
theorem dX1_init_5 : decode cX1_init 5 = .ok (.iconst 0, 1) := by decide +kernel
theorem dX1_init_6 : decode cX1_init 6 = .ok (.putfield 9, 3) := by decide +kernel
theorem dX1_init_9 : decode cX1_init 9 = .ok (.iconst 0, 1) := by decide +kernel
theorem dX1_init_10 : decode cX1_init 10 = .ok (.iload_n 1, 1) := by decide +kernel
theorem dX1_init_11 : decode cX1_init 11 = .ok (.invokestatic 15, 3) := by decide +kernel
theorem dX1_init_14 : decode cX1_init 14 = .ok (.istore_n 2, 1) := by decide +kernel
theorem dX1_init_15 : decode cX1_init 15 = .ok (.aload_n 0, 1) := by decide +kernel
theorem dX1_init_16 : decode cX1_init 16 = .ok (.new 21, 3) := by decide +kernel
theorem dX1_init_19 : decode cX1_init 19 = .ok (.dup, 1) := by decide +kernel
theorem dX1_init_20 : decode cX1_init 20 = .ok (.iload_n 2, 1) := by decide +kernel
theorem dX1_init_21 : decode cX1_init 21 = .ok (.invokespecial 23, 3) := by decide +kernel
theorem dX1_init_24 : decode cX1_init 24 = .ok (.putfield 26, 3) := by decide +kernel
theorem dX1_init_27 : decode cX1_init 27 = .ok (.aload_n 0, 1) := by decide +kernel
theorem dX1_init_28 : decode cX1_init 28 = .ok (.iload_n 2, 1) := by decide +kernel
theorem dX1_init_29 : decode cX1_init 29 = .ok (.newarray .int, 2) := by decide +kernel
theorem dX1_init_31 : decode cX1_init 31 = .ok (.putfield 30, 3) := by decide +kernel
theorem dX1_init_34 : decode cX1_init 34 = .ok (.aload_n 0, 1) := by decide +kernel
theorem dX1_init_35 : decode cX1_init 35 = .ok (.iload_n 2, 1) := by decide +kernel
theorem dX1_init_36 : decode cX1_init 36 = .ok (.newarray .int, 2) := by decide +kernel
theorem dX1_init_38 : decode cX1_init 38 = .ok (.putfield 34, 3) := by decide +kernel
theorem dX1_init_41 : decode cX1_init 41 = .ok (.aload_n 0, 1) := by decide +kernel
theorem dX1_init_42 : decode cX1_init 42 = .ok (.iload_n 2, 1) := by decide +kernel
theorem dX1_init_43 : decode cX1_init 43 = .ok (.newarray .int, 2) := by decide +kernel
theorem dX1_init_45 : decode cX1_init 45 = .ok (.putfield 37, 3) := by decide +kernel
theorem dX1_init_48 : decode cX1_init 48 = .ok (.return_, 1) := by decide +kernel
set_option maxRecDepth 20000 in
theorem ggX1_clear_X2_clear : GoodIn wsX1_clear wsX2_clear := goodIn_r _ [7, 8, 9, 10, 11, 12, 13, 19, 20, 21] rfl (by decide +kernel)
set_option maxRecDepth 20000 in
theorem gX1_clear_X2_clear : GoodIn wsX1_clear (wsV RX1 40 RX2 yX2_clear wsX2_clear) := goodIn_app (goodIn_of _ (by decide +kernel)) ggX1_clear_X2_clear
theorem dX1_clear_0 : decode cX1_clear 0 = .ok (.aload_n 0, 1) := by decide +kernel
theorem dX1_clear_1 : decode cX1_clear 1 = .ok (.getfield 26, 3) := by decide +kernel
theorem dX1_clear_4 : decode cX1_clear 4 = .ok (.invokevirtual 40, 3) := by decide +kernel
theorem dX1_clear_7 : decode cX1_clear 7 = .ok (.aload_n 0, 1) := by decide +kernel
theorem dX1_clear_8 : decode cX1_clear 8 = .ok (.iconst 0, 1) := by decide +kernel
theorem dX1_clear_9 : decode cX1_clear 9 = .ok (.putfield 9, 3) := by decide +kernel
theorem dX1_clear_12 : decode cX1_clear 12 = .ok (.return_, 1) := by decide +kernel
set_option maxRecDepth 20000 in
theorem ggX1_reach_X2_indexWith : GoodIn wsX1_reach wsX2_indexWith := goodIn_r _ [10, 11, 12, 13, 14, 15, 16, 9, 17, 18, 19, 20, 21, 22, 28, 29, 30] rfl (by decide +kernel)
set_option maxRecDepth 20000 in
theorem gX1_reach_X2_indexWith : GoodIn wsX1_reach (wsV RX1 47 RX2 yX2_indexWith wsX2_indexWith) := goodIn_app (goodIn_of _ (by decide +kernel)) ggX1_reach_X2_indexWith
theorem dX1_reach_0 : decode cX1_reach 0 = .ok (.aload_n 0, 1) := by decide +kernel
theorem dX1_reach_1 : decode cX1_reach 1 = .ok (.getfield 26, 3) := by decide +kernel
theorem dX1_reach_4 : decode cX1_reach 4 = .ok (.getfield 43, 3) := by decide +kernel
theorem dX1_reach_7 : decode cX1_reach 7 = .ok (.istore 5, 2) := by decide +kernel
theorem dX1_reach_9 : decode cX1_reach 9 = .ok (.aload_n 0, 1) := by decide +kernel
theorem dX1_reach_10 : decode cX1_reach 10 = .ok (.getfield 26, 3) := by decide +kernel
theorem dX1_reach_13 : decode cX1_reach 13 = .ok (.lload_n 1, 1) := by decide +kernel
theorem dX1_reach_14 : decode cX1_reach 14 = .ok (.invokevirtual 47, 3) := by decide +kernel
theorem dX1_reach_17 : decode cX1_reach 17 = .ok (.istore 6, 2) := by decide +kernel
theorem dX1_reach_19 : decode cX1_reach 19 = .ok (.iload 6, 2) := by decide +kernel
theorem dX1_reach_21 : decode cX1_reach 21 = .ok (.iconst (-1), 1) := by decide +kernel
theorem dX1_reach_22 : decode cX1_reach 22 = .ok (.if_icmp .ne 11, 3) := by decide +kernel
theorem dX1_reach_25 : decode cX1_reach 25 = .ok (.aload_n 0, 1) := by decide +kernel
theorem dX1_reach_26 : decode cX1_reach 26 = .ok (.iconst 1, 1) := by decide +kernel
theorem dX1_reach_27 : decode cX1_reach 27 = .ok (.putfield 9, 3) := by decide +kernel
theorem dX1_reach_30 : decode cX1_reach 30 = .ok (.goto 76, 3) := by decide +kernel
theorem dX1_reach_33 : decode cX1_reach 33 = .ok (.iload 6, 2) := by decide +kernel
theorem dX1_reach_35 : decode cX1_reach 35 = .ok (.iload 5, 2) := by decide +kernel
theorem dX1_reach_37 : decode cX1_reach 37 = .ok (.if_icmp .ne 69, 3) := by decide +kernel
theorem dX1_reach_40 : decode cX1_reach 40 = .ok (.iload 6, 2) := by decide +kernel
theorem dX1_reach_42 : decode cX1_reach 42 = .ok (.aload_n 0, 1) := by decide +kernel
theorem dX1_reach_43 : decode cX1_reach 43 = .ok (.getfield 30, 3) := by decide +kernel
theorem dX1_reach_46 : decode cX1_reach 46 = .ok (.arraylength, 1) := by decide +kernel
theorem dX1_reach_47 : decode cX1_reach 47 = .ok (.if_icmp .ge 59, 3) := by decide +kernel
theorem dX1_reach_50 : decode cX1_reach 50 = .ok (.aload_n 0, 1) := by decide +kernel
theorem dX1_reach_51 : decode cX1_reach 51 = .ok (.getfield 30, 3) := by decide +kernel
theorem dX1_reach_54 : decode cX1_reach 54 = .ok (.iload 6, 2) := by decide +kernel
theorem dX1_reach_56 : decode cX1_reach 56 = .ok (.iload_n 3, 1) := by decide +kernel
theorem dX1_reach_57 : decode cX1_reach 57 = .ok (.iastore, 1) := by decide +kernel
theorem dX1_reach_58 : decode cX1_reach 58 = .ok (.aload_n 0, 1) := by decide +kernel
theorem dX1_reach_59 : decode cX1_reach 59 = .ok (.getfield 34, 3) := by decide +kernel
theorem dX1_reach_62 : decode cX1_reach 62 = .ok (.iload 6, 2) := by decide +kernel
theorem dX1_reach_64 : decode cX1_reach 64 = .ok (.iload 4, 2) := by decide +kernel
theorem dX1_reach_66 : decode cX1_reach 66 = .ok (.iastore, 1) := by decide +kernel
theorem dX1_reach_67 : decode cX1_reach 67 = .ok (.aload_n 0, 1) := by decide +kernel
theorem dX1_reach_68 : decode cX1_reach 68 = .ok (.getfield 37, 3) := by decide +kernel
theorem dX1_reach_71 : decode cX1_reach 71 = .ok (.iload 6, 2) := by decide +kernel
theorem dX1_reach_73 : decode cX1_reach 73 = .ok (.iload_n 3, 1) := by decide +kernel
theorem dX1_reach_74 : decode cX1_reach 74 = .ok (.ifCond .lt 18, 3) := by decide +kernel
theorem dX1_reach_77 : decode cX1_reach 77 = .ok (.iload_n 3, 1) := by decide +kernel
theorem dX1_reach_78 : decode cX1_reach 78 = .ok (.iload 6, 2) := by decide +kernel
theorem dX1_reach_80 : decode cX1_reach 80 = .ok (.if_icmp .ge 12, 3) := by decide +kernel
theorem dX1_reach_83 : decode cX1_reach 83 = .ok (.aload_n 0, 1) := by decide +kernel
theorem dX1_reach_84 : decode cX1_reach 84 = .ok (.getfield 37, 3) := by decide +kernel
theorem dX1_reach_87 : decode cX1_reach 87 = .ok (.iload_n 3, 1) := by decide +kernel
theorem dX1_reach_88 : decode cX1_reach 88 = .ok (.iaload, 1) := by decide +kernel
theorem dX1_reach_89 : decode cX1_reach 89 = .ok (.goto 4, 3) := by decide +kernel
theorem dX1_reach_92 : decode cX1_reach 92 = .ok (.iconst 0, 1) := by decide +kernel
theorem dX1_reach_93 : decode cX1_reach 93 = .ok (.iload 4, 2) := by decide +kernel
theorem dX1_reach_95 : decode cX1_reach 95 = .ok (.iconst (-1), 1) := by decide +kernel
theorem dX1_reach_96 : decode cX1_reach 96 = .ok (.if_icmp .ne 7, 3) := by decide +kernel
theorem dX1_reach_99 : decode cX1_reach 99 = .ok (.iconst 0, 1) := by decide +kernel
theorem dX1_reach_100 : decode cX1_reach 100 = .ok (.goto 4, 3) := by decide +kernel
theorem dX1_reach_103 : decode cX1_reach 103 = .ok (.iconst 1, 1) := by decide +kernel
theorem dX1_reach_104 : decode cX1_reach 104 = .ok (.iadd, 1) := by decide +kernel
theorem dX1_reach_105 : decode cX1_reach 105 = .ok (.iastore, 1) := by decide +kernel
theorem dX1_reach_106 : decode cX1_reach 106 = .ok (.iload 6, 2) := by decide +kernel
theorem dX1_reach_108 : decode cX1_reach 108 = .ok (.ireturn, 1) := by decide +kernel
theorem dX1_rowTo_0 : decode cX1_rowTo 0 = .ok (.iload_n 1, 1) := by decide +kernel
theorem dX1_rowTo_1 : decode cX1_rowTo 1 = .ok (.ifCond .lt 33, 3) := by decide +kernel
theorem dX1_rowTo_4 : decode cX1_rowTo 4 = .ok (.iload_n 1, 1) := by decide +kernel
theorem dX1_rowTo_5 : decode cX1_rowTo 5 = .ok (.aload_n 0, 1) := by decide +kernel
theorem dX1_rowTo_6 : decode cX1_rowTo 6 = .ok (.getfield 26, 3) := by decide +kernel
theorem dX1_rowTo_9 : decode cX1_rowTo 9 = .ok (.getfield 43, 3) := by decide +kernel
theorem dX1_rowTo_12 : decode cX1_rowTo 12 = .ok (.if_icmp .ge 22, 3) := by decide +kernel
theorem dX1_rowTo_15 : decode cX1_rowTo 15 = .ok (.iload_n 1, 1) := by decide +kernel
theorem dX1_rowTo_16 : decode cX1_rowTo 16 = .ok (.aload_n 0, 1) := by decide +kernel
theorem dX1_rowTo_17 : decode cX1_rowTo 17 = .ok (.getfield 37, 3) := by decide +kernel
theorem dX1_rowTo_20 : decode cX1_rowTo 20 = .ok (.arraylength, 1) := by decide +kernel
theorem dX1_rowTo_21 : decode cX1_rowTo 21 = .ok (.if_icmp .ge 13, 3) := by decide +kernel
theorem dX1_rowTo_24 : decode cX1_rowTo 24 = .ok (.iload_n 2, 1) := by decide +kernel
theorem dX1_rowTo_25 : decode cX1_rowTo 25 = .ok (.aload_n 0, 1) := by decide +kernel
theorem dX1_rowTo_26 : decode cX1_rowTo 26 = .ok (.getfield 37, 3) := by decide +kernel
theorem dX1_rowTo_29 : decode cX1_rowTo 29 = .ok (.iload_n 1, 1) := by decide +kernel
theorem dX1_rowTo_30 : decode cX1_rowTo 30 = .ok (.iaload, 1) := by decide +kernel
theorem dX1_rowTo_31 : decode cX1_rowTo 31 = .ok (.if_icmp .lt 5, 3) := by decide +kernel
theorem dX1_rowTo_34 : decode cX1_rowTo 34 = .ok (.iconst (-1), 1) := by decide +kernel
theorem dX1_rowTo_35 : decode cX1_rowTo 35 = .ok (.ireturn, 1) := by decide +kernel
theorem dX1_rowTo_36 : decode cX1_rowTo 36 = .ok (.iload_n 2, 1) := by decide +kernel
theorem dX1_rowTo_37 : decode cX1_rowTo 37 = .ok (.ifCond .ge 10, 3) := by decide +kernel
theorem dX1_rowTo_40 : decode cX1_rowTo 40 = .ok (.aload_n 0, 1) := by decide +kernel
theorem dX1_rowTo_41 : decode cX1_rowTo 41 = .ok (.getfield 37, 3) := by decide +kernel
theorem dX1_rowTo_44 : decode cX1_rowTo 44 = .ok (.iload_n 1, 1) := by decide +kernel
theorem dX1_rowTo_45 : decode cX1_rowTo 45 = .ok (.iaload, 1) := by decide +kernel
theorem dX1_rowTo_46 : decode cX1_rowTo 46 = .ok (.ireturn, 1) := by decide +kernel
theorem dX1_rowTo_47 : decode cX1_rowTo 47 = .ok (.iload_n 1, 1) := by decide +kernel
theorem dX1_rowTo_48 : decode cX1_rowTo 48 = .ok (.istore_n 3, 1) := by decide +kernel
theorem dX1_rowTo_49 : decode cX1_rowTo 49 = .ok (.aload_n 0, 1) := by decide +kernel
theorem dX1_rowTo_50 : decode cX1_rowTo 50 = .ok (.getfield 37, 3) := by decide +kernel
theorem dX1_rowTo_53 : decode cX1_rowTo 53 = .ok (.iload_n 1, 1) := by decide +kernel
theorem dX1_rowTo_54 : decode cX1_rowTo 54 = .ok (.iaload, 1) := by decide +kernel
theorem dX1_rowTo_55 : decode cX1_rowTo 55 = .ok (.iconst 1, 1) := by decide +kernel
theorem dX1_rowTo_56 : decode cX1_rowTo 56 = .ok (.isub, 1) := by decide +kernel
theorem dX1_rowTo_57 : decode cX1_rowTo 57 = .ok (.istore 4, 2) := by decide +kernel
theorem dX1_rowTo_59 : decode cX1_rowTo 59 = .ok (.iload 4, 2) := by decide +kernel
theorem dX1_rowTo_61 : decode cX1_rowTo 61 = .ok (.iload_n 2, 1) := by decide +kernel
theorem dX1_rowTo_62 : decode cX1_rowTo 62 = .ok (.if_icmp .le 29, 3) := by decide +kernel
theorem dX1_rowTo_65 : decode cX1_rowTo 65 = .ok (.iload_n 3, 1) := by decide +kernel
theorem dX1_rowTo_66 : decode cX1_rowTo 66 = .ok (.ifCond .lt 25, 3) := by decide +kernel
theorem dX1_rowTo_69 : decode cX1_rowTo 69 = .ok (.iload_n 3, 1) := by decide +kernel
theorem dX1_rowTo_70 : decode cX1_rowTo 70 = .ok (.aload_n 0, 1) := by decide +kernel
theorem dX1_rowTo_71 : decode cX1_rowTo 71 = .ok (.getfield 30, 3) := by decide +kernel
theorem dX1_rowTo_74 : decode cX1_rowTo 74 = .ok (.arraylength, 1) := by decide +kernel
theorem dX1_rowTo_75 : decode cX1_rowTo 75 = .ok (.if_icmp .ge 16, 3) := by decide +kernel
theorem dX1_rowTo_78 : decode cX1_rowTo 78 = .ok (.aload_n 0, 1) := by decide +kernel
theorem dX1_rowTo_79 : decode cX1_rowTo 79 = .ok (.getfield 30, 3) := by decide +kernel
theorem dX1_rowTo_82 : decode cX1_rowTo 82 = .ok (.iload_n 3, 1) := by decide +kernel
theorem dX1_rowTo_83 : decode cX1_rowTo 83 = .ok (.iaload, 1) := by decide +kernel
theorem dX1_rowTo_84 : decode cX1_rowTo 84 = .ok (.istore_n 3, 1) := by decide +kernel
theorem dX1_rowTo_85 : decode cX1_rowTo 85 = .ok (.iinc 4 (-1), 3) := by decide +kernel
theorem dX1_rowTo_88 : decode cX1_rowTo 88 = .ok (.goto (-29), 3) := by decide +kernel
theorem dX1_rowTo_91 : decode cX1_rowTo 91 = .ok (.iload_n 3, 1) := by decide +kernel
theorem dX1_rowTo_92 : decode cX1_rowTo 92 = .ok (.ifCond .lt 21, 3) := by decide +kernel
theorem dX1_rowTo_95 : decode cX1_rowTo 95 = .ok (.iload_n 3, 1) := by decide +kernel
theorem dX1_rowTo_96 : decode cX1_rowTo 96 = .ok (.aload_n 0, 1) := by decide +kernel
theorem dX1_rowTo_97 : decode cX1_rowTo 97 = .ok (.getfield 34, 3) := by decide +kernel
theorem dX1_rowTo_100 : decode cX1_rowTo 100 = .ok (.arraylength, 1) := by decide +kernel
theorem dX1_rowTo_101 : decode cX1_rowTo 101 = .ok (.if_icmp .ge 12, 3) := by decide +kernel
theorem dX1_rowTo_104 : decode cX1_rowTo 104 = .ok (.aload_n 0, 1) := by decide +kernel
theorem dX1_rowTo_105 : decode cX1_rowTo 105 = .ok (.getfield 34, 3) := by decide +kernel
theorem dX1_rowTo_108 : decode cX1_rowTo 108 = .ok (.iload_n 3, 1) := by decide +kernel
theorem dX1_rowTo_109 : decode cX1_rowTo 109 = .ok (.iaload, 1) := by decide +kernel
theorem dX1_rowTo_110 : decode cX1_rowTo 110 = .ok (.goto 4, 3) := by decide +kernel
theorem dX1_rowTo_113 : decode cX1_rowTo 113 = .ok (.iconst (-1), 1) := by decide +kernel
theorem dX1_rowTo_114 : decode cX1_rowTo 114 = .ok (.ireturn, 1) := by decide +kernel
theorem dX2_init_0 : decode cX2_init 0 = .ok (.aload_n 0, 1) := by decide +kernel
theorem dX2_init_1 : decode cX2_init 1 = .ok (.invokespecial 1, 3) := by decide +kernel
theorem dX2_init_4 : decode cX2_init 4 = .ok (.aload_n 0, 1) := by decide +kernel
theorem dX2_init_5 : decode cX2_init 5 = .ok (.iconst 0, 1) := by decide +kernel
theorem dX2_init_6 : decode cX2_init 6 = .ok (.putfield 7, 3) := by decide +kernel
theorem dX2_init_9 : decode cX2_init 9 = .ok (.iconst 2, 1) := by decide +kernel
theorem dX2_init_10 : decode cX2_init 10 = .ok (.istore_n 2, 1) := by decide +kernel
theorem dX2_init_11 : decode cX2_init 11 = .ok (.iconst 0, 1) := by decide +kernel
theorem dX2_init_12 : decode cX2_init 12 = .ok (.istore_n 3, 1) := by decide +kernel
theorem dX2_init_13 : decode cX2_init 13 = .ok (.iload_n 3, 1) := by decide +kernel
theorem dX2_init_14 : decode cX2_init 14 = .ok (.bipush 20, 2) := by decide +kernel
theorem dX2_init_16 : decode cX2_init 16 = .ok (.if_icmp .ge 20, 3) := by decide +kernel
theorem dX2_init_19 : decode cX2_init 19 = .ok (.iload_n 2, 1) := by decide +kernel
theorem dX2_init_20 : decode cX2_init 20 = .ok (.iconst 2, 1) := by decide +kernel
theorem dX2_init_21 : decode cX2_init 21 = .ok (.iload_n 1, 1) := by decide +kernel
theorem dX2_init_22 : decode cX2_init 22 = .ok (.imul, 1) := by decide +kernel
theorem dX2_init_23 : decode cX2_init 23 = .ok (.if_icmp .ge 13, 3) := by decide +kernel
theorem dX2_init_26 : decode cX2_init 26 = .ok (.iload_n 2, 1) := by decide +kernel
theorem dX2_init_27 : decode cX2_init 27 = .ok (.iconst 2, 1) := by decide +kernel
theorem dX2_init_28 : decode cX2_init 28 = .ok (.imul, 1) := by decide +kernel
theorem dX2_init_29 : decode cX2_init 29 = .ok (.istore_n 2, 1) := by decide +kernel
theorem dX2_init_30 : decode cX2_init 30 = .ok (.iinc 3 1, 3) := by decide +kernel
theorem dX2_init_33 : decode cX2_init 33 = .ok (.goto (-20), 3) := by decide +kernel
theorem dX2_init_36 : decode cX2_init 36 = .ok (.aload_n 0, 1) := by decide +kernel
theorem dX2_init_37 : decode cX2_init 37 = .ok (.iconst 0, 1) := by decide +kernel
theorem dX2_init_38 : decode cX2_init 38 = .ok (.iload_n 1, 1) := by decide +kernel
theorem dX2_init_39 : decode cX2_init 39 = .ok (.iload_n 2, 1) := by decide +kernel
theorem dX2_init_40 : decode cX2_init 40 = .ok (.iconst 2, 1) := by decide +kernel
theorem dX2_init_41 : decode cX2_init 41 = .ok (.idiv, 1) := by decide +kernel
theorem dX2_init_42 : decode cX2_init 42 = .ok (.invokestatic 13, 3) := by decide +kernel
theorem dX2_init_45 : decode cX2_init 45 = .ok (.invokestatic 19, 3) := by decide +kernel
theorem dX2_init_48 : decode cX2_init 48 = .ok (.newarray .long, 2) := by decide +kernel
theorem dX2_init_50 : decode cX2_init 50 = .ok (.putfield 22, 3) := by decide +kernel
theorem dX2_init_53 : decode cX2_init 53 = .ok (.aload_n 0, 1) := by decide +kernel
theorem dX2_init_54 : decode cX2_init 54 = .ok (.iload_n 2, 1) := by decide +kernel
theorem dX2_init_55 : decode cX2_init 55 = .ok (.newarray .int, 2) := by decide +kernel
theorem dX2_init_57 : decode cX2_init 57 = .ok (.putfield 26, 3) := by decide +kernel
theorem dX2_init_60 : decode cX2_init 60 = .ok (.return_, 1) := by decide +kernel
set_option maxRecDepth 20000 in
theorem ggX2_clear_J7_fill_53178 : GoodIn wsX2_clear wsJ7_fill_53178 := goodIn_r _ [6] rfl (by decide +kernel)
set_option maxRecDepth 20000 in
theorem gX2_clear_J7_fill_53178 : GoodIn wsX2_clear (va_wsS RX2 30 yJ7_fill_53178 wsJ7_fill_53178) := goodIn_app (goodIn_of _ (by decide +kernel)) ggX2_clear_J7_fill_53178
theorem dX2_clear_0 : decode cX2_clear 0 = .ok (.aload_n 0, 1) := by decide +kernel
theorem dX2_clear_1 : decode cX2_clear 1 = .ok (.iconst 0, 1) := by decide +kernel
theorem dX2_clear_2 : decode cX2_clear 2 = .ok (.putfield 7, 3) := by decide +kernel
theorem dX2_clear_5 : decode cX2_clear 5 = .ok (.aload_n 0, 1) := by decide +kernel
theorem dX2_clear_6 : decode cX2_clear 6 = .ok (.getfield 26, 3) := by decide +kernel
theorem dX2_clear_9 : decode cX2_clear 9 = .ok (.iconst 0, 1) := by decide +kernel
theorem dX2_clear_10 : decode cX2_clear 10 = .ok (.invokestatic 30, 3) := by decide +kernel
theorem dX2_clear_13 : decode cX2_clear 13 = .ok (.return_, 1) := by decide +kernel
theorem dX2_isFull_0 : decode cX2_isFull 0 = .ok (.aload_n 0, 1) := by decide +kernel
theorem dX2_isFull_1 : decode cX2_isFull 1 = .ok (.getfield 7, 3) := by decide +kernel
theorem dX2_isFull_4 : decode cX2_isFull 4 = .ok (.aload_n 0, 1) := by decide +kernel
theorem dX2_isFull_5 : decode cX2_isFull 5 = .ok (.getfield 22, 3) := by decide +kernel
theorem dX2_isFull_8 : decode cX2_isFull 8 = .ok (.arraylength, 1) := by decide +kernel
theorem dX2_isFull_9 : decode cX2_isFull 9 = .ok (.if_icmp .lt 7, 3) := by decide +kernel
theorem dX2_isFull_12 : decode cX2_isFull 12 = .ok (.iconst 1, 1) := by decide +kernel
theorem dX2_isFull_13 : decode cX2_isFull 13 = .ok (.goto 4, 3) := by decide +kernel
theorem dX2_isFull_16 : decode cX2_isFull 16 = .ok (.iconst 0, 1) := by decide +kernel
theorem dX2_isFull_17 : decode cX2_isFull 17 = .ok (.ireturn, 1) := by decide +kernel
theorem dX2_keyAt_0 : decode cX2_keyAt 0 = .ok (.iload_n 1, 1) := by decide +kernel
theorem dX2_keyAt_1 : decode cX2_keyAt 1 = .ok (.ifCond .lt 20, 3) := by decide +kernel
theorem dX2_keyAt_4 : decode cX2_keyAt 4 = .ok (.iload_n 1, 1) := by decide +kernel
theorem dX2_keyAt_5 : decode cX2_keyAt 5 = .ok (.aload_n 0, 1) := by decide +kernel
theorem dX2_keyAt_6 : decode cX2_keyAt 6 = .ok (.getfield 7, 3) := by decide +kernel
theorem dX2_keyAt_9 : decode cX2_keyAt 9 = .ok (.if_icmp .ge 12, 3) := by decide +kernel
theorem dX2_keyAt_12 : decode cX2_keyAt 12 = .ok (.aload_n 0, 1) := by decide +kernel
theorem dX2_keyAt_13 : decode cX2_keyAt 13 = .ok (.getfield 22, 3) := by decide +kernel
theorem dX2_keyAt_16 : decode cX2_keyAt 16 = .ok (.iload_n 1, 1) := by decide +kernel
theorem dX2_keyAt_17 : decode cX2_keyAt 17 = .ok (.laload, 1) := by decide +kernel
theorem dX2_keyAt_18 : decode cX2_keyAt 18 = .ok (.goto 4, 3) := by decide +kernel
theorem dX2_keyAt_21 : decode cX2_keyAt 21 = .ok (.lconst 0, 1) := by decide +kernel
theorem dX2_keyAt_22 : decode cX2_keyAt 22 = .ok (.lreturn, 1) := by decide +kernel
set_option maxRecDepth 20000 in
theorem ggX2_indexOf_X2_slotOf : GoodIn wsX2_indexOf wsX2_slotOf := goodIn_r _ [6, 1, 7, 8, 9, 10, 11] rfl (by decide +kernel)
set_option maxRecDepth 20000 in
theorem gX2_indexOf_X2_slotOf : GoodIn wsX2_indexOf (wsV RX2 36 RX2 yX2_slotOf wsX2_slotOf) := goodIn_app (goodIn_of _ (by decide +kernel)) ggX2_indexOf_X2_slotOf
theorem dX2_indexOf_0 : decode cX2_indexOf 0 = .ok (.aload_n 0, 1) := by decide +kernel
theorem dX2_indexOf_1 : decode cX2_indexOf 1 = .ok (.getfield 26, 3) := by decide +kernel
theorem dX2_indexOf_4 : decode cX2_indexOf 4 = .ok (.aload_n 0, 1) := by decide +kernel
theorem dX2_indexOf_5 : decode cX2_indexOf 5 = .ok (.lload_n 1, 1) := by decide +kernel
theorem dX2_indexOf_6 : decode cX2_indexOf 6 = .ok (.invokevirtual 36, 3) := by decide +kernel
theorem dX2_indexOf_9 : decode cX2_indexOf 9 = .ok (.iaload, 1) := by decide +kernel
theorem dX2_indexOf_10 : decode cX2_indexOf 10 = .ok (.iconst 1, 1) := by decide +kernel
theorem dX2_indexOf_11 : decode cX2_indexOf 11 = .ok (.isub, 1) := by decide +kernel
theorem dX2_indexOf_12 : decode cX2_indexOf 12 = .ok (.ireturn, 1) := by decide +kernel
set_option maxRecDepth 20000 in
theorem ggX2_indexWith_X2_slotOf : GoodIn wsX2_indexWith wsX2_slotOf := goodIn_r _ [8, 1, 9, 2, 14, 15, 16] rfl (by decide +kernel)
set_option maxRecDepth 20000 in
theorem gX2_indexWith_X2_slotOf : GoodIn wsX2_indexWith (wsV RX2 36 RX2 yX2_slotOf wsX2_slotOf) := goodIn_app (goodIn_of _ (by decide +kernel)) ggX2_indexWith_X2_slotOf
set_option maxRecDepth 20000 in
theorem ggX2_indexWith_X2_isFull : GoodIn wsX2_indexWith wsX2_isFull := goodIn_r _ [13, 3, 2, 14, 15, 16] rfl (by decide +kernel)
set_option maxRecDepth 20000 in
theorem gX2_indexWith_X2_isFull : GoodIn wsX2_indexWith (wsV RX2 40 RX2 yX2_isFull wsX2_isFull) := goodIn_app (goodIn_of _ (by decide +kernel)) ggX2_indexWith_X2_isFull
theorem dX2_indexWith_0 : decode cX2_indexWith 0 = .ok (.aload_n 0, 1) := by decide +kernel
theorem dX2_indexWith_1 : decode cX2_indexWith 1 = .ok (.lload_n 1, 1) := by decide +kernel
theorem dX2_indexWith_2 : decode cX2_indexWith 2 = .ok (.invokevirtual 36, 3) := by decide +kernel
theorem dX2_indexWith_5 : decode cX2_indexWith 5 = .ok (.istore_n 3, 1) := by decide +kernel
theorem dX2_indexWith_6 : decode cX2_indexWith 6 = .ok (.aload_n 0, 1) := by decide +kernel
theorem dX2_indexWith_7 : decode cX2_indexWith 7 = .ok (.getfield 26, 3) := by decide +kernel
theorem dX2_indexWith_10 : decode cX2_indexWith 10 = .ok (.iload_n 3, 1) := by decide +kernel
theorem dX2_indexWith_11 : decode cX2_indexWith 11 = .ok (.iaload, 1) := by decide +kernel
theorem dX2_indexWith_12 : decode cX2_indexWith 12 = .ok (.ifCond .ne 40, 3) := by decide +kernel
theorem dX2_indexWith_15 : decode cX2_indexWith 15 = .ok (.aload_n 0, 1) := by decide +kernel
theorem dX2_indexWith_16 : decode cX2_indexWith 16 = .ok (.invokevirtual 40, 3) := by decide +kernel
theorem dX2_indexWith_19 : decode cX2_indexWith 19 = .ok (.ifCond .ne 33, 3) := by decide +kernel
theorem dX2_indexWith_22 : decode cX2_indexWith 22 = .ok (.aload_n 0, 1) := by decide +kernel
theorem dX2_indexWith_23 : decode cX2_indexWith 23 = .ok (.getfield 22, 3) := by decide +kernel
theorem dX2_indexWith_26 : decode cX2_indexWith 26 = .ok (.aload_n 0, 1) := by decide +kernel
theorem dX2_indexWith_27 : decode cX2_indexWith 27 = .ok (.getfield 7, 3) := by decide +kernel
theorem dX2_indexWith_30 : decode cX2_indexWith 30 = .ok (.lload_n 1, 1) := by decide +kernel
theorem dX2_indexWith_31 : decode cX2_indexWith 31 = .ok (.lastore, 1) := by decide +kernel
theorem dX2_indexWith_32 : decode cX2_indexWith 32 = .ok (.aload_n 0, 1) := by decide +kernel
theorem dX2_indexWith_33 : decode cX2_indexWith 33 = .ok (.dup, 1) := by decide +kernel
theorem dX2_indexWith_34 : decode cX2_indexWith 34 = .ok (.getfield 7, 3) := by decide +kernel
theorem dX2_indexWith_37 : decode cX2_indexWith 37 = .ok (.iconst 1, 1) := by decide +kernel
theorem dX2_indexWith_38 : decode cX2_indexWith 38 = .ok (.iadd, 1) := by decide +kernel
theorem dX2_indexWith_39 : decode cX2_indexWith 39 = .ok (.putfield 7, 3) := by decide +kernel
theorem dX2_indexWith_42 : decode cX2_indexWith 42 = .ok (.aload_n 0, 1) := by decide +kernel
theorem dX2_indexWith_43 : decode cX2_indexWith 43 = .ok (.getfield 26, 3) := by decide +kernel
theorem dX2_indexWith_46 : decode cX2_indexWith 46 = .ok (.iload_n 3, 1) := by decide +kernel
theorem dX2_indexWith_47 : decode cX2_indexWith 47 = .ok (.aload_n 0, 1) := by decide +kernel
theorem dX2_indexWith_48 : decode cX2_indexWith 48 = .ok (.getfield 7, 3) := by decide +kernel
theorem dX2_indexWith_51 : decode cX2_indexWith 51 = .ok (.iastore, 1) := by decide +kernel
theorem dX2_indexWith_52 : decode cX2_indexWith 52 = .ok (.aload_n 0, 1) := by decide +kernel
theorem dX2_indexWith_53 : decode cX2_indexWith 53 = .ok (.getfield 26, 3) := by decide +kernel
theorem dX2_indexWith_56 : decode cX2_indexWith 56 = .ok (.iload_n 3, 1) := by decide +kernel
theorem dX2_indexWith_57 : decode cX2_indexWith 57 = .ok (.iaload, 1) := by decide +kernel
theorem dX2_indexWith_58 : decode cX2_indexWith 58 = .ok (.iconst 1, 1) := by decide +kernel
theorem dX2_indexWith_59 : decode cX2_indexWith 59 = .ok (.isub, 1) := by decide +kernel
theorem dX2_indexWith_60 : decode cX2_indexWith 60 = .ok (.ireturn, 1) := by decide +kernel
theorem dX2_slotOf_0 : decode cX2_slotOf 0 = .ok (.aload_n 0, 1) := by decide +kernel
theorem dX2_slotOf_1 : decode cX2_slotOf 1 = .ok (.getfield 26, 3) := by decide +kernel
theorem dX2_slotOf_4 : decode cX2_slotOf 4 = .ok (.arraylength, 1) := by decide +kernel
theorem dX2_slotOf_5 : decode cX2_slotOf 5 = .ok (.iconst 1, 1) := by decide +kernel
theorem dX2_slotOf_6 : decode cX2_slotOf 6 = .ok (.isub, 1) := by decide +kernel
theorem dX2_slotOf_7 : decode cX2_slotOf 7 = .ok (.istore_n 3, 1) := by decide +kernel
theorem dX2_slotOf_8 : decode cX2_slotOf 8 = .ok (.lload_n 1, 1) := by decide +kernel
theorem dX2_slotOf_9 : decode cX2_slotOf 9 = .ok (.ldc2_w 44, 3) := by decide +kernel
theorem dX2_slotOf_12 : decode cX2_slotOf 12 = .ok (.lmul, 1) := by decide +kernel
theorem dX2_slotOf_13 : decode cX2_slotOf 13 = .ok (.bipush 40, 2) := by decide +kernel
theorem dX2_slotOf_15 : decode cX2_slotOf 15 = .ok (.lushr, 1) := by decide +kernel
theorem dX2_slotOf_16 : decode cX2_slotOf 16 = .ok (.l2i, 1) := by decide +kernel
theorem dX2_slotOf_17 : decode cX2_slotOf 17 = .ok (.iload_n 3, 1) := by decide +kernel
theorem dX2_slotOf_18 : decode cX2_slotOf 18 = .ok (.iand, 1) := by decide +kernel
theorem dX2_slotOf_19 : decode cX2_slotOf 19 = .ok (.istore 4, 2) := by decide +kernel
theorem dX2_slotOf_21 : decode cX2_slotOf 21 = .ok (.iconst 0, 1) := by decide +kernel
theorem dX2_slotOf_22 : decode cX2_slotOf 22 = .ok (.istore 5, 2) := by decide +kernel
theorem dX2_slotOf_24 : decode cX2_slotOf 24 = .ok (.iload 5, 2) := by decide +kernel
theorem dX2_slotOf_26 : decode cX2_slotOf 26 = .ok (.iload_n 3, 1) := by decide +kernel
theorem dX2_slotOf_27 : decode cX2_slotOf 27 = .ok (.if_icmp .ge 58, 3) := by decide +kernel
theorem dX2_slotOf_30 : decode cX2_slotOf 30 = .ok (.aload_n 0, 1) := by decide +kernel
theorem dX2_slotOf_31 : decode cX2_slotOf 31 = .ok (.getfield 26, 3) := by decide +kernel
theorem dX2_slotOf_34 : decode cX2_slotOf 34 = .ok (.iload 4, 2) := by decide +kernel
theorem dX2_slotOf_36 : decode cX2_slotOf 36 = .ok (.iaload, 1) := by decide +kernel
theorem dX2_slotOf_37 : decode cX2_slotOf 37 = .ok (.iconst 1, 1) := by decide +kernel
theorem dX2_slotOf_38 : decode cX2_slotOf 38 = .ok (.isub, 1) := by decide +kernel
theorem dX2_slotOf_39 : decode cX2_slotOf 39 = .ok (.istore 6, 2) := by decide +kernel
theorem dX2_slotOf_41 : decode cX2_slotOf 41 = .ok (.iload 6, 2) := by decide +kernel
theorem dX2_slotOf_43 : decode cX2_slotOf 43 = .ok (.ifCond .lt 25, 3) := by decide +kernel
theorem dX2_slotOf_46 : decode cX2_slotOf 46 = .ok (.iload 6, 2) := by decide +kernel
theorem dX2_slotOf_48 : decode cX2_slotOf 48 = .ok (.aload_n 0, 1) := by decide +kernel
theorem dX2_slotOf_49 : decode cX2_slotOf 49 = .ok (.getfield 22, 3) := by decide +kernel
theorem dX2_slotOf_52 : decode cX2_slotOf 52 = .ok (.arraylength, 1) := by decide +kernel
theorem dX2_slotOf_53 : decode cX2_slotOf 53 = .ok (.if_icmp .ge 15, 3) := by decide +kernel
theorem dX2_slotOf_56 : decode cX2_slotOf 56 = .ok (.aload_n 0, 1) := by decide +kernel
theorem dX2_slotOf_57 : decode cX2_slotOf 57 = .ok (.getfield 22, 3) := by decide +kernel
theorem dX2_slotOf_60 : decode cX2_slotOf 60 = .ok (.iload 6, 2) := by decide +kernel
theorem dX2_slotOf_62 : decode cX2_slotOf 62 = .ok (.laload, 1) := by decide +kernel
theorem dX2_slotOf_63 : decode cX2_slotOf 63 = .ok (.lload_n 1, 1) := by decide +kernel
theorem dX2_slotOf_64 : decode cX2_slotOf 64 = .ok (.lcmp, 1) := by decide +kernel
theorem dX2_slotOf_65 : decode cX2_slotOf 65 = .ok (.ifCond .ne 6, 3) := by decide +kernel
theorem dX2_slotOf_68 : decode cX2_slotOf 68 = .ok (.iload 4, 2) := by decide +kernel
theorem dX2_slotOf_70 : decode cX2_slotOf 70 = .ok (.ireturn, 1) := by decide +kernel
theorem dX2_slotOf_71 : decode cX2_slotOf 71 = .ok (.iload 4, 2) := by decide +kernel
theorem dX2_slotOf_73 : decode cX2_slotOf 73 = .ok (.iconst 1, 1) := by decide +kernel
theorem dX2_slotOf_74 : decode cX2_slotOf 74 = .ok (.iadd, 1) := by decide +kernel
theorem dX2_slotOf_75 : decode cX2_slotOf 75 = .ok (.iload_n 3, 1) := by decide +kernel
theorem dX2_slotOf_76 : decode cX2_slotOf 76 = .ok (.iand, 1) := by decide +kernel
theorem dX2_slotOf_77 : decode cX2_slotOf 77 = .ok (.istore 4, 2) := by decide +kernel
theorem dX2_slotOf_79 : decode cX2_slotOf 79 = .ok (.iinc 5 1, 3) := by decide +kernel
theorem dX2_slotOf_82 : decode cX2_slotOf 82 = .ok (.goto (-58), 3) := by decide +kernel
theorem dX2_slotOf_85 : decode cX2_slotOf 85 = .ok (.iload 4, 2) := by decide +kernel
theorem dX2_slotOf_87 : decode cX2_slotOf 87 = .ok (.ireturn, 1) := by decide +kernel
set_option maxRecDepth 20000 in
theorem ggX3_init_X1_init : GoodIn wsX3_init wsX1_init := goodIn_r _ [14, 15, 2, 3, 16, 17, 18, 19, 20, 21, 22, 23, 24, 25, 26, 27, 28, 29, 30, 31, 32, 33, 34, 35, 36, 37, 8, 38, 39, 40, 41, 42, 43, 44, 49, 50, 51] rfl (by decide +kernel)
set_option maxRecDepth 20000 in
theorem gX3_init_X1_init : GoodIn wsX3_init (wsX1_init) := ggX3_init_X1_init
theorem dX3_init_0 : decode cX3_init 0 = .ok (.aload_n 0, 1) := by decide +kernel
theorem dX3_init_1 : decode cX3_init 1 = .ok (.invokespecial 3, 3) := by decide +kernel
theorem dX3_init_4 : decode cX3_init 4 = .ok (.aload_n 0, 1) := by decide +kernel
theorem dX3_init_5 : decode cX3_init 5 = .ok (.new 9, 3) := by decide +kernel
theorem dX3_init_8 : decode cX3_init 8 = .ok (.dup, 1) := by decide +kernel
theorem dX3_init_9 : decode cX3_init 9 = .ok (.sipush 800, 3) := by decide +kernel
theorem dX3_init_12 : decode cX3_init 12 = .ok (.invokespecial 11, 3) := by decide +kernel
theorem dX3_init_15 : decode cX3_init 15 = .ok (.putfield 14, 3) := by decide +kernel
theorem dX3_init_18 : decode cX3_init 18 = .ok (.aload_n 0, 1) := by decide +kernel
theorem dX3_init_19 : decode cX3_init 19 = .ok (.iconst 3, 1) := by decide +kernel
theorem dX3_init_20 : decode cX3_init 20 = .ok (.newarray .long, 2) := by decide +kernel
theorem dX3_init_22 : decode cX3_init 22 = .ok (.putfield 20, 3) := by decide +kernel
theorem dX3_init_25 : decode cX3_init 25 = .ok (.aload_n 0, 1) := by decide +kernel
theorem dX3_init_26 : decode cX3_init 26 = .ok (.iconst (-1), 1) := by decide +kernel
theorem dX3_init_27 : decode cX3_init 27 = .ok (.putfield 24, 3) := by decide +kernel
theorem dX3_init_30 : decode cX3_init 30 = .ok (.aload_n 0, 1) := by decide +kernel
theorem dX3_init_31 : decode cX3_init 31 = .ok (.aload_n 1, 1) := by decide +kernel
theorem dX3_init_32 : decode cX3_init 32 = .ok (.putfield 28, 3) := by decide +kernel
theorem dX3_init_35 : decode cX3_init 35 = .ok (.return_, 1) := by decide +kernel
set_option maxRecDepth 20000 in
theorem ggX3_renew_X1_clear : GoodIn wsX3_renew wsX1_clear := goodIn_r _ [9, 10, 11, 12, 13, 14, 15, 16, 17, 18, 19, 20, 21, 22, 90, 91, 92, 93, 94, 95, 96, 97] rfl (by decide +kernel)
set_option maxRecDepth 20000 in
theorem gX3_renew_X1_clear : GoodIn wsX3_renew (wsV RX3 35 RX1 yX1_clear wsX1_clear) := goodIn_app (goodIn_of _ (by decide +kernel)) ggX3_renew_X1_clear
set_option maxRecDepth 20000 in
theorem ggX3_renew_X3_tableOfLetter : GoodIn wsX3_renew wsX3_tableOfLetter := goodIn_r _ [26, 27, 28, 29, 30, 31, 32, 33, 34, 35, 25, 36, 37, 38, 39, 40, 41, 42, 43, 44, 45, 85, 86, 87, 88, 89] rfl (by decide +kernel)
set_option maxRecDepth 20000 in
theorem gX3_renew_X3_tableOfLetter : GoodIn wsX3_renew (va_wsS RX3 38 yX3_tableOfLetter wsX3_tableOfLetter) := goodIn_app (goodIn_of _ (by decide +kernel)) ggX3_renew_X3_tableOfLetter
set_option maxRecDepth 20000 in
theorem ggX3_renew_X1_reach : GoodIn wsX3_renew wsX1_reach := goodIn_r _ [49, 10, 11, 50, 51, 52, 53, 54, 55, 15, 56, 18, 57, 17, 58, 59, 60, 61, 62, 63, 64, 65, 66, 90, 91, 92, 93, 94, 95, 96, 97] rfl (by decide +kernel)
set_option maxRecDepth 20000 in
theorem gX3_renew_X1_reach : GoodIn wsX3_renew (wsV RX3 42 RX1 yX1_reach wsX1_reach) := goodIn_app (goodIn_of _ (by decide +kernel)) ggX3_renew_X1_reach
set_option maxRecDepth 20000 in
theorem ggX3_renew_X2_keyAt : GoodIn wsX3_renew wsX2_keyAt := goodIn_r _ [70, 17, 57, 95, 96, 97] rfl (by decide +kernel)
set_option maxRecDepth 20000 in
theorem gX3_renew_X2_keyAt : GoodIn wsX3_renew (wsV RX3 59 RX2 yX2_keyAt wsX2_keyAt) := goodIn_app (goodIn_of _ (by decide +kernel)) ggX3_renew_X2_keyAt
set_option maxRecDepth 20000 in
theorem ggX3_renew_X3_joined : GoodIn wsX3_renew wsX3_joined := goodIn_r _ [73, 74, 75, 25, 76, 77, 78, 79, 80, 43, 44, 45, 85, 86, 87, 88, 89] rfl (by decide +kernel)
set_option maxRecDepth 20000 in
theorem gX3_renew_X3_joined : GoodIn wsX3_renew (va_wsS RX3 63 yX3_joined wsX3_joined) := goodIn_app (goodIn_of _ (by decide +kernel)) ggX3_renew_X3_joined
theorem dX3_renew_0 : decode cX3_renew 0 = .ok (.aload_n 0, 1) := by decide +kernel
theorem dX3_renew_1 : decode cX3_renew 1 = .ok (.getfield 24, 3) := by decide +kernel
theorem dX3_renew_4 : decode cX3_renew 4 = .ok (.aload_n 0, 1) := by decide +kernel
theorem dX3_renew_5 : decode cX3_renew 5 = .ok (.getfield 28, 3) := by decide +kernel
theorem dX3_renew_8 : decode cX3_renew 8 = .ok (.getfield 32, 3) := by decide +kernel
theorem dX3_renew_11 : decode cX3_renew 11 = .ok (.if_icmp .ne 4, 3) := by decide +kernel
theorem dX3_renew_14 : decode cX3_renew 14 = .ok (.return_, 1) := by decide +kernel
theorem dX3_renew_15 : decode cX3_renew 15 = .ok (.aload_n 0, 1) := by decide +kernel
theorem dX3_renew_16 : decode cX3_renew 16 = .ok (.aload_n 0, 1) := by decide +kernel
theorem dX3_renew_17 : decode cX3_renew 17 = .ok (.getfield 28, 3) := by decide +kernel
theorem dX3_renew_20 : decode cX3_renew 20 = .ok (.getfield 32, 3) := by decide +kernel
theorem dX3_renew_23 : decode cX3_renew 23 = .ok (.putfield 24, 3) := by decide +kernel
theorem dX3_renew_26 : decode cX3_renew 26 = .ok (.aload_n 0, 1) := by decide +kernel
theorem dX3_renew_27 : decode cX3_renew 27 = .ok (.getfield 14, 3) := by decide +kernel
theorem dX3_renew_30 : decode cX3_renew 30 = .ok (.invokevirtual 35, 3) := by decide +kernel
theorem dX3_renew_33 : decode cX3_renew 33 = .ok (.iconst 0, 1) := by decide +kernel
theorem dX3_renew_34 : decode cX3_renew 34 = .ok (.istore_n 1, 1) := by decide +kernel
theorem dX3_renew_35 : decode cX3_renew 35 = .ok (.iload_n 1, 1) := by decide +kernel
theorem dX3_renew_36 : decode cX3_renew 36 = .ok (.iconst 3, 1) := by decide +kernel
theorem dX3_renew_37 : decode cX3_renew 37 = .ok (.if_icmp .ge 39, 3) := by decide +kernel
theorem dX3_renew_40 : decode cX3_renew 40 = .ok (.aload_n 0, 1) := by decide +kernel
theorem dX3_renew_41 : decode cX3_renew 41 = .ok (.getfield 20, 3) := by decide +kernel
theorem dX3_renew_44 : decode cX3_renew 44 = .ok (.iload_n 1, 1) := by decide +kernel
theorem dX3_renew_45 : decode cX3_renew 45 = .ok (.aload_n 0, 1) := by decide +kernel
theorem dX3_renew_46 : decode cX3_renew 46 = .ok (.getfield 28, 3) := by decide +kernel
theorem dX3_renew_49 : decode cX3_renew 49 = .ok (.iload_n 1, 1) := by decide +kernel
theorem dX3_renew_50 : decode cX3_renew 50 = .ok (.invokestatic 38, 3) := by decide +kernel
theorem dX3_renew_53 : decode cX3_renew 53 = .ok (.lastore, 1) := by decide +kernel
theorem dX3_renew_54 : decode cX3_renew 54 = .ok (.aload_n 0, 1) := by decide +kernel
theorem dX3_renew_55 : decode cX3_renew 55 = .ok (.getfield 14, 3) := by decide +kernel
theorem dX3_renew_58 : decode cX3_renew 58 = .ok (.aload_n 0, 1) := by decide +kernel
theorem dX3_renew_59 : decode cX3_renew 59 = .ok (.getfield 20, 3) := by decide +kernel
theorem dX3_renew_62 : decode cX3_renew 62 = .ok (.iload_n 1, 1) := by decide +kernel
theorem dX3_renew_63 : decode cX3_renew 63 = .ok (.laload, 1) := by decide +kernel
theorem dX3_renew_64 : decode cX3_renew 64 = .ok (.iconst (-1), 1) := by decide +kernel
theorem dX3_renew_65 : decode cX3_renew 65 = .ok (.iload_n 1, 1) := by decide +kernel
theorem dX3_renew_66 : decode cX3_renew 66 = .ok (.invokevirtual 42, 3) := by decide +kernel
theorem dX3_renew_69 : decode cX3_renew 69 = .ok (.pop, 1) := by decide +kernel
theorem dX3_renew_70 : decode cX3_renew 70 = .ok (.iinc 1 1, 3) := by decide +kernel
theorem dX3_renew_73 : decode cX3_renew 73 = .ok (.goto (-38), 3) := by decide +kernel
theorem dX3_renew_76 : decode cX3_renew 76 = .ok (.iconst 0, 1) := by decide +kernel
theorem dX3_renew_77 : decode cX3_renew 77 = .ok (.istore_n 1, 1) := by decide +kernel
theorem dX3_renew_78 : decode cX3_renew 78 = .ok (.iload_n 1, 1) := by decide +kernel
theorem dX3_renew_79 : decode cX3_renew 79 = .ok (.sipush 800, 3) := by decide +kernel
theorem dX3_renew_82 : decode cX3_renew 82 = .ok (.if_icmp .ge 80, 3) := by decide +kernel
theorem dX3_renew_85 : decode cX3_renew 85 = .ok (.iload_n 1, 1) := by decide +kernel
theorem dX3_renew_86 : decode cX3_renew 86 = .ok (.aload_n 0, 1) := by decide +kernel
theorem dX3_renew_87 : decode cX3_renew 87 = .ok (.getfield 14, 3) := by decide +kernel
theorem dX3_renew_90 : decode cX3_renew 90 = .ok (.getfield 46, 3) := by decide +kernel
theorem dX3_renew_93 : decode cX3_renew 93 = .ok (.getfield 50, 3) := by decide +kernel
theorem dX3_renew_96 : decode cX3_renew 96 = .ok (.if_icmp .ge 66, 3) := by decide +kernel
theorem dX3_renew_99 : decode cX3_renew 99 = .ok (.aload_n 0, 1) := by decide +kernel
theorem dX3_renew_100 : decode cX3_renew 100 = .ok (.getfield 14, 3) := by decide +kernel
theorem dX3_renew_103 : decode cX3_renew 103 = .ok (.getfield 55, 3) := by decide +kernel
theorem dX3_renew_106 : decode cX3_renew 106 = .ok (.ifCond .ne 56, 3) := by decide +kernel
theorem dX3_renew_109 : decode cX3_renew 109 = .ok (.iconst 0, 1) := by decide +kernel
theorem dX3_renew_110 : decode cX3_renew 110 = .ok (.istore_n 2, 1) := by decide +kernel
theorem dX3_renew_111 : decode cX3_renew 111 = .ok (.iload_n 2, 1) := by decide +kernel
theorem dX3_renew_112 : decode cX3_renew 112 = .ok (.iconst 3, 1) := by decide +kernel
theorem dX3_renew_113 : decode cX3_renew 113 = .ok (.if_icmp .ge 43, 3) := by decide +kernel
theorem dX3_renew_116 : decode cX3_renew 116 = .ok (.aload_n 0, 1) := by decide +kernel
theorem dX3_renew_117 : decode cX3_renew 117 = .ok (.getfield 14, 3) := by decide +kernel
theorem dX3_renew_120 : decode cX3_renew 120 = .ok (.aload_n 0, 1) := by decide +kernel
theorem dX3_renew_121 : decode cX3_renew 121 = .ok (.getfield 28, 3) := by decide +kernel
theorem dX3_renew_124 : decode cX3_renew 124 = .ok (.aload_n 0, 1) := by decide +kernel
theorem dX3_renew_125 : decode cX3_renew 125 = .ok (.getfield 14, 3) := by decide +kernel
theorem dX3_renew_128 : decode cX3_renew 128 = .ok (.getfield 46, 3) := by decide +kernel
theorem dX3_renew_131 : decode cX3_renew 131 = .ok (.iload_n 1, 1) := by decide +kernel
theorem dX3_renew_132 : decode cX3_renew 132 = .ok (.invokevirtual 59, 3) := by decide +kernel
theorem dX3_renew_135 : decode cX3_renew 135 = .ok (.aload_n 0, 1) := by decide +kernel
theorem dX3_renew_136 : decode cX3_renew 136 = .ok (.getfield 20, 3) := by decide +kernel
theorem dX3_renew_139 : decode cX3_renew 139 = .ok (.iload_n 2, 1) := by decide +kernel
theorem dX3_renew_140 : decode cX3_renew 140 = .ok (.laload, 1) := by decide +kernel
theorem dX3_renew_141 : decode cX3_renew 141 = .ok (.invokestatic 63, 3) := by decide +kernel
theorem dX3_renew_144 : decode cX3_renew 144 = .ok (.iload_n 1, 1) := by decide +kernel
theorem dX3_renew_145 : decode cX3_renew 145 = .ok (.iload_n 2, 1) := by decide +kernel
theorem dX3_renew_146 : decode cX3_renew 146 = .ok (.invokevirtual 42, 3) := by decide +kernel
theorem dX3_renew_149 : decode cX3_renew 149 = .ok (.pop, 1) := by decide +kernel
theorem dX3_renew_150 : decode cX3_renew 150 = .ok (.iinc 2 1, 3) := by decide +kernel
theorem dX3_renew_153 : decode cX3_renew 153 = .ok (.goto (-42), 3) := by decide +kernel
theorem dX3_renew_156 : decode cX3_renew 156 = .ok (.iinc 1 1, 3) := by decide +kernel
theorem dX3_renew_159 : decode cX3_renew 159 = .ok (.goto (-81), 3) := by decide +kernel
theorem dX3_renew_162 : decode cX3_renew 162 = .ok (.return_, 1) := by decide +kernel
theorem dX3_entry_0 : decode cX3_entry 0 = .ok (.lload_n 0, 1) := by decide +kernel
theorem dX3_entry_1 : decode cX3_entry 1 = .ok (.iconst 4, 1) := by decide +kernel
theorem dX3_entry_2 : decode cX3_entry 2 = .ok (.iload_n 2, 1) := by decide +kernel
theorem dX3_entry_3 : decode cX3_entry 3 = .ok (.iconst 5, 1) := by decide +kernel
theorem dX3_entry_4 : decode cX3_entry 4 = .ok (.imul, 1) := by decide +kernel
theorem dX3_entry_5 : decode cX3_entry 5 = .ok (.iload_n 3, 1) := by decide +kernel
theorem dX3_entry_6 : decode cX3_entry 6 = .ok (.iadd, 1) := by decide +kernel
theorem dX3_entry_7 : decode cX3_entry 7 = .ok (.imul, 1) := by decide +kernel
theorem dX3_entry_8 : decode cX3_entry 8 = .ok (.lshr, 1) := by decide +kernel
theorem dX3_entry_9 : decode cX3_entry 9 = .ok (.ldc2_w 67, 3) := by decide +kernel
theorem dX3_entry_12 : decode cX3_entry 12 = .ok (.land, 1) := by decide +kernel
theorem dX3_entry_13 : decode cX3_entry 13 = .ok (.l2i, 1) := by decide +kernel
theorem dX3_entry_14 : decode cX3_entry 14 = .ok (.ireturn, 1) := by decide +kernel
set_option maxRecDepth 20000 in
theorem ggX3_tableOfRow_X3_tableOfLetter : GoodIn wsX3_tableOfRow wsX3_tableOfLetter := goodIn_r _ [4, 5, 6, 7, 8, 9, 10, 11, 12, 13, 3, 14, 15, 16, 17, 18, 19, 20, 21, 22, 23, 34, 35, 36, 37, 38] rfl (by decide +kernel)
set_option maxRecDepth 20000 in
theorem gX3_tableOfRow_X3_tableOfLetter : GoodIn wsX3_tableOfRow (va_wsS RX3 38 yX3_tableOfLetter wsX3_tableOfLetter) := goodIn_app (goodIn_of _ (by decide +kernel)) ggX3_tableOfRow_X3_tableOfLetter
set_option maxRecDepth 20000 in
theorem ggX3_tableOfRow_X3_joined : GoodIn wsX3_tableOfRow wsX3_joined := goodIn_r _ [26, 27, 28, 3, 29, 30, 31, 32, 33, 21, 22, 23, 34, 35, 36, 37, 38] rfl (by decide +kernel)
set_option maxRecDepth 20000 in
theorem gX3_tableOfRow_X3_joined : GoodIn wsX3_tableOfRow (va_wsS RX3 63 yX3_joined wsX3_joined) := goodIn_app (goodIn_of _ (by decide +kernel)) ggX3_tableOfRow_X3_joined
theorem dX3_tableOfRow_0 : decode cX3_tableOfRow 0 = .ok (.lconst 0, 1) := by decide +kernel
theorem dX3_tableOfRow_1 : decode cX3_tableOfRow 1 = .ok (.lstore_n 3, 1) := by decide +kernel
theorem dX3_tableOfRow_2 : decode cX3_tableOfRow 2 = .ok (.iconst 0, 1) := by decide +kernel
theorem dX3_tableOfRow_3 : decode cX3_tableOfRow 3 = .ok (.istore 5, 2) := by decide +kernel
theorem dX3_tableOfRow_5 : decode cX3_tableOfRow 5 = .ok (.iload 5, 2) := by decide +kernel
theorem dX3_tableOfRow_7 : decode cX3_tableOfRow 7 = .ok (.iload_n 2, 1) := by decide +kernel
theorem dX3_tableOfRow_8 : decode cX3_tableOfRow 8 = .ok (.if_icmp .ge 44, 3) := by decide +kernel
theorem dX3_tableOfRow_11 : decode cX3_tableOfRow 11 = .ok (.iload 5, 2) := by decide +kernel
theorem dX3_tableOfRow_13 : decode cX3_tableOfRow 13 = .ok (.aload_n 1, 1) := by decide +kernel
theorem dX3_tableOfRow_14 : decode cX3_tableOfRow 14 = .ok (.arraylength, 1) := by decide +kernel
theorem dX3_tableOfRow_15 : decode cX3_tableOfRow 15 = .ok (.if_icmp .ge 37, 3) := by decide +kernel
theorem dX3_tableOfRow_18 : decode cX3_tableOfRow 18 = .ok (.aload_n 0, 1) := by decide +kernel
theorem dX3_tableOfRow_19 : decode cX3_tableOfRow 19 = .ok (.aload_n 1, 1) := by decide +kernel
theorem dX3_tableOfRow_20 : decode cX3_tableOfRow 20 = .ok (.iload 5, 2) := by decide +kernel
theorem dX3_tableOfRow_22 : decode cX3_tableOfRow 22 = .ok (.iaload, 1) := by decide +kernel
theorem dX3_tableOfRow_23 : decode cX3_tableOfRow 23 = .ok (.invokestatic 38, 3) := by decide +kernel
theorem dX3_tableOfRow_26 : decode cX3_tableOfRow 26 = .ok (.lstore 6, 2) := by decide +kernel
theorem dX3_tableOfRow_28 : decode cX3_tableOfRow 28 = .ok (.iload 5, 2) := by decide +kernel
theorem dX3_tableOfRow_30 : decode cX3_tableOfRow 30 = .ok (.ifCond .ne 8, 3) := by decide +kernel
theorem dX3_tableOfRow_33 : decode cX3_tableOfRow 33 = .ok (.lload 6, 2) := by decide +kernel
theorem dX3_tableOfRow_35 : decode cX3_tableOfRow 35 = .ok (.goto 10, 3) := by decide +kernel
theorem dX3_tableOfRow_38 : decode cX3_tableOfRow 38 = .ok (.aload_n 0, 1) := by decide +kernel
theorem dX3_tableOfRow_39 : decode cX3_tableOfRow 39 = .ok (.lload_n 3, 1) := by decide +kernel
theorem dX3_tableOfRow_40 : decode cX3_tableOfRow 40 = .ok (.lload 6, 2) := by decide +kernel
theorem dX3_tableOfRow_42 : decode cX3_tableOfRow 42 = .ok (.invokestatic 63, 3) := by decide +kernel
theorem dX3_tableOfRow_45 : decode cX3_tableOfRow 45 = .ok (.lstore_n 3, 1) := by decide +kernel
theorem dX3_tableOfRow_46 : decode cX3_tableOfRow 46 = .ok (.iinc 5 1, 3) := by decide +kernel
theorem dX3_tableOfRow_49 : decode cX3_tableOfRow 49 = .ok (.goto (-44), 3) := by decide +kernel
theorem dX3_tableOfRow_52 : decode cX3_tableOfRow 52 = .ok (.lload_n 3, 1) := by decide +kernel
theorem dX3_tableOfRow_53 : decode cX3_tableOfRow 53 = .ok (.lreturn, 1) := by decide +kernel
set_option maxRecDepth 20000 in
theorem ggX3_tableOfLetter_X6_moveOf : GoodIn wsX3_tableOfLetter wsX6_moveOf := goodIn_r _ [5, 6, 7, 21, 22, 23, 24, 25] rfl (by decide +kernel)
set_option maxRecDepth 20000 in
theorem gX3_tableOfLetter_X6_moveOf : GoodIn wsX3_tableOfLetter (wsV RX3 72 RX6 yX6_moveOf wsX6_moveOf) := goodIn_app (goodIn_of _ (by decide +kernel)) ggX3_tableOfLetter_X6_moveOf
set_option maxRecDepth 20000 in
theorem ggX3_tableOfLetter_X3_leavingLetter : GoodIn wsX3_tableOfLetter wsX3_leavingLetter := goodIn_r _ [11, 12, 13, 4, 14, 15, 16, 17] rfl (by decide +kernel)
set_option maxRecDepth 20000 in
theorem gX3_tableOfLetter_X3_leavingLetter : GoodIn wsX3_tableOfLetter (va_wsS RX3 76 yX3_leavingLetter wsX3_leavingLetter) := goodIn_app (goodIn_of _ (by decide +kernel)) ggX3_tableOfLetter_X3_leavingLetter
set_option maxRecDepth 20000 in
theorem ggX3_tableOfLetter_X3_placed : GoodIn wsX3_tableOfLetter wsX3_placed := goodIn_r _ [20] rfl (by decide +kernel)
set_option maxRecDepth 20000 in
theorem gX3_tableOfLetter_X3_placed : GoodIn wsX3_tableOfLetter (va_wsS RX3 80 yX3_placed wsX3_placed) := goodIn_app (goodIn_of _ (by decide +kernel)) ggX3_tableOfLetter_X3_placed
theorem dX3_tableOfLetter_0 : decode cX3_tableOfLetter 0 = .ok (.lconst 0, 1) := by decide +kernel
theorem dX3_tableOfLetter_1 : decode cX3_tableOfLetter 1 = .ok (.lstore_n 2, 1) := by decide +kernel
theorem dX3_tableOfLetter_2 : decode cX3_tableOfLetter 2 = .ok (.iconst 0, 1) := by decide +kernel
theorem dX3_tableOfLetter_3 : decode cX3_tableOfLetter 3 = .ok (.istore 4, 2) := by decide +kernel
theorem dX3_tableOfLetter_5 : decode cX3_tableOfLetter 5 = .ok (.iload 4, 2) := by decide +kernel
theorem dX3_tableOfLetter_7 : decode cX3_tableOfLetter 7 = .ok (.aload_n 0, 1) := by decide +kernel
theorem dX3_tableOfLetter_8 : decode cX3_tableOfLetter 8 = .ok (.getfield 69, 3) := by decide +kernel
theorem dX3_tableOfLetter_11 : decode cX3_tableOfLetter 11 = .ok (.if_icmp .ge 41, 3) := by decide +kernel
theorem dX3_tableOfLetter_14 : decode cX3_tableOfLetter 14 = .ok (.aload_n 0, 1) := by decide +kernel
theorem dX3_tableOfLetter_15 : decode cX3_tableOfLetter 15 = .ok (.iload 4, 2) := by decide +kernel
theorem dX3_tableOfLetter_17 : decode cX3_tableOfLetter 17 = .ok (.iload_n 1, 1) := by decide +kernel
theorem dX3_tableOfLetter_18 : decode cX3_tableOfLetter 18 = .ok (.invokevirtual 72, 3) := by decide +kernel
theorem dX3_tableOfLetter_21 : decode cX3_tableOfLetter 21 = .ok (.invokestatic 76, 3) := by decide +kernel
theorem dX3_tableOfLetter_24 : decode cX3_tableOfLetter 24 = .ok (.istore 5, 2) := by decide +kernel
theorem dX3_tableOfLetter_26 : decode cX3_tableOfLetter 26 = .ok (.lload_n 2, 1) := by decide +kernel
theorem dX3_tableOfLetter_27 : decode cX3_tableOfLetter 27 = .ok (.iload 5, 2) := by decide +kernel
theorem dX3_tableOfLetter_29 : decode cX3_tableOfLetter 29 = .ok (.iconst 0, 1) := by decide +kernel
theorem dX3_tableOfLetter_30 : decode cX3_tableOfLetter 30 = .ok (.iload 4, 2) := by decide +kernel
theorem dX3_tableOfLetter_32 : decode cX3_tableOfLetter 32 = .ok (.invokestatic 80, 3) := by decide +kernel
theorem dX3_tableOfLetter_35 : decode cX3_tableOfLetter 35 = .ok (.iload 5, 2) := by decide +kernel
theorem dX3_tableOfLetter_37 : decode cX3_tableOfLetter 37 = .ok (.iconst 1, 1) := by decide +kernel
theorem dX3_tableOfLetter_38 : decode cX3_tableOfLetter 38 = .ok (.iload 4, 2) := by decide +kernel
theorem dX3_tableOfLetter_40 : decode cX3_tableOfLetter 40 = .ok (.invokestatic 80, 3) := by decide +kernel
theorem dX3_tableOfLetter_43 : decode cX3_tableOfLetter 43 = .ok (.lor, 1) := by decide +kernel
theorem dX3_tableOfLetter_44 : decode cX3_tableOfLetter 44 = .ok (.lor, 1) := by decide +kernel
theorem dX3_tableOfLetter_45 : decode cX3_tableOfLetter 45 = .ok (.lstore_n 2, 1) := by decide +kernel
theorem dX3_tableOfLetter_46 : decode cX3_tableOfLetter 46 = .ok (.iinc 4 1, 3) := by decide +kernel
theorem dX3_tableOfLetter_49 : decode cX3_tableOfLetter 49 = .ok (.goto (-44), 3) := by decide +kernel
theorem dX3_tableOfLetter_52 : decode cX3_tableOfLetter 52 = .ok (.lload_n 2, 1) := by decide +kernel
theorem dX3_tableOfLetter_53 : decode cX3_tableOfLetter 53 = .ok (.lreturn, 1) := by decide +kernel
set_option maxRecDepth 20000 in
theorem ggX3_leavingLetter_X6_target : GoodIn wsX3_leavingLetter wsX6_target := goodIn_r _ [4] rfl (by decide +kernel)
set_option maxRecDepth 20000 in
theorem gX3_leavingLetter_X6_target : GoodIn wsX3_leavingLetter (va_wsS RX3 84 yX6_target wsX6_target) := goodIn_app (goodIn_of _ (by decide +kernel)) ggX3_leavingLetter_X6_target
set_option maxRecDepth 20000 in
theorem ggX3_leavingLetter_X6_goesRight : GoodIn wsX3_leavingLetter wsX6_goesRight := goodIn_r _ [7] rfl (by decide +kernel)
set_option maxRecDepth 20000 in
theorem gX3_leavingLetter_X6_goesRight : GoodIn wsX3_leavingLetter (va_wsS RX3 87 yX6_goesRight wsX6_goesRight) := goodIn_app (goodIn_of _ (by decide +kernel)) ggX3_leavingLetter_X6_goesRight
theorem dX3_leavingLetter_0 : decode cX3_leavingLetter 0 = .ok (.iload_n 0, 1) := by decide +kernel
theorem dX3_leavingLetter_1 : decode cX3_leavingLetter 1 = .ok (.iconst (-1), 1) := by decide +kernel
theorem dX3_leavingLetter_2 : decode cX3_leavingLetter 2 = .ok (.if_icmp .ne 8, 3) := by decide +kernel
theorem dX3_leavingLetter_5 : decode cX3_leavingLetter 5 = .ok (.bipush 10, 2) := by decide +kernel
theorem dX3_leavingLetter_7 : decode cX3_leavingLetter 7 = .ok (.goto 22, 3) := by decide +kernel
theorem dX3_leavingLetter_10 : decode cX3_leavingLetter 10 = .ok (.iconst 2, 1) := by decide +kernel
theorem dX3_leavingLetter_11 : decode cX3_leavingLetter 11 = .ok (.iload_n 0, 1) := by decide +kernel
theorem dX3_leavingLetter_12 : decode cX3_leavingLetter 12 = .ok (.invokestatic 84, 3) := by decide +kernel
theorem dX3_leavingLetter_15 : decode cX3_leavingLetter 15 = .ok (.imul, 1) := by decide +kernel
theorem dX3_leavingLetter_16 : decode cX3_leavingLetter 16 = .ok (.iload_n 0, 1) := by decide +kernel
theorem dX3_leavingLetter_17 : decode cX3_leavingLetter 17 = .ok (.invokestatic 87, 3) := by decide +kernel
theorem dX3_leavingLetter_20 : decode cX3_leavingLetter 20 = .ok (.ifCond .eq 7, 3) := by decide +kernel
theorem dX3_leavingLetter_23 : decode cX3_leavingLetter 23 = .ok (.iconst 1, 1) := by decide +kernel
theorem dX3_leavingLetter_24 : decode cX3_leavingLetter 24 = .ok (.goto 4, 3) := by decide +kernel
theorem dX3_leavingLetter_27 : decode cX3_leavingLetter 27 = .ok (.iconst 0, 1) := by decide +kernel
theorem dX3_leavingLetter_28 : decode cX3_leavingLetter 28 = .ok (.iadd, 1) := by decide +kernel
theorem dX3_leavingLetter_29 : decode cX3_leavingLetter 29 = .ok (.ireturn, 1) := by decide +kernel
theorem dX3_placed_0 : decode cX3_placed 0 = .ok (.iload_n 0, 1) := by decide +kernel
theorem dX3_placed_1 : decode cX3_placed 1 = .ok (.i2l, 1) := by decide +kernel
theorem dX3_placed_2 : decode cX3_placed 2 = .ok (.iconst 4, 1) := by decide +kernel
theorem dX3_placed_3 : decode cX3_placed 3 = .ok (.iload_n 1, 1) := by decide +kernel
theorem dX3_placed_4 : decode cX3_placed 4 = .ok (.iconst 5, 1) := by decide +kernel
theorem dX3_placed_5 : decode cX3_placed 5 = .ok (.imul, 1) := by decide +kernel
theorem dX3_placed_6 : decode cX3_placed 6 = .ok (.iload_n 2, 1) := by decide +kernel
theorem dX3_placed_7 : decode cX3_placed 7 = .ok (.iadd, 1) := by decide +kernel
theorem dX3_placed_8 : decode cX3_placed 8 = .ok (.imul, 1) := by decide +kernel
theorem dX3_placed_9 : decode cX3_placed 9 = .ok (.lshl, 1) := by decide +kernel
theorem dX3_placed_10 : decode cX3_placed 10 = .ok (.lreturn, 1) := by decide +kernel
set_option maxRecDepth 20000 in
theorem ggX3_joined_X3_entry : GoodIn wsX3_joined wsX3_entry := goodIn_r _ [4, 5] rfl (by decide +kernel)
set_option maxRecDepth 20000 in
theorem gX3_joined_X3_entry : GoodIn wsX3_joined (va_wsS RX3 91 yX3_entry wsX3_entry) := goodIn_app (goodIn_of _ (by decide +kernel)) ggX3_joined_X3_entry
set_option maxRecDepth 20000 in
theorem ggX3_joined_X3_leaving : GoodIn wsX3_joined wsX3_leaving := goodIn_r _ [8, 1, 2, 3, 4, 5] rfl (by decide +kernel)
set_option maxRecDepth 20000 in
theorem gX3_joined_X3_leaving : GoodIn wsX3_joined (va_wsS RX3 94 yX3_leaving wsX3_leaving) := goodIn_app (goodIn_of _ (by decide +kernel)) ggX3_joined_X3_leaving
set_option maxRecDepth 20000 in
theorem ggX3_joined_X3_placed : GoodIn wsX3_joined wsX3_placed := goodIn_r _ [11] rfl (by decide +kernel)
set_option maxRecDepth 20000 in
theorem gX3_joined_X3_placed : GoodIn wsX3_joined (va_wsS RX3 80 yX3_placed wsX3_placed) := goodIn_app (goodIn_of _ (by decide +kernel)) ggX3_joined_X3_placed
theorem dX3_joined_0 : decode cX3_joined 0 = .ok (.lconst 0, 1) := by decide +kernel
theorem dX3_joined_1 : decode cX3_joined 1 = .ok (.lstore 5, 2) := by decide +kernel
theorem dX3_joined_3 : decode cX3_joined 3 = .ok (.iconst 0, 1) := by decide +kernel
theorem dX3_joined_4 : decode cX3_joined 4 = .ok (.istore 7, 2) := by decide +kernel
theorem dX3_joined_6 : decode cX3_joined 6 = .ok (.iload 7, 2) := by decide +kernel
theorem dX3_joined_8 : decode cX3_joined 8 = .ok (.aload_n 0, 1) := by decide +kernel
theorem dX3_joined_9 : decode cX3_joined 9 = .ok (.getfield 69, 3) := by decide +kernel
theorem dX3_joined_12 : decode cX3_joined 12 = .ok (.if_icmp .ge 57, 3) := by decide +kernel
theorem dX3_joined_15 : decode cX3_joined 15 = .ok (.lload 5, 2) := by decide +kernel
theorem dX3_joined_17 : decode cX3_joined 17 = .ok (.lload_n 1, 1) := by decide +kernel
theorem dX3_joined_18 : decode cX3_joined 18 = .ok (.lload_n 3, 1) := by decide +kernel
theorem dX3_joined_19 : decode cX3_joined 19 = .ok (.iconst 1, 1) := by decide +kernel
theorem dX3_joined_20 : decode cX3_joined 20 = .ok (.lload_n 1, 1) := by decide +kernel
theorem dX3_joined_21 : decode cX3_joined 21 = .ok (.iconst 0, 1) := by decide +kernel
theorem dX3_joined_22 : decode cX3_joined 22 = .ok (.iload 7, 2) := by decide +kernel
theorem dX3_joined_24 : decode cX3_joined 24 = .ok (.invokestatic 91, 3) := by decide +kernel
theorem dX3_joined_27 : decode cX3_joined 27 = .ok (.invokestatic 94, 3) := by decide +kernel
theorem dX3_joined_30 : decode cX3_joined 30 = .ok (.iconst 0, 1) := by decide +kernel
theorem dX3_joined_31 : decode cX3_joined 31 = .ok (.iload 7, 2) := by decide +kernel
theorem dX3_joined_33 : decode cX3_joined 33 = .ok (.invokestatic 80, 3) := by decide +kernel
theorem dX3_joined_36 : decode cX3_joined 36 = .ok (.lor, 1) := by decide +kernel
theorem dX3_joined_37 : decode cX3_joined 37 = .ok (.lstore 5, 2) := by decide +kernel
theorem dX3_joined_39 : decode cX3_joined 39 = .ok (.lload 5, 2) := by decide +kernel
theorem dX3_joined_41 : decode cX3_joined 41 = .ok (.lload_n 1, 1) := by decide +kernel
theorem dX3_joined_42 : decode cX3_joined 42 = .ok (.lload_n 3, 1) := by decide +kernel
theorem dX3_joined_43 : decode cX3_joined 43 = .ok (.iconst 0, 1) := by decide +kernel
theorem dX3_joined_44 : decode cX3_joined 44 = .ok (.lload_n 3, 1) := by decide +kernel
theorem dX3_joined_45 : decode cX3_joined 45 = .ok (.iconst 1, 1) := by decide +kernel
theorem dX3_joined_46 : decode cX3_joined 46 = .ok (.iload 7, 2) := by decide +kernel
theorem dX3_joined_48 : decode cX3_joined 48 = .ok (.invokestatic 91, 3) := by decide +kernel
theorem dX3_joined_51 : decode cX3_joined 51 = .ok (.invokestatic 94, 3) := by decide +kernel
theorem dX3_joined_54 : decode cX3_joined 54 = .ok (.iconst 1, 1) := by decide +kernel
theorem dX3_joined_55 : decode cX3_joined 55 = .ok (.iload 7, 2) := by decide +kernel
theorem dX3_joined_57 : decode cX3_joined 57 = .ok (.invokestatic 80, 3) := by decide +kernel
theorem dX3_joined_60 : decode cX3_joined 60 = .ok (.lor, 1) := by decide +kernel
theorem dX3_joined_61 : decode cX3_joined 61 = .ok (.lstore 5, 2) := by decide +kernel
theorem dX3_joined_63 : decode cX3_joined 63 = .ok (.iinc 7 1, 3) := by decide +kernel
theorem dX3_joined_66 : decode cX3_joined 66 = .ok (.goto (-60), 3) := by decide +kernel
theorem dX3_joined_69 : decode cX3_joined 69 = .ok (.lload 5, 2) := by decide +kernel
theorem dX3_joined_71 : decode cX3_joined 71 = .ok (.lreturn, 1) := by decide +kernel
set_option maxRecDepth 20000 in
theorem ggX3_leaving_X3_entry : GoodIn wsX3_leaving wsX3_entry := goodIn_r _ [4, 5] rfl (by decide +kernel)
set_option maxRecDepth 20000 in
theorem gX3_leaving_X3_entry : GoodIn wsX3_leaving (va_wsS RX3 91 yX3_entry wsX3_entry) := goodIn_app (goodIn_of _ (by decide +kernel)) ggX3_leaving_X3_entry
theorem dX3_leaving_0 : decode cX3_leaving 0 = .ok (.iload 4, 2) := by decide +kernel
theorem dX3_leaving_2 : decode cX3_leaving 2 = .ok (.istore 6, 2) := by decide +kernel
theorem dX3_leaving_4 : decode cX3_leaving 4 = .ok (.iload 5, 2) := by decide +kernel
theorem dX3_leaving_6 : decode cX3_leaving 6 = .ok (.istore 7, 2) := by decide +kernel
theorem dX3_leaving_8 : decode cX3_leaving 8 = .ok (.iconst 0, 1) := by decide +kernel
theorem dX3_leaving_9 : decode cX3_leaving 9 = .ok (.istore 8, 2) := by decide +kernel
theorem dX3_leaving_11 : decode cX3_leaving 11 = .ok (.iload 8, 2) := by decide +kernel
theorem dX3_leaving_13 : decode cX3_leaving 13 = .ok (.bipush 10, 2) := by decide +kernel
theorem dX3_leaving_15 : decode cX3_leaving 15 = .ok (.if_icmp .gt 81, 3) := by decide +kernel
theorem dX3_leaving_18 : decode cX3_leaving 18 = .ok (.iload 7, 2) := by decide +kernel
theorem dX3_leaving_20 : decode cX3_leaving 20 = .ok (.iconst 1, 1) := by decide +kernel
theorem dX3_leaving_21 : decode cX3_leaving 21 = .ok (.iand, 1) := by decide +kernel
theorem dX3_leaving_22 : decode cX3_leaving 22 = .ok (.iconst 1, 1) := by decide +kernel
theorem dX3_leaving_23 : decode cX3_leaving 23 = .ok (.if_icmp .ne 7, 3) := by decide +kernel
theorem dX3_leaving_26 : decode cX3_leaving 26 = .ok (.iconst 1, 1) := by decide +kernel
theorem dX3_leaving_27 : decode cX3_leaving 27 = .ok (.goto 4, 3) := by decide +kernel
theorem dX3_leaving_30 : decode cX3_leaving 30 = .ok (.iconst 0, 1) := by decide +kernel
theorem dX3_leaving_31 : decode cX3_leaving 31 = .ok (.istore 9, 2) := by decide +kernel
theorem dX3_leaving_33 : decode cX3_leaving 33 = .ok (.iload 7, 2) := by decide +kernel
theorem dX3_leaving_35 : decode cX3_leaving 35 = .ok (.bipush 10, 2) := by decide +kernel
theorem dX3_leaving_37 : decode cX3_leaving 37 = .ok (.if_icmp .ge 10, 3) := by decide +kernel
theorem dX3_leaving_40 : decode cX3_leaving 40 = .ok (.iload 6, 2) := by decide +kernel
theorem dX3_leaving_42 : decode cX3_leaving 42 = .ok (.iload 9, 2) := by decide +kernel
theorem dX3_leaving_44 : decode cX3_leaving 44 = .ok (.if_icmp .eq 6, 3) := by decide +kernel
theorem dX3_leaving_47 : decode cX3_leaving 47 = .ok (.iload 7, 2) := by decide +kernel
theorem dX3_leaving_49 : decode cX3_leaving 49 = .ok (.ireturn, 1) := by decide +kernel
theorem dX3_leaving_50 : decode cX3_leaving 50 = .ok (.iload 6, 2) := by decide +kernel
theorem dX3_leaving_52 : decode cX3_leaving 52 = .ok (.ifCond .eq 15, 3) := by decide +kernel
theorem dX3_leaving_55 : decode cX3_leaving 55 = .ok (.lload_n 2, 1) := by decide +kernel
theorem dX3_leaving_56 : decode cX3_leaving 56 = .ok (.iconst 0, 1) := by decide +kernel
theorem dX3_leaving_57 : decode cX3_leaving 57 = .ok (.iload 7, 2) := by decide +kernel
theorem dX3_leaving_59 : decode cX3_leaving 59 = .ok (.iconst 1, 1) := by decide +kernel
theorem dX3_leaving_60 : decode cX3_leaving 60 = .ok (.ishr, 1) := by decide +kernel
theorem dX3_leaving_61 : decode cX3_leaving 61 = .ok (.invokestatic 91, 3) := by decide +kernel
theorem dX3_leaving_64 : decode cX3_leaving 64 = .ok (.goto 12, 3) := by decide +kernel
theorem dX3_leaving_67 : decode cX3_leaving 67 = .ok (.lload_n 0, 1) := by decide +kernel
theorem dX3_leaving_68 : decode cX3_leaving 68 = .ok (.iconst 1, 1) := by decide +kernel
theorem dX3_leaving_69 : decode cX3_leaving 69 = .ok (.iload 7, 2) := by decide +kernel
theorem dX3_leaving_71 : decode cX3_leaving 71 = .ok (.iconst 1, 1) := by decide +kernel
theorem dX3_leaving_72 : decode cX3_leaving 72 = .ok (.ishr, 1) := by decide +kernel
theorem dX3_leaving_73 : decode cX3_leaving 73 = .ok (.invokestatic 91, 3) := by decide +kernel
theorem dX3_leaving_76 : decode cX3_leaving 76 = .ok (.istore 7, 2) := by decide +kernel
theorem dX3_leaving_78 : decode cX3_leaving 78 = .ok (.iload 6, 2) := by decide +kernel
theorem dX3_leaving_80 : decode cX3_leaving 80 = .ok (.ifCond .ne 7, 3) := by decide +kernel
theorem dX3_leaving_83 : decode cX3_leaving 83 = .ok (.iconst 1, 1) := by decide +kernel
theorem dX3_leaving_84 : decode cX3_leaving 84 = .ok (.goto 4, 3) := by decide +kernel
theorem dX3_leaving_87 : decode cX3_leaving 87 = .ok (.iconst 0, 1) := by decide +kernel
theorem dX3_leaving_88 : decode cX3_leaving 88 = .ok (.istore 6, 2) := by decide +kernel
theorem dX3_leaving_90 : decode cX3_leaving 90 = .ok (.iinc 8 1, 3) := by decide +kernel
theorem dX3_leaving_93 : decode cX3_leaving 93 = .ok (.goto (-82), 3) := by decide +kernel
theorem dX3_leaving_96 : decode cX3_leaving 96 = .ok (.bipush 11, 2) := by decide +kernel
theorem dX3_leaving_98 : decode cX3_leaving 98 = .ok (.ireturn, 1) := by decide +kernel
set_option maxRecDepth 20000 in
theorem ggX4_init_X2_init : GoodIn wsX4_init wsX2_init := goodIn_r _ [22, 23, 2, 3, 24, 25, 26, 27, 28, 29, 30, 31, 32, 33, 4, 34, 47, 48, 49] rfl (by decide +kernel)
set_option maxRecDepth 20000 in
theorem gX4_init_X2_init : GoodIn wsX4_init (wsX2_init) := ggX4_init_X2_init
theorem dX4_init_0 : decode cX4_init 0 = .ok (.aload_n 0, 1) := by decide +kernel
theorem dX4_init_1 : decode cX4_init 1 = .ok (.invokespecial 3, 3) := by decide +kernel
theorem dX4_init_4 : decode cX4_init 4 = .ok (.aload_n 0, 1) := by decide +kernel
theorem dX4_init_5 : decode cX4_init 5 = .ok (.sipush 800, 3) := by decide +kernel
theorem dX4_init_8 : decode cX4_init 8 = .ok (.newarray .int, 2) := by decide +kernel
theorem dX4_init_10 : decode cX4_init 10 = .ok (.putfield 9, 3) := by decide +kernel
theorem dX4_init_13 : decode cX4_init 13 = .ok (.aload_n 0, 1) := by decide +kernel
theorem dX4_init_14 : decode cX4_init 14 = .ok (.sipush 800, 3) := by decide +kernel
theorem dX4_init_17 : decode cX4_init 17 = .ok (.newarray .int, 2) := by decide +kernel
theorem dX4_init_19 : decode cX4_init 19 = .ok (.putfield 15, 3) := by decide +kernel
theorem dX4_init_22 : decode cX4_init 22 = .ok (.aload_n 0, 1) := by decide +kernel
theorem dX4_init_23 : decode cX4_init 23 = .ok (.new 18, 3) := by decide +kernel
theorem dX4_init_26 : decode cX4_init 26 = .ok (.dup, 1) := by decide +kernel
theorem dX4_init_27 : decode cX4_init 27 = .ok (.sipush 800, 3) := by decide +kernel
theorem dX4_init_30 : decode cX4_init 30 = .ok (.invokespecial 20, 3) := by decide +kernel
theorem dX4_init_33 : decode cX4_init 33 = .ok (.putfield 23, 3) := by decide +kernel
theorem dX4_init_36 : decode cX4_init 36 = .ok (.aload_n 0, 1) := by decide +kernel
theorem dX4_init_37 : decode cX4_init 37 = .ok (.iconst 0, 1) := by decide +kernel
theorem dX4_init_38 : decode cX4_init 38 = .ok (.putfield 27, 3) := by decide +kernel
theorem dX4_init_41 : decode cX4_init 41 = .ok (.aload_n 0, 1) := by decide +kernel
theorem dX4_init_42 : decode cX4_init 42 = .ok (.sipush 2400, 3) := by decide +kernel
theorem dX4_init_45 : decode cX4_init 45 = .ok (.newarray .int, 2) := by decide +kernel
theorem dX4_init_47 : decode cX4_init 47 = .ok (.putfield 31, 3) := by decide +kernel
theorem dX4_init_50 : decode cX4_init 50 = .ok (.aload_n 0, 1) := by decide +kernel
theorem dX4_init_51 : decode cX4_init 51 = .ok (.sipush 10400, 3) := by decide +kernel
theorem dX4_init_54 : decode cX4_init 54 = .ok (.newarray .int, 2) := by decide +kernel
theorem dX4_init_56 : decode cX4_init 56 = .ok (.putfield 34, 3) := by decide +kernel
theorem dX4_init_59 : decode cX4_init 59 = .ok (.aload_n 0, 1) := by decide +kernel
theorem dX4_init_60 : decode cX4_init 60 = .ok (.sipush 10001, 3) := by decide +kernel
theorem dX4_init_63 : decode cX4_init 63 = .ok (.newarray .int, 2) := by decide +kernel
theorem dX4_init_65 : decode cX4_init 65 = .ok (.putfield 37, 3) := by decide +kernel
theorem dX4_init_68 : decode cX4_init 68 = .ok (.aload_n 0, 1) := by decide +kernel
theorem dX4_init_69 : decode cX4_init 69 = .ok (.iconst 0, 1) := by decide +kernel
theorem dX4_init_70 : decode cX4_init 70 = .ok (.putfield 40, 3) := by decide +kernel
theorem dX4_init_73 : decode cX4_init 73 = .ok (.aload_n 0, 1) := by decide +kernel
theorem dX4_init_74 : decode cX4_init 74 = .ok (.sipush 800, 3) := by decide +kernel
theorem dX4_init_77 : decode cX4_init 77 = .ok (.newarray .int, 2) := by decide +kernel
theorem dX4_init_79 : decode cX4_init 79 = .ok (.putfield 43, 3) := by decide +kernel
theorem dX4_init_82 : decode cX4_init 82 = .ok (.aload_n 0, 1) := by decide +kernel
theorem dX4_init_83 : decode cX4_init 83 = .ok (.sipush 800, 3) := by decide +kernel
theorem dX4_init_86 : decode cX4_init 86 = .ok (.newarray .int, 2) := by decide +kernel
theorem dX4_init_88 : decode cX4_init 88 = .ok (.putfield 46, 3) := by decide +kernel
theorem dX4_init_91 : decode cX4_init 91 = .ok (.aload_n 0, 1) := by decide +kernel
theorem dX4_init_92 : decode cX4_init 92 = .ok (.iconst (-1), 1) := by decide +kernel
theorem dX4_init_93 : decode cX4_init 93 = .ok (.putfield 49, 3) := by decide +kernel
theorem dX4_init_96 : decode cX4_init 96 = .ok (.aload_n 0, 1) := by decide +kernel
theorem dX4_init_97 : decode cX4_init 97 = .ok (.aload_n 1, 1) := by decide +kernel
theorem dX4_init_98 : decode cX4_init 98 = .ok (.putfield 52, 3) := by decide +kernel
theorem dX4_init_101 : decode cX4_init 101 = .ok (.return_, 1) := by decide +kernel
set_option maxRecDepth 20000 in
theorem ggX4_renew_X4_part : GoodIn wsX4_renew wsX4_part := goodIn_r _ [14, 2, 15, 16, 17, 18, 19, 20, 21, 22, 23, 24, 25, 26, 27, 28, 29, 30, 31, 32, 33, 34, 35, 36, 37, 38, 39, 40, 41, 42, 43, 44, 45, 46, 47, 48, 49, 50, 51, 52, 53, 54, 55, 13, 56, 57, 58, 6, 7, 8, 9, 59, 60, 61, 62, 63, 64, 65, 66, 67, 68, 90, 91, 92, 93, 94, 95, 96, 97, 98, 99, 100, 101, 102, 103, 104, 105, 106, 107, 108, 109, 110, 111, 112, 113, 114] rfl (by decide +kernel)
set_option maxRecDepth 20000 in
theorem gX4_renew_X4_part : GoodIn wsX4_renew (wsV RX4 59 RX4 yX4_part wsX4_part) := goodIn_app (goodIn_of _ (by decide +kernel)) ggX4_renew_X4_part
set_option maxRecDepth 20000 in
theorem ggX4_renew_X4_link : GoodIn wsX4_renew wsX4_link := goodIn_r _ [72, 4, 2, 16, 73, 74, 30, 31, 32, 33, 34, 35, 36, 37, 38, 59, 60, 61, 13, 62, 63, 64, 65, 66, 67, 68, 18, 19, 20, 90, 91, 92, 93, 94, 95, 96, 97, 98, 99, 100, 101, 102, 103, 104, 105, 106, 107, 108, 109, 110, 111, 112, 113, 114] rfl (by decide +kernel)
set_option maxRecDepth 20000 in
theorem gX4_renew_X4_link : GoodIn wsX4_renew (wsV RX4 62 RX4 yX4_link wsX4_link) := goodIn_app (goodIn_of _ (by decide +kernel)) ggX4_renew_X4_link
set_option maxRecDepth 20000 in
theorem ggX4_renew_X4_countShort : GoodIn wsX4_renew wsX4_countShort := goodIn_r _ [78, 21, 4, 79, 80, 81, 13, 82, 73, 83, 84, 85, 86, 87, 88, 89, 90, 91, 92, 93, 94, 95, 96, 97, 98, 99, 100, 101] rfl (by decide +kernel)
set_option maxRecDepth 20000 in
theorem gX4_renew_X4_countShort : GoodIn wsX4_renew (wsV RX4 65 RX4 yX4_countShort wsX4_countShort) := goodIn_app (goodIn_of _ (by decide +kernel)) ggX4_renew_X4_countShort
theorem dX4_renew_0 : decode cX4_renew 0 = .ok (.aload_n 0, 1) := by decide +kernel
theorem dX4_renew_1 : decode cX4_renew 1 = .ok (.getfield 49, 3) := by decide +kernel
theorem dX4_renew_4 : decode cX4_renew 4 = .ok (.aload_n 0, 1) := by decide +kernel
theorem dX4_renew_5 : decode cX4_renew 5 = .ok (.getfield 52, 3) := by decide +kernel
theorem dX4_renew_8 : decode cX4_renew 8 = .ok (.getfield 56, 3) := by decide +kernel
theorem dX4_renew_11 : decode cX4_renew 11 = .ok (.if_icmp .ne 4, 3) := by decide +kernel
theorem dX4_renew_14 : decode cX4_renew 14 = .ok (.return_, 1) := by decide +kernel
theorem dX4_renew_15 : decode cX4_renew 15 = .ok (.aload_n 0, 1) := by decide +kernel
theorem dX4_renew_16 : decode cX4_renew 16 = .ok (.aload_n 0, 1) := by decide +kernel
theorem dX4_renew_17 : decode cX4_renew 17 = .ok (.getfield 52, 3) := by decide +kernel
theorem dX4_renew_20 : decode cX4_renew 20 = .ok (.getfield 56, 3) := by decide +kernel
theorem dX4_renew_23 : decode cX4_renew 23 = .ok (.putfield 49, 3) := by decide +kernel
theorem dX4_renew_26 : decode cX4_renew 26 = .ok (.aload_n 0, 1) := by decide +kernel
theorem dX4_renew_27 : decode cX4_renew 27 = .ok (.invokevirtual 59, 3) := by decide +kernel
theorem dX4_renew_30 : decode cX4_renew 30 = .ok (.aload_n 0, 1) := by decide +kernel
theorem dX4_renew_31 : decode cX4_renew 31 = .ok (.invokevirtual 62, 3) := by decide +kernel
theorem dX4_renew_34 : decode cX4_renew 34 = .ok (.aload_n 0, 1) := by decide +kernel
theorem dX4_renew_35 : decode cX4_renew 35 = .ok (.invokevirtual 65, 3) := by decide +kernel
theorem dX4_renew_38 : decode cX4_renew 38 = .ok (.aload_n 0, 1) := by decide +kernel
theorem dX4_renew_39 : decode cX4_renew 39 = .ok (.iconst 0, 1) := by decide +kernel
theorem dX4_renew_40 : decode cX4_renew 40 = .ok (.putfield 40, 3) := by decide +kernel
theorem dX4_renew_43 : decode cX4_renew 43 = .ok (.aload_n 0, 1) := by decide +kernel
theorem dX4_renew_44 : decode cX4_renew 44 = .ok (.getfield 34, 3) := by decide +kernel
theorem dX4_renew_47 : decode cX4_renew 47 = .ok (.iconst 0, 1) := by decide +kernel
theorem dX4_renew_48 : decode cX4_renew 48 = .ok (.aload_n 0, 1) := by decide +kernel
theorem dX4_renew_49 : decode cX4_renew 49 = .ok (.getfield 43, 3) := by decide +kernel
theorem dX4_renew_52 : decode cX4_renew 52 = .ok (.iconst 0, 1) := by decide +kernel
theorem dX4_renew_53 : decode cX4_renew 53 = .ok (.sipush 800, 3) := by decide +kernel
theorem dX4_renew_56 : decode cX4_renew 56 = .ok (.invokestatic 68, 3) := by decide +kernel
theorem dX4_renew_59 : decode cX4_renew 59 = .ok (.return_, 1) := by decide +kernel
set_option maxRecDepth 20000 in
theorem ggX4_takenOfLength_X4_lengthen : GoodIn wsX4_takenOfLength wsX4_lengthen := goodIn_r _ [8, 9, 10, 3, 11, 12, 13, 14, 7, 15, 16, 17, 18, 19, 20, 21, 22, 23, 24, 25, 26, 27, 28, 29, 30, 31] rfl (by decide +kernel)
set_option maxRecDepth 20000 in
theorem gX4_takenOfLength_X4_lengthen : GoodIn wsX4_takenOfLength (wsV RX4 74 RX4 yX4_lengthen wsX4_lengthen) := goodIn_app (goodIn_of _ (by decide +kernel)) ggX4_takenOfLength_X4_lengthen
theorem dX4_takenOfLength_0 : decode cX4_takenOfLength 0 = .ok (.aload_n 0, 1) := by decide +kernel
theorem dX4_takenOfLength_1 : decode cX4_takenOfLength 1 = .ok (.getfield 40, 3) := by decide +kernel
theorem dX4_takenOfLength_4 : decode cX4_takenOfLength 4 = .ok (.istore_n 2, 1) := by decide +kernel
theorem dX4_takenOfLength_5 : decode cX4_takenOfLength 5 = .ok (.iload_n 2, 1) := by decide +kernel
theorem dX4_takenOfLength_6 : decode cX4_takenOfLength 6 = .ok (.iload_n 1, 1) := by decide +kernel
theorem dX4_takenOfLength_7 : decode cX4_takenOfLength 7 = .ok (.if_icmp .gt 39, 3) := by decide +kernel
theorem dX4_takenOfLength_10 : decode cX4_takenOfLength 10 = .ok (.iload_n 2, 1) := by decide +kernel
theorem dX4_takenOfLength_11 : decode cX4_takenOfLength 11 = .ok (.sipush 10000, 3) := by decide +kernel
theorem dX4_takenOfLength_14 : decode cX4_takenOfLength 14 = .ok (.if_icmp .gt 32, 3) := by decide +kernel
theorem dX4_takenOfLength_17 : decode cX4_takenOfLength 17 = .ok (.aload_n 0, 1) := by decide +kernel
theorem dX4_takenOfLength_18 : decode cX4_takenOfLength 18 = .ok (.getfield 37, 3) := by decide +kernel
theorem dX4_takenOfLength_21 : decode cX4_takenOfLength 21 = .ok (.iload_n 2, 1) := by decide +kernel
theorem dX4_takenOfLength_22 : decode cX4_takenOfLength 22 = .ok (.aload_n 0, 1) := by decide +kernel
theorem dX4_takenOfLength_23 : decode cX4_takenOfLength 23 = .ok (.getfield 43, 3) := by decide +kernel
theorem dX4_takenOfLength_26 : decode cX4_takenOfLength 26 = .ok (.iconst 0, 1) := by decide +kernel
theorem dX4_takenOfLength_27 : decode cX4_takenOfLength 27 = .ok (.iaload, 1) := by decide +kernel
theorem dX4_takenOfLength_28 : decode cX4_takenOfLength 28 = .ok (.iastore, 1) := by decide +kernel
theorem dX4_takenOfLength_29 : decode cX4_takenOfLength 29 = .ok (.aload_n 0, 1) := by decide +kernel
theorem dX4_takenOfLength_30 : decode cX4_takenOfLength 30 = .ok (.iload_n 2, 1) := by decide +kernel
theorem dX4_takenOfLength_31 : decode cX4_takenOfLength 31 = .ok (.iconst 1, 1) := by decide +kernel
theorem dX4_takenOfLength_32 : decode cX4_takenOfLength 32 = .ok (.iadd, 1) := by decide +kernel
theorem dX4_takenOfLength_33 : decode cX4_takenOfLength 33 = .ok (.putfield 40, 3) := by decide +kernel
theorem dX4_takenOfLength_36 : decode cX4_takenOfLength 36 = .ok (.aload_n 0, 1) := by decide +kernel
theorem dX4_takenOfLength_37 : decode cX4_takenOfLength 37 = .ok (.invokevirtual 74, 3) := by decide +kernel
theorem dX4_takenOfLength_40 : decode cX4_takenOfLength 40 = .ok (.iinc 2 1, 3) := by decide +kernel
theorem dX4_takenOfLength_43 : decode cX4_takenOfLength 43 = .ok (.goto (-38), 3) := by decide +kernel
theorem dX4_takenOfLength_46 : decode cX4_takenOfLength 46 = .ok (.iload_n 1, 1) := by decide +kernel
theorem dX4_takenOfLength_47 : decode cX4_takenOfLength 47 = .ok (.ifCond .lt 19, 3) := by decide +kernel
theorem dX4_takenOfLength_50 : decode cX4_takenOfLength 50 = .ok (.iload_n 1, 1) := by decide +kernel
theorem dX4_takenOfLength_51 : decode cX4_takenOfLength 51 = .ok (.sipush 10000, 3) := by decide +kernel
theorem dX4_takenOfLength_54 : decode cX4_takenOfLength 54 = .ok (.if_icmp .gt 12, 3) := by decide +kernel
theorem dX4_takenOfLength_57 : decode cX4_takenOfLength 57 = .ok (.aload_n 0, 1) := by decide +kernel
theorem dX4_takenOfLength_58 : decode cX4_takenOfLength 58 = .ok (.getfield 37, 3) := by decide +kernel
theorem dX4_takenOfLength_61 : decode cX4_takenOfLength 61 = .ok (.iload_n 1, 1) := by decide +kernel
theorem dX4_takenOfLength_62 : decode cX4_takenOfLength 62 = .ok (.iaload, 1) := by decide +kernel
theorem dX4_takenOfLength_63 : decode cX4_takenOfLength 63 = .ok (.goto 4, 3) := by decide +kernel
theorem dX4_takenOfLength_66 : decode cX4_takenOfLength 66 = .ok (.iconst (-1), 1) := by decide +kernel
theorem dX4_takenOfLength_67 : decode cX4_takenOfLength 67 = .ok (.ireturn, 1) := by decide +kernel
set_option maxRecDepth 20000 in
theorem ggX4_letterOfTaken_X4_waysFrom : GoodIn wsX4_letterOfTaken wsX4_waysFrom := goodIn_r _ [5, 6, 7, 16, 17, 18, 19, 20, 21, 22, 23, 24, 25, 26, 27] rfl (by decide +kernel)
set_option maxRecDepth 20000 in
theorem gX4_letterOfTaken_X4_waysFrom : GoodIn wsX4_letterOfTaken (wsV RX4 77 RX4 yX4_waysFrom wsX4_waysFrom) := goodIn_app (goodIn_of _ (by decide +kernel)) ggX4_letterOfTaken_X4_waysFrom
set_option maxRecDepth 20000 in
theorem ggX4_letterOfTaken_X4_next : GoodIn wsX4_letterOfTaken wsX4_next := goodIn_r _ [11, 6, 12, 13, 14, 15, 16, 17, 18, 19, 20, 21, 22, 23, 24, 25, 26, 27] rfl (by decide +kernel)
set_option maxRecDepth 20000 in
theorem gX4_letterOfTaken_X4_next : GoodIn wsX4_letterOfTaken (wsV RX4 81 RX4 yX4_next wsX4_next) := goodIn_app (goodIn_of _ (by decide +kernel)) ggX4_letterOfTaken_X4_next
theorem dX4_letterOfTaken_0 : decode cX4_letterOfTaken 0 = .ok (.iload_n 3, 1) := by decide +kernel
theorem dX4_letterOfTaken_1 : decode cX4_letterOfTaken 1 = .ok (.iload_n 1, 1) := by decide +kernel
theorem dX4_letterOfTaken_2 : decode cX4_letterOfTaken 2 = .ok (.if_icmp .ge 13, 3) := by decide +kernel
theorem dX4_letterOfTaken_5 : decode cX4_letterOfTaken 5 = .ok (.iload_n 2, 1) := by decide +kernel
theorem dX4_letterOfTaken_6 : decode cX4_letterOfTaken 6 = .ok (.aload_n 0, 1) := by decide +kernel
theorem dX4_letterOfTaken_7 : decode cX4_letterOfTaken 7 = .ok (.iconst 0, 1) := by decide +kernel
theorem dX4_letterOfTaken_8 : decode cX4_letterOfTaken 8 = .ok (.iload_n 1, 1) := by decide +kernel
theorem dX4_letterOfTaken_9 : decode cX4_letterOfTaken 9 = .ok (.invokevirtual 77, 3) := by decide +kernel
theorem dX4_letterOfTaken_12 : decode cX4_letterOfTaken 12 = .ok (.if_icmp .lt 5, 3) := by decide +kernel
theorem dX4_letterOfTaken_15 : decode cX4_letterOfTaken 15 = .ok (.iconst (-1), 1) := by decide +kernel
theorem dX4_letterOfTaken_16 : decode cX4_letterOfTaken 16 = .ok (.ireturn, 1) := by decide +kernel
theorem dX4_letterOfTaken_17 : decode cX4_letterOfTaken 17 = .ok (.iconst 0, 1) := by decide +kernel
theorem dX4_letterOfTaken_18 : decode cX4_letterOfTaken 18 = .ok (.istore 4, 2) := by decide +kernel
theorem dX4_letterOfTaken_20 : decode cX4_letterOfTaken 20 = .ok (.iload_n 2, 1) := by decide +kernel
theorem dX4_letterOfTaken_21 : decode cX4_letterOfTaken 21 = .ok (.istore 5, 2) := by decide +kernel
theorem dX4_letterOfTaken_23 : decode cX4_letterOfTaken 23 = .ok (.iconst 0, 1) := by decide +kernel
theorem dX4_letterOfTaken_24 : decode cX4_letterOfTaken 24 = .ok (.istore 6, 2) := by decide +kernel
theorem dX4_letterOfTaken_26 : decode cX4_letterOfTaken 26 = .ok (.iconst 0, 1) := by decide +kernel
theorem dX4_letterOfTaken_27 : decode cX4_letterOfTaken 27 = .ok (.istore 7, 2) := by decide +kernel
theorem dX4_letterOfTaken_29 : decode cX4_letterOfTaken 29 = .ok (.iload 7, 2) := by decide +kernel
theorem dX4_letterOfTaken_31 : decode cX4_letterOfTaken 31 = .ok (.iload_n 3, 1) := by decide +kernel
theorem dX4_letterOfTaken_32 : decode cX4_letterOfTaken 32 = .ok (.if_icmp .gt 77, 3) := by decide +kernel
theorem dX4_letterOfTaken_35 : decode cX4_letterOfTaken 35 = .ok (.iconst 0, 1) := by decide +kernel
theorem dX4_letterOfTaken_36 : decode cX4_letterOfTaken 36 = .ok (.istore 6, 2) := by decide +kernel
theorem dX4_letterOfTaken_38 : decode cX4_letterOfTaken 38 = .ok (.iconst 1, 1) := by decide +kernel
theorem dX4_letterOfTaken_39 : decode cX4_letterOfTaken 39 = .ok (.istore 8, 2) := by decide +kernel
theorem dX4_letterOfTaken_41 : decode cX4_letterOfTaken 41 = .ok (.iload 8, 2) := by decide +kernel
theorem dX4_letterOfTaken_43 : decode cX4_letterOfTaken 43 = .ok (.iconst 3, 1) := by decide +kernel
theorem dX4_letterOfTaken_44 : decode cX4_letterOfTaken 44 = .ok (.if_icmp .ge 49, 3) := by decide +kernel
theorem dX4_letterOfTaken_47 : decode cX4_letterOfTaken 47 = .ok (.aload_n 0, 1) := by decide +kernel
theorem dX4_letterOfTaken_48 : decode cX4_letterOfTaken 48 = .ok (.aload_n 0, 1) := by decide +kernel
theorem dX4_letterOfTaken_49 : decode cX4_letterOfTaken 49 = .ok (.iload 4, 2) := by decide +kernel
theorem dX4_letterOfTaken_51 : decode cX4_letterOfTaken 51 = .ok (.iload 6, 2) := by decide +kernel
theorem dX4_letterOfTaken_53 : decode cX4_letterOfTaken 53 = .ok (.invokevirtual 81, 3) := by decide +kernel
theorem dX4_letterOfTaken_56 : decode cX4_letterOfTaken 56 = .ok (.iload_n 1, 1) := by decide +kernel
theorem dX4_letterOfTaken_57 : decode cX4_letterOfTaken 57 = .ok (.iload 7, 2) := by decide +kernel
theorem dX4_letterOfTaken_59 : decode cX4_letterOfTaken 59 = .ok (.isub, 1) := by decide +kernel
theorem dX4_letterOfTaken_60 : decode cX4_letterOfTaken 60 = .ok (.iconst 1, 1) := by decide +kernel
theorem dX4_letterOfTaken_61 : decode cX4_letterOfTaken 61 = .ok (.isub, 1) := by decide +kernel
theorem dX4_letterOfTaken_62 : decode cX4_letterOfTaken 62 = .ok (.invokevirtual 77, 3) := by decide +kernel
theorem dX4_letterOfTaken_65 : decode cX4_letterOfTaken 65 = .ok (.istore 9, 2) := by decide +kernel
theorem dX4_letterOfTaken_67 : decode cX4_letterOfTaken 67 = .ok (.iload 5, 2) := by decide +kernel
theorem dX4_letterOfTaken_69 : decode cX4_letterOfTaken 69 = .ok (.iload 9, 2) := by decide +kernel
theorem dX4_letterOfTaken_71 : decode cX4_letterOfTaken 71 = .ok (.if_icmp .ge 6, 3) := by decide +kernel
theorem dX4_letterOfTaken_74 : decode cX4_letterOfTaken 74 = .ok (.goto 19, 3) := by decide +kernel
theorem dX4_letterOfTaken_77 : decode cX4_letterOfTaken 77 = .ok (.iload 5, 2) := by decide +kernel
theorem dX4_letterOfTaken_79 : decode cX4_letterOfTaken 79 = .ok (.iload 9, 2) := by decide +kernel
theorem dX4_letterOfTaken_81 : decode cX4_letterOfTaken 81 = .ok (.isub, 1) := by decide +kernel
theorem dX4_letterOfTaken_82 : decode cX4_letterOfTaken 82 = .ok (.istore 5, 2) := by decide +kernel
theorem dX4_letterOfTaken_84 : decode cX4_letterOfTaken 84 = .ok (.iinc 6 1, 3) := by decide +kernel
theorem dX4_letterOfTaken_87 : decode cX4_letterOfTaken 87 = .ok (.iinc 8 1, 3) := by decide +kernel
theorem dX4_letterOfTaken_90 : decode cX4_letterOfTaken 90 = .ok (.goto (-49), 3) := by decide +kernel
theorem dX4_letterOfTaken_93 : decode cX4_letterOfTaken 93 = .ok (.aload_n 0, 1) := by decide +kernel
theorem dX4_letterOfTaken_94 : decode cX4_letterOfTaken 94 = .ok (.iload 4, 2) := by decide +kernel
theorem dX4_letterOfTaken_96 : decode cX4_letterOfTaken 96 = .ok (.iload 6, 2) := by decide +kernel
theorem dX4_letterOfTaken_98 : decode cX4_letterOfTaken 98 = .ok (.invokevirtual 81, 3) := by decide +kernel
theorem dX4_letterOfTaken_101 : decode cX4_letterOfTaken 101 = .ok (.istore 4, 2) := by decide +kernel
theorem dX4_letterOfTaken_103 : decode cX4_letterOfTaken 103 = .ok (.iinc 7 1, 3) := by decide +kernel
theorem dX4_letterOfTaken_106 : decode cX4_letterOfTaken 106 = .ok (.goto (-77), 3) := by decide +kernel
theorem dX4_letterOfTaken_109 : decode cX4_letterOfTaken 109 = .ok (.iload 6, 2) := by decide +kernel
theorem dX4_letterOfTaken_111 : decode cX4_letterOfTaken 111 = .ok (.ireturn, 1) := by decide +kernel
set_option maxRecDepth 20000 in
theorem ggX4_placeOfRow_X4_next : GoodIn wsX4_placeOfRow wsX4_next := goodIn_r _ [5, 6, 7, 8, 9, 10, 16, 17, 18, 19, 20, 21, 22, 23, 24, 25, 26, 27] rfl (by decide +kernel)
set_option maxRecDepth 20000 in
theorem gX4_placeOfRow_X4_next : GoodIn wsX4_placeOfRow (wsV RX4 81 RX4 yX4_next wsX4_next) := goodIn_app (goodIn_of _ (by decide +kernel)) ggX4_placeOfRow_X4_next
set_option maxRecDepth 20000 in
theorem ggX4_placeOfRow_X4_waysFrom : GoodIn wsX4_placeOfRow wsX4_waysFrom := goodIn_r _ [14, 6, 15, 16, 17, 18, 19, 20, 21, 22, 23, 24, 25, 26, 27] rfl (by decide +kernel)
set_option maxRecDepth 20000 in
theorem gX4_placeOfRow_X4_waysFrom : GoodIn wsX4_placeOfRow (wsV RX4 77 RX4 yX4_waysFrom wsX4_waysFrom) := goodIn_app (goodIn_of _ (by decide +kernel)) ggX4_placeOfRow_X4_waysFrom
theorem dX4_placeOfRow_0 : decode cX4_placeOfRow 0 = .ok (.iconst 0, 1) := by decide +kernel
theorem dX4_placeOfRow_1 : decode cX4_placeOfRow 1 = .ok (.istore_n 3, 1) := by decide +kernel
theorem dX4_placeOfRow_2 : decode cX4_placeOfRow 2 = .ok (.iconst 0, 1) := by decide +kernel
theorem dX4_placeOfRow_3 : decode cX4_placeOfRow 3 = .ok (.istore 4, 2) := by decide +kernel
theorem dX4_placeOfRow_5 : decode cX4_placeOfRow 5 = .ok (.iconst 0, 1) := by decide +kernel
theorem dX4_placeOfRow_6 : decode cX4_placeOfRow 6 = .ok (.istore 5, 2) := by decide +kernel
theorem dX4_placeOfRow_8 : decode cX4_placeOfRow 8 = .ok (.iload 5, 2) := by decide +kernel
theorem dX4_placeOfRow_10 : decode cX4_placeOfRow 10 = .ok (.iload_n 2, 1) := by decide +kernel
theorem dX4_placeOfRow_11 : decode cX4_placeOfRow 11 = .ok (.if_icmp .ge 66, 3) := by decide +kernel
theorem dX4_placeOfRow_14 : decode cX4_placeOfRow 14 = .ok (.iload 5, 2) := by decide +kernel
theorem dX4_placeOfRow_16 : decode cX4_placeOfRow 16 = .ok (.aload_n 1, 1) := by decide +kernel
theorem dX4_placeOfRow_17 : decode cX4_placeOfRow 17 = .ok (.arraylength, 1) := by decide +kernel
theorem dX4_placeOfRow_18 : decode cX4_placeOfRow 18 = .ok (.if_icmp .ge 59, 3) := by decide +kernel
theorem dX4_placeOfRow_21 : decode cX4_placeOfRow 21 = .ok (.iconst 0, 1) := by decide +kernel
theorem dX4_placeOfRow_22 : decode cX4_placeOfRow 22 = .ok (.istore 6, 2) := by decide +kernel
theorem dX4_placeOfRow_24 : decode cX4_placeOfRow 24 = .ok (.iload 6, 2) := by decide +kernel
theorem dX4_placeOfRow_26 : decode cX4_placeOfRow 26 = .ok (.aload_n 1, 1) := by decide +kernel
theorem dX4_placeOfRow_27 : decode cX4_placeOfRow 27 = .ok (.iload 5, 2) := by decide +kernel
theorem dX4_placeOfRow_29 : decode cX4_placeOfRow 29 = .ok (.iaload, 1) := by decide +kernel
theorem dX4_placeOfRow_30 : decode cX4_placeOfRow 30 = .ok (.if_icmp .ge 31, 3) := by decide +kernel
theorem dX4_placeOfRow_33 : decode cX4_placeOfRow 33 = .ok (.iload 4, 2) := by decide +kernel
theorem dX4_placeOfRow_35 : decode cX4_placeOfRow 35 = .ok (.aload_n 0, 1) := by decide +kernel
theorem dX4_placeOfRow_36 : decode cX4_placeOfRow 36 = .ok (.aload_n 0, 1) := by decide +kernel
theorem dX4_placeOfRow_37 : decode cX4_placeOfRow 37 = .ok (.iload_n 3, 1) := by decide +kernel
theorem dX4_placeOfRow_38 : decode cX4_placeOfRow 38 = .ok (.iload 6, 2) := by decide +kernel
theorem dX4_placeOfRow_40 : decode cX4_placeOfRow 40 = .ok (.invokevirtual 81, 3) := by decide +kernel
theorem dX4_placeOfRow_43 : decode cX4_placeOfRow 43 = .ok (.iload_n 2, 1) := by decide +kernel
theorem dX4_placeOfRow_44 : decode cX4_placeOfRow 44 = .ok (.iload 5, 2) := by decide +kernel
theorem dX4_placeOfRow_46 : decode cX4_placeOfRow 46 = .ok (.isub, 1) := by decide +kernel
theorem dX4_placeOfRow_47 : decode cX4_placeOfRow 47 = .ok (.iconst 1, 1) := by decide +kernel
theorem dX4_placeOfRow_48 : decode cX4_placeOfRow 48 = .ok (.isub, 1) := by decide +kernel
theorem dX4_placeOfRow_49 : decode cX4_placeOfRow 49 = .ok (.invokevirtual 77, 3) := by decide +kernel
theorem dX4_placeOfRow_52 : decode cX4_placeOfRow 52 = .ok (.iadd, 1) := by decide +kernel
theorem dX4_placeOfRow_53 : decode cX4_placeOfRow 53 = .ok (.istore 4, 2) := by decide +kernel
theorem dX4_placeOfRow_55 : decode cX4_placeOfRow 55 = .ok (.iinc 6 1, 3) := by decide +kernel
theorem dX4_placeOfRow_58 : decode cX4_placeOfRow 58 = .ok (.goto (-34), 3) := by decide +kernel
theorem dX4_placeOfRow_61 : decode cX4_placeOfRow 61 = .ok (.aload_n 0, 1) := by decide +kernel
theorem dX4_placeOfRow_62 : decode cX4_placeOfRow 62 = .ok (.iload_n 3, 1) := by decide +kernel
theorem dX4_placeOfRow_63 : decode cX4_placeOfRow 63 = .ok (.aload_n 1, 1) := by decide +kernel
theorem dX4_placeOfRow_64 : decode cX4_placeOfRow 64 = .ok (.iload 5, 2) := by decide +kernel
theorem dX4_placeOfRow_66 : decode cX4_placeOfRow 66 = .ok (.iaload, 1) := by decide +kernel
theorem dX4_placeOfRow_67 : decode cX4_placeOfRow 67 = .ok (.invokevirtual 81, 3) := by decide +kernel
theorem dX4_placeOfRow_70 : decode cX4_placeOfRow 70 = .ok (.istore_n 3, 1) := by decide +kernel
theorem dX4_placeOfRow_71 : decode cX4_placeOfRow 71 = .ok (.iinc 5 1, 3) := by decide +kernel
theorem dX4_placeOfRow_74 : decode cX4_placeOfRow 74 = .ok (.goto (-66), 3) := by decide +kernel
theorem dX4_placeOfRow_77 : decode cX4_placeOfRow 77 = .ok (.aload_n 0, 1) := by decide +kernel
theorem dX4_placeOfRow_78 : decode cX4_placeOfRow 78 = .ok (.iload_n 3, 1) := by decide +kernel
theorem dX4_placeOfRow_79 : decode cX4_placeOfRow 79 = .ok (.iconst 0, 1) := by decide +kernel
theorem dX4_placeOfRow_80 : decode cX4_placeOfRow 80 = .ok (.invokevirtual 77, 3) := by decide +kernel
theorem dX4_placeOfRow_83 : decode cX4_placeOfRow 83 = .ok (.iconst 1, 1) := by decide +kernel
theorem dX4_placeOfRow_84 : decode cX4_placeOfRow 84 = .ok (.if_icmp .ne 8, 3) := by decide +kernel
theorem dX4_placeOfRow_87 : decode cX4_placeOfRow 87 = .ok (.iload 4, 2) := by decide +kernel
theorem dX4_placeOfRow_89 : decode cX4_placeOfRow 89 = .ok (.goto 4, 3) := by decide +kernel
theorem dX4_placeOfRow_92 : decode cX4_placeOfRow 92 = .ok (.iconst (-1), 1) := by decide +kernel
theorem dX4_placeOfRow_93 : decode cX4_placeOfRow 93 = .ok (.ireturn, 1) := by decide +kernel
set_option maxRecDepth 20000 in
theorem ggX4_stateBehind_X4_next : GoodIn wsX4_stateBehind wsX4_next := goodIn_r _ [5, 6, 7, 8, 9, 10, 11, 12, 13, 14, 15, 16, 17, 18, 19, 20, 21, 22] rfl (by decide +kernel)
set_option maxRecDepth 20000 in
theorem gX4_stateBehind_X4_next : GoodIn wsX4_stateBehind (wsV RX4 81 RX4 yX4_next wsX4_next) := goodIn_app (goodIn_of _ (by decide +kernel)) ggX4_stateBehind_X4_next
theorem dX4_stateBehind_0 : decode cX4_stateBehind 0 = .ok (.iconst 0, 1) := by decide +kernel
theorem dX4_stateBehind_1 : decode cX4_stateBehind 1 = .ok (.istore_n 3, 1) := by decide +kernel
theorem dX4_stateBehind_2 : decode cX4_stateBehind 2 = .ok (.iconst 0, 1) := by decide +kernel
theorem dX4_stateBehind_3 : decode cX4_stateBehind 3 = .ok (.istore 4, 2) := by decide +kernel
theorem dX4_stateBehind_5 : decode cX4_stateBehind 5 = .ok (.iload 4, 2) := by decide +kernel
theorem dX4_stateBehind_7 : decode cX4_stateBehind 7 = .ok (.iload_n 2, 1) := by decide +kernel
theorem dX4_stateBehind_8 : decode cX4_stateBehind 8 = .ok (.if_icmp .ge 26, 3) := by decide +kernel
theorem dX4_stateBehind_11 : decode cX4_stateBehind 11 = .ok (.iload 4, 2) := by decide +kernel
theorem dX4_stateBehind_13 : decode cX4_stateBehind 13 = .ok (.aload_n 1, 1) := by decide +kernel
theorem dX4_stateBehind_14 : decode cX4_stateBehind 14 = .ok (.arraylength, 1) := by decide +kernel
theorem dX4_stateBehind_15 : decode cX4_stateBehind 15 = .ok (.if_icmp .ge 19, 3) := by decide +kernel
theorem dX4_stateBehind_18 : decode cX4_stateBehind 18 = .ok (.aload_n 0, 1) := by decide +kernel
theorem dX4_stateBehind_19 : decode cX4_stateBehind 19 = .ok (.iload_n 3, 1) := by decide +kernel
theorem dX4_stateBehind_20 : decode cX4_stateBehind 20 = .ok (.aload_n 1, 1) := by decide +kernel
theorem dX4_stateBehind_21 : decode cX4_stateBehind 21 = .ok (.iload 4, 2) := by decide +kernel
theorem dX4_stateBehind_23 : decode cX4_stateBehind 23 = .ok (.iaload, 1) := by decide +kernel
theorem dX4_stateBehind_24 : decode cX4_stateBehind 24 = .ok (.invokevirtual 81, 3) := by decide +kernel
theorem dX4_stateBehind_27 : decode cX4_stateBehind 27 = .ok (.istore_n 3, 1) := by decide +kernel
theorem dX4_stateBehind_28 : decode cX4_stateBehind 28 = .ok (.iinc 4 1, 3) := by decide +kernel
theorem dX4_stateBehind_31 : decode cX4_stateBehind 31 = .ok (.goto (-26), 3) := by decide +kernel
theorem dX4_stateBehind_34 : decode cX4_stateBehind 34 = .ok (.iload_n 3, 1) := by decide +kernel
theorem dX4_stateBehind_35 : decode cX4_stateBehind 35 = .ok (.ireturn, 1) := by decide +kernel
set_option maxRecDepth 20000 in
theorem ggX4_next_X11_isLetter : GoodIn wsX4_next wsX11_isLetter := goodIn_r _ [5] rfl (by decide +kernel)
set_option maxRecDepth 20000 in
theorem gX4_next_X11_isLetter_n84 : GoodIn wsX4_next (wsX11_isLetter) := ggX4_next_X11_isLetter
theorem dX4_next_0 : decode cX4_next 0 = .ok (.iload_n 1, 1) := by decide +kernel
theorem dX4_next_1 : decode cX4_next 1 = .ok (.ifCond .lt 31, 3) := by decide +kernel
theorem dX4_next_4 : decode cX4_next 4 = .ok (.iload_n 1, 1) := by decide +kernel
theorem dX4_next_5 : decode cX4_next 5 = .ok (.aload_n 0, 1) := by decide +kernel
theorem dX4_next_6 : decode cX4_next 6 = .ok (.getfield 27, 3) := by decide +kernel
theorem dX4_next_9 : decode cX4_next 9 = .ok (.if_icmp .ge 23, 3) := by decide +kernel
theorem dX4_next_12 : decode cX4_next 12 = .ok (.iload_n 2, 1) := by decide +kernel
theorem dX4_next_13 : decode cX4_next 13 = .ok (.invokestatic 84, 3) := by decide +kernel
theorem dX4_next_16 : decode cX4_next 16 = .ok (.ifCond .eq 16, 3) := by decide +kernel
theorem dX4_next_19 : decode cX4_next 19 = .ok (.aload_n 0, 1) := by decide +kernel
theorem dX4_next_20 : decode cX4_next 20 = .ok (.getfield 31, 3) := by decide +kernel
theorem dX4_next_23 : decode cX4_next 23 = .ok (.iload_n 1, 1) := by decide +kernel
theorem dX4_next_24 : decode cX4_next 24 = .ok (.iconst 3, 1) := by decide +kernel
theorem dX4_next_25 : decode cX4_next 25 = .ok (.imul, 1) := by decide +kernel
theorem dX4_next_26 : decode cX4_next 26 = .ok (.iload_n 2, 1) := by decide +kernel
theorem dX4_next_27 : decode cX4_next 27 = .ok (.iadd, 1) := by decide +kernel
theorem dX4_next_28 : decode cX4_next 28 = .ok (.iaload, 1) := by decide +kernel
theorem dX4_next_29 : decode cX4_next 29 = .ok (.goto 4, 3) := by decide +kernel
theorem dX4_next_32 : decode cX4_next 32 = .ok (.iconst 0, 1) := by decide +kernel
theorem dX4_next_33 : decode cX4_next 33 = .ok (.ireturn, 1) := by decide +kernel
theorem dX4_waysFrom_0 : decode cX4_waysFrom 0 = .ok (.iload_n 1, 1) := by decide +kernel
theorem dX4_waysFrom_1 : decode cX4_waysFrom 1 = .ok (.ifCond .lt 25, 3) := by decide +kernel
theorem dX4_waysFrom_4 : decode cX4_waysFrom 4 = .ok (.iload_n 1, 1) := by decide +kernel
theorem dX4_waysFrom_5 : decode cX4_waysFrom 5 = .ok (.aload_n 0, 1) := by decide +kernel
theorem dX4_waysFrom_6 : decode cX4_waysFrom 6 = .ok (.getfield 27, 3) := by decide +kernel
theorem dX4_waysFrom_9 : decode cX4_waysFrom 9 = .ok (.if_icmp .ge 17, 3) := by decide +kernel
theorem dX4_waysFrom_12 : decode cX4_waysFrom 12 = .ok (.iload_n 2, 1) := by decide +kernel
theorem dX4_waysFrom_13 : decode cX4_waysFrom 13 = .ok (.ifCond .lt 13, 3) := by decide +kernel
theorem dX4_waysFrom_16 : decode cX4_waysFrom 16 = .ok (.iload_n 2, 1) := by decide +kernel
theorem dX4_waysFrom_17 : decode cX4_waysFrom 17 = .ok (.bipush 12, 2) := by decide +kernel
theorem dX4_waysFrom_19 : decode cX4_waysFrom 19 = .ok (.if_icmp .gt 7, 3) := by decide +kernel
theorem dX4_waysFrom_22 : decode cX4_waysFrom 22 = .ok (.iconst 1, 1) := by decide +kernel
theorem dX4_waysFrom_23 : decode cX4_waysFrom 23 = .ok (.goto 4, 3) := by decide +kernel
theorem dX4_waysFrom_26 : decode cX4_waysFrom 26 = .ok (.iconst 0, 1) := by decide +kernel
theorem dX4_waysFrom_27 : decode cX4_waysFrom 27 = .ok (.istore_n 3, 1) := by decide +kernel
theorem dX4_waysFrom_28 : decode cX4_waysFrom 28 = .ok (.iload_n 3, 1) := by decide +kernel
theorem dX4_waysFrom_29 : decode cX4_waysFrom 29 = .ok (.ifCond .eq 18, 3) := by decide +kernel
theorem dX4_waysFrom_32 : decode cX4_waysFrom 32 = .ok (.aload_n 0, 1) := by decide +kernel
theorem dX4_waysFrom_33 : decode cX4_waysFrom 33 = .ok (.getfield 34, 3) := by decide +kernel
theorem dX4_waysFrom_36 : decode cX4_waysFrom 36 = .ok (.iload_n 2, 1) := by decide +kernel
theorem dX4_waysFrom_37 : decode cX4_waysFrom 37 = .ok (.sipush 800, 3) := by decide +kernel
theorem dX4_waysFrom_40 : decode cX4_waysFrom 40 = .ok (.imul, 1) := by decide +kernel
theorem dX4_waysFrom_41 : decode cX4_waysFrom 41 = .ok (.iload_n 1, 1) := by decide +kernel
theorem dX4_waysFrom_42 : decode cX4_waysFrom 42 = .ok (.iadd, 1) := by decide +kernel
theorem dX4_waysFrom_43 : decode cX4_waysFrom 43 = .ok (.iaload, 1) := by decide +kernel
theorem dX4_waysFrom_44 : decode cX4_waysFrom 44 = .ok (.goto 4, 3) := by decide +kernel
theorem dX4_waysFrom_47 : decode cX4_waysFrom 47 = .ok (.iconst 0, 1) := by decide +kernel
theorem dX4_waysFrom_48 : decode cX4_waysFrom 48 = .ok (.ireturn, 1) := by decide +kernel
set_option maxRecDepth 20000 in
theorem ggX4_part_X2_clear : GoodIn wsX4_part wsX2_clear := goodIn_r _ [13, 14, 15, 16, 17, 18, 19, 83, 84, 85] rfl (by decide +kernel)
set_option maxRecDepth 20000 in
theorem gX4_part_X2_clear : GoodIn wsX4_part (wsV RX4 96 RX2 yX2_clear wsX2_clear) := goodIn_app (goodIn_of _ (by decide +kernel)) ggX4_part_X2_clear
set_option maxRecDepth 20000 in
theorem ggX4_part_X0_takes : GoodIn wsX4_part wsX0_takes := goodIn_r _ [24, 25, 73, 74, 75, 76, 77] rfl (by decide +kernel)
set_option maxRecDepth 20000 in
theorem gX4_part_X0_takes : GoodIn wsX4_part (wsV RX4 99 RX0 yX0_takes wsX0_takes) := goodIn_app (goodIn_of _ (by decide +kernel)) ggX4_part_X0_takes
set_option maxRecDepth 20000 in
theorem ggX4_part_X2_indexWith : GoodIn wsX4_part wsX2_indexWith := goodIn_r _ [29, 15, 30, 14, 31, 32, 33, 12, 34, 35, 36, 37, 38, 39, 83, 84, 85] rfl (by decide +kernel)
set_option maxRecDepth 20000 in
theorem gX4_part_X2_indexWith : GoodIn wsX4_part (wsV RX4 102 RX2 yX2_indexWith wsX2_indexWith) := goodIn_app (goodIn_of _ (by decide +kernel)) ggX4_part_X2_indexWith
set_option maxRecDepth 20000 in
theorem ggX4_part_X4_partBy : GoodIn wsX4_part wsX4_partBy := goodIn_r _ [44, 2, 3, 45, 46, 4, 5, 6, 7, 47, 48, 49, 50, 9, 10, 11, 12, 13, 14, 15, 16, 17, 18, 19, 51, 52, 53, 43, 54, 1, 55, 56, 57, 23, 58, 59, 60, 26, 27, 28, 29, 30, 31, 32, 33, 34, 35, 36, 37, 38, 39, 61, 62, 63, 64, 65, 66, 67, 68, 69, 70, 71, 72, 83, 84, 85, 73, 74, 75, 76, 77] rfl (by decide +kernel)
set_option maxRecDepth 20000 in
theorem gX4_part_X4_partBy : GoodIn wsX4_part (wsV RX4 111 RX4 yX4_partBy wsX4_partBy) := goodIn_app (goodIn_of _ (by decide +kernel)) ggX4_part_X4_partBy
theorem dX4_part_0 : decode cX4_part 0 = .ok (.aload_n 0, 1) := by decide +kernel
theorem dX4_part_1 : decode cX4_part 1 = .ok (.getfield 52, 3) := by decide +kernel
theorem dX4_part_4 : decode cX4_part 4 = .ok (.getfield 88, 3) := by decide +kernel
theorem dX4_part_7 : decode cX4_part 7 = .ok (.getfield 92, 3) := by decide +kernel
theorem dX4_part_10 : decode cX4_part 10 = .ok (.getfield 95, 3) := by decide +kernel
theorem dX4_part_13 : decode cX4_part 13 = .ok (.istore_n 1, 1) := by decide +kernel
theorem dX4_part_14 : decode cX4_part 14 = .ok (.aload_n 0, 1) := by decide +kernel
theorem dX4_part_15 : decode cX4_part 15 = .ok (.getfield 23, 3) := by decide +kernel
theorem dX4_part_18 : decode cX4_part 18 = .ok (.invokevirtual 96, 3) := by decide +kernel
theorem dX4_part_21 : decode cX4_part 21 = .ok (.iconst 0, 1) := by decide +kernel
theorem dX4_part_22 : decode cX4_part 22 = .ok (.istore_n 2, 1) := by decide +kernel
theorem dX4_part_23 : decode cX4_part 23 = .ok (.iload_n 2, 1) := by decide +kernel
theorem dX4_part_24 : decode cX4_part 24 = .ok (.iload_n 1, 1) := by decide +kernel
theorem dX4_part_25 : decode cX4_part 25 = .ok (.if_icmp .ge 49, 3) := by decide +kernel
theorem dX4_part_28 : decode cX4_part 28 = .ok (.iload_n 2, 1) := by decide +kernel
theorem dX4_part_29 : decode cX4_part 29 = .ok (.sipush 800, 3) := by decide +kernel
theorem dX4_part_32 : decode cX4_part 32 = .ok (.if_icmp .ge 42, 3) := by decide +kernel
theorem dX4_part_35 : decode cX4_part 35 = .ok (.aload_n 0, 1) := by decide +kernel
theorem dX4_part_36 : decode cX4_part 36 = .ok (.getfield 9, 3) := by decide +kernel
theorem dX4_part_39 : decode cX4_part 39 = .ok (.iload_n 2, 1) := by decide +kernel
theorem dX4_part_40 : decode cX4_part 40 = .ok (.iconst 0, 1) := by decide +kernel
theorem dX4_part_41 : decode cX4_part 41 = .ok (.aload_n 0, 1) := by decide +kernel
theorem dX4_part_42 : decode cX4_part 42 = .ok (.getfield 23, 3) := by decide +kernel
theorem dX4_part_45 : decode cX4_part 45 = .ok (.aload_n 0, 1) := by decide +kernel
theorem dX4_part_46 : decode cX4_part 46 = .ok (.getfield 52, 3) := by decide +kernel
theorem dX4_part_49 : decode cX4_part 49 = .ok (.iload_n 2, 1) := by decide +kernel
theorem dX4_part_50 : decode cX4_part 50 = .ok (.invokevirtual 99, 3) := by decide +kernel
theorem dX4_part_53 : decode cX4_part 53 = .ok (.ifCond .eq 7, 3) := by decide +kernel
theorem dX4_part_56 : decode cX4_part 56 = .ok (.lconst 1, 1) := by decide +kernel
theorem dX4_part_57 : decode cX4_part 57 = .ok (.goto 4, 3) := by decide +kernel
theorem dX4_part_60 : decode cX4_part 60 = .ok (.lconst 0, 1) := by decide +kernel
theorem dX4_part_61 : decode cX4_part 61 = .ok (.invokevirtual 102, 3) := by decide +kernel
theorem dX4_part_64 : decode cX4_part 64 = .ok (.invokestatic 106, 3) := by decide +kernel
theorem dX4_part_67 : decode cX4_part 67 = .ok (.iastore, 1) := by decide +kernel
theorem dX4_part_68 : decode cX4_part 68 = .ok (.iinc 2 1, 3) := by decide +kernel
theorem dX4_part_71 : decode cX4_part 71 = .ok (.goto (-48), 3) := by decide +kernel
theorem dX4_part_74 : decode cX4_part 74 = .ok (.iconst 0, 1) := by decide +kernel
theorem dX4_part_75 : decode cX4_part 75 = .ok (.istore_n 2, 1) := by decide +kernel
theorem dX4_part_76 : decode cX4_part 76 = .ok (.iload_n 2, 1) := by decide +kernel
theorem dX4_part_77 : decode cX4_part 77 = .ok (.sipush 800, 3) := by decide +kernel
theorem dX4_part_80 : decode cX4_part 80 = .ok (.if_icmp .ge 53, 3) := by decide +kernel
theorem dX4_part_83 : decode cX4_part 83 = .ok (.aload_n 0, 1) := by decide +kernel
theorem dX4_part_84 : decode cX4_part 84 = .ok (.getfield 23, 3) := by decide +kernel
theorem dX4_part_87 : decode cX4_part 87 = .ok (.getfield 95, 3) := by decide +kernel
theorem dX4_part_90 : decode cX4_part 90 = .ok (.istore_n 3, 1) := by decide +kernel
theorem dX4_part_91 : decode cX4_part 91 = .ok (.iconst 0, 1) := by decide +kernel
theorem dX4_part_92 : decode cX4_part 92 = .ok (.istore 4, 2) := by decide +kernel
theorem dX4_part_94 : decode cX4_part 94 = .ok (.iload 4, 2) := by decide +kernel
theorem dX4_part_96 : decode cX4_part 96 = .ok (.iconst 3, 1) := by decide +kernel
theorem dX4_part_97 : decode cX4_part 97 = .ok (.if_icmp .ge 16, 3) := by decide +kernel
theorem dX4_part_100 : decode cX4_part 100 = .ok (.aload_n 0, 1) := by decide +kernel
theorem dX4_part_101 : decode cX4_part 101 = .ok (.iload 4, 2) := by decide +kernel
theorem dX4_part_103 : decode cX4_part 103 = .ok (.iload_n 1, 1) := by decide +kernel
theorem dX4_part_104 : decode cX4_part 104 = .ok (.invokevirtual 111, 3) := by decide +kernel
theorem dX4_part_107 : decode cX4_part 107 = .ok (.iinc 4 1, 3) := by decide +kernel
theorem dX4_part_110 : decode cX4_part 110 = .ok (.goto (-16), 3) := by decide +kernel
theorem dX4_part_113 : decode cX4_part 113 = .ok (.aload_n 0, 1) := by decide +kernel
theorem dX4_part_114 : decode cX4_part 114 = .ok (.getfield 23, 3) := by decide +kernel
theorem dX4_part_117 : decode cX4_part 117 = .ok (.getfield 95, 3) := by decide +kernel
theorem dX4_part_120 : decode cX4_part 120 = .ok (.iload_n 3, 1) := by decide +kernel
theorem dX4_part_121 : decode cX4_part 121 = .ok (.if_icmp .ne 6, 3) := by decide +kernel
theorem dX4_part_124 : decode cX4_part 124 = .ok (.goto 9, 3) := by decide +kernel
theorem dX4_part_127 : decode cX4_part 127 = .ok (.iinc 2 1, 3) := by decide +kernel
theorem dX4_part_130 : decode cX4_part 130 = .ok (.goto (-54), 3) := by decide +kernel
theorem dX4_part_133 : decode cX4_part 133 = .ok (.aload_n 0, 1) := by decide +kernel
theorem dX4_part_134 : decode cX4_part 134 = .ok (.aload_n 0, 1) := by decide +kernel
theorem dX4_part_135 : decode cX4_part 135 = .ok (.getfield 23, 3) := by decide +kernel
theorem dX4_part_138 : decode cX4_part 138 = .ok (.getfield 95, 3) := by decide +kernel
theorem dX4_part_141 : decode cX4_part 141 = .ok (.putfield 27, 3) := by decide +kernel
theorem dX4_part_144 : decode cX4_part 144 = .ok (.return_, 1) := by decide +kernel
set_option maxRecDepth 20000 in
theorem ggX4_partBy_X2_clear : GoodIn wsX4_partBy wsX2_clear := goodIn_r _ [17, 18, 19, 20, 21, 22, 23, 63, 64, 65] rfl (by decide +kernel)
set_option maxRecDepth 20000 in
theorem gX4_partBy_X2_clear : GoodIn wsX4_partBy (wsV RX4 96 RX2 yX2_clear wsX2_clear) := goodIn_app (goodIn_of _ (by decide +kernel)) ggX4_partBy_X2_clear
set_option maxRecDepth 20000 in
theorem ggX4_partBy_X4_groupBehind : GoodIn wsX4_partBy wsX4_groupBehind := goodIn_r _ [28, 29, 2, 30, 31, 32, 33, 34, 35, 36, 6, 7, 8, 51, 52, 53, 54, 55, 56, 57, 58, 59, 60, 61, 62, 66, 67, 68, 69, 70] rfl (by decide +kernel)
set_option maxRecDepth 20000 in
theorem gX4_partBy_X4_groupBehind : GoodIn wsX4_partBy (wsV RX4 117 RX4 yX4_groupBehind wsX4_groupBehind) := goodIn_app (goodIn_of _ (by decide +kernel)) ggX4_partBy_X4_groupBehind
set_option maxRecDepth 20000 in
theorem ggX4_partBy_X2_indexWith : GoodIn wsX4_partBy wsX2_indexWith := goodIn_r _ [40, 19, 41, 18, 42, 43, 44, 16, 45, 46, 47, 48, 49, 50, 63, 64, 65] rfl (by decide +kernel)
set_option maxRecDepth 20000 in
theorem gX4_partBy_X2_indexWith : GoodIn wsX4_partBy (wsV RX4 102 RX2 yX2_indexWith wsX2_indexWith) := goodIn_app (goodIn_of _ (by decide +kernel)) ggX4_partBy_X2_indexWith
