theorem dX4_partBy_0 : decode cX4_partBy 0 = .ok (.aload_n 0, 1) := by decide +kernel
theorem dX4_partBy_1 : decode cX4_partBy 1 = .ok (.getfield 23, 3) := by decide +kernel
theorem dX4_partBy_4 : decode cX4_partBy 4 = .ok (.invokevirtual 96, 3) := by decide +kernel
theorem dX4_partBy_7 : decode cX4_partBy 7 = .ok (.iconst 0, 1) := by decide +kernel
theorem dX4_partBy_8 : decode cX4_partBy 8 = .ok (.istore_n 3, 1) := by decide +kernel
theorem dX4_partBy_9 : decode cX4_partBy 9 = .ok (.iload_n 3, 1) := by decide +kernel
theorem dX4_partBy_10 : decode cX4_partBy 10 = .ok (.iload_n 2, 1) := by decide +kernel
theorem dX4_partBy_11 : decode cX4_partBy 11 = .ok (.if_icmp .ge 56, 3) := by decide +kernel
theorem dX4_partBy_14 : decode cX4_partBy 14 = .ok (.iload_n 3, 1) := by decide +kernel
theorem dX4_partBy_15 : decode cX4_partBy 15 = .ok (.sipush 800, 3) := by decide +kernel
theorem dX4_partBy_18 : decode cX4_partBy 18 = .ok (.if_icmp .ge 49, 3) := by decide +kernel
theorem dX4_partBy_21 : decode cX4_partBy 21 = .ok (.aload_n 0, 1) := by decide +kernel
theorem dX4_partBy_22 : decode cX4_partBy 22 = .ok (.getfield 9, 3) := by decide +kernel
theorem dX4_partBy_25 : decode cX4_partBy 25 = .ok (.iload_n 3, 1) := by decide +kernel
theorem dX4_partBy_26 : decode cX4_partBy 26 = .ok (.iaload, 1) := by decide +kernel
theorem dX4_partBy_27 : decode cX4_partBy 27 = .ok (.i2l, 1) := by decide +kernel
theorem dX4_partBy_28 : decode cX4_partBy 28 = .ok (.ldc2_w 115, 3) := by decide +kernel
theorem dX4_partBy_31 : decode cX4_partBy 31 = .ok (.lmul, 1) := by decide +kernel
theorem dX4_partBy_32 : decode cX4_partBy 32 = .ok (.aload_n 0, 1) := by decide +kernel
theorem dX4_partBy_33 : decode cX4_partBy 33 = .ok (.iload_n 3, 1) := by decide +kernel
theorem dX4_partBy_34 : decode cX4_partBy 34 = .ok (.iload_n 1, 1) := by decide +kernel
theorem dX4_partBy_35 : decode cX4_partBy 35 = .ok (.invokevirtual 117, 3) := by decide +kernel
theorem dX4_partBy_38 : decode cX4_partBy 38 = .ok (.i2l, 1) := by decide +kernel
theorem dX4_partBy_39 : decode cX4_partBy 39 = .ok (.ladd, 1) := by decide +kernel
theorem dX4_partBy_40 : decode cX4_partBy 40 = .ok (.lstore 4, 2) := by decide +kernel
theorem dX4_partBy_42 : decode cX4_partBy 42 = .ok (.aload_n 0, 1) := by decide +kernel
theorem dX4_partBy_43 : decode cX4_partBy 43 = .ok (.getfield 15, 3) := by decide +kernel
theorem dX4_partBy_46 : decode cX4_partBy 46 = .ok (.iload_n 3, 1) := by decide +kernel
theorem dX4_partBy_47 : decode cX4_partBy 47 = .ok (.iconst 0, 1) := by decide +kernel
theorem dX4_partBy_48 : decode cX4_partBy 48 = .ok (.aload_n 0, 1) := by decide +kernel
theorem dX4_partBy_49 : decode cX4_partBy 49 = .ok (.getfield 23, 3) := by decide +kernel
theorem dX4_partBy_52 : decode cX4_partBy 52 = .ok (.lload 4, 2) := by decide +kernel
theorem dX4_partBy_54 : decode cX4_partBy 54 = .ok (.invokevirtual 102, 3) := by decide +kernel
theorem dX4_partBy_57 : decode cX4_partBy 57 = .ok (.invokestatic 106, 3) := by decide +kernel
theorem dX4_partBy_60 : decode cX4_partBy 60 = .ok (.iastore, 1) := by decide +kernel
theorem dX4_partBy_61 : decode cX4_partBy 61 = .ok (.iinc 3 1, 3) := by decide +kernel
theorem dX4_partBy_64 : decode cX4_partBy 64 = .ok (.goto (-55), 3) := by decide +kernel
theorem dX4_partBy_67 : decode cX4_partBy 67 = .ok (.aload_n 0, 1) := by decide +kernel
theorem dX4_partBy_68 : decode cX4_partBy 68 = .ok (.getfield 15, 3) := by decide +kernel
theorem dX4_partBy_71 : decode cX4_partBy 71 = .ok (.iconst 0, 1) := by decide +kernel
theorem dX4_partBy_72 : decode cX4_partBy 72 = .ok (.aload_n 0, 1) := by decide +kernel
theorem dX4_partBy_73 : decode cX4_partBy 73 = .ok (.getfield 9, 3) := by decide +kernel
theorem dX4_partBy_76 : decode cX4_partBy 76 = .ok (.iconst 0, 1) := by decide +kernel
theorem dX4_partBy_77 : decode cX4_partBy 77 = .ok (.sipush 800, 3) := by decide +kernel
theorem dX4_partBy_80 : decode cX4_partBy 80 = .ok (.invokestatic 68, 3) := by decide +kernel
theorem dX4_partBy_83 : decode cX4_partBy 83 = .ok (.return_, 1) := by decide +kernel
set_option maxRecDepth 20000 in
theorem ggX4_groupBehind_X0_next : GoodIn wsX4_groupBehind wsX0_next := goodIn_r _ [7, 8, 9, 10, 11, 12, 25, 26, 27, 28, 29] rfl (by decide +kernel)
set_option maxRecDepth 20000 in
theorem gX4_groupBehind_X0_next : GoodIn wsX4_groupBehind (wsV RX4 120 RX0 yX0_next wsX0_next) := goodIn_app (goodIn_of _ (by decide +kernel)) ggX4_groupBehind_X0_next
theorem dX4_groupBehind_0 : decode cX4_groupBehind 0 = .ok (.aload_n 0, 1) := by decide +kernel
theorem dX4_groupBehind_1 : decode cX4_groupBehind 1 = .ok (.getfield 52, 3) := by decide +kernel
theorem dX4_groupBehind_4 : decode cX4_groupBehind 4 = .ok (.iload_n 1, 1) := by decide +kernel
theorem dX4_groupBehind_5 : decode cX4_groupBehind 5 = .ok (.iload_n 2, 1) := by decide +kernel
theorem dX4_groupBehind_6 : decode cX4_groupBehind 6 = .ok (.invokevirtual 120, 3) := by decide +kernel
theorem dX4_groupBehind_9 : decode cX4_groupBehind 9 = .ok (.istore_n 3, 1) := by decide +kernel
theorem dX4_groupBehind_10 : decode cX4_groupBehind 10 = .ok (.iload_n 3, 1) := by decide +kernel
theorem dX4_groupBehind_11 : decode cX4_groupBehind 11 = .ok (.ifCond .lt 19, 3) := by decide +kernel
theorem dX4_groupBehind_14 : decode cX4_groupBehind 14 = .ok (.iload_n 3, 1) := by decide +kernel
theorem dX4_groupBehind_15 : decode cX4_groupBehind 15 = .ok (.sipush 800, 3) := by decide +kernel
theorem dX4_groupBehind_18 : decode cX4_groupBehind 18 = .ok (.if_icmp .ge 12, 3) := by decide +kernel
theorem dX4_groupBehind_21 : decode cX4_groupBehind 21 = .ok (.aload_n 0, 1) := by decide +kernel
theorem dX4_groupBehind_22 : decode cX4_groupBehind 22 = .ok (.getfield 9, 3) := by decide +kernel
theorem dX4_groupBehind_25 : decode cX4_groupBehind 25 = .ok (.iload_n 3, 1) := by decide +kernel
theorem dX4_groupBehind_26 : decode cX4_groupBehind 26 = .ok (.iaload, 1) := by decide +kernel
theorem dX4_groupBehind_27 : decode cX4_groupBehind 27 = .ok (.goto 4, 3) := by decide +kernel
theorem dX4_groupBehind_30 : decode cX4_groupBehind 30 = .ok (.iconst 0, 1) := by decide +kernel
theorem dX4_groupBehind_31 : decode cX4_groupBehind 31 = .ok (.ireturn, 1) := by decide +kernel
set_option maxRecDepth 20000 in
theorem ggX4_link_J7_fill_53178 : GoodIn wsX4_link wsJ7_fill_53178 := goodIn_r _ [8] rfl (by decide +kernel)
set_option maxRecDepth 20000 in
theorem gX4_link_J7_fill_53178 : GoodIn wsX4_link (va_wsS RX4 121 yJ7_fill_53178 wsJ7_fill_53178) := goodIn_app (goodIn_of _ (by decide +kernel)) ggX4_link_J7_fill_53178
set_option maxRecDepth 20000 in
theorem ggX4_link_X0_takes : GoodIn wsX4_link wsX0_takes := goodIn_r _ [13, 14, 41, 42, 43, 44, 45] rfl (by decide +kernel)
set_option maxRecDepth 20000 in
theorem gX4_link_X0_takes : GoodIn wsX4_link (wsV RX4 99 RX0 yX0_takes wsX0_takes) := goodIn_app (goodIn_of _ (by decide +kernel)) ggX4_link_X0_takes
set_option maxRecDepth 20000 in
theorem ggX4_link_X4_groupBehind : GoodIn wsX4_link wsX4_groupBehind := goodIn_r _ [19, 2, 3, 20, 21, 22, 12, 23, 24, 25, 26, 27, 28, 29, 30, 31, 32, 33, 34, 35, 36, 37, 38, 39, 40, 41, 42, 43, 44, 45] rfl (by decide +kernel)
set_option maxRecDepth 20000 in
theorem gX4_link_X4_groupBehind : GoodIn wsX4_link (wsV RX4 117 RX4 yX4_groupBehind wsX4_groupBehind) := goodIn_app (goodIn_of _ (by decide +kernel)) ggX4_link_X4_groupBehind
theorem dX4_link_0 : decode cX4_link 0 = .ok (.aload_n 0, 1) := by decide +kernel
theorem dX4_link_1 : decode cX4_link 1 = .ok (.getfield 34, 3) := by decide +kernel
theorem dX4_link_4 : decode cX4_link 4 = .ok (.iconst 0, 1) := by decide +kernel
theorem dX4_link_5 : decode cX4_link 5 = .ok (.invokestatic 121, 3) := by decide +kernel
theorem dX4_link_8 : decode cX4_link 8 = .ok (.iconst 0, 1) := by decide +kernel
theorem dX4_link_9 : decode cX4_link 9 = .ok (.istore_n 1, 1) := by decide +kernel
theorem dX4_link_10 : decode cX4_link 10 = .ok (.iload_n 1, 1) := by decide +kernel
theorem dX4_link_11 : decode cX4_link 11 = .ok (.aload_n 0, 1) := by decide +kernel
theorem dX4_link_12 : decode cX4_link 12 = .ok (.getfield 52, 3) := by decide +kernel
theorem dX4_link_15 : decode cX4_link 15 = .ok (.getfield 88, 3) := by decide +kernel
theorem dX4_link_18 : decode cX4_link 18 = .ok (.getfield 92, 3) := by decide +kernel
theorem dX4_link_21 : decode cX4_link 21 = .ok (.getfield 95, 3) := by decide +kernel
theorem dX4_link_24 : decode cX4_link 24 = .ok (.if_icmp .ge 88, 3) := by decide +kernel
theorem dX4_link_27 : decode cX4_link 27 = .ok (.iload_n 1, 1) := by decide +kernel
theorem dX4_link_28 : decode cX4_link 28 = .ok (.sipush 800, 3) := by decide +kernel
theorem dX4_link_31 : decode cX4_link 31 = .ok (.if_icmp .ge 81, 3) := by decide +kernel
theorem dX4_link_34 : decode cX4_link 34 = .ok (.aload_n 0, 1) := by decide +kernel
theorem dX4_link_35 : decode cX4_link 35 = .ok (.getfield 9, 3) := by decide +kernel
theorem dX4_link_38 : decode cX4_link 38 = .ok (.iload_n 1, 1) := by decide +kernel
theorem dX4_link_39 : decode cX4_link 39 = .ok (.iaload, 1) := by decide +kernel
theorem dX4_link_40 : decode cX4_link 40 = .ok (.istore_n 2, 1) := by decide +kernel
theorem dX4_link_41 : decode cX4_link 41 = .ok (.iload_n 2, 1) := by decide +kernel
theorem dX4_link_42 : decode cX4_link 42 = .ok (.ifCond .lt 64, 3) := by decide +kernel
theorem dX4_link_45 : decode cX4_link 45 = .ok (.iload_n 2, 1) := by decide +kernel
theorem dX4_link_46 : decode cX4_link 46 = .ok (.sipush 800, 3) := by decide +kernel
theorem dX4_link_49 : decode cX4_link 49 = .ok (.if_icmp .lt 6, 3) := by decide +kernel
theorem dX4_link_52 : decode cX4_link 52 = .ok (.goto 54, 3) := by decide +kernel
theorem dX4_link_55 : decode cX4_link 55 = .ok (.aload_n 0, 1) := by decide +kernel
theorem dX4_link_56 : decode cX4_link 56 = .ok (.getfield 34, 3) := by decide +kernel
theorem dX4_link_59 : decode cX4_link 59 = .ok (.iload_n 2, 1) := by decide +kernel
theorem dX4_link_60 : decode cX4_link 60 = .ok (.aload_n 0, 1) := by decide +kernel
theorem dX4_link_61 : decode cX4_link 61 = .ok (.getfield 52, 3) := by decide +kernel
theorem dX4_link_64 : decode cX4_link 64 = .ok (.iload_n 1, 1) := by decide +kernel
theorem dX4_link_65 : decode cX4_link 65 = .ok (.invokevirtual 99, 3) := by decide +kernel
theorem dX4_link_68 : decode cX4_link 68 = .ok (.ifCond .eq 7, 3) := by decide +kernel
theorem dX4_link_71 : decode cX4_link 71 = .ok (.iconst 1, 1) := by decide +kernel
theorem dX4_link_72 : decode cX4_link 72 = .ok (.goto 4, 3) := by decide +kernel
theorem dX4_link_75 : decode cX4_link 75 = .ok (.iconst 0, 1) := by decide +kernel
theorem dX4_link_76 : decode cX4_link 76 = .ok (.iastore, 1) := by decide +kernel
theorem dX4_link_77 : decode cX4_link 77 = .ok (.iconst 0, 1) := by decide +kernel
theorem dX4_link_78 : decode cX4_link 78 = .ok (.istore_n 3, 1) := by decide +kernel
theorem dX4_link_79 : decode cX4_link 79 = .ok (.iload_n 3, 1) := by decide +kernel
theorem dX4_link_80 : decode cX4_link 80 = .ok (.iconst 3, 1) := by decide +kernel
theorem dX4_link_81 : decode cX4_link 81 = .ok (.if_icmp .ge 25, 3) := by decide +kernel
theorem dX4_link_84 : decode cX4_link 84 = .ok (.aload_n 0, 1) := by decide +kernel
theorem dX4_link_85 : decode cX4_link 85 = .ok (.getfield 31, 3) := by decide +kernel
theorem dX4_link_88 : decode cX4_link 88 = .ok (.iload_n 2, 1) := by decide +kernel
theorem dX4_link_89 : decode cX4_link 89 = .ok (.iconst 3, 1) := by decide +kernel
theorem dX4_link_90 : decode cX4_link 90 = .ok (.imul, 1) := by decide +kernel
theorem dX4_link_91 : decode cX4_link 91 = .ok (.iload_n 3, 1) := by decide +kernel
theorem dX4_link_92 : decode cX4_link 92 = .ok (.iadd, 1) := by decide +kernel
theorem dX4_link_93 : decode cX4_link 93 = .ok (.aload_n 0, 1) := by decide +kernel
theorem dX4_link_94 : decode cX4_link 94 = .ok (.iload_n 1, 1) := by decide +kernel
theorem dX4_link_95 : decode cX4_link 95 = .ok (.iload_n 3, 1) := by decide +kernel
theorem dX4_link_96 : decode cX4_link 96 = .ok (.invokevirtual 117, 3) := by decide +kernel
theorem dX4_link_99 : decode cX4_link 99 = .ok (.iastore, 1) := by decide +kernel
theorem dX4_link_100 : decode cX4_link 100 = .ok (.iinc 3 1, 3) := by decide +kernel
theorem dX4_link_103 : decode cX4_link 103 = .ok (.goto (-24), 3) := by decide +kernel
theorem dX4_link_106 : decode cX4_link 106 = .ok (.iinc 1 1, 3) := by decide +kernel
theorem dX4_link_109 : decode cX4_link 109 = .ok (.goto (-99), 3) := by decide +kernel
theorem dX4_link_112 : decode cX4_link 112 = .ok (.return_, 1) := by decide +kernel
set_option maxRecDepth 20000 in
theorem ggX4_countShort_X4_next : GoodIn wsX4_countShort wsX4_next := goodIn_r _ [7, 1, 8, 9, 10, 11, 16, 17, 18, 19, 20, 21, 22, 23, 24, 25, 26, 27] rfl (by decide +kernel)
set_option maxRecDepth 20000 in
theorem gX4_countShort_X4_next : GoodIn wsX4_countShort (wsV RX4 81 RX4 yX4_next wsX4_next) := goodIn_app (goodIn_of _ (by decide +kernel)) ggX4_countShort_X4_next
set_option maxRecDepth 20000 in
theorem ggX4_countShort_X4_waysFrom : GoodIn wsX4_countShort wsX4_waysFrom := goodIn_r _ [15, 1, 2, 16, 17, 18, 19, 20, 21, 22, 23, 24, 25, 26, 27] rfl (by decide +kernel)
set_option maxRecDepth 20000 in
theorem gX4_countShort_X4_waysFrom : GoodIn wsX4_countShort (wsV RX4 77 RX4 yX4_waysFrom wsX4_waysFrom) := goodIn_app (goodIn_of _ (by decide +kernel)) ggX4_countShort_X4_waysFrom
theorem dX4_countShort_0 : decode cX4_countShort 0 = .ok (.iconst 1, 1) := by decide +kernel
theorem dX4_countShort_1 : decode cX4_countShort 1 = .ok (.istore_n 1, 1) := by decide +kernel
theorem dX4_countShort_2 : decode cX4_countShort 2 = .ok (.iload_n 1, 1) := by decide +kernel
theorem dX4_countShort_3 : decode cX4_countShort 3 = .ok (.bipush 12, 2) := by decide +kernel
theorem dX4_countShort_5 : decode cX4_countShort 5 = .ok (.if_icmp .gt 79, 3) := by decide +kernel
theorem dX4_countShort_8 : decode cX4_countShort 8 = .ok (.iconst 0, 1) := by decide +kernel
theorem dX4_countShort_9 : decode cX4_countShort 9 = .ok (.istore_n 2, 1) := by decide +kernel
theorem dX4_countShort_10 : decode cX4_countShort 10 = .ok (.iload_n 2, 1) := by decide +kernel
theorem dX4_countShort_11 : decode cX4_countShort 11 = .ok (.aload_n 0, 1) := by decide +kernel
theorem dX4_countShort_12 : decode cX4_countShort 12 = .ok (.getfield 27, 3) := by decide +kernel
theorem dX4_countShort_15 : decode cX4_countShort 15 = .ok (.if_icmp .ge 63, 3) := by decide +kernel
theorem dX4_countShort_18 : decode cX4_countShort 18 = .ok (.iload_n 2, 1) := by decide +kernel
theorem dX4_countShort_19 : decode cX4_countShort 19 = .ok (.sipush 800, 3) := by decide +kernel
theorem dX4_countShort_22 : decode cX4_countShort 22 = .ok (.if_icmp .ge 56, 3) := by decide +kernel
theorem dX4_countShort_25 : decode cX4_countShort 25 = .ok (.iconst 0, 1) := by decide +kernel
theorem dX4_countShort_26 : decode cX4_countShort 26 = .ok (.istore_n 3, 1) := by decide +kernel
theorem dX4_countShort_27 : decode cX4_countShort 27 = .ok (.iconst 0, 1) := by decide +kernel
theorem dX4_countShort_28 : decode cX4_countShort 28 = .ok (.istore 4, 2) := by decide +kernel
theorem dX4_countShort_30 : decode cX4_countShort 30 = .ok (.iload 4, 2) := by decide +kernel
theorem dX4_countShort_32 : decode cX4_countShort 32 = .ok (.iconst 3, 1) := by decide +kernel
theorem dX4_countShort_33 : decode cX4_countShort 33 = .ok (.if_icmp .ge 26, 3) := by decide +kernel
theorem dX4_countShort_36 : decode cX4_countShort 36 = .ok (.iload_n 3, 1) := by decide +kernel
theorem dX4_countShort_37 : decode cX4_countShort 37 = .ok (.aload_n 0, 1) := by decide +kernel
theorem dX4_countShort_38 : decode cX4_countShort 38 = .ok (.aload_n 0, 1) := by decide +kernel
theorem dX4_countShort_39 : decode cX4_countShort 39 = .ok (.iload_n 2, 1) := by decide +kernel
theorem dX4_countShort_40 : decode cX4_countShort 40 = .ok (.iload 4, 2) := by decide +kernel
theorem dX4_countShort_42 : decode cX4_countShort 42 = .ok (.invokevirtual 81, 3) := by decide +kernel
theorem dX4_countShort_45 : decode cX4_countShort 45 = .ok (.iload_n 1, 1) := by decide +kernel
theorem dX4_countShort_46 : decode cX4_countShort 46 = .ok (.iconst 1, 1) := by decide +kernel
theorem dX4_countShort_47 : decode cX4_countShort 47 = .ok (.isub, 1) := by decide +kernel
theorem dX4_countShort_48 : decode cX4_countShort 48 = .ok (.invokevirtual 77, 3) := by decide +kernel
theorem dX4_countShort_51 : decode cX4_countShort 51 = .ok (.iadd, 1) := by decide +kernel
theorem dX4_countShort_52 : decode cX4_countShort 52 = .ok (.istore_n 3, 1) := by decide +kernel
theorem dX4_countShort_53 : decode cX4_countShort 53 = .ok (.iinc 4 1, 3) := by decide +kernel
theorem dX4_countShort_56 : decode cX4_countShort 56 = .ok (.goto (-26), 3) := by decide +kernel
theorem dX4_countShort_59 : decode cX4_countShort 59 = .ok (.aload_n 0, 1) := by decide +kernel
theorem dX4_countShort_60 : decode cX4_countShort 60 = .ok (.getfield 34, 3) := by decide +kernel
theorem dX4_countShort_63 : decode cX4_countShort 63 = .ok (.iload_n 1, 1) := by decide +kernel
theorem dX4_countShort_64 : decode cX4_countShort 64 = .ok (.sipush 800, 3) := by decide +kernel
theorem dX4_countShort_67 : decode cX4_countShort 67 = .ok (.imul, 1) := by decide +kernel
theorem dX4_countShort_68 : decode cX4_countShort 68 = .ok (.iload_n 2, 1) := by decide +kernel
theorem dX4_countShort_69 : decode cX4_countShort 69 = .ok (.iadd, 1) := by decide +kernel
theorem dX4_countShort_70 : decode cX4_countShort 70 = .ok (.iload_n 3, 1) := by decide +kernel
theorem dX4_countShort_71 : decode cX4_countShort 71 = .ok (.iastore, 1) := by decide +kernel
theorem dX4_countShort_72 : decode cX4_countShort 72 = .ok (.iinc 2 1, 3) := by decide +kernel
theorem dX4_countShort_75 : decode cX4_countShort 75 = .ok (.goto (-65), 3) := by decide +kernel
theorem dX4_countShort_78 : decode cX4_countShort 78 = .ok (.iinc 1 1, 3) := by decide +kernel
theorem dX4_countShort_81 : decode cX4_countShort 81 = .ok (.goto (-79), 3) := by decide +kernel
theorem dX4_countShort_84 : decode cX4_countShort 84 = .ok (.return_, 1) := by decide +kernel
set_option maxRecDepth 20000 in
theorem ggX4_lengthen_X4_next : GoodIn wsX4_lengthen wsX4_next := goodIn_r _ [9, 1, 10, 11, 12, 13, 14, 15, 16, 17, 18, 19, 20, 21, 22, 23, 24, 25] rfl (by decide +kernel)
set_option maxRecDepth 20000 in
theorem gX4_lengthen_X4_next : GoodIn wsX4_lengthen (wsV RX4 81 RX4 yX4_next wsX4_next) := goodIn_app (goodIn_of _ (by decide +kernel)) ggX4_lengthen_X4_next
theorem dX4_lengthen_0 : decode cX4_lengthen 0 = .ok (.iconst 0, 1) := by decide +kernel
theorem dX4_lengthen_1 : decode cX4_lengthen 1 = .ok (.istore_n 1, 1) := by decide +kernel
theorem dX4_lengthen_2 : decode cX4_lengthen 2 = .ok (.iload_n 1, 1) := by decide +kernel
theorem dX4_lengthen_3 : decode cX4_lengthen 3 = .ok (.aload_n 0, 1) := by decide +kernel
theorem dX4_lengthen_4 : decode cX4_lengthen 4 = .ok (.getfield 27, 3) := by decide +kernel
theorem dX4_lengthen_7 : decode cX4_lengthen 7 = .ok (.if_icmp .ge 86, 3) := by decide +kernel
theorem dX4_lengthen_10 : decode cX4_lengthen 10 = .ok (.iload_n 1, 1) := by decide +kernel
theorem dX4_lengthen_11 : decode cX4_lengthen 11 = .ok (.aload_n 0, 1) := by decide +kernel
theorem dX4_lengthen_12 : decode cX4_lengthen 12 = .ok (.getfield 46, 3) := by decide +kernel
theorem dX4_lengthen_15 : decode cX4_lengthen 15 = .ok (.arraylength, 1) := by decide +kernel
theorem dX4_lengthen_16 : decode cX4_lengthen 16 = .ok (.if_icmp .ge 77, 3) := by decide +kernel
theorem dX4_lengthen_19 : decode cX4_lengthen 19 = .ok (.lconst 0, 1) := by decide +kernel
theorem dX4_lengthen_20 : decode cX4_lengthen 20 = .ok (.lstore_n 2, 1) := by decide +kernel
theorem dX4_lengthen_21 : decode cX4_lengthen 21 = .ok (.iconst 0, 1) := by decide +kernel
theorem dX4_lengthen_22 : decode cX4_lengthen 22 = .ok (.istore 4, 2) := by decide +kernel
theorem dX4_lengthen_24 : decode cX4_lengthen 24 = .ok (.iload 4, 2) := by decide +kernel
theorem dX4_lengthen_26 : decode cX4_lengthen 26 = .ok (.iconst 3, 1) := by decide +kernel
theorem dX4_lengthen_27 : decode cX4_lengthen 27 = .ok (.if_icmp .ge 48, 3) := by decide +kernel
theorem dX4_lengthen_30 : decode cX4_lengthen 30 = .ok (.aload_n 0, 1) := by decide +kernel
theorem dX4_lengthen_31 : decode cX4_lengthen 31 = .ok (.iload_n 1, 1) := by decide +kernel
theorem dX4_lengthen_32 : decode cX4_lengthen 32 = .ok (.iload 4, 2) := by decide +kernel
theorem dX4_lengthen_34 : decode cX4_lengthen 34 = .ok (.invokevirtual 81, 3) := by decide +kernel
theorem dX4_lengthen_37 : decode cX4_lengthen 37 = .ok (.istore 5, 2) := by decide +kernel
theorem dX4_lengthen_39 : decode cX4_lengthen 39 = .ok (.lload_n 2, 1) := by decide +kernel
theorem dX4_lengthen_40 : decode cX4_lengthen 40 = .ok (.iload 5, 2) := by decide +kernel
theorem dX4_lengthen_42 : decode cX4_lengthen 42 = .ok (.ifCond .lt 24, 3) := by decide +kernel
theorem dX4_lengthen_45 : decode cX4_lengthen 45 = .ok (.iload 5, 2) := by decide +kernel
theorem dX4_lengthen_47 : decode cX4_lengthen 47 = .ok (.aload_n 0, 1) := by decide +kernel
theorem dX4_lengthen_48 : decode cX4_lengthen 48 = .ok (.getfield 43, 3) := by decide +kernel
theorem dX4_lengthen_51 : decode cX4_lengthen 51 = .ok (.arraylength, 1) := by decide +kernel
theorem dX4_lengthen_52 : decode cX4_lengthen 52 = .ok (.if_icmp .ge 14, 3) := by decide +kernel
theorem dX4_lengthen_55 : decode cX4_lengthen 55 = .ok (.aload_n 0, 1) := by decide +kernel
theorem dX4_lengthen_56 : decode cX4_lengthen 56 = .ok (.getfield 43, 3) := by decide +kernel
theorem dX4_lengthen_59 : decode cX4_lengthen 59 = .ok (.iload 5, 2) := by decide +kernel
theorem dX4_lengthen_61 : decode cX4_lengthen 61 = .ok (.iaload, 1) := by decide +kernel
theorem dX4_lengthen_62 : decode cX4_lengthen 62 = .ok (.i2l, 1) := by decide +kernel
theorem dX4_lengthen_63 : decode cX4_lengthen 63 = .ok (.goto 4, 3) := by decide +kernel
theorem dX4_lengthen_66 : decode cX4_lengthen 66 = .ok (.lconst 0, 1) := by decide +kernel
theorem dX4_lengthen_67 : decode cX4_lengthen 67 = .ok (.ladd, 1) := by decide +kernel
theorem dX4_lengthen_68 : decode cX4_lengthen 68 = .ok (.lstore_n 2, 1) := by decide +kernel
theorem dX4_lengthen_69 : decode cX4_lengthen 69 = .ok (.iinc 4 1, 3) := by decide +kernel
theorem dX4_lengthen_72 : decode cX4_lengthen 72 = .ok (.goto (-48), 3) := by decide +kernel
theorem dX4_lengthen_75 : decode cX4_lengthen 75 = .ok (.aload_n 0, 1) := by decide +kernel
theorem dX4_lengthen_76 : decode cX4_lengthen 76 = .ok (.getfield 46, 3) := by decide +kernel
theorem dX4_lengthen_79 : decode cX4_lengthen 79 = .ok (.iload_n 1, 1) := by decide +kernel
theorem dX4_lengthen_80 : decode cX4_lengthen 80 = .ok (.lload_n 2, 1) := by decide +kernel
theorem dX4_lengthen_81 : decode cX4_lengthen 81 = .ok (.ldc2_w 127, 3) := by decide +kernel
theorem dX4_lengthen_84 : decode cX4_lengthen 84 = .ok (.lrem, 1) := by decide +kernel
theorem dX4_lengthen_85 : decode cX4_lengthen 85 = .ok (.l2i, 1) := by decide +kernel
theorem dX4_lengthen_86 : decode cX4_lengthen 86 = .ok (.iastore, 1) := by decide +kernel
theorem dX4_lengthen_87 : decode cX4_lengthen 87 = .ok (.iinc 1 1, 3) := by decide +kernel
theorem dX4_lengthen_90 : decode cX4_lengthen 90 = .ok (.goto (-88), 3) := by decide +kernel
theorem dX4_lengthen_93 : decode cX4_lengthen 93 = .ok (.aload_n 0, 1) := by decide +kernel
theorem dX4_lengthen_94 : decode cX4_lengthen 94 = .ok (.getfield 43, 3) := by decide +kernel
theorem dX4_lengthen_97 : decode cX4_lengthen 97 = .ok (.astore_n 1, 1) := by decide +kernel
theorem dX4_lengthen_98 : decode cX4_lengthen 98 = .ok (.aload_n 0, 1) := by decide +kernel
theorem dX4_lengthen_99 : decode cX4_lengthen 99 = .ok (.aload_n 0, 1) := by decide +kernel
theorem dX4_lengthen_100 : decode cX4_lengthen 100 = .ok (.getfield 46, 3) := by decide +kernel
theorem dX4_lengthen_103 : decode cX4_lengthen 103 = .ok (.putfield 43, 3) := by decide +kernel
theorem dX4_lengthen_106 : decode cX4_lengthen 106 = .ok (.aload_n 0, 1) := by decide +kernel
theorem dX4_lengthen_107 : decode cX4_lengthen 107 = .ok (.aload_n 1, 1) := by decide +kernel
theorem dX4_lengthen_108 : decode cX4_lengthen 108 = .ok (.putfield 46, 3) := by decide +kernel
theorem dX4_lengthen_111 : decode cX4_lengthen 111 = .ok (.return_, 1) := by decide +kernel
set_option maxRecDepth 20000 in
theorem ggX5_init_X1_init : GoodIn wsX5_init wsX1_init := goodIn_r _ [15, 16, 2, 3, 17, 18, 19, 20, 21, 22, 23, 24, 25, 26, 27, 28, 29, 30, 31, 32, 33, 34, 35, 36, 37, 38, 39, 40, 41, 42, 43, 44, 45, 46, 53, 54, 55] rfl (by decide +kernel)
set_option maxRecDepth 20000 in
theorem gX5_init_X1_init : GoodIn wsX5_init (wsX1_init) := ggX5_init_X1_init
theorem dX5_init_0 : decode cX5_init 0 = .ok (.aload_n 0, 1) := by decide +kernel
theorem dX5_init_1 : decode cX5_init 1 = .ok (.invokespecial 3, 3) := by decide +kernel
theorem dX5_init_4 : decode cX5_init 4 = .ok (.aload_n 0, 1) := by decide +kernel
theorem dX5_init_5 : decode cX5_init 5 = .ok (.new 9, 3) := by decide +kernel
theorem dX5_init_8 : decode cX5_init 8 = .ok (.dup, 1) := by decide +kernel
theorem dX5_init_9 : decode cX5_init 9 = .ok (.sipush 4000, 3) := by decide +kernel
theorem dX5_init_12 : decode cX5_init 12 = .ok (.invokespecial 11, 3) := by decide +kernel
theorem dX5_init_15 : decode cX5_init 15 = .ok (.putfield 14, 3) := by decide +kernel
theorem dX5_init_18 : decode cX5_init 18 = .ok (.aload_n 0, 1) := by decide +kernel
theorem dX5_init_19 : decode cX5_init 19 = .ok (.iconst (-1), 1) := by decide +kernel
theorem dX5_init_20 : decode cX5_init 20 = .ok (.putfield 20, 3) := by decide +kernel
theorem dX5_init_23 : decode cX5_init 23 = .ok (.aload_n 0, 1) := by decide +kernel
theorem dX5_init_24 : decode cX5_init 24 = .ok (.iconst (-1), 1) := by decide +kernel
theorem dX5_init_25 : decode cX5_init 25 = .ok (.putfield 24, 3) := by decide +kernel
theorem dX5_init_28 : decode cX5_init 28 = .ok (.aload_n 0, 1) := by decide +kernel
theorem dX5_init_29 : decode cX5_init 29 = .ok (.iconst (-1), 1) := by decide +kernel
theorem dX5_init_30 : decode cX5_init 30 = .ok (.putfield 27, 3) := by decide +kernel
theorem dX5_init_33 : decode cX5_init 33 = .ok (.aload_n 0, 1) := by decide +kernel
theorem dX5_init_34 : decode cX5_init 34 = .ok (.aload_n 1, 1) := by decide +kernel
theorem dX5_init_35 : decode cX5_init 35 = .ok (.putfield 30, 3) := by decide +kernel
theorem dX5_init_38 : decode cX5_init 38 = .ok (.aload_n 0, 1) := by decide +kernel
theorem dX5_init_39 : decode cX5_init 39 = .ok (.aload_n 2, 1) := by decide +kernel
theorem dX5_init_40 : decode cX5_init 40 = .ok (.putfield 34, 3) := by decide +kernel
theorem dX5_init_43 : decode cX5_init 43 = .ok (.return_, 1) := by decide +kernel
set_option maxRecDepth 20000 in
theorem ggX5_renew_X1_clear : GoodIn wsX5_renew wsX1_clear := goodIn_r _ [12, 13, 14, 15, 16, 17, 18, 19, 20, 21, 22, 23, 24, 25, 82, 83, 84, 85, 86, 87, 88, 89] rfl (by decide +kernel)
set_option maxRecDepth 20000 in
theorem gX5_renew_X1_clear : GoodIn wsX5_renew (wsV RX5 42 RX1 yX1_clear wsX1_clear) := goodIn_app (goodIn_of _ (by decide +kernel)) ggX5_renew_X1_clear
set_option maxRecDepth 20000 in
theorem ggX5_renew_X1_reach : GoodIn wsX5_renew wsX1_reach := goodIn_r _ [29, 13, 14, 30, 31, 32, 33, 34, 35, 18, 36, 21, 37, 20, 38, 39, 40, 41, 42, 43, 44, 45, 46, 82, 83, 84, 85, 86, 87, 88, 89] rfl (by decide +kernel)
set_option maxRecDepth 20000 in
theorem gX5_renew_X1_reach : GoodIn wsX5_renew (wsV RX5 45 RX1 yX1_reach wsX1_reach) := goodIn_app (goodIn_of _ (by decide +kernel)) ggX5_renew_X1_reach
set_option maxRecDepth 20000 in
theorem ggX5_renew_X2_keyAt : GoodIn wsX5_renew wsX2_keyAt := goodIn_r _ [50, 20, 37, 87, 88, 89] rfl (by decide +kernel)
set_option maxRecDepth 20000 in
theorem gX5_renew_X2_keyAt : GoodIn wsX5_renew (wsV RX5 62 RX2 yX2_keyAt wsX2_keyAt) := goodIn_app (goodIn_of _ (by decide +kernel)) ggX5_renew_X2_keyAt
set_option maxRecDepth 20000 in
theorem ggX5_renew_X5_parts : GoodIn wsX5_renew wsX5_parts := goodIn_r _ [55, 2, 4, 56, 57, 58, 59, 60, 61, 71, 72, 73, 74, 75, 76, 77, 78, 79, 80, 81] rfl (by decide +kernel)
set_option maxRecDepth 20000 in
theorem gX5_renew_X5_parts : GoodIn wsX5_renew (wsV RX5 68 RX5 yX5_parts wsX5_parts) := goodIn_app (goodIn_of _ (by decide +kernel)) ggX5_renew_X5_parts
set_option maxRecDepth 20000 in
theorem ggX5_renew_X0_next : GoodIn wsX5_renew wsX0_next := goodIn_r _ [65, 66, 67, 68, 69, 70, 77, 78, 79, 80, 81] rfl (by decide +kernel)
set_option maxRecDepth 20000 in
theorem gX5_renew_X0_next : GoodIn wsX5_renew (wsV RX5 72 RX0 yX0_next wsX0_next) := goodIn_app (goodIn_of _ (by decide +kernel)) ggX5_renew_X0_next
theorem dX5_renew_0 : decode cX5_renew 0 = .ok (.aload_n 0, 1) := by decide +kernel
theorem dX5_renew_1 : decode cX5_renew 1 = .ok (.getfield 20, 3) := by decide +kernel
theorem dX5_renew_4 : decode cX5_renew 4 = .ok (.aload_n 0, 1) := by decide +kernel
theorem dX5_renew_5 : decode cX5_renew 5 = .ok (.getfield 30, 3) := by decide +kernel
theorem dX5_renew_8 : decode cX5_renew 8 = .ok (.getfield 37, 3) := by decide +kernel
theorem dX5_renew_11 : decode cX5_renew 11 = .ok (.if_icmp .ne 18, 3) := by decide +kernel
theorem dX5_renew_14 : decode cX5_renew 14 = .ok (.aload_n 0, 1) := by decide +kernel
theorem dX5_renew_15 : decode cX5_renew 15 = .ok (.getfield 24, 3) := by decide +kernel
theorem dX5_renew_18 : decode cX5_renew 18 = .ok (.aload_n 0, 1) := by decide +kernel
theorem dX5_renew_19 : decode cX5_renew 19 = .ok (.getfield 34, 3) := by decide +kernel
theorem dX5_renew_22 : decode cX5_renew 22 = .ok (.getfield 37, 3) := by decide +kernel
theorem dX5_renew_25 : decode cX5_renew 25 = .ok (.if_icmp .ne 4, 3) := by decide +kernel
theorem dX5_renew_28 : decode cX5_renew 28 = .ok (.return_, 1) := by decide +kernel
theorem dX5_renew_29 : decode cX5_renew 29 = .ok (.aload_n 0, 1) := by decide +kernel
theorem dX5_renew_30 : decode cX5_renew 30 = .ok (.aload_n 0, 1) := by decide +kernel
theorem dX5_renew_31 : decode cX5_renew 31 = .ok (.getfield 30, 3) := by decide +kernel
theorem dX5_renew_34 : decode cX5_renew 34 = .ok (.getfield 37, 3) := by decide +kernel
theorem dX5_renew_37 : decode cX5_renew 37 = .ok (.putfield 20, 3) := by decide +kernel
theorem dX5_renew_40 : decode cX5_renew 40 = .ok (.aload_n 0, 1) := by decide +kernel
theorem dX5_renew_41 : decode cX5_renew 41 = .ok (.aload_n 0, 1) := by decide +kernel
theorem dX5_renew_42 : decode cX5_renew 42 = .ok (.getfield 34, 3) := by decide +kernel
theorem dX5_renew_45 : decode cX5_renew 45 = .ok (.getfield 37, 3) := by decide +kernel
theorem dX5_renew_48 : decode cX5_renew 48 = .ok (.putfield 24, 3) := by decide +kernel
theorem dX5_renew_51 : decode cX5_renew 51 = .ok (.aload_n 0, 1) := by decide +kernel
theorem dX5_renew_52 : decode cX5_renew 52 = .ok (.iconst (-1), 1) := by decide +kernel
theorem dX5_renew_53 : decode cX5_renew 53 = .ok (.putfield 27, 3) := by decide +kernel
theorem dX5_renew_56 : decode cX5_renew 56 = .ok (.aload_n 0, 1) := by decide +kernel
theorem dX5_renew_57 : decode cX5_renew 57 = .ok (.getfield 14, 3) := by decide +kernel
theorem dX5_renew_60 : decode cX5_renew 60 = .ok (.invokevirtual 42, 3) := by decide +kernel
theorem dX5_renew_63 : decode cX5_renew 63 = .ok (.aload_n 0, 1) := by decide +kernel
theorem dX5_renew_64 : decode cX5_renew 64 = .ok (.getfield 14, 3) := by decide +kernel
theorem dX5_renew_67 : decode cX5_renew 67 = .ok (.lconst 0, 1) := by decide +kernel
theorem dX5_renew_68 : decode cX5_renew 68 = .ok (.iconst (-1), 1) := by decide +kernel
theorem dX5_renew_69 : decode cX5_renew 69 = .ok (.iconst (-1), 1) := by decide +kernel
theorem dX5_renew_70 : decode cX5_renew 70 = .ok (.invokevirtual 45, 3) := by decide +kernel
theorem dX5_renew_73 : decode cX5_renew 73 = .ok (.pop, 1) := by decide +kernel
theorem dX5_renew_74 : decode cX5_renew 74 = .ok (.iconst 0, 1) := by decide +kernel
theorem dX5_renew_75 : decode cX5_renew 75 = .ok (.istore_n 1, 1) := by decide +kernel
theorem dX5_renew_76 : decode cX5_renew 76 = .ok (.iload_n 1, 1) := by decide +kernel
theorem dX5_renew_77 : decode cX5_renew 77 = .ok (.sipush 4000, 3) := by decide +kernel
theorem dX5_renew_80 : decode cX5_renew 80 = .ok (.if_icmp .ge 146, 3) := by decide +kernel
theorem dX5_renew_83 : decode cX5_renew 83 = .ok (.iload_n 1, 1) := by decide +kernel
theorem dX5_renew_84 : decode cX5_renew 84 = .ok (.aload_n 0, 1) := by decide +kernel
theorem dX5_renew_85 : decode cX5_renew 85 = .ok (.getfield 14, 3) := by decide +kernel
theorem dX5_renew_88 : decode cX5_renew 88 = .ok (.getfield 49, 3) := by decide +kernel
theorem dX5_renew_91 : decode cX5_renew 91 = .ok (.getfield 53, 3) := by decide +kernel
theorem dX5_renew_94 : decode cX5_renew 94 = .ok (.if_icmp .ge 132, 3) := by decide +kernel
theorem dX5_renew_97 : decode cX5_renew 97 = .ok (.aload_n 0, 1) := by decide +kernel
theorem dX5_renew_98 : decode cX5_renew 98 = .ok (.getfield 14, 3) := by decide +kernel
theorem dX5_renew_101 : decode cX5_renew 101 = .ok (.getfield 58, 3) := by decide +kernel
theorem dX5_renew_104 : decode cX5_renew 104 = .ok (.ifCond .ne 122, 3) := by decide +kernel
theorem dX5_renew_107 : decode cX5_renew 107 = .ok (.aload_n 0, 1) := by decide +kernel
theorem dX5_renew_108 : decode cX5_renew 108 = .ok (.getfield 14, 3) := by decide +kernel
theorem dX5_renew_111 : decode cX5_renew 111 = .ok (.getfield 49, 3) := by decide +kernel
theorem dX5_renew_114 : decode cX5_renew 114 = .ok (.iload_n 1, 1) := by decide +kernel
theorem dX5_renew_115 : decode cX5_renew 115 = .ok (.invokevirtual 62, 3) := by decide +kernel
theorem dX5_renew_118 : decode cX5_renew 118 = .ok (.ldc2_w 66, 3) := by decide +kernel
theorem dX5_renew_121 : decode cX5_renew 121 = .ok (.ldiv, 1) := by decide +kernel
theorem dX5_renew_122 : decode cX5_renew 122 = .ok (.l2i, 1) := by decide +kernel
theorem dX5_renew_123 : decode cX5_renew 123 = .ok (.istore_n 2, 1) := by decide +kernel
theorem dX5_renew_124 : decode cX5_renew 124 = .ok (.aload_n 0, 1) := by decide +kernel
theorem dX5_renew_125 : decode cX5_renew 125 = .ok (.getfield 14, 3) := by decide +kernel
theorem dX5_renew_128 : decode cX5_renew 128 = .ok (.getfield 49, 3) := by decide +kernel
theorem dX5_renew_131 : decode cX5_renew 131 = .ok (.iload_n 1, 1) := by decide +kernel
theorem dX5_renew_132 : decode cX5_renew 132 = .ok (.invokevirtual 62, 3) := by decide +kernel
theorem dX5_renew_135 : decode cX5_renew 135 = .ok (.ldc2_w 66, 3) := by decide +kernel
theorem dX5_renew_138 : decode cX5_renew 138 = .ok (.lrem, 1) := by decide +kernel
theorem dX5_renew_139 : decode cX5_renew 139 = .ok (.l2i, 1) := by decide +kernel
theorem dX5_renew_140 : decode cX5_renew 140 = .ok (.istore_n 3, 1) := by decide +kernel
theorem dX5_renew_141 : decode cX5_renew 141 = .ok (.aload_n 0, 1) := by decide +kernel
theorem dX5_renew_142 : decode cX5_renew 142 = .ok (.getfield 27, 3) := by decide +kernel
theorem dX5_renew_145 : decode cX5_renew 145 = .ok (.iconst (-1), 1) := by decide +kernel
theorem dX5_renew_146 : decode cX5_renew 146 = .ok (.if_icmp .ne 17, 3) := by decide +kernel
theorem dX5_renew_149 : decode cX5_renew 149 = .ok (.aload_n 0, 1) := by decide +kernel
theorem dX5_renew_150 : decode cX5_renew 150 = .ok (.iload_n 2, 1) := by decide +kernel
theorem dX5_renew_151 : decode cX5_renew 151 = .ok (.iload_n 3, 1) := by decide +kernel
theorem dX5_renew_152 : decode cX5_renew 152 = .ok (.invokevirtual 68, 3) := by decide +kernel
theorem dX5_renew_155 : decode cX5_renew 155 = .ok (.ifCond .eq 8, 3) := by decide +kernel
theorem dX5_renew_158 : decode cX5_renew 158 = .ok (.aload_n 0, 1) := by decide +kernel
theorem dX5_renew_159 : decode cX5_renew 159 = .ok (.iload_n 1, 1) := by decide +kernel
theorem dX5_renew_160 : decode cX5_renew 160 = .ok (.putfield 27, 3) := by decide +kernel
theorem dX5_renew_163 : decode cX5_renew 163 = .ok (.iconst 0, 1) := by decide +kernel
theorem dX5_renew_164 : decode cX5_renew 164 = .ok (.istore 4, 2) := by decide +kernel
theorem dX5_renew_166 : decode cX5_renew 166 = .ok (.iload 4, 2) := by decide +kernel
theorem dX5_renew_168 : decode cX5_renew 168 = .ok (.iconst 3, 1) := by decide +kernel
theorem dX5_renew_169 : decode cX5_renew 169 = .ok (.if_icmp .ge 51, 3) := by decide +kernel
theorem dX5_renew_172 : decode cX5_renew 172 = .ok (.aload_n 0, 1) := by decide +kernel
theorem dX5_renew_173 : decode cX5_renew 173 = .ok (.getfield 30, 3) := by decide +kernel
theorem dX5_renew_176 : decode cX5_renew 176 = .ok (.iload_n 2, 1) := by decide +kernel
theorem dX5_renew_177 : decode cX5_renew 177 = .ok (.iload 4, 2) := by decide +kernel
theorem dX5_renew_179 : decode cX5_renew 179 = .ok (.invokevirtual 72, 3) := by decide +kernel
theorem dX5_renew_182 : decode cX5_renew 182 = .ok (.i2l, 1) := by decide +kernel
theorem dX5_renew_183 : decode cX5_renew 183 = .ok (.ldc2_w 66, 3) := by decide +kernel
theorem dX5_renew_186 : decode cX5_renew 186 = .ok (.lmul, 1) := by decide +kernel
theorem dX5_renew_187 : decode cX5_renew 187 = .ok (.aload_n 0, 1) := by decide +kernel
theorem dX5_renew_188 : decode cX5_renew 188 = .ok (.getfield 34, 3) := by decide +kernel
theorem dX5_renew_191 : decode cX5_renew 191 = .ok (.iload_n 3, 1) := by decide +kernel
theorem dX5_renew_192 : decode cX5_renew 192 = .ok (.iload 4, 2) := by decide +kernel
theorem dX5_renew_194 : decode cX5_renew 194 = .ok (.invokevirtual 72, 3) := by decide +kernel
theorem dX5_renew_197 : decode cX5_renew 197 = .ok (.i2l, 1) := by decide +kernel
theorem dX5_renew_198 : decode cX5_renew 198 = .ok (.ladd, 1) := by decide +kernel
theorem dX5_renew_199 : decode cX5_renew 199 = .ok (.lstore 5, 2) := by decide +kernel
theorem dX5_renew_201 : decode cX5_renew 201 = .ok (.aload_n 0, 1) := by decide +kernel
theorem dX5_renew_202 : decode cX5_renew 202 = .ok (.getfield 14, 3) := by decide +kernel
theorem dX5_renew_205 : decode cX5_renew 205 = .ok (.lload 5, 2) := by decide +kernel
theorem dX5_renew_207 : decode cX5_renew 207 = .ok (.iload_n 1, 1) := by decide +kernel
theorem dX5_renew_208 : decode cX5_renew 208 = .ok (.iload 4, 2) := by decide +kernel
theorem dX5_renew_210 : decode cX5_renew 210 = .ok (.invokevirtual 45, 3) := by decide +kernel
theorem dX5_renew_213 : decode cX5_renew 213 = .ok (.pop, 1) := by decide +kernel
theorem dX5_renew_214 : decode cX5_renew 214 = .ok (.iinc 4 1, 3) := by decide +kernel
theorem dX5_renew_217 : decode cX5_renew 217 = .ok (.goto (-51), 3) := by decide +kernel
theorem dX5_renew_220 : decode cX5_renew 220 = .ok (.iinc 1 1, 3) := by decide +kernel
theorem dX5_renew_223 : decode cX5_renew 223 = .ok (.goto (-147), 3) := by decide +kernel
theorem dX5_renew_226 : decode cX5_renew 226 = .ok (.return_, 1) := by decide +kernel
set_option maxRecDepth 20000 in
theorem ggX5_parts_X0_takes : GoodIn wsX5_parts wsX0_takes := goodIn_r _ [7, 8, 15, 16, 17, 18, 19] rfl (by decide +kernel)
set_option maxRecDepth 20000 in
theorem gX5_parts_X0_takes : GoodIn wsX5_parts (wsV RX5 76 RX0 yX0_takes wsX0_takes) := goodIn_app (goodIn_of _ (by decide +kernel)) ggX5_parts_X0_takes
theorem dX5_parts_0 : decode cX5_parts 0 = .ok (.aload_n 0, 1) := by decide +kernel
theorem dX5_parts_1 : decode cX5_parts 1 = .ok (.getfield 30, 3) := by decide +kernel
theorem dX5_parts_4 : decode cX5_parts 4 = .ok (.iload_n 1, 1) := by decide +kernel
theorem dX5_parts_5 : decode cX5_parts 5 = .ok (.invokevirtual 76, 3) := by decide +kernel
theorem dX5_parts_8 : decode cX5_parts 8 = .ok (.aload_n 0, 1) := by decide +kernel
theorem dX5_parts_9 : decode cX5_parts 9 = .ok (.getfield 34, 3) := by decide +kernel
theorem dX5_parts_12 : decode cX5_parts 12 = .ok (.iload_n 2, 1) := by decide +kernel
theorem dX5_parts_13 : decode cX5_parts 13 = .ok (.invokevirtual 76, 3) := by decide +kernel
theorem dX5_parts_16 : decode cX5_parts 16 = .ok (.if_icmp .eq 7, 3) := by decide +kernel
theorem dX5_parts_19 : decode cX5_parts 19 = .ok (.iconst 1, 1) := by decide +kernel
theorem dX5_parts_20 : decode cX5_parts 20 = .ok (.goto 4, 3) := by decide +kernel
theorem dX5_parts_23 : decode cX5_parts 23 = .ok (.iconst 0, 1) := by decide +kernel
theorem dX5_parts_24 : decode cX5_parts 24 = .ok (.ireturn, 1) := by decide +kernel
set_option maxRecDepth 20000 in
theorem ggX6_init_J7_fill_53178 : GoodIn wsX6_init wsJ7_fill_53178 := goodIn_r _ [13] rfl (by decide +kernel)
set_option maxRecDepth 20000 in
theorem gX6_init_J7_fill_53178 : GoodIn wsX6_init (va_wsS RX6 28 yJ7_fill_53178 wsJ7_fill_53178) := goodIn_app (goodIn_of _ (by decide +kernel)) ggX6_init_J7_fill_53178
theorem dX6_init_0 : decode cX6_init 0 = .ok (.aload_n 0, 1) := by decide +kernel
theorem dX6_init_1 : decode cX6_init 1 = .ok (.invokespecial 3, 3) := by decide +kernel
theorem dX6_init_4 : decode cX6_init 4 = .ok (.aload_n 0, 1) := by decide +kernel
theorem dX6_init_5 : decode cX6_init 5 = .ok (.iconst 1, 1) := by decide +kernel
theorem dX6_init_6 : decode cX6_init 6 = .ok (.putfield 9, 3) := by decide +kernel
theorem dX6_init_9 : decode cX6_init 9 = .ok (.aload_n 0, 1) := by decide +kernel
theorem dX6_init_10 : decode cX6_init 10 = .ok (.iconst 0, 1) := by decide +kernel
theorem dX6_init_11 : decode cX6_init 11 = .ok (.putfield 15, 3) := by decide +kernel
theorem dX6_init_14 : decode cX6_init 14 = .ok (.aload_n 0, 1) := by decide +kernel
theorem dX6_init_15 : decode cX6_init 15 = .ok (.iconst 0, 1) := by decide +kernel
theorem dX6_init_16 : decode cX6_init 16 = .ok (.putfield 18, 3) := by decide +kernel
theorem dX6_init_19 : decode cX6_init 19 = .ok (.aload_n 0, 1) := by decide +kernel
theorem dX6_init_20 : decode cX6_init 20 = .ok (.iconst 0, 1) := by decide +kernel
theorem dX6_init_21 : decode cX6_init 21 = .ok (.putfield 21, 3) := by decide +kernel
theorem dX6_init_24 : decode cX6_init 24 = .ok (.aload_n 0, 1) := by decide +kernel
theorem dX6_init_25 : decode cX6_init 25 = .ok (.bipush 25, 2) := by decide +kernel
theorem dX6_init_27 : decode cX6_init 27 = .ok (.newarray .int, 2) := by decide +kernel
theorem dX6_init_29 : decode cX6_init 29 = .ok (.putfield 24, 3) := by decide +kernel
theorem dX6_init_32 : decode cX6_init 32 = .ok (.aload_n 0, 1) := by decide +kernel
theorem dX6_init_33 : decode cX6_init 33 = .ok (.getfield 24, 3) := by decide +kernel
theorem dX6_init_36 : decode cX6_init 36 = .ok (.iconst (-1), 1) := by decide +kernel
theorem dX6_init_37 : decode cX6_init 37 = .ok (.invokestatic 28, 3) := by decide +kernel
theorem dX6_init_40 : decode cX6_init 40 = .ok (.return_, 1) := by decide +kernel
set_option maxRecDepth 20000 in
theorem ggX6_become_J7_fill_53178 : GoodIn wsX6_become wsJ7_fill_53178 := goodIn_r _ [9] rfl (by decide +kernel)
set_option maxRecDepth 20000 in
theorem gX6_become_J7_fill_53178 : GoodIn wsX6_become (va_wsS RX6 28 yJ7_fill_53178 wsJ7_fill_53178) := goodIn_app (goodIn_of _ (by decide +kernel)) ggX6_become_J7_fill_53178
theorem dX6_become_0 : decode cX6_become 0 = .ok (.aload_n 0, 1) := by decide +kernel
theorem dX6_become_1 : decode cX6_become 1 = .ok (.iload_n 1, 1) := by decide +kernel
theorem dX6_become_2 : decode cX6_become 2 = .ok (.putfield 9, 3) := by decide +kernel
theorem dX6_become_5 : decode cX6_become 5 = .ok (.aload_n 0, 1) := by decide +kernel
theorem dX6_become_6 : decode cX6_become 6 = .ok (.iload_n 2, 1) := by decide +kernel
theorem dX6_become_7 : decode cX6_become 7 = .ok (.putfield 15, 3) := by decide +kernel
theorem dX6_become_10 : decode cX6_become 10 = .ok (.aload_n 0, 1) := by decide +kernel
theorem dX6_become_11 : decode cX6_become 11 = .ok (.iconst 0, 1) := by decide +kernel
theorem dX6_become_12 : decode cX6_become 12 = .ok (.putfield 18, 3) := by decide +kernel
theorem dX6_become_15 : decode cX6_become 15 = .ok (.aload_n 0, 1) := by decide +kernel
theorem dX6_become_16 : decode cX6_become 16 = .ok (.getfield 24, 3) := by decide +kernel
theorem dX6_become_19 : decode cX6_become 19 = .ok (.iconst (-1), 1) := by decide +kernel
theorem dX6_become_20 : decode cX6_become 20 = .ok (.invokestatic 28, 3) := by decide +kernel
theorem dX6_become_23 : decode cX6_become 23 = .ok (.aload_n 0, 1) := by decide +kernel
theorem dX6_become_24 : decode cX6_become 24 = .ok (.dup, 1) := by decide +kernel
theorem dX6_become_25 : decode cX6_become 25 = .ok (.getfield 21, 3) := by decide +kernel
theorem dX6_become_28 : decode cX6_become 28 = .ok (.iconst 1, 1) := by decide +kernel
theorem dX6_become_29 : decode cX6_become 29 = .ok (.iadd, 1) := by decide +kernel
theorem dX6_become_30 : decode cX6_become 30 = .ok (.putfield 21, 3) := by decide +kernel
theorem dX6_become_33 : decode cX6_become 33 = .ok (.return_, 1) := by decide +kernel
theorem dX6_hasState_0 : decode cX6_hasState 0 = .ok (.iload_n 1, 1) := by decide +kernel
theorem dX6_hasState_1 : decode cX6_hasState 1 = .ok (.ifCond .lt 15, 3) := by decide +kernel
theorem dX6_hasState_4 : decode cX6_hasState 4 = .ok (.iload_n 1, 1) := by decide +kernel
theorem dX6_hasState_5 : decode cX6_hasState 5 = .ok (.aload_n 0, 1) := by decide +kernel
theorem dX6_hasState_6 : decode cX6_hasState 6 = .ok (.getfield 9, 3) := by decide +kernel
theorem dX6_hasState_9 : decode cX6_hasState 9 = .ok (.if_icmp .ge 7, 3) := by decide +kernel
theorem dX6_hasState_12 : decode cX6_hasState 12 = .ok (.iconst 1, 1) := by decide +kernel
theorem dX6_hasState_13 : decode cX6_hasState 13 = .ok (.goto 4, 3) := by decide +kernel
theorem dX6_hasState_16 : decode cX6_hasState 16 = .ok (.iconst 0, 1) := by decide +kernel
theorem dX6_hasState_17 : decode cX6_hasState 17 = .ok (.ireturn, 1) := by decide +kernel
set_option maxRecDepth 20000 in
theorem ggX6_takesIn_X6_hasState : GoodIn wsX6_takesIn wsX6_hasState := goodIn_r _ [6, 7, 8, 9, 10, 11, 12] rfl (by decide +kernel)
set_option maxRecDepth 20000 in
theorem gX6_takesIn_X6_hasState : GoodIn wsX6_takesIn (wsV RX6 34 RX6 yX6_hasState wsX6_hasState) := goodIn_app (goodIn_of _ (by decide +kernel)) ggX6_takesIn_X6_hasState
theorem dX6_takesIn_0 : decode cX6_takesIn 0 = .ok (.aload_n 0, 1) := by decide +kernel
theorem dX6_takesIn_1 : decode cX6_takesIn 1 = .ok (.iload_n 1, 1) := by decide +kernel
theorem dX6_takesIn_2 : decode cX6_takesIn 2 = .ok (.invokevirtual 34, 3) := by decide +kernel
theorem dX6_takesIn_5 : decode cX6_takesIn 5 = .ok (.ifCond .eq 19, 3) := by decide +kernel
theorem dX6_takesIn_8 : decode cX6_takesIn 8 = .ok (.aload_n 0, 1) := by decide +kernel
theorem dX6_takesIn_9 : decode cX6_takesIn 9 = .ok (.getfield 15, 3) := by decide +kernel
theorem dX6_takesIn_12 : decode cX6_takesIn 12 = .ok (.iload_n 1, 1) := by decide +kernel
theorem dX6_takesIn_13 : decode cX6_takesIn 13 = .ok (.ishr, 1) := by decide +kernel
theorem dX6_takesIn_14 : decode cX6_takesIn 14 = .ok (.iconst 1, 1) := by decide +kernel
theorem dX6_takesIn_15 : decode cX6_takesIn 15 = .ok (.iand, 1) := by decide +kernel
theorem dX6_takesIn_16 : decode cX6_takesIn 16 = .ok (.iconst 1, 1) := by decide +kernel
theorem dX6_takesIn_17 : decode cX6_takesIn 17 = .ok (.if_icmp .ne 7, 3) := by decide +kernel
theorem dX6_takesIn_20 : decode cX6_takesIn 20 = .ok (.iconst 1, 1) := by decide +kernel
theorem dX6_takesIn_21 : decode cX6_takesIn 21 = .ok (.goto 4, 3) := by decide +kernel
theorem dX6_takesIn_24 : decode cX6_takesIn 24 = .ok (.iconst 0, 1) := by decide +kernel
theorem dX6_takesIn_25 : decode cX6_takesIn 25 = .ok (.ireturn, 1) := by decide +kernel
theorem dX6_pack_0 : decode cX6_pack 0 = .ok (.iload_n 0, 1) := by decide +kernel
theorem dX6_pack_1 : decode cX6_pack 1 = .ok (.iconst 3, 1) := by decide +kernel
theorem dX6_pack_2 : decode cX6_pack 2 = .ok (.ishl, 1) := by decide +kernel
theorem dX6_pack_3 : decode cX6_pack 3 = .ok (.iload_n 1, 1) := by decide +kernel
theorem dX6_pack_4 : decode cX6_pack 4 = .ok (.ifCond .eq 7, 3) := by decide +kernel
theorem dX6_pack_7 : decode cX6_pack 7 = .ok (.iconst 4, 1) := by decide +kernel
theorem dX6_pack_8 : decode cX6_pack 8 = .ok (.goto 4, 3) := by decide +kernel
theorem dX6_pack_11 : decode cX6_pack 11 = .ok (.iconst 0, 1) := by decide +kernel
theorem dX6_pack_12 : decode cX6_pack 12 = .ok (.ior, 1) := by decide +kernel
theorem dX6_pack_13 : decode cX6_pack 13 = .ok (.iload_n 2, 1) := by decide +kernel
theorem dX6_pack_14 : decode cX6_pack 14 = .ok (.iconst 1, 1) := by decide +kernel
theorem dX6_pack_15 : decode cX6_pack 15 = .ok (.iadd, 1) := by decide +kernel
theorem dX6_pack_16 : decode cX6_pack 16 = .ok (.ior, 1) := by decide +kernel
theorem dX6_pack_17 : decode cX6_pack 17 = .ok (.ireturn, 1) := by decide +kernel
theorem dX6_target_0 : decode cX6_target 0 = .ok (.iload_n 0, 1) := by decide +kernel
theorem dX6_target_1 : decode cX6_target 1 = .ok (.iconst 3, 1) := by decide +kernel
theorem dX6_target_2 : decode cX6_target 2 = .ok (.ishr, 1) := by decide +kernel
theorem dX6_target_3 : decode cX6_target 3 = .ok (.ireturn, 1) := by decide +kernel
theorem dX6_goesRight_0 : decode cX6_goesRight 0 = .ok (.iload_n 0, 1) := by decide +kernel
theorem dX6_goesRight_1 : decode cX6_goesRight 1 = .ok (.iconst 4, 1) := by decide +kernel
theorem dX6_goesRight_2 : decode cX6_goesRight 2 = .ok (.iand, 1) := by decide +kernel
theorem dX6_goesRight_3 : decode cX6_goesRight 3 = .ok (.iconst 4, 1) := by decide +kernel
theorem dX6_goesRight_4 : decode cX6_goesRight 4 = .ok (.if_icmp .ne 7, 3) := by decide +kernel
theorem dX6_goesRight_7 : decode cX6_goesRight 7 = .ok (.iconst 1, 1) := by decide +kernel
theorem dX6_goesRight_8 : decode cX6_goesRight 8 = .ok (.goto 4, 3) := by decide +kernel
theorem dX6_goesRight_11 : decode cX6_goesRight 11 = .ok (.iconst 0, 1) := by decide +kernel
theorem dX6_goesRight_12 : decode cX6_goesRight 12 = .ok (.ireturn, 1) := by decide +kernel
theorem dX6_saying_0 : decode cX6_saying 0 = .ok (.iload_n 0, 1) := by decide +kernel
theorem dX6_saying_1 : decode cX6_saying 1 = .ok (.iconst 3, 1) := by decide +kernel
theorem dX6_saying_2 : decode cX6_saying 2 = .ok (.iand, 1) := by decide +kernel
theorem dX6_saying_3 : decode cX6_saying 3 = .ok (.iconst 1, 1) := by decide +kernel
theorem dX6_saying_4 : decode cX6_saying 4 = .ok (.isub, 1) := by decide +kernel
theorem dX6_saying_5 : decode cX6_saying 5 = .ok (.ireturn, 1) := by decide +kernel
theorem dX6_moveOf_0 : decode cX6_moveOf 0 = .ok (.iload_n 1, 1) := by decide +kernel
theorem dX6_moveOf_1 : decode cX6_moveOf 1 = .ok (.ifCond .lt 24, 3) := by decide +kernel
theorem dX6_moveOf_4 : decode cX6_moveOf 4 = .ok (.iload_n 1, 1) := by decide +kernel
theorem dX6_moveOf_5 : decode cX6_moveOf 5 = .ok (.aload_n 0, 1) := by decide +kernel
theorem dX6_moveOf_6 : decode cX6_moveOf 6 = .ok (.getfield 9, 3) := by decide +kernel
theorem dX6_moveOf_9 : decode cX6_moveOf 9 = .ok (.if_icmp .ge 16, 3) := by decide +kernel
theorem dX6_moveOf_12 : decode cX6_moveOf 12 = .ok (.iload_n 2, 1) := by decide +kernel
theorem dX6_moveOf_13 : decode cX6_moveOf 13 = .ok (.ifCond .lt 12, 3) := by decide +kernel
theorem dX6_moveOf_16 : decode cX6_moveOf 16 = .ok (.iload_n 2, 1) := by decide +kernel
theorem dX6_moveOf_17 : decode cX6_moveOf 17 = .ok (.iconst 5, 1) := by decide +kernel
theorem dX6_moveOf_18 : decode cX6_moveOf 18 = .ok (.if_icmp .ge 7, 3) := by decide +kernel
theorem dX6_moveOf_21 : decode cX6_moveOf 21 = .ok (.iconst 1, 1) := by decide +kernel
theorem dX6_moveOf_22 : decode cX6_moveOf 22 = .ok (.goto 4, 3) := by decide +kernel
theorem dX6_moveOf_25 : decode cX6_moveOf 25 = .ok (.iconst 0, 1) := by decide +kernel
theorem dX6_moveOf_26 : decode cX6_moveOf 26 = .ok (.istore_n 3, 1) := by decide +kernel
theorem dX6_moveOf_27 : decode cX6_moveOf 27 = .ok (.iload_n 3, 1) := by decide +kernel
theorem dX6_moveOf_28 : decode cX6_moveOf 28 = .ok (.ifCond .eq 16, 3) := by decide +kernel
theorem dX6_moveOf_31 : decode cX6_moveOf 31 = .ok (.aload_n 0, 1) := by decide +kernel
theorem dX6_moveOf_32 : decode cX6_moveOf 32 = .ok (.getfield 24, 3) := by decide +kernel
theorem dX6_moveOf_35 : decode cX6_moveOf 35 = .ok (.iload_n 1, 1) := by decide +kernel
theorem dX6_moveOf_36 : decode cX6_moveOf 36 = .ok (.iconst 5, 1) := by decide +kernel
theorem dX6_moveOf_37 : decode cX6_moveOf 37 = .ok (.imul, 1) := by decide +kernel
theorem dX6_moveOf_38 : decode cX6_moveOf 38 = .ok (.iload_n 2, 1) := by decide +kernel
theorem dX6_moveOf_39 : decode cX6_moveOf 39 = .ok (.iadd, 1) := by decide +kernel
theorem dX6_moveOf_40 : decode cX6_moveOf 40 = .ok (.iaload, 1) := by decide +kernel
theorem dX6_moveOf_41 : decode cX6_moveOf 41 = .ok (.goto 4, 3) := by decide +kernel
theorem dX6_moveOf_44 : decode cX6_moveOf 44 = .ok (.iconst (-1), 1) := by decide +kernel
theorem dX6_moveOf_45 : decode cX6_moveOf 45 = .ok (.ireturn, 1) := by decide +kernel
set_option maxRecDepth 20000 in
theorem ggX6_put_X6_hasState : GoodIn wsX6_put wsX6_hasState := goodIn_r _ [8, 9, 13, 14, 15, 16, 17] rfl (by decide +kernel)
set_option maxRecDepth 20000 in
theorem gX6_put_X6_hasState : GoodIn wsX6_put (wsV RX6 34 RX6 yX6_hasState wsX6_hasState) := goodIn_app (goodIn_of _ (by decide +kernel)) ggX6_put_X6_hasState
set_option maxRecDepth 20000 in
theorem ggX6_put_X11_isSign : GoodIn wsX6_put wsX11_isSign := goodIn_r _ [12] rfl (by decide +kernel)
set_option maxRecDepth 20000 in
theorem gX6_put_X11_isSign_n38 : GoodIn wsX6_put (wsX11_isSign) := ggX6_put_X11_isSign
theorem dX6_put_0 : decode cX6_put 0 = .ok (.aload_n 0, 1) := by decide +kernel
theorem dX6_put_1 : decode cX6_put 1 = .ok (.iload_n 1, 1) := by decide +kernel
theorem dX6_put_2 : decode cX6_put 2 = .ok (.invokevirtual 34, 3) := by decide +kernel
theorem dX6_put_5 : decode cX6_put 5 = .ok (.ifCond .eq 10, 3) := by decide +kernel
theorem dX6_put_8 : decode cX6_put 8 = .ok (.iload_n 2, 1) := by decide +kernel
theorem dX6_put_9 : decode cX6_put 9 = .ok (.invokestatic 38, 3) := by decide +kernel
theorem dX6_put_12 : decode cX6_put 12 = .ok (.ifCond .ne 4, 3) := by decide +kernel
theorem dX6_put_15 : decode cX6_put 15 = .ok (.return_, 1) := by decide +kernel
theorem dX6_put_16 : decode cX6_put 16 = .ok (.iload_n 1, 1) := by decide +kernel
theorem dX6_put_17 : decode cX6_put 17 = .ok (.iconst 5, 1) := by decide +kernel
theorem dX6_put_18 : decode cX6_put 18 = .ok (.imul, 1) := by decide +kernel
theorem dX6_put_19 : decode cX6_put 19 = .ok (.iload_n 2, 1) := by decide +kernel
theorem dX6_put_20 : decode cX6_put 20 = .ok (.iadd, 1) := by decide +kernel
theorem dX6_put_21 : decode cX6_put 21 = .ok (.istore 4, 2) := by decide +kernel
theorem dX6_put_23 : decode cX6_put 23 = .ok (.aload_n 0, 1) := by decide +kernel
theorem dX6_put_24 : decode cX6_put 24 = .ok (.dup, 1) := by decide +kernel
theorem dX6_put_25 : decode cX6_put 25 = .ok (.getfield 18, 3) := by decide +kernel
theorem dX6_put_28 : decode cX6_put 28 = .ok (.iload_n 3, 1) := by decide +kernel
theorem dX6_put_29 : decode cX6_put 29 = .ok (.iconst (-1), 1) := by decide +kernel
theorem dX6_put_30 : decode cX6_put 30 = .ok (.if_icmp .ne 7, 3) := by decide +kernel
theorem dX6_put_33 : decode cX6_put 33 = .ok (.iconst 0, 1) := by decide +kernel
theorem dX6_put_34 : decode cX6_put 34 = .ok (.goto 4, 3) := by decide +kernel
theorem dX6_put_37 : decode cX6_put 37 = .ok (.iconst 1, 1) := by decide +kernel
theorem dX6_put_38 : decode cX6_put 38 = .ok (.aload_n 0, 1) := by decide +kernel
theorem dX6_put_39 : decode cX6_put 39 = .ok (.getfield 24, 3) := by decide +kernel
theorem dX6_put_42 : decode cX6_put 42 = .ok (.iload 4, 2) := by decide +kernel
theorem dX6_put_44 : decode cX6_put 44 = .ok (.iaload, 1) := by decide +kernel
theorem dX6_put_45 : decode cX6_put 45 = .ok (.iconst (-1), 1) := by decide +kernel
theorem dX6_put_46 : decode cX6_put 46 = .ok (.if_icmp .ne 7, 3) := by decide +kernel
theorem dX6_put_49 : decode cX6_put 49 = .ok (.iconst 0, 1) := by decide +kernel
theorem dX6_put_50 : decode cX6_put 50 = .ok (.goto 4, 3) := by decide +kernel
theorem dX6_put_53 : decode cX6_put 53 = .ok (.iconst 1, 1) := by decide +kernel
theorem dX6_put_54 : decode cX6_put 54 = .ok (.isub, 1) := by decide +kernel
theorem dX6_put_55 : decode cX6_put 55 = .ok (.iadd, 1) := by decide +kernel
theorem dX6_put_56 : decode cX6_put 56 = .ok (.putfield 18, 3) := by decide +kernel
theorem dX6_put_59 : decode cX6_put 59 = .ok (.aload_n 0, 1) := by decide +kernel
theorem dX6_put_60 : decode cX6_put 60 = .ok (.getfield 24, 3) := by decide +kernel
theorem dX6_put_63 : decode cX6_put 63 = .ok (.iload 4, 2) := by decide +kernel
theorem dX6_put_65 : decode cX6_put 65 = .ok (.iload_n 3, 1) := by decide +kernel
theorem dX6_put_66 : decode cX6_put 66 = .ok (.iastore, 1) := by decide +kernel
theorem dX6_put_67 : decode cX6_put 67 = .ok (.aload_n 0, 1) := by decide +kernel
theorem dX6_put_68 : decode cX6_put 68 = .ok (.dup, 1) := by decide +kernel
theorem dX6_put_69 : decode cX6_put 69 = .ok (.getfield 21, 3) := by decide +kernel
theorem dX6_put_72 : decode cX6_put 72 = .ok (.iconst 1, 1) := by decide +kernel
theorem dX6_put_73 : decode cX6_put 73 = .ok (.iadd, 1) := by decide +kernel
theorem dX6_put_74 : decode cX6_put 74 = .ok (.putfield 21, 3) := by decide +kernel
theorem dX6_put_77 : decode cX6_put 77 = .ok (.return_, 1) := by decide +kernel
theorem dX7_init_0 : decode cX7_init 0 = .ok (.aload_n 0, 1) := by decide +kernel
theorem dX7_init_1 : decode cX7_init 1 = .ok (.invokespecial 3, 3) := by decide +kernel
theorem dX7_init_4 : decode cX7_init 4 = .ok (.aload_n 0, 1) := by decide +kernel
theorem dX7_init_5 : decode cX7_init 5 = .ok (.bipush 7, 2) := by decide +kernel
theorem dX7_init_7 : decode cX7_init 7 = .ok (.newarray .int, 2) := by decide +kernel
theorem dX7_init_9 : decode cX7_init 9 = .ok (.putfield 9, 3) := by decide +kernel
theorem dX7_init_12 : decode cX7_init 12 = .ok (.aload_n 0, 1) := by decide +kernel
theorem dX7_init_13 : decode cX7_init 13 = .ok (.iconst 0, 1) := by decide +kernel
theorem dX7_init_14 : decode cX7_init 14 = .ok (.putfield 15, 3) := by decide +kernel
theorem dX7_init_17 : decode cX7_init 17 = .ok (.return_, 1) := by decide +kernel
set_option maxRecDepth 20000 in
theorem ggX7_begin_J7_fill_53178 : GoodIn wsX7_begin wsJ7_fill_53178 := goodIn_r _ [13] rfl (by decide +kernel)
set_option maxRecDepth 20000 in
theorem gX7_begin_J7_fill_53178 : GoodIn wsX7_begin (va_wsS RX7 28 yJ7_fill_53178 wsJ7_fill_53178) := goodIn_app (goodIn_of _ (by decide +kernel)) ggX7_begin_J7_fill_53178
theorem dX7_begin_0 : decode cX7_begin 0 = .ok (.aload_n 0, 1) := by decide +kernel
theorem dX7_begin_1 : decode cX7_begin 1 = .ok (.iconst 0, 1) := by decide +kernel
theorem dX7_begin_2 : decode cX7_begin 2 = .ok (.iload_n 1, 1) := by decide +kernel
theorem dX7_begin_3 : decode cX7_begin 3 = .ok (.bipush 7, 2) := by decide +kernel
theorem dX7_begin_5 : decode cX7_begin 5 = .ok (.invokestatic 19, 3) := by decide +kernel
theorem dX7_begin_8 : decode cX7_begin 8 = .ok (.invokestatic 25, 3) := by decide +kernel
theorem dX7_begin_11 : decode cX7_begin 11 = .ok (.putfield 15, 3) := by decide +kernel
theorem dX7_begin_14 : decode cX7_begin 14 = .ok (.aload_n 0, 1) := by decide +kernel
theorem dX7_begin_15 : decode cX7_begin 15 = .ok (.getfield 9, 3) := by decide +kernel
theorem dX7_begin_18 : decode cX7_begin 18 = .ok (.iconst 0, 1) := by decide +kernel
theorem dX7_begin_19 : decode cX7_begin 19 = .ok (.invokestatic 28, 3) := by decide +kernel
theorem dX7_begin_22 : decode cX7_begin 22 = .ok (.return_, 1) := by decide +kernel
theorem dX7_howMany_0 : decode cX7_howMany 0 = .ok (.aload_n 0, 1) := by decide +kernel
theorem dX7_howMany_1 : decode cX7_howMany 1 = .ok (.getfield 15, 3) := by decide +kernel
theorem dX7_howMany_4 : decode cX7_howMany 4 = .ok (.ifCond .lt 25, 3) := by decide +kernel
theorem dX7_howMany_7 : decode cX7_howMany 7 = .ok (.aload_n 0, 1) := by decide +kernel
theorem dX7_howMany_8 : decode cX7_howMany 8 = .ok (.getfield 15, 3) := by decide +kernel
theorem dX7_howMany_11 : decode cX7_howMany 11 = .ok (.getstatic 34, 3) := by decide +kernel
theorem dX7_howMany_14 : decode cX7_howMany 14 = .ok (.arraylength, 1) := by decide +kernel
theorem dX7_howMany_15 : decode cX7_howMany 15 = .ok (.if_icmp .ge 14, 3) := by decide +kernel
theorem dX7_howMany_18 : decode cX7_howMany 18 = .ok (.getstatic 34, 3) := by decide +kernel
theorem dX7_howMany_21 : decode cX7_howMany 21 = .ok (.aload_n 0, 1) := by decide +kernel
theorem dX7_howMany_22 : decode cX7_howMany 22 = .ok (.getfield 15, 3) := by decide +kernel
theorem dX7_howMany_25 : decode cX7_howMany 25 = .ok (.iaload, 1) := by decide +kernel
theorem dX7_howMany_26 : decode cX7_howMany 26 = .ok (.goto 4, 3) := by decide +kernel
theorem dX7_howMany_29 : decode cX7_howMany 29 = .ok (.iconst 0, 1) := by decide +kernel
theorem dX7_howMany_30 : decode cX7_howMany 30 = .ok (.ireturn, 1) := by decide +kernel
theorem dX7_forward_0 : decode cX7_forward 0 = .ok (.aload_n 0, 1) := by decide +kernel
theorem dX7_forward_1 : decode cX7_forward 1 = .ok (.getfield 15, 3) := by decide +kernel
theorem dX7_forward_4 : decode cX7_forward 4 = .ok (.iconst 1, 1) := by decide +kernel
theorem dX7_forward_5 : decode cX7_forward 5 = .ok (.isub, 1) := by decide +kernel
theorem dX7_forward_6 : decode cX7_forward 6 = .ok (.istore_n 1, 1) := by decide +kernel
theorem dX7_forward_7 : decode cX7_forward 7 = .ok (.iload_n 1, 1) := by decide +kernel
theorem dX7_forward_8 : decode cX7_forward 8 = .ok (.ifCond .lt 37, 3) := by decide +kernel
theorem dX7_forward_11 : decode cX7_forward 11 = .ok (.aload_n 0, 1) := by decide +kernel
theorem dX7_forward_12 : decode cX7_forward 12 = .ok (.getfield 9, 3) := by decide +kernel
theorem dX7_forward_15 : decode cX7_forward 15 = .ok (.iload_n 1, 1) := by decide +kernel
theorem dX7_forward_16 : decode cX7_forward 16 = .ok (.iaload, 1) := by decide +kernel
theorem dX7_forward_17 : decode cX7_forward 17 = .ok (.iconst 2, 1) := by decide +kernel
theorem dX7_forward_18 : decode cX7_forward 18 = .ok (.if_icmp .ge 14, 3) := by decide +kernel
theorem dX7_forward_21 : decode cX7_forward 21 = .ok (.aload_n 0, 1) := by decide +kernel
theorem dX7_forward_22 : decode cX7_forward 22 = .ok (.getfield 9, 3) := by decide +kernel
theorem dX7_forward_25 : decode cX7_forward 25 = .ok (.iload_n 1, 1) := by decide +kernel
theorem dX7_forward_26 : decode cX7_forward 26 = .ok (.dup2, 1) := by decide +kernel
theorem dX7_forward_27 : decode cX7_forward 27 = .ok (.iaload, 1) := by decide +kernel
theorem dX7_forward_28 : decode cX7_forward 28 = .ok (.iconst 1, 1) := by decide +kernel
theorem dX7_forward_29 : decode cX7_forward 29 = .ok (.iadd, 1) := by decide +kernel
theorem dX7_forward_30 : decode cX7_forward 30 = .ok (.iastore, 1) := by decide +kernel
theorem dX7_forward_31 : decode cX7_forward 31 = .ok (.return_, 1) := by decide +kernel
theorem dX7_forward_32 : decode cX7_forward 32 = .ok (.aload_n 0, 1) := by decide +kernel
theorem dX7_forward_33 : decode cX7_forward 33 = .ok (.getfield 9, 3) := by decide +kernel
theorem dX7_forward_36 : decode cX7_forward 36 = .ok (.iload_n 1, 1) := by decide +kernel
theorem dX7_forward_37 : decode cX7_forward 37 = .ok (.iconst 0, 1) := by decide +kernel
theorem dX7_forward_38 : decode cX7_forward 38 = .ok (.iastore, 1) := by decide +kernel
theorem dX7_forward_39 : decode cX7_forward 39 = .ok (.iinc 1 (-1), 3) := by decide +kernel
theorem dX7_forward_42 : decode cX7_forward 42 = .ok (.goto (-35), 3) := by decide +kernel
theorem dX7_forward_45 : decode cX7_forward 45 = .ok (.return_, 1) := by decide +kernel
set_option maxRecDepth 20000 in
theorem ggX8_init_X10_init : GoodIn wsX8_init wsX10_init := goodIn_r _ [20, 21, 2, 3, 22, 23, 24, 25, 31, 32, 33, 34, 35, 36, 37] rfl (by decide +kernel)
set_option maxRecDepth 20000 in
theorem gX8_init_X10_init_n11 : GoodIn wsX8_init (wsX10_init) := ggX8_init_X10_init
set_option maxRecDepth 20000 in
theorem ggX8_init_X7_init : GoodIn wsX8_init wsX7_init := goodIn_r _ [27, 28, 2, 3, 24, 29, 30, 47, 48] rfl (by decide +kernel)
set_option maxRecDepth 20000 in
theorem gX8_init_X7_init_n23 : GoodIn wsX8_init (wsX7_init) := ggX8_init_X7_init
theorem dX8_init_0 : decode cX8_init 0 = .ok (.aload_n 0, 1) := by decide +kernel
theorem dX8_init_1 : decode cX8_init 1 = .ok (.invokespecial 3, 3) := by decide +kernel
theorem dX8_init_4 : decode cX8_init 4 = .ok (.aload_n 0, 1) := by decide +kernel
theorem dX8_init_5 : decode cX8_init 5 = .ok (.new 9, 3) := by decide +kernel
theorem dX8_init_8 : decode cX8_init 8 = .ok (.dup, 1) := by decide +kernel
theorem dX8_init_9 : decode cX8_init 9 = .ok (.invokespecial 11, 3) := by decide +kernel
theorem dX8_init_12 : decode cX8_init 12 = .ok (.putfield 12, 3) := by decide +kernel
theorem dX8_init_15 : decode cX8_init 15 = .ok (.aload_n 0, 1) := by decide +kernel
theorem dX8_init_16 : decode cX8_init 16 = .ok (.new 9, 3) := by decide +kernel
theorem dX8_init_19 : decode cX8_init 19 = .ok (.dup, 1) := by decide +kernel
theorem dX8_init_20 : decode cX8_init 20 = .ok (.invokespecial 11, 3) := by decide +kernel
theorem dX8_init_23 : decode cX8_init 23 = .ok (.putfield 18, 3) := by decide +kernel
theorem dX8_init_26 : decode cX8_init 26 = .ok (.aload_n 0, 1) := by decide +kernel
theorem dX8_init_27 : decode cX8_init 27 = .ok (.new 21, 3) := by decide +kernel
theorem dX8_init_30 : decode cX8_init 30 = .ok (.dup, 1) := by decide +kernel
theorem dX8_init_31 : decode cX8_init 31 = .ok (.invokespecial 23, 3) := by decide +kernel
theorem dX8_init_34 : decode cX8_init 34 = .ok (.putfield 24, 3) := by decide +kernel
theorem dX8_init_37 : decode cX8_init 37 = .ok (.aload_n 0, 1) := by decide +kernel
theorem dX8_init_38 : decode cX8_init 38 = .ok (.iconst (-1), 1) := by decide +kernel
theorem dX8_init_39 : decode cX8_init 39 = .ok (.putfield 28, 3) := by decide +kernel
theorem dX8_init_42 : decode cX8_init 42 = .ok (.aload_n 0, 1) := by decide +kernel
theorem dX8_init_43 : decode cX8_init 43 = .ok (.iconst (-1), 1) := by decide +kernel
theorem dX8_init_44 : decode cX8_init 44 = .ok (.putfield 32, 3) := by decide +kernel
theorem dX8_init_47 : decode cX8_init 47 = .ok (.aload_n 0, 1) := by decide +kernel
theorem dX8_init_48 : decode cX8_init 48 = .ok (.iconst 0, 1) := by decide +kernel
theorem dX8_init_49 : decode cX8_init 49 = .ok (.putfield 35, 3) := by decide +kernel
theorem dX8_init_52 : decode cX8_init 52 = .ok (.aload_n 0, 1) := by decide +kernel
theorem dX8_init_53 : decode cX8_init 53 = .ok (.iconst 0, 1) := by decide +kernel
theorem dX8_init_54 : decode cX8_init 54 = .ok (.putfield 38, 3) := by decide +kernel
theorem dX8_init_57 : decode cX8_init 57 = .ok (.aload_n 0, 1) := by decide +kernel
theorem dX8_init_58 : decode cX8_init 58 = .ok (.aload_n 1, 1) := by decide +kernel
theorem dX8_init_59 : decode cX8_init 59 = .ok (.putfield 42, 3) := by decide +kernel
theorem dX8_init_62 : decode cX8_init 62 = .ok (.aload_n 0, 1) := by decide +kernel
theorem dX8_init_63 : decode cX8_init 63 = .ok (.aload_n 2, 1) := by decide +kernel
theorem dX8_init_64 : decode cX8_init 64 = .ok (.putfield 46, 3) := by decide +kernel
theorem dX8_init_67 : decode cX8_init 67 = .ok (.return_, 1) := by decide +kernel
set_option maxRecDepth 20000 in
theorem ggX8_firstOtherwise_X8_renew : GoodIn wsX8_firstOtherwise wsX8_renew := goodIn_r _ [8, 9, 10, 11, 12, 1, 2, 106, 107, 108, 109, 110, 111, 112, 113, 114, 117, 118, 119, 120, 121] rfl (by decide +kernel)
set_option maxRecDepth 20000 in
theorem gX8_firstOtherwise_X8_renew : GoodIn wsX8_firstOtherwise (wsV RX8 49 RX8 yX8_renew wsX8_renew) := goodIn_app (goodIn_of _ (by decide +kernel)) ggX8_firstOtherwise_X8_renew
set_option maxRecDepth 20000 in
theorem ggX8_firstOtherwise_X8_tryLength : GoodIn wsX8_firstOtherwise wsX8_tryLength := goodIn_r _ [16, 3, 2, 17, 18, 19, 20, 21, 22, 23, 24, 25, 26, 27, 28, 29, 30, 31, 32, 33, 34, 35, 36, 37, 38, 39, 40, 41, 42, 7, 43, 44, 10, 45, 12, 46, 47, 48, 49, 50, 51, 52, 53, 54, 55, 56, 57, 58, 59, 60, 61, 62, 63, 64, 65, 66, 67, 68, 69, 70, 71, 72, 73, 74, 75, 76, 77, 78, 79, 80, 81, 82, 83, 84, 85, 86, 87, 88, 89, 90, 91, 92, 93, 94, 95, 96, 97, 98, 99, 100, 101, 102, 103, 104, 105, 106, 107, 108, 109, 110, 111, 112, 113, 114, 115, 116, 122, 123, 124, 125, 126, 127, 128, 117, 118, 119, 120, 121] rfl (by decide +kernel)
set_option maxRecDepth 20000 in
theorem gX8_firstOtherwise_X8_tryLength : GoodIn wsX8_firstOtherwise (wsV RX8 52 RX8 yX8_tryLength wsX8_tryLength) := goodIn_app (goodIn_of _ (by decide +kernel)) ggX8_firstOtherwise_X8_tryLength
theorem dX8_firstOtherwise_0 : decode cX8_firstOtherwise 0 = .ok (.aload_n 0, 1) := by decide +kernel
theorem dX8_firstOtherwise_1 : decode cX8_firstOtherwise 1 = .ok (.invokevirtual 49, 3) := by decide +kernel
theorem dX8_firstOtherwise_4 : decode cX8_firstOtherwise 4 = .ok (.aload_n 0, 1) := by decide +kernel
theorem dX8_firstOtherwise_5 : decode cX8_firstOtherwise 5 = .ok (.getfield 35, 3) := by decide +kernel
theorem dX8_firstOtherwise_8 : decode cX8_firstOtherwise 8 = .ok (.istore_n 3, 1) := by decide +kernel
theorem dX8_firstOtherwise_9 : decode cX8_firstOtherwise 9 = .ok (.iload_n 3, 1) := by decide +kernel
theorem dX8_firstOtherwise_10 : decode cX8_firstOtherwise 10 = .ok (.iload_n 1, 1) := by decide +kernel
theorem dX8_firstOtherwise_11 : decode cX8_firstOtherwise 11 = .ok (.if_icmp .gt 34, 3) := by decide +kernel
theorem dX8_firstOtherwise_14 : decode cX8_firstOtherwise 14 = .ok (.iload_n 3, 1) := by decide +kernel
theorem dX8_firstOtherwise_15 : decode cX8_firstOtherwise 15 = .ok (.bipush 7, 2) := by decide +kernel
theorem dX8_firstOtherwise_17 : decode cX8_firstOtherwise 17 = .ok (.if_icmp .gt 28, 3) := by decide +kernel
theorem dX8_firstOtherwise_20 : decode cX8_firstOtherwise 20 = .ok (.aload_n 0, 1) := by decide +kernel
theorem dX8_firstOtherwise_21 : decode cX8_firstOtherwise 21 = .ok (.getfield 38, 3) := by decide +kernel
theorem dX8_firstOtherwise_24 : decode cX8_firstOtherwise 24 = .ok (.ifCond .ne 21, 3) := by decide +kernel
theorem dX8_firstOtherwise_27 : decode cX8_firstOtherwise 27 = .ok (.aload_n 0, 1) := by decide +kernel
theorem dX8_firstOtherwise_28 : decode cX8_firstOtherwise 28 = .ok (.iload_n 3, 1) := by decide +kernel
theorem dX8_firstOtherwise_29 : decode cX8_firstOtherwise 29 = .ok (.invokevirtual 52, 3) := by decide +kernel
theorem dX8_firstOtherwise_32 : decode cX8_firstOtherwise 32 = .ok (.aload_n 0, 1) := by decide +kernel
theorem dX8_firstOtherwise_33 : decode cX8_firstOtherwise 33 = .ok (.iload_n 3, 1) := by decide +kernel
theorem dX8_firstOtherwise_34 : decode cX8_firstOtherwise 34 = .ok (.iconst 1, 1) := by decide +kernel
theorem dX8_firstOtherwise_35 : decode cX8_firstOtherwise 35 = .ok (.iadd, 1) := by decide +kernel
theorem dX8_firstOtherwise_36 : decode cX8_firstOtherwise 36 = .ok (.putfield 35, 3) := by decide +kernel
theorem dX8_firstOtherwise_39 : decode cX8_firstOtherwise 39 = .ok (.iinc 3 1, 3) := by decide +kernel
theorem dX8_firstOtherwise_42 : decode cX8_firstOtherwise 42 = .ok (.goto (-33), 3) := by decide +kernel
theorem dX8_firstOtherwise_45 : decode cX8_firstOtherwise 45 = .ok (.aload_n 0, 1) := by decide +kernel
theorem dX8_firstOtherwise_46 : decode cX8_firstOtherwise 46 = .ok (.getfield 38, 3) := by decide +kernel
theorem dX8_firstOtherwise_49 : decode cX8_firstOtherwise 49 = .ok (.ifCond .eq 25, 3) := by decide +kernel
theorem dX8_firstOtherwise_52 : decode cX8_firstOtherwise 52 = .ok (.aload_n 0, 1) := by decide +kernel
theorem dX8_firstOtherwise_53 : decode cX8_firstOtherwise 53 = .ok (.getfield 24, 3) := by decide +kernel
theorem dX8_firstOtherwise_56 : decode cX8_firstOtherwise 56 = .ok (.getfield 56, 3) := by decide +kernel
theorem dX8_firstOtherwise_59 : decode cX8_firstOtherwise 59 = .ok (.iload_n 1, 1) := by decide +kernel
theorem dX8_firstOtherwise_60 : decode cX8_firstOtherwise 60 = .ok (.if_icmp .gt 14, 3) := by decide +kernel
theorem dX8_firstOtherwise_63 : decode cX8_firstOtherwise 63 = .ok (.iload_n 2, 1) := by decide +kernel
theorem dX8_firstOtherwise_64 : decode cX8_firstOtherwise 64 = .ok (.aload_n 0, 1) := by decide +kernel
theorem dX8_firstOtherwise_65 : decode cX8_firstOtherwise 65 = .ok (.getfield 24, 3) := by decide +kernel
theorem dX8_firstOtherwise_68 : decode cX8_firstOtherwise 68 = .ok (.getfield 56, 3) := by decide +kernel
theorem dX8_firstOtherwise_71 : decode cX8_firstOtherwise 71 = .ok (.if_icmp .lt 5, 3) := by decide +kernel
theorem dX8_firstOtherwise_74 : decode cX8_firstOtherwise 74 = .ok (.iconst (-1), 1) := by decide +kernel
theorem dX8_firstOtherwise_75 : decode cX8_firstOtherwise 75 = .ok (.ireturn, 1) := by decide +kernel
theorem dX8_firstOtherwise_76 : decode cX8_firstOtherwise 76 = .ok (.iload_n 2, 1) := by decide +kernel
theorem dX8_firstOtherwise_77 : decode cX8_firstOtherwise 77 = .ok (.ifCond .ge 13, 3) := by decide +kernel
theorem dX8_firstOtherwise_80 : decode cX8_firstOtherwise 80 = .ok (.aload_n 0, 1) := by decide +kernel
theorem dX8_firstOtherwise_81 : decode cX8_firstOtherwise 81 = .ok (.getfield 24, 3) := by decide +kernel
theorem dX8_firstOtherwise_84 : decode cX8_firstOtherwise 84 = .ok (.getfield 56, 3) := by decide +kernel
theorem dX8_firstOtherwise_87 : decode cX8_firstOtherwise 87 = .ok (.goto 12, 3) := by decide +kernel
theorem dX8_firstOtherwise_90 : decode cX8_firstOtherwise 90 = .ok (.aload_n 0, 1) := by decide +kernel
theorem dX8_firstOtherwise_91 : decode cX8_firstOtherwise 91 = .ok (.getfield 24, 3) := by decide +kernel
theorem dX8_firstOtherwise_94 : decode cX8_firstOtherwise 94 = .ok (.getfield 59, 3) := by decide +kernel
theorem dX8_firstOtherwise_97 : decode cX8_firstOtherwise 97 = .ok (.iload_n 2, 1) := by decide +kernel
theorem dX8_firstOtherwise_98 : decode cX8_firstOtherwise 98 = .ok (.iaload, 1) := by decide +kernel
theorem dX8_firstOtherwise_99 : decode cX8_firstOtherwise 99 = .ok (.ireturn, 1) := by decide +kernel
theorem dX8_renew_0 : decode cX8_renew 0 = .ok (.aload_n 0, 1) := by decide +kernel
theorem dX8_renew_1 : decode cX8_renew 1 = .ok (.getfield 28, 3) := by decide +kernel
theorem dX8_renew_4 : decode cX8_renew 4 = .ok (.aload_n 0, 1) := by decide +kernel
theorem dX8_renew_5 : decode cX8_renew 5 = .ok (.getfield 42, 3) := by decide +kernel
theorem dX8_renew_8 : decode cX8_renew 8 = .ok (.getfield 63, 3) := by decide +kernel
theorem dX8_renew_11 : decode cX8_renew 11 = .ok (.if_icmp .ne 17, 3) := by decide +kernel
theorem dX8_renew_14 : decode cX8_renew 14 = .ok (.aload_n 0, 1) := by decide +kernel
theorem dX8_renew_15 : decode cX8_renew 15 = .ok (.getfield 32, 3) := by decide +kernel
theorem dX8_renew_18 : decode cX8_renew 18 = .ok (.aload_n 0, 1) := by decide +kernel
theorem dX8_renew_19 : decode cX8_renew 19 = .ok (.getfield 46, 3) := by decide +kernel
theorem dX8_renew_22 : decode cX8_renew 22 = .ok (.getfield 63, 3) := by decide +kernel
theorem dX8_renew_25 : decode cX8_renew 25 = .ok (.if_icmp .eq 35, 3) := by decide +kernel
theorem dX8_renew_28 : decode cX8_renew 28 = .ok (.aload_n 0, 1) := by decide +kernel
theorem dX8_renew_29 : decode cX8_renew 29 = .ok (.aload_n 0, 1) := by decide +kernel
theorem dX8_renew_30 : decode cX8_renew 30 = .ok (.getfield 42, 3) := by decide +kernel
theorem dX8_renew_33 : decode cX8_renew 33 = .ok (.getfield 63, 3) := by decide +kernel
theorem dX8_renew_36 : decode cX8_renew 36 = .ok (.putfield 28, 3) := by decide +kernel
theorem dX8_renew_39 : decode cX8_renew 39 = .ok (.aload_n 0, 1) := by decide +kernel
theorem dX8_renew_40 : decode cX8_renew 40 = .ok (.aload_n 0, 1) := by decide +kernel
theorem dX8_renew_41 : decode cX8_renew 41 = .ok (.getfield 46, 3) := by decide +kernel
theorem dX8_renew_44 : decode cX8_renew 44 = .ok (.getfield 63, 3) := by decide +kernel
theorem dX8_renew_47 : decode cX8_renew 47 = .ok (.putfield 32, 3) := by decide +kernel
theorem dX8_renew_50 : decode cX8_renew 50 = .ok (.aload_n 0, 1) := by decide +kernel
theorem dX8_renew_51 : decode cX8_renew 51 = .ok (.iconst 0, 1) := by decide +kernel
theorem dX8_renew_52 : decode cX8_renew 52 = .ok (.putfield 35, 3) := by decide +kernel
theorem dX8_renew_55 : decode cX8_renew 55 = .ok (.aload_n 0, 1) := by decide +kernel
theorem dX8_renew_56 : decode cX8_renew 56 = .ok (.iconst 0, 1) := by decide +kernel
theorem dX8_renew_57 : decode cX8_renew 57 = .ok (.putfield 38, 3) := by decide +kernel
theorem dX8_renew_60 : decode cX8_renew 60 = .ok (.return_, 1) := by decide +kernel
set_option maxRecDepth 20000 in
theorem ggX8_tryLength_X7_begin : GoodIn wsX8_tryLength wsX7_begin := goodIn_r _ [7, 8, 9, 10, 11, 12, 13, 14, 15, 16, 17, 18, 19, 20, 104, 105] rfl (by decide +kernel)
set_option maxRecDepth 20000 in
theorem gX8_tryLength_X7_begin : GoodIn wsX8_tryLength (wsV RX8 68 RX7 yX7_begin wsX7_begin) := goodIn_app (goodIn_of _ (by decide +kernel)) ggX8_tryLength_X7_begin
set_option maxRecDepth 20000 in
theorem ggX8_tryLength_X7_howMany : GoodIn wsX8_tryLength wsX7_howMany := goodIn_r _ [24, 15, 25, 104, 105] rfl (by decide +kernel)
set_option maxRecDepth 20000 in
theorem gX8_tryLength_X7_howMany : GoodIn wsX8_tryLength (wsV RX8 71 RX7 yX7_howMany wsX7_howMany) := goodIn_app (goodIn_of _ (by decide +kernel)) ggX8_tryLength_X7_howMany
set_option maxRecDepth 20000 in
theorem ggX8_tryLength_X8_differ : GoodIn wsX8_tryLength wsX8_differ := goodIn_r _ [30, 31, 32, 1, 33, 34, 35, 36, 37, 38, 39, 40, 41, 42, 43, 44, 45, 46, 47, 19, 48, 49, 50, 51, 52, 53, 54, 55, 56, 57, 58, 59, 60, 61, 62, 63, 64, 65, 66, 67, 68, 69, 70, 71, 72, 73, 74, 75, 76, 77, 78, 79, 80, 81, 82, 83, 84, 85, 86, 87, 88, 89, 90, 95, 96, 97, 98, 99, 100, 101, 102, 103, 104, 105, 106, 107, 108, 109, 110, 111, 112, 113, 114, 115, 116, 117] rfl (by decide +kernel)
set_option maxRecDepth 20000 in
theorem gX8_tryLength_X8_differ : GoodIn wsX8_tryLength (wsV RX8 75 RX8 yX8_differ wsX8_differ) := goodIn_app (goodIn_of _ (by decide +kernel)) ggX8_tryLength_X8_differ
set_option maxRecDepth 20000 in
theorem ggX8_tryLength_X7_forward : GoodIn wsX8_tryLength wsX7_forward := goodIn_r _ [94, 15, 16, 104, 105] rfl (by decide +kernel)
set_option maxRecDepth 20000 in
theorem gX8_tryLength_X7_forward : GoodIn wsX8_tryLength (wsV RX8 79 RX7 yX7_forward wsX7_forward) := goodIn_app (goodIn_of _ (by decide +kernel)) ggX8_tryLength_X7_forward
theorem dX8_tryLength_0 : decode cX8_tryLength 0 = .ok (.aload_n 0, 1) := by decide +kernel
theorem dX8_tryLength_1 : decode cX8_tryLength 1 = .ok (.getfield 24, 3) := by decide +kernel
theorem dX8_tryLength_4 : decode cX8_tryLength 4 = .ok (.iload_n 1, 1) := by decide +kernel
theorem dX8_tryLength_5 : decode cX8_tryLength 5 = .ok (.invokevirtual 68, 3) := by decide +kernel
theorem dX8_tryLength_8 : decode cX8_tryLength 8 = .ok (.aload_n 0, 1) := by decide +kernel
theorem dX8_tryLength_9 : decode cX8_tryLength 9 = .ok (.getfield 24, 3) := by decide +kernel
theorem dX8_tryLength_12 : decode cX8_tryLength 12 = .ok (.invokevirtual 71, 3) := by decide +kernel
theorem dX8_tryLength_15 : decode cX8_tryLength 15 = .ok (.istore_n 2, 1) := by decide +kernel
theorem dX8_tryLength_16 : decode cX8_tryLength 16 = .ok (.iload_n 2, 1) := by decide +kernel
theorem dX8_tryLength_17 : decode cX8_tryLength 17 = .ok (.ifCond .le 30, 3) := by decide +kernel
theorem dX8_tryLength_20 : decode cX8_tryLength 20 = .ok (.aload_n 0, 1) := by decide +kernel
theorem dX8_tryLength_21 : decode cX8_tryLength 21 = .ok (.iload_n 1, 1) := by decide +kernel
theorem dX8_tryLength_22 : decode cX8_tryLength 22 = .ok (.invokevirtual 75, 3) := by decide +kernel
theorem dX8_tryLength_25 : decode cX8_tryLength 25 = .ok (.ifCond .eq 9, 3) := by decide +kernel
theorem dX8_tryLength_28 : decode cX8_tryLength 28 = .ok (.aload_n 0, 1) := by decide +kernel
theorem dX8_tryLength_29 : decode cX8_tryLength 29 = .ok (.iconst 1, 1) := by decide +kernel
theorem dX8_tryLength_30 : decode cX8_tryLength 30 = .ok (.putfield 38, 3) := by decide +kernel
theorem dX8_tryLength_33 : decode cX8_tryLength 33 = .ok (.return_, 1) := by decide +kernel
theorem dX8_tryLength_34 : decode cX8_tryLength 34 = .ok (.aload_n 0, 1) := by decide +kernel
theorem dX8_tryLength_35 : decode cX8_tryLength 35 = .ok (.getfield 24, 3) := by decide +kernel
theorem dX8_tryLength_38 : decode cX8_tryLength 38 = .ok (.invokevirtual 79, 3) := by decide +kernel
theorem dX8_tryLength_41 : decode cX8_tryLength 41 = .ok (.iinc 2 (-1), 3) := by decide +kernel
theorem dX8_tryLength_44 : decode cX8_tryLength 44 = .ok (.goto (-28), 3) := by decide +kernel
theorem dX8_tryLength_47 : decode cX8_tryLength 47 = .ok (.return_, 1) := by decide +kernel
set_option maxRecDepth 20000 in
theorem ggX8_differ_X10_go : GoodIn wsX8_differ wsX10_go := goodIn_r _ [10, 11, 12, 13, 14, 15, 16, 17, 18, 19, 20, 21, 22, 23, 9, 24, 25, 26, 27, 28, 29, 30, 31, 32, 33, 34, 35, 36, 37, 38, 39, 40, 41, 42, 43, 44, 45, 46, 47, 48, 49, 50, 51, 52, 53, 54, 55, 56, 57, 58, 74, 75, 76, 77, 78, 79, 80, 81, 82, 83, 84, 85] rfl (by decide +kernel)
set_option maxRecDepth 20000 in
theorem gX8_differ_X10_go : GoodIn wsX8_differ (wsV RX8 82 RX10 yX10_go wsX10_go) := goodIn_app (goodIn_of _ (by decide +kernel)) ggX8_differ_X10_go
set_option maxRecDepth 20000 in
theorem ggX8_differ_X10_saidAs : GoodIn wsX8_differ wsX10_saidAs := goodIn_r _ [62, 12, 52, 74, 75, 76, 77, 78, 79, 80] rfl (by decide +kernel)
set_option maxRecDepth 20000 in
theorem gX8_differ_X10_saidAs : GoodIn wsX8_differ (wsV RX8 89 RX10 yX10_saidAs wsX10_saidAs) := goodIn_app (goodIn_of _ (by decide +kernel)) ggX8_differ_X10_saidAs
theorem dX8_differ_0 : decode cX8_differ 0 = .ok (.aload_n 0, 1) := by decide +kernel
theorem dX8_differ_1 : decode cX8_differ 1 = .ok (.getfield 12, 3) := by decide +kernel
theorem dX8_differ_4 : decode cX8_differ 4 = .ok (.aload_n 0, 1) := by decide +kernel
theorem dX8_differ_5 : decode cX8_differ 5 = .ok (.getfield 42, 3) := by decide +kernel
theorem dX8_differ_8 : decode cX8_differ 8 = .ok (.aload_n 0, 1) := by decide +kernel
theorem dX8_differ_9 : decode cX8_differ 9 = .ok (.getfield 24, 3) := by decide +kernel
theorem dX8_differ_12 : decode cX8_differ 12 = .ok (.getfield 59, 3) := by decide +kernel
theorem dX8_differ_15 : decode cX8_differ 15 = .ok (.iload_n 1, 1) := by decide +kernel
theorem dX8_differ_16 : decode cX8_differ 16 = .ok (.invokevirtual 82, 3) := by decide +kernel
theorem dX8_differ_19 : decode cX8_differ 19 = .ok (.aload_n 0, 1) := by decide +kernel
theorem dX8_differ_20 : decode cX8_differ 20 = .ok (.getfield 12, 3) := by decide +kernel
theorem dX8_differ_23 : decode cX8_differ 23 = .ok (.getfield 86, 3) := by decide +kernel
theorem dX8_differ_26 : decode cX8_differ 26 = .ok (.iconst 1, 1) := by decide +kernel
theorem dX8_differ_27 : decode cX8_differ 27 = .ok (.if_icmp .eq 5, 3) := by decide +kernel
theorem dX8_differ_30 : decode cX8_differ 30 = .ok (.iconst 0, 1) := by decide +kernel
theorem dX8_differ_31 : decode cX8_differ 31 = .ok (.ireturn, 1) := by decide +kernel
theorem dX8_differ_32 : decode cX8_differ 32 = .ok (.aload_n 0, 1) := by decide +kernel
theorem dX8_differ_33 : decode cX8_differ 33 = .ok (.getfield 18, 3) := by decide +kernel
theorem dX8_differ_36 : decode cX8_differ 36 = .ok (.aload_n 0, 1) := by decide +kernel
theorem dX8_differ_37 : decode cX8_differ 37 = .ok (.getfield 46, 3) := by decide +kernel
theorem dX8_differ_40 : decode cX8_differ 40 = .ok (.aload_n 0, 1) := by decide +kernel
theorem dX8_differ_41 : decode cX8_differ 41 = .ok (.getfield 24, 3) := by decide +kernel
theorem dX8_differ_44 : decode cX8_differ 44 = .ok (.getfield 59, 3) := by decide +kernel
theorem dX8_differ_47 : decode cX8_differ 47 = .ok (.iload_n 1, 1) := by decide +kernel
theorem dX8_differ_48 : decode cX8_differ 48 = .ok (.invokevirtual 82, 3) := by decide +kernel
theorem dX8_differ_51 : decode cX8_differ 51 = .ok (.aload_n 0, 1) := by decide +kernel
theorem dX8_differ_52 : decode cX8_differ 52 = .ok (.getfield 18, 3) := by decide +kernel
theorem dX8_differ_55 : decode cX8_differ 55 = .ok (.getfield 86, 3) := by decide +kernel
theorem dX8_differ_58 : decode cX8_differ 58 = .ok (.iconst 1, 1) := by decide +kernel
theorem dX8_differ_59 : decode cX8_differ 59 = .ok (.if_icmp .ne 21, 3) := by decide +kernel
theorem dX8_differ_62 : decode cX8_differ 62 = .ok (.aload_n 0, 1) := by decide +kernel
theorem dX8_differ_63 : decode cX8_differ 63 = .ok (.getfield 12, 3) := by decide +kernel
theorem dX8_differ_66 : decode cX8_differ 66 = .ok (.aload_n 0, 1) := by decide +kernel
theorem dX8_differ_67 : decode cX8_differ 67 = .ok (.getfield 18, 3) := by decide +kernel
theorem dX8_differ_70 : decode cX8_differ 70 = .ok (.invokevirtual 89, 3) := by decide +kernel
theorem dX8_differ_73 : decode cX8_differ 73 = .ok (.ifCond .ne 7, 3) := by decide +kernel
theorem dX8_differ_76 : decode cX8_differ 76 = .ok (.iconst 1, 1) := by decide +kernel
theorem dX8_differ_77 : decode cX8_differ 77 = .ok (.goto 4, 3) := by decide +kernel
theorem dX8_differ_80 : decode cX8_differ 80 = .ok (.iconst 0, 1) := by decide +kernel
theorem dX8_differ_81 : decode cX8_differ 81 = .ok (.ireturn, 1) := by decide +kernel
theorem dX9_init_0 : decode cX9_init 0 = .ok (.aload_n 0, 1) := by decide +kernel
theorem dX9_init_1 : decode cX9_init 1 = .ok (.invokespecial 3, 3) := by decide +kernel
theorem dX9_init_4 : decode cX9_init 4 = .ok (.aload_n 0, 1) := by decide +kernel
theorem dX9_init_5 : decode cX9_init 5 = .ok (.sipush 160, 3) := by decide +kernel
theorem dX9_init_8 : decode cX9_init 8 = .ok (.newarray .int, 2) := by decide +kernel
theorem dX9_init_10 : decode cX9_init 10 = .ok (.putfield 9, 3) := by decide +kernel
theorem dX9_init_13 : decode cX9_init 13 = .ok (.aload_n 0, 1) := by decide +kernel
theorem dX9_init_14 : decode cX9_init 14 = .ok (.iconst 0, 1) := by decide +kernel
theorem dX9_init_15 : decode cX9_init 15 = .ok (.putfield 15, 3) := by decide +kernel
theorem dX9_init_18 : decode cX9_init 18 = .ok (.return_, 1) := by decide +kernel
theorem dX9_append_0 : decode cX9_append 0 = .ok (.aload_n 0, 1) := by decide +kernel
theorem dX9_append_1 : decode cX9_append 1 = .ok (.getfield 15, 3) := by decide +kernel
theorem dX9_append_4 : decode cX9_append 4 = .ok (.iload_n 3, 1) := by decide +kernel
theorem dX9_append_5 : decode cX9_append 5 = .ok (.iadd, 1) := by decide +kernel
theorem dX9_append_6 : decode cX9_append 6 = .ok (.sipush 160, 3) := by decide +kernel
theorem dX9_append_9 : decode cX9_append 9 = .ok (.if_icmp .le 5, 3) := by decide +kernel
theorem dX9_append_12 : decode cX9_append 12 = .ok (.iconst 0, 1) := by decide +kernel
theorem dX9_append_13 : decode cX9_append 13 = .ok (.ireturn, 1) := by decide +kernel
theorem dX9_append_14 : decode cX9_append 14 = .ok (.iconst 0, 1) := by decide +kernel
theorem dX9_append_15 : decode cX9_append 15 = .ok (.istore 4, 2) := by decide +kernel
theorem dX9_append_17 : decode cX9_append 17 = .ok (.iload 4, 2) := by decide +kernel
theorem dX9_append_19 : decode cX9_append 19 = .ok (.iload_n 3, 1) := by decide +kernel
theorem dX9_append_20 : decode cX9_append 20 = .ok (.if_icmp .ge 33, 3) := by decide +kernel
theorem dX9_append_23 : decode cX9_append 23 = .ok (.aload_n 0, 1) := by decide +kernel
theorem dX9_append_24 : decode cX9_append 24 = .ok (.getfield 9, 3) := by decide +kernel
theorem dX9_append_27 : decode cX9_append 27 = .ok (.aload_n 0, 1) := by decide +kernel
theorem dX9_append_28 : decode cX9_append 28 = .ok (.getfield 15, 3) := by decide +kernel
theorem dX9_append_31 : decode cX9_append 31 = .ok (.iload 4, 2) := by decide +kernel
theorem dX9_append_33 : decode cX9_append 33 = .ok (.iadd, 1) := by decide +kernel
theorem dX9_append_34 : decode cX9_append 34 = .ok (.lload_n 1, 1) := by decide +kernel
theorem dX9_append_35 : decode cX9_append 35 = .ok (.bipush 8, 2) := by decide +kernel
theorem dX9_append_37 : decode cX9_append 37 = .ok (.iload 4, 2) := by decide +kernel
theorem dX9_append_39 : decode cX9_append 39 = .ok (.imul, 1) := by decide +kernel
theorem dX9_append_40 : decode cX9_append 40 = .ok (.lshr, 1) := by decide +kernel
theorem dX9_append_41 : decode cX9_append 41 = .ok (.ldc2_w 19, 3) := by decide +kernel
theorem dX9_append_44 : decode cX9_append 44 = .ok (.land, 1) := by decide +kernel
theorem dX9_append_45 : decode cX9_append 45 = .ok (.l2i, 1) := by decide +kernel
theorem dX9_append_46 : decode cX9_append 46 = .ok (.iastore, 1) := by decide +kernel
theorem dX9_append_47 : decode cX9_append 47 = .ok (.iinc 4 1, 3) := by decide +kernel
theorem dX9_append_50 : decode cX9_append 50 = .ok (.goto (-33), 3) := by decide +kernel
theorem dX9_append_53 : decode cX9_append 53 = .ok (.aload_n 0, 1) := by decide +kernel
theorem dX9_append_54 : decode cX9_append 54 = .ok (.dup, 1) := by decide +kernel
theorem dX9_append_55 : decode cX9_append 55 = .ok (.getfield 15, 3) := by decide +kernel
theorem dX9_append_58 : decode cX9_append 58 = .ok (.iload_n 3, 1) := by decide +kernel
theorem dX9_append_59 : decode cX9_append 59 = .ok (.iadd, 1) := by decide +kernel
theorem dX9_append_60 : decode cX9_append 60 = .ok (.putfield 15, 3) := by decide +kernel
theorem dX9_append_63 : decode cX9_append 63 = .ok (.iconst 1, 1) := by decide +kernel
theorem dX9_append_64 : decode cX9_append 64 = .ok (.ireturn, 1) := by decide +kernel
set_option maxRecDepth 20000 in
theorem ggX9_parse_X9_findToken : GoodIn wsX9_parse wsX9_findToken := goodIn_r _ [13, 1, 2, 3, 14, 15, 16, 17, 12, 18, 19, 20, 21, 22, 121, 122, 123, 124, 125, 126, 127, 128, 129] rfl (by decide +kernel)
set_option maxRecDepth 20000 in
theorem gX9_parse_X9_findToken : GoodIn wsX9_parse (wsV RX9 24 RX9 yX9_findToken wsX9_findToken) := goodIn_app (goodIn_of _ (by decide +kernel)) ggX9_parse_X9_findToken
set_option maxRecDepth 20000 in
theorem ggX9_parse_X9_slotBehind : GoodIn wsX9_parse wsX9_slotBehind := goodIn_r _ [26, 4, 5, 7, 6, 8, 27, 28, 29, 12, 30, 2, 1, 19, 20, 21, 22, 3, 14, 31, 32, 33, 34, 35, 36, 37, 38, 39, 40, 41, 42, 43, 44, 45, 46, 47, 48, 49, 50, 51, 52, 53, 54, 55, 56, 57, 58, 59, 60, 61, 62, 63, 64, 65, 66, 67, 68, 69, 70, 71, 72, 73, 74, 75, 76, 77, 78, 79, 80, 81, 82, 83, 84, 85, 86, 87, 88, 89, 90, 91, 92, 93, 94, 95, 96, 97, 98, 99, 100, 101, 102, 103, 104, 121, 122, 123, 124, 125, 126, 127, 128, 129, 130, 131, 132, 133, 134] rfl (by decide +kernel)
set_option maxRecDepth 20000 in
theorem gX9_parse_X9_slotBehind : GoodIn wsX9_parse (wsV RX9 30 RX9 yX9_slotBehind wsX9_slotBehind) := goodIn_app (goodIn_of _ (by decide +kernel)) ggX9_parse_X9_slotBehind
set_option maxRecDepth 20000 in
theorem ggX9_parse_X9_slotAtEnd : GoodIn wsX9_parse wsX9_slotAtEnd := goodIn_r _ [107] rfl (by decide +kernel)
set_option maxRecDepth 20000 in
theorem gX9_parse_X9_slotAtEnd : GoodIn wsX9_parse (va_wsS RX9 34 yX9_slotAtEnd wsX9_slotAtEnd) := goodIn_app (goodIn_of _ (by decide +kernel)) ggX9_parse_X9_slotAtEnd
set_option maxRecDepth 20000 in
theorem ggX9_parse_X6_pack : GoodIn wsX9_parse wsX6_pack := goodIn_r _ [110] rfl (by decide +kernel)
set_option maxRecDepth 20000 in
theorem gX9_parse_X6_pack : GoodIn wsX9_parse (va_wsS RX9 54 yX6_pack wsX6_pack) := goodIn_app (goodIn_of _ (by decide +kernel)) ggX9_parse_X6_pack
set_option maxRecDepth 20000 in
theorem ggX9_parse_X6_put : GoodIn wsX9_parse wsX6_put := goodIn_r _ [114, 115, 116, 117, 118, 32, 33, 34, 35, 36, 119, 99, 120, 130, 131, 132, 133, 134] rfl (by decide +kernel)
set_option maxRecDepth 20000 in
theorem gX9_parse_X6_put : GoodIn wsX9_parse (wsV RX9 60 RX6 yX6_put wsX6_put) := goodIn_app (goodIn_of _ (by decide +kernel)) ggX9_parse_X6_put
theorem dX9_parse_0 : decode cX9_parse 0 = .ok (.iconst 0, 1) := by decide +kernel
theorem dX9_parse_1 : decode cX9_parse 1 = .ok (.istore_n 3, 1) := by decide +kernel
theorem dX9_parse_2 : decode cX9_parse 2 = .ok (.aload_n 0, 1) := by decide +kernel
theorem dX9_parse_3 : decode cX9_parse 3 = .ok (.iconst 0, 1) := by decide +kernel
theorem dX9_parse_4 : decode cX9_parse 4 = .ok (.putfield 21, 3) := by decide +kernel
theorem dX9_parse_7 : decode cX9_parse 7 = .ok (.iconst 0, 1) := by decide +kernel
theorem dX9_parse_8 : decode cX9_parse 8 = .ok (.istore 4, 2) := by decide +kernel
theorem dX9_parse_10 : decode cX9_parse 10 = .ok (.iload 4, 2) := by decide +kernel
theorem dX9_parse_12 : decode cX9_parse 12 = .ok (.sipush 160, 3) := by decide +kernel
theorem dX9_parse_15 : decode cX9_parse 15 = .ok (.if_icmp .gt 105, 3) := by decide +kernel
theorem dX9_parse_18 : decode cX9_parse 18 = .ok (.aload_n 0, 1) := by decide +kernel
theorem dX9_parse_19 : decode cX9_parse 19 = .ok (.invokevirtual 24, 3) := by decide +kernel
theorem dX9_parse_22 : decode cX9_parse 22 = .ok (.aload_n 0, 1) := by decide +kernel
theorem dX9_parse_23 : decode cX9_parse 23 = .ok (.getfield 27, 3) := by decide +kernel
theorem dX9_parse_26 : decode cX9_parse 26 = .ok (.aload_n 0, 1) := by decide +kernel
theorem dX9_parse_27 : decode cX9_parse 27 = .ok (.getfield 15, 3) := by decide +kernel
theorem dX9_parse_30 : decode cX9_parse 30 = .ok (.if_icmp .ge 12, 3) := by decide +kernel
theorem dX9_parse_33 : decode cX9_parse 33 = .ok (.aload_n 0, 1) := by decide +kernel
theorem dX9_parse_34 : decode cX9_parse 34 = .ok (.iload_n 3, 1) := by decide +kernel
theorem dX9_parse_35 : decode cX9_parse 35 = .ok (.aload_n 1, 1) := by decide +kernel
theorem dX9_parse_36 : decode cX9_parse 36 = .ok (.invokevirtual 30, 3) := by decide +kernel
theorem dX9_parse_39 : decode cX9_parse 39 = .ok (.goto 7, 3) := by decide +kernel
theorem dX9_parse_42 : decode cX9_parse 42 = .ok (.iload_n 3, 1) := by decide +kernel
theorem dX9_parse_43 : decode cX9_parse 43 = .ok (.invokestatic 34, 3) := by decide +kernel
theorem dX9_parse_46 : decode cX9_parse 46 = .ok (.istore 5, 2) := by decide +kernel
theorem dX9_parse_48 : decode cX9_parse 48 = .ok (.iload 5, 2) := by decide +kernel
theorem dX9_parse_50 : decode cX9_parse 50 = .ok (.iconst (-1), 1) := by decide +kernel
theorem dX9_parse_51 : decode cX9_parse 51 = .ok (.if_icmp .ne 8, 3) := by decide +kernel
theorem dX9_parse_54 : decode cX9_parse 54 = .ok (.aload_n 0, 1) := by decide +kernel
theorem dX9_parse_55 : decode cX9_parse 55 = .ok (.getfield 27, 3) := by decide +kernel
theorem dX9_parse_58 : decode cX9_parse 58 = .ok (.ireturn, 1) := by decide +kernel
theorem dX9_parse_59 : decode cX9_parse 59 = .ok (.iload_n 2, 1) := by decide +kernel
theorem dX9_parse_60 : decode cX9_parse 60 = .ok (.ifCond .eq 42, 3) := by decide +kernel
theorem dX9_parse_63 : decode cX9_parse 63 = .ok (.iload 5, 2) := by decide +kernel
theorem dX9_parse_65 : decode cX9_parse 65 = .ok (.ifCond .eq 10, 3) := by decide +kernel
theorem dX9_parse_68 : decode cX9_parse 68 = .ok (.iload 5, 2) := by decide +kernel
theorem dX9_parse_70 : decode cX9_parse 70 = .ok (.bipush 8, 2) := by decide +kernel
theorem dX9_parse_72 : decode cX9_parse 72 = .ok (.if_icmp .ne 30, 3) := by decide +kernel
theorem dX9_parse_75 : decode cX9_parse 75 = .ok (.aload_n 1, 1) := by decide +kernel
theorem dX9_parse_76 : decode cX9_parse 76 = .ok (.aload_n 0, 1) := by decide +kernel
theorem dX9_parse_77 : decode cX9_parse 77 = .ok (.getfield 38, 3) := by decide +kernel
theorem dX9_parse_80 : decode cX9_parse 80 = .ok (.aload_n 0, 1) := by decide +kernel
theorem dX9_parse_81 : decode cX9_parse 81 = .ok (.getfield 41, 3) := by decide +kernel
theorem dX9_parse_84 : decode cX9_parse 84 = .ok (.aload_n 0, 1) := by decide +kernel
theorem dX9_parse_85 : decode cX9_parse 85 = .ok (.getfield 44, 3) := by decide +kernel
theorem dX9_parse_88 : decode cX9_parse 88 = .ok (.aload_n 0, 1) := by decide +kernel
theorem dX9_parse_89 : decode cX9_parse 89 = .ok (.getfield 47, 3) := by decide +kernel
theorem dX9_parse_92 : decode cX9_parse 92 = .ok (.aload_n 0, 1) := by decide +kernel
theorem dX9_parse_93 : decode cX9_parse 93 = .ok (.getfield 51, 3) := by decide +kernel
theorem dX9_parse_96 : decode cX9_parse 96 = .ok (.invokestatic 54, 3) := by decide +kernel
theorem dX9_parse_99 : decode cX9_parse 99 = .ok (.invokevirtual 60, 3) := by decide +kernel
theorem dX9_parse_102 : decode cX9_parse 102 = .ok (.iload 5, 2) := by decide +kernel
theorem dX9_parse_104 : decode cX9_parse 104 = .ok (.bipush 8, 2) := by decide +kernel
theorem dX9_parse_106 : decode cX9_parse 106 = .ok (.if_icmp .ne 5, 3) := by decide +kernel
theorem dX9_parse_109 : decode cX9_parse 109 = .ok (.iconst (-1), 1) := by decide +kernel
theorem dX9_parse_110 : decode cX9_parse 110 = .ok (.ireturn, 1) := by decide +kernel
theorem dX9_parse_111 : decode cX9_parse 111 = .ok (.iload 5, 2) := by decide +kernel
theorem dX9_parse_113 : decode cX9_parse 113 = .ok (.istore_n 3, 1) := by decide +kernel
theorem dX9_parse_114 : decode cX9_parse 114 = .ok (.iinc 4 1, 3) := by decide +kernel
theorem dX9_parse_117 : decode cX9_parse 117 = .ok (.goto (-107), 3) := by decide +kernel
theorem dX9_parse_120 : decode cX9_parse 120 = .ok (.iconst (-1), 1) := by decide +kernel
theorem dX9_parse_121 : decode cX9_parse 121 = .ok (.ireturn, 1) := by decide +kernel
set_option maxRecDepth 20000 in
theorem ggX9_findToken_X9_kindAt : GoodIn wsX9_findToken wsX9_kindAt := goodIn_r _ [9, 10, 11, 12, 8, 13, 3, 4, 14, 15, 16, 17, 18, 19, 20, 21, 22] rfl (by decide +kernel)
set_option maxRecDepth 20000 in
theorem gX9_findToken_X9_kindAt : GoodIn wsX9_findToken (wsV RX9 64 RX9 yX9_kindAt wsX9_kindAt) := goodIn_app (goodIn_of _ (by decide +kernel)) ggX9_findToken_X9_kindAt
theorem dX9_findToken_0 : decode cX9_findToken 0 = .ok (.aload_n 0, 1) := by decide +kernel
theorem dX9_findToken_1 : decode cX9_findToken 1 = .ok (.aload_n 0, 1) := by decide +kernel
theorem dX9_findToken_2 : decode cX9_findToken 2 = .ok (.getfield 21, 3) := by decide +kernel
theorem dX9_findToken_5 : decode cX9_findToken 5 = .ok (.putfield 27, 3) := by decide +kernel
theorem dX9_findToken_8 : decode cX9_findToken 8 = .ok (.aload_n 0, 1) := by decide +kernel
theorem dX9_findToken_9 : decode cX9_findToken 9 = .ok (.getfield 27, 3) := by decide +kernel
theorem dX9_findToken_12 : decode cX9_findToken 12 = .ok (.aload_n 0, 1) := by decide +kernel
theorem dX9_findToken_13 : decode cX9_findToken 13 = .ok (.getfield 15, 3) := by decide +kernel
theorem dX9_findToken_16 : decode cX9_findToken 16 = .ok (.if_icmp .ge 30, 3) := by decide +kernel
theorem dX9_findToken_19 : decode cX9_findToken 19 = .ok (.aload_n 0, 1) := by decide +kernel
theorem dX9_findToken_20 : decode cX9_findToken 20 = .ok (.getfield 9, 3) := by decide +kernel
theorem dX9_findToken_23 : decode cX9_findToken 23 = .ok (.aload_n 0, 1) := by decide +kernel
theorem dX9_findToken_24 : decode cX9_findToken 24 = .ok (.getfield 27, 3) := by decide +kernel
theorem dX9_findToken_27 : decode cX9_findToken 27 = .ok (.iaload, 1) := by decide +kernel
theorem dX9_findToken_28 : decode cX9_findToken 28 = .ok (.bipush 32, 2) := by decide +kernel
theorem dX9_findToken_30 : decode cX9_findToken 30 = .ok (.if_icmp .ne 16, 3) := by decide +kernel
theorem dX9_findToken_33 : decode cX9_findToken 33 = .ok (.aload_n 0, 1) := by decide +kernel
theorem dX9_findToken_34 : decode cX9_findToken 34 = .ok (.dup, 1) := by decide +kernel
theorem dX9_findToken_35 : decode cX9_findToken 35 = .ok (.getfield 27, 3) := by decide +kernel
theorem dX9_findToken_38 : decode cX9_findToken 38 = .ok (.iconst 1, 1) := by decide +kernel
theorem dX9_findToken_39 : decode cX9_findToken 39 = .ok (.iadd, 1) := by decide +kernel
theorem dX9_findToken_40 : decode cX9_findToken 40 = .ok (.putfield 27, 3) := by decide +kernel
theorem dX9_findToken_43 : decode cX9_findToken 43 = .ok (.goto (-35), 3) := by decide +kernel
theorem dX9_findToken_46 : decode cX9_findToken 46 = .ok (.aload_n 0, 1) := by decide +kernel
theorem dX9_findToken_47 : decode cX9_findToken 47 = .ok (.aload_n 0, 1) := by decide +kernel
theorem dX9_findToken_48 : decode cX9_findToken 48 = .ok (.getfield 27, 3) := by decide +kernel
theorem dX9_findToken_51 : decode cX9_findToken 51 = .ok (.putfield 21, 3) := by decide +kernel
theorem dX9_findToken_54 : decode cX9_findToken 54 = .ok (.aload_n 0, 1) := by decide +kernel
theorem dX9_findToken_55 : decode cX9_findToken 55 = .ok (.aload_n 0, 1) := by decide +kernel
theorem dX9_findToken_56 : decode cX9_findToken 56 = .ok (.getfield 27, 3) := by decide +kernel
theorem dX9_findToken_59 : decode cX9_findToken 59 = .ok (.invokevirtual 64, 3) := by decide +kernel
theorem dX9_findToken_62 : decode cX9_findToken 62 = .ok (.istore_n 1, 1) := by decide +kernel
theorem dX9_findToken_63 : decode cX9_findToken 63 = .ok (.aload_n 0, 1) := by decide +kernel
theorem dX9_findToken_64 : decode cX9_findToken 64 = .ok (.dup, 1) := by decide +kernel
theorem dX9_findToken_65 : decode cX9_findToken 65 = .ok (.getfield 21, 3) := by decide +kernel
theorem dX9_findToken_68 : decode cX9_findToken 68 = .ok (.iconst 1, 1) := by decide +kernel
theorem dX9_findToken_69 : decode cX9_findToken 69 = .ok (.iadd, 1) := by decide +kernel
theorem dX9_findToken_70 : decode cX9_findToken 70 = .ok (.putfield 21, 3) := by decide +kernel
theorem dX9_findToken_73 : decode cX9_findToken 73 = .ok (.aload_n 0, 1) := by decide +kernel
theorem dX9_findToken_74 : decode cX9_findToken 74 = .ok (.getfield 21, 3) := by decide +kernel
theorem dX9_findToken_77 : decode cX9_findToken 77 = .ok (.aload_n 0, 1) := by decide +kernel
theorem dX9_findToken_78 : decode cX9_findToken 78 = .ok (.getfield 15, 3) := by decide +kernel
theorem dX9_findToken_81 : decode cX9_findToken 81 = .ok (.if_icmp .ge 19, 3) := by decide +kernel
theorem dX9_findToken_84 : decode cX9_findToken 84 = .ok (.iload_n 1, 1) := by decide +kernel
theorem dX9_findToken_85 : decode cX9_findToken 85 = .ok (.ifCond .eq 15, 3) := by decide +kernel
theorem dX9_findToken_88 : decode cX9_findToken 88 = .ok (.aload_n 0, 1) := by decide +kernel
theorem dX9_findToken_89 : decode cX9_findToken 89 = .ok (.aload_n 0, 1) := by decide +kernel
theorem dX9_findToken_90 : decode cX9_findToken 90 = .ok (.getfield 21, 3) := by decide +kernel
theorem dX9_findToken_93 : decode cX9_findToken 93 = .ok (.invokevirtual 64, 3) := by decide +kernel
theorem dX9_findToken_96 : decode cX9_findToken 96 = .ok (.iload_n 1, 1) := by decide +kernel
theorem dX9_findToken_97 : decode cX9_findToken 97 = .ok (.if_icmp .eq (-34), 3) := by decide +kernel
theorem dX9_findToken_100 : decode cX9_findToken 100 = .ok (.return_, 1) := by decide +kernel
set_option maxRecDepth 20000 in
theorem ggX9_kindAt_X9_byteAt : GoodIn wsX9_kindAt wsX9_byteAt := goodIn_r _ [5, 6, 7, 8, 9, 10, 11, 12, 13, 14, 15, 16] rfl (by decide +kernel)
set_option maxRecDepth 20000 in
theorem gX9_kindAt_X9_byteAt : GoodIn wsX9_kindAt (wsV RX9 67 RX9 yX9_byteAt wsX9_byteAt) := goodIn_app (goodIn_of _ (by decide +kernel)) ggX9_kindAt_X9_byteAt
theorem dX9_kindAt_0 : decode cX9_kindAt 0 = .ok (.aload_n 0, 1) := by decide +kernel
theorem dX9_kindAt_1 : decode cX9_kindAt 1 = .ok (.iload_n 1, 1) := by decide +kernel
theorem dX9_kindAt_2 : decode cX9_kindAt 2 = .ok (.invokevirtual 67, 3) := by decide +kernel
theorem dX9_kindAt_5 : decode cX9_kindAt 5 = .ok (.istore_n 2, 1) := by decide +kernel
theorem dX9_kindAt_6 : decode cX9_kindAt 6 = .ok (.iload_n 2, 1) := by decide +kernel
theorem dX9_kindAt_7 : decode cX9_kindAt 7 = .ok (.bipush 97, 2) := by decide +kernel
theorem dX9_kindAt_9 : decode cX9_kindAt 9 = .ok (.if_icmp .lt 13, 3) := by decide +kernel
theorem dX9_kindAt_12 : decode cX9_kindAt 12 = .ok (.iload_n 2, 1) := by decide +kernel
theorem dX9_kindAt_13 : decode cX9_kindAt 13 = .ok (.bipush 122, 2) := by decide +kernel
theorem dX9_kindAt_15 : decode cX9_kindAt 15 = .ok (.if_icmp .gt 7, 3) := by decide +kernel
theorem dX9_kindAt_18 : decode cX9_kindAt 18 = .ok (.iconst 1, 1) := by decide +kernel
theorem dX9_kindAt_19 : decode cX9_kindAt 19 = .ok (.goto 20, 3) := by decide +kernel
theorem dX9_kindAt_22 : decode cX9_kindAt 22 = .ok (.iload_n 2, 1) := by decide +kernel
theorem dX9_kindAt_23 : decode cX9_kindAt 23 = .ok (.bipush 48, 2) := by decide +kernel
theorem dX9_kindAt_25 : decode cX9_kindAt 25 = .ok (.if_icmp .lt 13, 3) := by decide +kernel
theorem dX9_kindAt_28 : decode cX9_kindAt 28 = .ok (.iload_n 2, 1) := by decide +kernel
theorem dX9_kindAt_29 : decode cX9_kindAt 29 = .ok (.bipush 57, 2) := by decide +kernel
theorem dX9_kindAt_31 : decode cX9_kindAt 31 = .ok (.if_icmp .gt 7, 3) := by decide +kernel
theorem dX9_kindAt_34 : decode cX9_kindAt 34 = .ok (.iconst 2, 1) := by decide +kernel
theorem dX9_kindAt_35 : decode cX9_kindAt 35 = .ok (.goto 4, 3) := by decide +kernel
theorem dX9_kindAt_38 : decode cX9_kindAt 38 = .ok (.iconst 0, 1) := by decide +kernel
theorem dX9_kindAt_39 : decode cX9_kindAt 39 = .ok (.ireturn, 1) := by decide +kernel
theorem dX9_byteAt_0 : decode cX9_byteAt 0 = .ok (.iload_n 1, 1) := by decide +kernel
theorem dX9_byteAt_1 : decode cX9_byteAt 1 = .ok (.ifCond .lt 20, 3) := by decide +kernel
theorem dX9_byteAt_4 : decode cX9_byteAt 4 = .ok (.iload_n 1, 1) := by decide +kernel
theorem dX9_byteAt_5 : decode cX9_byteAt 5 = .ok (.aload_n 0, 1) := by decide +kernel
theorem dX9_byteAt_6 : decode cX9_byteAt 6 = .ok (.getfield 15, 3) := by decide +kernel
theorem dX9_byteAt_9 : decode cX9_byteAt 9 = .ok (.if_icmp .ge 12, 3) := by decide +kernel
theorem dX9_byteAt_12 : decode cX9_byteAt 12 = .ok (.aload_n 0, 1) := by decide +kernel
theorem dX9_byteAt_13 : decode cX9_byteAt 13 = .ok (.getfield 9, 3) := by decide +kernel
theorem dX9_byteAt_16 : decode cX9_byteAt 16 = .ok (.iload_n 1, 1) := by decide +kernel
theorem dX9_byteAt_17 : decode cX9_byteAt 17 = .ok (.iaload, 1) := by decide +kernel
theorem dX9_byteAt_18 : decode cX9_byteAt 18 = .ok (.goto 4, 3) := by decide +kernel
theorem dX9_byteAt_21 : decode cX9_byteAt 21 = .ok (.iconst (-1), 1) := by decide +kernel
theorem dX9_byteAt_22 : decode cX9_byteAt 22 = .ok (.ireturn, 1) := by decide +kernel
set_option maxRecDepth 20000 in
theorem ggX9_slotBehind_X9_stateHere : GoodIn wsX9_slotBehind wsX9_stateHere := goodIn_r _ [10, 11, 12, 13, 14, 15, 9, 16, 17, 18, 19, 20, 21, 22, 23, 24, 93, 94, 95, 96, 97, 98, 99, 100, 101, 102, 103, 104, 105, 106] rfl (by decide +kernel)
set_option maxRecDepth 20000 in
theorem gX9_slotBehind_X9_stateHere : GoodIn wsX9_slotBehind (wsV RX9 70 RX9 yX9_stateHere wsX9_stateHere) := goodIn_app (goodIn_of _ (by decide +kernel)) ggX9_slotBehind_X9_stateHere
set_option maxRecDepth 20000 in
theorem ggX9_slotBehind_X9_signHere : GoodIn wsX9_slotBehind wsX9_signHere := goodIn_r _ [28, 29, 30, 31, 9, 32, 12, 11, 33, 34, 35, 36, 37, 38, 39, 40, 41, 42, 43, 44, 13, 14, 15, 16, 17, 18, 45, 46, 47, 48, 49, 50, 51, 52, 53, 54, 55, 56, 57, 58, 59, 60, 61, 62, 63, 64, 65, 66, 67, 68, 69, 70, 71, 72, 73, 74, 75, 76, 77, 78, 79, 80, 81, 82, 83, 84, 85, 86, 87, 88, 93, 94, 95, 96, 97, 98, 99, 100, 101] rfl (by decide +kernel)
set_option maxRecDepth 20000 in
theorem gX9_slotBehind_X9_signHere : GoodIn wsX9_slotBehind (wsV RX9 74 RX9 yX9_signHere wsX9_signHere) := goodIn_app (goodIn_of _ (by decide +kernel)) ggX9_slotBehind_X9_signHere
set_option maxRecDepth 20000 in
theorem ggX9_slotBehind_X9_isHere : GoodIn wsX9_slotBehind wsX9_isHere := goodIn_r _ [32, 12, 11, 33, 34, 35, 36, 37, 38, 39, 40, 41, 42, 43, 44, 13, 14, 15, 9, 16, 17, 18, 45, 46, 47, 48, 49, 50, 51, 52, 53, 54, 55, 56, 57, 58, 59, 60, 61, 62, 63, 64, 65, 66, 67, 68, 69, 70, 71, 72, 73, 74, 75, 76, 77, 78, 79, 80, 81, 93, 94, 95, 96, 97, 98, 99, 100, 101] rfl (by decide +kernel)
set_option maxRecDepth 20000 in
theorem gX9_slotBehind_X9_isHere : GoodIn wsX9_slotBehind (wsV RX9 79 RX9 yX9_isHere wsX9_isHere) := goodIn_app (goodIn_of _ (by decide +kernel)) ggX9_slotBehind_X9_isHere
set_option maxRecDepth 20000 in
theorem ggX9_slotBehind_X9_canStep : GoodIn wsX9_slotBehind wsX9_canStep := goodIn_r _ [92, 3, 2, 29, 30, 31, 9, 32, 12, 11, 33, 34, 35, 36, 37, 38, 39, 40, 41, 42, 43, 44, 13, 14, 15, 16, 17, 18, 45, 46, 47, 48, 49, 50, 51, 52, 53, 54, 55, 56, 57, 58, 59, 60, 61, 62, 63, 64, 65, 66, 67, 68, 69, 70, 71, 72, 73, 74, 75, 76, 77, 78, 79, 80, 81, 93, 94, 95, 96, 97, 98, 99, 100, 101] rfl (by decide +kernel)
set_option maxRecDepth 20000 in
theorem gX9_slotBehind_X9_canStep : GoodIn wsX9_slotBehind (wsV RX9 83 RX9 yX9_canStep wsX9_canStep) := goodIn_app (goodIn_of _ (by decide +kernel)) ggX9_slotBehind_X9_canStep
set_option maxRecDepth 20000 in
theorem ggX9_slotBehind_X9_letterHere : GoodIn wsX9_slotBehind wsX9_letterHere := goodIn_r _ [85, 11, 12, 13, 14, 15, 9, 16, 17, 18, 86, 87, 88, 93, 94, 95, 96, 97, 98, 99, 100, 101] rfl (by decide +kernel)
set_option maxRecDepth 20000 in
theorem gX9_slotBehind_X9_letterHere : GoodIn wsX9_slotBehind (wsV RX9 92 RX9 yX9_letterHere wsX9_letterHere) := goodIn_app (goodIn_of _ (by decide +kernel)) ggX9_slotBehind_X9_letterHere
theorem dX9_slotBehind_0 : decode cX9_slotBehind 0 = .ok (.iload_n 1, 1) := by decide +kernel
theorem dX9_slotBehind_1 : decode cX9_slotBehind 1 = .ok (.tableswitch 206 0 6 #[43, 66, 88, 111, 126, 154, 183], 43) := by decide +kernel
theorem dX9_slotBehind_44 : decode cX9_slotBehind 44 = .ok (.aload_n 0, 1) := by decide +kernel
theorem dX9_slotBehind_45 : decode cX9_slotBehind 45 = .ok (.aload_n 0, 1) := by decide +kernel
theorem dX9_slotBehind_46 : decode cX9_slotBehind 46 = .ok (.aload_n 2, 1) := by decide +kernel
theorem dX9_slotBehind_47 : decode cX9_slotBehind 47 = .ok (.invokevirtual 70, 3) := by decide +kernel
theorem dX9_slotBehind_50 : decode cX9_slotBehind 50 = .ok (.putfield 38, 3) := by decide +kernel
theorem dX9_slotBehind_53 : decode cX9_slotBehind 53 = .ok (.aload_n 0, 1) := by decide +kernel
theorem dX9_slotBehind_54 : decode cX9_slotBehind 54 = .ok (.getfield 38, 3) := by decide +kernel
theorem dX9_slotBehind_57 : decode cX9_slotBehind 57 = .ok (.iconst (-1), 1) := by decide +kernel
theorem dX9_slotBehind_58 : decode cX9_slotBehind 58 = .ok (.if_icmp .ne 7, 3) := by decide +kernel
theorem dX9_slotBehind_61 : decode cX9_slotBehind 61 = .ok (.iconst (-1), 1) := by decide +kernel
theorem dX9_slotBehind_62 : decode cX9_slotBehind 62 = .ok (.goto 4, 3) := by decide +kernel
theorem dX9_slotBehind_65 : decode cX9_slotBehind 65 = .ok (.iconst 1, 1) := by decide +kernel
theorem dX9_slotBehind_66 : decode cX9_slotBehind 66 = .ok (.ireturn, 1) := by decide +kernel
theorem dX9_slotBehind_67 : decode cX9_slotBehind 67 = .ok (.aload_n 0, 1) := by decide +kernel
theorem dX9_slotBehind_68 : decode cX9_slotBehind 68 = .ok (.aload_n 0, 1) := by decide +kernel
theorem dX9_slotBehind_69 : decode cX9_slotBehind 69 = .ok (.invokevirtual 74, 3) := by decide +kernel
theorem dX9_slotBehind_72 : decode cX9_slotBehind 72 = .ok (.putfield 41, 3) := by decide +kernel
theorem dX9_slotBehind_75 : decode cX9_slotBehind 75 = .ok (.aload_n 0, 1) := by decide +kernel
theorem dX9_slotBehind_76 : decode cX9_slotBehind 76 = .ok (.getfield 41, 3) := by decide +kernel
theorem dX9_slotBehind_79 : decode cX9_slotBehind 79 = .ok (.iconst (-1), 1) := by decide +kernel
theorem dX9_slotBehind_80 : decode cX9_slotBehind 80 = .ok (.if_icmp .ne 7, 3) := by decide +kernel
theorem dX9_slotBehind_83 : decode cX9_slotBehind 83 = .ok (.iconst (-1), 1) := by decide +kernel
theorem dX9_slotBehind_84 : decode cX9_slotBehind 84 = .ok (.goto 4, 3) := by decide +kernel
theorem dX9_slotBehind_87 : decode cX9_slotBehind 87 = .ok (.iconst 2, 1) := by decide +kernel
theorem dX9_slotBehind_88 : decode cX9_slotBehind 88 = .ok (.ireturn, 1) := by decide +kernel
theorem dX9_slotBehind_89 : decode cX9_slotBehind 89 = .ok (.aload_n 0, 1) := by decide +kernel
theorem dX9_slotBehind_90 : decode cX9_slotBehind 90 = .ok (.aload_n 0, 1) := by decide +kernel
theorem dX9_slotBehind_91 : decode cX9_slotBehind 91 = .ok (.ldc 78, 2) := by decide +kernel
theorem dX9_slotBehind_93 : decode cX9_slotBehind 93 = .ok (.invokevirtual 79, 3) := by decide +kernel
theorem dX9_slotBehind_96 : decode cX9_slotBehind 96 = .ok (.putfield 47, 3) := by decide +kernel
theorem dX9_slotBehind_99 : decode cX9_slotBehind 99 = .ok (.aload_n 0, 1) := by decide +kernel
theorem dX9_slotBehind_100 : decode cX9_slotBehind 100 = .ok (.invokevirtual 83, 3) := by decide +kernel
theorem dX9_slotBehind_103 : decode cX9_slotBehind 103 = .ok (.ifCond .eq 7, 3) := by decide +kernel
theorem dX9_slotBehind_106 : decode cX9_slotBehind 106 = .ok (.iconst 3, 1) := by decide +kernel
theorem dX9_slotBehind_107 : decode cX9_slotBehind 107 = .ok (.goto 4, 3) := by decide +kernel
theorem dX9_slotBehind_110 : decode cX9_slotBehind 110 = .ok (.iconst (-1), 1) := by decide +kernel
theorem dX9_slotBehind_111 : decode cX9_slotBehind 111 = .ok (.ireturn, 1) := by decide +kernel
theorem dX9_slotBehind_112 : decode cX9_slotBehind 112 = .ok (.aload_n 0, 1) := by decide +kernel
theorem dX9_slotBehind_113 : decode cX9_slotBehind 113 = .ok (.ldc 87, 2) := by decide +kernel
theorem dX9_slotBehind_115 : decode cX9_slotBehind 115 = .ok (.invokevirtual 79, 3) := by decide +kernel
theorem dX9_slotBehind_118 : decode cX9_slotBehind 118 = .ok (.ifCond .eq 7, 3) := by decide +kernel
theorem dX9_slotBehind_121 : decode cX9_slotBehind 121 = .ok (.iconst 4, 1) := by decide +kernel
theorem dX9_slotBehind_122 : decode cX9_slotBehind 122 = .ok (.goto 4, 3) := by decide +kernel
theorem dX9_slotBehind_125 : decode cX9_slotBehind 125 = .ok (.iconst (-1), 1) := by decide +kernel
theorem dX9_slotBehind_126 : decode cX9_slotBehind 126 = .ok (.ireturn, 1) := by decide +kernel
theorem dX9_slotBehind_127 : decode cX9_slotBehind 127 = .ok (.aload_n 0, 1) := by decide +kernel
theorem dX9_slotBehind_128 : decode cX9_slotBehind 128 = .ok (.aload_n 0, 1) := by decide +kernel
theorem dX9_slotBehind_129 : decode cX9_slotBehind 129 = .ok (.aload_n 2, 1) := by decide +kernel
theorem dX9_slotBehind_130 : decode cX9_slotBehind 130 = .ok (.invokevirtual 70, 3) := by decide +kernel
theorem dX9_slotBehind_133 : decode cX9_slotBehind 133 = .ok (.putfield 44, 3) := by decide +kernel
theorem dX9_slotBehind_136 : decode cX9_slotBehind 136 = .ok (.aload_n 0, 1) := by decide +kernel
theorem dX9_slotBehind_137 : decode cX9_slotBehind 137 = .ok (.iconst (-1), 1) := by decide +kernel
theorem dX9_slotBehind_138 : decode cX9_slotBehind 138 = .ok (.putfield 51, 3) := by decide +kernel
theorem dX9_slotBehind_141 : decode cX9_slotBehind 141 = .ok (.aload_n 0, 1) := by decide +kernel
theorem dX9_slotBehind_142 : decode cX9_slotBehind 142 = .ok (.getfield 44, 3) := by decide +kernel
theorem dX9_slotBehind_145 : decode cX9_slotBehind 145 = .ok (.iconst (-1), 1) := by decide +kernel
theorem dX9_slotBehind_146 : decode cX9_slotBehind 146 = .ok (.if_icmp .ne 7, 3) := by decide +kernel
theorem dX9_slotBehind_149 : decode cX9_slotBehind 149 = .ok (.iconst (-1), 1) := by decide +kernel
theorem dX9_slotBehind_150 : decode cX9_slotBehind 150 = .ok (.goto 4, 3) := by decide +kernel
theorem dX9_slotBehind_153 : decode cX9_slotBehind 153 = .ok (.iconst 5, 1) := by decide +kernel
theorem dX9_slotBehind_154 : decode cX9_slotBehind 154 = .ok (.ireturn, 1) := by decide +kernel
theorem dX9_slotBehind_155 : decode cX9_slotBehind 155 = .ok (.aload_n 0, 1) := by decide +kernel
theorem dX9_slotBehind_156 : decode cX9_slotBehind 156 = .ok (.ldc 88, 2) := by decide +kernel
theorem dX9_slotBehind_158 : decode cX9_slotBehind 158 = .ok (.invokevirtual 79, 3) := by decide +kernel
theorem dX9_slotBehind_161 : decode cX9_slotBehind 161 = .ok (.ifCond .eq 7, 3) := by decide +kernel
theorem dX9_slotBehind_164 : decode cX9_slotBehind 164 = .ok (.iconst 0, 1) := by decide +kernel
theorem dX9_slotBehind_165 : decode cX9_slotBehind 165 = .ok (.goto 18, 3) := by decide +kernel
theorem dX9_slotBehind_168 : decode cX9_slotBehind 168 = .ok (.aload_n 0, 1) := by decide +kernel
theorem dX9_slotBehind_169 : decode cX9_slotBehind 169 = .ok (.ldc 90, 2) := by decide +kernel
theorem dX9_slotBehind_171 : decode cX9_slotBehind 171 = .ok (.invokevirtual 79, 3) := by decide +kernel
theorem dX9_slotBehind_174 : decode cX9_slotBehind 174 = .ok (.ifCond .eq 8, 3) := by decide +kernel
theorem dX9_slotBehind_177 : decode cX9_slotBehind 177 = .ok (.bipush 6, 2) := by decide +kernel
theorem dX9_slotBehind_179 : decode cX9_slotBehind 179 = .ok (.goto 4, 3) := by decide +kernel
theorem dX9_slotBehind_182 : decode cX9_slotBehind 182 = .ok (.iconst (-1), 1) := by decide +kernel
theorem dX9_slotBehind_183 : decode cX9_slotBehind 183 = .ok (.ireturn, 1) := by decide +kernel
theorem dX9_slotBehind_184 : decode cX9_slotBehind 184 = .ok (.aload_n 0, 1) := by decide +kernel
theorem dX9_slotBehind_185 : decode cX9_slotBehind 185 = .ok (.aload_n 0, 1) := by decide +kernel
theorem dX9_slotBehind_186 : decode cX9_slotBehind 186 = .ok (.invokevirtual 92, 3) := by decide +kernel
theorem dX9_slotBehind_189 : decode cX9_slotBehind 189 = .ok (.putfield 51, 3) := by decide +kernel
theorem dX9_slotBehind_192 : decode cX9_slotBehind 192 = .ok (.aload_n 0, 1) := by decide +kernel
theorem dX9_slotBehind_193 : decode cX9_slotBehind 193 = .ok (.getfield 51, 3) := by decide +kernel
theorem dX9_slotBehind_196 : decode cX9_slotBehind 196 = .ok (.iconst (-1), 1) := by decide +kernel
theorem dX9_slotBehind_197 : decode cX9_slotBehind 197 = .ok (.if_icmp .ne 7, 3) := by decide +kernel
theorem dX9_slotBehind_200 : decode cX9_slotBehind 200 = .ok (.iconst (-1), 1) := by decide +kernel
theorem dX9_slotBehind_201 : decode cX9_slotBehind 201 = .ok (.goto 5, 3) := by decide +kernel
theorem dX9_slotBehind_204 : decode cX9_slotBehind 204 = .ok (.bipush 7, 2) := by decide +kernel
theorem dX9_slotBehind_206 : decode cX9_slotBehind 206 = .ok (.ireturn, 1) := by decide +kernel
theorem dX9_slotBehind_207 : decode cX9_slotBehind 207 = .ok (.aload_n 0, 1) := by decide +kernel
theorem dX9_slotBehind_208 : decode cX9_slotBehind 208 = .ok (.ldc 88, 2) := by decide +kernel
theorem dX9_slotBehind_210 : decode cX9_slotBehind 210 = .ok (.invokevirtual 79, 3) := by decide +kernel
theorem dX9_slotBehind_213 : decode cX9_slotBehind 213 = .ok (.ifCond .eq 7, 3) := by decide +kernel
theorem dX9_slotBehind_216 : decode cX9_slotBehind 216 = .ok (.iconst 0, 1) := by decide +kernel
theorem dX9_slotBehind_217 : decode cX9_slotBehind 217 = .ok (.goto 4, 3) := by decide +kernel
theorem dX9_slotBehind_220 : decode cX9_slotBehind 220 = .ok (.iconst (-1), 1) := by decide +kernel
theorem dX9_slotBehind_221 : decode cX9_slotBehind 221 = .ok (.ireturn, 1) := by decide +kernel
theorem dX9_slotAtEnd_0 : decode cX9_slotAtEnd 0 = .ok (.iload_n 0, 1) := by decide +kernel
theorem dX9_slotAtEnd_1 : decode cX9_slotAtEnd 1 = .ok (.iconst 5, 1) := by decide +kernel
theorem dX9_slotAtEnd_2 : decode cX9_slotAtEnd 2 = .ok (.if_icmp .eq 9, 3) := by decide +kernel
theorem dX9_slotAtEnd_5 : decode cX9_slotAtEnd 5 = .ok (.iload_n 0, 1) := by decide +kernel
theorem dX9_slotAtEnd_6 : decode cX9_slotAtEnd 6 = .ok (.bipush 7, 2) := by decide +kernel
theorem dX9_slotAtEnd_8 : decode cX9_slotAtEnd 8 = .ok (.if_icmp .ne 8, 3) := by decide +kernel
theorem dX9_slotAtEnd_11 : decode cX9_slotAtEnd 11 = .ok (.bipush 8, 2) := by decide +kernel
theorem dX9_slotAtEnd_13 : decode cX9_slotAtEnd 13 = .ok (.goto 4, 3) := by decide +kernel
theorem dX9_slotAtEnd_16 : decode cX9_slotAtEnd 16 = .ok (.iconst (-1), 1) := by decide +kernel
theorem dX9_slotAtEnd_17 : decode cX9_slotAtEnd 17 = .ok (.ireturn, 1) := by decide +kernel
set_option maxRecDepth 20000 in
theorem ggX9_canStep_X9_isHere : GoodIn wsX9_canStep wsX9_isHere := goodIn_r _ [7, 8, 9, 10, 11, 12, 13, 14, 15, 16, 17, 18, 19, 20, 21, 22, 23, 24, 6, 25, 26, 27, 28, 29, 30, 31, 32, 33, 34, 35, 36, 37, 38, 39, 40, 41, 42, 43, 44, 45, 46, 47, 48, 49, 50, 51, 52, 53, 54, 55, 56, 57, 58, 59, 60, 61, 62, 63, 64, 65, 66, 67, 68, 69, 70, 71, 72, 73] rfl (by decide +kernel)
set_option maxRecDepth 20000 in
theorem gX9_canStep_X9_isHere : GoodIn wsX9_canStep (wsV RX9 79 RX9 yX9_isHere wsX9_isHere) := goodIn_app (goodIn_of _ (by decide +kernel)) ggX9_canStep_X9_isHere
theorem dX9_canStep_0 : decode cX9_canStep 0 = .ok (.aload_n 0, 1) := by decide +kernel
theorem dX9_canStep_1 : decode cX9_canStep 1 = .ok (.getfield 47, 3) := by decide +kernel
theorem dX9_canStep_4 : decode cX9_canStep 4 = .ok (.ifCond .eq 19, 3) := by decide +kernel
theorem dX9_canStep_7 : decode cX9_canStep 7 = .ok (.aload_n 0, 1) := by decide +kernel
theorem dX9_canStep_8 : decode cX9_canStep 8 = .ok (.getfield 41, 3) := by decide +kernel
theorem dX9_canStep_11 : decode cX9_canStep 11 = .ok (.iconst 4, 1) := by decide +kernel
theorem dX9_canStep_12 : decode cX9_canStep 12 = .ok (.if_icmp .eq 7, 3) := by decide +kernel
theorem dX9_canStep_15 : decode cX9_canStep 15 = .ok (.iconst 1, 1) := by decide +kernel
theorem dX9_canStep_16 : decode cX9_canStep 16 = .ok (.goto 29, 3) := by decide +kernel
theorem dX9_canStep_19 : decode cX9_canStep 19 = .ok (.iconst 0, 1) := by decide +kernel
theorem dX9_canStep_20 : decode cX9_canStep 20 = .ok (.goto 25, 3) := by decide +kernel
theorem dX9_canStep_23 : decode cX9_canStep 23 = .ok (.aload_n 0, 1) := by decide +kernel
theorem dX9_canStep_24 : decode cX9_canStep 24 = .ok (.ldc 95, 2) := by decide +kernel
theorem dX9_canStep_26 : decode cX9_canStep 26 = .ok (.invokevirtual 79, 3) := by decide +kernel
theorem dX9_canStep_29 : decode cX9_canStep 29 = .ok (.ifCond .eq 15, 3) := by decide +kernel
theorem dX9_canStep_32 : decode cX9_canStep 32 = .ok (.aload_n 0, 1) := by decide +kernel
theorem dX9_canStep_33 : decode cX9_canStep 33 = .ok (.getfield 41, 3) := by decide +kernel
theorem dX9_canStep_36 : decode cX9_canStep 36 = .ok (.iconst 3, 1) := by decide +kernel
theorem dX9_canStep_37 : decode cX9_canStep 37 = .ok (.if_icmp .eq 7, 3) := by decide +kernel
theorem dX9_canStep_40 : decode cX9_canStep 40 = .ok (.iconst 1, 1) := by decide +kernel
theorem dX9_canStep_41 : decode cX9_canStep 41 = .ok (.goto 4, 3) := by decide +kernel
theorem dX9_canStep_44 : decode cX9_canStep 44 = .ok (.iconst 0, 1) := by decide +kernel
theorem dX9_canStep_45 : decode cX9_canStep 45 = .ok (.ireturn, 1) := by decide +kernel
set_option maxRecDepth 20000 in
theorem ggX9_stateHere_X9_byteAt : GoodIn wsX9_stateHere wsX9_byteAt := goodIn_r _ [7, 8, 9, 16, 17, 18, 19, 20, 21, 22, 23, 24] rfl (by decide +kernel)
set_option maxRecDepth 20000 in
theorem gX9_stateHere_X9_byteAt : GoodIn wsX9_stateHere (wsV RX9 67 RX9 yX9_byteAt wsX9_byteAt) := goodIn_app (goodIn_of _ (by decide +kernel)) ggX9_stateHere_X9_byteAt
set_option maxRecDepth 20000 in
theorem ggX9_stateHere_X6_hasState : GoodIn wsX9_stateHere wsX6_hasState := goodIn_r _ [14, 15, 25, 26, 27, 28, 29] rfl (by decide +kernel)
set_option maxRecDepth 20000 in
theorem gX9_stateHere_X6_hasState : GoodIn wsX9_stateHere (wsV RX9 97 RX6 yX6_hasState wsX6_hasState) := goodIn_app (goodIn_of _ (by decide +kernel)) ggX9_stateHere_X6_hasState
theorem dX9_stateHere_0 : decode cX9_stateHere 0 = .ok (.aload_n 0, 1) := by decide +kernel
theorem dX9_stateHere_1 : decode cX9_stateHere 1 = .ok (.aload_n 0, 1) := by decide +kernel
theorem dX9_stateHere_2 : decode cX9_stateHere 2 = .ok (.getfield 27, 3) := by decide +kernel
theorem dX9_stateHere_5 : decode cX9_stateHere 5 = .ok (.invokevirtual 67, 3) := by decide +kernel
theorem dX9_stateHere_8 : decode cX9_stateHere 8 = .ok (.bipush 48, 2) := by decide +kernel
theorem dX9_stateHere_10 : decode cX9_stateHere 10 = .ok (.isub, 1) := by decide +kernel
theorem dX9_stateHere_11 : decode cX9_stateHere 11 = .ok (.istore_n 2, 1) := by decide +kernel
theorem dX9_stateHere_12 : decode cX9_stateHere 12 = .ok (.aload_n 0, 1) := by decide +kernel
theorem dX9_stateHere_13 : decode cX9_stateHere 13 = .ok (.getfield 21, 3) := by decide +kernel
theorem dX9_stateHere_16 : decode cX9_stateHere 16 = .ok (.aload_n 0, 1) := by decide +kernel
theorem dX9_stateHere_17 : decode cX9_stateHere 17 = .ok (.getfield 27, 3) := by decide +kernel
theorem dX9_stateHere_20 : decode cX9_stateHere 20 = .ok (.isub, 1) := by decide +kernel
theorem dX9_stateHere_21 : decode cX9_stateHere 21 = .ok (.iconst 1, 1) := by decide +kernel
theorem dX9_stateHere_22 : decode cX9_stateHere 22 = .ok (.if_icmp .ne 15, 3) := by decide +kernel
theorem dX9_stateHere_25 : decode cX9_stateHere 25 = .ok (.aload_n 1, 1) := by decide +kernel
theorem dX9_stateHere_26 : decode cX9_stateHere 26 = .ok (.iload_n 2, 1) := by decide +kernel
theorem dX9_stateHere_27 : decode cX9_stateHere 27 = .ok (.invokevirtual 97, 3) := by decide +kernel
theorem dX9_stateHere_30 : decode cX9_stateHere 30 = .ok (.ifCond .eq 7, 3) := by decide +kernel
theorem dX9_stateHere_33 : decode cX9_stateHere 33 = .ok (.iload_n 2, 1) := by decide +kernel
theorem dX9_stateHere_34 : decode cX9_stateHere 34 = .ok (.goto 4, 3) := by decide +kernel
theorem dX9_stateHere_37 : decode cX9_stateHere 37 = .ok (.iconst (-1), 1) := by decide +kernel
theorem dX9_stateHere_38 : decode cX9_stateHere 38 = .ok (.ireturn, 1) := by decide +kernel
set_option maxRecDepth 20000 in
theorem ggX9_letterHere_X9_byteAt : GoodIn wsX9_letterHere wsX9_byteAt := goodIn_r _ [7, 8, 9, 13, 14, 15, 16, 17, 18, 19, 20, 21] rfl (by decide +kernel)
set_option maxRecDepth 20000 in
theorem gX9_letterHere_X9_byteAt : GoodIn wsX9_letterHere (wsV RX9 67 RX9 yX9_byteAt wsX9_byteAt) := goodIn_app (goodIn_of _ (by decide +kernel)) ggX9_letterHere_X9_byteAt
set_option maxRecDepth 20000 in
theorem ggX9_letterHere_X11_isLetter : GoodIn wsX9_letterHere wsX11_isLetter := goodIn_r _ [12] rfl (by decide +kernel)
set_option maxRecDepth 20000 in
theorem gX9_letterHere_X11_isLetter_n101 : GoodIn wsX9_letterHere (wsX11_isLetter) := ggX9_letterHere_X11_isLetter
theorem dX9_letterHere_0 : decode cX9_letterHere 0 = .ok (.aload_n 0, 1) := by decide +kernel
theorem dX9_letterHere_1 : decode cX9_letterHere 1 = .ok (.aload_n 0, 1) := by decide +kernel
theorem dX9_letterHere_2 : decode cX9_letterHere 2 = .ok (.getfield 27, 3) := by decide +kernel
theorem dX9_letterHere_5 : decode cX9_letterHere 5 = .ok (.invokevirtual 67, 3) := by decide +kernel
theorem dX9_letterHere_8 : decode cX9_letterHere 8 = .ok (.bipush 97, 2) := by decide +kernel
theorem dX9_letterHere_10 : decode cX9_letterHere 10 = .ok (.isub, 1) := by decide +kernel
theorem dX9_letterHere_11 : decode cX9_letterHere 11 = .ok (.istore_n 1, 1) := by decide +kernel
theorem dX9_letterHere_12 : decode cX9_letterHere 12 = .ok (.aload_n 0, 1) := by decide +kernel
theorem dX9_letterHere_13 : decode cX9_letterHere 13 = .ok (.getfield 21, 3) := by decide +kernel
theorem dX9_letterHere_16 : decode cX9_letterHere 16 = .ok (.aload_n 0, 1) := by decide +kernel
theorem dX9_letterHere_17 : decode cX9_letterHere 17 = .ok (.getfield 27, 3) := by decide +kernel
theorem dX9_letterHere_20 : decode cX9_letterHere 20 = .ok (.isub, 1) := by decide +kernel
theorem dX9_letterHere_21 : decode cX9_letterHere 21 = .ok (.iconst 1, 1) := by decide +kernel
theorem dX9_letterHere_22 : decode cX9_letterHere 22 = .ok (.if_icmp .ne 14, 3) := by decide +kernel
theorem dX9_letterHere_25 : decode cX9_letterHere 25 = .ok (.iload_n 1, 1) := by decide +kernel
theorem dX9_letterHere_26 : decode cX9_letterHere 26 = .ok (.invokestatic 101, 3) := by decide +kernel
theorem dX9_letterHere_29 : decode cX9_letterHere 29 = .ok (.ifCond .eq 7, 3) := by decide +kernel
theorem dX9_letterHere_32 : decode cX9_letterHere 32 = .ok (.iload_n 1, 1) := by decide +kernel
theorem dX9_letterHere_33 : decode cX9_letterHere 33 = .ok (.goto 4, 3) := by decide +kernel
theorem dX9_letterHere_36 : decode cX9_letterHere 36 = .ok (.iconst (-1), 1) := by decide +kernel
theorem dX9_letterHere_37 : decode cX9_letterHere 37 = .ok (.ireturn, 1) := by decide +kernel
set_option maxRecDepth 20000 in
theorem ggX9_signHere_X9_isHere : GoodIn wsX9_signHere wsX9_isHere := goodIn_r _ [5, 6, 7, 8, 9, 10, 11, 12, 13, 14, 15, 16, 17, 18, 19, 20, 21, 22, 4, 23, 24, 25, 26, 27, 28, 29, 30, 31, 32, 33, 34, 35, 36, 37, 38, 39, 40, 41, 42, 43, 44, 45, 46, 47, 48, 49, 50, 51, 52, 53, 54, 55, 56, 57, 58, 59, 60, 61, 62, 70, 71, 72, 73, 74, 75, 76, 77, 78] rfl (by decide +kernel)
set_option maxRecDepth 20000 in
theorem gX9_signHere_X9_isHere : GoodIn wsX9_signHere (wsV RX9 79 RX9 yX9_isHere wsX9_isHere) := goodIn_app (goodIn_of _ (by decide +kernel)) ggX9_signHere_X9_isHere
set_option maxRecDepth 20000 in
theorem ggX9_signHere_X9_letterHere : GoodIn wsX9_signHere wsX9_letterHere := goodIn_r _ [66, 7, 6, 20, 21, 22, 4, 23, 24, 25, 67, 68, 69, 70, 71, 72, 73, 74, 75, 76, 77, 78] rfl (by decide +kernel)
set_option maxRecDepth 20000 in
theorem gX9_signHere_X9_letterHere : GoodIn wsX9_signHere (wsV RX9 92 RX9 yX9_letterHere wsX9_letterHere) := goodIn_app (goodIn_of _ (by decide +kernel)) ggX9_signHere_X9_letterHere
theorem dX9_signHere_0 : decode cX9_signHere 0 = .ok (.aload_n 0, 1) := by decide +kernel
theorem dX9_signHere_1 : decode cX9_signHere 1 = .ok (.ldc 104, 2) := by decide +kernel
theorem dX9_signHere_3 : decode cX9_signHere 3 = .ok (.invokevirtual 79, 3) := by decide +kernel
theorem dX9_signHere_6 : decode cX9_signHere 6 = .ok (.ifCond .eq 7, 3) := by decide +kernel
theorem dX9_signHere_9 : decode cX9_signHere 9 = .ok (.iconst 3, 1) := by decide +kernel
theorem dX9_signHere_10 : decode cX9_signHere 10 = .ok (.goto 20, 3) := by decide +kernel
theorem dX9_signHere_13 : decode cX9_signHere 13 = .ok (.aload_n 0, 1) := by decide +kernel
theorem dX9_signHere_14 : decode cX9_signHere 14 = .ok (.ldc 106, 2) := by decide +kernel
theorem dX9_signHere_16 : decode cX9_signHere 16 = .ok (.invokevirtual 79, 3) := by decide +kernel
theorem dX9_signHere_19 : decode cX9_signHere 19 = .ok (.ifCond .eq 7, 3) := by decide +kernel
theorem dX9_signHere_22 : decode cX9_signHere 22 = .ok (.iconst 4, 1) := by decide +kernel
theorem dX9_signHere_23 : decode cX9_signHere 23 = .ok (.goto 7, 3) := by decide +kernel
theorem dX9_signHere_26 : decode cX9_signHere 26 = .ok (.aload_n 0, 1) := by decide +kernel
theorem dX9_signHere_27 : decode cX9_signHere 27 = .ok (.invokevirtual 92, 3) := by decide +kernel
theorem dX9_signHere_30 : decode cX9_signHere 30 = .ok (.ireturn, 1) := by decide +kernel
set_option maxRecDepth 20000 in
theorem ggX9_isHere_J0_length_8abf5 : GoodIn wsX9_isHere wsJ0_length_8abf5 := goodIn_r _ [7, 8, 9, 10, 11, 6, 12, 13, 14] rfl (by decide +kernel)
set_option maxRecDepth 20000 in
theorem gX9_isHere_J0_length_8abf5 : GoodIn wsX9_isHere (wsV RX9 108 RJ0 yJ0_length_8abf5 wsJ0_length_8abf5) := goodIn_app (goodIn_of _ (by decide +kernel)) ggX9_isHere_J0_length_8abf5
set_option maxRecDepth 20000 in
theorem ggX9_isHere_X9_byteAt : GoodIn wsX9_isHere wsX9_byteAt := goodIn_r _ [19, 20, 21, 59, 60, 61, 62, 63, 64, 65, 66, 67] rfl (by decide +kernel)
set_option maxRecDepth 20000 in
theorem gX9_isHere_X9_byteAt : GoodIn wsX9_isHere (wsV RX9 67 RX9 yX9_byteAt wsX9_byteAt) := goodIn_app (goodIn_of _ (by decide +kernel)) ggX9_isHere_X9_byteAt
set_option maxRecDepth 20000 in
theorem ggX9_isHere_J0_charAt_5068e : GoodIn wsX9_isHere wsJ0_charAt_5068e := goodIn_r _ [25, 8, 26, 27, 28, 6, 29, 13, 14, 30, 31, 32, 33, 34, 35, 36, 37, 38, 39, 40, 41, 42, 43, 44, 45, 46, 47, 48, 49, 50, 51, 52, 53, 54, 55, 56, 57, 58] rfl (by decide +kernel)
set_option maxRecDepth 20000 in
theorem gX9_isHere_J0_charAt_5068e : GoodIn wsX9_isHere (wsV RX9 113 RJ0 yJ0_charAt_5068e wsJ0_charAt_5068e) := goodIn_app (goodIn_of _ (by decide +kernel)) ggX9_isHere_J0_charAt_5068e
theorem dX9_isHere_0 : decode cX9_isHere 0 = .ok (.aload_n 1, 1) := by decide +kernel
theorem dX9_isHere_1 : decode cX9_isHere 1 = .ok (.invokevirtual 108, 3) := by decide +kernel
theorem dX9_isHere_4 : decode cX9_isHere 4 = .ok (.aload_n 0, 1) := by decide +kernel
theorem dX9_isHere_5 : decode cX9_isHere 5 = .ok (.getfield 21, 3) := by decide +kernel
theorem dX9_isHere_8 : decode cX9_isHere 8 = .ok (.aload_n 0, 1) := by decide +kernel
theorem dX9_isHere_9 : decode cX9_isHere 9 = .ok (.getfield 27, 3) := by decide +kernel
theorem dX9_isHere_12 : decode cX9_isHere 12 = .ok (.isub, 1) := by decide +kernel
theorem dX9_isHere_13 : decode cX9_isHere 13 = .ok (.if_icmp .eq 5, 3) := by decide +kernel
theorem dX9_isHere_16 : decode cX9_isHere 16 = .ok (.iconst 0, 1) := by decide +kernel
theorem dX9_isHere_17 : decode cX9_isHere 17 = .ok (.ireturn, 1) := by decide +kernel
theorem dX9_isHere_18 : decode cX9_isHere 18 = .ok (.iconst 0, 1) := by decide +kernel
theorem dX9_isHere_19 : decode cX9_isHere 19 = .ok (.istore_n 2, 1) := by decide +kernel
theorem dX9_isHere_20 : decode cX9_isHere 20 = .ok (.iload_n 2, 1) := by decide +kernel
theorem dX9_isHere_21 : decode cX9_isHere 21 = .ok (.aload_n 1, 1) := by decide +kernel
theorem dX9_isHere_22 : decode cX9_isHere 22 = .ok (.invokevirtual 108, 3) := by decide +kernel
theorem dX9_isHere_25 : decode cX9_isHere 25 = .ok (.if_icmp .ge 29, 3) := by decide +kernel
theorem dX9_isHere_28 : decode cX9_isHere 28 = .ok (.aload_n 0, 1) := by decide +kernel
theorem dX9_isHere_29 : decode cX9_isHere 29 = .ok (.aload_n 0, 1) := by decide +kernel
theorem dX9_isHere_30 : decode cX9_isHere 30 = .ok (.getfield 27, 3) := by decide +kernel
theorem dX9_isHere_33 : decode cX9_isHere 33 = .ok (.iload_n 2, 1) := by decide +kernel
theorem dX9_isHere_34 : decode cX9_isHere 34 = .ok (.iadd, 1) := by decide +kernel
theorem dX9_isHere_35 : decode cX9_isHere 35 = .ok (.invokevirtual 67, 3) := by decide +kernel
theorem dX9_isHere_38 : decode cX9_isHere 38 = .ok (.aload_n 1, 1) := by decide +kernel
theorem dX9_isHere_39 : decode cX9_isHere 39 = .ok (.iload_n 2, 1) := by decide +kernel
theorem dX9_isHere_40 : decode cX9_isHere 40 = .ok (.invokevirtual 113, 3) := by decide +kernel
theorem dX9_isHere_43 : decode cX9_isHere 43 = .ok (.if_icmp .eq 5, 3) := by decide +kernel
theorem dX9_isHere_46 : decode cX9_isHere 46 = .ok (.iconst 0, 1) := by decide +kernel
theorem dX9_isHere_47 : decode cX9_isHere 47 = .ok (.ireturn, 1) := by decide +kernel
theorem dX9_isHere_48 : decode cX9_isHere 48 = .ok (.iinc 2 1, 3) := by decide +kernel
theorem dX9_isHere_51 : decode cX9_isHere 51 = .ok (.goto (-31), 3) := by decide +kernel
theorem dX9_isHere_54 : decode cX9_isHere 54 = .ok (.iconst 1, 1) := by decide +kernel
theorem dX9_isHere_55 : decode cX9_isHere 55 = .ok (.ireturn, 1) := by decide +kernel
theorem dX10_init_0 : decode cX10_init 0 = .ok (.aload_n 0, 1) := by decide +kernel
theorem dX10_init_1 : decode cX10_init 1 = .ok (.invokespecial 3, 3) := by decide +kernel
theorem dX10_init_4 : decode cX10_init 4 = .ok (.aload_n 0, 1) := by decide +kernel
theorem dX10_init_5 : decode cX10_init 5 = .ok (.iconst 5, 1) := by decide +kernel
theorem dX10_init_6 : decode cX10_init 6 = .ok (.newarray .long, 2) := by decide +kernel
theorem dX10_init_8 : decode cX10_init 8 = .ok (.putfield 9, 3) := by decide +kernel
theorem dX10_init_11 : decode cX10_init 11 = .ok (.aload_n 0, 1) := by decide +kernel
theorem dX10_init_12 : decode cX10_init 12 = .ok (.sipush 130, 3) := by decide +kernel
theorem dX10_init_15 : decode cX10_init 15 = .ok (.newarray .int, 2) := by decide +kernel
theorem dX10_init_17 : decode cX10_init 17 = .ok (.putfield 15, 3) := by decide +kernel
theorem dX10_init_20 : decode cX10_init 20 = .ok (.return_, 1) := by decide +kernel
set_option maxRecDepth 20000 in
theorem ggX10_go_J7_fill_d0a16 : GoodIn wsX10_go wsJ7_fill_d0a16 := goodIn_r _ [10] rfl (by decide +kernel)
set_option maxRecDepth 20000 in
theorem gX10_go_J7_fill_d0a16 : GoodIn wsX10_go (va_wsS RX10 19 yJ7_fill_d0a16 wsJ7_fill_d0a16) := goodIn_app (goodIn_of _ (by decide +kernel)) ggX10_go_J7_fill_d0a16
set_option maxRecDepth 20000 in
theorem ggX10_go_X10_wasHere : GoodIn wsX10_go wsX10_wasHere := goodIn_r _ [15, 4, 1, 3, 50, 51, 52, 53, 54, 55, 56] rfl (by decide +kernel)
set_option maxRecDepth 20000 in
theorem gX10_go_X10_wasHere : GoodIn wsX10_go (wsV RX10 41 RX10 yX10_wasHere wsX10_wasHere) := goodIn_app (goodIn_of _ (by decide +kernel)) ggX10_go_X10_wasHere
set_option maxRecDepth 20000 in
theorem ggX10_go_X10_signAt : GoodIn wsX10_go wsX10_signAt := goodIn_r _ [19, 3, 50, 51, 52, 53, 54, 55, 56] rfl (by decide +kernel)
set_option maxRecDepth 20000 in
theorem gX10_go_X10_signAt : GoodIn wsX10_go (wsV RX10 45 RX10 yX10_signAt wsX10_signAt) := goodIn_app (goodIn_of _ (by decide +kernel)) ggX10_go_X10_signAt
set_option maxRecDepth 20000 in
theorem ggX10_go_X6_moveOf : GoodIn wsX10_go wsX6_moveOf := goodIn_r _ [24, 25, 26, 57, 58, 59, 60, 61] rfl (by decide +kernel)
set_option maxRecDepth 20000 in
theorem gX10_go_X6_moveOf : GoodIn wsX10_go (wsV RX10 49 RX6 yX6_moveOf wsX6_moveOf) := goodIn_app (goodIn_of _ (by decide +kernel)) ggX10_go_X6_moveOf
set_option maxRecDepth 20000 in
theorem ggX10_go_X6_takesIn : GoodIn wsX10_go wsX6_takesIn := goodIn_r _ [30, 31, 32, 33, 34, 23, 35, 25, 57, 58, 59, 60, 61] rfl (by decide +kernel)
set_option maxRecDepth 20000 in
theorem gX10_go_X6_takesIn : GoodIn wsX10_go (wsV RX10 55 RX6 yX6_takesIn wsX6_takesIn) := goodIn_app (goodIn_of _ (by decide +kernel)) ggX10_go_X6_takesIn
set_option maxRecDepth 20000 in
theorem ggX10_go_X6_saying : GoodIn wsX10_go wsX6_saying := goodIn_r _ [38] rfl (by decide +kernel)
set_option maxRecDepth 20000 in
theorem gX10_go_X6_saying : GoodIn wsX10_go (va_wsS RX10 59 yX6_saying wsX6_saying) := goodIn_app (goodIn_of _ (by decide +kernel)) ggX10_go_X6_saying
set_option maxRecDepth 20000 in
theorem ggX10_go_X10_say : GoodIn wsX10_go wsX10_say := goodIn_r _ [42, 2, 43, 50, 51, 52, 53, 54, 55, 56] rfl (by decide +kernel)
set_option maxRecDepth 20000 in
theorem gX10_go_X10_say : GoodIn wsX10_go (wsV RX10 63 RX10 yX10_say wsX10_say) := goodIn_app (goodIn_of _ (by decide +kernel)) ggX10_go_X10_say
set_option maxRecDepth 20000 in
theorem ggX10_go_X6_goesRight : GoodIn wsX10_go wsX6_goesRight := goodIn_r _ [46] rfl (by decide +kernel)
set_option maxRecDepth 20000 in
theorem gX10_go_X6_goesRight : GoodIn wsX10_go (va_wsS RX10 67 yX6_goesRight wsX6_goesRight) := goodIn_app (goodIn_of _ (by decide +kernel)) ggX10_go_X6_goesRight
set_option maxRecDepth 20000 in
theorem ggX10_go_X6_target : GoodIn wsX10_go wsX6_target := goodIn_r _ [49] rfl (by decide +kernel)
set_option maxRecDepth 20000 in
theorem gX10_go_X6_target : GoodIn wsX10_go (va_wsS RX10 70 yX6_target wsX6_target) := goodIn_app (goodIn_of _ (by decide +kernel)) ggX10_go_X6_target
theorem dX10_go_0 : decode cX10_go 0 = .ok (.aload_n 0, 1) := by decide +kernel
theorem dX10_go_1 : decode cX10_go 1 = .ok (.getfield 9, 3) := by decide +kernel
theorem dX10_go_4 : decode cX10_go 4 = .ok (.lconst 0, 1) := by decide +kernel
theorem dX10_go_5 : decode cX10_go 5 = .ok (.invokestatic 19, 3) := by decide +kernel
theorem dX10_go_8 : decode cX10_go 8 = .ok (.aload_n 0, 1) := by decide +kernel
theorem dX10_go_9 : decode cX10_go 9 = .ok (.iconst 0, 1) := by decide +kernel
theorem dX10_go_10 : decode cX10_go 10 = .ok (.putfield 25, 3) := by decide +kernel
theorem dX10_go_13 : decode cX10_go 13 = .ok (.aload_n 0, 1) := by decide +kernel
theorem dX10_go_14 : decode cX10_go 14 = .ok (.iconst 0, 1) := by decide +kernel
theorem dX10_go_15 : decode cX10_go 15 = .ok (.putfield 29, 3) := by decide +kernel
theorem dX10_go_18 : decode cX10_go 18 = .ok (.aload_n 0, 1) := by decide +kernel
theorem dX10_go_19 : decode cX10_go 19 = .ok (.iconst 0, 1) := by decide +kernel
theorem dX10_go_20 : decode cX10_go 20 = .ok (.putfield 32, 3) := by decide +kernel
theorem dX10_go_23 : decode cX10_go 23 = .ok (.aload_n 0, 1) := by decide +kernel
theorem dX10_go_24 : decode cX10_go 24 = .ok (.iconst 2, 1) := by decide +kernel
theorem dX10_go_25 : decode cX10_go 25 = .ok (.putfield 35, 3) := by decide +kernel
theorem dX10_go_28 : decode cX10_go 28 = .ok (.aload_n 0, 1) := by decide +kernel
theorem dX10_go_29 : decode cX10_go 29 = .ok (.iconst 0, 1) := by decide +kernel
theorem dX10_go_30 : decode cX10_go 30 = .ok (.putfield 38, 3) := by decide +kernel
theorem dX10_go_33 : decode cX10_go 33 = .ok (.aload_n 0, 1) := by decide +kernel
theorem dX10_go_34 : decode cX10_go 34 = .ok (.getfield 38, 3) := by decide +kernel
theorem dX10_go_37 : decode cX10_go 37 = .ok (.sipush 130, 3) := by decide +kernel
theorem dX10_go_40 : decode cX10_go 40 = .ok (.if_icmp .gt 115, 3) := by decide +kernel
theorem dX10_go_43 : decode cX10_go 43 = .ok (.aload_n 0, 1) := by decide +kernel
theorem dX10_go_44 : decode cX10_go 44 = .ok (.invokevirtual 41, 3) := by decide +kernel
theorem dX10_go_47 : decode cX10_go 47 = .ok (.ifCond .eq 4, 3) := by decide +kernel
theorem dX10_go_50 : decode cX10_go 50 = .ok (.return_, 1) := by decide +kernel
theorem dX10_go_51 : decode cX10_go 51 = .ok (.aload_n 1, 1) := by decide +kernel
theorem dX10_go_52 : decode cX10_go 52 = .ok (.aload_n 0, 1) := by decide +kernel
theorem dX10_go_53 : decode cX10_go 53 = .ok (.getfield 32, 3) := by decide +kernel
theorem dX10_go_56 : decode cX10_go 56 = .ok (.aload_n 0, 1) := by decide +kernel
theorem dX10_go_57 : decode cX10_go 57 = .ok (.aload_n 2, 1) := by decide +kernel
theorem dX10_go_58 : decode cX10_go 58 = .ok (.iload_n 3, 1) := by decide +kernel
theorem dX10_go_59 : decode cX10_go 59 = .ok (.invokevirtual 45, 3) := by decide +kernel
theorem dX10_go_62 : decode cX10_go 62 = .ok (.invokevirtual 49, 3) := by decide +kernel
theorem dX10_go_65 : decode cX10_go 65 = .ok (.istore 4, 2) := by decide +kernel
theorem dX10_go_67 : decode cX10_go 67 = .ok (.iload 4, 2) := by decide +kernel
theorem dX10_go_69 : decode cX10_go 69 = .ok (.iconst (-1), 1) := by decide +kernel
theorem dX10_go_70 : decode cX10_go 70 = .ok (.if_icmp .ne 32, 3) := by decide +kernel
theorem dX10_go_73 : decode cX10_go 73 = .ok (.aload_n 0, 1) := by decide +kernel
theorem dX10_go_74 : decode cX10_go 74 = .ok (.aload_n 0, 1) := by decide +kernel
theorem dX10_go_75 : decode cX10_go 75 = .ok (.getfield 29, 3) := by decide +kernel
theorem dX10_go_78 : decode cX10_go 78 = .ok (.iload_n 3, 1) := by decide +kernel
theorem dX10_go_79 : decode cX10_go 79 = .ok (.if_icmp .le 18, 3) := by decide +kernel
theorem dX10_go_82 : decode cX10_go 82 = .ok (.aload_n 1, 1) := by decide +kernel
theorem dX10_go_83 : decode cX10_go 83 = .ok (.aload_n 0, 1) := by decide +kernel
theorem dX10_go_84 : decode cX10_go 84 = .ok (.getfield 32, 3) := by decide +kernel
theorem dX10_go_87 : decode cX10_go 87 = .ok (.invokevirtual 55, 3) := by decide +kernel
theorem dX10_go_90 : decode cX10_go 90 = .ok (.ifCond .eq 7, 3) := by decide +kernel
theorem dX10_go_93 : decode cX10_go 93 = .ok (.iconst 1, 1) := by decide +kernel
theorem dX10_go_94 : decode cX10_go 94 = .ok (.goto 4, 3) := by decide +kernel
theorem dX10_go_97 : decode cX10_go 97 = .ok (.iconst 0, 1) := by decide +kernel
theorem dX10_go_98 : decode cX10_go 98 = .ok (.putfield 35, 3) := by decide +kernel
theorem dX10_go_101 : decode cX10_go 101 = .ok (.return_, 1) := by decide +kernel
theorem dX10_go_102 : decode cX10_go 102 = .ok (.aload_n 0, 1) := by decide +kernel
theorem dX10_go_103 : decode cX10_go 103 = .ok (.iload 4, 2) := by decide +kernel
theorem dX10_go_105 : decode cX10_go 105 = .ok (.invokestatic 59, 3) := by decide +kernel
theorem dX10_go_108 : decode cX10_go 108 = .ok (.invokevirtual 63, 3) := by decide +kernel
theorem dX10_go_111 : decode cX10_go 111 = .ok (.aload_n 0, 1) := by decide +kernel
theorem dX10_go_112 : decode cX10_go 112 = .ok (.dup, 1) := by decide +kernel
theorem dX10_go_113 : decode cX10_go 113 = .ok (.getfield 29, 3) := by decide +kernel
theorem dX10_go_116 : decode cX10_go 116 = .ok (.iload 4, 2) := by decide +kernel
theorem dX10_go_118 : decode cX10_go 118 = .ok (.invokestatic 67, 3) := by decide +kernel
theorem dX10_go_121 : decode cX10_go 121 = .ok (.ifCond .eq 7, 3) := by decide +kernel
theorem dX10_go_124 : decode cX10_go 124 = .ok (.iconst 1, 1) := by decide +kernel
theorem dX10_go_125 : decode cX10_go 125 = .ok (.goto 4, 3) := by decide +kernel
theorem dX10_go_128 : decode cX10_go 128 = .ok (.iconst (-1), 1) := by decide +kernel
theorem dX10_go_129 : decode cX10_go 129 = .ok (.iadd, 1) := by decide +kernel
theorem dX10_go_130 : decode cX10_go 130 = .ok (.putfield 29, 3) := by decide +kernel
theorem dX10_go_133 : decode cX10_go 133 = .ok (.aload_n 0, 1) := by decide +kernel
theorem dX10_go_134 : decode cX10_go 134 = .ok (.iload 4, 2) := by decide +kernel
theorem dX10_go_136 : decode cX10_go 136 = .ok (.invokestatic 70, 3) := by decide +kernel
theorem dX10_go_139 : decode cX10_go 139 = .ok (.putfield 32, 3) := by decide +kernel
theorem dX10_go_142 : decode cX10_go 142 = .ok (.aload_n 0, 1) := by decide +kernel
theorem dX10_go_143 : decode cX10_go 143 = .ok (.dup, 1) := by decide +kernel
theorem dX10_go_144 : decode cX10_go 144 = .ok (.getfield 38, 3) := by decide +kernel
theorem dX10_go_147 : decode cX10_go 147 = .ok (.iconst 1, 1) := by decide +kernel
theorem dX10_go_148 : decode cX10_go 148 = .ok (.iadd, 1) := by decide +kernel
theorem dX10_go_149 : decode cX10_go 149 = .ok (.putfield 38, 3) := by decide +kernel
theorem dX10_go_152 : decode cX10_go 152 = .ok (.goto (-119), 3) := by decide +kernel
theorem dX10_go_155 : decode cX10_go 155 = .ok (.return_, 1) := by decide +kernel
theorem dX10_saidAs_0 : decode cX10_saidAs 0 = .ok (.aload_n 0, 1) := by decide +kernel
theorem dX10_saidAs_1 : decode cX10_saidAs 1 = .ok (.getfield 25, 3) := by decide +kernel
theorem dX10_saidAs_4 : decode cX10_saidAs 4 = .ok (.aload_n 1, 1) := by decide +kernel
theorem dX10_saidAs_5 : decode cX10_saidAs 5 = .ok (.getfield 25, 3) := by decide +kernel
theorem dX10_saidAs_8 : decode cX10_saidAs 8 = .ok (.if_icmp .eq 5, 3) := by decide +kernel
theorem dX10_saidAs_11 : decode cX10_saidAs 11 = .ok (.iconst 0, 1) := by decide +kernel
theorem dX10_saidAs_12 : decode cX10_saidAs 12 = .ok (.ireturn, 1) := by decide +kernel
theorem dX10_saidAs_13 : decode cX10_saidAs 13 = .ok (.iconst 0, 1) := by decide +kernel
theorem dX10_saidAs_14 : decode cX10_saidAs 14 = .ok (.istore_n 2, 1) := by decide +kernel
theorem dX10_saidAs_15 : decode cX10_saidAs 15 = .ok (.iload_n 2, 1) := by decide +kernel
theorem dX10_saidAs_16 : decode cX10_saidAs 16 = .ok (.aload_n 0, 1) := by decide +kernel
theorem dX10_saidAs_17 : decode cX10_saidAs 17 = .ok (.getfield 25, 3) := by decide +kernel
theorem dX10_saidAs_20 : decode cX10_saidAs 20 = .ok (.if_icmp .ge 26, 3) := by decide +kernel
theorem dX10_saidAs_23 : decode cX10_saidAs 23 = .ok (.aload_n 0, 1) := by decide +kernel
theorem dX10_saidAs_24 : decode cX10_saidAs 24 = .ok (.getfield 15, 3) := by decide +kernel
theorem dX10_saidAs_27 : decode cX10_saidAs 27 = .ok (.iload_n 2, 1) := by decide +kernel
theorem dX10_saidAs_28 : decode cX10_saidAs 28 = .ok (.iaload, 1) := by decide +kernel
theorem dX10_saidAs_29 : decode cX10_saidAs 29 = .ok (.aload_n 1, 1) := by decide +kernel
theorem dX10_saidAs_30 : decode cX10_saidAs 30 = .ok (.getfield 15, 3) := by decide +kernel
theorem dX10_saidAs_33 : decode cX10_saidAs 33 = .ok (.iload_n 2, 1) := by decide +kernel
theorem dX10_saidAs_34 : decode cX10_saidAs 34 = .ok (.iaload, 1) := by decide +kernel
theorem dX10_saidAs_35 : decode cX10_saidAs 35 = .ok (.if_icmp .eq 5, 3) := by decide +kernel
theorem dX10_saidAs_38 : decode cX10_saidAs 38 = .ok (.iconst 0, 1) := by decide +kernel
theorem dX10_saidAs_39 : decode cX10_saidAs 39 = .ok (.ireturn, 1) := by decide +kernel
theorem dX10_saidAs_40 : decode cX10_saidAs 40 = .ok (.iinc 2 1, 3) := by decide +kernel
theorem dX10_saidAs_43 : decode cX10_saidAs 43 = .ok (.goto (-28), 3) := by decide +kernel
theorem dX10_saidAs_46 : decode cX10_saidAs 46 = .ok (.iconst 1, 1) := by decide +kernel
theorem dX10_saidAs_47 : decode cX10_saidAs 47 = .ok (.ireturn, 1) := by decide +kernel
theorem dX10_wasHere_0 : decode cX10_wasHere 0 = .ok (.aload_n 0, 1) := by decide +kernel
theorem dX10_wasHere_1 : decode cX10_wasHere 1 = .ok (.getfield 32, 3) := by decide +kernel
theorem dX10_wasHere_4 : decode cX10_wasHere 4 = .ok (.ifCond .lt 11, 3) := by decide +kernel
theorem dX10_wasHere_7 : decode cX10_wasHere 7 = .ok (.aload_n 0, 1) := by decide +kernel
theorem dX10_wasHere_8 : decode cX10_wasHere 8 = .ok (.getfield 32, 3) := by decide +kernel
theorem dX10_wasHere_11 : decode cX10_wasHere 11 = .ok (.iconst 5, 1) := by decide +kernel
