theorem dX12_kindOf_23 : decode cX12_kindOf 23 = .ok (.iinc 3 1, 3) := by decide +kernel
theorem dX12_kindOf_26 : decode cX12_kindOf 26 = .ok (.goto (-24), 3) := by decide +kernel
theorem dX12_kindOf_29 : decode cX12_kindOf 29 = .ok (.iconst (-1), 1) := by decide +kernel
theorem dX12_kindOf_30 : decode cX12_kindOf 30 = .ok (.ireturn, 1) := by decide +kernel
theorem dX12_addKind_0 : decode cX12_addKind 0 = .ok (.aload_n 0, 1) := by decide +kernel
theorem dX12_addKind_1 : decode cX12_addKind 1 = .ok (.getfield 56, 3) := by decide +kernel
theorem dX12_addKind_4 : decode cX12_addKind 4 = .ok (.aload_n 0, 1) := by decide +kernel
theorem dX12_addKind_5 : decode cX12_addKind 5 = .ok (.getfield 234, 3) := by decide +kernel
theorem dX12_addKind_8 : decode cX12_addKind 8 = .ok (.lload_n 1, 1) := by decide +kernel
theorem dX12_addKind_9 : decode cX12_addKind 9 = .ok (.lastore, 1) := by decide +kernel
theorem dX12_addKind_10 : decode cX12_addKind 10 = .ok (.aload_n 0, 1) := by decide +kernel
theorem dX12_addKind_11 : decode cX12_addKind 11 = .ok (.getfield 60, 3) := by decide +kernel
theorem dX12_addKind_14 : decode cX12_addKind 14 = .ok (.aload_n 0, 1) := by decide +kernel
theorem dX12_addKind_15 : decode cX12_addKind 15 = .ok (.getfield 234, 3) := by decide +kernel
theorem dX12_addKind_18 : decode cX12_addKind 18 = .ok (.iload_n 3, 1) := by decide +kernel
theorem dX12_addKind_19 : decode cX12_addKind 19 = .ok (.iastore, 1) := by decide +kernel
theorem dX12_addKind_20 : decode cX12_addKind 20 = .ok (.aload_n 0, 1) := by decide +kernel
theorem dX12_addKind_21 : decode cX12_addKind 21 = .ok (.getfield 63, 3) := by decide +kernel
theorem dX12_addKind_24 : decode cX12_addKind 24 = .ok (.aload_n 0, 1) := by decide +kernel
theorem dX12_addKind_25 : decode cX12_addKind 25 = .ok (.getfield 234, 3) := by decide +kernel
theorem dX12_addKind_28 : decode cX12_addKind 28 = .ok (.iload 4, 2) := by decide +kernel
theorem dX12_addKind_30 : decode cX12_addKind 30 = .ok (.iastore, 1) := by decide +kernel
theorem dX12_addKind_31 : decode cX12_addKind 31 = .ok (.aload_n 0, 1) := by decide +kernel
theorem dX12_addKind_32 : decode cX12_addKind 32 = .ok (.dup, 1) := by decide +kernel
theorem dX12_addKind_33 : decode cX12_addKind 33 = .ok (.getfield 234, 3) := by decide +kernel
theorem dX12_addKind_36 : decode cX12_addKind 36 = .ok (.iconst 1, 1) := by decide +kernel
theorem dX12_addKind_37 : decode cX12_addKind 37 = .ok (.iadd, 1) := by decide +kernel
theorem dX12_addKind_38 : decode cX12_addKind 38 = .ok (.putfield 234, 3) := by decide +kernel
theorem dX12_addKind_41 : decode cX12_addKind 41 = .ok (.return_, 1) := by decide +kernel
set_option maxRecDepth 20000 in
theorem ggX12_layTables_X12_letterTable : GoodIn wsX12_layTables wsX12_letterTable := goodIn_r _ [7, 8, 9, 10, 11, 12, 13, 6, 14, 37, 38, 39, 40, 41, 42, 43, 44, 45, 46, 47, 48, 49, 50, 51, 52, 53, 54, 55, 56, 57, 58, 59, 60, 61, 62, 63, 64, 65, 66, 67, 68, 69, 70, 71, 72, 73, 74, 75, 76, 77, 78, 79] rfl (by decide +kernel)
set_option maxRecDepth 20000 in
theorem gX12_layTables_X12_letterTable : GoodIn wsX12_layTables (wsV RX12 222 RX12 yX12_letterTable wsX12_letterTable) := goodIn_app (goodIn_of _ (by decide +kernel)) ggX12_layTables_X12_letterTable
set_option maxRecDepth 20000 in
theorem ggX12_layTables_X12_kindOf : GoodIn wsX12_layTables wsX12_kindOf := goodIn_r _ [18, 1, 2, 37, 38, 39, 40, 41, 42, 43, 44, 45, 46, 47, 48, 49, 50, 51, 52, 53, 54, 55, 56, 57, 58, 59, 60, 61, 62, 63, 64, 65, 66, 67, 68, 69, 70, 71, 72, 73, 74, 75, 76, 77, 78, 79] rfl (by decide +kernel)
set_option maxRecDepth 20000 in
theorem gX12_layTables_X12_kindOf : GoodIn wsX12_layTables (wsV RX12 237 RX12 yX12_kindOf wsX12_kindOf) := goodIn_app (goodIn_of _ (by decide +kernel)) ggX12_layTables_X12_kindOf
set_option maxRecDepth 20000 in
theorem ggX12_layTables_X12_addKind : GoodIn wsX12_layTables wsX12_addKind := goodIn_r _ [22, 2, 1, 23, 24, 37, 38, 39, 40, 41, 42, 43, 44, 45, 46, 47, 48, 49, 50, 51, 52, 53, 54, 55, 56, 57, 58, 59, 60, 61, 62, 63, 64, 65, 66, 67, 68, 69, 70, 71, 72, 73, 74, 75, 76, 77, 78, 79] rfl (by decide +kernel)
set_option maxRecDepth 20000 in
theorem gX12_layTables_X12_addKind : GoodIn wsX12_layTables (wsV RX12 241 RX12 yX12_addKind wsX12_addKind) := goodIn_app (goodIn_of _ (by decide +kernel)) ggX12_layTables_X12_addKind
set_option maxRecDepth 20000 in
theorem ggX12_layTables_X12_join : GoodIn wsX12_layTables wsX12_join := goodIn_r _ [28, 8, 29, 30, 31, 6, 32, 33, 34, 35, 36, 37, 38, 39, 40, 41, 42, 43, 44, 45, 46, 47, 48, 49, 50, 51, 52, 53, 54, 55, 56, 57, 58, 59, 60, 61, 62, 63, 64, 65, 66, 67, 68, 69, 70, 71, 72, 73, 74, 75, 76, 77, 78, 79] rfl (by decide +kernel)
set_option maxRecDepth 20000 in
theorem gX12_layTables_X12_join : GoodIn wsX12_layTables (wsV RX12 226 RX12 yX12_join wsX12_join) := goodIn_app (goodIn_of _ (by decide +kernel)) ggX12_layTables_X12_join
theorem dX12_layTables_0 : decode cX12_layTables 0 = .ok (.aload_n 0, 1) := by decide +kernel
theorem dX12_layTables_1 : decode cX12_layTables 1 = .ok (.iconst 0, 1) := by decide +kernel
theorem dX12_layTables_2 : decode cX12_layTables 2 = .ok (.putfield 234, 3) := by decide +kernel
theorem dX12_layTables_5 : decode cX12_layTables 5 = .ok (.iconst 0, 1) := by decide +kernel
theorem dX12_layTables_6 : decode cX12_layTables 6 = .ok (.istore_n 2, 1) := by decide +kernel
theorem dX12_layTables_7 : decode cX12_layTables 7 = .ok (.iload_n 2, 1) := by decide +kernel
theorem dX12_layTables_8 : decode cX12_layTables 8 = .ok (.iconst 3, 1) := by decide +kernel
theorem dX12_layTables_9 : decode cX12_layTables 9 = .ok (.if_icmp .ge 35, 3) := by decide +kernel
theorem dX12_layTables_12 : decode cX12_layTables 12 = .ok (.aload_n 0, 1) := by decide +kernel
theorem dX12_layTables_13 : decode cX12_layTables 13 = .ok (.aload_n 0, 1) := by decide +kernel
theorem dX12_layTables_14 : decode cX12_layTables 14 = .ok (.iload_n 1, 1) := by decide +kernel
theorem dX12_layTables_15 : decode cX12_layTables 15 = .ok (.iload_n 2, 1) := by decide +kernel
theorem dX12_layTables_16 : decode cX12_layTables 16 = .ok (.invokevirtual 222, 3) := by decide +kernel
theorem dX12_layTables_19 : decode cX12_layTables 19 = .ok (.invokevirtual 237, 3) := by decide +kernel
theorem dX12_layTables_22 : decode cX12_layTables 22 = .ok (.iconst (-1), 1) := by decide +kernel
theorem dX12_layTables_23 : decode cX12_layTables 23 = .ok (.if_icmp .ne 15, 3) := by decide +kernel
theorem dX12_layTables_26 : decode cX12_layTables 26 = .ok (.aload_n 0, 1) := by decide +kernel
theorem dX12_layTables_27 : decode cX12_layTables 27 = .ok (.aload_n 0, 1) := by decide +kernel
theorem dX12_layTables_28 : decode cX12_layTables 28 = .ok (.iload_n 1, 1) := by decide +kernel
theorem dX12_layTables_29 : decode cX12_layTables 29 = .ok (.iload_n 2, 1) := by decide +kernel
theorem dX12_layTables_30 : decode cX12_layTables 30 = .ok (.invokevirtual 222, 3) := by decide +kernel
theorem dX12_layTables_33 : decode cX12_layTables 33 = .ok (.iconst (-1), 1) := by decide +kernel
theorem dX12_layTables_34 : decode cX12_layTables 34 = .ok (.iload_n 2, 1) := by decide +kernel
theorem dX12_layTables_35 : decode cX12_layTables 35 = .ok (.invokevirtual 241, 3) := by decide +kernel
theorem dX12_layTables_38 : decode cX12_layTables 38 = .ok (.iinc 2 1, 3) := by decide +kernel
theorem dX12_layTables_41 : decode cX12_layTables 41 = .ok (.goto (-34), 3) := by decide +kernel
theorem dX12_layTables_44 : decode cX12_layTables 44 = .ok (.iconst 0, 1) := by decide +kernel
theorem dX12_layTables_45 : decode cX12_layTables 45 = .ok (.istore_n 2, 1) := by decide +kernel
theorem dX12_layTables_46 : decode cX12_layTables 46 = .ok (.iload_n 2, 1) := by decide +kernel
theorem dX12_layTables_47 : decode cX12_layTables 47 = .ok (.aload_n 0, 1) := by decide +kernel
theorem dX12_layTables_48 : decode cX12_layTables 48 = .ok (.getfield 234, 3) := by decide +kernel
theorem dX12_layTables_51 : decode cX12_layTables 51 = .ok (.if_icmp .ge 71, 3) := by decide +kernel
theorem dX12_layTables_54 : decode cX12_layTables 54 = .ok (.iconst 0, 1) := by decide +kernel
theorem dX12_layTables_55 : decode cX12_layTables 55 = .ok (.istore_n 3, 1) := by decide +kernel
theorem dX12_layTables_56 : decode cX12_layTables 56 = .ok (.iload_n 3, 1) := by decide +kernel
theorem dX12_layTables_57 : decode cX12_layTables 57 = .ok (.iconst 3, 1) := by decide +kernel
theorem dX12_layTables_58 : decode cX12_layTables 58 = .ok (.if_icmp .ge 58, 3) := by decide +kernel
theorem dX12_layTables_61 : decode cX12_layTables 61 = .ok (.aload_n 0, 1) := by decide +kernel
theorem dX12_layTables_62 : decode cX12_layTables 62 = .ok (.iload_n 1, 1) := by decide +kernel
theorem dX12_layTables_63 : decode cX12_layTables 63 = .ok (.aload_n 0, 1) := by decide +kernel
theorem dX12_layTables_64 : decode cX12_layTables 64 = .ok (.getfield 56, 3) := by decide +kernel
theorem dX12_layTables_67 : decode cX12_layTables 67 = .ok (.iload_n 2, 1) := by decide +kernel
theorem dX12_layTables_68 : decode cX12_layTables 68 = .ok (.laload, 1) := by decide +kernel
theorem dX12_layTables_69 : decode cX12_layTables 69 = .ok (.aload_n 0, 1) := by decide +kernel
theorem dX12_layTables_70 : decode cX12_layTables 70 = .ok (.iload_n 1, 1) := by decide +kernel
theorem dX12_layTables_71 : decode cX12_layTables 71 = .ok (.iload_n 3, 1) := by decide +kernel
theorem dX12_layTables_72 : decode cX12_layTables 72 = .ok (.invokevirtual 222, 3) := by decide +kernel
theorem dX12_layTables_75 : decode cX12_layTables 75 = .ok (.invokevirtual 226, 3) := by decide +kernel
theorem dX12_layTables_78 : decode cX12_layTables 78 = .ok (.lstore 4, 2) := by decide +kernel
theorem dX12_layTables_80 : decode cX12_layTables 80 = .ok (.aload_n 0, 1) := by decide +kernel
theorem dX12_layTables_81 : decode cX12_layTables 81 = .ok (.lload 4, 2) := by decide +kernel
theorem dX12_layTables_83 : decode cX12_layTables 83 = .ok (.invokevirtual 237, 3) := by decide +kernel
theorem dX12_layTables_86 : decode cX12_layTables 86 = .ok (.iconst (-1), 1) := by decide +kernel
theorem dX12_layTables_87 : decode cX12_layTables 87 = .ok (.if_icmp .ne 23, 3) := by decide +kernel
theorem dX12_layTables_90 : decode cX12_layTables 90 = .ok (.aload_n 0, 1) := by decide +kernel
theorem dX12_layTables_91 : decode cX12_layTables 91 = .ok (.getfield 234, 3) := by decide +kernel
theorem dX12_layTables_94 : decode cX12_layTables 94 = .ok (.sipush 800, 3) := by decide +kernel
theorem dX12_layTables_97 : decode cX12_layTables 97 = .ok (.if_icmp .ne 5, 3) := by decide +kernel
theorem dX12_layTables_100 : decode cX12_layTables 100 = .ok (.iconst 0, 1) := by decide +kernel
theorem dX12_layTables_101 : decode cX12_layTables 101 = .ok (.ireturn, 1) := by decide +kernel
theorem dX12_layTables_102 : decode cX12_layTables 102 = .ok (.aload_n 0, 1) := by decide +kernel
theorem dX12_layTables_103 : decode cX12_layTables 103 = .ok (.lload 4, 2) := by decide +kernel
theorem dX12_layTables_105 : decode cX12_layTables 105 = .ok (.iload_n 2, 1) := by decide +kernel
theorem dX12_layTables_106 : decode cX12_layTables 106 = .ok (.iload_n 3, 1) := by decide +kernel
theorem dX12_layTables_107 : decode cX12_layTables 107 = .ok (.invokevirtual 241, 3) := by decide +kernel
theorem dX12_layTables_110 : decode cX12_layTables 110 = .ok (.iinc 3 1, 3) := by decide +kernel
theorem dX12_layTables_113 : decode cX12_layTables 113 = .ok (.goto (-57), 3) := by decide +kernel
theorem dX12_layTables_116 : decode cX12_layTables 116 = .ok (.iinc 2 1, 3) := by decide +kernel
theorem dX12_layTables_119 : decode cX12_layTables 119 = .ok (.goto (-73), 3) := by decide +kernel
theorem dX12_layTables_122 : decode cX12_layTables 122 = .ok (.iconst 1, 1) := by decide +kernel
theorem dX12_layTables_123 : decode cX12_layTables 123 = .ok (.ireturn, 1) := by decide +kernel
theorem dX12_wayTo_0 : decode cX12_wayTo 0 = .ok (.iconst 0, 1) := by decide +kernel
theorem dX12_wayTo_1 : decode cX12_wayTo 1 = .ok (.istore 4, 2) := by decide +kernel
theorem dX12_wayTo_3 : decode cX12_wayTo 3 = .ok (.iload_n 1, 1) := by decide +kernel
theorem dX12_wayTo_4 : decode cX12_wayTo 4 = .ok (.istore 5, 2) := by decide +kernel
theorem dX12_wayTo_6 : decode cX12_wayTo 6 = .ok (.iload 5, 2) := by decide +kernel
theorem dX12_wayTo_8 : decode cX12_wayTo 8 = .ok (.iload_n 3, 1) := by decide +kernel
theorem dX12_wayTo_9 : decode cX12_wayTo 9 = .ok (.if_icmp .eq 18, 3) := by decide +kernel
theorem dX12_wayTo_12 : decode cX12_wayTo 12 = .ok (.iinc 4 1, 3) := by decide +kernel
theorem dX12_wayTo_15 : decode cX12_wayTo 15 = .ok (.aload_n 0, 1) := by decide +kernel
theorem dX12_wayTo_16 : decode cX12_wayTo 16 = .ok (.getfield 60, 3) := by decide +kernel
theorem dX12_wayTo_19 : decode cX12_wayTo 19 = .ok (.iload 5, 2) := by decide +kernel
theorem dX12_wayTo_21 : decode cX12_wayTo 21 = .ok (.iaload, 1) := by decide +kernel
theorem dX12_wayTo_22 : decode cX12_wayTo 22 = .ok (.istore 5, 2) := by decide +kernel
theorem dX12_wayTo_24 : decode cX12_wayTo 24 = .ok (.goto (-18), 3) := by decide +kernel
theorem dX12_wayTo_27 : decode cX12_wayTo 27 = .ok (.iload_n 2, 1) := by decide +kernel
theorem dX12_wayTo_28 : decode cX12_wayTo 28 = .ok (.iconst (-1), 1) := by decide +kernel
theorem dX12_wayTo_29 : decode cX12_wayTo 29 = .ok (.if_icmp .ne 6, 3) := by decide +kernel
theorem dX12_wayTo_32 : decode cX12_wayTo 32 = .ok (.iload 4, 2) := by decide +kernel
theorem dX12_wayTo_34 : decode cX12_wayTo 34 = .ok (.ireturn, 1) := by decide +kernel
theorem dX12_wayTo_35 : decode cX12_wayTo 35 = .ok (.iload_n 1, 1) := by decide +kernel
theorem dX12_wayTo_36 : decode cX12_wayTo 36 = .ok (.istore 5, 2) := by decide +kernel
theorem dX12_wayTo_38 : decode cX12_wayTo 38 = .ok (.iload 4, 2) := by decide +kernel
theorem dX12_wayTo_40 : decode cX12_wayTo 40 = .ok (.iconst 1, 1) := by decide +kernel
theorem dX12_wayTo_41 : decode cX12_wayTo 41 = .ok (.isub, 1) := by decide +kernel
theorem dX12_wayTo_42 : decode cX12_wayTo 42 = .ok (.istore 6, 2) := by decide +kernel
theorem dX12_wayTo_44 : decode cX12_wayTo 44 = .ok (.iload 6, 2) := by decide +kernel
theorem dX12_wayTo_46 : decode cX12_wayTo 46 = .ok (.iload_n 2, 1) := by decide +kernel
theorem dX12_wayTo_47 : decode cX12_wayTo 47 = .ok (.if_icmp .le 18, 3) := by decide +kernel
theorem dX12_wayTo_50 : decode cX12_wayTo 50 = .ok (.aload_n 0, 1) := by decide +kernel
theorem dX12_wayTo_51 : decode cX12_wayTo 51 = .ok (.getfield 60, 3) := by decide +kernel
theorem dX12_wayTo_54 : decode cX12_wayTo 54 = .ok (.iload 5, 2) := by decide +kernel
theorem dX12_wayTo_56 : decode cX12_wayTo 56 = .ok (.iaload, 1) := by decide +kernel
theorem dX12_wayTo_57 : decode cX12_wayTo 57 = .ok (.istore 5, 2) := by decide +kernel
theorem dX12_wayTo_59 : decode cX12_wayTo 59 = .ok (.iinc 6 (-1), 3) := by decide +kernel
theorem dX12_wayTo_62 : decode cX12_wayTo 62 = .ok (.goto (-18), 3) := by decide +kernel
theorem dX12_wayTo_65 : decode cX12_wayTo 65 = .ok (.iload_n 2, 1) := by decide +kernel
theorem dX12_wayTo_66 : decode cX12_wayTo 66 = .ok (.iload 4, 2) := by decide +kernel
theorem dX12_wayTo_68 : decode cX12_wayTo 68 = .ok (.if_icmp .ge 13, 3) := by decide +kernel
theorem dX12_wayTo_71 : decode cX12_wayTo 71 = .ok (.aload_n 0, 1) := by decide +kernel
theorem dX12_wayTo_72 : decode cX12_wayTo 72 = .ok (.getfield 63, 3) := by decide +kernel
theorem dX12_wayTo_75 : decode cX12_wayTo 75 = .ok (.iload 5, 2) := by decide +kernel
theorem dX12_wayTo_77 : decode cX12_wayTo 77 = .ok (.iaload, 1) := by decide +kernel
theorem dX12_wayTo_78 : decode cX12_wayTo 78 = .ok (.goto 4, 3) := by decide +kernel
theorem dX12_wayTo_81 : decode cX12_wayTo 81 = .ok (.iconst (-1), 1) := by decide +kernel
theorem dX12_wayTo_82 : decode cX12_wayTo 82 = .ok (.ireturn, 1) := by decide +kernel
set_option maxRecDepth 20000 in
theorem ggX12_like_X12_isReader : GoodIn wsX12_like wsX12_isReader := goodIn_r _ [5, 6, 7, 4, 8] rfl (by decide +kernel)
set_option maxRecDepth 20000 in
theorem gX12_like_X12_isReader : GoodIn wsX12_like (va_wsS RX12 106 yX12_isReader wsX12_isReader) := goodIn_app (goodIn_of _ (by decide +kernel)) ggX12_like_X12_isReader
set_option maxRecDepth 20000 in
theorem ggX12_like_X12_layTables : GoodIn wsX12_like wsX12_layTables := goodIn_r _ [12, 13, 14, 15, 16, 17, 4, 18, 19, 20, 21, 22, 23, 24, 25, 26, 27, 28, 29, 30, 31, 32, 33, 34, 35, 36, 37, 38, 39, 40, 41, 42, 43, 44, 45, 46, 47, 57, 58, 59, 60, 61, 62, 63, 64, 65, 66, 67, 68, 69, 70, 71, 72, 73, 74, 75, 76, 77, 78, 79, 80, 81, 82, 83, 84, 85, 86, 87, 88, 89, 90, 91, 92, 93, 94, 95, 96, 97, 98, 99] rfl (by decide +kernel)
set_option maxRecDepth 20000 in
theorem gX12_like_X12_layTables : GoodIn wsX12_like (wsV RX12 245 RX12 yX12_layTables wsX12_layTables) := goodIn_app (goodIn_of _ (by decide +kernel)) ggX12_like_X12_layTables
set_option maxRecDepth 20000 in
theorem ggX12_like_X12_rowTable : GoodIn wsX12_like wsX12_rowTable := goodIn_r _ [51, 52, 1, 15, 16, 17, 4, 18, 19, 20, 21, 22, 23, 24, 25, 36, 37, 38, 39, 40, 41, 42, 43, 44, 45, 46, 47, 57, 58, 59, 60, 61, 62, 63, 64, 65, 66, 67, 68, 69, 70, 71, 72, 73, 74, 75, 76, 77, 78, 79, 80, 81, 82, 83, 84, 85, 86, 87, 88, 89, 90, 91, 92, 93, 94, 95, 96, 97, 98, 99] rfl (by decide +kernel)
set_option maxRecDepth 20000 in
theorem gX12_like_X12_rowTable : GoodIn wsX12_like (wsV RX12 230 RX12 yX12_rowTable wsX12_rowTable) := goodIn_app (goodIn_of _ (by decide +kernel)) ggX12_like_X12_rowTable
set_option maxRecDepth 20000 in
theorem ggX12_like_X12_kindOf : GoodIn wsX12_like wsX12_kindOf := goodIn_r _ [29, 13, 14, 57, 58, 59, 60, 61, 62, 63, 64, 65, 66, 67, 68, 69, 70, 71, 72, 73, 74, 75, 76, 77, 78, 79, 80, 81, 82, 83, 84, 85, 86, 87, 88, 89, 90, 91, 92, 93, 94, 95, 96, 97, 98, 99] rfl (by decide +kernel)
set_option maxRecDepth 20000 in
theorem gX12_like_X12_kindOf : GoodIn wsX12_like (wsV RX12 237 RX12 yX12_kindOf wsX12_kindOf) := goodIn_app (goodIn_of _ (by decide +kernel)) ggX12_like_X12_kindOf
set_option maxRecDepth 20000 in
theorem ggX12_like_X12_wayTo : GoodIn wsX12_like wsX12_wayTo := goodIn_r _ [56, 34, 35, 57, 58, 59, 60, 61, 62, 63, 64, 65, 66, 67, 68, 69, 70, 71, 72, 73, 74, 75, 76, 77, 78, 79, 80, 81, 82, 83, 84, 85, 86, 87, 88, 89, 90, 91, 92, 93, 94, 95, 96, 97, 98, 99] rfl (by decide +kernel)
set_option maxRecDepth 20000 in
theorem gX12_like_X12_wayTo : GoodIn wsX12_like (wsV RX12 248 RX12 yX12_wayTo wsX12_wayTo) := goodIn_app (goodIn_of _ (by decide +kernel)) ggX12_like_X12_wayTo
theorem dX12_like_0 : decode cX12_like 0 = .ok (.iload_n 1, 1) := by decide +kernel
theorem dX12_like_1 : decode cX12_like 1 = .ok (.invokestatic 106, 3) := by decide +kernel
theorem dX12_like_4 : decode cX12_like 4 = .ok (.ifCond .ne 6, 3) := by decide +kernel
theorem dX12_like_7 : decode cX12_like 7 = .ok (.bipush (-2), 2) := by decide +kernel
theorem dX12_like_9 : decode cX12_like 9 = .ok (.ireturn, 1) := by decide +kernel
theorem dX12_like_10 : decode cX12_like 10 = .ok (.iload_n 2, 1) := by decide +kernel
theorem dX12_like_11 : decode cX12_like 11 = .ok (.iconst (-1), 1) := by decide +kernel
theorem dX12_like_12 : decode cX12_like 12 = .ok (.if_icmp .ge 6, 3) := by decide +kernel
theorem dX12_like_15 : decode cX12_like 15 = .ok (.bipush (-3), 2) := by decide +kernel
theorem dX12_like_17 : decode cX12_like 17 = .ok (.ireturn, 1) := by decide +kernel
theorem dX12_like_18 : decode cX12_like 18 = .ok (.aload_n 0, 1) := by decide +kernel
theorem dX12_like_19 : decode cX12_like 19 = .ok (.getfield 178, 3) := by decide +kernel
theorem dX12_like_22 : decode cX12_like 22 = .ok (.ifCond .ne 6, 3) := by decide +kernel
theorem dX12_like_25 : decode cX12_like 25 = .ok (.bipush (-4), 2) := by decide +kernel
theorem dX12_like_27 : decode cX12_like 27 = .ok (.ireturn, 1) := by decide +kernel
theorem dX12_like_28 : decode cX12_like 28 = .ok (.aload_n 0, 1) := by decide +kernel
theorem dX12_like_29 : decode cX12_like 29 = .ok (.iload_n 1, 1) := by decide +kernel
theorem dX12_like_30 : decode cX12_like 30 = .ok (.invokevirtual 245, 3) := by decide +kernel
theorem dX12_like_33 : decode cX12_like 33 = .ok (.ifCond .eq 21, 3) := by decide +kernel
theorem dX12_like_36 : decode cX12_like 36 = .ok (.aload_n 0, 1) := by decide +kernel
theorem dX12_like_37 : decode cX12_like 37 = .ok (.aload_n 0, 1) := by decide +kernel
theorem dX12_like_38 : decode cX12_like 38 = .ok (.aload_n 0, 1) := by decide +kernel
theorem dX12_like_39 : decode cX12_like 39 = .ok (.iload_n 1, 1) := by decide +kernel
theorem dX12_like_40 : decode cX12_like 40 = .ok (.invokevirtual 230, 3) := by decide +kernel
theorem dX12_like_43 : decode cX12_like 43 = .ok (.invokevirtual 237, 3) := by decide +kernel
theorem dX12_like_46 : decode cX12_like 46 = .ok (.iload_n 2, 1) := by decide +kernel
theorem dX12_like_47 : decode cX12_like 47 = .ok (.iconst (-1), 1) := by decide +kernel
theorem dX12_like_48 : decode cX12_like 48 = .ok (.invokevirtual 248, 3) := by decide +kernel
theorem dX12_like_51 : decode cX12_like 51 = .ok (.goto 5, 3) := by decide +kernel
theorem dX12_like_54 : decode cX12_like 54 = .ok (.bipush (-6), 2) := by decide +kernel
theorem dX12_like_56 : decode cX12_like 56 = .ok (.ireturn, 1) := by decide +kernel
set_option maxRecDepth 20000 in
theorem ggX12_kinds_X12_isReader : GoodIn wsX12_kinds wsX12_isReader := goodIn_r _ [5, 6, 7, 4, 8] rfl (by decide +kernel)
set_option maxRecDepth 20000 in
theorem gX12_kinds_X12_isReader : GoodIn wsX12_kinds (va_wsS RX12 106 yX12_isReader wsX12_isReader) := goodIn_app (goodIn_of _ (by decide +kernel)) ggX12_kinds_X12_isReader
set_option maxRecDepth 20000 in
theorem ggX12_kinds_X12_layTables : GoodIn wsX12_kinds wsX12_layTables := goodIn_r _ [12, 1, 13, 14, 15, 16, 4, 17, 18, 19, 20, 21, 22, 23, 24, 25, 26, 27, 28, 29, 30, 31, 32, 33, 34, 35, 36, 37, 38, 39, 40, 41, 42, 43, 44, 45, 46, 47, 48, 49, 50, 51, 52, 53, 54, 55, 56, 57, 58, 59, 60, 61, 62, 63, 64, 65, 66, 67, 68, 69, 70, 71, 72, 73, 74, 75, 76, 77, 78, 79, 80, 81, 82, 83, 84, 85, 86, 87, 88, 89] rfl (by decide +kernel)
set_option maxRecDepth 20000 in
theorem gX12_kinds_X12_layTables : GoodIn wsX12_kinds (wsV RX12 245 RX12 yX12_layTables wsX12_layTables) := goodIn_app (goodIn_of _ (by decide +kernel)) ggX12_kinds_X12_layTables
theorem dX12_kinds_0 : decode cX12_kinds 0 = .ok (.iload_n 1, 1) := by decide +kernel
theorem dX12_kinds_1 : decode cX12_kinds 1 = .ok (.invokestatic 106, 3) := by decide +kernel
theorem dX12_kinds_4 : decode cX12_kinds 4 = .ok (.ifCond .ne 8, 3) := by decide +kernel
theorem dX12_kinds_7 : decode cX12_kinds 7 = .ok (.bipush (-2), 2) := by decide +kernel
theorem dX12_kinds_9 : decode cX12_kinds 9 = .ok (.goto 20, 3) := by decide +kernel
theorem dX12_kinds_12 : decode cX12_kinds 12 = .ok (.aload_n 0, 1) := by decide +kernel
theorem dX12_kinds_13 : decode cX12_kinds 13 = .ok (.iload_n 1, 1) := by decide +kernel
theorem dX12_kinds_14 : decode cX12_kinds 14 = .ok (.invokevirtual 245, 3) := by decide +kernel
theorem dX12_kinds_17 : decode cX12_kinds 17 = .ok (.ifCond .eq 10, 3) := by decide +kernel
theorem dX12_kinds_20 : decode cX12_kinds 20 = .ok (.aload_n 0, 1) := by decide +kernel
theorem dX12_kinds_21 : decode cX12_kinds 21 = .ok (.getfield 234, 3) := by decide +kernel
theorem dX12_kinds_24 : decode cX12_kinds 24 = .ok (.goto 5, 3) := by decide +kernel
theorem dX12_kinds_27 : decode cX12_kinds 27 = .ok (.bipush (-6), 2) := by decide +kernel
theorem dX12_kinds_29 : decode cX12_kinds 29 = .ok (.ireturn, 1) := by decide +kernel
theorem dX12_part_0 : decode cX12_part 0 = .ok (.lload_n 0, 1) := by decide +kernel
theorem dX12_part_1 : decode cX12_part 1 = .ok (.iconst 4, 1) := by decide +kernel
theorem dX12_part_2 : decode cX12_part 2 = .ok (.iload_n 2, 1) := by decide +kernel
theorem dX12_part_3 : decode cX12_part 3 = .ok (.imul, 1) := by decide +kernel
theorem dX12_part_4 : decode cX12_part 4 = .ok (.lshr, 1) := by decide +kernel
theorem dX12_part_5 : decode cX12_part 5 = .ok (.ldc2_w 210, 3) := by decide +kernel
theorem dX12_part_8 : decode cX12_part 8 = .ok (.land, 1) := by decide +kernel
theorem dX12_part_9 : decode cX12_part 9 = .ok (.l2i, 1) := by decide +kernel
theorem dX12_part_10 : decode cX12_part 10 = .ok (.ireturn, 1) := by decide +kernel
set_option maxRecDepth 20000 in
theorem ggX12_emptyBeginning_X12_at0 : GoodIn wsX12_emptyBeginning wsX12_at0 := goodIn_r _ [7] rfl (by decide +kernel)
set_option maxRecDepth 20000 in
theorem gX12_emptyBeginning_X12_at0 : GoodIn wsX12_emptyBeginning (va_wsS RX12 164 yX12_at0 wsX12_at0) := goodIn_app (goodIn_of _ (by decide +kernel)) ggX12_emptyBeginning_X12_at0
theorem dX12_emptyBeginning_0 : decode cX12_emptyBeginning 0 = .ok (.lconst 0, 1) := by decide +kernel
theorem dX12_emptyBeginning_1 : decode cX12_emptyBeginning 1 = .ok (.lstore_n 2, 1) := by decide +kernel
theorem dX12_emptyBeginning_2 : decode cX12_emptyBeginning 2 = .ok (.iconst 0, 1) := by decide +kernel
theorem dX12_emptyBeginning_3 : decode cX12_emptyBeginning 3 = .ok (.istore 4, 2) := by decide +kernel
theorem dX12_emptyBeginning_5 : decode cX12_emptyBeginning 5 = .ok (.iload 4, 2) := by decide +kernel
theorem dX12_emptyBeginning_7 : decode cX12_emptyBeginning 7 = .ok (.aload_n 0, 1) := by decide +kernel
theorem dX12_emptyBeginning_8 : decode cX12_emptyBeginning 8 = .ok (.getfield 7, 3) := by decide +kernel
theorem dX12_emptyBeginning_11 : decode cX12_emptyBeginning 11 = .ok (.iload_n 1, 1) := by decide +kernel
theorem dX12_emptyBeginning_12 : decode cX12_emptyBeginning 12 = .ok (.iaload, 1) := by decide +kernel
theorem dX12_emptyBeginning_13 : decode cX12_emptyBeginning 13 = .ok (.if_icmp .gt 61, 3) := by decide +kernel
theorem dX12_emptyBeginning_16 : decode cX12_emptyBeginning 16 = .ok (.iload 4, 2) := by decide +kernel
theorem dX12_emptyBeginning_18 : decode cX12_emptyBeginning 18 = .ok (.ifCond .ne 7, 3) := by decide +kernel
theorem dX12_emptyBeginning_21 : decode cX12_emptyBeginning 21 = .ok (.iconst 0, 1) := by decide +kernel
theorem dX12_emptyBeginning_22 : decode cX12_emptyBeginning 22 = .ok (.goto 7, 3) := by decide +kernel
theorem dX12_emptyBeginning_25 : decode cX12_emptyBeginning 25 = .ok (.iload 4, 2) := by decide +kernel
theorem dX12_emptyBeginning_27 : decode cX12_emptyBeginning 27 = .ok (.iconst 1, 1) := by decide +kernel
theorem dX12_emptyBeginning_28 : decode cX12_emptyBeginning 28 = .ok (.isub, 1) := by decide +kernel
theorem dX12_emptyBeginning_29 : decode cX12_emptyBeginning 29 = .ok (.istore 5, 2) := by decide +kernel
theorem dX12_emptyBeginning_31 : decode cX12_emptyBeginning 31 = .ok (.aload_n 0, 1) := by decide +kernel
theorem dX12_emptyBeginning_32 : decode cX12_emptyBeginning 32 = .ok (.getfield 16, 3) := by decide +kernel
theorem dX12_emptyBeginning_35 : decode cX12_emptyBeginning 35 = .ok (.iload_n 1, 1) := by decide +kernel
theorem dX12_emptyBeginning_36 : decode cX12_emptyBeginning 36 = .ok (.iload 5, 2) := by decide +kernel
theorem dX12_emptyBeginning_38 : decode cX12_emptyBeginning 38 = .ok (.iconst 3, 1) := by decide +kernel
theorem dX12_emptyBeginning_39 : decode cX12_emptyBeginning 39 = .ok (.invokestatic 164, 3) := by decide +kernel
theorem dX12_emptyBeginning_42 : decode cX12_emptyBeginning 42 = .ok (.iaload, 1) := by decide +kernel
theorem dX12_emptyBeginning_43 : decode cX12_emptyBeginning 43 = .ok (.istore 6, 2) := by decide +kernel
theorem dX12_emptyBeginning_45 : decode cX12_emptyBeginning 45 = .ok (.lload_n 2, 1) := by decide +kernel
theorem dX12_emptyBeginning_46 : decode cX12_emptyBeginning 46 = .ok (.iload 6, 2) := by decide +kernel
theorem dX12_emptyBeginning_48 : decode cX12_emptyBeginning 48 = .ok (.iconst (-1), 1) := by decide +kernel
theorem dX12_emptyBeginning_49 : decode cX12_emptyBeginning 49 = .ok (.if_icmp .ne 9, 3) := by decide +kernel
theorem dX12_emptyBeginning_52 : decode cX12_emptyBeginning 52 = .ok (.ldc2_w 212, 3) := by decide +kernel
theorem dX12_emptyBeginning_55 : decode cX12_emptyBeginning 55 = .ok (.goto 6, 3) := by decide +kernel
theorem dX12_emptyBeginning_58 : decode cX12_emptyBeginning 58 = .ok (.iload 6, 2) := by decide +kernel
theorem dX12_emptyBeginning_60 : decode cX12_emptyBeginning 60 = .ok (.i2l, 1) := by decide +kernel
theorem dX12_emptyBeginning_61 : decode cX12_emptyBeginning 61 = .ok (.iconst 4, 1) := by decide +kernel
theorem dX12_emptyBeginning_62 : decode cX12_emptyBeginning 62 = .ok (.iload 4, 2) := by decide +kernel
theorem dX12_emptyBeginning_64 : decode cX12_emptyBeginning 64 = .ok (.imul, 1) := by decide +kernel
theorem dX12_emptyBeginning_65 : decode cX12_emptyBeginning 65 = .ok (.lshl, 1) := by decide +kernel
theorem dX12_emptyBeginning_66 : decode cX12_emptyBeginning 66 = .ok (.lor, 1) := by decide +kernel
theorem dX12_emptyBeginning_67 : decode cX12_emptyBeginning 67 = .ok (.lstore_n 2, 1) := by decide +kernel
theorem dX12_emptyBeginning_68 : decode cX12_emptyBeginning 68 = .ok (.iinc 4 1, 3) := by decide +kernel
theorem dX12_emptyBeginning_71 : decode cX12_emptyBeginning 71 = .ok (.goto (-66), 3) := by decide +kernel
theorem dX12_emptyBeginning_74 : decode cX12_emptyBeginning 74 = .ok (.lload_n 2, 1) := by decide +kernel
theorem dX12_emptyBeginning_75 : decode cX12_emptyBeginning 75 = .ok (.lreturn, 1) := by decide +kernel
set_option maxRecDepth 20000 in
theorem ggX12_onWith_X12_at0 : GoodIn wsX12_onWith wsX12_at0 := goodIn_r _ [6] rfl (by decide +kernel)
set_option maxRecDepth 20000 in
theorem gX12_onWith_X12_at0 : GoodIn wsX12_onWith (va_wsS RX12 164 yX12_at0 wsX12_at0) := goodIn_app (goodIn_of _ (by decide +kernel)) ggX12_onWith_X12_at0
set_option maxRecDepth 20000 in
theorem ggX12_onWith_X12_part : GoodIn wsX12_onWith wsX12_part := goodIn_r _ [9, 10] rfl (by decide +kernel)
set_option maxRecDepth 20000 in
theorem gX12_onWith_X12_part : GoodIn wsX12_onWith (va_wsS RX12 251 yX12_part wsX12_part) := goodIn_app (goodIn_of _ (by decide +kernel)) ggX12_onWith_X12_part
theorem dX12_onWith_0 : decode cX12_onWith 0 = .ok (.iload 5, 2) := by decide +kernel
theorem dX12_onWith_2 : decode cX12_onWith 2 = .ok (.istore 6, 2) := by decide +kernel
theorem dX12_onWith_4 : decode cX12_onWith 4 = .ok (.iconst 0, 1) := by decide +kernel
theorem dX12_onWith_5 : decode cX12_onWith 5 = .ok (.istore 7, 2) := by decide +kernel
theorem dX12_onWith_7 : decode cX12_onWith 7 = .ok (.iload 7, 2) := by decide +kernel
theorem dX12_onWith_9 : decode cX12_onWith 9 = .ok (.bipush 24, 2) := by decide +kernel
theorem dX12_onWith_11 : decode cX12_onWith 11 = .ok (.if_icmp .ge 81, 3) := by decide +kernel
theorem dX12_onWith_14 : decode cX12_onWith 14 = .ok (.iload_n 1, 1) := by decide +kernel
theorem dX12_onWith_15 : decode cX12_onWith 15 = .ok (.iload 6, 2) := by decide +kernel
theorem dX12_onWith_17 : decode cX12_onWith 17 = .ok (.iload 4, 2) := by decide +kernel
theorem dX12_onWith_19 : decode cX12_onWith 19 = .ok (.invokestatic 164, 3) := by decide +kernel
theorem dX12_onWith_22 : decode cX12_onWith 22 = .ok (.istore 8, 2) := by decide +kernel
theorem dX12_onWith_24 : decode cX12_onWith 24 = .ok (.aload_n 0, 1) := by decide +kernel
theorem dX12_onWith_25 : decode cX12_onWith 25 = .ok (.getfield 16, 3) := by decide +kernel
theorem dX12_onWith_28 : decode cX12_onWith 28 = .ok (.iload 8, 2) := by decide +kernel
theorem dX12_onWith_30 : decode cX12_onWith 30 = .ok (.iaload, 1) := by decide +kernel
theorem dX12_onWith_31 : decode cX12_onWith 31 = .ok (.iconst (-1), 1) := by decide +kernel
theorem dX12_onWith_32 : decode cX12_onWith 32 = .ok (.if_icmp .ne 6, 3) := by decide +kernel
theorem dX12_onWith_35 : decode cX12_onWith 35 = .ok (.bipush 10, 2) := by decide +kernel
theorem dX12_onWith_37 : decode cX12_onWith 37 = .ok (.ireturn, 1) := by decide +kernel
theorem dX12_onWith_38 : decode cX12_onWith 38 = .ok (.aload_n 0, 1) := by decide +kernel
theorem dX12_onWith_39 : decode cX12_onWith 39 = .ok (.getfield 19, 3) := by decide +kernel
theorem dX12_onWith_42 : decode cX12_onWith 42 = .ok (.iload 8, 2) := by decide +kernel
theorem dX12_onWith_44 : decode cX12_onWith 44 = .ok (.iaload, 1) := by decide +kernel
theorem dX12_onWith_45 : decode cX12_onWith 45 = .ok (.iconst 1, 1) := by decide +kernel
theorem dX12_onWith_46 : decode cX12_onWith 46 = .ok (.if_icmp .ne 11, 3) := by decide +kernel
theorem dX12_onWith_49 : decode cX12_onWith 49 = .ok (.aload_n 0, 1) := by decide +kernel
theorem dX12_onWith_50 : decode cX12_onWith 50 = .ok (.getfield 16, 3) := by decide +kernel
theorem dX12_onWith_53 : decode cX12_onWith 53 = .ok (.iload 8, 2) := by decide +kernel
theorem dX12_onWith_55 : decode cX12_onWith 55 = .ok (.iaload, 1) := by decide +kernel
theorem dX12_onWith_56 : decode cX12_onWith 56 = .ok (.ireturn, 1) := by decide +kernel
theorem dX12_onWith_57 : decode cX12_onWith 57 = .ok (.lload_n 2, 1) := by decide +kernel
theorem dX12_onWith_58 : decode cX12_onWith 58 = .ok (.iconst 1, 1) := by decide +kernel
theorem dX12_onWith_59 : decode cX12_onWith 59 = .ok (.aload_n 0, 1) := by decide +kernel
theorem dX12_onWith_60 : decode cX12_onWith 60 = .ok (.getfield 16, 3) := by decide +kernel
theorem dX12_onWith_63 : decode cX12_onWith 63 = .ok (.iload 8, 2) := by decide +kernel
theorem dX12_onWith_65 : decode cX12_onWith 65 = .ok (.iaload, 1) := by decide +kernel
theorem dX12_onWith_66 : decode cX12_onWith 66 = .ok (.iadd, 1) := by decide +kernel
theorem dX12_onWith_67 : decode cX12_onWith 67 = .ok (.invokestatic 251, 3) := by decide +kernel
theorem dX12_onWith_70 : decode cX12_onWith 70 = .ok (.istore 9, 2) := by decide +kernel
theorem dX12_onWith_72 : decode cX12_onWith 72 = .ok (.iload 9, 2) := by decide +kernel
theorem dX12_onWith_74 : decode cX12_onWith 74 = .ok (.bipush 9, 2) := by decide +kernel
theorem dX12_onWith_76 : decode cX12_onWith 76 = .ok (.if_icmp .le 6, 3) := by decide +kernel
theorem dX12_onWith_79 : decode cX12_onWith 79 = .ok (.iload 9, 2) := by decide +kernel
theorem dX12_onWith_81 : decode cX12_onWith 81 = .ok (.ireturn, 1) := by decide +kernel
theorem dX12_onWith_82 : decode cX12_onWith 82 = .ok (.iload 9, 2) := by decide +kernel
theorem dX12_onWith_84 : decode cX12_onWith 84 = .ok (.istore 6, 2) := by decide +kernel
theorem dX12_onWith_86 : decode cX12_onWith 86 = .ok (.iinc 7 1, 3) := by decide +kernel
theorem dX12_onWith_89 : decode cX12_onWith 89 = .ok (.goto (-82), 3) := by decide +kernel
theorem dX12_onWith_92 : decode cX12_onWith 92 = .ok (.bipush 11, 2) := by decide +kernel
theorem dX12_onWith_94 : decode cX12_onWith 94 = .ok (.ireturn, 1) := by decide +kernel
set_option maxRecDepth 20000 in
theorem ggX12_longer_X12_part : GoodIn wsX12_longer wsX12_part := goodIn_r _ [5, 6] rfl (by decide +kernel)
set_option maxRecDepth 20000 in
theorem gX12_longer_X12_part : GoodIn wsX12_longer (va_wsS RX12 251 yX12_part wsX12_part) := goodIn_app (goodIn_of _ (by decide +kernel)) ggX12_longer_X12_part
set_option maxRecDepth 20000 in
theorem ggX12_longer_X12_onWith : GoodIn wsX12_longer wsX12_onWith := goodIn_r _ [10, 11, 12, 13, 14, 4, 15, 2, 3, 5, 6, 16, 17, 18, 19, 20, 21, 22, 23, 24, 25, 26, 27, 28, 29, 30, 31, 32, 33, 34, 35, 36, 37, 38, 39, 40, 41, 42, 43, 44, 45, 46, 47, 48, 49, 50, 51, 52, 53, 54, 55, 56, 57, 58] rfl (by decide +kernel)
set_option maxRecDepth 20000 in
theorem gX12_longer_X12_onWith : GoodIn wsX12_longer (wsV RX12 255 RX12 yX12_onWith wsX12_onWith) := goodIn_app (goodIn_of _ (by decide +kernel)) ggX12_longer_X12_onWith
theorem dX12_longer_0 : decode cX12_longer 0 = .ok (.lload_n 2, 1) := by decide +kernel
theorem dX12_longer_1 : decode cX12_longer 1 = .ok (.iconst 0, 1) := by decide +kernel
theorem dX12_longer_2 : decode cX12_longer 2 = .ok (.invokestatic 251, 3) := by decide +kernel
theorem dX12_longer_5 : decode cX12_longer 5 = .ok (.istore 5, 2) := by decide +kernel
theorem dX12_longer_7 : decode cX12_longer 7 = .ok (.iload 5, 2) := by decide +kernel
theorem dX12_longer_9 : decode cX12_longer 9 = .ok (.bipush 9, 2) := by decide +kernel
theorem dX12_longer_11 : decode cX12_longer 11 = .ok (.if_icmp .le 9, 3) := by decide +kernel
theorem dX12_longer_14 : decode cX12_longer 14 = .ok (.iload 5, 2) := by decide +kernel
theorem dX12_longer_16 : decode cX12_longer 16 = .ok (.i2l, 1) := by decide +kernel
theorem dX12_longer_17 : decode cX12_longer 17 = .ok (.goto 14, 3) := by decide +kernel
theorem dX12_longer_20 : decode cX12_longer 20 = .ok (.aload_n 0, 1) := by decide +kernel
theorem dX12_longer_21 : decode cX12_longer 21 = .ok (.iload_n 1, 1) := by decide +kernel
theorem dX12_longer_22 : decode cX12_longer 22 = .ok (.lload_n 2, 1) := by decide +kernel
theorem dX12_longer_23 : decode cX12_longer 23 = .ok (.iload 4, 2) := by decide +kernel
theorem dX12_longer_25 : decode cX12_longer 25 = .ok (.iload 5, 2) := by decide +kernel
theorem dX12_longer_27 : decode cX12_longer 27 = .ok (.invokevirtual 255, 3) := by decide +kernel
theorem dX12_longer_30 : decode cX12_longer 30 = .ok (.i2l, 1) := by decide +kernel
theorem dX12_longer_31 : decode cX12_longer 31 = .ok (.lstore 6, 2) := by decide +kernel
theorem dX12_longer_33 : decode cX12_longer 33 = .ok (.iconst 0, 1) := by decide +kernel
theorem dX12_longer_34 : decode cX12_longer 34 = .ok (.istore 8, 2) := by decide +kernel
theorem dX12_longer_36 : decode cX12_longer 36 = .ok (.iload 8, 2) := by decide +kernel
theorem dX12_longer_38 : decode cX12_longer 38 = .ok (.aload_n 0, 1) := by decide +kernel
theorem dX12_longer_39 : decode cX12_longer 39 = .ok (.getfield 7, 3) := by decide +kernel
theorem dX12_longer_42 : decode cX12_longer 42 = .ok (.iload_n 1, 1) := by decide +kernel
theorem dX12_longer_43 : decode cX12_longer 43 = .ok (.iaload, 1) := by decide +kernel
theorem dX12_longer_44 : decode cX12_longer 44 = .ok (.if_icmp .ge 32, 3) := by decide +kernel
theorem dX12_longer_47 : decode cX12_longer 47 = .ok (.lload 6, 2) := by decide +kernel
theorem dX12_longer_49 : decode cX12_longer 49 = .ok (.aload_n 0, 1) := by decide +kernel
theorem dX12_longer_50 : decode cX12_longer 50 = .ok (.iload_n 1, 1) := by decide +kernel
theorem dX12_longer_51 : decode cX12_longer 51 = .ok (.lload_n 2, 1) := by decide +kernel
theorem dX12_longer_52 : decode cX12_longer 52 = .ok (.iload 4, 2) := by decide +kernel
theorem dX12_longer_54 : decode cX12_longer 54 = .ok (.iload 8, 2) := by decide +kernel
theorem dX12_longer_56 : decode cX12_longer 56 = .ok (.invokevirtual 255, 3) := by decide +kernel
theorem dX12_longer_59 : decode cX12_longer 59 = .ok (.i2l, 1) := by decide +kernel
theorem dX12_longer_60 : decode cX12_longer 60 = .ok (.iconst 4, 1) := by decide +kernel
theorem dX12_longer_61 : decode cX12_longer 61 = .ok (.iload 8, 2) := by decide +kernel
theorem dX12_longer_63 : decode cX12_longer 63 = .ok (.iconst 1, 1) := by decide +kernel
theorem dX12_longer_64 : decode cX12_longer 64 = .ok (.iadd, 1) := by decide +kernel
theorem dX12_longer_65 : decode cX12_longer 65 = .ok (.imul, 1) := by decide +kernel
theorem dX12_longer_66 : decode cX12_longer 66 = .ok (.lshl, 1) := by decide +kernel
theorem dX12_longer_67 : decode cX12_longer 67 = .ok (.lor, 1) := by decide +kernel
theorem dX12_longer_68 : decode cX12_longer 68 = .ok (.lstore 6, 2) := by decide +kernel
theorem dX12_longer_70 : decode cX12_longer 70 = .ok (.iinc 8 1, 3) := by decide +kernel
theorem dX12_longer_73 : decode cX12_longer 73 = .ok (.goto (-37), 3) := by decide +kernel
theorem dX12_longer_76 : decode cX12_longer 76 = .ok (.lload 6, 2) := by decide +kernel
theorem dX12_longer_78 : decode cX12_longer 78 = .ok (.lreturn, 1) := by decide +kernel
set_option maxRecDepth 20000 in
theorem ggX12_endOf_X12_part : GoodIn wsX12_endOf wsX12_part := goodIn_r _ [6, 7] rfl (by decide +kernel)
set_option maxRecDepth 20000 in
theorem gX12_endOf_X12_part : GoodIn wsX12_endOf (va_wsS RX12 251 yX12_part wsX12_part) := goodIn_app (goodIn_of _ (by decide +kernel)) ggX12_endOf_X12_part
set_option maxRecDepth 20000 in
theorem ggX12_endOf_X12_at0 : GoodIn wsX12_endOf wsX12_at0 := goodIn_r _ [10] rfl (by decide +kernel)
set_option maxRecDepth 20000 in
theorem gX12_endOf_X12_at0 : GoodIn wsX12_endOf (va_wsS RX12 164 yX12_at0 wsX12_at0) := goodIn_app (goodIn_of _ (by decide +kernel)) ggX12_endOf_X12_at0
theorem dX12_endOf_0 : decode cX12_endOf 0 = .ok (.lload_n 2, 1) := by decide +kernel
theorem dX12_endOf_1 : decode cX12_endOf 1 = .ok (.iconst 0, 1) := by decide +kernel
theorem dX12_endOf_2 : decode cX12_endOf 2 = .ok (.invokestatic 251, 3) := by decide +kernel
theorem dX12_endOf_5 : decode cX12_endOf 5 = .ok (.istore 4, 2) := by decide +kernel
theorem dX12_endOf_7 : decode cX12_endOf 7 = .ok (.iconst 0, 1) := by decide +kernel
theorem dX12_endOf_8 : decode cX12_endOf 8 = .ok (.istore 5, 2) := by decide +kernel
theorem dX12_endOf_10 : decode cX12_endOf 10 = .ok (.iload 5, 2) := by decide +kernel
theorem dX12_endOf_12 : decode cX12_endOf 12 = .ok (.bipush 24, 2) := by decide +kernel
theorem dX12_endOf_14 : decode cX12_endOf 14 = .ok (.if_icmp .ge 76, 3) := by decide +kernel
theorem dX12_endOf_17 : decode cX12_endOf 17 = .ok (.iload 4, 2) := by decide +kernel
theorem dX12_endOf_19 : decode cX12_endOf 19 = .ok (.bipush 9, 2) := by decide +kernel
theorem dX12_endOf_21 : decode cX12_endOf 21 = .ok (.if_icmp .le 16, 3) := by decide +kernel
theorem dX12_endOf_24 : decode cX12_endOf 24 = .ok (.iload 4, 2) := by decide +kernel
theorem dX12_endOf_26 : decode cX12_endOf 26 = .ok (.bipush 10, 2) := by decide +kernel
theorem dX12_endOf_28 : decode cX12_endOf 28 = .ok (.if_icmp .ne 7, 3) := by decide +kernel
theorem dX12_endOf_31 : decode cX12_endOf 31 = .ok (.iconst 0, 1) := by decide +kernel
theorem dX12_endOf_32 : decode cX12_endOf 32 = .ok (.goto 4, 3) := by decide +kernel
theorem dX12_endOf_35 : decode cX12_endOf 35 = .ok (.iconst 2, 1) := by decide +kernel
theorem dX12_endOf_36 : decode cX12_endOf 36 = .ok (.ireturn, 1) := by decide +kernel
theorem dX12_endOf_37 : decode cX12_endOf 37 = .ok (.iload_n 1, 1) := by decide +kernel
theorem dX12_endOf_38 : decode cX12_endOf 38 = .ok (.iload 4, 2) := by decide +kernel
theorem dX12_endOf_40 : decode cX12_endOf 40 = .ok (.iconst 4, 1) := by decide +kernel
theorem dX12_endOf_41 : decode cX12_endOf 41 = .ok (.invokestatic 164, 3) := by decide +kernel
theorem dX12_endOf_44 : decode cX12_endOf 44 = .ok (.istore 6, 2) := by decide +kernel
theorem dX12_endOf_46 : decode cX12_endOf 46 = .ok (.aload_n 0, 1) := by decide +kernel
theorem dX12_endOf_47 : decode cX12_endOf 47 = .ok (.getfield 16, 3) := by decide +kernel
theorem dX12_endOf_50 : decode cX12_endOf 50 = .ok (.iload 6, 2) := by decide +kernel
theorem dX12_endOf_52 : decode cX12_endOf 52 = .ok (.iaload, 1) := by decide +kernel
theorem dX12_endOf_53 : decode cX12_endOf 53 = .ok (.iconst (-1), 1) := by decide +kernel
theorem dX12_endOf_54 : decode cX12_endOf 54 = .ok (.if_icmp .ne 15, 3) := by decide +kernel
theorem dX12_endOf_57 : decode cX12_endOf 57 = .ok (.aload_n 0, 1) := by decide +kernel
theorem dX12_endOf_58 : decode cX12_endOf 58 = .ok (.getfield 13, 3) := by decide +kernel
theorem dX12_endOf_61 : decode cX12_endOf 61 = .ok (.iload_n 1, 1) := by decide +kernel
theorem dX12_endOf_62 : decode cX12_endOf 62 = .ok (.iaload, 1) := by decide +kernel
theorem dX12_endOf_63 : decode cX12_endOf 63 = .ok (.iload 4, 2) := by decide +kernel
theorem dX12_endOf_65 : decode cX12_endOf 65 = .ok (.ishr, 1) := by decide +kernel
theorem dX12_endOf_66 : decode cX12_endOf 66 = .ok (.iconst 1, 1) := by decide +kernel
theorem dX12_endOf_67 : decode cX12_endOf 67 = .ok (.iand, 1) := by decide +kernel
theorem dX12_endOf_68 : decode cX12_endOf 68 = .ok (.ireturn, 1) := by decide +kernel
theorem dX12_endOf_69 : decode cX12_endOf 69 = .ok (.lload_n 2, 1) := by decide +kernel
theorem dX12_endOf_70 : decode cX12_endOf 70 = .ok (.iconst 1, 1) := by decide +kernel
theorem dX12_endOf_71 : decode cX12_endOf 71 = .ok (.aload_n 0, 1) := by decide +kernel
theorem dX12_endOf_72 : decode cX12_endOf 72 = .ok (.getfield 16, 3) := by decide +kernel
theorem dX12_endOf_75 : decode cX12_endOf 75 = .ok (.iload 6, 2) := by decide +kernel
theorem dX12_endOf_77 : decode cX12_endOf 77 = .ok (.iaload, 1) := by decide +kernel
theorem dX12_endOf_78 : decode cX12_endOf 78 = .ok (.iadd, 1) := by decide +kernel
theorem dX12_endOf_79 : decode cX12_endOf 79 = .ok (.invokestatic 251, 3) := by decide +kernel
theorem dX12_endOf_82 : decode cX12_endOf 82 = .ok (.istore 4, 2) := by decide +kernel
theorem dX12_endOf_84 : decode cX12_endOf 84 = .ok (.iinc 5 1, 3) := by decide +kernel
theorem dX12_endOf_87 : decode cX12_endOf 87 = .ok (.goto (-77), 3) := by decide +kernel
theorem dX12_endOf_90 : decode cX12_endOf 90 = .ok (.iconst 2, 1) := by decide +kernel
theorem dX12_endOf_91 : decode cX12_endOf 91 = .ok (.ireturn, 1) := by decide +kernel
theorem dX12_beginOf_0 : decode cX12_beginOf 0 = .ok (.iconst 0, 1) := by decide +kernel
theorem dX12_beginOf_1 : decode cX12_beginOf 1 = .ok (.istore 4, 2) := by decide +kernel
theorem dX12_beginOf_3 : decode cX12_beginOf 3 = .ok (.iload 4, 2) := by decide +kernel
theorem dX12_beginOf_5 : decode cX12_beginOf 5 = .ok (.aload_n 0, 1) := by decide +kernel
theorem dX12_beginOf_6 : decode cX12_beginOf 6 = .ok (.getfield 72, 3) := by decide +kernel
theorem dX12_beginOf_9 : decode cX12_beginOf 9 = .ok (.iload_n 1, 1) := by decide +kernel
theorem dX12_beginOf_10 : decode cX12_beginOf 10 = .ok (.iaload, 1) := by decide +kernel
theorem dX12_beginOf_11 : decode cX12_beginOf 11 = .ok (.if_icmp .ge 30, 3) := by decide +kernel
theorem dX12_beginOf_14 : decode cX12_beginOf 14 = .ok (.aload_n 0, 1) := by decide +kernel
theorem dX12_beginOf_15 : decode cX12_beginOf 15 = .ok (.getfield 66, 3) := by decide +kernel
theorem dX12_beginOf_18 : decode cX12_beginOf 18 = .ok (.sipush 801, 3) := by decide +kernel
theorem dX12_beginOf_21 : decode cX12_beginOf 21 = .ok (.iload_n 1, 1) := by decide +kernel
theorem dX12_beginOf_22 : decode cX12_beginOf 22 = .ok (.imul, 1) := by decide +kernel
theorem dX12_beginOf_23 : decode cX12_beginOf 23 = .ok (.iload 4, 2) := by decide +kernel
theorem dX12_beginOf_25 : decode cX12_beginOf 25 = .ok (.iadd, 1) := by decide +kernel
theorem dX12_beginOf_26 : decode cX12_beginOf 26 = .ok (.laload, 1) := by decide +kernel
theorem dX12_beginOf_27 : decode cX12_beginOf 27 = .ok (.lload_n 2, 1) := by decide +kernel
theorem dX12_beginOf_28 : decode cX12_beginOf 28 = .ok (.lcmp, 1) := by decide +kernel
theorem dX12_beginOf_29 : decode cX12_beginOf 29 = .ok (.ifCond .ne 6, 3) := by decide +kernel
theorem dX12_beginOf_32 : decode cX12_beginOf 32 = .ok (.iload 4, 2) := by decide +kernel
theorem dX12_beginOf_34 : decode cX12_beginOf 34 = .ok (.ireturn, 1) := by decide +kernel
theorem dX12_beginOf_35 : decode cX12_beginOf 35 = .ok (.iinc 4 1, 3) := by decide +kernel
theorem dX12_beginOf_38 : decode cX12_beginOf 38 = .ok (.goto (-35), 3) := by decide +kernel
theorem dX12_beginOf_41 : decode cX12_beginOf 41 = .ok (.iconst (-1), 1) := by decide +kernel
theorem dX12_beginOf_42 : decode cX12_beginOf 42 = .ok (.ireturn, 1) := by decide +kernel
set_option maxRecDepth 20000 in
theorem ggX12_layBegins_X12_emptyBeginning : GoodIn wsX12_layBegins wsX12_emptyBeginning := goodIn_r _ [10, 11, 12, 13, 14, 15, 9, 16, 34, 35, 36, 37, 38, 39, 40, 41, 42, 43, 44, 45, 46, 47, 48, 49, 50, 51, 52, 53, 54, 55, 56, 57, 58, 59, 60, 61, 62, 63, 64, 65, 66, 67, 68, 69, 70, 71, 72, 73, 74, 75, 76] rfl (by decide +kernel)
set_option maxRecDepth 20000 in
theorem gX12_layBegins_X12_emptyBeginning : GoodIn wsX12_layBegins (wsV RX12 259 RX12 yX12_emptyBeginning wsX12_emptyBeginning) := goodIn_app (goodIn_of _ (by decide +kernel)) ggX12_layBegins_X12_emptyBeginning
set_option maxRecDepth 20000 in
theorem ggX12_layBegins_X12_longer : GoodIn wsX12_layBegins wsX12_longer := goodIn_r _ [20, 11, 21, 22, 9, 23, 24, 25, 26, 27, 28, 12, 29, 14, 15, 16, 34, 35, 36, 37, 38, 39, 40, 41, 42, 43, 44, 45, 46, 47, 48, 49, 50, 51, 52, 53, 54, 55, 56, 57, 58, 59, 60, 61, 62, 63, 64, 65, 66, 67, 68, 69, 70, 71, 72, 73, 74, 75, 76] rfl (by decide +kernel)
set_option maxRecDepth 20000 in
theorem gX12_layBegins_X12_longer : GoodIn wsX12_layBegins (wsV RX12 262 RX12 yX12_longer wsX12_longer) := goodIn_app (goodIn_of _ (by decide +kernel)) ggX12_layBegins_X12_longer
set_option maxRecDepth 20000 in
theorem ggX12_layBegins_X12_beginOf : GoodIn wsX12_layBegins wsX12_beginOf := goodIn_r _ [33, 2, 1, 34, 35, 36, 37, 38, 39, 40, 41, 42, 43, 44, 45, 46, 47, 48, 49, 50, 51, 52, 53, 54, 55, 56, 57, 58, 59, 60, 61, 62, 63, 64, 65, 66, 67, 68, 69, 70, 71, 72, 73, 74, 75, 76] rfl (by decide +kernel)
set_option maxRecDepth 20000 in
theorem gX12_layBegins_X12_beginOf : GoodIn wsX12_layBegins (wsV RX12 266 RX12 yX12_beginOf wsX12_beginOf) := goodIn_app (goodIn_of _ (by decide +kernel)) ggX12_layBegins_X12_beginOf
theorem dX12_layBegins_0 : decode cX12_layBegins 0 = .ok (.aload_n 0, 1) := by decide +kernel
theorem dX12_layBegins_1 : decode cX12_layBegins 1 = .ok (.getfield 66, 3) := by decide +kernel
theorem dX12_layBegins_4 : decode cX12_layBegins 4 = .ok (.sipush 801, 3) := by decide +kernel
theorem dX12_layBegins_7 : decode cX12_layBegins 7 = .ok (.iload_n 1, 1) := by decide +kernel
theorem dX12_layBegins_8 : decode cX12_layBegins 8 = .ok (.imul, 1) := by decide +kernel
theorem dX12_layBegins_9 : decode cX12_layBegins 9 = .ok (.aload_n 0, 1) := by decide +kernel
theorem dX12_layBegins_10 : decode cX12_layBegins 10 = .ok (.iload_n 1, 1) := by decide +kernel
theorem dX12_layBegins_11 : decode cX12_layBegins 11 = .ok (.invokevirtual 259, 3) := by decide +kernel
theorem dX12_layBegins_14 : decode cX12_layBegins 14 = .ok (.lastore, 1) := by decide +kernel
theorem dX12_layBegins_15 : decode cX12_layBegins 15 = .ok (.aload_n 0, 1) := by decide +kernel
theorem dX12_layBegins_16 : decode cX12_layBegins 16 = .ok (.getfield 72, 3) := by decide +kernel
theorem dX12_layBegins_19 : decode cX12_layBegins 19 = .ok (.iload_n 1, 1) := by decide +kernel
theorem dX12_layBegins_20 : decode cX12_layBegins 20 = .ok (.iconst 1, 1) := by decide +kernel
theorem dX12_layBegins_21 : decode cX12_layBegins 21 = .ok (.iastore, 1) := by decide +kernel
theorem dX12_layBegins_22 : decode cX12_layBegins 22 = .ok (.iconst 0, 1) := by decide +kernel
theorem dX12_layBegins_23 : decode cX12_layBegins 23 = .ok (.istore_n 2, 1) := by decide +kernel
theorem dX12_layBegins_24 : decode cX12_layBegins 24 = .ok (.iload_n 2, 1) := by decide +kernel
theorem dX12_layBegins_25 : decode cX12_layBegins 25 = .ok (.aload_n 0, 1) := by decide +kernel
theorem dX12_layBegins_26 : decode cX12_layBegins 26 = .ok (.getfield 72, 3) := by decide +kernel
theorem dX12_layBegins_29 : decode cX12_layBegins 29 = .ok (.iload_n 1, 1) := by decide +kernel
theorem dX12_layBegins_30 : decode cX12_layBegins 30 = .ok (.iaload, 1) := by decide +kernel
theorem dX12_layBegins_31 : decode cX12_layBegins 31 = .ok (.if_icmp .ge 150, 3) := by decide +kernel
theorem dX12_layBegins_34 : decode cX12_layBegins 34 = .ok (.iconst 0, 1) := by decide +kernel
theorem dX12_layBegins_35 : decode cX12_layBegins 35 = .ok (.istore_n 3, 1) := by decide +kernel
theorem dX12_layBegins_36 : decode cX12_layBegins 36 = .ok (.iload_n 3, 1) := by decide +kernel
theorem dX12_layBegins_37 : decode cX12_layBegins 37 = .ok (.iconst 3, 1) := by decide +kernel
theorem dX12_layBegins_38 : decode cX12_layBegins 38 = .ok (.if_icmp .ge 137, 3) := by decide +kernel
theorem dX12_layBegins_41 : decode cX12_layBegins 41 = .ok (.aload_n 0, 1) := by decide +kernel
theorem dX12_layBegins_42 : decode cX12_layBegins 42 = .ok (.iload_n 1, 1) := by decide +kernel
theorem dX12_layBegins_43 : decode cX12_layBegins 43 = .ok (.aload_n 0, 1) := by decide +kernel
theorem dX12_layBegins_44 : decode cX12_layBegins 44 = .ok (.getfield 66, 3) := by decide +kernel
theorem dX12_layBegins_47 : decode cX12_layBegins 47 = .ok (.sipush 801, 3) := by decide +kernel
theorem dX12_layBegins_50 : decode cX12_layBegins 50 = .ok (.iload_n 1, 1) := by decide +kernel
theorem dX12_layBegins_51 : decode cX12_layBegins 51 = .ok (.imul, 1) := by decide +kernel
theorem dX12_layBegins_52 : decode cX12_layBegins 52 = .ok (.iload_n 2, 1) := by decide +kernel
theorem dX12_layBegins_53 : decode cX12_layBegins 53 = .ok (.iadd, 1) := by decide +kernel
theorem dX12_layBegins_54 : decode cX12_layBegins 54 = .ok (.laload, 1) := by decide +kernel
theorem dX12_layBegins_55 : decode cX12_layBegins 55 = .ok (.iload_n 3, 1) := by decide +kernel
theorem dX12_layBegins_56 : decode cX12_layBegins 56 = .ok (.invokevirtual 262, 3) := by decide +kernel
theorem dX12_layBegins_59 : decode cX12_layBegins 59 = .ok (.lstore 4, 2) := by decide +kernel
theorem dX12_layBegins_61 : decode cX12_layBegins 61 = .ok (.aload_n 0, 1) := by decide +kernel
theorem dX12_layBegins_62 : decode cX12_layBegins 62 = .ok (.iload_n 1, 1) := by decide +kernel
theorem dX12_layBegins_63 : decode cX12_layBegins 63 = .ok (.lload 4, 2) := by decide +kernel
theorem dX12_layBegins_65 : decode cX12_layBegins 65 = .ok (.invokevirtual 266, 3) := by decide +kernel
theorem dX12_layBegins_68 : decode cX12_layBegins 68 = .ok (.istore 6, 2) := by decide +kernel
theorem dX12_layBegins_70 : decode cX12_layBegins 70 = .ok (.iload 6, 2) := by decide +kernel
theorem dX12_layBegins_72 : decode cX12_layBegins 72 = .ok (.iconst (-1), 1) := by decide +kernel
theorem dX12_layBegins_73 : decode cX12_layBegins 73 = .ok (.if_icmp .ne 78, 3) := by decide +kernel
theorem dX12_layBegins_76 : decode cX12_layBegins 76 = .ok (.aload_n 0, 1) := by decide +kernel
theorem dX12_layBegins_77 : decode cX12_layBegins 77 = .ok (.getfield 72, 3) := by decide +kernel
theorem dX12_layBegins_80 : decode cX12_layBegins 80 = .ok (.iload_n 1, 1) := by decide +kernel
theorem dX12_layBegins_81 : decode cX12_layBegins 81 = .ok (.iaload, 1) := by decide +kernel
theorem dX12_layBegins_82 : decode cX12_layBegins 82 = .ok (.sipush 800, 3) := by decide +kernel
theorem dX12_layBegins_85 : decode cX12_layBegins 85 = .ok (.if_icmp .ne 5, 3) := by decide +kernel
theorem dX12_layBegins_88 : decode cX12_layBegins 88 = .ok (.iconst 0, 1) := by decide +kernel
theorem dX12_layBegins_89 : decode cX12_layBegins 89 = .ok (.ireturn, 1) := by decide +kernel
theorem dX12_layBegins_90 : decode cX12_layBegins 90 = .ok (.aload_n 0, 1) := by decide +kernel
theorem dX12_layBegins_91 : decode cX12_layBegins 91 = .ok (.getfield 72, 3) := by decide +kernel
theorem dX12_layBegins_94 : decode cX12_layBegins 94 = .ok (.iload_n 1, 1) := by decide +kernel
theorem dX12_layBegins_95 : decode cX12_layBegins 95 = .ok (.iaload, 1) := by decide +kernel
theorem dX12_layBegins_96 : decode cX12_layBegins 96 = .ok (.istore 6, 2) := by decide +kernel
theorem dX12_layBegins_98 : decode cX12_layBegins 98 = .ok (.aload_n 0, 1) := by decide +kernel
theorem dX12_layBegins_99 : decode cX12_layBegins 99 = .ok (.getfield 66, 3) := by decide +kernel
theorem dX12_layBegins_102 : decode cX12_layBegins 102 = .ok (.sipush 801, 3) := by decide +kernel
theorem dX12_layBegins_105 : decode cX12_layBegins 105 = .ok (.iload_n 1, 1) := by decide +kernel
theorem dX12_layBegins_106 : decode cX12_layBegins 106 = .ok (.imul, 1) := by decide +kernel
theorem dX12_layBegins_107 : decode cX12_layBegins 107 = .ok (.iload 6, 2) := by decide +kernel
theorem dX12_layBegins_109 : decode cX12_layBegins 109 = .ok (.iadd, 1) := by decide +kernel
theorem dX12_layBegins_110 : decode cX12_layBegins 110 = .ok (.lload 4, 2) := by decide +kernel
theorem dX12_layBegins_112 : decode cX12_layBegins 112 = .ok (.lastore, 1) := by decide +kernel
theorem dX12_layBegins_113 : decode cX12_layBegins 113 = .ok (.aload_n 0, 1) := by decide +kernel
theorem dX12_layBegins_114 : decode cX12_layBegins 114 = .ok (.getfield 75, 3) := by decide +kernel
theorem dX12_layBegins_117 : decode cX12_layBegins 117 = .ok (.sipush 801, 3) := by decide +kernel
theorem dX12_layBegins_120 : decode cX12_layBegins 120 = .ok (.iload_n 1, 1) := by decide +kernel
theorem dX12_layBegins_121 : decode cX12_layBegins 121 = .ok (.imul, 1) := by decide +kernel
theorem dX12_layBegins_122 : decode cX12_layBegins 122 = .ok (.iload 6, 2) := by decide +kernel
theorem dX12_layBegins_124 : decode cX12_layBegins 124 = .ok (.iadd, 1) := by decide +kernel
theorem dX12_layBegins_125 : decode cX12_layBegins 125 = .ok (.iload_n 2, 1) := by decide +kernel
theorem dX12_layBegins_126 : decode cX12_layBegins 126 = .ok (.iastore, 1) := by decide +kernel
theorem dX12_layBegins_127 : decode cX12_layBegins 127 = .ok (.aload_n 0, 1) := by decide +kernel
theorem dX12_layBegins_128 : decode cX12_layBegins 128 = .ok (.getfield 78, 3) := by decide +kernel
theorem dX12_layBegins_131 : decode cX12_layBegins 131 = .ok (.sipush 801, 3) := by decide +kernel
theorem dX12_layBegins_134 : decode cX12_layBegins 134 = .ok (.iload_n 1, 1) := by decide +kernel
theorem dX12_layBegins_135 : decode cX12_layBegins 135 = .ok (.imul, 1) := by decide +kernel
theorem dX12_layBegins_136 : decode cX12_layBegins 136 = .ok (.iload 6, 2) := by decide +kernel
theorem dX12_layBegins_138 : decode cX12_layBegins 138 = .ok (.iadd, 1) := by decide +kernel
theorem dX12_layBegins_139 : decode cX12_layBegins 139 = .ok (.iload_n 3, 1) := by decide +kernel
theorem dX12_layBegins_140 : decode cX12_layBegins 140 = .ok (.iastore, 1) := by decide +kernel
theorem dX12_layBegins_141 : decode cX12_layBegins 141 = .ok (.aload_n 0, 1) := by decide +kernel
theorem dX12_layBegins_142 : decode cX12_layBegins 142 = .ok (.getfield 72, 3) := by decide +kernel
theorem dX12_layBegins_145 : decode cX12_layBegins 145 = .ok (.iload_n 1, 1) := by decide +kernel
theorem dX12_layBegins_146 : decode cX12_layBegins 146 = .ok (.dup2, 1) := by decide +kernel
theorem dX12_layBegins_147 : decode cX12_layBegins 147 = .ok (.iaload, 1) := by decide +kernel
theorem dX12_layBegins_148 : decode cX12_layBegins 148 = .ok (.iconst 1, 1) := by decide +kernel
theorem dX12_layBegins_149 : decode cX12_layBegins 149 = .ok (.iadd, 1) := by decide +kernel
theorem dX12_layBegins_150 : decode cX12_layBegins 150 = .ok (.iastore, 1) := by decide +kernel
theorem dX12_layBegins_151 : decode cX12_layBegins 151 = .ok (.aload_n 0, 1) := by decide +kernel
theorem dX12_layBegins_152 : decode cX12_layBegins 152 = .ok (.getfield 69, 3) := by decide +kernel
theorem dX12_layBegins_155 : decode cX12_layBegins 155 = .ok (.sipush 2403, 3) := by decide +kernel
theorem dX12_layBegins_158 : decode cX12_layBegins 158 = .ok (.iload_n 1, 1) := by decide +kernel
theorem dX12_layBegins_159 : decode cX12_layBegins 159 = .ok (.imul, 1) := by decide +kernel
theorem dX12_layBegins_160 : decode cX12_layBegins 160 = .ok (.iconst 3, 1) := by decide +kernel
theorem dX12_layBegins_161 : decode cX12_layBegins 161 = .ok (.iload_n 2, 1) := by decide +kernel
theorem dX12_layBegins_162 : decode cX12_layBegins 162 = .ok (.imul, 1) := by decide +kernel
theorem dX12_layBegins_163 : decode cX12_layBegins 163 = .ok (.iadd, 1) := by decide +kernel
theorem dX12_layBegins_164 : decode cX12_layBegins 164 = .ok (.iload_n 3, 1) := by decide +kernel
theorem dX12_layBegins_165 : decode cX12_layBegins 165 = .ok (.iadd, 1) := by decide +kernel
theorem dX12_layBegins_166 : decode cX12_layBegins 166 = .ok (.iload 6, 2) := by decide +kernel
theorem dX12_layBegins_168 : decode cX12_layBegins 168 = .ok (.iastore, 1) := by decide +kernel
theorem dX12_layBegins_169 : decode cX12_layBegins 169 = .ok (.iinc 3 1, 3) := by decide +kernel
theorem dX12_layBegins_172 : decode cX12_layBegins 172 = .ok (.goto (-136), 3) := by decide +kernel
theorem dX12_layBegins_175 : decode cX12_layBegins 175 = .ok (.iinc 2 1, 3) := by decide +kernel
theorem dX12_layBegins_178 : decode cX12_layBegins 178 = .ok (.goto (-154), 3) := by decide +kernel
theorem dX12_layBegins_181 : decode cX12_layBegins 181 = .ok (.iconst 1, 1) := by decide +kernel
theorem dX12_layBegins_182 : decode cX12_layBegins 182 = .ok (.ireturn, 1) := by decide +kernel
set_option maxRecDepth 20000 in
theorem ggX12_isTaken_X12_endOf : GoodIn wsX12_isTaken wsX12_endOf := goodIn_r _ [6, 7, 8, 9, 10, 5, 11, 12, 13, 14, 15, 16, 17, 18, 19, 20, 21, 22, 23, 24, 25, 26, 27, 28, 29, 30, 31, 32, 33, 34, 35, 36, 37, 38, 39, 40, 41, 42, 43, 44, 45, 46, 47, 48, 49, 50, 51, 52, 53, 54, 55, 56, 57, 58] rfl (by decide +kernel)
set_option maxRecDepth 20000 in
theorem gX12_isTaken_X12_endOf : GoodIn wsX12_isTaken (wsV RX12 270 RX12 yX12_endOf wsX12_endOf) := goodIn_app (goodIn_of _ (by decide +kernel)) ggX12_isTaken_X12_endOf
theorem dX12_isTaken_0 : decode cX12_isTaken 0 = .ok (.aload_n 0, 1) := by decide +kernel
theorem dX12_isTaken_1 : decode cX12_isTaken 1 = .ok (.iload_n 1, 1) := by decide +kernel
theorem dX12_isTaken_2 : decode cX12_isTaken 2 = .ok (.aload_n 0, 1) := by decide +kernel
theorem dX12_isTaken_3 : decode cX12_isTaken 3 = .ok (.getfield 66, 3) := by decide +kernel
theorem dX12_isTaken_6 : decode cX12_isTaken 6 = .ok (.sipush 801, 3) := by decide +kernel
theorem dX12_isTaken_9 : decode cX12_isTaken 9 = .ok (.iload_n 1, 1) := by decide +kernel
theorem dX12_isTaken_10 : decode cX12_isTaken 10 = .ok (.imul, 1) := by decide +kernel
theorem dX12_isTaken_11 : decode cX12_isTaken 11 = .ok (.iload_n 2, 1) := by decide +kernel
theorem dX12_isTaken_12 : decode cX12_isTaken 12 = .ok (.iadd, 1) := by decide +kernel
theorem dX12_isTaken_13 : decode cX12_isTaken 13 = .ok (.laload, 1) := by decide +kernel
theorem dX12_isTaken_14 : decode cX12_isTaken 14 = .ok (.invokevirtual 270, 3) := by decide +kernel
theorem dX12_isTaken_17 : decode cX12_isTaken 17 = .ok (.iconst 1, 1) := by decide +kernel
theorem dX12_isTaken_18 : decode cX12_isTaken 18 = .ok (.if_icmp .ne 7, 3) := by decide +kernel
theorem dX12_isTaken_21 : decode cX12_isTaken 21 = .ok (.iconst 1, 1) := by decide +kernel
theorem dX12_isTaken_22 : decode cX12_isTaken 22 = .ok (.goto 4, 3) := by decide +kernel
theorem dX12_isTaken_25 : decode cX12_isTaken 25 = .ok (.iconst 0, 1) := by decide +kernel
theorem dX12_isTaken_26 : decode cX12_isTaken 26 = .ok (.ireturn, 1) := by decide +kernel
set_option maxRecDepth 20000 in
theorem ggX12_many_X12_isReader : GoodIn wsX12_many wsX12_isReader := goodIn_r _ [10, 11, 12, 9, 13] rfl (by decide +kernel)
set_option maxRecDepth 20000 in
theorem gX12_many_X12_isReader : GoodIn wsX12_many (va_wsS RX12 106 yX12_isReader wsX12_isReader) := goodIn_app (goodIn_of _ (by decide +kernel)) ggX12_many_X12_isReader
set_option maxRecDepth 20000 in
theorem ggX12_many_X12_in : GoodIn wsX12_many wsX12_in := goodIn_r _ [13] rfl (by decide +kernel)
set_option maxRecDepth 20000 in
theorem gX12_many_X12_in : GoodIn wsX12_many (va_wsS RX12 102 yX12_in wsX12_in) := goodIn_app (goodIn_of _ (by decide +kernel)) ggX12_many_X12_in
set_option maxRecDepth 20000 in
theorem ggX12_many_X12_layBegins : GoodIn wsX12_many wsX12_layBegins := goodIn_r _ [17, 18, 2, 19, 20, 5, 21, 22, 23, 9, 24, 25, 26, 27, 28, 29, 30, 31, 32, 33, 34, 35, 36, 37, 38, 39, 40, 41, 42, 43, 44, 45, 46, 47, 57, 58, 59, 60, 61, 62, 63, 64, 65, 66, 67, 68, 69, 70, 71, 72, 73, 74, 75, 76, 77, 78, 79, 80, 81, 82, 83, 84, 85, 86, 87, 88, 89, 90, 91, 92, 93, 94, 95, 96, 97, 98, 99] rfl (by decide +kernel)
set_option maxRecDepth 20000 in
theorem gX12_many_X12_layBegins : GoodIn wsX12_many (wsV RX12 275 RX12 yX12_layBegins wsX12_layBegins) := goodIn_app (goodIn_of _ (by decide +kernel)) ggX12_many_X12_layBegins
set_option maxRecDepth 20000 in
theorem ggX12_many_X12_isTaken : GoodIn wsX12_many wsX12_isTaken := goodIn_r _ [51, 18, 52, 53, 54, 9, 55, 26, 56, 35, 36, 37, 38, 28, 29, 30, 57, 58, 59, 60, 61, 62, 63, 64, 65, 66, 67, 68, 69, 70, 71, 72, 73, 74, 75, 76, 77, 78, 79, 80, 81, 82, 83, 84, 85, 86, 87, 88, 89, 90, 91, 92, 93, 94, 95, 96, 97, 98, 99] rfl (by decide +kernel)
set_option maxRecDepth 20000 in
theorem gX12_many_X12_isTaken : GoodIn wsX12_many (wsV RX12 280 RX12 yX12_isTaken wsX12_isTaken) := goodIn_app (goodIn_of _ (by decide +kernel)) ggX12_many_X12_isTaken
theorem dX12_many_0 : decode cX12_many 0 = .ok (.iload_n 1, 1) := by decide +kernel
theorem dX12_many_1 : decode cX12_many 1 = .ok (.invokestatic 106, 3) := by decide +kernel
theorem dX12_many_4 : decode cX12_many 4 = .ok (.ifCond .ne 6, 3) := by decide +kernel
theorem dX12_many_7 : decode cX12_many 7 = .ok (.bipush (-2), 2) := by decide +kernel
theorem dX12_many_9 : decode cX12_many 9 = .ok (.ireturn, 1) := by decide +kernel
theorem dX12_many_10 : decode cX12_many 10 = .ok (.iload_n 2, 1) := by decide +kernel
theorem dX12_many_11 : decode cX12_many 11 = .ok (.i2l, 1) := by decide +kernel
theorem dX12_many_12 : decode cX12_many 12 = .ok (.lconst 0, 1) := by decide +kernel
theorem dX12_many_13 : decode cX12_many 13 = .ok (.ldc2_w 273, 3) := by decide +kernel
theorem dX12_many_16 : decode cX12_many 16 = .ok (.invokestatic 102, 3) := by decide +kernel
theorem dX12_many_19 : decode cX12_many 19 = .ok (.ifCond .ne 6, 3) := by decide +kernel
theorem dX12_many_22 : decode cX12_many 22 = .ok (.bipush (-3), 2) := by decide +kernel
theorem dX12_many_24 : decode cX12_many 24 = .ok (.ireturn, 1) := by decide +kernel
theorem dX12_many_25 : decode cX12_many 25 = .ok (.aload_n 0, 1) := by decide +kernel
theorem dX12_many_26 : decode cX12_many 26 = .ok (.iload_n 1, 1) := by decide +kernel
theorem dX12_many_27 : decode cX12_many 27 = .ok (.invokevirtual 275, 3) := by decide +kernel
theorem dX12_many_30 : decode cX12_many 30 = .ok (.ifCond .ne 6, 3) := by decide +kernel
theorem dX12_many_33 : decode cX12_many 33 = .ok (.bipush (-6), 2) := by decide +kernel
theorem dX12_many_35 : decode cX12_many 35 = .ok (.ireturn, 1) := by decide +kernel
theorem dX12_many_36 : decode cX12_many 36 = .ok (.iconst 0, 1) := by decide +kernel
theorem dX12_many_37 : decode cX12_many 37 = .ok (.istore_n 3, 1) := by decide +kernel
theorem dX12_many_38 : decode cX12_many 38 = .ok (.iload_n 3, 1) := by decide +kernel
theorem dX12_many_39 : decode cX12_many 39 = .ok (.aload_n 0, 1) := by decide +kernel
theorem dX12_many_40 : decode cX12_many 40 = .ok (.getfield 72, 3) := by decide +kernel
theorem dX12_many_43 : decode cX12_many 43 = .ok (.iload_n 1, 1) := by decide +kernel
theorem dX12_many_44 : decode cX12_many 44 = .ok (.iaload, 1) := by decide +kernel
theorem dX12_many_45 : decode cX12_many 45 = .ok (.if_icmp .ge 24, 3) := by decide +kernel
theorem dX12_many_48 : decode cX12_many 48 = .ok (.aload_n 0, 1) := by decide +kernel
theorem dX12_many_49 : decode cX12_many 49 = .ok (.getfield 81, 3) := by decide +kernel
theorem dX12_many_52 : decode cX12_many 52 = .ok (.iload_n 3, 1) := by decide +kernel
theorem dX12_many_53 : decode cX12_many 53 = .ok (.iload_n 3, 1) := by decide +kernel
theorem dX12_many_54 : decode cX12_many 54 = .ok (.ifCond .ne 7, 3) := by decide +kernel
theorem dX12_many_57 : decode cX12_many 57 = .ok (.lconst 1, 1) := by decide +kernel
theorem dX12_many_58 : decode cX12_many 58 = .ok (.goto 4, 3) := by decide +kernel
theorem dX12_many_61 : decode cX12_many 61 = .ok (.lconst 0, 1) := by decide +kernel
theorem dX12_many_62 : decode cX12_many 62 = .ok (.lastore, 1) := by decide +kernel
theorem dX12_many_63 : decode cX12_many 63 = .ok (.iinc 3 1, 3) := by decide +kernel
theorem dX12_many_66 : decode cX12_many 66 = .ok (.goto (-28), 3) := by decide +kernel
theorem dX12_many_69 : decode cX12_many 69 = .ok (.iconst 0, 1) := by decide +kernel
theorem dX12_many_70 : decode cX12_many 70 = .ok (.istore_n 3, 1) := by decide +kernel
theorem dX12_many_71 : decode cX12_many 71 = .ok (.iload_n 3, 1) := by decide +kernel
theorem dX12_many_72 : decode cX12_many 72 = .ok (.iload_n 2, 1) := by decide +kernel
theorem dX12_many_73 : decode cX12_many 73 = .ok (.if_icmp .ge 164, 3) := by decide +kernel
theorem dX12_many_76 : decode cX12_many 76 = .ok (.iconst 0, 1) := by decide +kernel
theorem dX12_many_77 : decode cX12_many 77 = .ok (.istore 4, 2) := by decide +kernel
theorem dX12_many_79 : decode cX12_many 79 = .ok (.iload 4, 2) := by decide +kernel
theorem dX12_many_81 : decode cX12_many 81 = .ok (.aload_n 0, 1) := by decide +kernel
theorem dX12_many_82 : decode cX12_many 82 = .ok (.getfield 72, 3) := by decide +kernel
theorem dX12_many_85 : decode cX12_many 85 = .ok (.iload_n 1, 1) := by decide +kernel
theorem dX12_many_86 : decode cX12_many 86 = .ok (.iaload, 1) := by decide +kernel
theorem dX12_many_87 : decode cX12_many 87 = .ok (.if_icmp .ge 17, 3) := by decide +kernel
theorem dX12_many_90 : decode cX12_many 90 = .ok (.aload_n 0, 1) := by decide +kernel
theorem dX12_many_91 : decode cX12_many 91 = .ok (.getfield 84, 3) := by decide +kernel
theorem dX12_many_94 : decode cX12_many 94 = .ok (.iload 4, 2) := by decide +kernel
theorem dX12_many_96 : decode cX12_many 96 = .ok (.lconst 0, 1) := by decide +kernel
theorem dX12_many_97 : decode cX12_many 97 = .ok (.lastore, 1) := by decide +kernel
theorem dX12_many_98 : decode cX12_many 98 = .ok (.iinc 4 1, 3) := by decide +kernel
theorem dX12_many_101 : decode cX12_many 101 = .ok (.goto (-22), 3) := by decide +kernel
theorem dX12_many_104 : decode cX12_many 104 = .ok (.iconst 0, 1) := by decide +kernel
theorem dX12_many_105 : decode cX12_many 105 = .ok (.istore 4, 2) := by decide +kernel
theorem dX12_many_107 : decode cX12_many 107 = .ok (.iload 4, 2) := by decide +kernel
theorem dX12_many_109 : decode cX12_many 109 = .ok (.aload_n 0, 1) := by decide +kernel
theorem dX12_many_110 : decode cX12_many 110 = .ok (.getfield 72, 3) := by decide +kernel
theorem dX12_many_113 : decode cX12_many 113 = .ok (.iload_n 1, 1) := by decide +kernel
theorem dX12_many_114 : decode cX12_many 114 = .ok (.iaload, 1) := by decide +kernel
theorem dX12_many_115 : decode cX12_many 115 = .ok (.if_icmp .ge 82, 3) := by decide +kernel
theorem dX12_many_118 : decode cX12_many 118 = .ok (.iconst 0, 1) := by decide +kernel
theorem dX12_many_119 : decode cX12_many 119 = .ok (.istore 5, 2) := by decide +kernel
theorem dX12_many_121 : decode cX12_many 121 = .ok (.iload 5, 2) := by decide +kernel
theorem dX12_many_123 : decode cX12_many 123 = .ok (.iconst 3, 1) := by decide +kernel
theorem dX12_many_124 : decode cX12_many 124 = .ok (.if_icmp .ge 67, 3) := by decide +kernel
theorem dX12_many_127 : decode cX12_many 127 = .ok (.aload_n 0, 1) := by decide +kernel
theorem dX12_many_128 : decode cX12_many 128 = .ok (.getfield 81, 3) := by decide +kernel
theorem dX12_many_131 : decode cX12_many 131 = .ok (.iload 4, 2) := by decide +kernel
theorem dX12_many_133 : decode cX12_many 133 = .ok (.laload, 1) := by decide +kernel
theorem dX12_many_134 : decode cX12_many 134 = .ok (.lconst 0, 1) := by decide +kernel
theorem dX12_many_135 : decode cX12_many 135 = .ok (.lcmp, 1) := by decide +kernel
theorem dX12_many_136 : decode cX12_many 136 = .ok (.ifCond .le 55, 3) := by decide +kernel
theorem dX12_many_139 : decode cX12_many 139 = .ok (.aload_n 0, 1) := by decide +kernel
theorem dX12_many_140 : decode cX12_many 140 = .ok (.getfield 69, 3) := by decide +kernel
theorem dX12_many_143 : decode cX12_many 143 = .ok (.sipush 2403, 3) := by decide +kernel
theorem dX12_many_146 : decode cX12_many 146 = .ok (.iload_n 1, 1) := by decide +kernel
theorem dX12_many_147 : decode cX12_many 147 = .ok (.imul, 1) := by decide +kernel
theorem dX12_many_148 : decode cX12_many 148 = .ok (.iconst 3, 1) := by decide +kernel
theorem dX12_many_149 : decode cX12_many 149 = .ok (.iload 4, 2) := by decide +kernel
theorem dX12_many_151 : decode cX12_many 151 = .ok (.imul, 1) := by decide +kernel
theorem dX12_many_152 : decode cX12_many 152 = .ok (.iadd, 1) := by decide +kernel
theorem dX12_many_153 : decode cX12_many 153 = .ok (.iload 5, 2) := by decide +kernel
theorem dX12_many_155 : decode cX12_many 155 = .ok (.iadd, 1) := by decide +kernel
theorem dX12_many_156 : decode cX12_many 156 = .ok (.iaload, 1) := by decide +kernel
theorem dX12_many_157 : decode cX12_many 157 = .ok (.istore 6, 2) := by decide +kernel
theorem dX12_many_159 : decode cX12_many 159 = .ok (.aload_n 0, 1) := by decide +kernel
theorem dX12_many_160 : decode cX12_many 160 = .ok (.getfield 84, 3) := by decide +kernel
theorem dX12_many_163 : decode cX12_many 163 = .ok (.iload 6, 2) := by decide +kernel
theorem dX12_many_165 : decode cX12_many 165 = .ok (.aload_n 0, 1) := by decide +kernel
theorem dX12_many_166 : decode cX12_many 166 = .ok (.getfield 84, 3) := by decide +kernel
theorem dX12_many_169 : decode cX12_many 169 = .ok (.iload 6, 2) := by decide +kernel
theorem dX12_many_171 : decode cX12_many 171 = .ok (.laload, 1) := by decide +kernel
theorem dX12_many_172 : decode cX12_many 172 = .ok (.aload_n 0, 1) := by decide +kernel
theorem dX12_many_173 : decode cX12_many 173 = .ok (.getfield 81, 3) := by decide +kernel
theorem dX12_many_176 : decode cX12_many 176 = .ok (.iload 4, 2) := by decide +kernel
theorem dX12_many_178 : decode cX12_many 178 = .ok (.laload, 1) := by decide +kernel
theorem dX12_many_179 : decode cX12_many 179 = .ok (.ladd, 1) := by decide +kernel
theorem dX12_many_180 : decode cX12_many 180 = .ok (.ldc2_w 278, 3) := by decide +kernel
theorem dX12_many_183 : decode cX12_many 183 = .ok (.lrem, 1) := by decide +kernel
theorem dX12_many_184 : decode cX12_many 184 = .ok (.lastore, 1) := by decide +kernel
theorem dX12_many_185 : decode cX12_many 185 = .ok (.iinc 5 1, 3) := by decide +kernel
theorem dX12_many_188 : decode cX12_many 188 = .ok (.goto (-67), 3) := by decide +kernel
theorem dX12_many_191 : decode cX12_many 191 = .ok (.iinc 4 1, 3) := by decide +kernel
theorem dX12_many_194 : decode cX12_many 194 = .ok (.goto (-87), 3) := by decide +kernel
theorem dX12_many_197 : decode cX12_many 197 = .ok (.iconst 0, 1) := by decide +kernel
theorem dX12_many_198 : decode cX12_many 198 = .ok (.istore 4, 2) := by decide +kernel
theorem dX12_many_200 : decode cX12_many 200 = .ok (.iload 4, 2) := by decide +kernel
theorem dX12_many_202 : decode cX12_many 202 = .ok (.aload_n 0, 1) := by decide +kernel
theorem dX12_many_203 : decode cX12_many 203 = .ok (.getfield 72, 3) := by decide +kernel
theorem dX12_many_206 : decode cX12_many 206 = .ok (.iload_n 1, 1) := by decide +kernel
theorem dX12_many_207 : decode cX12_many 207 = .ok (.iaload, 1) := by decide +kernel
theorem dX12_many_208 : decode cX12_many 208 = .ok (.if_icmp .ge 23, 3) := by decide +kernel
theorem dX12_many_211 : decode cX12_many 211 = .ok (.aload_n 0, 1) := by decide +kernel
theorem dX12_many_212 : decode cX12_many 212 = .ok (.getfield 81, 3) := by decide +kernel
theorem dX12_many_215 : decode cX12_many 215 = .ok (.iload 4, 2) := by decide +kernel
theorem dX12_many_217 : decode cX12_many 217 = .ok (.aload_n 0, 1) := by decide +kernel
theorem dX12_many_218 : decode cX12_many 218 = .ok (.getfield 84, 3) := by decide +kernel
theorem dX12_many_221 : decode cX12_many 221 = .ok (.iload 4, 2) := by decide +kernel
theorem dX12_many_223 : decode cX12_many 223 = .ok (.laload, 1) := by decide +kernel
theorem dX12_many_224 : decode cX12_many 224 = .ok (.lastore, 1) := by decide +kernel
theorem dX12_many_225 : decode cX12_many 225 = .ok (.iinc 4 1, 3) := by decide +kernel
theorem dX12_many_228 : decode cX12_many 228 = .ok (.goto (-28), 3) := by decide +kernel
theorem dX12_many_231 : decode cX12_many 231 = .ok (.iinc 3 1, 3) := by decide +kernel
theorem dX12_many_234 : decode cX12_many 234 = .ok (.goto (-163), 3) := by decide +kernel
theorem dX12_many_237 : decode cX12_many 237 = .ok (.lconst 0, 1) := by decide +kernel
theorem dX12_many_238 : decode cX12_many 238 = .ok (.lstore_n 3, 1) := by decide +kernel
theorem dX12_many_239 : decode cX12_many 239 = .ok (.iconst 0, 1) := by decide +kernel
theorem dX12_many_240 : decode cX12_many 240 = .ok (.istore 5, 2) := by decide +kernel
theorem dX12_many_242 : decode cX12_many 242 = .ok (.iload 5, 2) := by decide +kernel
theorem dX12_many_244 : decode cX12_many 244 = .ok (.aload_n 0, 1) := by decide +kernel
theorem dX12_many_245 : decode cX12_many 245 = .ok (.getfield 72, 3) := by decide +kernel
theorem dX12_many_248 : decode cX12_many 248 = .ok (.iload_n 1, 1) := by decide +kernel
theorem dX12_many_249 : decode cX12_many 249 = .ok (.iaload, 1) := by decide +kernel
theorem dX12_many_250 : decode cX12_many 250 = .ok (.if_icmp .ge 33, 3) := by decide +kernel
theorem dX12_many_253 : decode cX12_many 253 = .ok (.lload_n 3, 1) := by decide +kernel
theorem dX12_many_254 : decode cX12_many 254 = .ok (.aload_n 0, 1) := by decide +kernel
theorem dX12_many_255 : decode cX12_many 255 = .ok (.iload_n 1, 1) := by decide +kernel
theorem dX12_many_256 : decode cX12_many 256 = .ok (.iload 5, 2) := by decide +kernel
theorem dX12_many_258 : decode cX12_many 258 = .ok (.invokevirtual 280, 3) := by decide +kernel
theorem dX12_many_261 : decode cX12_many 261 = .ok (.ifCond .eq 13, 3) := by decide +kernel
theorem dX12_many_264 : decode cX12_many 264 = .ok (.aload_n 0, 1) := by decide +kernel
theorem dX12_many_265 : decode cX12_many 265 = .ok (.getfield 81, 3) := by decide +kernel
theorem dX12_many_268 : decode cX12_many 268 = .ok (.iload 5, 2) := by decide +kernel
theorem dX12_many_270 : decode cX12_many 270 = .ok (.laload, 1) := by decide +kernel
theorem dX12_many_271 : decode cX12_many 271 = .ok (.goto 4, 3) := by decide +kernel
theorem dX12_many_274 : decode cX12_many 274 = .ok (.lconst 0, 1) := by decide +kernel
theorem dX12_many_275 : decode cX12_many 275 = .ok (.ladd, 1) := by decide +kernel
theorem dX12_many_276 : decode cX12_many 276 = .ok (.lstore_n 3, 1) := by decide +kernel
theorem dX12_many_277 : decode cX12_many 277 = .ok (.iinc 5 1, 3) := by decide +kernel
theorem dX12_many_280 : decode cX12_many 280 = .ok (.goto (-38), 3) := by decide +kernel
theorem dX12_many_283 : decode cX12_many 283 = .ok (.lload_n 3, 1) := by decide +kernel
theorem dX12_many_284 : decode cX12_many 284 = .ok (.ldc2_w 278, 3) := by decide +kernel
theorem dX12_many_287 : decode cX12_many 287 = .ok (.lrem, 1) := by decide +kernel
theorem dX12_many_288 : decode cX12_many 288 = .ok (.l2i, 1) := by decide +kernel
theorem dX12_many_289 : decode cX12_many 289 = .ok (.ireturn, 1) := by decide +kernel
set_option maxRecDepth 20000 in
theorem ggX12_layCounts_X12_isTaken : GoodIn wsX12_layCounts wsX12_isTaken := goodIn_r _ [8, 9, 10, 11, 12, 7, 13, 14, 15, 16, 17, 18, 19, 20, 21, 22, 23, 24, 25, 26, 27, 28, 29, 30, 31, 32, 33, 34, 35, 36, 37, 38, 39, 40, 41, 42, 43, 44, 45, 46, 47, 48, 49, 50, 51, 52, 53, 54, 55, 56, 57, 58, 59, 60, 61, 62, 63, 64, 65] rfl (by decide +kernel)
set_option maxRecDepth 20000 in
theorem gX12_layCounts_X12_isTaken : GoodIn wsX12_layCounts (wsV RX12 280 RX12 yX12_isTaken wsX12_isTaken) := goodIn_app (goodIn_of _ (by decide +kernel)) ggX12_layCounts_X12_isTaken
theorem dX12_layCounts_0 : decode cX12_layCounts 0 = .ok (.iconst 0, 1) := by decide +kernel
theorem dX12_layCounts_1 : decode cX12_layCounts 1 = .ok (.istore_n 3, 1) := by decide +kernel
theorem dX12_layCounts_2 : decode cX12_layCounts 2 = .ok (.iload_n 3, 1) := by decide +kernel
theorem dX12_layCounts_3 : decode cX12_layCounts 3 = .ok (.iload_n 2, 1) := by decide +kernel
theorem dX12_layCounts_4 : decode cX12_layCounts 4 = .ok (.if_icmp .gt 120, 3) := by decide +kernel
theorem dX12_layCounts_7 : decode cX12_layCounts 7 = .ok (.iconst 0, 1) := by decide +kernel
theorem dX12_layCounts_8 : decode cX12_layCounts 8 = .ok (.istore 4, 2) := by decide +kernel
theorem dX12_layCounts_10 : decode cX12_layCounts 10 = .ok (.iload 4, 2) := by decide +kernel
theorem dX12_layCounts_12 : decode cX12_layCounts 12 = .ok (.aload_n 0, 1) := by decide +kernel
theorem dX12_layCounts_13 : decode cX12_layCounts 13 = .ok (.getfield 72, 3) := by decide +kernel
theorem dX12_layCounts_16 : decode cX12_layCounts 16 = .ok (.iload_n 1, 1) := by decide +kernel
theorem dX12_layCounts_17 : decode cX12_layCounts 17 = .ok (.iaload, 1) := by decide +kernel
theorem dX12_layCounts_18 : decode cX12_layCounts 18 = .ok (.if_icmp .ge 100, 3) := by decide +kernel
theorem dX12_layCounts_21 : decode cX12_layCounts 21 = .ok (.iload_n 3, 1) := by decide +kernel
theorem dX12_layCounts_22 : decode cX12_layCounts 22 = .ok (.ifCond .ne 17, 3) := by decide +kernel
theorem dX12_layCounts_25 : decode cX12_layCounts 25 = .ok (.aload_n 0, 1) := by decide +kernel
theorem dX12_layCounts_26 : decode cX12_layCounts 26 = .ok (.iload_n 1, 1) := by decide +kernel
theorem dX12_layCounts_27 : decode cX12_layCounts 27 = .ok (.iload 4, 2) := by decide +kernel
theorem dX12_layCounts_29 : decode cX12_layCounts 29 = .ok (.invokevirtual 280, 3) := by decide +kernel
theorem dX12_layCounts_32 : decode cX12_layCounts 32 = .ok (.ifCond .eq 7, 3) := by decide +kernel
theorem dX12_layCounts_35 : decode cX12_layCounts 35 = .ok (.iconst 1, 1) := by decide +kernel
theorem dX12_layCounts_36 : decode cX12_layCounts 36 = .ok (.goto 4, 3) := by decide +kernel
theorem dX12_layCounts_39 : decode cX12_layCounts 39 = .ok (.iconst 0, 1) := by decide +kernel
theorem dX12_layCounts_40 : decode cX12_layCounts 40 = .ok (.istore 5, 2) := by decide +kernel
theorem dX12_layCounts_42 : decode cX12_layCounts 42 = .ok (.iconst 0, 1) := by decide +kernel
theorem dX12_layCounts_43 : decode cX12_layCounts 43 = .ok (.istore 6, 2) := by decide +kernel
theorem dX12_layCounts_45 : decode cX12_layCounts 45 = .ok (.iload 6, 2) := by decide +kernel
theorem dX12_layCounts_47 : decode cX12_layCounts 47 = .ok (.iconst 3, 1) := by decide +kernel
theorem dX12_layCounts_48 : decode cX12_layCounts 48 = .ok (.if_icmp .ge 49, 3) := by decide +kernel
theorem dX12_layCounts_51 : decode cX12_layCounts 51 = .ok (.iload_n 3, 1) := by decide +kernel
theorem dX12_layCounts_52 : decode cX12_layCounts 52 = .ok (.ifCond .le 45, 3) := by decide +kernel
theorem dX12_layCounts_55 : decode cX12_layCounts 55 = .ok (.iload 5, 2) := by decide +kernel
theorem dX12_layCounts_57 : decode cX12_layCounts 57 = .ok (.aload_n 0, 1) := by decide +kernel
theorem dX12_layCounts_58 : decode cX12_layCounts 58 = .ok (.getfield 87, 3) := by decide +kernel
theorem dX12_layCounts_61 : decode cX12_layCounts 61 = .ok (.sipush 800, 3) := by decide +kernel
theorem dX12_layCounts_64 : decode cX12_layCounts 64 = .ok (.iload_n 3, 1) := by decide +kernel
theorem dX12_layCounts_65 : decode cX12_layCounts 65 = .ok (.iconst 1, 1) := by decide +kernel
theorem dX12_layCounts_66 : decode cX12_layCounts 66 = .ok (.isub, 1) := by decide +kernel
theorem dX12_layCounts_67 : decode cX12_layCounts 67 = .ok (.imul, 1) := by decide +kernel
theorem dX12_layCounts_68 : decode cX12_layCounts 68 = .ok (.aload_n 0, 1) := by decide +kernel
theorem dX12_layCounts_69 : decode cX12_layCounts 69 = .ok (.getfield 69, 3) := by decide +kernel
theorem dX12_layCounts_72 : decode cX12_layCounts 72 = .ok (.sipush 2403, 3) := by decide +kernel
theorem dX12_layCounts_75 : decode cX12_layCounts 75 = .ok (.iload_n 1, 1) := by decide +kernel
theorem dX12_layCounts_76 : decode cX12_layCounts 76 = .ok (.imul, 1) := by decide +kernel
theorem dX12_layCounts_77 : decode cX12_layCounts 77 = .ok (.iconst 3, 1) := by decide +kernel
theorem dX12_layCounts_78 : decode cX12_layCounts 78 = .ok (.iload 4, 2) := by decide +kernel
theorem dX12_layCounts_80 : decode cX12_layCounts 80 = .ok (.imul, 1) := by decide +kernel
theorem dX12_layCounts_81 : decode cX12_layCounts 81 = .ok (.iadd, 1) := by decide +kernel
theorem dX12_layCounts_82 : decode cX12_layCounts 82 = .ok (.iload 6, 2) := by decide +kernel
theorem dX12_layCounts_84 : decode cX12_layCounts 84 = .ok (.iadd, 1) := by decide +kernel
theorem dX12_layCounts_85 : decode cX12_layCounts 85 = .ok (.iaload, 1) := by decide +kernel
theorem dX12_layCounts_86 : decode cX12_layCounts 86 = .ok (.iadd, 1) := by decide +kernel
theorem dX12_layCounts_87 : decode cX12_layCounts 87 = .ok (.iaload, 1) := by decide +kernel
theorem dX12_layCounts_88 : decode cX12_layCounts 88 = .ok (.iadd, 1) := by decide +kernel
theorem dX12_layCounts_89 : decode cX12_layCounts 89 = .ok (.istore 5, 2) := by decide +kernel
theorem dX12_layCounts_91 : decode cX12_layCounts 91 = .ok (.iinc 6 1, 3) := by decide +kernel
theorem dX12_layCounts_94 : decode cX12_layCounts 94 = .ok (.goto (-49), 3) := by decide +kernel
theorem dX12_layCounts_97 : decode cX12_layCounts 97 = .ok (.aload_n 0, 1) := by decide +kernel
theorem dX12_layCounts_98 : decode cX12_layCounts 98 = .ok (.getfield 87, 3) := by decide +kernel
theorem dX12_layCounts_101 : decode cX12_layCounts 101 = .ok (.sipush 800, 3) := by decide +kernel
theorem dX12_layCounts_104 : decode cX12_layCounts 104 = .ok (.iload_n 3, 1) := by decide +kernel
theorem dX12_layCounts_105 : decode cX12_layCounts 105 = .ok (.imul, 1) := by decide +kernel
theorem dX12_layCounts_106 : decode cX12_layCounts 106 = .ok (.iload 4, 2) := by decide +kernel
theorem dX12_layCounts_108 : decode cX12_layCounts 108 = .ok (.iadd, 1) := by decide +kernel
theorem dX12_layCounts_109 : decode cX12_layCounts 109 = .ok (.iload 5, 2) := by decide +kernel
theorem dX12_layCounts_111 : decode cX12_layCounts 111 = .ok (.iastore, 1) := by decide +kernel
theorem dX12_layCounts_112 : decode cX12_layCounts 112 = .ok (.iinc 4 1, 3) := by decide +kernel
theorem dX12_layCounts_115 : decode cX12_layCounts 115 = .ok (.goto (-105), 3) := by decide +kernel
theorem dX12_layCounts_118 : decode cX12_layCounts 118 = .ok (.iinc 3 1, 3) := by decide +kernel
theorem dX12_layCounts_121 : decode cX12_layCounts 121 = .ok (.goto (-119), 3) := by decide +kernel
theorem dX12_layCounts_124 : decode cX12_layCounts 124 = .ok (.return_, 1) := by decide +kernel
set_option maxRecDepth 20000 in
theorem ggX12_of_X12_isReader : GoodIn wsX12_of wsX12_isReader := goodIn_r _ [7, 8, 9, 6, 10] rfl (by decide +kernel)
set_option maxRecDepth 20000 in
theorem gX12_of_X12_isReader : GoodIn wsX12_of (va_wsS RX12 106 yX12_isReader wsX12_isReader) := goodIn_app (goodIn_of _ (by decide +kernel)) ggX12_of_X12_isReader
set_option maxRecDepth 20000 in
theorem ggX12_of_X12_in : GoodIn wsX12_of wsX12_in := goodIn_r _ [10] rfl (by decide +kernel)
set_option maxRecDepth 20000 in
theorem gX12_of_X12_in : GoodIn wsX12_of (va_wsS RX12 102 yX12_in wsX12_in) := goodIn_app (goodIn_of _ (by decide +kernel)) ggX12_of_X12_in
set_option maxRecDepth 20000 in
theorem ggX12_of_X12_layBegins : GoodIn wsX12_of wsX12_layBegins := goodIn_r _ [14, 15, 16, 17, 18, 3, 19, 20, 21, 6, 22, 23, 24, 25, 26, 27, 28, 29, 30, 31, 32, 33, 34, 35, 36, 37, 38, 39, 40, 41, 42, 43, 44, 45, 59, 60, 61, 62, 63, 64, 65, 66, 67, 68, 69, 70, 71, 72, 73, 74, 75, 76, 77, 78, 79, 80, 81, 82, 83, 84, 85, 86, 87, 88, 89, 90, 91, 92, 93, 94, 95, 96, 97, 98, 99, 100, 101] rfl (by decide +kernel)
set_option maxRecDepth 20000 in
theorem gX12_of_X12_layBegins : GoodIn wsX12_of (wsV RX12 275 RX12 yX12_layBegins wsX12_layBegins) := goodIn_app (goodIn_of _ (by decide +kernel)) ggX12_of_X12_layBegins
set_option maxRecDepth 20000 in
theorem ggX12_of_X12_layCounts : GoodIn wsX12_of wsX12_layCounts := goodIn_r _ [49, 16, 2, 3, 50, 51, 52, 6, 53, 15, 54, 55, 56, 57, 24, 58, 33, 34, 35, 36, 26, 27, 28, 59, 60, 61, 62, 63, 64, 65, 66, 67, 68, 69, 70, 71, 72, 73, 74, 75, 76, 77, 78, 79, 80, 81, 82, 83, 84, 85, 86, 87, 88, 89, 90, 91, 92, 93, 94, 95, 96, 97, 98, 99, 100, 101] rfl (by decide +kernel)
set_option maxRecDepth 20000 in
theorem gX12_of_X12_layCounts : GoodIn wsX12_of (wsV RX12 285 RX12 yX12_layCounts wsX12_layCounts) := goodIn_app (goodIn_of _ (by decide +kernel)) ggX12_of_X12_layCounts
theorem dX12_of_0 : decode cX12_of 0 = .ok (.iload_n 1, 1) := by decide +kernel
theorem dX12_of_1 : decode cX12_of 1 = .ok (.invokestatic 106, 3) := by decide +kernel
theorem dX12_of_4 : decode cX12_of 4 = .ok (.ifCond .ne 6, 3) := by decide +kernel
theorem dX12_of_7 : decode cX12_of 7 = .ok (.bipush (-2), 2) := by decide +kernel
theorem dX12_of_9 : decode cX12_of 9 = .ok (.ireturn, 1) := by decide +kernel
theorem dX12_of_10 : decode cX12_of 10 = .ok (.iload_n 2, 1) := by decide +kernel
theorem dX12_of_11 : decode cX12_of 11 = .ok (.i2l, 1) := by decide +kernel
theorem dX12_of_12 : decode cX12_of 12 = .ok (.lconst 0, 1) := by decide +kernel
theorem dX12_of_13 : decode cX12_of 13 = .ok (.ldc2_w 283, 3) := by decide +kernel
theorem dX12_of_16 : decode cX12_of 16 = .ok (.invokestatic 102, 3) := by decide +kernel
theorem dX12_of_19 : decode cX12_of 19 = .ok (.ifCond .eq 12, 3) := by decide +kernel
theorem dX12_of_22 : decode cX12_of 22 = .ok (.iload_n 3, 1) := by decide +kernel
theorem dX12_of_23 : decode cX12_of 23 = .ok (.ifCond .lt 8, 3) := by decide +kernel
theorem dX12_of_26 : decode cX12_of 26 = .ok (.iload 4, 2) := by decide +kernel
theorem dX12_of_28 : decode cX12_of 28 = .ok (.ifCond .ge 6, 3) := by decide +kernel
theorem dX12_of_31 : decode cX12_of 31 = .ok (.bipush (-3), 2) := by decide +kernel
theorem dX12_of_33 : decode cX12_of 33 = .ok (.ireturn, 1) := by decide +kernel
theorem dX12_of_34 : decode cX12_of 34 = .ok (.aload_n 0, 1) := by decide +kernel
theorem dX12_of_35 : decode cX12_of 35 = .ok (.iload_n 1, 1) := by decide +kernel
theorem dX12_of_36 : decode cX12_of 36 = .ok (.invokevirtual 275, 3) := by decide +kernel
theorem dX12_of_39 : decode cX12_of 39 = .ok (.ifCond .ne 6, 3) := by decide +kernel
theorem dX12_of_42 : decode cX12_of 42 = .ok (.bipush (-6), 2) := by decide +kernel
theorem dX12_of_44 : decode cX12_of 44 = .ok (.ireturn, 1) := by decide +kernel
theorem dX12_of_45 : decode cX12_of 45 = .ok (.aload_n 0, 1) := by decide +kernel
theorem dX12_of_46 : decode cX12_of 46 = .ok (.iload_n 1, 1) := by decide +kernel
theorem dX12_of_47 : decode cX12_of 47 = .ok (.iload_n 2, 1) := by decide +kernel
theorem dX12_of_48 : decode cX12_of 48 = .ok (.invokevirtual 285, 3) := by decide +kernel
theorem dX12_of_51 : decode cX12_of 51 = .ok (.iload_n 3, 1) := by decide +kernel
theorem dX12_of_52 : decode cX12_of 52 = .ok (.aload_n 0, 1) := by decide +kernel
theorem dX12_of_53 : decode cX12_of 53 = .ok (.getfield 87, 3) := by decide +kernel
theorem dX12_of_56 : decode cX12_of 56 = .ok (.sipush 800, 3) := by decide +kernel
theorem dX12_of_59 : decode cX12_of 59 = .ok (.iload_n 2, 1) := by decide +kernel
theorem dX12_of_60 : decode cX12_of 60 = .ok (.imul, 1) := by decide +kernel
theorem dX12_of_61 : decode cX12_of 61 = .ok (.iaload, 1) := by decide +kernel
theorem dX12_of_62 : decode cX12_of 62 = .ok (.if_icmp .ge 9, 3) := by decide +kernel
theorem dX12_of_65 : decode cX12_of 65 = .ok (.iload 4, 2) := by decide +kernel
theorem dX12_of_67 : decode cX12_of 67 = .ok (.iload_n 2, 1) := by decide +kernel
theorem dX12_of_68 : decode cX12_of 68 = .ok (.if_icmp .lt 5, 3) := by decide +kernel
theorem dX12_of_71 : decode cX12_of 71 = .ok (.iconst (-1), 1) := by decide +kernel
theorem dX12_of_72 : decode cX12_of 72 = .ok (.ireturn, 1) := by decide +kernel
theorem dX12_of_73 : decode cX12_of 73 = .ok (.iload_n 3, 1) := by decide +kernel
theorem dX12_of_74 : decode cX12_of 74 = .ok (.istore 5, 2) := by decide +kernel
theorem dX12_of_76 : decode cX12_of 76 = .ok (.iconst 0, 1) := by decide +kernel
theorem dX12_of_77 : decode cX12_of 77 = .ok (.istore 6, 2) := by decide +kernel
theorem dX12_of_79 : decode cX12_of 79 = .ok (.iconst 0, 1) := by decide +kernel
theorem dX12_of_80 : decode cX12_of 80 = .ok (.istore 7, 2) := by decide +kernel
theorem dX12_of_82 : decode cX12_of 82 = .ok (.iconst 0, 1) := by decide +kernel
theorem dX12_of_83 : decode cX12_of 83 = .ok (.istore 8, 2) := by decide +kernel
theorem dX12_of_85 : decode cX12_of 85 = .ok (.iload 8, 2) := by decide +kernel
theorem dX12_of_87 : decode cX12_of 87 = .ok (.iload 4, 2) := by decide +kernel
theorem dX12_of_89 : decode cX12_of 89 = .ok (.if_icmp .gt 105, 3) := by decide +kernel
theorem dX12_of_92 : decode cX12_of 92 = .ok (.iconst 0, 1) := by decide +kernel
theorem dX12_of_93 : decode cX12_of 93 = .ok (.istore 7, 2) := by decide +kernel
theorem dX12_of_95 : decode cX12_of 95 = .ok (.aload_n 0, 1) := by decide +kernel
theorem dX12_of_96 : decode cX12_of 96 = .ok (.getfield 69, 3) := by decide +kernel
theorem dX12_of_99 : decode cX12_of 99 = .ok (.sipush 2403, 3) := by decide +kernel
theorem dX12_of_102 : decode cX12_of 102 = .ok (.iload_n 1, 1) := by decide +kernel
theorem dX12_of_103 : decode cX12_of 103 = .ok (.imul, 1) := by decide +kernel
theorem dX12_of_104 : decode cX12_of 104 = .ok (.iconst 3, 1) := by decide +kernel
theorem dX12_of_105 : decode cX12_of 105 = .ok (.iload 6, 2) := by decide +kernel
theorem dX12_of_107 : decode cX12_of 107 = .ok (.imul, 1) := by decide +kernel
theorem dX12_of_108 : decode cX12_of 108 = .ok (.iadd, 1) := by decide +kernel
theorem dX12_of_109 : decode cX12_of 109 = .ok (.iaload, 1) := by decide +kernel
theorem dX12_of_110 : decode cX12_of 110 = .ok (.istore 9, 2) := by decide +kernel
theorem dX12_of_112 : decode cX12_of 112 = .ok (.iload 5, 2) := by decide +kernel
theorem dX12_of_114 : decode cX12_of 114 = .ok (.aload_n 0, 1) := by decide +kernel
theorem dX12_of_115 : decode cX12_of 115 = .ok (.getfield 87, 3) := by decide +kernel
theorem dX12_of_118 : decode cX12_of 118 = .ok (.sipush 800, 3) := by decide +kernel
theorem dX12_of_121 : decode cX12_of 121 = .ok (.iload_n 2, 1) := by decide +kernel
theorem dX12_of_122 : decode cX12_of 122 = .ok (.iconst 1, 1) := by decide +kernel
theorem dX12_of_123 : decode cX12_of 123 = .ok (.isub, 1) := by decide +kernel
theorem dX12_of_124 : decode cX12_of 124 = .ok (.iload 8, 2) := by decide +kernel
theorem dX12_of_126 : decode cX12_of 126 = .ok (.isub, 1) := by decide +kernel
theorem dX12_of_127 : decode cX12_of 127 = .ok (.imul, 1) := by decide +kernel
theorem dX12_of_128 : decode cX12_of 128 = .ok (.iload 9, 2) := by decide +kernel
theorem dX12_of_130 : decode cX12_of 130 = .ok (.iadd, 1) := by decide +kernel
theorem dX12_of_131 : decode cX12_of 131 = .ok (.iaload, 1) := by decide +kernel
theorem dX12_of_132 : decode cX12_of 132 = .ok (.if_icmp .lt 52, 3) := by decide +kernel
theorem dX12_of_135 : decode cX12_of 135 = .ok (.iload 5, 2) := by decide +kernel
theorem dX12_of_137 : decode cX12_of 137 = .ok (.aload_n 0, 1) := by decide +kernel
theorem dX12_of_138 : decode cX12_of 138 = .ok (.getfield 87, 3) := by decide +kernel
theorem dX12_of_141 : decode cX12_of 141 = .ok (.sipush 800, 3) := by decide +kernel
theorem dX12_of_144 : decode cX12_of 144 = .ok (.iload_n 2, 1) := by decide +kernel
theorem dX12_of_145 : decode cX12_of 145 = .ok (.iconst 1, 1) := by decide +kernel
theorem dX12_of_146 : decode cX12_of 146 = .ok (.isub, 1) := by decide +kernel
theorem dX12_of_147 : decode cX12_of 147 = .ok (.iload 8, 2) := by decide +kernel
theorem dX12_of_149 : decode cX12_of 149 = .ok (.isub, 1) := by decide +kernel
theorem dX12_of_150 : decode cX12_of 150 = .ok (.imul, 1) := by decide +kernel
theorem dX12_of_151 : decode cX12_of 151 = .ok (.iload 9, 2) := by decide +kernel
theorem dX12_of_153 : decode cX12_of 153 = .ok (.iadd, 1) := by decide +kernel
theorem dX12_of_154 : decode cX12_of 154 = .ok (.iaload, 1) := by decide +kernel
theorem dX12_of_155 : decode cX12_of 155 = .ok (.isub, 1) := by decide +kernel
theorem dX12_of_156 : decode cX12_of 156 = .ok (.istore 5, 2) := by decide +kernel
theorem dX12_of_158 : decode cX12_of 158 = .ok (.iinc 7 1, 3) := by decide +kernel
theorem dX12_of_161 : decode cX12_of 161 = .ok (.aload_n 0, 1) := by decide +kernel
theorem dX12_of_162 : decode cX12_of 162 = .ok (.getfield 69, 3) := by decide +kernel
theorem dX12_of_165 : decode cX12_of 165 = .ok (.sipush 2403, 3) := by decide +kernel
theorem dX12_of_168 : decode cX12_of 168 = .ok (.iload_n 1, 1) := by decide +kernel
theorem dX12_of_169 : decode cX12_of 169 = .ok (.imul, 1) := by decide +kernel
theorem dX12_of_170 : decode cX12_of 170 = .ok (.iconst 3, 1) := by decide +kernel
theorem dX12_of_171 : decode cX12_of 171 = .ok (.iload 6, 2) := by decide +kernel
theorem dX12_of_173 : decode cX12_of 173 = .ok (.imul, 1) := by decide +kernel
theorem dX12_of_174 : decode cX12_of 174 = .ok (.iadd, 1) := by decide +kernel
theorem dX12_of_175 : decode cX12_of 175 = .ok (.iload 7, 2) := by decide +kernel
theorem dX12_of_177 : decode cX12_of 177 = .ok (.iadd, 1) := by decide +kernel
theorem dX12_of_178 : decode cX12_of 178 = .ok (.iaload, 1) := by decide +kernel
theorem dX12_of_179 : decode cX12_of 179 = .ok (.istore 9, 2) := by decide +kernel
theorem dX12_of_181 : decode cX12_of 181 = .ok (.goto (-69), 3) := by decide +kernel
theorem dX12_of_184 : decode cX12_of 184 = .ok (.iload 9, 2) := by decide +kernel
theorem dX12_of_186 : decode cX12_of 186 = .ok (.istore 6, 2) := by decide +kernel
theorem dX12_of_188 : decode cX12_of 188 = .ok (.iinc 8 1, 3) := by decide +kernel
theorem dX12_of_191 : decode cX12_of 191 = .ok (.goto (-106), 3) := by decide +kernel
theorem dX12_of_194 : decode cX12_of 194 = .ok (.iload 7, 2) := by decide +kernel
theorem dX12_of_196 : decode cX12_of 196 = .ok (.ireturn, 1) := by decide +kernel
set_option maxRecDepth 20000 in
theorem ggX12_rank_X12_isReader : GoodIn wsX12_rank wsX12_isReader := goodIn_r _ [8, 9, 10, 7, 11] rfl (by decide +kernel)
set_option maxRecDepth 20000 in
theorem gX12_rank_X12_isReader : GoodIn wsX12_rank (va_wsS RX12 106 yX12_isReader wsX12_isReader) := goodIn_app (goodIn_of _ (by decide +kernel)) ggX12_rank_X12_isReader
set_option maxRecDepth 20000 in
theorem ggX12_rank_X12_layBegins : GoodIn wsX12_rank wsX12_layBegins := goodIn_r _ [15, 16, 17, 18, 19, 4, 20, 21, 22, 7, 23, 24, 25, 26, 27, 28, 29, 30, 31, 32, 33, 34, 35, 36, 37, 38, 39, 40, 41, 42, 43, 44, 45, 46, 60, 61, 62, 63, 64, 65, 66, 67, 68, 69, 70, 71, 72, 73, 74, 75, 76, 77, 78, 79, 80, 81, 82, 83, 84, 85, 86, 87, 88, 89, 90, 91, 92, 93, 94, 95, 96, 97, 98, 99, 100, 101, 102] rfl (by decide +kernel)
set_option maxRecDepth 20000 in
theorem gX12_rank_X12_layBegins : GoodIn wsX12_rank (wsV RX12 275 RX12 yX12_layBegins wsX12_layBegins) := goodIn_app (goodIn_of _ (by decide +kernel)) ggX12_rank_X12_layBegins
set_option maxRecDepth 20000 in
theorem ggX12_rank_X12_layCounts : GoodIn wsX12_rank wsX12_layCounts := goodIn_r _ [50, 17, 3, 4, 51, 52, 53, 7, 54, 16, 55, 56, 57, 58, 25, 59, 34, 35, 36, 37, 27, 28, 29, 60, 61, 62, 63, 64, 65, 66, 67, 68, 69, 70, 71, 72, 73, 74, 75, 76, 77, 78, 79, 80, 81, 82, 83, 84, 85, 86, 87, 88, 89, 90, 91, 92, 93, 94, 95, 96, 97, 98, 99, 100, 101, 102] rfl (by decide +kernel)
set_option maxRecDepth 20000 in
theorem gX12_rank_X12_layCounts : GoodIn wsX12_rank (wsV RX12 285 RX12 yX12_layCounts wsX12_layCounts) := goodIn_app (goodIn_of _ (by decide +kernel)) ggX12_rank_X12_layCounts
set_option maxRecDepth 20000 in
theorem ggX12_rank_X12_isTaken : GoodIn wsX12_rank wsX12_isTaken := goodIn_r _ [54, 16, 55, 56, 57, 7, 58, 25, 59, 34, 35, 36, 37, 27, 28, 29, 60, 61, 62, 63, 64, 65, 66, 67, 68, 69, 70, 71, 72, 73, 74, 75, 76, 77, 78, 79, 80, 81, 82, 83, 84, 85, 86, 87, 88, 89, 90, 91, 92, 93, 94, 95, 96, 97, 98, 99, 100, 101, 102] rfl (by decide +kernel)
set_option maxRecDepth 20000 in
theorem gX12_rank_X12_isTaken : GoodIn wsX12_rank (wsV RX12 280 RX12 yX12_isTaken wsX12_isTaken) := goodIn_app (goodIn_of _ (by decide +kernel)) ggX12_rank_X12_isTaken
theorem dX12_rank_0 : decode cX12_rank 0 = .ok (.iload_n 1, 1) := by decide +kernel
theorem dX12_rank_1 : decode cX12_rank 1 = .ok (.invokestatic 106, 3) := by decide +kernel
theorem dX12_rank_4 : decode cX12_rank 4 = .ok (.ifCond .ne 6, 3) := by decide +kernel
theorem dX12_rank_7 : decode cX12_rank 7 = .ok (.bipush (-2), 2) := by decide +kernel
theorem dX12_rank_9 : decode cX12_rank 9 = .ok (.ireturn, 1) := by decide +kernel
theorem dX12_rank_10 : decode cX12_rank 10 = .ok (.aload_n 0, 1) := by decide +kernel
theorem dX12_rank_11 : decode cX12_rank 11 = .ok (.getfield 178, 3) := by decide +kernel
theorem dX12_rank_14 : decode cX12_rank 14 = .ok (.bipush 12, 2) := by decide +kernel
theorem dX12_rank_16 : decode cX12_rank 16 = .ok (.if_icmp .le 6, 3) := by decide +kernel
theorem dX12_rank_19 : decode cX12_rank 19 = .ok (.bipush (-4), 2) := by decide +kernel
theorem dX12_rank_21 : decode cX12_rank 21 = .ok (.ireturn, 1) := by decide +kernel
theorem dX12_rank_22 : decode cX12_rank 22 = .ok (.aload_n 0, 1) := by decide +kernel
theorem dX12_rank_23 : decode cX12_rank 23 = .ok (.iload_n 1, 1) := by decide +kernel
theorem dX12_rank_24 : decode cX12_rank 24 = .ok (.invokevirtual 275, 3) := by decide +kernel
theorem dX12_rank_27 : decode cX12_rank 27 = .ok (.ifCond .ne 6, 3) := by decide +kernel
theorem dX12_rank_30 : decode cX12_rank 30 = .ok (.bipush (-6), 2) := by decide +kernel
theorem dX12_rank_32 : decode cX12_rank 32 = .ok (.ireturn, 1) := by decide +kernel
theorem dX12_rank_33 : decode cX12_rank 33 = .ok (.aload_n 0, 1) := by decide +kernel
theorem dX12_rank_34 : decode cX12_rank 34 = .ok (.iload_n 1, 1) := by decide +kernel
theorem dX12_rank_35 : decode cX12_rank 35 = .ok (.aload_n 0, 1) := by decide +kernel
theorem dX12_rank_36 : decode cX12_rank 36 = .ok (.getfield 178, 3) := by decide +kernel
theorem dX12_rank_39 : decode cX12_rank 39 = .ok (.invokevirtual 285, 3) := by decide +kernel
theorem dX12_rank_42 : decode cX12_rank 42 = .ok (.iconst 0, 1) := by decide +kernel
theorem dX12_rank_43 : decode cX12_rank 43 = .ok (.istore_n 2, 1) := by decide +kernel
theorem dX12_rank_44 : decode cX12_rank 44 = .ok (.iconst 0, 1) := by decide +kernel
theorem dX12_rank_45 : decode cX12_rank 45 = .ok (.istore_n 3, 1) := by decide +kernel
theorem dX12_rank_46 : decode cX12_rank 46 = .ok (.iconst 0, 1) := by decide +kernel
theorem dX12_rank_47 : decode cX12_rank 47 = .ok (.istore 4, 2) := by decide +kernel
theorem dX12_rank_49 : decode cX12_rank 49 = .ok (.iload 4, 2) := by decide +kernel
theorem dX12_rank_51 : decode cX12_rank 51 = .ok (.aload_n 0, 1) := by decide +kernel
theorem dX12_rank_52 : decode cX12_rank 52 = .ok (.getfield 178, 3) := by decide +kernel
theorem dX12_rank_55 : decode cX12_rank 55 = .ok (.if_icmp .ge 92, 3) := by decide +kernel
theorem dX12_rank_58 : decode cX12_rank 58 = .ok (.iconst 0, 1) := by decide +kernel
theorem dX12_rank_59 : decode cX12_rank 59 = .ok (.istore 5, 2) := by decide +kernel
theorem dX12_rank_61 : decode cX12_rank 61 = .ok (.iload 5, 2) := by decide +kernel
theorem dX12_rank_63 : decode cX12_rank 63 = .ok (.aload_n 0, 1) := by decide +kernel
theorem dX12_rank_64 : decode cX12_rank 64 = .ok (.getfield 43, 3) := by decide +kernel
theorem dX12_rank_67 : decode cX12_rank 67 = .ok (.iload 4, 2) := by decide +kernel
theorem dX12_rank_69 : decode cX12_rank 69 = .ok (.iaload, 1) := by decide +kernel
theorem dX12_rank_70 : decode cX12_rank 70 = .ok (.if_icmp .ge 48, 3) := by decide +kernel
theorem dX12_rank_73 : decode cX12_rank 73 = .ok (.iload_n 2, 1) := by decide +kernel
theorem dX12_rank_74 : decode cX12_rank 74 = .ok (.aload_n 0, 1) := by decide +kernel
theorem dX12_rank_75 : decode cX12_rank 75 = .ok (.getfield 87, 3) := by decide +kernel
theorem dX12_rank_78 : decode cX12_rank 78 = .ok (.sipush 800, 3) := by decide +kernel
theorem dX12_rank_81 : decode cX12_rank 81 = .ok (.aload_n 0, 1) := by decide +kernel
theorem dX12_rank_82 : decode cX12_rank 82 = .ok (.getfield 178, 3) := by decide +kernel
theorem dX12_rank_85 : decode cX12_rank 85 = .ok (.iconst 1, 1) := by decide +kernel
theorem dX12_rank_86 : decode cX12_rank 86 = .ok (.isub, 1) := by decide +kernel
theorem dX12_rank_87 : decode cX12_rank 87 = .ok (.iload 4, 2) := by decide +kernel
theorem dX12_rank_89 : decode cX12_rank 89 = .ok (.isub, 1) := by decide +kernel
theorem dX12_rank_90 : decode cX12_rank 90 = .ok (.imul, 1) := by decide +kernel
theorem dX12_rank_91 : decode cX12_rank 91 = .ok (.aload_n 0, 1) := by decide +kernel
theorem dX12_rank_92 : decode cX12_rank 92 = .ok (.getfield 69, 3) := by decide +kernel
theorem dX12_rank_95 : decode cX12_rank 95 = .ok (.sipush 2403, 3) := by decide +kernel
theorem dX12_rank_98 : decode cX12_rank 98 = .ok (.iload_n 1, 1) := by decide +kernel
theorem dX12_rank_99 : decode cX12_rank 99 = .ok (.imul, 1) := by decide +kernel
theorem dX12_rank_100 : decode cX12_rank 100 = .ok (.iconst 3, 1) := by decide +kernel
theorem dX12_rank_101 : decode cX12_rank 101 = .ok (.iload_n 3, 1) := by decide +kernel
theorem dX12_rank_102 : decode cX12_rank 102 = .ok (.imul, 1) := by decide +kernel
theorem dX12_rank_103 : decode cX12_rank 103 = .ok (.iadd, 1) := by decide +kernel
theorem dX12_rank_104 : decode cX12_rank 104 = .ok (.iload 5, 2) := by decide +kernel
theorem dX12_rank_106 : decode cX12_rank 106 = .ok (.iadd, 1) := by decide +kernel
theorem dX12_rank_107 : decode cX12_rank 107 = .ok (.iaload, 1) := by decide +kernel
theorem dX12_rank_108 : decode cX12_rank 108 = .ok (.iadd, 1) := by decide +kernel
theorem dX12_rank_109 : decode cX12_rank 109 = .ok (.iaload, 1) := by decide +kernel
theorem dX12_rank_110 : decode cX12_rank 110 = .ok (.iadd, 1) := by decide +kernel
theorem dX12_rank_111 : decode cX12_rank 111 = .ok (.istore_n 2, 1) := by decide +kernel
theorem dX12_rank_112 : decode cX12_rank 112 = .ok (.iinc 5 1, 3) := by decide +kernel
theorem dX12_rank_115 : decode cX12_rank 115 = .ok (.goto (-54), 3) := by decide +kernel
theorem dX12_rank_118 : decode cX12_rank 118 = .ok (.aload_n 0, 1) := by decide +kernel
theorem dX12_rank_119 : decode cX12_rank 119 = .ok (.getfield 69, 3) := by decide +kernel
theorem dX12_rank_122 : decode cX12_rank 122 = .ok (.sipush 2403, 3) := by decide +kernel
theorem dX12_rank_125 : decode cX12_rank 125 = .ok (.iload_n 1, 1) := by decide +kernel
theorem dX12_rank_126 : decode cX12_rank 126 = .ok (.imul, 1) := by decide +kernel
theorem dX12_rank_127 : decode cX12_rank 127 = .ok (.iconst 3, 1) := by decide +kernel
theorem dX12_rank_128 : decode cX12_rank 128 = .ok (.iload_n 3, 1) := by decide +kernel
theorem dX12_rank_129 : decode cX12_rank 129 = .ok (.imul, 1) := by decide +kernel
theorem dX12_rank_130 : decode cX12_rank 130 = .ok (.iadd, 1) := by decide +kernel
theorem dX12_rank_131 : decode cX12_rank 131 = .ok (.aload_n 0, 1) := by decide +kernel
theorem dX12_rank_132 : decode cX12_rank 132 = .ok (.getfield 43, 3) := by decide +kernel
theorem dX12_rank_135 : decode cX12_rank 135 = .ok (.iload 4, 2) := by decide +kernel
theorem dX12_rank_137 : decode cX12_rank 137 = .ok (.iaload, 1) := by decide +kernel
theorem dX12_rank_138 : decode cX12_rank 138 = .ok (.iadd, 1) := by decide +kernel
theorem dX12_rank_139 : decode cX12_rank 139 = .ok (.iaload, 1) := by decide +kernel
theorem dX12_rank_140 : decode cX12_rank 140 = .ok (.istore_n 3, 1) := by decide +kernel
theorem dX12_rank_141 : decode cX12_rank 141 = .ok (.iinc 4 1, 3) := by decide +kernel
theorem dX12_rank_144 : decode cX12_rank 144 = .ok (.goto (-95), 3) := by decide +kernel
theorem dX12_rank_147 : decode cX12_rank 147 = .ok (.aload_n 0, 1) := by decide +kernel
theorem dX12_rank_148 : decode cX12_rank 148 = .ok (.iload_n 1, 1) := by decide +kernel
theorem dX12_rank_149 : decode cX12_rank 149 = .ok (.iload_n 3, 1) := by decide +kernel
theorem dX12_rank_150 : decode cX12_rank 150 = .ok (.invokevirtual 280, 3) := by decide +kernel
theorem dX12_rank_153 : decode cX12_rank 153 = .ok (.ifCond .eq 7, 3) := by decide +kernel
theorem dX12_rank_156 : decode cX12_rank 156 = .ok (.iload_n 2, 1) := by decide +kernel
theorem dX12_rank_157 : decode cX12_rank 157 = .ok (.goto 4, 3) := by decide +kernel
theorem dX12_rank_160 : decode cX12_rank 160 = .ok (.iconst (-1), 1) := by decide +kernel
theorem dX12_rank_161 : decode cX12_rank 161 = .ok (.ireturn, 1) := by decide +kernel
theorem dX12_areLike_0 : decode cX12_areLike 0 = .ok (.aload_n 0, 1) := by decide +kernel
theorem dX12_areLike_1 : decode cX12_areLike 1 = .ok (.getfield 90, 3) := by decide +kernel
theorem dX12_areLike_4 : decode cX12_areLike 4 = .ok (.iload_n 2, 1) := by decide +kernel
theorem dX12_areLike_5 : decode cX12_areLike 5 = .ok (.iaload, 1) := by decide +kernel
theorem dX12_areLike_6 : decode cX12_areLike 6 = .ok (.aload_n 0, 1) := by decide +kernel
theorem dX12_areLike_7 : decode cX12_areLike 7 = .ok (.getfield 90, 3) := by decide +kernel
theorem dX12_areLike_10 : decode cX12_areLike 10 = .ok (.iload_n 3, 1) := by decide +kernel
theorem dX12_areLike_11 : decode cX12_areLike 11 = .ok (.iaload, 1) := by decide +kernel
theorem dX12_areLike_12 : decode cX12_areLike 12 = .ok (.if_icmp .ne 7, 3) := by decide +kernel
theorem dX12_areLike_15 : decode cX12_areLike 15 = .ok (.iconst 1, 1) := by decide +kernel
theorem dX12_areLike_16 : decode cX12_areLike 16 = .ok (.goto 4, 3) := by decide +kernel
theorem dX12_areLike_19 : decode cX12_areLike 19 = .ok (.iconst 0, 1) := by decide +kernel
theorem dX12_areLike_20 : decode cX12_areLike 20 = .ok (.istore 4, 2) := by decide +kernel
theorem dX12_areLike_22 : decode cX12_areLike 22 = .ok (.iconst 0, 1) := by decide +kernel
theorem dX12_areLike_23 : decode cX12_areLike 23 = .ok (.istore 5, 2) := by decide +kernel
theorem dX12_areLike_25 : decode cX12_areLike 25 = .ok (.iload 5, 2) := by decide +kernel
theorem dX12_areLike_27 : decode cX12_areLike 27 = .ok (.iconst 3, 1) := by decide +kernel
theorem dX12_areLike_28 : decode cX12_areLike 28 = .ok (.if_icmp .ge 68, 3) := by decide +kernel
theorem dX12_areLike_31 : decode cX12_areLike 31 = .ok (.iload 4, 2) := by decide +kernel
theorem dX12_areLike_33 : decode cX12_areLike 33 = .ok (.ifCond .eq 54, 3) := by decide +kernel
theorem dX12_areLike_36 : decode cX12_areLike 36 = .ok (.aload_n 0, 1) := by decide +kernel
theorem dX12_areLike_37 : decode cX12_areLike 37 = .ok (.getfield 90, 3) := by decide +kernel
theorem dX12_areLike_40 : decode cX12_areLike 40 = .ok (.aload_n 0, 1) := by decide +kernel
theorem dX12_areLike_41 : decode cX12_areLike 41 = .ok (.getfield 69, 3) := by decide +kernel
theorem dX12_areLike_44 : decode cX12_areLike 44 = .ok (.sipush 2403, 3) := by decide +kernel
theorem dX12_areLike_47 : decode cX12_areLike 47 = .ok (.iload_n 1, 1) := by decide +kernel
theorem dX12_areLike_48 : decode cX12_areLike 48 = .ok (.imul, 1) := by decide +kernel
theorem dX12_areLike_49 : decode cX12_areLike 49 = .ok (.iconst 3, 1) := by decide +kernel
theorem dX12_areLike_50 : decode cX12_areLike 50 = .ok (.iload_n 2, 1) := by decide +kernel
theorem dX12_areLike_51 : decode cX12_areLike 51 = .ok (.imul, 1) := by decide +kernel
theorem dX12_areLike_52 : decode cX12_areLike 52 = .ok (.iadd, 1) := by decide +kernel
theorem dX12_areLike_53 : decode cX12_areLike 53 = .ok (.iload 5, 2) := by decide +kernel
theorem dX12_areLike_55 : decode cX12_areLike 55 = .ok (.iadd, 1) := by decide +kernel
theorem dX12_areLike_56 : decode cX12_areLike 56 = .ok (.iaload, 1) := by decide +kernel
theorem dX12_areLike_57 : decode cX12_areLike 57 = .ok (.iaload, 1) := by decide +kernel
theorem dX12_areLike_58 : decode cX12_areLike 58 = .ok (.aload_n 0, 1) := by decide +kernel
theorem dX12_areLike_59 : decode cX12_areLike 59 = .ok (.getfield 90, 3) := by decide +kernel
theorem dX12_areLike_62 : decode cX12_areLike 62 = .ok (.aload_n 0, 1) := by decide +kernel
theorem dX12_areLike_63 : decode cX12_areLike 63 = .ok (.getfield 69, 3) := by decide +kernel
theorem dX12_areLike_66 : decode cX12_areLike 66 = .ok (.sipush 2403, 3) := by decide +kernel
theorem dX12_areLike_69 : decode cX12_areLike 69 = .ok (.iload_n 1, 1) := by decide +kernel
theorem dX12_areLike_70 : decode cX12_areLike 70 = .ok (.imul, 1) := by decide +kernel
theorem dX12_areLike_71 : decode cX12_areLike 71 = .ok (.iconst 3, 1) := by decide +kernel
theorem dX12_areLike_72 : decode cX12_areLike 72 = .ok (.iload_n 3, 1) := by decide +kernel
theorem dX12_areLike_73 : decode cX12_areLike 73 = .ok (.imul, 1) := by decide +kernel
theorem dX12_areLike_74 : decode cX12_areLike 74 = .ok (.iadd, 1) := by decide +kernel
theorem dX12_areLike_75 : decode cX12_areLike 75 = .ok (.iload 5, 2) := by decide +kernel
theorem dX12_areLike_77 : decode cX12_areLike 77 = .ok (.iadd, 1) := by decide +kernel
theorem dX12_areLike_78 : decode cX12_areLike 78 = .ok (.iaload, 1) := by decide +kernel
theorem dX12_areLike_79 : decode cX12_areLike 79 = .ok (.iaload, 1) := by decide +kernel
theorem dX12_areLike_80 : decode cX12_areLike 80 = .ok (.if_icmp .ne 7, 3) := by decide +kernel
theorem dX12_areLike_83 : decode cX12_areLike 83 = .ok (.iconst 1, 1) := by decide +kernel
theorem dX12_areLike_84 : decode cX12_areLike 84 = .ok (.goto 4, 3) := by decide +kernel
theorem dX12_areLike_87 : decode cX12_areLike 87 = .ok (.iconst 0, 1) := by decide +kernel
theorem dX12_areLike_88 : decode cX12_areLike 88 = .ok (.istore 4, 2) := by decide +kernel
theorem dX12_areLike_90 : decode cX12_areLike 90 = .ok (.iinc 5 1, 3) := by decide +kernel
theorem dX12_areLike_93 : decode cX12_areLike 93 = .ok (.goto (-68), 3) := by decide +kernel
theorem dX12_areLike_96 : decode cX12_areLike 96 = .ok (.iload 4, 2) := by decide +kernel
theorem dX12_areLike_98 : decode cX12_areLike 98 = .ok (.ireturn, 1) := by decide +kernel
set_option maxRecDepth 20000 in
theorem ggX12_layGroups_X12_isTaken : GoodIn wsX12_layGroups wsX12_isTaken := goodIn_r _ [8, 9, 10, 11, 12, 7, 13, 14, 15, 16, 17, 18, 19, 20, 21, 22, 28, 29, 30, 31, 32, 33, 34, 35, 36, 37, 38, 39, 40, 41, 42, 43, 44, 45, 46, 47, 48, 49, 50, 51, 52, 53, 54, 55, 56, 57, 58, 59, 60, 61, 62, 63, 64, 65, 66, 67, 68, 69, 70] rfl (by decide +kernel)
set_option maxRecDepth 20000 in
theorem gX12_layGroups_X12_isTaken : GoodIn wsX12_layGroups (wsV RX12 280 RX12 yX12_isTaken wsX12_isTaken) := goodIn_app (goodIn_of _ (by decide +kernel)) ggX12_layGroups_X12_isTaken
set_option maxRecDepth 20000 in
theorem ggX12_layGroups_X12_areLike : GoodIn wsX12_layGroups wsX12_areLike := goodIn_r _ [26, 2, 27, 28, 29, 30, 31, 32, 33, 34, 35, 36, 37, 38, 39, 40, 41, 42, 43, 44, 45, 46, 47, 48, 49, 50, 51, 52, 53, 54, 55, 56, 57, 58, 59, 60, 61, 62, 63, 64, 65, 66, 67, 68, 69, 70] rfl (by decide +kernel)
set_option maxRecDepth 20000 in
theorem gX12_layGroups_X12_areLike : GoodIn wsX12_layGroups (wsV RX12 289 RX12 yX12_areLike wsX12_areLike) := goodIn_app (goodIn_of _ (by decide +kernel)) ggX12_layGroups_X12_areLike
theorem dX12_layGroups_0 : decode cX12_layGroups 0 = .ok (.iconst 0, 1) := by decide +kernel
theorem dX12_layGroups_1 : decode cX12_layGroups 1 = .ok (.istore_n 2, 1) := by decide +kernel
theorem dX12_layGroups_2 : decode cX12_layGroups 2 = .ok (.iconst 1, 1) := by decide +kernel
theorem dX12_layGroups_3 : decode cX12_layGroups 3 = .ok (.istore_n 3, 1) := by decide +kernel
theorem dX12_layGroups_4 : decode cX12_layGroups 4 = .ok (.iconst 0, 1) := by decide +kernel
theorem dX12_layGroups_5 : decode cX12_layGroups 5 = .ok (.istore 4, 2) := by decide +kernel
theorem dX12_layGroups_7 : decode cX12_layGroups 7 = .ok (.iload 4, 2) := by decide +kernel
theorem dX12_layGroups_9 : decode cX12_layGroups 9 = .ok (.aload_n 0, 1) := by decide +kernel
theorem dX12_layGroups_10 : decode cX12_layGroups 10 = .ok (.getfield 72, 3) := by decide +kernel
theorem dX12_layGroups_13 : decode cX12_layGroups 13 = .ok (.iload_n 1, 1) := by decide +kernel
theorem dX12_layGroups_14 : decode cX12_layGroups 14 = .ok (.iaload, 1) := by decide +kernel
theorem dX12_layGroups_15 : decode cX12_layGroups 15 = .ok (.if_icmp .ge 31, 3) := by decide +kernel
theorem dX12_layGroups_18 : decode cX12_layGroups 18 = .ok (.aload_n 0, 1) := by decide +kernel
theorem dX12_layGroups_19 : decode cX12_layGroups 19 = .ok (.getfield 90, 3) := by decide +kernel
theorem dX12_layGroups_22 : decode cX12_layGroups 22 = .ok (.iload 4, 2) := by decide +kernel
theorem dX12_layGroups_24 : decode cX12_layGroups 24 = .ok (.aload_n 0, 1) := by decide +kernel
theorem dX12_layGroups_25 : decode cX12_layGroups 25 = .ok (.iload_n 1, 1) := by decide +kernel
theorem dX12_layGroups_26 : decode cX12_layGroups 26 = .ok (.iload 4, 2) := by decide +kernel
theorem dX12_layGroups_28 : decode cX12_layGroups 28 = .ok (.invokevirtual 280, 3) := by decide +kernel
theorem dX12_layGroups_31 : decode cX12_layGroups 31 = .ok (.ifCond .eq 7, 3) := by decide +kernel
theorem dX12_layGroups_34 : decode cX12_layGroups 34 = .ok (.iconst 1, 1) := by decide +kernel
theorem dX12_layGroups_35 : decode cX12_layGroups 35 = .ok (.goto 4, 3) := by decide +kernel
theorem dX12_layGroups_38 : decode cX12_layGroups 38 = .ok (.iconst 0, 1) := by decide +kernel
theorem dX12_layGroups_39 : decode cX12_layGroups 39 = .ok (.iastore, 1) := by decide +kernel
theorem dX12_layGroups_40 : decode cX12_layGroups 40 = .ok (.iinc 4 1, 3) := by decide +kernel
theorem dX12_layGroups_43 : decode cX12_layGroups 43 = .ok (.goto (-36), 3) := by decide +kernel
theorem dX12_layGroups_46 : decode cX12_layGroups 46 = .ok (.iload_n 3, 1) := by decide +kernel
theorem dX12_layGroups_47 : decode cX12_layGroups 47 = .ok (.iload_n 2, 1) := by decide +kernel
theorem dX12_layGroups_48 : decode cX12_layGroups 48 = .ok (.if_icmp .eq 147, 3) := by decide +kernel
theorem dX12_layGroups_51 : decode cX12_layGroups 51 = .ok (.iload_n 3, 1) := by decide +kernel
theorem dX12_layGroups_52 : decode cX12_layGroups 52 = .ok (.istore_n 2, 1) := by decide +kernel
theorem dX12_layGroups_53 : decode cX12_layGroups 53 = .ok (.iconst 0, 1) := by decide +kernel
theorem dX12_layGroups_54 : decode cX12_layGroups 54 = .ok (.istore_n 3, 1) := by decide +kernel
theorem dX12_layGroups_55 : decode cX12_layGroups 55 = .ok (.iconst 0, 1) := by decide +kernel
theorem dX12_layGroups_56 : decode cX12_layGroups 56 = .ok (.istore 4, 2) := by decide +kernel
theorem dX12_layGroups_58 : decode cX12_layGroups 58 = .ok (.iload 4, 2) := by decide +kernel
theorem dX12_layGroups_60 : decode cX12_layGroups 60 = .ok (.aload_n 0, 1) := by decide +kernel
theorem dX12_layGroups_61 : decode cX12_layGroups 61 = .ok (.getfield 72, 3) := by decide +kernel
theorem dX12_layGroups_64 : decode cX12_layGroups 64 = .ok (.iload_n 1, 1) := by decide +kernel
theorem dX12_layGroups_65 : decode cX12_layGroups 65 = .ok (.iaload, 1) := by decide +kernel
theorem dX12_layGroups_66 : decode cX12_layGroups 66 = .ok (.if_icmp .ge 92, 3) := by decide +kernel
theorem dX12_layGroups_69 : decode cX12_layGroups 69 = .ok (.iconst (-1), 1) := by decide +kernel
theorem dX12_layGroups_70 : decode cX12_layGroups 70 = .ok (.istore 5, 2) := by decide +kernel
theorem dX12_layGroups_72 : decode cX12_layGroups 72 = .ok (.iconst 0, 1) := by decide +kernel
theorem dX12_layGroups_73 : decode cX12_layGroups 73 = .ok (.istore 6, 2) := by decide +kernel
theorem dX12_layGroups_75 : decode cX12_layGroups 75 = .ok (.iload 6, 2) := by decide +kernel
theorem dX12_layGroups_77 : decode cX12_layGroups 77 = .ok (.iload 4, 2) := by decide +kernel
theorem dX12_layGroups_79 : decode cX12_layGroups 79 = .ok (.if_icmp .ge 35, 3) := by decide +kernel
theorem dX12_layGroups_82 : decode cX12_layGroups 82 = .ok (.iload 5, 2) := by decide +kernel
theorem dX12_layGroups_84 : decode cX12_layGroups 84 = .ok (.iconst (-1), 1) := by decide +kernel
theorem dX12_layGroups_85 : decode cX12_layGroups 85 = .ok (.if_icmp .ne 29, 3) := by decide +kernel
theorem dX12_layGroups_88 : decode cX12_layGroups 88 = .ok (.aload_n 0, 1) := by decide +kernel
theorem dX12_layGroups_89 : decode cX12_layGroups 89 = .ok (.iload_n 1, 1) := by decide +kernel
theorem dX12_layGroups_90 : decode cX12_layGroups 90 = .ok (.iload 6, 2) := by decide +kernel
theorem dX12_layGroups_92 : decode cX12_layGroups 92 = .ok (.iload 4, 2) := by decide +kernel
theorem dX12_layGroups_94 : decode cX12_layGroups 94 = .ok (.invokevirtual 289, 3) := by decide +kernel
theorem dX12_layGroups_97 : decode cX12_layGroups 97 = .ok (.ifCond .eq 8, 3) := by decide +kernel
theorem dX12_layGroups_100 : decode cX12_layGroups 100 = .ok (.iload 6, 2) := by decide +kernel
theorem dX12_layGroups_102 : decode cX12_layGroups 102 = .ok (.goto 4, 3) := by decide +kernel
theorem dX12_layGroups_105 : decode cX12_layGroups 105 = .ok (.iconst (-1), 1) := by decide +kernel
theorem dX12_layGroups_106 : decode cX12_layGroups 106 = .ok (.istore 5, 2) := by decide +kernel
theorem dX12_layGroups_108 : decode cX12_layGroups 108 = .ok (.iinc 6 1, 3) := by decide +kernel
theorem dX12_layGroups_111 : decode cX12_layGroups 111 = .ok (.goto (-36), 3) := by decide +kernel
theorem dX12_layGroups_114 : decode cX12_layGroups 114 = .ok (.aload_n 0, 1) := by decide +kernel
theorem dX12_layGroups_115 : decode cX12_layGroups 115 = .ok (.getfield 93, 3) := by decide +kernel
theorem dX12_layGroups_118 : decode cX12_layGroups 118 = .ok (.iload 4, 2) := by decide +kernel
theorem dX12_layGroups_120 : decode cX12_layGroups 120 = .ok (.iload 5, 2) := by decide +kernel
theorem dX12_layGroups_122 : decode cX12_layGroups 122 = .ok (.iconst (-1), 1) := by decide +kernel
theorem dX12_layGroups_123 : decode cX12_layGroups 123 = .ok (.if_icmp .ne 7, 3) := by decide +kernel
theorem dX12_layGroups_126 : decode cX12_layGroups 126 = .ok (.iload_n 3, 1) := by decide +kernel
theorem dX12_layGroups_127 : decode cX12_layGroups 127 = .ok (.goto 10, 3) := by decide +kernel
theorem dX12_layGroups_130 : decode cX12_layGroups 130 = .ok (.aload_n 0, 1) := by decide +kernel
theorem dX12_layGroups_131 : decode cX12_layGroups 131 = .ok (.getfield 93, 3) := by decide +kernel
theorem dX12_layGroups_134 : decode cX12_layGroups 134 = .ok (.iload 5, 2) := by decide +kernel
theorem dX12_layGroups_136 : decode cX12_layGroups 136 = .ok (.iaload, 1) := by decide +kernel
theorem dX12_layGroups_137 : decode cX12_layGroups 137 = .ok (.iastore, 1) := by decide +kernel
theorem dX12_layGroups_138 : decode cX12_layGroups 138 = .ok (.iload_n 3, 1) := by decide +kernel
theorem dX12_layGroups_139 : decode cX12_layGroups 139 = .ok (.iload 5, 2) := by decide +kernel
theorem dX12_layGroups_141 : decode cX12_layGroups 141 = .ok (.iconst (-1), 1) := by decide +kernel
theorem dX12_layGroups_142 : decode cX12_layGroups 142 = .ok (.if_icmp .ne 7, 3) := by decide +kernel
theorem dX12_layGroups_145 : decode cX12_layGroups 145 = .ok (.iconst 1, 1) := by decide +kernel
theorem dX12_layGroups_146 : decode cX12_layGroups 146 = .ok (.goto 4, 3) := by decide +kernel
theorem dX12_layGroups_149 : decode cX12_layGroups 149 = .ok (.iconst 0, 1) := by decide +kernel
theorem dX12_layGroups_150 : decode cX12_layGroups 150 = .ok (.iadd, 1) := by decide +kernel
theorem dX12_layGroups_151 : decode cX12_layGroups 151 = .ok (.istore_n 3, 1) := by decide +kernel
theorem dX12_layGroups_152 : decode cX12_layGroups 152 = .ok (.iinc 4 1, 3) := by decide +kernel
theorem dX12_layGroups_155 : decode cX12_layGroups 155 = .ok (.goto (-97), 3) := by decide +kernel
theorem dX12_layGroups_158 : decode cX12_layGroups 158 = .ok (.iconst 0, 1) := by decide +kernel
theorem dX12_layGroups_159 : decode cX12_layGroups 159 = .ok (.istore 4, 2) := by decide +kernel
theorem dX12_layGroups_161 : decode cX12_layGroups 161 = .ok (.iload 4, 2) := by decide +kernel
theorem dX12_layGroups_163 : decode cX12_layGroups 163 = .ok (.aload_n 0, 1) := by decide +kernel
theorem dX12_layGroups_164 : decode cX12_layGroups 164 = .ok (.getfield 72, 3) := by decide +kernel
theorem dX12_layGroups_167 : decode cX12_layGroups 167 = .ok (.iload_n 1, 1) := by decide +kernel
theorem dX12_layGroups_168 : decode cX12_layGroups 168 = .ok (.iaload, 1) := by decide +kernel
theorem dX12_layGroups_169 : decode cX12_layGroups 169 = .ok (.if_icmp .ge 23, 3) := by decide +kernel
theorem dX12_layGroups_172 : decode cX12_layGroups 172 = .ok (.aload_n 0, 1) := by decide +kernel
theorem dX12_layGroups_173 : decode cX12_layGroups 173 = .ok (.getfield 90, 3) := by decide +kernel
theorem dX12_layGroups_176 : decode cX12_layGroups 176 = .ok (.iload 4, 2) := by decide +kernel
theorem dX12_layGroups_178 : decode cX12_layGroups 178 = .ok (.aload_n 0, 1) := by decide +kernel
theorem dX12_layGroups_179 : decode cX12_layGroups 179 = .ok (.getfield 93, 3) := by decide +kernel
theorem dX12_layGroups_182 : decode cX12_layGroups 182 = .ok (.iload 4, 2) := by decide +kernel
theorem dX12_layGroups_184 : decode cX12_layGroups 184 = .ok (.iaload, 1) := by decide +kernel
theorem dX12_layGroups_185 : decode cX12_layGroups 185 = .ok (.iastore, 1) := by decide +kernel
theorem dX12_layGroups_186 : decode cX12_layGroups 186 = .ok (.iinc 4 1, 3) := by decide +kernel
theorem dX12_layGroups_189 : decode cX12_layGroups 189 = .ok (.goto (-28), 3) := by decide +kernel
theorem dX12_layGroups_192 : decode cX12_layGroups 192 = .ok (.goto (-146), 3) := by decide +kernel
theorem dX12_layGroups_195 : decode cX12_layGroups 195 = .ok (.iload_n 3, 1) := by decide +kernel
theorem dX12_layGroups_196 : decode cX12_layGroups 196 = .ok (.ireturn, 1) := by decide +kernel
set_option maxRecDepth 20000 in
theorem ggX12_fewest_X12_isReader : GoodIn wsX12_fewest wsX12_isReader := goodIn_r _ [4, 5, 6, 3, 7] rfl (by decide +kernel)
set_option maxRecDepth 20000 in
theorem gX12_fewest_X12_isReader : GoodIn wsX12_fewest (va_wsS RX12 106 yX12_isReader wsX12_isReader) := goodIn_app (goodIn_of _ (by decide +kernel)) ggX12_fewest_X12_isReader
set_option maxRecDepth 20000 in
theorem ggX12_fewest_X12_layBegins : GoodIn wsX12_fewest wsX12_layBegins := goodIn_r _ [11, 12, 13, 14, 15, 16, 17, 18, 19, 3, 20, 21, 22, 23, 24, 25, 26, 27, 28, 29, 30, 31, 32, 33, 34, 35, 36, 37, 38, 39, 40, 41, 42, 43, 63, 64, 65, 66, 67, 68, 69, 70, 71, 72, 73, 74, 75, 76, 77, 78, 79, 80, 81, 82, 83, 84, 85, 86, 87, 88, 89, 90, 91, 92, 93, 94, 95, 96, 97, 98, 99, 100, 101, 102, 103, 104, 105] rfl (by decide +kernel)
set_option maxRecDepth 20000 in
theorem gX12_fewest_X12_layBegins : GoodIn wsX12_fewest (wsV RX12 275 RX12 yX12_layBegins wsX12_layBegins) := goodIn_app (goodIn_of _ (by decide +kernel)) ggX12_fewest_X12_layBegins
set_option maxRecDepth 20000 in
theorem ggX12_fewest_X12_layGroups : GoodIn wsX12_fewest wsX12_layGroups := goodIn_r _ [47, 13, 48, 49, 50, 51, 52, 3, 53, 12, 54, 55, 56, 57, 22, 58, 31, 32, 33, 34, 24, 25, 26, 59, 60, 61, 62, 16, 63, 64, 65, 66, 67, 68, 69, 70, 71, 72, 73, 74, 75, 76, 77, 78, 79, 80, 81, 82, 83, 84, 85, 86, 87, 88, 89, 90, 91, 92, 93, 94, 95, 96, 97, 98, 99, 100, 101, 102, 103, 104, 105] rfl (by decide +kernel)
set_option maxRecDepth 20000 in
theorem gX12_fewest_X12_layGroups : GoodIn wsX12_fewest (wsV RX12 293 RX12 yX12_layGroups wsX12_layGroups) := goodIn_app (goodIn_of _ (by decide +kernel)) ggX12_fewest_X12_layGroups
theorem dX12_fewest_0 : decode cX12_fewest 0 = .ok (.iload_n 1, 1) := by decide +kernel
theorem dX12_fewest_1 : decode cX12_fewest 1 = .ok (.invokestatic 106, 3) := by decide +kernel
theorem dX12_fewest_4 : decode cX12_fewest 4 = .ok (.ifCond .ne 6, 3) := by decide +kernel
theorem dX12_fewest_7 : decode cX12_fewest 7 = .ok (.bipush (-2), 2) := by decide +kernel
theorem dX12_fewest_9 : decode cX12_fewest 9 = .ok (.ireturn, 1) := by decide +kernel
theorem dX12_fewest_10 : decode cX12_fewest 10 = .ok (.aload_n 0, 1) := by decide +kernel
theorem dX12_fewest_11 : decode cX12_fewest 11 = .ok (.iload_n 1, 1) := by decide +kernel
theorem dX12_fewest_12 : decode cX12_fewest 12 = .ok (.invokevirtual 275, 3) := by decide +kernel
theorem dX12_fewest_15 : decode cX12_fewest 15 = .ok (.ifCond .eq 11, 3) := by decide +kernel
theorem dX12_fewest_18 : decode cX12_fewest 18 = .ok (.aload_n 0, 1) := by decide +kernel
theorem dX12_fewest_19 : decode cX12_fewest 19 = .ok (.iload_n 1, 1) := by decide +kernel
theorem dX12_fewest_20 : decode cX12_fewest 20 = .ok (.invokevirtual 293, 3) := by decide +kernel
theorem dX12_fewest_23 : decode cX12_fewest 23 = .ok (.goto 5, 3) := by decide +kernel
theorem dX12_fewest_26 : decode cX12_fewest 26 = .ok (.bipush (-6), 2) := by decide +kernel
theorem dX12_fewest_28 : decode cX12_fewest 28 = .ok (.ireturn, 1) := by decide +kernel
theorem dX12_beginBy_0 : decode cX12_beginBy 0 = .ok (.iconst 0, 1) := by decide +kernel
theorem dX12_beginBy_1 : decode cX12_beginBy 1 = .ok (.istore_n 3, 1) := by decide +kernel
theorem dX12_beginBy_2 : decode cX12_beginBy 2 = .ok (.iconst 0, 1) := by decide +kernel
theorem dX12_beginBy_3 : decode cX12_beginBy 3 = .ok (.istore 4, 2) := by decide +kernel
theorem dX12_beginBy_5 : decode cX12_beginBy 5 = .ok (.iload 4, 2) := by decide +kernel
theorem dX12_beginBy_7 : decode cX12_beginBy 7 = .ok (.iload_n 2, 1) := by decide +kernel
theorem dX12_beginBy_8 : decode cX12_beginBy 8 = .ok (.if_icmp .ge 32, 3) := by decide +kernel
theorem dX12_beginBy_11 : decode cX12_beginBy 11 = .ok (.aload_n 0, 1) := by decide +kernel
theorem dX12_beginBy_12 : decode cX12_beginBy 12 = .ok (.getfield 69, 3) := by decide +kernel
theorem dX12_beginBy_15 : decode cX12_beginBy 15 = .ok (.sipush 2403, 3) := by decide +kernel
theorem dX12_beginBy_18 : decode cX12_beginBy 18 = .ok (.iload_n 1, 1) := by decide +kernel
theorem dX12_beginBy_19 : decode cX12_beginBy 19 = .ok (.imul, 1) := by decide +kernel
theorem dX12_beginBy_20 : decode cX12_beginBy 20 = .ok (.iconst 3, 1) := by decide +kernel
theorem dX12_beginBy_21 : decode cX12_beginBy 21 = .ok (.iload_n 3, 1) := by decide +kernel
theorem dX12_beginBy_22 : decode cX12_beginBy 22 = .ok (.imul, 1) := by decide +kernel
theorem dX12_beginBy_23 : decode cX12_beginBy 23 = .ok (.iadd, 1) := by decide +kernel
theorem dX12_beginBy_24 : decode cX12_beginBy 24 = .ok (.aload_n 0, 1) := by decide +kernel
theorem dX12_beginBy_25 : decode cX12_beginBy 25 = .ok (.getfield 43, 3) := by decide +kernel
theorem dX12_beginBy_28 : decode cX12_beginBy 28 = .ok (.iload 4, 2) := by decide +kernel
theorem dX12_beginBy_30 : decode cX12_beginBy 30 = .ok (.iaload, 1) := by decide +kernel
theorem dX12_beginBy_31 : decode cX12_beginBy 31 = .ok (.iadd, 1) := by decide +kernel
theorem dX12_beginBy_32 : decode cX12_beginBy 32 = .ok (.iaload, 1) := by decide +kernel
theorem dX12_beginBy_33 : decode cX12_beginBy 33 = .ok (.istore_n 3, 1) := by decide +kernel
theorem dX12_beginBy_34 : decode cX12_beginBy 34 = .ok (.iinc 4 1, 3) := by decide +kernel
theorem dX12_beginBy_37 : decode cX12_beginBy 37 = .ok (.goto (-32), 3) := by decide +kernel
theorem dX12_beginBy_40 : decode cX12_beginBy 40 = .ok (.iload_n 3, 1) := by decide +kernel
theorem dX12_beginBy_41 : decode cX12_beginBy 41 = .ok (.ireturn, 1) := by decide +kernel
set_option maxRecDepth 20000 in
theorem ggX12_alike_X12_isReader : GoodIn wsX12_alike wsX12_isReader := goodIn_r _ [6, 7, 8, 5, 9] rfl (by decide +kernel)
set_option maxRecDepth 20000 in
theorem gX12_alike_X12_isReader : GoodIn wsX12_alike (va_wsS RX12 106 yX12_isReader wsX12_isReader) := goodIn_app (goodIn_of _ (by decide +kernel)) ggX12_alike_X12_isReader
set_option maxRecDepth 20000 in
theorem ggX12_alike_X12_in : GoodIn wsX12_alike wsX12_in := goodIn_r _ [9] rfl (by decide +kernel)
set_option maxRecDepth 20000 in
theorem gX12_alike_X12_in : GoodIn wsX12_alike (va_wsS RX12 102 yX12_in wsX12_in) := goodIn_app (goodIn_of _ (by decide +kernel)) ggX12_alike_X12_in
set_option maxRecDepth 20000 in
theorem ggX12_alike_X12_layBegins : GoodIn wsX12_alike wsX12_layBegins := goodIn_r _ [13, 14, 15, 16, 17, 18, 19, 20, 21, 5, 22, 23, 24, 25, 26, 27, 28, 29, 30, 31, 32, 33, 34, 35, 36, 37, 38, 39, 40, 41, 42, 43, 44, 45, 69, 70, 71, 72, 73, 74, 75, 76, 77, 78, 79, 80, 81, 82, 83, 84, 85, 86, 87, 88, 89, 90, 91, 92, 93, 94, 95, 96, 97, 98, 99, 100, 101, 102, 103, 104, 105, 106, 107, 108, 109, 110, 111] rfl (by decide +kernel)
set_option maxRecDepth 20000 in
theorem gX12_alike_X12_layBegins : GoodIn wsX12_alike (wsV RX12 275 RX12 yX12_layBegins wsX12_layBegins) := goodIn_app (goodIn_of _ (by decide +kernel)) ggX12_alike_X12_layBegins
set_option maxRecDepth 20000 in
theorem ggX12_alike_X12_layGroups : GoodIn wsX12_alike wsX12_layGroups := goodIn_r _ [49, 15, 2, 50, 51, 52, 53, 5, 54, 14, 55, 56, 57, 58, 24, 59, 33, 34, 35, 36, 26, 27, 28, 60, 61, 62, 63, 18, 69, 70, 71, 72, 73, 74, 75, 76, 77, 78, 79, 80, 81, 82, 83, 84, 85, 86, 87, 88, 89, 90, 91, 92, 93, 94, 95, 96, 97, 98, 99, 100, 101, 102, 103, 104, 105, 106, 107, 108, 109, 110, 111] rfl (by decide +kernel)
set_option maxRecDepth 20000 in
theorem gX12_alike_X12_layGroups : GoodIn wsX12_alike (wsV RX12 293 RX12 yX12_layGroups wsX12_layGroups) := goodIn_app (goodIn_of _ (by decide +kernel)) ggX12_alike_X12_layGroups
set_option maxRecDepth 20000 in
theorem ggX12_alike_X12_beginBy : GoodIn wsX12_alike wsX12_beginBy := goodIn_r _ [67, 18, 68, 69, 70, 71, 72, 73, 74, 75, 76, 77, 78, 79, 80, 81, 82, 83, 84, 85, 86, 87, 88, 89, 90, 91, 92, 93, 94, 95, 96, 97, 98, 99, 100, 101, 102, 103, 104, 105, 106, 107, 108, 109, 110, 111] rfl (by decide +kernel)
set_option maxRecDepth 20000 in
theorem gX12_alike_X12_beginBy : GoodIn wsX12_alike (wsV RX12 296 RX12 yX12_beginBy wsX12_beginBy) := goodIn_app (goodIn_of _ (by decide +kernel)) ggX12_alike_X12_beginBy
theorem dX12_alike_0 : decode cX12_alike 0 = .ok (.iload_n 1, 1) := by decide +kernel
theorem dX12_alike_1 : decode cX12_alike 1 = .ok (.invokestatic 106, 3) := by decide +kernel
theorem dX12_alike_4 : decode cX12_alike 4 = .ok (.ifCond .ne 6, 3) := by decide +kernel
theorem dX12_alike_7 : decode cX12_alike 7 = .ok (.bipush (-2), 2) := by decide +kernel
theorem dX12_alike_9 : decode cX12_alike 9 = .ok (.ireturn, 1) := by decide +kernel
theorem dX12_alike_10 : decode cX12_alike 10 = .ok (.iload_n 2, 1) := by decide +kernel
theorem dX12_alike_11 : decode cX12_alike 11 = .ok (.i2l, 1) := by decide +kernel
theorem dX12_alike_12 : decode cX12_alike 12 = .ok (.lconst 0, 1) := by decide +kernel
theorem dX12_alike_13 : decode cX12_alike 13 = .ok (.aload_n 0, 1) := by decide +kernel
theorem dX12_alike_14 : decode cX12_alike 14 = .ok (.getfield 178, 3) := by decide +kernel
theorem dX12_alike_17 : decode cX12_alike 17 = .ok (.i2l, 1) := by decide +kernel
theorem dX12_alike_18 : decode cX12_alike 18 = .ok (.invokestatic 102, 3) := by decide +kernel
theorem dX12_alike_21 : decode cX12_alike 21 = .ok (.ifCond .eq 17, 3) := by decide +kernel
theorem dX12_alike_24 : decode cX12_alike 24 = .ok (.iload_n 3, 1) := by decide +kernel
theorem dX12_alike_25 : decode cX12_alike 25 = .ok (.i2l, 1) := by decide +kernel
theorem dX12_alike_26 : decode cX12_alike 26 = .ok (.lconst 0, 1) := by decide +kernel
theorem dX12_alike_27 : decode cX12_alike 27 = .ok (.aload_n 0, 1) := by decide +kernel
theorem dX12_alike_28 : decode cX12_alike 28 = .ok (.getfield 178, 3) := by decide +kernel
theorem dX12_alike_31 : decode cX12_alike 31 = .ok (.i2l, 1) := by decide +kernel
theorem dX12_alike_32 : decode cX12_alike 32 = .ok (.invokestatic 102, 3) := by decide +kernel
theorem dX12_alike_35 : decode cX12_alike 35 = .ok (.ifCond .ne 6, 3) := by decide +kernel
theorem dX12_alike_38 : decode cX12_alike 38 = .ok (.bipush (-3), 2) := by decide +kernel
theorem dX12_alike_40 : decode cX12_alike 40 = .ok (.ireturn, 1) := by decide +kernel
theorem dX12_alike_41 : decode cX12_alike 41 = .ok (.aload_n 0, 1) := by decide +kernel
theorem dX12_alike_42 : decode cX12_alike 42 = .ok (.iload_n 1, 1) := by decide +kernel
theorem dX12_alike_43 : decode cX12_alike 43 = .ok (.invokevirtual 275, 3) := by decide +kernel
theorem dX12_alike_46 : decode cX12_alike 46 = .ok (.ifCond .ne 6, 3) := by decide +kernel
theorem dX12_alike_49 : decode cX12_alike 49 = .ok (.bipush (-6), 2) := by decide +kernel
theorem dX12_alike_51 : decode cX12_alike 51 = .ok (.ireturn, 1) := by decide +kernel
theorem dX12_alike_52 : decode cX12_alike 52 = .ok (.aload_n 0, 1) := by decide +kernel
theorem dX12_alike_53 : decode cX12_alike 53 = .ok (.iload_n 1, 1) := by decide +kernel
theorem dX12_alike_54 : decode cX12_alike 54 = .ok (.invokevirtual 293, 3) := by decide +kernel
theorem dX12_alike_57 : decode cX12_alike 57 = .ok (.pop, 1) := by decide +kernel
theorem dX12_alike_58 : decode cX12_alike 58 = .ok (.aload_n 0, 1) := by decide +kernel
theorem dX12_alike_59 : decode cX12_alike 59 = .ok (.getfield 90, 3) := by decide +kernel
theorem dX12_alike_62 : decode cX12_alike 62 = .ok (.aload_n 0, 1) := by decide +kernel
theorem dX12_alike_63 : decode cX12_alike 63 = .ok (.iload_n 1, 1) := by decide +kernel
theorem dX12_alike_64 : decode cX12_alike 64 = .ok (.iload_n 2, 1) := by decide +kernel
theorem dX12_alike_65 : decode cX12_alike 65 = .ok (.invokevirtual 296, 3) := by decide +kernel
theorem dX12_alike_68 : decode cX12_alike 68 = .ok (.iaload, 1) := by decide +kernel
theorem dX12_alike_69 : decode cX12_alike 69 = .ok (.aload_n 0, 1) := by decide +kernel
theorem dX12_alike_70 : decode cX12_alike 70 = .ok (.getfield 90, 3) := by decide +kernel
theorem dX12_alike_73 : decode cX12_alike 73 = .ok (.aload_n 0, 1) := by decide +kernel
theorem dX12_alike_74 : decode cX12_alike 74 = .ok (.iload_n 1, 1) := by decide +kernel
theorem dX12_alike_75 : decode cX12_alike 75 = .ok (.iload_n 3, 1) := by decide +kernel
theorem dX12_alike_76 : decode cX12_alike 76 = .ok (.invokevirtual 296, 3) := by decide +kernel
theorem dX12_alike_79 : decode cX12_alike 79 = .ok (.iaload, 1) := by decide +kernel
theorem dX12_alike_80 : decode cX12_alike 80 = .ok (.if_icmp .ne 7, 3) := by decide +kernel
theorem dX12_alike_83 : decode cX12_alike 83 = .ok (.iconst 1, 1) := by decide +kernel
theorem dX12_alike_84 : decode cX12_alike 84 = .ok (.goto 4, 3) := by decide +kernel
theorem dX12_alike_87 : decode cX12_alike 87 = .ok (.iconst 0, 1) := by decide +kernel
theorem dX12_alike_88 : decode cX12_alike 88 = .ok (.ireturn, 1) := by decide +kernel
theorem dX12_wayBack_0 : decode cX12_wayBack 0 = .ok (.iconst 0, 1) := by decide +kernel
theorem dX12_wayBack_1 : decode cX12_wayBack 1 = .ok (.istore 4, 2) := by decide +kernel
theorem dX12_wayBack_3 : decode cX12_wayBack 3 = .ok (.iload_n 2, 1) := by decide +kernel
theorem dX12_wayBack_4 : decode cX12_wayBack 4 = .ok (.istore 5, 2) := by decide +kernel
theorem dX12_wayBack_6 : decode cX12_wayBack 6 = .ok (.iload 5, 2) := by decide +kernel
theorem dX12_wayBack_8 : decode cX12_wayBack 8 = .ok (.ifCond .eq 24, 3) := by decide +kernel
theorem dX12_wayBack_11 : decode cX12_wayBack 11 = .ok (.iinc 4 1, 3) := by decide +kernel
theorem dX12_wayBack_14 : decode cX12_wayBack 14 = .ok (.aload_n 0, 1) := by decide +kernel
theorem dX12_wayBack_15 : decode cX12_wayBack 15 = .ok (.getfield 75, 3) := by decide +kernel
theorem dX12_wayBack_18 : decode cX12_wayBack 18 = .ok (.sipush 801, 3) := by decide +kernel
theorem dX12_wayBack_21 : decode cX12_wayBack 21 = .ok (.iload_n 1, 1) := by decide +kernel
theorem dX12_wayBack_22 : decode cX12_wayBack 22 = .ok (.imul, 1) := by decide +kernel
theorem dX12_wayBack_23 : decode cX12_wayBack 23 = .ok (.iload 5, 2) := by decide +kernel
theorem dX12_wayBack_25 : decode cX12_wayBack 25 = .ok (.iadd, 1) := by decide +kernel
theorem dX12_wayBack_26 : decode cX12_wayBack 26 = .ok (.iaload, 1) := by decide +kernel
theorem dX12_wayBack_27 : decode cX12_wayBack 27 = .ok (.istore 5, 2) := by decide +kernel
theorem dX12_wayBack_29 : decode cX12_wayBack 29 = .ok (.goto (-23), 3) := by decide +kernel
theorem dX12_wayBack_32 : decode cX12_wayBack 32 = .ok (.iload_n 3, 1) := by decide +kernel
theorem dX12_wayBack_33 : decode cX12_wayBack 33 = .ok (.iconst (-1), 1) := by decide +kernel
theorem dX12_wayBack_34 : decode cX12_wayBack 34 = .ok (.if_icmp .ne 6, 3) := by decide +kernel
theorem dX12_wayBack_37 : decode cX12_wayBack 37 = .ok (.iload 4, 2) := by decide +kernel
theorem dX12_wayBack_39 : decode cX12_wayBack 39 = .ok (.ireturn, 1) := by decide +kernel
theorem dX12_wayBack_40 : decode cX12_wayBack 40 = .ok (.iload_n 2, 1) := by decide +kernel
theorem dX12_wayBack_41 : decode cX12_wayBack 41 = .ok (.istore 5, 2) := by decide +kernel
theorem dX12_wayBack_43 : decode cX12_wayBack 43 = .ok (.iload 4, 2) := by decide +kernel
theorem dX12_wayBack_45 : decode cX12_wayBack 45 = .ok (.iconst 1, 1) := by decide +kernel
theorem dX12_wayBack_46 : decode cX12_wayBack 46 = .ok (.isub, 1) := by decide +kernel
theorem dX12_wayBack_47 : decode cX12_wayBack 47 = .ok (.istore 6, 2) := by decide +kernel
theorem dX12_wayBack_49 : decode cX12_wayBack 49 = .ok (.iload 6, 2) := by decide +kernel
theorem dX12_wayBack_51 : decode cX12_wayBack 51 = .ok (.iload_n 3, 1) := by decide +kernel
theorem dX12_wayBack_52 : decode cX12_wayBack 52 = .ok (.if_icmp .le 24, 3) := by decide +kernel
theorem dX12_wayBack_55 : decode cX12_wayBack 55 = .ok (.aload_n 0, 1) := by decide +kernel
theorem dX12_wayBack_56 : decode cX12_wayBack 56 = .ok (.getfield 75, 3) := by decide +kernel
theorem dX12_wayBack_59 : decode cX12_wayBack 59 = .ok (.sipush 801, 3) := by decide +kernel
theorem dX12_wayBack_62 : decode cX12_wayBack 62 = .ok (.iload_n 1, 1) := by decide +kernel
theorem dX12_wayBack_63 : decode cX12_wayBack 63 = .ok (.imul, 1) := by decide +kernel
theorem dX12_wayBack_64 : decode cX12_wayBack 64 = .ok (.iload 5, 2) := by decide +kernel
theorem dX12_wayBack_66 : decode cX12_wayBack 66 = .ok (.iadd, 1) := by decide +kernel
theorem dX12_wayBack_67 : decode cX12_wayBack 67 = .ok (.iaload, 1) := by decide +kernel
theorem dX12_wayBack_68 : decode cX12_wayBack 68 = .ok (.istore 5, 2) := by decide +kernel
theorem dX12_wayBack_70 : decode cX12_wayBack 70 = .ok (.iinc 6 (-1), 3) := by decide +kernel
theorem dX12_wayBack_73 : decode cX12_wayBack 73 = .ok (.goto (-24), 3) := by decide +kernel
theorem dX12_wayBack_76 : decode cX12_wayBack 76 = .ok (.iload_n 3, 1) := by decide +kernel
theorem dX12_wayBack_77 : decode cX12_wayBack 77 = .ok (.iload 4, 2) := by decide +kernel
theorem dX12_wayBack_79 : decode cX12_wayBack 79 = .ok (.if_icmp .ge 19, 3) := by decide +kernel
theorem dX12_wayBack_82 : decode cX12_wayBack 82 = .ok (.aload_n 0, 1) := by decide +kernel
theorem dX12_wayBack_83 : decode cX12_wayBack 83 = .ok (.getfield 78, 3) := by decide +kernel
theorem dX12_wayBack_86 : decode cX12_wayBack 86 = .ok (.sipush 801, 3) := by decide +kernel
theorem dX12_wayBack_89 : decode cX12_wayBack 89 = .ok (.iload_n 1, 1) := by decide +kernel
theorem dX12_wayBack_90 : decode cX12_wayBack 90 = .ok (.imul, 1) := by decide +kernel
theorem dX12_wayBack_91 : decode cX12_wayBack 91 = .ok (.iload 5, 2) := by decide +kernel
theorem dX12_wayBack_93 : decode cX12_wayBack 93 = .ok (.iadd, 1) := by decide +kernel
theorem dX12_wayBack_94 : decode cX12_wayBack 94 = .ok (.iaload, 1) := by decide +kernel
theorem dX12_wayBack_95 : decode cX12_wayBack 95 = .ok (.goto 4, 3) := by decide +kernel
theorem dX12_wayBack_98 : decode cX12_wayBack 98 = .ok (.iconst (-1), 1) := by decide +kernel
theorem dX12_wayBack_99 : decode cX12_wayBack 99 = .ok (.ireturn, 1) := by decide +kernel
set_option maxRecDepth 20000 in
theorem ggX12_firstThat_X12_isReader : GoodIn wsX12_firstThat wsX12_isReader := goodIn_r _ [6, 7, 8, 5, 9] rfl (by decide +kernel)
set_option maxRecDepth 20000 in
theorem gX12_firstThat_X12_isReader : GoodIn wsX12_firstThat (va_wsS RX12 106 yX12_isReader wsX12_isReader) := goodIn_app (goodIn_of _ (by decide +kernel)) ggX12_firstThat_X12_isReader
set_option maxRecDepth 20000 in
theorem ggX12_firstThat_X12_layBegins : GoodIn wsX12_firstThat wsX12_layBegins := goodIn_r _ [13, 2, 1, 14, 15, 16, 17, 18, 19, 5, 20, 21, 22, 23, 24, 25, 26, 27, 28, 29, 30, 31, 32, 33, 34, 35, 36, 37, 38, 39, 40, 41, 42, 43, 53, 54, 55, 56, 57, 58, 59, 60, 61, 62, 63, 64, 65, 66, 67, 68, 69, 70, 71, 72, 73, 74, 75, 76, 77, 78, 79, 80, 81, 82, 83, 84, 85, 86, 87, 88, 89, 90, 91, 92, 93, 94, 95] rfl (by decide +kernel)
set_option maxRecDepth 20000 in
theorem gX12_firstThat_X12_layBegins : GoodIn wsX12_firstThat (wsV RX12 275 RX12 yX12_layBegins wsX12_layBegins) := goodIn_app (goodIn_of _ (by decide +kernel)) ggX12_firstThat_X12_layBegins
set_option maxRecDepth 20000 in
theorem ggX12_firstThat_X12_endOf : GoodIn wsX12_firstThat wsX12_endOf := goodIn_r _ [47, 22, 48, 31, 32, 5, 33, 34, 24, 25, 26, 53, 54, 55, 56, 57, 58, 59, 60, 61, 62, 63, 64, 65, 66, 67, 68, 69, 70, 71, 72, 73, 74, 75, 76, 77, 78, 79, 80, 81, 82, 83, 84, 85, 86, 87, 88, 89, 90, 91, 92, 93, 94, 95] rfl (by decide +kernel)
set_option maxRecDepth 20000 in
theorem gX12_firstThat_X12_endOf : GoodIn wsX12_firstThat (wsV RX12 270 RX12 yX12_endOf wsX12_endOf) := goodIn_app (goodIn_of _ (by decide +kernel)) ggX12_firstThat_X12_endOf
set_option maxRecDepth 20000 in
theorem ggX12_firstThat_X12_wayBack : GoodIn wsX12_firstThat wsX12_wayBack := goodIn_r _ [52, 14, 15, 53, 54, 55, 56, 57, 58, 59, 60, 61, 62, 63, 64, 65, 66, 67, 68, 69, 70, 71, 72, 73, 74, 75, 76, 77, 78, 79, 80, 81, 82, 83, 84, 85, 86, 87, 88, 89, 90, 91, 92, 93, 94, 95] rfl (by decide +kernel)
set_option maxRecDepth 20000 in
theorem gX12_firstThat_X12_wayBack : GoodIn wsX12_firstThat (wsV RX12 300 RX12 yX12_wayBack wsX12_wayBack) := goodIn_app (goodIn_of _ (by decide +kernel)) ggX12_firstThat_X12_wayBack
theorem dX12_firstThat_0 : decode cX12_firstThat 0 = .ok (.iload_n 1, 1) := by decide +kernel
theorem dX12_firstThat_1 : decode cX12_firstThat 1 = .ok (.invokestatic 106, 3) := by decide +kernel
theorem dX12_firstThat_4 : decode cX12_firstThat 4 = .ok (.ifCond .ne 6, 3) := by decide +kernel
theorem dX12_firstThat_7 : decode cX12_firstThat 7 = .ok (.bipush (-2), 2) := by decide +kernel
theorem dX12_firstThat_9 : decode cX12_firstThat 9 = .ok (.ireturn, 1) := by decide +kernel
theorem dX12_firstThat_10 : decode cX12_firstThat 10 = .ok (.iload_n 3, 1) := by decide +kernel
theorem dX12_firstThat_11 : decode cX12_firstThat 11 = .ok (.iconst (-1), 1) := by decide +kernel
theorem dX12_firstThat_12 : decode cX12_firstThat 12 = .ok (.if_icmp .ge 6, 3) := by decide +kernel
theorem dX12_firstThat_15 : decode cX12_firstThat 15 = .ok (.bipush (-3), 2) := by decide +kernel
theorem dX12_firstThat_17 : decode cX12_firstThat 17 = .ok (.ireturn, 1) := by decide +kernel
theorem dX12_firstThat_18 : decode cX12_firstThat 18 = .ok (.aload_n 0, 1) := by decide +kernel
theorem dX12_firstThat_19 : decode cX12_firstThat 19 = .ok (.iload_n 1, 1) := by decide +kernel
theorem dX12_firstThat_20 : decode cX12_firstThat 20 = .ok (.invokevirtual 275, 3) := by decide +kernel
theorem dX12_firstThat_23 : decode cX12_firstThat 23 = .ok (.ifCond .ne 6, 3) := by decide +kernel
theorem dX12_firstThat_26 : decode cX12_firstThat 26 = .ok (.bipush (-6), 2) := by decide +kernel
theorem dX12_firstThat_28 : decode cX12_firstThat 28 = .ok (.ireturn, 1) := by decide +kernel
theorem dX12_firstThat_29 : decode cX12_firstThat 29 = .ok (.iconst 0, 1) := by decide +kernel
theorem dX12_firstThat_30 : decode cX12_firstThat 30 = .ok (.istore 4, 2) := by decide +kernel
theorem dX12_firstThat_32 : decode cX12_firstThat 32 = .ok (.iload 4, 2) := by decide +kernel
theorem dX12_firstThat_34 : decode cX12_firstThat 34 = .ok (.aload_n 0, 1) := by decide +kernel
theorem dX12_firstThat_35 : decode cX12_firstThat 35 = .ok (.getfield 72, 3) := by decide +kernel
theorem dX12_firstThat_38 : decode cX12_firstThat 38 = .ok (.iload_n 1, 1) := by decide +kernel
theorem dX12_firstThat_39 : decode cX12_firstThat 39 = .ok (.iaload, 1) := by decide +kernel
theorem dX12_firstThat_40 : decode cX12_firstThat 40 = .ok (.if_icmp .ge 40, 3) := by decide +kernel
theorem dX12_firstThat_43 : decode cX12_firstThat 43 = .ok (.aload_n 0, 1) := by decide +kernel
theorem dX12_firstThat_44 : decode cX12_firstThat 44 = .ok (.iload_n 1, 1) := by decide +kernel
theorem dX12_firstThat_45 : decode cX12_firstThat 45 = .ok (.aload_n 0, 1) := by decide +kernel
theorem dX12_firstThat_46 : decode cX12_firstThat 46 = .ok (.getfield 66, 3) := by decide +kernel
theorem dX12_firstThat_49 : decode cX12_firstThat 49 = .ok (.sipush 801, 3) := by decide +kernel
theorem dX12_firstThat_52 : decode cX12_firstThat 52 = .ok (.iload_n 1, 1) := by decide +kernel
theorem dX12_firstThat_53 : decode cX12_firstThat 53 = .ok (.imul, 1) := by decide +kernel
theorem dX12_firstThat_54 : decode cX12_firstThat 54 = .ok (.iload 4, 2) := by decide +kernel
theorem dX12_firstThat_56 : decode cX12_firstThat 56 = .ok (.iadd, 1) := by decide +kernel
theorem dX12_firstThat_57 : decode cX12_firstThat 57 = .ok (.laload, 1) := by decide +kernel
theorem dX12_firstThat_58 : decode cX12_firstThat 58 = .ok (.invokevirtual 270, 3) := by decide +kernel
theorem dX12_firstThat_61 : decode cX12_firstThat 61 = .ok (.iload_n 2, 1) := by decide +kernel
theorem dX12_firstThat_62 : decode cX12_firstThat 62 = .ok (.if_icmp .ne 12, 3) := by decide +kernel
theorem dX12_firstThat_65 : decode cX12_firstThat 65 = .ok (.aload_n 0, 1) := by decide +kernel
theorem dX12_firstThat_66 : decode cX12_firstThat 66 = .ok (.iload_n 1, 1) := by decide +kernel
theorem dX12_firstThat_67 : decode cX12_firstThat 67 = .ok (.iload 4, 2) := by decide +kernel
theorem dX12_firstThat_69 : decode cX12_firstThat 69 = .ok (.iload_n 3, 1) := by decide +kernel
theorem dX12_firstThat_70 : decode cX12_firstThat 70 = .ok (.invokevirtual 300, 3) := by decide +kernel
theorem dX12_firstThat_73 : decode cX12_firstThat 73 = .ok (.ireturn, 1) := by decide +kernel
theorem dX12_firstThat_74 : decode cX12_firstThat 74 = .ok (.iinc 4 1, 3) := by decide +kernel
theorem dX12_firstThat_77 : decode cX12_firstThat 77 = .ok (.goto (-45), 3) := by decide +kernel
theorem dX12_firstThat_80 : decode cX12_firstThat 80 = .ok (.iconst (-1), 1) := by decide +kernel
theorem dX12_firstThat_81 : decode cX12_firstThat 81 = .ok (.ireturn, 1) := by decide +kernel
set_option maxRecDepth 20000 in
theorem ggX12_shortest_X12_firstThat : GoodIn wsX12_shortest wsX12_firstThat := goodIn_r _ [5, 6, 7, 8, 9, 4, 10, 11, 12, 13, 14, 15, 16, 17, 18, 19, 20, 21, 22, 23, 24, 25, 26, 27, 28, 29, 30, 31, 32, 33, 34, 35, 36, 37, 38, 39, 40, 41, 42, 43, 44, 45, 46, 47, 48, 49, 50, 51, 52, 53, 54, 55, 56, 57, 58, 59, 60, 61, 62, 63, 64, 65, 66, 67, 68, 69, 70, 71, 72, 73, 74, 75, 76, 77, 78, 79, 80, 81, 82, 83, 84, 85, 86, 87, 88, 89, 90, 91, 92, 93, 94, 95, 96, 97, 98, 99] rfl (by decide +kernel)
set_option maxRecDepth 20000 in
theorem gX12_shortest_X12_firstThat : GoodIn wsX12_shortest (wsV RX12 303 RX12 yX12_firstThat wsX12_firstThat) := goodIn_app (goodIn_of _ (by decide +kernel)) ggX12_shortest_X12_firstThat
theorem dX12_shortest_0 : decode cX12_shortest 0 = .ok (.aload_n 0, 1) := by decide +kernel
theorem dX12_shortest_1 : decode cX12_shortest 1 = .ok (.iload_n 1, 1) := by decide +kernel
theorem dX12_shortest_2 : decode cX12_shortest 2 = .ok (.iconst 1, 1) := by decide +kernel
theorem dX12_shortest_3 : decode cX12_shortest 3 = .ok (.iload_n 2, 1) := by decide +kernel
theorem dX12_shortest_4 : decode cX12_shortest 4 = .ok (.invokevirtual 303, 3) := by decide +kernel
theorem dX12_shortest_7 : decode cX12_shortest 7 = .ok (.ireturn, 1) := by decide +kernel
set_option maxRecDepth 20000 in
theorem ggX12_round_X12_firstThat : GoodIn wsX12_round wsX12_firstThat := goodIn_r _ [5, 6, 7, 8, 9, 4, 10, 11, 12, 13, 14, 15, 16, 17, 18, 19, 20, 21, 22, 23, 24, 25, 26, 27, 28, 29, 30, 31, 32, 33, 34, 35, 36, 37, 38, 39, 40, 41, 42, 43, 44, 45, 46, 47, 48, 49, 50, 51, 52, 53, 54, 55, 56, 57, 58, 59, 60, 61, 62, 63, 64, 65, 66, 67, 68, 69, 70, 71, 72, 73, 74, 75, 76, 77, 78, 79, 80, 81, 82, 83, 84, 85, 86, 87, 88, 89, 90, 91, 92, 93, 94, 95, 96, 97, 98, 99] rfl (by decide +kernel)
set_option maxRecDepth 20000 in
theorem gX12_round_X12_firstThat : GoodIn wsX12_round (wsV RX12 303 RX12 yX12_firstThat wsX12_firstThat) := goodIn_app (goodIn_of _ (by decide +kernel)) ggX12_round_X12_firstThat
theorem dX12_round_0 : decode cX12_round 0 = .ok (.aload_n 0, 1) := by decide +kernel
theorem dX12_round_1 : decode cX12_round 1 = .ok (.iload_n 1, 1) := by decide +kernel
theorem dX12_round_2 : decode cX12_round 2 = .ok (.iconst 2, 1) := by decide +kernel
theorem dX12_round_3 : decode cX12_round 3 = .ok (.iload_n 2, 1) := by decide +kernel
theorem dX12_round_4 : decode cX12_round 4 = .ok (.invokevirtual 303, 3) := by decide +kernel
theorem dX12_round_7 : decode cX12_round 7 = .ok (.ireturn, 1) := by decide +kernel
theorem dX12_slotOf_0 : decode cX12_slotOf 0 = .ok (.lload_n 1, 1) := by decide +kernel
theorem dX12_slotOf_1 : decode cX12_slotOf 1 = .ok (.ldc2_w 306, 3) := by decide +kernel
theorem dX12_slotOf_4 : decode cX12_slotOf 4 = .ok (.lmul, 1) := by decide +kernel
theorem dX12_slotOf_5 : decode cX12_slotOf 5 = .ok (.ldc2_w 308, 3) := by decide +kernel
theorem dX12_slotOf_8 : decode cX12_slotOf 8 = .ok (.land, 1) := by decide +kernel
theorem dX12_slotOf_9 : decode cX12_slotOf 9 = .ok (.ldc2_w 310, 3) := by decide +kernel
theorem dX12_slotOf_12 : decode cX12_slotOf 12 = .ok (.lrem, 1) := by decide +kernel
theorem dX12_slotOf_13 : decode cX12_slotOf 13 = .ok (.l2i, 1) := by decide +kernel
theorem dX12_slotOf_14 : decode cX12_slotOf 14 = .ok (.istore_n 3, 1) := by decide +kernel
theorem dX12_slotOf_15 : decode cX12_slotOf 15 = .ok (.aload_n 0, 1) := by decide +kernel
theorem dX12_slotOf_16 : decode cX12_slotOf 16 = .ok (.getfield 96, 3) := by decide +kernel
theorem dX12_slotOf_19 : decode cX12_slotOf 19 = .ok (.iload_n 3, 1) := by decide +kernel
theorem dX12_slotOf_20 : decode cX12_slotOf 20 = .ok (.iaload, 1) := by decide +kernel
theorem dX12_slotOf_21 : decode cX12_slotOf 21 = .ok (.ifCond .lt 30, 3) := by decide +kernel
theorem dX12_slotOf_24 : decode cX12_slotOf 24 = .ok (.aload_n 0, 1) := by decide +kernel
theorem dX12_slotOf_25 : decode cX12_slotOf 25 = .ok (.getfield 56, 3) := by decide +kernel
theorem dX12_slotOf_28 : decode cX12_slotOf 28 = .ok (.aload_n 0, 1) := by decide +kernel
theorem dX12_slotOf_29 : decode cX12_slotOf 29 = .ok (.getfield 96, 3) := by decide +kernel
theorem dX12_slotOf_32 : decode cX12_slotOf 32 = .ok (.iload_n 3, 1) := by decide +kernel
theorem dX12_slotOf_33 : decode cX12_slotOf 33 = .ok (.iaload, 1) := by decide +kernel
theorem dX12_slotOf_34 : decode cX12_slotOf 34 = .ok (.laload, 1) := by decide +kernel
theorem dX12_slotOf_35 : decode cX12_slotOf 35 = .ok (.lload_n 1, 1) := by decide +kernel
theorem dX12_slotOf_36 : decode cX12_slotOf 36 = .ok (.lcmp, 1) := by decide +kernel
theorem dX12_slotOf_37 : decode cX12_slotOf 37 = .ok (.ifCond .eq 14, 3) := by decide +kernel
theorem dX12_slotOf_40 : decode cX12_slotOf 40 = .ok (.iload_n 3, 1) := by decide +kernel
theorem dX12_slotOf_41 : decode cX12_slotOf 41 = .ok (.iconst 1, 1) := by decide +kernel
theorem dX12_slotOf_42 : decode cX12_slotOf 42 = .ok (.iadd, 1) := by decide +kernel
theorem dX12_slotOf_43 : decode cX12_slotOf 43 = .ok (.sipush 16384, 3) := by decide +kernel
