theorem dX10_wasHere_12 : decode cX10_wasHere 12 = .ok (.if_icmp .lt 5, 3) := by decide +kernel
theorem dX10_wasHere_15 : decode cX10_wasHere 15 = .ok (.iconst 1, 1) := by decide +kernel
theorem dX10_wasHere_16 : decode cX10_wasHere 16 = .ok (.ireturn, 1) := by decide +kernel
theorem dX10_wasHere_17 : decode cX10_wasHere 17 = .ok (.aload_n 0, 1) := by decide +kernel
theorem dX10_wasHere_18 : decode cX10_wasHere 18 = .ok (.getfield 9, 3) := by decide +kernel
theorem dX10_wasHere_21 : decode cX10_wasHere 21 = .ok (.aload_n 0, 1) := by decide +kernel
theorem dX10_wasHere_22 : decode cX10_wasHere 22 = .ok (.getfield 32, 3) := by decide +kernel
theorem dX10_wasHere_25 : decode cX10_wasHere 25 = .ok (.laload, 1) := by decide +kernel
theorem dX10_wasHere_26 : decode cX10_wasHere 26 = .ok (.aload_n 0, 1) := by decide +kernel
theorem dX10_wasHere_27 : decode cX10_wasHere 27 = .ok (.getfield 29, 3) := by decide +kernel
theorem dX10_wasHere_30 : decode cX10_wasHere 30 = .ok (.lshr, 1) := by decide +kernel
theorem dX10_wasHere_31 : decode cX10_wasHere 31 = .ok (.lconst 1, 1) := by decide +kernel
theorem dX10_wasHere_32 : decode cX10_wasHere 32 = .ok (.land, 1) := by decide +kernel
theorem dX10_wasHere_33 : decode cX10_wasHere 33 = .ok (.lconst 1, 1) := by decide +kernel
theorem dX10_wasHere_34 : decode cX10_wasHere 34 = .ok (.lcmp, 1) := by decide +kernel
theorem dX10_wasHere_35 : decode cX10_wasHere 35 = .ok (.ifCond .ne 7, 3) := by decide +kernel
theorem dX10_wasHere_38 : decode cX10_wasHere 38 = .ok (.iconst 1, 1) := by decide +kernel
theorem dX10_wasHere_39 : decode cX10_wasHere 39 = .ok (.goto 4, 3) := by decide +kernel
theorem dX10_wasHere_42 : decode cX10_wasHere 42 = .ok (.iconst 0, 1) := by decide +kernel
theorem dX10_wasHere_43 : decode cX10_wasHere 43 = .ok (.istore_n 1, 1) := by decide +kernel
theorem dX10_wasHere_44 : decode cX10_wasHere 44 = .ok (.aload_n 0, 1) := by decide +kernel
theorem dX10_wasHere_45 : decode cX10_wasHere 45 = .ok (.getfield 9, 3) := by decide +kernel
theorem dX10_wasHere_48 : decode cX10_wasHere 48 = .ok (.aload_n 0, 1) := by decide +kernel
theorem dX10_wasHere_49 : decode cX10_wasHere 49 = .ok (.getfield 32, 3) := by decide +kernel
theorem dX10_wasHere_52 : decode cX10_wasHere 52 = .ok (.dup2, 1) := by decide +kernel
theorem dX10_wasHere_53 : decode cX10_wasHere 53 = .ok (.laload, 1) := by decide +kernel
theorem dX10_wasHere_54 : decode cX10_wasHere 54 = .ok (.lconst 1, 1) := by decide +kernel
theorem dX10_wasHere_55 : decode cX10_wasHere 55 = .ok (.aload_n 0, 1) := by decide +kernel
theorem dX10_wasHere_56 : decode cX10_wasHere 56 = .ok (.getfield 29, 3) := by decide +kernel
theorem dX10_wasHere_59 : decode cX10_wasHere 59 = .ok (.lshl, 1) := by decide +kernel
theorem dX10_wasHere_60 : decode cX10_wasHere 60 = .ok (.lor, 1) := by decide +kernel
theorem dX10_wasHere_61 : decode cX10_wasHere 61 = .ok (.lastore, 1) := by decide +kernel
theorem dX10_wasHere_62 : decode cX10_wasHere 62 = .ok (.iload_n 1, 1) := by decide +kernel
theorem dX10_wasHere_63 : decode cX10_wasHere 63 = .ok (.ireturn, 1) := by decide +kernel
theorem dX10_signAt_0 : decode cX10_signAt 0 = .ok (.aload_n 0, 1) := by decide +kernel
theorem dX10_signAt_1 : decode cX10_signAt 1 = .ok (.getfield 29, 3) := by decide +kernel
theorem dX10_signAt_4 : decode cX10_signAt 4 = .ok (.ifCond .le 29, 3) := by decide +kernel
theorem dX10_signAt_7 : decode cX10_signAt 7 = .ok (.aload_n 0, 1) := by decide +kernel
theorem dX10_signAt_8 : decode cX10_signAt 8 = .ok (.getfield 29, 3) := by decide +kernel
theorem dX10_signAt_11 : decode cX10_signAt 11 = .ok (.iload_n 2, 1) := by decide +kernel
theorem dX10_signAt_12 : decode cX10_signAt 12 = .ok (.if_icmp .gt 21, 3) := by decide +kernel
theorem dX10_signAt_15 : decode cX10_signAt 15 = .ok (.aload_n 0, 1) := by decide +kernel
theorem dX10_signAt_16 : decode cX10_signAt 16 = .ok (.getfield 29, 3) := by decide +kernel
theorem dX10_signAt_19 : decode cX10_signAt 19 = .ok (.aload_n 1, 1) := by decide +kernel
theorem dX10_signAt_20 : decode cX10_signAt 20 = .ok (.arraylength, 1) := by decide +kernel
theorem dX10_signAt_21 : decode cX10_signAt 21 = .ok (.if_icmp .gt 12, 3) := by decide +kernel
theorem dX10_signAt_24 : decode cX10_signAt 24 = .ok (.aload_n 1, 1) := by decide +kernel
theorem dX10_signAt_25 : decode cX10_signAt 25 = .ok (.aload_n 0, 1) := by decide +kernel
theorem dX10_signAt_26 : decode cX10_signAt 26 = .ok (.getfield 29, 3) := by decide +kernel
theorem dX10_signAt_29 : decode cX10_signAt 29 = .ok (.iconst 1, 1) := by decide +kernel
theorem dX10_signAt_30 : decode cX10_signAt 30 = .ok (.isub, 1) := by decide +kernel
theorem dX10_signAt_31 : decode cX10_signAt 31 = .ok (.iaload, 1) := by decide +kernel
theorem dX10_signAt_32 : decode cX10_signAt 32 = .ok (.ireturn, 1) := by decide +kernel
theorem dX10_signAt_33 : decode cX10_signAt 33 = .ok (.aload_n 0, 1) := by decide +kernel
theorem dX10_signAt_34 : decode cX10_signAt 34 = .ok (.getfield 29, 3) := by decide +kernel
theorem dX10_signAt_37 : decode cX10_signAt 37 = .ok (.ifCond .gt 7, 3) := by decide +kernel
theorem dX10_signAt_40 : decode cX10_signAt 40 = .ok (.iconst 3, 1) := by decide +kernel
theorem dX10_signAt_41 : decode cX10_signAt 41 = .ok (.goto 4, 3) := by decide +kernel
theorem dX10_signAt_44 : decode cX10_signAt 44 = .ok (.iconst 4, 1) := by decide +kernel
theorem dX10_signAt_45 : decode cX10_signAt 45 = .ok (.ireturn, 1) := by decide +kernel
theorem dX10_say_0 : decode cX10_say 0 = .ok (.iload_n 1, 1) := by decide +kernel
theorem dX10_say_1 : decode cX10_say 1 = .ok (.iconst (-1), 1) := by decide +kernel
theorem dX10_say_2 : decode cX10_say 2 = .ok (.if_icmp .eq 35, 3) := by decide +kernel
theorem dX10_say_5 : decode cX10_say 5 = .ok (.aload_n 0, 1) := by decide +kernel
theorem dX10_say_6 : decode cX10_say 6 = .ok (.getfield 25, 3) := by decide +kernel
theorem dX10_say_9 : decode cX10_say 9 = .ok (.aload_n 0, 1) := by decide +kernel
theorem dX10_say_10 : decode cX10_say 10 = .ok (.getfield 15, 3) := by decide +kernel
theorem dX10_say_13 : decode cX10_say 13 = .ok (.arraylength, 1) := by decide +kernel
theorem dX10_say_14 : decode cX10_say 14 = .ok (.if_icmp .ge 23, 3) := by decide +kernel
theorem dX10_say_17 : decode cX10_say 17 = .ok (.aload_n 0, 1) := by decide +kernel
theorem dX10_say_18 : decode cX10_say 18 = .ok (.getfield 15, 3) := by decide +kernel
theorem dX10_say_21 : decode cX10_say 21 = .ok (.aload_n 0, 1) := by decide +kernel
theorem dX10_say_22 : decode cX10_say 22 = .ok (.getfield 25, 3) := by decide +kernel
theorem dX10_say_25 : decode cX10_say 25 = .ok (.iload_n 1, 1) := by decide +kernel
theorem dX10_say_26 : decode cX10_say 26 = .ok (.iastore, 1) := by decide +kernel
theorem dX10_say_27 : decode cX10_say 27 = .ok (.aload_n 0, 1) := by decide +kernel
theorem dX10_say_28 : decode cX10_say 28 = .ok (.dup, 1) := by decide +kernel
theorem dX10_say_29 : decode cX10_say 29 = .ok (.getfield 25, 3) := by decide +kernel
theorem dX10_say_32 : decode cX10_say 32 = .ok (.iconst 1, 1) := by decide +kernel
theorem dX10_say_33 : decode cX10_say 33 = .ok (.iadd, 1) := by decide +kernel
theorem dX10_say_34 : decode cX10_say 34 = .ok (.putfield 25, 3) := by decide +kernel
theorem dX10_say_37 : decode cX10_say 37 = .ok (.return_, 1) := by decide +kernel
set_option maxRecDepth 20000 in
theorem ggX11_init_X9_init : GoodIn wsX11_init wsX9_init := goodIn_r _ [32, 33, 2, 3, 10, 34, 35, 71, 72, 73, 74, 75, 76, 77, 78, 79] rfl (by decide +kernel)
set_option maxRecDepth 20000 in
theorem gX11_init_X9_init_n17 : GoodIn wsX11_init (wsX9_init) := ggX11_init_X9_init
set_option maxRecDepth 20000 in
theorem ggX11_init_X10_init : GoodIn wsX11_init wsX10_init := goodIn_r _ [37, 38, 2, 3, 39, 40, 10, 41, 80, 81, 82, 83, 84, 85, 86] rfl (by decide +kernel)
set_option maxRecDepth 20000 in
theorem gX11_init_X10_init_n32 : GoodIn wsX11_init (wsX10_init) := ggX11_init_X10_init
set_option maxRecDepth 20000 in
theorem ggX11_init_X7_init : GoodIn wsX11_init wsX7_init := goodIn_r _ [43, 44, 2, 3, 10, 45, 46, 87, 88] rfl (by decide +kernel)
set_option maxRecDepth 20000 in
theorem gX11_init_X7_init_n39 : GoodIn wsX11_init (wsX7_init) := ggX11_init_X7_init
set_option maxRecDepth 20000 in
theorem ggX11_init_X6_init : GoodIn wsX11_init wsX6_init := goodIn_r _ [49, 50, 2, 3, 51, 52, 53, 54, 10, 55, 56, 57, 58, 59, 89, 90, 91, 92, 93] rfl (by decide +kernel)
set_option maxRecDepth 20000 in
theorem gX11_init_X6_init : GoodIn wsX11_init (wsX6_init) := ggX11_init_X6_init
theorem dX11_init_0 : decode cX11_init 0 = .ok (.aload_n 0, 1) := by decide +kernel
theorem dX11_init_1 : decode cX11_init 1 = .ok (.invokespecial 1, 3) := by decide +kernel
theorem dX11_init_4 : decode cX11_init 4 = .ok (.aload_n 0, 1) := by decide +kernel
theorem dX11_init_5 : decode cX11_init 5 = .ok (.iconst 2, 1) := by decide +kernel
theorem dX11_init_6 : decode cX11_init 6 = .ok (.anewarray 9, 3) := by decide +kernel
theorem dX11_init_9 : decode cX11_init 9 = .ok (.putfield 11, 3) := by decide +kernel
theorem dX11_init_12 : decode cX11_init 12 = .ok (.aload_n 0, 1) := by decide +kernel
theorem dX11_init_13 : decode cX11_init 13 = .ok (.new 15, 3) := by decide +kernel
theorem dX11_init_16 : decode cX11_init 16 = .ok (.dup, 1) := by decide +kernel
theorem dX11_init_17 : decode cX11_init 17 = .ok (.invokespecial 17, 3) := by decide +kernel
theorem dX11_init_20 : decode cX11_init 20 = .ok (.putfield 18, 3) := by decide +kernel
theorem dX11_init_23 : decode cX11_init 23 = .ok (.aload_n 0, 1) := by decide +kernel
theorem dX11_init_24 : decode cX11_init 24 = .ok (.bipush 24, 2) := by decide +kernel
theorem dX11_init_26 : decode cX11_init 26 = .ok (.newarray .int, 2) := by decide +kernel
theorem dX11_init_28 : decode cX11_init 28 = .ok (.putfield 22, 3) := by decide +kernel
theorem dX11_init_31 : decode cX11_init 31 = .ok (.aload_n 0, 1) := by decide +kernel
theorem dX11_init_32 : decode cX11_init 32 = .ok (.iconst 0, 1) := by decide +kernel
theorem dX11_init_33 : decode cX11_init 33 = .ok (.putfield 26, 3) := by decide +kernel
theorem dX11_init_36 : decode cX11_init 36 = .ok (.aload_n 0, 1) := by decide +kernel
theorem dX11_init_37 : decode cX11_init 37 = .ok (.new 30, 3) := by decide +kernel
theorem dX11_init_40 : decode cX11_init 40 = .ok (.dup, 1) := by decide +kernel
theorem dX11_init_41 : decode cX11_init 41 = .ok (.invokespecial 32, 3) := by decide +kernel
theorem dX11_init_44 : decode cX11_init 44 = .ok (.putfield 33, 3) := by decide +kernel
theorem dX11_init_47 : decode cX11_init 47 = .ok (.aload_n 0, 1) := by decide +kernel
theorem dX11_init_48 : decode cX11_init 48 = .ok (.new 37, 3) := by decide +kernel
theorem dX11_init_51 : decode cX11_init 51 = .ok (.dup, 1) := by decide +kernel
theorem dX11_init_52 : decode cX11_init 52 = .ok (.invokespecial 39, 3) := by decide +kernel
theorem dX11_init_55 : decode cX11_init 55 = .ok (.putfield 40, 3) := by decide +kernel
theorem dX11_init_58 : decode cX11_init 58 = .ok (.aload_n 0, 1) := by decide +kernel
theorem dX11_init_59 : decode cX11_init 59 = .ok (.iconst 2, 1) := by decide +kernel
theorem dX11_init_60 : decode cX11_init 60 = .ok (.anewarray 44, 3) := by decide +kernel
theorem dX11_init_63 : decode cX11_init 63 = .ok (.putfield 46, 3) := by decide +kernel
theorem dX11_init_66 : decode cX11_init 66 = .ok (.aload_n 0, 1) := by decide +kernel
theorem dX11_init_67 : decode cX11_init 67 = .ok (.iconst 2, 1) := by decide +kernel
theorem dX11_init_68 : decode cX11_init 68 = .ok (.anewarray 50, 3) := by decide +kernel
theorem dX11_init_71 : decode cX11_init 71 = .ok (.putfield 52, 3) := by decide +kernel
theorem dX11_init_74 : decode cX11_init 74 = .ok (.aload_n 0, 1) := by decide +kernel
theorem dX11_init_75 : decode cX11_init 75 = .ok (.iconst 2, 1) := by decide +kernel
theorem dX11_init_76 : decode cX11_init 76 = .ok (.anewarray 56, 3) := by decide +kernel
theorem dX11_init_79 : decode cX11_init 79 = .ok (.putfield 58, 3) := by decide +kernel
theorem dX11_init_82 : decode cX11_init 82 = .ok (.aload_n 0, 1) := by decide +kernel
theorem dX11_init_83 : decode cX11_init 83 = .ok (.aconst_null, 1) := by decide +kernel
theorem dX11_init_84 : decode cX11_init 84 = .ok (.putfield 62, 3) := by decide +kernel
theorem dX11_init_87 : decode cX11_init 87 = .ok (.aload_n 0, 1) := by decide +kernel
theorem dX11_init_88 : decode cX11_init 88 = .ok (.aconst_null, 1) := by decide +kernel
theorem dX11_init_89 : decode cX11_init 89 = .ok (.putfield 66, 3) := by decide +kernel
theorem dX11_init_92 : decode cX11_init 92 = .ok (.iconst 0, 1) := by decide +kernel
theorem dX11_init_93 : decode cX11_init 93 = .ok (.istore_n 1, 1) := by decide +kernel
theorem dX11_init_94 : decode cX11_init 94 = .ok (.iload_n 1, 1) := by decide +kernel
theorem dX11_init_95 : decode cX11_init 95 = .ok (.iconst 2, 1) := by decide +kernel
theorem dX11_init_96 : decode cX11_init 96 = .ok (.if_icmp .ge 22, 3) := by decide +kernel
theorem dX11_init_99 : decode cX11_init 99 = .ok (.aload_n 0, 1) := by decide +kernel
theorem dX11_init_100 : decode cX11_init 100 = .ok (.getfield 11, 3) := by decide +kernel
theorem dX11_init_103 : decode cX11_init 103 = .ok (.iload_n 1, 1) := by decide +kernel
theorem dX11_init_104 : decode cX11_init 104 = .ok (.new 9, 3) := by decide +kernel
theorem dX11_init_107 : decode cX11_init 107 = .ok (.dup, 1) := by decide +kernel
theorem dX11_init_108 : decode cX11_init 108 = .ok (.invokespecial 70, 3) := by decide +kernel
theorem dX11_init_111 : decode cX11_init 111 = .ok (.aastore, 1) := by decide +kernel
theorem dX11_init_112 : decode cX11_init 112 = .ok (.iinc 1 1, 3) := by decide +kernel
theorem dX11_init_115 : decode cX11_init 115 = .ok (.goto (-21), 3) := by decide +kernel
theorem dX11_init_118 : decode cX11_init 118 = .ok (.return_, 1) := by decide +kernel
set_option maxRecDepth 20000 in
theorem ggX11_reader_X11_isReader : GoodIn wsX11_reader wsX11_isReader := goodIn_r _ [5] rfl (by decide +kernel)
set_option maxRecDepth 20000 in
theorem gX11_reader_X11_isReader : GoodIn wsX11_reader (va_wsS RX11 71 yX11_isReader wsX11_isReader) := goodIn_app (goodIn_of _ (by decide +kernel)) ggX11_reader_X11_isReader
set_option maxRecDepth 20000 in
theorem ggX11_reader_X6_become : GoodIn wsX11_reader wsX6_become := goodIn_r _ [10, 11, 12, 13, 14, 15, 16, 17, 18, 19, 31, 32, 33, 34, 35] rfl (by decide +kernel)
set_option maxRecDepth 20000 in
theorem gX11_reader_X6_become : GoodIn wsX11_reader (wsV RX11 75 RX6 yX6_become wsX6_become) := goodIn_app (goodIn_of _ (by decide +kernel)) ggX11_reader_X6_become
theorem dX11_reader_0 : decode cX11_reader 0 = .ok (.iload_n 1, 1) := by decide +kernel
theorem dX11_reader_1 : decode cX11_reader 1 = .ok (.invokestatic 71, 3) := by decide +kernel
theorem dX11_reader_4 : decode cX11_reader 4 = .ok (.ifCond .ne 6, 3) := by decide +kernel
theorem dX11_reader_7 : decode cX11_reader 7 = .ok (.bipush (-2), 2) := by decide +kernel
theorem dX11_reader_9 : decode cX11_reader 9 = .ok (.ireturn, 1) := by decide +kernel
theorem dX11_reader_10 : decode cX11_reader 10 = .ok (.iload_n 2, 1) := by decide +kernel
theorem dX11_reader_11 : decode cX11_reader 11 = .ok (.iconst 1, 1) := by decide +kernel
theorem dX11_reader_12 : decode cX11_reader 12 = .ok (.if_icmp .lt 18, 3) := by decide +kernel
theorem dX11_reader_15 : decode cX11_reader 15 = .ok (.iload_n 2, 1) := by decide +kernel
theorem dX11_reader_16 : decode cX11_reader 16 = .ok (.iconst 5, 1) := by decide +kernel
theorem dX11_reader_17 : decode cX11_reader 17 = .ok (.if_icmp .gt 13, 3) := by decide +kernel
theorem dX11_reader_20 : decode cX11_reader 20 = .ok (.iload_n 3, 1) := by decide +kernel
theorem dX11_reader_21 : decode cX11_reader 21 = .ok (.ifCond .lt 9, 3) := by decide +kernel
theorem dX11_reader_24 : decode cX11_reader 24 = .ok (.iload_n 3, 1) := by decide +kernel
theorem dX11_reader_25 : decode cX11_reader 25 = .ok (.iload_n 2, 1) := by decide +kernel
theorem dX11_reader_26 : decode cX11_reader 26 = .ok (.ishr, 1) := by decide +kernel
theorem dX11_reader_27 : decode cX11_reader 27 = .ok (.ifCond .eq 6, 3) := by decide +kernel
theorem dX11_reader_30 : decode cX11_reader 30 = .ok (.bipush (-3), 2) := by decide +kernel
theorem dX11_reader_32 : decode cX11_reader 32 = .ok (.ireturn, 1) := by decide +kernel
theorem dX11_reader_33 : decode cX11_reader 33 = .ok (.aload_n 0, 1) := by decide +kernel
theorem dX11_reader_34 : decode cX11_reader 34 = .ok (.getfield 11, 3) := by decide +kernel
theorem dX11_reader_37 : decode cX11_reader 37 = .ok (.iload_n 1, 1) := by decide +kernel
theorem dX11_reader_38 : decode cX11_reader 38 = .ok (.aaload, 1) := by decide +kernel
theorem dX11_reader_39 : decode cX11_reader 39 = .ok (.iload_n 2, 1) := by decide +kernel
theorem dX11_reader_40 : decode cX11_reader 40 = .ok (.iload_n 3, 1) := by decide +kernel
theorem dX11_reader_41 : decode cX11_reader 41 = .ok (.invokevirtual 75, 3) := by decide +kernel
theorem dX11_reader_44 : decode cX11_reader 44 = .ok (.iconst 1, 1) := by decide +kernel
theorem dX11_reader_45 : decode cX11_reader 45 = .ok (.ireturn, 1) := by decide +kernel
set_option maxRecDepth 20000 in
theorem ggX11_write_X9_append : GoodIn wsX11_write wsX9_append := goodIn_r _ [6, 7, 8, 9, 21, 22, 23, 24, 25, 26, 27, 28, 29] rfl (by decide +kernel)
set_option maxRecDepth 20000 in
theorem gX11_write_X9_append : GoodIn wsX11_write (wsV RX11 79 RX9 yX9_append wsX9_append) := goodIn_app (goodIn_of _ (by decide +kernel)) ggX11_write_X9_append
theorem dX11_write_0 : decode cX11_write 0 = .ok (.iload_n 3, 1) := by decide +kernel
theorem dX11_write_1 : decode cX11_write 1 = .ok (.iconst 1, 1) := by decide +kernel
theorem dX11_write_2 : decode cX11_write 2 = .ok (.if_icmp .lt 9, 3) := by decide +kernel
theorem dX11_write_5 : decode cX11_write 5 = .ok (.iload_n 3, 1) := by decide +kernel
theorem dX11_write_6 : decode cX11_write 6 = .ok (.bipush 8, 2) := by decide +kernel
theorem dX11_write_8 : decode cX11_write 8 = .ok (.if_icmp .le 6, 3) := by decide +kernel
theorem dX11_write_11 : decode cX11_write 11 = .ok (.bipush (-3), 2) := by decide +kernel
theorem dX11_write_13 : decode cX11_write 13 = .ok (.ireturn, 1) := by decide +kernel
theorem dX11_write_14 : decode cX11_write 14 = .ok (.aload_n 0, 1) := by decide +kernel
theorem dX11_write_15 : decode cX11_write 15 = .ok (.getfield 18, 3) := by decide +kernel
theorem dX11_write_18 : decode cX11_write 18 = .ok (.lload_n 1, 1) := by decide +kernel
theorem dX11_write_19 : decode cX11_write 19 = .ok (.iload_n 3, 1) := by decide +kernel
theorem dX11_write_20 : decode cX11_write 20 = .ok (.invokevirtual 79, 3) := by decide +kernel
theorem dX11_write_23 : decode cX11_write 23 = .ok (.ifCond .eq 13, 3) := by decide +kernel
theorem dX11_write_26 : decode cX11_write 26 = .ok (.aload_n 0, 1) := by decide +kernel
theorem dX11_write_27 : decode cX11_write 27 = .ok (.getfield 18, 3) := by decide +kernel
theorem dX11_write_30 : decode cX11_write 30 = .ok (.getfield 83, 3) := by decide +kernel
theorem dX11_write_33 : decode cX11_write 33 = .ok (.goto 5, 3) := by decide +kernel
theorem dX11_write_36 : decode cX11_write 36 = .ok (.bipush (-5), 2) := by decide +kernel
theorem dX11_write_38 : decode cX11_write 38 = .ok (.ireturn, 1) := by decide +kernel
theorem dX11_erase_0 : decode cX11_erase 0 = .ok (.aload_n 0, 1) := by decide +kernel
theorem dX11_erase_1 : decode cX11_erase 1 = .ok (.getfield 18, 3) := by decide +kernel
theorem dX11_erase_4 : decode cX11_erase 4 = .ok (.getfield 83, 3) := by decide +kernel
theorem dX11_erase_7 : decode cX11_erase 7 = .ok (.istore_n 1, 1) := by decide +kernel
theorem dX11_erase_8 : decode cX11_erase 8 = .ok (.aload_n 0, 1) := by decide +kernel
theorem dX11_erase_9 : decode cX11_erase 9 = .ok (.getfield 18, 3) := by decide +kernel
theorem dX11_erase_12 : decode cX11_erase 12 = .ok (.iconst 0, 1) := by decide +kernel
theorem dX11_erase_13 : decode cX11_erase 13 = .ok (.putfield 83, 3) := by decide +kernel
theorem dX11_erase_16 : decode cX11_erase 16 = .ok (.iload_n 1, 1) := by decide +kernel
theorem dX11_erase_17 : decode cX11_erase 17 = .ok (.ireturn, 1) := by decide +kernel
set_option maxRecDepth 20000 in
theorem ggX11_fault_X11_isReader : GoodIn wsX11_fault wsX11_isReader := goodIn_r _ [6] rfl (by decide +kernel)
set_option maxRecDepth 20000 in
theorem gX11_fault_X11_isReader : GoodIn wsX11_fault (va_wsS RX11 71 yX11_isReader wsX11_isReader) := goodIn_app (goodIn_of _ (by decide +kernel)) ggX11_fault_X11_isReader
set_option maxRecDepth 20000 in
theorem ggX11_fault_X9_parse : GoodIn wsX11_fault wsX9_parse := goodIn_r _ [11, 12, 13, 14, 15, 16, 17, 18, 19, 20, 21, 22, 10, 23, 24, 25, 26, 27, 28, 29, 30, 31, 32, 33, 34, 35, 36, 37, 38, 39, 40, 41, 42, 43, 44, 45, 46, 47, 48, 49, 50, 51, 52, 53, 54, 55, 56, 57, 58, 59, 60, 61, 62, 63, 64, 65, 66, 67, 68, 69, 70, 71, 72, 73, 74, 75, 76, 77, 78, 79, 80, 81, 82, 83, 84, 85, 86, 87, 88, 89, 90, 91, 92, 93, 94, 95, 96, 97, 98, 99, 100, 101, 102, 103, 104, 105, 106, 107, 108, 5, 109, 110, 111, 112, 113, 114, 115, 116, 117, 118, 119, 120, 121, 122, 123, 124, 125, 126, 127, 128, 129, 141, 142, 143, 144, 145, 146, 147, 148, 149, 150, 151, 152, 153, 154] rfl (by decide +kernel)
set_option maxRecDepth 20000 in
theorem gX11_fault_X9_parse : GoodIn wsX11_fault (wsV RX11 86 RX9 yX9_parse wsX9_parse) := goodIn_app (goodIn_of _ (by decide +kernel)) ggX11_fault_X9_parse
theorem dX11_fault_0 : decode cX11_fault 0 = .ok (.iload_n 1, 1) := by decide +kernel
theorem dX11_fault_1 : decode cX11_fault 1 = .ok (.invokestatic 71, 3) := by decide +kernel
theorem dX11_fault_4 : decode cX11_fault 4 = .ok (.ifCond .eq 20, 3) := by decide +kernel
theorem dX11_fault_7 : decode cX11_fault 7 = .ok (.aload_n 0, 1) := by decide +kernel
theorem dX11_fault_8 : decode cX11_fault 8 = .ok (.getfield 18, 3) := by decide +kernel
theorem dX11_fault_11 : decode cX11_fault 11 = .ok (.aload_n 0, 1) := by decide +kernel
theorem dX11_fault_12 : decode cX11_fault 12 = .ok (.getfield 11, 3) := by decide +kernel
theorem dX11_fault_15 : decode cX11_fault 15 = .ok (.iload_n 1, 1) := by decide +kernel
theorem dX11_fault_16 : decode cX11_fault 16 = .ok (.aaload, 1) := by decide +kernel
theorem dX11_fault_17 : decode cX11_fault 17 = .ok (.iconst 0, 1) := by decide +kernel
theorem dX11_fault_18 : decode cX11_fault 18 = .ok (.invokevirtual 86, 3) := by decide +kernel
theorem dX11_fault_21 : decode cX11_fault 21 = .ok (.goto 5, 3) := by decide +kernel
theorem dX11_fault_24 : decode cX11_fault 24 = .ok (.bipush (-2), 2) := by decide +kernel
theorem dX11_fault_26 : decode cX11_fault 26 = .ok (.ireturn, 1) := by decide +kernel
set_option maxRecDepth 20000 in
theorem ggX11_moves_X11_isReader : GoodIn wsX11_moves wsX11_isReader := goodIn_r _ [6] rfl (by decide +kernel)
set_option maxRecDepth 20000 in
theorem gX11_moves_X11_isReader : GoodIn wsX11_moves (va_wsS RX11 71 yX11_isReader wsX11_isReader) := goodIn_app (goodIn_of _ (by decide +kernel)) ggX11_moves_X11_isReader
set_option maxRecDepth 20000 in
theorem ggX11_moves_X9_parse : GoodIn wsX11_moves wsX9_parse := goodIn_r _ [11, 12, 13, 14, 15, 16, 17, 18, 19, 20, 21, 22, 10, 23, 24, 25, 26, 27, 28, 29, 30, 31, 32, 33, 34, 35, 36, 37, 38, 39, 40, 41, 42, 43, 44, 45, 46, 47, 48, 49, 50, 51, 52, 53, 54, 55, 56, 57, 58, 59, 60, 61, 62, 63, 64, 65, 66, 67, 68, 69, 70, 71, 72, 73, 74, 75, 76, 77, 78, 79, 80, 81, 82, 83, 84, 85, 86, 87, 88, 89, 90, 91, 92, 93, 94, 95, 96, 97, 98, 99, 100, 101, 102, 103, 104, 105, 106, 107, 108, 5, 109, 110, 111, 112, 113, 114, 115, 116, 117, 118, 119, 120, 121, 122, 123, 124, 125, 126, 127, 128, 129, 141, 142, 143, 144, 145, 146, 147, 148, 149, 150, 151, 152, 153, 154] rfl (by decide +kernel)
set_option maxRecDepth 20000 in
theorem gX11_moves_X9_parse : GoodIn wsX11_moves (wsV RX11 86 RX9 yX9_parse wsX9_parse) := goodIn_app (goodIn_of _ (by decide +kernel)) ggX11_moves_X9_parse
theorem dX11_moves_0 : decode cX11_moves 0 = .ok (.iload_n 1, 1) := by decide +kernel
theorem dX11_moves_1 : decode cX11_moves 1 = .ok (.invokestatic 71, 3) := by decide +kernel
theorem dX11_moves_4 : decode cX11_moves 4 = .ok (.ifCond .ne 6, 3) := by decide +kernel
theorem dX11_moves_7 : decode cX11_moves 7 = .ok (.bipush (-2), 2) := by decide +kernel
theorem dX11_moves_9 : decode cX11_moves 9 = .ok (.ireturn, 1) := by decide +kernel
theorem dX11_moves_10 : decode cX11_moves 10 = .ok (.aload_n 0, 1) := by decide +kernel
theorem dX11_moves_11 : decode cX11_moves 11 = .ok (.getfield 18, 3) := by decide +kernel
theorem dX11_moves_14 : decode cX11_moves 14 = .ok (.aload_n 0, 1) := by decide +kernel
theorem dX11_moves_15 : decode cX11_moves 15 = .ok (.getfield 11, 3) := by decide +kernel
theorem dX11_moves_18 : decode cX11_moves 18 = .ok (.iload_n 1, 1) := by decide +kernel
theorem dX11_moves_19 : decode cX11_moves 19 = .ok (.aaload, 1) := by decide +kernel
theorem dX11_moves_20 : decode cX11_moves 20 = .ok (.iconst 0, 1) := by decide +kernel
theorem dX11_moves_21 : decode cX11_moves 21 = .ok (.invokevirtual 86, 3) := by decide +kernel
theorem dX11_moves_24 : decode cX11_moves 24 = .ok (.iconst (-1), 1) := by decide +kernel
theorem dX11_moves_25 : decode cX11_moves 25 = .ok (.if_icmp .eq 6, 3) := by decide +kernel
theorem dX11_moves_28 : decode cX11_moves 28 = .ok (.bipush (-4), 2) := by decide +kernel
theorem dX11_moves_30 : decode cX11_moves 30 = .ok (.ireturn, 1) := by decide +kernel
theorem dX11_moves_31 : decode cX11_moves 31 = .ok (.aload_n 0, 1) := by decide +kernel
theorem dX11_moves_32 : decode cX11_moves 32 = .ok (.getfield 18, 3) := by decide +kernel
theorem dX11_moves_35 : decode cX11_moves 35 = .ok (.aload_n 0, 1) := by decide +kernel
theorem dX11_moves_36 : decode cX11_moves 36 = .ok (.getfield 11, 3) := by decide +kernel
theorem dX11_moves_39 : decode cX11_moves 39 = .ok (.iload_n 1, 1) := by decide +kernel
theorem dX11_moves_40 : decode cX11_moves 40 = .ok (.aaload, 1) := by decide +kernel
theorem dX11_moves_41 : decode cX11_moves 41 = .ok (.iconst 1, 1) := by decide +kernel
theorem dX11_moves_42 : decode cX11_moves 42 = .ok (.invokevirtual 86, 3) := by decide +kernel
theorem dX11_moves_45 : decode cX11_moves 45 = .ok (.pop, 1) := by decide +kernel
theorem dX11_moves_46 : decode cX11_moves 46 = .ok (.aload_n 0, 1) := by decide +kernel
theorem dX11_moves_47 : decode cX11_moves 47 = .ok (.getfield 18, 3) := by decide +kernel
theorem dX11_moves_50 : decode cX11_moves 50 = .ok (.iconst 0, 1) := by decide +kernel
theorem dX11_moves_51 : decode cX11_moves 51 = .ok (.putfield 83, 3) := by decide +kernel
theorem dX11_moves_54 : decode cX11_moves 54 = .ok (.aload_n 0, 1) := by decide +kernel
theorem dX11_moves_55 : decode cX11_moves 55 = .ok (.getfield 11, 3) := by decide +kernel
theorem dX11_moves_58 : decode cX11_moves 58 = .ok (.iload_n 1, 1) := by decide +kernel
theorem dX11_moves_59 : decode cX11_moves 59 = .ok (.aaload, 1) := by decide +kernel
theorem dX11_moves_60 : decode cX11_moves 60 = .ok (.getfield 90, 3) := by decide +kernel
theorem dX11_moves_63 : decode cX11_moves 63 = .ok (.ireturn, 1) := by decide +kernel
set_option maxRecDepth 20000 in
theorem ggX11_move_X11_isReader : GoodIn wsX11_move wsX11_isReader := goodIn_r _ [5] rfl (by decide +kernel)
set_option maxRecDepth 20000 in
theorem gX11_move_X11_isReader : GoodIn wsX11_move (va_wsS RX11 71 yX11_isReader wsX11_isReader) := goodIn_app (goodIn_of _ (by decide +kernel)) ggX11_move_X11_isReader
set_option maxRecDepth 20000 in
theorem ggX11_move_X6_hasState : GoodIn wsX11_move wsX6_hasState := goodIn_r _ [10, 11, 40, 41, 42, 43, 44] rfl (by decide +kernel)
set_option maxRecDepth 20000 in
theorem gX11_move_X6_hasState : GoodIn wsX11_move (wsV RX11 91 RX6 yX6_hasState wsX6_hasState) := goodIn_app (goodIn_of _ (by decide +kernel)) ggX11_move_X6_hasState
set_option maxRecDepth 20000 in
theorem ggX11_move_X11_isSign : GoodIn wsX11_move wsX11_isSign := goodIn_r _ [14] rfl (by decide +kernel)
set_option maxRecDepth 20000 in
theorem gX11_move_X11_isSign : GoodIn wsX11_move (va_wsS RX11 94 yX11_isSign wsX11_isSign) := goodIn_app (goodIn_of _ (by decide +kernel)) ggX11_move_X11_isSign
set_option maxRecDepth 20000 in
theorem ggX11_move_X6_moveOf : GoodIn wsX11_move wsX6_moveOf := goodIn_r _ [18, 11, 19, 40, 41, 42, 43, 44] rfl (by decide +kernel)
set_option maxRecDepth 20000 in
theorem gX11_move_X6_moveOf : GoodIn wsX11_move (wsV RX11 97 RX6 yX6_moveOf wsX6_moveOf) := goodIn_app (goodIn_of _ (by decide +kernel)) ggX11_move_X6_moveOf
set_option maxRecDepth 20000 in
theorem ggX11_move_X6_target : GoodIn wsX11_move wsX6_target := goodIn_r _ [22] rfl (by decide +kernel)
set_option maxRecDepth 20000 in
theorem gX11_move_X6_target : GoodIn wsX11_move (va_wsS RX11 101 yX6_target wsX6_target) := goodIn_app (goodIn_of _ (by decide +kernel)) ggX11_move_X6_target
set_option maxRecDepth 20000 in
theorem ggX11_move_X6_goesRight : GoodIn wsX11_move wsX6_goesRight := goodIn_r _ [25] rfl (by decide +kernel)
set_option maxRecDepth 20000 in
theorem gX11_move_X6_goesRight : GoodIn wsX11_move (va_wsS RX11 105 yX6_goesRight wsX6_goesRight) := goodIn_app (goodIn_of _ (by decide +kernel)) ggX11_move_X6_goesRight
set_option maxRecDepth 20000 in
theorem ggX11_move_X6_saying : GoodIn wsX11_move wsX6_saying := goodIn_r _ [28] rfl (by decide +kernel)
set_option maxRecDepth 20000 in
theorem gX11_move_X6_saying : GoodIn wsX11_move (va_wsS RX11 108 yX6_saying wsX6_saying) := goodIn_app (goodIn_of _ (by decide +kernel)) ggX11_move_X6_saying
theorem dX11_move_0 : decode cX11_move 0 = .ok (.iload_n 1, 1) := by decide +kernel
theorem dX11_move_1 : decode cX11_move 1 = .ok (.invokestatic 71, 3) := by decide +kernel
theorem dX11_move_4 : decode cX11_move 4 = .ok (.ifCond .eq 23, 3) := by decide +kernel
theorem dX11_move_7 : decode cX11_move 7 = .ok (.aload_n 0, 1) := by decide +kernel
theorem dX11_move_8 : decode cX11_move 8 = .ok (.getfield 11, 3) := by decide +kernel
theorem dX11_move_11 : decode cX11_move 11 = .ok (.iload_n 1, 1) := by decide +kernel
theorem dX11_move_12 : decode cX11_move 12 = .ok (.aaload, 1) := by decide +kernel
theorem dX11_move_13 : decode cX11_move 13 = .ok (.iload_n 2, 1) := by decide +kernel
theorem dX11_move_14 : decode cX11_move 14 = .ok (.invokevirtual 91, 3) := by decide +kernel
theorem dX11_move_17 : decode cX11_move 17 = .ok (.ifCond .eq 10, 3) := by decide +kernel
theorem dX11_move_20 : decode cX11_move 20 = .ok (.iload_n 3, 1) := by decide +kernel
theorem dX11_move_21 : decode cX11_move 21 = .ok (.invokestatic 94, 3) := by decide +kernel
theorem dX11_move_24 : decode cX11_move 24 = .ok (.ifCond .ne 6, 3) := by decide +kernel
theorem dX11_move_27 : decode cX11_move 27 = .ok (.bipush (-2), 2) := by decide +kernel
theorem dX11_move_29 : decode cX11_move 29 = .ok (.ireturn, 1) := by decide +kernel
theorem dX11_move_30 : decode cX11_move 30 = .ok (.iload 4, 2) := by decide +kernel
theorem dX11_move_32 : decode cX11_move 32 = .ok (.ifCond .lt 9, 3) := by decide +kernel
theorem dX11_move_35 : decode cX11_move 35 = .ok (.iload 4, 2) := by decide +kernel
theorem dX11_move_37 : decode cX11_move 37 = .ok (.iconst 2, 1) := by decide +kernel
theorem dX11_move_38 : decode cX11_move 38 = .ok (.if_icmp .le 6, 3) := by decide +kernel
theorem dX11_move_41 : decode cX11_move 41 = .ok (.bipush (-3), 2) := by decide +kernel
theorem dX11_move_43 : decode cX11_move 43 = .ok (.ireturn, 1) := by decide +kernel
theorem dX11_move_44 : decode cX11_move 44 = .ok (.aload_n 0, 1) := by decide +kernel
theorem dX11_move_45 : decode cX11_move 45 = .ok (.getfield 11, 3) := by decide +kernel
theorem dX11_move_48 : decode cX11_move 48 = .ok (.iload_n 1, 1) := by decide +kernel
theorem dX11_move_49 : decode cX11_move 49 = .ok (.aaload, 1) := by decide +kernel
theorem dX11_move_50 : decode cX11_move 50 = .ok (.iload_n 2, 1) := by decide +kernel
theorem dX11_move_51 : decode cX11_move 51 = .ok (.iload_n 3, 1) := by decide +kernel
theorem dX11_move_52 : decode cX11_move 52 = .ok (.invokevirtual 97, 3) := by decide +kernel
theorem dX11_move_55 : decode cX11_move 55 = .ok (.istore 5, 2) := by decide +kernel
theorem dX11_move_57 : decode cX11_move 57 = .ok (.iload 5, 2) := by decide +kernel
theorem dX11_move_59 : decode cX11_move 59 = .ok (.iconst (-1), 1) := by decide +kernel
theorem dX11_move_60 : decode cX11_move 60 = .ok (.if_icmp .ne 5, 3) := by decide +kernel
theorem dX11_move_63 : decode cX11_move 63 = .ok (.iconst (-1), 1) := by decide +kernel
theorem dX11_move_64 : decode cX11_move 64 = .ok (.ireturn, 1) := by decide +kernel
theorem dX11_move_65 : decode cX11_move 65 = .ok (.iload 4, 2) := by decide +kernel
theorem dX11_move_67 : decode cX11_move 67 = .ok (.lookupswitch 45 #[(0, 25), (1, 31)], 25) := by decide +kernel
theorem dX11_move_92 : decode cX11_move 92 = .ok (.iload 5, 2) := by decide +kernel
theorem dX11_move_94 : decode cX11_move 94 = .ok (.invokestatic 101, 3) := by decide +kernel
theorem dX11_move_97 : decode cX11_move 97 = .ok (.ireturn, 1) := by decide +kernel
theorem dX11_move_98 : decode cX11_move 98 = .ok (.iload 5, 2) := by decide +kernel
theorem dX11_move_100 : decode cX11_move 100 = .ok (.invokestatic 105, 3) := by decide +kernel
theorem dX11_move_103 : decode cX11_move 103 = .ok (.ifCond .eq 7, 3) := by decide +kernel
theorem dX11_move_106 : decode cX11_move 106 = .ok (.iconst 1, 1) := by decide +kernel
theorem dX11_move_107 : decode cX11_move 107 = .ok (.goto 4, 3) := by decide +kernel
theorem dX11_move_110 : decode cX11_move 110 = .ok (.iconst 0, 1) := by decide +kernel
theorem dX11_move_111 : decode cX11_move 111 = .ok (.ireturn, 1) := by decide +kernel
theorem dX11_move_112 : decode cX11_move 112 = .ok (.iload 5, 2) := by decide +kernel
theorem dX11_move_114 : decode cX11_move 114 = .ok (.invokestatic 108, 3) := by decide +kernel
theorem dX11_move_117 : decode cX11_move 117 = .ok (.ireturn, 1) := by decide +kernel
set_option maxRecDepth 20000 in
theorem ggX11_drop_X11_isReader : GoodIn wsX11_drop wsX11_isReader := goodIn_r _ [5] rfl (by decide +kernel)
set_option maxRecDepth 20000 in
theorem gX11_drop_X11_isReader : GoodIn wsX11_drop (va_wsS RX11 71 yX11_isReader wsX11_isReader) := goodIn_app (goodIn_of _ (by decide +kernel)) ggX11_drop_X11_isReader
set_option maxRecDepth 20000 in
theorem ggX11_drop_X6_moveOf : GoodIn wsX11_drop wsX6_moveOf := goodIn_r _ [10, 11, 12, 36, 37, 38, 39, 40] rfl (by decide +kernel)
set_option maxRecDepth 20000 in
theorem gX11_drop_X6_moveOf : GoodIn wsX11_drop (wsV RX11 97 RX6 yX6_moveOf wsX6_moveOf) := goodIn_app (goodIn_of _ (by decide +kernel)) ggX11_drop_X6_moveOf
set_option maxRecDepth 20000 in
theorem ggX11_drop_X6_put : GoodIn wsX11_drop wsX6_put := goodIn_r _ [16, 17, 12, 18, 19, 20, 21, 9, 22, 11, 23, 4, 24, 36, 37, 38, 39, 40] rfl (by decide +kernel)
set_option maxRecDepth 20000 in
theorem gX11_drop_X6_put : GoodIn wsX11_drop (wsV RX11 111 RX6 yX6_put wsX6_put) := goodIn_app (goodIn_of _ (by decide +kernel)) ggX11_drop_X6_put
theorem dX11_drop_0 : decode cX11_drop 0 = .ok (.iload_n 1, 1) := by decide +kernel
theorem dX11_drop_1 : decode cX11_drop 1 = .ok (.invokestatic 71, 3) := by decide +kernel
theorem dX11_drop_4 : decode cX11_drop 4 = .ok (.ifCond .eq 18, 3) := by decide +kernel
theorem dX11_drop_7 : decode cX11_drop 7 = .ok (.aload_n 0, 1) := by decide +kernel
theorem dX11_drop_8 : decode cX11_drop 8 = .ok (.getfield 11, 3) := by decide +kernel
theorem dX11_drop_11 : decode cX11_drop 11 = .ok (.iload_n 1, 1) := by decide +kernel
theorem dX11_drop_12 : decode cX11_drop 12 = .ok (.aaload, 1) := by decide +kernel
theorem dX11_drop_13 : decode cX11_drop 13 = .ok (.iload_n 2, 1) := by decide +kernel
theorem dX11_drop_14 : decode cX11_drop 14 = .ok (.iload_n 3, 1) := by decide +kernel
theorem dX11_drop_15 : decode cX11_drop 15 = .ok (.invokevirtual 97, 3) := by decide +kernel
theorem dX11_drop_18 : decode cX11_drop 18 = .ok (.iconst (-1), 1) := by decide +kernel
theorem dX11_drop_19 : decode cX11_drop 19 = .ok (.if_icmp .ne 6, 3) := by decide +kernel
theorem dX11_drop_22 : decode cX11_drop 22 = .ok (.bipush (-2), 2) := by decide +kernel
theorem dX11_drop_24 : decode cX11_drop 24 = .ok (.ireturn, 1) := by decide +kernel
theorem dX11_drop_25 : decode cX11_drop 25 = .ok (.aload_n 0, 1) := by decide +kernel
theorem dX11_drop_26 : decode cX11_drop 26 = .ok (.getfield 11, 3) := by decide +kernel
theorem dX11_drop_29 : decode cX11_drop 29 = .ok (.iload_n 1, 1) := by decide +kernel
theorem dX11_drop_30 : decode cX11_drop 30 = .ok (.aaload, 1) := by decide +kernel
theorem dX11_drop_31 : decode cX11_drop 31 = .ok (.iload_n 2, 1) := by decide +kernel
theorem dX11_drop_32 : decode cX11_drop 32 = .ok (.iload_n 3, 1) := by decide +kernel
theorem dX11_drop_33 : decode cX11_drop 33 = .ok (.iconst (-1), 1) := by decide +kernel
theorem dX11_drop_34 : decode cX11_drop 34 = .ok (.invokevirtual 111, 3) := by decide +kernel
theorem dX11_drop_37 : decode cX11_drop 37 = .ok (.aload_n 0, 1) := by decide +kernel
theorem dX11_drop_38 : decode cX11_drop 38 = .ok (.getfield 11, 3) := by decide +kernel
theorem dX11_drop_41 : decode cX11_drop 41 = .ok (.iload_n 1, 1) := by decide +kernel
theorem dX11_drop_42 : decode cX11_drop 42 = .ok (.aaload, 1) := by decide +kernel
theorem dX11_drop_43 : decode cX11_drop 43 = .ok (.getfield 90, 3) := by decide +kernel
theorem dX11_drop_46 : decode cX11_drop 46 = .ok (.ireturn, 1) := by decide +kernel
set_option maxRecDepth 20000 in
theorem ggX11_letter_X11_isLetter : GoodIn wsX11_letter wsX11_isLetter := goodIn_r _ [6] rfl (by decide +kernel)
set_option maxRecDepth 20000 in
theorem gX11_letter_X11_isLetter : GoodIn wsX11_letter (va_wsS RX11 115 yX11_isLetter wsX11_isLetter) := goodIn_app (goodIn_of _ (by decide +kernel)) ggX11_letter_X11_isLetter
theorem dX11_letter_0 : decode cX11_letter 0 = .ok (.iload_n 1, 1) := by decide +kernel
theorem dX11_letter_1 : decode cX11_letter 1 = .ok (.invokestatic 115, 3) := by decide +kernel
theorem dX11_letter_4 : decode cX11_letter 4 = .ok (.ifCond .ne 6, 3) := by decide +kernel
theorem dX11_letter_7 : decode cX11_letter 7 = .ok (.bipush (-2), 2) := by decide +kernel
theorem dX11_letter_9 : decode cX11_letter 9 = .ok (.ireturn, 1) := by decide +kernel
theorem dX11_letter_10 : decode cX11_letter 10 = .ok (.aload_n 0, 1) := by decide +kernel
theorem dX11_letter_11 : decode cX11_letter 11 = .ok (.getfield 26, 3) := by decide +kernel
theorem dX11_letter_14 : decode cX11_letter 14 = .ok (.bipush 24, 2) := by decide +kernel
theorem dX11_letter_16 : decode cX11_letter 16 = .ok (.if_icmp .lt 6, 3) := by decide +kernel
theorem dX11_letter_19 : decode cX11_letter 19 = .ok (.bipush (-5), 2) := by decide +kernel
theorem dX11_letter_21 : decode cX11_letter 21 = .ok (.ireturn, 1) := by decide +kernel
theorem dX11_letter_22 : decode cX11_letter 22 = .ok (.aload_n 0, 1) := by decide +kernel
theorem dX11_letter_23 : decode cX11_letter 23 = .ok (.getfield 22, 3) := by decide +kernel
theorem dX11_letter_26 : decode cX11_letter 26 = .ok (.aload_n 0, 1) := by decide +kernel
theorem dX11_letter_27 : decode cX11_letter 27 = .ok (.getfield 26, 3) := by decide +kernel
theorem dX11_letter_30 : decode cX11_letter 30 = .ok (.iload_n 1, 1) := by decide +kernel
theorem dX11_letter_31 : decode cX11_letter 31 = .ok (.iastore, 1) := by decide +kernel
theorem dX11_letter_32 : decode cX11_letter 32 = .ok (.aload_n 0, 1) := by decide +kernel
theorem dX11_letter_33 : decode cX11_letter 33 = .ok (.dup, 1) := by decide +kernel
theorem dX11_letter_34 : decode cX11_letter 34 = .ok (.getfield 26, 3) := by decide +kernel
theorem dX11_letter_37 : decode cX11_letter 37 = .ok (.iconst 1, 1) := by decide +kernel
theorem dX11_letter_38 : decode cX11_letter 38 = .ok (.iadd, 1) := by decide +kernel
theorem dX11_letter_39 : decode cX11_letter 39 = .ok (.putfield 26, 3) := by decide +kernel
theorem dX11_letter_42 : decode cX11_letter 42 = .ok (.aload_n 0, 1) := by decide +kernel
theorem dX11_letter_43 : decode cX11_letter 43 = .ok (.getfield 26, 3) := by decide +kernel
theorem dX11_letter_46 : decode cX11_letter 46 = .ok (.ireturn, 1) := by decide +kernel
set_option maxRecDepth 20000 in
theorem ggX11_row_X11_letterIn : GoodIn wsX11_row wsX11_letterIn := goodIn_r _ [6, 7] rfl (by decide +kernel)
set_option maxRecDepth 20000 in
theorem gX11_row_X11_letterIn : GoodIn wsX11_row (va_wsS RX11 118 yX11_letterIn wsX11_letterIn) := goodIn_app (goodIn_of _ (by decide +kernel)) ggX11_row_X11_letterIn
set_option maxRecDepth 20000 in
theorem ggX11_row_X11_isLetter : GoodIn wsX11_row wsX11_isLetter := goodIn_r _ [10] rfl (by decide +kernel)
set_option maxRecDepth 20000 in
theorem gX11_row_X11_isLetter : GoodIn wsX11_row (va_wsS RX11 115 yX11_isLetter wsX11_isLetter) := goodIn_app (goodIn_of _ (by decide +kernel)) ggX11_row_X11_isLetter
theorem dX11_row_0 : decode cX11_row 0 = .ok (.iload_n 3, 1) := by decide +kernel
theorem dX11_row_1 : decode cX11_row 1 = .ok (.ifCond .lt 9, 3) := by decide +kernel
theorem dX11_row_4 : decode cX11_row 4 = .ok (.iload_n 3, 1) := by decide +kernel
theorem dX11_row_5 : decode cX11_row 5 = .ok (.bipush 24, 2) := by decide +kernel
theorem dX11_row_7 : decode cX11_row 7 = .ok (.if_icmp .le 6, 3) := by decide +kernel
theorem dX11_row_10 : decode cX11_row 10 = .ok (.bipush (-3), 2) := by decide +kernel
theorem dX11_row_12 : decode cX11_row 12 = .ok (.ireturn, 1) := by decide +kernel
theorem dX11_row_13 : decode cX11_row 13 = .ok (.iconst 0, 1) := by decide +kernel
theorem dX11_row_14 : decode cX11_row 14 = .ok (.istore 4, 2) := by decide +kernel
theorem dX11_row_16 : decode cX11_row 16 = .ok (.iload 4, 2) := by decide +kernel
theorem dX11_row_18 : decode cX11_row 18 = .ok (.iload_n 3, 1) := by decide +kernel
theorem dX11_row_19 : decode cX11_row 19 = .ok (.if_icmp .ge 24, 3) := by decide +kernel
theorem dX11_row_22 : decode cX11_row 22 = .ok (.lload_n 1, 1) := by decide +kernel
theorem dX11_row_23 : decode cX11_row 23 = .ok (.iload 4, 2) := by decide +kernel
theorem dX11_row_25 : decode cX11_row 25 = .ok (.invokestatic 118, 3) := by decide +kernel
theorem dX11_row_28 : decode cX11_row 28 = .ok (.invokestatic 115, 3) := by decide +kernel
theorem dX11_row_31 : decode cX11_row 31 = .ok (.ifCond .ne 6, 3) := by decide +kernel
theorem dX11_row_34 : decode cX11_row 34 = .ok (.bipush (-2), 2) := by decide +kernel
theorem dX11_row_36 : decode cX11_row 36 = .ok (.ireturn, 1) := by decide +kernel
theorem dX11_row_37 : decode cX11_row 37 = .ok (.iinc 4 1, 3) := by decide +kernel
theorem dX11_row_40 : decode cX11_row 40 = .ok (.goto (-24), 3) := by decide +kernel
theorem dX11_row_43 : decode cX11_row 43 = .ok (.iconst 0, 1) := by decide +kernel
theorem dX11_row_44 : decode cX11_row 44 = .ok (.istore 4, 2) := by decide +kernel
theorem dX11_row_46 : decode cX11_row 46 = .ok (.iload 4, 2) := by decide +kernel
theorem dX11_row_48 : decode cX11_row 48 = .ok (.iload_n 3, 1) := by decide +kernel
theorem dX11_row_49 : decode cX11_row 49 = .ok (.if_icmp .ge 22, 3) := by decide +kernel
theorem dX11_row_52 : decode cX11_row 52 = .ok (.aload_n 0, 1) := by decide +kernel
theorem dX11_row_53 : decode cX11_row 53 = .ok (.getfield 22, 3) := by decide +kernel
theorem dX11_row_56 : decode cX11_row 56 = .ok (.iload 4, 2) := by decide +kernel
theorem dX11_row_58 : decode cX11_row 58 = .ok (.lload_n 1, 1) := by decide +kernel
theorem dX11_row_59 : decode cX11_row 59 = .ok (.iload 4, 2) := by decide +kernel
theorem dX11_row_61 : decode cX11_row 61 = .ok (.invokestatic 118, 3) := by decide +kernel
theorem dX11_row_64 : decode cX11_row 64 = .ok (.iastore, 1) := by decide +kernel
theorem dX11_row_65 : decode cX11_row 65 = .ok (.iinc 4 1, 3) := by decide +kernel
theorem dX11_row_68 : decode cX11_row 68 = .ok (.goto (-22), 3) := by decide +kernel
theorem dX11_row_71 : decode cX11_row 71 = .ok (.aload_n 0, 1) := by decide +kernel
theorem dX11_row_72 : decode cX11_row 72 = .ok (.iload_n 3, 1) := by decide +kernel
theorem dX11_row_73 : decode cX11_row 73 = .ok (.putfield 26, 3) := by decide +kernel
theorem dX11_row_76 : decode cX11_row 76 = .ok (.iconst 1, 1) := by decide +kernel
theorem dX11_row_77 : decode cX11_row 77 = .ok (.ireturn, 1) := by decide +kernel
set_option maxRecDepth 20000 in
theorem ggX11_run_X11_isReader : GoodIn wsX11_run wsX11_isReader := goodIn_r _ [8] rfl (by decide +kernel)
set_option maxRecDepth 20000 in
theorem gX11_run_X11_isReader : GoodIn wsX11_run (va_wsS RX11 71 yX11_isReader wsX11_isReader) := goodIn_app (goodIn_of _ (by decide +kernel)) ggX11_run_X11_isReader
set_option maxRecDepth 20000 in
theorem ggX11_run_X10_go : GoodIn wsX11_run wsX10_go := goodIn_r _ [13, 14, 15, 16, 17, 18, 19, 20, 21, 22, 23, 24, 25, 26, 12, 27, 28, 29, 30, 31, 32, 33, 34, 35, 36, 37, 38, 39, 40, 41, 42, 43, 44, 45, 46, 47, 48, 49, 50, 51, 52, 53, 54, 55, 56, 57, 58, 59, 60, 61, 73, 74, 75, 76, 77, 78, 79, 80, 81, 82, 83, 84] rfl (by decide +kernel)
set_option maxRecDepth 20000 in
theorem gX11_run_X10_go : GoodIn wsX11_run (wsV RX11 122 RX10 yX10_go wsX10_go) := goodIn_app (goodIn_of _ (by decide +kernel)) ggX11_run_X10_go
theorem dX11_run_0 : decode cX11_run 0 = .ok (.iload_n 1, 1) := by decide +kernel
theorem dX11_run_1 : decode cX11_run 1 = .ok (.invokestatic 71, 3) := by decide +kernel
theorem dX11_run_4 : decode cX11_run 4 = .ok (.ifCond .ne 6, 3) := by decide +kernel
theorem dX11_run_7 : decode cX11_run 7 = .ok (.bipush (-2), 2) := by decide +kernel
theorem dX11_run_9 : decode cX11_run 9 = .ok (.ireturn, 1) := by decide +kernel
theorem dX11_run_10 : decode cX11_run 10 = .ok (.iload_n 2, 1) := by decide +kernel
theorem dX11_run_11 : decode cX11_run 11 = .ok (.ifCond .lt 8, 3) := by decide +kernel
theorem dX11_run_14 : decode cX11_run 14 = .ok (.iload_n 2, 1) := by decide +kernel
theorem dX11_run_15 : decode cX11_run 15 = .ok (.iconst 4, 1) := by decide +kernel
theorem dX11_run_16 : decode cX11_run 16 = .ok (.if_icmp .le 6, 3) := by decide +kernel
theorem dX11_run_19 : decode cX11_run 19 = .ok (.bipush (-3), 2) := by decide +kernel
theorem dX11_run_21 : decode cX11_run 21 = .ok (.ireturn, 1) := by decide +kernel
theorem dX11_run_22 : decode cX11_run 22 = .ok (.aload_n 0, 1) := by decide +kernel
theorem dX11_run_23 : decode cX11_run 23 = .ok (.getfield 33, 3) := by decide +kernel
theorem dX11_run_26 : decode cX11_run 26 = .ok (.aload_n 0, 1) := by decide +kernel
theorem dX11_run_27 : decode cX11_run 27 = .ok (.getfield 11, 3) := by decide +kernel
theorem dX11_run_30 : decode cX11_run 30 = .ok (.iload_n 1, 1) := by decide +kernel
theorem dX11_run_31 : decode cX11_run 31 = .ok (.aaload, 1) := by decide +kernel
theorem dX11_run_32 : decode cX11_run 32 = .ok (.aload_n 0, 1) := by decide +kernel
theorem dX11_run_33 : decode cX11_run 33 = .ok (.getfield 22, 3) := by decide +kernel
theorem dX11_run_36 : decode cX11_run 36 = .ok (.aload_n 0, 1) := by decide +kernel
theorem dX11_run_37 : decode cX11_run 37 = .ok (.getfield 26, 3) := by decide +kernel
theorem dX11_run_40 : decode cX11_run 40 = .ok (.invokevirtual 122, 3) := by decide +kernel
theorem dX11_run_43 : decode cX11_run 43 = .ok (.iload_n 2, 1) := by decide +kernel
theorem dX11_run_44 : decode cX11_run 44 = .ok (.tableswitch 64 0 3 #[32, 40, 48, 56], 32) := by decide +kernel
theorem dX11_run_76 : decode cX11_run 76 = .ok (.aload_n 0, 1) := by decide +kernel
theorem dX11_run_77 : decode cX11_run 77 = .ok (.getfield 33, 3) := by decide +kernel
theorem dX11_run_80 : decode cX11_run 80 = .ok (.getfield 126, 3) := by decide +kernel
theorem dX11_run_83 : decode cX11_run 83 = .ok (.ireturn, 1) := by decide +kernel
theorem dX11_run_84 : decode cX11_run 84 = .ok (.aload_n 0, 1) := by decide +kernel
theorem dX11_run_85 : decode cX11_run 85 = .ok (.getfield 33, 3) := by decide +kernel
theorem dX11_run_88 : decode cX11_run 88 = .ok (.getfield 129, 3) := by decide +kernel
theorem dX11_run_91 : decode cX11_run 91 = .ok (.ireturn, 1) := by decide +kernel
theorem dX11_run_92 : decode cX11_run 92 = .ok (.aload_n 0, 1) := by decide +kernel
theorem dX11_run_93 : decode cX11_run 93 = .ok (.getfield 33, 3) := by decide +kernel
theorem dX11_run_96 : decode cX11_run 96 = .ok (.getfield 132, 3) := by decide +kernel
theorem dX11_run_99 : decode cX11_run 99 = .ok (.ireturn, 1) := by decide +kernel
theorem dX11_run_100 : decode cX11_run 100 = .ok (.aload_n 0, 1) := by decide +kernel
theorem dX11_run_101 : decode cX11_run 101 = .ok (.getfield 33, 3) := by decide +kernel
theorem dX11_run_104 : decode cX11_run 104 = .ok (.getfield 135, 3) := by decide +kernel
theorem dX11_run_107 : decode cX11_run 107 = .ok (.ireturn, 1) := by decide +kernel
theorem dX11_run_108 : decode cX11_run 108 = .ok (.aload_n 0, 1) := by decide +kernel
theorem dX11_run_109 : decode cX11_run 109 = .ok (.getfield 33, 3) := by decide +kernel
theorem dX11_run_112 : decode cX11_run 112 = .ok (.getfield 138, 3) := by decide +kernel
theorem dX11_run_115 : decode cX11_run 115 = .ok (.ireturn, 1) := by decide +kernel
set_option maxRecDepth 20000 in
theorem ggX11_said_X11_isReader : GoodIn wsX11_said wsX11_isReader := goodIn_r _ [8] rfl (by decide +kernel)
set_option maxRecDepth 20000 in
theorem gX11_said_X11_isReader : GoodIn wsX11_said (va_wsS RX11 71 yX11_isReader wsX11_isReader) := goodIn_app (goodIn_of _ (by decide +kernel)) ggX11_said_X11_isReader
set_option maxRecDepth 20000 in
theorem ggX11_said_X10_go : GoodIn wsX11_said wsX10_go := goodIn_r _ [13, 14, 15, 16, 17, 18, 19, 20, 21, 22, 23, 24, 25, 26, 12, 27, 28, 29, 30, 31, 32, 33, 34, 35, 36, 37, 38, 39, 40, 41, 42, 43, 44, 45, 46, 47, 48, 49, 50, 51, 52, 53, 54, 55, 56, 57, 58, 59, 60, 61, 73, 74, 75, 76, 77, 78, 79, 80, 81, 82, 83, 84] rfl (by decide +kernel)
set_option maxRecDepth 20000 in
theorem gX11_said_X10_go : GoodIn wsX11_said (wsV RX11 122 RX10 yX10_go wsX10_go) := goodIn_app (goodIn_of _ (by decide +kernel)) ggX11_said_X10_go
theorem dX11_said_0 : decode cX11_said 0 = .ok (.iload_n 1, 1) := by decide +kernel
theorem dX11_said_1 : decode cX11_said 1 = .ok (.invokestatic 71, 3) := by decide +kernel
theorem dX11_said_4 : decode cX11_said 4 = .ok (.ifCond .ne 6, 3) := by decide +kernel
theorem dX11_said_7 : decode cX11_said 7 = .ok (.bipush (-2), 2) := by decide +kernel
theorem dX11_said_9 : decode cX11_said 9 = .ok (.ireturn, 1) := by decide +kernel
theorem dX11_said_10 : decode cX11_said 10 = .ok (.iload_n 2, 1) := by decide +kernel
theorem dX11_said_11 : decode cX11_said 11 = .ok (.ifCond .ge 6, 3) := by decide +kernel
theorem dX11_said_14 : decode cX11_said 14 = .ok (.bipush (-3), 2) := by decide +kernel
theorem dX11_said_16 : decode cX11_said 16 = .ok (.ireturn, 1) := by decide +kernel
theorem dX11_said_17 : decode cX11_said 17 = .ok (.aload_n 0, 1) := by decide +kernel
theorem dX11_said_18 : decode cX11_said 18 = .ok (.getfield 33, 3) := by decide +kernel
theorem dX11_said_21 : decode cX11_said 21 = .ok (.aload_n 0, 1) := by decide +kernel
theorem dX11_said_22 : decode cX11_said 22 = .ok (.getfield 11, 3) := by decide +kernel
theorem dX11_said_25 : decode cX11_said 25 = .ok (.iload_n 1, 1) := by decide +kernel
theorem dX11_said_26 : decode cX11_said 26 = .ok (.aaload, 1) := by decide +kernel
theorem dX11_said_27 : decode cX11_said 27 = .ok (.aload_n 0, 1) := by decide +kernel
theorem dX11_said_28 : decode cX11_said 28 = .ok (.getfield 22, 3) := by decide +kernel
theorem dX11_said_31 : decode cX11_said 31 = .ok (.aload_n 0, 1) := by decide +kernel
theorem dX11_said_32 : decode cX11_said 32 = .ok (.getfield 26, 3) := by decide +kernel
theorem dX11_said_35 : decode cX11_said 35 = .ok (.invokevirtual 122, 3) := by decide +kernel
theorem dX11_said_38 : decode cX11_said 38 = .ok (.iload_n 2, 1) := by decide +kernel
theorem dX11_said_39 : decode cX11_said 39 = .ok (.aload_n 0, 1) := by decide +kernel
theorem dX11_said_40 : decode cX11_said 40 = .ok (.getfield 33, 3) := by decide +kernel
theorem dX11_said_43 : decode cX11_said 43 = .ok (.getfield 138, 3) := by decide +kernel
theorem dX11_said_46 : decode cX11_said 46 = .ok (.if_icmp .ge 15, 3) := by decide +kernel
theorem dX11_said_49 : decode cX11_said 49 = .ok (.aload_n 0, 1) := by decide +kernel
theorem dX11_said_50 : decode cX11_said 50 = .ok (.getfield 33, 3) := by decide +kernel
theorem dX11_said_53 : decode cX11_said 53 = .ok (.getfield 141, 3) := by decide +kernel
theorem dX11_said_56 : decode cX11_said 56 = .ok (.iload_n 2, 1) := by decide +kernel
theorem dX11_said_57 : decode cX11_said 57 = .ok (.iaload, 1) := by decide +kernel
theorem dX11_said_58 : decode cX11_said 58 = .ok (.goto 4, 3) := by decide +kernel
theorem dX11_said_61 : decode cX11_said 61 = .ok (.iconst (-1), 1) := by decide +kernel
theorem dX11_said_62 : decode cX11_said 62 = .ok (.ireturn, 1) := by decide +kernel
set_option maxRecDepth 20000 in
theorem ggX11_table_X11_isReader : GoodIn wsX11_table wsX11_isReader := goodIn_r _ [7] rfl (by decide +kernel)
set_option maxRecDepth 20000 in
theorem gX11_table_X11_isReader : GoodIn wsX11_table (va_wsS RX11 71 yX11_isReader wsX11_isReader) := goodIn_app (goodIn_of _ (by decide +kernel)) ggX11_table_X11_isReader
set_option maxRecDepth 20000 in
theorem ggX11_table_X6_hasState : GoodIn wsX11_table wsX6_hasState := goodIn_r _ [12, 13, 60, 61, 62, 63, 64] rfl (by decide +kernel)
set_option maxRecDepth 20000 in
theorem gX11_table_X6_hasState : GoodIn wsX11_table (wsV RX11 91 RX6 yX6_hasState wsX6_hasState) := goodIn_app (goodIn_of _ (by decide +kernel)) ggX11_table_X6_hasState
set_option maxRecDepth 20000 in
theorem ggX11_table_X3_tableOfRow : GoodIn wsX11_table wsX3_tableOfRow := goodIn_r _ [17, 18, 19, 16, 20, 21, 22, 23, 11, 24, 13, 25, 26, 27, 28, 29, 30, 31, 32, 33, 34, 35, 36, 37, 38, 39, 40, 41, 42, 43, 44, 45, 46, 47, 60, 61, 62, 63, 64] rfl (by decide +kernel)
set_option maxRecDepth 20000 in
theorem gX11_table_X3_tableOfRow : GoodIn wsX11_table (va_wsS RX11 144 yX3_tableOfRow wsX3_tableOfRow) := goodIn_app (goodIn_of _ (by decide +kernel)) ggX11_table_X3_tableOfRow
set_option maxRecDepth 20000 in
theorem ggX11_table_X3_entry : GoodIn wsX11_table wsX3_entry := goodIn_r _ [43, 44] rfl (by decide +kernel)
set_option maxRecDepth 20000 in
theorem gX11_table_X3_entry : GoodIn wsX11_table (va_wsS RX11 148 yX3_entry wsX3_entry) := goodIn_app (goodIn_of _ (by decide +kernel)) ggX11_table_X3_entry
theorem dX11_table_0 : decode cX11_table 0 = .ok (.iload_n 1, 1) := by decide +kernel
theorem dX11_table_1 : decode cX11_table 1 = .ok (.invokestatic 71, 3) := by decide +kernel
theorem dX11_table_4 : decode cX11_table 4 = .ok (.ifCond .eq 16, 3) := by decide +kernel
theorem dX11_table_7 : decode cX11_table 7 = .ok (.aload_n 0, 1) := by decide +kernel
theorem dX11_table_8 : decode cX11_table 8 = .ok (.getfield 11, 3) := by decide +kernel
theorem dX11_table_11 : decode cX11_table 11 = .ok (.iload_n 1, 1) := by decide +kernel
theorem dX11_table_12 : decode cX11_table 12 = .ok (.aaload, 1) := by decide +kernel
theorem dX11_table_13 : decode cX11_table 13 = .ok (.iload_n 3, 1) := by decide +kernel
theorem dX11_table_14 : decode cX11_table 14 = .ok (.invokevirtual 91, 3) := by decide +kernel
theorem dX11_table_17 : decode cX11_table 17 = .ok (.ifCond .ne 6, 3) := by decide +kernel
theorem dX11_table_20 : decode cX11_table 20 = .ok (.bipush (-2), 2) := by decide +kernel
theorem dX11_table_22 : decode cX11_table 22 = .ok (.ireturn, 1) := by decide +kernel
theorem dX11_table_23 : decode cX11_table 23 = .ok (.iload_n 2, 1) := by decide +kernel
theorem dX11_table_24 : decode cX11_table 24 = .ok (.ifCond .lt 8, 3) := by decide +kernel
theorem dX11_table_27 : decode cX11_table 27 = .ok (.iload_n 2, 1) := by decide +kernel
theorem dX11_table_28 : decode cX11_table 28 = .ok (.iconst 1, 1) := by decide +kernel
theorem dX11_table_29 : decode cX11_table 29 = .ok (.if_icmp .le 6, 3) := by decide +kernel
theorem dX11_table_32 : decode cX11_table 32 = .ok (.bipush (-3), 2) := by decide +kernel
theorem dX11_table_34 : decode cX11_table 34 = .ok (.ireturn, 1) := by decide +kernel
theorem dX11_table_35 : decode cX11_table 35 = .ok (.aload_n 0, 1) := by decide +kernel
theorem dX11_table_36 : decode cX11_table 36 = .ok (.getfield 26, 3) := by decide +kernel
theorem dX11_table_39 : decode cX11_table 39 = .ok (.ifCond .ne 6, 3) := by decide +kernel
theorem dX11_table_42 : decode cX11_table 42 = .ok (.bipush (-4), 2) := by decide +kernel
theorem dX11_table_44 : decode cX11_table 44 = .ok (.ireturn, 1) := by decide +kernel
theorem dX11_table_45 : decode cX11_table 45 = .ok (.aload_n 0, 1) := by decide +kernel
theorem dX11_table_46 : decode cX11_table 46 = .ok (.getfield 11, 3) := by decide +kernel
theorem dX11_table_49 : decode cX11_table 49 = .ok (.iload_n 1, 1) := by decide +kernel
theorem dX11_table_50 : decode cX11_table 50 = .ok (.aaload, 1) := by decide +kernel
theorem dX11_table_51 : decode cX11_table 51 = .ok (.aload_n 0, 1) := by decide +kernel
theorem dX11_table_52 : decode cX11_table 52 = .ok (.getfield 22, 3) := by decide +kernel
theorem dX11_table_55 : decode cX11_table 55 = .ok (.aload_n 0, 1) := by decide +kernel
theorem dX11_table_56 : decode cX11_table 56 = .ok (.getfield 26, 3) := by decide +kernel
theorem dX11_table_59 : decode cX11_table 59 = .ok (.invokestatic 144, 3) := by decide +kernel
theorem dX11_table_62 : decode cX11_table 62 = .ok (.iload_n 2, 1) := by decide +kernel
theorem dX11_table_63 : decode cX11_table 63 = .ok (.iload_n 3, 1) := by decide +kernel
theorem dX11_table_64 : decode cX11_table 64 = .ok (.invokestatic 148, 3) := by decide +kernel
theorem dX11_table_67 : decode cX11_table 67 = .ok (.ireturn, 1) := by decide +kernel
set_option maxRecDepth 20000 in
theorem ggX11_like_X11_isReader : GoodIn wsX11_like wsX11_isReader := goodIn_r _ [7] rfl (by decide +kernel)
set_option maxRecDepth 20000 in
theorem gX11_like_X11_isReader : GoodIn wsX11_like (va_wsS RX11 71 yX11_isReader wsX11_isReader) := goodIn_app (goodIn_of _ (by decide +kernel)) ggX11_like_X11_isReader
set_option maxRecDepth 20000 in
theorem ggX11_like_X11_kindsOf : GoodIn wsX11_like wsX11_kindsOf := goodIn_r _ [11, 12, 13, 14, 15, 2, 16, 17, 18, 19, 20, 21, 22, 23, 24, 25, 26, 27, 28, 29, 30, 31, 32, 33, 34, 35, 36, 37, 38, 39, 40, 41, 42, 43, 44, 45, 46, 47, 48, 49, 50, 51, 52, 53, 54, 55, 56, 57, 58, 59, 60, 61, 62, 63, 64, 65, 66, 67, 68, 69, 70, 71, 72, 73, 74, 75, 76, 77, 78, 79, 80, 81, 82, 83, 84, 85, 86, 87, 88, 89, 90, 91, 92, 93, 94, 95, 96, 97, 98, 99, 100, 101, 102, 103, 104, 105, 106, 107, 108, 109, 110, 111, 112, 113, 114, 115, 116, 117, 118, 119, 120, 121, 122, 123, 124, 125, 126, 138, 139, 140, 141, 142, 143, 144, 145, 146, 147, 148, 149, 150, 151, 152, 153, 154, 155, 156, 157, 158, 159, 160, 161, 162, 163, 164, 165] rfl (by decide +kernel)
set_option maxRecDepth 20000 in
theorem gX11_like_X11_kindsOf : GoodIn wsX11_like (wsV RX11 152 RX11 yX11_kindsOf wsX11_kindsOf) := goodIn_app (goodIn_of _ (by decide +kernel)) ggX11_like_X11_kindsOf
set_option maxRecDepth 20000 in
theorem ggX11_like_X3_tableOfRow : GoodIn wsX11_like wsX3_tableOfRow := goodIn_r _ [129, 74, 75, 15, 76, 77, 78, 79, 80, 81, 82, 83, 84, 85, 86, 87, 88, 89, 90, 91, 92, 93, 94, 95, 117, 118, 119, 120, 121, 122, 123, 124, 125, 126, 161, 162, 163, 164, 165] rfl (by decide +kernel)
set_option maxRecDepth 20000 in
theorem gX11_like_X3_tableOfRow : GoodIn wsX11_like (va_wsS RX11 144 yX3_tableOfRow wsX3_tableOfRow) := goodIn_app (goodIn_of _ (by decide +kernel)) ggX11_like_X3_tableOfRow
set_option maxRecDepth 20000 in
theorem ggX11_like_X2_indexOf : GoodIn wsX11_like wsX2_indexOf := goodIn_r _ [133, 57, 104, 105, 106, 41, 107, 108, 56, 158, 159, 160] rfl (by decide +kernel)
set_option maxRecDepth 20000 in
theorem gX11_like_X2_indexOf : GoodIn wsX11_like (wsV RX11 170 RX2 yX2_indexOf wsX2_indexOf) := goodIn_app (goodIn_of _ (by decide +kernel)) ggX11_like_X2_indexOf
set_option maxRecDepth 20000 in
theorem ggX11_like_X1_rowTo : GoodIn wsX11_like wsX1_rowTo := goodIn_r _ [137, 42, 46, 44, 45, 153, 154, 155, 156, 157, 158, 159, 160] rfl (by decide +kernel)
set_option maxRecDepth 20000 in
theorem gX11_like_X1_rowTo : GoodIn wsX11_like (wsV RX11 176 RX1 yX1_rowTo wsX1_rowTo) := goodIn_app (goodIn_of _ (by decide +kernel)) ggX11_like_X1_rowTo
theorem dX11_like_0 : decode cX11_like 0 = .ok (.iload_n 1, 1) := by decide +kernel
theorem dX11_like_1 : decode cX11_like 1 = .ok (.invokestatic 71, 3) := by decide +kernel
theorem dX11_like_4 : decode cX11_like 4 = .ok (.ifCond .ne 6, 3) := by decide +kernel
theorem dX11_like_7 : decode cX11_like 7 = .ok (.bipush (-2), 2) := by decide +kernel
theorem dX11_like_9 : decode cX11_like 9 = .ok (.ireturn, 1) := by decide +kernel
theorem dX11_like_10 : decode cX11_like 10 = .ok (.iload_n 2, 1) := by decide +kernel
theorem dX11_like_11 : decode cX11_like 11 = .ok (.iconst (-1), 1) := by decide +kernel
theorem dX11_like_12 : decode cX11_like 12 = .ok (.if_icmp .ge 6, 3) := by decide +kernel
theorem dX11_like_15 : decode cX11_like 15 = .ok (.bipush (-3), 2) := by decide +kernel
theorem dX11_like_17 : decode cX11_like 17 = .ok (.ireturn, 1) := by decide +kernel
theorem dX11_like_18 : decode cX11_like 18 = .ok (.aload_n 0, 1) := by decide +kernel
theorem dX11_like_19 : decode cX11_like 19 = .ok (.getfield 26, 3) := by decide +kernel
theorem dX11_like_22 : decode cX11_like 22 = .ok (.ifCond .ne 6, 3) := by decide +kernel
theorem dX11_like_25 : decode cX11_like 25 = .ok (.bipush (-4), 2) := by decide +kernel
theorem dX11_like_27 : decode cX11_like 27 = .ok (.ireturn, 1) := by decide +kernel
theorem dX11_like_28 : decode cX11_like 28 = .ok (.aload_n 0, 1) := by decide +kernel
theorem dX11_like_29 : decode cX11_like 29 = .ok (.iload_n 1, 1) := by decide +kernel
theorem dX11_like_30 : decode cX11_like 30 = .ok (.invokevirtual 152, 3) := by decide +kernel
theorem dX11_like_33 : decode cX11_like 33 = .ok (.astore_n 3, 1) := by decide +kernel
theorem dX11_like_34 : decode cX11_like 34 = .ok (.aload_n 3, 1) := by decide +kernel
theorem dX11_like_35 : decode cX11_like 35 = .ok (.getfield 156, 3) := by decide +kernel
theorem dX11_like_38 : decode cX11_like 38 = .ok (.getfield 160, 3) := by decide +kernel
theorem dX11_like_41 : decode cX11_like 41 = .ok (.ifCond .eq 6, 3) := by decide +kernel
theorem dX11_like_44 : decode cX11_like 44 = .ok (.bipush (-6), 2) := by decide +kernel
theorem dX11_like_46 : decode cX11_like 46 = .ok (.ireturn, 1) := by decide +kernel
theorem dX11_like_47 : decode cX11_like 47 = .ok (.aload_n 0, 1) := by decide +kernel
theorem dX11_like_48 : decode cX11_like 48 = .ok (.getfield 11, 3) := by decide +kernel
theorem dX11_like_51 : decode cX11_like 51 = .ok (.iload_n 1, 1) := by decide +kernel
theorem dX11_like_52 : decode cX11_like 52 = .ok (.aaload, 1) := by decide +kernel
theorem dX11_like_53 : decode cX11_like 53 = .ok (.aload_n 0, 1) := by decide +kernel
theorem dX11_like_54 : decode cX11_like 54 = .ok (.getfield 22, 3) := by decide +kernel
theorem dX11_like_57 : decode cX11_like 57 = .ok (.aload_n 0, 1) := by decide +kernel
theorem dX11_like_58 : decode cX11_like 58 = .ok (.getfield 26, 3) := by decide +kernel
theorem dX11_like_61 : decode cX11_like 61 = .ok (.invokestatic 144, 3) := by decide +kernel
theorem dX11_like_64 : decode cX11_like 64 = .ok (.lstore 4, 2) := by decide +kernel
theorem dX11_like_66 : decode cX11_like 66 = .ok (.aload_n 3, 1) := by decide +kernel
theorem dX11_like_67 : decode cX11_like 67 = .ok (.getfield 156, 3) := by decide +kernel
theorem dX11_like_70 : decode cX11_like 70 = .ok (.aload_n 3, 1) := by decide +kernel
theorem dX11_like_71 : decode cX11_like 71 = .ok (.getfield 156, 3) := by decide +kernel
theorem dX11_like_74 : decode cX11_like 74 = .ok (.getfield 166, 3) := by decide +kernel
theorem dX11_like_77 : decode cX11_like 77 = .ok (.lload 4, 2) := by decide +kernel
theorem dX11_like_79 : decode cX11_like 79 = .ok (.invokevirtual 170, 3) := by decide +kernel
theorem dX11_like_82 : decode cX11_like 82 = .ok (.iload_n 2, 1) := by decide +kernel
theorem dX11_like_83 : decode cX11_like 83 = .ok (.invokevirtual 176, 3) := by decide +kernel
theorem dX11_like_86 : decode cX11_like 86 = .ok (.ireturn, 1) := by decide +kernel
set_option maxRecDepth 20000 in
theorem ggX11_kinds_X11_isReader : GoodIn wsX11_kinds wsX11_isReader := goodIn_r _ [4] rfl (by decide +kernel)
set_option maxRecDepth 20000 in
theorem gX11_kinds_X11_isReader : GoodIn wsX11_kinds (va_wsS RX11 71 yX11_isReader wsX11_isReader) := goodIn_app (goodIn_of _ (by decide +kernel)) ggX11_kinds_X11_isReader
set_option maxRecDepth 20000 in
theorem ggX11_kinds_X11_kindsOf : GoodIn wsX11_kinds wsX11_kindsOf := goodIn_r _ [8, 9, 10, 11, 12, 13, 14, 15, 16, 17, 18, 19, 20, 21, 22, 23, 24, 25, 26, 27, 28, 29, 30, 31, 32, 33, 34, 35, 36, 37, 38, 39, 40, 41, 42, 43, 44, 45, 46, 47, 48, 49, 50, 51, 52, 53, 54, 55, 56, 57, 58, 59, 60, 61, 62, 63, 64, 65, 66, 67, 68, 69, 70, 71, 72, 73, 74, 75, 76, 77, 78, 79, 80, 81, 82, 83, 84, 85, 86, 87, 88, 89, 90, 91, 92, 93, 94, 95, 96, 97, 98, 99, 100, 101, 102, 103, 104, 105, 106, 107, 108, 109, 110, 111, 112, 113, 114, 115, 116, 117, 118, 119, 120, 121, 122, 123, 124, 137, 138, 139, 140, 141, 142, 143, 144, 145, 146, 147, 125, 126, 127, 128, 129, 130, 131, 132, 133, 134, 135, 136, 148, 149, 150, 151, 152] rfl (by decide +kernel)
set_option maxRecDepth 20000 in
theorem gX11_kinds_X11_kindsOf : GoodIn wsX11_kinds (wsV RX11 152 RX11 yX11_kindsOf wsX11_kindsOf) := goodIn_app (goodIn_of _ (by decide +kernel)) ggX11_kinds_X11_kindsOf
theorem dX11_kinds_0 : decode cX11_kinds 0 = .ok (.iload_n 1, 1) := by decide +kernel
theorem dX11_kinds_1 : decode cX11_kinds 1 = .ok (.invokestatic 71, 3) := by decide +kernel
theorem dX11_kinds_4 : decode cX11_kinds 4 = .ok (.ifCond .ne 6, 3) := by decide +kernel
theorem dX11_kinds_7 : decode cX11_kinds 7 = .ok (.bipush (-2), 2) := by decide +kernel
theorem dX11_kinds_9 : decode cX11_kinds 9 = .ok (.ireturn, 1) := by decide +kernel
theorem dX11_kinds_10 : decode cX11_kinds 10 = .ok (.aload_n 0, 1) := by decide +kernel
theorem dX11_kinds_11 : decode cX11_kinds 11 = .ok (.iload_n 1, 1) := by decide +kernel
theorem dX11_kinds_12 : decode cX11_kinds 12 = .ok (.invokevirtual 152, 3) := by decide +kernel
theorem dX11_kinds_15 : decode cX11_kinds 15 = .ok (.astore_n 2, 1) := by decide +kernel
theorem dX11_kinds_16 : decode cX11_kinds 16 = .ok (.aload_n 2, 1) := by decide +kernel
theorem dX11_kinds_17 : decode cX11_kinds 17 = .ok (.getfield 156, 3) := by decide +kernel
theorem dX11_kinds_20 : decode cX11_kinds 20 = .ok (.getfield 160, 3) := by decide +kernel
theorem dX11_kinds_23 : decode cX11_kinds 23 = .ok (.ifCond .eq 8, 3) := by decide +kernel
theorem dX11_kinds_26 : decode cX11_kinds 26 = .ok (.bipush (-6), 2) := by decide +kernel
theorem dX11_kinds_28 : decode cX11_kinds 28 = .ok (.goto 13, 3) := by decide +kernel
theorem dX11_kinds_31 : decode cX11_kinds 31 = .ok (.aload_n 2, 1) := by decide +kernel
theorem dX11_kinds_32 : decode cX11_kinds 32 = .ok (.getfield 156, 3) := by decide +kernel
theorem dX11_kinds_35 : decode cX11_kinds 35 = .ok (.getfield 166, 3) := by decide +kernel
theorem dX11_kinds_38 : decode cX11_kinds 38 = .ok (.getfield 179, 3) := by decide +kernel
theorem dX11_kinds_41 : decode cX11_kinds 41 = .ok (.ireturn, 1) := by decide +kernel
set_option maxRecDepth 20000 in
theorem ggX11_many_X11_isReader : GoodIn wsX11_many wsX11_isReader := goodIn_r _ [4] rfl (by decide +kernel)
set_option maxRecDepth 20000 in
theorem gX11_many_X11_isReader : GoodIn wsX11_many (va_wsS RX11 71 yX11_isReader wsX11_isReader) := goodIn_app (goodIn_of _ (by decide +kernel)) ggX11_many_X11_isReader
set_option maxRecDepth 20000 in
theorem ggX11_many_X11_leastOf : GoodIn wsX11_many wsX11_leastOf := goodIn_r _ [8, 9, 10, 11, 12, 13, 14, 15, 3, 16, 17, 18, 19, 20, 21, 22, 23, 24, 25, 26, 27, 28, 29, 30, 31, 32, 33, 34, 35, 36, 37, 38, 39, 40, 41, 42, 43, 44, 45, 46, 47, 48, 49, 50, 51, 52, 53, 54, 55, 56, 57, 58, 59, 60, 61, 62, 63, 64, 65, 66, 67, 68, 69, 70, 71, 72, 73, 74, 75, 76, 77, 78, 79, 80, 81, 82, 83, 84, 85, 86, 87, 88, 89, 90, 91, 92, 93, 94, 95, 96, 97, 98, 99, 100, 101, 102, 103, 104, 105, 106, 107, 108, 109, 110, 111, 112, 113, 114, 115, 116, 117, 118, 119, 120, 121, 122, 123, 124, 125, 126, 127, 128, 129, 130, 131, 132, 133, 134, 135, 136, 137, 138, 139, 140, 141, 142, 143, 144, 145, 146, 147, 148, 149, 150, 151, 152, 153, 154, 155, 156, 157, 158, 159, 160, 161, 162, 163, 164, 165, 166, 167, 168, 169, 170, 171, 172, 173, 174, 175, 176, 177, 178, 179, 180, 181, 182, 183, 184, 185, 186, 187, 188, 189, 190, 191, 192, 193, 194, 195, 196, 197, 198, 199, 200, 201, 202, 203, 204, 205, 206, 207, 208, 209, 210, 211, 212, 213, 214, 215, 216, 226, 227, 228, 229, 230, 231, 232, 233, 234, 235, 236, 237, 238, 239, 240, 241, 242, 243, 244, 245, 246, 247, 248, 249, 250, 251, 252, 253, 254, 255, 256, 257, 258, 259, 260, 261, 262, 263, 264, 265, 266] rfl (by decide +kernel)
set_option maxRecDepth 20000 in
theorem gX11_many_X11_leastOf : GoodIn wsX11_many (wsV RX11 180 RX11 yX11_leastOf wsX11_leastOf) := goodIn_app (goodIn_of _ (by decide +kernel)) ggX11_many_X11_leastOf
set_option maxRecDepth 20000 in
theorem ggX11_many_X4_takenOfLength : GoodIn wsX11_many wsX4_takenOfLength := goodIn_r _ [220, 159, 158, 160, 221, 222, 223, 12, 224, 155, 161, 225, 207, 208, 209, 210, 156, 211, 3, 212, 247, 248, 249, 250, 251, 252, 253, 254, 255, 256, 257, 258] rfl (by decide +kernel)
set_option maxRecDepth 20000 in
theorem gX11_many_X4_takenOfLength : GoodIn wsX11_many (wsV RX11 184 RX4 yX4_takenOfLength wsX4_takenOfLength) := goodIn_app (goodIn_of _ (by decide +kernel)) ggX11_many_X4_takenOfLength
theorem dX11_many_0 : decode cX11_many 0 = .ok (.iload_n 1, 1) := by decide +kernel
theorem dX11_many_1 : decode cX11_many 1 = .ok (.invokestatic 71, 3) := by decide +kernel
theorem dX11_many_4 : decode cX11_many 4 = .ok (.ifCond .ne 6, 3) := by decide +kernel
theorem dX11_many_7 : decode cX11_many 7 = .ok (.bipush (-2), 2) := by decide +kernel
theorem dX11_many_9 : decode cX11_many 9 = .ok (.ireturn, 1) := by decide +kernel
theorem dX11_many_10 : decode cX11_many 10 = .ok (.iload_n 2, 1) := by decide +kernel
theorem dX11_many_11 : decode cX11_many 11 = .ok (.ifCond .lt 10, 3) := by decide +kernel
theorem dX11_many_14 : decode cX11_many 14 = .ok (.iload_n 2, 1) := by decide +kernel
theorem dX11_many_15 : decode cX11_many 15 = .ok (.sipush 10000, 3) := by decide +kernel
theorem dX11_many_18 : decode cX11_many 18 = .ok (.if_icmp .le 6, 3) := by decide +kernel
theorem dX11_many_21 : decode cX11_many 21 = .ok (.bipush (-3), 2) := by decide +kernel
theorem dX11_many_23 : decode cX11_many 23 = .ok (.ireturn, 1) := by decide +kernel
theorem dX11_many_24 : decode cX11_many 24 = .ok (.aload_n 0, 1) := by decide +kernel
theorem dX11_many_25 : decode cX11_many 25 = .ok (.iload_n 1, 1) := by decide +kernel
theorem dX11_many_26 : decode cX11_many 26 = .ok (.invokevirtual 180, 3) := by decide +kernel
theorem dX11_many_29 : decode cX11_many 29 = .ok (.astore_n 3, 1) := by decide +kernel
theorem dX11_many_30 : decode cX11_many 30 = .ok (.aload_n 3, 1) := by decide +kernel
theorem dX11_many_31 : decode cX11_many 31 = .ok (.ifnonnull 8, 3) := by decide +kernel
theorem dX11_many_34 : decode cX11_many 34 = .ok (.bipush (-6), 2) := by decide +kernel
theorem dX11_many_36 : decode cX11_many 36 = .ok (.goto 8, 3) := by decide +kernel
theorem dX11_many_39 : decode cX11_many 39 = .ok (.aload_n 3, 1) := by decide +kernel
theorem dX11_many_40 : decode cX11_many 40 = .ok (.iload_n 2, 1) := by decide +kernel
theorem dX11_many_41 : decode cX11_many 41 = .ok (.invokevirtual 184, 3) := by decide +kernel
theorem dX11_many_44 : decode cX11_many 44 = .ok (.ireturn, 1) := by decide +kernel
set_option maxRecDepth 20000 in
theorem ggX11_of_X11_isReader : GoodIn wsX11_of wsX11_isReader := goodIn_r _ [4] rfl (by decide +kernel)
set_option maxRecDepth 20000 in
theorem gX11_of_X11_isReader : GoodIn wsX11_of (va_wsS RX11 71 yX11_isReader wsX11_isReader) := goodIn_app (goodIn_of _ (by decide +kernel)) ggX11_of_X11_isReader
set_option maxRecDepth 20000 in
theorem ggX11_of_X11_leastOf : GoodIn wsX11_of wsX11_leastOf := goodIn_r _ [8, 9, 10, 11, 12, 13, 14, 15, 3, 16, 17, 18, 19, 20, 21, 22, 23, 24, 25, 26, 27, 28, 29, 30, 31, 32, 33, 34, 35, 36, 37, 38, 39, 40, 41, 42, 43, 44, 45, 46, 47, 48, 49, 50, 51, 52, 53, 54, 55, 56, 57, 58, 59, 60, 61, 62, 63, 64, 65, 66, 67, 68, 69, 70, 71, 72, 73, 74, 75, 76, 77, 78, 79, 80, 81, 82, 83, 84, 85, 86, 87, 88, 89, 90, 91, 92, 93, 94, 95, 96, 97, 98, 99, 100, 101, 102, 103, 104, 105, 106, 107, 108, 109, 110, 111, 112, 113, 114, 115, 116, 117, 118, 119, 120, 121, 122, 123, 124, 125, 126, 127, 128, 129, 130, 131, 132, 133, 134, 135, 136, 137, 138, 139, 140, 141, 142, 143, 144, 145, 146, 147, 148, 149, 150, 151, 152, 153, 154, 155, 156, 157, 158, 159, 160, 161, 162, 163, 164, 165, 166, 167, 168, 169, 170, 171, 172, 173, 174, 175, 176, 177, 178, 179, 180, 181, 182, 183, 184, 185, 186, 187, 188, 189, 190, 191, 192, 193, 194, 195, 196, 197, 198, 199, 200, 201, 202, 203, 204, 205, 206, 207, 208, 209, 210, 211, 212, 213, 214, 215, 216, 221, 222, 223, 224, 225, 226, 227, 228, 229, 230, 231, 232, 233, 234, 235, 236, 237, 238, 239, 240, 241, 242, 243, 244, 245, 246, 247, 248, 249, 250, 251, 252, 253, 254, 255, 256, 257, 258, 259, 260, 261] rfl (by decide +kernel)
set_option maxRecDepth 20000 in
theorem gX11_of_X11_leastOf : GoodIn wsX11_of (wsV RX11 180 RX11 yX11_leastOf wsX11_leastOf) := goodIn_app (goodIn_of _ (by decide +kernel)) ggX11_of_X11_leastOf
set_option maxRecDepth 20000 in
theorem ggX11_of_X4_letterOfTaken : GoodIn wsX11_of wsX4_letterOfTaken := goodIn_r _ [220, 213, 214, 215, 12, 216, 155, 157, 207, 208, 209, 210, 156, 211, 3, 212, 242, 243, 244, 245, 246, 247, 248, 249, 250, 251, 252, 253] rfl (by decide +kernel)
set_option maxRecDepth 20000 in
theorem gX11_of_X4_letterOfTaken : GoodIn wsX11_of (wsV RX11 187 RX4 yX4_letterOfTaken wsX4_letterOfTaken) := goodIn_app (goodIn_of _ (by decide +kernel)) ggX11_of_X4_letterOfTaken
theorem dX11_of_0 : decode cX11_of 0 = .ok (.iload_n 1, 1) := by decide +kernel
theorem dX11_of_1 : decode cX11_of 1 = .ok (.invokestatic 71, 3) := by decide +kernel
theorem dX11_of_4 : decode cX11_of 4 = .ok (.ifCond .ne 6, 3) := by decide +kernel
theorem dX11_of_7 : decode cX11_of 7 = .ok (.bipush (-2), 2) := by decide +kernel
theorem dX11_of_9 : decode cX11_of 9 = .ok (.ireturn, 1) := by decide +kernel
theorem dX11_of_10 : decode cX11_of 10 = .ok (.iload_n 2, 1) := by decide +kernel
theorem dX11_of_11 : decode cX11_of 11 = .ok (.ifCond .lt 18, 3) := by decide +kernel
theorem dX11_of_14 : decode cX11_of 14 = .ok (.iload_n 2, 1) := by decide +kernel
theorem dX11_of_15 : decode cX11_of 15 = .ok (.bipush 12, 2) := by decide +kernel
theorem dX11_of_17 : decode cX11_of 17 = .ok (.if_icmp .gt 12, 3) := by decide +kernel
theorem dX11_of_20 : decode cX11_of 20 = .ok (.iload_n 3, 1) := by decide +kernel
theorem dX11_of_21 : decode cX11_of 21 = .ok (.ifCond .lt 8, 3) := by decide +kernel
theorem dX11_of_24 : decode cX11_of 24 = .ok (.iload 4, 2) := by decide +kernel
theorem dX11_of_26 : decode cX11_of 26 = .ok (.ifCond .ge 6, 3) := by decide +kernel
theorem dX11_of_29 : decode cX11_of 29 = .ok (.bipush (-3), 2) := by decide +kernel
theorem dX11_of_31 : decode cX11_of 31 = .ok (.ireturn, 1) := by decide +kernel
theorem dX11_of_32 : decode cX11_of 32 = .ok (.aload_n 0, 1) := by decide +kernel
theorem dX11_of_33 : decode cX11_of 33 = .ok (.iload_n 1, 1) := by decide +kernel
theorem dX11_of_34 : decode cX11_of 34 = .ok (.invokevirtual 180, 3) := by decide +kernel
theorem dX11_of_37 : decode cX11_of 37 = .ok (.astore 5, 2) := by decide +kernel
theorem dX11_of_39 : decode cX11_of 39 = .ok (.aload 5, 2) := by decide +kernel
theorem dX11_of_41 : decode cX11_of 41 = .ok (.ifnonnull 8, 3) := by decide +kernel
theorem dX11_of_44 : decode cX11_of 44 = .ok (.bipush (-6), 2) := by decide +kernel
theorem dX11_of_46 : decode cX11_of 46 = .ok (.goto 12, 3) := by decide +kernel
theorem dX11_of_49 : decode cX11_of 49 = .ok (.aload 5, 2) := by decide +kernel
theorem dX11_of_51 : decode cX11_of 51 = .ok (.iload_n 2, 1) := by decide +kernel
theorem dX11_of_52 : decode cX11_of 52 = .ok (.iload_n 3, 1) := by decide +kernel
theorem dX11_of_53 : decode cX11_of 53 = .ok (.iload 4, 2) := by decide +kernel
theorem dX11_of_55 : decode cX11_of 55 = .ok (.invokevirtual 187, 3) := by decide +kernel
theorem dX11_of_58 : decode cX11_of 58 = .ok (.ireturn, 1) := by decide +kernel
set_option maxRecDepth 20000 in
theorem ggX11_rank_X11_isReader : GoodIn wsX11_rank wsX11_isReader := goodIn_r _ [6] rfl (by decide +kernel)
set_option maxRecDepth 20000 in
theorem gX11_rank_X11_isReader : GoodIn wsX11_rank (va_wsS RX11 71 yX11_isReader wsX11_isReader) := goodIn_app (goodIn_of _ (by decide +kernel)) ggX11_rank_X11_isReader
set_option maxRecDepth 20000 in
theorem ggX11_rank_X11_leastOf : GoodIn wsX11_rank wsX11_leastOf := goodIn_r _ [10, 11, 12, 13, 14, 15, 16, 17, 5, 18, 19, 20, 21, 22, 23, 24, 25, 26, 27, 28, 29, 30, 31, 32, 33, 34, 35, 36, 37, 38, 39, 40, 41, 42, 43, 44, 45, 46, 47, 48, 49, 50, 51, 52, 53, 54, 55, 56, 57, 58, 59, 60, 61, 62, 63, 64, 65, 66, 67, 68, 69, 70, 71, 72, 73, 74, 75, 76, 77, 78, 79, 80, 81, 82, 83, 84, 85, 86, 87, 88, 89, 90, 91, 92, 93, 94, 95, 96, 97, 98, 99, 100, 101, 102, 103, 104, 105, 106, 107, 108, 109, 110, 111, 112, 113, 114, 115, 116, 117, 118, 119, 120, 121, 122, 123, 124, 125, 126, 127, 128, 129, 130, 131, 132, 133, 134, 135, 136, 137, 138, 139, 140, 141, 142, 143, 144, 145, 146, 147, 148, 149, 150, 151, 152, 153, 154, 155, 156, 157, 158, 159, 160, 161, 162, 163, 164, 165, 166, 167, 168, 169, 170, 171, 172, 173, 174, 175, 176, 177, 178, 179, 180, 181, 182, 183, 184, 185, 186, 187, 188, 189, 190, 191, 192, 193, 194, 195, 196, 197, 198, 199, 200, 201, 202, 203, 204, 205, 206, 207, 208, 209, 210, 211, 212, 213, 214, 215, 216, 217, 218, 234, 235, 236, 237, 238, 239, 240, 241, 242, 243, 223, 224, 225, 226, 227, 228, 229, 230, 231, 232, 233, 244, 245, 246, 247, 248, 249, 250, 251, 252, 253, 254, 255, 256, 257, 258, 259, 260, 261, 262, 263] rfl (by decide +kernel)
set_option maxRecDepth 20000 in
theorem gX11_rank_X11_leastOf : GoodIn wsX11_rank (wsV RX11 180 RX11 yX11_leastOf wsX11_leastOf) := goodIn_app (goodIn_of _ (by decide +kernel)) ggX11_rank_X11_leastOf
set_option maxRecDepth 20000 in
theorem ggX11_rank_X4_placeOfRow : GoodIn wsX11_rank wsX4_placeOfRow := goodIn_r _ [222, 209, 210, 211, 14, 212, 157, 158, 213, 5, 214, 215, 216, 217, 218, 159, 244, 245, 246, 247, 248, 249, 250, 251, 252, 253, 254, 255] rfl (by decide +kernel)
set_option maxRecDepth 20000 in
theorem gX11_rank_X4_placeOfRow : GoodIn wsX11_rank (wsV RX11 191 RX4 yX4_placeOfRow wsX4_placeOfRow) := goodIn_app (goodIn_of _ (by decide +kernel)) ggX11_rank_X4_placeOfRow
theorem dX11_rank_0 : decode cX11_rank 0 = .ok (.iload_n 1, 1) := by decide +kernel
theorem dX11_rank_1 : decode cX11_rank 1 = .ok (.invokestatic 71, 3) := by decide +kernel
theorem dX11_rank_4 : decode cX11_rank 4 = .ok (.ifCond .ne 6, 3) := by decide +kernel
theorem dX11_rank_7 : decode cX11_rank 7 = .ok (.bipush (-2), 2) := by decide +kernel
theorem dX11_rank_9 : decode cX11_rank 9 = .ok (.ireturn, 1) := by decide +kernel
theorem dX11_rank_10 : decode cX11_rank 10 = .ok (.aload_n 0, 1) := by decide +kernel
theorem dX11_rank_11 : decode cX11_rank 11 = .ok (.getfield 26, 3) := by decide +kernel
theorem dX11_rank_14 : decode cX11_rank 14 = .ok (.bipush 12, 2) := by decide +kernel
theorem dX11_rank_16 : decode cX11_rank 16 = .ok (.if_icmp .le 6, 3) := by decide +kernel
theorem dX11_rank_19 : decode cX11_rank 19 = .ok (.bipush (-4), 2) := by decide +kernel
theorem dX11_rank_21 : decode cX11_rank 21 = .ok (.ireturn, 1) := by decide +kernel
theorem dX11_rank_22 : decode cX11_rank 22 = .ok (.aload_n 0, 1) := by decide +kernel
theorem dX11_rank_23 : decode cX11_rank 23 = .ok (.iload_n 1, 1) := by decide +kernel
theorem dX11_rank_24 : decode cX11_rank 24 = .ok (.invokevirtual 180, 3) := by decide +kernel
theorem dX11_rank_27 : decode cX11_rank 27 = .ok (.astore_n 2, 1) := by decide +kernel
theorem dX11_rank_28 : decode cX11_rank 28 = .ok (.aload_n 2, 1) := by decide +kernel
theorem dX11_rank_29 : decode cX11_rank 29 = .ok (.ifnonnull 8, 3) := by decide +kernel
theorem dX11_rank_32 : decode cX11_rank 32 = .ok (.bipush (-6), 2) := by decide +kernel
theorem dX11_rank_34 : decode cX11_rank 34 = .ok (.goto 15, 3) := by decide +kernel
theorem dX11_rank_37 : decode cX11_rank 37 = .ok (.aload_n 2, 1) := by decide +kernel
theorem dX11_rank_38 : decode cX11_rank 38 = .ok (.aload_n 0, 1) := by decide +kernel
theorem dX11_rank_39 : decode cX11_rank 39 = .ok (.getfield 22, 3) := by decide +kernel
theorem dX11_rank_42 : decode cX11_rank 42 = .ok (.aload_n 0, 1) := by decide +kernel
theorem dX11_rank_43 : decode cX11_rank 43 = .ok (.getfield 26, 3) := by decide +kernel
theorem dX11_rank_46 : decode cX11_rank 46 = .ok (.invokevirtual 191, 3) := by decide +kernel
theorem dX11_rank_49 : decode cX11_rank 49 = .ok (.ireturn, 1) := by decide +kernel
set_option maxRecDepth 20000 in
theorem ggX11_fewest_X11_isReader : GoodIn wsX11_fewest wsX11_isReader := goodIn_r _ [4] rfl (by decide +kernel)
set_option maxRecDepth 20000 in
theorem gX11_fewest_X11_isReader : GoodIn wsX11_fewest (va_wsS RX11 71 yX11_isReader wsX11_isReader) := goodIn_app (goodIn_of _ (by decide +kernel)) ggX11_fewest_X11_isReader
set_option maxRecDepth 20000 in
theorem ggX11_fewest_X11_leastOf : GoodIn wsX11_fewest wsX11_leastOf := goodIn_r _ [8, 9, 10, 11, 12, 13, 14, 15, 3, 16, 17, 18, 19, 20, 21, 22, 23, 24, 25, 26, 27, 28, 29, 30, 31, 32, 33, 34, 35, 36, 37, 38, 39, 40, 41, 42, 43, 44, 45, 46, 47, 48, 49, 50, 51, 52, 53, 54, 55, 56, 57, 58, 59, 60, 61, 62, 63, 64, 65, 66, 67, 68, 69, 70, 71, 72, 73, 74, 75, 76, 77, 78, 79, 80, 81, 82, 83, 84, 85, 86, 87, 88, 89, 90, 91, 92, 93, 94, 95, 96, 97, 98, 99, 100, 101, 102, 103, 104, 105, 106, 107, 108, 109, 110, 111, 112, 113, 114, 115, 116, 117, 118, 119, 120, 121, 122, 123, 124, 125, 126, 127, 128, 129, 130, 131, 132, 133, 134, 135, 136, 137, 138, 139, 140, 141, 142, 143, 144, 145, 146, 147, 148, 149, 150, 151, 152, 153, 154, 155, 156, 157, 158, 159, 160, 161, 162, 163, 164, 165, 166, 167, 168, 169, 170, 171, 172, 173, 174, 175, 176, 177, 178, 179, 180, 181, 182, 183, 184, 185, 186, 187, 188, 189, 190, 191, 192, 193, 194, 195, 196, 197, 198, 199, 200, 201, 202, 203, 204, 205, 206, 207, 208, 209, 210, 211, 212, 213, 214, 215, 216, 229, 230, 231, 232, 233, 234, 235, 236, 237, 238, 239, 240, 241, 242, 243, 244, 245, 246, 247, 248, 249, 217, 218, 219, 220, 221, 222, 223, 224, 225, 226, 227, 228, 250, 251, 252, 253, 254, 255, 256, 257] rfl (by decide +kernel)
set_option maxRecDepth 20000 in
theorem gX11_fewest_X11_leastOf : GoodIn wsX11_fewest (wsV RX11 180 RX11 yX11_leastOf wsX11_leastOf) := goodIn_app (goodIn_of _ (by decide +kernel)) ggX11_fewest_X11_leastOf
theorem dX11_fewest_0 : decode cX11_fewest 0 = .ok (.iload_n 1, 1) := by decide +kernel
theorem dX11_fewest_1 : decode cX11_fewest 1 = .ok (.invokestatic 71, 3) := by decide +kernel
theorem dX11_fewest_4 : decode cX11_fewest 4 = .ok (.ifCond .ne 6, 3) := by decide +kernel
theorem dX11_fewest_7 : decode cX11_fewest 7 = .ok (.bipush (-2), 2) := by decide +kernel
theorem dX11_fewest_9 : decode cX11_fewest 9 = .ok (.ireturn, 1) := by decide +kernel
theorem dX11_fewest_10 : decode cX11_fewest 10 = .ok (.aload_n 0, 1) := by decide +kernel
theorem dX11_fewest_11 : decode cX11_fewest 11 = .ok (.iload_n 1, 1) := by decide +kernel
theorem dX11_fewest_12 : decode cX11_fewest 12 = .ok (.invokevirtual 180, 3) := by decide +kernel
theorem dX11_fewest_15 : decode cX11_fewest 15 = .ok (.astore_n 2, 1) := by decide +kernel
theorem dX11_fewest_16 : decode cX11_fewest 16 = .ok (.aload_n 2, 1) := by decide +kernel
theorem dX11_fewest_17 : decode cX11_fewest 17 = .ok (.ifnonnull 8, 3) := by decide +kernel
theorem dX11_fewest_20 : decode cX11_fewest 20 = .ok (.bipush (-6), 2) := by decide +kernel
theorem dX11_fewest_22 : decode cX11_fewest 22 = .ok (.goto 7, 3) := by decide +kernel
theorem dX11_fewest_25 : decode cX11_fewest 25 = .ok (.aload_n 2, 1) := by decide +kernel
theorem dX11_fewest_26 : decode cX11_fewest 26 = .ok (.getfield 195, 3) := by decide +kernel
theorem dX11_fewest_29 : decode cX11_fewest 29 = .ok (.ireturn, 1) := by decide +kernel
set_option maxRecDepth 20000 in
theorem ggX11_alike_X11_isReader : GoodIn wsX11_alike wsX11_isReader := goodIn_r _ [6] rfl (by decide +kernel)
set_option maxRecDepth 20000 in
theorem gX11_alike_X11_isReader : GoodIn wsX11_alike (va_wsS RX11 71 yX11_isReader wsX11_isReader) := goodIn_app (goodIn_of _ (by decide +kernel)) ggX11_alike_X11_isReader
set_option maxRecDepth 20000 in
theorem ggX11_alike_X11_leastOf : GoodIn wsX11_alike wsX11_leastOf := goodIn_r _ [10, 11, 12, 13, 14, 15, 16, 17, 5, 18, 19, 20, 21, 22, 23, 24, 25, 26, 27, 28, 29, 30, 31, 32, 33, 34, 35, 36, 37, 38, 39, 40, 41, 42, 43, 44, 45, 46, 47, 48, 49, 50, 51, 52, 53, 54, 55, 56, 57, 58, 59, 60, 61, 62, 63, 64, 65, 66, 67, 68, 69, 70, 71, 72, 73, 74, 75, 76, 77, 78, 79, 80, 81, 82, 83, 84, 85, 86, 87, 88, 89, 90, 91, 92, 93, 94, 95, 96, 97, 98, 99, 100, 101, 102, 103, 104, 105, 106, 107, 108, 109, 110, 111, 112, 113, 114, 115, 116, 117, 118, 119, 120, 121, 122, 123, 124, 125, 126, 127, 128, 129, 130, 131, 132, 133, 134, 135, 136, 137, 138, 139, 140, 141, 142, 143, 144, 145, 146, 147, 148, 149, 150, 151, 152, 153, 154, 155, 156, 157, 158, 159, 160, 161, 162, 163, 164, 165, 166, 167, 168, 169, 170, 171, 172, 173, 174, 175, 176, 177, 178, 179, 180, 181, 182, 183, 184, 185, 186, 187, 188, 189, 190, 191, 192, 193, 194, 195, 196, 197, 198, 199, 200, 201, 202, 203, 204, 205, 206, 207, 208, 209, 210, 211, 212, 213, 214, 215, 216, 217, 218, 234, 235, 236, 237, 238, 239, 240, 241, 242, 243, 223, 224, 225, 226, 227, 228, 229, 230, 231, 232, 233, 244, 245, 246, 247, 248, 249, 250, 251, 252, 253, 254, 255, 256, 257, 258, 259, 260, 261, 262, 263] rfl (by decide +kernel)
set_option maxRecDepth 20000 in
theorem gX11_alike_X11_leastOf : GoodIn wsX11_alike (wsV RX11 180 RX11 yX11_leastOf wsX11_leastOf) := goodIn_app (goodIn_of _ (by decide +kernel)) ggX11_alike_X11_leastOf
set_option maxRecDepth 20000 in
theorem ggX11_alike_X4_stateBehind : GoodIn wsX11_alike wsX4_stateBehind := goodIn_r _ [222, 209, 210, 211, 14, 212, 157, 158, 213, 5, 214, 244, 245, 246, 247, 248, 249, 250, 251, 252, 253, 254, 255] rfl (by decide +kernel)
set_option maxRecDepth 20000 in
theorem gX11_alike_X4_stateBehind : GoodIn wsX11_alike (wsV RX11 196 RX4 yX4_stateBehind wsX4_stateBehind) := goodIn_app (goodIn_of _ (by decide +kernel)) ggX11_alike_X4_stateBehind
theorem dX11_alike_0 : decode cX11_alike 0 = .ok (.iload_n 1, 1) := by decide +kernel
theorem dX11_alike_1 : decode cX11_alike 1 = .ok (.invokestatic 71, 3) := by decide +kernel
theorem dX11_alike_4 : decode cX11_alike 4 = .ok (.ifCond .ne 6, 3) := by decide +kernel
theorem dX11_alike_7 : decode cX11_alike 7 = .ok (.bipush (-2), 2) := by decide +kernel
theorem dX11_alike_9 : decode cX11_alike 9 = .ok (.ireturn, 1) := by decide +kernel
theorem dX11_alike_10 : decode cX11_alike 10 = .ok (.iload_n 2, 1) := by decide +kernel
theorem dX11_alike_11 : decode cX11_alike 11 = .ok (.ifCond .lt 23, 3) := by decide +kernel
theorem dX11_alike_14 : decode cX11_alike 14 = .ok (.iload_n 2, 1) := by decide +kernel
theorem dX11_alike_15 : decode cX11_alike 15 = .ok (.aload_n 0, 1) := by decide +kernel
theorem dX11_alike_16 : decode cX11_alike 16 = .ok (.getfield 26, 3) := by decide +kernel
theorem dX11_alike_19 : decode cX11_alike 19 = .ok (.if_icmp .gt 15, 3) := by decide +kernel
theorem dX11_alike_22 : decode cX11_alike 22 = .ok (.iload_n 3, 1) := by decide +kernel
theorem dX11_alike_23 : decode cX11_alike 23 = .ok (.ifCond .lt 11, 3) := by decide +kernel
theorem dX11_alike_26 : decode cX11_alike 26 = .ok (.iload_n 3, 1) := by decide +kernel
theorem dX11_alike_27 : decode cX11_alike 27 = .ok (.aload_n 0, 1) := by decide +kernel
theorem dX11_alike_28 : decode cX11_alike 28 = .ok (.getfield 26, 3) := by decide +kernel
theorem dX11_alike_31 : decode cX11_alike 31 = .ok (.if_icmp .le 6, 3) := by decide +kernel
theorem dX11_alike_34 : decode cX11_alike 34 = .ok (.bipush (-3), 2) := by decide +kernel
theorem dX11_alike_36 : decode cX11_alike 36 = .ok (.ireturn, 1) := by decide +kernel
theorem dX11_alike_37 : decode cX11_alike 37 = .ok (.aload_n 0, 1) := by decide +kernel
theorem dX11_alike_38 : decode cX11_alike 38 = .ok (.iload_n 1, 1) := by decide +kernel
theorem dX11_alike_39 : decode cX11_alike 39 = .ok (.invokevirtual 180, 3) := by decide +kernel
theorem dX11_alike_42 : decode cX11_alike 42 = .ok (.astore 4, 2) := by decide +kernel
theorem dX11_alike_44 : decode cX11_alike 44 = .ok (.aload 4, 2) := by decide +kernel
theorem dX11_alike_46 : decode cX11_alike 46 = .ok (.ifnonnull 6, 3) := by decide +kernel
theorem dX11_alike_49 : decode cX11_alike 49 = .ok (.bipush (-6), 2) := by decide +kernel
theorem dX11_alike_51 : decode cX11_alike 51 = .ok (.ireturn, 1) := by decide +kernel
theorem dX11_alike_52 : decode cX11_alike 52 = .ok (.aload 4, 2) := by decide +kernel
theorem dX11_alike_54 : decode cX11_alike 54 = .ok (.aload_n 0, 1) := by decide +kernel
theorem dX11_alike_55 : decode cX11_alike 55 = .ok (.getfield 22, 3) := by decide +kernel
theorem dX11_alike_58 : decode cX11_alike 58 = .ok (.iload_n 2, 1) := by decide +kernel
theorem dX11_alike_59 : decode cX11_alike 59 = .ok (.invokevirtual 196, 3) := by decide +kernel
theorem dX11_alike_62 : decode cX11_alike 62 = .ok (.aload 4, 2) := by decide +kernel
theorem dX11_alike_64 : decode cX11_alike 64 = .ok (.aload_n 0, 1) := by decide +kernel
theorem dX11_alike_65 : decode cX11_alike 65 = .ok (.getfield 22, 3) := by decide +kernel
theorem dX11_alike_68 : decode cX11_alike 68 = .ok (.iload_n 3, 1) := by decide +kernel
theorem dX11_alike_69 : decode cX11_alike 69 = .ok (.invokevirtual 196, 3) := by decide +kernel
theorem dX11_alike_72 : decode cX11_alike 72 = .ok (.if_icmp .ne 7, 3) := by decide +kernel
theorem dX11_alike_75 : decode cX11_alike 75 = .ok (.iconst 1, 1) := by decide +kernel
theorem dX11_alike_76 : decode cX11_alike 76 = .ok (.goto 4, 3) := by decide +kernel
theorem dX11_alike_79 : decode cX11_alike 79 = .ok (.iconst 0, 1) := by decide +kernel
theorem dX11_alike_80 : decode cX11_alike 80 = .ok (.ireturn, 1) := by decide +kernel
set_option maxRecDepth 20000 in
theorem ggX11_shortest_X11_firstRowEnding : GoodIn wsX11_shortest wsX11_firstRowEnding := goodIn_r _ [5, 6, 7, 4, 8, 9, 10, 11, 12, 13, 14, 15, 16, 17, 18, 19, 20, 21, 22, 23, 24, 25, 26, 27, 28, 29, 30, 31, 32, 33, 34, 35, 36, 37, 38, 39, 40, 41, 42, 43, 44, 45, 46, 47, 48, 49, 50, 51, 52, 53, 54, 55, 56, 57, 58, 59, 60, 61, 62, 63, 64, 65, 66, 67, 68, 69, 70, 71, 72, 73, 74, 75, 76, 77, 78, 79, 80, 81, 82, 83, 84, 85, 86, 87, 88, 89, 90, 91, 92, 93, 94, 95, 96, 97, 98, 99, 100, 101, 102, 103, 104, 105, 106, 107, 108, 109, 110, 111, 112, 113, 114, 115, 116, 117, 118, 119, 120, 121, 122, 123, 124, 125, 126, 127, 128, 129, 130, 131, 132, 133, 134, 135, 136, 137, 138, 139, 140, 141, 142, 143, 144, 145, 146, 147, 148, 149, 150, 151, 152, 153, 154, 155, 156, 157, 158, 159, 160, 161, 162, 163, 164, 165, 166, 167, 168, 169, 170, 171, 172, 173, 174, 175, 176, 177, 178, 179] rfl (by decide +kernel)
set_option maxRecDepth 20000 in
theorem gX11_shortest_X11_firstRowEnding : GoodIn wsX11_shortest (wsV RX11 199 RX11 yX11_firstRowEnding wsX11_firstRowEnding) := goodIn_app (goodIn_of _ (by decide +kernel)) ggX11_shortest_X11_firstRowEnding
theorem dX11_shortest_0 : decode cX11_shortest 0 = .ok (.aload_n 0, 1) := by decide +kernel
theorem dX11_shortest_1 : decode cX11_shortest 1 = .ok (.iload_n 1, 1) := by decide +kernel
theorem dX11_shortest_2 : decode cX11_shortest 2 = .ok (.iconst 1, 1) := by decide +kernel
theorem dX11_shortest_3 : decode cX11_shortest 3 = .ok (.iload_n 2, 1) := by decide +kernel
theorem dX11_shortest_4 : decode cX11_shortest 4 = .ok (.invokevirtual 199, 3) := by decide +kernel
theorem dX11_shortest_7 : decode cX11_shortest 7 = .ok (.ireturn, 1) := by decide +kernel
set_option maxRecDepth 20000 in
theorem ggX11_round_X11_firstRowEnding : GoodIn wsX11_round wsX11_firstRowEnding := goodIn_r _ [5, 6, 7, 4, 8, 9, 10, 11, 12, 13, 14, 15, 16, 17, 18, 19, 20, 21, 22, 23, 24, 25, 26, 27, 28, 29, 30, 31, 32, 33, 34, 35, 36, 37, 38, 39, 40, 41, 42, 43, 44, 45, 46, 47, 48, 49, 50, 51, 52, 53, 54, 55, 56, 57, 58, 59, 60, 61, 62, 63, 64, 65, 66, 67, 68, 69, 70, 71, 72, 73, 74, 75, 76, 77, 78, 79, 80, 81, 82, 83, 84, 85, 86, 87, 88, 89, 90, 91, 92, 93, 94, 95, 96, 97, 98, 99, 100, 101, 102, 103, 104, 105, 106, 107, 108, 109, 110, 111, 112, 113, 114, 115, 116, 117, 118, 119, 120, 121, 122, 123, 124, 125, 126, 127, 128, 129, 130, 131, 132, 133, 134, 135, 136, 137, 138, 139, 140, 141, 142, 143, 144, 145, 146, 147, 148, 149, 150, 151, 152, 153, 154, 155, 156, 157, 158, 159, 160, 161, 162, 163, 164, 165, 166, 167, 168, 169, 170, 171, 172, 173, 174, 175, 176, 177, 178, 179] rfl (by decide +kernel)
set_option maxRecDepth 20000 in
theorem gX11_round_X11_firstRowEnding : GoodIn wsX11_round (wsV RX11 199 RX11 yX11_firstRowEnding wsX11_firstRowEnding) := goodIn_app (goodIn_of _ (by decide +kernel)) ggX11_round_X11_firstRowEnding
theorem dX11_round_0 : decode cX11_round 0 = .ok (.aload_n 0, 1) := by decide +kernel
theorem dX11_round_1 : decode cX11_round 1 = .ok (.iload_n 1, 1) := by decide +kernel
theorem dX11_round_2 : decode cX11_round 2 = .ok (.iconst 2, 1) := by decide +kernel
theorem dX11_round_3 : decode cX11_round 3 = .ok (.iload_n 2, 1) := by decide +kernel
theorem dX11_round_4 : decode cX11_round 4 = .ok (.invokevirtual 199, 3) := by decide +kernel
theorem dX11_round_7 : decode cX11_round 7 = .ok (.ireturn, 1) := by decide +kernel
set_option maxRecDepth 20000 in
theorem ggX11_parted_X11_beginningsOf : GoodIn wsX11_parted wsX11_beginningsOf := goodIn_r _ [9, 10, 11, 12, 13, 14, 15, 16, 17, 18, 19, 20, 21, 22, 23, 24, 25, 26, 27, 28, 29, 30, 31, 32, 33, 34, 35, 36, 37, 38, 39, 40, 41, 42, 43, 44, 45, 46, 47, 48, 49, 50, 51, 52, 53, 54, 55, 56, 57, 58, 59, 60, 61, 62, 63, 64, 65, 66, 67, 68, 69, 70, 71, 72, 73, 74, 75, 76, 77, 78, 79, 80, 81, 82, 83, 84, 85, 86, 87, 88, 89, 90, 91, 92, 93, 94, 95, 96, 97, 98, 99, 100, 101, 102, 103, 104, 105, 106, 107, 108, 109, 110, 111, 112, 113, 114, 115, 116, 117, 118, 119, 120, 121, 122, 123, 124, 125, 126, 127, 128, 129, 130, 131, 132, 133, 134, 135, 136, 137, 138, 139, 187, 188, 189, 190, 191, 192, 193, 194, 195, 196, 197, 177, 178, 179, 180, 181, 182, 183, 184, 185, 186, 204, 205, 206, 207, 208, 209, 210, 211] rfl (by decide +kernel)
set_option maxRecDepth 20000 in
theorem gX11_parted_X11_beginningsOf : GoodIn wsX11_parted (wsV RX11 202 RX11 yX11_beginningsOf wsX11_beginningsOf) := goodIn_app (goodIn_of _ (by decide +kernel)) ggX11_parted_X11_beginningsOf
set_option maxRecDepth 20000 in
theorem ggX11_parted_X5_init : GoodIn wsX11_parted wsX5_init := goodIn_r _ [142, 143, 19, 20, 144, 22, 23, 145, 146, 147, 148, 149, 150, 151, 31, 32, 33, 34, 35, 36, 37, 38, 39, 40, 41, 42, 25, 43, 44, 45, 46, 47, 48, 49, 50, 51, 52, 53, 54, 55, 56, 57, 182, 183, 184, 185, 186, 198, 199, 200, 201, 202, 203, 204, 205, 206] rfl (by decide +kernel)
set_option maxRecDepth 20000 in
theorem gX11_parted_X5_init : GoodIn wsX11_parted (wsX5_init) := ggX11_parted_X5_init
set_option maxRecDepth 20000 in
theorem ggX11_parted_X5_renew : GoodIn wsX11_parted wsX5_renew := goodIn_r _ [155, 146, 149, 147, 150, 148, 145, 156, 157, 63, 64, 23, 65, 42, 34, 66, 67, 68, 41, 69, 50, 57, 70, 71, 72, 73, 158, 93, 94, 95, 43, 44, 45, 96, 97, 98, 99, 56, 100, 101, 102, 103, 104, 105, 106, 107, 108, 159, 110, 111, 112, 160, 161, 162, 4, 163, 164, 165, 166, 13, 167, 27, 168, 169, 170, 171, 26, 172, 36, 37, 38, 198, 199, 200, 201, 202, 203, 177, 178, 179, 180, 181, 182, 183, 184, 185, 186, 204, 205, 206] rfl (by decide +kernel)
set_option maxRecDepth 20000 in
theorem gX11_parted_X5_renew : GoodIn wsX11_parted (wsV RX11 212 RX5 yX5_renew wsX5_renew) := goodIn_app (goodIn_of _ (by decide +kernel)) ggX11_parted_X5_renew
set_option maxRecDepth 20000 in
theorem ggX11_parted_X1_rowTo : GoodIn wsX11_parted wsX1_rowTo := goodIn_r _ [176, 42, 45, 43, 44, 182, 183, 184, 185, 186, 204, 205, 206] rfl (by decide +kernel)
set_option maxRecDepth 20000 in
theorem gX11_parted_X1_rowTo : GoodIn wsX11_parted (wsV RX11 176 RX1 yX1_rowTo wsX1_rowTo) := goodIn_app (goodIn_of _ (by decide +kernel)) ggX11_parted_X1_rowTo
theorem dX11_parted_0 : decode cX11_parted 0 = .ok (.iload_n 1, 1) := by decide +kernel
theorem dX11_parted_1 : decode cX11_parted 1 = .ok (.iconst (-1), 1) := by decide +kernel
theorem dX11_parted_2 : decode cX11_parted 2 = .ok (.if_icmp .ge 6, 3) := by decide +kernel
theorem dX11_parted_5 : decode cX11_parted 5 = .ok (.bipush (-3), 2) := by decide +kernel
theorem dX11_parted_7 : decode cX11_parted 7 = .ok (.ireturn, 1) := by decide +kernel
theorem dX11_parted_8 : decode cX11_parted 8 = .ok (.aload_n 0, 1) := by decide +kernel
theorem dX11_parted_9 : decode cX11_parted 9 = .ok (.iconst 0, 1) := by decide +kernel
theorem dX11_parted_10 : decode cX11_parted 10 = .ok (.invokevirtual 202, 3) := by decide +kernel
theorem dX11_parted_13 : decode cX11_parted 13 = .ok (.astore_n 2, 1) := by decide +kernel
theorem dX11_parted_14 : decode cX11_parted 14 = .ok (.aload_n 0, 1) := by decide +kernel
theorem dX11_parted_15 : decode cX11_parted 15 = .ok (.iconst 1, 1) := by decide +kernel
theorem dX11_parted_16 : decode cX11_parted 16 = .ok (.invokevirtual 202, 3) := by decide +kernel
theorem dX11_parted_19 : decode cX11_parted 19 = .ok (.astore_n 3, 1) := by decide +kernel
theorem dX11_parted_20 : decode cX11_parted 20 = .ok (.aload_n 2, 1) := by decide +kernel
theorem dX11_parted_21 : decode cX11_parted 21 = .ok (.getfield 206, 3) := by decide +kernel
theorem dX11_parted_24 : decode cX11_parted 24 = .ok (.getfield 160, 3) := by decide +kernel
theorem dX11_parted_27 : decode cX11_parted 27 = .ok (.ifCond .ne 13, 3) := by decide +kernel
theorem dX11_parted_30 : decode cX11_parted 30 = .ok (.aload_n 3, 1) := by decide +kernel
theorem dX11_parted_31 : decode cX11_parted 31 = .ok (.getfield 206, 3) := by decide +kernel
theorem dX11_parted_34 : decode cX11_parted 34 = .ok (.getfield 160, 3) := by decide +kernel
theorem dX11_parted_37 : decode cX11_parted 37 = .ok (.ifCond .eq 6, 3) := by decide +kernel
theorem dX11_parted_40 : decode cX11_parted 40 = .ok (.bipush (-6), 2) := by decide +kernel
theorem dX11_parted_42 : decode cX11_parted 42 = .ok (.ireturn, 1) := by decide +kernel
theorem dX11_parted_43 : decode cX11_parted 43 = .ok (.aload_n 0, 1) := by decide +kernel
theorem dX11_parted_44 : decode cX11_parted 44 = .ok (.getfield 62, 3) := by decide +kernel
theorem dX11_parted_47 : decode cX11_parted 47 = .ok (.ifnonnull 16, 3) := by decide +kernel
theorem dX11_parted_50 : decode cX11_parted 50 = .ok (.aload_n 0, 1) := by decide +kernel
theorem dX11_parted_51 : decode cX11_parted 51 = .ok (.new 207, 3) := by decide +kernel
theorem dX11_parted_54 : decode cX11_parted 54 = .ok (.dup, 1) := by decide +kernel
theorem dX11_parted_55 : decode cX11_parted 55 = .ok (.aload_n 2, 1) := by decide +kernel
theorem dX11_parted_56 : decode cX11_parted 56 = .ok (.aload_n 3, 1) := by decide +kernel
theorem dX11_parted_57 : decode cX11_parted 57 = .ok (.invokespecial 209, 3) := by decide +kernel
theorem dX11_parted_60 : decode cX11_parted 60 = .ok (.putfield 62, 3) := by decide +kernel
theorem dX11_parted_63 : decode cX11_parted 63 = .ok (.aload_n 0, 1) := by decide +kernel
theorem dX11_parted_64 : decode cX11_parted 64 = .ok (.getfield 62, 3) := by decide +kernel
theorem dX11_parted_67 : decode cX11_parted 67 = .ok (.invokevirtual 212, 3) := by decide +kernel
theorem dX11_parted_70 : decode cX11_parted 70 = .ok (.aload_n 0, 1) := by decide +kernel
theorem dX11_parted_71 : decode cX11_parted 71 = .ok (.getfield 62, 3) := by decide +kernel
theorem dX11_parted_74 : decode cX11_parted 74 = .ok (.getfield 215, 3) := by decide +kernel
theorem dX11_parted_77 : decode cX11_parted 77 = .ok (.getfield 160, 3) := by decide +kernel
theorem dX11_parted_80 : decode cX11_parted 80 = .ok (.ifCond .eq 8, 3) := by decide +kernel
theorem dX11_parted_83 : decode cX11_parted 83 = .ok (.bipush (-6), 2) := by decide +kernel
theorem dX11_parted_85 : decode cX11_parted 85 = .ok (.goto 21, 3) := by decide +kernel
theorem dX11_parted_88 : decode cX11_parted 88 = .ok (.aload_n 0, 1) := by decide +kernel
theorem dX11_parted_89 : decode cX11_parted 89 = .ok (.getfield 62, 3) := by decide +kernel
theorem dX11_parted_92 : decode cX11_parted 92 = .ok (.getfield 215, 3) := by decide +kernel
theorem dX11_parted_95 : decode cX11_parted 95 = .ok (.aload_n 0, 1) := by decide +kernel
theorem dX11_parted_96 : decode cX11_parted 96 = .ok (.getfield 62, 3) := by decide +kernel
theorem dX11_parted_99 : decode cX11_parted 99 = .ok (.getfield 216, 3) := by decide +kernel
theorem dX11_parted_102 : decode cX11_parted 102 = .ok (.iload_n 1, 1) := by decide +kernel
theorem dX11_parted_103 : decode cX11_parted 103 = .ok (.invokevirtual 176, 3) := by decide +kernel
theorem dX11_parted_106 : decode cX11_parted 106 = .ok (.ireturn, 1) := by decide +kernel
set_option maxRecDepth 20000 in
theorem ggX11_otherwise_X8_init : GoodIn wsX11_otherwise wsX8_init := goodIn_r _ [8, 9, 10, 11, 12, 13, 14, 15, 16, 17, 18, 19, 20, 21, 22, 23, 24, 25, 26, 27, 28, 29, 30, 31, 32, 33, 34, 35, 36, 37, 38, 152, 153, 154, 155, 156, 157, 158, 143, 144, 145, 146, 147, 148, 149, 150, 151, 159, 160] rfl (by decide +kernel)
set_option maxRecDepth 20000 in
theorem gX11_otherwise_X8_init : GoodIn wsX11_otherwise (wsX8_init) := ggX11_otherwise_X8_init
set_option maxRecDepth 20000 in
theorem ggX11_otherwise_X8_firstOtherwise : GoodIn wsX11_otherwise wsX8_firstOtherwise := goodIn_r _ [42, 23, 24, 20, 43, 44, 45, 4, 46, 21, 25, 22, 26, 47, 48, 49, 50, 51, 52, 53, 19, 54, 55, 56, 57, 58, 59, 60, 61, 38, 37, 62, 63, 64, 65, 66, 67, 68, 69, 70, 71, 72, 73, 74, 15, 16, 75, 76, 77, 14, 78, 31, 79, 80, 81, 82, 83, 84, 85, 86, 87, 88, 89, 90, 91, 92, 93, 94, 95, 96, 97, 98, 99, 100, 101, 102, 103, 104, 105, 106, 107, 108, 109, 110, 111, 112, 113, 114, 115, 116, 117, 33, 118, 119, 120, 121, 122, 123, 124, 125, 126, 127, 128, 129, 130, 131, 143, 144, 145, 146, 147, 148, 149, 150, 151, 159, 160, 161, 162, 163, 164, 165, 152, 153, 154, 155, 156, 157, 158] rfl (by decide +kernel)
set_option maxRecDepth 20000 in
theorem gX11_otherwise_X8_firstOtherwise : GoodIn wsX11_otherwise (wsV RX11 224 RX8 yX8_firstOtherwise wsX8_firstOtherwise) := goodIn_app (goodIn_of _ (by decide +kernel)) ggX11_otherwise_X8_firstOtherwise
theorem dX11_otherwise_0 : decode cX11_otherwise 0 = .ok (.iload_n 1, 1) := by decide +kernel
theorem dX11_otherwise_1 : decode cX11_otherwise 1 = .ok (.ifCond .lt 14, 3) := by decide +kernel
theorem dX11_otherwise_4 : decode cX11_otherwise 4 = .ok (.iload_n 1, 1) := by decide +kernel
theorem dX11_otherwise_5 : decode cX11_otherwise 5 = .ok (.bipush 7, 2) := by decide +kernel
theorem dX11_otherwise_7 : decode cX11_otherwise 7 = .ok (.if_icmp .gt 8, 3) := by decide +kernel
theorem dX11_otherwise_10 : decode cX11_otherwise 10 = .ok (.iload_n 2, 1) := by decide +kernel
theorem dX11_otherwise_11 : decode cX11_otherwise 11 = .ok (.iconst (-1), 1) := by decide +kernel
theorem dX11_otherwise_12 : decode cX11_otherwise 12 = .ok (.if_icmp .ge 6, 3) := by decide +kernel
theorem dX11_otherwise_15 : decode cX11_otherwise 15 = .ok (.bipush (-3), 2) := by decide +kernel
theorem dX11_otherwise_17 : decode cX11_otherwise 17 = .ok (.ireturn, 1) := by decide +kernel
theorem dX11_otherwise_18 : decode cX11_otherwise 18 = .ok (.aload_n 0, 1) := by decide +kernel
theorem dX11_otherwise_19 : decode cX11_otherwise 19 = .ok (.getfield 66, 3) := by decide +kernel
theorem dX11_otherwise_22 : decode cX11_otherwise 22 = .ok (.ifnonnull 26, 3) := by decide +kernel
theorem dX11_otherwise_25 : decode cX11_otherwise 25 = .ok (.aload_n 0, 1) := by decide +kernel
theorem dX11_otherwise_26 : decode cX11_otherwise 26 = .ok (.new 219, 3) := by decide +kernel
theorem dX11_otherwise_29 : decode cX11_otherwise 29 = .ok (.dup, 1) := by decide +kernel
theorem dX11_otherwise_30 : decode cX11_otherwise 30 = .ok (.aload_n 0, 1) := by decide +kernel
theorem dX11_otherwise_31 : decode cX11_otherwise 31 = .ok (.getfield 11, 3) := by decide +kernel
theorem dX11_otherwise_34 : decode cX11_otherwise 34 = .ok (.iconst 0, 1) := by decide +kernel
theorem dX11_otherwise_35 : decode cX11_otherwise 35 = .ok (.aaload, 1) := by decide +kernel
theorem dX11_otherwise_36 : decode cX11_otherwise 36 = .ok (.aload_n 0, 1) := by decide +kernel
theorem dX11_otherwise_37 : decode cX11_otherwise 37 = .ok (.getfield 11, 3) := by decide +kernel
theorem dX11_otherwise_40 : decode cX11_otherwise 40 = .ok (.iconst 1, 1) := by decide +kernel
theorem dX11_otherwise_41 : decode cX11_otherwise 41 = .ok (.aaload, 1) := by decide +kernel
theorem dX11_otherwise_42 : decode cX11_otherwise 42 = .ok (.invokespecial 221, 3) := by decide +kernel
theorem dX11_otherwise_45 : decode cX11_otherwise 45 = .ok (.putfield 66, 3) := by decide +kernel
theorem dX11_otherwise_48 : decode cX11_otherwise 48 = .ok (.aload_n 0, 1) := by decide +kernel
theorem dX11_otherwise_49 : decode cX11_otherwise 49 = .ok (.getfield 66, 3) := by decide +kernel
theorem dX11_otherwise_52 : decode cX11_otherwise 52 = .ok (.iload_n 1, 1) := by decide +kernel
theorem dX11_otherwise_53 : decode cX11_otherwise 53 = .ok (.iload_n 2, 1) := by decide +kernel
theorem dX11_otherwise_54 : decode cX11_otherwise 54 = .ok (.invokevirtual 224, 3) := by decide +kernel
theorem dX11_otherwise_57 : decode cX11_otherwise 57 = .ok (.ireturn, 1) := by decide +kernel
set_option maxRecDepth 20000 in
theorem ggX11_most_X11_isReader : GoodIn wsX11_most wsX11_isReader := goodIn_r _ [11] rfl (by decide +kernel)
set_option maxRecDepth 20000 in
theorem gX11_most_X11_isReader : GoodIn wsX11_most (va_wsS RX11 71 yX11_isReader wsX11_isReader) := goodIn_app (goodIn_of _ (by decide +kernel)) ggX11_most_X11_isReader
set_option maxRecDepth 20000 in
theorem ggX11_most_X7_begin : GoodIn wsX11_most wsX7_begin := goodIn_r _ [16, 17, 18, 6, 19, 20, 5, 7, 21, 22, 23, 24, 25, 26, 99, 100] rfl (by decide +kernel)
set_option maxRecDepth 20000 in
theorem gX11_most_X7_begin : GoodIn wsX11_most (wsV RX11 227 RX7 yX7_begin wsX7_begin) := goodIn_app (goodIn_of _ (by decide +kernel)) ggX11_most_X7_begin
set_option maxRecDepth 20000 in
theorem ggX11_most_X7_howMany : GoodIn wsX11_most wsX7_howMany := goodIn_r _ [30, 21, 31, 99, 100] rfl (by decide +kernel)
set_option maxRecDepth 20000 in
theorem gX11_most_X7_howMany : GoodIn wsX11_most (wsV RX11 231 RX7 yX7_howMany wsX7_howMany) := goodIn_app (goodIn_of _ (by decide +kernel)) ggX11_most_X7_howMany
set_option maxRecDepth 20000 in
theorem ggX11_most_X10_go : GoodIn wsX11_most wsX10_go := goodIn_r _ [36, 37, 38, 39, 40, 41, 42, 43, 44, 25, 45, 46, 47, 48, 35, 49, 50, 51, 52, 53, 54, 55, 56, 57, 58, 59, 60, 61, 62, 63, 64, 65, 66, 67, 68, 69, 70, 71, 72, 73, 74, 75, 76, 77, 78, 79, 80, 81, 82, 83, 101, 102, 103, 104, 105, 106, 107, 108, 109, 110, 111, 112] rfl (by decide +kernel)
set_option maxRecDepth 20000 in
theorem gX11_most_X10_go : GoodIn wsX11_most (wsV RX11 122 RX10 yX10_go wsX10_go) := goodIn_app (goodIn_of _ (by decide +kernel)) ggX11_most_X10_go
set_option maxRecDepth 20000 in
theorem ggX11_most_X7_forward : GoodIn wsX11_most wsX7_forward := goodIn_r _ [87, 21, 22, 99, 100] rfl (by decide +kernel)
set_option maxRecDepth 20000 in
theorem gX11_most_X7_forward : GoodIn wsX11_most (wsV RX11 241 RX7 yX7_forward wsX7_forward) := goodIn_app (goodIn_of _ (by decide +kernel)) ggX11_most_X7_forward
theorem dX11_most_0 : decode cX11_most 0 = .ok (.iload_n 1, 1) := by decide +kernel
theorem dX11_most_1 : decode cX11_most 1 = .ok (.invokestatic 71, 3) := by decide +kernel
theorem dX11_most_4 : decode cX11_most 4 = .ok (.ifCond .ne 6, 3) := by decide +kernel
theorem dX11_most_7 : decode cX11_most 7 = .ok (.bipush (-2), 2) := by decide +kernel
theorem dX11_most_9 : decode cX11_most 9 = .ok (.ireturn, 1) := by decide +kernel
theorem dX11_most_10 : decode cX11_most 10 = .ok (.iload_n 2, 1) := by decide +kernel
theorem dX11_most_11 : decode cX11_most 11 = .ok (.ifCond .lt 9, 3) := by decide +kernel
theorem dX11_most_14 : decode cX11_most 14 = .ok (.iload_n 2, 1) := by decide +kernel
theorem dX11_most_15 : decode cX11_most 15 = .ok (.bipush 7, 2) := by decide +kernel
theorem dX11_most_17 : decode cX11_most 17 = .ok (.if_icmp .le 6, 3) := by decide +kernel
theorem dX11_most_20 : decode cX11_most 20 = .ok (.bipush (-3), 2) := by decide +kernel
theorem dX11_most_22 : decode cX11_most 22 = .ok (.ireturn, 1) := by decide +kernel
theorem dX11_most_23 : decode cX11_most 23 = .ok (.iconst (-1), 1) := by decide +kernel
theorem dX11_most_24 : decode cX11_most 24 = .ok (.istore_n 3, 1) := by decide +kernel
theorem dX11_most_25 : decode cX11_most 25 = .ok (.aload_n 0, 1) := by decide +kernel
theorem dX11_most_26 : decode cX11_most 26 = .ok (.getfield 40, 3) := by decide +kernel
theorem dX11_most_29 : decode cX11_most 29 = .ok (.iload_n 2, 1) := by decide +kernel
theorem dX11_most_30 : decode cX11_most 30 = .ok (.invokevirtual 227, 3) := by decide +kernel
theorem dX11_most_33 : decode cX11_most 33 = .ok (.aload_n 0, 1) := by decide +kernel
theorem dX11_most_34 : decode cX11_most 34 = .ok (.getfield 40, 3) := by decide +kernel
theorem dX11_most_37 : decode cX11_most 37 = .ok (.invokevirtual 231, 3) := by decide +kernel
theorem dX11_most_40 : decode cX11_most 40 = .ok (.istore 4, 2) := by decide +kernel
theorem dX11_most_42 : decode cX11_most 42 = .ok (.iload 4, 2) := by decide +kernel
theorem dX11_most_44 : decode cX11_most 44 = .ok (.ifCond .le 60, 3) := by decide +kernel
theorem dX11_most_47 : decode cX11_most 47 = .ok (.aload_n 0, 1) := by decide +kernel
theorem dX11_most_48 : decode cX11_most 48 = .ok (.getfield 33, 3) := by decide +kernel
theorem dX11_most_51 : decode cX11_most 51 = .ok (.aload_n 0, 1) := by decide +kernel
theorem dX11_most_52 : decode cX11_most 52 = .ok (.getfield 11, 3) := by decide +kernel
theorem dX11_most_55 : decode cX11_most 55 = .ok (.iload_n 1, 1) := by decide +kernel
theorem dX11_most_56 : decode cX11_most 56 = .ok (.aaload, 1) := by decide +kernel
theorem dX11_most_57 : decode cX11_most 57 = .ok (.aload_n 0, 1) := by decide +kernel
theorem dX11_most_58 : decode cX11_most 58 = .ok (.getfield 40, 3) := by decide +kernel
theorem dX11_most_61 : decode cX11_most 61 = .ok (.getfield 235, 3) := by decide +kernel
theorem dX11_most_64 : decode cX11_most 64 = .ok (.iload_n 2, 1) := by decide +kernel
theorem dX11_most_65 : decode cX11_most 65 = .ok (.invokevirtual 122, 3) := by decide +kernel
theorem dX11_most_68 : decode cX11_most 68 = .ok (.aload_n 0, 1) := by decide +kernel
theorem dX11_most_69 : decode cX11_most 69 = .ok (.getfield 33, 3) := by decide +kernel
theorem dX11_most_72 : decode cX11_most 72 = .ok (.getfield 126, 3) := by decide +kernel
theorem dX11_most_75 : decode cX11_most 75 = .ok (.iconst 2, 1) := by decide +kernel
theorem dX11_most_76 : decode cX11_most 76 = .ok (.if_icmp .eq 15, 3) := by decide +kernel
theorem dX11_most_79 : decode cX11_most 79 = .ok (.iload_n 3, 1) := by decide +kernel
theorem dX11_most_80 : decode cX11_most 80 = .ok (.aload_n 0, 1) := by decide +kernel
theorem dX11_most_81 : decode cX11_most 81 = .ok (.getfield 33, 3) := by decide +kernel
theorem dX11_most_84 : decode cX11_most 84 = .ok (.getfield 129, 3) := by decide +kernel
theorem dX11_most_87 : decode cX11_most 87 = .ok (.invokestatic 236, 3) := by decide +kernel
theorem dX11_most_90 : decode cX11_most 90 = .ok (.istore_n 3, 1) := by decide +kernel
theorem dX11_most_91 : decode cX11_most 91 = .ok (.aload_n 0, 1) := by decide +kernel
theorem dX11_most_92 : decode cX11_most 92 = .ok (.getfield 40, 3) := by decide +kernel
theorem dX11_most_95 : decode cX11_most 95 = .ok (.invokevirtual 241, 3) := by decide +kernel
theorem dX11_most_98 : decode cX11_most 98 = .ok (.iinc 4 (-1), 3) := by decide +kernel
theorem dX11_most_101 : decode cX11_most 101 = .ok (.goto (-59), 3) := by decide +kernel
theorem dX11_most_104 : decode cX11_most 104 = .ok (.iload_n 3, 1) := by decide +kernel
theorem dX11_most_105 : decode cX11_most 105 = .ok (.ireturn, 1) := by decide +kernel
theorem dX11_count_0 : decode cX11_count 0 = .ok (.iload_n 1, 1) := by decide +kernel
theorem dX11_count_1 : decode cX11_count 1 = .ok (.tableswitch 64 0 3 #[31, 36, 44, 54], 31) := by decide +kernel
theorem dX11_count_32 : decode cX11_count 32 = .ok (.aload_n 0, 1) := by decide +kernel
theorem dX11_count_33 : decode cX11_count 33 = .ok (.getfield 26, 3) := by decide +kernel
theorem dX11_count_36 : decode cX11_count 36 = .ok (.ireturn, 1) := by decide +kernel
theorem dX11_count_37 : decode cX11_count 37 = .ok (.aload_n 0, 1) := by decide +kernel
theorem dX11_count_38 : decode cX11_count 38 = .ok (.getfield 18, 3) := by decide +kernel
theorem dX11_count_41 : decode cX11_count 41 = .ok (.getfield 83, 3) := by decide +kernel
theorem dX11_count_44 : decode cX11_count 44 = .ok (.ireturn, 1) := by decide +kernel
theorem dX11_count_45 : decode cX11_count 45 = .ok (.aload_n 0, 1) := by decide +kernel
theorem dX11_count_46 : decode cX11_count 46 = .ok (.getfield 11, 3) := by decide +kernel
theorem dX11_count_49 : decode cX11_count 49 = .ok (.iconst 0, 1) := by decide +kernel
theorem dX11_count_50 : decode cX11_count 50 = .ok (.aaload, 1) := by decide +kernel
theorem dX11_count_51 : decode cX11_count 51 = .ok (.getfield 90, 3) := by decide +kernel
theorem dX11_count_54 : decode cX11_count 54 = .ok (.ireturn, 1) := by decide +kernel
theorem dX11_count_55 : decode cX11_count 55 = .ok (.aload_n 0, 1) := by decide +kernel
theorem dX11_count_56 : decode cX11_count 56 = .ok (.getfield 11, 3) := by decide +kernel
theorem dX11_count_59 : decode cX11_count 59 = .ok (.iconst 1, 1) := by decide +kernel
theorem dX11_count_60 : decode cX11_count 60 = .ok (.aaload, 1) := by decide +kernel
theorem dX11_count_61 : decode cX11_count 61 = .ok (.getfield 90, 3) := by decide +kernel
theorem dX11_count_64 : decode cX11_count 64 = .ok (.ireturn, 1) := by decide +kernel
theorem dX11_count_65 : decode cX11_count 65 = .ok (.bipush (-3), 2) := by decide +kernel
theorem dX11_count_67 : decode cX11_count 67 = .ok (.ireturn, 1) := by decide +kernel
theorem dX11_isReader_0 : decode cX11_isReader 0 = .ok (.iload_n 0, 1) := by decide +kernel
theorem dX11_isReader_1 : decode cX11_isReader 1 = .ok (.ifCond .lt 12, 3) := by decide +kernel
theorem dX11_isReader_4 : decode cX11_isReader 4 = .ok (.iload_n 0, 1) := by decide +kernel
theorem dX11_isReader_5 : decode cX11_isReader 5 = .ok (.iconst 2, 1) := by decide +kernel
theorem dX11_isReader_6 : decode cX11_isReader 6 = .ok (.if_icmp .ge 7, 3) := by decide +kernel
theorem dX11_isReader_9 : decode cX11_isReader 9 = .ok (.iconst 1, 1) := by decide +kernel
theorem dX11_isReader_10 : decode cX11_isReader 10 = .ok (.goto 4, 3) := by decide +kernel
theorem dX11_isReader_13 : decode cX11_isReader 13 = .ok (.iconst 0, 1) := by decide +kernel
theorem dX11_isReader_14 : decode cX11_isReader 14 = .ok (.ireturn, 1) := by decide +kernel
theorem dX11_isSign_0 : decode cX11_isSign 0 = .ok (.iload_n 0, 1) := by decide +kernel
theorem dX11_isSign_1 : decode cX11_isSign 1 = .ok (.ifCond .lt 12, 3) := by decide +kernel
theorem dX11_isSign_4 : decode cX11_isSign 4 = .ok (.iload_n 0, 1) := by decide +kernel
theorem dX11_isSign_5 : decode cX11_isSign 5 = .ok (.iconst 5, 1) := by decide +kernel
theorem dX11_isSign_6 : decode cX11_isSign 6 = .ok (.if_icmp .ge 7, 3) := by decide +kernel
theorem dX11_isSign_9 : decode cX11_isSign 9 = .ok (.iconst 1, 1) := by decide +kernel
theorem dX11_isSign_10 : decode cX11_isSign 10 = .ok (.goto 4, 3) := by decide +kernel
theorem dX11_isSign_13 : decode cX11_isSign 13 = .ok (.iconst 0, 1) := by decide +kernel
theorem dX11_isSign_14 : decode cX11_isSign 14 = .ok (.ireturn, 1) := by decide +kernel
theorem dX11_isLetter_0 : decode cX11_isLetter 0 = .ok (.iload_n 0, 1) := by decide +kernel
theorem dX11_isLetter_1 : decode cX11_isLetter 1 = .ok (.ifCond .lt 12, 3) := by decide +kernel
theorem dX11_isLetter_4 : decode cX11_isLetter 4 = .ok (.iload_n 0, 1) := by decide +kernel
theorem dX11_isLetter_5 : decode cX11_isLetter 5 = .ok (.iconst 3, 1) := by decide +kernel
theorem dX11_isLetter_6 : decode cX11_isLetter 6 = .ok (.if_icmp .ge 7, 3) := by decide +kernel
theorem dX11_isLetter_9 : decode cX11_isLetter 9 = .ok (.iconst 1, 1) := by decide +kernel
theorem dX11_isLetter_10 : decode cX11_isLetter 10 = .ok (.goto 4, 3) := by decide +kernel
theorem dX11_isLetter_13 : decode cX11_isLetter 13 = .ok (.iconst 0, 1) := by decide +kernel
theorem dX11_isLetter_14 : decode cX11_isLetter 14 = .ok (.ireturn, 1) := by decide +kernel
theorem dX11_letterIn_0 : decode cX11_letterIn 0 = .ok (.lload_n 0, 1) := by decide +kernel
theorem dX11_letterIn_1 : decode cX11_letterIn 1 = .ok (.iconst 2, 1) := by decide +kernel
theorem dX11_letterIn_2 : decode cX11_letterIn 2 = .ok (.iload_n 2, 1) := by decide +kernel
theorem dX11_letterIn_3 : decode cX11_letterIn 3 = .ok (.imul, 1) := by decide +kernel
theorem dX11_letterIn_4 : decode cX11_letterIn 4 = .ok (.lshr, 1) := by decide +kernel
theorem dX11_letterIn_5 : decode cX11_letterIn 5 = .ok (.ldc2_w 244, 3) := by decide +kernel
theorem dX11_letterIn_8 : decode cX11_letterIn 8 = .ok (.land, 1) := by decide +kernel
theorem dX11_letterIn_9 : decode cX11_letterIn 9 = .ok (.l2i, 1) := by decide +kernel
theorem dX11_letterIn_10 : decode cX11_letterIn 10 = .ok (.ireturn, 1) := by decide +kernel
set_option maxRecDepth 20000 in
theorem ggX11_firstRowEnding_X11_isReader : GoodIn wsX11_firstRowEnding wsX11_isReader := goodIn_r _ [4] rfl (by decide +kernel)
set_option maxRecDepth 20000 in
theorem gX11_firstRowEnding_X11_isReader : GoodIn wsX11_firstRowEnding (va_wsS RX11 71 yX11_isReader wsX11_isReader) := goodIn_app (goodIn_of _ (by decide +kernel)) ggX11_firstRowEnding_X11_isReader
set_option maxRecDepth 20000 in
theorem ggX11_firstRowEnding_X11_beginningsOf : GoodIn wsX11_firstRowEnding wsX11_beginningsOf := goodIn_r _ [8, 9, 10, 11, 12, 13, 14, 15, 16, 17, 18, 19, 20, 21, 22, 23, 24, 25, 26, 27, 28, 29, 30, 31, 32, 33, 34, 35, 36, 37, 38, 39, 40, 41, 42, 43, 44, 45, 46, 47, 48, 49, 50, 51, 52, 53, 54, 55, 56, 57, 58, 59, 60, 61, 62, 63, 64, 65, 66, 67, 68, 69, 70, 71, 72, 73, 74, 75, 76, 77, 78, 79, 80, 81, 82, 83, 84, 85, 86, 87, 88, 89, 90, 91, 92, 93, 94, 95, 96, 97, 98, 99, 100, 101, 102, 103, 104, 105, 106, 107, 108, 109, 110, 111, 112, 113, 114, 115, 116, 117, 118, 119, 120, 121, 122, 123, 124, 125, 126, 127, 128, 129, 130, 131, 132, 133, 134, 135, 136, 137, 138, 157, 158, 159, 160, 161, 162, 163, 164, 165, 166, 167, 147, 148, 149, 150, 151, 152, 153, 154, 155, 156, 168, 169, 170, 171, 172, 173, 174, 175] rfl (by decide +kernel)
set_option maxRecDepth 20000 in
theorem gX11_firstRowEnding_X11_beginningsOf : GoodIn wsX11_firstRowEnding (wsV RX11 202 RX11 yX11_beginningsOf wsX11_beginningsOf) := goodIn_app (goodIn_of _ (by decide +kernel)) ggX11_firstRowEnding_X11_beginningsOf
set_option maxRecDepth 20000 in
theorem ggX11_firstRowEnding_X0_firstEnding : GoodIn wsX11_firstRowEnding wsX0_firstEnding := goodIn_r _ [142, 23, 26, 147, 148, 149, 150, 151, 152, 153, 154, 155, 156, 168, 169, 170] rfl (by decide +kernel)
set_option maxRecDepth 20000 in
theorem gX11_firstRowEnding_X0_firstEnding : GoodIn wsX11_firstRowEnding (wsV RX11 246 RX0 yX0_firstEnding wsX0_firstEnding) := goodIn_app (goodIn_of _ (by decide +kernel)) ggX11_firstRowEnding_X0_firstEnding
set_option maxRecDepth 20000 in
theorem ggX11_firstRowEnding_X1_rowTo : GoodIn wsX11_firstRowEnding wsX1_rowTo := goodIn_r _ [146, 41, 44, 42, 43, 152, 153, 154, 155, 156, 168, 169, 170] rfl (by decide +kernel)
set_option maxRecDepth 20000 in
theorem gX11_firstRowEnding_X1_rowTo : GoodIn wsX11_firstRowEnding (wsV RX11 176 RX1 yX1_rowTo wsX1_rowTo) := goodIn_app (goodIn_of _ (by decide +kernel)) ggX11_firstRowEnding_X1_rowTo
theorem dX11_firstRowEnding_0 : decode cX11_firstRowEnding 0 = .ok (.iload_n 1, 1) := by decide +kernel
theorem dX11_firstRowEnding_1 : decode cX11_firstRowEnding 1 = .ok (.invokestatic 71, 3) := by decide +kernel
theorem dX11_firstRowEnding_4 : decode cX11_firstRowEnding 4 = .ok (.ifCond .ne 6, 3) := by decide +kernel
theorem dX11_firstRowEnding_7 : decode cX11_firstRowEnding 7 = .ok (.bipush (-2), 2) := by decide +kernel
theorem dX11_firstRowEnding_9 : decode cX11_firstRowEnding 9 = .ok (.ireturn, 1) := by decide +kernel
theorem dX11_firstRowEnding_10 : decode cX11_firstRowEnding 10 = .ok (.iload_n 3, 1) := by decide +kernel
theorem dX11_firstRowEnding_11 : decode cX11_firstRowEnding 11 = .ok (.iconst (-1), 1) := by decide +kernel
theorem dX11_firstRowEnding_12 : decode cX11_firstRowEnding 12 = .ok (.if_icmp .ge 6, 3) := by decide +kernel
theorem dX11_firstRowEnding_15 : decode cX11_firstRowEnding 15 = .ok (.bipush (-3), 2) := by decide +kernel
theorem dX11_firstRowEnding_17 : decode cX11_firstRowEnding 17 = .ok (.ireturn, 1) := by decide +kernel
theorem dX11_firstRowEnding_18 : decode cX11_firstRowEnding 18 = .ok (.aload_n 0, 1) := by decide +kernel
theorem dX11_firstRowEnding_19 : decode cX11_firstRowEnding 19 = .ok (.iload_n 1, 1) := by decide +kernel
theorem dX11_firstRowEnding_20 : decode cX11_firstRowEnding 20 = .ok (.invokevirtual 202, 3) := by decide +kernel
theorem dX11_firstRowEnding_23 : decode cX11_firstRowEnding 23 = .ok (.astore 4, 2) := by decide +kernel
theorem dX11_firstRowEnding_25 : decode cX11_firstRowEnding 25 = .ok (.aload 4, 2) := by decide +kernel
theorem dX11_firstRowEnding_27 : decode cX11_firstRowEnding 27 = .ok (.getfield 206, 3) := by decide +kernel
theorem dX11_firstRowEnding_30 : decode cX11_firstRowEnding 30 = .ok (.getfield 160, 3) := by decide +kernel
theorem dX11_firstRowEnding_33 : decode cX11_firstRowEnding 33 = .ok (.ifCond .eq 8, 3) := by decide +kernel
theorem dX11_firstRowEnding_36 : decode cX11_firstRowEnding 36 = .ok (.bipush (-6), 2) := by decide +kernel
theorem dX11_firstRowEnding_38 : decode cX11_firstRowEnding 38 = .ok (.goto 18, 3) := by decide +kernel
theorem dX11_firstRowEnding_41 : decode cX11_firstRowEnding 41 = .ok (.aload 4, 2) := by decide +kernel
theorem dX11_firstRowEnding_43 : decode cX11_firstRowEnding 43 = .ok (.getfield 206, 3) := by decide +kernel
theorem dX11_firstRowEnding_46 : decode cX11_firstRowEnding 46 = .ok (.aload 4, 2) := by decide +kernel
theorem dX11_firstRowEnding_48 : decode cX11_firstRowEnding 48 = .ok (.iload_n 2, 1) := by decide +kernel
theorem dX11_firstRowEnding_49 : decode cX11_firstRowEnding 49 = .ok (.invokevirtual 246, 3) := by decide +kernel
theorem dX11_firstRowEnding_52 : decode cX11_firstRowEnding 52 = .ok (.iload_n 3, 1) := by decide +kernel
theorem dX11_firstRowEnding_53 : decode cX11_firstRowEnding 53 = .ok (.invokevirtual 176, 3) := by decide +kernel
theorem dX11_firstRowEnding_56 : decode cX11_firstRowEnding 56 = .ok (.ireturn, 1) := by decide +kernel
set_option maxRecDepth 20000 in
theorem ggX11_kindsOf_X3_init : GoodIn wsX11_kindsOf wsX3_init := goodIn_r _ [8, 9, 10, 11, 12, 13, 14, 15, 16, 17, 18, 19, 20, 21, 22, 23, 24, 25, 26, 27, 28, 29, 30, 31, 32, 33, 34, 35, 36, 37, 38, 39, 40, 41, 42, 43, 44, 45, 46, 47, 132, 133, 134, 135, 136, 128, 129, 130, 131, 137, 138, 139] rfl (by decide +kernel)
set_option maxRecDepth 20000 in
theorem gX11_kindsOf_X3_init : GoodIn wsX11_kindsOf (wsX3_init) := ggX11_kindsOf_X3_init
set_option maxRecDepth 20000 in
theorem ggX11_kindsOf_X3_renew : GoodIn wsX11_kindsOf wsX3_renew := goodIn_r _ [51, 18, 19, 15, 17, 52, 53, 54, 14, 55, 32, 24, 56, 57, 58, 31, 59, 41, 47, 60, 61, 62, 63, 64, 65, 4, 66, 67, 68, 69, 70, 71, 72, 73, 74, 75, 76, 77, 78, 79, 80, 81, 82, 83, 84, 85, 86, 87, 88, 89, 34, 35, 36, 90, 91, 92, 93, 46, 94, 95, 96, 97, 98, 99, 100, 101, 102, 103, 104, 105, 106, 107, 108, 109, 110, 111, 112, 113, 114, 115, 116, 128, 129, 130, 131, 140, 141, 142, 143, 144, 132, 133, 134, 135, 136, 137, 138, 139] rfl (by decide +kernel)
set_option maxRecDepth 20000 in
theorem gX11_kindsOf_X3_renew : GoodIn wsX11_kindsOf (wsV RX11 252 RX3 yX3_renew wsX3_renew) := goodIn_app (goodIn_of _ (by decide +kernel)) ggX11_kindsOf_X3_renew
theorem dX11_kindsOf_0 : decode cX11_kindsOf 0 = .ok (.aload_n 0, 1) := by decide +kernel
theorem dX11_kindsOf_1 : decode cX11_kindsOf 1 = .ok (.getfield 46, 3) := by decide +kernel
theorem dX11_kindsOf_4 : decode cX11_kindsOf 4 = .ok (.iload_n 1, 1) := by decide +kernel
theorem dX11_kindsOf_5 : decode cX11_kindsOf 5 = .ok (.aaload, 1) := by decide +kernel
theorem dX11_kindsOf_6 : decode cX11_kindsOf 6 = .ok (.ifnonnull 22, 3) := by decide +kernel
theorem dX11_kindsOf_9 : decode cX11_kindsOf 9 = .ok (.aload_n 0, 1) := by decide +kernel
theorem dX11_kindsOf_10 : decode cX11_kindsOf 10 = .ok (.getfield 46, 3) := by decide +kernel
theorem dX11_kindsOf_13 : decode cX11_kindsOf 13 = .ok (.iload_n 1, 1) := by decide +kernel
theorem dX11_kindsOf_14 : decode cX11_kindsOf 14 = .ok (.new 44, 3) := by decide +kernel
theorem dX11_kindsOf_17 : decode cX11_kindsOf 17 = .ok (.dup, 1) := by decide +kernel
theorem dX11_kindsOf_18 : decode cX11_kindsOf 18 = .ok (.aload_n 0, 1) := by decide +kernel
theorem dX11_kindsOf_19 : decode cX11_kindsOf 19 = .ok (.getfield 11, 3) := by decide +kernel
theorem dX11_kindsOf_22 : decode cX11_kindsOf 22 = .ok (.iload_n 1, 1) := by decide +kernel
theorem dX11_kindsOf_23 : decode cX11_kindsOf 23 = .ok (.aaload, 1) := by decide +kernel
theorem dX11_kindsOf_24 : decode cX11_kindsOf 24 = .ok (.invokespecial 249, 3) := by decide +kernel
theorem dX11_kindsOf_27 : decode cX11_kindsOf 27 = .ok (.aastore, 1) := by decide +kernel
theorem dX11_kindsOf_28 : decode cX11_kindsOf 28 = .ok (.aload_n 0, 1) := by decide +kernel
theorem dX11_kindsOf_29 : decode cX11_kindsOf 29 = .ok (.getfield 46, 3) := by decide +kernel
theorem dX11_kindsOf_32 : decode cX11_kindsOf 32 = .ok (.iload_n 1, 1) := by decide +kernel
theorem dX11_kindsOf_33 : decode cX11_kindsOf 33 = .ok (.aaload, 1) := by decide +kernel
theorem dX11_kindsOf_34 : decode cX11_kindsOf 34 = .ok (.invokevirtual 252, 3) := by decide +kernel
theorem dX11_kindsOf_37 : decode cX11_kindsOf 37 = .ok (.aload_n 0, 1) := by decide +kernel
theorem dX11_kindsOf_38 : decode cX11_kindsOf 38 = .ok (.getfield 46, 3) := by decide +kernel
theorem dX11_kindsOf_41 : decode cX11_kindsOf 41 = .ok (.iload_n 1, 1) := by decide +kernel
theorem dX11_kindsOf_42 : decode cX11_kindsOf 42 = .ok (.aaload, 1) := by decide +kernel
theorem dX11_kindsOf_43 : decode cX11_kindsOf 43 = .ok (.areturn, 1) := by decide +kernel
set_option maxRecDepth 20000 in
theorem ggX11_beginningsOf_X0_init : GoodIn wsX11_beginningsOf wsX0_init := goodIn_r _ [8, 9, 10, 11, 12, 13, 14, 15, 16, 17, 18, 19, 20, 21, 22, 23, 24, 25, 26, 27, 28, 29, 30, 31, 32, 33, 34, 35, 36, 37, 38, 39, 40, 41, 42, 43, 44, 45, 46, 47, 48, 147, 148, 149, 150, 151, 142, 143, 144, 145, 146, 152, 153, 154] rfl (by decide +kernel)
set_option maxRecDepth 20000 in
theorem gX11_beginningsOf_X0_init : GoodIn wsX11_beginningsOf (wsX0_init) := ggX11_beginningsOf_X0_init
set_option maxRecDepth 20000 in
theorem ggX11_beginningsOf_X0_renew : GoodIn wsX11_beginningsOf wsX0_renew := goodIn_r _ [52, 19, 20, 15, 18, 17, 53, 54, 55, 14, 56, 33, 25, 57, 58, 59, 32, 60, 41, 48, 61, 62, 63, 64, 65, 66, 67, 4, 68, 69, 70, 71, 72, 73, 74, 75, 76, 77, 78, 79, 80, 81, 82, 83, 84, 85, 86, 34, 35, 36, 87, 88, 89, 90, 47, 91, 92, 93, 94, 95, 96, 97, 98, 99, 100, 101, 102, 103, 104, 105, 106, 107, 108, 109, 110, 111, 112, 113, 114, 115, 116, 117, 118, 119, 120, 121, 122, 123, 124, 125, 126, 127, 128, 129, 130, 142, 143, 144, 145, 146, 155, 156, 157, 158, 159, 147, 148, 149, 150, 151, 152, 153, 154] rfl (by decide +kernel)
set_option maxRecDepth 20000 in
theorem gX11_beginningsOf_X0_renew : GoodIn wsX11_beginningsOf (wsV RX11 254 RX0 yX0_renew wsX0_renew) := goodIn_app (goodIn_of _ (by decide +kernel)) ggX11_beginningsOf_X0_renew
theorem dX11_beginningsOf_0 : decode cX11_beginningsOf 0 = .ok (.aload_n 0, 1) := by decide +kernel
theorem dX11_beginningsOf_1 : decode cX11_beginningsOf 1 = .ok (.getfield 52, 3) := by decide +kernel
theorem dX11_beginningsOf_4 : decode cX11_beginningsOf 4 = .ok (.iload_n 1, 1) := by decide +kernel
theorem dX11_beginningsOf_5 : decode cX11_beginningsOf 5 = .ok (.aaload, 1) := by decide +kernel
theorem dX11_beginningsOf_6 : decode cX11_beginningsOf 6 = .ok (.ifnonnull 22, 3) := by decide +kernel
theorem dX11_beginningsOf_9 : decode cX11_beginningsOf 9 = .ok (.aload_n 0, 1) := by decide +kernel
theorem dX11_beginningsOf_10 : decode cX11_beginningsOf 10 = .ok (.getfield 52, 3) := by decide +kernel
theorem dX11_beginningsOf_13 : decode cX11_beginningsOf 13 = .ok (.iload_n 1, 1) := by decide +kernel
theorem dX11_beginningsOf_14 : decode cX11_beginningsOf 14 = .ok (.new 50, 3) := by decide +kernel
theorem dX11_beginningsOf_17 : decode cX11_beginningsOf 17 = .ok (.dup, 1) := by decide +kernel
theorem dX11_beginningsOf_18 : decode cX11_beginningsOf 18 = .ok (.aload_n 0, 1) := by decide +kernel
theorem dX11_beginningsOf_19 : decode cX11_beginningsOf 19 = .ok (.getfield 11, 3) := by decide +kernel
theorem dX11_beginningsOf_22 : decode cX11_beginningsOf 22 = .ok (.iload_n 1, 1) := by decide +kernel
theorem dX11_beginningsOf_23 : decode cX11_beginningsOf 23 = .ok (.aaload, 1) := by decide +kernel
theorem dX11_beginningsOf_24 : decode cX11_beginningsOf 24 = .ok (.invokespecial 253, 3) := by decide +kernel
theorem dX11_beginningsOf_27 : decode cX11_beginningsOf 27 = .ok (.aastore, 1) := by decide +kernel
theorem dX11_beginningsOf_28 : decode cX11_beginningsOf 28 = .ok (.aload_n 0, 1) := by decide +kernel
theorem dX11_beginningsOf_29 : decode cX11_beginningsOf 29 = .ok (.getfield 52, 3) := by decide +kernel
theorem dX11_beginningsOf_32 : decode cX11_beginningsOf 32 = .ok (.iload_n 1, 1) := by decide +kernel
theorem dX11_beginningsOf_33 : decode cX11_beginningsOf 33 = .ok (.aaload, 1) := by decide +kernel
theorem dX11_beginningsOf_34 : decode cX11_beginningsOf 34 = .ok (.invokevirtual 254, 3) := by decide +kernel
theorem dX11_beginningsOf_37 : decode cX11_beginningsOf 37 = .ok (.aload_n 0, 1) := by decide +kernel
theorem dX11_beginningsOf_38 : decode cX11_beginningsOf 38 = .ok (.getfield 52, 3) := by decide +kernel
theorem dX11_beginningsOf_41 : decode cX11_beginningsOf 41 = .ok (.iload_n 1, 1) := by decide +kernel
theorem dX11_beginningsOf_42 : decode cX11_beginningsOf 42 = .ok (.aaload, 1) := by decide +kernel
theorem dX11_beginningsOf_43 : decode cX11_beginningsOf 43 = .ok (.areturn, 1) := by decide +kernel
set_option maxRecDepth 20000 in
theorem ggX11_leastOf_X11_beginningsOf : GoodIn wsX11_leastOf wsX11_beginningsOf := goodIn_r _ [9, 10, 11, 12, 13, 14, 15, 16, 17, 18, 19, 20, 21, 22, 23, 24, 25, 26, 27, 28, 29, 30, 31, 32, 33, 34, 35, 36, 37, 38, 39, 40, 41, 42, 43, 44, 45, 46, 47, 48, 49, 50, 51, 52, 53, 54, 55, 56, 57, 58, 59, 60, 61, 62, 63, 64, 65, 66, 67, 68, 69, 70, 71, 72, 73, 74, 75, 76, 77, 78, 79, 80, 81, 82, 83, 84, 85, 86, 87, 88, 89, 90, 91, 92, 93, 94, 95, 96, 97, 98, 99, 100, 101, 102, 103, 104, 105, 106, 107, 108, 109, 110, 111, 112, 113, 114, 115, 116, 117, 118, 119, 120, 121, 122, 123, 124, 125, 126, 127, 128, 129, 130, 131, 132, 133, 134, 135, 136, 137, 138, 139, 220, 221, 222, 223, 224, 225, 226, 227, 228, 229, 230, 210, 211, 212, 213, 214, 215, 216, 217, 218, 219, 243, 244, 245, 246, 247, 248, 249, 250] rfl (by decide +kernel)
set_option maxRecDepth 20000 in
theorem gX11_leastOf_X11_beginningsOf : GoodIn wsX11_leastOf (wsV RX11 202 RX11 yX11_beginningsOf wsX11_beginningsOf) := goodIn_app (goodIn_of _ (by decide +kernel)) ggX11_leastOf_X11_beginningsOf
set_option maxRecDepth 20000 in
theorem ggX11_leastOf_X4_init : GoodIn wsX11_leastOf wsX4_init := goodIn_r _ [142, 143, 19, 20, 25, 144, 145, 146, 40, 41, 147, 148, 149, 150, 151, 152, 153, 154, 155, 156, 157, 47, 48, 49, 50, 51, 52, 37, 53, 54, 36, 38, 55, 56, 57, 231, 232, 233, 234, 235, 236, 237, 238, 239, 240, 241, 242, 243, 244, 245] rfl (by decide +kernel)
set_option maxRecDepth 20000 in
theorem gX11_leastOf_X4_init : GoodIn wsX11_leastOf (wsX4_init) := ggX11_leastOf_X4_init
set_option maxRecDepth 20000 in
theorem ggX11_leastOf_X4_renew : GoodIn wsX11_leastOf wsX4_renew := goodIn_r _ [161, 155, 156, 152, 150, 153, 162, 163, 164, 165, 166, 167, 168, 4, 169, 147, 144, 170, 36, 37, 38, 148, 171, 67, 68, 41, 69, 50, 57, 70, 71, 72, 73, 172, 173, 174, 13, 175, 27, 176, 97, 98, 99, 56, 100, 101, 102, 103, 104, 105, 106, 107, 108, 177, 178, 179, 180, 181, 145, 182, 183, 184, 185, 186, 187, 188, 189, 26, 190, 191, 192, 193, 194, 149, 195, 196, 197, 198, 199, 200, 201, 202, 203, 204, 8, 205, 206, 207, 208, 209, 231, 232, 233, 234, 235, 236, 237, 238, 239, 240, 241, 242, 210, 211, 212, 213, 214, 215, 216, 217, 218, 219, 243, 244, 245] rfl (by decide +kernel)
set_option maxRecDepth 20000 in
theorem gX11_leastOf_X4_renew : GoodIn wsX11_leastOf (wsV RX11 258 RX4 yX4_renew wsX4_renew) := goodIn_app (goodIn_of _ (by decide +kernel)) ggX11_leastOf_X4_renew
theorem dX11_leastOf_0 : decode cX11_leastOf 0 = .ok (.aload_n 0, 1) := by decide +kernel
theorem dX11_leastOf_1 : decode cX11_leastOf 1 = .ok (.iload_n 1, 1) := by decide +kernel
theorem dX11_leastOf_2 : decode cX11_leastOf 2 = .ok (.invokevirtual 202, 3) := by decide +kernel
theorem dX11_leastOf_5 : decode cX11_leastOf 5 = .ok (.astore_n 2, 1) := by decide +kernel
theorem dX11_leastOf_6 : decode cX11_leastOf 6 = .ok (.aload_n 2, 1) := by decide +kernel
theorem dX11_leastOf_7 : decode cX11_leastOf 7 = .ok (.getfield 206, 3) := by decide +kernel
theorem dX11_leastOf_10 : decode cX11_leastOf 10 = .ok (.getfield 160, 3) := by decide +kernel
theorem dX11_leastOf_13 : decode cX11_leastOf 13 = .ok (.ifCond .eq 5, 3) := by decide +kernel
theorem dX11_leastOf_16 : decode cX11_leastOf 16 = .ok (.aconst_null, 1) := by decide +kernel
theorem dX11_leastOf_17 : decode cX11_leastOf 17 = .ok (.areturn, 1) := by decide +kernel
theorem dX11_leastOf_18 : decode cX11_leastOf 18 = .ok (.aload_n 0, 1) := by decide +kernel
theorem dX11_leastOf_19 : decode cX11_leastOf 19 = .ok (.getfield 58, 3) := by decide +kernel
theorem dX11_leastOf_22 : decode cX11_leastOf 22 = .ok (.iload_n 1, 1) := by decide +kernel
theorem dX11_leastOf_23 : decode cX11_leastOf 23 = .ok (.aaload, 1) := by decide +kernel
theorem dX11_leastOf_24 : decode cX11_leastOf 24 = .ok (.ifnonnull 17, 3) := by decide +kernel
theorem dX11_leastOf_27 : decode cX11_leastOf 27 = .ok (.aload_n 0, 1) := by decide +kernel
theorem dX11_leastOf_28 : decode cX11_leastOf 28 = .ok (.getfield 58, 3) := by decide +kernel
theorem dX11_leastOf_31 : decode cX11_leastOf 31 = .ok (.iload_n 1, 1) := by decide +kernel
theorem dX11_leastOf_32 : decode cX11_leastOf 32 = .ok (.new 56, 3) := by decide +kernel
theorem dX11_leastOf_35 : decode cX11_leastOf 35 = .ok (.dup, 1) := by decide +kernel
theorem dX11_leastOf_36 : decode cX11_leastOf 36 = .ok (.aload_n 2, 1) := by decide +kernel
theorem dX11_leastOf_37 : decode cX11_leastOf 37 = .ok (.invokespecial 255, 3) := by decide +kernel
theorem dX11_leastOf_40 : decode cX11_leastOf 40 = .ok (.aastore, 1) := by decide +kernel
theorem dX11_leastOf_41 : decode cX11_leastOf 41 = .ok (.aload_n 0, 1) := by decide +kernel
theorem dX11_leastOf_42 : decode cX11_leastOf 42 = .ok (.getfield 58, 3) := by decide +kernel
theorem dX11_leastOf_45 : decode cX11_leastOf 45 = .ok (.iload_n 1, 1) := by decide +kernel
theorem dX11_leastOf_46 : decode cX11_leastOf 46 = .ok (.aaload, 1) := by decide +kernel
theorem dX11_leastOf_47 : decode cX11_leastOf 47 = .ok (.invokevirtual 258, 3) := by decide +kernel
theorem dX11_leastOf_50 : decode cX11_leastOf 50 = .ok (.aload_n 0, 1) := by decide +kernel
theorem dX11_leastOf_51 : decode cX11_leastOf 51 = .ok (.getfield 58, 3) := by decide +kernel
theorem dX11_leastOf_54 : decode cX11_leastOf 54 = .ok (.iload_n 1, 1) := by decide +kernel
theorem dX11_leastOf_55 : decode cX11_leastOf 55 = .ok (.aaload, 1) := by decide +kernel
theorem dX11_leastOf_56 : decode cX11_leastOf 56 = .ok (.areturn, 1) := by decide +kernel
theorem dX12_init_0 : decode cX12_init 0 = .ok (.aload_n 0, 1) := by decide +kernel
theorem dX12_init_1 : decode cX12_init 1 = .ok (.invokespecial 1, 3) := by decide +kernel
theorem dX12_init_4 : decode cX12_init 4 = .ok (.aload_n 0, 1) := by decide +kernel
theorem dX12_init_5 : decode cX12_init 5 = .ok (.iconst 2, 1) := by decide +kernel
theorem dX12_init_6 : decode cX12_init 6 = .ok (.newarray .int, 2) := by decide +kernel
theorem dX12_init_8 : decode cX12_init 8 = .ok (.dup, 1) := by decide +kernel
theorem dX12_init_9 : decode cX12_init 9 = .ok (.iconst 0, 1) := by decide +kernel
theorem dX12_init_10 : decode cX12_init 10 = .ok (.iconst 1, 1) := by decide +kernel
theorem dX12_init_11 : decode cX12_init 11 = .ok (.iastore, 1) := by decide +kernel
theorem dX12_init_12 : decode cX12_init 12 = .ok (.dup, 1) := by decide +kernel
theorem dX12_init_13 : decode cX12_init 13 = .ok (.iconst 1, 1) := by decide +kernel
theorem dX12_init_14 : decode cX12_init 14 = .ok (.iconst 1, 1) := by decide +kernel
theorem dX12_init_15 : decode cX12_init 15 = .ok (.iastore, 1) := by decide +kernel
theorem dX12_init_16 : decode cX12_init 16 = .ok (.putfield 7, 3) := by decide +kernel
theorem dX12_init_19 : decode cX12_init 19 = .ok (.aload_n 0, 1) := by decide +kernel
theorem dX12_init_20 : decode cX12_init 20 = .ok (.iconst 2, 1) := by decide +kernel
theorem dX12_init_21 : decode cX12_init 21 = .ok (.newarray .int, 2) := by decide +kernel
theorem dX12_init_23 : decode cX12_init 23 = .ok (.putfield 13, 3) := by decide +kernel
theorem dX12_init_26 : decode cX12_init 26 = .ok (.aload_n 0, 1) := by decide +kernel
theorem dX12_init_27 : decode cX12_init 27 = .ok (.bipush 50, 2) := by decide +kernel
theorem dX12_init_29 : decode cX12_init 29 = .ok (.newarray .int, 2) := by decide +kernel
theorem dX12_init_31 : decode cX12_init 31 = .ok (.dup, 1) := by decide +kernel
theorem dX12_init_32 : decode cX12_init 32 = .ok (.iconst 0, 1) := by decide +kernel
theorem dX12_init_33 : decode cX12_init 33 = .ok (.iconst (-1), 1) := by decide +kernel
theorem dX12_init_34 : decode cX12_init 34 = .ok (.iastore, 1) := by decide +kernel
theorem dX12_init_35 : decode cX12_init 35 = .ok (.dup, 1) := by decide +kernel
theorem dX12_init_36 : decode cX12_init 36 = .ok (.iconst 1, 1) := by decide +kernel
theorem dX12_init_37 : decode cX12_init 37 = .ok (.iconst (-1), 1) := by decide +kernel
theorem dX12_init_38 : decode cX12_init 38 = .ok (.iastore, 1) := by decide +kernel
theorem dX12_init_39 : decode cX12_init 39 = .ok (.dup, 1) := by decide +kernel
theorem dX12_init_40 : decode cX12_init 40 = .ok (.iconst 2, 1) := by decide +kernel
theorem dX12_init_41 : decode cX12_init 41 = .ok (.iconst (-1), 1) := by decide +kernel
theorem dX12_init_42 : decode cX12_init 42 = .ok (.iastore, 1) := by decide +kernel
theorem dX12_init_43 : decode cX12_init 43 = .ok (.dup, 1) := by decide +kernel
theorem dX12_init_44 : decode cX12_init 44 = .ok (.iconst 3, 1) := by decide +kernel
theorem dX12_init_45 : decode cX12_init 45 = .ok (.iconst (-1), 1) := by decide +kernel
theorem dX12_init_46 : decode cX12_init 46 = .ok (.iastore, 1) := by decide +kernel
theorem dX12_init_47 : decode cX12_init 47 = .ok (.dup, 1) := by decide +kernel
theorem dX12_init_48 : decode cX12_init 48 = .ok (.iconst 4, 1) := by decide +kernel
theorem dX12_init_49 : decode cX12_init 49 = .ok (.iconst (-1), 1) := by decide +kernel
theorem dX12_init_50 : decode cX12_init 50 = .ok (.iastore, 1) := by decide +kernel
theorem dX12_init_51 : decode cX12_init 51 = .ok (.dup, 1) := by decide +kernel
theorem dX12_init_52 : decode cX12_init 52 = .ok (.iconst 5, 1) := by decide +kernel
theorem dX12_init_53 : decode cX12_init 53 = .ok (.iconst (-1), 1) := by decide +kernel
theorem dX12_init_54 : decode cX12_init 54 = .ok (.iastore, 1) := by decide +kernel
theorem dX12_init_55 : decode cX12_init 55 = .ok (.dup, 1) := by decide +kernel
theorem dX12_init_56 : decode cX12_init 56 = .ok (.bipush 6, 2) := by decide +kernel
theorem dX12_init_58 : decode cX12_init 58 = .ok (.iconst (-1), 1) := by decide +kernel
theorem dX12_init_59 : decode cX12_init 59 = .ok (.iastore, 1) := by decide +kernel
theorem dX12_init_60 : decode cX12_init 60 = .ok (.dup, 1) := by decide +kernel
theorem dX12_init_61 : decode cX12_init 61 = .ok (.bipush 7, 2) := by decide +kernel
theorem dX12_init_63 : decode cX12_init 63 = .ok (.iconst (-1), 1) := by decide +kernel
theorem dX12_init_64 : decode cX12_init 64 = .ok (.iastore, 1) := by decide +kernel
theorem dX12_init_65 : decode cX12_init 65 = .ok (.dup, 1) := by decide +kernel
theorem dX12_init_66 : decode cX12_init 66 = .ok (.bipush 8, 2) := by decide +kernel
theorem dX12_init_68 : decode cX12_init 68 = .ok (.iconst (-1), 1) := by decide +kernel
theorem dX12_init_69 : decode cX12_init 69 = .ok (.iastore, 1) := by decide +kernel
theorem dX12_init_70 : decode cX12_init 70 = .ok (.dup, 1) := by decide +kernel
theorem dX12_init_71 : decode cX12_init 71 = .ok (.bipush 9, 2) := by decide +kernel
theorem dX12_init_73 : decode cX12_init 73 = .ok (.iconst (-1), 1) := by decide +kernel
theorem dX12_init_74 : decode cX12_init 74 = .ok (.iastore, 1) := by decide +kernel
theorem dX12_init_75 : decode cX12_init 75 = .ok (.dup, 1) := by decide +kernel
theorem dX12_init_76 : decode cX12_init 76 = .ok (.bipush 10, 2) := by decide +kernel
theorem dX12_init_78 : decode cX12_init 78 = .ok (.iconst (-1), 1) := by decide +kernel
theorem dX12_init_79 : decode cX12_init 79 = .ok (.iastore, 1) := by decide +kernel
theorem dX12_init_80 : decode cX12_init 80 = .ok (.dup, 1) := by decide +kernel
theorem dX12_init_81 : decode cX12_init 81 = .ok (.bipush 11, 2) := by decide +kernel
theorem dX12_init_83 : decode cX12_init 83 = .ok (.iconst (-1), 1) := by decide +kernel
theorem dX12_init_84 : decode cX12_init 84 = .ok (.iastore, 1) := by decide +kernel
theorem dX12_init_85 : decode cX12_init 85 = .ok (.dup, 1) := by decide +kernel
theorem dX12_init_86 : decode cX12_init 86 = .ok (.bipush 12, 2) := by decide +kernel
theorem dX12_init_88 : decode cX12_init 88 = .ok (.iconst (-1), 1) := by decide +kernel
theorem dX12_init_89 : decode cX12_init 89 = .ok (.iastore, 1) := by decide +kernel
theorem dX12_init_90 : decode cX12_init 90 = .ok (.dup, 1) := by decide +kernel
theorem dX12_init_91 : decode cX12_init 91 = .ok (.bipush 13, 2) := by decide +kernel
theorem dX12_init_93 : decode cX12_init 93 = .ok (.iconst (-1), 1) := by decide +kernel
theorem dX12_init_94 : decode cX12_init 94 = .ok (.iastore, 1) := by decide +kernel
theorem dX12_init_95 : decode cX12_init 95 = .ok (.dup, 1) := by decide +kernel
theorem dX12_init_96 : decode cX12_init 96 = .ok (.bipush 14, 2) := by decide +kernel
theorem dX12_init_98 : decode cX12_init 98 = .ok (.iconst (-1), 1) := by decide +kernel
theorem dX12_init_99 : decode cX12_init 99 = .ok (.iastore, 1) := by decide +kernel
theorem dX12_init_100 : decode cX12_init 100 = .ok (.dup, 1) := by decide +kernel
theorem dX12_init_101 : decode cX12_init 101 = .ok (.bipush 15, 2) := by decide +kernel
theorem dX12_init_103 : decode cX12_init 103 = .ok (.iconst (-1), 1) := by decide +kernel
theorem dX12_init_104 : decode cX12_init 104 = .ok (.iastore, 1) := by decide +kernel
theorem dX12_init_105 : decode cX12_init 105 = .ok (.dup, 1) := by decide +kernel
theorem dX12_init_106 : decode cX12_init 106 = .ok (.bipush 16, 2) := by decide +kernel
theorem dX12_init_108 : decode cX12_init 108 = .ok (.iconst (-1), 1) := by decide +kernel
theorem dX12_init_109 : decode cX12_init 109 = .ok (.iastore, 1) := by decide +kernel
theorem dX12_init_110 : decode cX12_init 110 = .ok (.dup, 1) := by decide +kernel
theorem dX12_init_111 : decode cX12_init 111 = .ok (.bipush 17, 2) := by decide +kernel
theorem dX12_init_113 : decode cX12_init 113 = .ok (.iconst (-1), 1) := by decide +kernel
theorem dX12_init_114 : decode cX12_init 114 = .ok (.iastore, 1) := by decide +kernel
theorem dX12_init_115 : decode cX12_init 115 = .ok (.dup, 1) := by decide +kernel
theorem dX12_init_116 : decode cX12_init 116 = .ok (.bipush 18, 2) := by decide +kernel
theorem dX12_init_118 : decode cX12_init 118 = .ok (.iconst (-1), 1) := by decide +kernel
theorem dX12_init_119 : decode cX12_init 119 = .ok (.iastore, 1) := by decide +kernel
theorem dX12_init_120 : decode cX12_init 120 = .ok (.dup, 1) := by decide +kernel
theorem dX12_init_121 : decode cX12_init 121 = .ok (.bipush 19, 2) := by decide +kernel
theorem dX12_init_123 : decode cX12_init 123 = .ok (.iconst (-1), 1) := by decide +kernel
theorem dX12_init_124 : decode cX12_init 124 = .ok (.iastore, 1) := by decide +kernel
theorem dX12_init_125 : decode cX12_init 125 = .ok (.dup, 1) := by decide +kernel
theorem dX12_init_126 : decode cX12_init 126 = .ok (.bipush 20, 2) := by decide +kernel
theorem dX12_init_128 : decode cX12_init 128 = .ok (.iconst (-1), 1) := by decide +kernel
theorem dX12_init_129 : decode cX12_init 129 = .ok (.iastore, 1) := by decide +kernel
theorem dX12_init_130 : decode cX12_init 130 = .ok (.dup, 1) := by decide +kernel
theorem dX12_init_131 : decode cX12_init 131 = .ok (.bipush 21, 2) := by decide +kernel
theorem dX12_init_133 : decode cX12_init 133 = .ok (.iconst (-1), 1) := by decide +kernel
theorem dX12_init_134 : decode cX12_init 134 = .ok (.iastore, 1) := by decide +kernel
theorem dX12_init_135 : decode cX12_init 135 = .ok (.dup, 1) := by decide +kernel
theorem dX12_init_136 : decode cX12_init 136 = .ok (.bipush 22, 2) := by decide +kernel
theorem dX12_init_138 : decode cX12_init 138 = .ok (.iconst (-1), 1) := by decide +kernel
theorem dX12_init_139 : decode cX12_init 139 = .ok (.iastore, 1) := by decide +kernel
theorem dX12_init_140 : decode cX12_init 140 = .ok (.dup, 1) := by decide +kernel
theorem dX12_init_141 : decode cX12_init 141 = .ok (.bipush 23, 2) := by decide +kernel
theorem dX12_init_143 : decode cX12_init 143 = .ok (.iconst (-1), 1) := by decide +kernel
theorem dX12_init_144 : decode cX12_init 144 = .ok (.iastore, 1) := by decide +kernel
theorem dX12_init_145 : decode cX12_init 145 = .ok (.dup, 1) := by decide +kernel
theorem dX12_init_146 : decode cX12_init 146 = .ok (.bipush 24, 2) := by decide +kernel
theorem dX12_init_148 : decode cX12_init 148 = .ok (.iconst (-1), 1) := by decide +kernel
theorem dX12_init_149 : decode cX12_init 149 = .ok (.iastore, 1) := by decide +kernel
theorem dX12_init_150 : decode cX12_init 150 = .ok (.dup, 1) := by decide +kernel
theorem dX12_init_151 : decode cX12_init 151 = .ok (.bipush 25, 2) := by decide +kernel
theorem dX12_init_153 : decode cX12_init 153 = .ok (.iconst (-1), 1) := by decide +kernel
theorem dX12_init_154 : decode cX12_init 154 = .ok (.iastore, 1) := by decide +kernel
theorem dX12_init_155 : decode cX12_init 155 = .ok (.dup, 1) := by decide +kernel
theorem dX12_init_156 : decode cX12_init 156 = .ok (.bipush 26, 2) := by decide +kernel
theorem dX12_init_158 : decode cX12_init 158 = .ok (.iconst (-1), 1) := by decide +kernel
theorem dX12_init_159 : decode cX12_init 159 = .ok (.iastore, 1) := by decide +kernel
theorem dX12_init_160 : decode cX12_init 160 = .ok (.dup, 1) := by decide +kernel
theorem dX12_init_161 : decode cX12_init 161 = .ok (.bipush 27, 2) := by decide +kernel
theorem dX12_init_163 : decode cX12_init 163 = .ok (.iconst (-1), 1) := by decide +kernel
theorem dX12_init_164 : decode cX12_init 164 = .ok (.iastore, 1) := by decide +kernel
theorem dX12_init_165 : decode cX12_init 165 = .ok (.dup, 1) := by decide +kernel
theorem dX12_init_166 : decode cX12_init 166 = .ok (.bipush 28, 2) := by decide +kernel
theorem dX12_init_168 : decode cX12_init 168 = .ok (.iconst (-1), 1) := by decide +kernel
theorem dX12_init_169 : decode cX12_init 169 = .ok (.iastore, 1) := by decide +kernel
theorem dX12_init_170 : decode cX12_init 170 = .ok (.dup, 1) := by decide +kernel
theorem dX12_init_171 : decode cX12_init 171 = .ok (.bipush 29, 2) := by decide +kernel
theorem dX12_init_173 : decode cX12_init 173 = .ok (.iconst (-1), 1) := by decide +kernel
theorem dX12_init_174 : decode cX12_init 174 = .ok (.iastore, 1) := by decide +kernel
theorem dX12_init_175 : decode cX12_init 175 = .ok (.dup, 1) := by decide +kernel
theorem dX12_init_176 : decode cX12_init 176 = .ok (.bipush 30, 2) := by decide +kernel
theorem dX12_init_178 : decode cX12_init 178 = .ok (.iconst (-1), 1) := by decide +kernel
theorem dX12_init_179 : decode cX12_init 179 = .ok (.iastore, 1) := by decide +kernel
theorem dX12_init_180 : decode cX12_init 180 = .ok (.dup, 1) := by decide +kernel
theorem dX12_init_181 : decode cX12_init 181 = .ok (.bipush 31, 2) := by decide +kernel
theorem dX12_init_183 : decode cX12_init 183 = .ok (.iconst (-1), 1) := by decide +kernel
theorem dX12_init_184 : decode cX12_init 184 = .ok (.iastore, 1) := by decide +kernel
theorem dX12_init_185 : decode cX12_init 185 = .ok (.dup, 1) := by decide +kernel
theorem dX12_init_186 : decode cX12_init 186 = .ok (.bipush 32, 2) := by decide +kernel
theorem dX12_init_188 : decode cX12_init 188 = .ok (.iconst (-1), 1) := by decide +kernel
theorem dX12_init_189 : decode cX12_init 189 = .ok (.iastore, 1) := by decide +kernel
theorem dX12_init_190 : decode cX12_init 190 = .ok (.dup, 1) := by decide +kernel
theorem dX12_init_191 : decode cX12_init 191 = .ok (.bipush 33, 2) := by decide +kernel
theorem dX12_init_193 : decode cX12_init 193 = .ok (.iconst (-1), 1) := by decide +kernel
theorem dX12_init_194 : decode cX12_init 194 = .ok (.iastore, 1) := by decide +kernel
theorem dX12_init_195 : decode cX12_init 195 = .ok (.dup, 1) := by decide +kernel
theorem dX12_init_196 : decode cX12_init 196 = .ok (.bipush 34, 2) := by decide +kernel
theorem dX12_init_198 : decode cX12_init 198 = .ok (.iconst (-1), 1) := by decide +kernel
theorem dX12_init_199 : decode cX12_init 199 = .ok (.iastore, 1) := by decide +kernel
theorem dX12_init_200 : decode cX12_init 200 = .ok (.dup, 1) := by decide +kernel
theorem dX12_init_201 : decode cX12_init 201 = .ok (.bipush 35, 2) := by decide +kernel
theorem dX12_init_203 : decode cX12_init 203 = .ok (.iconst (-1), 1) := by decide +kernel
theorem dX12_init_204 : decode cX12_init 204 = .ok (.iastore, 1) := by decide +kernel
theorem dX12_init_205 : decode cX12_init 205 = .ok (.dup, 1) := by decide +kernel
theorem dX12_init_206 : decode cX12_init 206 = .ok (.bipush 36, 2) := by decide +kernel
theorem dX12_init_208 : decode cX12_init 208 = .ok (.iconst (-1), 1) := by decide +kernel
theorem dX12_init_209 : decode cX12_init 209 = .ok (.iastore, 1) := by decide +kernel
theorem dX12_init_210 : decode cX12_init 210 = .ok (.dup, 1) := by decide +kernel
theorem dX12_init_211 : decode cX12_init 211 = .ok (.bipush 37, 2) := by decide +kernel
theorem dX12_init_213 : decode cX12_init 213 = .ok (.iconst (-1), 1) := by decide +kernel
theorem dX12_init_214 : decode cX12_init 214 = .ok (.iastore, 1) := by decide +kernel
theorem dX12_init_215 : decode cX12_init 215 = .ok (.dup, 1) := by decide +kernel
theorem dX12_init_216 : decode cX12_init 216 = .ok (.bipush 38, 2) := by decide +kernel
theorem dX12_init_218 : decode cX12_init 218 = .ok (.iconst (-1), 1) := by decide +kernel
theorem dX12_init_219 : decode cX12_init 219 = .ok (.iastore, 1) := by decide +kernel
theorem dX12_init_220 : decode cX12_init 220 = .ok (.dup, 1) := by decide +kernel
theorem dX12_init_221 : decode cX12_init 221 = .ok (.bipush 39, 2) := by decide +kernel
theorem dX12_init_223 : decode cX12_init 223 = .ok (.iconst (-1), 1) := by decide +kernel
theorem dX12_init_224 : decode cX12_init 224 = .ok (.iastore, 1) := by decide +kernel
theorem dX12_init_225 : decode cX12_init 225 = .ok (.dup, 1) := by decide +kernel
theorem dX12_init_226 : decode cX12_init 226 = .ok (.bipush 40, 2) := by decide +kernel
theorem dX12_init_228 : decode cX12_init 228 = .ok (.iconst (-1), 1) := by decide +kernel
theorem dX12_init_229 : decode cX12_init 229 = .ok (.iastore, 1) := by decide +kernel
theorem dX12_init_230 : decode cX12_init 230 = .ok (.dup, 1) := by decide +kernel
theorem dX12_init_231 : decode cX12_init 231 = .ok (.bipush 41, 2) := by decide +kernel
theorem dX12_init_233 : decode cX12_init 233 = .ok (.iconst (-1), 1) := by decide +kernel
theorem dX12_init_234 : decode cX12_init 234 = .ok (.iastore, 1) := by decide +kernel
theorem dX12_init_235 : decode cX12_init 235 = .ok (.dup, 1) := by decide +kernel
theorem dX12_init_236 : decode cX12_init 236 = .ok (.bipush 42, 2) := by decide +kernel
theorem dX12_init_238 : decode cX12_init 238 = .ok (.iconst (-1), 1) := by decide +kernel
theorem dX12_init_239 : decode cX12_init 239 = .ok (.iastore, 1) := by decide +kernel
theorem dX12_init_240 : decode cX12_init 240 = .ok (.dup, 1) := by decide +kernel
theorem dX12_init_241 : decode cX12_init 241 = .ok (.bipush 43, 2) := by decide +kernel
theorem dX12_init_243 : decode cX12_init 243 = .ok (.iconst (-1), 1) := by decide +kernel
theorem dX12_init_244 : decode cX12_init 244 = .ok (.iastore, 1) := by decide +kernel
theorem dX12_init_245 : decode cX12_init 245 = .ok (.dup, 1) := by decide +kernel
theorem dX12_init_246 : decode cX12_init 246 = .ok (.bipush 44, 2) := by decide +kernel
theorem dX12_init_248 : decode cX12_init 248 = .ok (.iconst (-1), 1) := by decide +kernel
theorem dX12_init_249 : decode cX12_init 249 = .ok (.iastore, 1) := by decide +kernel
theorem dX12_init_250 : decode cX12_init 250 = .ok (.dup, 1) := by decide +kernel
theorem dX12_init_251 : decode cX12_init 251 = .ok (.bipush 45, 2) := by decide +kernel
theorem dX12_init_253 : decode cX12_init 253 = .ok (.iconst (-1), 1) := by decide +kernel
theorem dX12_init_254 : decode cX12_init 254 = .ok (.iastore, 1) := by decide +kernel
theorem dX12_init_255 : decode cX12_init 255 = .ok (.dup, 1) := by decide +kernel
theorem dX12_init_256 : decode cX12_init 256 = .ok (.bipush 46, 2) := by decide +kernel
theorem dX12_init_258 : decode cX12_init 258 = .ok (.iconst (-1), 1) := by decide +kernel
theorem dX12_init_259 : decode cX12_init 259 = .ok (.iastore, 1) := by decide +kernel
theorem dX12_init_260 : decode cX12_init 260 = .ok (.dup, 1) := by decide +kernel
theorem dX12_init_261 : decode cX12_init 261 = .ok (.bipush 47, 2) := by decide +kernel
theorem dX12_init_263 : decode cX12_init 263 = .ok (.iconst (-1), 1) := by decide +kernel
theorem dX12_init_264 : decode cX12_init 264 = .ok (.iastore, 1) := by decide +kernel
theorem dX12_init_265 : decode cX12_init 265 = .ok (.dup, 1) := by decide +kernel
theorem dX12_init_266 : decode cX12_init 266 = .ok (.bipush 48, 2) := by decide +kernel
theorem dX12_init_268 : decode cX12_init 268 = .ok (.iconst (-1), 1) := by decide +kernel
theorem dX12_init_269 : decode cX12_init 269 = .ok (.iastore, 1) := by decide +kernel
theorem dX12_init_270 : decode cX12_init 270 = .ok (.dup, 1) := by decide +kernel
theorem dX12_init_271 : decode cX12_init 271 = .ok (.bipush 49, 2) := by decide +kernel
theorem dX12_init_273 : decode cX12_init 273 = .ok (.iconst (-1), 1) := by decide +kernel
theorem dX12_init_274 : decode cX12_init 274 = .ok (.iastore, 1) := by decide +kernel
theorem dX12_init_275 : decode cX12_init 275 = .ok (.putfield 16, 3) := by decide +kernel
theorem dX12_init_278 : decode cX12_init 278 = .ok (.aload_n 0, 1) := by decide +kernel
theorem dX12_init_279 : decode cX12_init 279 = .ok (.bipush 50, 2) := by decide +kernel
theorem dX12_init_281 : decode cX12_init 281 = .ok (.newarray .int, 2) := by decide +kernel
theorem dX12_init_283 : decode cX12_init 283 = .ok (.putfield 19, 3) := by decide +kernel
theorem dX12_init_286 : decode cX12_init 286 = .ok (.aload_n 0, 1) := by decide +kernel
theorem dX12_init_287 : decode cX12_init 287 = .ok (.bipush 50, 2) := by decide +kernel
theorem dX12_init_289 : decode cX12_init 289 = .ok (.newarray .int, 2) := by decide +kernel
theorem dX12_init_291 : decode cX12_init 291 = .ok (.putfield 22, 3) := by decide +kernel
theorem dX12_init_294 : decode cX12_init 294 = .ok (.aload_n 0, 1) := by decide +kernel
theorem dX12_init_295 : decode cX12_init 295 = .ok (.sipush 160, 3) := by decide +kernel
theorem dX12_init_298 : decode cX12_init 298 = .ok (.newarray .int, 2) := by decide +kernel
theorem dX12_init_300 : decode cX12_init 300 = .ok (.putfield 25, 3) := by decide +kernel
theorem dX12_init_303 : decode cX12_init 303 = .ok (.aload_n 0, 1) := by decide +kernel
theorem dX12_init_304 : decode cX12_init 304 = .ok (.bipush 40, 2) := by decide +kernel
theorem dX12_init_306 : decode cX12_init 306 = .ok (.newarray .int, 2) := by decide +kernel
theorem dX12_init_308 : decode cX12_init 308 = .ok (.putfield 28, 3) := by decide +kernel
theorem dX12_init_311 : decode cX12_init 311 = .ok (.aload_n 0, 1) := by decide +kernel
theorem dX12_init_312 : decode cX12_init 312 = .ok (.bipush 40, 2) := by decide +kernel
theorem dX12_init_314 : decode cX12_init 314 = .ok (.newarray .int, 2) := by decide +kernel
theorem dX12_init_316 : decode cX12_init 316 = .ok (.putfield 31, 3) := by decide +kernel
theorem dX12_init_319 : decode cX12_init 319 = .ok (.aload_n 0, 1) := by decide +kernel
theorem dX12_init_320 : decode cX12_init 320 = .ok (.bipush 40, 2) := by decide +kernel
theorem dX12_init_322 : decode cX12_init 322 = .ok (.newarray .int, 2) := by decide +kernel
theorem dX12_init_324 : decode cX12_init 324 = .ok (.putfield 34, 3) := by decide +kernel
theorem dX12_init_327 : decode cX12_init 327 = .ok (.aload_n 0, 1) := by decide +kernel
theorem dX12_init_328 : decode cX12_init 328 = .ok (.bipush 40, 2) := by decide +kernel
theorem dX12_init_330 : decode cX12_init 330 = .ok (.newarray .int, 2) := by decide +kernel
theorem dX12_init_332 : decode cX12_init 332 = .ok (.putfield 37, 3) := by decide +kernel
theorem dX12_init_335 : decode cX12_init 335 = .ok (.aload_n 0, 1) := by decide +kernel
theorem dX12_init_336 : decode cX12_init 336 = .ok (.bipush 40, 2) := by decide +kernel
theorem dX12_init_338 : decode cX12_init 338 = .ok (.newarray .int, 2) := by decide +kernel
theorem dX12_init_340 : decode cX12_init 340 = .ok (.putfield 40, 3) := by decide +kernel
theorem dX12_init_343 : decode cX12_init 343 = .ok (.aload_n 0, 1) := by decide +kernel
theorem dX12_init_344 : decode cX12_init 344 = .ok (.bipush 24, 2) := by decide +kernel
theorem dX12_init_346 : decode cX12_init 346 = .ok (.newarray .int, 2) := by decide +kernel
