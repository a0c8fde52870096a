theorem dX12_slotOf_46 : decode cX12_slotOf 46 = .ok (.irem, 1) := by decide +kernel
theorem dX12_slotOf_47 : decode cX12_slotOf 47 = .ok (.istore_n 3, 1) := by decide +kernel
theorem dX12_slotOf_48 : decode cX12_slotOf 48 = .ok (.goto (-33), 3) := by decide +kernel
theorem dX12_slotOf_51 : decode cX12_slotOf 51 = .ok (.iload_n 3, 1) := by decide +kernel
theorem dX12_slotOf_52 : decode cX12_slotOf 52 = .ok (.ireturn, 1) := by decide +kernel
set_option maxRecDepth 20000 in
theorem ggX12_parted_X12_layBegins : GoodIn wsX12_parted wsX12_layBegins := goodIn_r _ [10, 11, 12, 13, 14, 5, 15, 16, 17, 9, 18, 19, 20, 21, 22, 23, 24, 25, 26, 27, 28, 29, 30, 31, 32, 33, 34, 35, 36, 37, 38, 39, 40, 41, 68, 69, 70, 71, 72, 73, 74, 75, 76, 77, 78, 79, 80, 81, 82, 83, 84, 85, 86, 87, 88, 89, 90, 91, 92, 93, 94, 95, 96, 97, 98, 99, 100, 101, 102, 103, 104, 105, 106, 107, 108, 109, 110] rfl (by decide +kernel)
set_option maxRecDepth 20000 in
theorem gX12_parted_X12_layBegins : GoodIn wsX12_parted (wsV RX12 275 RX12 yX12_layBegins wsX12_layBegins) := goodIn_app (goodIn_of _ (by decide +kernel)) ggX12_parted_X12_layBegins
set_option maxRecDepth 20000 in
theorem ggX12_parted_X12_slotOf : GoodIn wsX12_parted wsX12_slotOf := goodIn_r _ [45, 46, 47, 48, 1, 3, 68, 69, 70, 71, 72, 73, 74, 75, 76, 77, 78, 79, 80, 81, 82, 83, 84, 85, 86, 87, 88, 89, 90, 91, 92, 93, 94, 95, 96, 97, 98, 99, 100, 101, 102, 103, 104, 105, 106, 107, 108, 109, 110] rfl (by decide +kernel)
set_option maxRecDepth 20000 in
theorem gX12_parted_X12_slotOf : GoodIn wsX12_parted (wsV RX12 312 RX12 yX12_slotOf wsX12_slotOf) := goodIn_app (goodIn_of _ (by decide +kernel)) ggX12_parted_X12_slotOf
set_option maxRecDepth 20000 in
theorem ggX12_parted_X12_addKind : GoodIn wsX12_parted wsX12_addKind := goodIn_r _ [52, 3, 2, 53, 54, 68, 69, 70, 71, 72, 73, 74, 75, 76, 77, 78, 79, 80, 81, 82, 83, 84, 85, 86, 87, 88, 89, 90, 91, 92, 93, 94, 95, 96, 97, 98, 99, 100, 101, 102, 103, 104, 105, 106, 107, 108, 109, 110] rfl (by decide +kernel)
set_option maxRecDepth 20000 in
theorem gX12_parted_X12_addKind : GoodIn wsX12_parted (wsV RX12 241 RX12 yX12_addKind wsX12_addKind) := goodIn_app (goodIn_of _ (by decide +kernel)) ggX12_parted_X12_addKind
set_option maxRecDepth 20000 in
theorem ggX12_parted_X12_isTaken : GoodIn wsX12_parted wsX12_isTaken := goodIn_r _ [58, 11, 59, 60, 61, 9, 62, 20, 63, 29, 30, 31, 32, 22, 23, 24, 68, 69, 70, 71, 72, 73, 74, 75, 76, 77, 78, 79, 80, 81, 82, 83, 84, 85, 86, 87, 88, 89, 90, 91, 92, 93, 94, 95, 96, 97, 98, 99, 100, 101, 102, 103, 104, 105, 106, 107, 108, 109, 110] rfl (by decide +kernel)
set_option maxRecDepth 20000 in
theorem gX12_parted_X12_isTaken : GoodIn wsX12_parted (wsV RX12 280 RX12 yX12_isTaken wsX12_isTaken) := goodIn_app (goodIn_of _ (by decide +kernel)) ggX12_parted_X12_isTaken
set_option maxRecDepth 20000 in
theorem ggX12_parted_X12_wayTo : GoodIn wsX12_parted wsX12_wayTo := goodIn_r _ [67, 53, 54, 68, 69, 70, 71, 72, 73, 74, 75, 76, 77, 78, 79, 80, 81, 82, 83, 84, 85, 86, 87, 88, 89, 90, 91, 92, 93, 94, 95, 96, 97, 98, 99, 100, 101, 102, 103, 104, 105, 106, 107, 108, 109, 110] rfl (by decide +kernel)
set_option maxRecDepth 20000 in
theorem gX12_parted_X12_wayTo : GoodIn wsX12_parted (wsV RX12 248 RX12 yX12_wayTo wsX12_wayTo) := goodIn_app (goodIn_of _ (by decide +kernel)) ggX12_parted_X12_wayTo
theorem dX12_parted_0 : decode cX12_parted 0 = .ok (.iload_n 1, 1) := by decide +kernel
theorem dX12_parted_1 : decode cX12_parted 1 = .ok (.iconst (-1), 1) := by decide +kernel
theorem dX12_parted_2 : decode cX12_parted 2 = .ok (.if_icmp .ge 6, 3) := by decide +kernel
theorem dX12_parted_5 : decode cX12_parted 5 = .ok (.bipush (-3), 2) := by decide +kernel
theorem dX12_parted_7 : decode cX12_parted 7 = .ok (.ireturn, 1) := by decide +kernel
theorem dX12_parted_8 : decode cX12_parted 8 = .ok (.aload_n 0, 1) := by decide +kernel
theorem dX12_parted_9 : decode cX12_parted 9 = .ok (.iconst 0, 1) := by decide +kernel
theorem dX12_parted_10 : decode cX12_parted 10 = .ok (.invokevirtual 275, 3) := by decide +kernel
theorem dX12_parted_13 : decode cX12_parted 13 = .ok (.ifCond .eq 11, 3) := by decide +kernel
theorem dX12_parted_16 : decode cX12_parted 16 = .ok (.aload_n 0, 1) := by decide +kernel
theorem dX12_parted_17 : decode cX12_parted 17 = .ok (.iconst 1, 1) := by decide +kernel
theorem dX12_parted_18 : decode cX12_parted 18 = .ok (.invokevirtual 275, 3) := by decide +kernel
theorem dX12_parted_21 : decode cX12_parted 21 = .ok (.ifCond .ne 6, 3) := by decide +kernel
theorem dX12_parted_24 : decode cX12_parted 24 = .ok (.bipush (-6), 2) := by decide +kernel
theorem dX12_parted_26 : decode cX12_parted 26 = .ok (.ireturn, 1) := by decide +kernel
theorem dX12_parted_27 : decode cX12_parted 27 = .ok (.iconst 0, 1) := by decide +kernel
theorem dX12_parted_28 : decode cX12_parted 28 = .ok (.istore_n 2, 1) := by decide +kernel
theorem dX12_parted_29 : decode cX12_parted 29 = .ok (.iload_n 2, 1) := by decide +kernel
theorem dX12_parted_30 : decode cX12_parted 30 = .ok (.sipush 16384, 3) := by decide +kernel
theorem dX12_parted_33 : decode cX12_parted 33 = .ok (.if_icmp .ge 16, 3) := by decide +kernel
theorem dX12_parted_36 : decode cX12_parted 36 = .ok (.aload_n 0, 1) := by decide +kernel
theorem dX12_parted_37 : decode cX12_parted 37 = .ok (.getfield 96, 3) := by decide +kernel
theorem dX12_parted_40 : decode cX12_parted 40 = .ok (.iload_n 2, 1) := by decide +kernel
theorem dX12_parted_41 : decode cX12_parted 41 = .ok (.iconst (-1), 1) := by decide +kernel
theorem dX12_parted_42 : decode cX12_parted 42 = .ok (.iastore, 1) := by decide +kernel
theorem dX12_parted_43 : decode cX12_parted 43 = .ok (.iinc 2 1, 3) := by decide +kernel
theorem dX12_parted_46 : decode cX12_parted 46 = .ok (.goto (-17), 3) := by decide +kernel
theorem dX12_parted_49 : decode cX12_parted 49 = .ok (.aload_n 0, 1) := by decide +kernel
theorem dX12_parted_50 : decode cX12_parted 50 = .ok (.iconst 0, 1) := by decide +kernel
theorem dX12_parted_51 : decode cX12_parted 51 = .ok (.putfield 234, 3) := by decide +kernel
theorem dX12_parted_54 : decode cX12_parted 54 = .ok (.aload_n 0, 1) := by decide +kernel
theorem dX12_parted_55 : decode cX12_parted 55 = .ok (.getfield 96, 3) := by decide +kernel
theorem dX12_parted_58 : decode cX12_parted 58 = .ok (.aload_n 0, 1) := by decide +kernel
theorem dX12_parted_59 : decode cX12_parted 59 = .ok (.lconst 0, 1) := by decide +kernel
theorem dX12_parted_60 : decode cX12_parted 60 = .ok (.invokevirtual 312, 3) := by decide +kernel
theorem dX12_parted_63 : decode cX12_parted 63 = .ok (.iconst 0, 1) := by decide +kernel
theorem dX12_parted_64 : decode cX12_parted 64 = .ok (.iastore, 1) := by decide +kernel
theorem dX12_parted_65 : decode cX12_parted 65 = .ok (.aload_n 0, 1) := by decide +kernel
theorem dX12_parted_66 : decode cX12_parted 66 = .ok (.lconst 0, 1) := by decide +kernel
theorem dX12_parted_67 : decode cX12_parted 67 = .ok (.iconst (-1), 1) := by decide +kernel
theorem dX12_parted_68 : decode cX12_parted 68 = .ok (.iconst (-1), 1) := by decide +kernel
theorem dX12_parted_69 : decode cX12_parted 69 = .ok (.invokevirtual 241, 3) := by decide +kernel
theorem dX12_parted_72 : decode cX12_parted 72 = .ok (.iconst (-1), 1) := by decide +kernel
theorem dX12_parted_73 : decode cX12_parted 73 = .ok (.istore_n 2, 1) := by decide +kernel
theorem dX12_parted_74 : decode cX12_parted 74 = .ok (.iconst 0, 1) := by decide +kernel
theorem dX12_parted_75 : decode cX12_parted 75 = .ok (.istore_n 3, 1) := by decide +kernel
theorem dX12_parted_76 : decode cX12_parted 76 = .ok (.iload_n 3, 1) := by decide +kernel
theorem dX12_parted_77 : decode cX12_parted 77 = .ok (.aload_n 0, 1) := by decide +kernel
theorem dX12_parted_78 : decode cX12_parted 78 = .ok (.getfield 234, 3) := by decide +kernel
theorem dX12_parted_81 : decode cX12_parted 81 = .ok (.if_icmp .ge 166, 3) := by decide +kernel
theorem dX12_parted_84 : decode cX12_parted 84 = .ok (.aload_n 0, 1) := by decide +kernel
theorem dX12_parted_85 : decode cX12_parted 85 = .ok (.getfield 56, 3) := by decide +kernel
theorem dX12_parted_88 : decode cX12_parted 88 = .ok (.iload_n 3, 1) := by decide +kernel
theorem dX12_parted_89 : decode cX12_parted 89 = .ok (.laload, 1) := by decide +kernel
theorem dX12_parted_90 : decode cX12_parted 90 = .ok (.ldc2_w 315, 3) := by decide +kernel
theorem dX12_parted_93 : decode cX12_parted 93 = .ok (.ldiv, 1) := by decide +kernel
theorem dX12_parted_94 : decode cX12_parted 94 = .ok (.l2i, 1) := by decide +kernel
theorem dX12_parted_95 : decode cX12_parted 95 = .ok (.istore 4, 2) := by decide +kernel
theorem dX12_parted_97 : decode cX12_parted 97 = .ok (.aload_n 0, 1) := by decide +kernel
theorem dX12_parted_98 : decode cX12_parted 98 = .ok (.getfield 56, 3) := by decide +kernel
theorem dX12_parted_101 : decode cX12_parted 101 = .ok (.iload_n 3, 1) := by decide +kernel
theorem dX12_parted_102 : decode cX12_parted 102 = .ok (.laload, 1) := by decide +kernel
theorem dX12_parted_103 : decode cX12_parted 103 = .ok (.ldc2_w 315, 3) := by decide +kernel
theorem dX12_parted_106 : decode cX12_parted 106 = .ok (.lrem, 1) := by decide +kernel
theorem dX12_parted_107 : decode cX12_parted 107 = .ok (.l2i, 1) := by decide +kernel
theorem dX12_parted_108 : decode cX12_parted 108 = .ok (.istore 5, 2) := by decide +kernel
theorem dX12_parted_110 : decode cX12_parted 110 = .ok (.iload_n 2, 1) := by decide +kernel
theorem dX12_parted_111 : decode cX12_parted 111 = .ok (.iconst (-1), 1) := by decide +kernel
theorem dX12_parted_112 : decode cX12_parted 112 = .ok (.if_icmp .ne 24, 3) := by decide +kernel
theorem dX12_parted_115 : decode cX12_parted 115 = .ok (.aload_n 0, 1) := by decide +kernel
theorem dX12_parted_116 : decode cX12_parted 116 = .ok (.iconst 0, 1) := by decide +kernel
theorem dX12_parted_117 : decode cX12_parted 117 = .ok (.iload 4, 2) := by decide +kernel
theorem dX12_parted_119 : decode cX12_parted 119 = .ok (.invokevirtual 280, 3) := by decide +kernel
theorem dX12_parted_122 : decode cX12_parted 122 = .ok (.aload_n 0, 1) := by decide +kernel
theorem dX12_parted_123 : decode cX12_parted 123 = .ok (.iconst 1, 1) := by decide +kernel
theorem dX12_parted_124 : decode cX12_parted 124 = .ok (.iload 5, 2) := by decide +kernel
theorem dX12_parted_126 : decode cX12_parted 126 = .ok (.invokevirtual 280, 3) := by decide +kernel
theorem dX12_parted_129 : decode cX12_parted 129 = .ok (.if_icmp .eq 7, 3) := by decide +kernel
theorem dX12_parted_132 : decode cX12_parted 132 = .ok (.iload_n 3, 1) := by decide +kernel
theorem dX12_parted_133 : decode cX12_parted 133 = .ok (.goto 4, 3) := by decide +kernel
theorem dX12_parted_136 : decode cX12_parted 136 = .ok (.iload_n 2, 1) := by decide +kernel
theorem dX12_parted_137 : decode cX12_parted 137 = .ok (.istore_n 2, 1) := by decide +kernel
theorem dX12_parted_138 : decode cX12_parted 138 = .ok (.iconst 0, 1) := by decide +kernel
theorem dX12_parted_139 : decode cX12_parted 139 = .ok (.istore 6, 2) := by decide +kernel
theorem dX12_parted_141 : decode cX12_parted 141 = .ok (.iload 6, 2) := by decide +kernel
theorem dX12_parted_143 : decode cX12_parted 143 = .ok (.iconst 3, 1) := by decide +kernel
theorem dX12_parted_144 : decode cX12_parted 144 = .ok (.if_icmp .ge 97, 3) := by decide +kernel
theorem dX12_parted_147 : decode cX12_parted 147 = .ok (.ldc2_w 315, 3) := by decide +kernel
theorem dX12_parted_150 : decode cX12_parted 150 = .ok (.aload_n 0, 1) := by decide +kernel
theorem dX12_parted_151 : decode cX12_parted 151 = .ok (.getfield 69, 3) := by decide +kernel
theorem dX12_parted_154 : decode cX12_parted 154 = .ok (.iconst 3, 1) := by decide +kernel
theorem dX12_parted_155 : decode cX12_parted 155 = .ok (.iload 4, 2) := by decide +kernel
theorem dX12_parted_157 : decode cX12_parted 157 = .ok (.imul, 1) := by decide +kernel
theorem dX12_parted_158 : decode cX12_parted 158 = .ok (.iload 6, 2) := by decide +kernel
theorem dX12_parted_160 : decode cX12_parted 160 = .ok (.iadd, 1) := by decide +kernel
theorem dX12_parted_161 : decode cX12_parted 161 = .ok (.iaload, 1) := by decide +kernel
theorem dX12_parted_162 : decode cX12_parted 162 = .ok (.i2l, 1) := by decide +kernel
theorem dX12_parted_163 : decode cX12_parted 163 = .ok (.lmul, 1) := by decide +kernel
theorem dX12_parted_164 : decode cX12_parted 164 = .ok (.aload_n 0, 1) := by decide +kernel
theorem dX12_parted_165 : decode cX12_parted 165 = .ok (.getfield 69, 3) := by decide +kernel
theorem dX12_parted_168 : decode cX12_parted 168 = .ok (.sipush 2403, 3) := by decide +kernel
theorem dX12_parted_171 : decode cX12_parted 171 = .ok (.iconst 3, 1) := by decide +kernel
theorem dX12_parted_172 : decode cX12_parted 172 = .ok (.iload 5, 2) := by decide +kernel
theorem dX12_parted_174 : decode cX12_parted 174 = .ok (.imul, 1) := by decide +kernel
theorem dX12_parted_175 : decode cX12_parted 175 = .ok (.iadd, 1) := by decide +kernel
theorem dX12_parted_176 : decode cX12_parted 176 = .ok (.iload 6, 2) := by decide +kernel
theorem dX12_parted_178 : decode cX12_parted 178 = .ok (.iadd, 1) := by decide +kernel
theorem dX12_parted_179 : decode cX12_parted 179 = .ok (.iaload, 1) := by decide +kernel
theorem dX12_parted_180 : decode cX12_parted 180 = .ok (.i2l, 1) := by decide +kernel
theorem dX12_parted_181 : decode cX12_parted 181 = .ok (.ladd, 1) := by decide +kernel
theorem dX12_parted_182 : decode cX12_parted 182 = .ok (.lstore 7, 2) := by decide +kernel
theorem dX12_parted_184 : decode cX12_parted 184 = .ok (.aload_n 0, 1) := by decide +kernel
theorem dX12_parted_185 : decode cX12_parted 185 = .ok (.lload 7, 2) := by decide +kernel
theorem dX12_parted_187 : decode cX12_parted 187 = .ok (.invokevirtual 312, 3) := by decide +kernel
theorem dX12_parted_190 : decode cX12_parted 190 = .ok (.istore 9, 2) := by decide +kernel
theorem dX12_parted_192 : decode cX12_parted 192 = .ok (.aload_n 0, 1) := by decide +kernel
theorem dX12_parted_193 : decode cX12_parted 193 = .ok (.getfield 96, 3) := by decide +kernel
theorem dX12_parted_196 : decode cX12_parted 196 = .ok (.iload 9, 2) := by decide +kernel
theorem dX12_parted_198 : decode cX12_parted 198 = .ok (.iaload, 1) := by decide +kernel
theorem dX12_parted_199 : decode cX12_parted 199 = .ok (.ifCond .ge 36, 3) := by decide +kernel
theorem dX12_parted_202 : decode cX12_parted 202 = .ok (.aload_n 0, 1) := by decide +kernel
theorem dX12_parted_203 : decode cX12_parted 203 = .ok (.getfield 234, 3) := by decide +kernel
theorem dX12_parted_206 : decode cX12_parted 206 = .ok (.sipush 4000, 3) := by decide +kernel
theorem dX12_parted_209 : decode cX12_parted 209 = .ok (.if_icmp .ne 6, 3) := by decide +kernel
theorem dX12_parted_212 : decode cX12_parted 212 = .ok (.bipush (-6), 2) := by decide +kernel
theorem dX12_parted_214 : decode cX12_parted 214 = .ok (.ireturn, 1) := by decide +kernel
theorem dX12_parted_215 : decode cX12_parted 215 = .ok (.aload_n 0, 1) := by decide +kernel
theorem dX12_parted_216 : decode cX12_parted 216 = .ok (.getfield 96, 3) := by decide +kernel
theorem dX12_parted_219 : decode cX12_parted 219 = .ok (.iload 9, 2) := by decide +kernel
theorem dX12_parted_221 : decode cX12_parted 221 = .ok (.aload_n 0, 1) := by decide +kernel
theorem dX12_parted_222 : decode cX12_parted 222 = .ok (.getfield 234, 3) := by decide +kernel
theorem dX12_parted_225 : decode cX12_parted 225 = .ok (.iastore, 1) := by decide +kernel
theorem dX12_parted_226 : decode cX12_parted 226 = .ok (.aload_n 0, 1) := by decide +kernel
theorem dX12_parted_227 : decode cX12_parted 227 = .ok (.lload 7, 2) := by decide +kernel
theorem dX12_parted_229 : decode cX12_parted 229 = .ok (.iload_n 3, 1) := by decide +kernel
theorem dX12_parted_230 : decode cX12_parted 230 = .ok (.iload 6, 2) := by decide +kernel
theorem dX12_parted_232 : decode cX12_parted 232 = .ok (.invokevirtual 241, 3) := by decide +kernel
theorem dX12_parted_235 : decode cX12_parted 235 = .ok (.iinc 6 1, 3) := by decide +kernel
theorem dX12_parted_238 : decode cX12_parted 238 = .ok (.goto (-97), 3) := by decide +kernel
theorem dX12_parted_241 : decode cX12_parted 241 = .ok (.iinc 3 1, 3) := by decide +kernel
theorem dX12_parted_244 : decode cX12_parted 244 = .ok (.goto (-168), 3) := by decide +kernel
theorem dX12_parted_247 : decode cX12_parted 247 = .ok (.iload_n 2, 1) := by decide +kernel
theorem dX12_parted_248 : decode cX12_parted 248 = .ok (.iconst (-1), 1) := by decide +kernel
theorem dX12_parted_249 : decode cX12_parted 249 = .ok (.if_icmp .ne 7, 3) := by decide +kernel
theorem dX12_parted_252 : decode cX12_parted 252 = .ok (.iconst (-1), 1) := by decide +kernel
theorem dX12_parted_253 : decode cX12_parted 253 = .ok (.goto 10, 3) := by decide +kernel
theorem dX12_parted_256 : decode cX12_parted 256 = .ok (.aload_n 0, 1) := by decide +kernel
theorem dX12_parted_257 : decode cX12_parted 257 = .ok (.iload_n 2, 1) := by decide +kernel
theorem dX12_parted_258 : decode cX12_parted 258 = .ok (.iload_n 1, 1) := by decide +kernel
theorem dX12_parted_259 : decode cX12_parted 259 = .ok (.iconst 0, 1) := by decide +kernel
theorem dX12_parted_260 : decode cX12_parted 260 = .ok (.invokevirtual 248, 3) := by decide +kernel
theorem dX12_parted_263 : decode cX12_parted 263 = .ok (.ireturn, 1) := by decide +kernel
set_option maxRecDepth 20000 in
theorem ggX12_sayOtherwise_X12_go : GoodIn wsX12_sayOtherwise wsX12_go := goodIn_r _ [9, 10, 1, 11, 12, 13, 2, 14, 15, 16, 17, 18, 4, 19, 20, 21, 8, 22, 23, 24, 25, 26, 27, 28, 29, 30, 31, 32, 33, 34, 35, 36, 37, 38, 39, 40, 41, 42, 43, 44, 45, 46, 47, 48, 49, 50, 51, 52, 53, 54, 55, 56, 57, 58, 59, 60, 61, 62, 63, 64, 65] rfl (by decide +kernel)
set_option maxRecDepth 20000 in
theorem gX12_sayOtherwise_X12_go : GoodIn wsX12_sayOtherwise (wsV RX12 203 RX12 yX12_go wsX12_go) := goodIn_app (goodIn_of _ (by decide +kernel)) ggX12_sayOtherwise_X12_go
theorem dX12_sayOtherwise_0 : decode cX12_sayOtherwise 0 = .ok (.aload_n 0, 1) := by decide +kernel
theorem dX12_sayOtherwise_1 : decode cX12_sayOtherwise 1 = .ok (.iconst 0, 1) := by decide +kernel
theorem dX12_sayOtherwise_2 : decode cX12_sayOtherwise 2 = .ok (.invokevirtual 203, 3) := by decide +kernel
theorem dX12_sayOtherwise_5 : decode cX12_sayOtherwise 5 = .ok (.aload_n 0, 1) := by decide +kernel
theorem dX12_sayOtherwise_6 : decode cX12_sayOtherwise 6 = .ok (.getfield 185, 3) := by decide +kernel
theorem dX12_sayOtherwise_9 : decode cX12_sayOtherwise 9 = .ok (.iconst 1, 1) := by decide +kernel
theorem dX12_sayOtherwise_10 : decode cX12_sayOtherwise 10 = .ok (.if_icmp .eq 5, 3) := by decide +kernel
theorem dX12_sayOtherwise_13 : decode cX12_sayOtherwise 13 = .ok (.iconst 0, 1) := by decide +kernel
theorem dX12_sayOtherwise_14 : decode cX12_sayOtherwise 14 = .ok (.ireturn, 1) := by decide +kernel
theorem dX12_sayOtherwise_15 : decode cX12_sayOtherwise 15 = .ok (.aload_n 0, 1) := by decide +kernel
theorem dX12_sayOtherwise_16 : decode cX12_sayOtherwise 16 = .ok (.getfield 197, 3) := by decide +kernel
theorem dX12_sayOtherwise_19 : decode cX12_sayOtherwise 19 = .ok (.istore_n 1, 1) := by decide +kernel
theorem dX12_sayOtherwise_20 : decode cX12_sayOtherwise 20 = .ok (.iconst 0, 1) := by decide +kernel
theorem dX12_sayOtherwise_21 : decode cX12_sayOtherwise 21 = .ok (.istore_n 2, 1) := by decide +kernel
theorem dX12_sayOtherwise_22 : decode cX12_sayOtherwise 22 = .ok (.iload_n 2, 1) := by decide +kernel
theorem dX12_sayOtherwise_23 : decode cX12_sayOtherwise 23 = .ok (.iload_n 1, 1) := by decide +kernel
theorem dX12_sayOtherwise_24 : decode cX12_sayOtherwise 24 = .ok (.if_icmp .ge 21, 3) := by decide +kernel
theorem dX12_sayOtherwise_27 : decode cX12_sayOtherwise 27 = .ok (.aload_n 0, 1) := by decide +kernel
theorem dX12_sayOtherwise_28 : decode cX12_sayOtherwise 28 = .ok (.getfield 99, 3) := by decide +kernel
theorem dX12_sayOtherwise_31 : decode cX12_sayOtherwise 31 = .ok (.iload_n 2, 1) := by decide +kernel
theorem dX12_sayOtherwise_32 : decode cX12_sayOtherwise 32 = .ok (.aload_n 0, 1) := by decide +kernel
theorem dX12_sayOtherwise_33 : decode cX12_sayOtherwise 33 = .ok (.getfield 53, 3) := by decide +kernel
theorem dX12_sayOtherwise_36 : decode cX12_sayOtherwise 36 = .ok (.iload_n 2, 1) := by decide +kernel
theorem dX12_sayOtherwise_37 : decode cX12_sayOtherwise 37 = .ok (.iaload, 1) := by decide +kernel
theorem dX12_sayOtherwise_38 : decode cX12_sayOtherwise 38 = .ok (.iastore, 1) := by decide +kernel
theorem dX12_sayOtherwise_39 : decode cX12_sayOtherwise 39 = .ok (.iinc 2 1, 3) := by decide +kernel
theorem dX12_sayOtherwise_42 : decode cX12_sayOtherwise 42 = .ok (.goto (-20), 3) := by decide +kernel
theorem dX12_sayOtherwise_45 : decode cX12_sayOtherwise 45 = .ok (.aload_n 0, 1) := by decide +kernel
theorem dX12_sayOtherwise_46 : decode cX12_sayOtherwise 46 = .ok (.iconst 1, 1) := by decide +kernel
theorem dX12_sayOtherwise_47 : decode cX12_sayOtherwise 47 = .ok (.invokevirtual 203, 3) := by decide +kernel
theorem dX12_sayOtherwise_50 : decode cX12_sayOtherwise 50 = .ok (.aload_n 0, 1) := by decide +kernel
theorem dX12_sayOtherwise_51 : decode cX12_sayOtherwise 51 = .ok (.getfield 185, 3) := by decide +kernel
theorem dX12_sayOtherwise_54 : decode cX12_sayOtherwise 54 = .ok (.iconst 1, 1) := by decide +kernel
theorem dX12_sayOtherwise_55 : decode cX12_sayOtherwise 55 = .ok (.if_icmp .eq 5, 3) := by decide +kernel
theorem dX12_sayOtherwise_58 : decode cX12_sayOtherwise 58 = .ok (.iconst 0, 1) := by decide +kernel
theorem dX12_sayOtherwise_59 : decode cX12_sayOtherwise 59 = .ok (.ireturn, 1) := by decide +kernel
theorem dX12_sayOtherwise_60 : decode cX12_sayOtherwise 60 = .ok (.iload_n 1, 1) := by decide +kernel
theorem dX12_sayOtherwise_61 : decode cX12_sayOtherwise 61 = .ok (.aload_n 0, 1) := by decide +kernel
theorem dX12_sayOtherwise_62 : decode cX12_sayOtherwise 62 = .ok (.getfield 197, 3) := by decide +kernel
theorem dX12_sayOtherwise_65 : decode cX12_sayOtherwise 65 = .ok (.if_icmp .eq 7, 3) := by decide +kernel
theorem dX12_sayOtherwise_68 : decode cX12_sayOtherwise 68 = .ok (.iconst 1, 1) := by decide +kernel
theorem dX12_sayOtherwise_69 : decode cX12_sayOtherwise 69 = .ok (.goto 4, 3) := by decide +kernel
theorem dX12_sayOtherwise_72 : decode cX12_sayOtherwise 72 = .ok (.iconst 0, 1) := by decide +kernel
theorem dX12_sayOtherwise_73 : decode cX12_sayOtherwise 73 = .ok (.istore_n 2, 1) := by decide +kernel
theorem dX12_sayOtherwise_74 : decode cX12_sayOtherwise 74 = .ok (.iconst 0, 1) := by decide +kernel
theorem dX12_sayOtherwise_75 : decode cX12_sayOtherwise 75 = .ok (.istore_n 3, 1) := by decide +kernel
theorem dX12_sayOtherwise_76 : decode cX12_sayOtherwise 76 = .ok (.iload_n 3, 1) := by decide +kernel
theorem dX12_sayOtherwise_77 : decode cX12_sayOtherwise 77 = .ok (.iload_n 1, 1) := by decide +kernel
theorem dX12_sayOtherwise_78 : decode cX12_sayOtherwise 78 = .ok (.if_icmp .ge 34, 3) := by decide +kernel
theorem dX12_sayOtherwise_81 : decode cX12_sayOtherwise 81 = .ok (.iload_n 2, 1) := by decide +kernel
theorem dX12_sayOtherwise_82 : decode cX12_sayOtherwise 82 = .ok (.ifCond .ne 30, 3) := by decide +kernel
theorem dX12_sayOtherwise_85 : decode cX12_sayOtherwise 85 = .ok (.aload_n 0, 1) := by decide +kernel
theorem dX12_sayOtherwise_86 : decode cX12_sayOtherwise 86 = .ok (.getfield 99, 3) := by decide +kernel
theorem dX12_sayOtherwise_89 : decode cX12_sayOtherwise 89 = .ok (.iload_n 3, 1) := by decide +kernel
theorem dX12_sayOtherwise_90 : decode cX12_sayOtherwise 90 = .ok (.iaload, 1) := by decide +kernel
theorem dX12_sayOtherwise_91 : decode cX12_sayOtherwise 91 = .ok (.aload_n 0, 1) := by decide +kernel
theorem dX12_sayOtherwise_92 : decode cX12_sayOtherwise 92 = .ok (.getfield 53, 3) := by decide +kernel
theorem dX12_sayOtherwise_95 : decode cX12_sayOtherwise 95 = .ok (.iload_n 3, 1) := by decide +kernel
theorem dX12_sayOtherwise_96 : decode cX12_sayOtherwise 96 = .ok (.iaload, 1) := by decide +kernel
theorem dX12_sayOtherwise_97 : decode cX12_sayOtherwise 97 = .ok (.if_icmp .eq 7, 3) := by decide +kernel
theorem dX12_sayOtherwise_100 : decode cX12_sayOtherwise 100 = .ok (.iconst 1, 1) := by decide +kernel
theorem dX12_sayOtherwise_101 : decode cX12_sayOtherwise 101 = .ok (.goto 4, 3) := by decide +kernel
theorem dX12_sayOtherwise_104 : decode cX12_sayOtherwise 104 = .ok (.iconst 0, 1) := by decide +kernel
theorem dX12_sayOtherwise_105 : decode cX12_sayOtherwise 105 = .ok (.istore_n 2, 1) := by decide +kernel
theorem dX12_sayOtherwise_106 : decode cX12_sayOtherwise 106 = .ok (.iinc 3 1, 3) := by decide +kernel
theorem dX12_sayOtherwise_109 : decode cX12_sayOtherwise 109 = .ok (.goto (-33), 3) := by decide +kernel
theorem dX12_sayOtherwise_112 : decode cX12_sayOtherwise 112 = .ok (.iload_n 2, 1) := by decide +kernel
theorem dX12_sayOtherwise_113 : decode cX12_sayOtherwise 113 = .ok (.ireturn, 1) := by decide +kernel
theorem dX12_layGround_0 : decode cX12_layGround 0 = .ok (.iload_n 1, 1) := by decide +kernel
theorem dX12_layGround_1 : decode cX12_layGround 1 = .ok (.istore_n 3, 1) := by decide +kernel
theorem dX12_layGround_2 : decode cX12_layGround 2 = .ok (.iload_n 2, 1) := by decide +kernel
theorem dX12_layGround_3 : decode cX12_layGround 3 = .ok (.iconst 1, 1) := by decide +kernel
theorem dX12_layGround_4 : decode cX12_layGround 4 = .ok (.isub, 1) := by decide +kernel
theorem dX12_layGround_5 : decode cX12_layGround 5 = .ok (.istore 4, 2) := by decide +kernel
theorem dX12_layGround_7 : decode cX12_layGround 7 = .ok (.iload 4, 2) := by decide +kernel
theorem dX12_layGround_9 : decode cX12_layGround 9 = .ok (.ifCond .lt 23, 3) := by decide +kernel
theorem dX12_layGround_12 : decode cX12_layGround 12 = .ok (.aload_n 0, 1) := by decide +kernel
theorem dX12_layGround_13 : decode cX12_layGround 13 = .ok (.getfield 46, 3) := by decide +kernel
theorem dX12_layGround_16 : decode cX12_layGround 16 = .ok (.iload 4, 2) := by decide +kernel
theorem dX12_layGround_18 : decode cX12_layGround 18 = .ok (.iload_n 3, 1) := by decide +kernel
theorem dX12_layGround_19 : decode cX12_layGround 19 = .ok (.iconst 3, 1) := by decide +kernel
theorem dX12_layGround_20 : decode cX12_layGround 20 = .ok (.irem, 1) := by decide +kernel
theorem dX12_layGround_21 : decode cX12_layGround 21 = .ok (.iastore, 1) := by decide +kernel
theorem dX12_layGround_22 : decode cX12_layGround 22 = .ok (.iload_n 3, 1) := by decide +kernel
theorem dX12_layGround_23 : decode cX12_layGround 23 = .ok (.iconst 3, 1) := by decide +kernel
theorem dX12_layGround_24 : decode cX12_layGround 24 = .ok (.idiv, 1) := by decide +kernel
theorem dX12_layGround_25 : decode cX12_layGround 25 = .ok (.istore_n 3, 1) := by decide +kernel
theorem dX12_layGround_26 : decode cX12_layGround 26 = .ok (.iinc 4 (-1), 3) := by decide +kernel
theorem dX12_layGround_29 : decode cX12_layGround 29 = .ok (.goto (-22), 3) := by decide +kernel
theorem dX12_layGround_32 : decode cX12_layGround 32 = .ok (.aload_n 0, 1) := by decide +kernel
theorem dX12_layGround_33 : decode cX12_layGround 33 = .ok (.iload_n 2, 1) := by decide +kernel
theorem dX12_layGround_34 : decode cX12_layGround 34 = .ok (.putfield 200, 3) := by decide +kernel
theorem dX12_layGround_37 : decode cX12_layGround 37 = .ok (.return_, 1) := by decide +kernel
theorem dX12_rowsOf_0 : decode cX12_rowsOf 0 = .ok (.iconst 1, 1) := by decide +kernel
theorem dX12_rowsOf_1 : decode cX12_rowsOf 1 = .ok (.istore_n 1, 1) := by decide +kernel
theorem dX12_rowsOf_2 : decode cX12_rowsOf 2 = .ok (.iconst 0, 1) := by decide +kernel
theorem dX12_rowsOf_3 : decode cX12_rowsOf 3 = .ok (.istore_n 2, 1) := by decide +kernel
theorem dX12_rowsOf_4 : decode cX12_rowsOf 4 = .ok (.iload_n 2, 1) := by decide +kernel
theorem dX12_rowsOf_5 : decode cX12_rowsOf 5 = .ok (.iload_n 0, 1) := by decide +kernel
theorem dX12_rowsOf_6 : decode cX12_rowsOf 6 = .ok (.if_icmp .ge 13, 3) := by decide +kernel
theorem dX12_rowsOf_9 : decode cX12_rowsOf 9 = .ok (.iload_n 1, 1) := by decide +kernel
theorem dX12_rowsOf_10 : decode cX12_rowsOf 10 = .ok (.iconst 3, 1) := by decide +kernel
theorem dX12_rowsOf_11 : decode cX12_rowsOf 11 = .ok (.imul, 1) := by decide +kernel
theorem dX12_rowsOf_12 : decode cX12_rowsOf 12 = .ok (.istore_n 1, 1) := by decide +kernel
theorem dX12_rowsOf_13 : decode cX12_rowsOf 13 = .ok (.iinc 2 1, 3) := by decide +kernel
theorem dX12_rowsOf_16 : decode cX12_rowsOf 16 = .ok (.goto (-12), 3) := by decide +kernel
theorem dX12_rowsOf_19 : decode cX12_rowsOf 19 = .ok (.iload_n 1, 1) := by decide +kernel
theorem dX12_rowsOf_20 : decode cX12_rowsOf 20 = .ok (.ireturn, 1) := by decide +kernel
set_option maxRecDepth 20000 in
theorem ggX12_otherwise_X12_in : GoodIn wsX12_otherwise wsX12_in := goodIn_r _ [6] rfl (by decide +kernel)
set_option maxRecDepth 20000 in
theorem gX12_otherwise_X12_in : GoodIn wsX12_otherwise (va_wsS RX12 102 yX12_in wsX12_in) := goodIn_app (goodIn_of _ (by decide +kernel)) ggX12_otherwise_X12_in
set_option maxRecDepth 20000 in
theorem ggX12_otherwise_X12_rowsOf : GoodIn wsX12_otherwise wsX12_rowsOf := goodIn_r _ [9] rfl (by decide +kernel)
set_option maxRecDepth 20000 in
theorem gX12_otherwise_X12_rowsOf : GoodIn wsX12_otherwise (va_wsS RX12 319 yX12_rowsOf wsX12_rowsOf) := goodIn_app (goodIn_of _ (by decide +kernel)) ggX12_otherwise_X12_rowsOf
set_option maxRecDepth 20000 in
theorem ggX12_otherwise_X12_layGround : GoodIn wsX12_otherwise wsX12_layGround := goodIn_r _ [13, 2, 14, 38, 39, 40, 41, 42, 43, 44, 45, 46, 47, 48, 49, 50, 51, 52, 53, 54, 55, 56, 57, 58, 59, 60, 61, 62, 63, 64, 65, 66, 67, 68, 69, 70, 71, 72, 73, 74, 75, 76, 77, 78, 79, 80] rfl (by decide +kernel)
set_option maxRecDepth 20000 in
theorem gX12_otherwise_X12_layGround : GoodIn wsX12_otherwise (wsV RX12 322 RX12 yX12_layGround wsX12_layGround) := goodIn_app (goodIn_of _ (by decide +kernel)) ggX12_otherwise_X12_layGround
set_option maxRecDepth 20000 in
theorem ggX12_otherwise_X12_sayOtherwise : GoodIn wsX12_otherwise wsX12_sayOtherwise := goodIn_r _ [18, 19, 20, 21, 22, 23, 24, 25, 5, 26, 27, 28, 29, 30, 14, 2, 31, 32, 33, 34, 35, 36, 37, 38, 39, 40, 41, 42, 43, 44, 45, 46, 47, 48, 49, 50, 51, 52, 53, 54, 55, 56, 57, 58, 59, 60, 61, 62, 63, 64, 65, 66, 67, 68, 69, 70, 71, 72, 73, 74, 75, 76, 77, 78, 79, 80] rfl (by decide +kernel)
set_option maxRecDepth 20000 in
theorem gX12_otherwise_X12_sayOtherwise : GoodIn wsX12_otherwise (wsV RX12 325 RX12 yX12_sayOtherwise wsX12_sayOtherwise) := goodIn_app (goodIn_of _ (by decide +kernel)) ggX12_otherwise_X12_sayOtherwise
theorem dX12_otherwise_0 : decode cX12_otherwise 0 = .ok (.iload_n 1, 1) := by decide +kernel
theorem dX12_otherwise_1 : decode cX12_otherwise 1 = .ok (.i2l, 1) := by decide +kernel
theorem dX12_otherwise_2 : decode cX12_otherwise 2 = .ok (.lconst 0, 1) := by decide +kernel
theorem dX12_otherwise_3 : decode cX12_otherwise 3 = .ok (.ldc2_w 317, 3) := by decide +kernel
theorem dX12_otherwise_6 : decode cX12_otherwise 6 = .ok (.invokestatic 102, 3) := by decide +kernel
theorem dX12_otherwise_9 : decode cX12_otherwise 9 = .ok (.ifCond .eq 8, 3) := by decide +kernel
theorem dX12_otherwise_12 : decode cX12_otherwise 12 = .ok (.iload_n 2, 1) := by decide +kernel
theorem dX12_otherwise_13 : decode cX12_otherwise 13 = .ok (.iconst (-1), 1) := by decide +kernel
theorem dX12_otherwise_14 : decode cX12_otherwise 14 = .ok (.if_icmp .ge 6, 3) := by decide +kernel
theorem dX12_otherwise_17 : decode cX12_otherwise 17 = .ok (.bipush (-3), 2) := by decide +kernel
theorem dX12_otherwise_19 : decode cX12_otherwise 19 = .ok (.ireturn, 1) := by decide +kernel
theorem dX12_otherwise_20 : decode cX12_otherwise 20 = .ok (.iconst 0, 1) := by decide +kernel
theorem dX12_otherwise_21 : decode cX12_otherwise 21 = .ok (.istore_n 3, 1) := by decide +kernel
theorem dX12_otherwise_22 : decode cX12_otherwise 22 = .ok (.iload_n 3, 1) := by decide +kernel
theorem dX12_otherwise_23 : decode cX12_otherwise 23 = .ok (.iload_n 1, 1) := by decide +kernel
theorem dX12_otherwise_24 : decode cX12_otherwise 24 = .ok (.if_icmp .gt 66, 3) := by decide +kernel
theorem dX12_otherwise_27 : decode cX12_otherwise 27 = .ok (.iconst 0, 1) := by decide +kernel
theorem dX12_otherwise_28 : decode cX12_otherwise 28 = .ok (.istore 4, 2) := by decide +kernel
theorem dX12_otherwise_30 : decode cX12_otherwise 30 = .ok (.iload 4, 2) := by decide +kernel
theorem dX12_otherwise_32 : decode cX12_otherwise 32 = .ok (.iload_n 3, 1) := by decide +kernel
theorem dX12_otherwise_33 : decode cX12_otherwise 33 = .ok (.invokestatic 319, 3) := by decide +kernel
theorem dX12_otherwise_36 : decode cX12_otherwise 36 = .ok (.if_icmp .ge 48, 3) := by decide +kernel
theorem dX12_otherwise_39 : decode cX12_otherwise 39 = .ok (.aload_n 0, 1) := by decide +kernel
theorem dX12_otherwise_40 : decode cX12_otherwise 40 = .ok (.iload 4, 2) := by decide +kernel
theorem dX12_otherwise_42 : decode cX12_otherwise 42 = .ok (.iload_n 3, 1) := by decide +kernel
theorem dX12_otherwise_43 : decode cX12_otherwise 43 = .ok (.invokevirtual 322, 3) := by decide +kernel
theorem dX12_otherwise_46 : decode cX12_otherwise 46 = .ok (.aload_n 0, 1) := by decide +kernel
theorem dX12_otherwise_47 : decode cX12_otherwise 47 = .ok (.invokevirtual 325, 3) := by decide +kernel
theorem dX12_otherwise_50 : decode cX12_otherwise 50 = .ok (.ifCond .eq 28, 3) := by decide +kernel
theorem dX12_otherwise_53 : decode cX12_otherwise 53 = .ok (.iload_n 2, 1) := by decide +kernel
theorem dX12_otherwise_54 : decode cX12_otherwise 54 = .ok (.iconst (-1), 1) := by decide +kernel
theorem dX12_otherwise_55 : decode cX12_otherwise 55 = .ok (.if_icmp .ne 7, 3) := by decide +kernel
theorem dX12_otherwise_58 : decode cX12_otherwise 58 = .ok (.iload_n 3, 1) := by decide +kernel
theorem dX12_otherwise_59 : decode cX12_otherwise 59 = .ok (.goto 18, 3) := by decide +kernel
theorem dX12_otherwise_62 : decode cX12_otherwise 62 = .ok (.iload_n 2, 1) := by decide +kernel
theorem dX12_otherwise_63 : decode cX12_otherwise 63 = .ok (.iload_n 3, 1) := by decide +kernel
theorem dX12_otherwise_64 : decode cX12_otherwise 64 = .ok (.if_icmp .ge 12, 3) := by decide +kernel
theorem dX12_otherwise_67 : decode cX12_otherwise 67 = .ok (.aload_n 0, 1) := by decide +kernel
theorem dX12_otherwise_68 : decode cX12_otherwise 68 = .ok (.getfield 46, 3) := by decide +kernel
theorem dX12_otherwise_71 : decode cX12_otherwise 71 = .ok (.iload_n 2, 1) := by decide +kernel
theorem dX12_otherwise_72 : decode cX12_otherwise 72 = .ok (.iaload, 1) := by decide +kernel
theorem dX12_otherwise_73 : decode cX12_otherwise 73 = .ok (.goto 4, 3) := by decide +kernel
theorem dX12_otherwise_76 : decode cX12_otherwise 76 = .ok (.iconst (-1), 1) := by decide +kernel
theorem dX12_otherwise_77 : decode cX12_otherwise 77 = .ok (.ireturn, 1) := by decide +kernel
theorem dX12_otherwise_78 : decode cX12_otherwise 78 = .ok (.iinc 4 1, 3) := by decide +kernel
theorem dX12_otherwise_81 : decode cX12_otherwise 81 = .ok (.goto (-51), 3) := by decide +kernel
theorem dX12_otherwise_84 : decode cX12_otherwise 84 = .ok (.iinc 3 1, 3) := by decide +kernel
theorem dX12_otherwise_87 : decode cX12_otherwise 87 = .ok (.goto (-65), 3) := by decide +kernel
theorem dX12_otherwise_90 : decode cX12_otherwise 90 = .ok (.iconst (-1), 1) := by decide +kernel
theorem dX12_otherwise_91 : decode cX12_otherwise 91 = .ok (.ireturn, 1) := by decide +kernel
set_option maxRecDepth 20000 in
theorem ggX12_most_X12_isReader : GoodIn wsX12_most wsX12_isReader := goodIn_r _ [7, 8, 9, 6, 10] rfl (by decide +kernel)
set_option maxRecDepth 20000 in
theorem gX12_most_X12_isReader : GoodIn wsX12_most (va_wsS RX12 106 yX12_isReader wsX12_isReader) := goodIn_app (goodIn_of _ (by decide +kernel)) ggX12_most_X12_isReader
set_option maxRecDepth 20000 in
theorem ggX12_most_X12_in : GoodIn wsX12_most wsX12_in := goodIn_r _ [10] rfl (by decide +kernel)
set_option maxRecDepth 20000 in
theorem gX12_most_X12_in : GoodIn wsX12_most (va_wsS RX12 102 yX12_in wsX12_in) := goodIn_app (goodIn_of _ (by decide +kernel)) ggX12_most_X12_in
set_option maxRecDepth 20000 in
theorem ggX12_most_X12_rowsOf : GoodIn wsX12_most wsX12_rowsOf := goodIn_r _ [13] rfl (by decide +kernel)
set_option maxRecDepth 20000 in
theorem gX12_most_X12_rowsOf : GoodIn wsX12_most (va_wsS RX12 319 yX12_rowsOf wsX12_rowsOf) := goodIn_app (goodIn_of _ (by decide +kernel)) ggX12_most_X12_rowsOf
set_option maxRecDepth 20000 in
theorem ggX12_most_X12_layGround : GoodIn wsX12_most wsX12_layGround := goodIn_r _ [17, 18, 19, 36, 37, 38, 39, 40, 41, 42, 43, 44, 45, 46, 47, 48, 49, 50, 51, 52, 53, 54, 55, 56, 57, 58, 59, 60, 61, 62, 63, 64, 65, 66, 67, 68, 69, 70, 71, 72, 73, 74, 75, 76, 77, 78] rfl (by decide +kernel)
set_option maxRecDepth 20000 in
theorem gX12_most_X12_layGround : GoodIn wsX12_most (wsV RX12 322 RX12 yX12_layGround wsX12_layGround) := goodIn_app (goodIn_of _ (by decide +kernel)) ggX12_most_X12_layGround
set_option maxRecDepth 20000 in
theorem ggX12_most_X12_go : GoodIn wsX12_most wsX12_go := goodIn_r _ [23, 24, 2, 3, 25, 26, 27, 19, 18, 28, 29, 30, 31, 32, 33, 34, 6, 35, 36, 37, 38, 39, 40, 41, 42, 43, 44, 45, 46, 47, 48, 49, 50, 51, 52, 53, 54, 55, 56, 57, 58, 59, 60, 61, 62, 63, 64, 65, 66, 67, 68, 69, 70, 71, 72, 73, 74, 75, 76, 77, 78] rfl (by decide +kernel)
set_option maxRecDepth 20000 in
theorem gX12_most_X12_go : GoodIn wsX12_most (wsV RX12 203 RX12 yX12_go wsX12_go) := goodIn_app (goodIn_of _ (by decide +kernel)) ggX12_most_X12_go
theorem dX12_most_0 : decode cX12_most 0 = .ok (.iload_n 1, 1) := by decide +kernel
theorem dX12_most_1 : decode cX12_most 1 = .ok (.invokestatic 106, 3) := by decide +kernel
theorem dX12_most_4 : decode cX12_most 4 = .ok (.ifCond .ne 6, 3) := by decide +kernel
theorem dX12_most_7 : decode cX12_most 7 = .ok (.bipush (-2), 2) := by decide +kernel
theorem dX12_most_9 : decode cX12_most 9 = .ok (.ireturn, 1) := by decide +kernel
theorem dX12_most_10 : decode cX12_most 10 = .ok (.iload_n 2, 1) := by decide +kernel
theorem dX12_most_11 : decode cX12_most 11 = .ok (.i2l, 1) := by decide +kernel
theorem dX12_most_12 : decode cX12_most 12 = .ok (.lconst 0, 1) := by decide +kernel
theorem dX12_most_13 : decode cX12_most 13 = .ok (.ldc2_w 317, 3) := by decide +kernel
theorem dX12_most_16 : decode cX12_most 16 = .ok (.invokestatic 102, 3) := by decide +kernel
theorem dX12_most_19 : decode cX12_most 19 = .ok (.ifCond .ne 6, 3) := by decide +kernel
theorem dX12_most_22 : decode cX12_most 22 = .ok (.bipush (-3), 2) := by decide +kernel
theorem dX12_most_24 : decode cX12_most 24 = .ok (.ireturn, 1) := by decide +kernel
theorem dX12_most_25 : decode cX12_most 25 = .ok (.iconst (-1), 1) := by decide +kernel
theorem dX12_most_26 : decode cX12_most 26 = .ok (.istore_n 3, 1) := by decide +kernel
theorem dX12_most_27 : decode cX12_most 27 = .ok (.iconst 0, 1) := by decide +kernel
theorem dX12_most_28 : decode cX12_most 28 = .ok (.istore 4, 2) := by decide +kernel
theorem dX12_most_30 : decode cX12_most 30 = .ok (.iload 4, 2) := by decide +kernel
theorem dX12_most_32 : decode cX12_most 32 = .ok (.iload_n 2, 1) := by decide +kernel
theorem dX12_most_33 : decode cX12_most 33 = .ok (.invokestatic 319, 3) := by decide +kernel
theorem dX12_most_36 : decode cX12_most 36 = .ok (.if_icmp .ge 46, 3) := by decide +kernel
theorem dX12_most_39 : decode cX12_most 39 = .ok (.aload_n 0, 1) := by decide +kernel
theorem dX12_most_40 : decode cX12_most 40 = .ok (.iload 4, 2) := by decide +kernel
theorem dX12_most_42 : decode cX12_most 42 = .ok (.iload_n 2, 1) := by decide +kernel
theorem dX12_most_43 : decode cX12_most 43 = .ok (.invokevirtual 322, 3) := by decide +kernel
theorem dX12_most_46 : decode cX12_most 46 = .ok (.aload_n 0, 1) := by decide +kernel
theorem dX12_most_47 : decode cX12_most 47 = .ok (.iload_n 1, 1) := by decide +kernel
theorem dX12_most_48 : decode cX12_most 48 = .ok (.invokevirtual 203, 3) := by decide +kernel
theorem dX12_most_51 : decode cX12_most 51 = .ok (.aload_n 0, 1) := by decide +kernel
theorem dX12_most_52 : decode cX12_most 52 = .ok (.getfield 185, 3) := by decide +kernel
theorem dX12_most_55 : decode cX12_most 55 = .ok (.iconst 2, 1) := by decide +kernel
theorem dX12_most_56 : decode cX12_most 56 = .ok (.if_icmp .ge 18, 3) := by decide +kernel
theorem dX12_most_59 : decode cX12_most 59 = .ok (.aload_n 0, 1) := by decide +kernel
theorem dX12_most_60 : decode cX12_most 60 = .ok (.getfield 188, 3) := by decide +kernel
theorem dX12_most_63 : decode cX12_most 63 = .ok (.iload_n 3, 1) := by decide +kernel
theorem dX12_most_64 : decode cX12_most 64 = .ok (.if_icmp .le 10, 3) := by decide +kernel
theorem dX12_most_67 : decode cX12_most 67 = .ok (.aload_n 0, 1) := by decide +kernel
theorem dX12_most_68 : decode cX12_most 68 = .ok (.getfield 188, 3) := by decide +kernel
theorem dX12_most_71 : decode cX12_most 71 = .ok (.goto 4, 3) := by decide +kernel
theorem dX12_most_74 : decode cX12_most 74 = .ok (.iload_n 3, 1) := by decide +kernel
theorem dX12_most_75 : decode cX12_most 75 = .ok (.istore_n 3, 1) := by decide +kernel
theorem dX12_most_76 : decode cX12_most 76 = .ok (.iinc 4 1, 3) := by decide +kernel
theorem dX12_most_79 : decode cX12_most 79 = .ok (.goto (-49), 3) := by decide +kernel
theorem dX12_most_82 : decode cX12_most 82 = .ok (.iload_n 3, 1) := by decide +kernel
theorem dX12_most_83 : decode cX12_most 83 = .ok (.ireturn, 1) := by decide +kernel
set_option maxRecDepth 20000 in
theorem ggX12_count_X12_movesOf : GoodIn wsX12_count wsX12_movesOf := goodIn_r _ [7, 8, 9, 10, 11, 12, 13, 14, 15, 16, 17, 18, 19, 20, 21, 22, 23, 24, 25, 26, 27, 28, 29, 30, 31, 32, 33, 34, 35, 36, 37, 38, 39, 40, 41, 42, 43, 44, 45, 46, 47, 48, 49, 50, 51] rfl (by decide +kernel)
set_option maxRecDepth 20000 in
theorem gX12_count_X12_movesOf : GoodIn wsX12_count (wsV RX12 168 RX12 yX12_movesOf wsX12_movesOf) := goodIn_app (goodIn_of _ (by decide +kernel)) ggX12_count_X12_movesOf
theorem dX12_count_0 : decode cX12_count 0 = .ok (.iload_n 1, 1) := by decide +kernel
theorem dX12_count_1 : decode cX12_count 1 = .ok (.ifCond .ne 10, 3) := by decide +kernel
theorem dX12_count_4 : decode cX12_count 4 = .ok (.aload_n 0, 1) := by decide +kernel
theorem dX12_count_5 : decode cX12_count 5 = .ok (.getfield 178, 3) := by decide +kernel
theorem dX12_count_8 : decode cX12_count 8 = .ok (.goto 43, 3) := by decide +kernel
theorem dX12_count_11 : decode cX12_count 11 = .ok (.iload_n 1, 1) := by decide +kernel
theorem dX12_count_12 : decode cX12_count 12 = .ok (.iconst 1, 1) := by decide +kernel
theorem dX12_count_13 : decode cX12_count 13 = .ok (.if_icmp .ne 10, 3) := by decide +kernel
theorem dX12_count_16 : decode cX12_count 16 = .ok (.aload_n 0, 1) := by decide +kernel
theorem dX12_count_17 : decode cX12_count 17 = .ok (.getfield 114, 3) := by decide +kernel
theorem dX12_count_20 : decode cX12_count 20 = .ok (.goto 31, 3) := by decide +kernel
theorem dX12_count_23 : decode cX12_count 23 = .ok (.iload_n 1, 1) := by decide +kernel
theorem dX12_count_24 : decode cX12_count 24 = .ok (.iconst 2, 1) := by decide +kernel
theorem dX12_count_25 : decode cX12_count 25 = .ok (.if_icmp .ne 11, 3) := by decide +kernel
theorem dX12_count_28 : decode cX12_count 28 = .ok (.aload_n 0, 1) := by decide +kernel
theorem dX12_count_29 : decode cX12_count 29 = .ok (.iconst 0, 1) := by decide +kernel
theorem dX12_count_30 : decode cX12_count 30 = .ok (.invokevirtual 168, 3) := by decide +kernel
theorem dX12_count_33 : decode cX12_count 33 = .ok (.goto 18, 3) := by decide +kernel
theorem dX12_count_36 : decode cX12_count 36 = .ok (.iload_n 1, 1) := by decide +kernel
theorem dX12_count_37 : decode cX12_count 37 = .ok (.iconst 3, 1) := by decide +kernel
theorem dX12_count_38 : decode cX12_count 38 = .ok (.if_icmp .ne 11, 3) := by decide +kernel
theorem dX12_count_41 : decode cX12_count 41 = .ok (.aload_n 0, 1) := by decide +kernel
theorem dX12_count_42 : decode cX12_count 42 = .ok (.iconst 1, 1) := by decide +kernel
theorem dX12_count_43 : decode cX12_count 43 = .ok (.invokevirtual 168, 3) := by decide +kernel
theorem dX12_count_46 : decode cX12_count 46 = .ok (.goto 5, 3) := by decide +kernel
theorem dX12_count_49 : decode cX12_count 49 = .ok (.bipush (-3), 2) := by decide +kernel
theorem dX12_count_51 : decode cX12_count 51 = .ok (.ireturn, 1) := by decide +kernel
theorem dJ9_max_7cf53_0 : decode cJ9_max_7cf53 0 = .ok (.iload_n 0, 1) := by decide +kernel
theorem dJ9_max_7cf53_1 : decode cJ9_max_7cf53 1 = .ok (.iload_n 1, 1) := by decide +kernel
theorem dJ9_max_7cf53_2 : decode cJ9_max_7cf53 2 = .ok (.if_icmp .lt 7, 3) := by decide +kernel
theorem dJ9_max_7cf53_5 : decode cJ9_max_7cf53 5 = .ok (.iload_n 0, 1) := by decide +kernel
theorem dJ9_max_7cf53_6 : decode cJ9_max_7cf53 6 = .ok (.goto 4, 3) := by decide +kernel
theorem dJ9_max_7cf53_9 : decode cJ9_max_7cf53 9 = .ok (.iload_n 1, 1) := by decide +kernel
theorem dJ9_max_7cf53_10 : decode cJ9_max_7cf53 10 = .ok (.ireturn, 1) := by decide +kernel
theorem dJ9_min_7cf53_0 : decode cJ9_min_7cf53 0 = .ok (.iload_n 0, 1) := by decide +kernel
theorem dJ9_min_7cf53_1 : decode cJ9_min_7cf53 1 = .ok (.iload_n 1, 1) := by decide +kernel
theorem dJ9_min_7cf53_2 : decode cJ9_min_7cf53 2 = .ok (.if_icmp .gt 7, 3) := by decide +kernel
theorem dJ9_min_7cf53_5 : decode cJ9_min_7cf53 5 = .ok (.iload_n 0, 1) := by decide +kernel
theorem dJ9_min_7cf53_6 : decode cJ9_min_7cf53 6 = .ok (.goto 4, 3) := by decide +kernel
theorem dJ9_min_7cf53_9 : decode cJ9_min_7cf53 9 = .ok (.iload_n 1, 1) := by decide +kernel
theorem dJ9_min_7cf53_10 : decode cJ9_min_7cf53 10 = .ok (.ireturn, 1) := by decide +kernel
set_option maxRecDepth 20000 in
theorem ggJ0_length_8abf5_J0_coder_7d493 : GoodIn wsJ0_length_8abf5 wsJ0_coder_7d493 := goodIn_r _ [6, 7, 8] rfl (by decide +kernel)
set_option maxRecDepth 20000 in
theorem gJ0_length_8abf5_J0_coder_7d493 : GoodIn wsJ0_length_8abf5 (wsV RJ0 335 RJ0 yJ0_coder_7d493 wsJ0_coder_7d493) := goodIn_app (goodIn_of _ (by decide +kernel)) ggJ0_length_8abf5_J0_coder_7d493
theorem dJ0_length_8abf5_0 : decode cJ0_length_8abf5 0 = .ok (.aload_n 0, 1) := by decide +kernel
theorem dJ0_length_8abf5_1 : decode cJ0_length_8abf5 1 = .ok (.getfield 9, 3) := by decide +kernel
theorem dJ0_length_8abf5_4 : decode cJ0_length_8abf5 4 = .ok (.arraylength, 1) := by decide +kernel
theorem dJ0_length_8abf5_5 : decode cJ0_length_8abf5 5 = .ok (.aload_n 0, 1) := by decide +kernel
theorem dJ0_length_8abf5_6 : decode cJ0_length_8abf5 6 = .ok (.invokevirtual 335, 3) := by decide +kernel
theorem dJ0_length_8abf5_9 : decode cJ0_length_8abf5 9 = .ok (.ishr, 1) := by decide +kernel
theorem dJ0_length_8abf5_10 : decode cJ0_length_8abf5 10 = .ok (.ireturn, 1) := by decide +kernel
set_option maxRecDepth 20000 in
theorem ggJ0_charAt_5068e_J0_isLatin1_aae02 : GoodIn wsJ0_charAt_5068e wsJ0_isLatin1_aae02 := goodIn_r _ [6, 7, 8] rfl (by decide +kernel)
set_option maxRecDepth 20000 in
theorem gJ0_charAt_5068e_J0_isLatin1_aae02 : GoodIn wsJ0_charAt_5068e (wsV RJ0 492 RJ0 yJ0_isLatin1_aae02 wsJ0_isLatin1_aae02) := goodIn_app (goodIn_of _ (by decide +kernel)) ggJ0_charAt_5068e_J0_isLatin1_aae02
set_option maxRecDepth 20000 in
theorem ggJ0_charAt_5068e_J1_charAt_3b067 : GoodIn wsJ0_charAt_5068e wsJ1_charAt_3b067 := goodIn_r _ [12, 13, 14, 5, 15, 16, 17, 18, 19, 20] rfl (by decide +kernel)
set_option maxRecDepth 20000 in
theorem gJ0_charAt_5068e_J1_charAt_3b067 : GoodIn wsJ0_charAt_5068e (va_wsS RJ0 495 yJ1_charAt_3b067 wsJ1_charAt_3b067) := goodIn_app (goodIn_of _ (by decide +kernel)) ggJ0_charAt_5068e_J1_charAt_3b067
set_option maxRecDepth 20000 in
theorem ggJ0_charAt_5068e_J2_charAt_3b067 : GoodIn wsJ0_charAt_5068e wsJ2_charAt_3b067 := goodIn_r _ [24, 25, 26, 23, 27, 28, 29, 30, 31, 14, 5, 15, 16, 17, 18, 19, 20, 32, 33, 34, 35, 36, 37] rfl (by decide +kernel)
set_option maxRecDepth 20000 in
theorem gJ0_charAt_5068e_J2_charAt_3b067 : GoodIn wsJ0_charAt_5068e (va_wsS RJ0 498 yJ2_charAt_3b067 wsJ2_charAt_3b067) := goodIn_app (goodIn_of _ (by decide +kernel)) ggJ0_charAt_5068e_J2_charAt_3b067
theorem dJ0_charAt_5068e_0 : decode cJ0_charAt_5068e 0 = .ok (.aload_n 0, 1) := by decide +kernel
theorem dJ0_charAt_5068e_1 : decode cJ0_charAt_5068e 1 = .ok (.invokevirtual 492, 3) := by decide +kernel
theorem dJ0_charAt_5068e_4 : decode cJ0_charAt_5068e 4 = .ok (.ifCond .eq 12, 3) := by decide +kernel
theorem dJ0_charAt_5068e_7 : decode cJ0_charAt_5068e 7 = .ok (.aload_n 0, 1) := by decide +kernel
theorem dJ0_charAt_5068e_8 : decode cJ0_charAt_5068e 8 = .ok (.getfield 9, 3) := by decide +kernel
theorem dJ0_charAt_5068e_11 : decode cJ0_charAt_5068e 11 = .ok (.iload_n 1, 1) := by decide +kernel
theorem dJ0_charAt_5068e_12 : decode cJ0_charAt_5068e 12 = .ok (.invokestatic 495, 3) := by decide +kernel
theorem dJ0_charAt_5068e_15 : decode cJ0_charAt_5068e 15 = .ok (.ireturn, 1) := by decide +kernel
theorem dJ0_charAt_5068e_16 : decode cJ0_charAt_5068e 16 = .ok (.aload_n 0, 1) := by decide +kernel
theorem dJ0_charAt_5068e_17 : decode cJ0_charAt_5068e 17 = .ok (.getfield 9, 3) := by decide +kernel
theorem dJ0_charAt_5068e_20 : decode cJ0_charAt_5068e 20 = .ok (.iload_n 1, 1) := by decide +kernel
theorem dJ0_charAt_5068e_21 : decode cJ0_charAt_5068e 21 = .ok (.invokestatic 498, 3) := by decide +kernel
theorem dJ0_charAt_5068e_24 : decode cJ0_charAt_5068e 24 = .ok (.ireturn, 1) := by decide +kernel
theorem dJ0_coder_7d493_0 : decode cJ0_coder_7d493 0 = .ok (.getstatic 38, 3) := by decide +kernel
theorem dJ0_coder_7d493_3 : decode cJ0_coder_7d493 3 = .ok (.ifCond .eq 10, 3) := by decide +kernel
theorem dJ0_coder_7d493_6 : decode cJ0_coder_7d493 6 = .ok (.aload_n 0, 1) := by decide +kernel
theorem dJ0_coder_7d493_7 : decode cJ0_coder_7d493 7 = .ok (.getfield 15, 3) := by decide +kernel
theorem dJ0_coder_7d493_10 : decode cJ0_coder_7d493 10 = .ok (.goto 4, 3) := by decide +kernel
theorem dJ0_coder_7d493_13 : decode cJ0_coder_7d493 13 = .ok (.iconst 1, 1) := by decide +kernel
theorem dJ0_coder_7d493_14 : decode cJ0_coder_7d493 14 = .ok (.ireturn, 1) := by decide +kernel
theorem dJ0_isLatin1_aae02_0 : decode cJ0_isLatin1_aae02 0 = .ok (.getstatic 38, 3) := by decide +kernel
theorem dJ0_isLatin1_aae02_3 : decode cJ0_isLatin1_aae02 3 = .ok (.ifCond .eq 14, 3) := by decide +kernel
theorem dJ0_isLatin1_aae02_6 : decode cJ0_isLatin1_aae02 6 = .ok (.aload_n 0, 1) := by decide +kernel
theorem dJ0_isLatin1_aae02_7 : decode cJ0_isLatin1_aae02 7 = .ok (.getfield 15, 3) := by decide +kernel
theorem dJ0_isLatin1_aae02_10 : decode cJ0_isLatin1_aae02 10 = .ok (.ifCond .ne 7, 3) := by decide +kernel
theorem dJ0_isLatin1_aae02_13 : decode cJ0_isLatin1_aae02 13 = .ok (.iconst 1, 1) := by decide +kernel
theorem dJ0_isLatin1_aae02_14 : decode cJ0_isLatin1_aae02 14 = .ok (.goto 4, 3) := by decide +kernel
theorem dJ0_isLatin1_aae02_17 : decode cJ0_isLatin1_aae02 17 = .ok (.iconst 0, 1) := by decide +kernel
theorem dJ0_isLatin1_aae02_18 : decode cJ0_isLatin1_aae02 18 = .ok (.ireturn, 1) := by decide +kernel
set_option maxRecDepth 20000 in
theorem ggJ0_checkIndex_df160_J3_checkIndex_8e157 : GoodIn wsJ0_checkIndex_df160 wsJ3_checkIndex_8e157 := goodIn_r _ [5] rfl (by decide +kernel)
set_option maxRecDepth 20000 in
theorem gJ0_checkIndex_df160_J3_checkIndex_8e157 : GoodIn wsJ0_checkIndex_df160 (va_wsS RJ0 1059 yJ3_checkIndex_8e157 wsJ3_checkIndex_8e157) := goodIn_app (goodIn_of _ (by decide +kernel)) ggJ0_checkIndex_df160_J3_checkIndex_8e157
theorem dJ0_checkIndex_df160_0 : decode cJ0_checkIndex_df160 0 = .ok (.iload_n 0, 1) := by decide +kernel
theorem dJ0_checkIndex_df160_1 : decode cJ0_checkIndex_df160 1 = .ok (.iload_n 1, 1) := by decide +kernel
theorem dJ0_checkIndex_df160_2 : decode cJ0_checkIndex_df160 2 = .ok (.getstatic 1053, 3) := by decide +kernel
theorem dJ0_checkIndex_df160_5 : decode cJ0_checkIndex_df160 5 = .ok (.invokestatic 1059, 3) := by decide +kernel
theorem dJ0_checkIndex_df160_8 : decode cJ0_checkIndex_df160 8 = .ok (.pop, 1) := by decide +kernel
theorem dJ0_checkIndex_df160_9 : decode cJ0_checkIndex_df160 9 = .ok (.return_, 1) := by decide +kernel
set_option maxRecDepth 20000 in
theorem ggJ1_charAt_3b067_J0_checkIndex_df160 : GoodIn wsJ1_charAt_3b067 wsJ0_checkIndex_df160 := goodIn_r _ [4, 5, 6, 7, 8, 9] rfl (by decide +kernel)
set_option maxRecDepth 20000 in
theorem gJ1_charAt_3b067_J0_checkIndex_df160 : GoodIn wsJ1_charAt_3b067 (va_wsS RJ1 9 yJ0_checkIndex_df160 wsJ0_checkIndex_df160) := goodIn_app (goodIn_of _ (by decide +kernel)) ggJ1_charAt_3b067_J0_checkIndex_df160
theorem dJ1_charAt_3b067_0 : decode cJ1_charAt_3b067 0 = .ok (.iload_n 1, 1) := by decide +kernel
theorem dJ1_charAt_3b067_1 : decode cJ1_charAt_3b067 1 = .ok (.aload_n 0, 1) := by decide +kernel
theorem dJ1_charAt_3b067_2 : decode cJ1_charAt_3b067 2 = .ok (.arraylength, 1) := by decide +kernel
theorem dJ1_charAt_3b067_3 : decode cJ1_charAt_3b067 3 = .ok (.invokestatic 9, 3) := by decide +kernel
theorem dJ1_charAt_3b067_6 : decode cJ1_charAt_3b067 6 = .ok (.aload_n 0, 1) := by decide +kernel
theorem dJ1_charAt_3b067_7 : decode cJ1_charAt_3b067 7 = .ok (.iload_n 1, 1) := by decide +kernel
theorem dJ1_charAt_3b067_8 : decode cJ1_charAt_3b067 8 = .ok (.baload, 1) := by decide +kernel
theorem dJ1_charAt_3b067_9 : decode cJ1_charAt_3b067 9 = .ok (.sipush 255, 3) := by decide +kernel
theorem dJ1_charAt_3b067_12 : decode cJ1_charAt_3b067 12 = .ok (.iand, 1) := by decide +kernel
theorem dJ1_charAt_3b067_13 : decode cJ1_charAt_3b067 13 = .ok (.i2c, 1) := by decide +kernel
theorem dJ1_charAt_3b067_14 : decode cJ1_charAt_3b067 14 = .ok (.ireturn, 1) := by decide +kernel
set_option maxRecDepth 20000 in
theorem ggJ2_getChar_3b067_J2_length_9d52b : GoodIn wsJ2_getChar_3b067 wsJ2_length_9d52b := goodIn_r _ [7] rfl (by decide +kernel)
set_option maxRecDepth 20000 in
theorem gJ2_getChar_3b067_J2_length_9d52b : GoodIn wsJ2_getChar_3b067 (va_wsS RJ2 48 yJ2_length_9d52b wsJ2_length_9d52b) := goodIn_app (goodIn_of _ (by decide +kernel)) ggJ2_getChar_3b067_J2_length_9d52b
theorem dJ2_getChar_3b067_0 : decode cJ2_getChar_3b067 0 = .ok (.getstatic 44, 3) := by decide +kernel
theorem dJ2_getChar_3b067_3 : decode cJ2_getChar_3b067 3 = .ok (.ifCond .ne 25, 3) := by decide +kernel
theorem dJ2_getChar_3b067_6 : decode cJ2_getChar_3b067 6 = .ok (.iload_n 1, 1) := by decide +kernel
theorem dJ2_getChar_3b067_7 : decode cJ2_getChar_3b067 7 = .ok (.ifCond .lt 11, 3) := by decide +kernel
theorem dJ2_getChar_3b067_10 : decode cJ2_getChar_3b067 10 = .ok (.iload_n 1, 1) := by decide +kernel
theorem dJ2_getChar_3b067_11 : decode cJ2_getChar_3b067 11 = .ok (.aload_n 0, 1) := by decide +kernel
theorem dJ2_getChar_3b067_12 : decode cJ2_getChar_3b067 12 = .ok (.invokestatic 48, 3) := by decide +kernel
theorem dJ2_getChar_3b067_15 : decode cJ2_getChar_3b067 15 = .ok (.if_icmp .lt 13, 3) := by decide +kernel
theorem dJ2_getChar_3b067_18 : decode cJ2_getChar_3b067 18 = .ok (.new 52, 3) := by decide +kernel
theorem dJ2_getChar_3b067_21 : decode cJ2_getChar_3b067 21 = .ok (.dup, 1) := by decide +kernel
theorem dJ2_getChar_3b067_22 : decode cJ2_getChar_3b067 22 = .ok (.ldc 54, 2) := by decide +kernel
theorem dJ2_getChar_3b067_24 : decode cJ2_getChar_3b067 24 = .ok (.invokespecial 56, 3) := by decide +kernel
theorem dJ2_getChar_3b067_27 : decode cJ2_getChar_3b067 27 = .ok (.athrow, 1) := by decide +kernel
theorem dJ2_getChar_3b067_28 : decode cJ2_getChar_3b067 28 = .ok (.iload_n 1, 1) := by decide +kernel
theorem dJ2_getChar_3b067_29 : decode cJ2_getChar_3b067 29 = .ok (.iconst 1, 1) := by decide +kernel
theorem dJ2_getChar_3b067_30 : decode cJ2_getChar_3b067 30 = .ok (.ishl, 1) := by decide +kernel
theorem dJ2_getChar_3b067_31 : decode cJ2_getChar_3b067 31 = .ok (.istore_n 1, 1) := by decide +kernel
theorem dJ2_getChar_3b067_32 : decode cJ2_getChar_3b067 32 = .ok (.aload_n 0, 1) := by decide +kernel
theorem dJ2_getChar_3b067_33 : decode cJ2_getChar_3b067 33 = .ok (.iload_n 1, 1) := by decide +kernel
theorem dJ2_getChar_3b067_34 : decode cJ2_getChar_3b067 34 = .ok (.iinc 1 1, 3) := by decide +kernel
theorem dJ2_getChar_3b067_37 : decode cJ2_getChar_3b067 37 = .ok (.baload, 1) := by decide +kernel
theorem dJ2_getChar_3b067_38 : decode cJ2_getChar_3b067 38 = .ok (.sipush 255, 3) := by decide +kernel
theorem dJ2_getChar_3b067_41 : decode cJ2_getChar_3b067 41 = .ok (.iand, 1) := by decide +kernel
theorem dJ2_getChar_3b067_42 : decode cJ2_getChar_3b067 42 = .ok (.getstatic 59, 3) := by decide +kernel
theorem dJ2_getChar_3b067_45 : decode cJ2_getChar_3b067 45 = .ok (.ishl, 1) := by decide +kernel
theorem dJ2_getChar_3b067_46 : decode cJ2_getChar_3b067 46 = .ok (.aload_n 0, 1) := by decide +kernel
theorem dJ2_getChar_3b067_47 : decode cJ2_getChar_3b067 47 = .ok (.iload_n 1, 1) := by decide +kernel
theorem dJ2_getChar_3b067_48 : decode cJ2_getChar_3b067 48 = .ok (.baload, 1) := by decide +kernel
theorem dJ2_getChar_3b067_49 : decode cJ2_getChar_3b067 49 = .ok (.sipush 255, 3) := by decide +kernel
theorem dJ2_getChar_3b067_52 : decode cJ2_getChar_3b067 52 = .ok (.iand, 1) := by decide +kernel
theorem dJ2_getChar_3b067_53 : decode cJ2_getChar_3b067 53 = .ok (.getstatic 63, 3) := by decide +kernel
theorem dJ2_getChar_3b067_56 : decode cJ2_getChar_3b067 56 = .ok (.ishl, 1) := by decide +kernel
theorem dJ2_getChar_3b067_57 : decode cJ2_getChar_3b067 57 = .ok (.ior, 1) := by decide +kernel
theorem dJ2_getChar_3b067_58 : decode cJ2_getChar_3b067 58 = .ok (.i2c, 1) := by decide +kernel
theorem dJ2_getChar_3b067_59 : decode cJ2_getChar_3b067 59 = .ok (.ireturn, 1) := by decide +kernel
theorem dJ2_length_9d52b_0 : decode cJ2_length_9d52b 0 = .ok (.aload_n 0, 1) := by decide +kernel
theorem dJ2_length_9d52b_1 : decode cJ2_length_9d52b 1 = .ok (.arraylength, 1) := by decide +kernel
theorem dJ2_length_9d52b_2 : decode cJ2_length_9d52b 2 = .ok (.iconst 1, 1) := by decide +kernel
theorem dJ2_length_9d52b_3 : decode cJ2_length_9d52b 3 = .ok (.ishr, 1) := by decide +kernel
theorem dJ2_length_9d52b_4 : decode cJ2_length_9d52b 4 = .ok (.ireturn, 1) := by decide +kernel
set_option maxRecDepth 20000 in
theorem ggJ2_charAt_3b067_J2_checkIndex_2214a : GoodIn wsJ2_charAt_3b067 wsJ2_checkIndex_2214a := goodIn_r _ [4, 5, 6, 3, 7, 8, 9, 10, 11, 12, 13, 14, 15, 16] rfl (by decide +kernel)
set_option maxRecDepth 20000 in
theorem gJ2_charAt_3b067_J2_checkIndex_2214a : GoodIn wsJ2_charAt_3b067 (va_wsS RJ2 67 yJ2_checkIndex_2214a wsJ2_checkIndex_2214a) := goodIn_app (goodIn_of _ (by decide +kernel)) ggJ2_charAt_3b067_J2_checkIndex_2214a
set_option maxRecDepth 20000 in
theorem ggJ2_charAt_3b067_J2_getChar_3b067 : GoodIn wsJ2_charAt_3b067 wsJ2_getChar_3b067 := goodIn_r _ [19, 20, 21, 22, 5, 6, 3, 7] rfl (by decide +kernel)
set_option maxRecDepth 20000 in
theorem gJ2_charAt_3b067_J2_getChar_3b067 : GoodIn wsJ2_charAt_3b067 (va_wsS RJ2 71 yJ2_getChar_3b067 wsJ2_getChar_3b067) := goodIn_app (goodIn_of _ (by decide +kernel)) ggJ2_charAt_3b067_J2_getChar_3b067
theorem dJ2_charAt_3b067_0 : decode cJ2_charAt_3b067 0 = .ok (.iload_n 1, 1) := by decide +kernel
theorem dJ2_charAt_3b067_1 : decode cJ2_charAt_3b067 1 = .ok (.aload_n 0, 1) := by decide +kernel
theorem dJ2_charAt_3b067_2 : decode cJ2_charAt_3b067 2 = .ok (.invokestatic 67, 3) := by decide +kernel
theorem dJ2_charAt_3b067_5 : decode cJ2_charAt_3b067 5 = .ok (.aload_n 0, 1) := by decide +kernel
theorem dJ2_charAt_3b067_6 : decode cJ2_charAt_3b067 6 = .ok (.iload_n 1, 1) := by decide +kernel
theorem dJ2_charAt_3b067_7 : decode cJ2_charAt_3b067 7 = .ok (.invokestatic 71, 3) := by decide +kernel
theorem dJ2_charAt_3b067_10 : decode cJ2_charAt_3b067 10 = .ok (.ireturn, 1) := by decide +kernel
set_option maxRecDepth 20000 in
theorem ggJ2_checkIndex_2214a_J2_length_9d52b : GoodIn wsJ2_checkIndex_2214a wsJ2_length_9d52b := goodIn_r _ [4] rfl (by decide +kernel)
set_option maxRecDepth 20000 in
theorem gJ2_checkIndex_2214a_J2_length_9d52b : GoodIn wsJ2_checkIndex_2214a (va_wsS RJ2 48 yJ2_length_9d52b wsJ2_length_9d52b) := goodIn_app (goodIn_of _ (by decide +kernel)) ggJ2_checkIndex_2214a_J2_length_9d52b
set_option maxRecDepth 20000 in
theorem ggJ2_checkIndex_2214a_J0_checkIndex_df160 : GoodIn wsJ2_checkIndex_2214a wsJ0_checkIndex_df160 := goodIn_r _ [8, 9, 10, 11, 12, 13] rfl (by decide +kernel)
set_option maxRecDepth 20000 in
theorem gJ2_checkIndex_2214a_J0_checkIndex_df160 : GoodIn wsJ2_checkIndex_2214a (va_wsS RJ2 414 yJ0_checkIndex_df160 wsJ0_checkIndex_df160) := goodIn_app (goodIn_of _ (by decide +kernel)) ggJ2_checkIndex_2214a_J0_checkIndex_df160
theorem dJ2_checkIndex_2214a_0 : decode cJ2_checkIndex_2214a 0 = .ok (.iload_n 0, 1) := by decide +kernel
theorem dJ2_checkIndex_2214a_1 : decode cJ2_checkIndex_2214a 1 = .ok (.aload_n 1, 1) := by decide +kernel
theorem dJ2_checkIndex_2214a_2 : decode cJ2_checkIndex_2214a 2 = .ok (.invokestatic 48, 3) := by decide +kernel
theorem dJ2_checkIndex_2214a_5 : decode cJ2_checkIndex_2214a 5 = .ok (.invokestatic 414, 3) := by decide +kernel
theorem dJ2_checkIndex_2214a_8 : decode cJ2_checkIndex_2214a 8 = .ok (.return_, 1) := by decide +kernel
theorem dJ7_fill_d0a16_0 : decode cJ7_fill_d0a16 0 = .ok (.iconst 0, 1) := by decide +kernel
theorem dJ7_fill_d0a16_1 : decode cJ7_fill_d0a16 1 = .ok (.istore_n 3, 1) := by decide +kernel
theorem dJ7_fill_d0a16_2 : decode cJ7_fill_d0a16 2 = .ok (.aload_n 0, 1) := by decide +kernel
theorem dJ7_fill_d0a16_3 : decode cJ7_fill_d0a16 3 = .ok (.arraylength, 1) := by decide +kernel
theorem dJ7_fill_d0a16_4 : decode cJ7_fill_d0a16 4 = .ok (.istore 4, 2) := by decide +kernel
theorem dJ7_fill_d0a16_6 : decode cJ7_fill_d0a16 6 = .ok (.iload_n 3, 1) := by decide +kernel
theorem dJ7_fill_d0a16_7 : decode cJ7_fill_d0a16 7 = .ok (.iload 4, 2) := by decide +kernel
theorem dJ7_fill_d0a16_9 : decode cJ7_fill_d0a16 9 = .ok (.if_icmp .ge 13, 3) := by decide +kernel
theorem dJ7_fill_d0a16_12 : decode cJ7_fill_d0a16 12 = .ok (.aload_n 0, 1) := by decide +kernel
theorem dJ7_fill_d0a16_13 : decode cJ7_fill_d0a16 13 = .ok (.iload_n 3, 1) := by decide +kernel
theorem dJ7_fill_d0a16_14 : decode cJ7_fill_d0a16 14 = .ok (.lload_n 1, 1) := by decide +kernel
theorem dJ7_fill_d0a16_15 : decode cJ7_fill_d0a16 15 = .ok (.lastore, 1) := by decide +kernel
theorem dJ7_fill_d0a16_16 : decode cJ7_fill_d0a16 16 = .ok (.iinc 3 1, 3) := by decide +kernel
theorem dJ7_fill_d0a16_19 : decode cJ7_fill_d0a16 19 = .ok (.goto (-13), 3) := by decide +kernel
theorem dJ7_fill_d0a16_22 : decode cJ7_fill_d0a16 22 = .ok (.return_, 1) := by decide +kernel
theorem dJ7_fill_53178_0 : decode cJ7_fill_53178 0 = .ok (.iconst 0, 1) := by decide +kernel
theorem dJ7_fill_53178_1 : decode cJ7_fill_53178 1 = .ok (.istore_n 2, 1) := by decide +kernel
theorem dJ7_fill_53178_2 : decode cJ7_fill_53178 2 = .ok (.aload_n 0, 1) := by decide +kernel
theorem dJ7_fill_53178_3 : decode cJ7_fill_53178 3 = .ok (.arraylength, 1) := by decide +kernel
theorem dJ7_fill_53178_4 : decode cJ7_fill_53178 4 = .ok (.istore_n 3, 1) := by decide +kernel
theorem dJ7_fill_53178_5 : decode cJ7_fill_53178 5 = .ok (.iload_n 2, 1) := by decide +kernel
theorem dJ7_fill_53178_6 : decode cJ7_fill_53178 6 = .ok (.iload_n 3, 1) := by decide +kernel
theorem dJ7_fill_53178_7 : decode cJ7_fill_53178 7 = .ok (.if_icmp .ge 13, 3) := by decide +kernel
theorem dJ7_fill_53178_10 : decode cJ7_fill_53178 10 = .ok (.aload_n 0, 1) := by decide +kernel
theorem dJ7_fill_53178_11 : decode cJ7_fill_53178 11 = .ok (.iload_n 2, 1) := by decide +kernel
theorem dJ7_fill_53178_12 : decode cJ7_fill_53178 12 = .ok (.iload_n 1, 1) := by decide +kernel
theorem dJ7_fill_53178_13 : decode cJ7_fill_53178 13 = .ok (.iastore, 1) := by decide +kernel
theorem dJ7_fill_53178_14 : decode cJ7_fill_53178 14 = .ok (.iinc 2 1, 3) := by decide +kernel
theorem dJ7_fill_53178_17 : decode cJ7_fill_53178 17 = .ok (.goto (-12), 3) := by decide +kernel
theorem dJ7_fill_53178_20 : decode cJ7_fill_53178 20 = .ok (.return_, 1) := by decide +kernel
theorem dJ3_checkIndex_8e157_0 : decode cJ3_checkIndex_8e157 0 = .ok (.iload_n 0, 1) := by decide +kernel
theorem dJ3_checkIndex_8e157_1 : decode cJ3_checkIndex_8e157 1 = .ok (.ifCond .lt 8, 3) := by decide +kernel
theorem dJ3_checkIndex_8e157_4 : decode cJ3_checkIndex_8e157 4 = .ok (.iload_n 0, 1) := by decide +kernel
theorem dJ3_checkIndex_8e157_5 : decode cJ3_checkIndex_8e157 5 = .ok (.iload_n 1, 1) := by decide +kernel
theorem dJ3_checkIndex_8e157_6 : decode cJ3_checkIndex_8e157 6 = .ok (.if_icmp .lt 10, 3) := by decide +kernel
theorem dJ3_checkIndex_8e157_9 : decode cJ3_checkIndex_8e157 9 = .ok (.aload_n 2, 1) := by decide +kernel
theorem dJ3_checkIndex_8e157_10 : decode cJ3_checkIndex_8e157 10 = .ok (.iload_n 0, 1) := by decide +kernel
theorem dJ3_checkIndex_8e157_11 : decode cJ3_checkIndex_8e157 11 = .ok (.iload_n 1, 1) := by decide +kernel
theorem dJ3_checkIndex_8e157_12 : decode cJ3_checkIndex_8e157 12 = .ok (.invokestatic 95, 3) := by decide +kernel
theorem dJ3_checkIndex_8e157_15 : decode cJ3_checkIndex_8e157 15 = .ok (.athrow, 1) := by decide +kernel
theorem dJ3_checkIndex_8e157_16 : decode cJ3_checkIndex_8e157 16 = .ok (.iload_n 0, 1) := by decide +kernel
theorem dJ3_checkIndex_8e157_17 : decode cJ3_checkIndex_8e157 17 = .ok (.ireturn, 1) := by decide +kernel
set_option maxRecDepth 20000 in
theorem ggL_law_X11_init : GoodIn wsL_law wsX11_init := goodIn_r _ [9, 10, 11, 12, 13, 14, 15, 16, 17, 18, 19, 20, 21, 22, 23, 24, 25, 26, 27, 28, 29, 30, 31, 32, 33, 34, 35, 36, 37, 38, 39, 40, 41, 42, 43, 44, 45, 46, 47, 48, 49, 50, 51, 52, 53, 54, 55, 56, 57, 58, 59, 60, 61, 62, 63, 64, 65, 66, 67, 68, 1028, 1029, 1030, 1031, 1032, 1033, 1034, 1035, 1036, 1037, 1038, 1082, 1083, 1084, 1085, 1086, 1087, 1088, 1089, 1090, 1091, 1092, 1093, 1094, 1095, 1096, 1097, 1098, 1099, 1100, 1101, 1102, 1103, 1104] rfl (by decide +kernel)
set_option maxRecDepth 20000 in
theorem gL_law_X11_init : GoodIn wsL_law (wsX11_init) := ggL_law_X11_init
set_option maxRecDepth 20000 in
theorem ggL_law_X12_init : GoodIn wsL_law wsX12_init := goodIn_r _ [71, 72, 11, 12, 19, 73, 74, 75, 76, 77, 78, 79, 80, 81, 82, 83, 84, 85, 86, 87, 88, 48, 89, 90, 91, 92, 93, 94, 95, 96, 97, 98, 99, 100, 101, 102, 103, 1039, 1040, 1041, 1042, 1043, 1044, 1045, 1046, 1047, 1048, 1049, 1050, 1051, 1052, 1053, 1054, 1055, 1056, 1057, 1058, 1059, 1060, 1061, 1062, 1063, 1064, 1065, 1066, 1067, 1068, 1069, 1070, 1071, 1072, 1073, 1074, 1075, 1076, 1077, 1078, 1079, 1080, 1081] rfl (by decide +kernel)
set_option maxRecDepth 20000 in
theorem gL_law_X12_init : GoodIn wsL_law (wsX12_init) := ggL_law_X12_init
set_option maxRecDepth 20000 in
theorem ggL_law_X11_reader : GoodIn wsL_law wsX11_reader := goodIn_r _ [107, 14, 108, 109, 2, 110, 111, 112, 113, 39, 114, 60, 61, 62, 64, 63, 65, 66, 67, 68, 1028, 1029, 1030, 1031, 1032, 1033, 1034, 1035, 1036, 1037, 1038, 1100, 1101, 1102, 1103, 1104] rfl (by decide +kernel)
set_option maxRecDepth 20000 in
theorem gL_law_X11_reader : GoodIn wsL_law (wsV RL 13 RX11 yX11_reader wsX11_reader) := goodIn_app (goodIn_of _ (by decide +kernel)) ggL_law_X11_reader
set_option maxRecDepth 20000 in
theorem ggL_law_X12_reader : GoodIn wsL_law wsX12_reader := goodIn_r _ [118, 119, 73, 74, 75, 120, 121, 5, 122, 123, 124, 125, 1039, 1040, 1041, 1042, 1043, 1044, 1045, 1046, 1047, 1048, 1049, 1050, 1051, 1052, 1053, 1054, 1055, 1056, 1057, 1058, 1059, 1060, 1061, 1062, 1063, 1064, 1065, 1066, 1067, 1068, 1069, 1070, 1071, 1072, 1073, 1074, 1075, 1076, 1077, 1078, 1079, 1080, 1081] rfl (by decide +kernel)
set_option maxRecDepth 20000 in
theorem gL_law_X12_reader : GoodIn wsL_law (wsV RL 17 RX12 yX12_reader wsX12_reader) := goodIn_app (goodIn_of _ (by decide +kernel)) ggL_law_X12_reader
set_option maxRecDepth 20000 in
theorem ggL_law_X11_write : GoodIn wsL_law wsX11_write := goodIn_r _ [129, 18, 130, 131, 132, 17, 133, 44, 43, 134, 1028, 1029, 1030, 1031, 1032, 1033, 1034, 1035, 1036, 1037, 1038, 1082, 1083, 1084, 1085, 1086, 1087, 1088, 1089, 1090] rfl (by decide +kernel)
set_option maxRecDepth 20000 in
theorem gL_law_X11_write : GoodIn wsL_law (wsV RL 20 RX11 yX11_write wsX11_write) := goodIn_app (goodIn_of _ (by decide +kernel)) ggL_law_X11_write
set_option maxRecDepth 20000 in
theorem ggL_law_X12_write : GoodIn wsL_law wsX12_write := goodIn_r _ [138, 139, 140, 78, 141, 123, 124, 5, 125, 1039, 1040, 1041, 1042, 1043, 1044, 1045, 1046, 1047, 1048, 1049, 1050, 1051, 1052, 1053, 1054, 1055, 1056, 1057, 1058, 1059, 1060, 1061, 1062, 1063, 1064, 1065, 1066, 1067, 1068, 1069, 1070, 1071, 1072, 1073, 1074, 1075, 1076, 1077, 1078, 1079, 1080, 1081] rfl (by decide +kernel)
set_option maxRecDepth 20000 in
theorem gL_law_X12_write : GoodIn wsL_law (wsV RL 24 RX12 yX12_write wsX12_write) := goodIn_app (goodIn_of _ (by decide +kernel)) ggL_law_X12_write
set_option maxRecDepth 20000 in
theorem ggL_law_X11_erase : GoodIn wsL_law wsX11_erase := goodIn_r _ [145, 18, 1028, 1029, 1030, 1031, 1032, 1033, 1034, 1035, 1036, 1037, 1038, 1082, 1083, 1084, 1085, 1086, 1087, 1088, 1089, 1090] rfl (by decide +kernel)
set_option maxRecDepth 20000 in
theorem gL_law_X11_erase : GoodIn wsL_law (wsV RL 25 RX11 yX11_erase wsX11_erase) := goodIn_app (goodIn_of _ (by decide +kernel)) ggL_law_X11_erase
set_option maxRecDepth 20000 in
theorem ggL_law_X12_erase : GoodIn wsL_law wsX12_erase := goodIn_r _ [149, 140, 1039, 1040, 1041, 1042, 1043, 1044, 1045, 1046, 1047, 1048, 1049, 1050, 1051, 1052, 1053, 1054, 1055, 1056, 1057, 1058, 1059, 1060, 1061, 1062, 1063, 1064, 1065, 1066, 1067, 1068, 1069, 1070, 1071, 1072, 1073, 1074, 1075, 1076, 1077, 1078, 1079, 1080, 1081] rfl (by decide +kernel)
set_option maxRecDepth 20000 in
theorem gL_law_X12_erase : GoodIn wsL_law (wsV RL 29 RX12 yX12_erase wsX12_erase) := goodIn_app (goodIn_of _ (by decide +kernel)) ggL_law_X12_erase
set_option maxRecDepth 20000 in
theorem ggL_law_X11_fault : GoodIn wsL_law wsX11_fault := goodIn_r _ [153, 18, 14, 108, 109, 2, 110, 154, 155, 156, 17, 157, 158, 159, 44, 160, 161, 162, 163, 164, 165, 166, 167, 168, 43, 169, 170, 171, 172, 173, 174, 175, 176, 177, 178, 179, 180, 181, 182, 183, 184, 185, 186, 187, 39, 188, 60, 189, 190, 191, 192, 193, 194, 195, 196, 197, 198, 199, 200, 201, 202, 203, 204, 205, 206, 207, 208, 209, 210, 211, 212, 213, 214, 215, 216, 217, 218, 219, 220, 221, 222, 223, 224, 225, 226, 227, 228, 229, 230, 231, 232, 233, 234, 235, 236, 237, 238, 239, 240, 241, 242, 243, 244, 245, 246, 247, 248, 249, 250, 251, 252, 253, 254, 255, 256, 257, 258, 259, 260, 261, 262, 263, 264, 265, 62, 64, 63, 266, 267, 268, 1028, 1029, 1030, 1031, 1032, 1033, 1034, 1035, 1036, 1037, 1038, 1082, 1083, 1084, 1085, 1086, 1087, 1088, 1089, 1090, 1100, 1101, 1102, 1103, 1104] rfl (by decide +kernel)
set_option maxRecDepth 20000 in
theorem gL_law_X11_fault : GoodIn wsL_law (wsV RL 30 RX11 yX11_fault wsX11_fault) := goodIn_app (goodIn_of _ (by decide +kernel)) ggL_law_X11_fault
set_option maxRecDepth 20000 in
theorem ggL_law_X12_fault : GoodIn wsL_law wsX12_fault := goodIn_r _ [272, 273, 274, 275, 140, 276, 78, 120, 121, 5, 122, 123, 124, 125, 277, 278, 279, 280, 281, 282, 283, 284, 285, 286, 287, 79, 80, 288, 289, 81, 290, 291, 82, 83, 292, 293, 294, 295, 73, 296, 297, 298, 299, 300, 301, 302, 303, 304, 305, 1039, 1040, 1041, 1042, 1043, 1044, 1045, 1046, 1047, 1048, 1049, 1050, 1051, 1052, 1053, 1054, 1055, 1056, 1057, 1058, 1059, 1060, 1061, 1062, 1063, 1064, 1065, 1066, 1067, 1068, 1069, 1070, 1071, 1072, 1073, 1074, 1075, 1076, 1077, 1078, 1079, 1080, 1081] rfl (by decide +kernel)
set_option maxRecDepth 20000 in
theorem gL_law_X12_fault : GoodIn wsL_law (wsV RL 34 RX12 yX12_fault wsX12_fault) := goodIn_app (goodIn_of _ (by decide +kernel)) ggL_law_X12_fault
set_option maxRecDepth 20000 in
theorem ggL_law_X11_moves : GoodIn wsL_law wsX11_moves := goodIn_r _ [309, 18, 14, 108, 109, 2, 110, 154, 155, 156, 17, 157, 158, 159, 44, 160, 161, 162, 163, 164, 165, 166, 167, 168, 43, 169, 170, 171, 172, 173, 174, 175, 176, 177, 178, 179, 180, 181, 182, 183, 184, 185, 186, 187, 39, 188, 60, 189, 190, 191, 192, 193, 194, 195, 196, 197, 198, 199, 200, 201, 202, 203, 204, 205, 206, 207, 208, 209, 210, 211, 212, 213, 214, 215, 216, 217, 218, 219, 220, 221, 222, 223, 224, 225, 226, 227, 228, 229, 230, 231, 232, 233, 234, 235, 236, 237, 238, 239, 240, 241, 242, 243, 244, 245, 246, 247, 248, 249, 250, 251, 252, 253, 254, 255, 256, 257, 258, 259, 260, 261, 262, 263, 264, 265, 62, 64, 63, 266, 267, 268, 1028, 1029, 1030, 1031, 1032, 1033, 1034, 1035, 1036, 1037, 1038, 1082, 1083, 1084, 1085, 1086, 1087, 1088, 1089, 1090, 1100, 1101, 1102, 1103, 1104] rfl (by decide +kernel)
set_option maxRecDepth 20000 in
theorem gL_law_X11_moves : GoodIn wsL_law (wsV RL 35 RX11 yX11_moves wsX11_moves) := goodIn_app (goodIn_of _ (by decide +kernel)) ggL_law_X11_moves
set_option maxRecDepth 20000 in
theorem ggL_law_X12_moves : GoodIn wsL_law wsX12_moves := goodIn_r _ [313, 274, 79, 80, 75, 82, 76, 81, 77, 83, 140, 120, 121, 5, 122, 123, 124, 125, 314, 270, 271, 272, 273, 275, 276, 78, 277, 278, 279, 280, 281, 282, 283, 284, 285, 286, 287, 288, 289, 290, 291, 292, 293, 294, 295, 73, 296, 297, 298, 299, 300, 301, 302, 303, 304, 305, 315, 316, 317, 318, 319, 320, 321, 1039, 1040, 1041, 1042, 1043, 1044, 1045, 1046, 1047, 1048, 1049, 1050, 1051, 1052, 1053, 1054, 1055, 1056, 1057, 1058, 1059, 1060, 1061, 1062, 1063, 1064, 1065, 1066, 1067, 1068, 1069, 1070, 1071, 1072, 1073, 1074, 1075, 1076, 1077, 1078, 1079, 1080, 1081] rfl (by decide +kernel)
set_option maxRecDepth 20000 in
theorem gL_law_X12_moves : GoodIn wsL_law (wsV RL 38 RX12 yX12_moves wsX12_moves) := goodIn_app (goodIn_of _ (by decide +kernel)) ggL_law_X12_moves
set_option maxRecDepth 20000 in
theorem ggL_law_X11_move : GoodIn wsL_law wsX11_move := goodIn_r _ [325, 14, 108, 109, 2, 110, 326, 186, 187, 39, 188, 60, 327, 267, 268, 328, 329, 330, 331, 64, 332, 333, 334, 335, 336, 337, 338, 339, 340, 1028, 1029, 1030, 1031, 1032, 1033, 1034, 1035, 1036, 1037, 1038, 1100, 1101, 1102, 1103, 1104] rfl (by decide +kernel)
set_option maxRecDepth 20000 in
theorem gL_law_X11_move : GoodIn wsL_law (wsV RL 39 RX11 yX11_move wsX11_move) := goodIn_app (goodIn_of _ (by decide +kernel)) ggL_law_X11_move
set_option maxRecDepth 20000 in
theorem ggL_law_X12_move : GoodIn wsL_law wsX12_move := goodIn_r _ [344, 345, 346, 75, 76, 77, 347, 348, 349, 5, 350, 73, 120, 121, 122, 123, 124, 125, 315, 316, 317, 1039, 1040, 1041, 1042, 1043, 1044, 1045, 1046, 1047, 1048, 1049, 1050, 1051, 1052, 1053, 1054, 1055, 1056, 1057, 1058, 1059, 1060, 1061, 1062, 1063, 1064, 1065, 1066, 1067, 1068, 1069, 1070, 1071, 1072, 1073, 1074, 1075, 1076, 1077, 1078, 1079, 1080, 1081] rfl (by decide +kernel)
set_option maxRecDepth 20000 in
theorem gL_law_X12_move : GoodIn wsL_law (wsV RL 43 RX12 yX12_move wsX12_move) := goodIn_app (goodIn_of _ (by decide +kernel)) ggL_law_X12_move
set_option maxRecDepth 20000 in
theorem ggL_law_X11_drop : GoodIn wsL_law wsX11_drop := goodIn_r _ [354, 14, 108, 109, 2, 110, 328, 329, 330, 39, 331, 60, 64, 355, 263, 264, 265, 62, 63, 266, 186, 187, 188, 267, 268, 1028, 1029, 1030, 1031, 1032, 1033, 1034, 1035, 1036, 1037, 1038, 1100, 1101, 1102, 1103, 1104] rfl (by decide +kernel)
set_option maxRecDepth 20000 in
theorem gL_law_X11_drop : GoodIn wsL_law (wsV RL 44 RX11 yX11_drop wsX11_drop) := goodIn_app (goodIn_of _ (by decide +kernel)) ggL_law_X11_drop
set_option maxRecDepth 20000 in
theorem ggL_law_X12_drop : GoodIn wsL_law wsX12_drop := goodIn_r _ [359, 345, 75, 347, 348, 349, 5, 350, 73, 120, 121, 122, 123, 124, 125, 315, 316, 317, 318, 319, 320, 321, 1039, 1040, 1041, 1042, 1043, 1044, 1045, 1046, 1047, 1048, 1049, 1050, 1051, 1052, 1053, 1054, 1055, 1056, 1057, 1058, 1059, 1060, 1061, 1062, 1063, 1064, 1065, 1066, 1067, 1068, 1069, 1070, 1071, 1072, 1073, 1074, 1075, 1076, 1077, 1078, 1079, 1080, 1081] rfl (by decide +kernel)
set_option maxRecDepth 20000 in
theorem gL_law_X12_drop : GoodIn wsL_law (wsV RL 47 RX12 yX12_drop wsX12_drop) := goodIn_app (goodIn_of _ (by decide +kernel)) ggL_law_X12_drop
set_option maxRecDepth 20000 in
theorem ggL_law_X11_letter : GoodIn wsL_law wsX11_letter := goodIn_r _ [363, 21, 20, 364, 250, 2, 251, 1028, 1029, 1030, 1031, 1032, 1033, 1034, 1035, 1036, 1037, 1038] rfl (by decide +kernel)
set_option maxRecDepth 20000 in
theorem gL_law_X11_letter : GoodIn wsL_law (wsV RL 48 RX11 yX11_letter wsX11_letter) := goodIn_app (goodIn_of _ (by decide +kernel)) ggL_law_X11_letter
set_option maxRecDepth 20000 in
theorem ggL_law_X12_letter : GoodIn wsL_law wsX12_letter := goodIn_r _ [368, 346, 369, 84, 123, 124, 5, 125, 1039, 1040, 1041, 1042, 1043, 1044, 1045, 1046, 1047, 1048, 1049, 1050, 1051, 1052, 1053, 1054, 1055, 1056, 1057, 1058, 1059, 1060, 1061, 1062, 1063, 1064, 1065, 1066, 1067, 1068, 1069, 1070, 1071, 1072, 1073, 1074, 1075, 1076, 1077, 1078, 1079, 1080, 1081] rfl (by decide +kernel)
set_option maxRecDepth 20000 in
theorem gL_law_X12_letter : GoodIn wsL_law (wsV RL 51 RX12 yX12_letter wsX12_letter) := goodIn_app (goodIn_of _ (by decide +kernel)) ggL_law_X12_letter
set_option maxRecDepth 20000 in
theorem ggL_law_X11_row : GoodIn wsL_law wsX11_row := goodIn_r _ [373, 20, 21, 374, 375, 2, 376, 377, 364, 250, 251, 1028, 1029, 1030, 1031, 1032, 1033, 1034, 1035, 1036, 1037, 1038] rfl (by decide +kernel)
set_option maxRecDepth 20000 in
theorem gL_law_X11_row : GoodIn wsL_law (wsV RL 52 RX11 yX11_row wsX11_row) := goodIn_app (goodIn_of _ (by decide +kernel)) ggL_law_X11_row
set_option maxRecDepth 20000 in
theorem ggL_law_X12_row : GoodIn wsL_law wsX12_row := goodIn_r _ [381, 382, 383, 84, 369, 123, 124, 5, 125, 1039, 1040, 1041, 1042, 1043, 1044, 1045, 1046, 1047, 1048, 1049, 1050, 1051, 1052, 1053, 1054, 1055, 1056, 1057, 1058, 1059, 1060, 1061, 1062, 1063, 1064, 1065, 1066, 1067, 1068, 1069, 1070, 1071, 1072, 1073, 1074, 1075, 1076, 1077, 1078, 1079, 1080, 1081] rfl (by decide +kernel)
set_option maxRecDepth 20000 in
theorem gL_law_X12_row : GoodIn wsL_law (wsV RL 55 RX12 yX12_row wsX12_row) := goodIn_app (goodIn_of _ (by decide +kernel)) ggL_law_X12_row
set_option maxRecDepth 20000 in
theorem ggL_law_X11_run : GoodIn wsL_law wsX11_run := goodIn_r _ [387, 25, 14, 20, 21, 108, 109, 2, 110, 388, 389, 390, 24, 391, 49, 392, 393, 394, 395, 396, 397, 398, 67, 399, 400, 401, 402, 403, 404, 405, 406, 407, 408, 329, 330, 39, 331, 60, 64, 409, 410, 411, 412, 61, 266, 186, 187, 188, 413, 339, 340, 414, 415, 416, 417, 50, 418, 336, 337, 419, 333, 334, 1028, 1029, 1030, 1031, 1032, 1033, 1034, 1035, 1036, 1037, 1038, 1091, 1092, 1093, 1094, 1095, 1096, 1097, 1100, 1101, 1102, 1103, 1104] rfl (by decide +kernel)
set_option maxRecDepth 20000 in
theorem gL_law_X11_run : GoodIn wsL_law (wsV RL 56 RX11 yX11_run wsX11_run) := goodIn_app (goodIn_of _ (by decide +kernel)) ggL_law_X11_run
set_option maxRecDepth 20000 in
theorem ggL_law_X12_run : GoodIn wsL_law wsX12_run := goodIn_r _ [423, 345, 424, 425, 426, 427, 428, 120, 121, 5, 122, 123, 124, 125, 429, 430, 431, 432, 369, 85, 84, 433, 434, 435, 436, 437, 87, 75, 74, 77, 88, 76, 315, 316, 317, 1039, 1040, 1041, 1042, 1043, 1044, 1045, 1046, 1047, 1048, 1049, 1050, 1051, 1052, 1053, 1054, 1055, 1056, 1057, 1058, 1059, 1060, 1061, 1062, 1063, 1064, 1065, 1066, 1067, 1068, 1069, 1070, 1071, 1072, 1073, 1074, 1075, 1076, 1077, 1078, 1079, 1080, 1081] rfl (by decide +kernel)
set_option maxRecDepth 20000 in
theorem gL_law_X12_run : GoodIn wsL_law (wsV RL 60 RX12 yX12_run wsX12_run) := goodIn_app (goodIn_of _ (by decide +kernel)) ggL_law_X12_run
set_option maxRecDepth 20000 in
theorem ggL_law_X11_said : GoodIn wsL_law wsX11_said := goodIn_r _ [441, 25, 14, 20, 21, 108, 109, 2, 110, 388, 389, 390, 24, 391, 49, 392, 393, 394, 395, 396, 397, 398, 67, 399, 400, 401, 402, 403, 404, 405, 406, 407, 408, 329, 330, 39, 331, 60, 64, 409, 410, 411, 412, 61, 266, 186, 187, 188, 413, 339, 340, 414, 415, 416, 417, 50, 418, 336, 337, 419, 333, 334, 1028, 1029, 1030, 1031, 1032, 1033, 1034, 1035, 1036, 1037, 1038, 1091, 1092, 1093, 1094, 1095, 1096, 1097, 1100, 1101, 1102, 1103, 1104] rfl (by decide +kernel)
set_option maxRecDepth 20000 in
theorem gL_law_X11_said : GoodIn wsL_law (wsV RL 61 RX11 yX11_said wsX11_said) := goodIn_app (goodIn_of _ (by decide +kernel)) ggL_law_X11_said
set_option maxRecDepth 20000 in
theorem ggL_law_X12_said : GoodIn wsL_law wsX12_said := goodIn_r _ [445, 428, 88, 120, 121, 5, 122, 123, 124, 125, 429, 430, 431, 432, 369, 85, 84, 433, 434, 435, 436, 437, 87, 424, 425, 426, 427, 75, 74, 77, 76, 315, 316, 317, 1039, 1040, 1041, 1042, 1043, 1044, 1045, 1046, 1047, 1048, 1049, 1050, 1051, 1052, 1053, 1054, 1055, 1056, 1057, 1058, 1059, 1060, 1061, 1062, 1063, 1064, 1065, 1066, 1067, 1068, 1069, 1070, 1071, 1072, 1073, 1074, 1075, 1076, 1077, 1078, 1079, 1080, 1081] rfl (by decide +kernel)
set_option maxRecDepth 20000 in
theorem gL_law_X12_said : GoodIn wsL_law (wsV RL 64 RX12 yX12_said wsX12_said) := goodIn_app (goodIn_of _ (by decide +kernel)) ggL_law_X12_said
set_option maxRecDepth 20000 in
theorem ggL_law_X11_table : GoodIn wsL_law wsX11_table := goodIn_r _ [449, 14, 21, 20, 108, 109, 2, 110, 326, 186, 187, 39, 188, 60, 450, 451, 452, 453, 454, 455, 456, 457, 329, 330, 331, 64, 458, 459, 460, 461, 333, 334, 462, 336, 337, 463, 464, 465, 466, 467, 468, 469, 470, 471, 472, 473, 474, 475, 476, 1028, 1029, 1030, 1031, 1032, 1033, 1034, 1035, 1036, 1037, 1038, 1100, 1101, 1102, 1103, 1104] rfl (by decide +kernel)
set_option maxRecDepth 20000 in
theorem gL_law_X11_table : GoodIn wsL_law (wsV RL 65 RX11 yX11_table wsX11_table) := goodIn_app (goodIn_of _ (by decide +kernel)) ggL_law_X11_table
set_option maxRecDepth 20000 in
theorem ggL_law_X12_table : GoodIn wsL_law wsX12_table := goodIn_r _ [480, 369, 347, 348, 349, 5, 350, 73, 120, 121, 122, 123, 124, 125, 481, 482, 483, 484, 84, 485, 486, 487, 488, 75, 489, 76, 315, 316, 317, 490, 491, 492, 493, 494, 495, 496, 497, 498, 499, 500, 501, 1039, 1040, 1041, 1042, 1043, 1044, 1045, 1046, 1047, 1048, 1049, 1050, 1051, 1052, 1053, 1054, 1055, 1056, 1057, 1058, 1059, 1060, 1061, 1062, 1063, 1064, 1065, 1066, 1067, 1068, 1069, 1070, 1071, 1072, 1073, 1074, 1075, 1076, 1077, 1078, 1079, 1080, 1081] rfl (by decide +kernel)
set_option maxRecDepth 20000 in
theorem gL_law_X12_table : GoodIn wsL_law (wsV RL 68 RX12 yX12_table wsX12_table) := goodIn_app (goodIn_of _ (by decide +kernel)) ggL_law_X12_table
set_option maxRecDepth 20000 in
theorem ggL_law_X11_like : GoodIn wsL_law wsX11_like := goodIn_r _ [505, 21, 14, 20, 108, 109, 2, 110, 506, 507, 508, 509, 31, 30, 510, 452, 511, 512, 513, 514, 11, 12, 515, 516, 517, 518, 48, 519, 520, 521, 522, 523, 524, 525, 526, 527, 528, 529, 530, 531, 532, 533, 534, 19, 535, 536, 537, 538, 539, 540, 541, 542, 543, 544, 545, 546, 547, 548, 549, 550, 551, 552, 553, 554, 555, 556, 557, 558, 559, 560, 561, 66, 67, 68, 454, 455, 456, 457, 329, 330, 39, 331, 60, 64, 458, 459, 460, 461, 333, 334, 462, 336, 337, 463, 464, 465, 562, 563, 564, 565, 566, 567, 568, 569, 570, 571, 572, 573, 574, 575, 576, 577, 578, 579, 580, 581, 582, 466, 467, 468, 469, 470, 471, 472, 473, 474, 475, 450, 451, 453, 583, 584, 585, 586, 587, 588, 589, 590, 1028, 1029, 1030, 1031, 1032, 1033, 1034, 1035, 1036, 1037, 1038, 1105, 1106, 1107, 1108, 1109, 1110, 1111, 1112, 1113, 1114, 1115, 1116, 1100, 1101, 1102, 1103, 1104] rfl (by decide +kernel)
set_option maxRecDepth 20000 in
theorem gL_law_X11_like : GoodIn wsL_law (wsV RL 69 RX11 yX11_like wsX11_like) := goodIn_app (goodIn_of _ (by decide +kernel)) ggL_law_X11_like
set_option maxRecDepth 20000 in
theorem ggL_law_X12_like : GoodIn wsL_law wsX12_like := goodIn_r _ [594, 369, 120, 121, 5, 122, 123, 124, 125, 595, 596, 597, 598, 599, 89, 485, 486, 487, 488, 73, 75, 489, 76, 315, 316, 317, 600, 601, 602, 603, 604, 605, 606, 607, 90, 91, 490, 491, 492, 493, 494, 495, 496, 497, 498, 499, 500, 501, 481, 482, 483, 484, 84, 608, 609, 610, 611, 1039, 1040, 1041, 1042, 1043, 1044, 1045, 1046, 1047, 1048, 1049, 1050, 1051, 1052, 1053, 1054, 1055, 1056, 1057, 1058, 1059, 1060, 1061, 1062, 1063, 1064, 1065, 1066, 1067, 1068, 1069, 1070, 1071, 1072, 1073, 1074, 1075, 1076, 1077, 1078, 1079, 1080, 1081] rfl (by decide +kernel)
set_option maxRecDepth 20000 in
theorem gL_law_X12_like : GoodIn wsL_law (wsV RL 72 RX12 yX12_like wsX12_like) := goodIn_app (goodIn_of _ (by decide +kernel)) ggL_law_X12_like
set_option maxRecDepth 20000 in
theorem ggL_law_X11_kinds : GoodIn wsL_law wsX11_kinds := goodIn_r _ [615, 108, 109, 2, 110, 506, 507, 508, 509, 31, 30, 510, 452, 14, 511, 512, 513, 514, 11, 12, 515, 516, 517, 518, 48, 519, 520, 521, 522, 523, 524, 525, 526, 527, 528, 529, 530, 531, 532, 533, 534, 19, 535, 536, 537, 538, 539, 540, 541, 542, 543, 544, 545, 546, 547, 548, 549, 550, 551, 552, 553, 554, 555, 556, 557, 558, 559, 560, 561, 66, 67, 68, 454, 455, 456, 457, 329, 330, 39, 331, 60, 64, 458, 459, 460, 461, 333, 334, 462, 336, 337, 463, 464, 465, 562, 563, 564, 565, 566, 567, 568, 569, 570, 571, 572, 573, 574, 575, 576, 577, 578, 579, 580, 581, 582, 466, 467, 468, 469, 470, 471, 472, 473, 474, 475, 1105, 1106, 1107, 1108, 1109, 1110, 1111, 1112, 1113, 1114, 1115, 1116, 1028, 1029, 1030, 1031, 1032, 1033, 1034, 1035, 1036, 1037, 1038, 1100, 1101, 1102, 1103, 1104] rfl (by decide +kernel)
set_option maxRecDepth 20000 in
theorem gL_law_X11_kinds : GoodIn wsL_law (wsV RL 73 RX11 yX11_kinds wsX11_kinds) := goodIn_app (goodIn_of _ (by decide +kernel)) ggL_law_X11_kinds
set_option maxRecDepth 20000 in
theorem ggL_law_X12_kinds : GoodIn wsL_law wsX12_kinds := goodIn_r _ [619, 599, 120, 121, 5, 122, 123, 124, 125, 595, 596, 597, 598, 89, 485, 486, 487, 488, 73, 75, 489, 76, 315, 316, 317, 600, 601, 602, 603, 604, 605, 606, 607, 90, 91, 490, 491, 492, 493, 494, 495, 496, 497, 498, 499, 500, 501, 1039, 1040, 1041, 1042, 1043, 1044, 1045, 1046, 1047, 1048, 1049, 1050, 1051, 1052, 1053, 1054, 1055, 1056, 1057, 1058, 1059, 1060, 1061, 1062, 1063, 1064, 1065, 1066, 1067, 1068, 1069, 1070, 1071, 1072, 1073, 1074, 1075, 1076, 1077, 1078, 1079, 1080, 1081] rfl (by decide +kernel)
set_option maxRecDepth 20000 in
theorem gL_law_X12_kinds : GoodIn wsL_law (wsV RL 76 RX12 yX12_kinds wsX12_kinds) := goodIn_app (goodIn_of _ (by decide +kernel)) ggL_law_X12_kinds
set_option maxRecDepth 20000 in
theorem ggL_law_X11_many : GoodIn wsL_law wsX11_many := goodIn_r _ [623, 108, 109, 2, 110, 624, 625, 626, 627, 35, 34, 628, 629, 630, 631, 632, 633, 33, 32, 634, 635, 14, 636, 637, 638, 639, 11, 12, 640, 516, 517, 641, 19, 642, 643, 644, 645, 646, 523, 524, 525, 526, 527, 528, 529, 530, 531, 532, 533, 534, 535, 536, 537, 538, 539, 540, 541, 542, 543, 544, 545, 546, 48, 547, 548, 647, 648, 649, 650, 651, 554, 555, 556, 557, 558, 559, 560, 561, 66, 67, 68, 652, 653, 654, 655, 656, 329, 330, 39, 331, 60, 64, 657, 333, 334, 658, 659, 660, 661, 662, 563, 564, 565, 566, 567, 568, 569, 570, 571, 572, 573, 574, 575, 576, 577, 578, 663, 580, 581, 582, 664, 665, 666, 667, 668, 669, 670, 671, 410, 411, 412, 61, 266, 186, 187, 188, 672, 673, 674, 675, 676, 677, 678, 679, 680, 336, 337, 681, 682, 683, 684, 685, 686, 687, 688, 689, 690, 691, 692, 693, 694, 695, 696, 697, 698, 699, 700, 701, 702, 703, 704, 705, 706, 707, 708, 709, 710, 711, 712, 713, 714, 715, 716, 717, 718, 719, 720, 721, 722, 723, 724, 725, 726, 727, 728, 729, 730, 731, 732, 733, 734, 735, 736, 737, 738, 739, 740, 741, 742, 743, 744, 250, 251, 745, 746, 747, 748, 749, 750, 751, 752, 753, 754, 755, 756, 757, 1117, 1118, 1119, 1120, 1121, 1109, 1110, 1111, 1112, 1113, 1028, 1029, 1030, 1031, 1032, 1033, 1034, 1035, 1036, 1037, 1038, 1122, 1123, 1124, 1125, 1126, 1127, 1128, 1129, 1130, 1131, 1132, 1133, 1114, 1115, 1116, 1100, 1101, 1102, 1103, 1104] rfl (by decide +kernel)
set_option maxRecDepth 20000 in
theorem gL_law_X11_many : GoodIn wsL_law (wsV RL 77 RX11 yX11_many wsX11_many) := goodIn_app (goodIn_of _ (by decide +kernel)) ggL_law_X11_many
set_option maxRecDepth 20000 in
theorem ggL_law_X12_many : GoodIn wsL_law wsX12_many := goodIn_r _ [761, 762, 94, 97, 98, 93, 763, 120, 121, 5, 122, 123, 124, 125, 764, 765, 766, 767, 92, 95, 96, 768, 769, 770, 771, 73, 75, 489, 315, 316, 317, 772, 773, 774, 775, 776, 777, 778, 501, 779, 780, 781, 782, 76, 783, 784, 785, 786, 787, 788, 789, 790, 791, 792, 793, 794, 74, 1039, 1040, 1041, 1042, 1043, 1044, 1045, 1046, 1047, 1048, 1049, 1050, 1051, 1052, 1053, 1054, 1055, 1056, 1057, 1058, 1059, 1060, 1061, 1062, 1063, 1064, 1065, 1066, 1067, 1068, 1069, 1070, 1071, 1072, 1073, 1074, 1075, 1076, 1077, 1078, 1079, 1080, 1081] rfl (by decide +kernel)
set_option maxRecDepth 20000 in
theorem gL_law_X12_many : GoodIn wsL_law (wsV RL 80 RX12 yX12_many wsX12_many) := goodIn_app (goodIn_of _ (by decide +kernel)) ggL_law_X12_many
set_option maxRecDepth 20000 in
theorem ggL_law_X11_of : GoodIn wsL_law wsX11_of := goodIn_r _ [798, 108, 109, 2, 110, 624, 625, 626, 627, 35, 34, 628, 629, 630, 631, 632, 633, 33, 32, 634, 635, 14, 636, 637, 638, 639, 11, 12, 640, 516, 517, 641, 19, 642, 643, 644, 645, 646, 523, 524, 525, 526, 527, 528, 529, 530, 531, 532, 533, 534, 535, 536, 537, 538, 539, 540, 541, 542, 543, 544, 545, 546, 48, 547, 548, 647, 648, 649, 650, 651, 554, 555, 556, 557, 558, 559, 560, 561, 66, 67, 68, 652, 653, 654, 655, 656, 329, 330, 39, 331, 60, 64, 657, 333, 334, 658, 659, 660, 661, 662, 563, 564, 565, 566, 567, 568, 569, 570, 571, 572, 573, 574, 575, 576, 577, 578, 663, 580, 581, 582, 664, 665, 666, 667, 668, 669, 670, 671, 410, 411, 412, 61, 266, 186, 187, 188, 672, 673, 674, 675, 676, 677, 678, 679, 680, 336, 337, 681, 682, 683, 684, 685, 686, 687, 688, 689, 690, 691, 692, 693, 694, 695, 696, 697, 698, 699, 700, 701, 702, 703, 704, 705, 706, 707, 708, 709, 710, 711, 712, 713, 714, 715, 716, 717, 718, 719, 720, 721, 722, 723, 724, 725, 726, 727, 728, 729, 730, 731, 732, 733, 734, 735, 736, 737, 738, 739, 740, 741, 742, 743, 744, 250, 251, 745, 746, 747, 748, 799, 800, 801, 802, 1117, 1118, 1119, 1120, 1121, 1109, 1110, 1111, 1112, 1113, 1028, 1029, 1030, 1031, 1032, 1033, 1034, 1035, 1036, 1037, 1038, 1122, 1123, 1124, 1125, 1126, 1127, 1128, 1129, 1130, 1131, 1132, 1133, 1114, 1115, 1116, 1100, 1101, 1102, 1103, 1104] rfl (by decide +kernel)
set_option maxRecDepth 20000 in
theorem gL_law_X11_of : GoodIn wsL_law (wsV RL 81 RX11 yX11_of wsX11_of) := goodIn_app (goodIn_of _ (by decide +kernel)) ggL_law_X11_of
set_option maxRecDepth 20000 in
theorem ggL_law_X12_of : GoodIn wsL_law wsX12_of := goodIn_r _ [806, 807, 99, 93, 120, 121, 5, 122, 123, 124, 125, 764, 765, 766, 767, 92, 94, 95, 96, 768, 769, 770, 771, 73, 75, 489, 315, 316, 317, 772, 773, 774, 775, 776, 777, 778, 501, 779, 780, 781, 782, 76, 783, 784, 785, 786, 808, 809, 810, 811, 787, 788, 789, 790, 791, 792, 793, 794, 74, 1039, 1040, 1041, 1042, 1043, 1044, 1045, 1046, 1047, 1048, 1049, 1050, 1051, 1052, 1053, 1054, 1055, 1056, 1057, 1058, 1059, 1060, 1061, 1062, 1063, 1064, 1065, 1066, 1067, 1068, 1069, 1070, 1071, 1072, 1073, 1074, 1075, 1076, 1077, 1078, 1079, 1080, 1081] rfl (by decide +kernel)
set_option maxRecDepth 20000 in
theorem gL_law_X12_of : GoodIn wsL_law (wsV RL 84 RX12 yX12_of wsX12_of) := goodIn_app (goodIn_of _ (by decide +kernel)) ggL_law_X12_of
set_option maxRecDepth 20000 in
theorem ggL_law_X11_rank : GoodIn wsL_law wsX11_rank := goodIn_r _ [815, 21, 20, 108, 109, 2, 110, 624, 625, 626, 627, 35, 34, 628, 629, 630, 631, 632, 633, 33, 32, 634, 635, 14, 636, 637, 638, 639, 11, 12, 640, 516, 517, 641, 19, 642, 643, 644, 645, 646, 523, 524, 525, 526, 527, 528, 529, 530, 531, 532, 533, 534, 535, 536, 537, 538, 539, 540, 541, 542, 543, 544, 545, 546, 48, 547, 548, 647, 648, 649, 650, 651, 554, 555, 556, 557, 558, 559, 560, 561, 66, 67, 68, 652, 653, 654, 655, 656, 329, 330, 39, 331, 60, 64, 657, 333, 334, 658, 659, 660, 661, 662, 563, 564, 565, 566, 567, 568, 569, 570, 571, 572, 573, 574, 575, 576, 577, 578, 663, 580, 581, 582, 664, 665, 666, 667, 668, 669, 670, 671, 410, 411, 412, 61, 266, 186, 187, 188, 672, 673, 674, 675, 676, 677, 678, 679, 680, 336, 337, 681, 682, 683, 684, 685, 686, 687, 688, 689, 690, 691, 692, 693, 694, 695, 696, 697, 698, 699, 700, 701, 702, 703, 704, 705, 706, 707, 708, 709, 710, 711, 712, 713, 714, 715, 716, 717, 718, 719, 720, 721, 722, 723, 724, 725, 726, 727, 728, 729, 730, 731, 732, 733, 734, 735, 736, 737, 738, 739, 740, 741, 742, 743, 744, 250, 251, 745, 746, 747, 748, 816, 817, 818, 819, 1028, 1029, 1030, 1031, 1032, 1033, 1034, 1035, 1036, 1037, 1038, 1117, 1118, 1119, 1120, 1121, 1109, 1110, 1111, 1112, 1113, 1122, 1123, 1124, 1125, 1126, 1127, 1128, 1129, 1130, 1131, 1132, 1133, 1114, 1115, 1116, 1100, 1101, 1102, 1103, 1104] rfl (by decide +kernel)
set_option maxRecDepth 20000 in
theorem gL_law_X11_rank : GoodIn wsL_law (wsV RL 85 RX11 yX11_rank wsX11_rank) := goodIn_app (goodIn_of _ (by decide +kernel)) ggL_law_X11_rank
set_option maxRecDepth 20000 in
theorem ggL_law_X12_rank : GoodIn wsL_law wsX12_rank := goodIn_r _ [823, 369, 84, 99, 93, 120, 121, 5, 122, 123, 124, 125, 764, 765, 766, 767, 92, 94, 95, 96, 768, 769, 770, 771, 73, 75, 489, 315, 316, 317, 772, 773, 774, 775, 776, 777, 778, 501, 779, 780, 781, 782, 76, 783, 784, 785, 786, 808, 809, 810, 811, 787, 788, 789, 790, 791, 792, 793, 794, 74, 1039, 1040, 1041, 1042, 1043, 1044, 1045, 1046, 1047, 1048, 1049, 1050, 1051, 1052, 1053, 1054, 1055, 1056, 1057, 1058, 1059, 1060, 1061, 1062, 1063, 1064, 1065, 1066, 1067, 1068, 1069, 1070, 1071, 1072, 1073, 1074, 1075, 1076, 1077, 1078, 1079, 1080, 1081] rfl (by decide +kernel)
set_option maxRecDepth 20000 in
theorem gL_law_X12_rank : GoodIn wsL_law (wsV RL 88 RX12 yX12_rank wsX12_rank) := goodIn_app (goodIn_of _ (by decide +kernel)) ggL_law_X12_rank
set_option maxRecDepth 20000 in
theorem ggL_law_X11_fewest : GoodIn wsL_law wsX11_fewest := goodIn_r _ [827, 108, 109, 2, 110, 624, 625, 626, 627, 35, 34, 628, 629, 630, 631, 632, 633, 33, 32, 634, 635, 14, 636, 637, 638, 639, 11, 12, 640, 516, 517, 641, 19, 642, 643, 644, 645, 646, 523, 524, 525, 526, 527, 528, 529, 530, 531, 532, 533, 534, 535, 536, 537, 538, 539, 540, 541, 542, 543, 544, 545, 546, 48, 547, 548, 647, 648, 649, 650, 651, 554, 555, 556, 557, 558, 559, 560, 561, 66, 67, 68, 652, 653, 654, 655, 656, 329, 330, 39, 331, 60, 64, 657, 333, 334, 658, 659, 660, 661, 662, 563, 564, 565, 566, 567, 568, 569, 570, 571, 572, 573, 574, 575, 576, 577, 578, 663, 580, 581, 582, 664, 665, 666, 667, 668, 669, 670, 671, 410, 411, 412, 61, 266, 186, 187, 188, 672, 673, 674, 675, 676, 677, 678, 679, 680, 336, 337, 681, 682, 683, 684, 685, 686, 687, 688, 689, 690, 691, 692, 693, 694, 695, 696, 697, 698, 699, 700, 701, 702, 703, 704, 705, 706, 707, 708, 709, 710, 711, 712, 713, 714, 715, 716, 717, 718, 719, 720, 721, 722, 723, 724, 725, 726, 727, 728, 729, 730, 731, 732, 733, 734, 735, 736, 737, 738, 739, 740, 741, 742, 743, 744, 250, 251, 745, 746, 747, 748, 1122, 1123, 1124, 1125, 1126, 1127, 1128, 1129, 1130, 1131, 1132, 1133, 1117, 1118, 1119, 1120, 1121, 1109, 1110, 1111, 1112, 1113, 1028, 1029, 1030, 1031, 1032, 1033, 1034, 1035, 1036, 1037, 1038, 1114, 1115, 1116, 1100, 1101, 1102, 1103, 1104] rfl (by decide +kernel)
set_option maxRecDepth 20000 in
theorem gL_law_X11_fewest : GoodIn wsL_law (wsV RL 89 RX11 yX11_fewest wsX11_fewest) := goodIn_app (goodIn_of _ (by decide +kernel)) ggL_law_X11_fewest
set_option maxRecDepth 20000 in
theorem ggL_law_X12_fewest : GoodIn wsL_law wsX12_fewest := goodIn_r _ [831, 120, 121, 5, 122, 123, 124, 125, 764, 765, 766, 767, 92, 94, 95, 96, 93, 768, 769, 770, 771, 73, 75, 489, 315, 316, 317, 772, 773, 774, 775, 776, 777, 778, 501, 779, 780, 781, 782, 76, 783, 784, 785, 786, 832, 833, 834, 835, 100, 101, 787, 788, 789, 790, 791, 792, 793, 794, 74, 836, 837, 838, 839, 1039, 1040, 1041, 1042, 1043, 1044, 1045, 1046, 1047, 1048, 1049, 1050, 1051, 1052, 1053, 1054, 1055, 1056, 1057, 1058, 1059, 1060, 1061, 1062, 1063, 1064, 1065, 1066, 1067, 1068, 1069, 1070, 1071, 1072, 1073, 1074, 1075, 1076, 1077, 1078, 1079, 1080, 1081] rfl (by decide +kernel)
set_option maxRecDepth 20000 in
theorem gL_law_X12_fewest : GoodIn wsL_law (wsV RL 92 RX12 yX12_fewest wsX12_fewest) := goodIn_app (goodIn_of _ (by decide +kernel)) ggL_law_X12_fewest
set_option maxRecDepth 20000 in
theorem ggL_law_X11_alike : GoodIn wsL_law wsX11_alike := goodIn_r _ [843, 21, 20, 108, 109, 2, 110, 624, 625, 626, 627, 35, 34, 628, 629, 630, 631, 632, 633, 33, 32, 634, 635, 14, 636, 637, 638, 639, 11, 12, 640, 516, 517, 641, 19, 642, 643, 644, 645, 646, 523, 524, 525, 526, 527, 528, 529, 530, 531, 532, 533, 534, 535, 536, 537, 538, 539, 540, 541, 542, 543, 544, 545, 546, 48, 547, 548, 647, 648, 649, 650, 651, 554, 555, 556, 557, 558, 559, 560, 561, 66, 67, 68, 652, 653, 654, 655, 656, 329, 330, 39, 331, 60, 64, 657, 333, 334, 658, 659, 660, 661, 662, 563, 564, 565, 566, 567, 568, 569, 570, 571, 572, 573, 574, 575, 576, 577, 578, 663, 580, 581, 582, 664, 665, 666, 667, 668, 669, 670, 671, 410, 411, 412, 61, 266, 186, 187, 188, 672, 673, 674, 675, 676, 677, 678, 679, 680, 336, 337, 681, 682, 683, 684, 685, 686, 687, 688, 689, 690, 691, 692, 693, 694, 695, 696, 697, 698, 699, 700, 701, 702, 703, 704, 705, 706, 707, 708, 709, 710, 711, 712, 713, 714, 715, 716, 717, 718, 719, 720, 721, 722, 723, 724, 725, 726, 727, 728, 729, 730, 731, 732, 733, 734, 735, 736, 737, 738, 739, 740, 741, 742, 743, 744, 250, 251, 745, 746, 747, 748, 844, 845, 846, 847, 1028, 1029, 1030, 1031, 1032, 1033, 1034, 1035, 1036, 1037, 1038, 1117, 1118, 1119, 1120, 1121, 1109, 1110, 1111, 1112, 1113, 1122, 1123, 1124, 1125, 1126, 1127, 1128, 1129, 1130, 1131, 1132, 1133, 1114, 1115, 1116, 1100, 1101, 1102, 1103, 1104] rfl (by decide +kernel)
set_option maxRecDepth 20000 in
theorem gL_law_X11_alike : GoodIn wsL_law (wsV RL 93 RX11 yX11_alike wsX11_alike) := goodIn_app (goodIn_of _ (by decide +kernel)) ggL_law_X11_alike
set_option maxRecDepth 20000 in
theorem ggL_law_X12_alike : GoodIn wsL_law wsX12_alike := goodIn_r _ [851, 369, 100, 120, 121, 5, 122, 123, 124, 125, 764, 765, 766, 767, 92, 94, 95, 96, 93, 768, 769, 770, 771, 73, 75, 489, 315, 316, 317, 772, 773, 774, 775, 776, 777, 778, 501, 779, 780, 781, 782, 76, 783, 784, 785, 786, 832, 833, 834, 835, 101, 787, 788, 789, 790, 791, 792, 793, 794, 74, 836, 837, 838, 839, 852, 853, 854, 855, 84, 1039, 1040, 1041, 1042, 1043, 1044, 1045, 1046, 1047, 1048, 1049, 1050, 1051, 1052, 1053, 1054, 1055, 1056, 1057, 1058, 1059, 1060, 1061, 1062, 1063, 1064, 1065, 1066, 1067, 1068, 1069, 1070, 1071, 1072, 1073, 1074, 1075, 1076, 1077, 1078, 1079, 1080, 1081] rfl (by decide +kernel)
set_option maxRecDepth 20000 in
theorem gL_law_X12_alike : GoodIn wsL_law (wsV RL 96 RX12 yX12_alike wsX12_alike) := goodIn_app (goodIn_of _ (by decide +kernel)) ggL_law_X12_alike
set_option maxRecDepth 20000 in
theorem ggL_law_X11_shortest : GoodIn wsL_law wsX11_shortest := goodIn_r _ [859, 860, 861, 862, 2, 863, 108, 109, 110, 630, 631, 632, 633, 33, 32, 634, 635, 14, 636, 637, 638, 639, 11, 12, 640, 516, 517, 641, 19, 642, 643, 644, 645, 646, 523, 524, 525, 526, 527, 528, 529, 530, 531, 532, 533, 534, 535, 536, 537, 538, 539, 540, 541, 542, 543, 544, 545, 546, 48, 547, 548, 647, 648, 649, 650, 651, 554, 555, 556, 557, 558, 559, 560, 561, 66, 67, 68, 652, 653, 654, 655, 656, 329, 330, 39, 331, 60, 64, 657, 333, 334, 658, 659, 660, 661, 662, 563, 564, 565, 566, 567, 568, 569, 570, 571, 572, 573, 574, 575, 576, 577, 578, 663, 580, 581, 582, 664, 665, 666, 667, 668, 669, 670, 671, 410, 411, 412, 61, 266, 186, 187, 188, 672, 673, 674, 675, 676, 677, 678, 679, 680, 336, 337, 864, 865, 866, 867, 587, 588, 589, 590, 1117, 1118, 1119, 1120, 1121, 1109, 1110, 1111, 1112, 1113, 1028, 1029, 1030, 1031, 1032, 1033, 1034, 1035, 1036, 1037, 1038, 1114, 1115, 1116, 1100, 1101, 1102, 1103, 1104] rfl (by decide +kernel)
set_option maxRecDepth 20000 in
theorem gL_law_X11_shortest : GoodIn wsL_law (wsV RL 97 RX11 yX11_shortest wsX11_shortest) := goodIn_app (goodIn_of _ (by decide +kernel)) ggL_law_X11_shortest
set_option maxRecDepth 20000 in
theorem ggL_law_X12_shortest : GoodIn wsL_law wsX12_shortest := goodIn_r _ [871, 872, 873, 874, 5, 875, 94, 92, 120, 121, 122, 123, 124, 125, 764, 765, 766, 767, 95, 96, 93, 768, 769, 770, 771, 73, 75, 489, 315, 316, 317, 772, 773, 774, 775, 776, 777, 778, 501, 779, 780, 781, 782, 76, 783, 784, 785, 786, 791, 792, 793, 794, 74, 876, 877, 878, 879, 1039, 1040, 1041, 1042, 1043, 1044, 1045, 1046, 1047, 1048, 1049, 1050, 1051, 1052, 1053, 1054, 1055, 1056, 1057, 1058, 1059, 1060, 1061, 1062, 1063, 1064, 1065, 1066, 1067, 1068, 1069, 1070, 1071, 1072, 1073, 1074, 1075, 1076, 1077, 1078, 1079, 1080, 1081] rfl (by decide +kernel)
set_option maxRecDepth 20000 in
theorem gL_law_X12_shortest : GoodIn wsL_law (wsV RL 100 RX12 yX12_shortest wsX12_shortest) := goodIn_app (goodIn_of _ (by decide +kernel)) ggL_law_X12_shortest
set_option maxRecDepth 20000 in
theorem ggL_law_X11_round : GoodIn wsL_law wsX11_round := goodIn_r _ [883, 860, 861, 862, 2, 863, 108, 109, 110, 630, 631, 632, 633, 33, 32, 634, 635, 14, 636, 637, 638, 639, 11, 12, 640, 516, 517, 641, 19, 642, 643, 644, 645, 646, 523, 524, 525, 526, 527, 528, 529, 530, 531, 532, 533, 534, 535, 536, 537, 538, 539, 540, 541, 542, 543, 544, 545, 546, 48, 547, 548, 647, 648, 649, 650, 651, 554, 555, 556, 557, 558, 559, 560, 561, 66, 67, 68, 652, 653, 654, 655, 656, 329, 330, 39, 331, 60, 64, 657, 333, 334, 658, 659, 660, 661, 662, 563, 564, 565, 566, 567, 568, 569, 570, 571, 572, 573, 574, 575, 576, 577, 578, 663, 580, 581, 582, 664, 665, 666, 667, 668, 669, 670, 671, 410, 411, 412, 61, 266, 186, 187, 188, 672, 673, 674, 675, 676, 677, 678, 679, 680, 336, 337, 864, 865, 866, 867, 587, 588, 589, 590, 1117, 1118, 1119, 1120, 1121, 1109, 1110, 1111, 1112, 1113, 1028, 1029, 1030, 1031, 1032, 1033, 1034, 1035, 1036, 1037, 1038, 1114, 1115, 1116, 1100, 1101, 1102, 1103, 1104] rfl (by decide +kernel)
set_option maxRecDepth 20000 in
theorem gL_law_X11_round : GoodIn wsL_law (wsV RL 101 RX11 yX11_round wsX11_round) := goodIn_app (goodIn_of _ (by decide +kernel)) ggL_law_X11_round
set_option maxRecDepth 20000 in
theorem ggL_law_X12_round : GoodIn wsL_law wsX12_round := goodIn_r _ [887, 872, 873, 874, 5, 875, 94, 92, 120, 121, 122, 123, 124, 125, 764, 765, 766, 767, 95, 96, 93, 768, 769, 770, 771, 73, 75, 489, 315, 316, 317, 772, 773, 774, 775, 776, 777, 778, 501, 779, 780, 781, 782, 76, 783, 784, 785, 786, 791, 792, 793, 794, 74, 876, 877, 878, 879, 1039, 1040, 1041, 1042, 1043, 1044, 1045, 1046, 1047, 1048, 1049, 1050, 1051, 1052, 1053, 1054, 1055, 1056, 1057, 1058, 1059, 1060, 1061, 1062, 1063, 1064, 1065, 1066, 1067, 1068, 1069, 1070, 1071, 1072, 1073, 1074, 1075, 1076, 1077, 1078, 1079, 1080, 1081] rfl (by decide +kernel)
set_option maxRecDepth 20000 in
theorem gL_law_X12_round : GoodIn wsL_law (wsV RL 104 RX12 yX12_round wsX12_round) := goodIn_app (goodIn_of _ (by decide +kernel)) ggL_law_X12_round
set_option maxRecDepth 20000 in
theorem ggL_law_X11_parted : GoodIn wsL_law wsX11_parted := goodIn_r _ [891, 36, 892, 893, 894, 630, 631, 632, 2, 633, 33, 32, 634, 635, 14, 636, 637, 638, 639, 11, 12, 640, 516, 517, 641, 19, 642, 643, 644, 645, 646, 523, 524, 525, 526, 527, 528, 529, 530, 531, 532, 533, 534, 535, 536, 537, 538, 539, 540, 541, 542, 543, 544, 545, 546, 48, 547, 548, 647, 648, 649, 650, 651, 554, 555, 556, 557, 558, 559, 560, 561, 66, 67, 68, 652, 653, 654, 655, 656, 329, 330, 39, 331, 60, 64, 657, 333, 334, 658, 659, 660, 661, 662, 563, 564, 565, 566, 567, 568, 569, 570, 571, 572, 573, 574, 575, 576, 577, 578, 663, 580, 581, 582, 664, 665, 666, 667, 668, 669, 670, 671, 410, 411, 412, 61, 266, 186, 187, 188, 672, 673, 674, 675, 676, 677, 678, 679, 680, 336, 337, 895, 896, 897, 898, 899, 900, 901, 902, 903, 904, 905, 906, 907, 908, 909, 910, 911, 912, 913, 914, 915, 916, 917, 918, 919, 714, 715, 716, 920, 728, 729, 730, 731, 587, 588, 589, 590, 1117, 1118, 1119, 1120, 1121, 1109, 1110, 1111, 1112, 1113, 1028, 1029, 1030, 1031, 1032, 1033, 1034, 1035, 1036, 1037, 1038, 1134, 1135, 1136, 1137, 1138, 1139, 1114, 1115, 1116, 1100, 1101, 1102, 1103, 1104] rfl (by decide +kernel)
set_option maxRecDepth 20000 in
theorem gL_law_X11_parted : GoodIn wsL_law (wsV RL 105 RX11 yX11_parted wsX11_parted) := goodIn_app (goodIn_of _ (by decide +kernel)) ggL_law_X11_parted
set_option maxRecDepth 20000 in
theorem ggL_law_X12_parted : GoodIn wsL_law wsX12_parted := goodIn_r _ [924, 102, 599, 89, 925, 93, 764, 765, 766, 5, 767, 92, 94, 95, 96, 768, 769, 770, 771, 73, 75, 489, 315, 316, 317, 772, 773, 774, 775, 776, 777, 778, 501, 779, 780, 781, 782, 76, 783, 784, 785, 786, 926, 927, 928, 929, 930, 931, 932, 604, 605, 606, 607, 90, 91, 787, 788, 789, 790, 791, 792, 793, 794, 74, 608, 609, 610, 611, 1039, 1040, 1041, 1042, 1043, 1044, 1045, 1046, 1047, 1048, 1049, 1050, 1051, 1052, 1053, 1054, 1055, 1056, 1057, 1058, 1059, 1060, 1061, 1062, 1063, 1064, 1065, 1066, 1067, 1068, 1069, 1070, 1071, 1072, 1073, 1074, 1075, 1076, 1077, 1078, 1079, 1080, 1081] rfl (by decide +kernel)
set_option maxRecDepth 20000 in
theorem gL_law_X12_parted : GoodIn wsL_law (wsV RL 108 RX12 yX12_parted wsX12_parted) := goodIn_app (goodIn_of _ (by decide +kernel)) ggL_law_X12_parted
set_option maxRecDepth 20000 in
theorem ggL_law_X11_otherwise : GoodIn wsL_law wsX11_otherwise := goodIn_r _ [936, 37, 937, 938, 939, 14, 940, 941, 942, 943, 11, 12, 944, 23, 24, 945, 946, 947, 27, 28, 948, 949, 950, 951, 952, 953, 954, 45, 46, 47, 48, 49, 19, 50, 51, 52, 53, 54, 55, 955, 956, 957, 958, 959, 960, 961, 962, 963, 964, 965, 966, 967, 968, 969, 970, 971, 544, 529, 545, 972, 528, 530, 973, 66, 67, 68, 974, 975, 976, 977, 978, 979, 980, 981, 982, 983, 389, 390, 391, 392, 393, 394, 395, 396, 397, 398, 399, 400, 401, 402, 403, 404, 405, 406, 407, 408, 329, 330, 39, 331, 60, 64, 409, 410, 411, 412, 61, 266, 186, 187, 188, 413, 339, 340, 414, 415, 416, 417, 418, 336, 337, 419, 333, 334, 984, 985, 986, 987, 988, 989, 990, 991, 1028, 1029, 1030, 1031, 1032, 1033, 1034, 1035, 1036, 1037, 1038, 1140, 1141, 1142, 1143, 1144, 1145, 1146, 1147, 1148, 1091, 1092, 1093, 1094, 1095, 1096, 1097, 1098, 1099, 1100, 1101, 1102, 1103, 1104] rfl (by decide +kernel)
set_option maxRecDepth 20000 in
theorem gL_law_X11_otherwise : GoodIn wsL_law (wsV RL 109 RX11 yX11_otherwise wsX11_otherwise) := goodIn_app (goodIn_of _ (by decide +kernel)) ggL_law_X11_otherwise
set_option maxRecDepth 20000 in
theorem ggL_law_X12_otherwise : GoodIn wsL_law wsX12_otherwise := goodIn_r _ [995, 996, 85, 123, 124, 5, 125, 997, 998, 999, 1000, 1001, 1002, 1003, 433, 1004, 1005, 1006, 1007, 424, 428, 103, 88, 434, 435, 436, 437, 87, 425, 426, 427, 75, 74, 77, 76, 315, 316, 317, 1039, 1040, 1041, 1042, 1043, 1044, 1045, 1046, 1047, 1048, 1049, 1050, 1051, 1052, 1053, 1054, 1055, 1056, 1057, 1058, 1059, 1060, 1061, 1062, 1063, 1064, 1065, 1066, 1067, 1068, 1069, 1070, 1071, 1072, 1073, 1074, 1075, 1076, 1077, 1078, 1079, 1080, 1081] rfl (by decide +kernel)
set_option maxRecDepth 20000 in
theorem gL_law_X12_otherwise : GoodIn wsL_law (wsV RL 112 RX12 yX12_otherwise wsX12_otherwise) := goodIn_app (goodIn_of _ (by decide +kernel)) ggL_law_X12_otherwise
set_option maxRecDepth 20000 in
theorem ggL_law_X11_most : GoodIn wsL_law wsX11_most := goodIn_r _ [1011, 29, 25, 14, 1012, 528, 529, 530, 108, 109, 2, 110, 1013, 968, 969, 28, 970, 971, 544, 545, 972, 55, 54, 973, 66, 67, 68, 1014, 975, 976, 977, 978, 388, 389, 390, 24, 391, 49, 392, 393, 394, 395, 396, 397, 398, 399, 400, 401, 402, 403, 404, 405, 406, 407, 408, 329, 330, 39, 331, 60, 64, 409, 410, 411, 412, 61, 266, 186, 187, 188, 413, 339, 340, 414, 415, 416, 417, 50, 418, 336, 337, 419, 333, 334, 1015, 989, 990, 991, 1028, 1029, 1030, 1031, 1032, 1033, 1034, 1035, 1036, 1037, 1038, 1098, 1099, 1091, 1092, 1093, 1094, 1095, 1096, 1097, 1100, 1101, 1102, 1103, 1104] rfl (by decide +kernel)
set_option maxRecDepth 20000 in
theorem gL_law_X11_most : GoodIn wsL_law (wsV RL 113 RX11 yX11_most wsX11_most) := goodIn_app (goodIn_of _ (by decide +kernel)) ggL_law_X11_most
set_option maxRecDepth 20000 in
theorem ggL_law_X12_most : GoodIn wsL_law wsX12_most := goodIn_r _ [1019, 996, 424, 425, 120, 121, 5, 122, 123, 124, 125, 997, 998, 999, 1000, 1001, 1002, 1003, 85, 433, 434, 435, 436, 437, 87, 426, 427, 428, 75, 74, 77, 88, 76, 315, 316, 317, 1039, 1040, 1041, 1042, 1043, 1044, 1045, 1046, 1047, 1048, 1049, 1050, 1051, 1052, 1053, 1054, 1055, 1056, 1057, 1058, 1059, 1060, 1061, 1062, 1063, 1064, 1065, 1066, 1067, 1068, 1069, 1070, 1071, 1072, 1073, 1074, 1075, 1076, 1077, 1078, 1079, 1080, 1081] rfl (by decide +kernel)
set_option maxRecDepth 20000 in
theorem gL_law_X12_most : GoodIn wsL_law (wsV RL 116 RX12 yX12_most wsX12_most) := goodIn_app (goodIn_of _ (by decide +kernel)) ggL_law_X12_most
set_option maxRecDepth 20000 in
theorem ggL_law_X11_count : GoodIn wsL_law wsX11_count := goodIn_r _ [1023, 21, 18, 14, 1028, 1029, 1030, 1031, 1032, 1033, 1034, 1035, 1036, 1037, 1038, 1082, 1083, 1084, 1085, 1086, 1087, 1088, 1089, 1090, 1100, 1101, 1102, 1103, 1104] rfl (by decide +kernel)
set_option maxRecDepth 20000 in
theorem gL_law_X11_count : GoodIn wsL_law (wsV RL 117 RX11 yX11_count wsX11_count) := goodIn_app (goodIn_of _ (by decide +kernel)) ggL_law_X11_count
set_option maxRecDepth 20000 in
theorem ggL_law_X12_count : GoodIn wsL_law wsX12_count := goodIn_r _ [1027, 369, 140, 318, 319, 320, 5, 321, 75, 1039, 1040, 1041, 1042, 1043, 1044, 1045, 1046, 1047, 1048, 1049, 1050, 1051, 1052, 1053, 1054, 1055, 1056, 1057, 1058, 1059, 1060, 1061, 1062, 1063, 1064, 1065, 1066, 1067, 1068, 1069, 1070, 1071, 1072, 1073, 1074, 1075, 1076, 1077, 1078, 1079, 1080, 1081] rfl (by decide +kernel)
set_option maxRecDepth 20000 in
theorem gL_law_X12_count : GoodIn wsL_law (wsV RL 120 RX12 yX12_count wsX12_count) := goodIn_app (goodIn_of _ (by decide +kernel)) ggL_law_X12_count
theorem dL_law_0 : decode cL_law 0 = .ok (.new 7, 3) := by decide +kernel
theorem dL_law_3 : decode cL_law 3 = .ok (.dup, 1) := by decide +kernel
theorem dL_law_4 : decode cL_law 4 = .ok (.invokespecial 9, 3) := by decide +kernel
theorem dL_law_7 : decode cL_law 7 = .ok (.astore_n 1, 1) := by decide +kernel
theorem dL_law_8 : decode cL_law 8 = .ok (.new 10, 3) := by decide +kernel
theorem dL_law_11 : decode cL_law 11 = .ok (.dup, 1) := by decide +kernel
theorem dL_law_12 : decode cL_law 12 = .ok (.invokespecial 12, 3) := by decide +kernel
theorem dL_law_15 : decode cL_law 15 = .ok (.astore_n 2, 1) := by decide +kernel
theorem dL_law_16 : decode cL_law 16 = .ok (.iconst 0, 1) := by decide +kernel
theorem dL_law_17 : decode cL_law 17 = .ok (.istore_n 3, 1) := by decide +kernel
theorem dL_law_18 : decode cL_law 18 = .ok (.iload_n 3, 1) := by decide +kernel
theorem dL_law_19 : decode cL_law 19 = .ok (.aload_n 0, 1) := by decide +kernel
theorem dL_law_20 : decode cL_law 20 = .ok (.arraylength, 1) := by decide +kernel
theorem dL_law_21 : decode cL_law 21 = .ok (.iconst 5, 1) := by decide +kernel
theorem dL_law_22 : decode cL_law 22 = .ok (.isub, 1) := by decide +kernel
theorem dL_law_23 : decode cL_law 23 = .ok (.if_icmp .gt 996, 3) := by decide +kernel
theorem dL_law_26 : decode cL_law 26 = .ok (.aload_n 0, 1) := by decide +kernel
theorem dL_law_27 : decode cL_law 27 = .ok (.iload_n 3, 1) := by decide +kernel
theorem dL_law_28 : decode cL_law 28 = .ok (.iaload, 1) := by decide +kernel
theorem dL_law_29 : decode cL_law 29 = .ok (.bipush 31, 2) := by decide +kernel
theorem dL_law_31 : decode cL_law 31 = .ok (.iand, 1) := by decide +kernel
theorem dL_law_32 : decode cL_law 32 = .ok (.tableswitch 981 0 24 #[116, 159, 222, 235, 258, 281, 334, 377, 400, 463, 496, 529, 572, 605, 628, 661, 714, 737, 760, 803, 836, 869, 892, 925, 958], 116) := by decide +kernel
theorem dL_law_148 : decode cL_law 148 = .ok (.aload_n 1, 1) := by decide +kernel
theorem dL_law_149 : decode cL_law 149 = .ok (.aload_n 0, 1) := by decide +kernel
theorem dL_law_150 : decode cL_law 150 = .ok (.iload_n 3, 1) := by decide +kernel
theorem dL_law_151 : decode cL_law 151 = .ok (.iconst 1, 1) := by decide +kernel
theorem dL_law_152 : decode cL_law 152 = .ok (.iadd, 1) := by decide +kernel
theorem dL_law_153 : decode cL_law 153 = .ok (.iaload, 1) := by decide +kernel
theorem dL_law_154 : decode cL_law 154 = .ok (.aload_n 0, 1) := by decide +kernel
theorem dL_law_155 : decode cL_law 155 = .ok (.iload_n 3, 1) := by decide +kernel
theorem dL_law_156 : decode cL_law 156 = .ok (.iconst 2, 1) := by decide +kernel
theorem dL_law_157 : decode cL_law 157 = .ok (.iadd, 1) := by decide +kernel
theorem dL_law_158 : decode cL_law 158 = .ok (.iaload, 1) := by decide +kernel
theorem dL_law_159 : decode cL_law 159 = .ok (.aload_n 0, 1) := by decide +kernel
theorem dL_law_160 : decode cL_law 160 = .ok (.iload_n 3, 1) := by decide +kernel
theorem dL_law_161 : decode cL_law 161 = .ok (.iconst 3, 1) := by decide +kernel
theorem dL_law_162 : decode cL_law 162 = .ok (.iadd, 1) := by decide +kernel
theorem dL_law_163 : decode cL_law 163 = .ok (.iaload, 1) := by decide +kernel
theorem dL_law_164 : decode cL_law 164 = .ok (.invokevirtual 13, 3) := by decide +kernel
theorem dL_law_167 : decode cL_law 167 = .ok (.aload_n 2, 1) := by decide +kernel
theorem dL_law_168 : decode cL_law 168 = .ok (.aload_n 0, 1) := by decide +kernel
theorem dL_law_169 : decode cL_law 169 = .ok (.iload_n 3, 1) := by decide +kernel
theorem dL_law_170 : decode cL_law 170 = .ok (.iconst 1, 1) := by decide +kernel
theorem dL_law_171 : decode cL_law 171 = .ok (.iadd, 1) := by decide +kernel
theorem dL_law_172 : decode cL_law 172 = .ok (.iaload, 1) := by decide +kernel
theorem dL_law_173 : decode cL_law 173 = .ok (.aload_n 0, 1) := by decide +kernel
theorem dL_law_174 : decode cL_law 174 = .ok (.iload_n 3, 1) := by decide +kernel
theorem dL_law_175 : decode cL_law 175 = .ok (.iconst 2, 1) := by decide +kernel
theorem dL_law_176 : decode cL_law 176 = .ok (.iadd, 1) := by decide +kernel
theorem dL_law_177 : decode cL_law 177 = .ok (.iaload, 1) := by decide +kernel
theorem dL_law_178 : decode cL_law 178 = .ok (.aload_n 0, 1) := by decide +kernel
theorem dL_law_179 : decode cL_law 179 = .ok (.iload_n 3, 1) := by decide +kernel
theorem dL_law_180 : decode cL_law 180 = .ok (.iconst 3, 1) := by decide +kernel
theorem dL_law_181 : decode cL_law 181 = .ok (.iadd, 1) := by decide +kernel
theorem dL_law_182 : decode cL_law 182 = .ok (.iaload, 1) := by decide +kernel
theorem dL_law_183 : decode cL_law 183 = .ok (.invokevirtual 17, 3) := by decide +kernel
theorem dL_law_186 : decode cL_law 186 = .ok (.if_icmp .eq 827, 3) := by decide +kernel
theorem dL_law_189 : decode cL_law 189 = .ok (.iconst 0, 1) := by decide +kernel
theorem dL_law_190 : decode cL_law 190 = .ok (.ireturn, 1) := by decide +kernel
theorem dL_law_191 : decode cL_law 191 = .ok (.aload_n 1, 1) := by decide +kernel
theorem dL_law_192 : decode cL_law 192 = .ok (.aload_n 0, 1) := by decide +kernel
theorem dL_law_193 : decode cL_law 193 = .ok (.iload_n 3, 1) := by decide +kernel
theorem dL_law_194 : decode cL_law 194 = .ok (.iconst 1, 1) := by decide +kernel
theorem dL_law_195 : decode cL_law 195 = .ok (.iadd, 1) := by decide +kernel
theorem dL_law_196 : decode cL_law 196 = .ok (.iaload, 1) := by decide +kernel
theorem dL_law_197 : decode cL_law 197 = .ok (.i2l, 1) := by decide +kernel
theorem dL_law_198 : decode cL_law 198 = .ok (.bipush 32, 2) := by decide +kernel
theorem dL_law_200 : decode cL_law 200 = .ok (.lshl, 1) := by decide +kernel
theorem dL_law_201 : decode cL_law 201 = .ok (.aload_n 0, 1) := by decide +kernel
theorem dL_law_202 : decode cL_law 202 = .ok (.iload_n 3, 1) := by decide +kernel
theorem dL_law_203 : decode cL_law 203 = .ok (.iconst 2, 1) := by decide +kernel
theorem dL_law_204 : decode cL_law 204 = .ok (.iadd, 1) := by decide +kernel
theorem dL_law_205 : decode cL_law 205 = .ok (.iaload, 1) := by decide +kernel
theorem dL_law_206 : decode cL_law 206 = .ok (.i2l, 1) := by decide +kernel
theorem dL_law_207 : decode cL_law 207 = .ok (.ldc2_w 18, 3) := by decide +kernel
theorem dL_law_210 : decode cL_law 210 = .ok (.land, 1) := by decide +kernel
theorem dL_law_211 : decode cL_law 211 = .ok (.lor, 1) := by decide +kernel
theorem dL_law_212 : decode cL_law 212 = .ok (.aload_n 0, 1) := by decide +kernel
theorem dL_law_213 : decode cL_law 213 = .ok (.iload_n 3, 1) := by decide +kernel
theorem dL_law_214 : decode cL_law 214 = .ok (.iconst 3, 1) := by decide +kernel
theorem dL_law_215 : decode cL_law 215 = .ok (.iadd, 1) := by decide +kernel
theorem dL_law_216 : decode cL_law 216 = .ok (.iaload, 1) := by decide +kernel
theorem dL_law_217 : decode cL_law 217 = .ok (.invokevirtual 20, 3) := by decide +kernel
theorem dL_law_220 : decode cL_law 220 = .ok (.aload_n 2, 1) := by decide +kernel
theorem dL_law_221 : decode cL_law 221 = .ok (.aload_n 0, 1) := by decide +kernel
theorem dL_law_222 : decode cL_law 222 = .ok (.iload_n 3, 1) := by decide +kernel
theorem dL_law_223 : decode cL_law 223 = .ok (.iconst 1, 1) := by decide +kernel
theorem dL_law_224 : decode cL_law 224 = .ok (.iadd, 1) := by decide +kernel
theorem dL_law_225 : decode cL_law 225 = .ok (.iaload, 1) := by decide +kernel
theorem dL_law_226 : decode cL_law 226 = .ok (.i2l, 1) := by decide +kernel
theorem dL_law_227 : decode cL_law 227 = .ok (.bipush 32, 2) := by decide +kernel
theorem dL_law_229 : decode cL_law 229 = .ok (.lshl, 1) := by decide +kernel
theorem dL_law_230 : decode cL_law 230 = .ok (.aload_n 0, 1) := by decide +kernel
theorem dL_law_231 : decode cL_law 231 = .ok (.iload_n 3, 1) := by decide +kernel
theorem dL_law_232 : decode cL_law 232 = .ok (.iconst 2, 1) := by decide +kernel
theorem dL_law_233 : decode cL_law 233 = .ok (.iadd, 1) := by decide +kernel
theorem dL_law_234 : decode cL_law 234 = .ok (.iaload, 1) := by decide +kernel
theorem dL_law_235 : decode cL_law 235 = .ok (.i2l, 1) := by decide +kernel
theorem dL_law_236 : decode cL_law 236 = .ok (.ldc2_w 18, 3) := by decide +kernel
theorem dL_law_239 : decode cL_law 239 = .ok (.land, 1) := by decide +kernel
theorem dL_law_240 : decode cL_law 240 = .ok (.lor, 1) := by decide +kernel
theorem dL_law_241 : decode cL_law 241 = .ok (.aload_n 0, 1) := by decide +kernel
theorem dL_law_242 : decode cL_law 242 = .ok (.iload_n 3, 1) := by decide +kernel
theorem dL_law_243 : decode cL_law 243 = .ok (.iconst 3, 1) := by decide +kernel
theorem dL_law_244 : decode cL_law 244 = .ok (.iadd, 1) := by decide +kernel
theorem dL_law_245 : decode cL_law 245 = .ok (.iaload, 1) := by decide +kernel
theorem dL_law_246 : decode cL_law 246 = .ok (.invokevirtual 24, 3) := by decide +kernel
theorem dL_law_249 : decode cL_law 249 = .ok (.if_icmp .eq 764, 3) := by decide +kernel
theorem dL_law_252 : decode cL_law 252 = .ok (.iconst 0, 1) := by decide +kernel
theorem dL_law_253 : decode cL_law 253 = .ok (.ireturn, 1) := by decide +kernel
theorem dL_law_254 : decode cL_law 254 = .ok (.aload_n 1, 1) := by decide +kernel
theorem dL_law_255 : decode cL_law 255 = .ok (.invokevirtual 25, 3) := by decide +kernel
theorem dL_law_258 : decode cL_law 258 = .ok (.aload_n 2, 1) := by decide +kernel
theorem dL_law_259 : decode cL_law 259 = .ok (.invokevirtual 29, 3) := by decide +kernel
theorem dL_law_262 : decode cL_law 262 = .ok (.if_icmp .eq 751, 3) := by decide +kernel
theorem dL_law_265 : decode cL_law 265 = .ok (.iconst 0, 1) := by decide +kernel
theorem dL_law_266 : decode cL_law 266 = .ok (.ireturn, 1) := by decide +kernel
theorem dL_law_267 : decode cL_law 267 = .ok (.aload_n 1, 1) := by decide +kernel
theorem dL_law_268 : decode cL_law 268 = .ok (.aload_n 0, 1) := by decide +kernel
theorem dL_law_269 : decode cL_law 269 = .ok (.iload_n 3, 1) := by decide +kernel
theorem dL_law_270 : decode cL_law 270 = .ok (.iconst 1, 1) := by decide +kernel
theorem dL_law_271 : decode cL_law 271 = .ok (.iadd, 1) := by decide +kernel
theorem dL_law_272 : decode cL_law 272 = .ok (.iaload, 1) := by decide +kernel
theorem dL_law_273 : decode cL_law 273 = .ok (.invokevirtual 30, 3) := by decide +kernel
theorem dL_law_276 : decode cL_law 276 = .ok (.aload_n 2, 1) := by decide +kernel
theorem dL_law_277 : decode cL_law 277 = .ok (.aload_n 0, 1) := by decide +kernel
theorem dL_law_278 : decode cL_law 278 = .ok (.iload_n 3, 1) := by decide +kernel
theorem dL_law_279 : decode cL_law 279 = .ok (.iconst 1, 1) := by decide +kernel
theorem dL_law_280 : decode cL_law 280 = .ok (.iadd, 1) := by decide +kernel
theorem dL_law_281 : decode cL_law 281 = .ok (.iaload, 1) := by decide +kernel
theorem dL_law_282 : decode cL_law 282 = .ok (.invokevirtual 34, 3) := by decide +kernel
theorem dL_law_285 : decode cL_law 285 = .ok (.if_icmp .eq 728, 3) := by decide +kernel
theorem dL_law_288 : decode cL_law 288 = .ok (.iconst 0, 1) := by decide +kernel
theorem dL_law_289 : decode cL_law 289 = .ok (.ireturn, 1) := by decide +kernel
theorem dL_law_290 : decode cL_law 290 = .ok (.aload_n 1, 1) := by decide +kernel
theorem dL_law_291 : decode cL_law 291 = .ok (.aload_n 0, 1) := by decide +kernel
theorem dL_law_292 : decode cL_law 292 = .ok (.iload_n 3, 1) := by decide +kernel
theorem dL_law_293 : decode cL_law 293 = .ok (.iconst 1, 1) := by decide +kernel
theorem dL_law_294 : decode cL_law 294 = .ok (.iadd, 1) := by decide +kernel
theorem dL_law_295 : decode cL_law 295 = .ok (.iaload, 1) := by decide +kernel
theorem dL_law_296 : decode cL_law 296 = .ok (.invokevirtual 35, 3) := by decide +kernel
theorem dL_law_299 : decode cL_law 299 = .ok (.aload_n 2, 1) := by decide +kernel
theorem dL_law_300 : decode cL_law 300 = .ok (.aload_n 0, 1) := by decide +kernel
theorem dL_law_301 : decode cL_law 301 = .ok (.iload_n 3, 1) := by decide +kernel
theorem dL_law_302 : decode cL_law 302 = .ok (.iconst 1, 1) := by decide +kernel
theorem dL_law_303 : decode cL_law 303 = .ok (.iadd, 1) := by decide +kernel
theorem dL_law_304 : decode cL_law 304 = .ok (.iaload, 1) := by decide +kernel
theorem dL_law_305 : decode cL_law 305 = .ok (.invokevirtual 38, 3) := by decide +kernel
theorem dL_law_308 : decode cL_law 308 = .ok (.if_icmp .eq 705, 3) := by decide +kernel
theorem dL_law_311 : decode cL_law 311 = .ok (.iconst 0, 1) := by decide +kernel
theorem dL_law_312 : decode cL_law 312 = .ok (.ireturn, 1) := by decide +kernel
theorem dL_law_313 : decode cL_law 313 = .ok (.aload_n 1, 1) := by decide +kernel
theorem dL_law_314 : decode cL_law 314 = .ok (.aload_n 0, 1) := by decide +kernel
theorem dL_law_315 : decode cL_law 315 = .ok (.iload_n 3, 1) := by decide +kernel
theorem dL_law_316 : decode cL_law 316 = .ok (.iconst 1, 1) := by decide +kernel
theorem dL_law_317 : decode cL_law 317 = .ok (.iadd, 1) := by decide +kernel
theorem dL_law_318 : decode cL_law 318 = .ok (.iaload, 1) := by decide +kernel
theorem dL_law_319 : decode cL_law 319 = .ok (.aload_n 0, 1) := by decide +kernel
theorem dL_law_320 : decode cL_law 320 = .ok (.iload_n 3, 1) := by decide +kernel
theorem dL_law_321 : decode cL_law 321 = .ok (.iconst 2, 1) := by decide +kernel
theorem dL_law_322 : decode cL_law 322 = .ok (.iadd, 1) := by decide +kernel
theorem dL_law_323 : decode cL_law 323 = .ok (.iaload, 1) := by decide +kernel
theorem dL_law_324 : decode cL_law 324 = .ok (.aload_n 0, 1) := by decide +kernel
theorem dL_law_325 : decode cL_law 325 = .ok (.iload_n 3, 1) := by decide +kernel
theorem dL_law_326 : decode cL_law 326 = .ok (.iconst 3, 1) := by decide +kernel
theorem dL_law_327 : decode cL_law 327 = .ok (.iadd, 1) := by decide +kernel
theorem dL_law_328 : decode cL_law 328 = .ok (.iaload, 1) := by decide +kernel
theorem dL_law_329 : decode cL_law 329 = .ok (.aload_n 0, 1) := by decide +kernel
theorem dL_law_330 : decode cL_law 330 = .ok (.iload_n 3, 1) := by decide +kernel
theorem dL_law_331 : decode cL_law 331 = .ok (.iconst 4, 1) := by decide +kernel
theorem dL_law_332 : decode cL_law 332 = .ok (.iadd, 1) := by decide +kernel
theorem dL_law_333 : decode cL_law 333 = .ok (.iaload, 1) := by decide +kernel
theorem dL_law_334 : decode cL_law 334 = .ok (.invokevirtual 39, 3) := by decide +kernel
theorem dL_law_337 : decode cL_law 337 = .ok (.aload_n 2, 1) := by decide +kernel
theorem dL_law_338 : decode cL_law 338 = .ok (.aload_n 0, 1) := by decide +kernel
theorem dL_law_339 : decode cL_law 339 = .ok (.iload_n 3, 1) := by decide +kernel
theorem dL_law_340 : decode cL_law 340 = .ok (.iconst 1, 1) := by decide +kernel
theorem dL_law_341 : decode cL_law 341 = .ok (.iadd, 1) := by decide +kernel
theorem dL_law_342 : decode cL_law 342 = .ok (.iaload, 1) := by decide +kernel
theorem dL_law_343 : decode cL_law 343 = .ok (.aload_n 0, 1) := by decide +kernel
theorem dL_law_344 : decode cL_law 344 = .ok (.iload_n 3, 1) := by decide +kernel
theorem dL_law_345 : decode cL_law 345 = .ok (.iconst 2, 1) := by decide +kernel
theorem dL_law_346 : decode cL_law 346 = .ok (.iadd, 1) := by decide +kernel
theorem dL_law_347 : decode cL_law 347 = .ok (.iaload, 1) := by decide +kernel
theorem dL_law_348 : decode cL_law 348 = .ok (.aload_n 0, 1) := by decide +kernel
theorem dL_law_349 : decode cL_law 349 = .ok (.iload_n 3, 1) := by decide +kernel
theorem dL_law_350 : decode cL_law 350 = .ok (.iconst 3, 1) := by decide +kernel
theorem dL_law_351 : decode cL_law 351 = .ok (.iadd, 1) := by decide +kernel
theorem dL_law_352 : decode cL_law 352 = .ok (.iaload, 1) := by decide +kernel
theorem dL_law_353 : decode cL_law 353 = .ok (.aload_n 0, 1) := by decide +kernel
theorem dL_law_354 : decode cL_law 354 = .ok (.iload_n 3, 1) := by decide +kernel
theorem dL_law_355 : decode cL_law 355 = .ok (.iconst 4, 1) := by decide +kernel
theorem dL_law_356 : decode cL_law 356 = .ok (.iadd, 1) := by decide +kernel
theorem dL_law_357 : decode cL_law 357 = .ok (.iaload, 1) := by decide +kernel
theorem dL_law_358 : decode cL_law 358 = .ok (.invokevirtual 43, 3) := by decide +kernel
theorem dL_law_361 : decode cL_law 361 = .ok (.if_icmp .eq 652, 3) := by decide +kernel
theorem dL_law_364 : decode cL_law 364 = .ok (.iconst 0, 1) := by decide +kernel
theorem dL_law_365 : decode cL_law 365 = .ok (.ireturn, 1) := by decide +kernel
theorem dL_law_366 : decode cL_law 366 = .ok (.aload_n 1, 1) := by decide +kernel
theorem dL_law_367 : decode cL_law 367 = .ok (.aload_n 0, 1) := by decide +kernel
theorem dL_law_368 : decode cL_law 368 = .ok (.iload_n 3, 1) := by decide +kernel
theorem dL_law_369 : decode cL_law 369 = .ok (.iconst 1, 1) := by decide +kernel
theorem dL_law_370 : decode cL_law 370 = .ok (.iadd, 1) := by decide +kernel
theorem dL_law_371 : decode cL_law 371 = .ok (.iaload, 1) := by decide +kernel
theorem dL_law_372 : decode cL_law 372 = .ok (.aload_n 0, 1) := by decide +kernel
theorem dL_law_373 : decode cL_law 373 = .ok (.iload_n 3, 1) := by decide +kernel
theorem dL_law_374 : decode cL_law 374 = .ok (.iconst 2, 1) := by decide +kernel
theorem dL_law_375 : decode cL_law 375 = .ok (.iadd, 1) := by decide +kernel
theorem dL_law_376 : decode cL_law 376 = .ok (.iaload, 1) := by decide +kernel
theorem dL_law_377 : decode cL_law 377 = .ok (.aload_n 0, 1) := by decide +kernel
theorem dL_law_378 : decode cL_law 378 = .ok (.iload_n 3, 1) := by decide +kernel
theorem dL_law_379 : decode cL_law 379 = .ok (.iconst 3, 1) := by decide +kernel
theorem dL_law_380 : decode cL_law 380 = .ok (.iadd, 1) := by decide +kernel
theorem dL_law_381 : decode cL_law 381 = .ok (.iaload, 1) := by decide +kernel
theorem dL_law_382 : decode cL_law 382 = .ok (.invokevirtual 44, 3) := by decide +kernel
theorem dL_law_385 : decode cL_law 385 = .ok (.aload_n 2, 1) := by decide +kernel
theorem dL_law_386 : decode cL_law 386 = .ok (.aload_n 0, 1) := by decide +kernel
theorem dL_law_387 : decode cL_law 387 = .ok (.iload_n 3, 1) := by decide +kernel
theorem dL_law_388 : decode cL_law 388 = .ok (.iconst 1, 1) := by decide +kernel
theorem dL_law_389 : decode cL_law 389 = .ok (.iadd, 1) := by decide +kernel
theorem dL_law_390 : decode cL_law 390 = .ok (.iaload, 1) := by decide +kernel
theorem dL_law_391 : decode cL_law 391 = .ok (.aload_n 0, 1) := by decide +kernel
theorem dL_law_392 : decode cL_law 392 = .ok (.iload_n 3, 1) := by decide +kernel
theorem dL_law_393 : decode cL_law 393 = .ok (.iconst 2, 1) := by decide +kernel
theorem dL_law_394 : decode cL_law 394 = .ok (.iadd, 1) := by decide +kernel
theorem dL_law_395 : decode cL_law 395 = .ok (.iaload, 1) := by decide +kernel
theorem dL_law_396 : decode cL_law 396 = .ok (.aload_n 0, 1) := by decide +kernel
theorem dL_law_397 : decode cL_law 397 = .ok (.iload_n 3, 1) := by decide +kernel
theorem dL_law_398 : decode cL_law 398 = .ok (.iconst 3, 1) := by decide +kernel
theorem dL_law_399 : decode cL_law 399 = .ok (.iadd, 1) := by decide +kernel
theorem dL_law_400 : decode cL_law 400 = .ok (.iaload, 1) := by decide +kernel
theorem dL_law_401 : decode cL_law 401 = .ok (.invokevirtual 47, 3) := by decide +kernel
theorem dL_law_404 : decode cL_law 404 = .ok (.if_icmp .eq 609, 3) := by decide +kernel
theorem dL_law_407 : decode cL_law 407 = .ok (.iconst 0, 1) := by decide +kernel
theorem dL_law_408 : decode cL_law 408 = .ok (.ireturn, 1) := by decide +kernel
theorem dL_law_409 : decode cL_law 409 = .ok (.aload_n 1, 1) := by decide +kernel
theorem dL_law_410 : decode cL_law 410 = .ok (.aload_n 0, 1) := by decide +kernel
theorem dL_law_411 : decode cL_law 411 = .ok (.iload_n 3, 1) := by decide +kernel
theorem dL_law_412 : decode cL_law 412 = .ok (.iconst 1, 1) := by decide +kernel
theorem dL_law_413 : decode cL_law 413 = .ok (.iadd, 1) := by decide +kernel
theorem dL_law_414 : decode cL_law 414 = .ok (.iaload, 1) := by decide +kernel
theorem dL_law_415 : decode cL_law 415 = .ok (.invokevirtual 48, 3) := by decide +kernel
theorem dL_law_418 : decode cL_law 418 = .ok (.aload_n 2, 1) := by decide +kernel
theorem dL_law_419 : decode cL_law 419 = .ok (.aload_n 0, 1) := by decide +kernel
theorem dL_law_420 : decode cL_law 420 = .ok (.iload_n 3, 1) := by decide +kernel
theorem dL_law_421 : decode cL_law 421 = .ok (.iconst 1, 1) := by decide +kernel
theorem dL_law_422 : decode cL_law 422 = .ok (.iadd, 1) := by decide +kernel
theorem dL_law_423 : decode cL_law 423 = .ok (.iaload, 1) := by decide +kernel
theorem dL_law_424 : decode cL_law 424 = .ok (.invokevirtual 51, 3) := by decide +kernel
theorem dL_law_427 : decode cL_law 427 = .ok (.if_icmp .eq 586, 3) := by decide +kernel
theorem dL_law_430 : decode cL_law 430 = .ok (.iconst 0, 1) := by decide +kernel
theorem dL_law_431 : decode cL_law 431 = .ok (.ireturn, 1) := by decide +kernel
theorem dL_law_432 : decode cL_law 432 = .ok (.aload_n 1, 1) := by decide +kernel
theorem dL_law_433 : decode cL_law 433 = .ok (.aload_n 0, 1) := by decide +kernel
theorem dL_law_434 : decode cL_law 434 = .ok (.iload_n 3, 1) := by decide +kernel
theorem dL_law_435 : decode cL_law 435 = .ok (.iconst 1, 1) := by decide +kernel
theorem dL_law_436 : decode cL_law 436 = .ok (.iadd, 1) := by decide +kernel
theorem dL_law_437 : decode cL_law 437 = .ok (.iaload, 1) := by decide +kernel
theorem dL_law_438 : decode cL_law 438 = .ok (.i2l, 1) := by decide +kernel
theorem dL_law_439 : decode cL_law 439 = .ok (.bipush 32, 2) := by decide +kernel
theorem dL_law_441 : decode cL_law 441 = .ok (.lshl, 1) := by decide +kernel
theorem dL_law_442 : decode cL_law 442 = .ok (.aload_n 0, 1) := by decide +kernel
theorem dL_law_443 : decode cL_law 443 = .ok (.iload_n 3, 1) := by decide +kernel
theorem dL_law_444 : decode cL_law 444 = .ok (.iconst 2, 1) := by decide +kernel
theorem dL_law_445 : decode cL_law 445 = .ok (.iadd, 1) := by decide +kernel
theorem dL_law_446 : decode cL_law 446 = .ok (.iaload, 1) := by decide +kernel
theorem dL_law_447 : decode cL_law 447 = .ok (.i2l, 1) := by decide +kernel
theorem dL_law_448 : decode cL_law 448 = .ok (.ldc2_w 18, 3) := by decide +kernel
theorem dL_law_451 : decode cL_law 451 = .ok (.land, 1) := by decide +kernel
theorem dL_law_452 : decode cL_law 452 = .ok (.lor, 1) := by decide +kernel
theorem dL_law_453 : decode cL_law 453 = .ok (.aload_n 0, 1) := by decide +kernel
theorem dL_law_454 : decode cL_law 454 = .ok (.iload_n 3, 1) := by decide +kernel
theorem dL_law_455 : decode cL_law 455 = .ok (.iconst 3, 1) := by decide +kernel
theorem dL_law_456 : decode cL_law 456 = .ok (.iadd, 1) := by decide +kernel
theorem dL_law_457 : decode cL_law 457 = .ok (.iaload, 1) := by decide +kernel
theorem dL_law_458 : decode cL_law 458 = .ok (.invokevirtual 52, 3) := by decide +kernel
theorem dL_law_461 : decode cL_law 461 = .ok (.aload_n 2, 1) := by decide +kernel
theorem dL_law_462 : decode cL_law 462 = .ok (.aload_n 0, 1) := by decide +kernel
theorem dL_law_463 : decode cL_law 463 = .ok (.iload_n 3, 1) := by decide +kernel
theorem dL_law_464 : decode cL_law 464 = .ok (.iconst 1, 1) := by decide +kernel
theorem dL_law_465 : decode cL_law 465 = .ok (.iadd, 1) := by decide +kernel
theorem dL_law_466 : decode cL_law 466 = .ok (.iaload, 1) := by decide +kernel
theorem dL_law_467 : decode cL_law 467 = .ok (.i2l, 1) := by decide +kernel
theorem dL_law_468 : decode cL_law 468 = .ok (.bipush 32, 2) := by decide +kernel
theorem dL_law_470 : decode cL_law 470 = .ok (.lshl, 1) := by decide +kernel
theorem dL_law_471 : decode cL_law 471 = .ok (.aload_n 0, 1) := by decide +kernel
theorem dL_law_472 : decode cL_law 472 = .ok (.iload_n 3, 1) := by decide +kernel
theorem dL_law_473 : decode cL_law 473 = .ok (.iconst 2, 1) := by decide +kernel
theorem dL_law_474 : decode cL_law 474 = .ok (.iadd, 1) := by decide +kernel
theorem dL_law_475 : decode cL_law 475 = .ok (.iaload, 1) := by decide +kernel
theorem dL_law_476 : decode cL_law 476 = .ok (.i2l, 1) := by decide +kernel
theorem dL_law_477 : decode cL_law 477 = .ok (.ldc2_w 18, 3) := by decide +kernel
theorem dL_law_480 : decode cL_law 480 = .ok (.land, 1) := by decide +kernel
theorem dL_law_481 : decode cL_law 481 = .ok (.lor, 1) := by decide +kernel
theorem dL_law_482 : decode cL_law 482 = .ok (.aload_n 0, 1) := by decide +kernel
theorem dL_law_483 : decode cL_law 483 = .ok (.iload_n 3, 1) := by decide +kernel
theorem dL_law_484 : decode cL_law 484 = .ok (.iconst 3, 1) := by decide +kernel
theorem dL_law_485 : decode cL_law 485 = .ok (.iadd, 1) := by decide +kernel
theorem dL_law_486 : decode cL_law 486 = .ok (.iaload, 1) := by decide +kernel
theorem dL_law_487 : decode cL_law 487 = .ok (.invokevirtual 55, 3) := by decide +kernel
theorem dL_law_490 : decode cL_law 490 = .ok (.if_icmp .eq 523, 3) := by decide +kernel
theorem dL_law_493 : decode cL_law 493 = .ok (.iconst 0, 1) := by decide +kernel
theorem dL_law_494 : decode cL_law 494 = .ok (.ireturn, 1) := by decide +kernel
theorem dL_law_495 : decode cL_law 495 = .ok (.aload_n 1, 1) := by decide +kernel
theorem dL_law_496 : decode cL_law 496 = .ok (.aload_n 0, 1) := by decide +kernel
theorem dL_law_497 : decode cL_law 497 = .ok (.iload_n 3, 1) := by decide +kernel
theorem dL_law_498 : decode cL_law 498 = .ok (.iconst 1, 1) := by decide +kernel
theorem dL_law_499 : decode cL_law 499 = .ok (.iadd, 1) := by decide +kernel
theorem dL_law_500 : decode cL_law 500 = .ok (.iaload, 1) := by decide +kernel
theorem dL_law_501 : decode cL_law 501 = .ok (.aload_n 0, 1) := by decide +kernel
theorem dL_law_502 : decode cL_law 502 = .ok (.iload_n 3, 1) := by decide +kernel
theorem dL_law_503 : decode cL_law 503 = .ok (.iconst 2, 1) := by decide +kernel
theorem dL_law_504 : decode cL_law 504 = .ok (.iadd, 1) := by decide +kernel
theorem dL_law_505 : decode cL_law 505 = .ok (.iaload, 1) := by decide +kernel
theorem dL_law_506 : decode cL_law 506 = .ok (.invokevirtual 56, 3) := by decide +kernel
theorem dL_law_509 : decode cL_law 509 = .ok (.aload_n 2, 1) := by decide +kernel
theorem dL_law_510 : decode cL_law 510 = .ok (.aload_n 0, 1) := by decide +kernel
theorem dL_law_511 : decode cL_law 511 = .ok (.iload_n 3, 1) := by decide +kernel
theorem dL_law_512 : decode cL_law 512 = .ok (.iconst 1, 1) := by decide +kernel
theorem dL_law_513 : decode cL_law 513 = .ok (.iadd, 1) := by decide +kernel
theorem dL_law_514 : decode cL_law 514 = .ok (.iaload, 1) := by decide +kernel
theorem dL_law_515 : decode cL_law 515 = .ok (.aload_n 0, 1) := by decide +kernel
theorem dL_law_516 : decode cL_law 516 = .ok (.iload_n 3, 1) := by decide +kernel
theorem dL_law_517 : decode cL_law 517 = .ok (.iconst 2, 1) := by decide +kernel
theorem dL_law_518 : decode cL_law 518 = .ok (.iadd, 1) := by decide +kernel
theorem dL_law_519 : decode cL_law 519 = .ok (.iaload, 1) := by decide +kernel
theorem dL_law_520 : decode cL_law 520 = .ok (.invokevirtual 60, 3) := by decide +kernel
theorem dL_law_523 : decode cL_law 523 = .ok (.if_icmp .eq 490, 3) := by decide +kernel
theorem dL_law_526 : decode cL_law 526 = .ok (.iconst 0, 1) := by decide +kernel
theorem dL_law_527 : decode cL_law 527 = .ok (.ireturn, 1) := by decide +kernel
theorem dL_law_528 : decode cL_law 528 = .ok (.aload_n 1, 1) := by decide +kernel
theorem dL_law_529 : decode cL_law 529 = .ok (.aload_n 0, 1) := by decide +kernel
theorem dL_law_530 : decode cL_law 530 = .ok (.iload_n 3, 1) := by decide +kernel
theorem dL_law_531 : decode cL_law 531 = .ok (.iconst 1, 1) := by decide +kernel
theorem dL_law_532 : decode cL_law 532 = .ok (.iadd, 1) := by decide +kernel
theorem dL_law_533 : decode cL_law 533 = .ok (.iaload, 1) := by decide +kernel
theorem dL_law_534 : decode cL_law 534 = .ok (.aload_n 0, 1) := by decide +kernel
theorem dL_law_535 : decode cL_law 535 = .ok (.iload_n 3, 1) := by decide +kernel
theorem dL_law_536 : decode cL_law 536 = .ok (.iconst 2, 1) := by decide +kernel
theorem dL_law_537 : decode cL_law 537 = .ok (.iadd, 1) := by decide +kernel
theorem dL_law_538 : decode cL_law 538 = .ok (.iaload, 1) := by decide +kernel
theorem dL_law_539 : decode cL_law 539 = .ok (.invokevirtual 61, 3) := by decide +kernel
theorem dL_law_542 : decode cL_law 542 = .ok (.aload_n 2, 1) := by decide +kernel
theorem dL_law_543 : decode cL_law 543 = .ok (.aload_n 0, 1) := by decide +kernel
theorem dL_law_544 : decode cL_law 544 = .ok (.iload_n 3, 1) := by decide +kernel
theorem dL_law_545 : decode cL_law 545 = .ok (.iconst 1, 1) := by decide +kernel
theorem dL_law_546 : decode cL_law 546 = .ok (.iadd, 1) := by decide +kernel
theorem dL_law_547 : decode cL_law 547 = .ok (.iaload, 1) := by decide +kernel
theorem dL_law_548 : decode cL_law 548 = .ok (.aload_n 0, 1) := by decide +kernel
theorem dL_law_549 : decode cL_law 549 = .ok (.iload_n 3, 1) := by decide +kernel
theorem dL_law_550 : decode cL_law 550 = .ok (.iconst 2, 1) := by decide +kernel
theorem dL_law_551 : decode cL_law 551 = .ok (.iadd, 1) := by decide +kernel
theorem dL_law_552 : decode cL_law 552 = .ok (.iaload, 1) := by decide +kernel
theorem dL_law_553 : decode cL_law 553 = .ok (.invokevirtual 64, 3) := by decide +kernel
theorem dL_law_556 : decode cL_law 556 = .ok (.if_icmp .eq 457, 3) := by decide +kernel
theorem dL_law_559 : decode cL_law 559 = .ok (.iconst 0, 1) := by decide +kernel
theorem dL_law_560 : decode cL_law 560 = .ok (.ireturn, 1) := by decide +kernel
theorem dL_law_561 : decode cL_law 561 = .ok (.aload_n 1, 1) := by decide +kernel
theorem dL_law_562 : decode cL_law 562 = .ok (.aload_n 0, 1) := by decide +kernel
theorem dL_law_563 : decode cL_law 563 = .ok (.iload_n 3, 1) := by decide +kernel
theorem dL_law_564 : decode cL_law 564 = .ok (.iconst 1, 1) := by decide +kernel
theorem dL_law_565 : decode cL_law 565 = .ok (.iadd, 1) := by decide +kernel
theorem dL_law_566 : decode cL_law 566 = .ok (.iaload, 1) := by decide +kernel
theorem dL_law_567 : decode cL_law 567 = .ok (.aload_n 0, 1) := by decide +kernel
theorem dL_law_568 : decode cL_law 568 = .ok (.iload_n 3, 1) := by decide +kernel
theorem dL_law_569 : decode cL_law 569 = .ok (.iconst 2, 1) := by decide +kernel
theorem dL_law_570 : decode cL_law 570 = .ok (.iadd, 1) := by decide +kernel
theorem dL_law_571 : decode cL_law 571 = .ok (.iaload, 1) := by decide +kernel
theorem dL_law_572 : decode cL_law 572 = .ok (.aload_n 0, 1) := by decide +kernel
theorem dL_law_573 : decode cL_law 573 = .ok (.iload_n 3, 1) := by decide +kernel
theorem dL_law_574 : decode cL_law 574 = .ok (.iconst 3, 1) := by decide +kernel
theorem dL_law_575 : decode cL_law 575 = .ok (.iadd, 1) := by decide +kernel
theorem dL_law_576 : decode cL_law 576 = .ok (.iaload, 1) := by decide +kernel
theorem dL_law_577 : decode cL_law 577 = .ok (.invokevirtual 65, 3) := by decide +kernel
theorem dL_law_580 : decode cL_law 580 = .ok (.aload_n 2, 1) := by decide +kernel
theorem dL_law_581 : decode cL_law 581 = .ok (.aload_n 0, 1) := by decide +kernel
theorem dL_law_582 : decode cL_law 582 = .ok (.iload_n 3, 1) := by decide +kernel
theorem dL_law_583 : decode cL_law 583 = .ok (.iconst 1, 1) := by decide +kernel
theorem dL_law_584 : decode cL_law 584 = .ok (.iadd, 1) := by decide +kernel
theorem dL_law_585 : decode cL_law 585 = .ok (.iaload, 1) := by decide +kernel
theorem dL_law_586 : decode cL_law 586 = .ok (.aload_n 0, 1) := by decide +kernel
theorem dL_law_587 : decode cL_law 587 = .ok (.iload_n 3, 1) := by decide +kernel
theorem dL_law_588 : decode cL_law 588 = .ok (.iconst 2, 1) := by decide +kernel
theorem dL_law_589 : decode cL_law 589 = .ok (.iadd, 1) := by decide +kernel
theorem dL_law_590 : decode cL_law 590 = .ok (.iaload, 1) := by decide +kernel
theorem dL_law_591 : decode cL_law 591 = .ok (.aload_n 0, 1) := by decide +kernel
theorem dL_law_592 : decode cL_law 592 = .ok (.iload_n 3, 1) := by decide +kernel
theorem dL_law_593 : decode cL_law 593 = .ok (.iconst 3, 1) := by decide +kernel
theorem dL_law_594 : decode cL_law 594 = .ok (.iadd, 1) := by decide +kernel
theorem dL_law_595 : decode cL_law 595 = .ok (.iaload, 1) := by decide +kernel
theorem dL_law_596 : decode cL_law 596 = .ok (.invokevirtual 68, 3) := by decide +kernel
theorem dL_law_599 : decode cL_law 599 = .ok (.if_icmp .eq 414, 3) := by decide +kernel
theorem dL_law_602 : decode cL_law 602 = .ok (.iconst 0, 1) := by decide +kernel
theorem dL_law_603 : decode cL_law 603 = .ok (.ireturn, 1) := by decide +kernel
theorem dL_law_604 : decode cL_law 604 = .ok (.aload_n 1, 1) := by decide +kernel
theorem dL_law_605 : decode cL_law 605 = .ok (.aload_n 0, 1) := by decide +kernel
theorem dL_law_606 : decode cL_law 606 = .ok (.iload_n 3, 1) := by decide +kernel
theorem dL_law_607 : decode cL_law 607 = .ok (.iconst 1, 1) := by decide +kernel
theorem dL_law_608 : decode cL_law 608 = .ok (.iadd, 1) := by decide +kernel
theorem dL_law_609 : decode cL_law 609 = .ok (.iaload, 1) := by decide +kernel
theorem dL_law_610 : decode cL_law 610 = .ok (.aload_n 0, 1) := by decide +kernel
theorem dL_law_611 : decode cL_law 611 = .ok (.iload_n 3, 1) := by decide +kernel
theorem dL_law_612 : decode cL_law 612 = .ok (.iconst 2, 1) := by decide +kernel
theorem dL_law_613 : decode cL_law 613 = .ok (.iadd, 1) := by decide +kernel
theorem dL_law_614 : decode cL_law 614 = .ok (.iaload, 1) := by decide +kernel
theorem dL_law_615 : decode cL_law 615 = .ok (.invokevirtual 69, 3) := by decide +kernel
theorem dL_law_618 : decode cL_law 618 = .ok (.aload_n 2, 1) := by decide +kernel
theorem dL_law_619 : decode cL_law 619 = .ok (.aload_n 0, 1) := by decide +kernel
theorem dL_law_620 : decode cL_law 620 = .ok (.iload_n 3, 1) := by decide +kernel
theorem dL_law_621 : decode cL_law 621 = .ok (.iconst 1, 1) := by decide +kernel
theorem dL_law_622 : decode cL_law 622 = .ok (.iadd, 1) := by decide +kernel
theorem dL_law_623 : decode cL_law 623 = .ok (.iaload, 1) := by decide +kernel
theorem dL_law_624 : decode cL_law 624 = .ok (.aload_n 0, 1) := by decide +kernel
theorem dL_law_625 : decode cL_law 625 = .ok (.iload_n 3, 1) := by decide +kernel
theorem dL_law_626 : decode cL_law 626 = .ok (.iconst 2, 1) := by decide +kernel
theorem dL_law_627 : decode cL_law 627 = .ok (.iadd, 1) := by decide +kernel
theorem dL_law_628 : decode cL_law 628 = .ok (.iaload, 1) := by decide +kernel
theorem dL_law_629 : decode cL_law 629 = .ok (.invokevirtual 72, 3) := by decide +kernel
theorem dL_law_632 : decode cL_law 632 = .ok (.if_icmp .eq 381, 3) := by decide +kernel
theorem dL_law_635 : decode cL_law 635 = .ok (.iconst 0, 1) := by decide +kernel
theorem dL_law_636 : decode cL_law 636 = .ok (.ireturn, 1) := by decide +kernel
theorem dL_law_637 : decode cL_law 637 = .ok (.aload_n 1, 1) := by decide +kernel
theorem dL_law_638 : decode cL_law 638 = .ok (.aload_n 0, 1) := by decide +kernel
theorem dL_law_639 : decode cL_law 639 = .ok (.iload_n 3, 1) := by decide +kernel
theorem dL_law_640 : decode cL_law 640 = .ok (.iconst 1, 1) := by decide +kernel
theorem dL_law_641 : decode cL_law 641 = .ok (.iadd, 1) := by decide +kernel
theorem dL_law_642 : decode cL_law 642 = .ok (.iaload, 1) := by decide +kernel
theorem dL_law_643 : decode cL_law 643 = .ok (.invokevirtual 73, 3) := by decide +kernel
theorem dL_law_646 : decode cL_law 646 = .ok (.aload_n 2, 1) := by decide +kernel
theorem dL_law_647 : decode cL_law 647 = .ok (.aload_n 0, 1) := by decide +kernel
theorem dL_law_648 : decode cL_law 648 = .ok (.iload_n 3, 1) := by decide +kernel
theorem dL_law_649 : decode cL_law 649 = .ok (.iconst 1, 1) := by decide +kernel
theorem dL_law_650 : decode cL_law 650 = .ok (.iadd, 1) := by decide +kernel
theorem dL_law_651 : decode cL_law 651 = .ok (.iaload, 1) := by decide +kernel
theorem dL_law_652 : decode cL_law 652 = .ok (.invokevirtual 76, 3) := by decide +kernel
theorem dL_law_655 : decode cL_law 655 = .ok (.if_icmp .eq 358, 3) := by decide +kernel
theorem dL_law_658 : decode cL_law 658 = .ok (.iconst 0, 1) := by decide +kernel
theorem dL_law_659 : decode cL_law 659 = .ok (.ireturn, 1) := by decide +kernel
theorem dL_law_660 : decode cL_law 660 = .ok (.aload_n 1, 1) := by decide +kernel
theorem dL_law_661 : decode cL_law 661 = .ok (.aload_n 0, 1) := by decide +kernel
theorem dL_law_662 : decode cL_law 662 = .ok (.iload_n 3, 1) := by decide +kernel
theorem dL_law_663 : decode cL_law 663 = .ok (.iconst 1, 1) := by decide +kernel
theorem dL_law_664 : decode cL_law 664 = .ok (.iadd, 1) := by decide +kernel
theorem dL_law_665 : decode cL_law 665 = .ok (.iaload, 1) := by decide +kernel
theorem dL_law_666 : decode cL_law 666 = .ok (.aload_n 0, 1) := by decide +kernel
theorem dL_law_667 : decode cL_law 667 = .ok (.iload_n 3, 1) := by decide +kernel
theorem dL_law_668 : decode cL_law 668 = .ok (.iconst 2, 1) := by decide +kernel
theorem dL_law_669 : decode cL_law 669 = .ok (.iadd, 1) := by decide +kernel
theorem dL_law_670 : decode cL_law 670 = .ok (.iaload, 1) := by decide +kernel
theorem dL_law_671 : decode cL_law 671 = .ok (.invokevirtual 77, 3) := by decide +kernel
theorem dL_law_674 : decode cL_law 674 = .ok (.aload_n 2, 1) := by decide +kernel
theorem dL_law_675 : decode cL_law 675 = .ok (.aload_n 0, 1) := by decide +kernel
theorem dL_law_676 : decode cL_law 676 = .ok (.iload_n 3, 1) := by decide +kernel
theorem dL_law_677 : decode cL_law 677 = .ok (.iconst 1, 1) := by decide +kernel
theorem dL_law_678 : decode cL_law 678 = .ok (.iadd, 1) := by decide +kernel
theorem dL_law_679 : decode cL_law 679 = .ok (.iaload, 1) := by decide +kernel
theorem dL_law_680 : decode cL_law 680 = .ok (.aload_n 0, 1) := by decide +kernel
theorem dL_law_681 : decode cL_law 681 = .ok (.iload_n 3, 1) := by decide +kernel
theorem dL_law_682 : decode cL_law 682 = .ok (.iconst 2, 1) := by decide +kernel
theorem dL_law_683 : decode cL_law 683 = .ok (.iadd, 1) := by decide +kernel
theorem dL_law_684 : decode cL_law 684 = .ok (.iaload, 1) := by decide +kernel
theorem dL_law_685 : decode cL_law 685 = .ok (.invokevirtual 80, 3) := by decide +kernel
theorem dL_law_688 : decode cL_law 688 = .ok (.if_icmp .eq 325, 3) := by decide +kernel
theorem dL_law_691 : decode cL_law 691 = .ok (.iconst 0, 1) := by decide +kernel
theorem dL_law_692 : decode cL_law 692 = .ok (.ireturn, 1) := by decide +kernel
theorem dL_law_693 : decode cL_law 693 = .ok (.aload_n 1, 1) := by decide +kernel
theorem dL_law_694 : decode cL_law 694 = .ok (.aload_n 0, 1) := by decide +kernel
theorem dL_law_695 : decode cL_law 695 = .ok (.iload_n 3, 1) := by decide +kernel
theorem dL_law_696 : decode cL_law 696 = .ok (.iconst 1, 1) := by decide +kernel
theorem dL_law_697 : decode cL_law 697 = .ok (.iadd, 1) := by decide +kernel
theorem dL_law_698 : decode cL_law 698 = .ok (.iaload, 1) := by decide +kernel
theorem dL_law_699 : decode cL_law 699 = .ok (.aload_n 0, 1) := by decide +kernel
theorem dL_law_700 : decode cL_law 700 = .ok (.iload_n 3, 1) := by decide +kernel
theorem dL_law_701 : decode cL_law 701 = .ok (.iconst 2, 1) := by decide +kernel
theorem dL_law_702 : decode cL_law 702 = .ok (.iadd, 1) := by decide +kernel
theorem dL_law_703 : decode cL_law 703 = .ok (.iaload, 1) := by decide +kernel
theorem dL_law_704 : decode cL_law 704 = .ok (.aload_n 0, 1) := by decide +kernel
theorem dL_law_705 : decode cL_law 705 = .ok (.iload_n 3, 1) := by decide +kernel
theorem dL_law_706 : decode cL_law 706 = .ok (.iconst 3, 1) := by decide +kernel
theorem dL_law_707 : decode cL_law 707 = .ok (.iadd, 1) := by decide +kernel
theorem dL_law_708 : decode cL_law 708 = .ok (.iaload, 1) := by decide +kernel
theorem dL_law_709 : decode cL_law 709 = .ok (.aload_n 0, 1) := by decide +kernel
theorem dL_law_710 : decode cL_law 710 = .ok (.iload_n 3, 1) := by decide +kernel
theorem dL_law_711 : decode cL_law 711 = .ok (.iconst 4, 1) := by decide +kernel
theorem dL_law_712 : decode cL_law 712 = .ok (.iadd, 1) := by decide +kernel
theorem dL_law_713 : decode cL_law 713 = .ok (.iaload, 1) := by decide +kernel
theorem dL_law_714 : decode cL_law 714 = .ok (.invokevirtual 81, 3) := by decide +kernel
theorem dL_law_717 : decode cL_law 717 = .ok (.aload_n 2, 1) := by decide +kernel
theorem dL_law_718 : decode cL_law 718 = .ok (.aload_n 0, 1) := by decide +kernel
theorem dL_law_719 : decode cL_law 719 = .ok (.iload_n 3, 1) := by decide +kernel
theorem dL_law_720 : decode cL_law 720 = .ok (.iconst 1, 1) := by decide +kernel
theorem dL_law_721 : decode cL_law 721 = .ok (.iadd, 1) := by decide +kernel
theorem dL_law_722 : decode cL_law 722 = .ok (.iaload, 1) := by decide +kernel
theorem dL_law_723 : decode cL_law 723 = .ok (.aload_n 0, 1) := by decide +kernel
theorem dL_law_724 : decode cL_law 724 = .ok (.iload_n 3, 1) := by decide +kernel
theorem dL_law_725 : decode cL_law 725 = .ok (.iconst 2, 1) := by decide +kernel
theorem dL_law_726 : decode cL_law 726 = .ok (.iadd, 1) := by decide +kernel
theorem dL_law_727 : decode cL_law 727 = .ok (.iaload, 1) := by decide +kernel
theorem dL_law_728 : decode cL_law 728 = .ok (.aload_n 0, 1) := by decide +kernel
theorem dL_law_729 : decode cL_law 729 = .ok (.iload_n 3, 1) := by decide +kernel
theorem dL_law_730 : decode cL_law 730 = .ok (.iconst 3, 1) := by decide +kernel
theorem dL_law_731 : decode cL_law 731 = .ok (.iadd, 1) := by decide +kernel
theorem dL_law_732 : decode cL_law 732 = .ok (.iaload, 1) := by decide +kernel
theorem dL_law_733 : decode cL_law 733 = .ok (.aload_n 0, 1) := by decide +kernel
theorem dL_law_734 : decode cL_law 734 = .ok (.iload_n 3, 1) := by decide +kernel
theorem dL_law_735 : decode cL_law 735 = .ok (.iconst 4, 1) := by decide +kernel
theorem dL_law_736 : decode cL_law 736 = .ok (.iadd, 1) := by decide +kernel
theorem dL_law_737 : decode cL_law 737 = .ok (.iaload, 1) := by decide +kernel
theorem dL_law_738 : decode cL_law 738 = .ok (.invokevirtual 84, 3) := by decide +kernel
theorem dL_law_741 : decode cL_law 741 = .ok (.if_icmp .eq 272, 3) := by decide +kernel
theorem dL_law_744 : decode cL_law 744 = .ok (.iconst 0, 1) := by decide +kernel
theorem dL_law_745 : decode cL_law 745 = .ok (.ireturn, 1) := by decide +kernel
theorem dL_law_746 : decode cL_law 746 = .ok (.aload_n 1, 1) := by decide +kernel
theorem dL_law_747 : decode cL_law 747 = .ok (.aload_n 0, 1) := by decide +kernel
theorem dL_law_748 : decode cL_law 748 = .ok (.iload_n 3, 1) := by decide +kernel
theorem dL_law_749 : decode cL_law 749 = .ok (.iconst 1, 1) := by decide +kernel
theorem dL_law_750 : decode cL_law 750 = .ok (.iadd, 1) := by decide +kernel
theorem dL_law_751 : decode cL_law 751 = .ok (.iaload, 1) := by decide +kernel
theorem dL_law_752 : decode cL_law 752 = .ok (.invokevirtual 85, 3) := by decide +kernel
theorem dL_law_755 : decode cL_law 755 = .ok (.aload_n 2, 1) := by decide +kernel
theorem dL_law_756 : decode cL_law 756 = .ok (.aload_n 0, 1) := by decide +kernel
theorem dL_law_757 : decode cL_law 757 = .ok (.iload_n 3, 1) := by decide +kernel
theorem dL_law_758 : decode cL_law 758 = .ok (.iconst 1, 1) := by decide +kernel
theorem dL_law_759 : decode cL_law 759 = .ok (.iadd, 1) := by decide +kernel
theorem dL_law_760 : decode cL_law 760 = .ok (.iaload, 1) := by decide +kernel
theorem dL_law_761 : decode cL_law 761 = .ok (.invokevirtual 88, 3) := by decide +kernel
theorem dL_law_764 : decode cL_law 764 = .ok (.if_icmp .eq 249, 3) := by decide +kernel
theorem dL_law_767 : decode cL_law 767 = .ok (.iconst 0, 1) := by decide +kernel
theorem dL_law_768 : decode cL_law 768 = .ok (.ireturn, 1) := by decide +kernel
theorem dL_law_769 : decode cL_law 769 = .ok (.aload_n 1, 1) := by decide +kernel
theorem dL_law_770 : decode cL_law 770 = .ok (.aload_n 0, 1) := by decide +kernel
theorem dL_law_771 : decode cL_law 771 = .ok (.iload_n 3, 1) := by decide +kernel
theorem dL_law_772 : decode cL_law 772 = .ok (.iconst 1, 1) := by decide +kernel
theorem dL_law_773 : decode cL_law 773 = .ok (.iadd, 1) := by decide +kernel
theorem dL_law_774 : decode cL_law 774 = .ok (.iaload, 1) := by decide +kernel
theorem dL_law_775 : decode cL_law 775 = .ok (.invokevirtual 89, 3) := by decide +kernel
theorem dL_law_778 : decode cL_law 778 = .ok (.aload_n 2, 1) := by decide +kernel
theorem dL_law_779 : decode cL_law 779 = .ok (.aload_n 0, 1) := by decide +kernel
theorem dL_law_780 : decode cL_law 780 = .ok (.iload_n 3, 1) := by decide +kernel
theorem dL_law_781 : decode cL_law 781 = .ok (.iconst 1, 1) := by decide +kernel
theorem dL_law_782 : decode cL_law 782 = .ok (.iadd, 1) := by decide +kernel
theorem dL_law_783 : decode cL_law 783 = .ok (.iaload, 1) := by decide +kernel
theorem dL_law_784 : decode cL_law 784 = .ok (.invokevirtual 92, 3) := by decide +kernel
theorem dL_law_787 : decode cL_law 787 = .ok (.if_icmp .eq 226, 3) := by decide +kernel
theorem dL_law_790 : decode cL_law 790 = .ok (.iconst 0, 1) := by decide +kernel
theorem dL_law_791 : decode cL_law 791 = .ok (.ireturn, 1) := by decide +kernel
theorem dL_law_792 : decode cL_law 792 = .ok (.aload_n 1, 1) := by decide +kernel
theorem dL_law_793 : decode cL_law 793 = .ok (.aload_n 0, 1) := by decide +kernel
theorem dL_law_794 : decode cL_law 794 = .ok (.iload_n 3, 1) := by decide +kernel
theorem dL_law_795 : decode cL_law 795 = .ok (.iconst 1, 1) := by decide +kernel
theorem dL_law_796 : decode cL_law 796 = .ok (.iadd, 1) := by decide +kernel
theorem dL_law_797 : decode cL_law 797 = .ok (.iaload, 1) := by decide +kernel
theorem dL_law_798 : decode cL_law 798 = .ok (.aload_n 0, 1) := by decide +kernel
theorem dL_law_799 : decode cL_law 799 = .ok (.iload_n 3, 1) := by decide +kernel
theorem dL_law_800 : decode cL_law 800 = .ok (.iconst 2, 1) := by decide +kernel
theorem dL_law_801 : decode cL_law 801 = .ok (.iadd, 1) := by decide +kernel
theorem dL_law_802 : decode cL_law 802 = .ok (.iaload, 1) := by decide +kernel
theorem dL_law_803 : decode cL_law 803 = .ok (.aload_n 0, 1) := by decide +kernel
theorem dL_law_804 : decode cL_law 804 = .ok (.iload_n 3, 1) := by decide +kernel
theorem dL_law_805 : decode cL_law 805 = .ok (.iconst 3, 1) := by decide +kernel
theorem dL_law_806 : decode cL_law 806 = .ok (.iadd, 1) := by decide +kernel
theorem dL_law_807 : decode cL_law 807 = .ok (.iaload, 1) := by decide +kernel
theorem dL_law_808 : decode cL_law 808 = .ok (.invokevirtual 93, 3) := by decide +kernel
theorem dL_law_811 : decode cL_law 811 = .ok (.aload_n 2, 1) := by decide +kernel
theorem dL_law_812 : decode cL_law 812 = .ok (.aload_n 0, 1) := by decide +kernel
theorem dL_law_813 : decode cL_law 813 = .ok (.iload_n 3, 1) := by decide +kernel
theorem dL_law_814 : decode cL_law 814 = .ok (.iconst 1, 1) := by decide +kernel
theorem dL_law_815 : decode cL_law 815 = .ok (.iadd, 1) := by decide +kernel
theorem dL_law_816 : decode cL_law 816 = .ok (.iaload, 1) := by decide +kernel
theorem dL_law_817 : decode cL_law 817 = .ok (.aload_n 0, 1) := by decide +kernel
theorem dL_law_818 : decode cL_law 818 = .ok (.iload_n 3, 1) := by decide +kernel
theorem dL_law_819 : decode cL_law 819 = .ok (.iconst 2, 1) := by decide +kernel
theorem dL_law_820 : decode cL_law 820 = .ok (.iadd, 1) := by decide +kernel
theorem dL_law_821 : decode cL_law 821 = .ok (.iaload, 1) := by decide +kernel
theorem dL_law_822 : decode cL_law 822 = .ok (.aload_n 0, 1) := by decide +kernel
theorem dL_law_823 : decode cL_law 823 = .ok (.iload_n 3, 1) := by decide +kernel
theorem dL_law_824 : decode cL_law 824 = .ok (.iconst 3, 1) := by decide +kernel
theorem dL_law_825 : decode cL_law 825 = .ok (.iadd, 1) := by decide +kernel
theorem dL_law_826 : decode cL_law 826 = .ok (.iaload, 1) := by decide +kernel
theorem dL_law_827 : decode cL_law 827 = .ok (.invokevirtual 96, 3) := by decide +kernel
theorem dL_law_830 : decode cL_law 830 = .ok (.if_icmp .eq 183, 3) := by decide +kernel
theorem dL_law_833 : decode cL_law 833 = .ok (.iconst 0, 1) := by decide +kernel
theorem dL_law_834 : decode cL_law 834 = .ok (.ireturn, 1) := by decide +kernel
theorem dL_law_835 : decode cL_law 835 = .ok (.aload_n 1, 1) := by decide +kernel
theorem dL_law_836 : decode cL_law 836 = .ok (.aload_n 0, 1) := by decide +kernel
theorem dL_law_837 : decode cL_law 837 = .ok (.iload_n 3, 1) := by decide +kernel
theorem dL_law_838 : decode cL_law 838 = .ok (.iconst 1, 1) := by decide +kernel
theorem dL_law_839 : decode cL_law 839 = .ok (.iadd, 1) := by decide +kernel
theorem dL_law_840 : decode cL_law 840 = .ok (.iaload, 1) := by decide +kernel
theorem dL_law_841 : decode cL_law 841 = .ok (.aload_n 0, 1) := by decide +kernel
theorem dL_law_842 : decode cL_law 842 = .ok (.iload_n 3, 1) := by decide +kernel
theorem dL_law_843 : decode cL_law 843 = .ok (.iconst 2, 1) := by decide +kernel
theorem dL_law_844 : decode cL_law 844 = .ok (.iadd, 1) := by decide +kernel
theorem dL_law_845 : decode cL_law 845 = .ok (.iaload, 1) := by decide +kernel
theorem dL_law_846 : decode cL_law 846 = .ok (.invokevirtual 97, 3) := by decide +kernel
theorem dL_law_849 : decode cL_law 849 = .ok (.aload_n 2, 1) := by decide +kernel
theorem dL_law_850 : decode cL_law 850 = .ok (.aload_n 0, 1) := by decide +kernel
theorem dL_law_851 : decode cL_law 851 = .ok (.iload_n 3, 1) := by decide +kernel
theorem dL_law_852 : decode cL_law 852 = .ok (.iconst 1, 1) := by decide +kernel
theorem dL_law_853 : decode cL_law 853 = .ok (.iadd, 1) := by decide +kernel
theorem dL_law_854 : decode cL_law 854 = .ok (.iaload, 1) := by decide +kernel
theorem dL_law_855 : decode cL_law 855 = .ok (.aload_n 0, 1) := by decide +kernel
theorem dL_law_856 : decode cL_law 856 = .ok (.iload_n 3, 1) := by decide +kernel
theorem dL_law_857 : decode cL_law 857 = .ok (.iconst 2, 1) := by decide +kernel
theorem dL_law_858 : decode cL_law 858 = .ok (.iadd, 1) := by decide +kernel
theorem dL_law_859 : decode cL_law 859 = .ok (.iaload, 1) := by decide +kernel
theorem dL_law_860 : decode cL_law 860 = .ok (.invokevirtual 100, 3) := by decide +kernel
theorem dL_law_863 : decode cL_law 863 = .ok (.if_icmp .eq 150, 3) := by decide +kernel
theorem dL_law_866 : decode cL_law 866 = .ok (.iconst 0, 1) := by decide +kernel
theorem dL_law_867 : decode cL_law 867 = .ok (.ireturn, 1) := by decide +kernel
theorem dL_law_868 : decode cL_law 868 = .ok (.aload_n 1, 1) := by decide +kernel
theorem dL_law_869 : decode cL_law 869 = .ok (.aload_n 0, 1) := by decide +kernel
theorem dL_law_870 : decode cL_law 870 = .ok (.iload_n 3, 1) := by decide +kernel
theorem dL_law_871 : decode cL_law 871 = .ok (.iconst 1, 1) := by decide +kernel
theorem dL_law_872 : decode cL_law 872 = .ok (.iadd, 1) := by decide +kernel
theorem dL_law_873 : decode cL_law 873 = .ok (.iaload, 1) := by decide +kernel
theorem dL_law_874 : decode cL_law 874 = .ok (.aload_n 0, 1) := by decide +kernel
theorem dL_law_875 : decode cL_law 875 = .ok (.iload_n 3, 1) := by decide +kernel
theorem dL_law_876 : decode cL_law 876 = .ok (.iconst 2, 1) := by decide +kernel
theorem dL_law_877 : decode cL_law 877 = .ok (.iadd, 1) := by decide +kernel
theorem dL_law_878 : decode cL_law 878 = .ok (.iaload, 1) := by decide +kernel
theorem dL_law_879 : decode cL_law 879 = .ok (.invokevirtual 101, 3) := by decide +kernel
theorem dL_law_882 : decode cL_law 882 = .ok (.aload_n 2, 1) := by decide +kernel
theorem dL_law_883 : decode cL_law 883 = .ok (.aload_n 0, 1) := by decide +kernel
theorem dL_law_884 : decode cL_law 884 = .ok (.iload_n 3, 1) := by decide +kernel
theorem dL_law_885 : decode cL_law 885 = .ok (.iconst 1, 1) := by decide +kernel
theorem dL_law_886 : decode cL_law 886 = .ok (.iadd, 1) := by decide +kernel
theorem dL_law_887 : decode cL_law 887 = .ok (.iaload, 1) := by decide +kernel
theorem dL_law_888 : decode cL_law 888 = .ok (.aload_n 0, 1) := by decide +kernel
theorem dL_law_889 : decode cL_law 889 = .ok (.iload_n 3, 1) := by decide +kernel
theorem dL_law_890 : decode cL_law 890 = .ok (.iconst 2, 1) := by decide +kernel
theorem dL_law_891 : decode cL_law 891 = .ok (.iadd, 1) := by decide +kernel
theorem dL_law_892 : decode cL_law 892 = .ok (.iaload, 1) := by decide +kernel
theorem dL_law_893 : decode cL_law 893 = .ok (.invokevirtual 104, 3) := by decide +kernel
theorem dL_law_896 : decode cL_law 896 = .ok (.if_icmp .eq 117, 3) := by decide +kernel
theorem dL_law_899 : decode cL_law 899 = .ok (.iconst 0, 1) := by decide +kernel
theorem dL_law_900 : decode cL_law 900 = .ok (.ireturn, 1) := by decide +kernel
theorem dL_law_901 : decode cL_law 901 = .ok (.aload_n 1, 1) := by decide +kernel
theorem dL_law_902 : decode cL_law 902 = .ok (.aload_n 0, 1) := by decide +kernel
theorem dL_law_903 : decode cL_law 903 = .ok (.iload_n 3, 1) := by decide +kernel
theorem dL_law_904 : decode cL_law 904 = .ok (.iconst 1, 1) := by decide +kernel
theorem dL_law_905 : decode cL_law 905 = .ok (.iadd, 1) := by decide +kernel
theorem dL_law_906 : decode cL_law 906 = .ok (.iaload, 1) := by decide +kernel
theorem dL_law_907 : decode cL_law 907 = .ok (.invokevirtual 105, 3) := by decide +kernel
theorem dL_law_910 : decode cL_law 910 = .ok (.aload_n 2, 1) := by decide +kernel
theorem dL_law_911 : decode cL_law 911 = .ok (.aload_n 0, 1) := by decide +kernel
theorem dL_law_912 : decode cL_law 912 = .ok (.iload_n 3, 1) := by decide +kernel
theorem dL_law_913 : decode cL_law 913 = .ok (.iconst 1, 1) := by decide +kernel
theorem dL_law_914 : decode cL_law 914 = .ok (.iadd, 1) := by decide +kernel
theorem dL_law_915 : decode cL_law 915 = .ok (.iaload, 1) := by decide +kernel
theorem dL_law_916 : decode cL_law 916 = .ok (.invokevirtual 108, 3) := by decide +kernel
theorem dL_law_919 : decode cL_law 919 = .ok (.if_icmp .eq 94, 3) := by decide +kernel
theorem dL_law_922 : decode cL_law 922 = .ok (.iconst 0, 1) := by decide +kernel
theorem dL_law_923 : decode cL_law 923 = .ok (.ireturn, 1) := by decide +kernel
theorem dL_law_924 : decode cL_law 924 = .ok (.aload_n 1, 1) := by decide +kernel
theorem dL_law_925 : decode cL_law 925 = .ok (.aload_n 0, 1) := by decide +kernel
theorem dL_law_926 : decode cL_law 926 = .ok (.iload_n 3, 1) := by decide +kernel
theorem dL_law_927 : decode cL_law 927 = .ok (.iconst 1, 1) := by decide +kernel
theorem dL_law_928 : decode cL_law 928 = .ok (.iadd, 1) := by decide +kernel
theorem dL_law_929 : decode cL_law 929 = .ok (.iaload, 1) := by decide +kernel
theorem dL_law_930 : decode cL_law 930 = .ok (.aload_n 0, 1) := by decide +kernel
theorem dL_law_931 : decode cL_law 931 = .ok (.iload_n 3, 1) := by decide +kernel
theorem dL_law_932 : decode cL_law 932 = .ok (.iconst 2, 1) := by decide +kernel
theorem dL_law_933 : decode cL_law 933 = .ok (.iadd, 1) := by decide +kernel
theorem dL_law_934 : decode cL_law 934 = .ok (.iaload, 1) := by decide +kernel
theorem dL_law_935 : decode cL_law 935 = .ok (.invokevirtual 109, 3) := by decide +kernel
theorem dL_law_938 : decode cL_law 938 = .ok (.aload_n 2, 1) := by decide +kernel
theorem dL_law_939 : decode cL_law 939 = .ok (.aload_n 0, 1) := by decide +kernel
theorem dL_law_940 : decode cL_law 940 = .ok (.iload_n 3, 1) := by decide +kernel
theorem dL_law_941 : decode cL_law 941 = .ok (.iconst 1, 1) := by decide +kernel
theorem dL_law_942 : decode cL_law 942 = .ok (.iadd, 1) := by decide +kernel
theorem dL_law_943 : decode cL_law 943 = .ok (.iaload, 1) := by decide +kernel
theorem dL_law_944 : decode cL_law 944 = .ok (.aload_n 0, 1) := by decide +kernel
theorem dL_law_945 : decode cL_law 945 = .ok (.iload_n 3, 1) := by decide +kernel
theorem dL_law_946 : decode cL_law 946 = .ok (.iconst 2, 1) := by decide +kernel
theorem dL_law_947 : decode cL_law 947 = .ok (.iadd, 1) := by decide +kernel
theorem dL_law_948 : decode cL_law 948 = .ok (.iaload, 1) := by decide +kernel
theorem dL_law_949 : decode cL_law 949 = .ok (.invokevirtual 112, 3) := by decide +kernel
theorem dL_law_952 : decode cL_law 952 = .ok (.if_icmp .eq 61, 3) := by decide +kernel
theorem dL_law_955 : decode cL_law 955 = .ok (.iconst 0, 1) := by decide +kernel
theorem dL_law_956 : decode cL_law 956 = .ok (.ireturn, 1) := by decide +kernel
theorem dL_law_957 : decode cL_law 957 = .ok (.aload_n 1, 1) := by decide +kernel
theorem dL_law_958 : decode cL_law 958 = .ok (.aload_n 0, 1) := by decide +kernel
theorem dL_law_959 : decode cL_law 959 = .ok (.iload_n 3, 1) := by decide +kernel
theorem dL_law_960 : decode cL_law 960 = .ok (.iconst 1, 1) := by decide +kernel
theorem dL_law_961 : decode cL_law 961 = .ok (.iadd, 1) := by decide +kernel
theorem dL_law_962 : decode cL_law 962 = .ok (.iaload, 1) := by decide +kernel
theorem dL_law_963 : decode cL_law 963 = .ok (.aload_n 0, 1) := by decide +kernel
theorem dL_law_964 : decode cL_law 964 = .ok (.iload_n 3, 1) := by decide +kernel
theorem dL_law_965 : decode cL_law 965 = .ok (.iconst 2, 1) := by decide +kernel
theorem dL_law_966 : decode cL_law 966 = .ok (.iadd, 1) := by decide +kernel
theorem dL_law_967 : decode cL_law 967 = .ok (.iaload, 1) := by decide +kernel
theorem dL_law_968 : decode cL_law 968 = .ok (.invokevirtual 113, 3) := by decide +kernel
theorem dL_law_971 : decode cL_law 971 = .ok (.aload_n 2, 1) := by decide +kernel
theorem dL_law_972 : decode cL_law 972 = .ok (.aload_n 0, 1) := by decide +kernel
theorem dL_law_973 : decode cL_law 973 = .ok (.iload_n 3, 1) := by decide +kernel
theorem dL_law_974 : decode cL_law 974 = .ok (.iconst 1, 1) := by decide +kernel
theorem dL_law_975 : decode cL_law 975 = .ok (.iadd, 1) := by decide +kernel
theorem dL_law_976 : decode cL_law 976 = .ok (.iaload, 1) := by decide +kernel
theorem dL_law_977 : decode cL_law 977 = .ok (.aload_n 0, 1) := by decide +kernel
theorem dL_law_978 : decode cL_law 978 = .ok (.iload_n 3, 1) := by decide +kernel
theorem dL_law_979 : decode cL_law 979 = .ok (.iconst 2, 1) := by decide +kernel
theorem dL_law_980 : decode cL_law 980 = .ok (.iadd, 1) := by decide +kernel
theorem dL_law_981 : decode cL_law 981 = .ok (.iaload, 1) := by decide +kernel
theorem dL_law_982 : decode cL_law 982 = .ok (.invokevirtual 116, 3) := by decide +kernel
theorem dL_law_985 : decode cL_law 985 = .ok (.if_icmp .eq 28, 3) := by decide +kernel
theorem dL_law_988 : decode cL_law 988 = .ok (.iconst 0, 1) := by decide +kernel
theorem dL_law_989 : decode cL_law 989 = .ok (.ireturn, 1) := by decide +kernel
theorem dL_law_990 : decode cL_law 990 = .ok (.aload_n 1, 1) := by decide +kernel
theorem dL_law_991 : decode cL_law 991 = .ok (.aload_n 0, 1) := by decide +kernel
theorem dL_law_992 : decode cL_law 992 = .ok (.iload_n 3, 1) := by decide +kernel
theorem dL_law_993 : decode cL_law 993 = .ok (.iconst 1, 1) := by decide +kernel
theorem dL_law_994 : decode cL_law 994 = .ok (.iadd, 1) := by decide +kernel
theorem dL_law_995 : decode cL_law 995 = .ok (.iaload, 1) := by decide +kernel
theorem dL_law_996 : decode cL_law 996 = .ok (.invokevirtual 117, 3) := by decide +kernel
theorem dL_law_999 : decode cL_law 999 = .ok (.aload_n 2, 1) := by decide +kernel
theorem dL_law_1000 : decode cL_law 1000 = .ok (.aload_n 0, 1) := by decide +kernel
theorem dL_law_1001 : decode cL_law 1001 = .ok (.iload_n 3, 1) := by decide +kernel
theorem dL_law_1002 : decode cL_law 1002 = .ok (.iconst 1, 1) := by decide +kernel
theorem dL_law_1003 : decode cL_law 1003 = .ok (.iadd, 1) := by decide +kernel
theorem dL_law_1004 : decode cL_law 1004 = .ok (.iaload, 1) := by decide +kernel
theorem dL_law_1005 : decode cL_law 1005 = .ok (.invokevirtual 120, 3) := by decide +kernel
theorem dL_law_1008 : decode cL_law 1008 = .ok (.if_icmp .eq 5, 3) := by decide +kernel
theorem dL_law_1011 : decode cL_law 1011 = .ok (.iconst 0, 1) := by decide +kernel
theorem dL_law_1012 : decode cL_law 1012 = .ok (.ireturn, 1) := by decide +kernel
theorem dL_law_1013 : decode cL_law 1013 = .ok (.iinc 3 5, 3) := by decide +kernel
theorem dL_law_1016 : decode cL_law 1016 = .ok (.goto (-998), 3) := by decide +kernel
theorem dL_law_1019 : decode cL_law 1019 = .ok (.iconst 1, 1) := by decide +kernel
theorem dL_law_1020 : decode cL_law 1020 = .ok (.ireturn, 1) := by decide +kernel
abbrev vwCl : List vw_C := [(RX0, TX0, 5), (RX1, TX1, 5), (RX2, TX2, 3), (RX3, TX3, 4), (RX4, TX4, 12), (RX5, TX5, 6), (RX6, TX6, 5), (RX7, TX7, 2), (RX8, TX8, 9), (RX9, TX9, 9), (RX10, TX10, 7), (RX11, TX11, 11), (RX12, TX12, 43)]
